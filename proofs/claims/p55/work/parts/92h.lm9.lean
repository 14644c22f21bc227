/-- a line: letters and spaces, or these and a hyphen behind them -/
def lnB (x : List Int) : Prop := ∀ c ∈ x, c = 32 ∨ (97 ≤ c ∧ c ≤ 122)
def lnG (x : List Int) : Prop := lnB x ∨ ∃ y, lnB y ∧ x = y ++ [45]
theorem lnB_put {L part : List Int} (h : lnB L) (hp : lnB part) : lnB (lnPut L part) := by
  unfold lnPut
  split
  · exact hp
  · intro c hc
    rcases List.mem_append.mp hc with z | z
    · exact h c z
    · rcases List.mem_cons.mp z with y | y
      · exact Or.inl y
      · exact hp c y
theorem lnB_wd {w : zWd} (h : wdOK w) : lnB w := fun c hc => Or.inr (h.2 c hc)
theorem zstep_ch {w : Int} {wd : zWd} {fr f : Nat} {st st' : zLn} (hw : wdOK wd) (h1 : ∀ x ∈ st.1, lnG x) (h2 : lnB st.2) (h : zstep w wd fr st = some (f, st')) : (∀ x ∈ st'.1, lnG x) ∧ lnB st'.2 := by
  have hd : ∀ k : Nat, lnB (wd.drop k) := fun k c hc => lnB_wd hw c (List.mem_of_mem_drop hc)
  unfold zstep at h
  split at h
  · cases h
    exact ⟨h1, lnB_put h2 (hd fr)⟩
  · split at h
    · cases h
      refine ⟨fun x hx => ?_, fun c hc => absurd hc List.not_mem_nil⟩
      rcases List.mem_append.mp hx with z | z
      · exact h1 x z
      · rw [List.mem_singleton.mp z]
        exact Or.inr ⟨_, lnB_put h2 (fun c hc => hd fr c (List.mem_of_mem_take hc)), rfl⟩
    · split at h
      · cases h
      · cases h
        refine ⟨fun x hx => ?_, fun c hc => absurd hc List.not_mem_nil⟩
        rcases List.mem_append.mp hx with z | z
        · exact h1 x z
        · rw [List.mem_singleton.mp z]; exact Or.inl h2
theorem zset_ch {w : Int} {wd : zWd} (hw : wdOK wd) : ∀ (n fr : Nat) (st st' : zLn), (∀ x ∈ st.1, lnG x) → lnB st.2 → zset w wd n fr st = some st' → (∀ x ∈ st'.1, lnG x) ∧ lnB st'.2
  | 0, _, _, _, _, _, h => by unfold zset at h; cases h
  | n + 1, fr, st, st', h1, h2, h => by
    unfold zset at h
    cases hs : zstep w wd fr st with
    | none => rw [hs] at h; cases h
    | some q =>
      obtain ⟨f, s2⟩ := q
      rw [hs] at h
      obtain ⟨a1, a2⟩ := zstep_ch hw h1 h2 hs
      dsimp only at h
      split at h
      · cases h; exact ⟨a1, a2⟩
      · exact zset_ch hw n f s2 st' a1 a2 h
theorem zw_all {w : Int} : ∀ (ws : List zWd) (j : Nat) (st st' : zLn), (∀ x ∈ ws, wdOK x) → lnOK w [] j 0 st → st.1.length ≤ 6 * j → (∀ x ∈ st.1, lnG x) → lnB st.2 → zwords w ws st = some st' → st'.1.length ≤ 6 * (j + ws.length) ∧ (∀ x ∈ st'.1, (x.length : Int) ≤ w) ∧ (st'.2.length : Int) ≤ w ∧ (∀ x ∈ st'.1, lnG x) ∧ lnB st'.2
  | [], j, st, st', _, hk, h6, h1, h2, h => by
    unfold zwords at h
    cases h
    exact ⟨h6, hk.2.2.2.1, hk.2.2.2.2, h1, h2⟩
  | wd :: ws, j, st, st', hw, hk, h6, h1, h2, h => by
    unfold zwords at h
    have hwd := hw wd List.mem_cons_self
    cases hs : zset w wd 24 0 st with
    | none => rw [hs] at h; cases h
    | some s2 =>
      rw [hs] at h
      obtain ⟨a1, a2, a3⟩ := zset_ok (j := j) hwd 24 0 st s2 (by have := hwd.1; omega) (lnOK0 hk) hs
      obtain ⟨b1, b2⟩ := zset_ch hwd 24 0 st s2 h1 h2 hs
      have := zw_all ws (j + 1) s2 st' (fun x hx => hw x (List.mem_cons_of_mem _ hx)) ⟨by omega, fun _ => ⟨rfl, a1⟩, Or.inl rfl, a2, a3⟩ a1 b1 b2 h
      rw [List.length_cons, show j + (ws.length + 1) = j + 1 + ws.length by omega]
      exact this
theorem lnB_n {x : List Int} {c : Int} (h : lnB x) (hc : c = 45 ∨ c = 59) : x.countP (fun y => decide (y = c)) = 0 := by
  rw [List.countP_eq_zero]
  intro y hy
  have := h y hy
  simp
  omega
theorem lnG_59 {x : List Int} (h : lnG x) : x.countP (fun y => decide (y = 59)) = 0 := by
  rcases h with h | ⟨y, h, rfl⟩
  · exact lnB_n h (Or.inr rfl)
  · rw [List.countP_append, lnB_n h (Or.inr rfl)]; rfl
theorem lnG_45 {x : List Int} (h : lnG x) : x.countP (fun y => decide (y = 45)) = if (x.getLast? == some 45) = true then 1 else 0 := by
  rcases h with h | ⟨y, h, rfl⟩
  · rw [lnB_n h (Or.inl rfl), if_neg]
    intro q
    have q2 : x.getLast? = some 45 := by simpa using q
    have := h 45 (List.mem_of_getLast? q2)
    omega
  · rw [List.countP_append, lnB_n h (Or.inl rfl), if_pos (by simp)]; rfl
theorem zmany_code59 : ∀ L : List zWd, (∀ x ∈ L, lnG x) → zmany (zcode L) 59 = L.length
  | [], _ => rfl
  | x :: xs, h => by
    have ih := zmany_code59 xs (fun y hy => h y (List.mem_cons_of_mem _ hy))
    unfold zmany at ih ⊢
    show (((x ++ 59 :: zcode xs).countP _ : Nat) : Int) = _
    rw [List.countP_append, lnG_59 (h x List.mem_cons_self), List.countP_cons, List.length_cons]
    simp
    omega
theorem zmany_code45 : ∀ L : List zWd, (∀ x ∈ L, lnG x) → zmany (zcode L) 45 = sHy L
  | [], _ => rfl
  | x :: xs, h => by
    have ih := zmany_code45 xs (fun y hy => h y (List.mem_cons_of_mem _ hy))
    unfold zmany sHy at ih ⊢
    show (((x ++ 59 :: zcode xs).countP _ : Nat) : Int) = _
    rw [List.countP_append, lnG_45 (h x List.mem_cons_self), List.countP_cons, List.countP_cons]
    simp only [show (decide ((59 : Int) = 45)) = false from rfl]
    split <;> simp_all <;> omega
theorem zixo_pre : ∀ (x r : List Int) (i : Int), (∀ c ∈ x, c ≠ 59) → zixo 59 (x ++ 59 :: r) i = i + x.length
  | [], r, i, _ => by show zixo 59 (59 :: r) i = _; unfold zixo; rw [if_pos rfl]; simp
  | c :: x, r, i, h => by
    show zixo 59 (c :: (x ++ 59 :: r)) i = _
    unfold zixo
    rw [if_neg (h c List.mem_cons_self), zixo_pre x r (i + 1) (fun y hy => h y (List.mem_cons_of_mem _ hy)), List.length_cons]
    omega
theorem lnG_ne {x : List Int} (h : lnG x) : ∀ c ∈ x, c ≠ 59 := fun c hc q => by
  have h0 := lnG_59 h
  rw [List.countP_eq_zero] at h0
  have := h0 c hc
  simp at this
  exact this q
theorem zcode_le {m : Nat} : ∀ L : List zWd, (∀ x ∈ L, (x.length : Int) ≤ m) → (zcode L).length ≤ (m + 1) * L.length
  | [], _ => Nat.le_refl 0
  | x :: xs, h => by
    have ih := zcode_le xs (fun y hy => h y (List.mem_cons_of_mem _ hy))
    have h1 := h x List.mem_cons_self
    show (x ++ 59 :: zcode xs).length ≤ _
    rw [List.length_append, List.length_cons, List.length_cons, Nat.mul_add]
    omega
theorem zcode_d {L : List zWd} {i : Int} (h0 : 0 ≤ i) (h1 : i < L.length) : zcode (L.drop i.toNat) = L.getD i.toNat [] ++ 59 :: zcode (L.drop (i + 1).toNat) := by
  have hl : i.toNat < L.length := by omega
  rw [List.drop_eq_getElem_cons hl, show (i + 1).toNat = i.toNat + 1 by omega, List.getD_eq_getElem?_getD, List.getElem?_eq_getElem hl]
  rfl
/-- what the lines of an article are -/
theorem ls_all {w : Int} {ws : List zWd} (hw : ∀ x ∈ ws, wdOK x) (hw0 : 4 ≤ w ∧ w ≤ 20) (hn : ws.length ≤ 9) : ∃ L : List zWd, zLt w ws = zcode L ∧ L.length ≤ 55 ∧ (∀ x ∈ L, (x.length : Int) ≤ w) ∧ (∀ x ∈ L, lnG x) ∧ ((zlines w ws = none ∧ L = []) ∨ (zlines w ws = some L ∧ 1 ≤ L.length)) ∧ (zcode L).length ≤ 1155 := by
  cases hz : zlines w ws with
  | none => exact ⟨[], by unfold zLt; rw [hz]; rfl, by decide, fun x hx => absurd hx List.not_mem_nil, fun x hx => absurd hx List.not_mem_nil, Or.inl ⟨rfl, rfl⟩, by decide⟩
  | some L =>
    unfold zlines at hz
    cases hz2 : zwords w ws ([], []) with
    | none => rw [hz2] at hz; cases hz
    | some st =>
      rw [hz2] at hz
      have hL : st.1 ++ [st.2] = L := Option.some.inj hz
      subst hL
      obtain ⟨a1, a2, a3, a4, a5⟩ := zw_all ws 0 ([], []) st hw (ls_0 (ws := ws) (by omega)).2.1 (Nat.le_refl 0) (fun x hx => absurd hx List.not_mem_nil) (fun x hx => absurd hx List.not_mem_nil) hz2
      have b1 : (st.1 ++ [st.2]).length = st.1.length + 1 := by simp
      have b2 : ∀ x ∈ st.1 ++ [st.2], (x.length : Int) ≤ w := fun x hx => by
        rcases List.mem_append.mp hx with z | z
        · exact a2 x z
        · rw [List.mem_singleton.mp z]; exact a3
      refine ⟨st.1 ++ [st.2], ?_, by omega, b2, fun x hx => ?_, Or.inr ⟨rfl, by omega⟩, ?_⟩
      · unfold zLt zlines; rw [hz2]; rfl
      · rcases List.mem_append.mp hx with z | z
        · exact a4 x z
        · rw [List.mem_singleton.mp z]; exact Or.inl a5
      · have := zcode_le (m := 20) (st.1 ++ [st.2]) (fun x hx => by have := b2 x hx; omega)
        omega
theorem zLt_0 {w : Int} {ws : List zWd} : (zLt w ws).length = 0 ↔ zlines w ws = none := by
  unfold zLt
  cases hz : zlines w ws with
  | none => simp
  | some L =>
    unfold zlines at hz
    cases hz2 : zwords w ws ([], []) with
    | none => rw [hz2] at hz; cases hz
    | some st =>
      rw [hz2] at hz
      have hL : st.1 ++ [st.2] = L := Option.some.inj hz
      subst hL
      simp [zcode_len]
/-- what is answered of an article that isn't there -/
theorem no_l {c : zCo} {x : Int} (h : zfa (cAr c) x = none) : sCbs c x = (1, 0) ∧ zal c x = (1, []) ∧ sSm c x = (1, 0) ∧ sLb c x = (1, 0) := by
  refine ⟨?_, ?_, ?_, ?_⟩
  · unfold sCbs; rw [h]
  · unfold zal; rw [h]
  · unfold sSm; rw [h]
  · unfold sLb; rw [h]
