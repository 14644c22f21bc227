/-! what always holds keeps holding -/
theorem isOK_nn {ni nn nn' da : Int} {s : zIs} (h : isOK ni nn da s) (hn : nn ≤ nn') : isOK ni nn' da s := ⟨⟨h.1.1, by have := h.1.2; omega⟩, h.2⟩
theorem isOK_da {ni nn da da' : Int} {s : zIs} (h : isOK ni nn da s) (hn : da ≤ da') : isOK ni nn da' s := by
  obtain ⟨h1, h2, h3, h4, h5, h6, h7, h8, h9⟩ := h
  exact ⟨h1, h2, h3, h4, h5, h6, h7, h8, by omega⟩
theorem isOK_ni {ni ni' nn da : Int} {s : zIs} (h : isOK ni nn da s) (hn : ni ≤ ni') : isOK ni' nn da s := by
  obtain ⟨h1, h2, h3, h4, h5, h6, h7, h8, h9⟩ := h
  exact ⟨h1, h2, h3, h4, h5, fun q hq => ⟨⟨(h6 q hq).1.1, by have := (h6 q hq).1.2; omega⟩, (h6 q hq).2⟩, h7, h8, h9⟩
/-- everything taken stands for an article considered before -/
theorem zfill_src {c : zCo} : ∀ (k : Nat), ∀ q ∈ (zfill c k).1, (∃ (j : Nat) (a : zAr), j < k ∧ zrk (cAr c) j = some a ∧ q.1 = a.1) ∧ 0 ≤ q.2 ∧ q.2 < (zfill c k).2
  | 0, q, hq => by simp [zfill] at hq
  | k + 1, q, hq => by
    have ih := zfill_src (c := c) k
    have hnn : ∀ k, 0 ≤ (zfill c k).2 := fun k => by
      induction k with
      | zero => exact Int.le_refl 0
      | succ k ih =>
        show 0 ≤ (zplc c (zfill c k) _).2
        unfold zplc
        split
        · exact ih
        · split
          · exact ih
          · split
            · show 0 ≤ (zfill c k).2 + _
              omega
            · exact ih
    have hk : (zfill c (k + 1)) = zplc c (zfill c k) (zrk (cAr c) k) := rfl
    rw [hk] at hq ⊢
    unfold zplc at hq ⊢
    cases hz : zrk (cAr c) k with
    | none =>
      rw [hz] at hq
      obtain ⟨⟨j, a, h1, h2, h3⟩, h4, h5⟩ := ih q hq
      exact ⟨⟨j, a, by omega, h2, h3⟩, h4, h5⟩
    | some a =>
      rw [hz] at hq
      simp only [] at hq ⊢
      cases hl : zlines (cWi c) a.2.2 with
      | none =>
        rw [hl] at hq
        obtain ⟨⟨j, b, h1, h2, h3⟩, h4, h5⟩ := ih q hq
        exact ⟨⟨j, b, by omega, h2, h3⟩, h4, h5⟩
      | some ls =>
        rw [hl] at hq
        simp only [] at hq ⊢
        have hlp : 1 ≤ ls.length := by
          unfold zlines at hl
          cases hw : zwords (cWi c) a.2.2 ([], []) with
          | none => rw [hw] at hl; cases hl
          | some st => rw [hw] at hl; cases hl; simp
        split
        · rename_i hfit
          rw [if_pos hfit] at hq
          rcases List.mem_append.mp hq with e | e
          · obtain ⟨⟨j, b, h1, h2, h3⟩, h4, h5⟩ := ih q e
            refine ⟨⟨j, b, by omega, h2, h3⟩, h4, ?_⟩
            show q.2 < (zfill c k).2 + _
            omega
          · rw [List.mem_singleton.mp e]
            refine ⟨⟨k, a, by omega, hz, rfl⟩, hnn k, ?_⟩
            show (zfill c k).2 < (zfill c k).2 + _
            omega
        · rename_i hfit
          rw [if_neg hfit] at hq
          obtain ⟨⟨j, b, h1, h2, h3⟩, h4, h5⟩ := ih q hq
          exact ⟨⟨j, b, by omega, h2, h3⟩, h4, h5⟩
theorem zrk_val {l : List zAr} {k : Int} {a : zAr} (h : zrk l k = some a) : (zah l a : Int) = k ∧ a ∈ l := by
  unfold zrk at h
  have h1 := List.find?_some h
  exact ⟨of_decide_eq_true h1, List.mem_of_find?_eq_some h⟩
theorem zfill_pw {N : Nat} {c : zCo} (hK : cOK N c) : ∀ k, (zfill c k).1.Pairwise (fun p q => p.1 ≠ q.1)
  | 0 => by simp [zfill]
  | k + 1 => by
    have ih := zfill_pw hK k
    have hk : (zfill c (k + 1)) = zplc c (zfill c k) (zrk (cAr c) k) := rfl
    rw [hk]
    unfold zplc
    split
    · exact ih
    · rename_i a hz
      split
      · exact ih
      · split
        · rw [List.pairwise_append]
          refine ⟨ih, by simp, fun p hp q hq => ?_⟩
          rw [List.mem_singleton.mp hq]
          obtain ⟨⟨j, b, h1, h2, h3⟩, -⟩ := zfill_src k p hp
          intro e
          obtain ⟨v1, m1⟩ := zrk_val h2
          obtain ⟨v2, m2⟩ := zrk_val hz
          obtain ⟨i1, g1⟩ := List.getElem?_of_mem m1
          obtain ⟨i2, g2⟩ := List.getElem?_of_mem m2
          have e2 : b.1 = a.1 := by rw [← h3]; exact e
          have hi : i1 = i2 := by
            rcases Nat.lt_trichotomy i1 i2 with z | z | z
            · have := (ids_lt hK.2.2.2.1 g1 g2).mp z; omega
            · exact z
            · have := (ids_lt hK.2.2.2.1 g2 g1).mp z; omega
          subst hi
          rw [g1] at g2
          have e3 := Option.some.inj g2
          rw [e3] at v1
          omega
        · exact ih
theorem zissue_ok {N : Nat} {c : zCo} (hK : cOK N c) : isOK (cNi c) (cNn c + 1) (cDa c) (zissue c) := by
  have h6 := hK.1
  have hf := zfill_ok hK (cAr c).length
  have hn := hK.2.2.2.2.2.2.2.1
  have hd := hK.2.2.2.2.2.2.2.2.2.2.2.1
  refine ⟨⟨hn.1, by show cNn c < cNn c + 1; omega⟩, hK.2.2.2.2.2.2.2.2.2.1, hK.2.2.2.2.2.2.2.2.2.2.1, ⟨hf.2.1, hf.2.2⟩, Nat.le_trans hf.1 h6, fun q hq => ?_, zfill_pw hK _, hd.1, Int.le_refl _⟩
  obtain ⟨⟨j, a, h1, h2, h3⟩, h4, h5⟩ := zfill_src _ q hq
  have ha := (hK.2.2.1 a (zrk_val h2).2).1
  exact ⟨by rw [h3]; exact ha, h4, h5⟩
theorem cOK_prt {N : Nat} {c : zCo} (hK : cOK N c) (M : Nat) (hM : N ≤ M) (hn : cNn c + 1 ≤ 10 * M) : cOK M (cPrt c) := by
  have h1 := cOK_drp hK
  have hli := dropI_len hK.2.1
  obtain ⟨a1, a2, a3, a4, a5, a6, a7, a8, a9, a10, a11, a12, a13⟩ := h1
  refine ⟨a1, ?_, a3, a4, fun s hs => ?_, ?_, ⟨a7.1, Int.le_trans a7.2 (by omega)⟩, ⟨?_, hn⟩, a9, a10, a11, ⟨a12.1, Int.le_trans a12.2 (by omega)⟩, a13.1, Int.le_trans a13.2 (by omega)⟩
  · show (dropI (cIs c) ++ [zissue c]).length ≤ 4
    rw [List.length_append, List.length_singleton]; omega
  · rcases List.mem_append.mp (show s ∈ dropI (cIs c) ++ [zissue c] from hs) with e | e
    · exact isOK_nn (a5 s e) (by show cNn c ≤ cNn c + 1; omega)
    · rw [List.mem_singleton.mp e]; exact zissue_ok hK
  · show (dropI (cIs c) ++ [zissue c]).Pairwise _
    rw [List.pairwise_append]
    refine ⟨a6, by simp, fun p hp q hq => ?_⟩
    rw [List.mem_singleton.mp hq]
    exact (a5 p hp).1.2
  · show 0 ≤ cNn c + 1
    have := hK.2.2.2.2.2.2.2.1.1
    omega
theorem cOK_rem {N : Nat} {c : zCo} (hK : cOK N c) (i : Nat) : cOK N (cRem c i) := by
  obtain ⟨a1, a2, a3, a4, a5⟩ := hK
  refine ⟨Nat.le_trans (List.length_eraseIdx_le _ _) a1, a2, fun a ha => a3 a (List.mem_of_mem_eraseIdx ha), ?_, a5⟩
  exact a4.sublist (List.eraseIdx_sublist _ _)
theorem cOK_day {N : Nat} {c : zCo} (hK : cOK N c) {d : Int} (h0 : 1 ≤ d) (M : Nat) (hM : N ≤ M) (hd : cDa c + d ≤ 300 * M) : cOK M (cDay c d) := by
  obtain ⟨a1, a2, a3, a4, a5, a6, a7, a8, a9, a10, a11, a12, a13⟩ := hK
  exact ⟨a1, a2, a3, a4, fun s hs => isOK_da (a5 s hs) (by show cDa c ≤ cDa c + d; omega), a6, ⟨a7.1, by show cNi c ≤ _; omega⟩, ⟨a8.1, by show cNn c ≤ _; omega⟩, a9, a10, a11, ⟨by show 0 ≤ cDa c + d; omega, hd⟩, a13.1, by show cLa c ≤ _; omega⟩
theorem cOK_wid {N : Nat} {c : zCo} (hK : cOK N c) {x : Int} (h : 4 ≤ x ∧ x ≤ 20) : cOK N (cWid c x) := by
  obtain ⟨a1, a2, a3, a4, a5, a6, a7, a8, a9, a10, a11, a12, a13⟩ := hK
  exact ⟨a1, a2, a3, a4, a5, a6, a7, a8, h, a10, a11, a12, a13⟩
theorem cOK_pag {N : Nat} {c : zCo} (hK : cOK N c) {x y : Int} (h : (1 ≤ x ∧ x ≤ 4) ∧ 1 ≤ y ∧ y ≤ 20) : cOK N (cPag c x y) := by
  obtain ⟨a1, a2, a3, a4, a5, a6, a7, a8, a9, a10, a11, a12, a13⟩ := hK
  exact ⟨a1, a2, a3, a4, a5, a6, a7, a8, a9, h.1, h.2, a12, a13⟩
/-- one command of a call -/
theorem cOKj_s {N j : Nat} {c : zCo} {q : zCm} (hK : cOKj N j c) (hj : j ≤ 9) (h : (zdo c q).1 = 0) : cOKj N (j + 1) (zdo c q).2.1 := by
  obtain ⟨h1, h2, h3, h4⟩ := hK
  unfold zdo at h ⊢
  split
  · rename_i e
    rw [if_pos e] at h
    unfold sPrt at h ⊢
    split
    · rename_i z
      rw [if_pos z] at h
      cases h
    · exact ⟨cOK_prt h1 (N + 1) (Nat.le_refl _) (by omega), h2, by show cNn c + 1 ≤ _; omega, by show cDa c ≤ _; omega⟩
  · rename_i e
    rw [if_neg e] at h
    split
    · rename_i e
      rw [if_pos e] at h
      unfold sPag at h ⊢
      split
      · exact ⟨cOK_pag h1 (by assumption), h2, by show cNn c ≤ _; omega, by show cDa c ≤ _; omega⟩
      · rename_i z
        rw [if_neg z] at h
        cases h
    · rename_i e
      rw [if_neg e] at h
      split
      · rename_i e
        rw [if_pos e] at h
        unfold sRem at h ⊢
        split
        · rename_i z
          rw [z] at h
          cases h
        · exact ⟨cOK_rem h1 _, h2, by show cNn c ≤ _; omega, by show cDa c ≤ _; omega⟩
      · rename_i e
        rw [if_neg e] at h
        split
        · rename_i e
          rw [if_pos e] at h
          unfold sDay at h ⊢
          split
          · rename_i z
            exact ⟨cOK_day h1 z.1 (N + 1) (Nat.le_refl _) (by omega), h2, by show cNn c ≤ _; omega, by show cDa c + _ ≤ _; omega⟩
          · rename_i z
            rw [if_neg z] at h
            cases h
        · rename_i e
          rw [if_neg e] at h
          unfold sWid at h ⊢
          split
          · exact ⟨cOK_wid h1 (by assumption), h2, by show cNn c ≤ _; omega, by show cDa c ≤ _; omega⟩
          · rename_i z
            rw [if_neg z] at h
            cases h
theorem zrun_pre : ∀ (l : List zCm) (c c2 : zCo) (k : Nat) (l2 : List zCm), zrun l c k = .inr c2 → zrun (l ++ l2) c k = zrun l2 c2 (k + l.length)
  | [], c, c2, k, l2, h => by
    have : c = c2 := by simpa [zrun] using h
    subst this
    rfl
  | p :: l, c, c2, k, l2, h => by
    have h : (if (zdo c p).1 = 0 then zrun l (zdo c p).2.1 (k + 1) else .inl k) = .inr c2 := h
    show (if (zdo c p).1 = 0 then zrun (l ++ l2) (zdo c p).2.1 (k + 1) else .inl k) = _
    by_cases q : (zdo c p).1 = 0
    · rw [if_pos q] at h ⊢
      rw [zrun_pre l _ c2 (k + 1) l2 h, List.length_cons]
      congr 1
      omega
    · rw [if_neg q] at h
      cases h
theorem zrun_d {l : List zCm} {c : zCo} {k : Nat} {q : zCm} (h : l[k]? = some q) : zrun (l.drop k) c k = if (zdo c q).1 = 0 then zrun (l.drop (k + 1)) (zdo c q).2.1 (k + 1) else .inl k := by
  obtain ⟨h1, h2⟩ := List.getElem?_eq_some_iff.mp h
  rw [List.drop_eq_getElem_cons h1, h2]
  rfl
theorem zrun_e {l : List zCm} {c : zCo} {k : Nat} (h : l.length ≤ k) : zrun (l.drop k) c k = .inr c := by
  rw [List.drop_of_length_le h]
  rfl
/-- a command's row of numbers -/
def zcrow (f : Int → Int) (k : Int) (q : zCm) : Prop := f (3 * k) = q.1 ∧ (q.1 ≠ 114 → f (3 * k + 1) = q.2.1) ∧ (q.1 = 112 → f (3 * k + 2) = q.2.2)
def zcrows (f : Int → Int) (l : List zCm) : Prop := ∀ (k : Nat) (q : zCm), l[k]? = some q → zcrow f k q
theorem zcrows_s {f f' : Int → Int} {l : List zCm} {q : zCm} {n : Int} (h : zcrows f l) (hn : n = l.length) (hf : ∀ k : Int, 0 ≤ k → k < 3 * n → f' k = f k) (hq : zcrow f' n q) : zcrows f' (l ++ [q]) := by
  intro k y hy
  have hl := (List.getElem?_eq_some_iff.mp hy).1
  rw [List.length_append, List.length_singleton] at hl
  by_cases z : k < l.length
  · rw [List.getElem?_append_left z] at hy
    obtain ⟨h1, h2, h3⟩ := h k y hy
    exact ⟨by rw [hf _ (by omega) (by omega)]; exact h1, fun e => by rw [hf _ (by omega) (by omega)]; exact h2 e, fun e => by rw [hf _ (by omega) (by omega)]; exact h3 e⟩
  · have e : k = l.length := by omega
    subst e
    rw [List.getElem?_append_right (Nat.le_refl _)] at hy
    simp at hy
    subst hy
    rw [← hn]
    exact hq
