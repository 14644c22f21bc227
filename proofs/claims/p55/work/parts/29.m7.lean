def zmu (wd : zWd) (fr : Nat) (st : zLn) : Nat := 2 * (wd.length - fr) + (if st.2 = [] then 0 else 1)
/-- the walk through a word stands at fr: what is still to come is T -/
def zgo (w : Int) (wd : zWd) (T : Option zLn) (fr : Nat) (st : zLn) : Prop := fr ≤ wd.length ∧ (fr < wd.length → ∃ n, zset w wd n fr st = T ∧ zmu wd fr st ≤ n + 1) ∧ (fr = wd.length → T = some st)
theorem zgo_step {w : Int} {wd : zWd} {T : Option zLn} {j fr : Nat} {st : zLn} (hw : wdOK wd) (h : zgo w wd T fr st) (hf : fr < wd.length) (hk : lnOK w wd j fr st) : (zstep w wd fr st = none ∧ T = none) ∨ ∃ f st', zstep w wd fr st = some (f, st') ∧ zgo w wd T f st' ∧ zmu wd f st' < zmu wd fr st := by
  obtain ⟨n, hn, hm⟩ := h.2.1 hf
  have hn0 : n ≠ 0 := by
    intro q; subst q
    unfold zmu at hm
    omega
  obtain ⟨n, rfl⟩ : ∃ k, n = k + 1 := ⟨n - 1, by omega⟩
  cases hs : zstep w wd fr st with
  | none => left; refine ⟨rfl, ?_⟩; rw [← hn]; unfold zset; rw [hs]
  | some q =>
    obtain ⟨f, st'⟩ := q
    right
    refine ⟨f, st', rfl, ?_, ?_⟩
    · rcases zstep_ok hw hf hk hs with ⟨h1, -⟩ | ⟨h1, h2, h3, h4⟩
      · refine ⟨by omega, fun q => absurd q (by omega), fun _ => ?_⟩
        rw [← hn]; unfold zset; rw [hs]; simp [h1]
      · refine ⟨by omega, fun _ => ⟨n, ?_, ?_⟩, fun q => absurd q (by omega)⟩
        · rw [← hn]; conv => rhs; unfold zset
          rw [hs]; simp [Nat.ne_of_lt h1]
        · unfold zmu at hm ⊢
          rw [if_pos h3]
          rcases h4 with q | ⟨q, z⟩
          · split at hm <;> omega
          · rw [if_neg z] at hm; omega
    · rcases zstep_ok hw hf hk hs with ⟨h1, -⟩ | ⟨h1, h2, h3, h4⟩
      · unfold zmu
        split <;> split <;> omega
      · unfold zmu
        rw [if_pos h3]
        rcases h4 with q | ⟨q, z⟩
        · split <;> omega
        · rw [if_neg z]; omega
theorem zgo_next {w : Int} {wd : zWd} {T : Option zLn} {j fr f : Nat} {st st' : zLn} (hw : wdOK wd) (h : zgo w wd T fr st) (hf : fr < wd.length) (hk : lnOK w wd j fr st) (hs : zstep w wd fr st = some (f, st')) : zgo w wd T f st' ∧ zmu wd f st' < zmu wd fr st ∧ (f < wd.length → lnOK w wd j f st') := by
  rcases zgo_step hw h hf hk with ⟨h1, -⟩ | ⟨f2, s2, h1, h2, h3⟩
  · rw [hs] at h1; cases h1
  · rw [hs] at h1
    cases h1
    refine ⟨h2, h3, fun hl => ?_⟩
    rcases zstep_ok hw hf hk hs with ⟨q, -⟩ | ⟨-, q, -⟩
    · omega
    · exact q
theorem zcut_s {wd : zWd} {fr : Nat} {room at_ : Int} (h : (fr : Int) + 1 ≤ at_) (ha : 0 < at_) : ((at_ - fr + 1 ≤ room ∧ cutOK wd at_) ∧ (zcut wd fr room at_.toNat : Int) = at_) ∨ (¬ (at_ - fr + 1 ≤ room ∧ cutOK wd at_) ∧ zcut wd fr room at_.toNat = zcut wd fr room (at_ - 1).toNat) := by
  obtain ⟨p, rfl⟩ : ∃ p : Nat, at_ = (p : Int) + 1 := ⟨(at_ - 1).toNat, by omega⟩
  have e1 : ((p : Int) + 1).toNat = p + 1 := by omega
  have e2 : ((p : Int) + 1 - 1).toNat = p := by omega
  have hc := cutB_iff (w := wd) (x := (p : Int) + 1) (by omega)
  rw [e1] at hc ⊢
  rw [e2]
  by_cases q : (p : Int) + 1 - fr + 1 ≤ room ∧ cutOK wd ((p : Int) + 1)
  · left
    refine ⟨q, ?_⟩
    unfold zcut
    rw [if_pos ⟨by omega, q.1, hc.mpr q.2⟩]
    push_cast; rfl
  · right
    refine ⟨q, ?_⟩
    conv => lhs; unfold zcut
    rw [if_neg]
    rintro ⟨z1, z2, z3⟩
    exact q ⟨z2, hc.mp z3⟩
theorem zcut_lt (wd : zWd) (fr : Nat) (room : Int) (p : Nat) (hl : 1 ≤ wd.length) : zcut wd fr room p < wd.length := by
  rcases (zcut_spec wd fr room p).1 with h | ⟨h1, h2, h3, h4⟩
  · omega
  · have := cutB_le h4; omega
theorem zcut_start (wd : zWd) (fr : Nat) (room : Int) : ∀ p, p ≤ fr → zcut wd fr room p = 0
  | 0, _ => rfl
  | p + 1, h => by
    unfold zcut
    rw [if_neg (by omega)]
    exact zcut_start wd fr room p (by omega)
theorem wd45 {wd : zWd} (h : wdOK wd) : ∀ x ∈ wd, x ≠ 45 := fun x hx => by have := h.2 x hx; omega
theorem put45 {cur wd : zWd} {n k : Nat} (hw : wdOK wd) (hc : ∀ x ∈ cur, x ≠ 45) : ∀ x ∈ lnPut cur ((wd.drop n).take k), x ≠ 45 := by
  intro x hx
  have hp : ∀ y ∈ (wd.drop n).take k, y ≠ 45 := fun y hy => wd45 hw y (List.mem_of_mem_drop (List.mem_of_mem_take hy))
  unfold lnPut at hx
  split at hx
  · exact hp x hx
  · rcases List.mem_append.mp hx with q | q
    · exact hc x q
    · rcases List.mem_cons.mp q with z | z
      · omega
      · exact hp x z
