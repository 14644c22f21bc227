/-- the model's rows hold all lines -/
def mLs (g : Nat → Int → Int) (ls : List zWd) : Prop := ∀ (k : Nat) (l : zWd), ls[k]? = some l → lnAt (g 9) (20 * k) l ∧ g 10 k = l.length ∧ g 11 k = hyI l
theorem mLn_all {v : Nat → Int} {g : Nat → Int → Int} {st : zLn} (h : mLn v g st) : mLs g (st.1 ++ [st.2]) := by
  obtain ⟨a1, a2, a3, a4, a5, a6⟩ := h
  intro i x hx
  by_cases q : i < st.1.length
  · rw [List.getElem?_append_left q] at hx
    exact a2 i x hx
  · have hl := (List.getElem?_eq_some_iff.mp hx).1
    rw [List.length_append, List.length_singleton] at hl
    have e : i = st.1.length := by omega
    subst e
    rw [List.getElem?_append_right (by omega)] at hx
    simp at hx
    subst hx
    rw [← a1]
    refine ⟨a3, a4, ?_⟩
    rw [a5]
    unfold hyI
    rw [if_neg]
    intro q
    exact a6 45 (List.mem_of_getLast? q) rfl
/-- between two words, w of them set -/
def zbt (y : Int) (ws : List zWd) (w : Nat) (st : zLn) : Prop := zwords y (ws.drop w) st = zwords y ws ([], []) ∧ st.1.length ≤ 6 * w ∧ (∀ x ∈ st.1, (x.length : Int) ≤ y) ∧ (st.2.length : Int) ≤ y
theorem zset_ok {y : Int} {wd : zWd} {j : Nat} (hw : wdOK wd) : ∀ (n fr : Nat) (st st1 : zLn), fr < wd.length → lnOK y wd j fr st → zset y wd n fr st = some st1 → st1.1.length ≤ 6 * (j + 1) ∧ (∀ x ∈ st1.1, (x.length : Int) ≤ y) ∧ (st1.2.length : Int) ≤ y
  | 0, _, _, _, _, _, h => by unfold zset at h; cases h
  | n + 1, fr, st, st1, hf, hk, h => by
    unfold zset at h
    cases hs : zstep y wd fr st with
    | none => rw [hs] at h; cases h
    | some q =>
      obtain ⟨f, s2⟩ := q
      rw [hs] at h
      rcases zstep_ok hw hf hk hs with ⟨h1, h2, h3, h4, h5, -⟩ | ⟨h1, h2, -, -⟩
      · simp [h1] at h
        subst h
        exact ⟨h3, h4, h5⟩
      · simp [Nat.ne_of_lt h1] at h
        exact zset_ok hw n f s2 st1 h1 h2 h
theorem zbt_next {y : Int} {ws : List zWd} {w : Nat} {st : zLn} {wd : zWd} (h : zbt y ws w st) (hw : ws[w]? = some wd) (hk : wdOK wd) : (zset y wd 24 0 st = none → zwords y ws ([], []) = none) ∧ ∀ st1, zset y wd 24 0 st = some st1 → zbt y ws (w + 1) st1 := by
  obtain ⟨h1, h2, h3, h4⟩ := h
  obtain ⟨hl, hv⟩ := List.getElem?_eq_some_iff.mp hw
  rw [List.drop_eq_getElem_cons hl, hv] at h1
  constructor
  · intro hn
    rw [← h1]
    show (match zset y wd 24 0 st with | none => none | some st' => _) = none
    rw [hn]
  · intro st1 hs
    have h5 := hk.1
    obtain ⟨b1, b2, b3⟩ := zset_ok (j := w) hk 24 0 st st1 (by omega) ⟨by omega, fun _ => ⟨rfl, h2⟩, Or.inl rfl, h3, h4⟩ hs
    refine ⟨?_, b1, b2, b3⟩
    rw [← h1]
    show _ = (match zset y wd 24 0 st with | none => none | some st' => _)
    rw [hs]
theorem zbt_end {y : Int} {ws : List zWd} {w : Nat} {st : zLn} (h : zbt y ws w st) (hw : ws.length ≤ w) : zlines y ws = some (st.1 ++ [st.2]) := by
  have h1 := h.1
  rw [List.drop_of_length_le hw] at h1
  unfold zlines
  rw [← h1]
  rfl
