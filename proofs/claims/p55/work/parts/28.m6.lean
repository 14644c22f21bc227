def lnAt (f : Int → Int) (b : Int) (l : List Int) : Prop := ∀ (k : Nat) (x : Int), l[k]? = some x → f (b + k) = x
theorem lnAt_nil {f : Int → Int} {b : Int} : lnAt f b [] := fun k x h => by simp at h
theorem lnAt_snoc {f : Int → Int} {b : Int} {l : List Int} {n x : Int} (h : lnAt f b l) (hn : n = l.length) : lnAt (upI f (b + n) x) b (l ++ [x]) := by
  intro k y hk
  by_cases q : k < l.length
  · rw [List.getElem?_append_left q] at hk
    rw [upI_n (by omega)]
    exact h k y hk
  · have hl : k < (l ++ [x]).length := (List.getElem?_eq_some_iff.mp hk).1
    rw [List.length_append, List.length_singleton] at hl
    have e : k = l.length := by omega
    subst e
    rw [List.getElem?_append_right (by omega)] at hk
    simp at hk
    rw [← hn, upI_s, hk]
theorem lnAt_cong {f f' : Int → Int} {b : Int} {l : List Int} {n : Int} (h : lnAt f b l) (hn : (l.length : Int) ≤ n) (hf : ∀ k, b ≤ k → k < b + n → f' k = f k) : lnAt f' b l := by
  intro k x hk
  have hl := (List.getElem?_eq_some_iff.mp hk).1
  rw [hf _ (by omega) (by omega)]
  exact h k x hk
theorem lnPut_0 {part : zWd} : lnPut [] part = part := if_pos rfl
theorem lnPut_c {cur part : zWd} (h : cur ≠ []) : lnPut cur part = cur ++ [32] ++ part := by
  unfold lnPut; rw [if_neg h]; simp
theorem take_snoc {wd : zWd} {x k : Int} (h : 0 ≤ x ∧ x ≤ k ∧ k < wd.length) : (wd.drop x.toNat).take ((k + 1) - x).toNat = (wd.drop x.toNat).take (k - x).toNat ++ [wd.getD k.toNat 0] := by
  have e : ((k + 1) - x).toNat = (k - x).toNat + 1 := by omega
  rw [e, List.take_add_one, List.getElem?_drop]
  have e2 : x.toNat + (k - x).toNat = k.toNat := by omega
  rw [e2, List.getD_eq_getElem?_getD]
  have hl : k.toNat < wd.length := by omega
  rw [List.getElem?_eq_getElem hl]; rfl
def hyI (l : zWd) : Int := if l.getLast? = some 45 then 1 else 0
/-- the model's rows hold the lines -/
def mLn (v : Nat → Int) (g : Nat → Int → Int) (st : zLn) : Prop := v 12 = st.1.length ∧ (∀ (i : Nat) (l : zWd), st.1[i]? = some l → lnAt (g 9) (20 * i) l ∧ g 10 i = l.length ∧ g 11 i = hyI l) ∧ lnAt (g 9) (20 * v 12) st.2 ∧ g 10 (v 12) = st.2.length ∧ g 11 (v 12) = 0 ∧ ∀ x ∈ st.2, x ≠ 45
theorem mLn_put {v : Nat → Int} {g g2 : Nat → Int → Int} {st : zLn} {l : zWd} (h : mLn v g st) (h20 : ∀ x ∈ st.1, (x.length : Int) ≤ 20) (h9 : lnAt (g2 9) (20 * v 12) l) (hk : ∀ k, k < 20 * v 12 → g2 9 k = g 9 k) (h10 : g2 10 = upI (g 10) (v 12) l.length) (ho : ∀ j, j ≠ 9 → j ≠ 10 → g2 j = g j) (h45 : ∀ x ∈ l, x ≠ 45) : mLn v g2 (st.1, l) := by
  obtain ⟨a1, a2, a3, a4, a5, a6⟩ := h
  refine ⟨a1, fun i x hx => ?_, h9, by rw [h10, upI_s], by rw [ho 11 (by decide) (by decide)]; exact a5, h45⟩
  have hx : st.1[i]? = some x := hx
  obtain ⟨b1, b2, b3⟩ := a2 i x hx
  have hl := (List.getElem?_eq_some_iff.mp hx).1
  have h2 := h20 x (List.mem_of_getElem? hx)
  exact ⟨lnAt_cong b1 h2 (fun k k1 k2 => hk k (by omega)), by rw [h10, upI_n (by omega)]; exact b2, by rw [ho 11 (by decide) (by decide)]; exact b3⟩
theorem mLn_new {v : Nat → Int} {g : Nat → Int → Int} {st : zLn} (h : mLn v g st) : mLn (upN v 12 (v 12 + 1)) (upG (upG g 10 (upI (g 10) (v 12 + 1) 0)) 11 (upI (g 11) (v 12 + 1) 0)) (st.1 ++ [st.2], []) := by
  obtain ⟨a1, a2, a3, a4, a5, a6⟩ := h
  refine ⟨by rw [upN_s]; simp; omega, fun i x hx => ?_, lnAt_nil, ?_, ?_, fun x hx => by simp at hx⟩
  · have hx : (st.1 ++ [st.2])[i]? = some x := hx
    show lnAt (g 9) _ _ ∧ upI (g 10) _ _ _ = _ ∧ upI (g 11) _ _ _ = _
    by_cases q : i < st.1.length
    · rw [List.getElem?_append_left q] at hx
      obtain ⟨b1, b2, b3⟩ := a2 i x hx
      exact ⟨b1, by rw [upI_n (by omega)]; exact b2, by rw [upI_n (by omega)]; exact b3⟩
    · have hl := (List.getElem?_eq_some_iff.mp hx).1
      rw [List.length_append, List.length_singleton] at hl
      have e : i = st.1.length := by omega
      subst e
      rw [List.getElem?_append_right (by omega)] at hx
      simp at hx
      subst hx
      rw [← a1, upI_n (by omega), upI_n (by omega)]
      refine ⟨a3, a4, ?_⟩
      rw [a5]
      unfold hyI
      rw [if_neg]
      intro q
      exact a6 45 (List.mem_of_getLast? q) rfl
  · show upI (g 10) _ _ (upN v 12 (v 12 + 1) 12) = _
    rw [upN_s, upI_s]; rfl
  · show upI (g 11) _ _ (upN v 12 (v 12 + 1) 12) = _
    rw [upN_s, upI_s]
theorem mLn_cut {v : Nat → Int} {g : Nat → Int → Int} {st : zLn} (h : mLn v g st) (h20 : ∀ x ∈ st.1, (x.length : Int) ≤ 20) : mLn (upN v 12 (v 12 + 1)) (upG (upG (upG (upG (upG g 9 (upI (g 9) (20 * v 12 + g 10 (v 12)) 45)) 10 (upI (g 10) (v 12) (g 10 (v 12) + 1))) 11 (upI (g 11) (v 12) 1)) 10 (upI (upI (g 10) (v 12) (g 10 (v 12) + 1)) (v 12 + 1) 0)) 11 (upI (upI (g 11) (v 12) 1) (v 12 + 1) 0)) (st.1 ++ [st.2 ++ [45]], []) := by
  obtain ⟨a1, a2, a3, a4, a5, a6⟩ := h
  refine ⟨by rw [upN_s]; simp; omega, fun i x hx => ?_, lnAt_nil, ?_, ?_, fun x hx => by simp at hx⟩
  · have hx : (st.1 ++ [st.2 ++ [45]])[i]? = some x := hx
    show lnAt (upI (g 9) _ _) _ _ ∧ upI (upI (g 10) _ _) _ _ _ = _ ∧ upI (upI (g 11) _ _) _ _ _ = _
    by_cases q : i < st.1.length
    · rw [List.getElem?_append_left q] at hx
      obtain ⟨b1, b2, b3⟩ := a2 i x hx
      refine ⟨?_, by rw [upI_n (by omega), upI_n (by omega)]; exact b2, by rw [upI_n (by omega), upI_n (by omega)]; exact b3⟩
      intro k y hk
      by_cases e : (20 * (i : Int) + k) = 20 * v 12 + g 10 (v 12)
      · exfalso
        have h2 := h20 x (List.mem_of_getElem? hx)
        have h3 := (List.getElem?_eq_some_iff.mp hk).1
        omega
      · rw [upI_n e]; exact b1 k y hk
    · have hl := (List.getElem?_eq_some_iff.mp hx).1
      rw [List.length_append, List.length_singleton] at hl
      have e : i = st.1.length := by omega
      subst e
      rw [List.getElem?_append_right (by omega)] at hx
      simp at hx
      subst hx
      rw [← a1, upI_n (by omega), upI_s, upI_n (by omega), upI_s, a4]
      refine ⟨lnAt_snoc a3 rfl, by simp, ?_⟩
      unfold hyI
      rw [if_pos (by simp)]
  · show upI _ _ _ (upN v 12 (v 12 + 1) 12) = _
    rw [upN_s, upI_s]; rfl
  · show upI _ _ _ (upN v 12 (v 12 + 1) 12) = _
    rw [upN_s, upI_s]
