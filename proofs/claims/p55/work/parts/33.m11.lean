/-- the end of a call that may write the output: t tells the exception, out what is written -/
def mWr (v : Nat → Int) (g : Nat → Int → Int) (r : Int) (v1 : Nat → Int) (g1 : Nat → Int → Int) (t : Int) (out : List Int) : Prop :=
  v1 6 = t ∧ (∀ k, k ≠ 6 → k ≠ 12 → k ≠ 15 → v1 k = v k) ∧ (∀ j, j ≠ 9 → j ≠ 10 → j ≠ 11 → j ≠ 14 → g1 j = g j) ∧ (t ≠ 0 → v1 15 = v 15 ∧ g1 14 = g 14) ∧ (t = 0 → r = out.length ∧ mO v1 g1 out)
theorem lnAt_get {f : Int → Int} {b : Int} {l : List Int} {k : Int} (h : lnAt f b l) (h0 : 0 ≤ k) (h1 : k < l.length) : f (b + k) = l.getD k.toNat 0 := by
  have hl : k.toNat < l.length := by omega
  have := h k.toNat _ (List.getElem?_eq_getElem hl)
  rw [Int.toNat_of_nonneg h0] at this
  rw [this, List.getD_eq_getElem?_getD, List.getElem?_eq_getElem hl]; rfl
theorem take_s {l : List Int} {k : Int} (h0 : 0 ≤ k) (h1 : k < l.length) : l.take (k + 1).toNat = l.take k.toNat ++ [l.getD k.toNat 0] := by
  have hl : k.toNat < l.length := by omega
  rw [show (k + 1).toNat = k.toNat + 1 by omega, List.take_add_one, List.getD_eq_getElem?_getD, List.getElem?_eq_getElem hl]; rfl
