theorem InR.cp {f g : Int → Int} {sp dp n : Int} (hf : ∀ i, InR (f i)) (hg : ∀ i, InR (g i)) : ∀ i, InR (cpI f g sp dp n i) := fun i => by
  unfold cpI
  split
  · exact hf _
  · exact hg _
theorem upG_up {g : Nat → Int → Int} {k : Nat} {f f' : Int → Int} : upG (upG g k f) k f' = upG g k f' := by
  funext j
  by_cases h : j = k
  · subst h; rw [upG_s, upG_s]
  · rw [upG_n h, upG_n h, upG_n h]
theorem upN_up {v : Nat → Int} {k : Nat} {x x' : Int} : upN (upN v k x) k x' = upN v k x' := by
  funext j
  by_cases h : j = k
  · subst h; rw [upN_s, upN_s]
  · rw [upN_n h, upN_n h, upN_n h]
theorem cpI_in {f g : Int → Int} {sp dp n k : Int} (h : dp ≤ k ∧ k < dp + n) : cpI f g sp dp n k = f (sp + (k - dp)) := if_pos h
theorem cpI_out {f g : Int → Int} {sp dp n k : Int} (h : ¬ (dp ≤ k ∧ k < dp + n)) : cpI f g sp dp n k = g k := if_neg h
/-- what ends() does: the row before comes back, or is kept among the past ones -/
def mEn (v : Nat → Int) (g : Nat → Int → Int) (x r : Int) (v1 : Nat → Int) (g1 : Nat → Int → Int) : Prop :=
  (v 6 > 0 ∧ v = v1 ∧ upG g 0 (cpI (g 1) (g 0) 0 0 2439) = g1 ∧ 0 = r) ∨
  (v 6 ≤ 0 ∧ v 5 = 8 ∧ upN v 5 8 = v1 ∧ upG g 4 (cpI (g 1) (cpI (g 4) (g 4) 2439 0 17073) 0 17073 2439) = g1 ∧ x = r) ∨
  (v 6 ≤ 0 ∧ v 5 ≠ 8 ∧ upN v 5 (v 5 + 1) = v1 ∧ upG g 4 (cpI (g 1) (g 4) 0 (2439 * v 5) 2439) = g1 ∧ x = r)
