theorem mA_of {v : Nat → Int} {g : Nat → Int → Int} {r : Int} {v1 : Nat → Int} {g1 : Nat → Int → Int} {q : Int × Int} {t y : Int} (h : q = (t, y)) (hv : upN v 6 t = v1) (hg : g = g1) (hr : t = 0 → r = y) : mA v g r v1 g1 q := by
  subst h; exact ⟨hv, hg, hr⟩
/-- the end of a question for a word -/
def mAW (v : Nat → Int) (g : Nat → Int → Int) (c : zCo) (x w r : Int) (v1 : Nat → Int) (g1 : Nat → Int → Int) : Prop :=
  (zfa (cAr c) x = none ∧ upN v 6 1 = v1 ∧ g = g1 ∧ r = -1) ∨ (∃ a, zfa (cAr c) x = some a ∧ zwd a w = none ∧ upN v 6 2 = v1 ∧ g = g1 ∧ r = -1) ∨
  ∃ (i : Nat) (a : zAr) (wd : zWd), zfa (cAr c) x = some a ∧ zwd a w = some wd ∧ upN v 6 0 = v1 ∧ g = g1 ∧ r = i ∧ ((0 : Int) ≤ i ∧ (i : Int) ≤ 5) ∧ (0 ≤ w ∧ w ≤ 29) ∧ wdOK wd ∧ mof (g 0) i (3 + 13 * w) = wd.length ∧ (∀ k : Int, 0 ≤ k → k < wd.length → mof (g 0) i (3 + 13 * w + 1 + k) = wd.getD k.toNat 0 ∧ 97 ≤ wd.getD k.toNat 0 ∧ wd.getD k.toNat 0 ≤ 122)
