/-- the model's output -/
def mO (v : Nat → Int) (g : Nat → Int → Int) (out : List Int) : Prop := v 15 = out.length ∧ lnAt (g 14) 0 out
theorem mO_snoc {v : Nat → Int} {g : Nat → Int → Int} {out : List Int} {x : Int} (h : mO v g out) : mO (upN v 15 (v 15 + 1)) (upG g 14 (upI (g 14) (v 15) x)) (out ++ [x]) := by
  obtain ⟨h1, h2⟩ := h
  refine ⟨by rw [upN_s, List.length_append]; simp; omega, ?_⟩
  show lnAt (upI (g 14) _ _) _ _
  have := lnAt_snoc (x := x) h2 h1
  rw [Int.zero_add] at this
  exact this
theorem mO_nil {v : Nat → Int} {g : Nat → Int → Int} : mO (upN v 15 0) g [] := ⟨upN_s, lnAt_nil⟩
def zdig (x : Int) : List Int := if x ≤ 9 then [48 + x] else if x ≤ 99 then [48 + x / 10, 48 + x % 10] else [48 + x / 10 / 10, 48 + x / 10 % 10, 48 + x % 10]
theorem zdig_1 {x : Int} (h : x ≤ 9) : zdig x = [48 + x] := if_pos h
theorem zdig_2 {x : Int} (h : ¬ x ≤ 9) (h2 : x ≤ 999) : zdig x = zdig (x / 10) ++ [48 + x % 10] := by
  unfold zdig
  rw [if_neg h]
  by_cases q : x ≤ 99
  · rw [if_pos q, if_pos (by omega)]; rfl
  · rw [if_neg q, if_neg (by omega), if_pos (by omega)]; rfl
