theorem znum_w {inp l : List Int} {a : Int} (h : (zskip inp l a).1 = true) : znum inp l a = (true, (zskip inp l a).2, 0) := by
  unfold znum; rw [if_pos h]
theorem znum_n {inp l : List Int} {a : Int} (h : (zskip inp l a).1 = false) (hd : ¬ (48 ≤ bh inp (zskip inp l a).2 ∧ bh inp (zskip inp l a).2 ≤ 57)) : znum inp l a = (true, (zskip inp l a).2, 0) := by
  unfold znum; rw [if_neg (by rw [h]; decide), if_neg hd]
theorem znum_1 {inp l : List Int} {a : Int} (h : (zskip inp l a).1 = false) (hd : 48 ≤ bh inp (zskip inp l a).2 ∧ bh inp (zskip inp l a).2 ≤ 57) (hd2 : ¬ (48 ≤ bh inp ((zskip inp l a).2 + 1) ∧ bh inp ((zskip inp l a).2 + 1) ≤ 57)) : znum inp l a = (false, (zskip inp l a).2 + 1, bh inp (zskip inp l a).2 - 48) := by
  unfold znum; rw [if_neg (by rw [h]; decide), if_pos hd, if_neg hd2]
theorem znum_2 {inp l : List Int} {a : Int} (h : (zskip inp l a).1 = false) (hd : 48 ≤ bh inp (zskip inp l a).2 ∧ bh inp (zskip inp l a).2 ≤ 57) (hd2 : 48 ≤ bh inp ((zskip inp l a).2 + 1) ∧ bh inp ((zskip inp l a).2 + 1) ≤ 57) : znum inp l a = (false, (zskip inp l a).2 + 2, 10 * (bh inp (zskip inp l a).2 - 48) + (bh inp ((zskip inp l a).2 + 1) - 48)) := by
  unfold znum; rw [if_neg (by rw [h]; decide), if_pos hd, if_pos hd2]
theorem b2i_1 {b : Bool} (h : b2i b = 1) : b = true := by
  cases b
  · exact absurd h (by decide)
  · rfl
theorem b2i_0 {b : Bool} (h : b2i b = 0) : b = false := by
  cases b
  · rfl
  · exact absurd h (by decide)
theorem b2i_01 (b : Bool) : b2i b = 0 ∨ b2i b = 1 := by
  cases b
  · exact Or.inl rfl
  · exact Or.inr rfl
