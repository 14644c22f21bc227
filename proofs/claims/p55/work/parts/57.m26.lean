theorem zcmd_r {inp : List Int} {a : Int} (h1 : bh inp a = 112) (h2 : bh inp (a + 1) = 114) : zcmd inp a = ((zskip inp (zstr 2) a).1, (zskip inp (zstr 2) a).2, (114, 0, 0)) := by
  unfold zcmd; rw [if_pos ⟨h1, h2⟩]
theorem zcmd_p {inp : List Int} {a : Int} (h1 : bh inp a = 112) (h2 : ¬ bh inp (a + 1) = 114) : zcmd inp a = if (znum inp (zstr 1) a).1 = true then (true, (znum inp (zstr 1) a).2.1, (112, 0, 0)) else ((znum inp (zstr 5) (znum inp (zstr 1) a).2.1).1, (znum inp (zstr 5) (znum inp (zstr 1) a).2.1).2.1, (112, (znum inp (zstr 1) a).2.2, (znum inp (zstr 5) (znum inp (zstr 1) a).2.1).2.2)) := by
  unfold zcmd; rw [if_neg (fun q => h2 q.2), if_pos h1]
theorem zcmd_x {inp : List Int} {a : Int} (h1 : bh inp a = 100) (h2 : bh inp (a + 1) = 114) : zcmd inp a = ((znum inp (zstr 4) a).1, (znum inp (zstr 4) a).2.1, (120, (znum inp (zstr 4) a).2.2, 0)) := by
  unfold zcmd; rw [if_neg (fun q => by omega), if_neg (by omega), if_pos ⟨h1, h2⟩]
theorem zcmd_d {inp : List Int} {a : Int} (h1 : bh inp a = 100) (h2 : ¬ bh inp (a + 1) = 114) : zcmd inp a = ((znum inp (zstr 3) a).1, (znum inp (zstr 3) a).2.1, (100, (znum inp (zstr 3) a).2.2, 0)) := by
  unfold zcmd; rw [if_neg (fun q => by omega), if_neg (by omega), if_neg (fun q => h2 q.2), if_pos h1]
theorem zcmd_w {inp : List Int} {a : Int} (h1 : ¬ bh inp a = 112) (h2 : ¬ bh inp a = 100) : zcmd inp a = ((znum inp (zstr 0) a).1, (znum inp (zstr 0) a).2.1, (119, (znum inp (zstr 0) a).2.2, 0)) := by
  unfold zcmd; rw [if_neg (fun q => h1 q.1), if_neg h1, if_neg (fun q => h2 q.1), if_neg h2]
