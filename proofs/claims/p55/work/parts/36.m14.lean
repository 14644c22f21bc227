/-- the text cut at its blanks: the words before the last one, and the last one -/
def zsf (tx : List Int) : List zWd × zWd := tx.foldl (fun s x => if x = 32 then (s.1 ++ [s.2], []) else (s.1, s.2 ++ [x])) ([], [])
def zsp (tx : List Int) : List zWd := (zsf tx).1 ++ [(zsf tx).2]
def zwl (w : zWd) : Prop := 1 ≤ w.length ∧ w.length ≤ 12
/-- an article text -/
def zat (tx : List Int) : Prop := ∀ w ∈ zsp tx, zwl w
theorem zsf_snoc (tx : List Int) (x : Int) : zsf (tx ++ [x]) = if x = 32 then ((zsf tx).1 ++ [(zsf tx).2], []) else ((zsf tx).1, (zsf tx).2 ++ [x]) := by
  unfold zsf; rw [List.foldl_append]; rfl
/-- the model's text -/
def mT (v : Nat → Int) (g : Nat → Int → Int) (tx : List Int) : Prop := v 8 = tx.length ∧ lnAt (g 7) 0 tx
theorem mT_at {v : Nat → Int} {g : Nat → Int → Int} {tx : List Int} (h : mT v g tx) {k : Int} (h0 : 0 ≤ k) (h1 : k < tx.length) : g 7 k = tx.getD k.toNat 0 := by
  have := lnAt_get h.2 h0 h1
  rw [Int.zero_add] at this; exact this
/-- how far the words are good behind k characters -/
def zgd (tx : List Int) (k : Int) : Prop := 0 < tx.length ∧ (∀ w ∈ (zsf (tx.take k.toNat)).1, zwl w) ∧ (zsf (tx.take k.toNat)).2.length ≤ 13
theorem snoc_ind {P : List Int → Prop} (h0 : P []) (hs : ∀ l x, P l → P (l ++ [x])) (l : List Int) : P l := by
  have h : ∀ n, P (l.take n) := fun n => by
    induction n with
    | zero => simpa using h0
    | succ n ih =>
      by_cases q : n < l.length
      · rw [List.take_add_one, List.getElem?_eq_getElem q]; exact hs _ _ ih
      · rw [List.take_of_length_le (by omega)] at ih ⊢; exact ih
  have := h l.length
  rwa [List.take_length] at this
theorem zsf_len (tx : List Int) : (zsf tx).1.length ≤ tx.length ∧ (zsf tx).2.length ≤ tx.length := by
  refine snoc_ind (P := fun tx => (zsf tx).1.length ≤ tx.length ∧ (zsf tx).2.length ≤ tx.length) ⟨Nat.le_refl 0, Nat.le_refl 0⟩ (fun l x ih => ?_) tx
  rw [zsf_snoc]
  split <;> simp <;> omega
theorem zgd_s {tx : List Int} {k : Int} (h0 : 0 ≤ k) (h1 : k < tx.length) : (tx.getD k.toNat 0 = 32 ∧ zsf (tx.take (k + 1).toNat) = ((zsf (tx.take k.toNat)).1 ++ [(zsf (tx.take k.toNat)).2], [])) ∨ (tx.getD k.toNat 0 ≠ 32 ∧ zsf (tx.take (k + 1).toNat) = ((zsf (tx.take k.toNat)).1, (zsf (tx.take k.toNat)).2 ++ [tx.getD k.toNat 0])) := by
  rw [take_s h0 h1, zsf_snoc]
  by_cases q : tx.getD k.toNat 0 = 32
  · left; rw [if_pos q]; exact ⟨q, rfl⟩
  · right; rw [if_neg q]; exact ⟨q, rfl⟩
/-- the walk through the text stands before its character k -/
def zwi (tx : List Int) (k n run q : Int) : Prop := (k ≤ tx.length ∧ n = (zsf (tx.take k.toNat)).1.length ∧ run = (zsf (tx.take k.toNat)).2.length ∧ ((q = 1 ∧ zgd tx k) ∨ (q = 0 ∧ ¬ zgd tx k))) ∨ (k = tx.length + 1 ∧ ((q = 1 ∧ zat tx ∧ n = (zsp tx).length) ∨ (q = 0 ∧ ¬ zat tx)))
theorem zwi_end {tx : List Int} {k n run q q2 : Int} (h : zwi tx k n run q) (hk : k = tx.length) (hq : (q2 = 1 ∧ q ≠ 0 ∧ run ≠ 0 ∧ run ≤ 12) ∨ (q2 = 0 ∧ ¬ (q ≠ 0 ∧ run ≠ 0 ∧ run ≤ 12))) (r2 : Int) : zwi tx (k + 1) (n + 1) r2 q2 := by
  rcases h with ⟨h1, h2, h3, h4⟩ | ⟨h1, -⟩
  · right
    refine ⟨by omega, ?_⟩
    rw [hk, Int.toNat_natCast, List.take_length] at h2 h3
    have key : zat tx ↔ (q ≠ 0 ∧ run ≠ 0 ∧ run ≤ 12) := by
      unfold zat zsp
      constructor
      · intro ha
        have hl := ha _ (List.mem_append_right _ (List.mem_singleton.mpr rfl))
        have hi : ∀ w ∈ (zsf tx).1, zwl w := fun w hw => ha w (List.mem_append_left _ hw)
        obtain ⟨l1, l2⟩ := hl
        have h0 : 0 < tx.length := by
          have := (zsf_len tx).2
          omega
        refine ⟨?_, by omega, by omega⟩
        rcases h4 with ⟨z, -⟩ | ⟨-, z⟩
        · omega
        · exfalso; apply z
          unfold zgd
          rw [hk, Int.toNat_natCast, List.take_length]
          exact ⟨h0, hi, by omega⟩
      · rintro ⟨z1, z2, z3⟩ w hw
        rcases h4 with ⟨-, z⟩ | ⟨z, -⟩
        · unfold zgd at z
          rw [hk, Int.toNat_natCast, List.take_length] at z
          rcases List.mem_append.mp hw with y | y
          · exact z.2.1 w y
          · rw [List.mem_singleton.mp y]; exact ⟨by omega, by omega⟩
        · exact absurd z z1
    have hn : n + 1 = (zsp tx).length := by unfold zsp; rw [List.length_append]; simp; omega
    rcases hq with ⟨z1, z2⟩ | ⟨z1, z2⟩
    · exact Or.inl ⟨z1, key.mpr z2, hn⟩
    · exact Or.inr ⟨z1, fun y => z2 (key.mp y)⟩
  · omega
theorem zwi_blank {tx : List Int} {k n run q q2 : Int} (h : zwi tx k n run q) (h0 : 0 ≤ k) (hk : k < tx.length) (hc : tx.getD k.toNat 0 = 32) (hq : (q2 = 1 ∧ q ≠ 0 ∧ run ≠ 0 ∧ run ≤ 12) ∨ (q2 = 0 ∧ ¬ (q ≠ 0 ∧ run ≠ 0 ∧ run ≤ 12))) : zwi tx (k + 1) (n + 1) 0 q2 := by
  rcases h with ⟨h1, h2, h3, h4⟩ | ⟨h1, -⟩
  · left
    rcases zgd_s h0 hk with ⟨-, e⟩ | ⟨z, -⟩
    · unfold zgd at h4 ⊢
      rw [e]
      refine ⟨by omega, by simp; omega, rfl, ?_⟩
      have key : (0 < tx.length ∧ (∀ w ∈ (zsf (tx.take k.toNat)).1 ++ [(zsf (tx.take k.toNat)).2], zwl w) ∧ ([] : List Int).length ≤ 13) ↔ (q ≠ 0 ∧ run ≠ 0 ∧ run ≤ 12) := by
        constructor
        · rintro ⟨a, b, -⟩
          obtain ⟨l1, l2⟩ := b _ (List.mem_append_right _ (List.mem_singleton.mpr rfl))
          refine ⟨?_, by omega, by omega⟩
          rcases h4 with ⟨z, -⟩ | ⟨-, z⟩
          · omega
          · exact absurd ⟨a, fun w hw => b w (List.mem_append_left _ hw), by omega⟩ z
        · rintro ⟨z1, z2, z3⟩
          rcases h4 with ⟨-, z⟩ | ⟨z, -⟩
          · refine ⟨z.1, fun w hw => ?_, by simp⟩
            rcases List.mem_append.mp hw with y | y
            · exact z.2.1 w y
            · rw [List.mem_singleton.mp y]; exact ⟨by omega, by omega⟩
          · exact absurd z z1
      rcases hq with ⟨z1, z2⟩ | ⟨z1, z2⟩
      · exact Or.inl ⟨z1, key.mpr z2⟩
      · exact Or.inr ⟨z1, fun y => z2 (key.mp y)⟩
    · exact absurd hc z
  · omega
theorem zwi_letter {tx : List Int} {k n run q q2 : Int} (h : zwi tx k n run q) (h0 : 0 ≤ k) (hk : k < tx.length) (hc : tx.getD k.toNat 0 ≠ 32) (hq : (q2 = 1 ∧ q ≠ 0 ∧ run ≤ 12) ∨ (q2 = 0 ∧ ¬ (q ≠ 0 ∧ run ≤ 12))) : zwi tx (k + 1) n (run + 1) q2 := by
  rcases h with ⟨h1, h2, h3, h4⟩ | ⟨h1, -⟩
  · left
    rcases zgd_s h0 hk with ⟨z, -⟩ | ⟨-, e⟩
    · exact absurd z hc
    · unfold zgd at h4 ⊢
      rw [e]
      refine ⟨by omega, h2, by simp; omega, ?_⟩
      have key : (0 < tx.length ∧ (∀ w ∈ (zsf (tx.take k.toNat)).1, zwl w) ∧ ((zsf (tx.take k.toNat)).2 ++ [tx.getD k.toNat 0]).length ≤ 13) ↔ (q ≠ 0 ∧ run ≤ 12) := by
        rw [List.length_append, List.length_singleton]
        constructor
        · rintro ⟨a, b, c⟩
          refine ⟨?_, by omega⟩
          rcases h4 with ⟨z, -⟩ | ⟨-, z⟩
          · omega
          · exact absurd ⟨a, b, by omega⟩ z
        · rintro ⟨z1, z3⟩
          rcases h4 with ⟨-, z⟩ | ⟨z, -⟩
          · exact ⟨z.1, z.2.1, by omega⟩
          · exact absurd z z1
      rcases hq with ⟨z1, z2⟩ | ⟨z1, z2⟩
      · exact Or.inl ⟨z1, key.mpr z2⟩
      · exact Or.inr ⟨z1, fun y => z2 (key.mp y)⟩
  · omega
