/-- the text cut at its blanks: the words before the last one, and the last one -/
def zsf (tx : List Int) : List zWd × zWd := tx.foldl (fun s x => if x = 32 then (s.1 ++ [s.2], []) else (s.1, s.2 ++ [x])) ([], [])
def zsp (tx : List Int) : List zWd := (zsf tx).1 ++ [(zsf tx).2]
def zwl (w : zWd) : Prop := 1 ≤ w.length ∧ w.length ≤ 12
/-- an article text -/
def zat (tx : List Int) : Prop := ∀ w ∈ zsp tx, zwl w
theorem zsf_snoc (tx : List Int) (x : Int) : zsf (tx ++ [x]) = if x = 32 then ((zsf tx).1 ++ [(zsf tx).2], []) else ((zsf tx).1, (zsf tx).2 ++ [x]) := by
  unfold zsf; rw [List.foldl_append]; rfl
/-- the model's text -/
def mT (v : Nat → Int) (g : Nat → Int → Int) (tx : List Int) : Prop := v 8 = tx.length ∧ lnAt (g 7) 0 tx
theorem mT_at {v : Nat → Int} {g : Nat → Int → Int} {tx : List Int} (h : mT v g tx) {k : Int} (h0 : 0 ≤ k) (h1 : k < tx.length) : g 7 k = tx.getD k.toNat 0 := by
  have := lnAt_get h.2 h0 h1
  rw [Int.zero_add] at this; exact this
/-- how far the words are good behind k characters -/
def zgd (tx : List Int) (k : Int) : Prop := 0 < tx.length ∧ (∀ w ∈ (zsf (tx.take k.toNat)).1, zwl w) ∧ (zsf (tx.take k.toNat)).2.length ≤ 13
theorem snoc_ind {P : List Int → Prop} (h0 : P []) (hs : ∀ l x, P l → P (l ++ [x])) (l : List Int) : P l := by
  have h : ∀ n, P (l.take n) := fun n => by
    induction n with
    | zero => simpa using h0
    | succ n ih =>
      by_cases q : n < l.length
      · rw [List.take_add_one, List.getElem?_eq_getElem q]; exact hs _ _ ih
      · rw [List.take_of_length_le (by omega)] at ih ⊢; exact ih
  have := h l.length
  rwa [List.take_length] at this
theorem zsf_len (tx : List Int) : (zsf tx).1.length ≤ tx.length ∧ (zsf tx).2.length ≤ tx.length := by
  refine snoc_ind (P := fun tx => (zsf tx).1.length ≤ tx.length ∧ (zsf tx).2.length ≤ tx.length) ⟨Nat.le_refl 0, Nat.le_refl 0⟩ (fun l x ih => ?_) tx
  rw [zsf_snoc]
  split <;> simp <;> omega
