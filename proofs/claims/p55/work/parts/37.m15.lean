theorem zwi_0 {tx : List Int} {q : Int} (h : (q = 1 ∧ 0 < tx.length) ∨ (q = 0 ∧ ¬ 0 < tx.length)) : zwi tx 0 0 0 q := by
  left
  have e : zsf (tx.take (0 : Int).toNat) = ([], []) := by simp [zsf]
  unfold zgd
  rw [e]
  refine ⟨by omega, rfl, rfl, ?_⟩
  rcases h with ⟨h1, h2⟩ | ⟨h1, h2⟩
  · exact Or.inl ⟨h1, h2, fun w hw => by simp at hw, by simp⟩
  · exact Or.inr ⟨h1, fun z => h2 z.1⟩
theorem zwi_fin {tx : List Int} {k n run q : Int} (h : zwi tx k n run q) (hk : (tx.length : Int) < k) : (q = 1 ∧ zat tx ∧ n = (zsp tx).length) ∨ (q = 0 ∧ ¬ zat tx) := by
  rcases h with ⟨h1, -⟩ | ⟨-, h2⟩
  · omega
  · exact h2
