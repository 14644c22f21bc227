theorem zwi_0 {tx : List Int} {q : Int} (h : (q = 1 ∧ 0 < tx.length) ∨ (q = 0 ∧ ¬ 0 < tx.length)) : zwi tx 0 0 0 q := by
  left
  have e : zsf (tx.take (0 : Int).toNat) = ([], []) := by simp [zsf]
  unfold zgd
  rw [e]
  refine ⟨by omega, rfl, rfl, ?_⟩
  rcases h with ⟨h1, h2⟩ | ⟨h1, h2⟩
  · exact Or.inl ⟨h1, h2, fun w hw => by simp at hw, by simp⟩
  · exact Or.inr ⟨h1, fun z => h2 z.1⟩
theorem zwi_fin {tx : List Int} {k n run q : Int} (h : zwi tx k n run q) (hk : (tx.length : Int) < k) : (q = 1 ∧ zat tx ∧ n = (zsp tx).length) ∨ (q = 0 ∧ ¬ zat tx) := by
  rcases h with ⟨h1, -⟩ | ⟨-, h2⟩
  · omega
  · exact h2
set_option maxHeartbeats 4000000 in
set_option maxRecDepth 100000 in
theorem met_X13_words (l : Launch) (D : va_G) (cs : Nat → ClassId) (A : Nat → Prop) (m0 : Nat) (ad : Nat → Nat) (v : Nat → Int) (g : Nat → Int → Int)  (tx : List Int) (hD : mD m0 ad) (hok : mOK v g) (ht : mT v g tx) (htl : tx.length ≤ 60) : zM l D cs A yX13_words cX13_words 6 (some FieldType.int) 1 0 0 [.ref m0] (mW cs m0 ad v g) (mP cs m0 ad (fun r v1 g1 => v = v1 ∧ g = g1 ∧ ((zat tx ∧ r = (zsp tx).length) ∨ (¬ zat tx ∧ r = 0)))) := by
  refine zM_of (own := RX13) (by decide) rfl (Nat.le_of_ble_eq_true rfl) ?_
  intro p e s m below meth c hC hr hlk hnm hZ ls hl
  have hx := hC.x
  have hb := hC.b
  have hl : lv_has ls 6 [(0, .ref m0)] := hl
  have h8 := ht.1
  refine z_iconst hx hb dX13_words_0 ?_
  refine lv_istore_n (lv' := [(1, .int (iI 0)), (0, .ref m0)]) hx hb dX13_words_1 rfl hl (by decide) rfl (fun ls hl => ?_)
  refine z_iconst hx hb dX13_words_2 ?_
  refine lv_istore_n (lv' := [(2, .int (iI 0)), (1, .int (iI 0)), (0, .ref m0)]) hx hb dX13_words_3 rfl hl (by decide) rfl (fun ls hl => ?_)
  have J16_k_1 : ∀ (q0 : Int)  (hj16_0 : (q0 = 1 ∧ 0 < v 8) ∨ (q0 = 0 ∧ ¬ 0 < v 8)) (H : Heap) (locs : List Loc) (hZ : zS D A s (mW cs m0 ad v g) H locs) (ls : Array Slot) (hl : lv_has ls 6 [(2, .int (iI 0)), (1, .int (iI 0)), (0, .ref m0)]), W p l e (zR 1 0 0) s m [.ref m0].toArray below meth c H locs 0 0 (MQ below (zQ D A (mP cs m0 ad (fun r v1 g1 => v = v1 ∧ g = g1 ∧ ((zat tx ∧ r = (zsp tx).length) ∨ (¬ zat tx ∧ r = 0))))) [.ref m0].toArray s 0 0 A) (F0 m 16 ls [.int (iI q0)]) := by
    intro q0  hj16_0  H locs hZ ls hl
    refine lv_istore_n (lv' := [(3, .int (iI q0)), (2, .int (iI 0)), (1, .int (iI 0)), (0, .ref m0)]) hx hb dX13_words_16 rfl hl (by decide) rfl (fun ls hl => ?_)
    refine z_iconst hx hb dX13_words_17 ?_
    refine lv_istore (lv' := [(4, .int (iI 0)), (3, .int (iI q0)), (2, .int (iI 0)), (1, .int (iI 0)), (0, .ref m0)]) hx hb dX13_words_18 hl (by decide) rfl (fun ls hl => ?_)
    have L20_k_2 : ∀ (fu : Nat) (n run q k : Int)  (hfu : (v 8 + 1 - k).toNat < fu) (hi20_0 : 0 ≤ k ∧ k ≤ v 8 + 1) (hi20_1 : zwi tx k n run q) (hi20_2 : 0 ≤ n ∧ n ≤ k) (hi20_3 : 0 ≤ run ∧ run ≤ k ∧ (q = 0 ∨ q = 1)) (H : Heap) (locs : List Loc) (hZ : zS D A s (mW cs m0 ad v g) H locs) (ls : Array Slot) (hl : lv_has ls 6 [(4, .int (iI k)), (3, .int (iI q)), (2, .int (iI run)), (1, .int (iI n)), (0, .ref m0)]), W p l e (zR 1 0 0) s m [.ref m0].toArray below meth c H locs 0 0 (MQ below (zQ D A (mP cs m0 ad (fun r v1 g1 => v = v1 ∧ g = g1 ∧ ((zat tx ∧ r = (zsp tx).length) ∨ (¬ zat tx ∧ r = 0))))) [.ref m0].toArray s 0 0 A) (F0 m 20 ls []) := by
      intro fu
      induction fu with
      | zero =>
        intro n run q k  hfu
        exact absurd hfu (Nat.not_lt_zero _)
      | succ fu ih20 =>
        intro n run q k  hfu hi20_0 hi20_1 hi20_2 hi20_3  H locs hZ ls hl
        have hck : k < tx.length → g 7 k = tx.getD k.toNat 0 := fun h => mT_at ht (by omega) h
        refine lv_iload hx hb dX13_words_20 (lv_at hl 0 rfl) ?_
        refine lv_aload_n hx hb dX13_words_22 rfl (lv_at hl 4 rfl) ?_
        refine m_get hC hZ 8 (x := .int (iI (v 8))) rfl (by decide) ql_X13_75 rfl dX13_words_23 ?_
        have hr_3 : -2147483648 ≤ v 8 ∧ v 8 ≤ 2147483647 := hok.1 8
        refine z_icmp_gt (tgt := 114) hx hb dX13_words_26 (by decide) (by omega) (by omega) (fun c_4 => ?_) (fun c_4 => ?_)
        · skip
          refine lv_iload_n hx hb dX13_words_114 rfl (lv_at hl 1 rfl) ?_
          refine z_if_eq (tgt := 122) hx hb dX13_words_115 (by decide) (by omega) (fun c_5 => ?_) (fun c_5 => ?_)
          · skip
            refine z_iconst hx hb dX13_words_122 ?_
            exact z_iret hC hr hlk hZ (by decide) (by decide) (⟨_, _, rfl, ‹mOK v g›, rfl, rfl, (zwi_fin hi20_1 (by omega)).elim (fun h => absurd h.1 (by omega)) (fun h => Or.inr ⟨h.2, rfl⟩)⟩) dX13_words_123
          · skip
            refine lv_iload_n hx hb dX13_words_118 rfl (lv_at hl 3 rfl) ?_
            refine lv_goto (tgt := 123) hx hb dX13_words_119 (by decide) ?_
            exact z_iret hC hr hlk hZ (by decide) (by decide) (⟨_, _, rfl, ‹mOK v g›, rfl, rfl, (zwi_fin hi20_1 (by omega)).elim (fun h => Or.inl ⟨h.2.1, h.2.2⟩) (fun h => absurd h.1 (by omega))⟩) dX13_words_123
        · skip
          have J55_k_6 : ∀ (e0 : Int)  (hj55_0 : (e0 = 1 ∧ (k = v 8 ∨ g 7 k = 32)) ∨ (e0 = 0 ∧ ¬ (k = v 8 ∨ g 7 k = 32))) (H : Heap) (locs : List Loc) (hZ : zS D A s (mW cs m0 ad v g) H locs) (ls : Array Slot) (hl : lv_has ls 6 [(4, .int (iI k)), (3, .int (iI q)), (2, .int (iI run)), (1, .int (iI n)), (0, .ref m0)]), W p l e (zR 1 0 0) s m [.ref m0].toArray below meth c H locs 0 0 (MQ below (zQ D A (mP cs m0 ad (fun r v1 g1 => v = v1 ∧ g = g1 ∧ ((zat tx ∧ r = (zsp tx).length) ∨ (¬ zat tx ∧ r = 0))))) [.ref m0].toArray s 0 0 A) (F0 m 55 ls [.int (iI e0)]) := by
            intro e0  hj55_0  H locs hZ ls hl
            refine lv_istore (lv' := [(5, .int (iI e0)), (4, .int (iI k)), (3, .int (iI q)), (2, .int (iI run)), (1, .int (iI n)), (0, .ref m0)]) hx hb dX13_words_55 hl (by decide) rfl (fun ls hl => ?_)
            have J81_k_7 : ∀ (q2 : Int)  (hj81_0 : (q2 = 1 ∧ q ≠ 0 ∧ ¬ (e0 ≠ 0 ∧ run = 0) ∧ run ≤ 12) ∨ (q2 = 0 ∧ ¬ (q ≠ 0 ∧ ¬ (e0 ≠ 0 ∧ run = 0) ∧ run ≤ 12))) (H : Heap) (locs : List Loc) (hZ : zS D A s (mW cs m0 ad v g) H locs) (ls : Array Slot) (hl : lv_has ls 6 [(5, .int (iI e0)), (4, .int (iI k)), (3, .int (iI q)), (2, .int (iI run)), (1, .int (iI n)), (0, .ref m0)]), W p l e (zR 1 0 0) s m [.ref m0].toArray below meth c H locs 0 0 (MQ below (zQ D A (mP cs m0 ad (fun r v1 g1 => v = v1 ∧ g = g1 ∧ ((zat tx ∧ r = (zsp tx).length) ∨ (¬ zat tx ∧ r = 0))))) [.ref m0].toArray s 0 0 A) (F0 m 81 ls [.int (iI q2)]) := by
              intro q2  hj81_0  H locs hZ ls hl
              refine lv_istore_n (lv' := [(3, .int (iI q2)), (5, .int (iI e0)), (4, .int (iI k)), (2, .int (iI run)), (1, .int (iI n)), (0, .ref m0)]) hx hb dX13_words_81 rfl hl (by decide) rfl (fun ls hl => ?_)
              refine lv_iload_n hx hb dX13_words_82 rfl (lv_at hl 4 rfl) ?_
              refine lv_iload hx hb dX13_words_83 (lv_at hl 1 rfl) ?_
              refine z_if_eq (tgt := 92) hx hb dX13_words_85 (by decide) (by omega) (fun c_8 => ?_) (fun c_8 => ?_)
              · skip
                refine z_iconst hx hb dX13_words_92 ?_
                refine z_iadd hx hb dX13_words_93 ?_
                refine lv_istore_n (lv' := [(1, .int (iI (n + 0))), (3, .int (iI q2)), (5, .int (iI e0)), (4, .int (iI k)), (2, .int (iI run)), (0, .ref m0)]) hx hb dX13_words_94 rfl hl (by decide) rfl (fun ls hl => ?_)
                refine lv_iload hx hb dX13_words_95 (lv_at hl 2 rfl) ?_
                refine z_if_eq (tgt := 104) hx hb dX13_words_97 (by decide) (by omega) (fun c_9 => ?_) (fun c_9 => ?_)
                · skip
                  refine lv_iload_n hx hb dX13_words_104 rfl (lv_at hl 4 rfl) ?_
                  refine z_iconst hx hb dX13_words_105 ?_
                  refine z_iadd hx hb dX13_words_106 ?_
                  refine lv_istore_n (lv' := [(2, .int (iI (run + 1))), (1, .int (iI (n + 0))), (3, .int (iI q2)), (5, .int (iI e0)), (4, .int (iI k)), (0, .ref m0)]) hx hb dX13_words_107 rfl hl (by decide) rfl (fun ls hl => ?_)
                  refine z_iinc (lv' := [(4, .int (iI (k + 1))), (2, .int (iI (run + 1))), (1, .int (iI (n + 0))), (3, .int (iI q2)), (5, .int (iI e0)), (0, .ref m0)]) hx hb dX13_words_108 hl (k := 4) rfl (by decide) rfl (fun ls hl => ?_)
                  refine lv_goto (tgt := 20) hx hb dX13_words_111 (by decide) ?_
                  exact ih20 (n + 0) (run + 1) q2 (k + 1)  (by omega) (by omega) (by have hq := hj81_0; rw [Int.add_zero]; exact zwi_letter hi20_1 (by omega) (by omega) (by have := hck (by omega); omega) (by omega)) (by omega) (by omega)  _ _ hZ ls (lv_sub hl [0, 3, 1, 2, 5] rfl)
                · skip
                  refine z_iconst hx hb dX13_words_100 ?_
                  refine lv_goto (tgt := 107) hx hb dX13_words_101 (by decide) ?_
                  refine lv_istore_n (lv' := [(2, .int (iI 0)), (1, .int (iI (n + 0))), (3, .int (iI q2)), (5, .int (iI e0)), (4, .int (iI k)), (0, .ref m0)]) hx hb dX13_words_107 rfl hl (by decide) rfl (fun ls hl => ?_)
                  refine z_iinc (lv' := [(4, .int (iI (k + 1))), (2, .int (iI 0)), (1, .int (iI (n + 0))), (3, .int (iI q2)), (5, .int (iI e0)), (0, .ref m0)]) hx hb dX13_words_108 hl (k := 4) rfl (by decide) rfl (fun ls hl => ?_)
                  refine lv_goto (tgt := 20) hx hb dX13_words_111 (by decide) ?_
                  exact ih20 (n + 0) 0 q2 (k + 1)  (by omega) (by omega) (by exfalso; omega) (by omega) (by omega)  _ _ hZ ls (lv_sub hl [0, 3, 1, 2, 5] rfl)
              · skip
                refine z_iconst hx hb dX13_words_88 ?_
                refine lv_goto (tgt := 93) hx hb dX13_words_89 (by decide) ?_
                refine z_iadd hx hb dX13_words_93 ?_
                refine lv_istore_n (lv' := [(1, .int (iI (n + 1))), (3, .int (iI q2)), (5, .int (iI e0)), (4, .int (iI k)), (2, .int (iI run)), (0, .ref m0)]) hx hb dX13_words_94 rfl hl (by decide) rfl (fun ls hl => ?_)
                refine lv_iload hx hb dX13_words_95 (lv_at hl 2 rfl) ?_
                refine z_if_eq (tgt := 104) hx hb dX13_words_97 (by decide) (by omega) (fun c_10 => ?_) (fun c_10 => ?_)
                · skip
                  refine lv_iload_n hx hb dX13_words_104 rfl (lv_at hl 4 rfl) ?_
                  refine z_iconst hx hb dX13_words_105 ?_
                  refine z_iadd hx hb dX13_words_106 ?_
                  refine lv_istore_n (lv' := [(2, .int (iI (run + 1))), (1, .int (iI (n + 1))), (3, .int (iI q2)), (5, .int (iI e0)), (4, .int (iI k)), (0, .ref m0)]) hx hb dX13_words_107 rfl hl (by decide) rfl (fun ls hl => ?_)
                  refine z_iinc (lv' := [(4, .int (iI (k + 1))), (2, .int (iI (run + 1))), (1, .int (iI (n + 1))), (3, .int (iI q2)), (5, .int (iI e0)), (0, .ref m0)]) hx hb dX13_words_108 hl (k := 4) rfl (by decide) rfl (fun ls hl => ?_)
                  refine lv_goto (tgt := 20) hx hb dX13_words_111 (by decide) ?_
                  exact ih20 (n + 1) (run + 1) q2 (k + 1)  (by omega) (by omega) (by exfalso; omega) (by omega) (by omega)  _ _ hZ ls (lv_sub hl [0, 3, 1, 2, 5] rfl)
                · skip
                  refine z_iconst hx hb dX13_words_100 ?_
                  refine lv_goto (tgt := 107) hx hb dX13_words_101 (by decide) ?_
                  refine lv_istore_n (lv' := [(2, .int (iI 0)), (1, .int (iI (n + 1))), (3, .int (iI q2)), (5, .int (iI e0)), (4, .int (iI k)), (0, .ref m0)]) hx hb dX13_words_107 rfl hl (by decide) rfl (fun ls hl => ?_)
                  refine z_iinc (lv' := [(4, .int (iI (k + 1))), (2, .int (iI 0)), (1, .int (iI (n + 1))), (3, .int (iI q2)), (5, .int (iI e0)), (0, .ref m0)]) hx hb dX13_words_108 hl (k := 4) rfl (by decide) rfl (fun ls hl => ?_)
                  refine lv_goto (tgt := 20) hx hb dX13_words_111 (by decide) ?_
                  exact ih20 (n + 1) 0 q2 (k + 1)  (by omega) (by omega) (by have hq := hj81_0; exact (Decidable.em (k = tx.length)).elim (fun hkl => zwi_end hi20_1 hkl (by omega) 0) (fun hkl => zwi_blank hi20_1 (by omega) (by omega) (by have := hck (by omega); omega) (by omega))) (by omega) (by omega)  _ _ hZ ls (lv_sub hl [0, 3, 1, 2, 5] rfl)
            refine lv_iload_n hx hb dX13_words_57 rfl (lv_at hl 2 rfl) ?_
            refine z_if_eq (tgt := 80) hx hb dX13_words_58 (by decide) (by omega) (fun c_11 => ?_) (fun c_11 => ?_)
            · skip
              refine z_iconst hx hb dX13_words_80 ?_
              exact J81_k_7 0   (by omega)  _ _ hZ ls (lv_sub hl [0, 1, 2, 3, 4, 5] rfl)
            · skip
              refine lv_iload hx hb dX13_words_61 (lv_at hl 0 rfl) ?_
              refine z_if_eq (tgt := 70) hx hb dX13_words_63 (by decide) (by omega) (fun c_12 => ?_) (fun c_12 => ?_)
              · skip
                refine lv_iload_n hx hb dX13_words_70 rfl (lv_at hl 3 rfl) ?_
                refine z_bipush hx hb dX13_words_71 (by decide) ?_
                refine z_icmp_gt (tgt := 80) hx hb dX13_words_73 (by decide) (by omega) (by decide) (fun c_13 => ?_) (fun c_13 => ?_)
                · skip
                  refine z_iconst hx hb dX13_words_80 ?_
                  exact J81_k_7 0   (by omega)  _ _ hZ ls (lv_sub hl [0, 1, 2, 3, 4, 5] rfl)
                · skip
                  refine z_iconst hx hb dX13_words_76 ?_
                  refine lv_goto (tgt := 81) hx hb dX13_words_77 (by decide) ?_
                  exact J81_k_7 1   (by omega)  _ _ hZ ls (lv_sub hl [0, 1, 2, 3, 4, 5] rfl)
              · skip
                refine lv_iload_n hx hb dX13_words_66 rfl (lv_at hl 3 rfl) ?_
                refine z_if_eq (tgt := 80) hx hb dX13_words_67 (by decide) (by omega) (fun c_14 => ?_) (fun c_14 => ?_)
                · skip
                  refine z_iconst hx hb dX13_words_80 ?_
                  exact J81_k_7 0   (by omega)  _ _ hZ ls (lv_sub hl [0, 1, 2, 3, 4, 5] rfl)
                · skip
                  refine lv_iload_n hx hb dX13_words_70 rfl (lv_at hl 3 rfl) ?_
                  refine z_bipush hx hb dX13_words_71 (by decide) ?_
                  refine z_icmp_gt (tgt := 80) hx hb dX13_words_73 (by decide) (by omega) (by decide) (fun c_15 => ?_) (fun c_15 => ?_)
                  · skip
                    refine z_iconst hx hb dX13_words_80 ?_
                    exact J81_k_7 0   (by omega)  _ _ hZ ls (lv_sub hl [0, 1, 2, 3, 4, 5] rfl)
                  · skip
                    refine z_iconst hx hb dX13_words_76 ?_
                    refine lv_goto (tgt := 81) hx hb dX13_words_77 (by decide) ?_
                    exact J81_k_7 1   (by omega)  _ _ hZ ls (lv_sub hl [0, 1, 2, 3, 4, 5] rfl)
          refine lv_iload hx hb dX13_words_29 (lv_at hl 0 rfl) ?_
          refine lv_aload_n hx hb dX13_words_31 rfl (lv_at hl 4 rfl) ?_
          refine m_get hC hZ 8 (x := .int (iI (v 8))) rfl (by decide) ql_X13_75 rfl dX13_words_32 ?_
          have hr_16 : -2147483648 ≤ v 8 ∧ v 8 ≤ 2147483647 := hok.1 8
          refine z_icmp_eq (tgt := 50) hx hb dX13_words_35 (by decide) (by omega) (by omega) (fun c_17 => ?_) (fun c_17 => ?_)
          · skip
            refine z_iconst hx hb dX13_words_50 ?_
            refine lv_goto (tgt := 55) hx hb dX13_words_51 (by decide) ?_
            exact J55_k_6 1   (by omega)  _ _ hZ ls (lv_sub hl [0, 1, 2, 3, 4] rfl)
          · skip
            refine lv_aload_n hx hb dX13_words_38 rfl (lv_at hl 4 rfl) ?_
            refine m_get hC hZ 7 (x := .ref (ad 7)) rfl (by decide) ql_X13_22 rfl dX13_words_39 ?_
            refine lv_iload hx hb dX13_words_42 (lv_at hl 0 rfl) ?_
            refine m_cald hC hZ hD 7 (by decide) (f := g 7) rfl rfl (by show _ ∧ _ < (60 : Int); omega) (by decide) dX13_words_44 ?_
            have hr_18 : -2147483648 ≤ (g 7) k ∧ (g 7) k ≤ 2147483647 := hok.2 7 _
            refine z_bipush hx hb dX13_words_45 (by decide) ?_
            refine z_icmp_ne (tgt := 54) hx hb dX13_words_47 (by decide) (by omega) (by decide) (fun c_19 => ?_) (fun c_19 => ?_)
            · skip
              refine z_iconst hx hb dX13_words_54 ?_
              exact J55_k_6 0   (by omega)  _ _ hZ ls (lv_sub hl [0, 1, 2, 3, 4] rfl)
            · skip
              refine z_iconst hx hb dX13_words_50 ?_
              refine lv_goto (tgt := 55) hx hb dX13_words_51 (by decide) ?_
              exact J55_k_6 1   (by omega)  _ _ hZ ls (lv_sub hl [0, 1, 2, 3, 4] rfl)
    exact L20_k_2 _ 0 0 q0 0  (Nat.lt_succ_self _) (by omega) (zwi_0 (by omega)) (by omega) (by omega)  _ _ hZ ls (lv_sub hl [0, 1, 2, 3, 4] rfl)
  refine lv_aload_n hx hb dX13_words_4 rfl (lv_at hl 2 rfl) ?_
  refine m_get hC hZ 8 (x := .int (iI (v 8))) rfl (by decide) ql_X13_75 rfl dX13_words_5 ?_
  have hr_20 : -2147483648 ≤ v 8 ∧ v 8 ≤ 2147483647 := hok.1 8
  refine z_if_le (tgt := 15) hx hb dX13_words_8 (by decide) (by omega) (fun c_21 => ?_) (fun c_21 => ?_)
  · skip
    refine z_iconst hx hb dX13_words_15 ?_
    exact J16_k_1 0   (by omega)  _ _ hZ ls (lv_sub hl [0, 1, 2] rfl)
  · skip
    refine z_iconst hx hb dX13_words_11 ?_
    refine lv_goto (tgt := 16) hx hb dX13_words_12 (by decide) ?_
    exact J16_k_1 1   (by omega)  _ _ hZ ls (lv_sub hl [0, 1, 2] rfl)

