set_option maxHeartbeats 4000000 in
set_option maxRecDepth 100000 in
theorem met_X13_takes (l : Launch) (D : va_G) (cs : Nat → ClassId) (A : Nat → Prop) (m0 : Nat) (ad : Nat → Nat) (v : Nat → Int) (g : Nat → Int → Int) (a b x : Int)  (hD : mD m0 ad) (hok : mOK v g) (ha0 : 0 ≤ a ∧ a ≤ 5) (hb0 : 0 ≤ b ∧ b ≤ 29) (h8 : 0 ≤ v 8 ∧ v 8 ≤ 60) (hx0 : 0 ≤ x ∧ x ≤ v 8) (hrun : ∀ e, x ≤ e → e ≤ v 8 → (∀ k, x ≤ k → k < e → g 7 k ≠ 32) → e - x ≤ 12) : zM l D cs A yX13_takes cX13_takes 5 (some FieldType.int) 2 0 0 [.ref m0, .int (iI a), .int (iI b), .int (iI x)] (mW cs m0 ad v g) (mP cs m0 ad (fun r v1 g1 => (x ≤ r ∧ r ≤ v 8) ∧ (∀ k, x ≤ k → k < r → g 7 k ≠ 32) ∧ (r = v 8 ∨ g 7 r = 32) ∧ v = v1 ∧ (∀ j, j ≠ 0 → g1 j = g j) ∧ mof (g1 0) a (3 + 13 * b) = r - x ∧ (∀ k, 0 ≤ k → k < r - x → mof (g1 0) a (3 + 13 * b + 1 + k) = g 7 (x + k)) ∧ (∀ k, (k < 9 + 393 * a + (3 + 13 * b) ∨ 9 + 393 * a + (3 + 13 * b) + 13 ≤ k) → g1 0 k = g 0 k))) := by
  refine zM_of (own := RX13) (by decide) rfl (Nat.le_of_ble_eq_true rfl) ?_
  intro p e s m below meth c hC hr hlk hnm hZ ls hl
  have hx := hC.x
  have hb := hC.b
  have hl : lv_has ls 5 [(0, .ref m0), (1, .int (iI a)), (2, .int (iI b)), (3, .int (iI x))] := hl
  refine lv_iload_n hx hb dX13_takes_0 rfl (lv_at hl 3 rfl) ?_
  refine lv_istore (lv' := [(4, .int (iI x)), (0, .ref m0), (1, .int (iI a)), (2, .int (iI b)), (3, .int (iI x))]) hx hb dX13_takes_1 hl (by decide) rfl (fun ls hl => ?_)
  have L3_k_1 : ∀ (fu : Nat) (i : Int) (g2 : Nat → Int → Int) (hfu : (v 8 - i).toNat < fu) (hi3_0 : x ≤ i ∧ i ≤ v 8) (hi3_1 : ∀ k, x ≤ k → k < i → g 7 k ≠ 32) (hi3_2 : ∀ j, j ≠ 0 → g2 j = g j) (hi3_3 : ∀ k, 0 ≤ k → k < i - x → mof (g2 0) a (3 + 13 * b + 1 + k) = g 7 (x + k)) (hi3_4 : ∀ k, (k < 9 + 393 * a + (3 + 13 * b) ∨ 9 + 393 * a + (3 + 13 * b) + 13 ≤ k) → g2 0 k = g 0 k) (hw : mOK v g2) (H : Heap) (locs : List Loc) (hZ : zS D A s (mW cs m0 ad v g2) H locs) (ls : Array Slot) (hl : lv_has ls 5 [(4, .int (iI i)), (0, .ref m0), (1, .int (iI a)), (2, .int (iI b)), (3, .int (iI x))]), W p l e (zR 2 0 0) s m [.ref m0, .int (iI a), .int (iI b), .int (iI x)].toArray below meth c H locs 0 0 (MQ below (zQ D A (mP cs m0 ad (fun r v1 g1 => (x ≤ r ∧ r ≤ v 8) ∧ (∀ k, x ≤ k → k < r → g 7 k ≠ 32) ∧ (r = v 8 ∨ g 7 r = 32) ∧ v = v1 ∧ (∀ j, j ≠ 0 → g1 j = g j) ∧ mof (g1 0) a (3 + 13 * b) = r - x ∧ (∀ k, 0 ≤ k → k < r - x → mof (g1 0) a (3 + 13 * b + 1 + k) = g 7 (x + k)) ∧ (∀ k, (k < 9 + 393 * a + (3 + 13 * b) ∨ 9 + 393 * a + (3 + 13 * b) + 13 ≤ k) → g1 0 k = g 0 k)))) [.ref m0, .int (iI a), .int (iI b), .int (iI x)].toArray s 0 0 A) (F0 m 3 ls []) := by
    intro fu
    induction fu with
    | zero =>
      intro i g2 hfu
      exact absurd hfu (Nat.not_lt_zero _)
    | succ fu ih3 =>
      intro i g2 hfu hi3_0 hi3_1 hi3_2 hi3_3 hi3_4 hw H locs hZ ls hl
      have e7 : g2 7 = g 7 := hi3_2 7 (by decide)
      refine lv_iload hx hb dX13_takes_3 (lv_at hl 0 rfl) ?_
      refine lv_aload_n hx hb dX13_takes_5 rfl (lv_at hl 1 rfl) ?_
      refine m_get hC hZ 8 (x := .int (iI (v 8))) rfl (by decide) ql_X13_75 rfl dX13_takes_6 ?_
      have hr_2 : -2147483648 ≤ v 8 ∧ v 8 ≤ 2147483647 := hw.1 8
      refine z_icmp_ge (tgt := 55) hx hb dX13_takes_9 (by decide) (by omega) (by omega) (fun c_3 => ?_) (fun c_3 => ?_)
      · skip
        have hru2 := hrun i (by omega) (by omega) hi3_1
        refine lv_aload_n hx hb dX13_takes_55 rfl (lv_at hl 1 rfl) ?_
        refine lv_iload_n hx hb dX13_takes_56 rfl (lv_at hl 2 rfl) ?_
        refine z_iconst hx hb dX13_takes_57 ?_
        refine z_bipush hx hb dX13_takes_58 (by decide) ?_
        refine lv_iload_n hx hb dX13_takes_60 rfl (lv_at hl 3 rfl) ?_
        refine z_imul hx hb dX13_takes_61 ?_
        refine z_iadd hx hb dX13_takes_62 ?_
        refine lv_iload hx hb dX13_takes_63 (lv_at hl 0 rfl) ?_
        refine lv_iload_n hx hb dX13_takes_65 rfl (lv_at hl 4 rfl) ?_
        refine z_isub hx hb dX13_takes_66 ?_
        refine z_callv (z_runV (rest := []) (As := [.int (iI a), .int (iI (3 + (13 * b))), .int (iI (i - x))]) (n := 3) (ci := 16) hC hZ (met_X13_sets l D cs A m0 ad v g2 a (3 + (13 * b)) (i - x)  hD hw (by omega) (by omega) (by omega)) gv_X13_78 hd_X13_sets rfl mW_o rfl hl rfl (Nat.le_of_ble_eq_true rfl) ⟨Nat.le_of_ble_eq_true rfl, Nat.le_of_ble_eq_true rfl⟩ ⟨Nat.le_of_ble_eq_true rfl, Nat.le_of_ble_eq_true rfl⟩ dX13_takes_67) hZ (fun _ H locs hp_4 hZ => ?_)
        obtain ⟨_, _, rfl, hok_5, rfl, rfl⟩ := hp_4
        refine lv_iload hx hb dX13_takes_70 (lv_at hl 0 rfl) ?_
        exact z_iret hC hr hlk hZ (by decide) (by decide) (⟨_, _, rfl, hok_5, by omega, hi3_1, by first | exact Or.inl (by omega) | exact Or.inr (by rw [← e7]; omega), rfl, (fun j hj => (upG_n hj).trans (hi3_2 j hj)), by rw [upG_s]; unfold mof; rw [upI_s], (fun k h1 h2 => by rw [upG_s]; have h3 := hi3_3 k h1 h2; unfold mof at h3 ⊢; rw [upI_n (by omega)]; exact h3), (fun k hk => by rw [upG_s, upI_n (by omega)]; exact hi3_4 k hk)⟩) dX13_takes_72
      · skip
        refine lv_aload_n hx hb dX13_takes_12 rfl (lv_at hl 1 rfl) ?_
        refine m_get hC hZ 7 (x := .ref (ad 7)) rfl (by decide) ql_X13_22 rfl dX13_takes_13 ?_
        refine lv_iload hx hb dX13_takes_16 (lv_at hl 0 rfl) ?_
        refine m_cald hC hZ hD 7 (by decide) (f := g2 7) rfl rfl (by show _ ∧ _ < (60 : Int); omega) (by decide) dX13_takes_18 ?_
        have hr_6 : -2147483648 ≤ (g2 7) i ∧ (g2 7) i ≤ 2147483647 := hw.2 7 _
        refine z_bipush hx hb dX13_takes_19 (by decide) ?_
        refine z_icmp_eq (tgt := 55) hx hb dX13_takes_21 (by decide) (by omega) (by decide) (fun c_7 => ?_) (fun c_7 => ?_)
        · skip
          have hru2 := hrun i (by omega) (by omega) hi3_1
          refine lv_aload_n hx hb dX13_takes_55 rfl (lv_at hl 1 rfl) ?_
          refine lv_iload_n hx hb dX13_takes_56 rfl (lv_at hl 2 rfl) ?_
          refine z_iconst hx hb dX13_takes_57 ?_
          refine z_bipush hx hb dX13_takes_58 (by decide) ?_
          refine lv_iload_n hx hb dX13_takes_60 rfl (lv_at hl 3 rfl) ?_
          refine z_imul hx hb dX13_takes_61 ?_
          refine z_iadd hx hb dX13_takes_62 ?_
          refine lv_iload hx hb dX13_takes_63 (lv_at hl 0 rfl) ?_
          refine lv_iload_n hx hb dX13_takes_65 rfl (lv_at hl 4 rfl) ?_
          refine z_isub hx hb dX13_takes_66 ?_
          refine z_callv (z_runV (rest := []) (As := [.int (iI a), .int (iI (3 + (13 * b))), .int (iI (i - x))]) (n := 3) (ci := 16) hC hZ (met_X13_sets l D cs A m0 ad v g2 a (3 + (13 * b)) (i - x)  hD hw (by omega) (by omega) (by omega)) gv_X13_78 hd_X13_sets rfl mW_o rfl hl rfl (Nat.le_of_ble_eq_true rfl) ⟨Nat.le_of_ble_eq_true rfl, Nat.le_of_ble_eq_true rfl⟩ ⟨Nat.le_of_ble_eq_true rfl, Nat.le_of_ble_eq_true rfl⟩ dX13_takes_67) hZ (fun _ H locs hp_8 hZ => ?_)
          obtain ⟨_, _, rfl, hok_9, rfl, rfl⟩ := hp_8
          refine lv_iload hx hb dX13_takes_70 (lv_at hl 0 rfl) ?_
          exact z_iret hC hr hlk hZ (by decide) (by decide) (⟨_, _, rfl, hok_9, by omega, hi3_1, by first | exact Or.inl (by omega) | exact Or.inr (by rw [← e7]; omega), rfl, (fun j hj => (upG_n hj).trans (hi3_2 j hj)), by rw [upG_s]; unfold mof; rw [upI_s], (fun k h1 h2 => by rw [upG_s]; have h3 := hi3_3 k h1 h2; unfold mof at h3 ⊢; rw [upI_n (by omega)]; exact h3), (fun k hk => by rw [upG_s, upI_n (by omega)]; exact hi3_4 k hk)⟩) dX13_takes_72
        · skip
          have hn32 : g 7 i ≠ 32 := by rw [← e7]; omega
          have hru := hrun (i + 1) (by omega) (by omega) (fun k h1 h2 => (Int.lt_or_eq_of_le (Int.le_of_lt_add_one h2)).elim (hi3_1 k h1) (fun q => by rw [q]; exact hn32))
          refine lv_aload_n hx hb dX13_takes_24 rfl (lv_at hl 1 rfl) ?_
          refine lv_iload_n hx hb dX13_takes_25 rfl (lv_at hl 2 rfl) ?_
          refine z_iconst hx hb dX13_takes_26 ?_
          refine z_bipush hx hb dX13_takes_27 (by decide) ?_
          refine lv_iload_n hx hb dX13_takes_29 rfl (lv_at hl 3 rfl) ?_
          refine z_imul hx hb dX13_takes_30 ?_
          refine z_iadd hx hb dX13_takes_31 ?_
          refine z_iconst hx hb dX13_takes_32 ?_
          refine z_iadd hx hb dX13_takes_33 ?_
          refine lv_iload hx hb dX13_takes_34 (lv_at hl 0 rfl) ?_
          refine z_iadd hx hb dX13_takes_36 ?_
          refine lv_iload_n hx hb dX13_takes_37 rfl (lv_at hl 4 rfl) ?_
          refine z_isub hx hb dX13_takes_38 ?_
          refine lv_aload_n hx hb dX13_takes_39 rfl (lv_at hl 1 rfl) ?_
          refine m_get hC hZ 7 (x := .ref (ad 7)) rfl (by decide) ql_X13_22 rfl dX13_takes_40 ?_
          refine lv_iload hx hb dX13_takes_43 (lv_at hl 0 rfl) ?_
          refine m_cald hC hZ hD 7 (by decide) (f := g2 7) rfl rfl (by show _ ∧ _ < (60 : Int); omega) (by decide) dX13_takes_45 ?_
          have hr_10 : -2147483648 ≤ (g2 7) i ∧ (g2 7) i ≤ 2147483647 := hw.2 7 _
          refine z_callv (z_runV (rest := []) (As := [.int (iI a), .int (iI ((((3 + (13 * b)) + 1) + i) - x)), .int (iI ((g2 7) i))]) (n := 3) (ci := 16) hC hZ (met_X13_sets l D cs A m0 ad v g2 a ((((3 + (13 * b)) + 1) + i) - x) ((g2 7) i)  hD hw (by omega) (by omega) (by omega)) gv_X13_78 hd_X13_sets rfl mW_o rfl hl rfl (Nat.le_of_ble_eq_true rfl) ⟨Nat.le_of_ble_eq_true rfl, Nat.le_of_ble_eq_true rfl⟩ ⟨Nat.le_of_ble_eq_true rfl, Nat.le_of_ble_eq_true rfl⟩ dX13_takes_46) hZ (fun _ H locs hp_11 hZ => ?_)
          obtain ⟨_, _, rfl, hok_12, rfl, rfl⟩ := hp_11
          refine z_iinc (lv' := [(4, .int (iI (i + 1))), (0, .ref m0), (1, .int (iI a)), (2, .int (iI b)), (3, .int (iI x))]) hx hb dX13_takes_49 hl (k := 0) rfl (by decide) rfl (fun ls hl => ?_)
          refine lv_goto (tgt := 3) hx hb dX13_takes_52 (by decide) ?_
          exact ih3 (i + 1) (upG g2 0 (upI (g2 0) (9 + 393 * a + ((((3 + (13 * b)) + 1) + i) - x)) ((g2 7) i))) (by omega) (by omega) (fun k h1 h2 => (Int.lt_or_eq_of_le (Int.le_of_lt_add_one h2)).elim (hi3_1 k h1) (fun q => by rw [q]; exact hn32)) (fun j hj => (upG_n hj).trans (hi3_2 j hj)) (fun k h1 h2 => by
              rw [upG_s]
              unfold mof
              by_cases q : k = i - x
              · rw [q, show 9 + 393 * a + (3 + 13 * b + 1 + (i - x)) = 9 + 393 * a + (3 + 13 * b + 1 + i - x) by omega, upI_s, e7]
                congr 1
                omega
              · have h3 := hi3_3 k h1 (by omega)
                unfold mof at h3
                rw [upI_n (by omega)]
                exact h3) (fun k hk => by rw [upG_s, upI_n (by omega)]; exact hi3_4 k hk) hok_12 _ _ hZ ls (lv_sub hl [0, 1, 2, 3, 4] rfl)
  exact L3_k_1 _ x g (Nat.lt_succ_self _) (by omega) (fun k h1 h2 => absurd h1 (by omega)) (fun _ _ => rfl) (fun k h1 h2 => absurd h1 (by omega)) (fun _ _ => rfl) hok _ _ hZ ls (lv_sub hl [0, 1, 2, 3, 4] rfl)

