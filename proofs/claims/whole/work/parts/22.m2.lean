set_option maxHeartbeats 4000000 in
set_option maxRecDepth 100000 in
theorem met_X13_long1 (l : Launch) (D : va_G) (cs : Nat → ClassId) (A : Nat → Prop) (m0 : Nat) (ad : Nat → Nat) (v : Nat → Int) (g : Nat → Int → Int) (a b : Int)  (hD : mD m0 ad) (hok : mOK v g) (ha0 : 0 ≤ a ∧ a ≤ 5) (hb0 : 0 ≤ b ∧ b ≤ 29) : zM l D cs A yX13_long1 cX13_long1 3 (some FieldType.int) 2 0 0 [.ref m0, .int (iI a), .int (iI b)] (mW cs m0 ad v g) (mP cs m0 ad (fun r v1 g1 => v = v1 ∧ g = g1 ∧ mof (g 0) a (3 + 13 * b) = r)) := by
  refine zM_of (own := RX13) (by decide) rfl (Nat.le_of_ble_eq_true rfl) ?_
  intro p e s m below meth c hC hr hlk hnm hZ ls hl
  have hx := hC.x
  have hb := hC.b
  have hl : lv_has ls 3 [(0, .ref m0), (1, .int (iI a)), (2, .int (iI b))] := hl
  refine lv_aload_n hx hb dX13_long1_0 rfl (lv_at hl 0 rfl) ?_
  refine lv_iload_n hx hb dX13_long1_1 rfl (lv_at hl 1 rfl) ?_
  refine z_iconst hx hb dX13_long1_2 ?_
  refine z_bipush hx hb dX13_long1_3 (by decide) ?_
  refine lv_iload_n hx hb dX13_long1_5 rfl (lv_at hl 2 rfl) ?_
  refine z_imul hx hb dX13_long1_6 ?_
  refine z_iadd hx hb dX13_long1_7 ?_
  refine z_calli (z_runV (rest := []) (As := [.int (iI a), .int (iI (3 + (13 * b)))]) (n := 2) (ci := 16) hC hZ (met_X13_of l D cs A m0 ad v g a (3 + (13 * b))  hD hok (by omega) (by omega)) gv_X13_67 hd_X13_of rfl mW_o rfl hl rfl (Nat.le_of_ble_eq_true rfl) ⟨Nat.le_of_ble_eq_true rfl, Nat.le_of_ble_eq_true rfl⟩ ⟨Nat.le_of_ble_eq_true rfl, Nat.le_of_ble_eq_true rfl⟩ dX13_long1_8) hZ (fun r8 _ H locs hp_1 hZ => ?_)
  obtain ⟨_, _, rfl, _, rfl, rfl, rfl⟩ := hp_1
  have hr_2 : -2147483648 ≤ mof (g 0) a (3 + (13 * b)) ∧ mof (g 0) a (3 + (13 * b)) ≤ 2147483647 := hok.2 0 _
  exact z_iret hC hr hlk hZ (by decide) (by decide) (⟨_, _, rfl, ‹mOK v g›, rfl, rfl, rfl⟩) dX13_long1_11

set_option maxHeartbeats 4000000 in
set_option maxRecDepth 100000 in
theorem met_X13_letter (l : Launch) (D : va_G) (cs : Nat → ClassId) (A : Nat → Prop) (m0 : Nat) (ad : Nat → Nat) (v : Nat → Int) (g : Nat → Int → Int) (a b x : Int)  (hD : mD m0 ad) (hok : mOK v g) (ha0 : 0 ≤ a ∧ a ≤ 5) (hb0 : 0 ≤ b ∧ b ≤ 29) (hx0 : 0 ≤ x ∧ x ≤ 11) (hch : 0 ≤ mof (g 0) a (3 + 13 * b + 1 + x) ∧ mof (g 0) a (3 + 13 * b + 1 + x) ≤ 65535) : zM l D cs A yX13_letter cX13_letter 4 (some FieldType.char) 2 0 0 [.ref m0, .int (iI a), .int (iI b), .int (iI x)] (mW cs m0 ad v g) (mP cs m0 ad (fun r v1 g1 => v = v1 ∧ g = g1 ∧ mof (g 0) a (3 + 13 * b + 1 + x) = r)) := by
  refine zM_of (own := RX13) (by decide) rfl (Nat.le_of_ble_eq_true rfl) ?_
  intro p e s m below meth c hC hr hlk hnm hZ ls hl
  have hx := hC.x
  have hb := hC.b
  have hl : lv_has ls 4 [(0, .ref m0), (1, .int (iI a)), (2, .int (iI b)), (3, .int (iI x))] := hl
  refine lv_aload_n hx hb dX13_letter_0 rfl (lv_at hl 0 rfl) ?_
  refine lv_iload_n hx hb dX13_letter_1 rfl (lv_at hl 1 rfl) ?_
  refine z_iconst hx hb dX13_letter_2 ?_
  refine z_bipush hx hb dX13_letter_3 (by decide) ?_
  refine lv_iload_n hx hb dX13_letter_5 rfl (lv_at hl 2 rfl) ?_
  refine z_imul hx hb dX13_letter_6 ?_
  refine z_iadd hx hb dX13_letter_7 ?_
  refine z_iconst hx hb dX13_letter_8 ?_
  refine z_iadd hx hb dX13_letter_9 ?_
  refine lv_iload_n hx hb dX13_letter_10 rfl (lv_at hl 3 rfl) ?_
  refine z_iadd hx hb dX13_letter_11 ?_
  refine z_calli (z_runV (rest := []) (As := [.int (iI a), .int (iI (((3 + (13 * b)) + 1) + x))]) (n := 2) (ci := 16) hC hZ (met_X13_of l D cs A m0 ad v g a (((3 + (13 * b)) + 1) + x)  hD hok (by omega) (by omega)) gv_X13_67 hd_X13_of rfl mW_o rfl hl rfl (Nat.le_of_ble_eq_true rfl) ⟨Nat.le_of_ble_eq_true rfl, Nat.le_of_ble_eq_true rfl⟩ ⟨Nat.le_of_ble_eq_true rfl, Nat.le_of_ble_eq_true rfl⟩ dX13_letter_12) hZ (fun r12 _ H locs hp_1 hZ => ?_)
  obtain ⟨_, _, rfl, _, rfl, rfl, rfl⟩ := hp_1
  have hr_2 : -2147483648 ≤ mof (g 0) a (((3 + (13 * b)) + 1) + x) ∧ mof (g 0) a (((3 + (13 * b)) + 1) + x) ≤ 2147483647 := hok.2 0 _
  refine z_i2c hx hb dX13_letter_15 (by omega) ?_
  exact z_zret hC hr hlk hZ (iI_narC (by omega)).1 (by decide) (by decide) (⟨_, _, rfl, ‹mOK v g›, rfl, rfl, rfl⟩) dX13_letter_16

set_option maxHeartbeats 4000000 in
set_option maxRecDepth 100000 in
theorem met_X13_isWord (l : Launch) (D : va_G) (cs : Nat → ClassId) (A : Nat → Prop) (m0 : Nat) (ad : Nat → Nat) (v : Nat → Int) (g : Nat → Int → Int) (a b : Int)  (hD : mD m0 ad) (hok : mOK v g) (ha0 : 0 ≤ a ∧ a ≤ 5) (hb0 : InR b) (hn : 0 ≤ mof (g 0) a 2) : zM l D cs A yX13_isWord cX13_isWord 3 (some FieldType.boolean) 2 0 0 [.ref m0, .int (iI a), .int (iI b)] (mW cs m0 ad v g) (mP cs m0 ad (fun r v1 g1 => v = v1 ∧ g = g1 ∧ (((0 ≤ b ∧ b ≤ mof (g 0) a 2 - 1) ∧ r = 1) ∨ (¬ (0 ≤ b ∧ b ≤ mof (g 0) a 2 - 1) ∧ r = 0)))) := by
  refine zM_of (own := RX13) (by decide) rfl (Nat.le_of_ble_eq_true rfl) ?_
  intro p e s m below meth c hC hr hlk hnm hZ ls hl
  have hx := hC.x
  have hb := hC.b
  have hl : lv_has ls 3 [(0, .ref m0), (1, .int (iI a)), (2, .int (iI b))] := hl
  refine lv_iload_n hx hb dX13_isWord_0 rfl (lv_at hl 2 rfl) ?_
  refine z_iconst hx hb dX13_isWord_1 ?_
  refine lv_aload_n hx hb dX13_isWord_2 rfl (lv_at hl 0 rfl) ?_
  refine lv_iload_n hx hb dX13_isWord_3 rfl (lv_at hl 1 rfl) ?_
  refine z_iconst hx hb dX13_isWord_4 ?_
  refine z_calli (z_runV (rest := [.int (iI 0), .int (iI b)]) (As := [.int (iI a), .int (iI 2)]) (n := 2) (ci := 16) hC hZ (met_X13_of l D cs A m0 ad v g a 2  hD hok (by omega) (by omega)) gv_X13_67 hd_X13_of rfl mW_o rfl hl rfl (Nat.le_of_ble_eq_true rfl) ⟨Nat.le_of_ble_eq_true rfl, Nat.le_of_ble_eq_true rfl⟩ ⟨Nat.le_of_ble_eq_true rfl, Nat.le_of_ble_eq_true rfl⟩ dX13_isWord_5) hZ (fun r5 _ H locs hp_1 hZ => ?_)
  obtain ⟨_, _, rfl, _, rfl, rfl, rfl⟩ := hp_1
  have hr_2 : -2147483648 ≤ mof (g 0) a 2 ∧ mof (g 0) a 2 ≤ 2147483647 := hok.2 0 _
  refine z_iconst hx hb dX13_isWord_8 ?_
  refine z_isub hx hb dX13_isWord_9 ?_
  refine z_calli (z_runS (rest := []) (As := [.int (iI b), .int (iI 0), .int (iI ((mof (g 0) a 2) - 1))]) (n := 3) hC hZ (met_X13_in l D cs A (mW cs m0 ad v g) b 0 ((mof (g 0) a 2) - 1) (by omega) (by decide) (by omega)) gs_X13_71 he_X13_in rfl hl rfl (Nat.le_of_ble_eq_true rfl) ⟨Nat.le_of_ble_eq_true rfl, Nat.le_of_ble_eq_true rfl⟩ ⟨Nat.le_of_ble_eq_true rfl, Nat.le_of_ble_eq_true rfl⟩ dX13_isWord_10) hZ (fun r10 _ H locs hp_3 hZ => ?_)
  obtain ⟨rfl, hp_3⟩ := hp_3
  exact z_zret hC hr hlk hZ (iI_zr (by omega)) (by decide) (by decide) (⟨_, _, rfl, ‹mOK v g›, rfl, rfl, hp_3⟩) dX13_isWord_13

set_option maxHeartbeats 4000000 in
set_option maxRecDepth 100000 in
theorem met_X13_isVowel (l : Launch) (D : va_G) (cs : Nat → ClassId) (A : Nat → Prop) (F : zF) (x : Int)   (hx0 : 0 ≤ x ∧ x ≤ 65535) : zM l D cs A yX13_isVowel cX13_isVowel 1 (some FieldType.boolean) 1 0 0 [.int (iI x)] F (pI (fun r F1 => F = F1 ∧ (isV x = true ∧ r = 1 ∨ isV x = false ∧ r = 0))) := by
  refine zM_of (own := RX13) (by decide) rfl (Nat.le_of_ble_eq_true rfl) ?_
  intro p e s m below meth c hC hr hlk hnm hZ ls hl
  have hx := hC.x
  have hb := hC.b
  have hl : lv_has ls 1 [(0, .int (iI x))] := hl
  refine lv_iload_n hx hb dX13_isVowel_0 rfl (lv_at hl 0 rfl) ?_
  refine z_bipush hx hb dX13_isVowel_1 (by decide) ?_
  refine z_icmp_eq (tgt := 30) hx hb dX13_isVowel_3 (by decide) (by omega) (by decide) (fun c_1 => ?_) (fun c_1 => ?_)
  · skip
    refine z_iconst hx hb dX13_isVowel_30 ?_
    refine lv_goto (tgt := 35) hx hb dX13_isVowel_31 (by decide) ?_
    exact z_zret hC hr hlk hZ rfl (by decide) (by decide) (⟨rfl, Or.inl ⟨by (unfold isV; simp; omega), rfl⟩⟩) dX13_isVowel_35
  · skip
    refine lv_iload_n hx hb dX13_isVowel_6 rfl (lv_at hl 0 rfl) ?_
    refine z_bipush hx hb dX13_isVowel_7 (by decide) ?_
    refine z_icmp_eq (tgt := 30) hx hb dX13_isVowel_9 (by decide) (by omega) (by decide) (fun c_2 => ?_) (fun c_2 => ?_)
    · skip
      refine z_iconst hx hb dX13_isVowel_30 ?_
      refine lv_goto (tgt := 35) hx hb dX13_isVowel_31 (by decide) ?_
      exact z_zret hC hr hlk hZ rfl (by decide) (by decide) (⟨rfl, Or.inl ⟨by (unfold isV; simp; omega), rfl⟩⟩) dX13_isVowel_35
    · skip
      refine lv_iload_n hx hb dX13_isVowel_12 rfl (lv_at hl 0 rfl) ?_
      refine z_bipush hx hb dX13_isVowel_13 (by decide) ?_
      refine z_icmp_eq (tgt := 30) hx hb dX13_isVowel_15 (by decide) (by omega) (by decide) (fun c_3 => ?_) (fun c_3 => ?_)
      · skip
        refine z_iconst hx hb dX13_isVowel_30 ?_
        refine lv_goto (tgt := 35) hx hb dX13_isVowel_31 (by decide) ?_
        exact z_zret hC hr hlk hZ rfl (by decide) (by decide) (⟨rfl, Or.inl ⟨by (unfold isV; simp; omega), rfl⟩⟩) dX13_isVowel_35
      · skip
        refine lv_iload_n hx hb dX13_isVowel_18 rfl (lv_at hl 0 rfl) ?_
        refine z_bipush hx hb dX13_isVowel_19 (by decide) ?_
        refine z_icmp_eq (tgt := 30) hx hb dX13_isVowel_21 (by decide) (by omega) (by decide) (fun c_4 => ?_) (fun c_4 => ?_)
        · skip
          refine z_iconst hx hb dX13_isVowel_30 ?_
          refine lv_goto (tgt := 35) hx hb dX13_isVowel_31 (by decide) ?_
          exact z_zret hC hr hlk hZ rfl (by decide) (by decide) (⟨rfl, Or.inl ⟨by (unfold isV; simp; omega), rfl⟩⟩) dX13_isVowel_35
        · skip
          refine lv_iload_n hx hb dX13_isVowel_24 rfl (lv_at hl 0 rfl) ?_
          refine z_bipush hx hb dX13_isVowel_25 (by decide) ?_
          refine z_icmp_ne (tgt := 34) hx hb dX13_isVowel_27 (by decide) (by omega) (by decide) (fun c_5 => ?_) (fun c_5 => ?_)
          · skip
            refine z_iconst hx hb dX13_isVowel_34 ?_
            exact z_zret hC hr hlk hZ rfl (by decide) (by decide) (⟨rfl, Or.inr ⟨by (unfold isV; simp; omega), rfl⟩⟩) dX13_isVowel_35
          · skip
            refine z_iconst hx hb dX13_isVowel_30 ?_
            refine lv_goto (tgt := 35) hx hb dX13_isVowel_31 (by decide) ?_
            exact z_zret hC hr hlk hZ rfl (by decide) (by decide) (⟨rfl, Or.inl ⟨by (unfold isV; simp; omega), rfl⟩⟩) dX13_isVowel_35

theorem cut_iff {wd : zWd} {x r1 r2 : Int} (h1 : 2 ≤ x) (h2 : x ≤ (wd.length : Int) - 2) (p : isV (wd.getD (x.toNat - 1) 0) = true) (q : isV (wd.getD x.toNat 0) = false) : cutOK wd x := ⟨h1, h2, p, q⟩
set_option maxHeartbeats 4000000 in
set_option maxRecDepth 100000 in
theorem met_X13_divides (l : Launch) (D : va_G) (cs : Nat → ClassId) (A : Nat → Prop) (m0 : Nat) (ad : Nat → Nat) (v : Nat → Int) (g : Nat → Int → Int) (a b x : Int) (wd : zWd) (hD : mD m0 ad) (hok : mOK v g) (ha0 : 0 ≤ a ∧ a ≤ 5) (hb0 : 0 ≤ b ∧ b ≤ 29) (hx0 : InR x) (hwd : wdOK wd) (hln : mof (g 0) a (3 + 13 * b) = wd.length) (hlt : ∀ k : Int, 0 ≤ k → k < wd.length → mof (g 0) a (3 + 13 * b + 1 + k) = wd.getD k.toNat 0 ∧ 97 ≤ wd.getD k.toNat 0 ∧ wd.getD k.toNat 0 ≤ 122) : zM l D cs A yX13_divides cX13_divides 4 (some FieldType.boolean) 3 0 0 [.ref m0, .int (iI a), .int (iI b), .int (iI x)] (mW cs m0 ad v g) (mP cs m0 ad (fun r v1 g1 => v = v1 ∧ g = g1 ∧ ((cutOK wd x ∧ r = 1) ∨ (¬ cutOK wd x ∧ r = 0)))) := by
  refine zM_of (own := RX13) (by decide) rfl (Nat.le_of_ble_eq_true rfl) ?_
  intro p e s m below meth c hC hr hlk hnm hZ ls hl
  have hx := hC.x
  have hb := hC.b
  have hl : lv_has ls 4 [(0, .ref m0), (1, .int (iI a)), (2, .int (iI b)), (3, .int (iI x))] := hl
  have hwl := hwd.1
  refine lv_iload_n hx hb dX13_divides_0 rfl (lv_at hl 3 rfl) ?_
  refine z_iconst hx hb dX13_divides_1 ?_
  refine lv_aload_n hx hb dX13_divides_2 rfl (lv_at hl 0 rfl) ?_
  refine lv_iload_n hx hb dX13_divides_3 rfl (lv_at hl 1 rfl) ?_
  refine lv_iload_n hx hb dX13_divides_4 rfl (lv_at hl 2 rfl) ?_
  refine z_calli (z_runV (rest := [.int (iI 2), .int (iI x)]) (As := [.int (iI a), .int (iI b)]) (n := 2) (ci := 16) hC hZ (met_X13_long1 l D cs A m0 ad v g a b  hD hok (by omega) (by omega)) gv_X13_113 hd_X13_long1 rfl mW_o rfl hl rfl (Nat.le_of_ble_eq_true rfl) ⟨Nat.le_of_ble_eq_true rfl, Nat.le_of_ble_eq_true rfl⟩ ⟨Nat.le_of_ble_eq_true rfl, Nat.le_of_ble_eq_true rfl⟩ dX13_divides_5) hZ (fun r5 _ H locs hp_1 hZ => ?_)
  obtain ⟨_, _, rfl, _, rfl, rfl, rfl⟩ := hp_1
  have hr_2 : -2147483648 ≤ mof (g 0) a (3 + 13 * b) ∧ mof (g 0) a (3 + 13 * b) ≤ 2147483647 := hok.2 0 _
  refine z_iconst hx hb dX13_divides_8 ?_
  refine z_isub hx hb dX13_divides_9 ?_
  refine z_calli (z_runS (rest := []) (As := [.int (iI x), .int (iI 2), .int (iI ((mof (g 0) a (3 + 13 * b)) - 2))]) (n := 3) hC hZ (met_X13_in l D cs A (mW cs m0 ad v g) x 2 ((mof (g 0) a (3 + 13 * b)) - 2) (by omega) (by decide) (by omega)) gs_X13_71 he_X13_in rfl hl rfl (Nat.le_of_ble_eq_true rfl) ⟨Nat.le_of_ble_eq_true rfl, Nat.le_of_ble_eq_true rfl⟩ ⟨Nat.le_of_ble_eq_true rfl, Nat.le_of_ble_eq_true rfl⟩ dX13_divides_10) hZ (fun r10 _ H locs hp_3 hZ => ?_)
  obtain ⟨rfl, hp_3⟩ := hp_3
  have hin := hp_3
  refine z_if_eq (tgt := 48) hx hb dX13_divides_13 (by decide) (by omega) (fun c_4 => ?_) (fun c_4 => ?_)
  · skip
    refine z_iconst hx hb dX13_divides_48 ?_
    exact z_zret hC hr hlk hZ rfl (by decide) (by decide) (⟨_, _, rfl, ‹mOK v g›, rfl, rfl, Or.inr ⟨fun q => by obtain ⟨q1, q2, q3, q4⟩ := q; first | omega | (rw [q3] at hv1; simp at hv1; omega) | (rw [q4] at hv2; simp at hv2; omega), rfl⟩⟩) dX13_divides_49
  · skip
    have hb2 : 2 ≤ x ∧ x ≤ mof (g 0) a (3 + 13 * b) - 2 := by omega
    have ht1 := hlt (x - 1) (by omega) (by omega)
    have ht2 := hlt x (by omega) (by omega)
    have hm1 : (x - 1).toNat = x.toNat - 1 := by omega
    rw [hm1] at ht1
    refine lv_aload_n hx hb dX13_divides_16 rfl (lv_at hl 0 rfl) ?_
    refine lv_iload_n hx hb dX13_divides_17 rfl (lv_at hl 1 rfl) ?_
    refine lv_iload_n hx hb dX13_divides_18 rfl (lv_at hl 2 rfl) ?_
    refine lv_iload_n hx hb dX13_divides_19 rfl (lv_at hl 3 rfl) ?_
    refine z_iconst hx hb dX13_divides_20 ?_
    refine z_isub hx hb dX13_divides_21 ?_
    refine z_calli (z_runV (rest := []) (As := [.int (iI a), .int (iI b), .int (iI (x - 1))]) (n := 3) (ci := 16) hC hZ (met_X13_letter l D cs A m0 ad v g a b (x - 1)  hD hok (by omega) (by omega) (by omega) (by omega)) gv_X13_136 hd_X13_letter rfl mW_o rfl hl rfl (Nat.le_of_ble_eq_true rfl) ⟨Nat.le_of_ble_eq_true rfl, Nat.le_of_ble_eq_true rfl⟩ ⟨Nat.le_of_ble_eq_true rfl, Nat.le_of_ble_eq_true rfl⟩ dX13_divides_22) hZ (fun r22 _ H locs hp_5 hZ => ?_)
    obtain ⟨_, _, rfl, _, rfl, rfl, rfl⟩ := hp_5
    have hr_6 : -2147483648 ≤ mof (g 0) a (3 + 13 * b + 1 + (x - 1)) ∧ mof (g 0) a (3 + 13 * b + 1 + (x - 1)) ≤ 2147483647 := hok.2 0 _
    refine z_calli (z_runS (rest := []) (As := [.int (iI (mof (g 0) a (3 + 13 * b + 1 + (x - 1))))]) (n := 1) hC hZ (met_X13_isVowel l D cs A (mW cs m0 ad v g) (mof (g 0) a (3 + 13 * b + 1 + (x - 1))) (by omega)) gs_X13_140 he_X13_isVowel rfl hl rfl (Nat.le_of_ble_eq_true rfl) ⟨Nat.le_of_ble_eq_true rfl, Nat.le_of_ble_eq_true rfl⟩ ⟨Nat.le_of_ble_eq_true rfl, Nat.le_of_ble_eq_true rfl⟩ dX13_divides_25) hZ (fun r25 _ H locs hp_7 hZ => ?_)
    obtain ⟨rfl, hp_7⟩ := hp_7
    have hv1 := hp_7
    rw [ht1.1] at hv1
    refine z_if_eq (tgt := 48) hx hb dX13_divides_28 (by decide) (by omega) (fun c_8 => ?_) (fun c_8 => ?_)
    · skip
      refine z_iconst hx hb dX13_divides_48 ?_
      exact z_zret hC hr hlk hZ rfl (by decide) (by decide) (⟨_, _, rfl, ‹mOK v g›, rfl, rfl, Or.inr ⟨fun q => by obtain ⟨q1, q2, q3, q4⟩ := q; first | omega | (rw [q3] at hv1; simp at hv1; omega) | (rw [q4] at hv2; simp at hv2; omega), rfl⟩⟩) dX13_divides_49
    · skip
      refine lv_aload_n hx hb dX13_divides_31 rfl (lv_at hl 0 rfl) ?_
      refine lv_iload_n hx hb dX13_divides_32 rfl (lv_at hl 1 rfl) ?_
      refine lv_iload_n hx hb dX13_divides_33 rfl (lv_at hl 2 rfl) ?_
      refine lv_iload_n hx hb dX13_divides_34 rfl (lv_at hl 3 rfl) ?_
      refine z_calli (z_runV (rest := []) (As := [.int (iI a), .int (iI b), .int (iI x)]) (n := 3) (ci := 16) hC hZ (met_X13_letter l D cs A m0 ad v g a b x  hD hok (by omega) (by omega) (by omega) (by omega)) gv_X13_136 hd_X13_letter rfl mW_o rfl hl rfl (Nat.le_of_ble_eq_true rfl) ⟨Nat.le_of_ble_eq_true rfl, Nat.le_of_ble_eq_true rfl⟩ ⟨Nat.le_of_ble_eq_true rfl, Nat.le_of_ble_eq_true rfl⟩ dX13_divides_35) hZ (fun r35 _ H locs hp_9 hZ => ?_)
      obtain ⟨_, _, rfl, _, rfl, rfl, rfl⟩ := hp_9
      have hr_10 : -2147483648 ≤ mof (g 0) a (3 + 13 * b + 1 + x) ∧ mof (g 0) a (3 + 13 * b + 1 + x) ≤ 2147483647 := hok.2 0 _
      refine z_calli (z_runS (rest := []) (As := [.int (iI (mof (g 0) a (3 + 13 * b + 1 + x)))]) (n := 1) hC hZ (met_X13_isVowel l D cs A (mW cs m0 ad v g) (mof (g 0) a (3 + 13 * b + 1 + x)) (by omega)) gs_X13_140 he_X13_isVowel rfl hl rfl (Nat.le_of_ble_eq_true rfl) ⟨Nat.le_of_ble_eq_true rfl, Nat.le_of_ble_eq_true rfl⟩ ⟨Nat.le_of_ble_eq_true rfl, Nat.le_of_ble_eq_true rfl⟩ dX13_divides_38) hZ (fun r38 _ H locs hp_11 hZ => ?_)
      obtain ⟨rfl, hp_11⟩ := hp_11
      have hv2 := hp_11
      rw [ht2.1] at hv2
      refine z_if_ne (tgt := 48) hx hb dX13_divides_41 (by decide) (by omega) (fun c_12 => ?_) (fun c_12 => ?_)
      · skip
        refine z_iconst hx hb dX13_divides_48 ?_
        exact z_zret hC hr hlk hZ rfl (by decide) (by decide) (⟨_, _, rfl, ‹mOK v g›, rfl, rfl, Or.inr ⟨fun q => by obtain ⟨q1, q2, q3, q4⟩ := q; first | omega | (rw [q3] at hv1; simp at hv1; omega) | (rw [q4] at hv2; simp at hv2; omega), rfl⟩⟩) dX13_divides_49
      · skip
        refine z_iconst hx hb dX13_divides_44 ?_
        refine lv_goto (tgt := 49) hx hb dX13_divides_45 (by decide) ?_
        exact z_zret hC hr hlk hZ rfl (by decide) (by decide) (⟨_, _, rfl, ‹mOK v g›, rfl, rfl, Or.inl ⟨⟨by omega, by omega, (hv1.resolve_right (fun q => by omega)).1, (hv2.resolve_left (fun q => by omega)).1⟩, rfl⟩⟩) dX13_divides_49

set_option maxHeartbeats 4000000 in
set_option maxRecDepth 100000 in
theorem met_X13_articleCount (l : Launch) (D : va_G) (cs : Nat → ClassId) (A : Nat → Prop) (m0 : Nat) (ad : Nat → Nat) (v : Nat → Int) (g : Nat → Int → Int)   (hD : mD m0 ad) (hok : mOK v g)  : zM l D cs A yX13_articleCount cX13_articleCount 1 (some FieldType.int) 1 0 0 [.ref m0] (mW cs m0 ad v g) (mP cs m0 ad (fun r v1 g1 => upN v 6 0 = v1 ∧ g = g1 ∧ g 0 0 = r)) := by
  refine zM_of (own := RX13) (by decide) rfl (Nat.le_of_ble_eq_true rfl) ?_
  intro p e s m below meth c hC hr hlk hnm hZ ls hl
  have hx := hC.x
  have hb := hC.b
  have hl : lv_has ls 1 [(0, .ref m0)] := hl
  refine lv_aload_n hx hb dX13_articleCount_0 rfl (lv_at hl 0 rfl) ?_
  refine z_iconst hx hb dX13_articleCount_1 ?_
  refine m_put hC hZ 6 (ty := .int) (by decide) ql_X13_55 rfl rfl rfl (Or.inl rfl) rfl dX13_articleCount_2 (fun H locs hZ => ?_)
  have hok_1 := hok.v (k := 6) (x := 0) (by decide)
  refine lv_aload_n hx hb dX13_articleCount_5 rfl (lv_at hl 0 rfl) ?_
  refine m_get hC hZ 0 (x := .ref (ad 0)) rfl (by decide) ql_X13_9 rfl dX13_articleCount_6 ?_
  refine z_iconst hx hb dX13_articleCount_9 ?_
  refine m_iald hC hZ hD 0 (by decide) (f := g 0) rfl rfl (by decide) (by decide) dX13_articleCount_10 ?_
  have hr_2 : -2147483648 ≤ (g 0) 0 ∧ (g 0) 0 ≤ 2147483647 := hok_1.2 0 _
  exact z_iret hC hr hlk hZ (by decide) (by decide) (⟨_, _, rfl, hok_1, rfl, rfl, rfl⟩) dX13_articleCount_11

set_option maxHeartbeats 4000000 in
set_option maxRecDepth 100000 in
theorem met_X13_lateCorrections (l : Launch) (D : va_G) (cs : Nat → ClassId) (A : Nat → Prop) (m0 : Nat) (ad : Nat → Nat) (v : Nat → Int) (g : Nat → Int → Int)   (hD : mD m0 ad) (hok : mOK v g)  : zM l D cs A yX13_lateCorrections cX13_lateCorrections 1 (some FieldType.int) 1 0 0 [.ref m0] (mW cs m0 ad v g) (mP cs m0 ad (fun r v1 g1 => upN v 6 0 = v1 ∧ g = g1 ∧ g 0 6 = r)) := by
  refine zM_of (own := RX13) (by decide) rfl (Nat.le_of_ble_eq_true rfl) ?_
  intro p e s m below meth c hC hr hlk hnm hZ ls hl
  have hx := hC.x
  have hb := hC.b
  have hl : lv_has ls 1 [(0, .ref m0)] := hl
  refine lv_aload_n hx hb dX13_lateCorrections_0 rfl (lv_at hl 0 rfl) ?_
  refine z_iconst hx hb dX13_lateCorrections_1 ?_
  refine m_put hC hZ 6 (ty := .int) (by decide) ql_X13_55 rfl rfl rfl (Or.inl rfl) rfl dX13_lateCorrections_2 (fun H locs hZ => ?_)
  have hok_1 := hok.v (k := 6) (x := 0) (by decide)
  refine lv_aload_n hx hb dX13_lateCorrections_5 rfl (lv_at hl 0 rfl) ?_
  refine m_get hC hZ 0 (x := .ref (ad 0)) rfl (by decide) ql_X13_9 rfl dX13_lateCorrections_6 ?_
  refine z_bipush hx hb dX13_lateCorrections_9 (by decide) ?_
  refine m_iald hC hZ hD 0 (by decide) (f := g 0) rfl rfl (by decide) (by decide) dX13_lateCorrections_11 ?_
  have hr_2 : -2147483648 ≤ (g 0) 6 ∧ (g 0) 6 ≤ 2147483647 := hok_1.2 0 _
  exact z_iret hC hr hlk hZ (by decide) (by decide) (⟨_, _, rfl, hok_1, rfl, rfl, rfl⟩) dX13_lateCorrections_12

set_option maxHeartbeats 4000000 in
set_option maxRecDepth 100000 in
theorem met_X13_width (l : Launch) (D : va_G) (cs : Nat → ClassId) (A : Nat → Prop) (m0 : Nat) (ad : Nat → Nat) (v : Nat → Int) (g : Nat → Int → Int)   (hD : mD m0 ad) (hok : mOK v g)  : zM l D cs A yX13_width cX13_width 1 (some FieldType.int) 1 0 0 [.ref m0] (mW cs m0 ad v g) (mP cs m0 ad (fun r v1 g1 => upN v 6 0 = v1 ∧ g = g1 ∧ g 0 2 = r)) := by
  refine zM_of (own := RX13) (by decide) rfl (Nat.le_of_ble_eq_true rfl) ?_
  intro p e s m below meth c hC hr hlk hnm hZ ls hl
  have hx := hC.x
  have hb := hC.b
  have hl : lv_has ls 1 [(0, .ref m0)] := hl
  refine lv_aload_n hx hb dX13_width_0 rfl (lv_at hl 0 rfl) ?_
  refine z_iconst hx hb dX13_width_1 ?_
  refine m_put hC hZ 6 (ty := .int) (by decide) ql_X13_55 rfl rfl rfl (Or.inl rfl) rfl dX13_width_2 (fun H locs hZ => ?_)
  have hok_1 := hok.v (k := 6) (x := 0) (by decide)
  refine lv_aload_n hx hb dX13_width_5 rfl (lv_at hl 0 rfl) ?_
  refine m_get hC hZ 0 (x := .ref (ad 0)) rfl (by decide) ql_X13_9 rfl dX13_width_6 ?_
  refine z_iconst hx hb dX13_width_9 ?_
  refine m_iald hC hZ hD 0 (by decide) (f := g 0) rfl rfl (by decide) (by decide) dX13_width_10 ?_
  have hr_2 : -2147483648 ≤ (g 0) 2 ∧ (g 0) 2 ≤ 2147483647 := hok_1.2 0 _
  exact z_iret hC hr hlk hZ (by decide) (by decide) (⟨_, _, rfl, hok_1, rfl, rfl, rfl⟩) dX13_width_11

set_option maxHeartbeats 4000000 in
set_option maxRecDepth 100000 in
theorem met_X13_day (l : Launch) (D : va_G) (cs : Nat → ClassId) (A : Nat → Prop) (m0 : Nat) (ad : Nat → Nat) (v : Nat → Int) (g : Nat → Int → Int)   (hD : mD m0 ad) (hok : mOK v g)  : zM l D cs A yX13_day cX13_day 1 (some FieldType.int) 1 0 0 [.ref m0] (mW cs m0 ad v g) (mP cs m0 ad (fun r v1 g1 => upN v 6 0 = v1 ∧ g = g1 ∧ g 0 5 = r)) := by
  refine zM_of (own := RX13) (by decide) rfl (Nat.le_of_ble_eq_true rfl) ?_
  intro p e s m below meth c hC hr hlk hnm hZ ls hl
  have hx := hC.x
  have hb := hC.b
  have hl : lv_has ls 1 [(0, .ref m0)] := hl
  refine lv_aload_n hx hb dX13_day_0 rfl (lv_at hl 0 rfl) ?_
  refine z_iconst hx hb dX13_day_1 ?_
  refine m_put hC hZ 6 (ty := .int) (by decide) ql_X13_55 rfl rfl rfl (Or.inl rfl) rfl dX13_day_2 (fun H locs hZ => ?_)
  have hok_1 := hok.v (k := 6) (x := 0) (by decide)
  refine lv_aload_n hx hb dX13_day_5 rfl (lv_at hl 0 rfl) ?_
  refine m_get hC hZ 0 (x := .ref (ad 0)) rfl (by decide) ql_X13_9 rfl dX13_day_6 ?_
  refine z_iconst hx hb dX13_day_9 ?_
  refine m_iald hC hZ hD 0 (by decide) (f := g 0) rfl rfl (by decide) (by decide) dX13_day_10 ?_
  have hr_2 : -2147483648 ≤ (g 0) 5 ∧ (g 0) 5 ≤ 2147483647 := hok_1.2 0 _
  exact z_iret hC hr hlk hZ (by decide) (by decide) (⟨_, _, rfl, hok_1, rfl, rfl, rfl⟩) dX13_day_11

set_option maxHeartbeats 4000000 in
set_option maxRecDepth 100000 in
theorem met_X13_issueCount (l : Launch) (D : va_G) (cs : Nat → ClassId) (A : Nat → Prop) (m0 : Nat) (ad : Nat → Nat) (v : Nat → Int) (g : Nat → Int → Int)   (hD : mD m0 ad) (hok : mOK v g)  : zM l D cs A yX13_issueCount cX13_issueCount 1 (some FieldType.int) 1 0 0 [.ref m0] (mW cs m0 ad v g) (mP cs m0 ad (fun r v1 g1 => upN v 6 0 = v1 ∧ g = g1 ∧ g 0 7 = r)) := by
  refine zM_of (own := RX13) (by decide) rfl (Nat.le_of_ble_eq_true rfl) ?_
  intro p e s m below meth c hC hr hlk hnm hZ ls hl
  have hx := hC.x
  have hb := hC.b
  have hl : lv_has ls 1 [(0, .ref m0)] := hl
  refine lv_aload_n hx hb dX13_issueCount_0 rfl (lv_at hl 0 rfl) ?_
  refine z_iconst hx hb dX13_issueCount_1 ?_
  refine m_put hC hZ 6 (ty := .int) (by decide) ql_X13_55 rfl rfl rfl (Or.inl rfl) rfl dX13_issueCount_2 (fun H locs hZ => ?_)
  have hok_1 := hok.v (k := 6) (x := 0) (by decide)
  refine lv_aload_n hx hb dX13_issueCount_5 rfl (lv_at hl 0 rfl) ?_
  refine m_get hC hZ 0 (x := .ref (ad 0)) rfl (by decide) ql_X13_9 rfl dX13_issueCount_6 ?_
  refine z_bipush hx hb dX13_issueCount_9 (by decide) ?_
  refine m_iald hC hZ hD 0 (by decide) (f := g 0) rfl rfl (by decide) (by decide) dX13_issueCount_11 ?_
  have hr_2 : -2147483648 ≤ (g 0) 7 ∧ (g 0) 7 ≤ 2147483647 := hok_1.2 0 _
  exact z_iret hC hr hlk hZ (by decide) (by decide) (⟨_, _, rfl, hok_1, rfl, rfl, rfl⟩) dX13_issueCount_12

set_option maxHeartbeats 4000000 in
set_option maxRecDepth 100000 in
theorem met_X13_undoCount (l : Launch) (D : va_G) (cs : Nat → ClassId) (A : Nat → Prop) (m0 : Nat) (ad : Nat → Nat) (v : Nat → Int) (g : Nat → Int → Int)   (hD : mD m0 ad) (hok : mOK v g)  : zM l D cs A yX13_undoCount cX13_undoCount 1 (some FieldType.int) 1 0 0 [.ref m0] (mW cs m0 ad v g) (mP cs m0 ad (fun r v1 g1 => upN v 6 0 = v1 ∧ g = g1 ∧ v 5 = r)) := by
  refine zM_of (own := RX13) (by decide) rfl (Nat.le_of_ble_eq_true rfl) ?_
  intro p e s m below meth c hC hr hlk hnm hZ ls hl
  have hx := hC.x
  have hb := hC.b
  have hl : lv_has ls 1 [(0, .ref m0)] := hl
  refine lv_aload_n hx hb dX13_undoCount_0 rfl (lv_at hl 0 rfl) ?_
  refine z_iconst hx hb dX13_undoCount_1 ?_
  refine m_put hC hZ 6 (ty := .int) (by decide) ql_X13_55 rfl rfl rfl (Or.inl rfl) rfl dX13_undoCount_2 (fun H locs hZ => ?_)
  have hok_1 := hok.v (k := 6) (x := 0) (by decide)
  refine lv_aload_n hx hb dX13_undoCount_5 rfl (lv_at hl 0 rfl) ?_
  refine m_get hC hZ 5 (x := .int (iI (v 5))) rfl (by decide) ql_X13_64 rfl dX13_undoCount_6 ?_
  exact z_iret hC hr hlk hZ (by decide) (by decide) (⟨_, _, rfl, hok_1, rfl, rfl, rfl⟩) dX13_undoCount_9

set_option maxHeartbeats 4000000 in
set_option maxRecDepth 100000 in
theorem met_X13_isConsistent (l : Launch) (D : va_G) (cs : Nat → ClassId) (A : Nat → Prop) (m0 : Nat) (ad : Nat → Nat) (v : Nat → Int) (g : Nat → Int → Int)   (hD : mD m0 ad) (hok : mOK v g)  : zM l D cs A yX13_isConsistent cX13_isConsistent 1 (some FieldType.boolean) 1 0 0 [.ref m0] (mW cs m0 ad v g) (mP cs m0 ad (fun r v1 g1 => upN v 6 0 = v1 ∧ g = g1 ∧ 1 = r)) := by
  refine zM_of (own := RX13) (by decide) rfl (Nat.le_of_ble_eq_true rfl) ?_
  intro p e s m below meth c hC hr hlk hnm hZ ls hl
  have hx := hC.x
  have hb := hC.b
  have hl : lv_has ls 1 [(0, .ref m0)] := hl
  refine lv_aload_n hx hb dX13_isConsistent_0 rfl (lv_at hl 0 rfl) ?_
  refine z_iconst hx hb dX13_isConsistent_1 ?_
  refine m_put hC hZ 6 (ty := .int) (by decide) ql_X13_55 rfl rfl rfl (Or.inl rfl) rfl dX13_isConsistent_2 (fun H locs hZ => ?_)
  have hok_1 := hok.v (k := 6) (x := 0) (by decide)
  refine z_iconst hx hb dX13_isConsistent_5 ?_
  exact z_zret hC hr hlk hZ rfl (by decide) (by decide) (⟨_, _, rfl, hok_1, rfl, rfl, rfl⟩) dX13_isConsistent_6

set_option maxHeartbeats 4000000 in
set_option maxRecDepth 100000 in
theorem met_X13_clearText (l : Launch) (D : va_G) (cs : Nat → ClassId) (A : Nat → Prop) (m0 : Nat) (ad : Nat → Nat) (v : Nat → Int) (g : Nat → Int → Int)   (hD : mD m0 ad) (hok : mOK v g)  : zM l D cs A yX13_clearText cX13_clearText 2 (some FieldType.int) 1 0 0 [.ref m0] (mW cs m0 ad v g) (mP cs m0 ad (fun r v1 g1 => upN (upN v 6 0) 8 0 = v1 ∧ g = g1 ∧ v 8 = r)) := by
  refine zM_of (own := RX13) (by decide) rfl (Nat.le_of_ble_eq_true rfl) ?_
  intro p e s m below meth c hC hr hlk hnm hZ ls hl
  have hx := hC.x
  have hb := hC.b
  have hl : lv_has ls 2 [(0, .ref m0)] := hl
  refine lv_aload_n hx hb dX13_clearText_0 rfl (lv_at hl 0 rfl) ?_
  refine z_iconst hx hb dX13_clearText_1 ?_
  refine m_put hC hZ 6 (ty := .int) (by decide) ql_X13_55 rfl rfl rfl (Or.inl rfl) rfl dX13_clearText_2 (fun H locs hZ => ?_)
  have hok_1 := hok.v (k := 6) (x := 0) (by decide)
  refine lv_aload_n hx hb dX13_clearText_5 rfl (lv_at hl 0 rfl) ?_
  refine m_get hC hZ 8 (x := .int (iI (v 8))) rfl (by decide) ql_X13_75 rfl dX13_clearText_6 ?_
  refine lv_istore_n (lv' := [(1, .int (iI (v 8))), (0, .ref m0)]) hx hb dX13_clearText_9 rfl hl (by decide) rfl (fun ls hl => ?_)
  refine lv_aload_n hx hb dX13_clearText_10 rfl (lv_at hl 1 rfl) ?_
  refine z_iconst hx hb dX13_clearText_11 ?_
  refine m_put hC hZ 8 (ty := .int) (by decide) ql_X13_75 rfl rfl rfl (Or.inl rfl) rfl dX13_clearText_12 (fun H locs hZ => ?_)
  have hok_2 := hok_1.v (k := 8) (x := 0) (by decide)
  refine lv_iload_n hx hb dX13_clearText_15 rfl (lv_at hl 0 rfl) ?_
  exact z_iret hC hr hlk hZ (by decide) (by decide) (⟨_, _, rfl, hok_2, rfl, rfl, rfl⟩) dX13_clearText_16

