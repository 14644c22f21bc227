theorem ishr0 (x : Int32) : x >>> (iI 0 &&& 31) = x := by
  have : (iI 0 &&& 31 : Int32) = 0 := by decide
  rw [this]
  exact Int32.shiftRight_zero
theorem and255_tab : (List.range 256).all (fun n => (Int32.ofNat n &&& 255) == Int32.ofNat n) = true := by decide +kernel
theorem iI_and255 {z : Int} (h : 0 ≤ z ∧ z ≤ 255) : iI z &&& iI 255 = iI z := by
  have h1 := eq_of_beq (List.all_eq_true.mp and255_tab z.toNat (List.mem_range.mpr (by omega)))
  have e : Int32.ofNat z.toNat = iI z := by
    have := iI_nat z.toNat
    rw [Int.toNat_of_nonneg h.1] at this
    exact this
  rw [e] at h1
  exact h1
set_option maxHeartbeats 4000000 in
set_option maxRecDepth 100000 in
theorem met_J0_coder_7d493 (l : Launch) (D : va_G) (cs : Nat → ClassId) (A : Nat → Prop) (F : zF) (j : Nat)  (hj : j < 5) : zM l D cs A yJ0_coder_7d493 cJ0_coder_7d493 1 (some FieldType.byte) 1 0 0 [.ref (cs (30 + j))] F (pI (fun r F1 => F = F1 ∧ 0 = r)) := by
  refine zM_of (own := RJ0) (by decide) rfl (Nat.le_of_ble_eq_true rfl) ?_
  intro p e s m below meth c hC hr hlk hnm hZ ls hl
  have hx := hC.x
  have hb := hC.b
  have hl : lv_has ls 1 [(0, .ref (cs (30 + j)))] := hl
  refine z_gets hC hZ (List.mem_of_getElem? (i := 1) rfl) ql_J0_38 dJ0_coder_7d493_0 ?_
  refine z_topi (y := 1) rfl ?_
  refine z_if_eq (tgt := 13) hx hb dJ0_coder_7d493_3 (by decide) (by decide) (fun c_1 => ?_) (fun c_1 => ?_)
  · skip
    exfalso; omega
  · skip
    refine lv_aload_n hx hb dJ0_coder_7d493_6 rfl (lv_at hl 0 rfl) ?_
    refine z_getO hC hZ (zstr_c hj) ql_J0_15 rfl dJ0_coder_7d493_7 ?_
    refine z_topi (y := 0) rfl ?_
    refine lv_goto (tgt := 14) hx hb dJ0_coder_7d493_10 (by decide) ?_
    exact z_zret hC hr hlk hZ rfl (by decide) (by decide) (⟨rfl, rfl⟩) dJ0_coder_7d493_14

set_option maxHeartbeats 4000000 in
set_option maxRecDepth 100000 in
theorem met_J0_isLatin1_aae02 (l : Launch) (D : va_G) (cs : Nat → ClassId) (A : Nat → Prop) (F : zF) (j : Nat)  (hj : j < 5) : zM l D cs A yJ0_isLatin1_aae02 cJ0_isLatin1_aae02 1 (some FieldType.boolean) 1 0 0 [.ref (cs (30 + j))] F (pI (fun r F1 => F = F1 ∧ 1 = r)) := by
  refine zM_of (own := RJ0) (by decide) rfl (Nat.le_of_ble_eq_true rfl) ?_
  intro p e s m below meth c hC hr hlk hnm hZ ls hl
  have hx := hC.x
  have hb := hC.b
  have hl : lv_has ls 1 [(0, .ref (cs (30 + j)))] := hl
  refine z_gets hC hZ (List.mem_of_getElem? (i := 1) rfl) ql_J0_38 dJ0_isLatin1_aae02_0 ?_
  refine z_topi (y := 1) rfl ?_
  refine z_if_eq (tgt := 17) hx hb dJ0_isLatin1_aae02_3 (by decide) (by decide) (fun c_1 => ?_) (fun c_1 => ?_)
  · skip
    exfalso; omega
  · skip
    refine lv_aload_n hx hb dJ0_isLatin1_aae02_6 rfl (lv_at hl 0 rfl) ?_
    refine z_getO hC hZ (zstr_c hj) ql_J0_15 rfl dJ0_isLatin1_aae02_7 ?_
    refine z_topi (y := 0) rfl ?_
    refine z_if_ne (tgt := 17) hx hb dJ0_isLatin1_aae02_10 (by decide) (by decide) (fun c_2 => ?_) (fun c_2 => ?_)
    · skip
      exfalso; omega
    · skip
      refine z_iconst hx hb dJ0_isLatin1_aae02_13 ?_
      refine lv_goto (tgt := 18) hx hb dJ0_isLatin1_aae02_14 (by decide) ?_
      exact z_zret hC hr hlk hZ rfl (by decide) (by decide) (⟨rfl, rfl⟩) dJ0_isLatin1_aae02_18

set_option maxHeartbeats 4000000 in
set_option maxRecDepth 100000 in
theorem met_J0_length_8abf5 (l : Launch) (D : va_G) (cs : Nat → ClassId) (A : Nat → Prop) (F : zF) (j : Nat)  (hj : j < 5) : zM l D cs A yJ0_length_8abf5 cJ0_length_8abf5 1 (some FieldType.int) 2 0 0 [.ref (cs (30 + j))] F (pI (fun r F1 => F = F1 ∧ ((zstr j).length : Int) = r)) := by
  refine zM_of (own := RJ0) (by decide) rfl (Nat.le_of_ble_eq_true rfl) ?_
  intro p e s m below meth c hC hr hlk hnm hZ ls hl
  have hx := hC.x
  have hb := hC.b
  have hl : lv_has ls 1 [(0, .ref (cs (30 + j)))] := hl
  obtain ⟨fa, hfa, hfv⟩ := zstr_a (cs := cs) hj
  refine lv_aload_n hx hb dJ0_length_8abf5_0 rfl (lv_at hl 0 rfl) ?_
  refine z_getO hC hZ (zstr_v hj) ql_J0_9 rfl dJ0_length_8abf5_1 ?_
  refine z_tlen hC hZ hfa dJ0_length_8abf5_4 ?_
  refine lv_aload_n hx hb dJ0_length_8abf5_5 rfl (lv_at hl 0 rfl) ?_
  refine z_calli (z_runO (rest := [.int (iI ((zstr j).length : Int))]) (As := []) (n := 0) hC hZ (met_J0_coder_7d493 l D cs A F j hj) gv_J0_335 hd_J0_coder_7d493 (zstr_o hj) rfl hl rfl (Nat.le_of_ble_eq_true rfl) ⟨Nat.le_of_ble_eq_true rfl, Nat.le_of_ble_eq_true rfl⟩ ⟨Nat.le_of_ble_eq_true rfl, Nat.le_of_ble_eq_true rfl⟩ dJ0_length_8abf5_6) hZ (fun r6 _ H locs hp_1 hZ => ?_)
  obtain ⟨rfl, rfl⟩ := hp_1
  refine lv_ishr hx hb dJ0_length_8abf5_9 ?_
  refine z_topi (y := ((zstr j).length : Int)) (ishr0 _) ?_
  exact z_iret hC hr hlk hZ (by decide) (by decide) (⟨rfl, rfl⟩) dJ0_length_8abf5_10

set_option maxHeartbeats 4000000 in
set_option maxRecDepth 100000 in
theorem met_J3n (l : Launch) (D : va_G) (cs : Nat → ClassId) (A : Nat → Prop) (F : zF) (i n : Int)  (hi : 0 ≤ i ∧ i < n) (hn : n ≤ 2147483647) : zM l D cs A yJ3_checkIndex_8e157 cJ3_checkIndex_8e157 3 (some FieldType.int) 1 0 0 [.int (iI i), .int (iI n), .null] F (pI (fun r F1 => F = F1 ∧ i = r)) := by
  refine zM_of (own := RJ3) (by decide) rfl (Nat.le_of_ble_eq_true rfl) ?_
  intro p e s m below meth c hC hr hlk hnm hZ ls hl
  have hx := hC.x
  have hb := hC.b
  have hl : lv_has ls 3 [(0, .int (iI i)), (1, .int (iI n)), (2, .null)] := hl
  refine lv_iload_n hx hb dJ3_checkIndex_8e157_0 rfl (lv_at hl 0 rfl) ?_
  refine z_if_lt (tgt := 9) hx hb dJ3_checkIndex_8e157_1 (by decide) (by omega) (fun c_1 => ?_) (fun c_1 => ?_)
  · skip
    exfalso; omega
  · skip
    refine lv_iload_n hx hb dJ3_checkIndex_8e157_4 rfl (lv_at hl 0 rfl) ?_
    refine lv_iload_n hx hb dJ3_checkIndex_8e157_5 rfl (lv_at hl 1 rfl) ?_
    refine z_icmp_lt (tgt := 16) hx hb dJ3_checkIndex_8e157_6 (by decide) (by omega) (by omega) (fun c_2 => ?_) (fun c_2 => ?_)
    · skip
      refine lv_iload_n hx hb dJ3_checkIndex_8e157_16 rfl (lv_at hl 0 rfl) ?_
      exact z_iret hC hr hlk hZ (by decide) (by decide) (⟨rfl, rfl⟩) dJ3_checkIndex_8e157_17
    · skip
      exfalso; omega

set_option maxHeartbeats 4000000 in
set_option maxRecDepth 100000 in
theorem met_J3r (l : Launch) (D : va_G) (cs : Nat → ClassId) (A : Nat → Prop) (F : zF) (i n : Int) (t0 : Nat)  (hi : 0 ≤ i ∧ i < n) (hn : n ≤ 2147483647) : zM l D cs A yJ3_checkIndex_8e157 cJ3_checkIndex_8e157 3 (some FieldType.int) 1 0 0 [.int (iI i), .int (iI n), .ref t0] F (pI (fun r F1 => F = F1 ∧ i = r)) := by
  refine zM_of (own := RJ3) (by decide) rfl (Nat.le_of_ble_eq_true rfl) ?_
  intro p e s m below meth c hC hr hlk hnm hZ ls hl
  have hx := hC.x
  have hb := hC.b
  have hl : lv_has ls 3 [(0, .int (iI i)), (1, .int (iI n)), (2, .ref t0)] := hl
  refine lv_iload_n hx hb dJ3_checkIndex_8e157_0 rfl (lv_at hl 0 rfl) ?_
  refine z_if_lt (tgt := 9) hx hb dJ3_checkIndex_8e157_1 (by decide) (by omega) (fun c_1 => ?_) (fun c_1 => ?_)
  · skip
    exfalso; omega
  · skip
    refine lv_iload_n hx hb dJ3_checkIndex_8e157_4 rfl (lv_at hl 0 rfl) ?_
    refine lv_iload_n hx hb dJ3_checkIndex_8e157_5 rfl (lv_at hl 1 rfl) ?_
    refine z_icmp_lt (tgt := 16) hx hb dJ3_checkIndex_8e157_6 (by decide) (by omega) (by omega) (fun c_2 => ?_) (fun c_2 => ?_)
    · skip
      refine lv_iload_n hx hb dJ3_checkIndex_8e157_16 rfl (lv_at hl 0 rfl) ?_
      exact z_iret hC hr hlk hZ (by decide) (by decide) (⟨rfl, rfl⟩) dJ3_checkIndex_8e157_17
    · skip
      exfalso; omega

set_option maxHeartbeats 4000000 in
set_option maxRecDepth 100000 in
theorem met_J0_checkIndex_df160 (l : Launch) (D : va_G) (cs : Nat → ClassId) (A : Nat → Prop) (F : zF) (i n : Int)  (hi : 0 ≤ i ∧ i < n) (hn : n ≤ 2147483647) : zM l D cs A yJ0_checkIndex_df160 cJ0_checkIndex_df160 2 (none : Option Jvm.ClassFile.FieldType) 2 0 0 [.int (iI i), .int (iI n)] F (pV (fun F1 => F = F1)) := by
  refine zM_of (own := RJ0) (by decide) rfl (Nat.le_of_ble_eq_true rfl) ?_
  intro p e s m below meth c hC hr hlk hnm hZ ls hl
  have hx := hC.x
  have hb := hC.b
  have hl : lv_has ls 2 [(0, .int (iI i)), (1, .int (iI n))] := hl
  refine lv_iload_n hx hb dJ0_checkIndex_df160_0 rfl (lv_at hl 0 rfl) ?_
  refine lv_iload_n hx hb dJ0_checkIndex_df160_1 rfl (lv_at hl 1 rfl) ?_
  refine z_getsF hC hZ ql_J0_1053 dJ0_checkIndex_df160_2 ?_ (fun fm_1 => ?_)
  · skip
    refine z_calli (z_runS (rest := []) (As := [.int (iI i), .int (iI n), .null]) (n := 3) hC hZ (met_J3n l D cs A F i n  (by omega) (by omega)) gs_J0_1059 he_J3_checkIndex_8e157 rfl hl rfl (Nat.le_of_ble_eq_true rfl) ⟨Nat.le_of_ble_eq_true rfl, Nat.le_of_ble_eq_true rfl⟩ ⟨Nat.le_of_ble_eq_true rfl, Nat.le_of_ble_eq_true rfl⟩ dJ0_checkIndex_df160_5) hZ (fun r5 _ H locs hp5 hZ => ?_)
    obtain ⟨rfl, rfl⟩ := hp5
    refine lv_pop hx hb dJ0_checkIndex_df160_8 rfl ?_
    exact z_vret hC hr hlk hZ (by decide) (by decide) (rfl) dJ0_checkIndex_df160_9
  · skip
    refine z_calli (z_runS (rest := []) (As := [.int (iI i), .int (iI n), .ref fm_1]) (n := 3) hC hZ (met_J3r l D cs A F i n fm_1 (by omega) (by omega)) gs_J0_1059 he_J3_checkIndex_8e157 rfl hl rfl (Nat.le_of_ble_eq_true rfl) ⟨Nat.le_of_ble_eq_true rfl, Nat.le_of_ble_eq_true rfl⟩ ⟨Nat.le_of_ble_eq_true rfl, Nat.le_of_ble_eq_true rfl⟩ dJ0_checkIndex_df160_5) hZ (fun r5 _ H locs hp5 hZ => ?_)
    obtain ⟨rfl, rfl⟩ := hp5
    refine lv_pop hx hb dJ0_checkIndex_df160_8 rfl ?_
    exact z_vret hC hr hlk hZ (by decide) (by decide) (rfl) dJ0_checkIndex_df160_9

set_option maxHeartbeats 4000000 in
set_option maxRecDepth 100000 in
theorem met_J15_checkIndex_7cf53 (l : Launch) (D : va_G) (cs : Nat → ClassId) (A : Nat → Prop) (F : zF) (i n : Int)  (hi : 0 ≤ i ∧ i < n) (hn : n ≤ 2147483647) : zM l D cs A yJ15_checkIndex_7cf53 cJ15_checkIndex_7cf53 2 (some FieldType.int) 2 0 0 [.int (iI i), .int (iI n)] F (pI (fun r F1 => F = F1 ∧ i = r)) := by
  refine zM_of (own := RJ15) (by decide) rfl (Nat.le_of_ble_eq_true rfl) ?_
  intro p e s m below meth c hC hr hlk hnm hZ ls hl
  have hx := hC.x
  have hb := hC.b
  have hl : lv_has ls 2 [(0, .int (iI i)), (1, .int (iI n))] := hl
  refine lv_iload_n hx hb dJ15_checkIndex_7cf53_0 rfl (lv_at hl 0 rfl) ?_
  refine lv_iload_n hx hb dJ15_checkIndex_7cf53_1 rfl (lv_at hl 1 rfl) ?_
  refine lv_null hx hb dJ15_checkIndex_7cf53_2 ?_
  refine z_calli (z_runS (rest := []) (As := [.int (iI i), .int (iI n), .null]) (n := 3) hC hZ (met_J3n l D cs A F i n  (by omega) (by omega)) gs_J15_105 he_J3_checkIndex_8e157 rfl hl rfl (Nat.le_of_ble_eq_true rfl) ⟨Nat.le_of_ble_eq_true rfl, Nat.le_of_ble_eq_true rfl⟩ ⟨Nat.le_of_ble_eq_true rfl, Nat.le_of_ble_eq_true rfl⟩ dJ15_checkIndex_7cf53_3) hZ (fun r3 _ H locs hp3 hZ => ?_)
  obtain ⟨rfl, rfl⟩ := hp3
  exact z_iret hC hr hlk hZ (by decide) (by decide) (⟨rfl, rfl⟩) dJ15_checkIndex_7cf53_6

set_option maxHeartbeats 4000000 in
set_option maxRecDepth 100000 in
theorem met_J1_charAt_3b067 (l : Launch) (D : va_G) (cs : Nat → ClassId) (A : Nat → Prop) (F : zF) (j : Nat) (k : Int)  (hj : j < 5) (hk : 0 ≤ k ∧ k < ((zstr j).length : Int)) : zM l D cs A yJ1_charAt_3b067 cJ1_charAt_3b067 2 (some FieldType.char) 3 0 0 [.ref (cs (40 + j)), .int (iI k)] F (pI (fun r F1 => F = F1 ∧ ((zstr j).getD k.toNat 0) = r)) := by
  refine zM_of (own := RJ1) (by decide) rfl (Nat.le_of_ble_eq_true rfl) ?_
  intro p e s m below meth c hC hr hlk hnm hZ ls hl
  have hx := hC.x
  have hb := hC.b
  have hl : lv_has ls 2 [(0, .ref (cs (40 + j))), (1, .int (iI k))] := hl
  obtain ⟨fa, hfa, hfv⟩ := zstr_a (cs := cs) hj
  have hzr := zstr_rng j k.toNat
  have hzl : (zstr j).length ≤ 6 := by unfold zstr; split <;> decide
  refine lv_iload_n hx hb dJ1_charAt_3b067_0 rfl (lv_at hl 1 rfl) ?_
  refine lv_aload_n hx hb dJ1_charAt_3b067_1 rfl (lv_at hl 0 rfl) ?_
  refine z_tlen hC hZ hfa dJ1_charAt_3b067_2 ?_
  refine z_callv (z_runS (rest := []) (As := [.int (iI k), .int (iI ((zstr j).length : Int))]) (n := 2) hC hZ (met_J0_checkIndex_df160 l D cs A F k ((zstr j).length : Int) (by omega) (by omega)) gs_J1_9 he_J0_checkIndex_df160 rfl hl rfl (Nat.le_of_ble_eq_true rfl) ⟨Nat.le_of_ble_eq_true rfl, Nat.le_of_ble_eq_true rfl⟩ ⟨Nat.le_of_ble_eq_true rfl, Nat.le_of_ble_eq_true rfl⟩ dJ1_charAt_3b067_3) hZ (fun _ H locs hp_1 hZ => ?_)
  obtain rfl := hp_1
  refine lv_aload_n hx hb dJ1_charAt_3b067_6 rfl (lv_at hl 0 rfl) ?_
  refine lv_iload_n hx hb dJ1_charAt_3b067_7 rfl (lv_at hl 1 rfl) ?_
  refine z_tb (x := ((zstr j).getD k.toNat 0)) hC hZ hfa hk (by omega) (hfv _) dJ1_charAt_3b067_8 ?_
  refine z_sipush hx hb dJ1_charAt_3b067_9 (by decide) ?_
  refine lv_iand hx hb dJ1_charAt_3b067_12 ?_
  refine z_topi (y := ((zstr j).getD k.toNat 0)) (iI_and255 (by omega)) ?_
  refine z_i2c hx hb dJ1_charAt_3b067_13 (by omega) ?_
  exact z_zret hC hr hlk hZ (iI_narC (by omega)).1 (by decide) (by decide) (⟨rfl, rfl⟩) dJ1_charAt_3b067_14

set_option maxHeartbeats 4000000 in
set_option maxRecDepth 100000 in
theorem met_J0_charAt_5068e (l : Launch) (D : va_G) (cs : Nat → ClassId) (A : Nat → Prop) (F : zF) (j : Nat) (k : Int)  (hj : j < 5) (hk : 0 ≤ k ∧ k < ((zstr j).length : Int)) : zM l D cs A yJ0_charAt_5068e cJ0_charAt_5068e 2 (some FieldType.char) 5 0 0 [.ref (cs (30 + j)), .int (iI k)] F (pI (fun r F1 => F = F1 ∧ ((zstr j).getD k.toNat 0) = r)) := by
  refine zM_of (own := RJ0) (by decide) rfl (Nat.le_of_ble_eq_true rfl) ?_
  intro p e s m below meth c hC hr hlk hnm hZ ls hl
  have hx := hC.x
  have hb := hC.b
  have hl : lv_has ls 2 [(0, .ref (cs (30 + j))), (1, .int (iI k))] := hl
  have hzr := zstr_rng j k.toNat
  refine lv_aload_n hx hb dJ0_charAt_5068e_0 rfl (lv_at hl 0 rfl) ?_
  refine z_calli (z_runO (rest := []) (As := []) (n := 0) hC hZ (met_J0_isLatin1_aae02 l D cs A F j hj) gv_J0_492 hd_J0_isLatin1_aae02 (zstr_o hj) rfl hl rfl (Nat.le_of_ble_eq_true rfl) ⟨Nat.le_of_ble_eq_true rfl, Nat.le_of_ble_eq_true rfl⟩ ⟨Nat.le_of_ble_eq_true rfl, Nat.le_of_ble_eq_true rfl⟩ dJ0_charAt_5068e_1) hZ (fun r1 _ H locs hp_1 hZ => ?_)
  obtain ⟨rfl, rfl⟩ := hp_1
  refine z_if_eq (tgt := 16) hx hb dJ0_charAt_5068e_4 (by decide) (by decide) (fun c_2 => ?_) (fun c_2 => ?_)
  · skip
    exfalso; omega
  · skip
    refine lv_aload_n hx hb dJ0_charAt_5068e_7 rfl (lv_at hl 0 rfl) ?_
    refine z_getO hC hZ (zstr_v hj) ql_J0_9 rfl dJ0_charAt_5068e_8 ?_
    refine lv_iload_n hx hb dJ0_charAt_5068e_11 rfl (lv_at hl 1 rfl) ?_
    refine z_calli (z_runS (rest := []) (As := [.ref (cs (40 + j)), .int (iI k)]) (n := 2) hC hZ (met_J1_charAt_3b067 l D cs A F j k hj hk) gs_J0_495 he_J1_charAt_3b067 rfl hl rfl (Nat.le_of_ble_eq_true rfl) ⟨Nat.le_of_ble_eq_true rfl, Nat.le_of_ble_eq_true rfl⟩ ⟨Nat.le_of_ble_eq_true rfl, Nat.le_of_ble_eq_true rfl⟩ dJ0_charAt_5068e_12) hZ (fun r12 _ H locs hp_3 hZ => ?_)
    obtain ⟨rfl, rfl⟩ := hp_3
    exact z_zret hC hr hlk hZ (iI_narC (by omega)).1 (by decide) (by decide) (⟨rfl, rfl⟩) dJ0_charAt_5068e_15
