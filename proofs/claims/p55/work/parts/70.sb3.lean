theorem grw_le {cap n : Nat} (h : n ≤ 2 * cap + 2) : n ≤ grw cap n := by
  unfold grw; split
  · assumption
  · exact h
theorem grw_up {cap n : Nat} (h : cap ≤ 10000 ∧ n ≤ 4000) : grw cap n ≤ 10000 := by
  unfold grw; split <;> omega
theorem grw_lo {cap n : Nat} : cap ≤ grw cap n := by
  unfold grw; split <;> omega
theorem mcS_le {cap n : Nat} : mcS cap n ≤ 1 := by
  unfold mcS; split <;> omega
theorem sb_dig {t : List Int} {x : Int} {f g : Int → Int} (hd : dgW f g x ((t.length + (zdig x).length : Nat) : Int)) (h2 : ∀ k : Int, 0 ≤ k → k < t.length → f k = t.getD k.toNat 0) : ∀ k : Int, 0 ≤ k → k < (t ++ zdig x).length → g k = (t ++ zdig x).getD k.toNat 0 := by
  intro k k0 k1
  rw [List.length_append] at k1
  rw [List.getD_eq_getElem?_getD]
  by_cases h : k < t.length
  · rw [hd.1 k (by omega), h2 k k0 h, List.getElem?_append_left (by omega), List.getD_eq_getElem?_getD]
  · have := hd.2.1 (k - t.length) (by omega) (by omega)
    rw [show ((t.length + (zdig x).length : Nat) : Int) - (zdig x).length + (k - t.length) = k by omega] at this
    rw [this, List.getElem?_append_right (by omega), List.getD_eq_getElem?_getD, show (k - (t.length : Int)).toNat = k.toNat - t.length by omega]
set_option maxHeartbeats 4000000 in
set_option maxRecDepth 100000 in
theorem met_J5_append_c97b9 (l : Launch) (D : va_G) (cs : Nat → ClassId) (A : Nat → Prop) (F : zF) (a va cap : Nat) (t : List Int) (x : Int)  (hb1 : oSB cs F a va cap t) (hx0 : 0 ≤ x ∧ x ≤ 999) (ht0 : t.length ≤ 1000) : zM l D cs A yJ5_append_c97b9 cJ5_append_c97b9 4 (some (FieldType.object "java/lang/AbstractStringBuilder")) 5 (mcS cap (t.length + (zdig x).length)) (msS cap (t.length + (zdig x).length)) [.ref a, .int (iI x)] F (pR (fun r F1 => a = r ∧ ∃ va1 : Nat, (va1 = va ∨ F va1 = none) ∧ zko [a, va] F F1 ∧ oSB cs F1 a va1 (grw cap (t.length + (zdig x).length)) (t ++ zdig x))) := by
  refine zM_of (own := RJ5) (by decide) rfl (Nat.le_of_ble_eq_true rfl) ?_
  intro p e s m below meth c hC hr hlk hnm hZ ls hl
  have hx := hC.x
  have hb := hC.b
  have hl : lv_has ls 4 [(0, .ref a), (1, .int (iI x))] := hl
  obtain ⟨ml, f_, h0, h1, hcap, h2, h3⟩ := id hb1
  have hdl := zdig_l x
  have hdl3 : (zdig x).length ≤ 3 := by rw [hdl]; split; decide; split; decide; decide
  have hgl := grw_le (cap := cap) (n := (t.length + (zdig x).length)) (by omega)
  have hgu := grw_up (cap := cap) (n := (t.length + (zdig x).length)) (by omega)
  have hgo := grw_lo (cap := cap) (n := (t.length + (zdig x).length))
  refine lv_aload_n hx hb dJ5_append_c97b9_0 rfl (lv_at hl 0 rfl) ?_
  refine z_get (T := TJ4) (N := 4) (ci := 1) (k := 3) (fs := [.ref va, .int (iI 0), .int (iI ml), .int (iI (t.length : Int))]) (v := .int (iI (t.length : Int))) hC hZ in_J4 rfl (by decide) ql_J5_79 rfl h0 rfl dJ5_append_c97b9_1 ?_
  refine lv_istore_n (lv' := [(2, .int (iI (t.length : Int))), (0, .ref a), (1, .int (iI x))]) hx hb dJ5_append_c97b9_4 rfl hl (by decide) rfl (fun ls hl => ?_)
  refine lv_iload_n hx hb dJ5_append_c97b9_5 rfl (lv_at hl 0 rfl) ?_
  refine lv_iload_n hx hb dJ5_append_c97b9_6 rfl (lv_at hl 2 rfl) ?_
  refine z_calli (z_runS (rest := [.int (iI (t.length : Int))]) (As := [.int (iI x)]) (n := 1) hC hZ (met_J6_stringSize_0f7a4 l D cs A F x (by omega)) gs_J5_245 he_J6_stringSize_0f7a4 rfl hl rfl (Nat.le_of_ble_eq_true rfl) ⟨Nat.le_of_ble_eq_true rfl, Nat.le_of_ble_eq_true rfl⟩ ⟨(by show _ ≤ (mcS cap (t.length + (zdig x).length)); omega), (by show _ ≤ (msS cap (t.length + (zdig x).length)); omega)⟩ dJ5_append_c97b9_7) hZ (fun r7 F7 H locs hp7_c_1 hZ => ?_)
  obtain ⟨rfl, rfl⟩ := hp7_c_1
  refine z_iadd hx hb dJ5_append_c97b9_10 ?_
  refine z_top (y := (((t.length + (zdig x).length) : Nat) : Int)) (by omega) ?_
  refine lv_istore_n (lv' := [(3, .int (iI (((t.length + (zdig x).length) : Nat) : Int))), (2, .int (iI (t.length : Int))), (0, .ref a), (1, .int (iI x))]) hx hb dJ5_append_c97b9_11 rfl hl (by decide) rfl (fun ls hl => ?_)
  refine lv_aload_n hx hb dJ5_append_c97b9_12 rfl (lv_at hl 2 rfl) ?_
  refine lv_iload_n hx hb dJ5_append_c97b9_13 rfl (lv_at hl 0 rfl) ?_
  refine z_callv (z_runU (rest := []) (As := [.int (iI (((t.length + (zdig x).length) : Nat) : Int))]) (n := 1) (ci := 1) hC hZ (met_J5_ensureCapacityInternal_d00df l D cs A F a va cap t (t.length + (zdig x).length) hb1 ⟨by omega, by omega⟩) qc_J5_ensureCapacityInternal_d00df qn_J5 qm_J5_100 q_2145 qi_J5_ensureCapacityInternal_d00df (z_selP hC qs_J5_isLatin1_aae02_J4 rfl qp_J5_ensureCapacityInternal_d00df qi_J5_ensureCapacityInternal_d00df (by decide)) (by decide +kernel) rfl h0 rfl hl rfl (Nat.le_of_ble_eq_true rfl) ⟨Nat.le_of_ble_eq_true rfl, Nat.le_of_ble_eq_true rfl⟩ ⟨(by show _ ≤ (mcS cap (t.length + (zdig x).length)); omega), (by show _ ≤ (msS cap (t.length + (zdig x).length)); omega)⟩ dJ5_append_c97b9_14) hZ (fun F14 H locs hp14_c_2 hZ => ?_)
  obtain ⟨va1, ha1, hk1, hb2⟩ := hp14_c_2
  obtain ⟨ml1, f1_, j0, j1, hcap1, j2, j3⟩ := id hb2
  refine lv_aload_n hx hb dJ5_append_c97b9_17 rfl (lv_at hl 2 rfl) ?_
  refine z_calli (z_runU (rest := []) (As := []) (n := 0) (ci := 1) hC hZ (met_J5_isLatin1_aae02 l D cs A F14 a va1 (grw cap (t.length + (zdig x).length)) t hb2) qc_J5_isLatin1_aae02 qn_J5 qm_J5_83 q_993 qi_J5_isLatin1_aae02 (hC.ts qs_J5_isLatin1_aae02_J4) (by decide +kernel) rfl j0 rfl hl rfl (Nat.le_of_ble_eq_true rfl) ⟨Nat.le_of_ble_eq_true rfl, Nat.le_of_ble_eq_true rfl⟩ ⟨(by show _ ≤ (mcS cap (t.length + (zdig x).length)); omega), (by show _ ≤ (msS cap (t.length + (zdig x).length)); omega)⟩ dJ5_append_c97b9_18) hZ (fun r18 F18 H locs hp18_c_3 hZ => ?_)
  obtain ⟨rfl, rfl⟩ := hp18_c_3
  refine z_if_eq (tgt := 37) hx hb dJ5_append_c97b9_21 (by decide) (by decide) (fun c_4 => ?_) (fun c_4 => ?_)
  · skip
    exfalso; omega
  · skip
    refine lv_iload_n hx hb dJ5_append_c97b9_24 rfl (lv_at hl 3 rfl) ?_
    refine lv_iload_n hx hb dJ5_append_c97b9_25 rfl (lv_at hl 0 rfl) ?_
    refine lv_aload_n hx hb dJ5_append_c97b9_26 rfl (lv_at hl 2 rfl) ?_
    refine z_get (T := TJ4) (N := 4) (ci := 1) (k := 0) (fs := [.ref va1, .int (iI 0), .int (iI ml1), .int (iI (t.length : Int))]) (v := .ref va1) hC hZ in_J4 rfl (by decide) ql_J5_15 rfl j0 rfl dJ5_append_c97b9_27 ?_
    refine z_calli (z_runS (rest := []) (As := [.int (iI x), .int (iI (((t.length + (zdig x).length) : Nat) : Int)), .ref va1]) (n := 3) hC hZ (met_J6_getChars_ba4f3 l D cs A F14 x (((t.length + (zdig x).length) : Nat) : Int) va1 (grw cap (t.length + (zdig x).length)) f1_ (by omega) (by omega) (by omega) j1) gs_J5_248 he_J6_getChars_ba4f3 rfl hl rfl (Nat.le_of_ble_eq_true rfl) ⟨Nat.le_of_ble_eq_true rfl, Nat.le_of_ble_eq_true rfl⟩ ⟨(by show _ ≤ (mcS cap (t.length + (zdig x).length)); omega), (by show _ ≤ (msS cap (t.length + (zdig x).length)); omega)⟩ dJ5_append_c97b9_30) hZ (fun r30 F30 H locs hp30_c_5 hZ => ?_)
    obtain ⟨g_, rfl, hdg⟩ := hp30_c_5
    have hf_6 : (zup F14 va1 (zA (cs 0) (grw cap (t.length + (zdig x).length)) g_)) a = some (.inr (1, [.ref va1, .int (iI 0), .int (iI ml1), .int (iI (t.length : Int))])) := zup_k (zne j0 j1 (fun q => by cases q)) j0
    have hf_7 : (zup F14 va1 (zA (cs 0) (grw cap (t.length + (zdig x).length)) g_)) va1 = some (zA (cs 0) (grw cap (t.length + (zdig x).length)) g_) := zup_s
    refine lv_pop hx hb dJ5_append_c97b9_33 rfl ?_
    refine lv_goto (tgt := 48) hx hb dJ5_append_c97b9_34 (by decide) ?_
    refine lv_aload_n hx hb dJ5_append_c97b9_48 rfl (lv_at hl 2 rfl) ?_
    refine lv_iload_n hx hb dJ5_append_c97b9_49 rfl (lv_at hl 0 rfl) ?_
    refine z_put (T := TJ4) (N := 4) (ci := 1) (k := 3) (fs := [.ref va1, .int (iI 0), .int (iI ml1), .int (iI (t.length : Int))]) (v := .int (iI (((t.length + (zdig x).length) : Nat) : Int))) hC hZ tyJ4 tyJ4_ok nmJ4 in_J4 rfl (by decide) ql_J5_79 rfl (Or.inl rfl) rfl hf_6 (by show 3 < 4; decide) rfl rfl dJ5_append_c97b9_50 (fun H locs hZ => ?_)
    have hf_8 : (zup (zup F14 va1 (zA (cs 0) (grw cap (t.length + (zdig x).length)) g_)) a (.inr (1, [.ref va1, .int (iI 0), .int (iI ml1), .int (iI (((t.length + (zdig x).length) : Nat) : Int))]))) va1 = some (zA (cs 0) (grw cap (t.length + (zdig x).length)) g_) := zup_k (zne hf_7 hf_6 (fun q => by cases q)) hf_7
    have hf_9 : (zup (zup F14 va1 (zA (cs 0) (grw cap (t.length + (zdig x).length)) g_)) a (.inr (1, [.ref va1, .int (iI 0), .int (iI ml1), .int (iI (((t.length + (zdig x).length) : Nat) : Int))]))) a = some (.inr (1, [.ref va1, .int (iI 0), .int (iI ml1), .int (iI (((t.length + (zdig x).length) : Nat) : Int))])) := zup_s
    replace hZ : zS D A s (zup (zup F14 va1 (zA (cs 0) (grw cap (t.length + (zdig x).length)) g_)) a (.inr (1, [.ref va1, .int (iI 0), .int (iI ml1), .int (iI (((t.length + (zdig x).length) : Nat) : Int))]))) _ _ := hZ
    refine lv_aload_n hx hb dJ5_append_c97b9_53 rfl (lv_at hl 2 rfl) ?_
    exact z_aret hC hr (Or.inl ⟨_, rfl⟩) hlk hZ (by omega) (by omega) (⟨rfl, va1, ha1, (((hk1.sub (fun q h => by simp at h; simp [h])).upz ha1).up (by simp)), ml1, g_, by rw [List.length_append]; exact hf_9, hf_8, by rw [List.length_append]; omega, sb_dig hdg j2, hdg.2.2 j3⟩) dJ5_append_c97b9_54

set_option maxHeartbeats 4000000 in
set_option maxRecDepth 100000 in
theorem met_J1_canEncode_fc78d (l : Launch) (D : va_G) (cs : Nat → ClassId) (A : Nat → Prop) (F : zF) (x : Int)  (hx0 : 0 ≤ x ∧ x ≤ 127) : zM l D cs A yJ1_canEncode_fc78d cJ1_canEncode_fc78d 1 (some FieldType.boolean) 1 0 0 [.int (iI x)] F (pI (fun r F1 => F = F1 ∧ 1 = r)) := by
  refine zM_of (own := RJ1) (by decide) rfl (Nat.le_of_ble_eq_true rfl) ?_
  intro p e s m below meth c hC hr hlk hnm hZ ls hl
  have hx := hC.x
  have hb := hC.b
  have hl : lv_has ls 1 [(0, .int (iI x))] := hl
  refine lv_iload_n hx hb dJ1_canEncode_fc78d_0 rfl (lv_at hl 0 rfl) ?_
  refine z_sipush hx hb dJ1_canEncode_fc78d_1 (by decide) ?_
  refine z_icmp_gt (tgt := 11) hx hb dJ1_canEncode_fc78d_4 (by decide) (by omega) (by decide) (fun c_1 => ?_) (fun c_1 => ?_)
  · skip
    exfalso; omega
  · skip
    refine z_iconst hx hb dJ1_canEncode_fc78d_7 ?_
    refine lv_goto (tgt := 12) hx hb dJ1_canEncode_fc78d_8 (by decide) ?_
    exact z_zret hC hr hlk hZ rfl (by decide) (by decide) (⟨rfl, rfl⟩) dJ1_canEncode_fc78d_12

set_option maxHeartbeats 4000000 in
set_option maxRecDepth 100000 in
theorem met_J5_append_3fe6f (l : Launch) (D : va_G) (cs : Nat → ClassId) (A : Nat → Prop) (F : zF) (a va cap : Nat) (t : List Int) (x : Int)  (hb1 : oSB cs F a va cap t) (hx0 : 0 ≤ x ∧ x ≤ 127) (ht0 : t.length ≤ 1000) : zM l D cs A yJ5_append_3fe6f cJ5_append_3fe6f 2 (some (FieldType.object "java/lang/AbstractStringBuilder")) 7 (mcS cap (t.length + 1)) (msS cap (t.length + 1)) [.ref a, .int (iI x)] F (pR (fun r F1 => a = r ∧ ∃ va1 : Nat, (va1 = va ∨ F va1 = none) ∧ zko [a, va] F F1 ∧ oSB cs F1 a va1 (grw cap (t.length + 1)) (t ++ [x]))) := by
  refine zM_of (own := RJ5) (by decide) rfl (Nat.le_of_ble_eq_true rfl) ?_
  intro p e s m below meth c hC hr hlk hnm hZ ls hl
  have hx := hC.x
  have hb := hC.b
  have hl : lv_has ls 2 [(0, .ref a), (1, .int (iI x))] := hl
  obtain ⟨ml, f_, h0, h1, hcap, h2, h3⟩ := id hb1
  have hgl := grw_le (cap := cap) (n := (t.length + 1)) (by omega)
  have hgu := grw_up (cap := cap) (n := (t.length + 1)) (by omega)
  have hgo := grw_lo (cap := cap) (n := (t.length + 1))
  refine lv_aload_n hx hb dJ5_append_3fe6f_0 rfl (lv_at hl 0 rfl) ?_
  refine lv_aload_n hx hb dJ5_append_3fe6f_1 rfl (lv_at hl 0 rfl) ?_
  refine z_get (T := TJ4) (N := 4) (ci := 1) (k := 3) (fs := [.ref va, .int (iI 0), .int (iI ml), .int (iI (t.length : Int))]) (v := .int (iI (t.length : Int))) hC hZ in_J4 rfl (by decide) ql_J5_79 rfl h0 rfl dJ5_append_3fe6f_2 ?_
  refine z_iconst hx hb dJ5_append_3fe6f_5 ?_
  refine z_iadd hx hb dJ5_append_3fe6f_6 ?_
  refine z_top (y := (((t.length + 1) : Nat) : Int)) (by omega) ?_
  refine z_callv (z_runU (rest := []) (As := [.int (iI (((t.length + 1) : Nat) : Int))]) (n := 1) (ci := 1) hC hZ (met_J5_ensureCapacityInternal_d00df l D cs A F a va cap t (t.length + 1) hb1 ⟨by omega, by omega⟩) qc_J5_ensureCapacityInternal_d00df qn_J5 qm_J5_100 q_2145 qi_J5_ensureCapacityInternal_d00df (z_selP hC qs_J5_isLatin1_aae02_J4 rfl qp_J5_ensureCapacityInternal_d00df qi_J5_ensureCapacityInternal_d00df (by decide)) (by decide +kernel) rfl h0 rfl hl rfl (Nat.le_of_ble_eq_true rfl) ⟨Nat.le_of_ble_eq_true rfl, Nat.le_of_ble_eq_true rfl⟩ ⟨(by show _ ≤ (mcS cap (t.length + 1)); omega), (by show _ ≤ (msS cap (t.length + 1)); omega)⟩ dJ5_append_3fe6f_7) hZ (fun F7 H locs hp7_c_1 hZ => ?_)
  obtain ⟨va1, ha1, hk1, hb2⟩ := hp7_c_1
  obtain ⟨ml1, f1_, j0, j1, hcap1, j2, j3⟩ := id hb2
  refine lv_aload_n hx hb dJ5_append_3fe6f_10 rfl (lv_at hl 0 rfl) ?_
  refine z_calli (z_runU (rest := []) (As := []) (n := 0) (ci := 1) hC hZ (met_J5_isLatin1_aae02 l D cs A F7 a va1 (grw cap (t.length + 1)) t hb2) qc_J5_isLatin1_aae02 qn_J5 qm_J5_83 q_993 qi_J5_isLatin1_aae02 (hC.ts qs_J5_isLatin1_aae02_J4) (by decide +kernel) rfl j0 rfl hl rfl (Nat.le_of_ble_eq_true rfl) ⟨Nat.le_of_ble_eq_true rfl, Nat.le_of_ble_eq_true rfl⟩ ⟨(by show _ ≤ (mcS cap (t.length + 1)); omega), (by show _ ≤ (msS cap (t.length + 1)); omega)⟩ dJ5_append_3fe6f_11) hZ (fun r11 F11 H locs hp11_c_2 hZ => ?_)
  obtain ⟨rfl, rfl⟩ := hp11_c_2
  refine z_if_eq (tgt := 45) hx hb dJ5_append_3fe6f_14 (by decide) (by decide) (fun c_3 => ?_) (fun c_3 => ?_)
  · skip
    exfalso; omega
  · skip
    refine lv_iload_n hx hb dJ5_append_3fe6f_17 rfl (lv_at hl 1 rfl) ?_
    refine z_calli (z_runS (rest := []) (As := [.int (iI x)]) (n := 1) hC hZ (met_J1_canEncode_fc78d l D cs A F7 x (by omega)) gs_J5_191 he_J1_canEncode_fc78d rfl hl rfl (Nat.le_of_ble_eq_true rfl) ⟨Nat.le_of_ble_eq_true rfl, Nat.le_of_ble_eq_true rfl⟩ ⟨(by show _ ≤ (mcS cap (t.length + 1)); omega), (by show _ ≤ (msS cap (t.length + 1)); omega)⟩ dJ5_append_3fe6f_18) hZ (fun r18 F18 H locs hp18_c_4 hZ => ?_)
    obtain ⟨rfl, rfl⟩ := hp18_c_4
    refine z_if_eq (tgt := 45) hx hb dJ5_append_3fe6f_21 (by decide) (by decide) (fun c_5 => ?_) (fun c_5 => ?_)
    · skip
      exfalso; omega
    · skip
      refine lv_aload_n hx hb dJ5_append_3fe6f_24 rfl (lv_at hl 0 rfl) ?_
      refine z_get (T := TJ4) (N := 4) (ci := 1) (k := 0) (fs := [.ref va1, .int (iI 0), .int (iI ml1), .int (iI (t.length : Int))]) (v := .ref va1) hC hZ in_J4 rfl (by decide) ql_J5_15 rfl j0 rfl dJ5_append_3fe6f_25 ?_
      refine lv_aload_n hx hb dJ5_append_3fe6f_28 rfl (lv_at hl 0 rfl) ?_
      refine lv_dup hx hb dJ5_append_3fe6f_29 rfl ?_
      refine z_get (T := TJ4) (N := 4) (ci := 1) (k := 3) (fs := [.ref va1, .int (iI 0), .int (iI ml1), .int (iI (t.length : Int))]) (v := .int (iI (t.length : Int))) hC hZ in_J4 rfl (by decide) ql_J5_79 rfl j0 rfl dJ5_append_3fe6f_30 ?_
      refine lv_dup_x1 hx hb dJ5_append_3fe6f_33 rfl rfl ?_
      refine z_iconst hx hb dJ5_append_3fe6f_34 ?_
      refine z_iadd hx hb dJ5_append_3fe6f_35 ?_
      refine z_top (y := (((t.length + 1) : Nat) : Int)) (by omega) ?_
      refine z_put (T := TJ4) (N := 4) (ci := 1) (k := 3) (fs := [.ref va1, .int (iI 0), .int (iI ml1), .int (iI (t.length : Int))]) (v := .int (iI (((t.length + 1) : Nat) : Int))) hC hZ tyJ4 tyJ4_ok nmJ4 in_J4 rfl (by decide) ql_J5_79 rfl (Or.inl rfl) rfl j0 (by show 3 < 4; decide) rfl rfl dJ5_append_3fe6f_36 (fun H locs hZ => ?_)
      have hf_6 : (zup F7 a (.inr (1, [.ref va1, .int (iI 0), .int (iI ml1), .int (iI (((t.length + 1) : Nat) : Int))]))) va1 = some (zA (cs 0) (grw cap (t.length + 1)) f1_) := zup_k (zne j1 j0 (fun q => by cases q)) j1
      have hf_7 : (zup F7 a (.inr (1, [.ref va1, .int (iI 0), .int (iI ml1), .int (iI (((t.length + 1) : Nat) : Int))]))) a = some (.inr (1, [.ref va1, .int (iI 0), .int (iI ml1), .int (iI (((t.length + 1) : Nat) : Int))])) := zup_s
      replace hZ : zS D A s (zup F7 a (.inr (1, [.ref va1, .int (iI 0), .int (iI ml1), .int (iI (((t.length + 1) : Nat) : Int))]))) _ _ := hZ
      refine lv_iload_n hx hb dJ5_append_3fe6f_39 rfl (lv_at hl 1 rfl) ?_
      refine lv_i2b hx hb dJ5_append_3fe6f_40 (iI_narB (by omega)) ?_
      refine z_bast hC hZ hf_6 (by omega) (by omega) (by omega) dJ5_append_3fe6f_41 (fun H locs hZ => ?_)
      have hf_8 : (zup (zup F7 a (.inr (1, [.ref va1, .int (iI 0), .int (iI ml1), .int (iI (((t.length + 1) : Nat) : Int))]))) va1 (zA (cs 0) (grw cap (t.length + 1)) (upI f1_ (t.length : Int) x))) a = some (.inr (1, [.ref va1, .int (iI 0), .int (iI ml1), .int (iI (((t.length + 1) : Nat) : Int))])) := zup_k (zne hf_7 hf_6 (fun q => by cases q)) hf_7
      have hf_9 : (zup (zup F7 a (.inr (1, [.ref va1, .int (iI 0), .int (iI ml1), .int (iI (((t.length + 1) : Nat) : Int))]))) va1 (zA (cs 0) (grw cap (t.length + 1)) (upI f1_ (t.length : Int) x))) va1 = some (zA (cs 0) (grw cap (t.length + 1)) (upI f1_ (t.length : Int) x)) := zup_s
      replace hZ : zS D A s (zup (zup F7 a (.inr (1, [.ref va1, .int (iI 0), .int (iI ml1), .int (iI (((t.length + 1) : Nat) : Int))]))) va1 (zA (cs 0) (grw cap (t.length + 1)) (upI f1_ (t.length : Int) x))) _ _ := hZ
      refine lv_goto (tgt := 75) hx hb dJ5_append_3fe6f_42 (by decide) ?_
      refine lv_aload_n hx hb dJ5_append_3fe6f_75 rfl (lv_at hl 0 rfl) ?_
      exact z_aret hC hr (Or.inl ⟨_, rfl⟩) hlk hZ (by omega) (by omega) (⟨rfl, va1, ha1, (((hk1.sub (fun q h => by simp at h; simp [h])).up (by simp)).upz ha1), ml1, _, by rw [List.length_append]; exact hf_8, hf_9, by rw [List.length_append]; simp; omega, fun k k0 k1 => by rw [List.length_append, List.length_singleton] at k1; rw [gD_appI k0 (by omega)]; unfold upI; by_cases q : k = t.length; (rw [if_pos q, if_pos q]); rw [if_neg q, if_neg q]; exact j2 k k0 (by omega), up_r j3 (by omega)⟩) dJ5_append_3fe6f_76

set_option maxHeartbeats 4000000 in
set_option maxRecDepth 100000 in
theorem met_J5_setLength_d00df (l : Launch) (D : va_G) (cs : Nat → ClassId) (A : Nat → Prop) (F : zF) (a va cap : Nat) (t : List Int)  (hb1 : oSB cs F a va cap t) : zM l D cs A yJ5_setLength_d00df cJ5_setLength_d00df 2 (none : Option Jvm.ClassFile.FieldType) 22 0 0 [.ref a, .int (iI 0)] F (pV (fun F1 => ∃ va1 : Nat, (va1 = va ∨ F va1 = none) ∧ zko [a, va] F F1 ∧ oSB cs F1 a va1 cap [])) := by
  refine zM_of (own := RJ5) (by decide) rfl (Nat.le_of_ble_eq_true rfl) ?_
  intro p e s m below meth c hC hr hlk hnm hZ ls hl
  have hx := hC.x
  have hb := hC.b
  have hl : lv_has ls 2 [(0, .ref a), (1, .int (iI 0))] := hl
  obtain ⟨ml, f_, h0, h1, hcap, h2, h3⟩ := id hb1
  have hg0 : grw cap 0 = cap := if_pos (Nat.zero_le _)
  have hm0 : mcS cap 0 = 0 := if_pos (Nat.zero_le _)
  have hs0 : msS cap 0 = 0 := if_pos (Nat.zero_le _)
  refine lv_iload_n hx hb dJ5_setLength_d00df_0 rfl (lv_at hl 1 rfl) ?_
  refine z_if_ge (tgt := 13) hx hb dJ5_setLength_d00df_1 (by decide) (by decide) (fun c_1 => ?_) (fun c_1 => ?_)
  · skip
    refine lv_aload_n hx hb dJ5_setLength_d00df_13 rfl (lv_at hl 0 rfl) ?_
    refine lv_iload_n hx hb dJ5_setLength_d00df_14 rfl (lv_at hl 1 rfl) ?_
    refine z_callv (z_runU (rest := []) (As := [.int (iI 0)]) (n := 1) (ci := 1) hC hZ (met_J5_ensureCapacityInternal_d00df l D cs A F a va cap t 0 hb1 ⟨by omega, by omega⟩) qc_J5_ensureCapacityInternal_d00df qn_J5 qm_J5_100 q_2145 qi_J5_ensureCapacityInternal_d00df (z_selP hC qs_J5_isLatin1_aae02_J4 rfl qp_J5_ensureCapacityInternal_d00df qi_J5_ensureCapacityInternal_d00df (by decide)) (by decide +kernel) rfl h0 rfl hl rfl (Nat.le_of_ble_eq_true rfl) ⟨Nat.le_of_ble_eq_true rfl, Nat.le_of_ble_eq_true rfl⟩ ⟨(by show _ ≤ 0; omega), (by show _ ≤ 0; omega)⟩ dJ5_setLength_d00df_15) hZ (fun F15 H locs hp15_c_2 hZ => ?_)
    obtain ⟨va1, ha1, hk1, hb2⟩ := hp15_c_2
    obtain ⟨ml1, f1_, j0, j1, hcap1, j2, j3⟩ := id hb2
    refine lv_aload_n hx hb dJ5_setLength_d00df_18 rfl (lv_at hl 0 rfl) ?_
    refine z_get (T := TJ4) (N := 4) (ci := 1) (k := 3) (fs := [.ref va1, .int (iI 0), .int (iI ml1), .int (iI (t.length : Int))]) (v := .int (iI (t.length : Int))) hC hZ in_J4 rfl (by decide) ql_J5_79 rfl j0 rfl dJ5_setLength_d00df_19 ?_
    refine lv_iload_n hx hb dJ5_setLength_d00df_22 rfl (lv_at hl 1 rfl) ?_
    refine z_icmp_ge (tgt := 63) hx hb dJ5_setLength_d00df_23 (by decide) (by omega) (by decide) (fun c_3 => ?_) (fun c_3 => ?_)
    · skip
      refine lv_aload_n hx hb dJ5_setLength_d00df_63 rfl (lv_at hl 0 rfl) ?_
      refine z_get (T := TJ4) (N := 4) (ci := 1) (k := 3) (fs := [.ref va1, .int (iI 0), .int (iI ml1), .int (iI (t.length : Int))]) (v := .int (iI (t.length : Int))) hC hZ in_J4 rfl (by decide) ql_J5_79 rfl j0 rfl dJ5_setLength_d00df_64 ?_
      refine lv_iload_n hx hb dJ5_setLength_d00df_67 rfl (lv_at hl 1 rfl) ?_
      refine z_icmp_le (tgt := 76) hx hb dJ5_setLength_d00df_68 (by decide) (by omega) (by decide) (fun c_4 => ?_) (fun c_4 => ?_)
      · skip
        refine lv_aload_n hx hb dJ5_setLength_d00df_76 rfl (lv_at hl 0 rfl) ?_
        refine lv_iload_n hx hb dJ5_setLength_d00df_77 rfl (lv_at hl 1 rfl) ?_
        refine z_put (T := TJ4) (N := 4) (ci := 1) (k := 3) (fs := [.ref va1, .int (iI 0), .int (iI ml1), .int (iI (t.length : Int))]) (v := .int (iI 0)) hC hZ tyJ4 tyJ4_ok nmJ4 in_J4 rfl (by decide) ql_J5_79 rfl (Or.inl rfl) rfl j0 (by show 3 < 4; decide) rfl rfl dJ5_setLength_d00df_78 (fun H locs hZ => ?_)
        have hf_5 : (zup F15 a (.inr (1, [.ref va1, .int (iI 0), .int (iI ml1), .int (iI 0)]))) va1 = some (zA (cs 0) (grw cap 0) f1_) := zup_k (zne j1 j0 (fun q => by cases q)) j1
        have hf_6 : (zup F15 a (.inr (1, [.ref va1, .int (iI 0), .int (iI ml1), .int (iI 0)]))) a = some (.inr (1, [.ref va1, .int (iI 0), .int (iI ml1), .int (iI 0)])) := zup_s
        replace hZ : zS D A s (zup F15 a (.inr (1, [.ref va1, .int (iI 0), .int (iI ml1), .int (iI 0)]))) _ _ := hZ
        exact z_vret hC hr hlk hZ (by omega) (by omega) (⟨va1, ha1, ((hk1.sub (fun q h => by simp at h; simp [h])).up (by simp)), _, _, hf_6, by rw [← hg0]; exact hf_5, ⟨Nat.zero_le _, hcap.2⟩, fun k k0 k1 => absurd k1 (by show ¬ _ < ((0 : Nat) : Int); omega), j3⟩) dJ5_setLength_d00df_81
      · skip
        refine lv_aload_n hx hb dJ5_setLength_d00df_71 rfl (lv_at hl 0 rfl) ?_
        refine z_iconst hx hb dJ5_setLength_d00df_72 ?_
        refine z_put (T := TJ4) (N := 4) (ci := 1) (k := 2) (fs := [.ref va1, .int (iI 0), .int (iI ml1), .int (iI (t.length : Int))]) (v := .int (iI 1)) hC hZ tyJ4 tyJ4_ok nmJ4 in_J4 rfl (by decide) ql_J5_73 rfl (Or.inl rfl) rfl j0 (by show 2 < 4; decide) rfl rfl dJ5_setLength_d00df_73 (fun H locs hZ => ?_)
        have hf_7 : (zup F15 a (.inr (1, [.ref va1, .int (iI 0), .int (iI 1), .int (iI (t.length : Int))]))) va1 = some (zA (cs 0) (grw cap 0) f1_) := zup_k (zne j1 j0 (fun q => by cases q)) j1
        have hf_8 : (zup F15 a (.inr (1, [.ref va1, .int (iI 0), .int (iI 1), .int (iI (t.length : Int))]))) a = some (.inr (1, [.ref va1, .int (iI 0), .int (iI 1), .int (iI (t.length : Int))])) := zup_s
        replace hZ : zS D A s (zup F15 a (.inr (1, [.ref va1, .int (iI 0), .int (iI 1), .int (iI (t.length : Int))]))) _ _ := hZ
        refine lv_aload_n hx hb dJ5_setLength_d00df_76 rfl (lv_at hl 0 rfl) ?_
        refine lv_iload_n hx hb dJ5_setLength_d00df_77 rfl (lv_at hl 1 rfl) ?_
        refine z_put (T := TJ4) (N := 4) (ci := 1) (k := 3) (fs := [.ref va1, .int (iI 0), .int (iI 1), .int (iI (t.length : Int))]) (v := .int (iI 0)) hC hZ tyJ4 tyJ4_ok nmJ4 in_J4 rfl (by decide) ql_J5_79 rfl (Or.inl rfl) rfl hf_8 (by show 3 < 4; decide) rfl rfl dJ5_setLength_d00df_78 (fun H locs hZ => ?_)
        rw [zup_up] at hZ
        have hf_9 : (zup F15 a (.inr (1, [.ref va1, .int (iI 0), .int (iI 1), .int (iI 0)]))) va1 = some (zA (cs 0) (grw cap 0) f1_) := zup_k (zne j1 j0 (fun q => by cases q)) j1
        have hf_10 : (zup F15 a (.inr (1, [.ref va1, .int (iI 0), .int (iI 1), .int (iI 0)]))) a = some (.inr (1, [.ref va1, .int (iI 0), .int (iI 1), .int (iI 0)])) := zup_s
        replace hZ : zS D A s (zup F15 a (.inr (1, [.ref va1, .int (iI 0), .int (iI 1), .int (iI 0)]))) _ _ := hZ
        exact z_vret hC hr hlk hZ (by omega) (by omega) (⟨va1, ha1, ((hk1.sub (fun q h => by simp at h; simp [h])).up (by simp)), _, _, hf_10, by rw [← hg0]; exact hf_9, ⟨Nat.zero_le _, hcap.2⟩, fun k k0 k1 => absurd k1 (by show ¬ _ < ((0 : Nat) : Int); omega), j3⟩) dJ5_setLength_d00df_81
    · skip
      exfalso; omega
  · skip
    exfalso; omega

set_option maxHeartbeats 4000000 in
set_option maxRecDepth 100000 in
theorem met_J5_length_8abf5 (l : Launch) (D : va_G) (cs : Nat → ClassId) (A : Nat → Prop) (F : zF) (a va cap : Nat) (t : List Int)  (hb1 : oSB cs F a va cap t) : zM l D cs A yJ5_length_8abf5 cJ5_length_8abf5 1 (some FieldType.int) 1 0 0 [.ref a] F (pI (fun r F1 => F = F1 ∧ (t.length : Int) = r)) := by
  refine zM_of (own := RJ5) (by decide) rfl (Nat.le_of_ble_eq_true rfl) ?_
  intro p e s m below meth c hC hr hlk hnm hZ ls hl
  have hx := hC.x
  have hb := hC.b
  have hl : lv_has ls 1 [(0, .ref a)] := hl
  obtain ⟨ml, f_, h0, h1, hcap, h2, h3⟩ := id hb1
  refine lv_aload_n hx hb dJ5_length_8abf5_0 rfl (lv_at hl 0 rfl) ?_
  refine z_get (T := TJ4) (N := 4) (ci := 1) (k := 3) (fs := [.ref va, .int (iI 0), .int (iI ml), .int (iI (t.length : Int))]) (v := .int (iI (t.length : Int))) hC hZ in_J4 rfl (by decide) ql_J5_79 rfl h0 rfl dJ5_length_8abf5_1 ?_
  exact z_iret hC hr hlk hZ (by decide) (by decide) (⟨rfl, rfl⟩) dJ5_length_8abf5_4

set_option maxHeartbeats 4000000 in
set_option maxRecDepth 100000 in
theorem met_J5_charAt_5068e (l : Launch) (D : va_G) (cs : Nat → ClassId) (A : Nat → Prop) (F : zF) (a va cap : Nat) (t : List Int) (x : Int)  (hb1 : oSB cs F a va cap t) (hx0 : 0 ≤ x ∧ x < t.length) : zM l D cs A yJ5_charAt_5068e cJ5_charAt_5068e 5 (some FieldType.char) 3 0 0 [.ref a, .int (iI x)] F (pI (fun r F1 => F = F1 ∧ t.getD x.toNat 0 = r)) := by
  refine zM_of (own := RJ5) (by decide) rfl (Nat.le_of_ble_eq_true rfl) ?_
  intro p e s m below meth c hC hr hlk hnm hZ ls hl
  have hx := hC.x
  have hb := hC.b
  have hl : lv_has ls 5 [(0, .ref a), (1, .int (iI x))] := hl
  obtain ⟨ml, f_, h0, h1, hcap, h2, h3⟩ := id hb1
  have hv := h2 x hx0.1 hx0.2
  have hvr := h3 x
  refine lv_aload_n hx hb dJ5_charAt_5068e_0 rfl (lv_at hl 0 rfl) ?_
  refine z_get (T := TJ4) (N := 4) (ci := 1) (k := 1) (fs := [.ref va, .int (iI 0), .int (iI ml), .int (iI (t.length : Int))]) (v := .int (iI 0)) hC hZ in_J4 rfl (by decide) ql_J5_22 rfl h0 rfl dJ5_charAt_5068e_1 ?_
  refine lv_istore_n (lv' := [(2, .int (iI 0)), (0, .ref a), (1, .int (iI x))]) hx hb dJ5_charAt_5068e_4 rfl hl (by decide) rfl (fun ls hl => ?_)
  refine lv_aload_n hx hb dJ5_charAt_5068e_5 rfl (lv_at hl 1 rfl) ?_
  refine z_get (T := TJ4) (N := 4) (ci := 1) (k := 0) (fs := [.ref va, .int (iI 0), .int (iI ml), .int (iI (t.length : Int))]) (v := .ref va) hC hZ in_J4 rfl (by decide) ql_J5_15 rfl h0 rfl dJ5_charAt_5068e_6 ?_
  refine lv_astore_n (lv' := [(3, .ref va), (2, .int (iI 0)), (0, .ref a), (1, .int (iI x))]) hx hb dJ5_charAt_5068e_9 rfl hl (by decide) rfl (fun ls hl => ?_)
  refine lv_aload_n hx hb dJ5_charAt_5068e_10 rfl (lv_at hl 2 rfl) ?_
  refine z_get (T := TJ4) (N := 4) (ci := 1) (k := 3) (fs := [.ref va, .int (iI 0), .int (iI ml), .int (iI (t.length : Int))]) (v := .int (iI (t.length : Int))) hC hZ in_J4 rfl (by decide) ql_J5_79 rfl h0 rfl dJ5_charAt_5068e_11 ?_
  refine lv_aload_n hx hb dJ5_charAt_5068e_14 rfl (lv_at hl 0 rfl) ?_
  refine z_alen (t := 0) hC hZ h1 rfl dJ5_charAt_5068e_15 ?_
  refine lv_iload_n hx hb dJ5_charAt_5068e_16 rfl (lv_at hl 1 rfl) ?_
  refine lv_ishr hx hb dJ5_charAt_5068e_17 ?_
  refine z_topi (y := (cap : Int)) (ishr0 _) ?_
  refine z_mmin (rest := []) hC hl qm_J5_138 (by omega) (by omega) ⟨Nat.le_of_ble_eq_true rfl, Nat.le_of_ble_eq_true rfl⟩ ⟨Nat.le_of_ble_eq_true rfl, Nat.le_of_ble_eq_true rfl⟩ dJ5_charAt_5068e_18 (fun r18 hmx18 => ?_)
  refine lv_istore (lv' := [(4, .int (iI r18)), (3, .ref va), (2, .int (iI 0)), (0, .ref a), (1, .int (iI x))]) hx hb dJ5_charAt_5068e_21 hl (by decide) rfl (fun ls hl => ?_)
  refine lv_iload_n hx hb dJ5_charAt_5068e_23 rfl (lv_at hl 4 rfl) ?_
  refine lv_iload hx hb dJ5_charAt_5068e_24 (lv_at hl 0 rfl) ?_
  refine z_callv (z_runS (rest := []) (As := [.int (iI x), .int (iI r18)]) (n := 2) hC hZ (met_J0_checkIndex_df160 l D cs A F x r18 (by omega) (by omega)) gs_J5_144 he_J0_checkIndex_df160 rfl hl rfl (Nat.le_of_ble_eq_true rfl) ⟨Nat.le_of_ble_eq_true rfl, Nat.le_of_ble_eq_true rfl⟩ ⟨Nat.le_of_ble_eq_true rfl, Nat.le_of_ble_eq_true rfl⟩ dJ5_charAt_5068e_26) hZ (fun _ H locs hp_1 hZ => ?_)
  obtain rfl := hp_1
  refine lv_iload_n hx hb dJ5_charAt_5068e_29 rfl (lv_at hl 2 rfl) ?_
  refine z_if_ne (tgt := 42) hx hb dJ5_charAt_5068e_30 (by decide) (by decide) (fun c_2 => ?_) (fun c_2 => ?_)
  · skip
    exfalso; omega
  · skip
    refine lv_aload_n hx hb dJ5_charAt_5068e_33 rfl (lv_at hl 1 rfl) ?_
    refine lv_iload_n hx hb dJ5_charAt_5068e_34 rfl (lv_at hl 4 rfl) ?_
    refine z_bald hC hZ h1 (by omega) (by omega) dJ5_charAt_5068e_35 ?_
    refine z_sipush hx hb dJ5_charAt_5068e_36 (by decide) ?_
    refine lv_iand hx hb dJ5_charAt_5068e_39 ?_
    refine z_topi (y := f_ x) (iI_and255 (by omega)) ?_
    refine z_i2c hx hb dJ5_charAt_5068e_40 (by omega) ?_
    exact z_zret hC hr hlk hZ (iI_narC (by omega)).1 (by decide) (by decide) (⟨rfl, hv.symm⟩) dJ5_charAt_5068e_41

set_option maxHeartbeats 4000000 in
set_option maxRecDepth 100000 in
theorem met_J5_init_d00df (l : Launch) (D : va_G) (cs : Nat → ClassId) (A : Nat → Prop) (F : zF) (a : Nat)  (h0 : F a = some (.inr (1, [.null, .int (iI 0), .int (iI 0), .int (iI 0)]))) : zM l D cs A yJ5_init_d00df cJ5_init_d00df 2 (none : Option Jvm.ClassFile.FieldType) 3 1 16 [.ref a, .int (iI 16)] F (pV (fun F1 => ∃ va : Nat, F va = none ∧ zko [a] F F1 ∧ oSB cs F1 a va 16 [])) := by
  refine zM_of (own := RJ5) (by decide) rfl (Nat.le_of_ble_eq_true rfl) ?_
  intro p e s m below meth c hC hr hlk hnm hZ ls hl
  have hx := hC.x
  have hb := hC.b
  have hl : lv_has ls 2 [(0, .ref a), (1, .int (iI 16))] := hl
  refine lv_aload_n hx hb dJ5_init_d00df_0 rfl (lv_at hl 0 rfl) ?_
  refine z_oinit (rest := []) hC hl qm_J5_3 ⟨Nat.le_of_ble_eq_true rfl, Nat.le_of_ble_eq_true rfl⟩ dJ5_init_d00df_1 ?_
  refine z_gets hC hZ (List.mem_of_getElem? (i := 1) rfl) ql_J5_18 dJ5_init_d00df_4 ?_
  refine z_topi (y := 1) rfl ?_
  refine z_if_eq (tgt := 25) hx hb dJ5_init_d00df_7 (by decide) (by decide) (fun c_1 => ?_) (fun c_1 => ?_)
  · skip
    exfalso; omega
  · skip
    refine lv_aload_n hx hb dJ5_init_d00df_10 rfl (lv_at hl 0 rfl) ?_
    refine lv_iload_n hx hb dJ5_init_d00df_11 rfl (lv_at hl 1 rfl) ?_
    refine z_newp (atype := .byte) (ty := .byte) (n := 16) 0 (hC := hC) (hZ := hZ) q_103 rfl rfl (fun h => va_nm_byte h) rfl (by decide) (by decide) (Nat.le_of_ble_eq_true rfl) (Nat.le_of_ble_eq_true rfl) dJ5_init_d00df_12 (fun q12 H hq12 hZ => ?_)
    have hf_2 : (zup F q12 (zA (cs 0) 16 (fun _ => 0))) a = some (.inr (1, [.null, .int (iI 0), .int (iI 0), .int (iI 0)])) := zup_k (zF_ne h0 hq12.1) h0
    have hf_3 : (zup F q12 (zA (cs 0) 16 (fun _ => 0))) q12 = some (zA (cs 0) 16 (fun _ => 0)) := zup_s
    replace hZ : zS D A s (zup F q12 (zA (cs 0) 16 (fun _ => 0))) _ _ := hZ
    refine z_put (T := TJ4) (N := 4) (ci := 1) (k := 0) (fs := [.null, .int (iI 0), .int (iI 0), .int (iI 0)]) (v := .ref q12) hC hZ tyJ4 tyJ4_ok nmJ4 in_J4 rfl (by decide) ql_J5_15 rfl (Or.inl rfl) rfl hf_2 (by show 0 < 4; decide) rfl rfl dJ5_init_d00df_14 (fun H locs hZ => ?_)
    have hf_4 : (zup (zup F q12 (zA (cs 0) 16 (fun _ => 0))) a (.inr (1, [.ref q12, .int (iI 0), .int (iI 0), .int (iI 0)]))) q12 = some (zA (cs 0) 16 (fun _ => 0)) := zup_k (zne hf_3 hf_2 (fun q => by cases q)) hf_3
    have hf_5 : (zup (zup F q12 (zA (cs 0) 16 (fun _ => 0))) a (.inr (1, [.ref q12, .int (iI 0), .int (iI 0), .int (iI 0)]))) a = some (.inr (1, [.ref q12, .int (iI 0), .int (iI 0), .int (iI 0)])) := zup_s
    replace hZ : zS D A s (zup (zup F q12 (zA (cs 0) 16 (fun _ => 0))) a (.inr (1, [.ref q12, .int (iI 0), .int (iI 0), .int (iI 0)]))) _ _ := hZ
    refine lv_aload_n hx hb dJ5_init_d00df_17 rfl (lv_at hl 0 rfl) ?_
    refine z_iconst hx hb dJ5_init_d00df_18 ?_
    refine z_put (T := TJ4) (N := 4) (ci := 1) (k := 1) (fs := [.ref q12, .int (iI 0), .int (iI 0), .int (iI 0)]) (v := .int (iI 0)) hC hZ tyJ4 tyJ4_ok nmJ4 in_J4 rfl (by decide) ql_J5_22 rfl (Or.inl rfl) rfl hf_5 (by show 1 < 4; decide) rfl rfl dJ5_init_d00df_19 (fun H locs hZ => ?_)
    rw [zup_up] at hZ
    have hf_6 : (zup (zup F q12 (zA (cs 0) 16 (fun _ => 0))) a (.inr (1, [.ref q12, .int (iI 0), .int (iI 0), .int (iI 0)]))) q12 = some (zA (cs 0) 16 (fun _ => 0)) := zup_k (zne hf_3 hf_2 (fun q => by cases q)) hf_3
    have hf_7 : (zup (zup F q12 (zA (cs 0) 16 (fun _ => 0))) a (.inr (1, [.ref q12, .int (iI 0), .int (iI 0), .int (iI 0)]))) a = some (.inr (1, [.ref q12, .int (iI 0), .int (iI 0), .int (iI 0)])) := zup_s
    replace hZ : zS D A s (zup (zup F q12 (zA (cs 0) 16 (fun _ => 0))) a (.inr (1, [.ref q12, .int (iI 0), .int (iI 0), .int (iI 0)]))) _ _ := hZ
    refine lv_goto (tgt := 38) hx hb dJ5_init_d00df_22 (by decide) ?_
    exact z_vret hC hr hlk hZ (by decide) (by decide) (⟨q12, hq12.1, (((zko.refl).new hq12.1).up (by simp)), _, _, hf_7, hf_6, by simp, fun k k0 k1 => absurd k1 (by show ¬ _ < ((0 : Nat) : Int); omega), fun k => (show (0 : Int) ≤ 0 ∧ (0 : Int) ≤ 127 by decide)⟩) dJ5_init_d00df_38
