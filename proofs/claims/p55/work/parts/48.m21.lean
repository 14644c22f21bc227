set_option maxHeartbeats 4000000 in
set_option maxRecDepth 100000 in
theorem met_Jxf58ca_isNaN_12338 (l : Launch) (D : va_G) (cs : Nat → ClassId) (A : Nat → Prop) (F : zF) (x : UInt32)  (hfx : fP x) : zM l D cs A yJxf58ca_isNaN_12338 cJxf58ca_isNaN_12338 1 (some FieldType.boolean) 1 0 0 [.float x] F (pI (fun r F1 => F = F1 ∧ r = 0)) := by
  refine zM_ofF (own := RJxf58ca) (by decide +kernel) rfl (Nat.le_of_ble_eq_true rfl) ?_
  intro p e s m below meth c hC hr hlk hnm hZ ls hl
  have hx := hC.x
  have hb := hC.b
  have hl : lv_has ls 1 [(0, .float x)] := hl
  refine lv_fload_n hx hb dJxf58ca_isNaN_12338_0 rfl (lv_at hl 0 rfl) ?_
  refine lv_fload_n hx hb dJxf58ca_isNaN_12338_1 rfl (lv_at hl 0 rfl) ?_
  refine lv_fcmp hx hb dJxf58ca_isNaN_12338_2 ?_
  refine z_topi (y := 0) (by rw [fcmp_self hfx]; rfl) ?_
  refine z_if_eq (tgt := 10) hx hb dJxf58ca_isNaN_12338_3 (by decide) (by decide) (fun c_1 => ?_) (fun c_1 => ?_)
  · skip
    refine z_iconst hx hb dJxf58ca_isNaN_12338_10 ?_
    exact z_zret hC hr hlk hZ rfl (by decide) (by decide) (⟨rfl, rfl⟩) dJxf58ca_isNaN_12338_11
  · skip
    exfalso; omega

set_option maxHeartbeats 4000000 in
set_option maxRecDepth 100000 in
theorem met_Jxf58ca_floatToIntBits_5c35a (l : Launch) (D : va_G) (cs : Nat → ClassId) (A : Nat → Prop) (F : zF) (x : UInt32)  (hfx : fP x) : zM l D cs A yJxf58ca_floatToIntBits_5c35a cJxf58ca_floatToIntBits_5c35a 1 (some FieldType.int) 2 0 0 [.float x] F (pI (fun r F1 => F = F1 ∧ r = x.toInt32.toInt)) := by
  refine zM_ofF (own := RJxf58ca) (by decide +kernel) rfl (Nat.le_of_ble_eq_true rfl) ?_
  intro p e s m below meth c hC hr hlk hnm hZ ls hl
  have hx := hC.x
  have hb := hC.b
  have hl : lv_has ls 1 [(0, .float x)] := hl
  refine lv_fload_n hx hb dJxf58ca_floatToIntBits_5c35a_0 rfl (lv_at hl 0 rfl) ?_
  refine z_calli (z_runS (rest := []) (As := [.float x]) (n := 1) hC hZ (met_Jxf58ca_isNaN_12338 l D cs A F x hfx) gs_Jxf58ca_59 he_Jxf58ca_isNaN_12338 rfl hl rfl (Nat.le_of_ble_eq_true rfl) ⟨Nat.le_of_ble_eq_true rfl, Nat.le_of_ble_eq_true rfl⟩ ⟨Nat.le_of_ble_eq_true rfl, Nat.le_of_ble_eq_true rfl⟩ dJxf58ca_floatToIntBits_5c35a_1) hZ (fun r1 _ H locs hp1 hZ => ?_)
  obtain ⟨rfl, rfl⟩ := hp1
  refine z_if_ne (tgt := 12) hx hb dJxf58ca_floatToIntBits_5c35a_4 (by decide) (by decide) (fun c_1 => ?_) (fun c_1 => ?_)
  · skip
    exfalso; omega
  · skip
    refine lv_fload_n hx hb dJxf58ca_floatToIntBits_5c35a_7 rfl (lv_at hl 0 rfl) ?_
    refine vn_f2i (rest := []) hx hb (hC.ml.trans hl.1.symm) hC.ow (hC.ts qm_Jxf58ca_74) (hC.ts qv_Jxf58ca_floatToRawIntBits_5c35a) (hC.ts qt_Jxf58ca_floatToRawIntBits_5c35a) (hC.ts qn_Jxf58ca) (Nat.le_of_ble_eq_true rfl) (Nat.le_of_ble_eq_true rfl) dJxf58ca_floatToIntBits_5c35a_8 ?_
    refine z_topi (y := x.toInt32.toInt) (iI_of _) ?_
    exact z_iret hC hr hlk hZ (by decide) (by decide) (⟨rfl, rfl⟩) dJxf58ca_floatToIntBits_5c35a_11
