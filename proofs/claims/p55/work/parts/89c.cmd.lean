set_option maxHeartbeats 4000000 in
set_option maxRecDepth 100000 in
theorem met_X3_init (l : Launch) (D : va_G) (cs : Nat → ClassId) (A : Nat → Prop) (F : zF) (a kw : Nat) (x y : Int)  (h0 : F a = some (.inr (7, [.null, .int (iI 0), .int (iI 0)]))) : zM l D cs A yX3_init cX3_init 4 (none : Option Jvm.ClassFile.FieldType) 1 0 0 [.ref a, .ref kw, .int (iI x), .int (iI y)] F (pV (fun F1 => F1 = zup F a (.inr (7, [.ref kw, .int (iI x), .int (iI y)])))) := by
  refine zM_of (own := RX3) (by decide) rfl (Nat.le_of_ble_eq_true rfl) ?_
  intro p e s m below meth c hC hr hlk hnm hZ ls hl
  have hx := hC.x
  have hb := hC.b
  have hl : lv_has ls 4 [(0, .ref a), (1, .ref kw), (2, .int (iI x)), (3, .int (iI y))] := hl
  refine lv_aload_n hx hb dX3_init_0 rfl (lv_at hl 0 rfl) ?_
  refine z_oinit (rest := []) hC hl qm_X3_1 ⟨Nat.le_of_ble_eq_true rfl, Nat.le_of_ble_eq_true rfl⟩ dX3_init_1 ?_
  refine lv_aload_n hx hb dX3_init_4 rfl (lv_at hl 0 rfl) ?_
  refine lv_aload_n hx hb dX3_init_5 rfl (lv_at hl 1 rfl) ?_
  refine z_put (T := TX3) (N := 3) (ci := 7) (k := 0) (fs := [.null, .int (iI 0), .int (iI 0)]) (v := .ref kw) hC hZ tyX3 tyX3_ok nmX3 in_X3 rfl (by decide) ql_X3_7 rfl (Or.inr ⟨rfl, hnm, rfl⟩) rfl h0 (by show 0 < 3; decide) rfl rfl dX3_init_6 (fun H locs hZ => ?_)
  have hf_1 : (zup F a (.inr (7, [.ref kw, .int (iI 0), .int (iI 0)]))) a = some (.inr (7, [.ref kw, .int (iI 0), .int (iI 0)])) := zup_s
  replace hZ : zS D A s (zup F a (.inr (7, [.ref kw, .int (iI 0), .int (iI 0)]))) _ _ := hZ
  refine lv_aload_n hx hb dX3_init_9 rfl (lv_at hl 0 rfl) ?_
  refine lv_iload_n hx hb dX3_init_10 rfl (lv_at hl 2 rfl) ?_
  refine z_put (T := TX3) (N := 3) (ci := 7) (k := 1) (fs := [.ref kw, .int (iI 0), .int (iI 0)]) (v := .int (iI x)) hC hZ tyX3 tyX3_ok nmX3 in_X3 rfl (by decide) ql_X3_13 rfl (Or.inr ⟨rfl, hnm, rfl⟩) rfl hf_1 (by show 1 < 3; decide) rfl rfl dX3_init_11 (fun H locs hZ => ?_)
  rw [zup_up] at hZ
  have hf_2 : (zup F a (.inr (7, [.ref kw, .int (iI x), .int (iI 0)]))) a = some (.inr (7, [.ref kw, .int (iI x), .int (iI 0)])) := zup_s
  replace hZ : zS D A s (zup F a (.inr (7, [.ref kw, .int (iI x), .int (iI 0)]))) _ _ := hZ
  refine lv_aload_n hx hb dX3_init_14 rfl (lv_at hl 0 rfl) ?_
  refine lv_iload_n hx hb dX3_init_15 rfl (lv_at hl 3 rfl) ?_
  refine z_put (T := TX3) (N := 3) (ci := 7) (k := 2) (fs := [.ref kw, .int (iI x), .int (iI 0)]) (v := .int (iI y)) hC hZ tyX3 tyX3_ok nmX3 in_X3 rfl (by decide) ql_X3_17 rfl (Or.inr ⟨rfl, hnm, rfl⟩) rfl hf_2 (by show 2 < 3; decide) rfl rfl dX3_init_16 (fun H locs hZ => ?_)
  rw [zup_up] at hZ
  have hf_3 : (zup F a (.inr (7, [.ref kw, .int (iI x), .int (iI y)]))) a = some (.inr (7, [.ref kw, .int (iI x), .int (iI y)])) := zup_s
  replace hZ : zS D A s (zup F a (.inr (7, [.ref kw, .int (iI x), .int (iI y)]))) _ _ := hZ
  exact z_vret hC hr hlk hZ (by decide) (by decide) (rfl) dX3_init_19
