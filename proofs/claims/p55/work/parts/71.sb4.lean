theorem grw_add {cap n1 n2 : Nat} (h : n1 ≤ n2) (h2 : n2 ≤ 2 * cap + 2) : grw (grw cap n1) n2 = grw cap n2 := by
  by_cases c1 : n1 ≤ cap
  · rw [show grw cap n1 = cap from if_pos c1]
  · rw [show grw cap n1 = 2 * cap + 2 from if_neg c1, show grw (2 * cap + 2) n2 = 2 * cap + 2 from if_pos h2, show grw cap n2 = 2 * cap + 2 from if_neg (by omega)]
theorem mcS_add {cap n1 n2 : Nat} (h : n1 ≤ n2) (h2 : n2 ≤ 2 * cap + 2) : mcS cap n1 + mcS (grw cap n1) n2 = mcS cap n2 := by
  by_cases c1 : n1 ≤ cap
  · rw [show grw cap n1 = cap from if_pos c1, show mcS cap n1 = 0 from if_pos c1, Nat.zero_add]
  · rw [show grw cap n1 = 2 * cap + 2 from if_neg c1, show mcS (2 * cap + 2) n2 = 0 from if_pos h2, show mcS cap n1 = 1 from if_neg c1, show mcS cap n2 = 1 from if_neg (by omega)]
theorem msS_add {cap n1 n2 : Nat} (h : n1 ≤ n2) (h2 : n2 ≤ 2 * cap + 2) : msS cap n1 + msS (grw cap n1) n2 = msS cap n2 := by
  by_cases c1 : n1 ≤ cap
  · rw [show grw cap n1 = cap from if_pos c1, show msS cap n1 = 0 from if_pos c1, Nat.zero_add]
  · rw [show grw cap n1 = 2 * cap + 2 from if_neg c1, show msS (2 * cap + 2) n2 = 0 from if_pos h2, show msS cap n1 = 2 * cap + 2 from if_neg c1, show msS cap n2 = 2 * cap + 2 from if_neg (by omega)]
theorem wd_take {w : zWd} {k : Int} (h0 : 0 ≤ k) (h1 : k < w.length) : w.take (k + 1).toNat = w.take k.toNat ++ [w.getD k.toNat 0] := by
  have hl : k.toNat < w.length := by omega
  rw [show (k + 1).toNat = k.toNat + 1 by omega, List.take_add_one, List.getElem?_eq_getElem hl, List.getD_eq_getElem?_getD, List.getElem?_eq_getElem hl]
  rfl
set_option maxHeartbeats 4000000 in
set_option maxRecDepth 100000 in
theorem met_J4_append_cf468 (l : Launch) (D : va_G) (cs : Nat → ClassId) (A : Nat → Prop) (F : zF) (a va cap : Nat) (t : List Int) (x : Int)  (hb1 : oSB cs F a va cap t) (hx0 : 0 ≤ x ∧ x ≤ 127) (ht0 : t.length ≤ 1000) : zM l D cs A yJ4_append_cf468 cJ4_append_cf468 2 (some (FieldType.object "java/lang/StringBuilder")) 8 (mcS cap (t.length + 1)) (msS cap (t.length + 1)) [.ref a, .int (iI x)] F (pR (fun r F1 => a = r ∧ ∃ va1 : Nat, (va1 = va ∨ F va1 = none) ∧ zko [a, va] F F1 ∧ oSB cs F1 a va1 (grw cap (t.length + 1)) (t ++ [x]))) := by
  refine zM_of (own := RJ4) (by decide) rfl (Nat.le_of_ble_eq_true rfl) ?_
  intro p e s m below meth c hC hr hlk hnm hZ ls hl
  have hx := hC.x
  have hb := hC.b
  have hl : lv_has ls 2 [(0, .ref a), (1, .int (iI x))] := hl
  obtain ⟨ml, f_, h0, h1, hcap, h2, h3⟩ := id hb1
  refine lv_aload_n hx hb dJ4_append_cf468_0 rfl (lv_at hl 0 rfl) ?_
  refine lv_iload_n hx hb dJ4_append_cf468_1 rfl (lv_at hl 1 rfl) ?_
  refine z_callr (z_runSU (rest := []) (As := [.int (iI x)]) (n := 1) (ci := 1) hC hZ (met_J5_append_3fe6f l D cs A F a va cap t x hb1 hx0 ht0) qc_J5_append_3fe6f qn_J5 qm_J4_50 q_2151 qi_J5_append_3fe6f q_102 (by decide) (he_J5_append_3fe6f).2.2 rfl h0 rfl hl rfl (Nat.le_of_ble_eq_true rfl) ⟨Nat.le_of_ble_eq_true rfl, Nat.le_of_ble_eq_true rfl⟩ ⟨(by show _ ≤ (mcS cap (t.length + 1)); omega), (by show _ ≤ (msS cap (t.length + 1)); omega)⟩ dJ4_append_cf468_2) hZ (fun r2 F2 H locs hp2_c_1 hZ => ?_)
  refine lv_pop hx hb dJ4_append_cf468_5 rfl ?_
  refine lv_aload_n hx hb dJ4_append_cf468_6 rfl (lv_at hl 0 rfl) ?_
  exact z_aret hC hr (Or.inl ⟨_, rfl⟩) hlk hZ (by omega) (by omega) (⟨rfl, hp2_c_1.2⟩) dJ4_append_cf468_7

set_option maxHeartbeats 4000000 in
set_option maxRecDepth 100000 in
theorem met_J4_append_bf812 (l : Launch) (D : va_G) (cs : Nat → ClassId) (A : Nat → Prop) (F : zF) (a va cap : Nat) (t : List Int) (x : Int)  (hb1 : oSB cs F a va cap t) (hx0 : 0 ≤ x ∧ x ≤ 999) (ht0 : t.length ≤ 1000) : zM l D cs A yJ4_append_bf812 cJ4_append_bf812 2 (some (FieldType.object "java/lang/StringBuilder")) 6 (mcS cap (t.length + (zdig x).length)) (msS cap (t.length + (zdig x).length)) [.ref a, .int (iI x)] F (pR (fun r F1 => a = r ∧ ∃ va1 : Nat, (va1 = va ∨ F va1 = none) ∧ zko [a, va] F F1 ∧ oSB cs F1 a va1 (grw cap (t.length + (zdig x).length)) (t ++ zdig x))) := by
  refine zM_of (own := RJ4) (by decide) rfl (Nat.le_of_ble_eq_true rfl) ?_
  intro p e s m below meth c hC hr hlk hnm hZ ls hl
  have hx := hC.x
  have hb := hC.b
  have hl : lv_has ls 2 [(0, .ref a), (1, .int (iI x))] := hl
  obtain ⟨ml, f_, h0, h1, hcap, h2, h3⟩ := id hb1
  refine lv_aload_n hx hb dJ4_append_bf812_0 rfl (lv_at hl 0 rfl) ?_
  refine lv_iload_n hx hb dJ4_append_bf812_1 rfl (lv_at hl 1 rfl) ?_
  refine z_callr (z_runSU (rest := []) (As := [.int (iI x)]) (n := 1) (ci := 1) hC hZ (met_J5_append_c97b9 l D cs A F a va cap t x hb1 hx0 ht0) qc_J5_append_c97b9 qn_J5 qm_J4_53 q_2150 qi_J5_append_c97b9 q_102 (by decide) (he_J5_append_c97b9).2.2 rfl h0 rfl hl rfl (Nat.le_of_ble_eq_true rfl) ⟨Nat.le_of_ble_eq_true rfl, Nat.le_of_ble_eq_true rfl⟩ ⟨(by show _ ≤ (mcS cap (t.length + (zdig x).length)); omega), (by show _ ≤ (msS cap (t.length + (zdig x).length)); omega)⟩ dJ4_append_bf812_2) hZ (fun r2 F2 H locs hp2_c_1 hZ => ?_)
  refine lv_pop hx hb dJ4_append_bf812_5 rfl ?_
  refine lv_aload_n hx hb dJ4_append_bf812_6 rfl (lv_at hl 0 rfl) ?_
  exact z_aret hC hr (Or.inl ⟨_, rfl⟩) hlk hZ (by omega) (by omega) (⟨rfl, hp2_c_1.2⟩) dJ4_append_bf812_7

set_option maxHeartbeats 4000000 in
set_option maxRecDepth 100000 in
theorem met_J4_setLength_d00df (l : Launch) (D : va_G) (cs : Nat → ClassId) (A : Nat → Prop) (F : zF) (a va cap : Nat) (t : List Int)  (hb1 : oSB cs F a va cap t) : zM l D cs A yJ4_setLength_d00df cJ4_setLength_d00df 2 (none : Option Jvm.ClassFile.FieldType) 23 0 0 [.ref a, .int (iI 0)] F (pV (fun F1 => ∃ va1 : Nat, (va1 = va ∨ F va1 = none) ∧ zko [a, va] F F1 ∧ oSB cs F1 a va1 cap [])) := by
  refine zM_of (own := RJ4) (by decide) rfl (Nat.le_of_ble_eq_true rfl) ?_
  intro p e s m below meth c hC hr hlk hnm hZ ls hl
  have hx := hC.x
  have hb := hC.b
  have hl : lv_has ls 2 [(0, .ref a), (1, .int (iI 0))] := hl
  obtain ⟨ml, f_, h0, h1, hcap, h2, h3⟩ := id hb1
  refine lv_aload_n hx hb dJ4_setLength_d00df_0 rfl (lv_at hl 0 rfl) ?_
  refine lv_iload_n hx hb dJ4_setLength_d00df_1 rfl (lv_at hl 1 rfl) ?_
  refine z_callv (z_runSU (rest := []) (As := [.int (iI 0)]) (n := 1) (ci := 1) hC hZ (met_J5_setLength_d00df l D cs A F a va cap t hb1) qc_J5_setLength_d00df qn_J5 qm_J4_333 q_2142 qi_J5_setLength_d00df q_102 (by decide) (he_J5_setLength_d00df).2.2 rfl h0 rfl hl rfl (Nat.le_of_ble_eq_true rfl) ⟨Nat.le_of_ble_eq_true rfl, Nat.le_of_ble_eq_true rfl⟩ ⟨Nat.le_of_ble_eq_true rfl, Nat.le_of_ble_eq_true rfl⟩ dJ4_setLength_d00df_2) hZ (fun F2 H locs hp2_c_1 hZ => ?_)
  exact z_vret hC hr hlk hZ (by decide) (by decide) (hp2_c_1) dJ4_setLength_d00df_5

set_option maxHeartbeats 4000000 in
set_option maxRecDepth 100000 in
theorem met_J4_length_8abf5 (l : Launch) (D : va_G) (cs : Nat → ClassId) (A : Nat → Prop) (F : zF) (a va cap : Nat) (t : List Int)  (hb1 : oSB cs F a va cap t) : zM l D cs A yJ4_length_8abf5 cJ4_length_8abf5 1 (some FieldType.int) 2 0 0 [.ref a] F (pI (fun r F1 => F = F1 ∧ (t.length : Int) = r)) := by
  refine zM_of (own := RJ4) (by decide) rfl (Nat.le_of_ble_eq_true rfl) ?_
  intro p e s m below meth c hC hr hlk hnm hZ ls hl
  have hx := hC.x
  have hb := hC.b
  have hl : lv_has ls 1 [(0, .ref a)] := hl
  obtain ⟨ml, f_, h0, h1, hcap, h2, h3⟩ := id hb1
  refine lv_aload_n hx hb dJ4_length_8abf5_0 rfl (lv_at hl 0 rfl) ?_
  refine z_calli (z_runSU (rest := []) (As := []) (n := 0) (ci := 1) hC hZ (met_J5_length_8abf5 l D cs A F a va cap t hb1) qc_J5_length_8abf5 qn_J5 qm_J4_343 q_1109 qi_J5_length_8abf5 q_102 (by decide) (he_J5_length_8abf5).2.2 rfl h0 rfl hl rfl (Nat.le_of_ble_eq_true rfl) ⟨Nat.le_of_ble_eq_true rfl, Nat.le_of_ble_eq_true rfl⟩ ⟨Nat.le_of_ble_eq_true rfl, Nat.le_of_ble_eq_true rfl⟩ dJ4_length_8abf5_1) hZ (fun r1 F1 H locs hp1_c_1 hZ => ?_)
  obtain ⟨rfl, rfl⟩ := hp1_c_1
  exact z_iret hC hr hlk hZ (by decide) (by decide) (⟨rfl, rfl⟩) dJ4_length_8abf5_4

set_option maxHeartbeats 4000000 in
set_option maxRecDepth 100000 in
theorem met_J4_charAt_5068e (l : Launch) (D : va_G) (cs : Nat → ClassId) (A : Nat → Prop) (F : zF) (a va cap : Nat) (t : List Int) (x : Int)  (hb1 : oSB cs F a va cap t) (hx0 : 0 ≤ x ∧ x < t.length) : zM l D cs A yJ4_charAt_5068e cJ4_charAt_5068e 2 (some FieldType.char) 4 0 0 [.ref a, .int (iI x)] F (pI (fun r F1 => F = F1 ∧ t.getD x.toNat 0 = r)) := by
  refine zM_of (own := RJ4) (by decide) rfl (Nat.le_of_ble_eq_true rfl) ?_
  intro p e s m below meth c hC hr hlk hnm hZ ls hl
  have hx := hC.x
  have hb := hC.b
  have hl : lv_has ls 2 [(0, .ref a), (1, .int (iI x))] := hl
  obtain ⟨ml, f_, h0, h1, hcap, h2, h3⟩ := id hb1
  have hv := h2 x hx0.1 hx0.2
  have hvr := h3 x
  refine lv_aload_n hx hb dJ4_charAt_5068e_0 rfl (lv_at hl 0 rfl) ?_
  refine lv_iload_n hx hb dJ4_charAt_5068e_1 rfl (lv_at hl 1 rfl) ?_
  refine z_calli (z_runSU (rest := []) (As := [.int (iI x)]) (n := 1) (ci := 1) hC hZ (met_J5_charAt_5068e l D cs A F a va cap t x hb1 hx0) qc_J5_charAt_5068e qn_J5 qm_J4_329 q_2153 qi_J5_charAt_5068e q_102 (by decide) (he_J5_charAt_5068e).2.2 rfl h0 rfl hl rfl (Nat.le_of_ble_eq_true rfl) ⟨Nat.le_of_ble_eq_true rfl, Nat.le_of_ble_eq_true rfl⟩ ⟨Nat.le_of_ble_eq_true rfl, Nat.le_of_ble_eq_true rfl⟩ dJ4_charAt_5068e_2) hZ (fun r2 F2 H locs hp2_c_1 hZ => ?_)
  obtain ⟨rfl, hp2_c_1⟩ := hp2_c_1
  have hrr : 0 ≤ r2 ∧ r2 ≤ 127 := by rw [← hp2_c_1, ← hv]; exact hvr
  exact z_zret hC hr hlk hZ (iI_narC (by omega)).1 (by decide) (by decide) (⟨rfl, hp2_c_1⟩) dJ4_charAt_5068e_5

set_option maxHeartbeats 4000000 in
set_option maxRecDepth 100000 in
theorem met_J4_init_da8c8 (l : Launch) (D : va_G) (cs : Nat → ClassId) (A : Nat → Prop) (F : zF) (a : Nat)  (h0 : F a = some (.inr (1, [.null, .int (iI 0), .int (iI 0), .int (iI 0)]))) : zM l D cs A yJ4_init_da8c8 cJ4_init_da8c8 1 (none : Option Jvm.ClassFile.FieldType) 4 1 16 [.ref a] F (pV (fun F1 => ∃ va : Nat, F va = none ∧ zko [a] F F1 ∧ oSB cs F1 a va 16 [])) := by
  refine zM_of (own := RJ4) (by decide) rfl (Nat.le_of_ble_eq_true rfl) ?_
  intro p e s m below meth c hC hr hlk hnm hZ ls hl
  have hx := hC.x
  have hb := hC.b
  have hl : lv_has ls 1 [(0, .ref a)] := hl
  refine lv_aload_n hx hb dJ4_init_da8c8_0 rfl (lv_at hl 0 rfl) ?_
  refine z_bipush hx hb dJ4_init_da8c8_1 (by decide) ?_
  refine z_callv (z_runI (rest := []) (As := [.int (iI 16)]) (n := 1) hC hZ (met_J5_init_d00df l D cs A F a h0) qc_J5_init_d00df qn_J5 qm_J4_1 qi_J5_init_d00df rfl he_J5_init_d00df rfl hl rfl (Nat.le_of_ble_eq_true rfl) ⟨Nat.le_of_ble_eq_true rfl, Nat.le_of_ble_eq_true rfl⟩ ⟨Nat.le_of_ble_eq_true rfl, Nat.le_of_ble_eq_true rfl⟩ dJ4_init_da8c8_3) hZ (fun F3 H locs hp3_c_1 hZ => ?_)
  exact z_vret hC hr hlk hZ (by decide) (by decide) (hp3_c_1) dJ4_init_da8c8_6

set_option maxHeartbeats 4000000 in
set_option maxRecDepth 100000 in
theorem met_X11_writeTo (l : Launch) (D : va_G) (cs : Nat → ClassId) (A : Nat → Prop) (F : zF) (a : Nat) (w : zWd) (b va cap : Nat) (t : List Int)  (hw : oWd cs F a w) (hb1 : oSB cs F b va cap t) (ht0 : t.length ≤ 900) : zM l D cs A yX11_writeTo cX11_writeTo 6 (none : Option Jvm.ClassFile.FieldType) 9 (mcS cap (t.length + w.length)) (msS cap (t.length + w.length)) [.ref a, .ref b] F (pV (fun F1 => ∃ va1 : Nat, (va1 = va ∨ F va1 = none) ∧ zko [b, va] F F1 ∧ oSB cs F1 b va1 (grw cap (t.length + w.length)) (t ++ w))) := by
  refine zM_of (own := RX11) (by decide) rfl (Nat.le_of_ble_eq_true rfl) ?_
  intro p e s m below meth c hC hr hlk hnm hZ ls hl
  have hx := hC.x
  have hb := hC.b
  have hl : lv_has ls 6 [(0, .ref a), (1, .ref b)] := hl
  obtain ⟨la, ca, f_, g_, h0, h1, h2, h3, h4, h5⟩ := id hw
  have h51 := h5.1
  obtain ⟨ml, f2_, b0, b1, hcap, b2, b3⟩ := id hb1
  have hnb : la ≠ b := zne h1 b0 (fun q => by cases q)
  have hnv : la ≠ va := zneL h1 b1 (by omega)
  refine lv_aload_n hx hb dX11_writeTo_0 rfl (lv_at hl 0 rfl) ?_
  refine z_get (T := TX11) (N := 2) (ci := 14) (k := 0) (fs := [.ref la, .ref ca]) (v := .ref la) hC hZ in_X11 rfl (by decide) ql_X11_9 rfl h0 rfl dX11_writeTo_1 ?_
  refine lv_astore_n (lv' := [(2, .ref la), (0, .ref a), (1, .ref b)]) hx hb dX11_writeTo_4 rfl hl (by decide) rfl (fun ls hl => ?_)
  refine lv_aload_n hx hb dX11_writeTo_5 rfl (lv_at hl 0 rfl) ?_
  refine z_alen (t := 1) hC hZ h1 rfl dX11_writeTo_6 ?_
  refine lv_istore_n (lv' := [(3, .int (iI (w.length : Int))), (2, .ref la), (0, .ref a), (1, .ref b)]) hx hb dX11_writeTo_7 rfl hl (by decide) rfl (fun ls hl => ?_)
  refine z_iconst hx hb dX11_writeTo_8 ?_
  refine lv_istore (lv' := [(4, .int (iI 0)), (3, .int (iI (w.length : Int))), (2, .ref la), (0, .ref a), (1, .ref b)]) hx hb dX11_writeTo_9 hl (by decide) rfl (fun ls hl => ?_)
  have L11_k_1 : ∀ (fu : Nat) (k : Int) (F2 : zF) (va2 : Nat) (hfu : ((w.length : Int) - k).toNat < fu) (hi11_0 : 0 ≤ k ∧ k ≤ (w.length : Int)) (hi11_1 : va2 = va ∨ F va2 = none) (hi11_2 : zko [b, va] F F2) (hi11_3 : oSB cs F2 b va2 (grw cap (t.length + k.toNat)) (t ++ w.take k.toNat)) (H : Heap) (locs : List Loc) (hZ : zS D A s F2 H locs) (ls : Array Slot) (hl : lv_has ls 6 [(4, .int (iI k)), (3, .int (iI (w.length : Int))), (2, .ref la), (0, .ref a), (1, .ref b)]), W p l e (zR 9 (mcS cap (t.length + w.length)) (msS cap (t.length + w.length))) s m [.ref a, .ref b].toArray below meth c H locs (mcS cap (t.length + k.toNat)) (msS cap (t.length + k.toNat)) (MQ below (zQ D A (pV (fun F1 => ∃ va1 : Nat, (va1 = va ∨ F va1 = none) ∧ zko [b, va] F F1 ∧ oSB cs F1 b va1 (grw cap (t.length + w.length)) (t ++ w)))) [.ref a, .ref b].toArray s (mcS cap (t.length + w.length)) (msS cap (t.length + w.length)) A) (F0 m 11 ls []) := by
    intro fu
    induction fu with
    | zero =>
      intro k F2 va2 hfu
      exact absurd hfu (Nat.not_lt_zero _)
    | succ fu ih11 =>
      intro k F2 va2 hfu hi11_0 hi11_1 hi11_2 hi11_3  H locs hZ ls hl
      have g1 : F2 la = some (zA (cs 1) w.length f_) := hi11_2 _ _ h1 (zni1 hnb (zni1 hnv zni0))
      have hkl : (t ++ w.take k.toNat).length = t.length + k.toNat := by rw [List.length_append, List.length_take]; omega
      refine lv_iload hx hb dX11_writeTo_11 (lv_at hl 0 rfl) ?_
      refine lv_iload_n hx hb dX11_writeTo_13 rfl (lv_at hl 1 rfl) ?_
      refine z_icmp_ge (tgt := 36) hx hb dX11_writeTo_14 (by decide) (by omega) (by omega) (fun c_2 => ?_) (fun c_2 => ?_)
      · skip
        have hkn : k.toNat = w.length := by omega
        have hcf : mcS cap (t.length + k.toNat) = mcS cap (t.length + w.length) := by rw [hkn]
        have hsf : msS cap (t.length + k.toNat) = msS cap (t.length + w.length) := by rw [hkn]
        rw [hkn, List.take_length] at hi11_3
        exact z_vret hC hr hlk hZ (by omega) (by omega) (⟨va2, hi11_1, hi11_2, hi11_3⟩) dX11_writeTo_36
      · skip
        have hgk := h3 k (by omega) (by omega)
        have hgr := wd_g h5 (k := k) (by omega) (by omega)
        have hkp : (k + 1).toNat = k.toNat + 1 := by omega
        have hcc : mcS cap (t.length + k.toNat) + mcS (grw cap (t.length + k.toNat)) ((t ++ w.take k.toNat).length + 1) = mcS cap (t.length + (k + 1).toNat) := by rw [hkl, mcS_add (by omega) (by omega), hkp]; rfl
        have hss : msS cap (t.length + k.toNat) + msS (grw cap (t.length + k.toNat)) ((t ++ w.take k.toNat).length + 1) = msS cap (t.length + (k + 1).toNat) := by rw [hkl, msS_add (by omega) (by omega), hkp]; rfl
        have hcm : mcS cap (t.length + (k + 1).toNat) + mcS (grw cap (t.length + (k + 1).toNat)) (t.length + w.length) = mcS cap (t.length + w.length) := mcS_add (by omega) (by omega)
        have hsm : msS cap (t.length + (k + 1).toNat) + msS (grw cap (t.length + (k + 1).toNat)) (t.length + w.length) = msS cap (t.length + w.length) := msS_add (by omega) (by omega)
        refine lv_aload_n hx hb dX11_writeTo_17 rfl (lv_at hl 2 rfl) ?_
        refine lv_iload hx hb dX11_writeTo_18 (lv_at hl 0 rfl) ?_
        refine z_cald hC hZ g1 (by omega) (by omega) dX11_writeTo_20 ?_
        refine lv_istore (lv' := [(5, .int (iI (f_ k))), (4, .int (iI k)), (3, .int (iI (w.length : Int))), (2, .ref la), (0, .ref a), (1, .ref b)]) hx hb dX11_writeTo_21 hl (by decide) rfl (fun ls hl => ?_)
        refine lv_aload_n hx hb dX11_writeTo_23 rfl (lv_at hl 5 rfl) ?_
        refine lv_iload hx hb dX11_writeTo_24 (lv_at hl 0 rfl) ?_
        obtain ⟨fsho_3, ho_3⟩ := (hi11_3).o
        refine z_callr (z_runV (rest := []) (As := [.int (iI (f_ k))]) (n := 1) (ci := 1) hC hZ (met_J4_append_cf468 l D cs A F2 b va2 (grw cap (t.length + k.toNat)) (t ++ w.take k.toNat) (f_ k) hi11_3 (by omega) (by rw [hkl]; omega)) gv_X11_27 hd_J4_append_cf468 rfl ho_3 rfl hl rfl (Nat.le_of_ble_eq_true rfl) ⟨Nat.le_of_ble_eq_true rfl, Nat.le_of_ble_eq_true rfl⟩ ⟨(by show _ ≤ (mcS cap (t.length + w.length)); omega), (by show _ ≤ (msS cap (t.length + w.length)); omega)⟩ dX11_writeTo_26) hZ (fun r26 F26 H locs hp26_c_4 hZ => ?_)
        obtain ⟨rfl, va26, ha26, hk26, hb26⟩ := hp26_c_4
        have hva : va26 = va ∨ F va26 = none := ha26.elim (fun q => by rw [q]; exact hi11_1) (fun q => by
          cases hF : F va26 with
          | none => exact Or.inr rfl
          | some e9 =>
            by_cases q1 : va26 = va
            · exact Or.inl q1
            · by_cases q2 : va26 = b
              · rw [q2] at q; obtain ⟨fs9, ho9⟩ := hi11_3.o; rw [ho9] at q; cases q
              · rw [hi11_2 _ _ hF (zni1 q2 (zni1 q1 zni0))] at q; cases q)
        have hkk : zko [b, va] F F26 := by
          intro q9 e9 hq9 hn9
          have z9 := hi11_2 q9 e9 hq9 hn9
          refine hk26 q9 e9 z9 (fun c9 => ?_)
          rcases List.mem_cons.mp c9 with c9 | c9
          · exact hn9 (by rw [c9]; simp)
          · rw [List.mem_singleton.mp c9] at hq9 hn9
            rcases hi11_1 with c8 | c8
            · exact hn9 (by rw [c8]; simp)
            · rw [c8] at hq9; cases hq9
        have hbb : oSB cs F26 b va26 (grw cap (t.length + (k + 1).toNat)) (t ++ w.take (k + 1).toNat) := by
          rw [hkl, grw_add (by omega) (by omega), hgk, List.append_assoc, ← wd_take (by omega) (by omega)] at hb26
          rw [hkp, ← Nat.add_assoc]
          rw [hkp] at hb26
          exact hb26
        refine lv_pop hx hb dX11_writeTo_29 rfl ?_
        refine z_iinc (lv' := [(4, .int (iI (k + 1))), (5, .int (iI (f_ k))), (3, .int (iI (w.length : Int))), (2, .ref la), (0, .ref a), (1, .ref b)]) hx hb dX11_writeTo_30 hl (k := 1) rfl (by decide) rfl (fun ls hl => ?_)
        refine lv_goto (tgt := 11) hx hb dX11_writeTo_33 (by decide) ?_
        refine W.widen (k := (mcS cap (t.length + (k + 1).toNat))) (n := (msS cap (t.length + (k + 1).toNat))) (by omega) (by omega) ?_
        exact ih11 (k + 1) F26 va26 (by omega) (by omega) hva hkk hbb  _ _ hZ ls (lv_sub hl [0, 2, 3, 4, 5] rfl)
  refine W.widen (k := (mcS cap (t.length + (0 : Int).toNat))) (n := (msS cap (t.length + (0 : Int).toNat))) (by omega) (by omega) ?_
  exact L11_k_1 _ (0 : Int) F va (Nat.lt_succ_self _) (by omega) (Or.inl rfl) zko.refl (by rw [show grw cap (t.length + (0 : Int).toNat) = cap from if_pos (by show t.length + 0 ≤ cap; omega)]; simp; exact hb1)  _ _ hZ ls (lv_sub hl [0, 1, 2, 3, 4] rfl)
