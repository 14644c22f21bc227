theorem oLx.o {cs : Nat → ClassId} {F : zF} {a arr : Nat} {xs : List Nat} (h : oLx cs F a arr xs) : ∃ fs, F a = some (.inr (4, fs)) := by
  obtain ⟨mc, h1, -⟩ := h
  exact ⟨_, h1⟩
set_option maxHeartbeats 4000000 in
set_option maxRecDepth 100000 in
theorem met_Jxa1e45_init_da8c8 (l : Launch) (D : va_G) (cs : Nat → ClassId) (A : Nat → Prop) (F : zF) (a : Nat)   : zM l D cs A yJxa1e45_init_da8c8 cJxa1e45_init_da8c8 1 (none : Option Jvm.ClassFile.FieldType) 1 0 0 [.ref a] F (pV (fun F1 => F = F1)) := by
  refine zM_of (own := RJxa1e45) (by decide) rfl (Nat.le_of_ble_eq_true rfl) ?_
  intro p e s m below meth c hC hr hlk hnm hZ ls hl
  have hx := hC.x
  have hb := hC.b
  have hl : lv_has ls 1 [(0, .ref a)] := hl
  refine lv_aload_n hx hb dJxa1e45_init_da8c8_0 rfl (lv_at hl 0 rfl) ?_
  refine z_oinit (rest := []) hC hl qm_Jxa1e45_1 ⟨Nat.le_of_ble_eq_true rfl, Nat.le_of_ble_eq_true rfl⟩ dJxa1e45_init_da8c8_1 ?_
  exact z_vret hC hr hlk hZ (by decide) (by decide) (rfl) dJxa1e45_init_da8c8_4

set_option maxHeartbeats 4000000 in
set_option maxRecDepth 100000 in
theorem met_Jxc12de_init_da8c8 (l : Launch) (D : va_G) (cs : Nat → ClassId) (A : Nat → Prop) (F : zF) (a : Nat)  (h0 : F a = some (.inr (4, [.int (iI 0), .null, .int (iI 0)]))) : zM l D cs A yJxc12de_init_da8c8 cJxc12de_init_da8c8 1 (none : Option Jvm.ClassFile.FieldType) 2 0 0 [.ref a] F (pV (fun F1 => F1 = zup F a (.inr (4, [.int (iI 0), .null, .int (iI 0)])))) := by
  refine zM_of (own := RJxc12de) (by decide) rfl (Nat.le_of_ble_eq_true rfl) ?_
  intro p e s m below meth c hC hr hlk hnm hZ ls hl
  have hx := hC.x
  have hb := hC.b
  have hl : lv_has ls 1 [(0, .ref a)] := hl
  refine lv_aload_n hx hb dJxc12de_init_da8c8_0 rfl (lv_at hl 0 rfl) ?_
  refine z_callv (z_runI (rest := []) (As := []) (n := 0) hC hZ (met_Jxa1e45_init_da8c8 l D cs A F a) qc_Jxa1e45_init_da8c8 qn_Jxa1e45 qm_Jxc12de_1 qi_Jxa1e45_init_da8c8 rfl he_Jxa1e45_init_da8c8 rfl hl rfl (Nat.le_of_ble_eq_true rfl) ⟨Nat.le_of_ble_eq_true rfl, Nat.le_of_ble_eq_true rfl⟩ ⟨Nat.le_of_ble_eq_true rfl, Nat.le_of_ble_eq_true rfl⟩ dJxc12de_init_da8c8_1) hZ (fun F1 H locs hp1_c_1 hZ => ?_)
  obtain rfl := hp1_c_1
  refine lv_aload_n hx hb dJxc12de_init_da8c8_4 rfl (lv_at hl 0 rfl) ?_
  refine z_iconst hx hb dJxc12de_init_da8c8_5 ?_
  refine z_put (T := TJx4a65c) (N := 3) (ci := 4) (k := 0) (fs := [.int (iI 0), .null, .int (iI 0)]) (v := .int (iI 0)) hC hZ tyJx4a65c tyJx4a65c_ok nmJx4a65c in_Jx4a65c rfl (by decide) ql_Jxc12de_7 rfl (Or.inl rfl) rfl h0 (by show 0 < 3; decide) rfl rfl dJxc12de_init_da8c8_6 (fun H locs hZ => ?_)
  have hf_2 : (zup F a (.inr (4, [.int (iI 0), .null, .int (iI 0)]))) a = some (.inr (4, [.int (iI 0), .null, .int (iI 0)])) := zup_s
  replace hZ : zS D A s (zup F a (.inr (4, [.int (iI 0), .null, .int (iI 0)]))) _ _ := hZ
  exact z_vret hC hr hlk hZ (by decide) (by decide) (rfl) dJxc12de_init_da8c8_9

set_option maxHeartbeats 4000000 in
set_option maxRecDepth 100000 in
theorem met_Jx4a65c_init_da8c8 (l : Launch) (D : va_G) (cs : Nat → ClassId) (A : Nat → Prop) (F : zF) (a : Nat)  (h0 : F a = some (.inr (4, [.int (iI 0), .null, .int (iI 0)]))) : zM l D cs A yJx4a65c_init_da8c8 cJx4a65c_init_da8c8 1 (none : Option Jvm.ClassFile.FieldType) 3 0 0 [.ref a] F (pV (fun F1 => F1 = zup F a (.inr (4, [.int (iI 0), .ref (cs 8), .int (iI 0)])))) := by
  refine zM_of (own := RJx4a65c) (by decide) rfl (Nat.le_of_ble_eq_true rfl) ?_
  intro p e s m below meth c hC hr hlk hnm hZ ls hl
  have hx := hC.x
  have hb := hC.b
  have hl : lv_has ls 1 [(0, .ref a)] := hl
  refine lv_aload_n hx hb dJx4a65c_init_da8c8_0 rfl (lv_at hl 0 rfl) ?_
  refine z_callv (z_runI (rest := []) (As := []) (n := 0) hC hZ (met_Jxc12de_init_da8c8 l D cs A F a h0) qc_Jxc12de_init_da8c8 qn_Jxc12de qm_Jx4a65c_1 qi_Jxc12de_init_da8c8 rfl he_Jxc12de_init_da8c8 rfl hl rfl (Nat.le_of_ble_eq_true rfl) ⟨Nat.le_of_ble_eq_true rfl, Nat.le_of_ble_eq_true rfl⟩ ⟨Nat.le_of_ble_eq_true rfl, Nat.le_of_ble_eq_true rfl⟩ dJx4a65c_init_da8c8_1) hZ (fun F1 H locs hp1_c_1 hZ => ?_)
  obtain rfl := hp1_c_1
  have hf_2 : (zup F a (.inr (4, [.int (iI 0), .null, .int (iI 0)]))) a = some (.inr (4, [.int (iI 0), .null, .int (iI 0)])) := zup_s
  replace hZ : zS D A s (zup F a (.inr (4, [.int (iI 0), .null, .int (iI 0)]))) _ _ := hZ
  refine lv_aload_n hx hb dJx4a65c_init_da8c8_4 rfl (lv_at hl 0 rfl) ?_
  refine z_gets hC hZ (List.mem_of_getElem? (i := 0) rfl) ql_Jx4a65c_39 dJx4a65c_init_da8c8_5 ?_
  refine z_put (T := TJx4a65c) (N := 3) (ci := 4) (k := 1) (fs := [.int (iI 0), .null, .int (iI 0)]) (v := .ref (cs 8)) hC hZ tyJx4a65c tyJx4a65c_ok nmJx4a65c in_Jx4a65c rfl (by decide) ql_Jx4a65c_9 rfl (Or.inl rfl) rfl hf_2 (by show 1 < 3; decide) rfl rfl dJx4a65c_init_da8c8_8 (fun H locs hZ => ?_)
  rw [zup_up] at hZ
  have hf_3 : (zup F a (.inr (4, [.int (iI 0), .ref (cs 8), .int (iI 0)]))) a = some (.inr (4, [.int (iI 0), .ref (cs 8), .int (iI 0)])) := zup_s
  replace hZ : zS D A s (zup F a (.inr (4, [.int (iI 0), .ref (cs 8), .int (iI 0)]))) _ _ := hZ
  exact z_vret hC hr hlk hZ (by decide) (by decide) (rfl) dJx4a65c_init_da8c8_11

set_option maxHeartbeats 4000000 in
set_option maxRecDepth 100000 in
theorem met_Jx4a65c_size_8abf5 (l : Launch) (D : va_G) (cs : Nat → ClassId) (A : Nat → Prop) (F : zF) (a arr : Nat) (xs : List Nat)  (hl1 : oLx cs F a arr xs) : zM l D cs A yJx4a65c_size_8abf5 cJx4a65c_size_8abf5 1 (some FieldType.int) 1 0 0 [.ref a] F (pI (fun r F1 => F = F1 ∧ (xs.length : Int) = r)) := by
  refine zM_of (own := RJx4a65c) (by decide) rfl (Nat.le_of_ble_eq_true rfl) ?_
  intro p e s m below meth c hC hr hlk hnm hZ ls hl
  have hx := hC.x
  have hb := hC.b
  have hl : lv_has ls 1 [(0, .ref a)] := hl
  obtain ⟨mc, h0, hcase⟩ := id hl1
  have hl10 : xs.length ≤ 10 := by
    rcases hcase with ⟨-, rfl⟩ | ⟨h_, -, h2, -⟩
    · exact Nat.zero_le _
    · exact h2
  refine lv_aload_n hx hb dJx4a65c_size_8abf5_0 rfl (lv_at hl 0 rfl) ?_
  refine z_get (T := TJx4a65c) (N := 3) (ci := 4) (k := 2) (fs := [.int (iI mc), .ref arr, .int (iI (xs.length : Int))]) (v := .int (iI (xs.length : Int))) hC hZ in_Jx4a65c rfl (by decide) ql_Jx4a65c_48 rfl h0 rfl dJx4a65c_size_8abf5_1 ?_
  exact z_iret hC hr hlk hZ (by decide) (by decide) (⟨rfl, rfl⟩) dJx4a65c_size_8abf5_4

set_option maxHeartbeats 4000000 in
set_option maxRecDepth 100000 in
theorem met_Jx4a65c_isEmpty_aae02 (l : Launch) (D : va_G) (cs : Nat → ClassId) (A : Nat → Prop) (F : zF) (a arr : Nat) (xs : List Nat)  (hl1 : oLx cs F a arr xs) : zM l D cs A yJx4a65c_isEmpty_aae02 cJx4a65c_isEmpty_aae02 1 (some FieldType.boolean) 1 0 0 [.ref a] F (pI (fun r F1 => F = F1 ∧ ((xs.length = 0 ∧ r = 1) ∨ (¬ xs.length = 0 ∧ r = 0)))) := by
  refine zM_of (own := RJx4a65c) (by decide) rfl (Nat.le_of_ble_eq_true rfl) ?_
  intro p e s m below meth c hC hr hlk hnm hZ ls hl
  have hx := hC.x
  have hb := hC.b
  have hl : lv_has ls 1 [(0, .ref a)] := hl
  obtain ⟨mc, h0, hcase⟩ := id hl1
  have hl10 : xs.length ≤ 10 := by
    rcases hcase with ⟨-, rfl⟩ | ⟨h_, -, h2, -⟩
    · exact Nat.zero_le _
    · exact h2
  refine lv_aload_n hx hb dJx4a65c_isEmpty_aae02_0 rfl (lv_at hl 0 rfl) ?_
  refine z_get (T := TJx4a65c) (N := 3) (ci := 4) (k := 2) (fs := [.int (iI mc), .ref arr, .int (iI (xs.length : Int))]) (v := .int (iI (xs.length : Int))) hC hZ in_Jx4a65c rfl (by decide) ql_Jx4a65c_48 rfl h0 rfl dJx4a65c_isEmpty_aae02_1 ?_
  refine z_if_ne (tgt := 11) hx hb dJx4a65c_isEmpty_aae02_4 (by decide) (by omega) (fun c_1 => ?_) (fun c_1 => ?_)
  · skip
    refine z_iconst hx hb dJx4a65c_isEmpty_aae02_11 ?_
    exact z_zret hC hr hlk hZ rfl (by decide) (by decide) (⟨rfl, Or.inr ⟨by omega, rfl⟩⟩) dJx4a65c_isEmpty_aae02_12
  · skip
    refine z_iconst hx hb dJx4a65c_isEmpty_aae02_7 ?_
    refine lv_goto (tgt := 12) hx hb dJx4a65c_isEmpty_aae02_8 (by decide) ?_
    exact z_zret hC hr hlk hZ rfl (by decide) (by decide) (⟨rfl, Or.inl ⟨by omega, rfl⟩⟩) dJx4a65c_isEmpty_aae02_12

set_option maxHeartbeats 4000000 in
set_option maxRecDepth 100000 in
theorem met_Jx4a65c_elementData_915e3 (l : Launch) (D : va_G) (cs : Nat → ClassId) (A : Nat → Prop) (F : zF) (a arr : Nat) (xs : List Nat) (i : Int)  (hl1 : oLx cs F a arr xs) (hi : 0 ≤ i ∧ i < xs.length) : zM l D cs A yJx4a65c_elementData_915e3 cJx4a65c_elementData_915e3 2 (some (FieldType.object "java/lang/Object")) 1 0 0 [.ref a, .int (iI i)] F (pR (fun r F1 => F = F1 ∧ xs.getD i.toNat 0 = r)) := by
  refine zM_of (own := RJx4a65c) (by decide) rfl (Nat.le_of_ble_eq_true rfl) ?_
  intro p e s m below meth c hC hr hlk hnm hZ ls hl
  have hx := hC.x
  have hb := hC.b
  have hl : lv_has ls 2 [(0, .ref a), (1, .int (iI i))] := hl
  obtain ⟨mc, h0, hcase⟩ := id hl1
  have hl10 : xs.length ≤ 10 := by
    rcases hcase with ⟨-, rfl⟩ | ⟨h_, -, h2, -⟩
    · exact Nat.zero_le _
    · exact h2
  obtain ⟨h_, h1, h2, h3⟩ : ∃ h : Int → Option Nat, F arr = some (zO (cs 5) 10 h) ∧ xs.length ≤ 10 ∧ ∀ k : Int, 0 ≤ k → k < xs.length → h k = some (xs.getD k.toNat 0) := by
    rcases hcase with ⟨-, z⟩ | z
    · rw [z] at hi; simp at hi; omega
    · exact z
  refine lv_aload_n hx hb dJx4a65c_elementData_915e3_0 rfl (lv_at hl 0 rfl) ?_
  refine z_get (T := TJx4a65c) (N := 3) (ci := 4) (k := 1) (fs := [.int (iI mc), .ref arr, .int (iI (xs.length : Int))]) (v := .ref arr) hC hZ in_Jx4a65c rfl (by decide) ql_Jx4a65c_9 rfl h0 rfl dJx4a65c_elementData_915e3_1 ?_
  refine lv_iload_n hx hb dJx4a65c_elementData_915e3_4 rfl (lv_at hl 1 rfl) ?_
  refine z_aald (t := 5) (C := "java/lang/Object") (v := (some (xs.getD i.toNat 0))) hC hZ h1 rfl (by show _ ∧ _ < (10 : Int); omega) (by decide) (h3 i hi.1 hi.2) dJx4a65c_elementData_915e3_5 ?_
  exact z_aret hC hr (Or.inl ⟨_, rfl⟩) hlk hZ (by decide) (by decide) (⟨rfl, rfl⟩) dJx4a65c_elementData_915e3_6

set_option maxHeartbeats 4000000 in
set_option maxRecDepth 100000 in
theorem met_Jx4a65c_get_915e3 (l : Launch) (D : va_G) (cs : Nat → ClassId) (A : Nat → Prop) (F : zF) (a arr : Nat) (xs : List Nat) (i : Int)  (hl1 : oLx cs F a arr xs) (hi : 0 ≤ i ∧ i < xs.length) : zM l D cs A yJx4a65c_get_915e3 cJx4a65c_get_915e3 2 (some (FieldType.object "java/lang/Object")) 3 0 0 [.ref a, .int (iI i)] F (pR (fun r F1 => F = F1 ∧ xs.getD i.toNat 0 = r)) := by
  refine zM_of (own := RJx4a65c) (by decide) rfl (Nat.le_of_ble_eq_true rfl) ?_
  intro p e s m below meth c hC hr hlk hnm hZ ls hl
  have hx := hC.x
  have hb := hC.b
  have hl : lv_has ls 2 [(0, .ref a), (1, .int (iI i))] := hl
  obtain ⟨mc, h0, hcase⟩ := id hl1
  have hl10 : xs.length ≤ 10 := by
    rcases hcase with ⟨-, rfl⟩ | ⟨h_, -, h2, -⟩
    · exact Nat.zero_le _
    · exact h2
  obtain ⟨h_, h1, h2, h3⟩ : ∃ h : Int → Option Nat, F arr = some (zO (cs 5) 10 h) ∧ xs.length ≤ 10 ∧ ∀ k : Int, 0 ≤ k → k < xs.length → h k = some (xs.getD k.toNat 0) := by
    rcases hcase with ⟨-, z⟩ | z
    · rw [z] at hi; simp at hi; omega
    · exact z
  refine lv_iload_n hx hb dJx4a65c_get_915e3_0 rfl (lv_at hl 1 rfl) ?_
  refine lv_aload_n hx hb dJx4a65c_get_915e3_1 rfl (lv_at hl 0 rfl) ?_
  refine z_get (T := TJx4a65c) (N := 3) (ci := 4) (k := 2) (fs := [.int (iI mc), .ref arr, .int (iI (xs.length : Int))]) (v := .int (iI (xs.length : Int))) hC hZ in_Jx4a65c rfl (by decide) ql_Jx4a65c_48 rfl h0 rfl dJx4a65c_get_915e3_2 ?_
  refine z_calli (z_runS (rest := []) (As := [.int (iI i), .int (iI (xs.length : Int))]) (n := 2) hC hZ (met_J15_checkIndex_7cf53 l D cs A F i (xs.length : Int) (by omega) (by omega)) gs_Jx4a65c_118 he_J15_checkIndex_7cf53 rfl hl rfl (Nat.le_of_ble_eq_true rfl) ⟨Nat.le_of_ble_eq_true rfl, Nat.le_of_ble_eq_true rfl⟩ ⟨Nat.le_of_ble_eq_true rfl, Nat.le_of_ble_eq_true rfl⟩ dJx4a65c_get_915e3_5) hZ (fun r5 _ H locs hp_1 hZ => ?_)
  obtain ⟨rfl, rfl⟩ := hp_1
  refine lv_pop hx hb dJx4a65c_get_915e3_8 rfl ?_
  refine lv_aload_n hx hb dJx4a65c_get_915e3_9 rfl (lv_at hl 0 rfl) ?_
  refine lv_iload_n hx hb dJx4a65c_get_915e3_10 rfl (lv_at hl 1 rfl) ?_
  refine z_callr (z_runV (rest := []) (As := [.int (iI i)]) (n := 1) (ci := 4) hC hZ (met_Jx4a65c_elementData_915e3 l D cs A F a arr xs i hl1 (by omega)) gv_Jx4a65c_123 hd_Jx4a65c_elementData_915e3 rfl h0 rfl hl rfl (Nat.le_of_ble_eq_true rfl) ⟨Nat.le_of_ble_eq_true rfl, Nat.le_of_ble_eq_true rfl⟩ ⟨Nat.le_of_ble_eq_true rfl, Nat.le_of_ble_eq_true rfl⟩ dJx4a65c_get_915e3_11) hZ (fun r11 F11 H locs hp11_c_2 hZ => ?_)
  obtain ⟨rfl, rfl⟩ := hp11_c_2
  exact z_aret hC hr (Or.inl ⟨_, rfl⟩) hlk hZ (by decide) (by decide) (⟨rfl, rfl⟩) dJx4a65c_get_915e3_14

theorem gD_set {xs : List Nat} {i k : Int} {x : Nat} (hi : 0 ≤ i ∧ i < xs.length) (h0 : 0 ≤ k) : (xs.set i.toNat x).getD k.toNat 0 = if k = i then x else xs.getD k.toNat 0 := by
  rw [List.getD_eq_getElem?_getD, List.getElem?_set]
  by_cases h : k = i
  · subst h
    rw [if_pos rfl, if_pos rfl, if_pos (by omega)]
    rfl
  · rw [if_neg (by omega), if_neg h, List.getD_eq_getElem?_getD]
theorem gD_app {xs : List Nat} {k : Int} {x : Nat} (h0 : 0 ≤ k) (h1 : k < (xs.length : Int) + 1) : (xs ++ [x]).getD k.toNat 0 = if k = xs.length then x else xs.getD k.toNat 0 := by
  rw [List.getD_eq_getElem?_getD, List.getD_eq_getElem?_getD]
  by_cases h : k = xs.length
  · rw [if_pos h, List.getElem?_append_right (by omega), show k.toNat - xs.length = 0 by omega]
    rfl
  · rw [if_neg h, List.getElem?_append_left (by omega)]
theorem gD_era {xs : List Nat} {i k : Int} (hi : 0 ≤ i ∧ i < xs.length) (h0 : 0 ≤ k) : (xs.eraseIdx i.toNat).getD k.toNat 0 = if k < i then xs.getD k.toNat 0 else xs.getD (k + 1).toNat 0 := by
  rw [List.getD_eq_getElem?_getD, List.getElem?_eraseIdx]
  by_cases h : k < i
  · rw [if_pos (by omega), if_pos h, List.getD_eq_getElem?_getD]
  · rw [if_neg (by omega), if_neg h, List.getD_eq_getElem?_getD, show (k + 1).toNat = k.toNat + 1 by omega]
set_option maxHeartbeats 4000000 in
set_option maxRecDepth 100000 in
theorem met_Jx4a65c_set_bcc79 (l : Launch) (D : va_G) (cs : Nat → ClassId) (A : Nat → Prop) (F : zF) (a arr : Nat) (xs : List Nat) (i : Int) (x : Nat)  (hl1 : oLx cs F a arr xs) (hi : 0 ≤ i ∧ i < xs.length) (hx1 : zEl F x) : zM l D cs A yJx4a65c_set_bcc79 cJx4a65c_set_bcc79 4 (some (FieldType.object "java/lang/Object")) 3 0 0 [.ref a, .int (iI i), .ref x] F (pR (fun r F1 => zko [arr] F F1 ∧ oLx cs F1 a arr (xs.set i.toNat x) ∧ xs.getD i.toNat 0 = r)) := by
  refine zM_of (own := RJx4a65c) (by decide) rfl (Nat.le_of_ble_eq_true rfl) ?_
  intro p e s m below meth c hC hr hlk hnm hZ ls hl
  have hx := hC.x
  have hb := hC.b
  have hl : lv_has ls 4 [(0, .ref a), (1, .int (iI i)), (2, .ref x)] := hl
  obtain ⟨mc, h0, hcase⟩ := id hl1
  have hl10 : xs.length ≤ 10 := by
    rcases hcase with ⟨-, rfl⟩ | ⟨h_, -, h2, -⟩
    · exact Nat.zero_le _
    · exact h2
  obtain ⟨h_, h1, h2, h3⟩ : ∃ h : Int → Option Nat, F arr = some (zO (cs 5) 10 h) ∧ xs.length ≤ 10 ∧ ∀ k : Int, 0 ≤ k → k < xs.length → h k = some (xs.getD k.toNat 0) := by
    rcases hcase with ⟨-, z⟩ | z
    · rw [z] at hi; simp at hi; omega
    · exact z
  obtain ⟨ci, NN, CC, TT, fsx, x1, x2, x3⟩ := hx1
  refine lv_iload_n hx hb dJx4a65c_set_bcc79_0 rfl (lv_at hl 1 rfl) ?_
  refine lv_aload_n hx hb dJx4a65c_set_bcc79_1 rfl (lv_at hl 0 rfl) ?_
  refine z_get (T := TJx4a65c) (N := 3) (ci := 4) (k := 2) (fs := [.int (iI mc), .ref arr, .int (iI (xs.length : Int))]) (v := .int (iI (xs.length : Int))) hC hZ in_Jx4a65c rfl (by decide) ql_Jx4a65c_48 rfl h0 rfl dJx4a65c_set_bcc79_2 ?_
  refine z_calli (z_runS (rest := []) (As := [.int (iI i), .int (iI (xs.length : Int))]) (n := 2) hC hZ (met_J15_checkIndex_7cf53 l D cs A F i (xs.length : Int) (by omega) (by omega)) gs_Jx4a65c_118 he_J15_checkIndex_7cf53 rfl hl rfl (Nat.le_of_ble_eq_true rfl) ⟨Nat.le_of_ble_eq_true rfl, Nat.le_of_ble_eq_true rfl⟩ ⟨Nat.le_of_ble_eq_true rfl, Nat.le_of_ble_eq_true rfl⟩ dJx4a65c_set_bcc79_5) hZ (fun r5 _ H locs hp_1 hZ => ?_)
  obtain ⟨rfl, rfl⟩ := hp_1
  refine lv_pop hx hb dJx4a65c_set_bcc79_8 rfl ?_
  refine lv_aload_n hx hb dJx4a65c_set_bcc79_9 rfl (lv_at hl 0 rfl) ?_
  refine lv_iload_n hx hb dJx4a65c_set_bcc79_10 rfl (lv_at hl 1 rfl) ?_
  refine z_callr (z_runV (rest := []) (As := [.int (iI i)]) (n := 1) (ci := 4) hC hZ (met_Jx4a65c_elementData_915e3 l D cs A F a arr xs i hl1 (by omega)) gv_Jx4a65c_123 hd_Jx4a65c_elementData_915e3 rfl h0 rfl hl rfl (Nat.le_of_ble_eq_true rfl) ⟨Nat.le_of_ble_eq_true rfl, Nat.le_of_ble_eq_true rfl⟩ ⟨Nat.le_of_ble_eq_true rfl, Nat.le_of_ble_eq_true rfl⟩ dJx4a65c_set_bcc79_11) hZ (fun r11 F11 H locs hp11_c_2 hZ => ?_)
  obtain ⟨rfl, rfl⟩ := hp11_c_2
  refine lv_astore_n (lv' := [(3, .ref (xs.getD i.toNat 0)), (0, .ref a), (1, .int (iI i)), (2, .ref x)]) hx hb dJx4a65c_set_bcc79_14 rfl hl (by decide) rfl (fun ls hl => ?_)
  refine lv_aload_n hx hb dJx4a65c_set_bcc79_15 rfl (lv_at hl 1 rfl) ?_
  refine z_get (T := TJx4a65c) (N := 3) (ci := 4) (k := 1) (fs := [.int (iI mc), .ref arr, .int (iI (xs.length : Int))]) (v := .ref arr) hC hZ in_Jx4a65c rfl (by decide) ql_Jx4a65c_9 rfl h0 rfl dJx4a65c_set_bcc79_16 ?_
  refine lv_iload_n hx hb dJx4a65c_set_bcc79_19 rfl (lv_at hl 2 rfl) ?_
  refine lv_aload_n hx hb dJx4a65c_set_bcc79_20 rfl (lv_at hl 3 rfl) ?_
  refine z_aast (ci := ci) (E := "java/lang/Object") hC hZ 5 h1 rfl x1 x2 (Or.inr x3) (by show _ ∧ _ < (10 : Int); omega) (by decide) dJx4a65c_set_bcc79_21 (fun H locs hZ => ?_)
  have hf_3 : (zup F arr (zO (cs 5) 10 (upI h_ i (some x)))) a = some (.inr (4, [.int (iI mc), .ref arr, .int (iI (xs.length : Int))])) := zup_k (zne h0 h1 (fun q => by cases q)) h0
  have hf_4 : (zup F arr (zO (cs 5) 10 (upI h_ i (some x)))) arr = some (zO (cs 5) 10 (upI h_ i (some x))) := zup_s
  replace hZ : zS D A s (zup F arr (zO (cs 5) 10 (upI h_ i (some x)))) _ _ := hZ
  refine lv_aload_n hx hb dJx4a65c_set_bcc79_22 rfl (lv_at hl 0 rfl) ?_
  exact z_aret hC hr (Or.inl ⟨_, rfl⟩) hlk hZ (by decide) (by decide) (⟨((zko.refl).up (by simp)), ⟨mc, by rw [List.length_set]; exact hf_3, Or.inr ⟨_, hf_4, by rw [List.length_set]; exact h2, fun k k0 k1 => by rw [List.length_set] at k1; rw [gD_set hi k0]; unfold upI; by_cases q : k = i; (rw [if_pos q, if_pos q]); rw [if_neg q, if_neg q]; exact h3 k k0 k1⟩⟩, rfl⟩) dJx4a65c_set_bcc79_23

theorem zEl.up {F : zF} {a x ci : Nat} {fs fs' : List Value} (h : zEl F x) (ha : F a = some (.inr (ci, fs))) : zEl (zup F a (.inr (ci, fs'))) x := by
  obtain ⟨cx, N, C, T, fx, h1, h2⟩ := h
  by_cases q : x = a
  · subst q
    have e := Option.some.inj (h1.symm.trans ha)
    cases e
    exact ⟨ci, N, C, T, fs', zup_s, h2⟩
  · exact ⟨cx, N, C, T, fx, zup_k q h1, h2⟩
theorem zEl.upa {F : zF} {a x : Nat} {e e' : (ClassId × vp_A)} (h : zEl F x) (ha : F a = some (.inl e)) : zEl (zup F a (.inl e')) x := by
  obtain ⟨cx, N, C, T, fx, h1, h2⟩ := h
  exact ⟨cx, N, C, T, fx, zup_k (zne h1 ha (fun q => by cases q)) h1, h2⟩
theorem zEl.new {F : zF} {a x : Nat} {e : va_E} (h : zEl F x) (ha : F a = none) : zEl (zup F a e) x := h.mono (zle.fresh ha)
set_option maxHeartbeats 4000000 in
set_option maxRecDepth 100000 in
theorem met_Jx4a65c_grow_92f84 (l : Launch) (D : va_G) (cs : Nat → ClassId) (A : Nat → Prop) (F : zF) (a : Nat) (mc n : Int)  (h0 : F a = some (.inr (4, [.int (iI mc), .ref (cs 8), .int (iI 0)]))) (hn : 0 ≤ n ∧ n ≤ 10) : zM l D cs A yJx4a65c_grow_92f84 cJx4a65c_grow_92f84 4 (some (FieldType.array (FieldType.object "java/lang/Object"))) 4 1 10 [.ref a, .int (iI n)] F (pR (fun r F1 => F r = none ∧ F1 = zup (zup F r (zO (cs 5) 10 (fun _ => none))) a (.inr (4, [.int (iI mc), .ref r, .int (iI 0)])))) := by
  refine zM_of (own := RJx4a65c) (by decide) rfl (Nat.le_of_ble_eq_true rfl) ?_
  intro p e s m below meth c hC hr hlk hnm hZ ls hl
  have hx := hC.x
  have hb := hC.b
  have hl : lv_has ls 4 [(0, .ref a), (1, .int (iI n))] := hl
  refine lv_aload_n hx hb dJx4a65c_grow_92f84_0 rfl (lv_at hl 0 rfl) ?_
  refine z_get (T := TJx4a65c) (N := 3) (ci := 4) (k := 1) (fs := [.int (iI mc), .ref (cs 8), .int (iI 0)]) (v := .ref (cs 8)) hC hZ in_Jx4a65c rfl (by decide) ql_Jx4a65c_9 rfl h0 rfl dJx4a65c_grow_92f84_1 ?_
  refine z_tlen hC hZ (List.mem_of_getElem? (i := 0) rfl) dJx4a65c_grow_92f84_4 ?_
  refine lv_istore_n (lv' := [(2, .int (iI 0)), (0, .ref a), (1, .int (iI n))]) hx hb dJx4a65c_grow_92f84_5 rfl hl (by decide) rfl (fun ls hl => ?_)
  refine lv_iload_n hx hb dJx4a65c_grow_92f84_6 rfl (lv_at hl 0 rfl) ?_
  refine z_if_gt (tgt := 20) hx hb dJx4a65c_grow_92f84_7 (by decide) (by decide) (fun c_1 => ?_) (fun c_1 => ?_)
  · skip
    exfalso; omega
  · skip
    refine lv_aload_n hx hb dJx4a65c_grow_92f84_10 rfl (lv_at hl 1 rfl) ?_
    refine z_get (T := TJx4a65c) (N := 3) (ci := 4) (k := 1) (fs := [.int (iI mc), .ref (cs 8), .int (iI 0)]) (v := .ref (cs 8)) hC hZ in_Jx4a65c rfl (by decide) ql_Jx4a65c_9 rfl h0 rfl dJx4a65c_grow_92f84_11 ?_
    refine z_gets hC hZ (List.mem_of_getElem? (i := 0) rfl) ql_Jx4a65c_39 dJx4a65c_grow_92f84_14 ?_
    refine lv_acmp_eq (rx := some (cs 8)) (ry := some (cs 8)) (tgt := 45) hx hb dJx4a65c_grow_92f84_17 (by decide) (fun _ => ?_) (fun c => absurd rfl c)
    refine lv_aload_n hx hb dJx4a65c_grow_92f84_45 rfl (lv_at hl 1 rfl) ?_
    refine z_bipush hx hb dJx4a65c_grow_92f84_46 (by decide) ?_
    refine lv_iload_n hx hb dJx4a65c_grow_92f84_48 rfl (lv_at hl 2 rfl) ?_
    refine z_mmax (rest := [.ref a]) hC hl qm_Jx4a65c_79 (by decide) (by omega) ⟨Nat.le_of_ble_eq_true rfl, Nat.le_of_ble_eq_true rfl⟩ ⟨Nat.le_of_ble_eq_true rfl, Nat.le_of_ble_eq_true rfl⟩ dJx4a65c_grow_92f84_49 (fun r49 hmx49 => ?_)
    refine z_newr (C := "java/lang/Object") (n := r49) 5 (hC := hC) (hZ := hZ) rfl qk_Jx4a65c_7 hC.G.2.2.1.2.1 (by omega) (Nat.le_of_ble_eq_true rfl) (by show _ ≤ 10; omega) dJx4a65c_grow_92f84_52 (fun q52 H hq52 hZ => ?_)
    have hnt52 : (r49).toNat = 10 := (by omega)
    rw [hnt52] at hZ
    rw [hnt52]
    have hf_2 : (zup F q52 (zO (cs 5) 10 (fun _ => none))) a = some (.inr (4, [.int (iI mc), .ref (cs 8), .int (iI 0)])) := zup_k (zF_ne h0 hq52.1) h0
    have hf_3 : (zup F q52 (zO (cs 5) 10 (fun _ => none))) q52 = some (zO (cs 5) 10 (fun _ => none)) := zup_s
    replace hZ : zS D A s (zup F q52 (zO (cs 5) 10 (fun _ => none))) _ _ := hZ
    refine lv_dup_x1 hx hb dJx4a65c_grow_92f84_55 rfl rfl ?_
    refine z_put (T := TJx4a65c) (N := 3) (ci := 4) (k := 1) (fs := [.int (iI mc), .ref (cs 8), .int (iI 0)]) (v := .ref q52) hC hZ tyJx4a65c tyJx4a65c_ok nmJx4a65c in_Jx4a65c rfl (by decide) ql_Jx4a65c_9 rfl (Or.inl rfl) rfl hf_2 (by show 1 < 3; decide) rfl rfl dJx4a65c_grow_92f84_56 (fun H locs hZ => ?_)
    have hf_4 : (zup (zup F q52 (zO (cs 5) 10 (fun _ => none))) a (.inr (4, [.int (iI mc), .ref q52, .int (iI 0)]))) q52 = some (zO (cs 5) 10 (fun _ => none)) := zup_k (zne hf_3 hf_2 (fun q => by cases q)) hf_3
    have hf_5 : (zup (zup F q52 (zO (cs 5) 10 (fun _ => none))) a (.inr (4, [.int (iI mc), .ref q52, .int (iI 0)]))) a = some (.inr (4, [.int (iI mc), .ref q52, .int (iI 0)])) := zup_s
    replace hZ : zS D A s (zup (zup F q52 (zO (cs 5) 10 (fun _ => none))) a (.inr (4, [.int (iI mc), .ref q52, .int (iI 0)]))) _ _ := hZ
    exact z_aret hC hr (Or.inr ⟨_, rfl⟩) hlk hZ (by decide) (by decide) (⟨hq52.1, rfl⟩) dJx4a65c_grow_92f84_59

set_option maxHeartbeats 4000000 in
set_option maxRecDepth 100000 in
theorem met_Jx4a65c_grow_d5877 (l : Launch) (D : va_G) (cs : Nat → ClassId) (A : Nat → Prop) (F : zF) (a : Nat) (mc : Int)  (h0 : F a = some (.inr (4, [.int (iI mc), .ref (cs 8), .int (iI 0)]))) : zM l D cs A yJx4a65c_grow_d5877 cJx4a65c_grow_d5877 1 (some (FieldType.array (FieldType.object "java/lang/Object"))) 5 1 10 [.ref a] F (pR (fun r F1 => F r = none ∧ F1 = zup (zup F r (zO (cs 5) 10 (fun _ => none))) a (.inr (4, [.int (iI mc), .ref r, .int (iI 0)])))) := by
  refine zM_of (own := RJx4a65c) (by decide) rfl (Nat.le_of_ble_eq_true rfl) ?_
  intro p e s m below meth c hC hr hlk hnm hZ ls hl
  have hx := hC.x
  have hb := hC.b
  have hl : lv_has ls 1 [(0, .ref a)] := hl
  refine lv_aload_n hx hb dJx4a65c_grow_d5877_0 rfl (lv_at hl 0 rfl) ?_
  refine lv_aload_n hx hb dJx4a65c_grow_d5877_1 rfl (lv_at hl 0 rfl) ?_
  refine z_get (T := TJx4a65c) (N := 3) (ci := 4) (k := 2) (fs := [.int (iI mc), .ref (cs 8), .int (iI 0)]) (v := .int (iI 0)) hC hZ in_Jx4a65c rfl (by decide) ql_Jx4a65c_48 rfl h0 rfl dJx4a65c_grow_d5877_2 ?_
  refine z_iconst hx hb dJx4a65c_grow_d5877_5 ?_
  refine z_iadd hx hb dJx4a65c_grow_d5877_6 ?_
  refine z_top (y := 1) (by decide) ?_
  refine z_callr (z_runV (rest := []) (As := [.int (iI 1)]) (n := 1) (ci := 4) hC hZ (met_Jx4a65c_grow_92f84 l D cs A F a mc 1 h0 (by decide)) gv_Jx4a65c_69 hd_Jx4a65c_grow_92f84 rfl h0 rfl hl rfl (Nat.le_of_ble_eq_true rfl) ⟨Nat.le_of_ble_eq_true rfl, Nat.le_of_ble_eq_true rfl⟩ ⟨Nat.le_of_ble_eq_true rfl, Nat.le_of_ble_eq_true rfl⟩ dJx4a65c_grow_d5877_7) hZ (fun r7 F7 H locs hp7_c_1 hZ => ?_)
  obtain ⟨hn7, rfl⟩ := hp7_c_1
  have hr7 : F r7 = none ∧ True := ⟨hn7, trivial⟩
  have hf_2 : (zup F r7 (zO (cs 5) 10 (fun _ => none))) a = some (.inr (4, [.int (iI mc), .ref (cs 8), .int (iI 0)])) := zup_k (zF_ne h0 hr7.1) h0
  have hf_3 : (zup F r7 (zO (cs 5) 10 (fun _ => none))) r7 = some (zO (cs 5) 10 (fun _ => none)) := zup_s
  have hf_4 : (zup (zup F r7 (zO (cs 5) 10 (fun _ => none))) a (.inr (4, [.int (iI mc), .ref r7, .int (iI 0)]))) r7 = some (zO (cs 5) 10 (fun _ => none)) := zup_k (zne hf_3 hf_2 (fun q => by cases q)) hf_3
  have hf_5 : (zup (zup F r7 (zO (cs 5) 10 (fun _ => none))) a (.inr (4, [.int (iI mc), .ref r7, .int (iI 0)]))) a = some (.inr (4, [.int (iI mc), .ref r7, .int (iI 0)])) := zup_s
  exact z_aret hC hr (Or.inr ⟨_, rfl⟩) hlk hZ (by decide) (by decide) (⟨hn7, rfl⟩) dJx4a65c_grow_d5877_10

set_option maxHeartbeats 4000000 in
set_option maxRecDepth 100000 in
theorem met_Jx4a65c_add_72be8 (l : Launch) (D : va_G) (cs : Nat → ClassId) (A : Nat → Prop) (F : zF) (a arr : Nat) (xs : List Nat) (x : Nat)  (hl1 : oLx cs F a arr xs) (hlt : xs.length < 10) (hx1 : zEl F x) (hxa : x ≠ a) : zM l D cs A yJx4a65c_add_72be8 cJx4a65c_add_72be8 4 (none : Option Jvm.ClassFile.FieldType) 6 1 10 [.ref a, .ref x, .ref arr, .int (iI (xs.length : Int))] F (pV (fun F1 => ∃ arr1 : Nat, (arr1 = arr ∨ F arr1 = none) ∧ zko [a, arr] F F1 ∧ oLx cs F1 a arr1 (xs ++ [x]))) := by
  refine zM_of (own := RJx4a65c) (by decide) rfl (Nat.le_of_ble_eq_true rfl) ?_
  intro p e s m below meth c hC hr hlk hnm hZ ls hl
  have hx := hC.x
  have hb := hC.b
  have hl : lv_has ls 4 [(0, .ref a), (1, .ref x), (2, .ref arr), (3, .int (iI (xs.length : Int)))] := hl
  obtain ⟨mc, h0, hcase⟩ := id hl1
  obtain ⟨ci, NN, CC, TT, fsx, x1, x2, x3⟩ := id hx1
  rcases hcase with ⟨rfl, rfl⟩ | ⟨h_, h1, h2, h3⟩
  · skip
    have hl : lv_has ls 4 [(0, .ref a), (1, .ref x), (2, .ref (cs 8)), (3, .int (iI 0))] := hl
    refine lv_iload_n hx hb dJx4a65c_add_72be8_0 rfl (lv_at hl 3 rfl) ?_
    refine lv_aload_n hx hb dJx4a65c_add_72be8_1 rfl (lv_at hl 2 rfl) ?_
    refine z_tlen hC hZ (List.mem_of_getElem? (i := 0) rfl) dJx4a65c_add_72be8_2 ?_
    refine z_icmp_ne (tgt := 11) hx hb dJx4a65c_add_72be8_3 (by decide) (by decide) (by decide) (fun c_1 => ?_) (fun c_1 => ?_)
    · skip
      exfalso; omega
    · skip
      refine lv_aload_n hx hb dJx4a65c_add_72be8_6 rfl (lv_at hl 0 rfl) ?_
      refine z_callr (z_runV (rest := []) (As := []) (n := 0) (ci := 4) hC hZ (met_Jx4a65c_grow_d5877 l D cs A F a mc h0) gv_Jx4a65c_129 hd_Jx4a65c_grow_d5877 rfl h0 rfl hl rfl (Nat.le_of_ble_eq_true rfl) ⟨Nat.le_of_ble_eq_true rfl, Nat.le_of_ble_eq_true rfl⟩ ⟨Nat.le_of_ble_eq_true rfl, Nat.le_of_ble_eq_true rfl⟩ dJx4a65c_add_72be8_7) hZ (fun r7 F7 H locs hp7_c_2 hZ => ?_)
      obtain ⟨hn7, rfl⟩ := hp7_c_2
      have hr7 : F r7 = none ∧ True := ⟨hn7, trivial⟩
      have hf_3 : (zup F r7 (zO (cs 5) 10 (fun _ => none))) a = some (.inr (4, [.int (iI mc), .ref (cs 8), .int (iI 0)])) := zup_k (zF_ne h0 hr7.1) h0
      have hf_4 : (zup F r7 (zO (cs 5) 10 (fun _ => none))) x = some (.inr (ci, fsx)) := zup_k (zF_ne x1 hr7.1) x1
      have hf_5 : (zup F r7 (zO (cs 5) 10 (fun _ => none))) r7 = some (zO (cs 5) 10 (fun _ => none)) := zup_s
      have hf_6 : (zup (zup F r7 (zO (cs 5) 10 (fun _ => none))) a (.inr (4, [.int (iI mc), .ref r7, .int (iI 0)]))) x = some (.inr (ci, fsx)) := zup_k hxa hf_4
      have hf_7 : (zup (zup F r7 (zO (cs 5) 10 (fun _ => none))) a (.inr (4, [.int (iI mc), .ref r7, .int (iI 0)]))) r7 = some (zO (cs 5) 10 (fun _ => none)) := zup_k (zne hf_5 hf_3 (fun q => by cases q)) hf_5
      have hf_8 : (zup (zup F r7 (zO (cs 5) 10 (fun _ => none))) a (.inr (4, [.int (iI mc), .ref r7, .int (iI 0)]))) a = some (.inr (4, [.int (iI mc), .ref r7, .int (iI 0)])) := zup_s
      refine lv_astore_n (lv' := [(2, .ref r7), (0, .ref a), (1, .ref x), (3, .int (iI 0))]) hx hb dJx4a65c_add_72be8_10 rfl hl (by decide) rfl (fun ls hl => ?_)
      refine lv_aload_n hx hb dJx4a65c_add_72be8_11 rfl (lv_at hl 0 rfl) ?_
      refine lv_iload_n hx hb dJx4a65c_add_72be8_12 rfl (lv_at hl 3 rfl) ?_
      refine lv_aload_n hx hb dJx4a65c_add_72be8_13 rfl (lv_at hl 2 rfl) ?_
      refine z_aast (ci := ci) (E := "java/lang/Object") hC hZ 5 hf_7 rfl hf_6 x2 (Or.inr x3) (by decide) (by decide) dJx4a65c_add_72be8_14 (fun H locs hZ => ?_)
      have hf_9 : (zup (zup (zup F r7 (zO (cs 5) 10 (fun _ => none))) a (.inr (4, [.int (iI mc), .ref r7, .int (iI 0)]))) r7 (zO (cs 5) 10 (upI (fun _ => none) 0 (some x)))) x = some (.inr (ci, fsx)) := zup_k (zne hf_6 hf_7 (fun q => by cases q)) hf_6
      have hf_10 : (zup (zup (zup F r7 (zO (cs 5) 10 (fun _ => none))) a (.inr (4, [.int (iI mc), .ref r7, .int (iI 0)]))) r7 (zO (cs 5) 10 (upI (fun _ => none) 0 (some x)))) a = some (.inr (4, [.int (iI mc), .ref r7, .int (iI 0)])) := zup_k (zne hf_8 hf_7 (fun q => by cases q)) hf_8
      have hf_11 : (zup (zup (zup F r7 (zO (cs 5) 10 (fun _ => none))) a (.inr (4, [.int (iI mc), .ref r7, .int (iI 0)]))) r7 (zO (cs 5) 10 (upI (fun _ => none) 0 (some x)))) r7 = some (zO (cs 5) 10 (upI (fun _ => none) 0 (some x))) := zup_s
      replace hZ : zS D A s (zup (zup (zup F r7 (zO (cs 5) 10 (fun _ => none))) a (.inr (4, [.int (iI mc), .ref r7, .int (iI 0)]))) r7 (zO (cs 5) 10 (upI (fun _ => none) 0 (some x)))) _ _ := hZ
      refine lv_aload_n hx hb dJx4a65c_add_72be8_15 rfl (lv_at hl 1 rfl) ?_
      refine lv_iload_n hx hb dJx4a65c_add_72be8_16 rfl (lv_at hl 3 rfl) ?_
      refine z_iconst hx hb dJx4a65c_add_72be8_17 ?_
      refine z_iadd hx hb dJx4a65c_add_72be8_18 ?_
      refine z_top (y := 1) (by decide) ?_
      refine z_put (T := TJx4a65c) (N := 3) (ci := 4) (k := 2) (fs := [.int (iI mc), .ref r7, .int (iI 0)]) (v := .int (iI 1)) hC hZ tyJx4a65c tyJx4a65c_ok nmJx4a65c in_Jx4a65c rfl (by decide) ql_Jx4a65c_48 rfl (Or.inl rfl) rfl hf_10 (by show 2 < 3; decide) rfl rfl dJx4a65c_add_72be8_19 (fun H locs hZ => ?_)
      have hf_12 : (zup (zup (zup (zup F r7 (zO (cs 5) 10 (fun _ => none))) a (.inr (4, [.int (iI mc), .ref r7, .int (iI 0)]))) r7 (zO (cs 5) 10 (upI (fun _ => none) 0 (some x)))) a (.inr (4, [.int (iI mc), .ref r7, .int (iI 1)]))) x = some (.inr (ci, fsx)) := zup_k hxa hf_9
      have hf_13 : (zup (zup (zup (zup F r7 (zO (cs 5) 10 (fun _ => none))) a (.inr (4, [.int (iI mc), .ref r7, .int (iI 0)]))) r7 (zO (cs 5) 10 (upI (fun _ => none) 0 (some x)))) a (.inr (4, [.int (iI mc), .ref r7, .int (iI 1)]))) r7 = some (zO (cs 5) 10 (upI (fun _ => none) 0 (some x))) := zup_k (zne hf_11 hf_10 (fun q => by cases q)) hf_11
      have hf_14 : (zup (zup (zup (zup F r7 (zO (cs 5) 10 (fun _ => none))) a (.inr (4, [.int (iI mc), .ref r7, .int (iI 0)]))) r7 (zO (cs 5) 10 (upI (fun _ => none) 0 (some x)))) a (.inr (4, [.int (iI mc), .ref r7, .int (iI 1)]))) a = some (.inr (4, [.int (iI mc), .ref r7, .int (iI 1)])) := zup_s
      replace hZ : zS D A s (zup (zup (zup (zup F r7 (zO (cs 5) 10 (fun _ => none))) a (.inr (4, [.int (iI mc), .ref r7, .int (iI 0)]))) r7 (zO (cs 5) 10 (upI (fun _ => none) 0 (some x)))) a (.inr (4, [.int (iI mc), .ref r7, .int (iI 1)]))) _ _ := hZ
      exact z_vret hC hr hlk hZ (by decide) (by decide) (⟨r7, Or.inr hr7.1, (((((zko.refl).new hr7.1).up (by simp)).upn hr7.1).up (by simp)), _, hf_14, Or.inr ⟨_, hf_13, by simp, fun k k0 k1 => by rw [show k = 0 by simp at k1; omega]; rfl⟩⟩) dJx4a65c_add_72be8_22
  · skip
    refine lv_iload_n hx hb dJx4a65c_add_72be8_0 rfl (lv_at hl 3 rfl) ?_
    refine lv_aload_n hx hb dJx4a65c_add_72be8_1 rfl (lv_at hl 2 rfl) ?_
    refine z_alen (t := 5) hC hZ h1 rfl dJx4a65c_add_72be8_2 ?_
    refine z_top (y := 10) rfl ?_
    refine z_icmp_ne (tgt := 11) hx hb dJx4a65c_add_72be8_3 (by decide) (by omega) (by decide) (fun c_15 => ?_) (fun c_15 => ?_)
    · skip
      refine lv_aload_n hx hb dJx4a65c_add_72be8_11 rfl (lv_at hl 2 rfl) ?_
      refine lv_iload_n hx hb dJx4a65c_add_72be8_12 rfl (lv_at hl 3 rfl) ?_
      refine lv_aload_n hx hb dJx4a65c_add_72be8_13 rfl (lv_at hl 1 rfl) ?_
      refine z_aast (ci := ci) (E := "java/lang/Object") hC hZ 5 h1 rfl x1 x2 (Or.inr x3) (by show _ ∧ _ < (10 : Int); omega) (by decide) dJx4a65c_add_72be8_14 (fun H locs hZ => ?_)
      have hf_16 : (zup F arr (zO (cs 5) 10 (upI h_ (xs.length : Int) (some x)))) a = some (.inr (4, [.int (iI mc), .ref arr, .int (iI (xs.length : Int))])) := zup_k (zne h0 h1 (fun q => by cases q)) h0
      have hf_17 : (zup F arr (zO (cs 5) 10 (upI h_ (xs.length : Int) (some x)))) x = some (.inr (ci, fsx)) := zup_k (zne x1 h1 (fun q => by cases q)) x1
      have hf_18 : (zup F arr (zO (cs 5) 10 (upI h_ (xs.length : Int) (some x)))) arr = some (zO (cs 5) 10 (upI h_ (xs.length : Int) (some x))) := zup_s
      replace hZ : zS D A s (zup F arr (zO (cs 5) 10 (upI h_ (xs.length : Int) (some x)))) _ _ := hZ
      refine lv_aload_n hx hb dJx4a65c_add_72be8_15 rfl (lv_at hl 0 rfl) ?_
      refine lv_iload_n hx hb dJx4a65c_add_72be8_16 rfl (lv_at hl 3 rfl) ?_
      refine z_iconst hx hb dJx4a65c_add_72be8_17 ?_
      refine z_iadd hx hb dJx4a65c_add_72be8_18 ?_
      refine z_put (T := TJx4a65c) (N := 3) (ci := 4) (k := 2) (fs := [.int (iI mc), .ref arr, .int (iI (xs.length : Int))]) (v := .int (iI ((xs.length : Int) + 1))) hC hZ tyJx4a65c tyJx4a65c_ok nmJx4a65c in_Jx4a65c rfl (by decide) ql_Jx4a65c_48 rfl (Or.inl rfl) rfl hf_16 (by show 2 < 3; decide) rfl rfl dJx4a65c_add_72be8_19 (fun H locs hZ => ?_)
      have hf_19 : (zup (zup F arr (zO (cs 5) 10 (upI h_ (xs.length : Int) (some x)))) a (.inr (4, [.int (iI mc), .ref arr, .int (iI ((xs.length : Int) + 1))]))) x = some (.inr (ci, fsx)) := zup_k hxa hf_17
      have hf_20 : (zup (zup F arr (zO (cs 5) 10 (upI h_ (xs.length : Int) (some x)))) a (.inr (4, [.int (iI mc), .ref arr, .int (iI ((xs.length : Int) + 1))]))) arr = some (zO (cs 5) 10 (upI h_ (xs.length : Int) (some x))) := zup_k (zne hf_18 hf_16 (fun q => by cases q)) hf_18
      have hf_21 : (zup (zup F arr (zO (cs 5) 10 (upI h_ (xs.length : Int) (some x)))) a (.inr (4, [.int (iI mc), .ref arr, .int (iI ((xs.length : Int) + 1))]))) a = some (.inr (4, [.int (iI mc), .ref arr, .int (iI ((xs.length : Int) + 1))])) := zup_s
      replace hZ : zS D A s (zup (zup F arr (zO (cs 5) 10 (upI h_ (xs.length : Int) (some x)))) a (.inr (4, [.int (iI mc), .ref arr, .int (iI ((xs.length : Int) + 1))]))) _ _ := hZ
      exact z_vret hC hr hlk hZ (by decide) (by decide) (⟨arr, Or.inl rfl, (((zko.refl).up (by simp)).up (by simp)), _, by rw [List.length_append, List.length_singleton]; exact hf_21, Or.inr ⟨_, hf_20, by rw [List.length_append, List.length_singleton]; omega, fun k k0 k1 => by rw [List.length_append, List.length_singleton] at k1; rw [gD_app k0 (by omega)]; unfold upI; by_cases q : k = xs.length; (rw [if_pos q, if_pos q]); rw [if_neg q, if_neg q]; exact h3 k k0 (by omega)⟩⟩) dJx4a65c_add_72be8_22
    · skip
      exfalso; omega

set_option maxHeartbeats 4000000 in
set_option maxRecDepth 100000 in
theorem met_Jx4a65c_add_9ea2d (l : Launch) (D : va_G) (cs : Nat → ClassId) (A : Nat → Prop) (F : zF) (a arr : Nat) (xs : List Nat) (x : Nat)  (hl1 : oLx cs F a arr xs) (hlt : xs.length < 10) (hx1 : zEl F x) (hxa : x ≠ a) : zM l D cs A yJx4a65c_add_9ea2d cJx4a65c_add_9ea2d 2 (some FieldType.boolean) 7 1 10 [.ref a, .ref x] F (pI (fun r F1 => 1 = r ∧ ∃ arr1 : Nat, (arr1 = arr ∨ F arr1 = none) ∧ zko [a, arr] F F1 ∧ oLx cs F1 a arr1 (xs ++ [x]))) := by
  refine zM_of (own := RJx4a65c) (by decide) rfl (Nat.le_of_ble_eq_true rfl) ?_
  intro p e s m below meth c hC hr hlk hnm hZ ls hl
  have hx := hC.x
  have hb := hC.b
  have hl : lv_has ls 2 [(0, .ref a), (1, .ref x)] := hl
  obtain ⟨mc, h0, hcase⟩ := id hl1
  obtain ⟨ci, NN, CC, TT, fsx, x1, x2, x3⟩ := id hx1
  rcases hcase with ⟨rfl, rfl⟩ | ⟨h_, h1, h2, h3⟩
  · skip
    refine lv_aload_n hx hb dJx4a65c_add_9ea2d_0 rfl (lv_at hl 0 rfl) ?_
    refine lv_dup hx hb dJx4a65c_add_9ea2d_1 rfl ?_
    refine z_getX (T := TJx4a65c) (N := 3) (ci := 4) (k := 0) (fs := [.int (iI mc), .ref (cs 8), .int (iI 0)]) (v := .int (iI mc)) hC hZ in_Jx4a65c rfl (by decide) ql_Jx4a65c_63 q_163 h0 rfl dJx4a65c_add_9ea2d_2 ?_
    refine z_iconst hx hb dJx4a65c_add_9ea2d_5 ?_
    refine z_iadd hx hb dJx4a65c_add_9ea2d_6 ?_
    refine z_putX (T := TJx4a65c) (N := 3) (ci := 4) (k := 0) (fs := [.int (iI mc), .ref (cs 8), .int (iI 0)]) (v := .int (iI (mc + 1))) hC hZ tyJx4a65c tyJx4a65c_ok nmJx4a65c in_Jx4a65c rfl (by decide) ql_Jx4a65c_63 q_163 rfl rfl h0 (by show 0 < 3; decide) rfl rfl dJx4a65c_add_9ea2d_7 (fun H locs hZ => ?_)
    have hf_1 : (zup F a (.inr (4, [.int (iI (mc + 1)), .ref (cs 8), .int (iI 0)]))) x = some (.inr (ci, fsx)) := zup_k hxa x1
    have hf_2 : (zup F a (.inr (4, [.int (iI (mc + 1)), .ref (cs 8), .int (iI 0)]))) a = some (.inr (4, [.int (iI (mc + 1)), .ref (cs 8), .int (iI 0)])) := zup_s
    replace hZ : zS D A s (zup F a (.inr (4, [.int (iI (mc + 1)), .ref (cs 8), .int (iI 0)]))) _ _ := hZ
    refine lv_aload_n hx hb dJx4a65c_add_9ea2d_10 rfl (lv_at hl 0 rfl) ?_
    refine lv_aload_n hx hb dJx4a65c_add_9ea2d_11 rfl (lv_at hl 1 rfl) ?_
    refine lv_aload_n hx hb dJx4a65c_add_9ea2d_12 rfl (lv_at hl 0 rfl) ?_
    refine z_get (T := TJx4a65c) (N := 3) (ci := 4) (k := 1) (fs := [.int (iI (mc + 1)), .ref (cs 8), .int (iI 0)]) (v := .ref (cs 8)) hC hZ in_Jx4a65c rfl (by decide) ql_Jx4a65c_9 rfl hf_2 rfl dJx4a65c_add_9ea2d_13 ?_
    refine lv_aload_n hx hb dJx4a65c_add_9ea2d_16 rfl (lv_at hl 0 rfl) ?_
    refine z_get (T := TJx4a65c) (N := 3) (ci := 4) (k := 2) (fs := [.int (iI (mc + 1)), .ref (cs 8), .int (iI 0)]) (v := .int (iI 0)) hC hZ in_Jx4a65c rfl (by decide) ql_Jx4a65c_48 rfl hf_2 rfl dJx4a65c_add_9ea2d_17 ?_
    refine z_callv (z_runV (rest := []) (As := [.ref x, .ref (cs 8), .int (iI 0)]) (n := 3) (ci := 4) hC hZ (met_Jx4a65c_add_72be8 l D cs A (zup F a (.inr (4, [.int (iI (mc + 1)), .ref (cs 8), .int (iI 0)]))) a (cs 8) [] x (show oLx cs _ a (cs 8) [] from ⟨_, hf_2, Or.inl ⟨rfl, rfl⟩⟩) hlt ⟨ci, NN, CC, TT, fsx, hf_1, x2, x3⟩ hxa) gv_Jx4a65c_131 hd_Jx4a65c_add_72be8 rfl hf_2 rfl hl rfl (Nat.le_of_ble_eq_true rfl) ⟨Nat.le_of_ble_eq_true rfl, Nat.le_of_ble_eq_true rfl⟩ ⟨Nat.le_of_ble_eq_true rfl, Nat.le_of_ble_eq_true rfl⟩ dJx4a65c_add_9ea2d_20) hZ (fun F20 H locs hp20_c_3 hZ => ?_)
    obtain ⟨arr1, ha1, hk1, hl2⟩ := hp20_c_3
    refine z_iconst hx hb dJx4a65c_add_9ea2d_23 ?_
    exact z_zret hC hr hlk hZ rfl (by decide) (by decide) (⟨rfl, arr1, ha1.imp_right zup_none, (zko.trans ((zko.refl).up (by simp)) hk1), hl2⟩) dJx4a65c_add_9ea2d_24
  · skip
    refine lv_aload_n hx hb dJx4a65c_add_9ea2d_0 rfl (lv_at hl 0 rfl) ?_
    refine lv_dup hx hb dJx4a65c_add_9ea2d_1 rfl ?_
    refine z_getX (T := TJx4a65c) (N := 3) (ci := 4) (k := 0) (fs := [.int (iI mc), .ref arr, .int (iI (xs.length : Int))]) (v := .int (iI mc)) hC hZ in_Jx4a65c rfl (by decide) ql_Jx4a65c_63 q_163 h0 rfl dJx4a65c_add_9ea2d_2 ?_
    refine z_iconst hx hb dJx4a65c_add_9ea2d_5 ?_
    refine z_iadd hx hb dJx4a65c_add_9ea2d_6 ?_
    refine z_putX (T := TJx4a65c) (N := 3) (ci := 4) (k := 0) (fs := [.int (iI mc), .ref arr, .int (iI (xs.length : Int))]) (v := .int (iI (mc + 1))) hC hZ tyJx4a65c tyJx4a65c_ok nmJx4a65c in_Jx4a65c rfl (by decide) ql_Jx4a65c_63 q_163 rfl rfl h0 (by show 0 < 3; decide) rfl rfl dJx4a65c_add_9ea2d_7 (fun H locs hZ => ?_)
    have hf_4 : (zup F a (.inr (4, [.int (iI (mc + 1)), .ref arr, .int (iI (xs.length : Int))]))) x = some (.inr (ci, fsx)) := zup_k hxa x1
    have hf_5 : (zup F a (.inr (4, [.int (iI (mc + 1)), .ref arr, .int (iI (xs.length : Int))]))) arr = some (zO (cs 5) 10 h_) := zup_k (zne h1 h0 (fun q => by cases q)) h1
    have hf_6 : (zup F a (.inr (4, [.int (iI (mc + 1)), .ref arr, .int (iI (xs.length : Int))]))) a = some (.inr (4, [.int (iI (mc + 1)), .ref arr, .int (iI (xs.length : Int))])) := zup_s
    replace hZ : zS D A s (zup F a (.inr (4, [.int (iI (mc + 1)), .ref arr, .int (iI (xs.length : Int))]))) _ _ := hZ
    refine lv_aload_n hx hb dJx4a65c_add_9ea2d_10 rfl (lv_at hl 0 rfl) ?_
    refine lv_aload_n hx hb dJx4a65c_add_9ea2d_11 rfl (lv_at hl 1 rfl) ?_
    refine lv_aload_n hx hb dJx4a65c_add_9ea2d_12 rfl (lv_at hl 0 rfl) ?_
    refine z_get (T := TJx4a65c) (N := 3) (ci := 4) (k := 1) (fs := [.int (iI (mc + 1)), .ref arr, .int (iI (xs.length : Int))]) (v := .ref arr) hC hZ in_Jx4a65c rfl (by decide) ql_Jx4a65c_9 rfl hf_6 rfl dJx4a65c_add_9ea2d_13 ?_
    refine lv_aload_n hx hb dJx4a65c_add_9ea2d_16 rfl (lv_at hl 0 rfl) ?_
    refine z_get (T := TJx4a65c) (N := 3) (ci := 4) (k := 2) (fs := [.int (iI (mc + 1)), .ref arr, .int (iI (xs.length : Int))]) (v := .int (iI (xs.length : Int))) hC hZ in_Jx4a65c rfl (by decide) ql_Jx4a65c_48 rfl hf_6 rfl dJx4a65c_add_9ea2d_17 ?_
    refine z_callv (z_runV (rest := []) (As := [.ref x, .ref arr, .int (iI (xs.length : Int))]) (n := 3) (ci := 4) hC hZ (met_Jx4a65c_add_72be8 l D cs A (zup F a (.inr (4, [.int (iI (mc + 1)), .ref arr, .int (iI (xs.length : Int))]))) a arr xs x (show oLx cs _ a arr xs from ⟨_, hf_6, Or.inr ⟨_, hf_5, h2, h3⟩⟩) hlt ⟨ci, NN, CC, TT, fsx, hf_4, x2, x3⟩ hxa) gv_Jx4a65c_131 hd_Jx4a65c_add_72be8 rfl hf_6 rfl hl rfl (Nat.le_of_ble_eq_true rfl) ⟨Nat.le_of_ble_eq_true rfl, Nat.le_of_ble_eq_true rfl⟩ ⟨Nat.le_of_ble_eq_true rfl, Nat.le_of_ble_eq_true rfl⟩ dJx4a65c_add_9ea2d_20) hZ (fun F20 H locs hp20_c_7 hZ => ?_)
    obtain ⟨arr1, ha1, hk1, hl2⟩ := hp20_c_7
    refine z_iconst hx hb dJx4a65c_add_9ea2d_23 ?_
    exact z_zret hC hr hlk hZ rfl (by decide) (by decide) (⟨rfl, arr1, ha1.imp_right zup_none, (zko.trans ((zko.refl).up (by simp)) hk1), hl2⟩) dJx4a65c_add_9ea2d_24
