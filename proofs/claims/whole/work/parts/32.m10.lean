/-- the model's output -/
def mO (v : Nat → Int) (g : Nat → Int → Int) (out : List Int) : Prop := v 15 = out.length ∧ lnAt (g 14) 0 out
theorem mO_snoc {v : Nat → Int} {g : Nat → Int → Int} {out : List Int} {x : Int} (h : mO v g out) : mO (upN v 15 (v 15 + 1)) (upG g 14 (upI (g 14) (v 15) x)) (out ++ [x]) := by
  obtain ⟨h1, h2⟩ := h
  refine ⟨by rw [upN_s, List.length_append]; simp; omega, ?_⟩
  show lnAt (upI (g 14) _ _) _ _
  have := lnAt_snoc (x := x) h2 h1
  rw [Int.zero_add] at this
  exact this
theorem mO_nil {v : Nat → Int} {g : Nat → Int → Int} : mO (upN v 15 0) g [] := ⟨upN_s, lnAt_nil⟩
set_option maxHeartbeats 4000000 in
set_option maxRecDepth 100000 in
theorem met_X13_says (l : Launch) (D : va_G) (cs : Nat → ClassId) (A : Nat → Prop) (m0 : Nat) (ad : Nat → Nat) (v : Nat → Int) (g : Nat → Int → Int) (x : Int) (out : List Int) (hD : mD m0 ad) (hok : mOK v g) (hx0 : 0 ≤ x ∧ x ≤ 65535) (ho : mO v g out) (hol : out.length < 440) : zM l D cs A yX13_says cX13_says 2 (none : Option Jvm.ClassFile.FieldType) 1 0 0 [.ref m0, .int (iI x)] (mW cs m0 ad v g) (mPv cs m0 ad (fun v1 g1 => (∀ k, k ≠ 15 → v1 k = v k) ∧ (∀ j, j ≠ 14 → g1 j = g j) ∧ mO v1 g1 (out ++ [x]))) := by
  refine zM_of (own := RX13) (by decide) rfl (Nat.le_of_ble_eq_true rfl) ?_
  intro p e s m below meth c hC hr hlk hnm hZ ls hl
  have hx := hC.x
  have hb := hC.b
  have hl : lv_has ls 2 [(0, .ref m0), (1, .int (iI x))] := hl
  have h15 := ho.1
  refine lv_aload_n hx hb dX13_says_0 rfl (lv_at hl 0 rfl) ?_
  refine m_get hC hZ 14 (x := .ref (ad 14)) rfl (by decide) ql_X13_39 rfl dX13_says_1 ?_
  refine lv_aload_n hx hb dX13_says_4 rfl (lv_at hl 0 rfl) ?_
  refine m_get hC hZ 15 (x := .int (iI (v 15))) rfl (by decide) ql_X13_223 rfl dX13_says_5 ?_
  have hr_1 : -2147483648 ≤ v 15 ∧ v 15 ≤ 2147483647 := hok.1 15
  refine lv_iload_n hx hb dX13_says_8 rfl (lv_at hl 1 rfl) ?_
  refine m_cast hC hZ hD 14 (by decide) (f := g 14) rfl rfl (by show _ ∧ _ < (440 : Int); omega) (by decide) (by omega) dX13_says_9 (fun H locs hZ => ?_)
  have hok_2 := hok.g (k := 14) (i := (v 15)) (x := x) (f := g 14) rfl (by omega)
  refine lv_aload_n hx hb dX13_says_10 rfl (lv_at hl 0 rfl) ?_
  refine lv_dup hx hb dX13_says_11 rfl ?_
  refine m_get hC hZ 15 (x := .int (iI (v 15))) rfl (by decide) ql_X13_223 rfl dX13_says_12 ?_
  have hr_3 : -2147483648 ≤ v 15 ∧ v 15 ≤ 2147483647 := hok_2.1 15
  refine z_iconst hx hb dX13_says_15 ?_
  refine z_iadd hx hb dX13_says_16 ?_
  refine m_put hC hZ 15 (ty := .int) (by decide) ql_X13_223 rfl rfl rfl (Or.inl rfl) rfl dX13_says_17 (fun H locs hZ => ?_)
  have hok_4 := hok_2.v (k := 15) (x := (v 15) + 1) (by omega)
  exact z_vret hC hr hlk hZ (by decide) (by decide) (⟨_, _, rfl, hok_4, (fun k hk => upN_n hk), (fun j hj => upG_n hj), mO_snoc ho⟩) dX13_says_20

def zdig (x : Int) : List Int := if x ≤ 9 then [48 + x] else if x ≤ 99 then [48 + x / 10, 48 + x % 10] else [48 + x / 10 / 10, 48 + x / 10 % 10, 48 + x % 10]
theorem zdig_1 {x : Int} (h : x ≤ 9) : zdig x = [48 + x] := if_pos h
theorem zdig_2 {x : Int} (h : ¬ x ≤ 9) (h2 : x ≤ 999) : zdig x = zdig (x / 10) ++ [48 + x % 10] := by
  unfold zdig
  rw [if_neg h]
  by_cases q : x ≤ 99
  · rw [if_pos q, if_pos (by omega)]; rfl
  · rw [if_neg q, if_neg (by omega), if_pos (by omega)]; rfl
set_option maxHeartbeats 4000000 in
set_option maxRecDepth 100000 in
theorem met_saysN1 (l : Launch) (D : va_G) (cs : Nat → ClassId) (A : Nat → Prop) (m0 : Nat) (ad : Nat → Nat) (v : Nat → Int) (g : Nat → Int → Int) (x : Int) (out : List Int) (hD : mD m0 ad) (hok : mOK v g) (hx0 : 0 ≤ x ∧ x ≤ 9) (ho : mO v g out) (hol : out.length < 437) : zM l D cs A yX13_saysNumber cX13_saysNumber 2 (none : Option Jvm.ClassFile.FieldType) 2 0 0 [.ref m0, .int (iI x)] (mW cs m0 ad v g) (mPv cs m0 ad (fun v1 g1 => (∀ k, k ≠ 15 → v1 k = v k) ∧ (∀ j, j ≠ 14 → g1 j = g j) ∧ mO v1 g1 (out ++ zdig x))) := by
  refine zM_of (own := RX13) (by decide) rfl (Nat.le_of_ble_eq_true rfl) ?_
  intro p e s m below meth c hC hr hlk hnm hZ ls hl
  have hx := hC.x
  have hb := hC.b
  have hl : lv_has ls 2 [(0, .ref m0), (1, .int (iI x))] := hl
  refine lv_iload_n hx hb dX13_saysNumber_0 rfl (lv_at hl 1 rfl) ?_
  refine z_bipush hx hb dX13_saysNumber_1 (by decide) ?_
  refine z_icmp_le (tgt := 14) hx hb dX13_saysNumber_3 (by decide) (by omega) (by decide) (fun c_1 => ?_) (fun c_1 => ?_)
  · skip
    refine lv_aload_n hx hb dX13_saysNumber_14 rfl (lv_at hl 0 rfl) ?_
    refine z_bipush hx hb dX13_saysNumber_15 (by decide) ?_
    refine lv_iload_n hx hb dX13_saysNumber_17 rfl (lv_at hl 1 rfl) ?_
    refine z_bipush hx hb dX13_saysNumber_18 (by decide) ?_
    refine z_irem hx hb dX13_saysNumber_20 (by omega) (by omega) ?_
    refine z_iadd hx hb dX13_saysNumber_21 ?_
    refine z_i2c hx hb dX13_saysNumber_22 (by omega) ?_
    refine z_callv (z_runV (rest := []) (As := [.int (iI (48 + (x % 10)))]) (n := 1) (ci := 16) hC hZ (met_X13_says l D cs A m0 ad v g (48 + (x % 10)) out hD hok (by omega) ho (by omega)) gv_X13_229 hd_X13_says rfl mW_o rfl hl rfl (Nat.le_of_ble_eq_true rfl) ⟨Nat.le_of_ble_eq_true rfl, Nat.le_of_ble_eq_true rfl⟩ ⟨Nat.le_of_ble_eq_true rfl, Nat.le_of_ble_eq_true rfl⟩ dX13_saysNumber_23) hZ (fun _ H locs hp_2 hZ => ?_)
    obtain ⟨v_4, g_5, rfl, hok_3, fv_6, fg_7, ho_8⟩ := hp_2
    exact z_vret hC hr hlk hZ (by decide) (by decide) (⟨_, _, rfl, hok_3, fv_6, fg_7, by rw [zdig_1 (by omega), show (48 : Int) + x = 48 + x % 10 by omega]; exact ho_8⟩) dX13_saysNumber_26
  · skip
    exfalso; omega

set_option maxHeartbeats 4000000 in
set_option maxRecDepth 100000 in
theorem met_saysN2 (l : Launch) (D : va_G) (cs : Nat → ClassId) (A : Nat → Prop) (m0 : Nat) (ad : Nat → Nat) (v : Nat → Int) (g : Nat → Int → Int) (x : Int) (out : List Int) (hD : mD m0 ad) (hok : mOK v g) (hx0 : 0 ≤ x ∧ x ≤ 99) (ho : mO v g out) (hol : out.length < 437) : zM l D cs A yX13_saysNumber cX13_saysNumber 2 (none : Option Jvm.ClassFile.FieldType) 3 0 0 [.ref m0, .int (iI x)] (mW cs m0 ad v g) (mPv cs m0 ad (fun v1 g1 => (∀ k, k ≠ 15 → v1 k = v k) ∧ (∀ j, j ≠ 14 → g1 j = g j) ∧ mO v1 g1 (out ++ zdig x))) := by
  refine zM_of (own := RX13) (by decide) rfl (Nat.le_of_ble_eq_true rfl) ?_
  intro p e s m below meth c hC hr hlk hnm hZ ls hl
  have hx := hC.x
  have hb := hC.b
  have hl : lv_has ls 2 [(0, .ref m0), (1, .int (iI x))] := hl
  refine lv_iload_n hx hb dX13_saysNumber_0 rfl (lv_at hl 1 rfl) ?_
  refine z_bipush hx hb dX13_saysNumber_1 (by decide) ?_
  refine z_icmp_le (tgt := 14) hx hb dX13_saysNumber_3 (by decide) (by omega) (by decide) (fun c_1 => ?_) (fun c_1 => ?_)
  · skip
    refine lv_aload_n hx hb dX13_saysNumber_14 rfl (lv_at hl 0 rfl) ?_
    refine z_bipush hx hb dX13_saysNumber_15 (by decide) ?_
    refine lv_iload_n hx hb dX13_saysNumber_17 rfl (lv_at hl 1 rfl) ?_
    refine z_bipush hx hb dX13_saysNumber_18 (by decide) ?_
    refine z_irem hx hb dX13_saysNumber_20 (by omega) (by omega) ?_
    refine z_iadd hx hb dX13_saysNumber_21 ?_
    refine z_i2c hx hb dX13_saysNumber_22 (by omega) ?_
    refine z_callv (z_runV (rest := []) (As := [.int (iI (48 + (x % 10)))]) (n := 1) (ci := 16) hC hZ (met_X13_says l D cs A m0 ad v g (48 + (x % 10)) out hD hok (by omega) ho (by omega)) gv_X13_229 hd_X13_says rfl mW_o rfl hl rfl (Nat.le_of_ble_eq_true rfl) ⟨Nat.le_of_ble_eq_true rfl, Nat.le_of_ble_eq_true rfl⟩ ⟨Nat.le_of_ble_eq_true rfl, Nat.le_of_ble_eq_true rfl⟩ dX13_saysNumber_23) hZ (fun _ H locs hp_2 hZ => ?_)
    obtain ⟨v_4, g_5, rfl, hok_3, fv_6, fg_7, ho_8⟩ := hp_2
    exact z_vret hC hr hlk hZ (by decide) (by decide) (⟨_, _, rfl, hok_3, fv_6, fg_7, by rw [zdig_1 (by omega), show (48 : Int) + x = 48 + x % 10 by omega]; exact ho_8⟩) dX13_saysNumber_26
  · skip
    refine lv_aload_n hx hb dX13_saysNumber_6 rfl (lv_at hl 0 rfl) ?_
    refine lv_iload_n hx hb dX13_saysNumber_7 rfl (lv_at hl 1 rfl) ?_
    refine z_bipush hx hb dX13_saysNumber_8 (by decide) ?_
    refine z_idiv hx hb dX13_saysNumber_10 (by omega) (by omega) ?_
    refine z_callv (z_runV (rest := []) (As := [.int (iI (x / 10))]) (n := 1) (ci := 16) hC hZ (met_saysN1 l D cs A m0 ad v g (x / 10) out hD hok (by omega) ho (by omega)) gv_X13_226 hd_X13_saysNumber rfl mW_o rfl hl rfl (Nat.le_of_ble_eq_true rfl) ⟨Nat.le_of_ble_eq_true rfl, Nat.le_of_ble_eq_true rfl⟩ ⟨Nat.le_of_ble_eq_true rfl, Nat.le_of_ble_eq_true rfl⟩ dX13_saysNumber_11) hZ (fun _ H locs hp_9 hZ => ?_)
    obtain ⟨v_11, g_12, rfl, hok_10, fv_13, fg_14, ho_15⟩ := hp_9
    refine lv_aload_n hx hb dX13_saysNumber_14 rfl (lv_at hl 0 rfl) ?_
    refine z_bipush hx hb dX13_saysNumber_15 (by decide) ?_
    refine lv_iload_n hx hb dX13_saysNumber_17 rfl (lv_at hl 1 rfl) ?_
    refine z_bipush hx hb dX13_saysNumber_18 (by decide) ?_
    refine z_irem hx hb dX13_saysNumber_20 (by omega) (by omega) ?_
    refine z_iadd hx hb dX13_saysNumber_21 ?_
    refine z_i2c hx hb dX13_saysNumber_22 (by omega) ?_
    refine z_callv (z_runV (rest := []) (As := [.int (iI (48 + (x % 10)))]) (n := 1) (ci := 16) hC hZ (met_X13_says l D cs A m0 ad v_11 g_12 (48 + (x % 10)) (out ++ zdig (x / 10)) hD hok_10 (by omega) ho_15 (by rw [List.length_append]; have : (zdig (x / 10)).length ≤ 2 := (by unfold zdig; split; simp; split; simp; omega); omega)) gv_X13_229 hd_X13_says rfl mW_o rfl hl rfl (Nat.le_of_ble_eq_true rfl) ⟨Nat.le_of_ble_eq_true rfl, Nat.le_of_ble_eq_true rfl⟩ ⟨Nat.le_of_ble_eq_true rfl, Nat.le_of_ble_eq_true rfl⟩ dX13_saysNumber_23) hZ (fun _ H locs hp_16 hZ => ?_)
    obtain ⟨v_18, g_19, rfl, hok_17, fv_20, fg_21, ho_22⟩ := hp_16
    exact z_vret hC hr hlk hZ (by decide) (by decide) (⟨_, _, rfl, hok_17, (fun k hk => (fv_20 k hk).trans (fv_13 k hk)), (fun j hj => (fg_21 j hj).trans (fg_14 j hj)), by rw [zdig_2 (by omega) (by omega), ← List.append_assoc]; exact ho_22⟩) dX13_saysNumber_26

set_option maxHeartbeats 4000000 in
set_option maxRecDepth 100000 in
theorem met_saysN3 (l : Launch) (D : va_G) (cs : Nat → ClassId) (A : Nat → Prop) (m0 : Nat) (ad : Nat → Nat) (v : Nat → Int) (g : Nat → Int → Int) (x : Int) (out : List Int) (hD : mD m0 ad) (hok : mOK v g) (hx0 : 0 ≤ x ∧ x ≤ 999) (ho : mO v g out) (hol : out.length < 437) : zM l D cs A yX13_saysNumber cX13_saysNumber 2 (none : Option Jvm.ClassFile.FieldType) 4 0 0 [.ref m0, .int (iI x)] (mW cs m0 ad v g) (mPv cs m0 ad (fun v1 g1 => (∀ k, k ≠ 15 → v1 k = v k) ∧ (∀ j, j ≠ 14 → g1 j = g j) ∧ mO v1 g1 (out ++ zdig x))) := by
  refine zM_of (own := RX13) (by decide) rfl (Nat.le_of_ble_eq_true rfl) ?_
  intro p e s m below meth c hC hr hlk hnm hZ ls hl
  have hx := hC.x
  have hb := hC.b
  have hl : lv_has ls 2 [(0, .ref m0), (1, .int (iI x))] := hl
  refine lv_iload_n hx hb dX13_saysNumber_0 rfl (lv_at hl 1 rfl) ?_
  refine z_bipush hx hb dX13_saysNumber_1 (by decide) ?_
  refine z_icmp_le (tgt := 14) hx hb dX13_saysNumber_3 (by decide) (by omega) (by decide) (fun c_1 => ?_) (fun c_1 => ?_)
  · skip
    refine lv_aload_n hx hb dX13_saysNumber_14 rfl (lv_at hl 0 rfl) ?_
    refine z_bipush hx hb dX13_saysNumber_15 (by decide) ?_
    refine lv_iload_n hx hb dX13_saysNumber_17 rfl (lv_at hl 1 rfl) ?_
    refine z_bipush hx hb dX13_saysNumber_18 (by decide) ?_
    refine z_irem hx hb dX13_saysNumber_20 (by omega) (by omega) ?_
    refine z_iadd hx hb dX13_saysNumber_21 ?_
    refine z_i2c hx hb dX13_saysNumber_22 (by omega) ?_
    refine z_callv (z_runV (rest := []) (As := [.int (iI (48 + (x % 10)))]) (n := 1) (ci := 16) hC hZ (met_X13_says l D cs A m0 ad v g (48 + (x % 10)) out hD hok (by omega) ho (by omega)) gv_X13_229 hd_X13_says rfl mW_o rfl hl rfl (Nat.le_of_ble_eq_true rfl) ⟨Nat.le_of_ble_eq_true rfl, Nat.le_of_ble_eq_true rfl⟩ ⟨Nat.le_of_ble_eq_true rfl, Nat.le_of_ble_eq_true rfl⟩ dX13_saysNumber_23) hZ (fun _ H locs hp_2 hZ => ?_)
    obtain ⟨v_4, g_5, rfl, hok_3, fv_6, fg_7, ho_8⟩ := hp_2
    exact z_vret hC hr hlk hZ (by decide) (by decide) (⟨_, _, rfl, hok_3, fv_6, fg_7, by rw [zdig_1 (by omega), show (48 : Int) + x = 48 + x % 10 by omega]; exact ho_8⟩) dX13_saysNumber_26
  · skip
    refine lv_aload_n hx hb dX13_saysNumber_6 rfl (lv_at hl 0 rfl) ?_
    refine lv_iload_n hx hb dX13_saysNumber_7 rfl (lv_at hl 1 rfl) ?_
    refine z_bipush hx hb dX13_saysNumber_8 (by decide) ?_
    refine z_idiv hx hb dX13_saysNumber_10 (by omega) (by omega) ?_
    refine z_callv (z_runV (rest := []) (As := [.int (iI (x / 10))]) (n := 1) (ci := 16) hC hZ (met_saysN2 l D cs A m0 ad v g (x / 10) out hD hok (by omega) ho (by omega)) gv_X13_226 hd_X13_saysNumber rfl mW_o rfl hl rfl (Nat.le_of_ble_eq_true rfl) ⟨Nat.le_of_ble_eq_true rfl, Nat.le_of_ble_eq_true rfl⟩ ⟨Nat.le_of_ble_eq_true rfl, Nat.le_of_ble_eq_true rfl⟩ dX13_saysNumber_11) hZ (fun _ H locs hp_9 hZ => ?_)
    obtain ⟨v_11, g_12, rfl, hok_10, fv_13, fg_14, ho_15⟩ := hp_9
    refine lv_aload_n hx hb dX13_saysNumber_14 rfl (lv_at hl 0 rfl) ?_
    refine z_bipush hx hb dX13_saysNumber_15 (by decide) ?_
    refine lv_iload_n hx hb dX13_saysNumber_17 rfl (lv_at hl 1 rfl) ?_
    refine z_bipush hx hb dX13_saysNumber_18 (by decide) ?_
    refine z_irem hx hb dX13_saysNumber_20 (by omega) (by omega) ?_
    refine z_iadd hx hb dX13_saysNumber_21 ?_
    refine z_i2c hx hb dX13_saysNumber_22 (by omega) ?_
    refine z_callv (z_runV (rest := []) (As := [.int (iI (48 + (x % 10)))]) (n := 1) (ci := 16) hC hZ (met_X13_says l D cs A m0 ad v_11 g_12 (48 + (x % 10)) (out ++ zdig (x / 10)) hD hok_10 (by omega) ho_15 (by rw [List.length_append]; have : (zdig (x / 10)).length ≤ 2 := (by unfold zdig; split; simp; split; simp; omega); omega)) gv_X13_229 hd_X13_says rfl mW_o rfl hl rfl (Nat.le_of_ble_eq_true rfl) ⟨Nat.le_of_ble_eq_true rfl, Nat.le_of_ble_eq_true rfl⟩ ⟨Nat.le_of_ble_eq_true rfl, Nat.le_of_ble_eq_true rfl⟩ dX13_saysNumber_23) hZ (fun _ H locs hp_16 hZ => ?_)
    obtain ⟨v_18, g_19, rfl, hok_17, fv_20, fg_21, ho_22⟩ := hp_16
    exact z_vret hC hr hlk hZ (by decide) (by decide) (⟨_, _, rfl, hok_17, (fun k hk => (fv_20 k hk).trans (fv_13 k hk)), (fun j hj => (fg_21 j hj).trans (fg_14 j hj)), by rw [zdig_2 (by omega) (by omega), ← List.append_assoc]; exact ho_22⟩) dX13_saysNumber_26

