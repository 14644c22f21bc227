theorem InR.cp {f g : Int → Int} {sp dp n : Int} (hf : ∀ i, InR (f i)) (hg : ∀ i, InR (g i)) : ∀ i, InR (cpI f g sp dp n i) := fun i => by
  unfold cpI
  split
  · exact hf _
  · exact hg _
theorem upG_up {g : Nat → Int → Int} {k : Nat} {f f' : Int → Int} : upG (upG g k f) k f' = upG g k f' := by
  funext j
  by_cases h : j = k
  · subst h; rw [upG_s, upG_s]
  · rw [upG_n h, upG_n h, upG_n h]
theorem upN_up {v : Nat → Int} {k : Nat} {x x' : Int} : upN (upN v k x) k x' = upN v k x' := by
  funext j
  by_cases h : j = k
  · subst h; rw [upN_s, upN_s]
  · rw [upN_n h, upN_n h, upN_n h]
theorem cpI_in {f g : Int → Int} {sp dp n k : Int} (h : dp ≤ k ∧ k < dp + n) : cpI f g sp dp n k = f (sp + (k - dp)) := if_pos h
theorem cpI_out {f g : Int → Int} {sp dp n k : Int} (h : ¬ (dp ≤ k ∧ k < dp + n)) : cpI f g sp dp n k = g k := if_neg h
set_option maxHeartbeats 4000000 in
set_option maxRecDepth 100000 in
theorem met_X13_keep (l : Launch) (D : va_G) (cs : Nat → ClassId) (A : Nat → Prop) (m0 : Nat) (ad : Nat → Nat) (v : Nat → Int) (g : Nat → Int → Int)   (hD : mD m0 ad) (hok : mOK v g)  : zM l D cs A yX13_keep cX13_keep 1 (none : Option Jvm.ClassFile.FieldType) 1 0 0 [.ref m0] (mW cs m0 ad v g) (mPv cs m0 ad (fun v1 g1 => upN v 6 0 = v1 ∧ upG g 1 (cpI (g 0) (g 1) 0 0 2439) = g1)) := by
  refine zM_of (own := RX13) (by decide) rfl (Nat.le_of_ble_eq_true rfl) ?_
  intro p e s m below meth c hC hr hlk hnm hZ ls hl
  have hx := hC.x
  have hb := hC.b
  have hl : lv_has ls 1 [(0, .ref m0)] := hl
  refine lv_aload_n hx hb dX13_keep_0 rfl (lv_at hl 0 rfl) ?_
  refine z_iconst hx hb dX13_keep_1 ?_
  refine m_put hC hZ 6 (ty := .int) (by decide) ql_X13_55 rfl rfl rfl (Or.inl rfl) rfl dX13_keep_2 (fun H locs hZ => ?_)
  have hok_1 := hok.v (k := 6) (x := 0) (by decide)
  refine lv_aload_n hx hb dX13_keep_5 rfl (lv_at hl 0 rfl) ?_
  refine m_get hC hZ 0 (x := .ref (ad 0)) rfl (by decide) ql_X13_9 rfl dX13_keep_6 ?_
  refine z_iconst hx hb dX13_keep_9 ?_
  refine lv_aload_n hx hb dX13_keep_10 rfl (lv_at hl 0 rfl) ?_
  refine m_get hC hZ 1 (x := .ref (ad 1)) rfl (by decide) ql_X13_13 rfl dX13_keep_11 ?_
  refine z_iconst hx hb dX13_keep_14 ?_
  refine z_sipush hx hb dX13_keep_15 (by decide) ?_
  refine m_copy (rest := []) hC hZ hD 0 1 1 2 (f1 := g 0) (f2 := g 1) hl rfl rfl rfl (by decide) (by decide) (by decide) (by decide) (by decide) (Nat.le_of_ble_eq_true rfl) (by decide) qm_X13_58 qv_J10_arraycopy_1e247 qt_J10_arraycopy_1e247 qn_J10 dX13_keep_18 (fun H locs hZ => ?_)
  have hok_2 := hok_1.gf (k := 1) (f := cpI (g 0) (g 1) 0 0 2439) (InR.cp (f := g 0) (g := g 1) (hok_1.2 0) (hok_1.2 1))
  exact z_vret hC hr hlk hZ (by decide) (by decide) (⟨_, _, rfl, hok_2, rfl, rfl⟩) dX13_keep_21

/-- what ends() does: the row before comes back, or is kept among the past ones -/
def mEn (v : Nat → Int) (g : Nat → Int → Int) (x r : Int) (v1 : Nat → Int) (g1 : Nat → Int → Int) : Prop :=
  (v 6 > 0 ∧ v = v1 ∧ upG g 0 (cpI (g 1) (g 0) 0 0 2439) = g1 ∧ 0 = r) ∨
  (v 6 ≤ 0 ∧ v 5 = 8 ∧ upN v 5 8 = v1 ∧ upG g 4 (cpI (g 1) (cpI (g 4) (g 4) 2439 0 17073) 0 17073 2439) = g1 ∧ x = r) ∨
  (v 6 ≤ 0 ∧ v 5 ≠ 8 ∧ upN v 5 (v 5 + 1) = v1 ∧ upG g 4 (cpI (g 1) (g 4) 0 (2439 * v 5) 2439) = g1 ∧ x = r)
set_option maxHeartbeats 4000000 in
set_option maxRecDepth 100000 in
theorem met_X13_ends (l : Launch) (D : va_G) (cs : Nat → ClassId) (A : Nat → Prop) (m0 : Nat) (ad : Nat → Nat) (v : Nat → Int) (g : Nat → Int → Int) (x : Int)  (hD : mD m0 ad) (hok : mOK v g) (hx0 : InR x) (h5 : 0 ≤ v 5 ∧ v 5 ≤ 8) : zM l D cs A yX13_ends cX13_ends 2 (some FieldType.int) 1 0 0 [.ref m0, .int (iI x)] (mW cs m0 ad v g) (mP cs m0 ad (fun r v1 g1 => mEn v g x r v1 g1)) := by
  refine zM_of (own := RX13) (by decide) rfl (Nat.le_of_ble_eq_true rfl) ?_
  intro p e s m below meth c hC hr hlk hnm hZ ls hl
  have hx := hC.x
  have hb := hC.b
  have hl : lv_has ls 2 [(0, .ref m0), (1, .int (iI x))] := hl
  refine lv_aload_n hx hb dX13_ends_0 rfl (lv_at hl 0 rfl) ?_
  refine m_get hC hZ 6 (x := .int (iI (v 6))) rfl (by decide) ql_X13_55 rfl dX13_ends_1 ?_
  have hr_1 : -2147483648 ≤ v 6 ∧ v 6 ≤ 2147483647 := hok.1 6
  refine z_if_le (tgt := 25) hx hb dX13_ends_4 (by decide) (by omega) (fun c_2 => ?_) (fun c_2 => ?_)
  · skip
    refine lv_aload_n hx hb dX13_ends_25 rfl (lv_at hl 0 rfl) ?_
    refine m_get hC hZ 5 (x := .int (iI (v 5))) rfl (by decide) ql_X13_64 rfl dX13_ends_26 ?_
    have hr_3 : -2147483648 ≤ v 5 ∧ v 5 ≤ 2147483647 := hok.1 5
    refine z_bipush hx hb dX13_ends_29 (by decide) ?_
    refine z_icmp_ne (tgt := 62) hx hb dX13_ends_31 (by decide) (by omega) (by decide) (fun c_4 => ?_) (fun c_4 => ?_)
    · skip
      refine lv_aload_n hx hb dX13_ends_62 rfl (lv_at hl 0 rfl) ?_
      refine m_get hC hZ 1 (x := .ref (ad 1)) rfl (by decide) ql_X13_13 rfl dX13_ends_63 ?_
      refine z_iconst hx hb dX13_ends_66 ?_
      refine lv_aload_n hx hb dX13_ends_67 rfl (lv_at hl 0 rfl) ?_
      refine m_get hC hZ 4 (x := .ref (ad 4)) rfl (by decide) ql_X13_19 rfl dX13_ends_68 ?_
      refine z_sipush hx hb dX13_ends_71 (by decide) ?_
      refine lv_aload_n hx hb dX13_ends_74 rfl (lv_at hl 0 rfl) ?_
      refine m_get hC hZ 5 (x := .int (iI (v 5))) rfl (by decide) ql_X13_64 rfl dX13_ends_75 ?_
      have hr_5 : -2147483648 ≤ v 5 ∧ v 5 ≤ 2147483647 := hok.1 5
      refine z_imul hx hb dX13_ends_78 ?_
      refine z_sipush hx hb dX13_ends_79 (by decide) ?_
      refine m_copy (rest := []) hC hZ hD 1 4 2 4 (f1 := g 1) (f2 := g 4) hl rfl rfl rfl (by decide) (by show _ ∧ _ ≤ (19512 : Int); omega) (by decide) (by decide) (by decide) (Nat.le_of_ble_eq_true rfl) (by decide) qm_X13_58 qv_J10_arraycopy_1e247 qt_J10_arraycopy_1e247 qn_J10 dX13_ends_82 (fun H locs hZ => ?_)
      have hok_6 := hok.gf (k := 4) (f := cpI (g 1) (g 4) 0 (2439 * (v 5)) 2439) (InR.cp (f := g 1) (g := g 4) (hok.2 1) (hok.2 4))
      refine lv_aload_n hx hb dX13_ends_85 rfl (lv_at hl 0 rfl) ?_
      refine lv_dup hx hb dX13_ends_86 rfl ?_
      refine m_get hC hZ 5 (x := .int (iI (v 5))) rfl (by decide) ql_X13_64 rfl dX13_ends_87 ?_
      have hr_7 : -2147483648 ≤ v 5 ∧ v 5 ≤ 2147483647 := hok_6.1 5
      refine z_iconst hx hb dX13_ends_90 ?_
      refine z_iadd hx hb dX13_ends_91 ?_
      refine m_put hC hZ 5 (ty := .int) (by decide) ql_X13_64 rfl rfl rfl (Or.inl rfl) rfl dX13_ends_92 (fun H locs hZ => ?_)
      have hok_8 := hok_6.v (k := 5) (x := (v 5) + 1) (by omega)
      refine lv_iload_n hx hb dX13_ends_95 rfl (lv_at hl 1 rfl) ?_
      exact z_iret hC hr hlk hZ (by decide) (by decide) (⟨_, _, rfl, hok_8, Or.inr (Or.inr ⟨by omega, by omega, rfl, rfl, rfl⟩)⟩) dX13_ends_96
    · skip
      refine lv_aload_n hx hb dX13_ends_34 rfl (lv_at hl 0 rfl) ?_
      refine m_get hC hZ 4 (x := .ref (ad 4)) rfl (by decide) ql_X13_19 rfl dX13_ends_35 ?_
      refine z_sipush hx hb dX13_ends_38 (by decide) ?_
      refine lv_aload_n hx hb dX13_ends_41 rfl (lv_at hl 0 rfl) ?_
      refine m_get hC hZ 4 (x := .ref (ad 4)) rfl (by decide) ql_X13_19 rfl dX13_ends_42 ?_
      refine z_iconst hx hb dX13_ends_45 ?_
      refine z_sipush hx hb dX13_ends_46 (by decide) ?_
      refine m_copy (rest := []) hC hZ hD 4 4 4 4 (f1 := g 4) (f2 := g 4) hl rfl rfl rfl (by decide) (by decide) (by decide) (by decide) (by decide) (Nat.le_of_ble_eq_true rfl) (by decide) qm_X13_58 qv_J10_arraycopy_1e247 qt_J10_arraycopy_1e247 qn_J10 dX13_ends_49 (fun H locs hZ => ?_)
      have hok_9 := hok.gf (k := 4) (f := cpI (g 4) (g 4) 2439 0 17073) (InR.cp (f := g 4) (g := g 4) (hok.2 4) (hok.2 4))
      refine lv_aload_n hx hb dX13_ends_52 rfl (lv_at hl 0 rfl) ?_
      refine lv_dup hx hb dX13_ends_53 rfl ?_
      refine m_get hC hZ 5 (x := .int (iI (v 5))) rfl (by decide) ql_X13_64 rfl dX13_ends_54 ?_
      have hr_10 : -2147483648 ≤ v 5 ∧ v 5 ≤ 2147483647 := hok_9.1 5
      refine z_iconst hx hb dX13_ends_57 ?_
      refine z_isub hx hb dX13_ends_58 ?_
      refine m_put hC hZ 5 (ty := .int) (by decide) ql_X13_64 rfl rfl rfl (Or.inl rfl) rfl dX13_ends_59 (fun H locs hZ => ?_)
      have hok_11 := hok_9.v (k := 5) (x := (v 5) - 1) (by omega)
      refine lv_aload_n hx hb dX13_ends_62 rfl (lv_at hl 0 rfl) ?_
      refine m_get hC hZ 1 (x := .ref (ad 1)) rfl (by decide) ql_X13_13 rfl dX13_ends_63 ?_
      refine z_iconst hx hb dX13_ends_66 ?_
      refine lv_aload_n hx hb dX13_ends_67 rfl (lv_at hl 0 rfl) ?_
      refine m_get hC hZ 4 (x := .ref (ad 4)) rfl (by decide) ql_X13_19 rfl dX13_ends_68 ?_
      refine z_sipush hx hb dX13_ends_71 (by decide) ?_
      refine lv_aload_n hx hb dX13_ends_74 rfl (lv_at hl 0 rfl) ?_
      refine m_get hC hZ 5 (x := .int (iI ((v 5) - 1))) rfl (by decide) ql_X13_64 rfl dX13_ends_75 ?_
      refine z_imul hx hb dX13_ends_78 ?_
      refine z_sipush hx hb dX13_ends_79 (by decide) ?_
      refine m_copy (rest := []) hC hZ hD 1 4 2 4 (f1 := g 1) (f2 := cpI (g 4) (g 4) 2439 0 17073) hl rfl rfl rfl (by decide) (by show _ ∧ _ ≤ (19512 : Int); omega) (by decide) (by decide) (by decide) (Nat.le_of_ble_eq_true rfl) (by decide) qm_X13_58 qv_J10_arraycopy_1e247 qt_J10_arraycopy_1e247 qn_J10 dX13_ends_82 (fun H locs hZ => ?_)
      have hok_12 := hok_11.gf (k := 4) (f := cpI (g 1) (cpI (g 4) (g 4) 2439 0 17073) 0 (2439 * ((v 5) - 1)) 2439) (InR.cp (f := g 1) (g := cpI (g 4) (g 4) 2439 0 17073) (hok_11.2 1) (hok_11.2 4))
      refine lv_aload_n hx hb dX13_ends_85 rfl (lv_at hl 0 rfl) ?_
      refine lv_dup hx hb dX13_ends_86 rfl ?_
      refine m_get hC hZ 5 (x := .int (iI ((v 5) - 1))) rfl (by decide) ql_X13_64 rfl dX13_ends_87 ?_
      refine z_iconst hx hb dX13_ends_90 ?_
      refine z_iadd hx hb dX13_ends_91 ?_
      refine m_put hC hZ 5 (ty := .int) (by decide) ql_X13_64 rfl rfl rfl (Or.inl rfl) rfl dX13_ends_92 (fun H locs hZ => ?_)
      have hok_13 := hok_12.v (k := 5) (x := ((v 5) - 1) + 1) (by omega)
      refine lv_iload_n hx hb dX13_ends_95 rfl (lv_at hl 1 rfl) ?_
      exact z_iret hC hr hlk hZ (by decide) (by decide) (⟨_, _, rfl, hok_13, Or.inr (Or.inl ⟨by omega, by omega, by rw [upN_up, show v 5 - 1 + 1 = 8 by omega], by rw [upG_up, show (2439 : Int) * (v 5 - 1) = 17073 by omega], rfl⟩)⟩) dX13_ends_96
  · skip
    refine lv_aload_n hx hb dX13_ends_7 rfl (lv_at hl 0 rfl) ?_
    refine m_get hC hZ 1 (x := .ref (ad 1)) rfl (by decide) ql_X13_13 rfl dX13_ends_8 ?_
    refine z_iconst hx hb dX13_ends_11 ?_
    refine lv_aload_n hx hb dX13_ends_12 rfl (lv_at hl 0 rfl) ?_
    refine m_get hC hZ 0 (x := .ref (ad 0)) rfl (by decide) ql_X13_9 rfl dX13_ends_13 ?_
    refine z_iconst hx hb dX13_ends_16 ?_
    refine z_sipush hx hb dX13_ends_17 (by decide) ?_
    refine m_copy (rest := []) hC hZ hD 1 0 2 1 (f1 := g 1) (f2 := g 0) hl rfl rfl rfl (by decide) (by decide) (by decide) (by decide) (by decide) (Nat.le_of_ble_eq_true rfl) (by decide) qm_X13_58 qv_J10_arraycopy_1e247 qt_J10_arraycopy_1e247 qn_J10 dX13_ends_20 (fun H locs hZ => ?_)
    have hok_14 := hok.gf (k := 0) (f := cpI (g 1) (g 0) 0 0 2439) (InR.cp (f := g 1) (g := g 0) (hok.2 1) (hok.2 0))
    refine z_iconst hx hb dX13_ends_23 ?_
    exact z_iret hC hr hlk hZ (by decide) (by decide) (⟨_, _, rfl, hok_14, Or.inl ⟨by omega, rfl, rfl, rfl⟩⟩) dX13_ends_24

set_option maxHeartbeats 4000000 in
set_option maxRecDepth 100000 in
theorem met_X13_doSetWidth (l : Launch) (D : va_G) (cs : Nat → ClassId) (A : Nat → Prop) (m0 : Nat) (ad : Nat → Nat) (v : Nat → Int) (g : Nat → Int → Int) (x : Int)  (hD : mD m0 ad) (hok : mOK v g) (hx0 : InR x) : zM l D cs A yX13_doSetWidth cX13_doSetWidth 3 (some FieldType.int) 2 0 0 [.ref m0, .int (iI x)] (mW cs m0 ad v g) (mP cs m0 ad (fun r v1 g1 => (¬ (4 ≤ x ∧ x ≤ 20) ∧ upN v 6 1 = v1 ∧ g = g1 ∧ 0 = r) ∨ ((4 ≤ x ∧ x ≤ 20) ∧ v = v1 ∧ upG g 0 (upI (g 0) 2 x) = g1 ∧ g 0 2 = r))) := by
  refine zM_of (own := RX13) (by decide) rfl (Nat.le_of_ble_eq_true rfl) ?_
  intro p e s m below meth c hC hr hlk hnm hZ ls hl
  have hx := hC.x
  have hb := hC.b
  have hl : lv_has ls 3 [(0, .ref m0), (1, .int (iI x))] := hl
  refine lv_iload_n hx hb dX13_doSetWidth_0 rfl (lv_at hl 1 rfl) ?_
  refine z_iconst hx hb dX13_doSetWidth_1 ?_
  refine z_bipush hx hb dX13_doSetWidth_2 (by decide) ?_
  refine z_calli (z_runS (rest := []) (As := [.int (iI x), .int (iI 4), .int (iI 20)]) (n := 3) hC hZ (met_X13_in l D cs A (mW cs m0 ad v g) x 4 20 (by omega) (by decide) (by decide)) gs_X13_71 he_X13_in rfl hl rfl (Nat.le_of_ble_eq_true rfl) ⟨Nat.le_of_ble_eq_true rfl, Nat.le_of_ble_eq_true rfl⟩ ⟨Nat.le_of_ble_eq_true rfl, Nat.le_of_ble_eq_true rfl⟩ dX13_doSetWidth_4) hZ (fun r4 _ H locs hp_1 hZ => ?_)
  obtain ⟨rfl, hp_1⟩ := hp_1
  have hin := hp_1
  refine z_if_ne (tgt := 16) hx hb dX13_doSetWidth_7 (by decide) (by omega) (fun c_2 => ?_) (fun c_2 => ?_)
  · skip
    refine lv_aload_n hx hb dX13_doSetWidth_16 rfl (lv_at hl 0 rfl) ?_
    refine m_get hC hZ 0 (x := .ref (ad 0)) rfl (by decide) ql_X13_9 rfl dX13_doSetWidth_17 ?_
    refine z_iconst hx hb dX13_doSetWidth_20 ?_
    refine m_iald hC hZ hD 0 (by decide) (f := g 0) rfl rfl (by decide) (by decide) dX13_doSetWidth_21 ?_
    have hr_3 : -2147483648 ≤ (g 0) 2 ∧ (g 0) 2 ≤ 2147483647 := hok.2 0 _
    refine lv_istore_n (lv' := [(2, .int (iI ((g 0) 2))), (0, .ref m0), (1, .int (iI x))]) hx hb dX13_doSetWidth_22 rfl hl (by decide) rfl (fun ls hl => ?_)
    refine lv_aload_n hx hb dX13_doSetWidth_23 rfl (lv_at hl 1 rfl) ?_
    refine m_get hC hZ 0 (x := .ref (ad 0)) rfl (by decide) ql_X13_9 rfl dX13_doSetWidth_24 ?_
    refine z_iconst hx hb dX13_doSetWidth_27 ?_
    refine lv_iload_n hx hb dX13_doSetWidth_28 rfl (lv_at hl 2 rfl) ?_
    refine m_iast hC hZ hD 0 (by decide) (f := g 0) rfl rfl (by decide) (by decide) dX13_doSetWidth_29 (fun H locs hZ => ?_)
    have hok_4 := hok.g (k := 0) (i := 2) (x := x) (f := g 0) rfl (by omega)
    refine lv_iload_n hx hb dX13_doSetWidth_30 rfl (lv_at hl 0 rfl) ?_
    exact z_iret hC hr hlk hZ (by decide) (by decide) (⟨_, _, rfl, hok_4, Or.inr ⟨by omega, rfl, rfl, rfl⟩⟩) dX13_doSetWidth_31
  · skip
    refine lv_aload_n hx hb dX13_doSetWidth_10 rfl (lv_at hl 0 rfl) ?_
    refine z_iconst hx hb dX13_doSetWidth_11 ?_
    refine z_calli (z_runV (rest := []) (As := [.int (iI 1)]) (n := 1) (ci := 16) hC hZ (met_X13_fails l D cs A m0 ad v g 1  hD hok (by decide)) gv_X13_82 hd_X13_fails rfl mW_o rfl hl rfl (Nat.le_of_ble_eq_true rfl) ⟨Nat.le_of_ble_eq_true rfl, Nat.le_of_ble_eq_true rfl⟩ ⟨Nat.le_of_ble_eq_true rfl, Nat.le_of_ble_eq_true rfl⟩ dX13_doSetWidth_12) hZ (fun r12 _ H locs hp_5 hZ => ?_)
    obtain ⟨_, _, rfl, hok_6, rfl, rfl, rfl⟩ := hp_5
    exact z_iret hC hr hlk hZ (by decide) (by decide) (⟨_, _, rfl, hok_6, Or.inl ⟨by omega, rfl, rfl, rfl⟩⟩) dX13_doSetWidth_15

set_option maxHeartbeats 4000000 in
set_option maxRecDepth 100000 in
theorem met_X13_doSetPage (l : Launch) (D : va_G) (cs : Nat → ClassId) (A : Nat → Prop) (m0 : Nat) (ad : Nat → Nat) (v : Nat → Int) (g : Nat → Int → Int) (x y : Int)  (hD : mD m0 ad) (hok : mOK v g) (hx0 : InR x) (hy0 : InR y) : zM l D cs A yX13_doSetPage cX13_doSetPage 3 (some FieldType.int) 2 0 0 [.ref m0, .int (iI x), .int (iI y)] (mW cs m0 ad v g) (mP cs m0 ad (fun r v1 g1 => (¬ ((1 ≤ x ∧ x ≤ 4) ∧ 1 ≤ y ∧ y ≤ 20) ∧ upN v 6 1 = v1 ∧ g = g1 ∧ 0 = r) ∨ (((1 ≤ x ∧ x ≤ 4) ∧ 1 ≤ y ∧ y ≤ 20) ∧ v = v1 ∧ upG g 0 (upI (upI (g 0) 3 x) 4 y) = g1 ∧ x * y = r))) := by
  refine zM_of (own := RX13) (by decide) rfl (Nat.le_of_ble_eq_true rfl) ?_
  intro p e s m below meth c hC hr hlk hnm hZ ls hl
  have hx := hC.x
  have hb := hC.b
  have hl : lv_has ls 3 [(0, .ref m0), (1, .int (iI x)), (2, .int (iI y))] := hl
  refine lv_iload_n hx hb dX13_doSetPage_0 rfl (lv_at hl 1 rfl) ?_
  refine z_iconst hx hb dX13_doSetPage_1 ?_
  refine z_iconst hx hb dX13_doSetPage_2 ?_
  refine z_calli (z_runS (rest := []) (As := [.int (iI x), .int (iI 1), .int (iI 4)]) (n := 3) hC hZ (met_X13_in l D cs A (mW cs m0 ad v g) x 1 4 (by omega) (by decide) (by decide)) gs_X13_71 he_X13_in rfl hl rfl (Nat.le_of_ble_eq_true rfl) ⟨Nat.le_of_ble_eq_true rfl, Nat.le_of_ble_eq_true rfl⟩ ⟨Nat.le_of_ble_eq_true rfl, Nat.le_of_ble_eq_true rfl⟩ dX13_doSetPage_3) hZ (fun r3 _ H locs hp_1 hZ => ?_)
  obtain ⟨rfl, hp_1⟩ := hp_1
  have hin := hp_1
  refine z_if_eq (tgt := 19) hx hb dX13_doSetPage_6 (by decide) (by omega) (fun c_2 => ?_) (fun c_2 => ?_)
  · skip
    refine lv_aload_n hx hb dX13_doSetPage_19 rfl (lv_at hl 0 rfl) ?_
    refine z_iconst hx hb dX13_doSetPage_20 ?_
    refine z_calli (z_runV (rest := []) (As := [.int (iI 1)]) (n := 1) (ci := 16) hC hZ (met_X13_fails l D cs A m0 ad v g 1  hD hok (by decide)) gv_X13_82 hd_X13_fails rfl mW_o rfl hl rfl (Nat.le_of_ble_eq_true rfl) ⟨Nat.le_of_ble_eq_true rfl, Nat.le_of_ble_eq_true rfl⟩ ⟨Nat.le_of_ble_eq_true rfl, Nat.le_of_ble_eq_true rfl⟩ dX13_doSetPage_21) hZ (fun r21 _ H locs hp_3 hZ => ?_)
    obtain ⟨_, _, rfl, hok_4, rfl, rfl, rfl⟩ := hp_3
    exact z_iret hC hr hlk hZ (by decide) (by decide) (⟨_, _, rfl, hok_4, Or.inl ⟨by omega, rfl, rfl, rfl⟩⟩) dX13_doSetPage_24
  · skip
    refine lv_iload_n hx hb dX13_doSetPage_9 rfl (lv_at hl 2 rfl) ?_
    refine z_iconst hx hb dX13_doSetPage_10 ?_
    refine z_bipush hx hb dX13_doSetPage_11 (by decide) ?_
    refine z_calli (z_runS (rest := []) (As := [.int (iI y), .int (iI 1), .int (iI 20)]) (n := 3) hC hZ (met_X13_in l D cs A (mW cs m0 ad v g) y 1 20 (by omega) (by decide) (by decide)) gs_X13_71 he_X13_in rfl hl rfl (Nat.le_of_ble_eq_true rfl) ⟨Nat.le_of_ble_eq_true rfl, Nat.le_of_ble_eq_true rfl⟩ ⟨Nat.le_of_ble_eq_true rfl, Nat.le_of_ble_eq_true rfl⟩ dX13_doSetPage_13) hZ (fun r13 _ H locs hp_5 hZ => ?_)
    obtain ⟨rfl, hp_5⟩ := hp_5
    have hin2 := hp_5
    refine z_if_ne (tgt := 25) hx hb dX13_doSetPage_16 (by decide) (by omega) (fun c_6 => ?_) (fun c_6 => ?_)
    · skip
      refine lv_aload_n hx hb dX13_doSetPage_25 rfl (lv_at hl 0 rfl) ?_
      refine m_get hC hZ 0 (x := .ref (ad 0)) rfl (by decide) ql_X13_9 rfl dX13_doSetPage_26 ?_
      refine z_iconst hx hb dX13_doSetPage_29 ?_
      refine lv_iload_n hx hb dX13_doSetPage_30 rfl (lv_at hl 1 rfl) ?_
      refine m_iast hC hZ hD 0 (by decide) (f := g 0) rfl rfl (by decide) (by decide) dX13_doSetPage_31 (fun H locs hZ => ?_)
      have hok_7 := hok.g (k := 0) (i := 3) (x := x) (f := g 0) rfl (by omega)
      refine lv_aload_n hx hb dX13_doSetPage_32 rfl (lv_at hl 0 rfl) ?_
      refine m_get hC hZ 0 (x := .ref (ad 0)) rfl (by decide) ql_X13_9 rfl dX13_doSetPage_33 ?_
      refine z_iconst hx hb dX13_doSetPage_36 ?_
      refine lv_iload_n hx hb dX13_doSetPage_37 rfl (lv_at hl 2 rfl) ?_
      refine m_iast hC hZ hD 0 (by decide) (f := upI (g 0) 3 x) rfl rfl (by decide) (by decide) dX13_doSetPage_38 (fun H locs hZ => ?_)
      have hok_8 := hok_7.g (k := 0) (i := 4) (x := y) (f := upI (g 0) 3 x) rfl (by omega)
      refine lv_iload_n hx hb dX13_doSetPage_39 rfl (lv_at hl 1 rfl) ?_
      refine lv_iload_n hx hb dX13_doSetPage_40 rfl (lv_at hl 2 rfl) ?_
      refine z_imul hx hb dX13_doSetPage_41 ?_
      exact z_iret hC hr hlk hZ (by decide) (by decide) (⟨_, _, rfl, hok_8, Or.inr ⟨by omega, rfl, by rw [upG_up], rfl⟩⟩) dX13_doSetPage_42
    · skip
      refine lv_aload_n hx hb dX13_doSetPage_19 rfl (lv_at hl 0 rfl) ?_
      refine z_iconst hx hb dX13_doSetPage_20 ?_
      refine z_calli (z_runV (rest := []) (As := [.int (iI 1)]) (n := 1) (ci := 16) hC hZ (met_X13_fails l D cs A m0 ad v g 1  hD hok (by decide)) gv_X13_82 hd_X13_fails rfl mW_o rfl hl rfl (Nat.le_of_ble_eq_true rfl) ⟨Nat.le_of_ble_eq_true rfl, Nat.le_of_ble_eq_true rfl⟩ ⟨Nat.le_of_ble_eq_true rfl, Nat.le_of_ble_eq_true rfl⟩ dX13_doSetPage_21) hZ (fun r21 _ H locs hp_9 hZ => ?_)
      obtain ⟨_, _, rfl, hok_10, rfl, rfl, rfl⟩ := hp_9
      exact z_iret hC hr hlk hZ (by decide) (by decide) (⟨_, _, rfl, hok_10, Or.inl ⟨by omega, rfl, rfl, rfl⟩⟩) dX13_doSetPage_24

set_option maxHeartbeats 4000000 in
set_option maxRecDepth 100000 in
theorem met_X13_undo (l : Launch) (D : va_G) (cs : Nat → ClassId) (A : Nat → Prop) (m0 : Nat) (ad : Nat → Nat) (v : Nat → Int) (g : Nat → Int → Int)   (hD : mD m0 ad) (hok : mOK v g) (h5 : 0 ≤ v 5 ∧ v 5 ≤ 8) : zM l D cs A yX13_undo cX13_undo 1 (some FieldType.int) 1 0 0 [.ref m0] (mW cs m0 ad v g) (mP cs m0 ad (fun r v1 g1 => (v 5 = 0 ∧ upN v 6 1 = v1 ∧ g = g1) ∨ (v 5 ≠ 0 ∧ upN (upN v 6 0) 5 (v 5 - 1) = v1 ∧ upG g 0 (cpI (g 4) (g 0) (2439 * (v 5 - 1)) 0 2439) = g1 ∧ v 5 - 1 = r))) := by
  refine zM_of (own := RX13) (by decide) rfl (Nat.le_of_ble_eq_true rfl) ?_
  intro p e s m below meth c hC hr hlk hnm hZ ls hl
  have hx := hC.x
  have hb := hC.b
  have hl : lv_has ls 1 [(0, .ref m0)] := hl
  refine lv_aload_n hx hb dX13_undo_0 rfl (lv_at hl 0 rfl) ?_
  refine lv_aload_n hx hb dX13_undo_1 rfl (lv_at hl 0 rfl) ?_
  refine m_get hC hZ 5 (x := .int (iI (v 5))) rfl (by decide) ql_X13_64 rfl dX13_undo_2 ?_
  have hr_1 : -2147483648 ≤ v 5 ∧ v 5 ≤ 2147483647 := hok.1 5
  refine z_if_ne (tgt := 12) hx hb dX13_undo_5 (by decide) (by omega) (fun c_2 => ?_) (fun c_2 => ?_)
  · skip
    refine z_iconst hx hb dX13_undo_12 ?_
    refine m_put hC hZ 6 (ty := .int) (by decide) ql_X13_55 rfl rfl rfl (Or.inl rfl) rfl dX13_undo_13 (fun H locs hZ => ?_)
    have hok_3 := hok.v (k := 6) (x := 0) (by decide)
    refine lv_aload_n hx hb dX13_undo_16 rfl (lv_at hl 0 rfl) ?_
    refine m_get hC hZ 6 (x := .int (iI 0)) rfl (by decide) ql_X13_55 rfl dX13_undo_17 ?_
    refine z_if_le (tgt := 25) hx hb dX13_undo_20 (by decide) (by decide) (fun c_4 => ?_) (fun c_4 => ?_)
    · skip
      refine lv_aload_n hx hb dX13_undo_25 rfl (lv_at hl 0 rfl) ?_
      refine lv_dup hx hb dX13_undo_26 rfl ?_
      refine m_get hC hZ 5 (x := .int (iI (v 5))) rfl (by decide) ql_X13_64 rfl dX13_undo_27 ?_
      refine z_iconst hx hb dX13_undo_30 ?_
      refine z_isub hx hb dX13_undo_31 ?_
      refine m_put hC hZ 5 (ty := .int) (by decide) ql_X13_64 rfl rfl rfl (Or.inl rfl) rfl dX13_undo_32 (fun H locs hZ => ?_)
      have hok_5 := hok_3.v (k := 5) (x := (v 5) - 1) (by omega)
      refine lv_aload_n hx hb dX13_undo_35 rfl (lv_at hl 0 rfl) ?_
      refine m_get hC hZ 4 (x := .ref (ad 4)) rfl (by decide) ql_X13_19 rfl dX13_undo_36 ?_
      refine z_sipush hx hb dX13_undo_39 (by decide) ?_
      refine lv_aload_n hx hb dX13_undo_42 rfl (lv_at hl 0 rfl) ?_
      refine m_get hC hZ 5 (x := .int (iI ((v 5) - 1))) rfl (by decide) ql_X13_64 rfl dX13_undo_43 ?_
      refine z_imul hx hb dX13_undo_46 ?_
      refine lv_aload_n hx hb dX13_undo_47 rfl (lv_at hl 0 rfl) ?_
      refine m_get hC hZ 0 (x := .ref (ad 0)) rfl (by decide) ql_X13_9 rfl dX13_undo_48 ?_
      refine z_iconst hx hb dX13_undo_51 ?_
      refine z_sipush hx hb dX13_undo_52 (by decide) ?_
      refine m_copy (rest := []) hC hZ hD 4 0 4 1 (f1 := g 4) (f2 := g 0) hl rfl rfl rfl (by show _ ∧ _ ≤ (19512 : Int); omega) (by decide) (by decide) (by decide) (by decide) (Nat.le_of_ble_eq_true rfl) (by decide) qm_X13_58 qv_J10_arraycopy_1e247 qt_J10_arraycopy_1e247 qn_J10 dX13_undo_55 (fun H locs hZ => ?_)
      have hok_6 := hok_5.gf (k := 0) (f := cpI (g 4) (g 0) (2439 * ((v 5) - 1)) 0 2439) (InR.cp (f := g 4) (g := g 0) (hok_5.2 4) (hok_5.2 0))
      refine lv_aload_n hx hb dX13_undo_58 rfl (lv_at hl 0 rfl) ?_
      refine m_get hC hZ 5 (x := .int (iI ((v 5) - 1))) rfl (by decide) ql_X13_64 rfl dX13_undo_59 ?_
      exact z_iret hC hr hlk hZ (by decide) (by decide) (⟨_, _, rfl, hok_6, Or.inr ⟨by omega, rfl, rfl, rfl⟩⟩) dX13_undo_62
    · skip
      exfalso; omega
  · skip
    refine z_iconst hx hb dX13_undo_8 ?_
    refine lv_goto (tgt := 13) hx hb dX13_undo_9 (by decide) ?_
    refine m_put hC hZ 6 (ty := .int) (by decide) ql_X13_55 rfl rfl rfl (Or.inl rfl) rfl dX13_undo_13 (fun H locs hZ => ?_)
    have hok_7 := hok.v (k := 6) (x := 1) (by decide)
    refine lv_aload_n hx hb dX13_undo_16 rfl (lv_at hl 0 rfl) ?_
    refine m_get hC hZ 6 (x := .int (iI 1)) rfl (by decide) ql_X13_55 rfl dX13_undo_17 ?_
    refine z_if_le (tgt := 25) hx hb dX13_undo_20 (by decide) (by decide) (fun c_8 => ?_) (fun c_8 => ?_)
    · skip
      exfalso; omega
    · skip
      refine z_iconst hx hb dX13_undo_23 ?_
      exact z_iret hC hr hlk hZ (by decide) (by decide) (⟨_, _, rfl, hok_7, Or.inl ⟨by omega, rfl, rfl⟩⟩) dX13_undo_24

set_option maxHeartbeats 4000000 in
set_option maxRecDepth 100000 in
theorem met_X13_save (l : Launch) (D : va_G) (cs : Nat → ClassId) (A : Nat → Prop) (m0 : Nat) (ad : Nat → Nat) (v : Nat → Int) (g : Nat → Int → Int)   (hD : mD m0 ad) (hok : mOK v g)  : zM l D cs A yX13_save cX13_save 1 (some FieldType.int) 1 0 0 [.ref m0] (mW cs m0 ad v g) (mP cs m0 ad (fun r v1 g1 => upN (upN v 6 0) 3 1 = v1 ∧ upG g 2 (cpI (g 0) (g 2) 0 0 2439) = g1 ∧ g 0 0 = r)) := by
  refine zM_of (own := RX13) (by decide) rfl (Nat.le_of_ble_eq_true rfl) ?_
  intro p e s m below meth c hC hr hlk hnm hZ ls hl
  have hx := hC.x
  have hb := hC.b
  have hl : lv_has ls 1 [(0, .ref m0)] := hl
  refine lv_aload_n hx hb dX13_save_0 rfl (lv_at hl 0 rfl) ?_
  refine z_iconst hx hb dX13_save_1 ?_
  refine m_put hC hZ 6 (ty := .int) (by decide) ql_X13_55 rfl rfl rfl (Or.inl rfl) rfl dX13_save_2 (fun H locs hZ => ?_)
  have hok_1 := hok.v (k := 6) (x := 0) (by decide)
  refine lv_aload_n hx hb dX13_save_5 rfl (lv_at hl 0 rfl) ?_
  refine m_get hC hZ 0 (x := .ref (ad 0)) rfl (by decide) ql_X13_9 rfl dX13_save_6 ?_
  refine z_iconst hx hb dX13_save_9 ?_
  refine lv_aload_n hx hb dX13_save_10 rfl (lv_at hl 0 rfl) ?_
  refine m_get hC hZ 2 (x := .ref (ad 2)) rfl (by decide) ql_X13_16 rfl dX13_save_11 ?_
  refine z_iconst hx hb dX13_save_14 ?_
  refine z_sipush hx hb dX13_save_15 (by decide) ?_
  refine m_copy (rest := []) hC hZ hD 0 2 1 3 (f1 := g 0) (f2 := g 2) hl rfl rfl rfl (by decide) (by decide) (by decide) (by decide) (by decide) (Nat.le_of_ble_eq_true rfl) (by decide) qm_X13_58 qv_J10_arraycopy_1e247 qt_J10_arraycopy_1e247 qn_J10 dX13_save_18 (fun H locs hZ => ?_)
  have hok_2 := hok_1.gf (k := 2) (f := cpI (g 0) (g 2) 0 0 2439) (InR.cp (f := g 0) (g := g 2) (hok_1.2 0) (hok_1.2 2))
  refine lv_aload_n hx hb dX13_save_21 rfl (lv_at hl 0 rfl) ?_
  refine z_iconst hx hb dX13_save_22 ?_
  refine m_put hC hZ 3 (ty := .boolean) (by decide) ql_X13_286 rfl rfl rfl (Or.inr ⟨rfl, (by decide)⟩) rfl dX13_save_23 (fun H locs hZ => ?_)
  have hok_3 := hok_2.v (k := 3) (x := 1) (by decide)
  refine lv_aload_n hx hb dX13_save_26 rfl (lv_at hl 0 rfl) ?_
  refine m_get hC hZ 0 (x := .ref (ad 0)) rfl (by decide) ql_X13_9 rfl dX13_save_27 ?_
  refine z_iconst hx hb dX13_save_30 ?_
  refine m_iald hC hZ hD 0 (by decide) (f := g 0) rfl rfl (by decide) (by decide) dX13_save_31 ?_
  have hr_4 : -2147483648 ≤ (g 0) 0 ∧ (g 0) 0 ≤ 2147483647 := (hok_3.2 0 0)
  exact z_iret hC hr hlk hZ (by decide) (by decide) (⟨_, _, rfl, hok_3, rfl, rfl, rfl⟩) dX13_save_32

set_option maxHeartbeats 4000000 in
set_option maxRecDepth 100000 in
theorem met_X13_restore (l : Launch) (D : va_G) (cs : Nat → ClassId) (A : Nat → Prop) (m0 : Nat) (ad : Nat → Nat) (v : Nat → Int) (g : Nat → Int → Int)   (hD : mD m0 ad) (hok : mOK v g) (h3 : v 3 = 0 ∨ v 3 = 1) : zM l D cs A yX13_restore cX13_restore 1 (some FieldType.int) 1 0 0 [.ref m0] (mW cs m0 ad v g) (mP cs m0 ad (fun r v1 g1 => (v 3 = 0 ∧ upN v 6 1 = v1 ∧ g = g1) ∨ (v 3 = 1 ∧ upN (upN v 6 0) 5 0 = v1 ∧ upG g 0 (cpI (g 2) (g 0) 0 0 2439) = g1 ∧ cpI (g 2) (g 0) 0 0 2439 0 = r))) := by
  refine zM_of (own := RX13) (by decide) rfl (Nat.le_of_ble_eq_true rfl) ?_
  intro p e s m below meth c hC hr hlk hnm hZ ls hl
  have hx := hC.x
  have hb := hC.b
  have hl : lv_has ls 1 [(0, .ref m0)] := hl
  refine lv_aload_n hx hb dX13_restore_0 rfl (lv_at hl 0 rfl) ?_
  refine lv_aload_n hx hb dX13_restore_1 rfl (lv_at hl 0 rfl) ?_
  refine m_get hC hZ 3 (x := .int (iI (v 3))) rfl (by decide) ql_X13_286 rfl dX13_restore_2 ?_
  have hr_1 : -2147483648 ≤ v 3 ∧ v 3 ≤ 2147483647 := hok.1 3
  refine z_if_eq (tgt := 12) hx hb dX13_restore_5 (by decide) (by omega) (fun c_2 => ?_) (fun c_2 => ?_)
  · skip
    refine z_iconst hx hb dX13_restore_12 ?_
    refine m_put hC hZ 6 (ty := .int) (by decide) ql_X13_55 rfl rfl rfl (Or.inl rfl) rfl dX13_restore_13 (fun H locs hZ => ?_)
    have hok_3 := hok.v (k := 6) (x := 1) (by decide)
    refine lv_aload_n hx hb dX13_restore_16 rfl (lv_at hl 0 rfl) ?_
    refine m_get hC hZ 6 (x := .int (iI 1)) rfl (by decide) ql_X13_55 rfl dX13_restore_17 ?_
    refine z_if_le (tgt := 25) hx hb dX13_restore_20 (by decide) (by decide) (fun c_4 => ?_) (fun c_4 => ?_)
    · skip
      exfalso; omega
    · skip
      refine z_iconst hx hb dX13_restore_23 ?_
      exact z_iret hC hr hlk hZ (by decide) (by decide) (⟨_, _, rfl, hok_3, Or.inl ⟨by omega, rfl, rfl⟩⟩) dX13_restore_24
  · skip
    refine z_iconst hx hb dX13_restore_8 ?_
    refine lv_goto (tgt := 13) hx hb dX13_restore_9 (by decide) ?_
    refine m_put hC hZ 6 (ty := .int) (by decide) ql_X13_55 rfl rfl rfl (Or.inl rfl) rfl dX13_restore_13 (fun H locs hZ => ?_)
    have hok_5 := hok.v (k := 6) (x := 0) (by decide)
    refine lv_aload_n hx hb dX13_restore_16 rfl (lv_at hl 0 rfl) ?_
    refine m_get hC hZ 6 (x := .int (iI 0)) rfl (by decide) ql_X13_55 rfl dX13_restore_17 ?_
    refine z_if_le (tgt := 25) hx hb dX13_restore_20 (by decide) (by decide) (fun c_6 => ?_) (fun c_6 => ?_)
    · skip
      refine lv_aload_n hx hb dX13_restore_25 rfl (lv_at hl 0 rfl) ?_
      refine m_get hC hZ 2 (x := .ref (ad 2)) rfl (by decide) ql_X13_16 rfl dX13_restore_26 ?_
      refine z_iconst hx hb dX13_restore_29 ?_
      refine lv_aload_n hx hb dX13_restore_30 rfl (lv_at hl 0 rfl) ?_
      refine m_get hC hZ 0 (x := .ref (ad 0)) rfl (by decide) ql_X13_9 rfl dX13_restore_31 ?_
      refine z_iconst hx hb dX13_restore_34 ?_
      refine z_sipush hx hb dX13_restore_35 (by decide) ?_
      refine m_copy (rest := []) hC hZ hD 2 0 3 1 (f1 := g 2) (f2 := g 0) hl rfl rfl rfl (by decide) (by decide) (by decide) (by decide) (by decide) (Nat.le_of_ble_eq_true rfl) (by decide) qm_X13_58 qv_J10_arraycopy_1e247 qt_J10_arraycopy_1e247 qn_J10 dX13_restore_38 (fun H locs hZ => ?_)
      have hok_7 := hok_5.gf (k := 0) (f := cpI (g 2) (g 0) 0 0 2439) (InR.cp (f := g 2) (g := g 0) (hok_5.2 2) (hok_5.2 0))
      refine lv_aload_n hx hb dX13_restore_41 rfl (lv_at hl 0 rfl) ?_
      refine z_iconst hx hb dX13_restore_42 ?_
      refine m_put hC hZ 5 (ty := .int) (by decide) ql_X13_64 rfl rfl rfl (Or.inl rfl) rfl dX13_restore_43 (fun H locs hZ => ?_)
      have hok_8 := hok_7.v (k := 5) (x := 0) (by decide)
      refine lv_aload_n hx hb dX13_restore_46 rfl (lv_at hl 0 rfl) ?_
      refine m_get hC hZ 0 (x := .ref (ad 0)) rfl (by decide) ql_X13_9 rfl dX13_restore_47 ?_
      refine z_iconst hx hb dX13_restore_50 ?_
      refine m_iald hC hZ hD 0 (by decide) (f := cpI (g 2) (g 0) 0 0 2439) rfl rfl (by decide) (by decide) dX13_restore_51 ?_
      have hr_9 : -2147483648 ≤ (cpI (g 2) (g 0) 0 0 2439) 0 ∧ (cpI (g 2) (g 0) 0 0 2439) 0 ≤ 2147483647 := (hok_8.2 0 0)
      exact z_iret hC hr hlk hZ (by decide) (by decide) (⟨_, _, rfl, hok_8, Or.inr ⟨by omega, rfl, rfl, rfl⟩⟩) dX13_restore_52
    · skip
      exfalso; omega

set_option maxHeartbeats 4000000 in
set_option maxRecDepth 100000 in
theorem met_X13_ofIssue (l : Launch) (D : va_G) (cs : Nat → ClassId) (A : Nat → Prop) (m0 : Nat) (ad : Nat → Nat) (v : Nat → Int) (g : Nat → Int → Int) (a b : Int)  (hD : mD m0 ad) (hok : mOK v g) (ha0 : 0 ≤ a ∧ a ≤ 3) (hb0 : 0 ≤ b ∧ b < 18) : zM l D cs A yX13_ofIssue cX13_ofIssue 3 (some FieldType.int) 1 0 0 [.ref m0, .int (iI a), .int (iI b)] (mW cs m0 ad v g) (mP cs m0 ad (fun r v1 g1 => v = v1 ∧ g = g1 ∧ moi (g 0) a b = r)) := by
  refine zM_of (own := RX13) (by decide) rfl (Nat.le_of_ble_eq_true rfl) ?_
  intro p e s m below meth c hC hr hlk hnm hZ ls hl
  have hx := hC.x
  have hb := hC.b
  have hl : lv_has ls 3 [(0, .ref m0), (1, .int (iI a)), (2, .int (iI b))] := hl
  refine lv_aload_n hx hb dX13_ofIssue_0 rfl (lv_at hl 0 rfl) ?_
  refine m_get hC hZ 0 (x := .ref (ad 0)) rfl (by decide) ql_X13_9 rfl dX13_ofIssue_1 ?_
  refine z_sipush hx hb dX13_ofIssue_4 (by decide) ?_
  refine z_bipush hx hb dX13_ofIssue_7 (by decide) ?_
  refine lv_iload_n hx hb dX13_ofIssue_9 rfl (lv_at hl 1 rfl) ?_
  refine z_imul hx hb dX13_ofIssue_10 ?_
  refine z_iadd hx hb dX13_ofIssue_11 ?_
  refine lv_iload_n hx hb dX13_ofIssue_12 rfl (lv_at hl 2 rfl) ?_
  refine z_iadd hx hb dX13_ofIssue_13 ?_
  refine m_iald hC hZ hD 0 (by decide) (f := g 0) rfl rfl (by show _ ∧ _ < (2439 : Int); omega) (by decide) dX13_ofIssue_14 ?_
  have hr_1 : -2147483648 ≤ (g 0) ((2367 + (18 * a)) + b) ∧ (g 0) ((2367 + (18 * a)) + b) ≤ 2147483647 := hok.2 0 _
  exact z_iret hC hr hlk hZ (by decide) (by decide) (⟨_, _, rfl, ‹mOK v g›, rfl, rfl, rfl⟩) dX13_ofIssue_15

set_option maxHeartbeats 4000000 in
set_option maxRecDepth 100000 in
theorem met_X13_issueAt (l : Launch) (D : va_G) (cs : Nat → ClassId) (A : Nat → Prop) (m0 : Nat) (ad : Nat → Nat) (v : Nat → Int) (g : Nat → Int → Int) (x : Int)  (hD : mD m0 ad) (hok : mOK v g) (hx0 : InR x) (hn : 0 ≤ g 0 7 ∧ g 0 7 ≤ 4) : zM l D cs A yX13_issueAt cX13_issueAt 4 (some FieldType.int) 2 0 0 [.ref m0, .int (iI x)] (mW cs m0 ad v g) (mP cs m0 ad (fun r v1 g1 => v = v1 ∧ g = g1 ∧ mPi (g 0) (g 0 7) x r)) := by
  refine zM_of (own := RX13) (by decide) rfl (Nat.le_of_ble_eq_true rfl) ?_
  intro p e s m below meth c hC hr hlk hnm hZ ls hl
  have hx := hC.x
  have hb := hC.b
  have hl : lv_has ls 4 [(0, .ref m0), (1, .int (iI x))] := hl
  refine z_iconst hx hb dX13_issueAt_0 ?_
  refine lv_istore_n (lv' := [(2, .int (iI (-1))), (0, .ref m0), (1, .int (iI x))]) hx hb dX13_issueAt_1 rfl hl (by decide) rfl (fun ls hl => ?_)
  refine z_iconst hx hb dX13_issueAt_2 ?_
  refine lv_istore_n (lv' := [(3, .int (iI 0)), (2, .int (iI (-1))), (0, .ref m0), (1, .int (iI x))]) hx hb dX13_issueAt_3 rfl hl (by decide) rfl (fun ls hl => ?_)
  have L4_k_1 : ∀ (fu : Nat) (f i : Int)  (hfu : (g 0 7 - i).toNat < fu) (hi4_0 : 0 ≤ i ∧ i ≤ g 0 7) (hi4_1 : -1 ≤ f ∧ f < i) (hi4_2 : 0 ≤ f → moi (g 0) f 0 = x) (hi4_3 : ∀ j, f < j → 0 ≤ j → j < i → moi (g 0) j 0 ≠ x) (H : Heap) (locs : List Loc) (hZ : zS D A s (mW cs m0 ad v g) H locs) (ls : Array Slot) (hl : lv_has ls 4 [(3, .int (iI i)), (2, .int (iI f)), (0, .ref m0), (1, .int (iI x))]), W p l e (zR 2 0 0) s m [.ref m0, .int (iI x)].toArray below meth c H locs 0 0 (MQ below (zQ D A (mP cs m0 ad (fun r v1 g1 => v = v1 ∧ g = g1 ∧ mPi (g 0) (g 0 7) x r))) [.ref m0, .int (iI x)].toArray s 0 0 A) (F0 m 4 ls []) := by
    intro fu
    induction fu with
    | zero =>
      intro f i  hfu
      exact absurd hfu (Nat.not_lt_zero _)
    | succ fu ih4 =>
      intro f i  hfu hi4_0 hi4_1 hi4_2 hi4_3  H locs hZ ls hl
      refine lv_iload_n hx hb dX13_issueAt_4 rfl (lv_at hl 0 rfl) ?_
      refine lv_aload_n hx hb dX13_issueAt_5 rfl (lv_at hl 2 rfl) ?_
      refine m_get hC hZ 0 (x := .ref (ad 0)) rfl (by decide) ql_X13_9 rfl dX13_issueAt_6 ?_
      refine z_bipush hx hb dX13_issueAt_9 (by decide) ?_
      refine m_iald hC hZ hD 0 (by decide) (f := g 0) rfl rfl (by decide) (by decide) dX13_issueAt_11 ?_
      have hr_2 : -2147483648 ≤ (g 0) 7 ∧ (g 0) 7 ≤ 2147483647 := hok.2 0 _
      refine z_icmp_ge (tgt := 37) hx hb dX13_issueAt_12 (by decide) (by omega) (by omega) (fun c_3 => ?_) (fun c_3 => ?_)
      · skip
        refine lv_iload_n hx hb dX13_issueAt_37 rfl (lv_at hl 1 rfl) ?_
        exact z_iret hC hr hlk hZ (by decide) (by decide) (⟨_, _, rfl, ‹mOK v g›, rfl, rfl, ⟨by omega, hi4_2, fun j h1 h2 h3 => hi4_3 j h1 h2 (by omega)⟩⟩) dX13_issueAt_38
      · skip
        refine lv_aload_n hx hb dX13_issueAt_15 rfl (lv_at hl 2 rfl) ?_
        refine lv_iload_n hx hb dX13_issueAt_16 rfl (lv_at hl 0 rfl) ?_
        refine z_iconst hx hb dX13_issueAt_17 ?_
        refine z_calli (z_runV (rest := []) (As := [.int (iI i), .int (iI 0)]) (n := 2) (ci := 16) hC hZ (met_X13_ofIssue l D cs A m0 ad v g i 0  hD hok (by omega) (by omega)) gv_X13_194 hd_X13_ofIssue rfl mW_o rfl hl rfl (Nat.le_of_ble_eq_true rfl) ⟨Nat.le_of_ble_eq_true rfl, Nat.le_of_ble_eq_true rfl⟩ ⟨Nat.le_of_ble_eq_true rfl, Nat.le_of_ble_eq_true rfl⟩ dX13_issueAt_18) hZ (fun r18 _ H locs hp_4 hZ => ?_)
        obtain ⟨_, _, rfl, _, rfl, rfl, rfl⟩ := hp_4
        have hr_5 : -2147483648 ≤ moi (g 0) i 0 ∧ moi (g 0) i 0 ≤ 2147483647 := hok.2 0 _
        refine lv_iload_n hx hb dX13_issueAt_21 rfl (lv_at hl 3 rfl) ?_
        refine z_icmp_ne (tgt := 29) hx hb dX13_issueAt_22 (by decide) (by omega) (by omega) (fun c_6 => ?_) (fun c_6 => ?_)
        · skip
          refine lv_iload_n hx hb dX13_issueAt_29 rfl (lv_at hl 1 rfl) ?_
          refine lv_istore_n (lv' := [(2, .int (iI f)), (3, .int (iI i)), (0, .ref m0), (1, .int (iI x))]) hx hb dX13_issueAt_30 rfl hl (by decide) rfl (fun ls hl => ?_)
          refine z_iinc (lv' := [(3, .int (iI (i + 1))), (2, .int (iI f)), (0, .ref m0), (1, .int (iI x))]) hx hb dX13_issueAt_31 hl (k := 1) rfl (by decide) rfl (fun ls hl => ?_)
          refine lv_goto (tgt := 4) hx hb dX13_issueAt_34 (by decide) ?_
          exact ih4 f (i + 1)  (by omega) (by omega) (by omega) hi4_2 (fun j h1 h2 h3 => (Int.lt_or_eq_of_le (Int.le_of_lt_add_one h3)).elim (hi4_3 j h1 h2) (fun q => by rw [q]; assumption))  _ _ hZ ls (lv_sub hl [0, 1, 2, 3] rfl)
        · skip
          refine lv_iload_n hx hb dX13_issueAt_25 rfl (lv_at hl 0 rfl) ?_
          refine lv_goto (tgt := 30) hx hb dX13_issueAt_26 (by decide) ?_
          refine lv_istore_n (lv' := [(2, .int (iI i)), (3, .int (iI i)), (0, .ref m0), (1, .int (iI x))]) hx hb dX13_issueAt_30 rfl hl (by decide) rfl (fun ls hl => ?_)
          refine z_iinc (lv' := [(3, .int (iI (i + 1))), (2, .int (iI i)), (0, .ref m0), (1, .int (iI x))]) hx hb dX13_issueAt_31 hl (k := 1) rfl (by decide) rfl (fun ls hl => ?_)
          refine lv_goto (tgt := 4) hx hb dX13_issueAt_34 (by decide) ?_
          exact ih4 i (i + 1)  (by omega) (by omega) (by omega) (fun _ => by assumption) (fun j h1 h2 h3 => by omega)  _ _ hZ ls (lv_sub hl [0, 1, 2, 3] rfl)
  exact L4_k_1 _ (-1) 0  (Nat.lt_succ_self _) (by omega) (by omega) (fun h => absurd h (by decide)) (fun j h1 h2 h3 => absurd h2 (by omega))  _ _ hZ ls (lv_sub hl [0, 1, 2, 3] rfl)

