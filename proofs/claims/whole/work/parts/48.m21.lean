set_option maxHeartbeats 4000000 in
set_option maxRecDepth 100000 in
theorem met_X13_fresh (l : Launch) (D : va_G) (cs : Nat → ClassId) (A : Nat → Prop) (m0 : Nat) (ad : Nat → Nat) (v : Nat → Int) (g : Nat → Int → Int) (a : Int)  (hD : mD m0 ad) (hok : mOK v g) (ha0 : 0 ≤ a ∧ a ≤ 3) (hag : 0 ≤ g 0 5 - moi (g 0) a 1 ∧ g 0 5 - moi (g 0) a 1 ≤ 2000000) : zM l D cs A yX13_fresh cX13_fresh 4 (some FieldType.float) 3 0 0 [.ref m0, .int (iI a)] (mW cs m0 ad v g) (mPf cs m0 ad (fun r v1 g1 => v = v1 ∧ g = g1 ∧ r = zfr (g 0 5 - moi (g 0) a 1).toNat)) := by
  refine zM_of (own := RX13) (by decide) rfl (Nat.le_of_ble_eq_true rfl) ?_
  intro p e s m below meth c hC hr hlk hnm hZ ls hl
  have hx := hC.x
  have hb := hC.b
  have hl : lv_has ls 4 [(0, .ref m0), (1, .int (iI a))] := hl
  refine lv_fconst1 hx hb dX13_fresh_0 ?_
  refine z_topf (y := zfr (0 : Int).toNat) rfl ?_
  refine lv_fstore_n (lv' := [(2, .float (zfr (0 : Int).toNat)), (0, .ref m0), (1, .int (iI a))]) hx hb dX13_fresh_1 rfl hl (by decide) rfl (fun ls hl => ?_)
  refine z_iconst hx hb dX13_fresh_2 ?_
  refine lv_istore_n (lv' := [(3, .int (iI 0)), (2, .float (zfr (0 : Int).toNat)), (0, .ref m0), (1, .int (iI a))]) hx hb dX13_fresh_3 rfl hl (by decide) rfl (fun ls hl => ?_)
  have L4_k_1 : ∀ (fu : Nat) (k : Int)  (hfu : (g 0 5 - moi (g 0) a 1 - k).toNat < fu) (hi4_0 : 0 ≤ k ∧ k ≤ g 0 5 - moi (g 0) a 1) (H : Heap) (locs : List Loc) (hZ : zS D A s (mW cs m0 ad v g) H locs) (ls : Array Slot) (hl : lv_has ls 4 [(3, .int (iI k)), (2, .float (zfr k.toNat)), (0, .ref m0), (1, .int (iI a))]), W p l e (zR 3 0 0) s m [.ref m0, .int (iI a)].toArray below meth c H locs 0 0 (MQ below (zQ D A (mPf cs m0 ad (fun r v1 g1 => v = v1 ∧ g = g1 ∧ r = zfr (g 0 5 - moi (g 0) a 1).toNat))) [.ref m0, .int (iI a)].toArray s 0 0 A) (F0 m 4 ls []) := by
    intro fu
    induction fu with
    | zero =>
      intro k  hfu
      exact absurd hfu (Nat.not_lt_zero _)
    | succ fu ih4 =>
      intro k  hfu hi4_0  H locs hZ ls hl
      refine lv_iload_n hx hb dX13_fresh_4 rfl (lv_at hl 0 rfl) ?_
      refine lv_aload_n hx hb dX13_fresh_5 rfl (lv_at hl 2 rfl) ?_
      refine lv_iload_n hx hb dX13_fresh_6 rfl (lv_at hl 3 rfl) ?_
      refine z_calli (z_runV (rest := [.int (iI k)]) (As := [.int (iI a)]) (n := 1) (ci := 16) hC hZ (met_X13_age l D cs A m0 ad v g a  hD hok (by omega)) gv_X13_203 hd_X13_age rfl mW_o rfl hl rfl (Nat.le_of_ble_eq_true rfl) ⟨Nat.le_of_ble_eq_true rfl, Nat.le_of_ble_eq_true rfl⟩ ⟨Nat.le_of_ble_eq_true rfl, Nat.le_of_ble_eq_true rfl⟩ dX13_fresh_7) hZ (fun r7 _ H locs hp_2 hZ => ?_)
      obtain ⟨_, _, rfl, _, rfl, rfl, rfl⟩ := hp_2
      have hr_3 : -2147483648 ≤ moi (g 0) a 1 ∧ moi (g 0) a 1 ≤ 2147483647 := hok.2 0 _
      have hr_4 : -2147483648 ≤ (g 0) 5 ∧ (g 0) 5 ≤ 2147483647 := hok.2 0 _
      refine z_icmp_ge (tgt := 24) hx hb dX13_fresh_10 (by decide) (by omega) (by omega) (fun c_5 => ?_) (fun c_5 => ?_)
      · skip
        refine lv_fload_n hx hb dX13_fresh_24 rfl (lv_at hl 1 rfl) ?_
        exact z_fret hC hr hlk hZ (by decide) (by decide) (⟨_, _, rfl, hok, rfl, rfl, congrArg zfr (by omega)⟩) dX13_fresh_25
      · skip
        refine lv_fload_n hx hb dX13_fresh_13 rfl (lv_at hl 1 rfl) ?_
        refine z_ldcf (v := 1061158912) hC q_2019 dX13_fresh_14 ?_
        refine lv_fmul hx hb dX13_fresh_16 (vf_of (zfr_P (k.toNat + 1))) ?_
        refine z_topf (y := zfr (k + 1).toNat) (by rw [show (k + 1).toNat = k.toNat + 1 by omega]; rfl) ?_
        refine lv_fstore_n (lv' := [(2, .float (zfr (k + 1).toNat)), (3, .int (iI k)), (0, .ref m0), (1, .int (iI a))]) hx hb dX13_fresh_17 rfl hl (by decide) rfl (fun ls hl => ?_)
        refine z_iinc (lv' := [(3, .int (iI (k + 1))), (2, .float (zfr (k + 1).toNat)), (0, .ref m0), (1, .int (iI a))]) hx hb dX13_fresh_18 hl (k := 1) rfl (by decide) rfl (fun ls hl => ?_)
        refine lv_goto (tgt := 4) hx hb dX13_fresh_21 (by decide) ?_
        exact ih4 (k + 1)  (by omega) (by omega)  _ _ hZ ls (lv_sub hl [0, 1, 2, 3] rfl)
  exact L4_k_1 _ 0  (Nat.lt_succ_self _) (by omega)  _ _ hZ ls (lv_sub hl [0, 1, 2, 3] rfl)

set_option maxHeartbeats 4000000 in
set_option maxRecDepth 100000 in
theorem met_X13_freshness (l : Launch) (D : va_G) (cs : Nat → ClassId) (A : Nat → Prop) (m0 : Nat) (ad : Nat → Nat) (v : Nat → Int) (g : Nat → Int → Int) (x : Int)  (N : Nat) (c0 : zCo) (hD : mD m0 ad) (hok : mOK v g) (hR : mR (g 0) c0) (hK : cOK N c0) (hx0 : InR x) (hN : N ≤ 1000) : zM l D cs A yX13_freshness cX13_freshness 3 (some FieldType.float) 4 0 0 [.ref m0, .int (iI x)] (mW cs m0 ad v g) (mPf cs m0 ad (fun r v1 g1 => mQf v g r v1 g1 (sFr c0 x))) := by
  refine zM_of (own := RX13) (by decide) rfl (Nat.le_of_ble_eq_true rfl) ?_
  intro p e s m below meth c hC hr hlk hnm hZ ls hl
  have hx := hC.x
  have hb := hC.b
  have hl : lv_has ls 3 [(0, .ref m0), (1, .int (iI x))] := hl
  have hm := mR_m hR hK
  have hdb := hK.2.2.2.2.2.2.2.2.2.2.2.1
  refine lv_aload_n hx hb dX13_freshness_0 rfl (lv_at hl 0 rfl) ?_
  refine lv_iload_n hx hb dX13_freshness_1 rfl (lv_at hl 1 rfl) ?_
  refine z_calli (z_runV (rest := []) (As := [.int (iI x)]) (n := 1) (ci := 16) hC hZ (met_X13_issueAt l D cs A m0 ad v g x  hD hok (by omega) hm) gv_X13_200 hd_X13_issueAt rfl mW_o rfl hl rfl (Nat.le_of_ble_eq_true rfl) ⟨Nat.le_of_ble_eq_true rfl, Nat.le_of_ble_eq_true rfl⟩ ⟨Nat.le_of_ble_eq_true rfl, Nat.le_of_ble_eq_true rfl⟩ dX13_freshness_2) hZ (fun r2 _ H locs hp_1 hZ => ?_)
  obtain ⟨_, _, rfl, _, rfl, rfl, hp_1⟩ := hp_1
  rcases mPi_fi hR hK hp_1 with ⟨hz, hzi, er⟩ | ⟨i0, a0, hz, hzi, er, hi, hid, hib, hra, hka⟩
  · skip
    subst er
    refine lv_istore_n (lv' := [(2, .int (iI (-1))), (0, .ref m0), (1, .int (iI x))]) hx hb dX13_freshness_5 rfl hl (by decide) rfl (fun ls hl => ?_)
    refine lv_aload_n hx hb dX13_freshness_6 rfl (lv_at hl 1 rfl) ?_
    refine lv_iload_n hx hb dX13_freshness_7 rfl (lv_at hl 0 rfl) ?_
    refine z_if_lt (tgt := 15) hx hb dX13_freshness_8 (by decide) (by decide) (fun c_2 => ?_) (fun c_2 => ?_)
    · skip
      refine z_iconst hx hb dX13_freshness_15 ?_
      refine z_calli (z_runV (rest := []) (As := [.int (iI 0)]) (n := 1) (ci := 16) hC hZ (met_X13_isThere l D cs A m0 ad v g 0  hD hok (by decide)) gv_X13_126 hd_X13_isThere rfl mW_o rfl hl rfl (Nat.le_of_ble_eq_true rfl) ⟨Nat.le_of_ble_eq_true rfl, Nat.le_of_ble_eq_true rfl⟩ ⟨Nat.le_of_ble_eq_true rfl, Nat.le_of_ble_eq_true rfl⟩ dX13_freshness_16) hZ (fun r16 _ H locs hp_3 hZ => ?_)
      obtain ⟨_, _, rfl, hok_4, rfl, rfl, rfl⟩ := hp_3
      refine z_if_eq (tgt := 30) hx hb dX13_freshness_19 (by decide) (by decide) (fun c_5 => ?_) (fun c_5 => ?_)
      · skip
        refine lv_fconst0 hx hb dX13_freshness_30 ?_
        exact z_fret hC hr hlk hZ (by decide) (by decide) (⟨_, _, rfl, hok_4, mQf_of (t := 1) (y := 0) (by unfold sFr; rw [hz]) rfl rfl (fun q => absurd q (by decide))⟩) dX13_freshness_31
      · skip
        exfalso; omega
    · skip
      exfalso; omega
  · skip
    subst er
    have hda := hR.2.2.2.2.2.1
    obtain ⟨e0, e1, e2, e3, e4, e5, e6⟩ := hra
    have hpr := hka.2.2.2.2.2.2.2
    have hag : 0 ≤ g 0 5 - moi (g 0) (i0 : Int) 1 ∧ g 0 5 - moi (g 0) (i0 : Int) 1 ≤ 2000000 := by omega
    have hage : (g 0 5 - moi (g 0) (i0 : Int) 1).toNat = (cDa c0 - iPr a0).toNat := by omega
    refine lv_istore_n (lv' := [(2, .int (iI (i0 : Int))), (0, .ref m0), (1, .int (iI x))]) hx hb dX13_freshness_5 rfl hl (by decide) rfl (fun ls hl => ?_)
    refine lv_aload_n hx hb dX13_freshness_6 rfl (lv_at hl 1 rfl) ?_
    refine lv_iload_n hx hb dX13_freshness_7 rfl (lv_at hl 0 rfl) ?_
    refine z_if_lt (tgt := 15) hx hb dX13_freshness_8 (by decide) (by omega) (fun c_6 => ?_) (fun c_6 => ?_)
    · skip
      exfalso; omega
    · skip
      refine z_iconst hx hb dX13_freshness_11 ?_
      refine lv_goto (tgt := 16) hx hb dX13_freshness_12 (by decide) ?_
      refine z_calli (z_runV (rest := []) (As := [.int (iI 1)]) (n := 1) (ci := 16) hC hZ (met_X13_isThere l D cs A m0 ad v g 1  hD hok (by decide)) gv_X13_126 hd_X13_isThere rfl mW_o rfl hl rfl (Nat.le_of_ble_eq_true rfl) ⟨Nat.le_of_ble_eq_true rfl, Nat.le_of_ble_eq_true rfl⟩ ⟨Nat.le_of_ble_eq_true rfl, Nat.le_of_ble_eq_true rfl⟩ dX13_freshness_16) hZ (fun r16 _ H locs hp_7 hZ => ?_)
      obtain ⟨_, _, rfl, hok_8, rfl, rfl, rfl⟩ := hp_7
      refine z_if_eq (tgt := 30) hx hb dX13_freshness_19 (by decide) (by decide) (fun c_9 => ?_) (fun c_9 => ?_)
      · skip
        exfalso; omega
      · skip
        refine lv_aload_n hx hb dX13_freshness_22 rfl (lv_at hl 1 rfl) ?_
        refine lv_iload_n hx hb dX13_freshness_23 rfl (lv_at hl 0 rfl) ?_
        refine z_callf (z_runV (rest := []) (As := [.int (iI (i0 : Int))]) (n := 1) (ci := 16) hC hZ (met_X13_fresh l D cs A m0 ad (upN v 6 (1 - 1)) g (i0 : Int)  hD hok_8 (by omega) hag) gv_X13_210 hd_X13_fresh rfl mW_o rfl hl rfl (Nat.le_of_ble_eq_true rfl) ⟨Nat.le_of_ble_eq_true rfl, Nat.le_of_ble_eq_true rfl⟩ ⟨Nat.le_of_ble_eq_true rfl, Nat.le_of_ble_eq_true rfl⟩ dX13_freshness_24) hZ (fun r24 _ H locs hp_10 hZ => ?_)
        obtain ⟨_, _, rfl, _, rfl, rfl, rfl⟩ := hp_10
        refine lv_goto (tgt := 31) hx hb dX13_freshness_27 (by decide) ?_
        exact z_fret hC hr hlk hZ (by decide) (by decide) (⟨_, _, rfl, hok_8, mQf_of (t := 0) (y := zfr (cDa c0 - iPr a0).toNat) (by unfold sFr; rw [hz]) rfl rfl (fun _ => congrArg zfr hage)⟩) dX13_freshness_31

set_option maxHeartbeats 4000000 in
set_option maxRecDepth 100000 in
theorem met_Jxf58ca_isNaN_12338 (l : Launch) (D : va_G) (cs : Nat → ClassId) (A : Nat → Prop) (F : zF) (x : UInt32)  (hfx : fP x) : zM l D cs A yJxf58ca_isNaN_12338 cJxf58ca_isNaN_12338 1 (some FieldType.boolean) 1 0 0 [.float x] F (pI (fun r F1 => F = F1 ∧ r = 0)) := by
  refine zM_ofF (own := RJxf58ca) (by decide +kernel) rfl (Nat.le_of_ble_eq_true rfl) ?_
  intro p e s m below meth c hC hr hlk hnm hZ ls hl
  have hx := hC.x
  have hb := hC.b
  have hl : lv_has ls 1 [(0, .float x)] := hl
  refine lv_fload_n hx hb dJxf58ca_isNaN_12338_0 rfl (lv_at hl 0 rfl) ?_
  refine lv_fload_n hx hb dJxf58ca_isNaN_12338_1 rfl (lv_at hl 0 rfl) ?_
  refine lv_fcmp hx hb dJxf58ca_isNaN_12338_2 ?_
  refine z_topi (y := 0) (by rw [fcmp_self hfx]; rfl) ?_
  refine z_if_eq (tgt := 10) hx hb dJxf58ca_isNaN_12338_3 (by decide) (by decide) (fun c_1 => ?_) (fun c_1 => ?_)
  · skip
    refine z_iconst hx hb dJxf58ca_isNaN_12338_10 ?_
    exact z_zret hC hr hlk hZ rfl (by decide) (by decide) (⟨rfl, rfl⟩) dJxf58ca_isNaN_12338_11
  · skip
    exfalso; omega

set_option maxHeartbeats 4000000 in
set_option maxRecDepth 100000 in
theorem met_Jxf58ca_floatToIntBits_5c35a (l : Launch) (D : va_G) (cs : Nat → ClassId) (A : Nat → Prop) (F : zF) (x : UInt32)  (hfx : fP x) : zM l D cs A yJxf58ca_floatToIntBits_5c35a cJxf58ca_floatToIntBits_5c35a 1 (some FieldType.int) 2 0 0 [.float x] F (pI (fun r F1 => F = F1 ∧ r = x.toInt32.toInt)) := by
  refine zM_ofF (own := RJxf58ca) (by decide +kernel) rfl (Nat.le_of_ble_eq_true rfl) ?_
  intro p e s m below meth c hC hr hlk hnm hZ ls hl
  have hx := hC.x
  have hb := hC.b
  have hl : lv_has ls 1 [(0, .float x)] := hl
  refine lv_fload_n hx hb dJxf58ca_floatToIntBits_5c35a_0 rfl (lv_at hl 0 rfl) ?_
  refine z_calli (z_runS (rest := []) (As := [.float x]) (n := 1) hC hZ (met_Jxf58ca_isNaN_12338 l D cs A F x hfx) gs_Jxf58ca_59 he_Jxf58ca_isNaN_12338 rfl hl rfl (Nat.le_of_ble_eq_true rfl) ⟨Nat.le_of_ble_eq_true rfl, Nat.le_of_ble_eq_true rfl⟩ ⟨Nat.le_of_ble_eq_true rfl, Nat.le_of_ble_eq_true rfl⟩ dJxf58ca_floatToIntBits_5c35a_1) hZ (fun r1 _ H locs hp1 hZ => ?_)
  obtain ⟨rfl, rfl⟩ := hp1
  refine z_if_ne (tgt := 12) hx hb dJxf58ca_floatToIntBits_5c35a_4 (by decide) (by decide) (fun c_1 => ?_) (fun c_1 => ?_)
  · skip
    exfalso; omega
  · skip
    refine lv_fload_n hx hb dJxf58ca_floatToIntBits_5c35a_7 rfl (lv_at hl 0 rfl) ?_
    refine vn_f2i (rest := []) hx hb (hC.ml.trans hl.1.symm) hC.ow (hC.ts qm_Jxf58ca_74) (hC.ts qv_Jxf58ca_floatToRawIntBits_5c35a) (hC.ts qt_Jxf58ca_floatToRawIntBits_5c35a) (hC.ts qn_Jxf58ca) (Nat.le_of_ble_eq_true rfl) (Nat.le_of_ble_eq_true rfl) dJxf58ca_floatToIntBits_5c35a_8 ?_
    refine z_topi (y := x.toInt32.toInt) (iI_of _) ?_
    exact z_iret hC hr hlk hZ (by decide) (by decide) (⟨rfl, rfl⟩) dJxf58ca_floatToIntBits_5c35a_11

set_option maxHeartbeats 4000000 in
set_option maxRecDepth 100000 in
theorem met_X13_freshnessBits (l : Launch) (D : va_G) (cs : Nat → ClassId) (A : Nat → Prop) (m0 : Nat) (ad : Nat → Nat) (v : Nat → Int) (g : Nat → Int → Int) (x : Int)  (N : Nat) (c0 : zCo) (hD : mD m0 ad) (hok : mOK v g) (hR : mR (g 0) c0) (hK : cOK N c0) (hx0 : InR x) (hN : N ≤ 1000) : zM l D cs A yX13_freshnessBits cX13_freshnessBits 3 (some FieldType.int) 5 0 0 [.ref m0, .int (iI x)] (mW cs m0 ad v g) (mP cs m0 ad (fun r v1 g1 => mA v g r v1 g1 (sFB c0 x))) := by
  refine zM_of (own := RX13) (by decide) rfl (Nat.le_of_ble_eq_true rfl) ?_
  intro p e s m below meth c hC hr hlk hnm hZ ls hl
  have hx := hC.x
  have hb := hC.b
  have hl : lv_has ls 3 [(0, .ref m0), (1, .int (iI x))] := hl
  refine lv_aload_n hx hb dX13_freshnessBits_0 rfl (lv_at hl 0 rfl) ?_
  refine lv_iload_n hx hb dX13_freshnessBits_1 rfl (lv_at hl 1 rfl) ?_
  refine z_callf (z_runV (rest := []) (As := [.int (iI x)]) (n := 1) (ci := 16) hC hZ (met_X13_freshness l D cs A m0 ad v g x N c0 hD hok hR hK hx0 hN) gv_X13_214 hd_X13_freshness rfl mW_o rfl hl rfl (Nat.le_of_ble_eq_true rfl) ⟨Nat.le_of_ble_eq_true rfl, Nat.le_of_ble_eq_true rfl⟩ ⟨Nat.le_of_ble_eq_true rfl, Nat.le_of_ble_eq_true rfl⟩ dX13_freshnessBits_2) hZ (fun r2 _ H locs hp_1 hZ => ?_)
  obtain ⟨_, _, rfl, hok_2, rfl, rfl, hfq⟩ := hp_1
  have hsp : ((sFr c0 x).1 = 1 ∧ sFB c0 x = (1, 0)) ∨ ∃ s0, (sFr c0 x).1 = 0 ∧ (sFr c0 x).2 = zfr (cDa c0 - iPr s0).toNat ∧ sFB c0 x = (0, (zfr (cDa c0 - iPr s0).toNat).toInt32.toInt) := by
    unfold sFr sFB
    cases hz : zfi (cIs c0) x with
    | none => exact Or.inl ⟨rfl, rfl⟩
    | some s0 => exact Or.inr ⟨s0, rfl, rfl, rfl⟩
  rcases hsp with ⟨hs1, hs3⟩ | ⟨s0, hs1, hs2, hs3⟩
  · skip
    rw [hs1] at hok_2 hZ
    refine lv_fstore_n (lv' := [(2, .float r2), (0, .ref m0), (1, .int (iI x))]) hx hb dX13_freshnessBits_5 rfl hl (by decide) rfl (fun ls hl => ?_)
    refine lv_aload_n hx hb dX13_freshnessBits_6 rfl (lv_at hl 1 rfl) ?_
    refine m_get hC hZ 6 (x := .int (iI 1)) rfl (by decide) ql_X13_55 rfl dX13_freshnessBits_7 ?_
    refine z_if_le (tgt := 17) hx hb dX13_freshnessBits_10 (by decide) (by decide) (fun c_3 => ?_) (fun c_3 => ?_)
    · skip
      exfalso; omega
    · skip
      refine z_iconst hx hb dX13_freshnessBits_13 ?_
      refine lv_goto (tgt := 21) hx hb dX13_freshnessBits_14 (by decide) ?_
      exact z_iret hC hr hlk hZ (by decide) (by decide) (⟨_, _, rfl, hok_2, mA_of hs3 rfl rfl (fun q => absurd q (by decide))⟩) dX13_freshnessBits_21
  · skip
    rw [hs1] at hok_2 hZ hfq
    refine z_topf (y := zfr (cDa c0 - iPr s0).toNat) (by rw [hfq rfl, hs2]) ?_
    refine lv_fstore_n (lv' := [(2, .float (zfr (cDa c0 - iPr s0).toNat)), (0, .ref m0), (1, .int (iI x))]) hx hb dX13_freshnessBits_5 rfl hl (by decide) rfl (fun ls hl => ?_)
    refine lv_aload_n hx hb dX13_freshnessBits_6 rfl (lv_at hl 1 rfl) ?_
    refine m_get hC hZ 6 (x := .int (iI 0)) rfl (by decide) ql_X13_55 rfl dX13_freshnessBits_7 ?_
    refine z_if_le (tgt := 17) hx hb dX13_freshnessBits_10 (by decide) (by decide) (fun c_4 => ?_) (fun c_4 => ?_)
    · skip
      refine lv_fload_n hx hb dX13_freshnessBits_17 rfl (lv_at hl 0 rfl) ?_
      refine z_calli (z_runS (rest := []) (As := [.float (zfr (cDa c0 - iPr s0).toNat)]) (n := 1) hC hZ (met_Jxf58ca_floatToIntBits_5c35a l D cs A (mW cs m0 ad (upN v 6 0) g) (zfr (cDa c0 - iPr s0).toNat) (zfr_P _)) gs_X13_217 he_Jxf58ca_floatToIntBits_5c35a rfl hl rfl (Nat.le_of_ble_eq_true rfl) ⟨Nat.le_of_ble_eq_true rfl, Nat.le_of_ble_eq_true rfl⟩ ⟨Nat.le_of_ble_eq_true rfl, Nat.le_of_ble_eq_true rfl⟩ dX13_freshnessBits_18) hZ (fun r18 _ H locs hp18 hZ => ?_)
      obtain ⟨rfl, rfl⟩ := hp18
      exact z_iret hC hr hlk hZ (by decide) (by decide) (⟨_, _, rfl, hok_2, mA_of hs3 rfl rfl (fun _ => rfl)⟩) dX13_freshnessBits_21
    · skip
      exfalso; omega

set_option maxHeartbeats 4000000 in
set_option maxRecDepth 100000 in
theorem met_X13_coverage (l : Launch) (D : va_G) (cs : Nat → ClassId) (A : Nat → Prop) (m0 : Nat) (ad : Nat → Nat) (v : Nat → Int) (g : Nat → Int → Int) (x : Int)  (N : Nat) (c0 : zCo) (hD : mD m0 ad) (hok : mOK v g) (hR : mR (g 0) c0) (hK : cOK N c0) (hx0 : InR x) : zM l D cs A yX13_coverage cX13_coverage 3 (some FieldType.float) 3 0 0 [.ref m0, .int (iI x)] (mW cs m0 ad v g) (mPf cs m0 ad (fun r v1 g1 => mQf v g r v1 g1 (sCv c0 x))) := by
  refine zM_of (own := RX13) (by decide) rfl (Nat.le_of_ble_eq_true rfl) ?_
  intro p e s m below meth c hC hr hlk hnm hZ ls hl
  have hx := hC.x
  have hb := hC.b
  have hl : lv_has ls 3 [(0, .ref m0), (1, .int (iI x))] := hl
  have hm := mR_m hR hK
  refine lv_aload_n hx hb dX13_coverage_0 rfl (lv_at hl 0 rfl) ?_
  refine lv_iload_n hx hb dX13_coverage_1 rfl (lv_at hl 1 rfl) ?_
  refine z_calli (z_runV (rest := []) (As := [.int (iI x)]) (n := 1) (ci := 16) hC hZ (met_X13_issueAt l D cs A m0 ad v g x  hD hok (by omega) hm) gv_X13_200 hd_X13_issueAt rfl mW_o rfl hl rfl (Nat.le_of_ble_eq_true rfl) ⟨Nat.le_of_ble_eq_true rfl, Nat.le_of_ble_eq_true rfl⟩ ⟨Nat.le_of_ble_eq_true rfl, Nat.le_of_ble_eq_true rfl⟩ dX13_coverage_2) hZ (fun r2 _ H locs hp_1 hZ => ?_)
  obtain ⟨_, _, rfl, _, rfl, rfl, hp_1⟩ := hp_1
  rcases mPi_fi hR hK hp_1 with ⟨hz, hzi, er⟩ | ⟨i0, a0, hz, hzi, er, hi, hid, hib, hra, hka⟩
  · skip
    subst er
    refine lv_istore_n (lv' := [(2, .int (iI (-1))), (0, .ref m0), (1, .int (iI x))]) hx hb dX13_coverage_5 rfl hl (by decide) rfl (fun ls hl => ?_)
    refine lv_aload_n hx hb dX13_coverage_6 rfl (lv_at hl 1 rfl) ?_
    refine lv_iload_n hx hb dX13_coverage_7 rfl (lv_at hl 0 rfl) ?_
    refine z_if_lt (tgt := 15) hx hb dX13_coverage_8 (by decide) (by decide) (fun c_2 => ?_) (fun c_2 => ?_)
    · skip
      refine z_iconst hx hb dX13_coverage_15 ?_
      refine z_calli (z_runV (rest := []) (As := [.int (iI 0)]) (n := 1) (ci := 16) hC hZ (met_X13_isThere l D cs A m0 ad v g 0  hD hok (by decide)) gv_X13_126 hd_X13_isThere rfl mW_o rfl hl rfl (Nat.le_of_ble_eq_true rfl) ⟨Nat.le_of_ble_eq_true rfl, Nat.le_of_ble_eq_true rfl⟩ ⟨Nat.le_of_ble_eq_true rfl, Nat.le_of_ble_eq_true rfl⟩ dX13_coverage_16) hZ (fun r16 _ H locs hp_3 hZ => ?_)
      obtain ⟨_, _, rfl, hok_4, rfl, rfl, rfl⟩ := hp_3
      refine z_if_ne (tgt := 24) hx hb dX13_coverage_19 (by decide) (by decide) (fun c_5 => ?_) (fun c_5 => ?_)
      · skip
        exfalso; omega
      · skip
        refine lv_fconst0 hx hb dX13_coverage_22 ?_
        exact z_fret hC hr hlk hZ (by decide) (by decide) (⟨_, _, rfl, hok_4, mQf_of (t := 1) (y := 0) (by unfold sCv; rw [hz]) rfl rfl (fun q => absurd q (by decide))⟩) dX13_coverage_23
    · skip
      exfalso; omega
  · skip
    subst er
    obtain ⟨e0, e1, e2, e3, e4, e5, e6⟩ := hra
    have hpg := isOK_pg hka
    have hlb := hka.2.2.2.1
    have hfa := i2f_ok (z := iLi a0) (by omega)
    have hfb := i2f_ok (z := iCo a0 * iHe a0) (by omega)
    refine lv_istore_n (lv' := [(2, .int (iI (i0 : Int))), (0, .ref m0), (1, .int (iI x))]) hx hb dX13_coverage_5 rfl hl (by decide) rfl (fun ls hl => ?_)
    refine lv_aload_n hx hb dX13_coverage_6 rfl (lv_at hl 1 rfl) ?_
    refine lv_iload_n hx hb dX13_coverage_7 rfl (lv_at hl 0 rfl) ?_
    refine z_if_lt (tgt := 15) hx hb dX13_coverage_8 (by decide) (by omega) (fun c_6 => ?_) (fun c_6 => ?_)
    · skip
      exfalso; omega
    · skip
      refine z_iconst hx hb dX13_coverage_11 ?_
      refine lv_goto (tgt := 16) hx hb dX13_coverage_12 (by decide) ?_
      refine z_calli (z_runV (rest := []) (As := [.int (iI 1)]) (n := 1) (ci := 16) hC hZ (met_X13_isThere l D cs A m0 ad v g 1  hD hok (by decide)) gv_X13_126 hd_X13_isThere rfl mW_o rfl hl rfl (Nat.le_of_ble_eq_true rfl) ⟨Nat.le_of_ble_eq_true rfl, Nat.le_of_ble_eq_true rfl⟩ ⟨Nat.le_of_ble_eq_true rfl, Nat.le_of_ble_eq_true rfl⟩ dX13_coverage_16) hZ (fun r16 _ H locs hp_7 hZ => ?_)
      obtain ⟨_, _, rfl, hok_8, rfl, rfl, rfl⟩ := hp_7
      refine z_if_ne (tgt := 24) hx hb dX13_coverage_19 (by decide) (by decide) (fun c_9 => ?_) (fun c_9 => ?_)
      · skip
        refine lv_aload_n hx hb dX13_coverage_24 rfl (lv_at hl 1 rfl) ?_
        refine lv_iload_n hx hb dX13_coverage_25 rfl (lv_at hl 0 rfl) ?_
        refine z_iconst hx hb dX13_coverage_26 ?_
        refine z_calli (z_runV (rest := []) (As := [.int (iI (i0 : Int)), .int (iI 4)]) (n := 2) (ci := 16) hC hZ (met_X13_ofIssue l D cs A m0 ad (upN v 6 (1 - 1)) g (i0 : Int) 4  hD hok_8 (by omega) (by omega)) gv_X13_194 hd_X13_ofIssue rfl mW_o rfl hl rfl (Nat.le_of_ble_eq_true rfl) ⟨Nat.le_of_ble_eq_true rfl, Nat.le_of_ble_eq_true rfl⟩ ⟨Nat.le_of_ble_eq_true rfl, Nat.le_of_ble_eq_true rfl⟩ dX13_coverage_27) hZ (fun r27 _ H locs hp_10 hZ => ?_)
        obtain ⟨_, _, rfl, _, rfl, rfl, rfl⟩ := hp_10
        have hr_11 : -2147483648 ≤ moi (g 0) (i0 : Int) 4 ∧ moi (g 0) (i0 : Int) 4 ≤ 2147483647 := hok_8.2 0 _
        refine z_top (y := iLi a0) e4 ?_
        refine lv_i2f hx hb dX13_coverage_30 ?_
        refine lv_aload_n hx hb dX13_coverage_31 rfl (lv_at hl 1 rfl) ?_
        refine lv_iload_n hx hb dX13_coverage_32 rfl (lv_at hl 0 rfl) ?_
        refine z_iconst hx hb dX13_coverage_33 ?_
        refine z_calli (z_runV (rest := [.float (FP.i2f (iI (iLi a0)))]) (As := [.int (iI (i0 : Int)), .int (iI 2)]) (n := 2) (ci := 16) hC hZ (met_X13_ofIssue l D cs A m0 ad (upN v 6 (1 - 1)) g (i0 : Int) 2  hD hok_8 (by omega) (by omega)) gv_X13_194 hd_X13_ofIssue rfl mW_o rfl hl rfl (Nat.le_of_ble_eq_true rfl) ⟨Nat.le_of_ble_eq_true rfl, Nat.le_of_ble_eq_true rfl⟩ ⟨Nat.le_of_ble_eq_true rfl, Nat.le_of_ble_eq_true rfl⟩ dX13_coverage_34) hZ (fun r34 _ H locs hp_12 hZ => ?_)
        obtain ⟨_, _, rfl, _, rfl, rfl, rfl⟩ := hp_12
        have hr_13 : -2147483648 ≤ moi (g 0) (i0 : Int) 2 ∧ moi (g 0) (i0 : Int) 2 ≤ 2147483647 := hok_8.2 0 _
        refine z_top (y := iCo a0) e2 ?_
        refine lv_aload_n hx hb dX13_coverage_37 rfl (lv_at hl 1 rfl) ?_
        refine lv_iload_n hx hb dX13_coverage_38 rfl (lv_at hl 0 rfl) ?_
        refine z_iconst hx hb dX13_coverage_39 ?_
        refine z_calli (z_runV (rest := [.int (iI (iCo a0)), .float (FP.i2f (iI (iLi a0)))]) (As := [.int (iI (i0 : Int)), .int (iI 3)]) (n := 2) (ci := 16) hC hZ (met_X13_ofIssue l D cs A m0 ad (upN v 6 (1 - 1)) g (i0 : Int) 3  hD hok_8 (by omega) (by omega)) gv_X13_194 hd_X13_ofIssue rfl mW_o rfl hl rfl (Nat.le_of_ble_eq_true rfl) ⟨Nat.le_of_ble_eq_true rfl, Nat.le_of_ble_eq_true rfl⟩ ⟨Nat.le_of_ble_eq_true rfl, Nat.le_of_ble_eq_true rfl⟩ dX13_coverage_40) hZ (fun r40 _ H locs hp_14 hZ => ?_)
        obtain ⟨_, _, rfl, _, rfl, rfl, rfl⟩ := hp_14
        have hr_15 : -2147483648 ≤ moi (g 0) (i0 : Int) 3 ∧ moi (g 0) (i0 : Int) 3 ≤ 2147483647 := hok_8.2 0 _
        refine z_top (y := iHe a0) e3 ?_
        refine z_imul hx hb dX13_coverage_43 ?_
        refine lv_i2f hx hb dX13_coverage_44 ?_
        refine lv_fdiv hx hb dX13_coverage_45 (vf_of (fP_div hfa.1 (hfb.2 (by omega)))) ?_
        exact z_fret hC hr hlk hZ (by decide) (by decide) (⟨_, _, rfl, hok_8, mQf_of (t := 0) (y := FP.fdiv (FP.i2f (iI (iLi a0))) (FP.i2f (iI (iCo a0 * iHe a0)))) (by unfold sCv; rw [hz]) rfl rfl (fun _ => rfl)⟩) dX13_coverage_46
      · skip
        exfalso; omega

set_option maxHeartbeats 4000000 in
set_option maxRecDepth 100000 in
theorem met_X13_meanWordLength (l : Launch) (D : va_G) (cs : Nat → ClassId) (A : Nat → Prop) (m0 : Nat) (ad : Nat → Nat) (v : Nat → Int) (g : Nat → Int → Int)   (N : Nat) (c0 : zCo) (hD : mD m0 ad) (hok : mOK v g) (hR : mR (g 0) c0) (hK : cOK N c0) : zM l D cs A yX13_meanWordLength cX13_meanWordLength 5 (some FieldType.double) 3 0 0 [.ref m0] (mW cs m0 ad v g) (mPd cs m0 ad (fun r v1 g1 => mQd v g r v1 g1 (sMW c0))) := by
  refine zM_of (own := RX13) (by decide) rfl (Nat.le_of_ble_eq_true rfl) ?_
  intro p e s m below meth c hC hr hlk hnm hZ ls hl
  have hx := hC.x
  have hb := hC.b
  have hl : lv_has ls 5 [(0, .ref m0)] := hl
  have hn := mR_n hR hK
  have hn0 := hR.1
  refine z_iconst hx hb dX13_meanWordLength_0 ?_
  refine lv_istore_n (lv' := [(1, .int (iI 0)), (0, .ref m0)]) hx hb dX13_meanWordLength_1 rfl hl (by decide) rfl (fun ls hl => ?_)
  refine z_iconst hx hb dX13_meanWordLength_2 ?_
  refine lv_istore_n (lv' := [(2, .int (iI 0)), (1, .int (iI 0)), (0, .ref m0)]) hx hb dX13_meanWordLength_3 rfl hl (by decide) rfl (fun ls hl => ?_)
  refine z_iconst hx hb dX13_meanWordLength_4 ?_
  refine lv_istore_n (lv' := [(3, .int (iI 0)), (2, .int (iI 0)), (1, .int (iI 0)), (0, .ref m0)]) hx hb dX13_meanWordLength_5 rfl hl (by decide) rfl (fun ls hl => ?_)
  have L6_k_1 : ∀ (fu : Nat) (q t k : Int)  (hfu : (g 0 0 - k).toNat < fu) (hi6_0 : 0 ≤ k ∧ k ≤ g 0 0) (hi6_1 : k ≤ q ∧ q ≤ 30 * k) (hi6_2 : 0 ≤ t ∧ t ≤ 360 * k) (hi6_3 : q = zwn ((cAr c0).take k.toNat)) (hi6_4 : t = zlt ((cAr c0).take k.toNat)) (H : Heap) (locs : List Loc) (hZ : zS D A s (mW cs m0 ad v g) H locs) (ls : Array Slot) (hl : lv_has ls 5 [(3, .int (iI k)), (2, .int (iI t)), (1, .int (iI q)), (0, .ref m0)]), W p l e (zR 3 0 0) s m [.ref m0].toArray below meth c H locs 0 0 (MQ below (zQ D A (mPd cs m0 ad (fun r v1 g1 => mQd v g r v1 g1 (sMW c0)))) [.ref m0].toArray s 0 0 A) (F0 m 6 ls []) := by
    intro fu
    induction fu with
    | zero =>
      intro q t k  hfu
      exact absurd hfu (Nat.not_lt_zero _)
    | succ fu ih6 =>
      intro q t k  hfu hi6_0 hi6_1 hi6_2 hi6_3 hi6_4  H locs hZ ls hl
      refine lv_iload_n hx hb dX13_meanWordLength_6 rfl (lv_at hl 0 rfl) ?_
      refine lv_aload_n hx hb dX13_meanWordLength_7 rfl (lv_at hl 3 rfl) ?_
      refine m_get hC hZ 0 (x := .ref (ad 0)) rfl (by decide) ql_X13_9 rfl dX13_meanWordLength_8 ?_
      refine z_iconst hx hb dX13_meanWordLength_11 ?_
      refine m_iald hC hZ hD 0 (by decide) (f := g 0) rfl rfl (by decide) (by decide) dX13_meanWordLength_12 ?_
      have hr_2 : -2147483648 ≤ (g 0) 0 ∧ (g 0) 0 ≤ 2147483647 := hok.2 0 _
      refine z_icmp_ge (tgt := 61) hx hb dX13_meanWordLength_13 (by decide) (by omega) (by omega) (fun c_3 => ?_) (fun c_3 => ?_)
      · skip
        have hwz : q = zwn (cAr c0) := by rw [hi6_3, List.take_of_length_le (by omega)]
        have htz : t = zlt (cAr c0) := by rw [hi6_4, List.take_of_length_le (by omega)]
        refine lv_aload_n hx hb dX13_meanWordLength_61 rfl (lv_at hl 3 rfl) ?_
        refine lv_iload_n hx hb dX13_meanWordLength_62 rfl (lv_at hl 2 rfl) ?_
        refine z_if_le (tgt := 70) hx hb dX13_meanWordLength_63 (by decide) (by omega) (fun c_4 => ?_) (fun c_4 => ?_)
        · skip
          have hem : cAr c0 = [] := List.eq_nil_of_length_eq_zero (by omega)
          refine z_iconst hx hb dX13_meanWordLength_70 ?_
          refine z_calli (z_runV (rest := []) (As := [.int (iI 0)]) (n := 1) (ci := 16) hC hZ (met_X13_isThere l D cs A m0 ad v g 0  hD hok (by decide)) gv_X13_126 hd_X13_isThere rfl mW_o rfl hl rfl (Nat.le_of_ble_eq_true rfl) ⟨Nat.le_of_ble_eq_true rfl, Nat.le_of_ble_eq_true rfl⟩ ⟨Nat.le_of_ble_eq_true rfl, Nat.le_of_ble_eq_true rfl⟩ dX13_meanWordLength_71) hZ (fun r71 _ H locs hp_5 hZ => ?_)
          obtain ⟨_, _, rfl, hok_6, rfl, rfl, rfl⟩ := hp_5
          refine z_if_eq (tgt := 85) hx hb dX13_meanWordLength_74 (by decide) (by decide) (fun c_7 => ?_) (fun c_7 => ?_)
          · skip
            refine lv_dconst0 hx hb dX13_meanWordLength_85 ?_
            exact z_dret hC hr hlk hZ (by decide) (by decide) (⟨_, _, rfl, hok_6, mQd_of (t := 1) (by unfold sMW; rw [if_pos hem]) rfl rfl (fun q => absurd q (by decide))⟩) dX13_meanWordLength_86
          · skip
            exfalso; omega
        · skip
          have hda := i2d_ok (z := t) (by omega)
          have hdb := i2d_ok (z := q) (by omega)
          have hne : cAr c0 ≠ [] := fun z => by rw [z] at hn0; simp at hn0; omega
          refine z_iconst hx hb dX13_meanWordLength_66 ?_
          refine lv_goto (tgt := 71) hx hb dX13_meanWordLength_67 (by decide) ?_
          refine z_calli (z_runV (rest := []) (As := [.int (iI 1)]) (n := 1) (ci := 16) hC hZ (met_X13_isThere l D cs A m0 ad v g 1  hD hok (by decide)) gv_X13_126 hd_X13_isThere rfl mW_o rfl hl rfl (Nat.le_of_ble_eq_true rfl) ⟨Nat.le_of_ble_eq_true rfl, Nat.le_of_ble_eq_true rfl⟩ ⟨Nat.le_of_ble_eq_true rfl, Nat.le_of_ble_eq_true rfl⟩ dX13_meanWordLength_71) hZ (fun r71 _ H locs hp_8 hZ => ?_)
          obtain ⟨_, _, rfl, hok_9, rfl, rfl, rfl⟩ := hp_8
          refine z_if_eq (tgt := 85) hx hb dX13_meanWordLength_74 (by decide) (by decide) (fun c_10 => ?_) (fun c_10 => ?_)
          · skip
            exfalso; omega
          · skip
            refine lv_iload_n hx hb dX13_meanWordLength_77 rfl (lv_at hl 1 rfl) ?_
            refine lv_i2d hx hb dX13_meanWordLength_78 ?_
            refine lv_iload_n hx hb dX13_meanWordLength_79 rfl (lv_at hl 2 rfl) ?_
            refine lv_i2d hx hb dX13_meanWordLength_80 ?_
            refine lv_ddiv hx hb dX13_meanWordLength_81 (vf_of64 (dQ_div hda.1 (hdb.2 (by omega)))) ?_
            refine lv_goto (tgt := 86) hx hb dX13_meanWordLength_82 (by decide) ?_
            exact z_dret hC hr hlk hZ (by decide) (by decide) (⟨_, _, rfl, hok_9, mQd_of (t := 0) (by unfold sMW; rw [if_neg hne]) rfl rfl (fun _ => by rw [hwz, htz])⟩) dX13_meanWordLength_86
      · skip
        obtain ⟨ak, hak⟩ : ∃ a, (cAr c0)[k.toNat]? = some a := ⟨_, List.getElem?_eq_getElem (by omega)⟩
        have hrk := hR.2.2.2.2.2.2.2.2.2.1 _ _ hak
        have hrk2 := hrk.2.2.1
        have hkk := hK.2.2.1 ak (List.mem_of_getElem? hak)
        have hk30 := hkk.2.2.1
        rw [Int.toNat_of_nonneg (by omega)] at hrk2
        refine lv_iload_n hx hb dX13_meanWordLength_16 rfl (lv_at hl 2 rfl) ?_
        refine lv_aload_n hx hb dX13_meanWordLength_17 rfl (lv_at hl 3 rfl) ?_
        refine lv_iload_n hx hb dX13_meanWordLength_18 rfl (lv_at hl 0 rfl) ?_
        refine z_iconst hx hb dX13_meanWordLength_19 ?_
        refine z_calli (z_runV (rest := [.int (iI q)]) (As := [.int (iI k), .int (iI 2)]) (n := 2) (ci := 16) hC hZ (met_X13_of l D cs A m0 ad v g k 2  hD hok (by omega) (by omega)) gv_X13_67 hd_X13_of rfl mW_o rfl hl rfl (Nat.le_of_ble_eq_true rfl) ⟨Nat.le_of_ble_eq_true rfl, Nat.le_of_ble_eq_true rfl⟩ ⟨Nat.le_of_ble_eq_true rfl, Nat.le_of_ble_eq_true rfl⟩ dX13_meanWordLength_20) hZ (fun r20 _ H locs hp_11 hZ => ?_)
        obtain ⟨_, _, rfl, _, rfl, rfl, rfl⟩ := hp_11
        have hr_12 : -2147483648 ≤ mof (g 0) k 2 ∧ mof (g 0) k 2 ≤ 2147483647 := hok.2 0 _
        refine z_top (y := (ak.2.2.length : Int)) hrk2 ?_
        refine z_iadd hx hb dX13_meanWordLength_23 ?_
        refine lv_istore_n (lv' := [(1, .int (iI (q + (ak.2.2.length : Int)))), (3, .int (iI k)), (2, .int (iI t)), (0, .ref m0)]) hx hb dX13_meanWordLength_24 rfl hl (by decide) rfl (fun ls hl => ?_)
        refine z_iconst hx hb dX13_meanWordLength_25 ?_
        refine lv_istore (lv' := [(4, .int (iI 0)), (1, .int (iI (q + (ak.2.2.length : Int)))), (3, .int (iI k)), (2, .int (iI t)), (0, .ref m0)]) hx hb dX13_meanWordLength_26 hl (by decide) rfl (fun ls hl => ?_)
        have L28_k_13 : ∀ (fu : Nat) (u w_ : Int)  (hfu : ((ak.2.2.length : Int) - w_).toNat < fu) (hi28_0 : 0 ≤ w_ ∧ w_ ≤ ak.2.2.length) (hi28_1 : t ≤ u ∧ u ≤ t + 12 * w_) (hi28_2 : u = t + ((zlens ak).take w_.toNat).sum) (H : Heap) (locs : List Loc) (hZ : zS D A s (mW cs m0 ad v g) H locs) (ls : Array Slot) (hl : lv_has ls 5 [(4, .int (iI w_)), (1, .int (iI (q + (ak.2.2.length : Int)))), (3, .int (iI k)), (2, .int (iI u)), (0, .ref m0)]), W p l e (zR 3 0 0) s m [.ref m0].toArray below meth c H locs 0 0 (MQ below (zQ D A (mPd cs m0 ad (fun r v1 g1 => mQd v g r v1 g1 (sMW c0)))) [.ref m0].toArray s 0 0 A) (F0 m 28 ls []) := by
          intro fu
          induction fu with
          | zero =>
            intro u w_  hfu
            exact absurd hfu (Nat.not_lt_zero _)
          | succ fu ih28 =>
            intro u w_  hfu hi28_0 hi28_1 hi28_2  H locs hZ ls hl
            refine lv_iload hx hb dX13_meanWordLength_28 (lv_at hl 0 rfl) ?_
            refine lv_aload_n hx hb dX13_meanWordLength_30 rfl (lv_at hl 4 rfl) ?_
            refine lv_iload_n hx hb dX13_meanWordLength_31 rfl (lv_at hl 2 rfl) ?_
            refine z_iconst hx hb dX13_meanWordLength_32 ?_
            refine z_calli (z_runV (rest := [.int (iI w_)]) (As := [.int (iI k), .int (iI 2)]) (n := 2) (ci := 16) hC hZ (met_X13_of l D cs A m0 ad v g k 2  hD hok (by omega) (by omega)) gv_X13_67 hd_X13_of rfl mW_o rfl hl rfl (Nat.le_of_ble_eq_true rfl) ⟨Nat.le_of_ble_eq_true rfl, Nat.le_of_ble_eq_true rfl⟩ ⟨Nat.le_of_ble_eq_true rfl, Nat.le_of_ble_eq_true rfl⟩ dX13_meanWordLength_33) hZ (fun r33 _ H locs hp_14 hZ => ?_)
            obtain ⟨_, _, rfl, _, rfl, rfl, rfl⟩ := hp_14
            have hr_15 : -2147483648 ≤ mof (g 0) k 2 ∧ mof (g 0) k 2 ≤ 2147483647 := hok.2 0 _
            refine z_top (y := (ak.2.2.length : Int)) hrk2 ?_
            refine z_icmp_ge (tgt := 55) hx hb dX13_meanWordLength_36 (by decide) (by omega) (by omega) (fun c_16 => ?_) (fun c_16 => ?_)
            · skip
              refine z_iinc (lv' := [(3, .int (iI (k + 1))), (4, .int (iI w_)), (1, .int (iI (q + (ak.2.2.length : Int)))), (2, .int (iI u)), (0, .ref m0)]) hx hb dX13_meanWordLength_55 hl (k := 2) rfl (by decide) rfl (fun ls hl => ?_)
              refine lv_goto (tgt := 6) hx hb dX13_meanWordLength_58 (by decide) ?_
              exact ih6 (q + (ak.2.2.length : Int)) u (k + 1)  (by omega) (by omega) (by omega) (by omega) (by rw [show (k + 1).toNat = k.toNat + 1 by omega, zwn_s hak, ← hi6_3]) (by rw [show (k + 1).toNat = k.toNat + 1 by omega, zlt_s hak, ← hi6_4, hi28_2, List.take_of_length_le (by rw [zlens_l]; omega)])  _ _ hZ ls (lv_sub hl [0, 3, 2, 4] rfl)
            · skip
              obtain ⟨wk, hwk⟩ : ∃ wd, ak.2.2[w_.toNat]? = some wd := ⟨_, List.getElem?_eq_getElem (by omega)⟩
              have hwl := (hkk.2.2.2 wk (List.mem_of_getElem? hwk)).1
              have hlk := (hrk.2.2.2 _ _ hwk).1
              rw [Int.toNat_of_nonneg (by omega), Int.toNat_of_nonneg (by omega)] at hlk
              refine lv_iload_n hx hb dX13_meanWordLength_39 rfl (lv_at hl 3 rfl) ?_
              refine lv_aload_n hx hb dX13_meanWordLength_40 rfl (lv_at hl 4 rfl) ?_
              refine lv_iload_n hx hb dX13_meanWordLength_41 rfl (lv_at hl 2 rfl) ?_
              refine lv_iload hx hb dX13_meanWordLength_42 (lv_at hl 0 rfl) ?_
              refine z_calli (z_runV (rest := [.int (iI u)]) (As := [.int (iI k), .int (iI w_)]) (n := 2) (ci := 16) hC hZ (met_X13_long1 l D cs A m0 ad v g k w_  hD hok (by omega) (by omega)) gv_X13_113 hd_X13_long1 rfl mW_o rfl hl rfl (Nat.le_of_ble_eq_true rfl) ⟨Nat.le_of_ble_eq_true rfl, Nat.le_of_ble_eq_true rfl⟩ ⟨Nat.le_of_ble_eq_true rfl, Nat.le_of_ble_eq_true rfl⟩ dX13_meanWordLength_44) hZ (fun r44 _ H locs hp_17 hZ => ?_)
              obtain ⟨_, _, rfl, _, rfl, rfl, rfl⟩ := hp_17
              have hr_18 : -2147483648 ≤ mof (g 0) k (3 + 13 * w_) ∧ mof (g 0) k (3 + 13 * w_) ≤ 2147483647 := hok.2 0 _
              refine z_top (y := (wk.length : Int)) hlk ?_
              refine z_iadd hx hb dX13_meanWordLength_47 ?_
              refine lv_istore_n (lv' := [(2, .int (iI (u + (wk.length : Int)))), (4, .int (iI w_)), (1, .int (iI (q + (ak.2.2.length : Int)))), (3, .int (iI k)), (0, .ref m0)]) hx hb dX13_meanWordLength_48 rfl hl (by decide) rfl (fun ls hl => ?_)
              refine z_iinc (lv' := [(4, .int (iI (w_ + 1))), (2, .int (iI (u + (wk.length : Int)))), (1, .int (iI (q + (ak.2.2.length : Int)))), (3, .int (iI k)), (0, .ref m0)]) hx hb dX13_meanWordLength_49 hl (k := 1) rfl (by decide) rfl (fun ls hl => ?_)
              refine lv_goto (tgt := 28) hx hb dX13_meanWordLength_52 (by decide) ?_
              exact ih28 (u + (wk.length : Int)) (w_ + 1)  (by omega) (by omega) (by omega) (by rw [show (w_ + 1).toNat = w_.toNat + 1 by omega, zls_s (zlens_at hwk)]; omega)  _ _ hZ ls (lv_sub hl [0, 2, 3, 1, 4] rfl)
        exact L28_k_13 _ t 0  (Nat.lt_succ_self _) (by omega) (by omega) (by simp)  _ _ hZ ls (lv_sub hl [0, 1, 2, 3, 4] rfl)
  exact L6_k_1 _ 0 0 0  (Nat.lt_succ_self _) (by omega) (by omega) (by omega) rfl rfl  _ _ hZ ls (lv_sub hl [0, 1, 2, 3] rfl)

set_option maxHeartbeats 4000000 in
set_option maxRecDepth 100000 in
theorem met_X13_meanFreshness (l : Launch) (D : va_G) (cs : Nat → ClassId) (A : Nat → Prop) (m0 : Nat) (ad : Nat → Nat) (v : Nat → Int) (g : Nat → Int → Int)   (N : Nat) (c0 : zCo) (hD : mD m0 ad) (hok : mOK v g) (hR : mR (g 0) c0) (hK : cOK N c0) (hN : N ≤ 1000) : zM l D cs A yX13_meanFreshness cX13_meanFreshness 3 (some FieldType.float) 4 0 0 [.ref m0] (mW cs m0 ad v g) (mPf cs m0 ad (fun r v1 g1 => mQf v g r v1 g1 (sMF c0))) := by
  refine zM_of (own := RX13) (by decide) rfl (Nat.le_of_ble_eq_true rfl) ?_
  intro p e s m below meth c hC hr hlk hnm hZ ls hl
  have hx := hC.x
  have hb := hC.b
  have hl : lv_has ls 3 [(0, .ref m0)] := hl
  have hm := mR_m hR hK
  have hdb := hK.2.2.2.2.2.2.2.2.2.2.2.1
  have hm7 := hR.2.2.2.2.2.2.2.1
  have hda := hR.2.2.2.2.2.1
  refine lv_fconst0 hx hb dX13_meanFreshness_0 ?_
  refine z_topf (y := zsf2 (cDa c0) ((cIs c0).take (0 : Int).toNat)) rfl ?_
  refine lv_fstore_n (lv' := [(1, .float (zsf2 (cDa c0) ((cIs c0).take (0 : Int).toNat))), (0, .ref m0)]) hx hb dX13_meanFreshness_1 rfl hl (by decide) rfl (fun ls hl => ?_)
  refine z_iconst hx hb dX13_meanFreshness_2 ?_
  refine lv_istore_n (lv' := [(2, .int (iI 0)), (1, .float (zsf2 (cDa c0) ((cIs c0).take (0 : Int).toNat))), (0, .ref m0)]) hx hb dX13_meanFreshness_3 rfl hl (by decide) rfl (fun ls hl => ?_)
  have L4_k_1 : ∀ (fu : Nat) (k : Int)  (hfu : (g 0 7 - k).toNat < fu) (hi4_0 : 0 ≤ k ∧ k ≤ g 0 7) (hi4_1 : fP (zsf2 (cDa c0) ((cIs c0).take k.toNat))) (H : Heap) (locs : List Loc) (hZ : zS D A s (mW cs m0 ad v g) H locs) (ls : Array Slot) (hl : lv_has ls 3 [(2, .int (iI k)), (1, .float (zsf2 (cDa c0) ((cIs c0).take k.toNat))), (0, .ref m0)]), W p l e (zR 4 0 0) s m [.ref m0].toArray below meth c H locs 0 0 (MQ below (zQ D A (mPf cs m0 ad (fun r v1 g1 => mQf v g r v1 g1 (sMF c0)))) [.ref m0].toArray s 0 0 A) (F0 m 4 ls []) := by
    intro fu
    induction fu with
    | zero =>
      intro k  hfu
      exact absurd hfu (Nat.not_lt_zero _)
    | succ fu ih4 =>
      intro k  hfu hi4_0 hi4_1  H locs hZ ls hl
      refine lv_iload_n hx hb dX13_meanFreshness_4 rfl (lv_at hl 0 rfl) ?_
      refine lv_aload_n hx hb dX13_meanFreshness_5 rfl (lv_at hl 2 rfl) ?_
      refine m_get hC hZ 0 (x := .ref (ad 0)) rfl (by decide) ql_X13_9 rfl dX13_meanFreshness_6 ?_
      refine z_bipush hx hb dX13_meanFreshness_9 (by decide) ?_
      refine m_iald hC hZ hD 0 (by decide) (f := g 0) rfl rfl (by decide) (by decide) dX13_meanFreshness_11 ?_
      have hr_2 : -2147483648 ≤ (g 0) 7 ∧ (g 0) 7 ≤ 2147483647 := hok.2 0 _
      refine z_icmp_ge (tgt := 29) hx hb dX13_meanFreshness_12 (by decide) (by omega) (by omega) (fun c_3 => ?_) (fun c_3 => ?_)
      · skip
        have hall : (cIs c0).take k.toNat = cIs c0 := List.take_of_length_le (by omega)
        refine lv_aload_n hx hb dX13_meanFreshness_29 rfl (lv_at hl 2 rfl) ?_
        refine lv_aload_n hx hb dX13_meanFreshness_30 rfl (lv_at hl 2 rfl) ?_
        refine m_get hC hZ 0 (x := .ref (ad 0)) rfl (by decide) ql_X13_9 rfl dX13_meanFreshness_31 ?_
        refine z_bipush hx hb dX13_meanFreshness_34 (by decide) ?_
        refine m_iald hC hZ hD 0 (by decide) (f := g 0) rfl rfl (by decide) (by decide) dX13_meanFreshness_36 ?_
        have hr_4 : -2147483648 ≤ (g 0) 7 ∧ (g 0) 7 ≤ 2147483647 := hok.2 0 _
        refine z_if_le (tgt := 44) hx hb dX13_meanFreshness_37 (by decide) (by omega) (fun c_5 => ?_) (fun c_5 => ?_)
        · skip
          have hem : cIs c0 = [] := List.eq_nil_of_length_eq_zero (by omega)
          refine z_iconst hx hb dX13_meanFreshness_44 ?_
          refine z_calli (z_runV (rest := []) (As := [.int (iI 0)]) (n := 1) (ci := 16) hC hZ (met_X13_isThere l D cs A m0 ad v g 0  hD hok (by decide)) gv_X13_126 hd_X13_isThere rfl mW_o rfl hl rfl (Nat.le_of_ble_eq_true rfl) ⟨Nat.le_of_ble_eq_true rfl, Nat.le_of_ble_eq_true rfl⟩ ⟨Nat.le_of_ble_eq_true rfl, Nat.le_of_ble_eq_true rfl⟩ dX13_meanFreshness_45) hZ (fun r45 _ H locs hp_6 hZ => ?_)
          obtain ⟨_, _, rfl, hok_7, rfl, rfl, rfl⟩ := hp_6
          refine z_if_eq (tgt := 64) hx hb dX13_meanFreshness_48 (by decide) (by decide) (fun c_8 => ?_) (fun c_8 => ?_)
          · skip
            refine lv_fconst0 hx hb dX13_meanFreshness_64 ?_
            exact z_fret hC hr hlk hZ (by decide) (by decide) (⟨_, _, rfl, hok_7, mQf_of (t := 1) (by unfold sMF; rw [if_pos hem]) rfl rfl (fun q => absurd q (by decide))⟩) dX13_meanFreshness_65
          · skip
            exfalso; omega
        · skip
          have hne : cIs c0 ≠ [] := fun z => by rw [z] at hm7; simp at hm7; omega
          have hfb := i2f_ok (z := g 0 7) (by omega)
          refine z_iconst hx hb dX13_meanFreshness_40 ?_
          refine lv_goto (tgt := 45) hx hb dX13_meanFreshness_41 (by decide) ?_
          refine z_calli (z_runV (rest := []) (As := [.int (iI 1)]) (n := 1) (ci := 16) hC hZ (met_X13_isThere l D cs A m0 ad v g 1  hD hok (by decide)) gv_X13_126 hd_X13_isThere rfl mW_o rfl hl rfl (Nat.le_of_ble_eq_true rfl) ⟨Nat.le_of_ble_eq_true rfl, Nat.le_of_ble_eq_true rfl⟩ ⟨Nat.le_of_ble_eq_true rfl, Nat.le_of_ble_eq_true rfl⟩ dX13_meanFreshness_45) hZ (fun r45 _ H locs hp_9 hZ => ?_)
          obtain ⟨_, _, rfl, hok_10, rfl, rfl, rfl⟩ := hp_9
          refine z_if_eq (tgt := 64) hx hb dX13_meanFreshness_48 (by decide) (by decide) (fun c_11 => ?_) (fun c_11 => ?_)
          · skip
            exfalso; omega
          · skip
            refine lv_fload_n hx hb dX13_meanFreshness_51 rfl (lv_at hl 1 rfl) ?_
            refine lv_aload_n hx hb dX13_meanFreshness_52 rfl (lv_at hl 2 rfl) ?_
            refine m_get hC hZ 0 (x := .ref (ad 0)) rfl (by decide) ql_X13_9 rfl dX13_meanFreshness_53 ?_
            refine z_bipush hx hb dX13_meanFreshness_56 (by decide) ?_
            refine m_iald hC hZ hD 0 (by decide) (f := g 0) rfl rfl (by decide) (by decide) dX13_meanFreshness_58 ?_
            have hr_12 : -2147483648 ≤ (g 0) 7 ∧ (g 0) 7 ≤ 2147483647 := hok_10.2 0 _
            refine lv_i2f hx hb dX13_meanFreshness_59 ?_
            refine lv_fdiv hx hb dX13_meanFreshness_60 (vf_of (fP_div hi4_1 (hfb.2 (by omega)))) ?_
            refine lv_goto (tgt := 65) hx hb dX13_meanFreshness_61 (by decide) ?_
            exact z_fret hC hr hlk hZ (by decide) (by decide) (⟨_, _, rfl, hok_10, mQf_of (t := 0) (by unfold sMF; rw [if_neg hne]) rfl rfl (fun _ => by rw [hall, hm7])⟩) dX13_meanFreshness_65
      · skip
        obtain ⟨a0, hi⟩ : ∃ a, (cIs c0)[k.toNat]? = some a := ⟨_, List.getElem?_eq_getElem (by omega)⟩
        have hra := hR.2.2.2.2.2.2.2.2.2.2 _ _ hi
        have hra1 := hra.2.1
        have hka := hK.2.2.2.2.1 a0 (List.mem_of_getElem? hi)
        have hpr := hka.2.2.2.2.2.2.2
        rw [Int.toNat_of_nonneg (by omega)] at hra1
        have hag : 0 ≤ g 0 5 - moi (g 0) k 1 ∧ g 0 5 - moi (g 0) k 1 ≤ 2000000 := by omega
        have hfa := fP_add hi4_1 (zfr_P (g 0 5 - moi (g 0) k 1).toNat)
        have hnx : FP.fadd (zsf2 (cDa c0) ((cIs c0).take k.toNat)) (zfr (g 0 5 - moi (g 0) k 1).toNat) = zsf2 (cDa c0) ((cIs c0).take (k + 1).toNat) := by
          rw [show (k + 1).toNat = k.toNat + 1 by omega, zsf2_s hi, show (g 0 5 - moi (g 0) k 1).toNat = (cDa c0 - iPr a0).toNat by omega]
        have hfs := hfa
        rw [hnx] at hfs
        refine lv_fload_n hx hb dX13_meanFreshness_15 rfl (lv_at hl 1 rfl) ?_
        refine lv_aload_n hx hb dX13_meanFreshness_16 rfl (lv_at hl 2 rfl) ?_
        refine lv_iload_n hx hb dX13_meanFreshness_17 rfl (lv_at hl 0 rfl) ?_
        refine z_callf (z_runV (rest := [.float (zsf2 (cDa c0) ((cIs c0).take k.toNat))]) (As := [.int (iI k)]) (n := 1) (ci := 16) hC hZ (met_X13_fresh l D cs A m0 ad v g k  hD hok (by omega) hag) gv_X13_210 hd_X13_fresh rfl mW_o rfl hl rfl (Nat.le_of_ble_eq_true rfl) ⟨Nat.le_of_ble_eq_true rfl, Nat.le_of_ble_eq_true rfl⟩ ⟨Nat.le_of_ble_eq_true rfl, Nat.le_of_ble_eq_true rfl⟩ dX13_meanFreshness_18) hZ (fun r18 _ H locs hp_13 hZ => ?_)
        obtain ⟨_, _, rfl, _, rfl, rfl, rfl⟩ := hp_13
        refine lv_fadd hx hb dX13_meanFreshness_21 (vf_of hfa) ?_
        refine z_topf (y := zsf2 (cDa c0) ((cIs c0).take (k + 1).toNat)) hnx ?_
        refine lv_fstore_n (lv' := [(1, .float (zsf2 (cDa c0) ((cIs c0).take (k + 1).toNat))), (2, .int (iI k)), (0, .ref m0)]) hx hb dX13_meanFreshness_22 rfl hl (by decide) rfl (fun ls hl => ?_)
        refine z_iinc (lv' := [(2, .int (iI (k + 1))), (1, .float (zsf2 (cDa c0) ((cIs c0).take (k + 1).toNat))), (0, .ref m0)]) hx hb dX13_meanFreshness_23 hl (k := 1) rfl (by decide) rfl (fun ls hl => ?_)
        refine lv_goto (tgt := 4) hx hb dX13_meanFreshness_26 (by decide) ?_
        exact ih4 (k + 1)  (by omega) (by omega) hfs  _ _ hZ ls (lv_sub hl [0, 1, 2] rfl)
  exact L4_k_1 _ 0  (Nat.lt_succ_self _) (by omega) (by show (FP.fconst0).toNat ≤ 2139095040; decide)  _ _ hZ ls (lv_sub hl [0, 1, 2] rfl)

