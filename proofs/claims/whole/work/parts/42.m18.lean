set_option maxHeartbeats 4000000 in
set_option maxRecDepth 100000 in
theorem met_X13_doRemoveArticle (l : Launch) (D : va_G) (cs : Nat → ClassId) (A : Nat → Prop) (m0 : Nat) (ad : Nat → Nat) (v : Nat → Int) (g : Nat → Int → Int) (x : Int)  (N : Nat) (c0 : zCo) (hD : mD m0 ad) (hok : mOK v g) (hR : mR (g 0) c0) (hK : cOK N c0) (hx0 : InR x) : zM l D cs A yX13_doRemoveArticle cX13_doRemoveArticle 4 (some FieldType.int) 3 0 0 [.ref m0, .int (iI x)] (mW cs m0 ad v g) (mP cs m0 ad (fun r v1 g1 => mDo v g r v1 g1 (sRem c0 x) v)) := by
  refine zM_of (own := RX13) (by decide) rfl (Nat.le_of_ble_eq_true rfl) ?_
  intro p e s m below meth c hC hr hlk hnm hZ ls hl
  have hx := hC.x
  have hb := hC.b
  have hl : lv_has ls 4 [(0, .ref m0), (1, .int (iI x))] := hl
  have hn := mR_n hR hK
  have hn0 := hR.1
  refine lv_aload_n hx hb dX13_doRemoveArticle_0 rfl (lv_at hl 0 rfl) ?_
  refine lv_iload_n hx hb dX13_doRemoveArticle_1 rfl (lv_at hl 1 rfl) ?_
  refine z_calli (z_runV (rest := []) (As := [.int (iI x)]) (n := 1) (ci := 16) hC hZ (met_X13_placeOf l D cs A m0 ad v g x  hD hok (by omega) hn) gv_X13_103 hd_X13_placeOf rfl mW_o rfl hl rfl (Nat.le_of_ble_eq_true rfl) ⟨Nat.le_of_ble_eq_true rfl, Nat.le_of_ble_eq_true rfl⟩ ⟨Nat.le_of_ble_eq_true rfl, Nat.le_of_ble_eq_true rfl⟩ dX13_doRemoveArticle_2) hZ (fun r2 _ H locs hp_1 hZ => ?_)
  obtain ⟨_, _, rfl, _, rfl, rfl, hp_1⟩ := hp_1
  rcases mPl_fa hR hK hp_1 with ⟨hz, hzi, er⟩ | ⟨i0, a0, hz, hzi, er, hi, hid, hib, hra, hka⟩
  · skip
    subst er
    refine lv_istore_n (lv' := [(2, .int (iI (-1))), (0, .ref m0), (1, .int (iI x))]) hx hb dX13_doRemoveArticle_5 rfl hl (by decide) rfl (fun ls hl => ?_)
    refine lv_iload_n hx hb dX13_doRemoveArticle_6 rfl (lv_at hl 0 rfl) ?_
    refine z_if_ge (tgt := 16) hx hb dX13_doRemoveArticle_7 (by decide) (by decide) (fun c_2 => ?_) (fun c_2 => ?_)
    · skip
      exfalso; omega
    · skip
      refine lv_aload_n hx hb dX13_doRemoveArticle_10 rfl (lv_at hl 1 rfl) ?_
      refine z_iconst hx hb dX13_doRemoveArticle_11 ?_
      refine z_calli (z_runV (rest := []) (As := [.int (iI 1)]) (n := 1) (ci := 16) hC hZ (met_X13_fails l D cs A m0 ad v g 1  hD hok (by decide)) gv_X13_82 hd_X13_fails rfl mW_o rfl hl rfl (Nat.le_of_ble_eq_true rfl) ⟨Nat.le_of_ble_eq_true rfl, Nat.le_of_ble_eq_true rfl⟩ ⟨Nat.le_of_ble_eq_true rfl, Nat.le_of_ble_eq_true rfl⟩ dX13_doRemoveArticle_12) hZ (fun r12 _ H locs hp_3 hZ => ?_)
      obtain ⟨_, _, rfl, hok_4, rfl, rfl, rfl⟩ := hp_3
      exact z_iret hC hr hlk hZ (by decide) (by decide) (⟨_, _, rfl, hok_4, by rw [show sRem c0 x = (1, c0, 0) by unfold sRem; rw [hzi]]; exact Or.inl ⟨(by decide : (1 : Int) ≠ 0), rfl, rfl, rfl⟩⟩) dX13_doRemoveArticle_15
  · skip
    subst er
    have hil := (List.getElem?_eq_some_iff.mp hi).1
    refine lv_istore_n (lv' := [(2, .int (iI (i0 : Int))), (0, .ref m0), (1, .int (iI x))]) hx hb dX13_doRemoveArticle_5 rfl hl (by decide) rfl (fun ls hl => ?_)
    refine lv_iload_n hx hb dX13_doRemoveArticle_6 rfl (lv_at hl 0 rfl) ?_
    refine z_if_ge (tgt := 16) hx hb dX13_doRemoveArticle_7 (by decide) (by omega) (fun c_5 => ?_) (fun c_5 => ?_)
    · skip
      refine lv_aload_n hx hb dX13_doRemoveArticle_16 rfl (lv_at hl 1 rfl) ?_
      refine m_get hC hZ 0 (x := .ref (ad 0)) rfl (by decide) ql_X13_9 rfl dX13_doRemoveArticle_17 ?_
      refine z_iconst hx hb dX13_doRemoveArticle_20 ?_
      refine lv_dup2_11 hx hb dX13_doRemoveArticle_21 rfl rfl ?_
      refine m_iald hC hZ hD 0 (by decide) (f := g 0) rfl rfl (by decide) (by decide) dX13_doRemoveArticle_22 ?_
      have hr_6 : -2147483648 ≤ (g 0) 0 ∧ (g 0) 0 ≤ 2147483647 := hok.2 0 _
      refine z_iconst hx hb dX13_doRemoveArticle_23 ?_
      refine z_isub hx hb dX13_doRemoveArticle_24 ?_
      refine m_iast hC hZ hD 0 (by decide) (f := g 0) rfl rfl (by decide) (by decide) dX13_doRemoveArticle_25 (fun H locs hZ => ?_)
      have hok_7 := hok.g (k := 0) (i := 0) (x := (((g 0) 0) - 1)) (f := g 0) rfl (by omega)
      refine z_bipush hx hb dX13_doRemoveArticle_26 (by decide) ?_
      refine z_sipush hx hb dX13_doRemoveArticle_28 (by decide) ?_
      refine lv_iload_n hx hb dX13_doRemoveArticle_31 rfl (lv_at hl 0 rfl) ?_
      refine z_imul hx hb dX13_doRemoveArticle_32 ?_
      refine z_iadd hx hb dX13_doRemoveArticle_33 ?_
      refine lv_istore_n (lv' := [(3, .int (iI (9 + (393 * (i0 : Int))))), (2, .int (iI (i0 : Int))), (0, .ref m0), (1, .int (iI x))]) hx hb dX13_doRemoveArticle_34 rfl hl (by decide) rfl (fun ls hl => ?_)
      refine lv_aload_n hx hb dX13_doRemoveArticle_35 rfl (lv_at hl 2 rfl) ?_
      refine m_get hC hZ 0 (x := .ref (ad 0)) rfl (by decide) ql_X13_9 rfl dX13_doRemoveArticle_36 ?_
      refine lv_iload_n hx hb dX13_doRemoveArticle_39 rfl (lv_at hl 0 rfl) ?_
      refine z_sipush hx hb dX13_doRemoveArticle_40 (by decide) ?_
      refine z_iadd hx hb dX13_doRemoveArticle_43 ?_
      refine lv_aload_n hx hb dX13_doRemoveArticle_44 rfl (lv_at hl 2 rfl) ?_
      refine m_get hC hZ 0 (x := .ref (ad 0)) rfl (by decide) ql_X13_9 rfl dX13_doRemoveArticle_45 ?_
      refine lv_iload_n hx hb dX13_doRemoveArticle_48 rfl (lv_at hl 0 rfl) ?_
      refine z_sipush hx hb dX13_doRemoveArticle_49 (by decide) ?_
      refine lv_aload_n hx hb dX13_doRemoveArticle_52 rfl (lv_at hl 2 rfl) ?_
      refine m_get hC hZ 0 (x := .ref (ad 0)) rfl (by decide) ql_X13_9 rfl dX13_doRemoveArticle_53 ?_
      refine z_iconst hx hb dX13_doRemoveArticle_56 ?_
      refine m_iald hC hZ hD 0 (by decide) (f := upI (g 0) 0 (((g 0) 0) - 1)) rfl rfl (by decide) (by decide) dX13_doRemoveArticle_57 ?_
      have hr_8 : -2147483648 ≤ (upI (g 0) 0 (((g 0) 0) - 1)) 0 ∧ (upI (g 0) 0 (((g 0) 0) - 1)) 0 ≤ 2147483647 := (hok_7.2 0 0)
      refine z_top (y := g 0 0 - 1) upI_s ?_
      refine lv_iload_n hx hb dX13_doRemoveArticle_58 rfl (lv_at hl 1 rfl) ?_
      refine z_isub hx hb dX13_doRemoveArticle_59 ?_
      refine z_imul hx hb dX13_doRemoveArticle_60 ?_
      refine m_copy (rest := []) hC hZ hD 0 0 1 1 (f1 := upI (g 0) 0 (((g 0) 0) - 1)) (f2 := upI (g 0) 0 (((g 0) 0) - 1)) hl rfl rfl rfl (by show _ ∧ _ ≤ (2439 : Int); omega) (by show _ ∧ _ ≤ (2439 : Int); omega) (by omega) (by decide) (by decide) (Nat.le_of_ble_eq_true rfl) (by decide) qm_X13_58 qv_J10_arraycopy_1e247 qt_J10_arraycopy_1e247 qn_J10 dX13_doRemoveArticle_61 (fun H locs hZ => ?_)
      have hok_9 := hok_7.gf (k := 0) (f := cpI (upI (g 0) 0 (((g 0) 0) - 1)) (upI (g 0) 0 (((g 0) 0) - 1)) ((9 + (393 * (i0 : Int))) + 393) (9 + (393 * (i0 : Int))) (393 * ((g 0 0 - 1) - (i0 : Int)))) (InR.cp (f := upI (g 0) 0 (((g 0) 0) - 1)) (g := upI (g 0) 0 (((g 0) 0) - 1)) (hok_7.2 0) (hok_7.2 0))
      refine lv_aload_n hx hb dX13_doRemoveArticle_64 rfl (lv_at hl 2 rfl) ?_
      refine m_get hC hZ 0 (x := .ref (ad 0)) rfl (by decide) ql_X13_9 rfl dX13_doRemoveArticle_65 ?_
      refine z_iconst hx hb dX13_doRemoveArticle_68 ?_
      refine m_iald hC hZ hD 0 (by decide) (f := cpI (upI (g 0) 0 (((g 0) 0) - 1)) (upI (g 0) 0 (((g 0) 0) - 1)) ((9 + (393 * (i0 : Int))) + 393) (9 + (393 * (i0 : Int))) (393 * ((g 0 0 - 1) - (i0 : Int)))) rfl rfl (by decide) (by decide) dX13_doRemoveArticle_69 ?_
      have hr_10 : -2147483648 ≤ (cpI (upI (g 0) 0 (((g 0) 0) - 1)) (upI (g 0) 0 (((g 0) 0) - 1)) ((9 + (393 * (i0 : Int))) + 393) (9 + (393 * (i0 : Int))) (393 * ((g 0 0 - 1) - (i0 : Int)))) 0 ∧ (cpI (upI (g 0) 0 (((g 0) 0) - 1)) (upI (g 0) 0 (((g 0) 0) - 1)) ((9 + (393 * (i0 : Int))) + 393) (9 + (393 * (i0 : Int))) (393 * ((g 0 0 - 1) - (i0 : Int)))) 0 ≤ 2147483647 := (hok_9.2 0 0)
      exact z_iret hC hr hlk hZ (by decide) (by decide) (⟨_, _, rfl, hok_9, by
          rw [show sRem c0 x = (0, cRem c0 i0, ((cAr c0).length : Int) - 1) by unfold sRem; rw [hzi]]
          refine Or.inr ⟨rfl, fun _ _ => rfl, fun j h0 _ _ _ => by rw [upG_n h0, upG_n h0], ?_, ?_⟩
          · rw [upG_s]
            refine mR_rem hR hK hil ?_ (fun k z1 z2 => ?_) (fun k z1 z2 => ?_) (fun k z1 => ?_)
            · rw [cpI_out (by omega), upI_s]
            · rw [cpI_out (by omega), upI_n (by omega)]
            · rw [cpI_in (by omega), upI_n (by omega)]; congr 1; omega
            · rw [cpI_out (by omega), upI_n (by omega)]
          · rw [cpI_out (by omega), upI_s]; show ((cAr c0).length : Int) - 1 = _; omega⟩) dX13_doRemoveArticle_70
    · skip
      exfalso; omega

set_option maxHeartbeats 4000000 in
set_option maxRecDepth 100000 in
theorem met_X13_removeArticle (l : Launch) (D : va_G) (cs : Nat → ClassId) (A : Nat → Prop) (m0 : Nat) (ad : Nat → Nat) (v : Nat → Int) (g : Nat → Int → Int) (x : Int) (hs : List zCo) (N : Nat) (c0 : zCo) (hD : mD m0 ad) (hok : mOK v g) (hR : mR (g 0) c0) (hK : cOK N c0) (hx0 : InR x) (hH : mHi v g hs) (hHK : ∀ h ∈ hs, cOK N h) (hRA : (sRem c0 x).1 = 0 → InR (sRem c0 x).2.2) : zM l D cs A yX13_removeArticle cX13_removeArticle 2 (some FieldType.int) 4 0 0 [.ref m0, .int (iI x)] (mW cs m0 ad v g) (mP cs m0 ad (fun r v1 g1 => mTop v g r v1 g1 c0 hs (sRem c0 x) ((upN v 6 0)))) := by
  refine zM_of (own := RX13) (by decide) rfl (Nat.le_of_ble_eq_true rfl) ?_
  intro p e s m below meth c hC hr hlk hnm hZ ls hl
  have hx := hC.x
  have hb := hC.b
  have hl : lv_has ls 2 [(0, .ref m0), (1, .int (iI x))] := hl
  refine lv_aload_n hx hb dX13_removeArticle_0 rfl (lv_at hl 0 rfl) ?_
  refine z_callv (z_runV (rest := []) (As := []) (n := 0) (ci := 16) hC hZ (met_X13_keep l D cs A m0 ad v g   hD hok ) gv_X13_94 hd_X13_keep rfl mW_o rfl hl rfl (Nat.le_of_ble_eq_true rfl) ⟨Nat.le_of_ble_eq_true rfl, Nat.le_of_ble_eq_true rfl⟩ ⟨Nat.le_of_ble_eq_true rfl, Nat.le_of_ble_eq_true rfl⟩ dX13_removeArticle_1) hZ (fun _ H locs hp_1 hZ => ?_)
  obtain ⟨_, _, rfl, hok_2, rfl, rfl⟩ := hp_1
  refine lv_aload_n hx hb dX13_removeArticle_4 rfl (lv_at hl 0 rfl) ?_
  refine lv_aload_n hx hb dX13_removeArticle_5 rfl (lv_at hl 0 rfl) ?_
  refine lv_iload_n hx hb dX13_removeArticle_6 rfl (lv_at hl 1 rfl) ?_
  refine z_calli (z_runV (rest := [.ref m0]) (As := [.int (iI x)]) (n := 1) (ci := 16) hC hZ (met_X13_doRemoveArticle l D cs A m0 ad (upN v 6 0) (upG g 1 (cpI (g 0) (g 1) 0 0 2439)) x  N c0 hD hok_2 hR hK hx0) gv_X13_106 hd_X13_doRemoveArticle rfl mW_o rfl hl rfl (Nat.le_of_ble_eq_true rfl) ⟨Nat.le_of_ble_eq_true rfl, Nat.le_of_ble_eq_true rfl⟩ ⟨Nat.le_of_ble_eq_true rfl, Nat.le_of_ble_eq_true rfl⟩ dX13_removeArticle_7) hZ (fun r7 _ H locs hp_3 hZ => ?_)
  obtain ⟨v_5, g_6, rfl, hok_4, hdo⟩ := hp_3
  have h5b : 0 ≤ v_5 5 ∧ v_5 5 ≤ 8 := by
    have hh1 := hH.1
    have hh2 := hH.2.1
    rcases hdo with ⟨-, hh, -, -⟩ | ⟨-, hh, -, -⟩
    · rw [← hh, upN_n (by decide), upN_n (by decide)]; omega
    · rw [hh 5 (by decide)]; show 0 ≤ v 5 ∧ v 5 ≤ 8; omega
  have hrr : InR r7 := by
    rcases hdo with ⟨-, -, -, hh⟩ | ⟨hq0, -, -, -, hh⟩
    · rw [← hh]; decide
    · rw [← hh]; exact hRA hq0
  refine z_calli (z_runV (rest := []) (As := [.int (iI r7)]) (n := 1) (ci := 16) hC hZ (met_X13_ends l D cs A m0 ad v_5 g_6 r7  hD hok_4 hrr h5b) gv_X13_100 hd_X13_ends rfl mW_o rfl hl rfl (Nat.le_of_ble_eq_true rfl) ⟨Nat.le_of_ble_eq_true rfl, Nat.le_of_ble_eq_true rfl⟩ ⟨Nat.le_of_ble_eq_true rfl, Nat.le_of_ble_eq_true rfl⟩ dX13_removeArticle_10) hZ (fun r10 _ H locs hp_7 hZ => ?_)
  obtain ⟨v_9, g_10, rfl, hok_8, hen⟩ := hp_7
  exact z_iret hC hr hlk hZ (by decide) (by decide) (⟨_, _, rfl, hok_8, mTop_of hR hK hH hHK (sRem_p _ _) hdo rfl rfl hen⟩) dX13_removeArticle_13

set_option maxHeartbeats 4000000 in
set_option maxRecDepth 100000 in
theorem met_X13_doCorrect (l : Launch) (D : va_G) (cs : Nat → ClassId) (A : Nat → Prop) (m0 : Nat) (ad : Nat → Nat) (v : Nat → Int) (g : Nat → Int → Int) (x b : Int) (tx : List Int) (N : Nat) (c0 : zCo) (hD : mD m0 ad) (hok : mOK v g) (hR : mR (g 0) c0) (hK : cOK N c0) (hx0 : InR x) (hb0 : InR b) (ht : mT v g tx) (htl : tx.length ≤ 60) (hNi : N ≤ 100000) : zM l D cs A yX13_doCorrect cX13_doCorrect 7 (some FieldType.int) 3 0 0 [.ref m0, .int (iI x), .int (iI b)] (mW cs m0 ad v g) (mP cs m0 ad (fun r v1 g1 => mDo v g r v1 g1 (sCor c0 x b tx) (upN v 8 0))) := by
  refine zM_of (own := RX13) (by decide) rfl (Nat.le_of_ble_eq_true rfl) ?_
  intro p e s m below meth c hC hr hlk hnm hZ ls hl
  have hx := hC.x
  have hb := hC.b
  have hl : lv_has ls 7 [(0, .ref m0), (1, .int (iI x)), (2, .int (iI b))] := hl
  have hn := mR_n hR hK
  have hn0 := hR.1
  have h8 := ht.1
  have hm := mR_m hR hK
  have hm7 := hR.2.2.2.2.2.2.2.1
  have hg6 := hR.2.2.2.2.2.2.1
  have hla := hK.2.2.2.2.2.2.2.2.2.2.2.2
  refine lv_aload_n hx hb dX13_doCorrect_0 rfl (lv_at hl 0 rfl) ?_
  refine lv_iload_n hx hb dX13_doCorrect_1 rfl (lv_at hl 1 rfl) ?_
  refine z_calli (z_runV (rest := []) (As := [.int (iI x)]) (n := 1) (ci := 16) hC hZ (met_X13_placeOf l D cs A m0 ad v g x  hD hok (by omega) hn) gv_X13_103 hd_X13_placeOf rfl mW_o rfl hl rfl (Nat.le_of_ble_eq_true rfl) ⟨Nat.le_of_ble_eq_true rfl, Nat.le_of_ble_eq_true rfl⟩ ⟨Nat.le_of_ble_eq_true rfl, Nat.le_of_ble_eq_true rfl⟩ dX13_doCorrect_2) hZ (fun r2 _ H locs hp_1 hZ => ?_)
  obtain ⟨_, _, rfl, _, rfl, rfl, hp_1⟩ := hp_1
  rcases mPl_fa hR hK hp_1 with ⟨hz, hzi, er⟩ | ⟨i0, a0, hz, hzi, er, hi, hid, hib, hra, hka⟩
  · skip
    subst er
    refine lv_istore_n (lv' := [(3, .int (iI (-1))), (0, .ref m0), (1, .int (iI x)), (2, .int (iI b))]) hx hb dX13_doCorrect_5 rfl hl (by decide) rfl (fun ls hl => ?_)
    refine lv_iload_n hx hb dX13_doCorrect_6 rfl (lv_at hl 0 rfl) ?_
    refine z_if_ge (tgt := 16) hx hb dX13_doCorrect_7 (by decide) (by decide) (fun c_2 => ?_) (fun c_2 => ?_)
    · skip
      exfalso; omega
    · skip
      refine lv_aload_n hx hb dX13_doCorrect_10 rfl (lv_at hl 1 rfl) ?_
      refine z_iconst hx hb dX13_doCorrect_11 ?_
      refine z_calli (z_runV (rest := []) (As := [.int (iI 1)]) (n := 1) (ci := 16) hC hZ (met_X13_fails l D cs A m0 ad v g 1  hD hok (by decide)) gv_X13_82 hd_X13_fails rfl mW_o rfl hl rfl (Nat.le_of_ble_eq_true rfl) ⟨Nat.le_of_ble_eq_true rfl, Nat.le_of_ble_eq_true rfl⟩ ⟨Nat.le_of_ble_eq_true rfl, Nat.le_of_ble_eq_true rfl⟩ dX13_doCorrect_12) hZ (fun r12 _ H locs hp_3 hZ => ?_)
      obtain ⟨_, _, rfl, hok_4, rfl, rfl, rfl⟩ := hp_3
      exact z_iret hC hr hlk hZ (by decide) (by decide) (⟨_, _, rfl, hok_4, by rw [show sCor c0 x b tx = (1, c0, 0) by unfold sCor; rw [hzi]]; exact Or.inl ⟨(by decide : (1 : Int) ≠ 0), rfl, rfl, rfl⟩⟩) dX13_doCorrect_15
  · skip
    subst er
    have hil := (List.getElem?_eq_some_iff.mp hi).1
    have hra2 := hra.2.2.1
    refine lv_istore_n (lv' := [(3, .int (iI (i0 : Int))), (0, .ref m0), (1, .int (iI x)), (2, .int (iI b))]) hx hb dX13_doCorrect_5 rfl hl (by decide) rfl (fun ls hl => ?_)
    refine lv_iload_n hx hb dX13_doCorrect_6 rfl (lv_at hl 0 rfl) ?_
    refine z_if_ge (tgt := 16) hx hb dX13_doCorrect_7 (by decide) (by omega) (fun c_5 => ?_) (fun c_5 => ?_)
    · skip
      refine lv_aload_n hx hb dX13_doCorrect_16 rfl (lv_at hl 1 rfl) ?_
      refine lv_iload_n hx hb dX13_doCorrect_17 rfl (lv_at hl 0 rfl) ?_
      refine lv_iload_n hx hb dX13_doCorrect_18 rfl (lv_at hl 3 rfl) ?_
      refine z_calli (z_runV (rest := []) (As := [.int (iI (i0 : Int)), .int (iI b)]) (n := 2) (ci := 16) hC hZ (met_X13_isWord l D cs A m0 ad v g (i0 : Int) b  hD hok (by omega) (by omega) (by omega)) gv_X13_109 hd_X13_isWord rfl mW_o rfl hl rfl (Nat.le_of_ble_eq_true rfl) ⟨Nat.le_of_ble_eq_true rfl, Nat.le_of_ble_eq_true rfl⟩ ⟨Nat.le_of_ble_eq_true rfl, Nat.le_of_ble_eq_true rfl⟩ dX13_doCorrect_19) hZ (fun r19 _ H locs hp_6 hZ => ?_)
      obtain ⟨_, _, rfl, _, rfl, rfl, hp_6⟩ := hp_6
      have hiw := hp_6
      refine z_if_ne (tgt := 31) hx hb dX13_doCorrect_22 (by decide) (by omega) (fun c_7 => ?_) (fun c_7 => ?_)
      · skip
        obtain ⟨wd, hzw, hwd, hln, hw29, hlt⟩ := rAr_wd hra hka (w := b) (by omega) (by omega)
        have hwn : b.toNat < a0.2.2.length := by omega
        refine lv_aload_n hx hb dX13_doCorrect_31 rfl (lv_at hl 1 rfl) ?_
        refine z_calli (z_runV (rest := []) (As := []) (n := 0) (ci := 16) hC hZ (met_X13_words l D cs A m0 ad v g  tx hD hok ht htl) gv_X13_86 hd_X13_words rfl mW_o rfl hl rfl (Nat.le_of_ble_eq_true rfl) ⟨Nat.le_of_ble_eq_true rfl, Nat.le_of_ble_eq_true rfl⟩ ⟨Nat.le_of_ble_eq_true rfl, Nat.le_of_ble_eq_true rfl⟩ dX13_doCorrect_32) hZ (fun r32 _ H locs hp_8 hZ => ?_)
        obtain ⟨_, _, rfl, _, rfl, rfl, hp_8⟩ := hp_8
        have hwo := hp_8
        have hr32 : 0 ≤ r32 ∧ r32 ≤ 30 := by
          rcases hwo with ⟨z1, z2⟩ | ⟨z1, z2⟩
          · have := zat_30 z1 htl
            omega
          · omega
        refine z_iconst hx hb dX13_doCorrect_35 ?_
        refine z_icmp_eq (tgt := 45) hx hb dX13_doCorrect_36 (by decide) (by omega) (by decide) (fun c_9 => ?_) (fun c_9 => ?_)
        · skip
          have hz : zat tx := by
            rcases hwo with h | h
            · exact h.1
            · omega
          have hz1 : (zsp tx).length = 1 := by
            rcases hwo with h | h
            · omega
            · exact absurd hz h.1
          have hyes : zatB tx = true ∧ (zsp tx).length = 1 := ⟨(zatB_iff tx).mpr hz, hz1⟩
          obtain ⟨w0, hw0⟩ : ∃ w0, (zsp tx)[0]? = some w0 := ⟨_, List.getElem?_eq_getElem (by omega)⟩
          have hwd0 : (zsp tx).headD [] = w0 := by
            cases hzz : zsp tx with
            | nil => rw [hzz] at hz1; cases hz1
            | cons y l => rw [hzz] at hw0; exact Option.some.inj hw0
          have hwl := hz w0 (List.mem_of_getElem? hw0)
          unfold zwl at hwl
          have hend0 := ((zsp_ok tx).2 0 w0 hw0).2.2.2 (by omega)
          rw [show zpos (zsp tx) 0 = 0 from rfl] at hend0
          have hrun : ∀ e, (0 : Int) ≤ e → e ≤ v 8 → (∀ k, (0 : Int) ≤ k → k < e → g 7 k ≠ 32) → e - 0 ≤ 12 := fun e z1 z2 z3 => by
            have := zsp_run ht hw0 z2 (fun k y1 y2 => z3 k (by omega) y2)
            rw [show zpos (zsp tx) 0 = 0 from rfl] at this
            omega
          refine lv_aload_n hx hb dX13_doCorrect_45 rfl (lv_at hl 1 rfl) ?_
          refine lv_iload_n hx hb dX13_doCorrect_46 rfl (lv_at hl 0 rfl) ?_
          refine lv_iload_n hx hb dX13_doCorrect_47 rfl (lv_at hl 3 rfl) ?_
          refine z_calli (z_runV (rest := []) (As := [.int (iI (i0 : Int)), .int (iI b)]) (n := 2) (ci := 16) hC hZ (met_X13_long1 l D cs A m0 ad v g (i0 : Int) b  hD hok (by omega) (by omega)) gv_X13_113 hd_X13_long1 rfl mW_o rfl hl rfl (Nat.le_of_ble_eq_true rfl) ⟨Nat.le_of_ble_eq_true rfl, Nat.le_of_ble_eq_true rfl⟩ ⟨Nat.le_of_ble_eq_true rfl, Nat.le_of_ble_eq_true rfl⟩ dX13_doCorrect_48) hZ (fun r48 _ H locs hp_10 hZ => ?_)
          obtain ⟨_, _, rfl, _, rfl, rfl, rfl⟩ := hp_10
          have hr_11 : -2147483648 ≤ mof (g 0) (i0 : Int) (3 + 13 * b) ∧ mof (g 0) (i0 : Int) (3 + 13 * b) ≤ 2147483647 := hok.2 0 _
          refine z_top (y := (wd.length : Int)) hln ?_
          refine lv_istore (lv' := [(4, .int (iI (wd.length : Int))), (3, .int (iI (i0 : Int))), (0, .ref m0), (1, .int (iI x)), (2, .int (iI b))]) hx hb dX13_doCorrect_51 hl (by decide) rfl (fun ls hl => ?_)
          refine z_iconst hx hb dX13_doCorrect_53 ?_
          refine lv_istore (lv' := [(5, .int (iI 0)), (4, .int (iI (wd.length : Int))), (3, .int (iI (i0 : Int))), (0, .ref m0), (1, .int (iI x)), (2, .int (iI b))]) hx hb dX13_doCorrect_54 hl (by decide) rfl (fun ls hl => ?_)
          refine z_iconst hx hb dX13_doCorrect_56 ?_
          refine lv_istore (lv' := [(6, .int (iI 0)), (5, .int (iI 0)), (4, .int (iI (wd.length : Int))), (3, .int (iI (i0 : Int))), (0, .ref m0), (1, .int (iI x)), (2, .int (iI b))]) hx hb dX13_doCorrect_57 hl (by decide) rfl (fun ls hl => ?_)
          have L59_k_12 : ∀ (fu : Nat) (q i : Int)  (hfu : (g 0 7 - i).toNat < fu) (hi59_0 : 0 ≤ i ∧ i ≤ g 0 7) (hi59_1 : (q = 1 ∧ ((cIs c0).take i.toNat).any (fun s => (zft s x).isSome) = true) ∨ (q = 0 ∧ ((cIs c0).take i.toNat).any (fun s => (zft s x).isSome) = false)) (H : Heap) (locs : List Loc) (hZ : zS D A s (mW cs m0 ad v g) H locs) (ls : Array Slot) (hl : lv_has ls 7 [(6, .int (iI i)), (5, .int (iI q)), (4, .int (iI (wd.length : Int))), (3, .int (iI (i0 : Int))), (0, .ref m0), (1, .int (iI x)), (2, .int (iI b))]), W p l e (zR 3 0 0) s m [.ref m0, .int (iI x), .int (iI b)].toArray below meth c H locs 0 0 (MQ below (zQ D A (mP cs m0 ad (fun r v1 g1 => mDo v g r v1 g1 (sCor c0 x b tx) (upN v 8 0)))) [.ref m0, .int (iI x), .int (iI b)].toArray s 0 0 A) (F0 m 59 ls []) := by
            intro fu
            induction fu with
            | zero =>
              intro q i  hfu
              exact absurd hfu (Nat.not_lt_zero _)
            | succ fu ih59 =>
              intro q i  hfu hi59_0 hi59_1  H locs hZ ls hl
              refine lv_iload hx hb dX13_doCorrect_59 (lv_at hl 0 rfl) ?_
              refine lv_aload_n hx hb dX13_doCorrect_61 rfl (lv_at hl 4 rfl) ?_
              refine m_get hC hZ 0 (x := .ref (ad 0)) rfl (by decide) ql_X13_9 rfl dX13_doCorrect_62 ?_
              refine z_bipush hx hb dX13_doCorrect_65 (by decide) ?_
              refine m_iald hC hZ hD 0 (by decide) (f := g 0) rfl rfl (by decide) (by decide) dX13_doCorrect_67 ?_
              have hr_13 : -2147483648 ≤ (g 0) 7 ∧ (g 0) 7 ≤ 2147483647 := hok.2 0 _
              refine z_icmp_ge (tgt := 99) hx hb dX13_doCorrect_68 (by decide) (by omega) (by omega) (fun c_14 => ?_) (fun c_14 => ?_)
              · skip
                have hlt0 : ((cIs c0).take i.toNat).any (fun s => (zft s x).isSome) = zlate c0 x := by
                  unfold zlate
                  rw [List.take_of_length_le (by omega)]
                refine lv_aload_n hx hb dX13_doCorrect_99 rfl (lv_at hl 4 rfl) ?_
                refine lv_iload_n hx hb dX13_doCorrect_100 rfl (lv_at hl 3 rfl) ?_
                refine lv_iload_n hx hb dX13_doCorrect_101 rfl (lv_at hl 6 rfl) ?_
                refine z_iconst hx hb dX13_doCorrect_102 ?_
                refine z_calli (z_runV (rest := []) (As := [.int (iI (i0 : Int)), .int (iI b), .int (iI 0)]) (n := 3) (ci := 16) hC hZ (met_X13_takes l D cs A m0 ad v g (i0 : Int) b 0  hD hok (by omega) (by omega) (by omega) (by omega) hrun) gv_X13_90 hd_X13_takes rfl mW_o rfl hl rfl (Nat.le_of_ble_eq_true rfl) ⟨Nat.le_of_ble_eq_true rfl, Nat.le_of_ble_eq_true rfl⟩ ⟨Nat.le_of_ble_eq_true rfl, Nat.le_of_ble_eq_true rfl⟩ dX13_doCorrect_103) hZ (fun r103 _ H locs hp_15 hZ => ?_)
                obtain ⟨_, g_17, rfl, hok_16, hkb, hkc, hke, rfl, hkg, hkn, hkl, hkf⟩ := hp_15
                have hrr : r103 = w0.length := by
                  have := zsp_end (r := r103) ht hw0 (by rw [show zpos (zsp tx) 0 = 0 from rfl]; omega) (by omega) (fun k y1 y2 => hkc k (by rw [show zpos (zsp tx) 0 = 0 from rfl] at y1; omega) y2) hke
                  rw [show zpos (zsp tx) 0 = 0 from rfl] at this
                  omega
                have hk6 := hkf 6 (by omega)
                refine lv_istore (lv' := [(6, .int (iI r103)), (5, .int (iI q)), (4, .int (iI (wd.length : Int))), (3, .int (iI (i0 : Int))), (0, .ref m0), (1, .int (iI x)), (2, .int (iI b))]) hx hb dX13_doCorrect_106 hl (by decide) rfl (fun ls hl => ?_)
                refine lv_aload_n hx hb dX13_doCorrect_108 rfl (lv_at hl 4 rfl) ?_
                refine m_get hC hZ 0 (x := .ref (ad 0)) rfl (by decide) ql_X13_9 rfl dX13_doCorrect_109 ?_
                refine z_bipush hx hb dX13_doCorrect_112 (by decide) ?_
                refine lv_dup2_11 hx hb dX13_doCorrect_114 rfl rfl ?_
                refine m_iald hC hZ hD 0 (by decide) (f := g_17 0) rfl rfl (by decide) (by decide) dX13_doCorrect_115 ?_
                have hr_18 : -2147483648 ≤ (g_17 0) 6 ∧ (g_17 0) 6 ≤ 2147483647 := hok_16.2 0 _
                refine lv_iload hx hb dX13_doCorrect_116 (lv_at hl 1 rfl) ?_
                refine z_if_eq (tgt := 125) hx hb dX13_doCorrect_118 (by decide) (by omega) (fun c_19 => ?_) (fun c_19 => ?_)
                · skip
                  refine z_iconst hx hb dX13_doCorrect_125 ?_
                  refine z_iadd hx hb dX13_doCorrect_126 ?_
                  refine m_iast hC hZ hD 0 (by decide) (f := g_17 0) rfl rfl (by decide) (by decide) dX13_doCorrect_127 (fun H locs hZ => ?_)
                  have hok_20 := hok_16.g (k := 0) (i := 6) (x := (((g_17 0) 6) + 0)) (f := g_17 0) rfl (by omega)
                  refine lv_aload_n hx hb dX13_doCorrect_128 rfl (lv_at hl 4 rfl) ?_
                  refine lv_dup hx hb dX13_doCorrect_129 rfl ?_
                  refine m_get hC hZ 8 (x := .int (iI (v 8))) rfl (by decide) ql_X13_75 rfl dX13_doCorrect_130 ?_
                  have hr_21 : -2147483648 ≤ v 8 ∧ v 8 ≤ 2147483647 := hok_20.1 8
                  refine lv_iload hx hb dX13_doCorrect_133 (lv_at hl 0 rfl) ?_
                  refine z_isub hx hb dX13_doCorrect_135 ?_
                  refine m_put hC hZ 8 (ty := .int) (by decide) ql_X13_75 rfl rfl rfl (Or.inl rfl) rfl dX13_doCorrect_136 (fun H locs hZ => ?_)
                  have hok_22 := hok_20.v (k := 8) (x := (v 8) - r103) (by omega)
                  refine lv_iload hx hb dX13_doCorrect_139 (lv_at hl 2 rfl) ?_
                  exact z_iret hC hr hlk hZ (by decide) (by decide) (⟨_, _, rfl, hok_22, by
                      rw [show sCor c0 x b tx = (0, cCor c0 i0 a0 b.toNat ((zsp tx).headD []) (zlate c0 x), (wd.length : Int)) by unfold sCor; rw [hzi]; simp only []; rw [hi]; simp only []; rw [hzw]; simp only []; rw [if_pos hyes]]
                      refine Or.inr ⟨rfl, fun k _ => by rw [show v 8 - r103 = 0 by omega], fun j h0 _ _ _ => by rw [upG_n h0]; exact hkg j h0, ?_, rfl⟩
                      rw [upG_s]
                      refine mR_cor hR hK hi hwn (by rw [hwd0]; omega) ?_ (fun k z1 z2 => ?_) ?_ (fun k y hy => ?_)
                      · rw [upI_s, hk6]; congr 1
                        rcases hi59_1 with ⟨z1, z2⟩ | ⟨z1, z2⟩ <;> rw [hlt0] at z2 <;> rw [z2] <;> first | rfl | (exfalso; omega)
                      · rw [upI_n z1]; exact hkf k (by omega)
                      · rw [hwd0]; unfold mof at hkn ⊢; rw [upI_n (by omega), show (b.toNat : Int) = b by omega, hkn]; omega
                      · rw [hwd0] at hy
                        have hkl2 := (List.getElem?_eq_some_iff.mp hy).1
                        have h5 := hkl k (by omega) (by omega)
                        unfold mof at h5 ⊢
                        rw [upI_n (by omega), show (b.toNat : Int) = b by omega, h5]
                        have h6 := zsp_in ht hw0 hy
                        rw [show zpos (zsp tx) 0 = 0 from rfl] at h6
                        exact h6⟩) dX13_doCorrect_141
                · skip
                  refine z_iconst hx hb dX13_doCorrect_121 ?_
                  refine lv_goto (tgt := 126) hx hb dX13_doCorrect_122 (by decide) ?_
                  refine z_iadd hx hb dX13_doCorrect_126 ?_
                  refine m_iast hC hZ hD 0 (by decide) (f := g_17 0) rfl rfl (by decide) (by decide) dX13_doCorrect_127 (fun H locs hZ => ?_)
                  have hok_23 := hok_16.g (k := 0) (i := 6) (x := (((g_17 0) 6) + 1)) (f := g_17 0) rfl (by omega)
                  refine lv_aload_n hx hb dX13_doCorrect_128 rfl (lv_at hl 4 rfl) ?_
                  refine lv_dup hx hb dX13_doCorrect_129 rfl ?_
                  refine m_get hC hZ 8 (x := .int (iI (v 8))) rfl (by decide) ql_X13_75 rfl dX13_doCorrect_130 ?_
                  have hr_24 : -2147483648 ≤ v 8 ∧ v 8 ≤ 2147483647 := hok_23.1 8
                  refine lv_iload hx hb dX13_doCorrect_133 (lv_at hl 0 rfl) ?_
                  refine z_isub hx hb dX13_doCorrect_135 ?_
                  refine m_put hC hZ 8 (ty := .int) (by decide) ql_X13_75 rfl rfl rfl (Or.inl rfl) rfl dX13_doCorrect_136 (fun H locs hZ => ?_)
                  have hok_25 := hok_23.v (k := 8) (x := (v 8) - r103) (by omega)
                  refine lv_iload hx hb dX13_doCorrect_139 (lv_at hl 2 rfl) ?_
                  exact z_iret hC hr hlk hZ (by decide) (by decide) (⟨_, _, rfl, hok_25, by
                      rw [show sCor c0 x b tx = (0, cCor c0 i0 a0 b.toNat ((zsp tx).headD []) (zlate c0 x), (wd.length : Int)) by unfold sCor; rw [hzi]; simp only []; rw [hi]; simp only []; rw [hzw]; simp only []; rw [if_pos hyes]]
                      refine Or.inr ⟨rfl, fun k _ => by rw [show v 8 - r103 = 0 by omega], fun j h0 _ _ _ => by rw [upG_n h0]; exact hkg j h0, ?_, rfl⟩
                      rw [upG_s]
                      refine mR_cor hR hK hi hwn (by rw [hwd0]; omega) ?_ (fun k z1 z2 => ?_) ?_ (fun k y hy => ?_)
                      · rw [upI_s, hk6]; congr 1
                        rcases hi59_1 with ⟨z1, z2⟩ | ⟨z1, z2⟩ <;> rw [hlt0] at z2 <;> rw [z2] <;> first | rfl | (exfalso; omega)
                      · rw [upI_n z1]; exact hkf k (by omega)
                      · rw [hwd0]; unfold mof at hkn ⊢; rw [upI_n (by omega), show (b.toNat : Int) = b by omega, hkn]; omega
                      · rw [hwd0] at hy
                        have hkl2 := (List.getElem?_eq_some_iff.mp hy).1
                        have h5 := hkl k (by omega) (by omega)
                        unfold mof at h5 ⊢
                        rw [upI_n (by omega), show (b.toNat : Int) = b by omega, h5]
                        have h6 := zsp_in ht hw0 hy
                        rw [show zpos (zsp tx) 0 = 0 from rfl] at h6
                        exact h6⟩) dX13_doCorrect_141
              · skip
                obtain ⟨si, hsi⟩ : ∃ s, (cIs c0)[i.toNat]? = some s := ⟨_, List.getElem?_eq_getElem (by omega)⟩
                have hri := hR.2.2.2.2.2.2.2.2.2.2 _ _ hsi
                have hki := hK.2.2.2.2.1 si (List.mem_of_getElem? hsi)
                have hri5 := hri.2.2.2.2.2.1
                have hki6 := hki.2.2.2.2.1
                rw [Int.toNat_of_nonneg (by omega)] at hri5
                refine lv_iload hx hb dX13_doCorrect_71 (lv_at hl 1 rfl) ?_
                refine z_if_ne (tgt := 86) hx hb dX13_doCorrect_73 (by decide) (by omega) (fun c_26 => ?_) (fun c_26 => ?_)
                · skip
                  refine z_iconst hx hb dX13_doCorrect_86 ?_
                  refine lv_goto (tgt := 91) hx hb dX13_doCorrect_87 (by decide) ?_
                  refine lv_istore (lv' := [(5, .int (iI 1)), (6, .int (iI i)), (4, .int (iI (wd.length : Int))), (3, .int (iI (i0 : Int))), (0, .ref m0), (1, .int (iI x)), (2, .int (iI b))]) hx hb dX13_doCorrect_91 hl (by decide) rfl (fun ls hl => ?_)
                  refine z_iinc (lv' := [(6, .int (iI (i + 1))), (5, .int (iI 1)), (4, .int (iI (wd.length : Int))), (3, .int (iI (i0 : Int))), (0, .ref m0), (1, .int (iI x)), (2, .int (iI b))]) hx hb dX13_doCorrect_93 hl (k := 1) rfl (by decide) rfl (fun ls hl => ?_)
                  refine lv_goto (tgt := 59) hx hb dX13_doCorrect_96 (by decide) ?_
                  exact ih59 1 (i + 1)  (by omega) (by omega) (by rw [show (i + 1).toNat = i.toNat + 1 by omega, late_s hsi]; rcases hi59_1 with ⟨z1, z2⟩ | ⟨z1, z2⟩ <;> rw [z2] <;> first | (left; exact ⟨rfl, rfl⟩) | (exfalso; omega) | (rcases mFl_zft hri hki hfl with ⟨y1, y2⟩ | ⟨y1, y2, y3⟩ <;> rw [y1] <;> first | (left; exact ⟨rfl, rfl⟩) | (right; exact ⟨rfl, rfl⟩) | (exfalso; omega)))  _ _ hZ ls (lv_sub hl [0, 1, 2, 3, 4, 5, 6] rfl)
                · skip
                  refine lv_aload_n hx hb dX13_doCorrect_76 rfl (lv_at hl 4 rfl) ?_
                  refine lv_iload hx hb dX13_doCorrect_77 (lv_at hl 0 rfl) ?_
                  refine lv_iload_n hx hb dX13_doCorrect_79 rfl (lv_at hl 5 rfl) ?_
                  refine z_calli (z_runV (rest := []) (As := [.int (iI i), .int (iI x)]) (n := 2) (ci := 16) hC hZ (met_X13_firstLine l D cs A m0 ad v g i x  hD hok (by omega) (by omega) (by omega)) gv_X13_116 hd_X13_firstLine rfl mW_o rfl hl rfl (Nat.le_of_ble_eq_true rfl) ⟨Nat.le_of_ble_eq_true rfl, Nat.le_of_ble_eq_true rfl⟩ ⟨Nat.le_of_ble_eq_true rfl, Nat.le_of_ble_eq_true rfl⟩ dX13_doCorrect_80) hZ (fun r80 _ H locs hp_27 hZ => ?_)
                  obtain ⟨_, _, rfl, _, rfl, rfl, hp_27⟩ := hp_27
                  have hfl := hp_27
                  have hr80 : InR r80 := by
                    rcases hfl with ⟨z, -⟩ | ⟨kk, -, -, -, z⟩
                    · rw [z]; decide
                    · rw [z]; exact hok.2 0 _
                  rw [show i = (i.toNat : Int) by omega] at hfl
                  refine z_if_lt (tgt := 90) hx hb dX13_doCorrect_83 (by decide) (by omega) (fun c_28 => ?_) (fun c_28 => ?_)
                  · skip
                    refine z_iconst hx hb dX13_doCorrect_90 ?_
                    refine lv_istore (lv' := [(5, .int (iI 0)), (6, .int (iI i)), (4, .int (iI (wd.length : Int))), (3, .int (iI (i0 : Int))), (0, .ref m0), (1, .int (iI x)), (2, .int (iI b))]) hx hb dX13_doCorrect_91 hl (by decide) rfl (fun ls hl => ?_)
                    refine z_iinc (lv' := [(6, .int (iI (i + 1))), (5, .int (iI 0)), (4, .int (iI (wd.length : Int))), (3, .int (iI (i0 : Int))), (0, .ref m0), (1, .int (iI x)), (2, .int (iI b))]) hx hb dX13_doCorrect_93 hl (k := 1) rfl (by decide) rfl (fun ls hl => ?_)
                    refine lv_goto (tgt := 59) hx hb dX13_doCorrect_96 (by decide) ?_
                    exact ih59 0 (i + 1)  (by omega) (by omega) (by rw [show (i + 1).toNat = i.toNat + 1 by omega, late_s hsi]; rcases hi59_1 with ⟨z1, z2⟩ | ⟨z1, z2⟩ <;> rw [z2] <;> first | (left; exact ⟨rfl, rfl⟩) | (exfalso; omega) | (rcases mFl_zft hri hki hfl with ⟨y1, y2⟩ | ⟨y1, y2, y3⟩ <;> rw [y1] <;> first | (left; exact ⟨rfl, rfl⟩) | (right; exact ⟨rfl, rfl⟩) | (exfalso; omega)))  _ _ hZ ls (lv_sub hl [0, 1, 2, 3, 4, 5, 6] rfl)
                  · skip
                    refine z_iconst hx hb dX13_doCorrect_86 ?_
                    refine lv_goto (tgt := 91) hx hb dX13_doCorrect_87 (by decide) ?_
                    refine lv_istore (lv' := [(5, .int (iI 1)), (6, .int (iI i)), (4, .int (iI (wd.length : Int))), (3, .int (iI (i0 : Int))), (0, .ref m0), (1, .int (iI x)), (2, .int (iI b))]) hx hb dX13_doCorrect_91 hl (by decide) rfl (fun ls hl => ?_)
                    refine z_iinc (lv' := [(6, .int (iI (i + 1))), (5, .int (iI 1)), (4, .int (iI (wd.length : Int))), (3, .int (iI (i0 : Int))), (0, .ref m0), (1, .int (iI x)), (2, .int (iI b))]) hx hb dX13_doCorrect_93 hl (k := 1) rfl (by decide) rfl (fun ls hl => ?_)
                    refine lv_goto (tgt := 59) hx hb dX13_doCorrect_96 (by decide) ?_
                    exact ih59 1 (i + 1)  (by omega) (by omega) (by rw [show (i + 1).toNat = i.toNat + 1 by omega, late_s hsi]; rcases hi59_1 with ⟨z1, z2⟩ | ⟨z1, z2⟩ <;> rw [z2] <;> first | (left; exact ⟨rfl, rfl⟩) | (exfalso; omega) | (rcases mFl_zft hri hki hfl with ⟨y1, y2⟩ | ⟨y1, y2, y3⟩ <;> rw [y1] <;> first | (left; exact ⟨rfl, rfl⟩) | (right; exact ⟨rfl, rfl⟩) | (exfalso; omega)))  _ _ hZ ls (lv_sub hl [0, 1, 2, 3, 4, 5, 6] rfl)
          exact L59_k_12 _ 0 0  (Nat.lt_succ_self _) (by omega) (Or.inr ⟨rfl, rfl⟩)  _ _ hZ ls (lv_sub hl [0, 1, 2, 3, 4, 5, 6] rfl)
        · skip
          have hno : ¬ (zatB tx = true ∧ (zsp tx).length = 1) := by
            rintro ⟨z1, z2⟩
            rcases hwo with h | h
            · omega
            · exact h.1 ((zatB_iff tx).mp z1)
          refine lv_aload_n hx hb dX13_doCorrect_39 rfl (lv_at hl 1 rfl) ?_
          refine z_iconst hx hb dX13_doCorrect_40 ?_
          refine z_calli (z_runV (rest := []) (As := [.int (iI 3)]) (n := 1) (ci := 16) hC hZ (met_X13_fails l D cs A m0 ad v g 3  hD hok (by decide)) gv_X13_82 hd_X13_fails rfl mW_o rfl hl rfl (Nat.le_of_ble_eq_true rfl) ⟨Nat.le_of_ble_eq_true rfl, Nat.le_of_ble_eq_true rfl⟩ ⟨Nat.le_of_ble_eq_true rfl, Nat.le_of_ble_eq_true rfl⟩ dX13_doCorrect_41) hZ (fun r41 _ H locs hp_29 hZ => ?_)
          obtain ⟨_, _, rfl, hok_30, rfl, rfl, rfl⟩ := hp_29
          exact z_iret hC hr hlk hZ (by decide) (by decide) (⟨_, _, rfl, hok_30, by rw [show sCor c0 x b tx = (3, c0, 0) by unfold sCor; rw [hzi]; simp only []; rw [hi]; simp only []; rw [hzw]; simp only []; rw [if_neg hno]]; exact Or.inl ⟨(by decide : (3 : Int) ≠ 0), rfl, rfl, rfl⟩⟩) dX13_doCorrect_44
      · skip
        have hzn : zwd a0 b = none := by
          unfold zwd
          split
          · exact List.getElem?_eq_none (by omega)
          · rfl
        refine lv_aload_n hx hb dX13_doCorrect_25 rfl (lv_at hl 1 rfl) ?_
        refine z_iconst hx hb dX13_doCorrect_26 ?_
        refine z_calli (z_runV (rest := []) (As := [.int (iI 2)]) (n := 1) (ci := 16) hC hZ (met_X13_fails l D cs A m0 ad v g 2  hD hok (by decide)) gv_X13_82 hd_X13_fails rfl mW_o rfl hl rfl (Nat.le_of_ble_eq_true rfl) ⟨Nat.le_of_ble_eq_true rfl, Nat.le_of_ble_eq_true rfl⟩ ⟨Nat.le_of_ble_eq_true rfl, Nat.le_of_ble_eq_true rfl⟩ dX13_doCorrect_27) hZ (fun r27 _ H locs hp_31 hZ => ?_)
        obtain ⟨_, _, rfl, hok_32, rfl, rfl, rfl⟩ := hp_31
        exact z_iret hC hr hlk hZ (by decide) (by decide) (⟨_, _, rfl, hok_32, by rw [show sCor c0 x b tx = (2, c0, 0) by unfold sCor; rw [hzi]; simp only []; rw [hi]; simp only []; rw [hzn]]; exact Or.inl ⟨(by decide : (2 : Int) ≠ 0), rfl, rfl, rfl⟩⟩) dX13_doCorrect_30
    · skip
      exfalso; omega

set_option maxHeartbeats 4000000 in
set_option maxRecDepth 100000 in
theorem met_X13_correct (l : Launch) (D : va_G) (cs : Nat → ClassId) (A : Nat → Prop) (m0 : Nat) (ad : Nat → Nat) (v : Nat → Int) (g : Nat → Int → Int) (x b : Int) (hs : List zCo) (tx : List Int) (N : Nat) (c0 : zCo) (hD : mD m0 ad) (hok : mOK v g) (hR : mR (g 0) c0) (hK : cOK N c0) (hx0 : InR x) (hb0 : InR b) (ht : mT v g tx) (htl : tx.length ≤ 60) (hNi : N ≤ 100000) (hH : mHi v g hs) (hHK : ∀ h ∈ hs, cOK N h) (hRA : (sCor c0 x b tx).1 = 0 → InR (sCor c0 x b tx).2.2) : zM l D cs A yX13_correct cX13_correct 3 (some FieldType.int) 4 0 0 [.ref m0, .int (iI x), .int (iI b)] (mW cs m0 ad v g) (mP cs m0 ad (fun r v1 g1 => mTop v g r v1 g1 c0 hs (sCor c0 x b tx) (upN (upN v 6 0) 8 0))) := by
  refine zM_of (own := RX13) (by decide) rfl (Nat.le_of_ble_eq_true rfl) ?_
  intro p e s m below meth c hC hr hlk hnm hZ ls hl
  have hx := hC.x
  have hb := hC.b
  have hl : lv_has ls 3 [(0, .ref m0), (1, .int (iI x)), (2, .int (iI b))] := hl
  refine lv_aload_n hx hb dX13_correct_0 rfl (lv_at hl 0 rfl) ?_
  refine z_callv (z_runV (rest := []) (As := []) (n := 0) (ci := 16) hC hZ (met_X13_keep l D cs A m0 ad v g   hD hok ) gv_X13_94 hd_X13_keep rfl mW_o rfl hl rfl (Nat.le_of_ble_eq_true rfl) ⟨Nat.le_of_ble_eq_true rfl, Nat.le_of_ble_eq_true rfl⟩ ⟨Nat.le_of_ble_eq_true rfl, Nat.le_of_ble_eq_true rfl⟩ dX13_correct_1) hZ (fun _ H locs hp_1 hZ => ?_)
  obtain ⟨_, _, rfl, hok_2, rfl, rfl⟩ := hp_1
  refine lv_aload_n hx hb dX13_correct_4 rfl (lv_at hl 0 rfl) ?_
  refine lv_aload_n hx hb dX13_correct_5 rfl (lv_at hl 0 rfl) ?_
  refine lv_iload_n hx hb dX13_correct_6 rfl (lv_at hl 1 rfl) ?_
  refine lv_iload_n hx hb dX13_correct_7 rfl (lv_at hl 2 rfl) ?_
  refine z_calli (z_runV (rest := [.ref m0]) (As := [.int (iI x), .int (iI b)]) (n := 2) (ci := 16) hC hZ (met_X13_doCorrect l D cs A m0 ad (upN v 6 0) (upG g 1 (cpI (g 0) (g 1) 0 0 2439)) x b tx N c0 hD hok_2 hR hK hx0 hb0 ht htl hNi) gv_X13_119 hd_X13_doCorrect rfl mW_o rfl hl rfl (Nat.le_of_ble_eq_true rfl) ⟨Nat.le_of_ble_eq_true rfl, Nat.le_of_ble_eq_true rfl⟩ ⟨Nat.le_of_ble_eq_true rfl, Nat.le_of_ble_eq_true rfl⟩ dX13_correct_8) hZ (fun r8 _ H locs hp_3 hZ => ?_)
  obtain ⟨v_5, g_6, rfl, hok_4, hdo⟩ := hp_3
  have h5b : 0 ≤ v_5 5 ∧ v_5 5 ≤ 8 := by
    have hh1 := hH.1
    have hh2 := hH.2.1
    rcases hdo with ⟨-, hh, -, -⟩ | ⟨-, hh, -, -⟩
    · rw [← hh, upN_n (by decide), upN_n (by decide)]; omega
    · rw [hh 5 (by decide)]; show 0 ≤ v 5 ∧ v 5 ≤ 8; omega
  have hrr : InR r8 := by
    rcases hdo with ⟨-, -, -, hh⟩ | ⟨hq0, -, -, -, hh⟩
    · rw [← hh]; decide
    · rw [← hh]; exact hRA hq0
  refine z_calli (z_runV (rest := []) (As := [.int (iI r8)]) (n := 1) (ci := 16) hC hZ (met_X13_ends l D cs A m0 ad v_5 g_6 r8  hD hok_4 hrr h5b) gv_X13_100 hd_X13_ends rfl mW_o rfl hl rfl (Nat.le_of_ble_eq_true rfl) ⟨Nat.le_of_ble_eq_true rfl, Nat.le_of_ble_eq_true rfl⟩ ⟨Nat.le_of_ble_eq_true rfl, Nat.le_of_ble_eq_true rfl⟩ dX13_correct_11) hZ (fun r11 _ H locs hp_7 hZ => ?_)
  obtain ⟨v_9, g_10, rfl, hok_8, hen⟩ := hp_7
  exact z_iret hC hr hlk hZ (by decide) (by decide) (⟨_, _, rfl, hok_8, mTop_of hR hK hH hHK (sCor_p _ _ _ _) hdo rfl rfl hen⟩) dX13_correct_14

