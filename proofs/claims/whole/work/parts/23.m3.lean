theorem mA_of {v : Nat → Int} {g : Nat → Int → Int} {r : Int} {v1 : Nat → Int} {g1 : Nat → Int → Int} {q : Int × Int} {t y : Int} (h : q = (t, y)) (hv : upN v 6 t = v1) (hg : g = g1) (hr : t = 0 → r = y) : mA v g r v1 g1 q := by
  subst h; exact ⟨hv, hg, hr⟩
set_option maxHeartbeats 4000000 in
set_option maxRecDepth 100000 in
theorem met_X13_isPosition (l : Launch) (D : va_G) (cs : Nat → ClassId) (A : Nat → Prop) (m0 : Nat) (ad : Nat → Nat) (v : Nat → Int) (g : Nat → Int → Int) (x : Int)  (hD : mD m0 ad) (hok : mOK v g) (hx0 : InR x) (hn : 0 ≤ g 0 0 ∧ g 0 0 ≤ 6) : zM l D cs A yX13_isPosition cX13_isPosition 2 (some FieldType.boolean) 2 0 0 [.ref m0, .int (iI x)] (mW cs m0 ad v g) (mP cs m0 ad (fun r v1 g1 => v = v1 ∧ g = g1 ∧ (((0 ≤ x ∧ x ≤ g 0 0 - 1) ∧ r = 1) ∨ (¬ (0 ≤ x ∧ x ≤ g 0 0 - 1) ∧ r = 0)))) := by
  refine zM_of (own := RX13) (by decide) rfl (Nat.le_of_ble_eq_true rfl) ?_
  intro p e s m below meth c hC hr hlk hnm hZ ls hl
  have hx := hC.x
  have hb := hC.b
  have hl : lv_has ls 2 [(0, .ref m0), (1, .int (iI x))] := hl
  refine lv_iload_n hx hb dX13_isPosition_0 rfl (lv_at hl 1 rfl) ?_
  refine z_iconst hx hb dX13_isPosition_1 ?_
  refine lv_aload_n hx hb dX13_isPosition_2 rfl (lv_at hl 0 rfl) ?_
  refine m_get hC hZ 0 (x := .ref (ad 0)) rfl (by decide) ql_X13_9 rfl dX13_isPosition_3 ?_
  refine z_iconst hx hb dX13_isPosition_6 ?_
  refine m_iald hC hZ hD 0 (by decide) (f := g 0) rfl rfl (by decide) (by decide) dX13_isPosition_7 ?_
  have hr_1 : -2147483648 ≤ (g 0) 0 ∧ (g 0) 0 ≤ 2147483647 := hok.2 0 _
  refine z_iconst hx hb dX13_isPosition_8 ?_
  refine z_isub hx hb dX13_isPosition_9 ?_
  refine z_calli (z_runS (rest := []) (As := [.int (iI x), .int (iI 0), .int (iI (((g 0) 0) - 1))]) (n := 3) hC hZ (met_X13_in l D cs A (mW cs m0 ad v g) x 0 (((g 0) 0) - 1) (by omega) (by decide) (by omega)) gs_X13_71 he_X13_in rfl hl rfl (Nat.le_of_ble_eq_true rfl) ⟨Nat.le_of_ble_eq_true rfl, Nat.le_of_ble_eq_true rfl⟩ ⟨Nat.le_of_ble_eq_true rfl, Nat.le_of_ble_eq_true rfl⟩ dX13_isPosition_10) hZ (fun r10 _ H locs hp_2 hZ => ?_)
  obtain ⟨rfl, hp_2⟩ := hp_2
  exact z_zret hC hr hlk hZ (iI_zr (by omega)) (by decide) (by decide) (⟨_, _, rfl, ‹mOK v g›, rfl, rfl, hp_2⟩) dX13_isPosition_13

set_option maxHeartbeats 4000000 in
set_option maxRecDepth 100000 in
theorem met_X13_priority (l : Launch) (D : va_G) (cs : Nat → ClassId) (A : Nat → Prop) (m0 : Nat) (ad : Nat → Nat) (v : Nat → Int) (g : Nat → Int → Int) (x : Int)  (N : Nat) (c0 : zCo) (hD : mD m0 ad) (hok : mOK v g) (hR : mR (g 0) c0) (hK : cOK N c0) (hx0 : InR x) : zM l D cs A yX13_priority cX13_priority 3 (some FieldType.int) 3 0 0 [.ref m0, .int (iI x)] (mW cs m0 ad v g) (mP cs m0 ad (fun r v1 g1 => mA v g r v1 g1 (sPrio c0 x))) := by
  refine zM_of (own := RX13) (by decide) rfl (Nat.le_of_ble_eq_true rfl) ?_
  intro p e s m below meth c hC hr hlk hnm hZ ls hl
  have hx := hC.x
  have hb := hC.b
  have hl : lv_has ls 3 [(0, .ref m0), (1, .int (iI x))] := hl
  have hn := mR_n hR hK
  refine lv_aload_n hx hb dX13_priority_0 rfl (lv_at hl 0 rfl) ?_
  refine lv_iload_n hx hb dX13_priority_1 rfl (lv_at hl 1 rfl) ?_
  refine z_calli (z_runV (rest := []) (As := [.int (iI x)]) (n := 1) (ci := 16) hC hZ (met_X13_placeOf l D cs A m0 ad v g x  hD hok (by omega) hn) gv_X13_103 hd_X13_placeOf rfl mW_o rfl hl rfl (Nat.le_of_ble_eq_true rfl) ⟨Nat.le_of_ble_eq_true rfl, Nat.le_of_ble_eq_true rfl⟩ ⟨Nat.le_of_ble_eq_true rfl, Nat.le_of_ble_eq_true rfl⟩ dX13_priority_2) hZ (fun r2 _ H locs hp_1 hZ => ?_)
  obtain ⟨_, _, rfl, _, rfl, rfl, hp_1⟩ := hp_1
  rcases mPl_fa hR hK hp_1 with ⟨hz, hzi, er⟩ | ⟨i0, a0, hz, hzi, er, hi, hid, hib, hra, hka⟩
  · skip
    subst er
    refine lv_istore_n (lv' := [(2, .int (iI (-1))), (0, .ref m0), (1, .int (iI x))]) hx hb dX13_priority_5 rfl hl (by decide) rfl (fun ls hl => ?_)
    refine lv_aload_n hx hb dX13_priority_6 rfl (lv_at hl 1 rfl) ?_
    refine lv_iload_n hx hb dX13_priority_7 rfl (lv_at hl 0 rfl) ?_
    refine z_if_lt (tgt := 15) hx hb dX13_priority_8 (by decide) (by decide) (fun c_2 => ?_) (fun c_2 => ?_)
    · skip
      refine z_iconst hx hb dX13_priority_15 ?_
      refine z_calli (z_runV (rest := []) (As := [.int (iI 0)]) (n := 1) (ci := 16) hC hZ (met_X13_isThere l D cs A m0 ad v g 0  hD hok (by decide)) gv_X13_126 hd_X13_isThere rfl mW_o rfl hl rfl (Nat.le_of_ble_eq_true rfl) ⟨Nat.le_of_ble_eq_true rfl, Nat.le_of_ble_eq_true rfl⟩ ⟨Nat.le_of_ble_eq_true rfl, Nat.le_of_ble_eq_true rfl⟩ dX13_priority_16) hZ (fun r16 _ H locs hp_3 hZ => ?_)
      obtain ⟨_, _, rfl, hok_4, rfl, rfl, rfl⟩ := hp_3
      refine z_if_eq (tgt := 31) hx hb dX13_priority_19 (by decide) (by decide) (fun c_5 => ?_) (fun c_5 => ?_)
      · skip
        refine z_iconst hx hb dX13_priority_31 ?_
        exact z_iret hC hr hlk hZ (by decide) (by decide) (⟨_, _, rfl, hok_4, mA_of (t := 1) (y := 0) (by unfold sPrio; rw [hz]) rfl rfl (fun q => absurd q (by decide))⟩) dX13_priority_32
      · skip
        exfalso; omega
    · skip
      exfalso; omega
  · skip
    subst er
    obtain ⟨e0, e1, e2, e3⟩ := hra
    refine lv_istore_n (lv' := [(2, .int (iI (i0 : Int))), (0, .ref m0), (1, .int (iI x))]) hx hb dX13_priority_5 rfl hl (by decide) rfl (fun ls hl => ?_)
    refine lv_aload_n hx hb dX13_priority_6 rfl (lv_at hl 1 rfl) ?_
    refine lv_iload_n hx hb dX13_priority_7 rfl (lv_at hl 0 rfl) ?_
    refine z_if_lt (tgt := 15) hx hb dX13_priority_8 (by decide) (by omega) (fun c_6 => ?_) (fun c_6 => ?_)
    · skip
      exfalso; omega
    · skip
      refine z_iconst hx hb dX13_priority_11 ?_
      refine lv_goto (tgt := 16) hx hb dX13_priority_12 (by decide) ?_
      refine z_calli (z_runV (rest := []) (As := [.int (iI 1)]) (n := 1) (ci := 16) hC hZ (met_X13_isThere l D cs A m0 ad v g 1  hD hok (by decide)) gv_X13_126 hd_X13_isThere rfl mW_o rfl hl rfl (Nat.le_of_ble_eq_true rfl) ⟨Nat.le_of_ble_eq_true rfl, Nat.le_of_ble_eq_true rfl⟩ ⟨Nat.le_of_ble_eq_true rfl, Nat.le_of_ble_eq_true rfl⟩ dX13_priority_16) hZ (fun r16 _ H locs hp_7 hZ => ?_)
      obtain ⟨_, _, rfl, hok_8, rfl, rfl, rfl⟩ := hp_7
      refine z_if_eq (tgt := 31) hx hb dX13_priority_19 (by decide) (by decide) (fun c_9 => ?_) (fun c_9 => ?_)
      · skip
        exfalso; omega
      · skip
        refine lv_aload_n hx hb dX13_priority_22 rfl (lv_at hl 1 rfl) ?_
        refine lv_iload_n hx hb dX13_priority_23 rfl (lv_at hl 0 rfl) ?_
        refine z_iconst hx hb dX13_priority_24 ?_
        refine z_calli (z_runV (rest := []) (As := [.int (iI (i0 : Int)), .int (iI 1)]) (n := 2) (ci := 16) hC hZ (met_X13_of l D cs A m0 ad (upN v 6 (1 - 1)) g (i0 : Int) 1  hD hok_8 (by omega) (by omega)) gv_X13_67 hd_X13_of rfl mW_o rfl hl rfl (Nat.le_of_ble_eq_true rfl) ⟨Nat.le_of_ble_eq_true rfl, Nat.le_of_ble_eq_true rfl⟩ ⟨Nat.le_of_ble_eq_true rfl, Nat.le_of_ble_eq_true rfl⟩ dX13_priority_25) hZ (fun r25 _ H locs hp_10 hZ => ?_)
        obtain ⟨_, _, rfl, _, rfl, rfl, rfl⟩ := hp_10
        have hr_11 : -2147483648 ≤ mof (g 0) (i0 : Int) 1 ∧ mof (g 0) (i0 : Int) 1 ≤ 2147483647 := hok_8.2 0 _
        refine lv_goto (tgt := 32) hx hb dX13_priority_28 (by decide) ?_
        exact z_iret hC hr hlk hZ (by decide) (by decide) (⟨_, _, rfl, hok_8, mA_of (t := 0) (y := a0.2.1) (by unfold sPrio; rw [hz]) rfl rfl (fun _ => by omega)⟩) dX13_priority_32

set_option maxHeartbeats 4000000 in
set_option maxRecDepth 100000 in
theorem met_X13_wordCount (l : Launch) (D : va_G) (cs : Nat → ClassId) (A : Nat → Prop) (m0 : Nat) (ad : Nat → Nat) (v : Nat → Int) (g : Nat → Int → Int) (x : Int)  (N : Nat) (c0 : zCo) (hD : mD m0 ad) (hok : mOK v g) (hR : mR (g 0) c0) (hK : cOK N c0) (hx0 : InR x) : zM l D cs A yX13_wordCount cX13_wordCount 3 (some FieldType.int) 3 0 0 [.ref m0, .int (iI x)] (mW cs m0 ad v g) (mP cs m0 ad (fun r v1 g1 => mA v g r v1 g1 (sWcnt c0 x))) := by
  refine zM_of (own := RX13) (by decide) rfl (Nat.le_of_ble_eq_true rfl) ?_
  intro p e s m below meth c hC hr hlk hnm hZ ls hl
  have hx := hC.x
  have hb := hC.b
  have hl : lv_has ls 3 [(0, .ref m0), (1, .int (iI x))] := hl
  have hn := mR_n hR hK
  refine lv_aload_n hx hb dX13_wordCount_0 rfl (lv_at hl 0 rfl) ?_
  refine lv_iload_n hx hb dX13_wordCount_1 rfl (lv_at hl 1 rfl) ?_
  refine z_calli (z_runV (rest := []) (As := [.int (iI x)]) (n := 1) (ci := 16) hC hZ (met_X13_placeOf l D cs A m0 ad v g x  hD hok (by omega) hn) gv_X13_103 hd_X13_placeOf rfl mW_o rfl hl rfl (Nat.le_of_ble_eq_true rfl) ⟨Nat.le_of_ble_eq_true rfl, Nat.le_of_ble_eq_true rfl⟩ ⟨Nat.le_of_ble_eq_true rfl, Nat.le_of_ble_eq_true rfl⟩ dX13_wordCount_2) hZ (fun r2 _ H locs hp_1 hZ => ?_)
  obtain ⟨_, _, rfl, _, rfl, rfl, hp_1⟩ := hp_1
  rcases mPl_fa hR hK hp_1 with ⟨hz, hzi, er⟩ | ⟨i0, a0, hz, hzi, er, hi, hid, hib, hra, hka⟩
  · skip
    subst er
    refine lv_istore_n (lv' := [(2, .int (iI (-1))), (0, .ref m0), (1, .int (iI x))]) hx hb dX13_wordCount_5 rfl hl (by decide) rfl (fun ls hl => ?_)
    refine lv_aload_n hx hb dX13_wordCount_6 rfl (lv_at hl 1 rfl) ?_
    refine lv_iload_n hx hb dX13_wordCount_7 rfl (lv_at hl 0 rfl) ?_
    refine z_if_lt (tgt := 15) hx hb dX13_wordCount_8 (by decide) (by decide) (fun c_2 => ?_) (fun c_2 => ?_)
    · skip
      refine z_iconst hx hb dX13_wordCount_15 ?_
      refine z_calli (z_runV (rest := []) (As := [.int (iI 0)]) (n := 1) (ci := 16) hC hZ (met_X13_isThere l D cs A m0 ad v g 0  hD hok (by decide)) gv_X13_126 hd_X13_isThere rfl mW_o rfl hl rfl (Nat.le_of_ble_eq_true rfl) ⟨Nat.le_of_ble_eq_true rfl, Nat.le_of_ble_eq_true rfl⟩ ⟨Nat.le_of_ble_eq_true rfl, Nat.le_of_ble_eq_true rfl⟩ dX13_wordCount_16) hZ (fun r16 _ H locs hp_3 hZ => ?_)
      obtain ⟨_, _, rfl, hok_4, rfl, rfl, rfl⟩ := hp_3
      refine z_if_eq (tgt := 31) hx hb dX13_wordCount_19 (by decide) (by decide) (fun c_5 => ?_) (fun c_5 => ?_)
      · skip
        refine z_iconst hx hb dX13_wordCount_31 ?_
        exact z_iret hC hr hlk hZ (by decide) (by decide) (⟨_, _, rfl, hok_4, mA_of (t := 1) (y := 0) (by unfold sWcnt; rw [hz]) rfl rfl (fun q => absurd q (by decide))⟩) dX13_wordCount_32
      · skip
        exfalso; omega
    · skip
      exfalso; omega
  · skip
    subst er
    obtain ⟨e0, e1, e2, e3⟩ := hra
    refine lv_istore_n (lv' := [(2, .int (iI (i0 : Int))), (0, .ref m0), (1, .int (iI x))]) hx hb dX13_wordCount_5 rfl hl (by decide) rfl (fun ls hl => ?_)
    refine lv_aload_n hx hb dX13_wordCount_6 rfl (lv_at hl 1 rfl) ?_
    refine lv_iload_n hx hb dX13_wordCount_7 rfl (lv_at hl 0 rfl) ?_
    refine z_if_lt (tgt := 15) hx hb dX13_wordCount_8 (by decide) (by omega) (fun c_6 => ?_) (fun c_6 => ?_)
    · skip
      exfalso; omega
    · skip
      refine z_iconst hx hb dX13_wordCount_11 ?_
      refine lv_goto (tgt := 16) hx hb dX13_wordCount_12 (by decide) ?_
      refine z_calli (z_runV (rest := []) (As := [.int (iI 1)]) (n := 1) (ci := 16) hC hZ (met_X13_isThere l D cs A m0 ad v g 1  hD hok (by decide)) gv_X13_126 hd_X13_isThere rfl mW_o rfl hl rfl (Nat.le_of_ble_eq_true rfl) ⟨Nat.le_of_ble_eq_true rfl, Nat.le_of_ble_eq_true rfl⟩ ⟨Nat.le_of_ble_eq_true rfl, Nat.le_of_ble_eq_true rfl⟩ dX13_wordCount_16) hZ (fun r16 _ H locs hp_7 hZ => ?_)
      obtain ⟨_, _, rfl, hok_8, rfl, rfl, rfl⟩ := hp_7
      refine z_if_eq (tgt := 31) hx hb dX13_wordCount_19 (by decide) (by decide) (fun c_9 => ?_) (fun c_9 => ?_)
      · skip
        exfalso; omega
      · skip
        refine lv_aload_n hx hb dX13_wordCount_22 rfl (lv_at hl 1 rfl) ?_
        refine lv_iload_n hx hb dX13_wordCount_23 rfl (lv_at hl 0 rfl) ?_
        refine z_iconst hx hb dX13_wordCount_24 ?_
        refine z_calli (z_runV (rest := []) (As := [.int (iI (i0 : Int)), .int (iI 2)]) (n := 2) (ci := 16) hC hZ (met_X13_of l D cs A m0 ad (upN v 6 (1 - 1)) g (i0 : Int) 2  hD hok_8 (by omega) (by omega)) gv_X13_67 hd_X13_of rfl mW_o rfl hl rfl (Nat.le_of_ble_eq_true rfl) ⟨Nat.le_of_ble_eq_true rfl, Nat.le_of_ble_eq_true rfl⟩ ⟨Nat.le_of_ble_eq_true rfl, Nat.le_of_ble_eq_true rfl⟩ dX13_wordCount_25) hZ (fun r25 _ H locs hp_10 hZ => ?_)
        obtain ⟨_, _, rfl, _, rfl, rfl, rfl⟩ := hp_10
        have hr_11 : -2147483648 ≤ mof (g 0) (i0 : Int) 2 ∧ mof (g 0) (i0 : Int) 2 ≤ 2147483647 := hok_8.2 0 _
        refine lv_goto (tgt := 32) hx hb dX13_wordCount_28 (by decide) ?_
        exact z_iret hC hr hlk hZ (by decide) (by decide) (⟨_, _, rfl, hok_8, mA_of (t := 0) (y := a0.2.2.length) (by unfold sWcnt; rw [hz]) rfl rfl (fun _ => by omega)⟩) dX13_wordCount_32

set_option maxHeartbeats 4000000 in
set_option maxRecDepth 100000 in
theorem met_X13_article (l : Launch) (D : va_G) (cs : Nat → ClassId) (A : Nat → Prop) (m0 : Nat) (ad : Nat → Nat) (v : Nat → Int) (g : Nat → Int → Int) (x : Int)  (N : Nat) (c0 : zCo) (hD : mD m0 ad) (hok : mOK v g) (hR : mR (g 0) c0) (hK : cOK N c0) (hx0 : InR x) : zM l D cs A yX13_article cX13_article 2 (some FieldType.int) 3 0 0 [.ref m0, .int (iI x)] (mW cs m0 ad v g) (mP cs m0 ad (fun r v1 g1 => mA v g r v1 g1 (sArt c0 x))) := by
  refine zM_of (own := RX13) (by decide) rfl (Nat.le_of_ble_eq_true rfl) ?_
  intro p e s m below meth c hC hr hlk hnm hZ ls hl
  have hx := hC.x
  have hb := hC.b
  have hl : lv_has ls 2 [(0, .ref m0), (1, .int (iI x))] := hl
  have hn := mR_n hR hK
  refine lv_aload_n hx hb dX13_article_0 rfl (lv_at hl 0 rfl) ?_
  refine lv_aload_n hx hb dX13_article_1 rfl (lv_at hl 0 rfl) ?_
  refine lv_iload_n hx hb dX13_article_2 rfl (lv_at hl 1 rfl) ?_
  refine z_calli (z_runV (rest := [.ref m0]) (As := [.int (iI x)]) (n := 1) (ci := 16) hC hZ (met_X13_isPosition l D cs A m0 ad v g x  hD hok (by omega) hn) gv_X13_122 hd_X13_isPosition rfl mW_o rfl hl rfl (Nat.le_of_ble_eq_true rfl) ⟨Nat.le_of_ble_eq_true rfl, Nat.le_of_ble_eq_true rfl⟩ ⟨Nat.le_of_ble_eq_true rfl, Nat.le_of_ble_eq_true rfl⟩ dX13_article_3) hZ (fun r3 _ H locs hp_1 hZ => ?_)
  obtain ⟨_, _, rfl, _, rfl, rfl, hp_1⟩ := hp_1
  have hin := hp_1
  have hn1 := hR.1
  refine z_calli (z_runV (rest := []) (As := [.int (iI r3)]) (n := 1) (ci := 16) hC hZ (met_X13_isThere l D cs A m0 ad v g r3  hD hok (by omega)) gv_X13_126 hd_X13_isThere rfl mW_o rfl hl rfl (Nat.le_of_ble_eq_true rfl) ⟨Nat.le_of_ble_eq_true rfl, Nat.le_of_ble_eq_true rfl⟩ ⟨Nat.le_of_ble_eq_true rfl, Nat.le_of_ble_eq_true rfl⟩ dX13_article_6) hZ (fun r6 _ H locs hp_2 hZ => ?_)
  obtain ⟨_, _, rfl, hok_3, rfl, rfl, rfl⟩ := hp_2
  refine z_if_eq (tgt := 21) hx hb dX13_article_9 (by decide) (by omega) (fun c_4 => ?_) (fun c_4 => ?_)
  · skip
    refine z_iconst hx hb dX13_article_21 ?_
    exact z_iret hC hr hlk hZ (by decide) (by decide) (⟨_, _, rfl, hok_3, mA_of (t := 1) (y := 0) (by unfold sArt; split; (rw [List.getElem?_eq_none (by omega)]); rfl) (by rw [show (1 : Int) - r3 = 1 by omega]) rfl (fun q => absurd q (by decide))⟩) dX13_article_22
  · skip
    refine lv_aload_n hx hb dX13_article_12 rfl (lv_at hl 0 rfl) ?_
    refine lv_iload_n hx hb dX13_article_13 rfl (lv_at hl 1 rfl) ?_
    refine z_iconst hx hb dX13_article_14 ?_
    refine z_calli (z_runV (rest := []) (As := [.int (iI x), .int (iI 0)]) (n := 2) (ci := 16) hC hZ (met_X13_of l D cs A m0 ad (upN v 6 (1 - r3)) g x 0  hD hok_3 (by omega) (by omega)) gv_X13_67 hd_X13_of rfl mW_o rfl hl rfl (Nat.le_of_ble_eq_true rfl) ⟨Nat.le_of_ble_eq_true rfl, Nat.le_of_ble_eq_true rfl⟩ ⟨Nat.le_of_ble_eq_true rfl, Nat.le_of_ble_eq_true rfl⟩ dX13_article_15) hZ (fun r15 _ H locs hp_5 hZ => ?_)
    obtain ⟨_, _, rfl, _, rfl, rfl, rfl⟩ := hp_5
    have hr_6 : -2147483648 ≤ mof (g 0) x 0 ∧ mof (g 0) x 0 ≤ 2147483647 := hok_3.2 0 _
    have hlt : x.toNat < (cAr c0).length := by omega
    have hA : (cAr c0)[x.toNat]? = some (cAr c0)[x.toNat] := List.getElem?_eq_getElem hlt
    have h3 := (hR.2.2.2.2.2.2.2.2.2.1 _ _ hA).1
    rw [Int.toNat_of_nonneg (by omega)] at h3
    refine lv_goto (tgt := 22) hx hb dX13_article_18 (by decide) ?_
    exact z_iret hC hr hlk hZ (by decide) (by decide) (⟨_, _, rfl, hok_3, mA_of (t := 0) (y := (cAr c0)[x.toNat].1) (by unfold sArt; rw [if_pos (by omega), hA]) (by rw [show (1 : Int) - r3 = 0 by omega]) rfl (fun _ => h3)⟩) dX13_article_22

/-- the end of a question for a word -/
def mAW (v : Nat → Int) (g : Nat → Int → Int) (c : zCo) (x w r : Int) (v1 : Nat → Int) (g1 : Nat → Int → Int) : Prop :=
  (zfa (cAr c) x = none ∧ upN v 6 1 = v1 ∧ g = g1 ∧ r = -1) ∨ (∃ a, zfa (cAr c) x = some a ∧ zwd a w = none ∧ upN v 6 2 = v1 ∧ g = g1 ∧ r = -1) ∨
  ∃ (i : Nat) (a : zAr) (wd : zWd), zfa (cAr c) x = some a ∧ zwd a w = some wd ∧ upN v 6 0 = v1 ∧ g = g1 ∧ r = i ∧ ((0 : Int) ≤ i ∧ (i : Int) ≤ 5) ∧ (0 ≤ w ∧ w ≤ 29) ∧ wdOK wd ∧ mof (g 0) i (3 + 13 * w) = wd.length ∧ (∀ k : Int, 0 ≤ k → k < wd.length → mof (g 0) i (3 + 13 * w + 1 + k) = wd.getD k.toNat 0 ∧ 97 ≤ wd.getD k.toNat 0 ∧ wd.getD k.toNat 0 ≤ 122)
set_option maxHeartbeats 4000000 in
set_option maxRecDepth 100000 in
theorem met_X13_asksWord (l : Launch) (D : va_G) (cs : Nat → ClassId) (A : Nat → Prop) (m0 : Nat) (ad : Nat → Nat) (v : Nat → Int) (g : Nat → Int → Int) (x b : Int)  (N : Nat) (c0 : zCo) (hD : mD m0 ad) (hok : mOK v g) (hR : mR (g 0) c0) (hK : cOK N c0) (hx0 : InR x) (hb0 : InR b) : zM l D cs A yX13_asksWord cX13_asksWord 4 (some FieldType.int) 3 0 0 [.ref m0, .int (iI x), .int (iI b)] (mW cs m0 ad v g) (mP cs m0 ad (fun r v1 g1 => mAW v g c0 x b r v1 g1)) := by
  refine zM_of (own := RX13) (by decide) rfl (Nat.le_of_ble_eq_true rfl) ?_
  intro p e s m below meth c hC hr hlk hnm hZ ls hl
  have hx := hC.x
  have hb := hC.b
  have hl : lv_has ls 4 [(0, .ref m0), (1, .int (iI x)), (2, .int (iI b))] := hl
  have hn := mR_n hR hK
  refine lv_aload_n hx hb dX13_asksWord_0 rfl (lv_at hl 0 rfl) ?_
  refine lv_iload_n hx hb dX13_asksWord_1 rfl (lv_at hl 1 rfl) ?_
  refine z_calli (z_runV (rest := []) (As := [.int (iI x)]) (n := 1) (ci := 16) hC hZ (met_X13_placeOf l D cs A m0 ad v g x  hD hok (by omega) hn) gv_X13_103 hd_X13_placeOf rfl mW_o rfl hl rfl (Nat.le_of_ble_eq_true rfl) ⟨Nat.le_of_ble_eq_true rfl, Nat.le_of_ble_eq_true rfl⟩ ⟨Nat.le_of_ble_eq_true rfl, Nat.le_of_ble_eq_true rfl⟩ dX13_asksWord_2) hZ (fun r2 _ H locs hp_1 hZ => ?_)
  obtain ⟨_, _, rfl, _, rfl, rfl, hp_1⟩ := hp_1
  rcases mPl_fa hR hK hp_1 with ⟨hz, hzi, er⟩ | ⟨i0, a0, hz, hzi, er, hi, hid, hib, hra, hka⟩
  · skip
    subst er
    refine lv_istore_n (lv' := [(3, .int (iI (-1))), (0, .ref m0), (1, .int (iI x)), (2, .int (iI b))]) hx hb dX13_asksWord_5 rfl hl (by decide) rfl (fun ls hl => ?_)
    refine lv_aload_n hx hb dX13_asksWord_6 rfl (lv_at hl 1 rfl) ?_
    refine lv_iload_n hx hb dX13_asksWord_7 rfl (lv_at hl 0 rfl) ?_
    refine z_if_ge (tgt := 15) hx hb dX13_asksWord_8 (by decide) (by decide) (fun c_2 => ?_) (fun c_2 => ?_)
    · skip
      exfalso; omega
    · skip
      refine z_iconst hx hb dX13_asksWord_11 ?_
      refine lv_goto (tgt := 29) hx hb dX13_asksWord_12 (by decide) ?_
      refine m_put hC hZ 6 (ty := .int) (by decide) ql_X13_55 rfl rfl rfl (Or.inl rfl) rfl dX13_asksWord_29 (fun H locs hZ => ?_)
      have hok_3 := hok.v (k := 6) (x := 1) (by decide)
      refine lv_aload_n hx hb dX13_asksWord_32 rfl (lv_at hl 1 rfl) ?_
      refine m_get hC hZ 6 (x := .int (iI 1)) rfl (by decide) ql_X13_55 rfl dX13_asksWord_33 ?_
      refine z_if_le (tgt := 43) hx hb dX13_asksWord_36 (by decide) (by decide) (fun c_4 => ?_) (fun c_4 => ?_)
      · skip
        exfalso; omega
      · skip
        refine z_iconst hx hb dX13_asksWord_39 ?_
        refine lv_goto (tgt := 44) hx hb dX13_asksWord_40 (by decide) ?_
        exact z_iret hC hr hlk hZ (by decide) (by decide) (⟨_, _, rfl, hok_3, Or.inl ⟨hz, rfl, rfl, rfl⟩⟩) dX13_asksWord_44
  · skip
    subst er
    have hra2 := hra.2.2.1
    refine lv_istore_n (lv' := [(3, .int (iI (i0 : Int))), (0, .ref m0), (1, .int (iI x)), (2, .int (iI b))]) hx hb dX13_asksWord_5 rfl hl (by decide) rfl (fun ls hl => ?_)
    refine lv_aload_n hx hb dX13_asksWord_6 rfl (lv_at hl 1 rfl) ?_
    refine lv_iload_n hx hb dX13_asksWord_7 rfl (lv_at hl 0 rfl) ?_
    refine z_if_ge (tgt := 15) hx hb dX13_asksWord_8 (by decide) (by omega) (fun c_5 => ?_) (fun c_5 => ?_)
    · skip
      refine lv_aload_n hx hb dX13_asksWord_15 rfl (lv_at hl 1 rfl) ?_
      refine lv_iload_n hx hb dX13_asksWord_16 rfl (lv_at hl 0 rfl) ?_
      refine lv_iload_n hx hb dX13_asksWord_17 rfl (lv_at hl 3 rfl) ?_
      refine z_calli (z_runV (rest := [.ref m0]) (As := [.int (iI (i0 : Int)), .int (iI b)]) (n := 2) (ci := 16) hC hZ (met_X13_isWord l D cs A m0 ad v g (i0 : Int) b  hD hok (by omega) (by omega) (by omega)) gv_X13_109 hd_X13_isWord rfl mW_o rfl hl rfl (Nat.le_of_ble_eq_true rfl) ⟨Nat.le_of_ble_eq_true rfl, Nat.le_of_ble_eq_true rfl⟩ ⟨Nat.le_of_ble_eq_true rfl, Nat.le_of_ble_eq_true rfl⟩ dX13_asksWord_18) hZ (fun r18 _ H locs hp_6 hZ => ?_)
      obtain ⟨_, _, rfl, _, rfl, rfl, hp_6⟩ := hp_6
      have hiw := hp_6
      refine z_if_ne (tgt := 28) hx hb dX13_asksWord_21 (by decide) (by omega) (fun c_7 => ?_) (fun c_7 => ?_)
      · skip
        refine z_iconst hx hb dX13_asksWord_28 ?_
        refine m_put hC hZ 6 (ty := .int) (by decide) ql_X13_55 rfl rfl rfl (Or.inl rfl) rfl dX13_asksWord_29 (fun H locs hZ => ?_)
        have hok_8 := hok.v (k := 6) (x := 0) (by decide)
        refine lv_aload_n hx hb dX13_asksWord_32 rfl (lv_at hl 1 rfl) ?_
        refine m_get hC hZ 6 (x := .int (iI 0)) rfl (by decide) ql_X13_55 rfl dX13_asksWord_33 ?_
        refine z_if_le (tgt := 43) hx hb dX13_asksWord_36 (by decide) (by decide) (fun c_9 => ?_) (fun c_9 => ?_)
        · skip
          refine lv_iload_n hx hb dX13_asksWord_43 rfl (lv_at hl 0 rfl) ?_
          exact z_iret hC hr hlk hZ (by decide) (by decide) (⟨_, _, rfl, hok_8, by obtain ⟨wd, z1, z2, z3, z4, z5⟩ := rAr_wd hra hka (w := b) (by omega) (by omega); exact Or.inr (Or.inr ⟨i0, a0, wd, hz, z1, rfl, rfl, rfl, ⟨by omega, by omega⟩, ⟨by omega, z4⟩, z2, z3, z5⟩)⟩) dX13_asksWord_44
        · skip
          exfalso; omega
      · skip
        refine z_iconst hx hb dX13_asksWord_24 ?_
        refine lv_goto (tgt := 29) hx hb dX13_asksWord_25 (by decide) ?_
        refine m_put hC hZ 6 (ty := .int) (by decide) ql_X13_55 rfl rfl rfl (Or.inl rfl) rfl dX13_asksWord_29 (fun H locs hZ => ?_)
        have hok_10 := hok.v (k := 6) (x := 2) (by decide)
        refine lv_aload_n hx hb dX13_asksWord_32 rfl (lv_at hl 1 rfl) ?_
        refine m_get hC hZ 6 (x := .int (iI 2)) rfl (by decide) ql_X13_55 rfl dX13_asksWord_33 ?_
        refine z_if_le (tgt := 43) hx hb dX13_asksWord_36 (by decide) (by decide) (fun c_11 => ?_) (fun c_11 => ?_)
        · skip
          exfalso; omega
        · skip
          refine z_iconst hx hb dX13_asksWord_39 ?_
          refine lv_goto (tgt := 44) hx hb dX13_asksWord_40 (by decide) ?_
          exact z_iret hC hr hlk hZ (by decide) (by decide) (⟨_, _, rfl, hok_10, Or.inr (Or.inl ⟨a0, hz, zwd_none hra (by omega), rfl, rfl, rfl⟩)⟩) dX13_asksWord_44
    · skip
      exfalso; omega

set_option maxHeartbeats 4000000 in
set_option maxRecDepth 100000 in
theorem met_X13_wordLength (l : Launch) (D : va_G) (cs : Nat → ClassId) (A : Nat → Prop) (m0 : Nat) (ad : Nat → Nat) (v : Nat → Int) (g : Nat → Int → Int) (x b : Int)  (N : Nat) (c0 : zCo) (hD : mD m0 ad) (hok : mOK v g) (hR : mR (g 0) c0) (hK : cOK N c0) (hx0 : InR x) (hb0 : InR b) : zM l D cs A yX13_wordLength cX13_wordLength 4 (some FieldType.int) 4 0 0 [.ref m0, .int (iI x), .int (iI b)] (mW cs m0 ad v g) (mP cs m0 ad (fun r v1 g1 => mA v g r v1 g1 (sWord c0 x b (fun wd => wd.length)))) := by
  refine zM_of (own := RX13) (by decide) rfl (Nat.le_of_ble_eq_true rfl) ?_
  intro p e s m below meth c hC hr hlk hnm hZ ls hl
  have hx := hC.x
  have hb := hC.b
  have hl : lv_has ls 4 [(0, .ref m0), (1, .int (iI x)), (2, .int (iI b))] := hl
  refine lv_aload_n hx hb dX13_wordLength_0 rfl (lv_at hl 0 rfl) ?_
  refine lv_iload_n hx hb dX13_wordLength_1 rfl (lv_at hl 1 rfl) ?_
  refine lv_iload_n hx hb dX13_wordLength_2 rfl (lv_at hl 2 rfl) ?_
  refine z_calli (z_runV (rest := []) (As := [.int (iI x), .int (iI b)]) (n := 2) (ci := 16) hC hZ (met_X13_asksWord l D cs A m0 ad v g x b N c0 hD hok hR hK (by omega) (by omega)) gv_X13_133 hd_X13_asksWord rfl mW_o rfl hl rfl (Nat.le_of_ble_eq_true rfl) ⟨Nat.le_of_ble_eq_true rfl, Nat.le_of_ble_eq_true rfl⟩ ⟨Nat.le_of_ble_eq_true rfl, Nat.le_of_ble_eq_true rfl⟩ dX13_wordLength_3) hZ (fun r3 _ H locs hp_1 hZ => ?_)
  obtain ⟨_, _, rfl, hok_2, hp_1⟩ := hp_1
  rcases hp_1 with ⟨hz, rfl, rfl, rfl⟩ | ⟨a0, hz, hw, rfl, rfl, rfl⟩ | ⟨i0, a0, wd, hz, hw, rfl, rfl, rfl, hib, hwb, hwd, hln, hlt⟩
  · skip
    refine lv_istore_n (lv' := [(3, .int (iI (-1))), (0, .ref m0), (1, .int (iI x)), (2, .int (iI b))]) hx hb dX13_wordLength_6 rfl hl (by decide) rfl (fun ls hl => ?_)
    refine lv_iload_n hx hb dX13_wordLength_7 rfl (lv_at hl 0 rfl) ?_
    refine z_if_ge (tgt := 15) hx hb dX13_wordLength_8 (by decide) (by decide) (fun c_3 => ?_) (fun c_3 => ?_)
    · skip
      exfalso; omega
    · skip
      refine z_iconst hx hb dX13_wordLength_11 ?_
      refine lv_goto (tgt := 21) hx hb dX13_wordLength_12 (by decide) ?_
      exact z_iret hC hr hlk hZ (by decide) (by decide) (⟨_, _, rfl, hok_2, mA_of (t := 1) (y := 0) (by unfold sWord; rw [hz]) rfl rfl (fun q => absurd q (by decide))⟩) dX13_wordLength_21
  · skip
    refine lv_istore_n (lv' := [(3, .int (iI (-1))), (0, .ref m0), (1, .int (iI x)), (2, .int (iI b))]) hx hb dX13_wordLength_6 rfl hl (by decide) rfl (fun ls hl => ?_)
    refine lv_iload_n hx hb dX13_wordLength_7 rfl (lv_at hl 0 rfl) ?_
    refine z_if_ge (tgt := 15) hx hb dX13_wordLength_8 (by decide) (by decide) (fun c_4 => ?_) (fun c_4 => ?_)
    · skip
      exfalso; omega
    · skip
      refine z_iconst hx hb dX13_wordLength_11 ?_
      refine lv_goto (tgt := 21) hx hb dX13_wordLength_12 (by decide) ?_
      exact z_iret hC hr hlk hZ (by decide) (by decide) (⟨_, _, rfl, hok_2, mA_of (t := 2) (y := 0) (by unfold sWord; rw [hz]; simp only []; rw [hw]) rfl rfl (fun q => absurd q (by decide))⟩) dX13_wordLength_21
  · skip
    refine lv_istore_n (lv' := [(3, .int (iI (i0 : Int))), (0, .ref m0), (1, .int (iI x)), (2, .int (iI b))]) hx hb dX13_wordLength_6 rfl hl (by decide) rfl (fun ls hl => ?_)
    refine lv_iload_n hx hb dX13_wordLength_7 rfl (lv_at hl 0 rfl) ?_
    refine z_if_ge (tgt := 15) hx hb dX13_wordLength_8 (by decide) (by omega) (fun c_5 => ?_) (fun c_5 => ?_)
    · skip
      refine lv_aload_n hx hb dX13_wordLength_15 rfl (lv_at hl 1 rfl) ?_
      refine lv_iload_n hx hb dX13_wordLength_16 rfl (lv_at hl 0 rfl) ?_
      refine lv_iload_n hx hb dX13_wordLength_17 rfl (lv_at hl 3 rfl) ?_
      refine z_calli (z_runV (rest := []) (As := [.int (iI (i0 : Int)), .int (iI b)]) (n := 2) (ci := 16) hC hZ (met_X13_long1 l D cs A m0 ad (upN v 6 0) g (i0 : Int) b  hD hok_2 (by omega) (by omega)) gv_X13_113 hd_X13_long1 rfl mW_o rfl hl rfl (Nat.le_of_ble_eq_true rfl) ⟨Nat.le_of_ble_eq_true rfl, Nat.le_of_ble_eq_true rfl⟩ ⟨Nat.le_of_ble_eq_true rfl, Nat.le_of_ble_eq_true rfl⟩ dX13_wordLength_18) hZ (fun r18 _ H locs hp_6 hZ => ?_)
      obtain ⟨_, _, rfl, _, rfl, rfl, rfl⟩ := hp_6
      have hr_7 : -2147483648 ≤ mof (g 0) (i0 : Int) (3 + 13 * b) ∧ mof (g 0) (i0 : Int) (3 + 13 * b) ≤ 2147483647 := hok_2.2 0 _
      exact z_iret hC hr hlk hZ (by decide) (by decide) (⟨_, _, rfl, hok_2, mA_of (t := 0) (y := (fun wd => (wd.length : Int)) wd) (by unfold sWord; rw [hz]; simp only []; rw [hw]) rfl rfl (fun _ => hln)⟩) dX13_wordLength_21
    · skip
      exfalso; omega

set_option maxHeartbeats 4000000 in
set_option maxRecDepth 100000 in
theorem met_X13_canDivide (l : Launch) (D : va_G) (cs : Nat → ClassId) (A : Nat → Prop) (m0 : Nat) (ad : Nat → Nat) (v : Nat → Int) (g : Nat → Int → Int) (x b y : Int)  (N : Nat) (c0 : zCo) (hD : mD m0 ad) (hok : mOK v g) (hR : mR (g 0) c0) (hK : cOK N c0) (hx0 : InR x) (hb0 : InR b) (hy0 : InR y) : zM l D cs A yX13_canDivide cX13_canDivide 5 (some FieldType.boolean) 4 0 0 [.ref m0, .int (iI x), .int (iI b), .int (iI y)] (mW cs m0 ad v g) (mP cs m0 ad (fun r v1 g1 => mA v g r v1 g1 (sWord c0 x b (sCan y)))) := by
  refine zM_of (own := RX13) (by decide) rfl (Nat.le_of_ble_eq_true rfl) ?_
  intro p e s m below meth c hC hr hlk hnm hZ ls hl
  have hx := hC.x
  have hb := hC.b
  have hl : lv_has ls 5 [(0, .ref m0), (1, .int (iI x)), (2, .int (iI b)), (3, .int (iI y))] := hl
  refine lv_aload_n hx hb dX13_canDivide_0 rfl (lv_at hl 0 rfl) ?_
  refine lv_iload_n hx hb dX13_canDivide_1 rfl (lv_at hl 1 rfl) ?_
  refine lv_iload_n hx hb dX13_canDivide_2 rfl (lv_at hl 2 rfl) ?_
  refine z_calli (z_runV (rest := []) (As := [.int (iI x), .int (iI b)]) (n := 2) (ci := 16) hC hZ (met_X13_asksWord l D cs A m0 ad v g x b N c0 hD hok hR hK (by omega) (by omega)) gv_X13_133 hd_X13_asksWord rfl mW_o rfl hl rfl (Nat.le_of_ble_eq_true rfl) ⟨Nat.le_of_ble_eq_true rfl, Nat.le_of_ble_eq_true rfl⟩ ⟨Nat.le_of_ble_eq_true rfl, Nat.le_of_ble_eq_true rfl⟩ dX13_canDivide_3) hZ (fun r3 _ H locs hp_1 hZ => ?_)
  obtain ⟨_, _, rfl, hok_2, hp_1⟩ := hp_1
  rcases hp_1 with ⟨hz, rfl, rfl, rfl⟩ | ⟨a0, hz, hw, rfl, rfl, rfl⟩ | ⟨i0, a0, wd, hz, hw, rfl, rfl, rfl, hib, hwb, hwd, hln, hlt⟩
  · skip
    refine lv_istore (lv' := [(4, .int (iI (-1))), (0, .ref m0), (1, .int (iI x)), (2, .int (iI b)), (3, .int (iI y))]) hx hb dX13_canDivide_6 hl (by decide) rfl (fun ls hl => ?_)
    refine lv_iload hx hb dX13_canDivide_8 (lv_at hl 0 rfl) ?_
    refine z_if_lt (tgt := 28) hx hb dX13_canDivide_10 (by decide) (by decide) (fun c_3 => ?_) (fun c_3 => ?_)
    · skip
      refine z_iconst hx hb dX13_canDivide_28 ?_
      exact z_zret hC hr hlk hZ rfl (by decide) (by decide) (⟨_, _, rfl, hok_2, mA_of (t := 1) (y := 0) (by unfold sWord; rw [hz]) rfl rfl (fun q => absurd q (by decide))⟩) dX13_canDivide_29
    · skip
      exfalso; omega
  · skip
    refine lv_istore (lv' := [(4, .int (iI (-1))), (0, .ref m0), (1, .int (iI x)), (2, .int (iI b)), (3, .int (iI y))]) hx hb dX13_canDivide_6 hl (by decide) rfl (fun ls hl => ?_)
    refine lv_iload hx hb dX13_canDivide_8 (lv_at hl 0 rfl) ?_
    refine z_if_lt (tgt := 28) hx hb dX13_canDivide_10 (by decide) (by decide) (fun c_4 => ?_) (fun c_4 => ?_)
    · skip
      refine z_iconst hx hb dX13_canDivide_28 ?_
      exact z_zret hC hr hlk hZ rfl (by decide) (by decide) (⟨_, _, rfl, hok_2, mA_of (t := 2) (y := 0) (by unfold sWord; rw [hz]; simp only []; rw [hw]) rfl rfl (fun q => absurd q (by decide))⟩) dX13_canDivide_29
    · skip
      exfalso; omega
  · skip
    refine lv_istore (lv' := [(4, .int (iI (i0 : Int))), (0, .ref m0), (1, .int (iI x)), (2, .int (iI b)), (3, .int (iI y))]) hx hb dX13_canDivide_6 hl (by decide) rfl (fun ls hl => ?_)
    refine lv_iload hx hb dX13_canDivide_8 (lv_at hl 0 rfl) ?_
    refine z_if_lt (tgt := 28) hx hb dX13_canDivide_10 (by decide) (by omega) (fun c_5 => ?_) (fun c_5 => ?_)
    · skip
      exfalso; omega
    · skip
      refine lv_aload_n hx hb dX13_canDivide_13 rfl (lv_at hl 1 rfl) ?_
      refine lv_iload hx hb dX13_canDivide_14 (lv_at hl 0 rfl) ?_
      refine lv_iload_n hx hb dX13_canDivide_16 rfl (lv_at hl 3 rfl) ?_
      refine lv_iload_n hx hb dX13_canDivide_17 rfl (lv_at hl 4 rfl) ?_
      refine z_calli (z_runV (rest := []) (As := [.int (iI (i0 : Int)), .int (iI b), .int (iI y)]) (n := 3) (ci := 16) hC hZ (met_X13_divides l D cs A m0 ad (upN v 6 0) g (i0 : Int) b y wd hD hok_2 (by omega) (by omega) (by omega) hwd hln hlt) gv_X13_144 hd_X13_divides rfl mW_o rfl hl rfl (Nat.le_of_ble_eq_true rfl) ⟨Nat.le_of_ble_eq_true rfl, Nat.le_of_ble_eq_true rfl⟩ ⟨Nat.le_of_ble_eq_true rfl, Nat.le_of_ble_eq_true rfl⟩ dX13_canDivide_18) hZ (fun r18 _ H locs hp_6 hZ => ?_)
      obtain ⟨_, _, rfl, _, rfl, rfl, hp_6⟩ := hp_6
      have hdv := hp_6
      refine z_if_eq (tgt := 28) hx hb dX13_canDivide_21 (by decide) (by omega) (fun c_7 => ?_) (fun c_7 => ?_)
      · skip
        refine z_iconst hx hb dX13_canDivide_28 ?_
        exact z_zret hC hr hlk hZ rfl (by decide) (by decide) (⟨_, _, rfl, hok_2, mA_of (t := 0) (y := sCan y wd) (by unfold sWord; rw [hz]; simp only []; rw [hw]) rfl rfl (fun _ => (sCan_0 (hdv.resolve_left (fun q => by omega)).1).symm)⟩) dX13_canDivide_29
      · skip
        refine z_iconst hx hb dX13_canDivide_24 ?_
        refine lv_goto (tgt := 29) hx hb dX13_canDivide_25 (by decide) ?_
        exact z_zret hC hr hlk hZ rfl (by decide) (by decide) (⟨_, _, rfl, hok_2, mA_of (t := 0) (y := sCan y wd) (by unfold sWord; rw [hz]; simp only []; rw [hw]) rfl rfl (fun _ => (sCan_1 (hdv.resolve_right (fun q => by omega)).1).symm)⟩) dX13_canDivide_29

set_option maxHeartbeats 4000000 in
set_option maxRecDepth 100000 in
theorem met_X13_divisions (l : Launch) (D : va_G) (cs : Nat → ClassId) (A : Nat → Prop) (m0 : Nat) (ad : Nat → Nat) (v : Nat → Int) (g : Nat → Int → Int) (x b : Int)  (N : Nat) (c0 : zCo) (hD : mD m0 ad) (hok : mOK v g) (hR : mR (g 0) c0) (hK : cOK N c0) (hx0 : InR x) (hb0 : InR b) : zM l D cs A yX13_divisions cX13_divisions 6 (some FieldType.int) 4 0 0 [.ref m0, .int (iI x), .int (iI b)] (mW cs m0 ad v g) (mP cs m0 ad (fun r v1 g1 => mA v g r v1 g1 (sWord c0 x b sDiv))) := by
  refine zM_of (own := RX13) (by decide) rfl (Nat.le_of_ble_eq_true rfl) ?_
  intro p e s m below meth c hC hr hlk hnm hZ ls hl
  have hx := hC.x
  have hb := hC.b
  have hl : lv_has ls 6 [(0, .ref m0), (1, .int (iI x)), (2, .int (iI b))] := hl
  refine lv_aload_n hx hb dX13_divisions_0 rfl (lv_at hl 0 rfl) ?_
  refine lv_iload_n hx hb dX13_divisions_1 rfl (lv_at hl 1 rfl) ?_
  refine lv_iload_n hx hb dX13_divisions_2 rfl (lv_at hl 2 rfl) ?_
  refine z_calli (z_runV (rest := []) (As := [.int (iI x), .int (iI b)]) (n := 2) (ci := 16) hC hZ (met_X13_asksWord l D cs A m0 ad v g x b N c0 hD hok hR hK (by omega) (by omega)) gv_X13_133 hd_X13_asksWord rfl mW_o rfl hl rfl (Nat.le_of_ble_eq_true rfl) ⟨Nat.le_of_ble_eq_true rfl, Nat.le_of_ble_eq_true rfl⟩ ⟨Nat.le_of_ble_eq_true rfl, Nat.le_of_ble_eq_true rfl⟩ dX13_divisions_3) hZ (fun r3 _ H locs hp_1 hZ => ?_)
  obtain ⟨_, _, rfl, hok_2, hp_1⟩ := hp_1
  rcases hp_1 with ⟨hz, rfl, rfl, rfl⟩ | ⟨a0, hz, hw, rfl, rfl, rfl⟩ | ⟨i0, a0, wd, hz, hw, rfl, rfl, rfl, hib, hwb, hwd, hln, hlt⟩
  · skip
    refine lv_istore_n (lv' := [(3, .int (iI (-1))), (0, .ref m0), (1, .int (iI x)), (2, .int (iI b))]) hx hb dX13_divisions_6 rfl hl (by decide) rfl (fun ls hl => ?_)
    refine z_iconst hx hb dX13_divisions_7 ?_
    refine lv_istore (lv' := [(4, .int (iI 0)), (3, .int (iI (-1))), (0, .ref m0), (1, .int (iI x)), (2, .int (iI b))]) hx hb dX13_divisions_8 hl (by decide) rfl (fun ls hl => ?_)
    refine z_iconst hx hb dX13_divisions_10 ?_
    refine lv_istore (lv' := [(5, .int (iI 2)), (4, .int (iI 0)), (3, .int (iI (-1))), (0, .ref m0), (1, .int (iI x)), (2, .int (iI b))]) hx hb dX13_divisions_11 hl (by decide) rfl (fun ls hl => ?_)
    refine lv_iload_n hx hb dX13_divisions_13 rfl (lv_at hl 2 rfl) ?_
    refine z_if_lt (tgt := 51) hx hb dX13_divisions_14 (by decide) (by decide) (fun c_3 => ?_) (fun c_3 => ?_)
    · skip
      refine lv_iload hx hb dX13_divisions_51 (lv_at hl 1 rfl) ?_
      exact z_iret hC hr hlk hZ (by decide) (by decide) (⟨_, _, rfl, hok_2, mA_of (t := 1) (y := 0) (by unfold sWord; rw [hz]) rfl rfl (fun q => absurd q (by decide))⟩) dX13_divisions_53
    · skip
      exfalso; omega
  · skip
    refine lv_istore_n (lv' := [(3, .int (iI (-1))), (0, .ref m0), (1, .int (iI x)), (2, .int (iI b))]) hx hb dX13_divisions_6 rfl hl (by decide) rfl (fun ls hl => ?_)
    refine z_iconst hx hb dX13_divisions_7 ?_
    refine lv_istore (lv' := [(4, .int (iI 0)), (3, .int (iI (-1))), (0, .ref m0), (1, .int (iI x)), (2, .int (iI b))]) hx hb dX13_divisions_8 hl (by decide) rfl (fun ls hl => ?_)
    refine z_iconst hx hb dX13_divisions_10 ?_
    refine lv_istore (lv' := [(5, .int (iI 2)), (4, .int (iI 0)), (3, .int (iI (-1))), (0, .ref m0), (1, .int (iI x)), (2, .int (iI b))]) hx hb dX13_divisions_11 hl (by decide) rfl (fun ls hl => ?_)
    refine lv_iload_n hx hb dX13_divisions_13 rfl (lv_at hl 2 rfl) ?_
    refine z_if_lt (tgt := 51) hx hb dX13_divisions_14 (by decide) (by decide) (fun c_4 => ?_) (fun c_4 => ?_)
    · skip
      refine lv_iload hx hb dX13_divisions_51 (lv_at hl 1 rfl) ?_
      exact z_iret hC hr hlk hZ (by decide) (by decide) (⟨_, _, rfl, hok_2, mA_of (t := 2) (y := 0) (by unfold sWord; rw [hz]; simp only []; rw [hw]) rfl rfl (fun q => absurd q (by decide))⟩) dX13_divisions_53
    · skip
      exfalso; omega
  · skip
    refine lv_istore_n (lv' := [(3, .int (iI (i0 : Int))), (0, .ref m0), (1, .int (iI x)), (2, .int (iI b))]) hx hb dX13_divisions_6 rfl hl (by decide) rfl (fun ls hl => ?_)
    refine z_iconst hx hb dX13_divisions_7 ?_
    refine lv_istore (lv' := [(4, .int (iI 0)), (3, .int (iI (i0 : Int))), (0, .ref m0), (1, .int (iI x)), (2, .int (iI b))]) hx hb dX13_divisions_8 hl (by decide) rfl (fun ls hl => ?_)
    refine z_iconst hx hb dX13_divisions_10 ?_
    refine lv_istore (lv' := [(5, .int (iI 2)), (4, .int (iI 0)), (3, .int (iI (i0 : Int))), (0, .ref m0), (1, .int (iI x)), (2, .int (iI b))]) hx hb dX13_divisions_11 hl (by decide) rfl (fun ls hl => ?_)
    have L13_k_5 : ∀ (fu : Nat) (y t : Int)  (hfu : (12 - t).toNat < fu) (hi13_0 : 2 ≤ t ∧ t ≤ 12) (hi13_1 : 0 ≤ y ∧ y ≤ t) (hi13_2 : y = zcuts wd t.toNat) (H : Heap) (locs : List Loc) (hZ : zS D A s (mW cs m0 ad (upN v 6 0) g) H locs) (ls : Array Slot) (hl : lv_has ls 6 [(5, .int (iI t)), (4, .int (iI y)), (3, .int (iI (i0 : Int))), (0, .ref m0), (1, .int (iI x)), (2, .int (iI b))]), W p l e (zR 4 0 0) s m [.ref m0, .int (iI x), .int (iI b)].toArray below meth c H locs 0 0 (MQ below (zQ D A (mP cs m0 ad (fun r v1 g1 => mA v g r v1 g1 (sWord c0 x b sDiv)))) [.ref m0, .int (iI x), .int (iI b)].toArray s 0 0 A) (F0 m 13 ls []) := by
      intro fu
      induction fu with
      | zero =>
        intro y t  hfu
        exact absurd hfu (Nat.not_lt_zero _)
      | succ fu ih13 =>
        intro y t  hfu hi13_0 hi13_1 hi13_2  H locs hZ ls hl
        refine lv_iload_n hx hb dX13_divisions_13 rfl (lv_at hl 2 rfl) ?_
        refine z_if_lt (tgt := 51) hx hb dX13_divisions_14 (by decide) (by omega) (fun c_6 => ?_) (fun c_6 => ?_)
        · skip
          exfalso; omega
        · skip
          refine lv_iload hx hb dX13_divisions_17 (lv_at hl 0 rfl) ?_
          refine z_bipush hx hb dX13_divisions_19 (by decide) ?_
          refine z_icmp_ge (tgt := 51) hx hb dX13_divisions_21 (by decide) (by omega) (by decide) (fun c_7 => ?_) (fun c_7 => ?_)
          · skip
            refine lv_iload hx hb dX13_divisions_51 (lv_at hl 1 rfl) ?_
            exact z_iret hC hr hlk hZ (by decide) (by decide) (⟨_, _, rfl, hok_2, mA_of (t := 0) (y := sDiv wd) (by unfold sWord; rw [hz]; simp only []; rw [hw]) rfl rfl (fun _ => by rw [hi13_2, show t = 12 by omega]; rfl)⟩) dX13_divisions_53
          · skip
            refine lv_iload hx hb dX13_divisions_24 (lv_at hl 1 rfl) ?_
            refine lv_aload_n hx hb dX13_divisions_26 rfl (lv_at hl 3 rfl) ?_
            refine lv_iload_n hx hb dX13_divisions_27 rfl (lv_at hl 2 rfl) ?_
            refine lv_iload_n hx hb dX13_divisions_28 rfl (lv_at hl 5 rfl) ?_
            refine lv_iload hx hb dX13_divisions_29 (lv_at hl 0 rfl) ?_
            refine z_calli (z_runV (rest := [.int (iI y)]) (As := [.int (iI (i0 : Int)), .int (iI b), .int (iI t)]) (n := 3) (ci := 16) hC hZ (met_X13_divides l D cs A m0 ad (upN v 6 0) g (i0 : Int) b t wd hD hok_2 (by omega) (by omega) (by omega) hwd hln hlt) gv_X13_144 hd_X13_divides rfl mW_o rfl hl rfl (Nat.le_of_ble_eq_true rfl) ⟨Nat.le_of_ble_eq_true rfl, Nat.le_of_ble_eq_true rfl⟩ ⟨Nat.le_of_ble_eq_true rfl, Nat.le_of_ble_eq_true rfl⟩ dX13_divisions_31) hZ (fun r31 _ H locs hp_8 hZ => ?_)
            obtain ⟨_, _, rfl, _, rfl, rfl, hp_8⟩ := hp_8
            have hdv := hp_8
            refine z_if_eq (tgt := 41) hx hb dX13_divisions_34 (by decide) (by omega) (fun c_9 => ?_) (fun c_9 => ?_)
            · skip
              refine z_iconst hx hb dX13_divisions_41 ?_
              refine z_iadd hx hb dX13_divisions_42 ?_
              refine lv_istore (lv' := [(4, .int (iI (y + 0))), (5, .int (iI t)), (3, .int (iI (i0 : Int))), (0, .ref m0), (1, .int (iI x)), (2, .int (iI b))]) hx hb dX13_divisions_43 hl (by decide) rfl (fun ls hl => ?_)
              refine z_iinc (lv' := [(5, .int (iI (t + 1))), (4, .int (iI (y + 0))), (3, .int (iI (i0 : Int))), (0, .ref m0), (1, .int (iI x)), (2, .int (iI b))]) hx hb dX13_divisions_45 hl (k := 1) rfl (by decide) rfl (fun ls hl => ?_)
              refine lv_goto (tgt := 13) hx hb dX13_divisions_48 (by decide) ?_
              exact ih13 (y + 0) (t + 1)  (by omega) (by omega) (by omega) (by rcases zcuts_s (w := wd) (x := t) (by omega) with ⟨q1, q2⟩ | ⟨q1, q2⟩ <;> rw [q2] <;> rcases hdv with ⟨z1, z2⟩ | ⟨z1, z2⟩ <;> first | omega | exact absurd q1 z1 | exact absurd z1 q1)  _ _ hZ ls (lv_sub hl [0, 1, 2, 3, 4, 5] rfl)
            · skip
              refine z_iconst hx hb dX13_divisions_37 ?_
              refine lv_goto (tgt := 42) hx hb dX13_divisions_38 (by decide) ?_
              refine z_iadd hx hb dX13_divisions_42 ?_
              refine lv_istore (lv' := [(4, .int (iI (y + 1))), (5, .int (iI t)), (3, .int (iI (i0 : Int))), (0, .ref m0), (1, .int (iI x)), (2, .int (iI b))]) hx hb dX13_divisions_43 hl (by decide) rfl (fun ls hl => ?_)
              refine z_iinc (lv' := [(5, .int (iI (t + 1))), (4, .int (iI (y + 1))), (3, .int (iI (i0 : Int))), (0, .ref m0), (1, .int (iI x)), (2, .int (iI b))]) hx hb dX13_divisions_45 hl (k := 1) rfl (by decide) rfl (fun ls hl => ?_)
              refine lv_goto (tgt := 13) hx hb dX13_divisions_48 (by decide) ?_
              exact ih13 (y + 1) (t + 1)  (by omega) (by omega) (by omega) (by rcases zcuts_s (w := wd) (x := t) (by omega) with ⟨q1, q2⟩ | ⟨q1, q2⟩ <;> rw [q2] <;> rcases hdv with ⟨z1, z2⟩ | ⟨z1, z2⟩ <;> first | omega | exact absurd q1 z1 | exact absurd z1 q1)  _ _ hZ ls (lv_sub hl [0, 1, 2, 3, 4, 5] rfl)
    exact L13_k_5 _ 0 2  (Nat.lt_succ_self _) (by omega) (by omega) (zcuts_2 wd).symm  _ _ hZ ls (lv_sub hl [0, 1, 2, 3, 4, 5] rfl)

