set_option maxHeartbeats 4000000 in
set_option maxRecDepth 100000 in
theorem met_X13_isKept (l : Launch) (D : va_G) (cs : Nat → ClassId) (A : Nat → Prop) (m0 : Nat) (ad : Nat → Nat) (v : Nat → Int) (g : Nat → Int → Int) (x : Int)  (N : Nat) (c0 : zCo) (hD : mD m0 ad) (hok : mOK v g) (hR : mR (g 0) c0) (hK : cOK N c0) (hx0 : InR x) : zM l D cs A yX13_isKept cX13_isKept 2 (some FieldType.boolean) 3 0 0 [.ref m0, .int (iI x)] (mW cs m0 ad v g) (mP cs m0 ad (fun r v1 g1 => mA v g r v1 g1 ((0, if (zfi (cIs c0) x).isSome then 1 else 0)))) := by
  refine zM_of (own := RX13) (by decide) rfl (Nat.le_of_ble_eq_true rfl) ?_
  intro p e s m below meth c hC hr hlk hnm hZ ls hl
  have hx := hC.x
  have hb := hC.b
  have hl : lv_has ls 2 [(0, .ref m0), (1, .int (iI x))] := hl
  have hm := mR_m hR hK
  refine lv_aload_n hx hb dX13_isKept_0 rfl (lv_at hl 0 rfl) ?_
  refine z_iconst hx hb dX13_isKept_1 ?_
  refine m_put hC hZ 6 (ty := .int) (by decide) ql_X13_55 rfl rfl rfl (Or.inl rfl) rfl dX13_isKept_2 (fun H locs hZ => ?_)
  have hok_1 := hok.v (k := 6) (x := 0) (by decide)
  refine lv_aload_n hx hb dX13_isKept_5 rfl (lv_at hl 0 rfl) ?_
  refine lv_iload_n hx hb dX13_isKept_6 rfl (lv_at hl 1 rfl) ?_
  refine z_calli (z_runV (rest := []) (As := [.int (iI x)]) (n := 1) (ci := 16) hC hZ (met_X13_issueAt l D cs A m0 ad (upN v 6 0) g x  hD hok_1 (by omega) hm) gv_X13_200 hd_X13_issueAt rfl mW_o rfl hl rfl (Nat.le_of_ble_eq_true rfl) ⟨Nat.le_of_ble_eq_true rfl, Nat.le_of_ble_eq_true rfl⟩ ⟨Nat.le_of_ble_eq_true rfl, Nat.le_of_ble_eq_true rfl⟩ dX13_isKept_7) hZ (fun r7 _ H locs hp_2 hZ => ?_)
  obtain ⟨_, _, rfl, _, rfl, rfl, hp_2⟩ := hp_2
  rcases mPi_fi hR hK hp_2 with ⟨hz, hzi, er⟩ | ⟨i0, a0, hz, hzi, er, hi, hid, hib, hra, hka⟩
  · skip
    subst er
    refine z_if_lt (tgt := 17) hx hb dX13_isKept_10 (by decide) (by decide) (fun c_3 => ?_) (fun c_3 => ?_)
    · skip
      refine z_iconst hx hb dX13_isKept_17 ?_
      exact z_zret hC hr hlk hZ rfl (by decide) (by decide) (⟨_, _, rfl, hok_1, mA_of (t := 0) (y := 0) (by rw [hz]; rfl) rfl rfl (fun _ => rfl)⟩) dX13_isKept_18
    · skip
      exfalso; omega
  · skip
    subst er
    refine z_if_lt (tgt := 17) hx hb dX13_isKept_10 (by decide) (by omega) (fun c_4 => ?_) (fun c_4 => ?_)
    · skip
      exfalso; omega
    · skip
      refine z_iconst hx hb dX13_isKept_13 ?_
      refine lv_goto (tgt := 18) hx hb dX13_isKept_14 (by decide) ?_
      exact z_zret hC hr hlk hZ rfl (by decide) (by decide) (⟨_, _, rfl, hok_1, mA_of (t := 0) (y := 1) (by rw [hz]; rfl) rfl rfl (fun _ => rfl)⟩) dX13_isKept_18

set_option maxHeartbeats 4000000 in
set_option maxRecDepth 100000 in
theorem met_X13_articlesIn (l : Launch) (D : va_G) (cs : Nat → ClassId) (A : Nat → Prop) (m0 : Nat) (ad : Nat → Nat) (v : Nat → Int) (g : Nat → Int → Int) (x : Int)  (N : Nat) (c0 : zCo) (hD : mD m0 ad) (hok : mOK v g) (hR : mR (g 0) c0) (hK : cOK N c0) (hx0 : InR x) : zM l D cs A yX13_articlesIn cX13_articlesIn 3 (some FieldType.int) 3 0 0 [.ref m0, .int (iI x)] (mW cs m0 ad v g) (mP cs m0 ad (fun r v1 g1 => mA v g r v1 g1 (sIss c0 x (fun s => (iTk s).length)))) := by
  refine zM_of (own := RX13) (by decide) rfl (Nat.le_of_ble_eq_true rfl) ?_
  intro p e s m below meth c hC hr hlk hnm hZ ls hl
  have hx := hC.x
  have hb := hC.b
  have hl : lv_has ls 3 [(0, .ref m0), (1, .int (iI x))] := hl
  have hm := mR_m hR hK
  refine lv_aload_n hx hb dX13_articlesIn_0 rfl (lv_at hl 0 rfl) ?_
  refine lv_iload_n hx hb dX13_articlesIn_1 rfl (lv_at hl 1 rfl) ?_
  refine z_calli (z_runV (rest := []) (As := [.int (iI x)]) (n := 1) (ci := 16) hC hZ (met_X13_issueAt l D cs A m0 ad v g x  hD hok (by omega) hm) gv_X13_200 hd_X13_issueAt rfl mW_o rfl hl rfl (Nat.le_of_ble_eq_true rfl) ⟨Nat.le_of_ble_eq_true rfl, Nat.le_of_ble_eq_true rfl⟩ ⟨Nat.le_of_ble_eq_true rfl, Nat.le_of_ble_eq_true rfl⟩ dX13_articlesIn_2) hZ (fun r2 _ H locs hp_1 hZ => ?_)
  obtain ⟨_, _, rfl, _, rfl, rfl, hp_1⟩ := hp_1
  rcases mPi_fi hR hK hp_1 with ⟨hz, hzi, er⟩ | ⟨i0, a0, hz, hzi, er, hi, hid, hib, hra, hka⟩
  · skip
    subst er
    refine lv_istore_n (lv' := [(2, .int (iI (-1))), (0, .ref m0), (1, .int (iI x))]) hx hb dX13_articlesIn_5 rfl hl (by decide) rfl (fun ls hl => ?_)
    refine lv_aload_n hx hb dX13_articlesIn_6 rfl (lv_at hl 1 rfl) ?_
    refine lv_iload_n hx hb dX13_articlesIn_7 rfl (lv_at hl 0 rfl) ?_
    refine z_if_lt (tgt := 15) hx hb dX13_articlesIn_8 (by decide) (by decide) (fun c_2 => ?_) (fun c_2 => ?_)
    · skip
      refine z_iconst hx hb dX13_articlesIn_15 ?_
      refine z_calli (z_runV (rest := []) (As := [.int (iI 0)]) (n := 1) (ci := 16) hC hZ (met_X13_isThere l D cs A m0 ad v g 0  hD hok (by decide)) gv_X13_126 hd_X13_isThere rfl mW_o rfl hl rfl (Nat.le_of_ble_eq_true rfl) ⟨Nat.le_of_ble_eq_true rfl, Nat.le_of_ble_eq_true rfl⟩ ⟨Nat.le_of_ble_eq_true rfl, Nat.le_of_ble_eq_true rfl⟩ dX13_articlesIn_16) hZ (fun r16 _ H locs hp_3 hZ => ?_)
      obtain ⟨_, _, rfl, hok_4, rfl, rfl, rfl⟩ := hp_3
      refine z_if_eq (tgt := 31) hx hb dX13_articlesIn_19 (by decide) (by decide) (fun c_5 => ?_) (fun c_5 => ?_)
      · skip
        refine z_iconst hx hb dX13_articlesIn_31 ?_
        exact z_iret hC hr hlk hZ (by decide) (by decide) (⟨_, _, rfl, hok_4, mA_of (t := 1) (y := 0) (by unfold sIss; rw [hz]) rfl rfl (fun q => absurd q (by decide))⟩) dX13_articlesIn_32
      · skip
        exfalso; omega
    · skip
      exfalso; omega
  · skip
    subst er
    obtain ⟨e0, e1, e2, e3, e4, e5, e6⟩ := hra
    refine lv_istore_n (lv' := [(2, .int (iI (i0 : Int))), (0, .ref m0), (1, .int (iI x))]) hx hb dX13_articlesIn_5 rfl hl (by decide) rfl (fun ls hl => ?_)
    refine lv_aload_n hx hb dX13_articlesIn_6 rfl (lv_at hl 1 rfl) ?_
    refine lv_iload_n hx hb dX13_articlesIn_7 rfl (lv_at hl 0 rfl) ?_
    refine z_if_lt (tgt := 15) hx hb dX13_articlesIn_8 (by decide) (by omega) (fun c_6 => ?_) (fun c_6 => ?_)
    · skip
      exfalso; omega
    · skip
      refine z_iconst hx hb dX13_articlesIn_11 ?_
      refine lv_goto (tgt := 16) hx hb dX13_articlesIn_12 (by decide) ?_
      refine z_calli (z_runV (rest := []) (As := [.int (iI 1)]) (n := 1) (ci := 16) hC hZ (met_X13_isThere l D cs A m0 ad v g 1  hD hok (by decide)) gv_X13_126 hd_X13_isThere rfl mW_o rfl hl rfl (Nat.le_of_ble_eq_true rfl) ⟨Nat.le_of_ble_eq_true rfl, Nat.le_of_ble_eq_true rfl⟩ ⟨Nat.le_of_ble_eq_true rfl, Nat.le_of_ble_eq_true rfl⟩ dX13_articlesIn_16) hZ (fun r16 _ H locs hp_7 hZ => ?_)
      obtain ⟨_, _, rfl, hok_8, rfl, rfl, rfl⟩ := hp_7
      refine z_if_eq (tgt := 31) hx hb dX13_articlesIn_19 (by decide) (by decide) (fun c_9 => ?_) (fun c_9 => ?_)
      · skip
        exfalso; omega
      · skip
        refine lv_aload_n hx hb dX13_articlesIn_22 rfl (lv_at hl 1 rfl) ?_
        refine lv_iload_n hx hb dX13_articlesIn_23 rfl (lv_at hl 0 rfl) ?_
        refine z_iconst hx hb dX13_articlesIn_24 ?_
        refine z_calli (z_runV (rest := []) (As := [.int (iI (i0 : Int)), .int (iI 5)]) (n := 2) (ci := 16) hC hZ (met_X13_ofIssue l D cs A m0 ad (upN v 6 (1 - 1)) g (i0 : Int) 5  hD hok_8 (by omega) (by omega)) gv_X13_194 hd_X13_ofIssue rfl mW_o rfl hl rfl (Nat.le_of_ble_eq_true rfl) ⟨Nat.le_of_ble_eq_true rfl, Nat.le_of_ble_eq_true rfl⟩ ⟨Nat.le_of_ble_eq_true rfl, Nat.le_of_ble_eq_true rfl⟩ dX13_articlesIn_25) hZ (fun r25 _ H locs hp_10 hZ => ?_)
        obtain ⟨_, _, rfl, _, rfl, rfl, rfl⟩ := hp_10
        have hr_11 : -2147483648 ≤ moi (g 0) (i0 : Int) 5 ∧ moi (g 0) (i0 : Int) 5 ≤ 2147483647 := hok_8.2 0 _
        refine lv_goto (tgt := 32) hx hb dX13_articlesIn_28 (by decide) ?_
        exact z_iret hC hr hlk hZ (by decide) (by decide) (⟨_, _, rfl, hok_8, mA_of (t := 0) (y := (iTk a0).length) (by unfold sIss; rw [hz]) rfl rfl (fun _ => by omega)⟩) dX13_articlesIn_32

set_option maxHeartbeats 4000000 in
set_option maxRecDepth 100000 in
theorem met_X13_linesIn (l : Launch) (D : va_G) (cs : Nat → ClassId) (A : Nat → Prop) (m0 : Nat) (ad : Nat → Nat) (v : Nat → Int) (g : Nat → Int → Int) (x : Int)  (N : Nat) (c0 : zCo) (hD : mD m0 ad) (hok : mOK v g) (hR : mR (g 0) c0) (hK : cOK N c0) (hx0 : InR x) : zM l D cs A yX13_linesIn cX13_linesIn 3 (some FieldType.int) 3 0 0 [.ref m0, .int (iI x)] (mW cs m0 ad v g) (mP cs m0 ad (fun r v1 g1 => mA v g r v1 g1 (sIss c0 x (fun s => iLi s)))) := by
  refine zM_of (own := RX13) (by decide) rfl (Nat.le_of_ble_eq_true rfl) ?_
  intro p e s m below meth c hC hr hlk hnm hZ ls hl
  have hx := hC.x
  have hb := hC.b
  have hl : lv_has ls 3 [(0, .ref m0), (1, .int (iI x))] := hl
  have hm := mR_m hR hK
  refine lv_aload_n hx hb dX13_linesIn_0 rfl (lv_at hl 0 rfl) ?_
  refine lv_iload_n hx hb dX13_linesIn_1 rfl (lv_at hl 1 rfl) ?_
  refine z_calli (z_runV (rest := []) (As := [.int (iI x)]) (n := 1) (ci := 16) hC hZ (met_X13_issueAt l D cs A m0 ad v g x  hD hok (by omega) hm) gv_X13_200 hd_X13_issueAt rfl mW_o rfl hl rfl (Nat.le_of_ble_eq_true rfl) ⟨Nat.le_of_ble_eq_true rfl, Nat.le_of_ble_eq_true rfl⟩ ⟨Nat.le_of_ble_eq_true rfl, Nat.le_of_ble_eq_true rfl⟩ dX13_linesIn_2) hZ (fun r2 _ H locs hp_1 hZ => ?_)
  obtain ⟨_, _, rfl, _, rfl, rfl, hp_1⟩ := hp_1
  rcases mPi_fi hR hK hp_1 with ⟨hz, hzi, er⟩ | ⟨i0, a0, hz, hzi, er, hi, hid, hib, hra, hka⟩
  · skip
    subst er
    refine lv_istore_n (lv' := [(2, .int (iI (-1))), (0, .ref m0), (1, .int (iI x))]) hx hb dX13_linesIn_5 rfl hl (by decide) rfl (fun ls hl => ?_)
    refine lv_aload_n hx hb dX13_linesIn_6 rfl (lv_at hl 1 rfl) ?_
    refine lv_iload_n hx hb dX13_linesIn_7 rfl (lv_at hl 0 rfl) ?_
    refine z_if_lt (tgt := 15) hx hb dX13_linesIn_8 (by decide) (by decide) (fun c_2 => ?_) (fun c_2 => ?_)
    · skip
      refine z_iconst hx hb dX13_linesIn_15 ?_
      refine z_calli (z_runV (rest := []) (As := [.int (iI 0)]) (n := 1) (ci := 16) hC hZ (met_X13_isThere l D cs A m0 ad v g 0  hD hok (by decide)) gv_X13_126 hd_X13_isThere rfl mW_o rfl hl rfl (Nat.le_of_ble_eq_true rfl) ⟨Nat.le_of_ble_eq_true rfl, Nat.le_of_ble_eq_true rfl⟩ ⟨Nat.le_of_ble_eq_true rfl, Nat.le_of_ble_eq_true rfl⟩ dX13_linesIn_16) hZ (fun r16 _ H locs hp_3 hZ => ?_)
      obtain ⟨_, _, rfl, hok_4, rfl, rfl, rfl⟩ := hp_3
      refine z_if_eq (tgt := 31) hx hb dX13_linesIn_19 (by decide) (by decide) (fun c_5 => ?_) (fun c_5 => ?_)
      · skip
        refine z_iconst hx hb dX13_linesIn_31 ?_
        exact z_iret hC hr hlk hZ (by decide) (by decide) (⟨_, _, rfl, hok_4, mA_of (t := 1) (y := 0) (by unfold sIss; rw [hz]) rfl rfl (fun q => absurd q (by decide))⟩) dX13_linesIn_32
      · skip
        exfalso; omega
    · skip
      exfalso; omega
  · skip
    subst er
    obtain ⟨e0, e1, e2, e3, e4, e5, e6⟩ := hra
    refine lv_istore_n (lv' := [(2, .int (iI (i0 : Int))), (0, .ref m0), (1, .int (iI x))]) hx hb dX13_linesIn_5 rfl hl (by decide) rfl (fun ls hl => ?_)
    refine lv_aload_n hx hb dX13_linesIn_6 rfl (lv_at hl 1 rfl) ?_
    refine lv_iload_n hx hb dX13_linesIn_7 rfl (lv_at hl 0 rfl) ?_
    refine z_if_lt (tgt := 15) hx hb dX13_linesIn_8 (by decide) (by omega) (fun c_6 => ?_) (fun c_6 => ?_)
    · skip
      exfalso; omega
    · skip
      refine z_iconst hx hb dX13_linesIn_11 ?_
      refine lv_goto (tgt := 16) hx hb dX13_linesIn_12 (by decide) ?_
      refine z_calli (z_runV (rest := []) (As := [.int (iI 1)]) (n := 1) (ci := 16) hC hZ (met_X13_isThere l D cs A m0 ad v g 1  hD hok (by decide)) gv_X13_126 hd_X13_isThere rfl mW_o rfl hl rfl (Nat.le_of_ble_eq_true rfl) ⟨Nat.le_of_ble_eq_true rfl, Nat.le_of_ble_eq_true rfl⟩ ⟨Nat.le_of_ble_eq_true rfl, Nat.le_of_ble_eq_true rfl⟩ dX13_linesIn_16) hZ (fun r16 _ H locs hp_7 hZ => ?_)
      obtain ⟨_, _, rfl, hok_8, rfl, rfl, rfl⟩ := hp_7
      refine z_if_eq (tgt := 31) hx hb dX13_linesIn_19 (by decide) (by decide) (fun c_9 => ?_) (fun c_9 => ?_)
      · skip
        exfalso; omega
      · skip
        refine lv_aload_n hx hb dX13_linesIn_22 rfl (lv_at hl 1 rfl) ?_
        refine lv_iload_n hx hb dX13_linesIn_23 rfl (lv_at hl 0 rfl) ?_
        refine z_iconst hx hb dX13_linesIn_24 ?_
        refine z_calli (z_runV (rest := []) (As := [.int (iI (i0 : Int)), .int (iI 4)]) (n := 2) (ci := 16) hC hZ (met_X13_ofIssue l D cs A m0 ad (upN v 6 (1 - 1)) g (i0 : Int) 4  hD hok_8 (by omega) (by omega)) gv_X13_194 hd_X13_ofIssue rfl mW_o rfl hl rfl (Nat.le_of_ble_eq_true rfl) ⟨Nat.le_of_ble_eq_true rfl, Nat.le_of_ble_eq_true rfl⟩ ⟨Nat.le_of_ble_eq_true rfl, Nat.le_of_ble_eq_true rfl⟩ dX13_linesIn_25) hZ (fun r25 _ H locs hp_10 hZ => ?_)
        obtain ⟨_, _, rfl, _, rfl, rfl, rfl⟩ := hp_10
        have hr_11 : -2147483648 ≤ moi (g 0) (i0 : Int) 4 ∧ moi (g 0) (i0 : Int) 4 ≤ 2147483647 := hok_8.2 0 _
        refine lv_goto (tgt := 32) hx hb dX13_linesIn_28 (by decide) ?_
        exact z_iret hC hr hlk hZ (by decide) (by decide) (⟨_, _, rfl, hok_8, mA_of (t := 0) (y := iLi a0) (by unfold sIss; rw [hz]) rfl rfl (fun _ => by omega)⟩) dX13_linesIn_32

set_option maxHeartbeats 4000000 in
set_option maxRecDepth 100000 in
theorem met_X13_age (l : Launch) (D : va_G) (cs : Nat → ClassId) (A : Nat → Prop) (m0 : Nat) (ad : Nat → Nat) (v : Nat → Int) (g : Nat → Int → Int) (a : Int)  (hD : mD m0 ad) (hok : mOK v g) (ha0 : 0 ≤ a ∧ a ≤ 3) : zM l D cs A yX13_age cX13_age 2 (some FieldType.int) 2 0 0 [.ref m0, .int (iI a)] (mW cs m0 ad v g) (mP cs m0 ad (fun r v1 g1 => v = v1 ∧ g = g1 ∧ g 0 5 - moi (g 0) a 1 = r)) := by
  refine zM_of (own := RX13) (by decide) rfl (Nat.le_of_ble_eq_true rfl) ?_
  intro p e s m below meth c hC hr hlk hnm hZ ls hl
  have hx := hC.x
  have hb := hC.b
  have hl : lv_has ls 2 [(0, .ref m0), (1, .int (iI a))] := hl
  refine lv_aload_n hx hb dX13_age_0 rfl (lv_at hl 0 rfl) ?_
  refine m_get hC hZ 0 (x := .ref (ad 0)) rfl (by decide) ql_X13_9 rfl dX13_age_1 ?_
  refine z_iconst hx hb dX13_age_4 ?_
  refine m_iald hC hZ hD 0 (by decide) (f := g 0) rfl rfl (by decide) (by decide) dX13_age_5 ?_
  have hr_1 : -2147483648 ≤ (g 0) 5 ∧ (g 0) 5 ≤ 2147483647 := hok.2 0 _
  refine lv_aload_n hx hb dX13_age_6 rfl (lv_at hl 0 rfl) ?_
  refine lv_iload_n hx hb dX13_age_7 rfl (lv_at hl 1 rfl) ?_
  refine z_iconst hx hb dX13_age_8 ?_
  refine z_calli (z_runV (rest := [.int (iI ((g 0) 5))]) (As := [.int (iI a), .int (iI 1)]) (n := 2) (ci := 16) hC hZ (met_X13_ofIssue l D cs A m0 ad v g a 1  hD hok (by omega) (by omega)) gv_X13_194 hd_X13_ofIssue rfl mW_o rfl hl rfl (Nat.le_of_ble_eq_true rfl) ⟨Nat.le_of_ble_eq_true rfl, Nat.le_of_ble_eq_true rfl⟩ ⟨Nat.le_of_ble_eq_true rfl, Nat.le_of_ble_eq_true rfl⟩ dX13_age_9) hZ (fun r9 _ H locs hp_2 hZ => ?_)
  obtain ⟨_, _, rfl, _, rfl, rfl, rfl⟩ := hp_2
  have hr_3 : -2147483648 ≤ moi (g 0) a 1 ∧ moi (g 0) a 1 ≤ 2147483647 := hok.2 0 _
  refine z_isub hx hb dX13_age_12 ?_
  exact z_iret hC hr hlk hZ (by decide) (by decide) (⟨_, _, rfl, ‹mOK v g›, rfl, rfl, rfl⟩) dX13_age_13

set_option maxHeartbeats 4000000 in
set_option maxRecDepth 100000 in
theorem met_X13_isReadable (l : Launch) (D : va_G) (cs : Nat → ClassId) (A : Nat → Prop) (m0 : Nat) (ad : Nat → Nat) (v : Nat → Int) (g : Nat → Int → Int) (x : Int)  (N : Nat) (c0 : zCo) (hD : mD m0 ad) (hok : mOK v g) (hR : mR (g 0) c0) (hK : cOK N c0) (hx0 : InR x) (hN : N ≤ 1000) : zM l D cs A yX13_isReadable cX13_isReadable 3 (some FieldType.boolean) 3 0 0 [.ref m0, .int (iI x)] (mW cs m0 ad v g) (mP cs m0 ad (fun r v1 g1 => mA v g r v1 g1 (sIss c0 x (fun s => if cDa c0 - iPr s < 5 then 1 else 0)))) := by
  refine zM_of (own := RX13) (by decide) rfl (Nat.le_of_ble_eq_true rfl) ?_
  intro p e s m below meth c hC hr hlk hnm hZ ls hl
  have hx := hC.x
  have hb := hC.b
  have hl : lv_has ls 3 [(0, .ref m0), (1, .int (iI x))] := hl
  have hm := mR_m hR hK
  have hdb := hK.2.2.2.2.2.2.2.2.2.2.2.1
  refine lv_aload_n hx hb dX13_isReadable_0 rfl (lv_at hl 0 rfl) ?_
  refine lv_iload_n hx hb dX13_isReadable_1 rfl (lv_at hl 1 rfl) ?_
  refine z_calli (z_runV (rest := []) (As := [.int (iI x)]) (n := 1) (ci := 16) hC hZ (met_X13_issueAt l D cs A m0 ad v g x  hD hok (by omega) hm) gv_X13_200 hd_X13_issueAt rfl mW_o rfl hl rfl (Nat.le_of_ble_eq_true rfl) ⟨Nat.le_of_ble_eq_true rfl, Nat.le_of_ble_eq_true rfl⟩ ⟨Nat.le_of_ble_eq_true rfl, Nat.le_of_ble_eq_true rfl⟩ dX13_isReadable_2) hZ (fun r2 _ H locs hp_1 hZ => ?_)
  obtain ⟨_, _, rfl, _, rfl, rfl, hp_1⟩ := hp_1
  rcases mPi_fi hR hK hp_1 with ⟨hz, hzi, er⟩ | ⟨i0, a0, hz, hzi, er, hi, hid, hib, hra, hka⟩
  · skip
    subst er
    refine lv_istore_n (lv' := [(2, .int (iI (-1))), (0, .ref m0), (1, .int (iI x))]) hx hb dX13_isReadable_5 rfl hl (by decide) rfl (fun ls hl => ?_)
    refine lv_aload_n hx hb dX13_isReadable_6 rfl (lv_at hl 1 rfl) ?_
    refine lv_iload_n hx hb dX13_isReadable_7 rfl (lv_at hl 0 rfl) ?_
    refine z_if_lt (tgt := 15) hx hb dX13_isReadable_8 (by decide) (by decide) (fun c_2 => ?_) (fun c_2 => ?_)
    · skip
      refine z_iconst hx hb dX13_isReadable_15 ?_
      refine z_calli (z_runV (rest := []) (As := [.int (iI 0)]) (n := 1) (ci := 16) hC hZ (met_X13_isThere l D cs A m0 ad v g 0  hD hok (by decide)) gv_X13_126 hd_X13_isThere rfl mW_o rfl hl rfl (Nat.le_of_ble_eq_true rfl) ⟨Nat.le_of_ble_eq_true rfl, Nat.le_of_ble_eq_true rfl⟩ ⟨Nat.le_of_ble_eq_true rfl, Nat.le_of_ble_eq_true rfl⟩ dX13_isReadable_16) hZ (fun r16 _ H locs hp_3 hZ => ?_)
      obtain ⟨_, _, rfl, hok_4, rfl, rfl, rfl⟩ := hp_3
      refine z_if_eq (tgt := 35) hx hb dX13_isReadable_19 (by decide) (by decide) (fun c_5 => ?_) (fun c_5 => ?_)
      · skip
        refine z_iconst hx hb dX13_isReadable_35 ?_
        exact z_zret hC hr hlk hZ rfl (by decide) (by decide) (⟨_, _, rfl, hok_4, mA_of (t := 1) (y := 0) (by unfold sIss; rw [hz]) rfl rfl (fun q => absurd q (by decide))⟩) dX13_isReadable_36
      · skip
        exfalso; omega
    · skip
      exfalso; omega
  · skip
    subst er
    have hda := hR.2.2.2.2.2.1
    obtain ⟨e0, e1, e2, e3, e4, e5, e6⟩ := hra
    have hpr := hka.2.2.2.2.2.2.2
    refine lv_istore_n (lv' := [(2, .int (iI (i0 : Int))), (0, .ref m0), (1, .int (iI x))]) hx hb dX13_isReadable_5 rfl hl (by decide) rfl (fun ls hl => ?_)
    refine lv_aload_n hx hb dX13_isReadable_6 rfl (lv_at hl 1 rfl) ?_
    refine lv_iload_n hx hb dX13_isReadable_7 rfl (lv_at hl 0 rfl) ?_
    refine z_if_lt (tgt := 15) hx hb dX13_isReadable_8 (by decide) (by omega) (fun c_6 => ?_) (fun c_6 => ?_)
    · skip
      exfalso; omega
    · skip
      refine z_iconst hx hb dX13_isReadable_11 ?_
      refine lv_goto (tgt := 16) hx hb dX13_isReadable_12 (by decide) ?_
      refine z_calli (z_runV (rest := []) (As := [.int (iI 1)]) (n := 1) (ci := 16) hC hZ (met_X13_isThere l D cs A m0 ad v g 1  hD hok (by decide)) gv_X13_126 hd_X13_isThere rfl mW_o rfl hl rfl (Nat.le_of_ble_eq_true rfl) ⟨Nat.le_of_ble_eq_true rfl, Nat.le_of_ble_eq_true rfl⟩ ⟨Nat.le_of_ble_eq_true rfl, Nat.le_of_ble_eq_true rfl⟩ dX13_isReadable_16) hZ (fun r16 _ H locs hp_7 hZ => ?_)
      obtain ⟨_, _, rfl, hok_8, rfl, rfl, rfl⟩ := hp_7
      refine z_if_eq (tgt := 35) hx hb dX13_isReadable_19 (by decide) (by decide) (fun c_9 => ?_) (fun c_9 => ?_)
      · skip
        exfalso; omega
      · skip
        refine lv_aload_n hx hb dX13_isReadable_22 rfl (lv_at hl 1 rfl) ?_
        refine lv_iload_n hx hb dX13_isReadable_23 rfl (lv_at hl 0 rfl) ?_
        refine z_calli (z_runV (rest := []) (As := [.int (iI (i0 : Int))]) (n := 1) (ci := 16) hC hZ (met_X13_age l D cs A m0 ad (upN v 6 (1 - 1)) g (i0 : Int)  hD hok_8 (by omega)) gv_X13_203 hd_X13_age rfl mW_o rfl hl rfl (Nat.le_of_ble_eq_true rfl) ⟨Nat.le_of_ble_eq_true rfl, Nat.le_of_ble_eq_true rfl⟩ ⟨Nat.le_of_ble_eq_true rfl, Nat.le_of_ble_eq_true rfl⟩ dX13_isReadable_24) hZ (fun r24 _ H locs hp_10 hZ => ?_)
        obtain ⟨_, _, rfl, _, rfl, rfl, rfl⟩ := hp_10
        have hr_11 : -2147483648 ≤ moi (g 0) (i0 : Int) 1 ∧ moi (g 0) (i0 : Int) 1 ≤ 2147483647 := hok_8.2 0 _
        have hr_12 : -2147483648 ≤ (g 0) 5 ∧ (g 0) 5 ≤ 2147483647 := hok_8.2 0 _
        refine z_iconst hx hb dX13_isReadable_27 ?_
        refine z_icmp_ge (tgt := 35) hx hb dX13_isReadable_28 (by decide) (by omega) (by decide) (fun c_13 => ?_) (fun c_13 => ?_)
        · skip
          refine z_iconst hx hb dX13_isReadable_35 ?_
          exact z_zret hC hr hlk hZ rfl (by decide) (by decide) (⟨_, _, rfl, hok_8, mA_of (t := 0) (y := if cDa c0 - iPr a0 < 5 then 1 else 0) (by unfold sIss; rw [hz]) rfl rfl (fun _ => by rw [if_neg (by omega)])⟩) dX13_isReadable_36
        · skip
          refine z_iconst hx hb dX13_isReadable_31 ?_
          refine lv_goto (tgt := 36) hx hb dX13_isReadable_32 (by decide) ?_
          exact z_zret hC hr hlk hZ rfl (by decide) (by decide) (⟨_, _, rfl, hok_8, mA_of (t := 0) (y := if cDa c0 - iPr a0 < 5 then 1 else 0) (by unfold sIss; rw [hz]) rfl rfl (fun _ => by rw [if_pos (by omega)])⟩) dX13_isReadable_36

set_option maxHeartbeats 4000000 in
set_option maxRecDepth 100000 in
theorem met_X13_daysUntilUnreadable (l : Launch) (D : va_G) (cs : Nat → ClassId) (A : Nat → Prop) (m0 : Nat) (ad : Nat → Nat) (v : Nat → Int) (g : Nat → Int → Int) (x : Int)  (N : Nat) (c0 : zCo) (hD : mD m0 ad) (hok : mOK v g) (hR : mR (g 0) c0) (hK : cOK N c0) (hx0 : InR x) (hN : N ≤ 1000) : zM l D cs A yX13_daysUntilUnreadable cX13_daysUntilUnreadable 3 (some FieldType.int) 3 0 0 [.ref m0, .int (iI x)] (mW cs m0 ad v g) (mP cs m0 ad (fun r v1 g1 => mA v g r v1 g1 (sIss c0 x (fun s => if cDa c0 - iPr s < 5 then 5 - (cDa c0 - iPr s) else 0)))) := by
  refine zM_of (own := RX13) (by decide) rfl (Nat.le_of_ble_eq_true rfl) ?_
  intro p e s m below meth c hC hr hlk hnm hZ ls hl
  have hx := hC.x
  have hb := hC.b
  have hl : lv_has ls 3 [(0, .ref m0), (1, .int (iI x))] := hl
  have hm := mR_m hR hK
  have hdb := hK.2.2.2.2.2.2.2.2.2.2.2.1
  refine lv_aload_n hx hb dX13_daysUntilUnreadable_0 rfl (lv_at hl 0 rfl) ?_
  refine lv_iload_n hx hb dX13_daysUntilUnreadable_1 rfl (lv_at hl 1 rfl) ?_
  refine z_calli (z_runV (rest := []) (As := [.int (iI x)]) (n := 1) (ci := 16) hC hZ (met_X13_issueAt l D cs A m0 ad v g x  hD hok (by omega) hm) gv_X13_200 hd_X13_issueAt rfl mW_o rfl hl rfl (Nat.le_of_ble_eq_true rfl) ⟨Nat.le_of_ble_eq_true rfl, Nat.le_of_ble_eq_true rfl⟩ ⟨Nat.le_of_ble_eq_true rfl, Nat.le_of_ble_eq_true rfl⟩ dX13_daysUntilUnreadable_2) hZ (fun r2 _ H locs hp_1 hZ => ?_)
  obtain ⟨_, _, rfl, _, rfl, rfl, hp_1⟩ := hp_1
  rcases mPi_fi hR hK hp_1 with ⟨hz, hzi, er⟩ | ⟨i0, a0, hz, hzi, er, hi, hid, hib, hra, hka⟩
  · skip
    subst er
    refine lv_istore_n (lv' := [(2, .int (iI (-1))), (0, .ref m0), (1, .int (iI x))]) hx hb dX13_daysUntilUnreadable_5 rfl hl (by decide) rfl (fun ls hl => ?_)
    refine lv_aload_n hx hb dX13_daysUntilUnreadable_6 rfl (lv_at hl 1 rfl) ?_
    refine lv_iload_n hx hb dX13_daysUntilUnreadable_7 rfl (lv_at hl 0 rfl) ?_
    refine z_if_lt (tgt := 15) hx hb dX13_daysUntilUnreadable_8 (by decide) (by decide) (fun c_2 => ?_) (fun c_2 => ?_)
    · skip
      refine z_iconst hx hb dX13_daysUntilUnreadable_15 ?_
      refine z_calli (z_runV (rest := []) (As := [.int (iI 0)]) (n := 1) (ci := 16) hC hZ (met_X13_isThere l D cs A m0 ad v g 0  hD hok (by decide)) gv_X13_126 hd_X13_isThere rfl mW_o rfl hl rfl (Nat.le_of_ble_eq_true rfl) ⟨Nat.le_of_ble_eq_true rfl, Nat.le_of_ble_eq_true rfl⟩ ⟨Nat.le_of_ble_eq_true rfl, Nat.le_of_ble_eq_true rfl⟩ dX13_daysUntilUnreadable_16) hZ (fun r16 _ H locs hp_3 hZ => ?_)
      obtain ⟨_, _, rfl, hok_4, rfl, rfl, rfl⟩ := hp_3
      refine z_if_eq (tgt := 36) hx hb dX13_daysUntilUnreadable_19 (by decide) (by decide) (fun c_5 => ?_) (fun c_5 => ?_)
      · skip
        refine z_iconst hx hb dX13_daysUntilUnreadable_36 ?_
        exact z_iret hC hr hlk hZ (by decide) (by decide) (⟨_, _, rfl, hok_4, mA_of (t := 1) (y := 0) (by unfold sIss; rw [hz]) rfl rfl (fun q => absurd q (by decide))⟩) dX13_daysUntilUnreadable_37
      · skip
        exfalso; omega
    · skip
      exfalso; omega
  · skip
    subst er
    have hda := hR.2.2.2.2.2.1
    obtain ⟨e0, e1, e2, e3, e4, e5, e6⟩ := hra
    have hpr := hka.2.2.2.2.2.2.2
    refine lv_istore_n (lv' := [(2, .int (iI (i0 : Int))), (0, .ref m0), (1, .int (iI x))]) hx hb dX13_daysUntilUnreadable_5 rfl hl (by decide) rfl (fun ls hl => ?_)
    refine lv_aload_n hx hb dX13_daysUntilUnreadable_6 rfl (lv_at hl 1 rfl) ?_
    refine lv_iload_n hx hb dX13_daysUntilUnreadable_7 rfl (lv_at hl 0 rfl) ?_
    refine z_if_lt (tgt := 15) hx hb dX13_daysUntilUnreadable_8 (by decide) (by omega) (fun c_6 => ?_) (fun c_6 => ?_)
    · skip
      exfalso; omega
    · skip
      refine z_iconst hx hb dX13_daysUntilUnreadable_11 ?_
      refine lv_goto (tgt := 16) hx hb dX13_daysUntilUnreadable_12 (by decide) ?_
      refine z_calli (z_runV (rest := []) (As := [.int (iI 1)]) (n := 1) (ci := 16) hC hZ (met_X13_isThere l D cs A m0 ad v g 1  hD hok (by decide)) gv_X13_126 hd_X13_isThere rfl mW_o rfl hl rfl (Nat.le_of_ble_eq_true rfl) ⟨Nat.le_of_ble_eq_true rfl, Nat.le_of_ble_eq_true rfl⟩ ⟨Nat.le_of_ble_eq_true rfl, Nat.le_of_ble_eq_true rfl⟩ dX13_daysUntilUnreadable_16) hZ (fun r16 _ H locs hp_7 hZ => ?_)
      obtain ⟨_, _, rfl, hok_8, rfl, rfl, rfl⟩ := hp_7
      refine z_if_eq (tgt := 36) hx hb dX13_daysUntilUnreadable_19 (by decide) (by decide) (fun c_9 => ?_) (fun c_9 => ?_)
      · skip
        exfalso; omega
      · skip
        refine z_iconst hx hb dX13_daysUntilUnreadable_22 ?_
        refine z_iconst hx hb dX13_daysUntilUnreadable_23 ?_
        refine lv_aload_n hx hb dX13_daysUntilUnreadable_24 rfl (lv_at hl 1 rfl) ?_
        refine lv_iload_n hx hb dX13_daysUntilUnreadable_25 rfl (lv_at hl 0 rfl) ?_
        refine z_calli (z_runV (rest := [.int (iI 5), .int (iI 0)]) (As := [.int (iI (i0 : Int))]) (n := 1) (ci := 16) hC hZ (met_X13_age l D cs A m0 ad (upN v 6 (1 - 1)) g (i0 : Int)  hD hok_8 (by omega)) gv_X13_203 hd_X13_age rfl mW_o rfl hl rfl (Nat.le_of_ble_eq_true rfl) ⟨Nat.le_of_ble_eq_true rfl, Nat.le_of_ble_eq_true rfl⟩ ⟨Nat.le_of_ble_eq_true rfl, Nat.le_of_ble_eq_true rfl⟩ dX13_daysUntilUnreadable_26) hZ (fun r26 _ H locs hp_10 hZ => ?_)
        obtain ⟨_, _, rfl, _, rfl, rfl, rfl⟩ := hp_10
        have hr_11 : -2147483648 ≤ moi (g 0) (i0 : Int) 1 ∧ moi (g 0) (i0 : Int) 1 ≤ 2147483647 := hok_8.2 0 _
        have hr_12 : -2147483648 ≤ (g 0) 5 ∧ (g 0) 5 ≤ 2147483647 := hok_8.2 0 _
        refine z_isub hx hb dX13_daysUntilUnreadable_29 ?_
        refine z_mmax (rest := []) hC hl qm_X13_174 (by decide) (by omega) ⟨Nat.le_of_ble_eq_true rfl, Nat.le_of_ble_eq_true rfl⟩ ⟨Nat.le_of_ble_eq_true rfl, Nat.le_of_ble_eq_true rfl⟩ dX13_daysUntilUnreadable_30 (fun r30 hmx30 => ?_)
        refine lv_goto (tgt := 37) hx hb dX13_daysUntilUnreadable_33 (by decide) ?_
        exact z_iret hC hr hlk hZ (by decide) (by decide) (⟨_, _, rfl, hok_8, mA_of (t := 0) (y := if cDa c0 - iPr a0 < 5 then 5 - (cDa c0 - iPr a0) else 0) (by unfold sIss; rw [hz]) rfl rfl (fun _ => by split <;> omega)⟩) dX13_daysUntilUnreadable_37

set_option maxHeartbeats 4000000 in
set_option maxRecDepth 100000 in
theorem met_X13_firstLine (l : Launch) (D : va_G) (cs : Nat → ClassId) (A : Nat → Prop) (m0 : Nat) (ad : Nat → Nat) (v : Nat → Int) (g : Nat → Int → Int) (a x : Int)  (hD : mD m0 ad) (hok : mOK v g) (ha0 : 0 ≤ a ∧ a ≤ 3) (hx0 : InR x) (hn : 0 ≤ moi (g 0) a 5 ∧ moi (g 0) a 5 ≤ 6) : zM l D cs A yX13_firstLine cX13_firstLine 5 (some FieldType.int) 2 0 0 [.ref m0, .int (iI a), .int (iI x)] (mW cs m0 ad v g) (mP cs m0 ad (fun r v1 g1 => v = v1 ∧ g = g1 ∧ mFl (g 0) a (moi (g 0) a 5) x r)) := by
  refine zM_of (own := RX13) (by decide) rfl (Nat.le_of_ble_eq_true rfl) ?_
  intro p e s m below meth c hC hr hlk hnm hZ ls hl
  have hx := hC.x
  have hb := hC.b
  have hl : lv_has ls 5 [(0, .ref m0), (1, .int (iI a)), (2, .int (iI x))] := hl
  refine z_iconst hx hb dX13_firstLine_0 ?_
  refine lv_istore_n (lv' := [(3, .int (iI (-1))), (0, .ref m0), (1, .int (iI a)), (2, .int (iI x))]) hx hb dX13_firstLine_1 rfl hl (by decide) rfl (fun ls hl => ?_)
  refine z_iconst hx hb dX13_firstLine_2 ?_
  refine lv_istore (lv' := [(4, .int (iI 0)), (3, .int (iI (-1))), (0, .ref m0), (1, .int (iI a)), (2, .int (iI x))]) hx hb dX13_firstLine_3 hl (by decide) rfl (fun ls hl => ?_)
  have L5_k_1 : ∀ (fu : Nat) (f i : Int)  (hfu : (moi (g 0) a 5 - i).toNat < fu) (hi5_0 : 0 ≤ i ∧ i ≤ moi (g 0) a 5) (hi5_1 : InR f) (hi5_2 : mFl (g 0) a i x f) (H : Heap) (locs : List Loc) (hZ : zS D A s (mW cs m0 ad v g) H locs) (ls : Array Slot) (hl : lv_has ls 5 [(4, .int (iI i)), (3, .int (iI f)), (0, .ref m0), (1, .int (iI a)), (2, .int (iI x))]), W p l e (zR 2 0 0) s m [.ref m0, .int (iI a), .int (iI x)].toArray below meth c H locs 0 0 (MQ below (zQ D A (mP cs m0 ad (fun r v1 g1 => v = v1 ∧ g = g1 ∧ mFl (g 0) a (moi (g 0) a 5) x r))) [.ref m0, .int (iI a), .int (iI x)].toArray s 0 0 A) (F0 m 5 ls []) := by
    intro fu
    induction fu with
    | zero =>
      intro f i  hfu
      exact absurd hfu (Nat.not_lt_zero _)
    | succ fu ih5 =>
      intro f i  hfu hi5_0 hi5_1 hi5_2  H locs hZ ls hl
      refine lv_iload hx hb dX13_firstLine_5 (lv_at hl 0 rfl) ?_
      refine lv_aload_n hx hb dX13_firstLine_7 rfl (lv_at hl 2 rfl) ?_
      refine lv_iload_n hx hb dX13_firstLine_8 rfl (lv_at hl 3 rfl) ?_
      refine z_iconst hx hb dX13_firstLine_9 ?_
      refine z_calli (z_runV (rest := [.int (iI i)]) (As := [.int (iI a), .int (iI 5)]) (n := 2) (ci := 16) hC hZ (met_X13_ofIssue l D cs A m0 ad v g a 5  hD hok (by omega) (by omega)) gv_X13_194 hd_X13_ofIssue rfl mW_o rfl hl rfl (Nat.le_of_ble_eq_true rfl) ⟨Nat.le_of_ble_eq_true rfl, Nat.le_of_ble_eq_true rfl⟩ ⟨Nat.le_of_ble_eq_true rfl, Nat.le_of_ble_eq_true rfl⟩ dX13_firstLine_10) hZ (fun r10 _ H locs hp_2 hZ => ?_)
      obtain ⟨_, _, rfl, _, rfl, rfl, rfl⟩ := hp_2
      have hr_3 : -2147483648 ≤ moi (g 0) a 5 ∧ moi (g 0) a 5 ≤ 2147483647 := hok.2 0 _
      refine z_icmp_ge (tgt := 57) hx hb dX13_firstLine_13 (by decide) (by omega) (by omega) (fun c_4 => ?_) (fun c_4 => ?_)
      · skip
        refine lv_iload_n hx hb dX13_firstLine_57 rfl (lv_at hl 1 rfl) ?_
        exact z_iret hC hr hlk hZ (by decide) (by decide) (⟨_, _, rfl, ‹mOK v g›, rfl, rfl, (by rw [show moi (g 0) a 5 = i by omega]; exact hi5_2)⟩) dX13_firstLine_58
      · skip
        refine lv_aload_n hx hb dX13_firstLine_16 rfl (lv_at hl 2 rfl) ?_
        refine lv_iload_n hx hb dX13_firstLine_17 rfl (lv_at hl 3 rfl) ?_
        refine z_bipush hx hb dX13_firstLine_18 (by decide) ?_
        refine z_iconst hx hb dX13_firstLine_20 ?_
        refine lv_iload hx hb dX13_firstLine_21 (lv_at hl 0 rfl) ?_
        refine z_imul hx hb dX13_firstLine_23 ?_
        refine z_iadd hx hb dX13_firstLine_24 ?_
        refine z_calli (z_runV (rest := []) (As := [.int (iI a), .int (iI (6 + (2 * i)))]) (n := 2) (ci := 16) hC hZ (met_X13_ofIssue l D cs A m0 ad v g a (6 + (2 * i))  hD hok (by omega) (by omega)) gv_X13_194 hd_X13_ofIssue rfl mW_o rfl hl rfl (Nat.le_of_ble_eq_true rfl) ⟨Nat.le_of_ble_eq_true rfl, Nat.le_of_ble_eq_true rfl⟩ ⟨Nat.le_of_ble_eq_true rfl, Nat.le_of_ble_eq_true rfl⟩ dX13_firstLine_25) hZ (fun r25 _ H locs hp_5 hZ => ?_)
        obtain ⟨_, _, rfl, _, rfl, rfl, rfl⟩ := hp_5
        have hr_6 : -2147483648 ≤ moi (g 0) a (6 + (2 * i)) ∧ moi (g 0) a (6 + (2 * i)) ≤ 2147483647 := hok.2 0 _
        refine lv_iload_n hx hb dX13_firstLine_28 rfl (lv_at hl 4 rfl) ?_
        refine z_icmp_ne (tgt := 49) hx hb dX13_firstLine_29 (by decide) (by omega) (by omega) (fun c_7 => ?_) (fun c_7 => ?_)
        · skip
          refine lv_iload_n hx hb dX13_firstLine_49 rfl (lv_at hl 1 rfl) ?_
          refine lv_istore_n (lv' := [(3, .int (iI f)), (4, .int (iI i)), (0, .ref m0), (1, .int (iI a)), (2, .int (iI x))]) hx hb dX13_firstLine_50 rfl hl (by decide) rfl (fun ls hl => ?_)
          refine z_iinc (lv' := [(4, .int (iI (i + 1))), (3, .int (iI f)), (0, .ref m0), (1, .int (iI a)), (2, .int (iI x))]) hx hb dX13_firstLine_51 hl (k := 1) rfl (by decide) rfl (fun ls hl => ?_)
          refine lv_goto (tgt := 5) hx hb dX13_firstLine_54 (by decide) ?_
          exact ih5 f (i + 1)  (by omega) (by omega) (by omega) (mFl_n hi5_2 (by omega))  _ _ hZ ls (lv_sub hl [0, 1, 2, 3, 4] rfl)
        · skip
          refine lv_aload_n hx hb dX13_firstLine_32 rfl (lv_at hl 2 rfl) ?_
          refine lv_iload_n hx hb dX13_firstLine_33 rfl (lv_at hl 3 rfl) ?_
          refine z_bipush hx hb dX13_firstLine_34 (by decide) ?_
          refine z_iconst hx hb dX13_firstLine_36 ?_
          refine lv_iload hx hb dX13_firstLine_37 (lv_at hl 0 rfl) ?_
          refine z_imul hx hb dX13_firstLine_39 ?_
          refine z_iadd hx hb dX13_firstLine_40 ?_
          refine z_iconst hx hb dX13_firstLine_41 ?_
          refine z_iadd hx hb dX13_firstLine_42 ?_
          refine z_calli (z_runV (rest := []) (As := [.int (iI a), .int (iI ((6 + (2 * i)) + 1))]) (n := 2) (ci := 16) hC hZ (met_X13_ofIssue l D cs A m0 ad v g a ((6 + (2 * i)) + 1)  hD hok (by omega) (by omega)) gv_X13_194 hd_X13_ofIssue rfl mW_o rfl hl rfl (Nat.le_of_ble_eq_true rfl) ⟨Nat.le_of_ble_eq_true rfl, Nat.le_of_ble_eq_true rfl⟩ ⟨Nat.le_of_ble_eq_true rfl, Nat.le_of_ble_eq_true rfl⟩ dX13_firstLine_43) hZ (fun r43 _ H locs hp_8 hZ => ?_)
          obtain ⟨_, _, rfl, _, rfl, rfl, rfl⟩ := hp_8
          have hr_9 : -2147483648 ≤ moi (g 0) a ((6 + (2 * i)) + 1) ∧ moi (g 0) a ((6 + (2 * i)) + 1) ≤ 2147483647 := hok.2 0 _
          refine lv_goto (tgt := 50) hx hb dX13_firstLine_46 (by decide) ?_
          refine lv_istore_n (lv' := [(3, .int (iI (moi (g 0) a ((6 + (2 * i)) + 1)))), (4, .int (iI i)), (0, .ref m0), (1, .int (iI a)), (2, .int (iI x))]) hx hb dX13_firstLine_50 rfl hl (by decide) rfl (fun ls hl => ?_)
          refine z_iinc (lv' := [(4, .int (iI (i + 1))), (3, .int (iI (moi (g 0) a ((6 + (2 * i)) + 1)))), (0, .ref m0), (1, .int (iI a)), (2, .int (iI x))]) hx hb dX13_firstLine_51 hl (k := 1) rfl (by decide) rfl (fun ls hl => ?_)
          refine lv_goto (tgt := 5) hx hb dX13_firstLine_54 (by decide) ?_
          exact ih5 (moi (g 0) a ((6 + (2 * i)) + 1)) (i + 1)  (by omega) (by omega) (by omega) (mFl_y (by omega) (by omega))  _ _ hZ ls (lv_sub hl [0, 1, 2, 3, 4] rfl)
  exact L5_k_1 _ (-1) 0  (Nat.lt_succ_self _) (by omega) (by decide) mFl_0  _ _ hZ ls (lv_sub hl [0, 1, 2, 3, 4] rfl)

set_option maxHeartbeats 4000000 in
set_option maxRecDepth 100000 in
theorem met_X13_columnOf (l : Launch) (D : va_G) (cs : Nat → ClassId) (A : Nat → Prop) (m0 : Nat) (ad : Nat → Nat) (v : Nat → Int) (g : Nat → Int → Int) (x y : Int)  (N : Nat) (c0 : zCo) (hD : mD m0 ad) (hok : mOK v g) (hR : mR (g 0) c0) (hK : cOK N c0) (hx0 : InR x) (hy0 : InR y) : zM l D cs A yX13_columnOf cX13_columnOf 5 (some FieldType.int) 3 0 0 [.ref m0, .int (iI x), .int (iI y)] (mW cs m0 ad v g) (mP cs m0 ad (fun r v1 g1 => mA v g r v1 g1 (sPos c0 x y (fun s l => l / iHe s)))) := by
  refine zM_of (own := RX13) (by decide) rfl (Nat.le_of_ble_eq_true rfl) ?_
  intro p e s m below meth c hC hr hlk hnm hZ ls hl
  have hx := hC.x
  have hb := hC.b
  have hl : lv_has ls 5 [(0, .ref m0), (1, .int (iI x)), (2, .int (iI y))] := hl
  have hm := mR_m hR hK
  refine lv_aload_n hx hb dX13_columnOf_0 rfl (lv_at hl 0 rfl) ?_
  refine lv_iload_n hx hb dX13_columnOf_1 rfl (lv_at hl 1 rfl) ?_
  refine z_calli (z_runV (rest := []) (As := [.int (iI x)]) (n := 1) (ci := 16) hC hZ (met_X13_issueAt l D cs A m0 ad v g x  hD hok (by omega) hm) gv_X13_200 hd_X13_issueAt rfl mW_o rfl hl rfl (Nat.le_of_ble_eq_true rfl) ⟨Nat.le_of_ble_eq_true rfl, Nat.le_of_ble_eq_true rfl⟩ ⟨Nat.le_of_ble_eq_true rfl, Nat.le_of_ble_eq_true rfl⟩ dX13_columnOf_2) hZ (fun r2 _ H locs hp_1 hZ => ?_)
  obtain ⟨_, _, rfl, _, rfl, rfl, hp_1⟩ := hp_1
  rcases mPi_fi hR hK hp_1 with ⟨hz, hzi, er⟩ | ⟨i0, a0, hz, hzi, er, hi, hid, hib, hra, hka⟩
  · skip
    subst er
    refine lv_istore_n (lv' := [(3, .int (iI (-1))), (0, .ref m0), (1, .int (iI x)), (2, .int (iI y))]) hx hb dX13_columnOf_5 rfl hl (by decide) rfl (fun ls hl => ?_)
    refine lv_iload_n hx hb dX13_columnOf_6 rfl (lv_at hl 0 rfl) ?_
    refine z_if_ge (tgt := 14) hx hb dX13_columnOf_7 (by decide) (by decide) (fun c_2 => ?_) (fun c_2 => ?_)
    · skip
      exfalso; omega
    · skip
      refine z_iconst hx hb dX13_columnOf_10 ?_
      refine lv_goto (tgt := 20) hx hb dX13_columnOf_11 (by decide) ?_
      refine lv_istore (lv' := [(4, .int (iI (-1))), (3, .int (iI (-1))), (0, .ref m0), (1, .int (iI x)), (2, .int (iI y))]) hx hb dX13_columnOf_20 hl (by decide) rfl (fun ls hl => ?_)
      refine lv_aload_n hx hb dX13_columnOf_22 rfl (lv_at hl 2 rfl) ?_
      refine lv_iload hx hb dX13_columnOf_23 (lv_at hl 0 rfl) ?_
      refine z_if_lt (tgt := 32) hx hb dX13_columnOf_25 (by decide) (by decide) (fun c_3 => ?_) (fun c_3 => ?_)
      · skip
        refine z_iconst hx hb dX13_columnOf_32 ?_
        refine z_calli (z_runV (rest := []) (As := [.int (iI 0)]) (n := 1) (ci := 16) hC hZ (met_X13_isThere l D cs A m0 ad v g 0  hD hok (by decide)) gv_X13_126 hd_X13_isThere rfl mW_o rfl hl rfl (Nat.le_of_ble_eq_true rfl) ⟨Nat.le_of_ble_eq_true rfl, Nat.le_of_ble_eq_true rfl⟩ ⟨Nat.le_of_ble_eq_true rfl, Nat.le_of_ble_eq_true rfl⟩ dX13_columnOf_33) hZ (fun r33 _ H locs hp_4 hZ => ?_)
        obtain ⟨_, _, rfl, hok_5, rfl, rfl, rfl⟩ := hp_4
        refine z_if_eq (tgt := 51) hx hb dX13_columnOf_36 (by decide) (by decide) (fun c_6 => ?_) (fun c_6 => ?_)
        · skip
          refine z_iconst hx hb dX13_columnOf_51 ?_
          exact z_iret hC hr hlk hZ (by decide) (by decide) (⟨_, _, rfl, hok_5, mA_of (t := 1) (y := 0) (by unfold sPos; rw [hz]) rfl rfl (fun q => absurd q (by decide))⟩) dX13_columnOf_52
        · skip
          exfalso; omega
      · skip
        exfalso; omega
  · skip
    subst er
    have e5 := hra.2.2.2.2.2.1
    have e3 := hra.2.2.2.1
    have hk6 := hka.2.2.2.2.1
    have hkh := hka.2.2.1
    have hkc := hka.2.1
    have hkl := hka.2.2.2.1.2
    have hb80 : iCo a0 * iHe a0 ≤ 80 := Int.le_trans (Int.mul_le_mul hkc.2 hkh.2 (by omega) (by omega)) (by decide)
    refine lv_istore_n (lv' := [(3, .int (iI (i0 : Int))), (0, .ref m0), (1, .int (iI x)), (2, .int (iI y))]) hx hb dX13_columnOf_5 rfl hl (by decide) rfl (fun ls hl => ?_)
    refine lv_iload_n hx hb dX13_columnOf_6 rfl (lv_at hl 0 rfl) ?_
    refine z_if_ge (tgt := 14) hx hb dX13_columnOf_7 (by decide) (by omega) (fun c_7 => ?_) (fun c_7 => ?_)
    · skip
      refine lv_aload_n hx hb dX13_columnOf_14 rfl (lv_at hl 1 rfl) ?_
      refine lv_iload_n hx hb dX13_columnOf_15 rfl (lv_at hl 0 rfl) ?_
      refine lv_iload_n hx hb dX13_columnOf_16 rfl (lv_at hl 3 rfl) ?_
      refine z_calli (z_runV (rest := []) (As := [.int (iI (i0 : Int)), .int (iI y)]) (n := 2) (ci := 16) hC hZ (met_X13_firstLine l D cs A m0 ad v g (i0 : Int) y  hD hok (by omega) (by omega) (by omega)) gv_X13_116 hd_X13_firstLine rfl mW_o rfl hl rfl (Nat.le_of_ble_eq_true rfl) ⟨Nat.le_of_ble_eq_true rfl, Nat.le_of_ble_eq_true rfl⟩ ⟨Nat.le_of_ble_eq_true rfl, Nat.le_of_ble_eq_true rfl⟩ dX13_columnOf_17) hZ (fun r17 _ H locs hp_8 hZ => ?_)
      obtain ⟨_, _, rfl, _, rfl, rfl, hp_8⟩ := hp_8
      rcases mFl_zft hra hka hp_8 with ⟨hz2, er2⟩ | ⟨hz2, hb1, hb2⟩
      · skip
        subst er2
        refine lv_istore (lv' := [(4, .int (iI (-1))), (3, .int (iI (i0 : Int))), (0, .ref m0), (1, .int (iI x)), (2, .int (iI y))]) hx hb dX13_columnOf_20 hl (by decide) rfl (fun ls hl => ?_)
        refine lv_aload_n hx hb dX13_columnOf_22 rfl (lv_at hl 2 rfl) ?_
        refine lv_iload hx hb dX13_columnOf_23 (lv_at hl 0 rfl) ?_
        refine z_if_lt (tgt := 32) hx hb dX13_columnOf_25 (by decide) (by decide) (fun c_9 => ?_) (fun c_9 => ?_)
        · skip
          refine z_iconst hx hb dX13_columnOf_32 ?_
          refine z_calli (z_runV (rest := []) (As := [.int (iI 0)]) (n := 1) (ci := 16) hC hZ (met_X13_isThere l D cs A m0 ad v g 0  hD hok (by decide)) gv_X13_126 hd_X13_isThere rfl mW_o rfl hl rfl (Nat.le_of_ble_eq_true rfl) ⟨Nat.le_of_ble_eq_true rfl, Nat.le_of_ble_eq_true rfl⟩ ⟨Nat.le_of_ble_eq_true rfl, Nat.le_of_ble_eq_true rfl⟩ dX13_columnOf_33) hZ (fun r33 _ H locs hp_10 hZ => ?_)
          obtain ⟨_, _, rfl, hok_11, rfl, rfl, rfl⟩ := hp_10
          refine z_if_eq (tgt := 51) hx hb dX13_columnOf_36 (by decide) (by decide) (fun c_12 => ?_) (fun c_12 => ?_)
          · skip
            refine z_iconst hx hb dX13_columnOf_51 ?_
            exact z_iret hC hr hlk hZ (by decide) (by decide) (⟨_, _, rfl, hok_11, mA_of (t := 1) (y := 0) (by unfold sPos; rw [hz]; simp only []; rw [hz2]) rfl rfl (fun q => absurd q (by decide))⟩) dX13_columnOf_52
          · skip
            exfalso; omega
        · skip
          exfalso; omega
      · skip
        refine lv_istore (lv' := [(4, .int (iI r17)), (3, .int (iI (i0 : Int))), (0, .ref m0), (1, .int (iI x)), (2, .int (iI y))]) hx hb dX13_columnOf_20 hl (by decide) rfl (fun ls hl => ?_)
        refine lv_aload_n hx hb dX13_columnOf_22 rfl (lv_at hl 2 rfl) ?_
        refine lv_iload hx hb dX13_columnOf_23 (lv_at hl 0 rfl) ?_
        refine z_if_lt (tgt := 32) hx hb dX13_columnOf_25 (by decide) (by omega) (fun c_13 => ?_) (fun c_13 => ?_)
        · skip
          exfalso; omega
        · skip
          refine z_iconst hx hb dX13_columnOf_28 ?_
          refine lv_goto (tgt := 33) hx hb dX13_columnOf_29 (by decide) ?_
          refine z_calli (z_runV (rest := []) (As := [.int (iI 1)]) (n := 1) (ci := 16) hC hZ (met_X13_isThere l D cs A m0 ad v g 1  hD hok (by decide)) gv_X13_126 hd_X13_isThere rfl mW_o rfl hl rfl (Nat.le_of_ble_eq_true rfl) ⟨Nat.le_of_ble_eq_true rfl, Nat.le_of_ble_eq_true rfl⟩ ⟨Nat.le_of_ble_eq_true rfl, Nat.le_of_ble_eq_true rfl⟩ dX13_columnOf_33) hZ (fun r33 _ H locs hp_14 hZ => ?_)
          obtain ⟨_, _, rfl, hok_15, rfl, rfl, rfl⟩ := hp_14
          refine z_if_eq (tgt := 51) hx hb dX13_columnOf_36 (by decide) (by decide) (fun c_16 => ?_) (fun c_16 => ?_)
          · skip
            exfalso; omega
          · skip
            refine lv_iload hx hb dX13_columnOf_39 (lv_at hl 0 rfl) ?_
            refine lv_aload_n hx hb dX13_columnOf_41 rfl (lv_at hl 2 rfl) ?_
            refine lv_iload_n hx hb dX13_columnOf_42 rfl (lv_at hl 1 rfl) ?_
            refine z_iconst hx hb dX13_columnOf_43 ?_
            refine z_calli (z_runV (rest := [.int (iI r17)]) (As := [.int (iI (i0 : Int)), .int (iI 3)]) (n := 2) (ci := 16) hC hZ (met_X13_ofIssue l D cs A m0 ad (upN v 6 (1 - 1)) g (i0 : Int) 3  hD hok_15 (by omega) (by omega)) gv_X13_194 hd_X13_ofIssue rfl mW_o rfl hl rfl (Nat.le_of_ble_eq_true rfl) ⟨Nat.le_of_ble_eq_true rfl, Nat.le_of_ble_eq_true rfl⟩ ⟨Nat.le_of_ble_eq_true rfl, Nat.le_of_ble_eq_true rfl⟩ dX13_columnOf_44) hZ (fun r44 _ H locs hp_17 hZ => ?_)
            obtain ⟨_, _, rfl, _, rfl, rfl, rfl⟩ := hp_17
            have hr_18 : -2147483648 ≤ moi (g 0) (i0 : Int) 3 ∧ moi (g 0) (i0 : Int) 3 ≤ 2147483647 := hok_15.2 0 _
            refine z_idiv hx hb dX13_columnOf_47 (by omega) (by omega) ?_
            refine lv_goto (tgt := 52) hx hb dX13_columnOf_48 (by decide) ?_
            exact z_iret hC hr hlk hZ (by decide) (by decide) (⟨_, _, rfl, hok_15, mA_of (t := 0) (y := r17 / iHe a0) (by unfold sPos; rw [hz]; simp only []; rw [hz2]) rfl rfl (fun _ => by rw [← e3])⟩) dX13_columnOf_52
    · skip
      exfalso; omega

set_option maxHeartbeats 4000000 in
set_option maxRecDepth 100000 in
theorem met_X13_rowOf (l : Launch) (D : va_G) (cs : Nat → ClassId) (A : Nat → Prop) (m0 : Nat) (ad : Nat → Nat) (v : Nat → Int) (g : Nat → Int → Int) (x y : Int)  (N : Nat) (c0 : zCo) (hD : mD m0 ad) (hok : mOK v g) (hR : mR (g 0) c0) (hK : cOK N c0) (hx0 : InR x) (hy0 : InR y) : zM l D cs A yX13_rowOf cX13_rowOf 5 (some FieldType.int) 3 0 0 [.ref m0, .int (iI x), .int (iI y)] (mW cs m0 ad v g) (mP cs m0 ad (fun r v1 g1 => mA v g r v1 g1 (sPos c0 x y (fun s l => l % iHe s)))) := by
  refine zM_of (own := RX13) (by decide) rfl (Nat.le_of_ble_eq_true rfl) ?_
  intro p e s m below meth c hC hr hlk hnm hZ ls hl
  have hx := hC.x
  have hb := hC.b
  have hl : lv_has ls 5 [(0, .ref m0), (1, .int (iI x)), (2, .int (iI y))] := hl
  have hm := mR_m hR hK
  refine lv_aload_n hx hb dX13_rowOf_0 rfl (lv_at hl 0 rfl) ?_
  refine lv_iload_n hx hb dX13_rowOf_1 rfl (lv_at hl 1 rfl) ?_
  refine z_calli (z_runV (rest := []) (As := [.int (iI x)]) (n := 1) (ci := 16) hC hZ (met_X13_issueAt l D cs A m0 ad v g x  hD hok (by omega) hm) gv_X13_200 hd_X13_issueAt rfl mW_o rfl hl rfl (Nat.le_of_ble_eq_true rfl) ⟨Nat.le_of_ble_eq_true rfl, Nat.le_of_ble_eq_true rfl⟩ ⟨Nat.le_of_ble_eq_true rfl, Nat.le_of_ble_eq_true rfl⟩ dX13_rowOf_2) hZ (fun r2 _ H locs hp_1 hZ => ?_)
  obtain ⟨_, _, rfl, _, rfl, rfl, hp_1⟩ := hp_1
  rcases mPi_fi hR hK hp_1 with ⟨hz, hzi, er⟩ | ⟨i0, a0, hz, hzi, er, hi, hid, hib, hra, hka⟩
  · skip
    subst er
    refine lv_istore_n (lv' := [(3, .int (iI (-1))), (0, .ref m0), (1, .int (iI x)), (2, .int (iI y))]) hx hb dX13_rowOf_5 rfl hl (by decide) rfl (fun ls hl => ?_)
    refine lv_iload_n hx hb dX13_rowOf_6 rfl (lv_at hl 0 rfl) ?_
    refine z_if_ge (tgt := 14) hx hb dX13_rowOf_7 (by decide) (by decide) (fun c_2 => ?_) (fun c_2 => ?_)
    · skip
      exfalso; omega
    · skip
      refine z_iconst hx hb dX13_rowOf_10 ?_
      refine lv_goto (tgt := 20) hx hb dX13_rowOf_11 (by decide) ?_
      refine lv_istore (lv' := [(4, .int (iI (-1))), (3, .int (iI (-1))), (0, .ref m0), (1, .int (iI x)), (2, .int (iI y))]) hx hb dX13_rowOf_20 hl (by decide) rfl (fun ls hl => ?_)
      refine lv_aload_n hx hb dX13_rowOf_22 rfl (lv_at hl 2 rfl) ?_
      refine lv_iload hx hb dX13_rowOf_23 (lv_at hl 0 rfl) ?_
      refine z_if_lt (tgt := 32) hx hb dX13_rowOf_25 (by decide) (by decide) (fun c_3 => ?_) (fun c_3 => ?_)
      · skip
        refine z_iconst hx hb dX13_rowOf_32 ?_
        refine z_calli (z_runV (rest := []) (As := [.int (iI 0)]) (n := 1) (ci := 16) hC hZ (met_X13_isThere l D cs A m0 ad v g 0  hD hok (by decide)) gv_X13_126 hd_X13_isThere rfl mW_o rfl hl rfl (Nat.le_of_ble_eq_true rfl) ⟨Nat.le_of_ble_eq_true rfl, Nat.le_of_ble_eq_true rfl⟩ ⟨Nat.le_of_ble_eq_true rfl, Nat.le_of_ble_eq_true rfl⟩ dX13_rowOf_33) hZ (fun r33 _ H locs hp_4 hZ => ?_)
        obtain ⟨_, _, rfl, hok_5, rfl, rfl, rfl⟩ := hp_4
        refine z_if_eq (tgt := 51) hx hb dX13_rowOf_36 (by decide) (by decide) (fun c_6 => ?_) (fun c_6 => ?_)
        · skip
          refine z_iconst hx hb dX13_rowOf_51 ?_
          exact z_iret hC hr hlk hZ (by decide) (by decide) (⟨_, _, rfl, hok_5, mA_of (t := 1) (y := 0) (by unfold sPos; rw [hz]) rfl rfl (fun q => absurd q (by decide))⟩) dX13_rowOf_52
        · skip
          exfalso; omega
      · skip
        exfalso; omega
  · skip
    subst er
    have e5 := hra.2.2.2.2.2.1
    have e3 := hra.2.2.2.1
    have hk6 := hka.2.2.2.2.1
    have hkh := hka.2.2.1
    have hkc := hka.2.1
    have hkl := hka.2.2.2.1.2
    have hb80 : iCo a0 * iHe a0 ≤ 80 := Int.le_trans (Int.mul_le_mul hkc.2 hkh.2 (by omega) (by omega)) (by decide)
    refine lv_istore_n (lv' := [(3, .int (iI (i0 : Int))), (0, .ref m0), (1, .int (iI x)), (2, .int (iI y))]) hx hb dX13_rowOf_5 rfl hl (by decide) rfl (fun ls hl => ?_)
    refine lv_iload_n hx hb dX13_rowOf_6 rfl (lv_at hl 0 rfl) ?_
    refine z_if_ge (tgt := 14) hx hb dX13_rowOf_7 (by decide) (by omega) (fun c_7 => ?_) (fun c_7 => ?_)
    · skip
      refine lv_aload_n hx hb dX13_rowOf_14 rfl (lv_at hl 1 rfl) ?_
      refine lv_iload_n hx hb dX13_rowOf_15 rfl (lv_at hl 0 rfl) ?_
      refine lv_iload_n hx hb dX13_rowOf_16 rfl (lv_at hl 3 rfl) ?_
      refine z_calli (z_runV (rest := []) (As := [.int (iI (i0 : Int)), .int (iI y)]) (n := 2) (ci := 16) hC hZ (met_X13_firstLine l D cs A m0 ad v g (i0 : Int) y  hD hok (by omega) (by omega) (by omega)) gv_X13_116 hd_X13_firstLine rfl mW_o rfl hl rfl (Nat.le_of_ble_eq_true rfl) ⟨Nat.le_of_ble_eq_true rfl, Nat.le_of_ble_eq_true rfl⟩ ⟨Nat.le_of_ble_eq_true rfl, Nat.le_of_ble_eq_true rfl⟩ dX13_rowOf_17) hZ (fun r17 _ H locs hp_8 hZ => ?_)
      obtain ⟨_, _, rfl, _, rfl, rfl, hp_8⟩ := hp_8
      rcases mFl_zft hra hka hp_8 with ⟨hz2, er2⟩ | ⟨hz2, hb1, hb2⟩
      · skip
        subst er2
        refine lv_istore (lv' := [(4, .int (iI (-1))), (3, .int (iI (i0 : Int))), (0, .ref m0), (1, .int (iI x)), (2, .int (iI y))]) hx hb dX13_rowOf_20 hl (by decide) rfl (fun ls hl => ?_)
        refine lv_aload_n hx hb dX13_rowOf_22 rfl (lv_at hl 2 rfl) ?_
        refine lv_iload hx hb dX13_rowOf_23 (lv_at hl 0 rfl) ?_
        refine z_if_lt (tgt := 32) hx hb dX13_rowOf_25 (by decide) (by decide) (fun c_9 => ?_) (fun c_9 => ?_)
        · skip
          refine z_iconst hx hb dX13_rowOf_32 ?_
          refine z_calli (z_runV (rest := []) (As := [.int (iI 0)]) (n := 1) (ci := 16) hC hZ (met_X13_isThere l D cs A m0 ad v g 0  hD hok (by decide)) gv_X13_126 hd_X13_isThere rfl mW_o rfl hl rfl (Nat.le_of_ble_eq_true rfl) ⟨Nat.le_of_ble_eq_true rfl, Nat.le_of_ble_eq_true rfl⟩ ⟨Nat.le_of_ble_eq_true rfl, Nat.le_of_ble_eq_true rfl⟩ dX13_rowOf_33) hZ (fun r33 _ H locs hp_10 hZ => ?_)
          obtain ⟨_, _, rfl, hok_11, rfl, rfl, rfl⟩ := hp_10
          refine z_if_eq (tgt := 51) hx hb dX13_rowOf_36 (by decide) (by decide) (fun c_12 => ?_) (fun c_12 => ?_)
          · skip
            refine z_iconst hx hb dX13_rowOf_51 ?_
            exact z_iret hC hr hlk hZ (by decide) (by decide) (⟨_, _, rfl, hok_11, mA_of (t := 1) (y := 0) (by unfold sPos; rw [hz]; simp only []; rw [hz2]) rfl rfl (fun q => absurd q (by decide))⟩) dX13_rowOf_52
          · skip
            exfalso; omega
        · skip
          exfalso; omega
      · skip
        refine lv_istore (lv' := [(4, .int (iI r17)), (3, .int (iI (i0 : Int))), (0, .ref m0), (1, .int (iI x)), (2, .int (iI y))]) hx hb dX13_rowOf_20 hl (by decide) rfl (fun ls hl => ?_)
        refine lv_aload_n hx hb dX13_rowOf_22 rfl (lv_at hl 2 rfl) ?_
        refine lv_iload hx hb dX13_rowOf_23 (lv_at hl 0 rfl) ?_
        refine z_if_lt (tgt := 32) hx hb dX13_rowOf_25 (by decide) (by omega) (fun c_13 => ?_) (fun c_13 => ?_)
        · skip
          exfalso; omega
        · skip
          refine z_iconst hx hb dX13_rowOf_28 ?_
          refine lv_goto (tgt := 33) hx hb dX13_rowOf_29 (by decide) ?_
          refine z_calli (z_runV (rest := []) (As := [.int (iI 1)]) (n := 1) (ci := 16) hC hZ (met_X13_isThere l D cs A m0 ad v g 1  hD hok (by decide)) gv_X13_126 hd_X13_isThere rfl mW_o rfl hl rfl (Nat.le_of_ble_eq_true rfl) ⟨Nat.le_of_ble_eq_true rfl, Nat.le_of_ble_eq_true rfl⟩ ⟨Nat.le_of_ble_eq_true rfl, Nat.le_of_ble_eq_true rfl⟩ dX13_rowOf_33) hZ (fun r33 _ H locs hp_14 hZ => ?_)
          obtain ⟨_, _, rfl, hok_15, rfl, rfl, rfl⟩ := hp_14
          refine z_if_eq (tgt := 51) hx hb dX13_rowOf_36 (by decide) (by decide) (fun c_16 => ?_) (fun c_16 => ?_)
          · skip
            exfalso; omega
          · skip
            refine lv_iload hx hb dX13_rowOf_39 (lv_at hl 0 rfl) ?_
            refine lv_aload_n hx hb dX13_rowOf_41 rfl (lv_at hl 2 rfl) ?_
            refine lv_iload_n hx hb dX13_rowOf_42 rfl (lv_at hl 1 rfl) ?_
            refine z_iconst hx hb dX13_rowOf_43 ?_
            refine z_calli (z_runV (rest := [.int (iI r17)]) (As := [.int (iI (i0 : Int)), .int (iI 3)]) (n := 2) (ci := 16) hC hZ (met_X13_ofIssue l D cs A m0 ad (upN v 6 (1 - 1)) g (i0 : Int) 3  hD hok_15 (by omega) (by omega)) gv_X13_194 hd_X13_ofIssue rfl mW_o rfl hl rfl (Nat.le_of_ble_eq_true rfl) ⟨Nat.le_of_ble_eq_true rfl, Nat.le_of_ble_eq_true rfl⟩ ⟨Nat.le_of_ble_eq_true rfl, Nat.le_of_ble_eq_true rfl⟩ dX13_rowOf_44) hZ (fun r44 _ H locs hp_17 hZ => ?_)
            obtain ⟨_, _, rfl, _, rfl, rfl, rfl⟩ := hp_17
            have hr_18 : -2147483648 ≤ moi (g 0) (i0 : Int) 3 ∧ moi (g 0) (i0 : Int) 3 ≤ 2147483647 := hok_15.2 0 _
            refine z_irem hx hb dX13_rowOf_47 (by omega) (by omega) ?_
            refine lv_goto (tgt := 52) hx hb dX13_rowOf_48 (by decide) ?_
            exact z_iret hC hr hlk hZ (by decide) (by decide) (⟨_, _, rfl, hok_15, mA_of (t := 0) (y := r17 % iHe a0) (by unfold sPos; rw [hz]; simp only []; rw [hz2]) rfl rfl (fun _ => by rw [← e3])⟩) dX13_rowOf_52
    · skip
      exfalso; omega

set_option maxHeartbeats 4000000 in
set_option maxRecDepth 100000 in
theorem met_X13_errorPosition (l : Launch) (D : va_G) (cs : Nat → ClassId) (A : Nat → Prop) (m0 : Nat) (ad : Nat → Nat) (v : Nat → Int) (g : Nat → Int → Int)   (hD : mD m0 ad) (hok : mOK v g)  : zM l D cs A yX13_errorPosition cX13_errorPosition 1 (some FieldType.int) 2 0 0 [.ref m0] (mW cs m0 ad v g) (mP cs m0 ad (fun r v1 g1 => mA v g r v1 g1 (if 0 ≤ v 20 then (0, v 20) else (1, 0)))) := by
  refine zM_of (own := RX13) (by decide) rfl (Nat.le_of_ble_eq_true rfl) ?_
  intro p e s m below meth c hC hr hlk hnm hZ ls hl
  have hx := hC.x
  have hb := hC.b
  have hl : lv_has ls 1 [(0, .ref m0)] := hl
  refine lv_aload_n hx hb dX13_errorPosition_0 rfl (lv_at hl 0 rfl) ?_
  refine lv_aload_n hx hb dX13_errorPosition_1 rfl (lv_at hl 0 rfl) ?_
  refine m_get hC hZ 20 (x := .int (iI (v 20))) rfl (by decide) ql_X13_45 rfl dX13_errorPosition_2 ?_
  have hr_1 : -2147483648 ≤ v 20 ∧ v 20 ≤ 2147483647 := hok.1 20
  refine z_if_lt (tgt := 12) hx hb dX13_errorPosition_5 (by decide) (by omega) (fun c_2 => ?_) (fun c_2 => ?_)
  · skip
    refine z_iconst hx hb dX13_errorPosition_12 ?_
    refine z_calli (z_runV (rest := []) (As := [.int (iI 0)]) (n := 1) (ci := 16) hC hZ (met_X13_isThere l D cs A m0 ad v g 0  hD hok (by decide)) gv_X13_126 hd_X13_isThere rfl mW_o rfl hl rfl (Nat.le_of_ble_eq_true rfl) ⟨Nat.le_of_ble_eq_true rfl, Nat.le_of_ble_eq_true rfl⟩ ⟨Nat.le_of_ble_eq_true rfl, Nat.le_of_ble_eq_true rfl⟩ dX13_errorPosition_13) hZ (fun r13 _ H locs hp_3 hZ => ?_)
    obtain ⟨_, _, rfl, hok_4, rfl, rfl, rfl⟩ := hp_3
    refine z_if_eq (tgt := 26) hx hb dX13_errorPosition_16 (by decide) (by decide) (fun c_5 => ?_) (fun c_5 => ?_)
    · skip
      refine z_iconst hx hb dX13_errorPosition_26 ?_
      exact z_iret hC hr hlk hZ (by decide) (by decide) (⟨_, _, rfl, hok_4, mA_of (t := 1) (y := 0) (if_neg (by omega)) rfl rfl (fun q => absurd q (by decide))⟩) dX13_errorPosition_27
    · skip
      exfalso; omega
  · skip
    refine z_iconst hx hb dX13_errorPosition_8 ?_
    refine lv_goto (tgt := 13) hx hb dX13_errorPosition_9 (by decide) ?_
    refine z_calli (z_runV (rest := []) (As := [.int (iI 1)]) (n := 1) (ci := 16) hC hZ (met_X13_isThere l D cs A m0 ad v g 1  hD hok (by decide)) gv_X13_126 hd_X13_isThere rfl mW_o rfl hl rfl (Nat.le_of_ble_eq_true rfl) ⟨Nat.le_of_ble_eq_true rfl, Nat.le_of_ble_eq_true rfl⟩ ⟨Nat.le_of_ble_eq_true rfl, Nat.le_of_ble_eq_true rfl⟩ dX13_errorPosition_13) hZ (fun r13 _ H locs hp_6 hZ => ?_)
    obtain ⟨_, _, rfl, hok_7, rfl, rfl, rfl⟩ := hp_6
    refine z_if_eq (tgt := 26) hx hb dX13_errorPosition_16 (by decide) (by decide) (fun c_8 => ?_) (fun c_8 => ?_)
    · skip
      exfalso; omega
    · skip
      refine lv_aload_n hx hb dX13_errorPosition_19 rfl (lv_at hl 0 rfl) ?_
      refine m_get hC hZ 20 (x := .int (iI (v 20))) rfl (by decide) ql_X13_45 rfl dX13_errorPosition_20 ?_
      refine lv_goto (tgt := 27) hx hb dX13_errorPosition_23 (by decide) ?_
      exact z_iret hC hr hlk hZ (by decide) (by decide) (⟨_, _, rfl, hok_7, mA_of (t := 0) (y := v 20) (if_pos (by omega)) rfl rfl (fun _ => rfl)⟩) dX13_errorPosition_27

set_option maxHeartbeats 4000000 in
set_option maxRecDepth 100000 in
theorem met_X13_failedCommand (l : Launch) (D : va_G) (cs : Nat → ClassId) (A : Nat → Prop) (m0 : Nat) (ad : Nat → Nat) (v : Nat → Int) (g : Nat → Int → Int)   (hD : mD m0 ad) (hok : mOK v g)  : zM l D cs A yX13_failedCommand cX13_failedCommand 1 (some FieldType.int) 2 0 0 [.ref m0] (mW cs m0 ad v g) (mP cs m0 ad (fun r v1 g1 => mA v g r v1 g1 (if 0 ≤ v 21 then (0, v 21) else (1, 0)))) := by
  refine zM_of (own := RX13) (by decide) rfl (Nat.le_of_ble_eq_true rfl) ?_
  intro p e s m below meth c hC hr hlk hnm hZ ls hl
  have hx := hC.x
  have hb := hC.b
  have hl : lv_has ls 1 [(0, .ref m0)] := hl
  refine lv_aload_n hx hb dX13_failedCommand_0 rfl (lv_at hl 0 rfl) ?_
  refine lv_aload_n hx hb dX13_failedCommand_1 rfl (lv_at hl 0 rfl) ?_
  refine m_get hC hZ 21 (x := .int (iI (v 21))) rfl (by decide) ql_X13_49 rfl dX13_failedCommand_2 ?_
  have hr_1 : -2147483648 ≤ v 21 ∧ v 21 ≤ 2147483647 := hok.1 21
  refine z_if_lt (tgt := 12) hx hb dX13_failedCommand_5 (by decide) (by omega) (fun c_2 => ?_) (fun c_2 => ?_)
  · skip
    refine z_iconst hx hb dX13_failedCommand_12 ?_
    refine z_calli (z_runV (rest := []) (As := [.int (iI 0)]) (n := 1) (ci := 16) hC hZ (met_X13_isThere l D cs A m0 ad v g 0  hD hok (by decide)) gv_X13_126 hd_X13_isThere rfl mW_o rfl hl rfl (Nat.le_of_ble_eq_true rfl) ⟨Nat.le_of_ble_eq_true rfl, Nat.le_of_ble_eq_true rfl⟩ ⟨Nat.le_of_ble_eq_true rfl, Nat.le_of_ble_eq_true rfl⟩ dX13_failedCommand_13) hZ (fun r13 _ H locs hp_3 hZ => ?_)
    obtain ⟨_, _, rfl, hok_4, rfl, rfl, rfl⟩ := hp_3
    refine z_if_eq (tgt := 26) hx hb dX13_failedCommand_16 (by decide) (by decide) (fun c_5 => ?_) (fun c_5 => ?_)
    · skip
      refine z_iconst hx hb dX13_failedCommand_26 ?_
      exact z_iret hC hr hlk hZ (by decide) (by decide) (⟨_, _, rfl, hok_4, mA_of (t := 1) (y := 0) (if_neg (by omega)) rfl rfl (fun q => absurd q (by decide))⟩) dX13_failedCommand_27
    · skip
      exfalso; omega
  · skip
    refine z_iconst hx hb dX13_failedCommand_8 ?_
    refine lv_goto (tgt := 13) hx hb dX13_failedCommand_9 (by decide) ?_
    refine z_calli (z_runV (rest := []) (As := [.int (iI 1)]) (n := 1) (ci := 16) hC hZ (met_X13_isThere l D cs A m0 ad v g 1  hD hok (by decide)) gv_X13_126 hd_X13_isThere rfl mW_o rfl hl rfl (Nat.le_of_ble_eq_true rfl) ⟨Nat.le_of_ble_eq_true rfl, Nat.le_of_ble_eq_true rfl⟩ ⟨Nat.le_of_ble_eq_true rfl, Nat.le_of_ble_eq_true rfl⟩ dX13_failedCommand_13) hZ (fun r13 _ H locs hp_6 hZ => ?_)
    obtain ⟨_, _, rfl, hok_7, rfl, rfl, rfl⟩ := hp_6
    refine z_if_eq (tgt := 26) hx hb dX13_failedCommand_16 (by decide) (by decide) (fun c_8 => ?_) (fun c_8 => ?_)
    · skip
      exfalso; omega
    · skip
      refine lv_aload_n hx hb dX13_failedCommand_19 rfl (lv_at hl 0 rfl) ?_
      refine m_get hC hZ 21 (x := .int (iI (v 21))) rfl (by decide) ql_X13_49 rfl dX13_failedCommand_20 ?_
      refine lv_goto (tgt := 27) hx hb dX13_failedCommand_23 (by decide) ?_
      exact z_iret hC hr hlk hZ (by decide) (by decide) (⟨_, _, rfl, hok_7, mA_of (t := 0) (y := v 21) (if_pos (by omega)) rfl rfl (fun _ => rfl)⟩) dX13_failedCommand_27

set_option maxHeartbeats 4000000 in
set_option maxRecDepth 100000 in
theorem met_X13_outputCharacter (l : Launch) (D : va_G) (cs : Nat → ClassId) (A : Nat → Prop) (m0 : Nat) (ad : Nat → Nat) (v : Nat → Int) (g : Nat → Int → Int) (x : Int)  (hD : mD m0 ad) (hok : mOK v g) (hx0 : InR x) (ho : 0 ≤ v 15 ∧ v 15 ≤ 440) (hch : ∀ i, 0 ≤ i → i < v 15 → 0 ≤ g 14 i ∧ g 14 i ≤ 65535) : zM l D cs A yX13_outputCharacter cX13_outputCharacter 2 (some FieldType.char) 2 0 0 [.ref m0, .int (iI x)] (mW cs m0 ad v g) (mP cs m0 ad (fun r v1 g1 => mA v g r v1 g1 (if 0 ≤ x ∧ x < v 15 then (0, g 14 x) else (1, 0)))) := by
  refine zM_of (own := RX13) (by decide) rfl (Nat.le_of_ble_eq_true rfl) ?_
  intro p e s m below meth c hC hr hlk hnm hZ ls hl
  have hx := hC.x
  have hb := hC.b
  have hl : lv_has ls 2 [(0, .ref m0), (1, .int (iI x))] := hl
  refine lv_aload_n hx hb dX13_outputCharacter_0 rfl (lv_at hl 0 rfl) ?_
  refine lv_iload_n hx hb dX13_outputCharacter_1 rfl (lv_at hl 1 rfl) ?_
  refine z_iconst hx hb dX13_outputCharacter_2 ?_
  refine lv_aload_n hx hb dX13_outputCharacter_3 rfl (lv_at hl 0 rfl) ?_
  refine m_get hC hZ 15 (x := .int (iI (v 15))) rfl (by decide) ql_X13_223 rfl dX13_outputCharacter_4 ?_
  have hr_1 : -2147483648 ≤ v 15 ∧ v 15 ≤ 2147483647 := hok.1 15
  refine z_iconst hx hb dX13_outputCharacter_7 ?_
  refine z_isub hx hb dX13_outputCharacter_8 ?_
  refine z_calli (z_runS (rest := [.ref m0]) (As := [.int (iI x), .int (iI 0), .int (iI ((v 15) - 1))]) (n := 3) hC hZ (met_X13_in l D cs A (mW cs m0 ad v g) x 0 ((v 15) - 1) (by omega) (by decide) (by omega)) gs_X13_71 he_X13_in rfl hl rfl (Nat.le_of_ble_eq_true rfl) ⟨Nat.le_of_ble_eq_true rfl, Nat.le_of_ble_eq_true rfl⟩ ⟨Nat.le_of_ble_eq_true rfl, Nat.le_of_ble_eq_true rfl⟩ dX13_outputCharacter_9) hZ (fun r9 _ H locs hp_2 hZ => ?_)
  obtain ⟨rfl, hp_2⟩ := hp_2
  have hin := hp_2
  refine z_calli (z_runV (rest := []) (As := [.int (iI r9)]) (n := 1) (ci := 16) hC hZ (met_X13_isThere l D cs A m0 ad v g r9  hD hok (by omega)) gv_X13_126 hd_X13_isThere rfl mW_o rfl hl rfl (Nat.le_of_ble_eq_true rfl) ⟨Nat.le_of_ble_eq_true rfl, Nat.le_of_ble_eq_true rfl⟩ ⟨Nat.le_of_ble_eq_true rfl, Nat.le_of_ble_eq_true rfl⟩ dX13_outputCharacter_12) hZ (fun r12 _ H locs hp_3 hZ => ?_)
  obtain ⟨_, _, rfl, hok_4, rfl, rfl, rfl⟩ := hp_3
  refine z_if_eq (tgt := 27) hx hb dX13_outputCharacter_15 (by decide) (by omega) (fun c_5 => ?_) (fun c_5 => ?_)
  · skip
    refine z_bipush hx hb dX13_outputCharacter_27 (by decide) ?_
    exact z_zret hC hr hlk hZ rfl (by decide) (by decide) (⟨_, _, rfl, hok_4, mA_of (t := 1) (y := 0) (if_neg (by omega)) (by rw [show (1 : Int) - r9 = 1 by omega]) rfl (fun q => absurd q (by decide))⟩) dX13_outputCharacter_29
  · skip
    refine lv_aload_n hx hb dX13_outputCharacter_18 rfl (lv_at hl 0 rfl) ?_
    refine m_get hC hZ 14 (x := .ref (ad 14)) rfl (by decide) ql_X13_39 rfl dX13_outputCharacter_19 ?_
    refine lv_iload_n hx hb dX13_outputCharacter_22 rfl (lv_at hl 1 rfl) ?_
    refine m_cald hC hZ hD 14 (by decide) (f := g 14) rfl rfl (by show _ ∧ _ < (440 : Int); omega) (by decide) dX13_outputCharacter_23 ?_
    have hr_6 : -2147483648 ≤ (g 14) x ∧ (g 14) x ≤ 2147483647 := hok_4.2 14 _
    refine lv_goto (tgt := 29) hx hb dX13_outputCharacter_24 (by decide) ?_
    have hc14 := hch x (by omega) (by omega)
    exact z_zret hC hr hlk hZ (iI_narC (by omega)).1 (by decide) (by decide) (⟨_, _, rfl, hok_4, mA_of (t := 0) (y := g 14 x) (if_pos (by omega)) (by rw [show (1 : Int) - r9 = 0 by omega]) rfl (fun _ => rfl)⟩) dX13_outputCharacter_29

