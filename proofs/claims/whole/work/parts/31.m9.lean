/-- the answer of a question that sets lines -/
def mB (v : Nat → Int) (g : Nat → Int → Int) (r : Int) (v1 : Nat → Int) (g1 : Nat → Int → Int) (q : Int × Int) : Prop := v1 6 = q.1 ∧ (∀ k, k ≠ 6 → k ≠ 12 → v1 k = v k) ∧ (∀ j, j ≠ 9 → j ≠ 10 → j ≠ 11 → g1 j = g j) ∧ (q.1 = 0 → r = q.2)
/-- the lines of an article of the newspaper: which exception, or the lines -/
def zal (c : zCo) (x : Int) : Int × List zWd := match zfa (cAr c) x with
  | none => (1, [])
  | some a => match zlines (cWi c) a.2.2 with
    | none => (2, [])
    | some ls => (0, ls)
def sLn (c : zCo) (x : Int) (f : List zWd → Int) : Int × Int := ((zal c x).1, f (zal c x).2)
def mAL (c : zCo) (x r : Int) (v1 : Nat → Int) (g1 : Nat → Int → Int) : Prop := v1 6 = (zal c x).1 ∧ (((zal c x).1 = 1 ∧ r = -1) ∨ ((zal c x).1 = 2 ∧ r = -1) ∨ ((zal c x).1 = 0 ∧ r = (zal c x).2.length ∧ ((zal c x).2.length ≤ 181 ∧ 1 ≤ (zal c x).2.length) ∧ (∀ l ∈ (zal c x).2, (l.length : Int) ≤ cWi c) ∧ mLs g1 (zal c x).2))
set_option maxHeartbeats 4000000 in
set_option maxRecDepth 100000 in
theorem met_X13_asksLines (l : Launch) (D : va_G) (cs : Nat → ClassId) (A : Nat → Prop) (m0 : Nat) (ad : Nat → Nat) (v : Nat → Int) (g : Nat → Int → Int) (x : Int)  (N : Nat) (c0 : zCo) (hD : mD m0 ad) (hok : mOK v g) (hR : mR (g 0) c0) (hK : cOK N c0) (hx0 : InR x) : zM l D cs A yX13_asksLines cX13_asksLines 4 (some FieldType.int) 6 0 0 [.ref m0, .int (iI x)] (mW cs m0 ad v g) (mP cs m0 ad (fun r v1 g1 => (∀ k, k ≠ 6 → k ≠ 12 → v1 k = v k) ∧ (∀ j, j ≠ 9 → j ≠ 10 → j ≠ 11 → g1 j = g j) ∧ mAL c0 x r v1 g1)) := by
  refine zM_of (own := RX13) (by decide) rfl (Nat.le_of_ble_eq_true rfl) ?_
  intro p e s m below meth c hC hr hlk hnm hZ ls hl
  have hx := hC.x
  have hb := hC.b
  have hl : lv_has ls 4 [(0, .ref m0), (1, .int (iI x))] := hl
  have hn := mR_n hR hK
  have hwi := hK.2.2.2.2.2.2.2.2.1
  have hg2 := hR.2.2.1
  refine lv_aload_n hx hb dX13_asksLines_0 rfl (lv_at hl 0 rfl) ?_
  refine lv_iload_n hx hb dX13_asksLines_1 rfl (lv_at hl 1 rfl) ?_
  refine z_calli (z_runV (rest := []) (As := [.int (iI x)]) (n := 1) (ci := 16) hC hZ (met_X13_placeOf l D cs A m0 ad v g x  hD hok (by omega) hn) gv_X13_103 hd_X13_placeOf rfl mW_o rfl hl rfl (Nat.le_of_ble_eq_true rfl) ⟨Nat.le_of_ble_eq_true rfl, Nat.le_of_ble_eq_true rfl⟩ ⟨Nat.le_of_ble_eq_true rfl, Nat.le_of_ble_eq_true rfl⟩ dX13_asksLines_2) hZ (fun r2 _ H locs hp_1 hZ => ?_)
  obtain ⟨_, _, rfl, _, rfl, rfl, hp_1⟩ := hp_1
  rcases mPl_fa hR hK hp_1 with ⟨hz, hzi, er⟩ | ⟨i0, a0, hz, hzi, er, hi, hid, hib, hra, hka⟩
  · skip
    subst er
    refine lv_istore_n (lv' := [(2, .int (iI (-1))), (0, .ref m0), (1, .int (iI x))]) hx hb dX13_asksLines_5 rfl hl (by decide) rfl (fun ls hl => ?_)
    refine lv_iload_n hx hb dX13_asksLines_6 rfl (lv_at hl 0 rfl) ?_
    refine z_if_ge (tgt := 14) hx hb dX13_asksLines_7 (by decide) (by decide) (fun c_2 => ?_) (fun c_2 => ?_)
    · skip
      exfalso; omega
    · skip
      refine z_iconst hx hb dX13_asksLines_10 ?_
      refine lv_goto (tgt := 25) hx hb dX13_asksLines_11 (by decide) ?_
      refine lv_istore_n (lv' := [(3, .int (iI (-1))), (2, .int (iI (-1))), (0, .ref m0), (1, .int (iI x))]) hx hb dX13_asksLines_25 rfl hl (by decide) rfl (fun ls hl => ?_)
      refine lv_aload_n hx hb dX13_asksLines_26 rfl (lv_at hl 2 rfl) ?_
      refine lv_iload_n hx hb dX13_asksLines_27 rfl (lv_at hl 1 rfl) ?_
      refine z_if_ge (tgt := 35) hx hb dX13_asksLines_28 (by decide) (by decide) (fun c_3 => ?_) (fun c_3 => ?_)
      · skip
        exfalso; omega
      · skip
        refine z_iconst hx hb dX13_asksLines_31 ?_
        refine lv_goto (tgt := 44) hx hb dX13_asksLines_32 (by decide) ?_
        refine m_put hC hZ 6 (ty := .int) (by decide) ql_X13_55 rfl rfl rfl (Or.inl rfl) rfl dX13_asksLines_44 (fun H locs hZ => ?_)
        have hok_4 := hok.v (k := 6) (x := 1) (by decide)
        refine lv_iload_n hx hb dX13_asksLines_47 rfl (lv_at hl 0 rfl) ?_
        exact z_iret hC hr hlk hZ (by decide) (by decide) (⟨_, _, rfl, hok_4, (fun k h1 h2 => upN_n h1), (fun _ _ _ _ => rfl), by have hzal : zal c0 x = (1, []) := (by unfold zal; rw [hz]); unfold mAL; rw [hzal]; exact ⟨rfl, Or.inl ⟨rfl, rfl⟩⟩⟩) dX13_asksLines_48
  · skip
    subst er
    refine lv_istore_n (lv' := [(2, .int (iI (i0 : Int))), (0, .ref m0), (1, .int (iI x))]) hx hb dX13_asksLines_5 rfl hl (by decide) rfl (fun ls hl => ?_)
    refine lv_iload_n hx hb dX13_asksLines_6 rfl (lv_at hl 0 rfl) ?_
    refine z_if_ge (tgt := 14) hx hb dX13_asksLines_7 (by decide) (by omega) (fun c_5 => ?_) (fun c_5 => ?_)
    · skip
      refine lv_aload_n hx hb dX13_asksLines_14 rfl (lv_at hl 1 rfl) ?_
      refine lv_iload_n hx hb dX13_asksLines_15 rfl (lv_at hl 0 rfl) ?_
      refine lv_aload_n hx hb dX13_asksLines_16 rfl (lv_at hl 1 rfl) ?_
      refine m_get hC hZ 0 (x := .ref (ad 0)) rfl (by decide) ql_X13_9 rfl dX13_asksLines_17 ?_
      refine z_iconst hx hb dX13_asksLines_20 ?_
      refine m_iald hC hZ hD 0 (by decide) (f := g 0) rfl rfl (by decide) (by decide) dX13_asksLines_21 ?_
      have hr_6 : -2147483648 ≤ (g 0) 2 ∧ (g 0) 2 ≤ 2147483647 := hok.2 0 _
      refine z_top (y := cWi c0) hg2 ?_
      refine z_calli (z_runV (rest := []) (As := [.int (iI (i0 : Int)), .int (iI (cWi c0))]) (n := 2) (ci := 16) hC hZ (met_X13_setsArticle l D cs A m0 ad v g (cWi c0) i0 a0 (cNi c0) hD hok hra hka (by omega) hwi) gv_X13_168 hd_X13_setsArticle rfl mW_o rfl hl rfl (Nat.le_of_ble_eq_true rfl) ⟨Nat.le_of_ble_eq_true rfl, Nat.le_of_ble_eq_true rfl⟩ ⟨Nat.le_of_ble_eq_true rfl, Nat.le_of_ble_eq_true rfl⟩ dX13_asksLines_22) hZ (fun r22 _ H locs hp_7 hZ => ?_)
      obtain ⟨v_9, g_10, rfl, hok_8, hsv, hsg, hp_7⟩ := hp_7
      rcases hp_7 with ⟨hzl, erl⟩ | ⟨ls0, hzl, erl, hlb, hll, hml⟩
      · skip
        subst erl
        refine lv_istore_n (lv' := [(3, .int (iI (-1))), (2, .int (iI (i0 : Int))), (0, .ref m0), (1, .int (iI x))]) hx hb dX13_asksLines_25 rfl hl (by decide) rfl (fun ls hl => ?_)
        refine lv_aload_n hx hb dX13_asksLines_26 rfl (lv_at hl 2 rfl) ?_
        refine lv_iload_n hx hb dX13_asksLines_27 rfl (lv_at hl 1 rfl) ?_
        refine z_if_ge (tgt := 35) hx hb dX13_asksLines_28 (by decide) (by omega) (fun c_11 => ?_) (fun c_11 => ?_)
        · skip
          refine lv_iload_n hx hb dX13_asksLines_35 rfl (lv_at hl 0 rfl) ?_
          refine z_if_ge (tgt := 43) hx hb dX13_asksLines_36 (by decide) (by decide) (fun c_12 => ?_) (fun c_12 => ?_)
          · skip
            exfalso; omega
          · skip
            refine z_iconst hx hb dX13_asksLines_39 ?_
            refine lv_goto (tgt := 44) hx hb dX13_asksLines_40 (by decide) ?_
            refine m_put hC hZ 6 (ty := .int) (by decide) ql_X13_55 rfl rfl rfl (Or.inl rfl) rfl dX13_asksLines_44 (fun H locs hZ => ?_)
            have hok_13 := hok_8.v (k := 6) (x := 2) (by decide)
            refine lv_iload_n hx hb dX13_asksLines_47 rfl (lv_at hl 0 rfl) ?_
            exact z_iret hC hr hlk hZ (by decide) (by decide) (⟨_, _, rfl, hok_13, (fun k h1 h2 => (upN_n h1).trans (hsv k h2)), hsg, by have hzal : zal c0 x = (2, []) := (by unfold zal; rw [hz]; simp only []; rw [hzl]); unfold mAL; rw [hzal]; exact ⟨rfl, Or.inr (Or.inl ⟨rfl, rfl⟩)⟩⟩) dX13_asksLines_48
        · skip
          exfalso; omega
      · skip
        subst erl
        refine lv_istore_n (lv' := [(3, .int (iI (ls0.length : Int))), (2, .int (iI (i0 : Int))), (0, .ref m0), (1, .int (iI x))]) hx hb dX13_asksLines_25 rfl hl (by decide) rfl (fun ls hl => ?_)
        refine lv_aload_n hx hb dX13_asksLines_26 rfl (lv_at hl 2 rfl) ?_
        refine lv_iload_n hx hb dX13_asksLines_27 rfl (lv_at hl 1 rfl) ?_
        refine z_if_ge (tgt := 35) hx hb dX13_asksLines_28 (by decide) (by omega) (fun c_14 => ?_) (fun c_14 => ?_)
        · skip
          refine lv_iload_n hx hb dX13_asksLines_35 rfl (lv_at hl 0 rfl) ?_
          refine z_if_ge (tgt := 43) hx hb dX13_asksLines_36 (by decide) (by omega) (fun c_15 => ?_) (fun c_15 => ?_)
          · skip
            refine z_iconst hx hb dX13_asksLines_43 ?_
            refine m_put hC hZ 6 (ty := .int) (by decide) ql_X13_55 rfl rfl rfl (Or.inl rfl) rfl dX13_asksLines_44 (fun H locs hZ => ?_)
            have hok_16 := hok_8.v (k := 6) (x := 0) (by decide)
            refine lv_iload_n hx hb dX13_asksLines_47 rfl (lv_at hl 0 rfl) ?_
            exact z_iret hC hr hlk hZ (by decide) (by decide) (⟨_, _, rfl, hok_16, (fun k h1 h2 => (upN_n h1).trans (hsv k h2)), hsg, by have hzal : zal c0 x = (0, ls0) := (by unfold zal; rw [hz]; simp only []; rw [hzl]); unfold mAL; rw [hzal]; exact ⟨rfl, Or.inr (Or.inr ⟨rfl, rfl, hlb, hll, hml⟩)⟩⟩) dX13_asksLines_48
          · skip
            exfalso; omega
        · skip
          exfalso; omega
    · skip
      exfalso; omega

set_option maxHeartbeats 4000000 in
set_option maxRecDepth 100000 in
theorem met_X13_lineCount (l : Launch) (D : va_G) (cs : Nat → ClassId) (A : Nat → Prop) (m0 : Nat) (ad : Nat → Nat) (v : Nat → Int) (g : Nat → Int → Int) (x : Int)  (N : Nat) (c0 : zCo) (hD : mD m0 ad) (hok : mOK v g) (hR : mR (g 0) c0) (hK : cOK N c0) (hx0 : InR x) : zM l D cs A yX13_lineCount cX13_lineCount 2 (some FieldType.int) 7 0 0 [.ref m0, .int (iI x)] (mW cs m0 ad v g) (mP cs m0 ad (fun r v1 g1 => mB v g r v1 g1 (sLn c0 x (fun ls => ls.length)))) := by
  refine zM_of (own := RX13) (by decide) rfl (Nat.le_of_ble_eq_true rfl) ?_
  intro p e s m below meth c hC hr hlk hnm hZ ls hl
  have hx := hC.x
  have hb := hC.b
  have hl : lv_has ls 2 [(0, .ref m0), (1, .int (iI x))] := hl
  refine z_iconst hx hb dX13_lineCount_0 ?_
  refine lv_aload_n hx hb dX13_lineCount_1 rfl (lv_at hl 0 rfl) ?_
  refine lv_iload_n hx hb dX13_lineCount_2 rfl (lv_at hl 1 rfl) ?_
  refine z_calli (z_runV (rest := [.int (iI 0)]) (As := [.int (iI x)]) (n := 1) (ci := 16) hC hZ (met_X13_asksLines l D cs A m0 ad v g x N c0 hD hok hR hK (by omega)) gv_X13_171 hd_X13_asksLines rfl mW_o rfl hl rfl (Nat.le_of_ble_eq_true rfl) ⟨Nat.le_of_ble_eq_true rfl, Nat.le_of_ble_eq_true rfl⟩ ⟨Nat.le_of_ble_eq_true rfl, Nat.le_of_ble_eq_true rfl⟩ dX13_lineCount_3) hZ (fun r3 _ H locs hp_1 hZ => ?_)
  obtain ⟨v_3, g_4, rfl, hok_2, hsv, hsg, h6, hp_1⟩ := hp_1
  rcases hp_1 with ⟨hq, er⟩ | ⟨hq, er⟩ | ⟨hq, er, hlb, hll, hml⟩
  · skip
    subst er
    refine z_mmax (rest := []) hC hl qm_X13_174 (by decide) (by decide) ⟨Nat.le_of_ble_eq_true rfl, Nat.le_of_ble_eq_true rfl⟩ ⟨Nat.le_of_ble_eq_true rfl, Nat.le_of_ble_eq_true rfl⟩ dX13_lineCount_6 (fun r6 hmx6 => ?_)
    exact z_iret hC hr hlk hZ (by decide) (by decide) (⟨_, _, rfl, hok_2, h6, hsv, hsg, fun q => by exact absurd (hq.symm.trans q) (by decide)⟩) dX13_lineCount_9
  · skip
    subst er
    refine z_mmax (rest := []) hC hl qm_X13_174 (by decide) (by decide) ⟨Nat.le_of_ble_eq_true rfl, Nat.le_of_ble_eq_true rfl⟩ ⟨Nat.le_of_ble_eq_true rfl, Nat.le_of_ble_eq_true rfl⟩ dX13_lineCount_6 (fun r6 hmx6 => ?_)
    exact z_iret hC hr hlk hZ (by decide) (by decide) (⟨_, _, rfl, hok_2, h6, hsv, hsg, fun q => by exact absurd (hq.symm.trans q) (by decide)⟩) dX13_lineCount_9
  · skip
    subst er
    refine z_mmax (rest := []) hC hl qm_X13_174 (by decide) (by omega) ⟨Nat.le_of_ble_eq_true rfl, Nat.le_of_ble_eq_true rfl⟩ ⟨Nat.le_of_ble_eq_true rfl, Nat.le_of_ble_eq_true rfl⟩ dX13_lineCount_6 (fun r6 hmx6 => ?_)
    exact z_iret hC hr hlk hZ (by decide) (by decide) (⟨_, _, rfl, hok_2, h6, hsv, hsg, fun q => by show _ = ((zal c0 x).2.length : Int); omega⟩) dX13_lineCount_9

set_option maxHeartbeats 4000000 in
set_option maxRecDepth 100000 in
theorem met_X13_canBeSet (l : Launch) (D : va_G) (cs : Nat → ClassId) (A : Nat → Prop) (m0 : Nat) (ad : Nat → Nat) (v : Nat → Int) (g : Nat → Int → Int) (x : Int)  (N : Nat) (c0 : zCo) (hD : mD m0 ad) (hok : mOK v g) (hR : mR (g 0) c0) (hK : cOK N c0) (hx0 : InR x) : zM l D cs A yX13_canBeSet cX13_canBeSet 3 (some FieldType.boolean) 6 0 0 [.ref m0, .int (iI x)] (mW cs m0 ad v g) (mP cs m0 ad (fun r v1 g1 => mB v g r v1 g1 (match zfa (cAr c0) x with | none => (1, 0) | some a => (0, if (zlines (cWi c0) a.2.2).isSome then 1 else 0)))) := by
  refine zM_of (own := RX13) (by decide) rfl (Nat.le_of_ble_eq_true rfl) ?_
  intro p e s m below meth c hC hr hlk hnm hZ ls hl
  have hx := hC.x
  have hb := hC.b
  have hl : lv_has ls 3 [(0, .ref m0), (1, .int (iI x))] := hl
  have hn := mR_n hR hK
  have hwi := hK.2.2.2.2.2.2.2.2.1
  have hg2 := hR.2.2.1
  refine lv_aload_n hx hb dX13_canBeSet_0 rfl (lv_at hl 0 rfl) ?_
  refine lv_iload_n hx hb dX13_canBeSet_1 rfl (lv_at hl 1 rfl) ?_
  refine z_calli (z_runV (rest := []) (As := [.int (iI x)]) (n := 1) (ci := 16) hC hZ (met_X13_placeOf l D cs A m0 ad v g x  hD hok (by omega) hn) gv_X13_103 hd_X13_placeOf rfl mW_o rfl hl rfl (Nat.le_of_ble_eq_true rfl) ⟨Nat.le_of_ble_eq_true rfl, Nat.le_of_ble_eq_true rfl⟩ ⟨Nat.le_of_ble_eq_true rfl, Nat.le_of_ble_eq_true rfl⟩ dX13_canBeSet_2) hZ (fun r2 _ H locs hp_1 hZ => ?_)
  obtain ⟨_, _, rfl, _, rfl, rfl, hp_1⟩ := hp_1
  rcases mPl_fa hR hK hp_1 with ⟨hz, hzi, er⟩ | ⟨i0, a0, hz, hzi, er, hi, hid, hib, hra, hka⟩
  · skip
    subst er
    refine lv_istore_n (lv' := [(2, .int (iI (-1))), (0, .ref m0), (1, .int (iI x))]) hx hb dX13_canBeSet_5 rfl hl (by decide) rfl (fun ls hl => ?_)
    refine lv_aload_n hx hb dX13_canBeSet_6 rfl (lv_at hl 1 rfl) ?_
    refine lv_iload_n hx hb dX13_canBeSet_7 rfl (lv_at hl 0 rfl) ?_
    refine z_if_lt (tgt := 15) hx hb dX13_canBeSet_8 (by decide) (by decide) (fun c_2 => ?_) (fun c_2 => ?_)
    · skip
      refine z_iconst hx hb dX13_canBeSet_15 ?_
      refine z_calli (z_runV (rest := []) (As := [.int (iI 0)]) (n := 1) (ci := 16) hC hZ (met_X13_isThere l D cs A m0 ad v g 0  hD hok (by decide)) gv_X13_126 hd_X13_isThere rfl mW_o rfl hl rfl (Nat.le_of_ble_eq_true rfl) ⟨Nat.le_of_ble_eq_true rfl, Nat.le_of_ble_eq_true rfl⟩ ⟨Nat.le_of_ble_eq_true rfl, Nat.le_of_ble_eq_true rfl⟩ dX13_canBeSet_16) hZ (fun r16 _ H locs hp_3 hZ => ?_)
      obtain ⟨_, _, rfl, hok_4, rfl, rfl, rfl⟩ := hp_3
      refine z_if_eq (tgt := 40) hx hb dX13_canBeSet_19 (by decide) (by decide) (fun c_5 => ?_) (fun c_5 => ?_)
      · skip
        refine z_iconst hx hb dX13_canBeSet_40 ?_
        exact z_zret hC hr hlk hZ rfl (by decide) (by decide) (⟨_, _, rfl, hok_4, by rw [hz]; rfl, (fun k h1 h2 => upN_n h1), (fun _ _ _ _ => rfl), fun q => by rw [hz] at q; exact absurd (show (1 : Int) = 0 from q) (by decide)⟩) dX13_canBeSet_41
      · skip
        exfalso; omega
    · skip
      exfalso; omega
  · skip
    subst er
    refine lv_istore_n (lv' := [(2, .int (iI (i0 : Int))), (0, .ref m0), (1, .int (iI x))]) hx hb dX13_canBeSet_5 rfl hl (by decide) rfl (fun ls hl => ?_)
    refine lv_aload_n hx hb dX13_canBeSet_6 rfl (lv_at hl 1 rfl) ?_
    refine lv_iload_n hx hb dX13_canBeSet_7 rfl (lv_at hl 0 rfl) ?_
    refine z_if_lt (tgt := 15) hx hb dX13_canBeSet_8 (by decide) (by omega) (fun c_6 => ?_) (fun c_6 => ?_)
    · skip
      exfalso; omega
    · skip
      refine z_iconst hx hb dX13_canBeSet_11 ?_
      refine lv_goto (tgt := 16) hx hb dX13_canBeSet_12 (by decide) ?_
      refine z_calli (z_runV (rest := []) (As := [.int (iI 1)]) (n := 1) (ci := 16) hC hZ (met_X13_isThere l D cs A m0 ad v g 1  hD hok (by decide)) gv_X13_126 hd_X13_isThere rfl mW_o rfl hl rfl (Nat.le_of_ble_eq_true rfl) ⟨Nat.le_of_ble_eq_true rfl, Nat.le_of_ble_eq_true rfl⟩ ⟨Nat.le_of_ble_eq_true rfl, Nat.le_of_ble_eq_true rfl⟩ dX13_canBeSet_16) hZ (fun r16 _ H locs hp_7 hZ => ?_)
      obtain ⟨_, _, rfl, hok_8, rfl, rfl, rfl⟩ := hp_7
      refine z_if_eq (tgt := 40) hx hb dX13_canBeSet_19 (by decide) (by decide) (fun c_9 => ?_) (fun c_9 => ?_)
      · skip
        exfalso; omega
      · skip
        refine lv_aload_n hx hb dX13_canBeSet_22 rfl (lv_at hl 1 rfl) ?_
        refine lv_iload_n hx hb dX13_canBeSet_23 rfl (lv_at hl 0 rfl) ?_
        refine lv_aload_n hx hb dX13_canBeSet_24 rfl (lv_at hl 1 rfl) ?_
        refine m_get hC hZ 0 (x := .ref (ad 0)) rfl (by decide) ql_X13_9 rfl dX13_canBeSet_25 ?_
        refine z_iconst hx hb dX13_canBeSet_28 ?_
        refine m_iald hC hZ hD 0 (by decide) (f := g 0) rfl rfl (by decide) (by decide) dX13_canBeSet_29 ?_
        have hr_10 : -2147483648 ≤ (g 0) 2 ∧ (g 0) 2 ≤ 2147483647 := hok_8.2 0 _
        refine z_top (y := cWi c0) hg2 ?_
        refine z_calli (z_runV (rest := []) (As := [.int (iI (i0 : Int)), .int (iI (cWi c0))]) (n := 2) (ci := 16) hC hZ (met_X13_setsArticle l D cs A m0 ad (upN v 6 (1 - 1)) g (cWi c0) i0 a0 (cNi c0) hD hok_8 hra hka (by omega) hwi) gv_X13_168 hd_X13_setsArticle rfl mW_o rfl hl rfl (Nat.le_of_ble_eq_true rfl) ⟨Nat.le_of_ble_eq_true rfl, Nat.le_of_ble_eq_true rfl⟩ ⟨Nat.le_of_ble_eq_true rfl, Nat.le_of_ble_eq_true rfl⟩ dX13_canBeSet_30) hZ (fun r30 _ H locs hp_11 hZ => ?_)
        obtain ⟨v_13, g_14, rfl, hok_12, hsv, hsg, hp_11⟩ := hp_11
        rcases hp_11 with ⟨hzl, erl⟩ | ⟨ls0, hzl, erl, hlb, hll, hml⟩
        · skip
          subst erl
          refine z_if_lt (tgt := 40) hx hb dX13_canBeSet_33 (by decide) (by decide) (fun c_15 => ?_) (fun c_15 => ?_)
          · skip
            refine z_iconst hx hb dX13_canBeSet_40 ?_
            exact z_zret hC hr hlk hZ rfl (by decide) (by decide) (⟨_, _, rfl, hok_12, by rw [hz]; exact hsv 6 (by decide), (fun k h1 h2 => (hsv k h2).trans (upN_n h1)), hsg, fun q => by rw [hz]; simp only []; rw [hzl]; rfl⟩) dX13_canBeSet_41
          · skip
            exfalso; omega
        · skip
          subst erl
          refine z_if_lt (tgt := 40) hx hb dX13_canBeSet_33 (by decide) (by omega) (fun c_16 => ?_) (fun c_16 => ?_)
          · skip
            exfalso; omega
          · skip
            refine z_iconst hx hb dX13_canBeSet_36 ?_
            refine lv_goto (tgt := 41) hx hb dX13_canBeSet_37 (by decide) ?_
            exact z_zret hC hr hlk hZ rfl (by decide) (by decide) (⟨_, _, rfl, hok_12, by rw [hz]; exact hsv 6 (by decide), (fun k h1 h2 => (hsv k h2).trans (upN_n h1)), hsg, fun q => by rw [hz]; simp only []; rw [hzl]; rfl⟩) dX13_canBeSet_41

def zlw (ls : List zWd) (w : Int) : Option zWd := if 0 ≤ w then ls[w.toNat]? else none
/-- a line of an article: which exception, or the line -/
def zlq (c : zCo) (x w : Int) : Int × zWd := if (zal c x).1 = 0 then (match zlw (zal c x).2 w with
    | none => (3, [])
    | some l => (0, l)) else ((zal c x).1, [])
def mAK (c : zCo) (x w r : Int) (v1 : Nat → Int) (g1 : Nat → Int → Int) : Prop := (v1 6 ≠ 0 ∧ r = 0 ∧ (zlq c x w).1 = v1 6) ∨ (v1 6 = 0 ∧ r = 1 ∧ ∃ l, zlq c x w = (0, l) ∧ (0 ≤ w ∧ w ≤ 180) ∧ (l.length : Int) ≤ 20 ∧ lnAt (g1 9) (20 * w) l ∧ g1 10 w = l.length)
theorem zlq_1 {c : zCo} {x w : Int} (h : (zal c x).1 ≠ 0) : (zlq c x w).1 = (zal c x).1 := by
  unfold zlq; rw [if_neg h]
theorem zlq_3 {c : zCo} {x w : Int} (h : (zal c x).1 = 0) (hw : ¬ (0 ≤ w ∧ w ≤ ((zal c x).2.length : Int) - 1)) : (zlq c x w).1 = 3 := by
  unfold zlq zlw; rw [if_pos h]
  by_cases q : 0 ≤ w
  · rw [if_pos q, List.getElem?_eq_none (by omega)]
  · rw [if_neg q]
theorem zlq_0 {c : zCo} {x w : Int} (h : (zal c x).1 = 0) (hw : 0 ≤ w ∧ w ≤ ((zal c x).2.length : Int) - 1) : ∃ l, (zal c x).2[w.toNat]? = some l ∧ zlq c x w = (0, l) := by
  have hl : w.toNat < (zal c x).2.length := by omega
  refine ⟨_, List.getElem?_eq_getElem hl, ?_⟩
  unfold zlq zlw; rw [if_pos h, if_pos hw.1, List.getElem?_eq_getElem hl]
set_option maxHeartbeats 4000000 in
set_option maxRecDepth 100000 in
theorem met_X13_asksLine (l : Launch) (D : va_G) (cs : Nat → ClassId) (A : Nat → Prop) (m0 : Nat) (ad : Nat → Nat) (v : Nat → Int) (g : Nat → Int → Int) (x b : Int)  (N : Nat) (c0 : zCo) (hD : mD m0 ad) (hok : mOK v g) (hR : mR (g 0) c0) (hK : cOK N c0) (hx0 : InR x) (hb0 : InR b) : zM l D cs A yX13_asksLine cX13_asksLine 4 (some FieldType.boolean) 7 0 0 [.ref m0, .int (iI x), .int (iI b)] (mW cs m0 ad v g) (mP cs m0 ad (fun r v1 g1 => (∀ k, k ≠ 6 → k ≠ 12 → v1 k = v k) ∧ (∀ j, j ≠ 9 → j ≠ 10 → j ≠ 11 → g1 j = g j) ∧ mAK c0 x b r v1 g1)) := by
  refine zM_of (own := RX13) (by decide) rfl (Nat.le_of_ble_eq_true rfl) ?_
  intro p e s m below meth c hC hr hlk hnm hZ ls hl
  have hx := hC.x
  have hb := hC.b
  have hl : lv_has ls 4 [(0, .ref m0), (1, .int (iI x)), (2, .int (iI b))] := hl
  have hn := mR_n hR hK
  have hwi := hK.2.2.2.2.2.2.2.2.1
  have hg2 := hR.2.2.1
  refine lv_aload_n hx hb dX13_asksLine_0 rfl (lv_at hl 0 rfl) ?_
  refine lv_iload_n hx hb dX13_asksLine_1 rfl (lv_at hl 1 rfl) ?_
  refine z_calli (z_runV (rest := []) (As := [.int (iI x)]) (n := 1) (ci := 16) hC hZ (met_X13_asksLines l D cs A m0 ad v g x N c0 hD hok hR hK (by omega)) gv_X13_171 hd_X13_asksLines rfl mW_o rfl hl rfl (Nat.le_of_ble_eq_true rfl) ⟨Nat.le_of_ble_eq_true rfl, Nat.le_of_ble_eq_true rfl⟩ ⟨Nat.le_of_ble_eq_true rfl, Nat.le_of_ble_eq_true rfl⟩ dX13_asksLine_2) hZ (fun r2 _ H locs hp_1 hZ => ?_)
  obtain ⟨v_3, g_4, rfl, hok_2, hsv, hsg, h6, hp_1⟩ := hp_1
  rcases hp_1 with ⟨hq, er⟩ | ⟨hq, er⟩ | ⟨hq, er, hlb, hll, hml⟩
  · skip
    subst er
    refine lv_istore_n (lv' := [(3, .int (iI (-1))), (0, .ref m0), (1, .int (iI x)), (2, .int (iI b))]) hx hb dX13_asksLine_5 rfl hl (by decide) rfl (fun ls hl => ?_)
    refine lv_aload_n hx hb dX13_asksLine_6 rfl (lv_at hl 1 rfl) ?_
    refine lv_aload_n hx hb dX13_asksLine_7 rfl (lv_at hl 1 rfl) ?_
    refine m_get hC hZ 6 (x := .int (iI (v_3 6))) rfl (by decide) ql_X13_55 rfl dX13_asksLine_8 ?_
    have hr_5 : -2147483648 ≤ v_3 6 ∧ v_3 6 ≤ 2147483647 := hok_2.1 6
    refine z_if_le (tgt := 21) hx hb dX13_asksLine_11 (by decide) (by omega) (fun c_6 => ?_) (fun c_6 => ?_)
    · skip
      exfalso; omega
    · skip
      refine lv_aload_n hx hb dX13_asksLine_14 rfl (lv_at hl 1 rfl) ?_
      refine m_get hC hZ 6 (x := .int (iI (v_3 6))) rfl (by decide) ql_X13_55 rfl dX13_asksLine_15 ?_
      have hr_7 : -2147483648 ≤ v_3 6 ∧ v_3 6 ≤ 2147483647 := hok_2.1 6
      refine lv_goto (tgt := 37) hx hb dX13_asksLine_18 (by decide) ?_
      refine m_put hC hZ 6 (ty := .int) (by decide) ql_X13_55 rfl rfl rfl (Or.inl rfl) rfl dX13_asksLine_37 (fun H locs hZ => ?_)
      have hok_8 := hok_2.v (k := 6) (x := v_3 6) (by omega)
      refine lv_aload_n hx hb dX13_asksLine_40 rfl (lv_at hl 1 rfl) ?_
      refine m_get hC hZ 6 (x := .int (iI (v_3 6))) rfl (by decide) ql_X13_55 rfl dX13_asksLine_41 ?_
      refine z_if_ne (tgt := 51) hx hb dX13_asksLine_44 (by decide) (by omega) (fun c_9 => ?_) (fun c_9 => ?_)
      · skip
        refine z_iconst hx hb dX13_asksLine_51 ?_
        exact z_zret hC hr hlk hZ rfl (by decide) (by decide) (⟨_, _, rfl, hok_8, (fun k h1 h2 => (upN_n h1).trans (hsv k h1 h2)), hsg, Or.inl ⟨by show v_3 6 ≠ 0; omega, rfl, by show _ = v_3 6; rw [zlq_1 (by omega), h6]⟩⟩) dX13_asksLine_52
      · skip
        exfalso; omega
  · skip
    subst er
    refine lv_istore_n (lv' := [(3, .int (iI (-1))), (0, .ref m0), (1, .int (iI x)), (2, .int (iI b))]) hx hb dX13_asksLine_5 rfl hl (by decide) rfl (fun ls hl => ?_)
    refine lv_aload_n hx hb dX13_asksLine_6 rfl (lv_at hl 1 rfl) ?_
    refine lv_aload_n hx hb dX13_asksLine_7 rfl (lv_at hl 1 rfl) ?_
    refine m_get hC hZ 6 (x := .int (iI (v_3 6))) rfl (by decide) ql_X13_55 rfl dX13_asksLine_8 ?_
    have hr_10 : -2147483648 ≤ v_3 6 ∧ v_3 6 ≤ 2147483647 := hok_2.1 6
    refine z_if_le (tgt := 21) hx hb dX13_asksLine_11 (by decide) (by omega) (fun c_11 => ?_) (fun c_11 => ?_)
    · skip
      exfalso; omega
    · skip
      refine lv_aload_n hx hb dX13_asksLine_14 rfl (lv_at hl 1 rfl) ?_
      refine m_get hC hZ 6 (x := .int (iI (v_3 6))) rfl (by decide) ql_X13_55 rfl dX13_asksLine_15 ?_
      have hr_12 : -2147483648 ≤ v_3 6 ∧ v_3 6 ≤ 2147483647 := hok_2.1 6
      refine lv_goto (tgt := 37) hx hb dX13_asksLine_18 (by decide) ?_
      refine m_put hC hZ 6 (ty := .int) (by decide) ql_X13_55 rfl rfl rfl (Or.inl rfl) rfl dX13_asksLine_37 (fun H locs hZ => ?_)
      have hok_13 := hok_2.v (k := 6) (x := v_3 6) (by omega)
      refine lv_aload_n hx hb dX13_asksLine_40 rfl (lv_at hl 1 rfl) ?_
      refine m_get hC hZ 6 (x := .int (iI (v_3 6))) rfl (by decide) ql_X13_55 rfl dX13_asksLine_41 ?_
      refine z_if_ne (tgt := 51) hx hb dX13_asksLine_44 (by decide) (by omega) (fun c_14 => ?_) (fun c_14 => ?_)
      · skip
        refine z_iconst hx hb dX13_asksLine_51 ?_
        exact z_zret hC hr hlk hZ rfl (by decide) (by decide) (⟨_, _, rfl, hok_13, (fun k h1 h2 => (upN_n h1).trans (hsv k h1 h2)), hsg, Or.inl ⟨by show v_3 6 ≠ 0; omega, rfl, by show _ = v_3 6; rw [zlq_1 (by omega), h6]⟩⟩) dX13_asksLine_52
      · skip
        exfalso; omega
  · skip
    subst er
    refine lv_istore_n (lv' := [(3, .int (iI ((zal c0 x).2.length : Int))), (0, .ref m0), (1, .int (iI x)), (2, .int (iI b))]) hx hb dX13_asksLine_5 rfl hl (by decide) rfl (fun ls hl => ?_)
    refine lv_aload_n hx hb dX13_asksLine_6 rfl (lv_at hl 1 rfl) ?_
    refine lv_aload_n hx hb dX13_asksLine_7 rfl (lv_at hl 1 rfl) ?_
    refine m_get hC hZ 6 (x := .int (iI (v_3 6))) rfl (by decide) ql_X13_55 rfl dX13_asksLine_8 ?_
    have hr_15 : -2147483648 ≤ v_3 6 ∧ v_3 6 ≤ 2147483647 := hok_2.1 6
    refine z_if_le (tgt := 21) hx hb dX13_asksLine_11 (by decide) (by omega) (fun c_16 => ?_) (fun c_16 => ?_)
    · skip
      refine lv_iload_n hx hb dX13_asksLine_21 rfl (lv_at hl 3 rfl) ?_
      refine z_iconst hx hb dX13_asksLine_22 ?_
      refine lv_iload_n hx hb dX13_asksLine_23 rfl (lv_at hl 0 rfl) ?_
      refine z_iconst hx hb dX13_asksLine_24 ?_
      refine z_isub hx hb dX13_asksLine_25 ?_
      refine z_calli (z_runS (rest := [.ref m0]) (As := [.int (iI b), .int (iI 0), .int (iI (((zal c0 x).2.length : Int) - 1))]) (n := 3) hC hZ (met_X13_in l D cs A (mW cs m0 ad v_3 g_4) b 0 (((zal c0 x).2.length : Int) - 1) (by omega) (by decide) (by omega)) gs_X13_71 he_X13_in rfl hl rfl (Nat.le_of_ble_eq_true rfl) ⟨Nat.le_of_ble_eq_true rfl, Nat.le_of_ble_eq_true rfl⟩ ⟨Nat.le_of_ble_eq_true rfl, Nat.le_of_ble_eq_true rfl⟩ dX13_asksLine_26) hZ (fun r26 _ H locs hp_17 hZ => ?_)
      obtain ⟨rfl, hp_17⟩ := hp_17
      have hin := hp_17
      refine z_if_ne (tgt := 36) hx hb dX13_asksLine_29 (by decide) (by omega) (fun c_18 => ?_) (fun c_18 => ?_)
      · skip
        refine z_iconst hx hb dX13_asksLine_36 ?_
        refine m_put hC hZ 6 (ty := .int) (by decide) ql_X13_55 rfl rfl rfl (Or.inl rfl) rfl dX13_asksLine_37 (fun H locs hZ => ?_)
        have hok_19 := hok_2.v (k := 6) (x := 0) (by decide)
        refine lv_aload_n hx hb dX13_asksLine_40 rfl (lv_at hl 1 rfl) ?_
        refine m_get hC hZ 6 (x := .int (iI 0)) rfl (by decide) ql_X13_55 rfl dX13_asksLine_41 ?_
        refine z_if_ne (tgt := 51) hx hb dX13_asksLine_44 (by decide) (by decide) (fun c_20 => ?_) (fun c_20 => ?_)
        · skip
          exfalso; omega
        · skip
          refine z_iconst hx hb dX13_asksLine_47 ?_
          refine lv_goto (tgt := 52) hx hb dX13_asksLine_48 (by decide) ?_
          exact z_zret hC hr hlk hZ rfl (by decide) (by decide) (⟨_, _, rfl, hok_19, (fun k h1 h2 => (upN_n h1).trans (hsv k h1 h2)), hsg, by obtain ⟨l, hl, hz⟩ := zlq_0 (w := b) hq (by omega); obtain ⟨m1, m2, m3⟩ := hml _ _ hl; rw [Int.toNat_of_nonneg (by omega)] at m1 m2; exact Or.inr ⟨rfl, rfl, l, hz, ⟨by omega, by omega⟩, Int.le_trans (hll l (List.mem_of_getElem? hl)) (by omega), m1, m2⟩⟩) dX13_asksLine_52
      · skip
        refine z_iconst hx hb dX13_asksLine_32 ?_
        refine lv_goto (tgt := 37) hx hb dX13_asksLine_33 (by decide) ?_
        refine m_put hC hZ 6 (ty := .int) (by decide) ql_X13_55 rfl rfl rfl (Or.inl rfl) rfl dX13_asksLine_37 (fun H locs hZ => ?_)
        have hok_21 := hok_2.v (k := 6) (x := 3) (by decide)
        refine lv_aload_n hx hb dX13_asksLine_40 rfl (lv_at hl 1 rfl) ?_
        refine m_get hC hZ 6 (x := .int (iI 3)) rfl (by decide) ql_X13_55 rfl dX13_asksLine_41 ?_
        refine z_if_ne (tgt := 51) hx hb dX13_asksLine_44 (by decide) (by decide) (fun c_22 => ?_) (fun c_22 => ?_)
        · skip
          refine z_iconst hx hb dX13_asksLine_51 ?_
          exact z_zret hC hr hlk hZ rfl (by decide) (by decide) (⟨_, _, rfl, hok_21, (fun k h1 h2 => (upN_n h1).trans (hsv k h1 h2)), hsg, Or.inl ⟨by show (3 : Int) ≠ 0; decide, rfl, zlq_3 hq (by omega)⟩⟩) dX13_asksLine_52
        · skip
          exfalso; omega
    · skip
      exfalso; omega

set_option maxHeartbeats 4000000 in
set_option maxRecDepth 100000 in
theorem met_X13_lineLength (l : Launch) (D : va_G) (cs : Nat → ClassId) (A : Nat → Prop) (m0 : Nat) (ad : Nat → Nat) (v : Nat → Int) (g : Nat → Int → Int) (x b : Int)  (N : Nat) (c0 : zCo) (hD : mD m0 ad) (hok : mOK v g) (hR : mR (g 0) c0) (hK : cOK N c0) (hx0 : InR x) (hb0 : InR b) : zM l D cs A yX13_lineLength cX13_lineLength 3 (some FieldType.int) 8 0 0 [.ref m0, .int (iI x), .int (iI b)] (mW cs m0 ad v g) (mP cs m0 ad (fun r v1 g1 => mB v g r v1 g1 (((zlq c0 x b).1, (zlq c0 x b).2.length)))) := by
  refine zM_of (own := RX13) (by decide) rfl (Nat.le_of_ble_eq_true rfl) ?_
  intro p e s m below meth c hC hr hlk hnm hZ ls hl
  have hx := hC.x
  have hb := hC.b
  have hl : lv_has ls 3 [(0, .ref m0), (1, .int (iI x)), (2, .int (iI b))] := hl
  refine lv_aload_n hx hb dX13_lineLength_0 rfl (lv_at hl 0 rfl) ?_
  refine lv_iload_n hx hb dX13_lineLength_1 rfl (lv_at hl 1 rfl) ?_
  refine lv_iload_n hx hb dX13_lineLength_2 rfl (lv_at hl 2 rfl) ?_
  refine z_calli (z_runV (rest := []) (As := [.int (iI x), .int (iI b)]) (n := 2) (ci := 16) hC hZ (met_X13_asksLine l D cs A m0 ad v g x b N c0 hD hok hR hK (by omega) (by omega)) gv_X13_179 hd_X13_asksLine rfl mW_o rfl hl rfl (Nat.le_of_ble_eq_true rfl) ⟨Nat.le_of_ble_eq_true rfl, Nat.le_of_ble_eq_true rfl⟩ ⟨Nat.le_of_ble_eq_true rfl, Nat.le_of_ble_eq_true rfl⟩ dX13_lineLength_3) hZ (fun r3 _ H locs hp_1 hZ => ?_)
  obtain ⟨v_3, g_4, rfl, hok_2, hsv, hsg, hp_1⟩ := hp_1
  rcases hp_1 with ⟨h6, er, hzq⟩ | ⟨h6, er, ln0, hzq, hwb, hl20, hla, hlg⟩
  · skip
    subst er
    refine z_if_eq (tgt := 18) hx hb dX13_lineLength_6 (by decide) (by decide) (fun c_5 => ?_) (fun c_5 => ?_)
    · skip
      refine z_iconst hx hb dX13_lineLength_18 ?_
      exact z_iret hC hr hlk hZ (by decide) (by decide) (⟨_, _, rfl, hok_2, hzq.symm, hsv, hsg, fun q => absurd (hzq.symm.trans q) h6⟩) dX13_lineLength_19
    · skip
      exfalso; omega
  · skip
    subst er
    refine z_if_eq (tgt := 18) hx hb dX13_lineLength_6 (by decide) (by decide) (fun c_6 => ?_) (fun c_6 => ?_)
    · skip
      exfalso; omega
    · skip
      refine lv_aload_n hx hb dX13_lineLength_9 rfl (lv_at hl 0 rfl) ?_
      refine m_get hC hZ 10 (x := .ref (ad 10)) rfl (by decide) ql_X13_29 rfl dX13_lineLength_10 ?_
      refine lv_iload_n hx hb dX13_lineLength_13 rfl (lv_at hl 2 rfl) ?_
      refine m_iald hC hZ hD 10 (by decide) (f := g_4 10) rfl rfl (by show _ ∧ _ < (200 : Int); omega) (by decide) dX13_lineLength_14 ?_
      have hr_7 : -2147483648 ≤ (g_4 10) b ∧ (g_4 10) b ≤ 2147483647 := hok_2.2 10 _
      refine lv_goto (tgt := 19) hx hb dX13_lineLength_15 (by decide) ?_
      exact z_iret hC hr hlk hZ (by decide) (by decide) (⟨_, _, rfl, hok_2, by rw [hzq]; exact h6, hsv, hsg, fun q => by rw [hzq]; exact hlg⟩) dX13_lineLength_19

def sHy (ls : List zWd) : Int := (ls.countP (fun l => l.getLast? == some 45) : Nat)
theorem sHy_s {ls : List zWd} {k : Nat} {l : zWd} (h : ls[k]? = some l) : sHy (ls.take (k + 1)) = sHy (ls.take k) + hyI l := by
  unfold sHy hyI
  rw [List.take_add_one, h, List.countP_append]
  by_cases q : l.getLast? = some 45
  · rw [if_pos q]; simp [q]
  · rw [if_neg q]; simp [q]
theorem hyI_01 (l : zWd) : hyI l = 0 ∨ hyI l = 1 := by unfold hyI; split <;> simp
set_option maxHeartbeats 4000000 in
set_option maxRecDepth 100000 in
theorem met_X13_hyphenCount (l : Launch) (D : va_G) (cs : Nat → ClassId) (A : Nat → Prop) (m0 : Nat) (ad : Nat → Nat) (v : Nat → Int) (g : Nat → Int → Int) (x : Int)  (N : Nat) (c0 : zCo) (hD : mD m0 ad) (hok : mOK v g) (hR : mR (g 0) c0) (hK : cOK N c0) (hx0 : InR x) : zM l D cs A yX13_hyphenCount cX13_hyphenCount 5 (some FieldType.int) 7 0 0 [.ref m0, .int (iI x)] (mW cs m0 ad v g) (mP cs m0 ad (fun r v1 g1 => mB v g r v1 g1 (sLn c0 x sHy))) := by
  refine zM_of (own := RX13) (by decide) rfl (Nat.le_of_ble_eq_true rfl) ?_
  intro p e s m below meth c hC hr hlk hnm hZ ls hl
  have hx := hC.x
  have hb := hC.b
  have hl : lv_has ls 5 [(0, .ref m0), (1, .int (iI x))] := hl
  refine lv_aload_n hx hb dX13_hyphenCount_0 rfl (lv_at hl 0 rfl) ?_
  refine lv_iload_n hx hb dX13_hyphenCount_1 rfl (lv_at hl 1 rfl) ?_
  refine z_calli (z_runV (rest := []) (As := [.int (iI x)]) (n := 1) (ci := 16) hC hZ (met_X13_asksLines l D cs A m0 ad v g x N c0 hD hok hR hK (by omega)) gv_X13_171 hd_X13_asksLines rfl mW_o rfl hl rfl (Nat.le_of_ble_eq_true rfl) ⟨Nat.le_of_ble_eq_true rfl, Nat.le_of_ble_eq_true rfl⟩ ⟨Nat.le_of_ble_eq_true rfl, Nat.le_of_ble_eq_true rfl⟩ dX13_hyphenCount_2) hZ (fun r2 _ H locs hp_1 hZ => ?_)
  obtain ⟨v_3, g_4, rfl, hok_2, hsv, hsg, h6, hp_1⟩ := hp_1
  rcases hp_1 with ⟨hq, er⟩ | ⟨hq, er⟩ | ⟨hq, er, hlb, hll, hml⟩
  · skip
    subst er
    refine lv_istore_n (lv' := [(2, .int (iI (-1))), (0, .ref m0), (1, .int (iI x))]) hx hb dX13_hyphenCount_5 rfl hl (by decide) rfl (fun ls hl => ?_)
    refine z_iconst hx hb dX13_hyphenCount_6 ?_
    refine lv_istore_n (lv' := [(3, .int (iI 0)), (2, .int (iI (-1))), (0, .ref m0), (1, .int (iI x))]) hx hb dX13_hyphenCount_7 rfl hl (by decide) rfl (fun ls hl => ?_)
    refine z_iconst hx hb dX13_hyphenCount_8 ?_
    refine lv_istore (lv' := [(4, .int (iI 0)), (3, .int (iI 0)), (2, .int (iI (-1))), (0, .ref m0), (1, .int (iI x))]) hx hb dX13_hyphenCount_9 hl (by decide) rfl (fun ls hl => ?_)
    refine lv_iload hx hb dX13_hyphenCount_11 (lv_at hl 0 rfl) ?_
    refine lv_iload_n hx hb dX13_hyphenCount_13 rfl (lv_at hl 2 rfl) ?_
    refine z_icmp_ge (tgt := 41) hx hb dX13_hyphenCount_14 (by decide) (by decide) (by decide) (fun c_5 => ?_) (fun c_5 => ?_)
    · skip
      refine lv_iload_n hx hb dX13_hyphenCount_41 rfl (lv_at hl 1 rfl) ?_
      exact z_iret hC hr hlk hZ (by decide) (by decide) (⟨_, _, rfl, hok_2, h6, hsv, hsg, fun q => by exact absurd (hq.symm.trans q) (by decide)⟩) dX13_hyphenCount_42
    · skip
      exfalso; omega
  · skip
    subst er
    refine lv_istore_n (lv' := [(2, .int (iI (-1))), (0, .ref m0), (1, .int (iI x))]) hx hb dX13_hyphenCount_5 rfl hl (by decide) rfl (fun ls hl => ?_)
    refine z_iconst hx hb dX13_hyphenCount_6 ?_
    refine lv_istore_n (lv' := [(3, .int (iI 0)), (2, .int (iI (-1))), (0, .ref m0), (1, .int (iI x))]) hx hb dX13_hyphenCount_7 rfl hl (by decide) rfl (fun ls hl => ?_)
    refine z_iconst hx hb dX13_hyphenCount_8 ?_
    refine lv_istore (lv' := [(4, .int (iI 0)), (3, .int (iI 0)), (2, .int (iI (-1))), (0, .ref m0), (1, .int (iI x))]) hx hb dX13_hyphenCount_9 hl (by decide) rfl (fun ls hl => ?_)
    refine lv_iload hx hb dX13_hyphenCount_11 (lv_at hl 0 rfl) ?_
    refine lv_iload_n hx hb dX13_hyphenCount_13 rfl (lv_at hl 2 rfl) ?_
    refine z_icmp_ge (tgt := 41) hx hb dX13_hyphenCount_14 (by decide) (by decide) (by decide) (fun c_6 => ?_) (fun c_6 => ?_)
    · skip
      refine lv_iload_n hx hb dX13_hyphenCount_41 rfl (lv_at hl 1 rfl) ?_
      exact z_iret hC hr hlk hZ (by decide) (by decide) (⟨_, _, rfl, hok_2, h6, hsv, hsg, fun q => by exact absurd (hq.symm.trans q) (by decide)⟩) dX13_hyphenCount_42
    · skip
      exfalso; omega
  · skip
    subst er
    refine lv_istore_n (lv' := [(2, .int (iI ((zal c0 x).2.length : Int))), (0, .ref m0), (1, .int (iI x))]) hx hb dX13_hyphenCount_5 rfl hl (by decide) rfl (fun ls hl => ?_)
    refine z_iconst hx hb dX13_hyphenCount_6 ?_
    refine lv_istore_n (lv' := [(3, .int (iI 0)), (2, .int (iI ((zal c0 x).2.length : Int))), (0, .ref m0), (1, .int (iI x))]) hx hb dX13_hyphenCount_7 rfl hl (by decide) rfl (fun ls hl => ?_)
    refine z_iconst hx hb dX13_hyphenCount_8 ?_
    refine lv_istore (lv' := [(4, .int (iI 0)), (3, .int (iI 0)), (2, .int (iI ((zal c0 x).2.length : Int))), (0, .ref m0), (1, .int (iI x))]) hx hb dX13_hyphenCount_9 hl (by decide) rfl (fun ls hl => ?_)
    have L11_k_7 : ∀ (fu : Nat) (q i : Int)  (hfu : (((zal c0 x).2.length : Int) - i).toNat < fu) (hi11_0 : 0 ≤ i ∧ i ≤ (zal c0 x).2.length) (hi11_1 : 0 ≤ q ∧ q ≤ i) (hi11_2 : q = sHy ((zal c0 x).2.take i.toNat)) (H : Heap) (locs : List Loc) (hZ : zS D A s (mW cs m0 ad v_3 g_4) H locs) (ls : Array Slot) (hl : lv_has ls 5 [(4, .int (iI i)), (3, .int (iI q)), (2, .int (iI ((zal c0 x).2.length : Int))), (0, .ref m0), (1, .int (iI x))]), W p l e (zR 7 0 0) s m [.ref m0, .int (iI x)].toArray below meth c H locs 0 0 (MQ below (zQ D A (mP cs m0 ad (fun r v1 g1 => mB v g r v1 g1 (sLn c0 x sHy)))) [.ref m0, .int (iI x)].toArray s 0 0 A) (F0 m 11 ls []) := by
      intro fu
      induction fu with
      | zero =>
        intro q i  hfu
        exact absurd hfu (Nat.not_lt_zero _)
      | succ fu ih11 =>
        intro q i  hfu hi11_0 hi11_1 hi11_2  H locs hZ ls hl
        refine lv_iload hx hb dX13_hyphenCount_11 (lv_at hl 0 rfl) ?_
        refine lv_iload_n hx hb dX13_hyphenCount_13 rfl (lv_at hl 2 rfl) ?_
        refine z_icmp_ge (tgt := 41) hx hb dX13_hyphenCount_14 (by decide) (by omega) (by omega) (fun c_8 => ?_) (fun c_8 => ?_)
        · skip
          refine lv_iload_n hx hb dX13_hyphenCount_41 rfl (lv_at hl 1 rfl) ?_
          exact z_iret hC hr hlk hZ (by decide) (by decide) (⟨_, _, rfl, hok_2, h6, hsv, hsg, fun q => by show _ = sHy (zal c0 x).2; rw [hi11_2, List.take_of_length_le (by omega)]⟩) dX13_hyphenCount_42
        · skip
          have hil : i.toNat < (zal c0 x).2.length := by omega
          obtain ⟨lk, hlk⟩ : ∃ l, (zal c0 x).2[i.toNat]? = some l := ⟨_, List.getElem?_eq_getElem hil⟩
          have hm3 := (hml _ _ hlk).2.2
          rw [Int.toNat_of_nonneg (by omega)] at hm3
          have hy01 := hyI_01 lk
          refine lv_iload_n hx hb dX13_hyphenCount_17 rfl (lv_at hl 1 rfl) ?_
          refine lv_aload_n hx hb dX13_hyphenCount_18 rfl (lv_at hl 3 rfl) ?_
          refine m_get hC hZ 11 (x := .ref (ad 11)) rfl (by decide) ql_X13_32 rfl dX13_hyphenCount_19 ?_
          refine lv_iload hx hb dX13_hyphenCount_22 (lv_at hl 0 rfl) ?_
          refine m_zald hC hZ hD 11 (by decide) (f := g_4 11) rfl rfl (by show _ ∧ _ < (200 : Int); omega) (by decide) dX13_hyphenCount_24 ?_
          have hr_9 : -2147483648 ≤ (g_4 11) i ∧ (g_4 11) i ≤ 2147483647 := hok_2.2 11 _
          refine z_if_eq (tgt := 32) hx hb dX13_hyphenCount_25 (by decide) (by omega) (fun c_10 => ?_) (fun c_10 => ?_)
          · skip
            refine z_iconst hx hb dX13_hyphenCount_32 ?_
            refine z_iadd hx hb dX13_hyphenCount_33 ?_
            refine lv_istore_n (lv' := [(3, .int (iI (q + 0))), (4, .int (iI i)), (2, .int (iI ((zal c0 x).2.length : Int))), (0, .ref m0), (1, .int (iI x))]) hx hb dX13_hyphenCount_34 rfl hl (by decide) rfl (fun ls hl => ?_)
            refine z_iinc (lv' := [(4, .int (iI (i + 1))), (3, .int (iI (q + 0))), (2, .int (iI ((zal c0 x).2.length : Int))), (0, .ref m0), (1, .int (iI x))]) hx hb dX13_hyphenCount_35 hl (k := 1) rfl (by decide) rfl (fun ls hl => ?_)
            refine lv_goto (tgt := 11) hx hb dX13_hyphenCount_38 (by decide) ?_
            exact ih11 (q + 0) (i + 1)  (by omega) (by omega) (by omega) (by rw [show (i + 1).toNat = i.toNat + 1 by omega, sHy_s hlk, ← hi11_2]; omega)  _ _ hZ ls (lv_sub hl [0, 1, 2, 3, 4] rfl)
          · skip
            refine z_iconst hx hb dX13_hyphenCount_28 ?_
            refine lv_goto (tgt := 33) hx hb dX13_hyphenCount_29 (by decide) ?_
            refine z_iadd hx hb dX13_hyphenCount_33 ?_
            refine lv_istore_n (lv' := [(3, .int (iI (q + 1))), (4, .int (iI i)), (2, .int (iI ((zal c0 x).2.length : Int))), (0, .ref m0), (1, .int (iI x))]) hx hb dX13_hyphenCount_34 rfl hl (by decide) rfl (fun ls hl => ?_)
            refine z_iinc (lv' := [(4, .int (iI (i + 1))), (3, .int (iI (q + 1))), (2, .int (iI ((zal c0 x).2.length : Int))), (0, .ref m0), (1, .int (iI x))]) hx hb dX13_hyphenCount_35 hl (k := 1) rfl (by decide) rfl (fun ls hl => ?_)
            refine lv_goto (tgt := 11) hx hb dX13_hyphenCount_38 (by decide) ?_
            exact ih11 (q + 1) (i + 1)  (by omega) (by omega) (by omega) (by rw [show (i + 1).toNat = i.toNat + 1 by omega, sHy_s hlk, ← hi11_2]; omega)  _ _ hZ ls (lv_sub hl [0, 1, 2, 3, 4] rfl)
    exact L11_k_7 _ 0 0  (Nat.lt_succ_self _) (by omega) (by omega) rfl  _ _ hZ ls (lv_sub hl [0, 1, 2, 3, 4] rfl)

