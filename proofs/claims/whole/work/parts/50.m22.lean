set_option maxHeartbeats 4000000 in
set_option maxRecDepth 100000 in
theorem met_X13_setWidth (l : Launch) (D : va_G) (cs : Nat → ClassId) (A : Nat → Prop) (m0 : Nat) (ad : Nat → Nat) (v : Nat → Int) (g : Nat → Int → Int) (x : Int) (hs : List zCo) (N : Nat) (c0 : zCo) (hD : mD m0 ad) (hok : mOK v g) (hR : mR (g 0) c0) (hK : cOK N c0) (hx0 : InR x) (hH : mHi v g hs) (hHK : ∀ h ∈ hs, cOK N h) (hRA : (sWid c0 x).1 = 0 → InR (sWid c0 x).2.2) : zM l D cs A yX13_setWidth cX13_setWidth 2 (some FieldType.int) 3 0 0 [.ref m0, .int (iI x)] (mW cs m0 ad v g) (mP cs m0 ad (fun r v1 g1 => mTop v g r v1 g1 c0 hs (sWid c0 x) ((upN v 6 0)))) := by
  refine zM_of (own := RX13) (by decide) rfl (Nat.le_of_ble_eq_true rfl) ?_
  intro p e s m below meth c hC hr hlk hnm hZ ls hl
  have hx := hC.x
  have hb := hC.b
  have hl : lv_has ls 2 [(0, .ref m0), (1, .int (iI x))] := hl
  refine lv_aload_n hx hb dX13_setWidth_0 rfl (lv_at hl 0 rfl) ?_
  refine z_callv (z_runV (rest := []) (As := []) (n := 0) (ci := 16) hC hZ (met_X13_keep l D cs A m0 ad v g   hD hok ) gv_X13_94 hd_X13_keep rfl mW_o rfl hl rfl (Nat.le_of_ble_eq_true rfl) ⟨Nat.le_of_ble_eq_true rfl, Nat.le_of_ble_eq_true rfl⟩ ⟨Nat.le_of_ble_eq_true rfl, Nat.le_of_ble_eq_true rfl⟩ dX13_setWidth_1) hZ (fun _ H locs hp_1 hZ => ?_)
  obtain ⟨_, _, rfl, hok_2, rfl, rfl⟩ := hp_1
  refine lv_aload_n hx hb dX13_setWidth_4 rfl (lv_at hl 0 rfl) ?_
  refine lv_aload_n hx hb dX13_setWidth_5 rfl (lv_at hl 0 rfl) ?_
  refine lv_iload_n hx hb dX13_setWidth_6 rfl (lv_at hl 1 rfl) ?_
  refine z_calli (z_runV (rest := [.ref m0]) (As := [.int (iI x)]) (n := 1) (ci := 16) hC hZ (met_X13_doSetWidth l D cs A m0 ad (upN v 6 0) (upG g 1 (cpI (g 0) (g 1) 0 0 2439)) x  hD hok_2 hx0) gv_X13_165 hd_X13_doSetWidth rfl mW_o rfl hl rfl (Nat.le_of_ble_eq_true rfl) ⟨Nat.le_of_ble_eq_true rfl, Nat.le_of_ble_eq_true rfl⟩ ⟨Nat.le_of_ble_eq_true rfl, Nat.le_of_ble_eq_true rfl⟩ dX13_setWidth_7) hZ (fun r7 _ H locs hp_3 hZ => ?_)
  obtain ⟨v_5, g_6, rfl, hok_4, hdo⟩ := hp_3
  replace hdo := mDo_wid (g := (upG g 1 (cpI (g 0) (g 1) 0 0 2439))) hR hK hdo
  have h5b : 0 ≤ v_5 5 ∧ v_5 5 ≤ 8 := by
    have hh1 := hH.1
    have hh2 := hH.2.1
    rcases hdo with ⟨-, hh, -, -⟩ | ⟨-, hh, -, -⟩
    · rw [← hh, upN_n (by decide), upN_n (by decide)]; omega
    · rw [hh 5 (by decide)]; show 0 ≤ v 5 ∧ v 5 ≤ 8; omega
  have hrr : InR r7 := by
    rcases hdo with ⟨-, -, -, hh⟩ | ⟨hq0, -, -, -, hh⟩
    · rw [← hh]; decide
    · rw [← hh]; exact hRA hq0
  refine z_calli (z_runV (rest := []) (As := [.int (iI r7)]) (n := 1) (ci := 16) hC hZ (met_X13_ends l D cs A m0 ad v_5 g_6 r7  hD hok_4 hrr h5b) gv_X13_100 hd_X13_ends rfl mW_o rfl hl rfl (Nat.le_of_ble_eq_true rfl) ⟨Nat.le_of_ble_eq_true rfl, Nat.le_of_ble_eq_true rfl⟩ ⟨Nat.le_of_ble_eq_true rfl, Nat.le_of_ble_eq_true rfl⟩ dX13_setWidth_10) hZ (fun r10 _ H locs hp_7 hZ => ?_)
  obtain ⟨v_9, g_10, rfl, hok_8, hen⟩ := hp_7
  exact z_iret hC hr hlk hZ (by decide) (by decide) (⟨_, _, rfl, hok_8, mTop_of hR hK hH hHK (sWid_p _ _) hdo rfl rfl hen⟩) dX13_setWidth_13

set_option maxHeartbeats 4000000 in
set_option maxRecDepth 100000 in
theorem met_X13_setPage (l : Launch) (D : va_G) (cs : Nat → ClassId) (A : Nat → Prop) (m0 : Nat) (ad : Nat → Nat) (v : Nat → Int) (g : Nat → Int → Int) (x y : Int) (hs : List zCo) (N : Nat) (c0 : zCo) (hD : mD m0 ad) (hok : mOK v g) (hR : mR (g 0) c0) (hK : cOK N c0) (hx0 : InR x) (hy0 : InR y) (hH : mHi v g hs) (hHK : ∀ h ∈ hs, cOK N h) (hRA : (sPag c0 x y).1 = 0 → InR (sPag c0 x y).2.2) : zM l D cs A yX13_setPage cX13_setPage 3 (some FieldType.int) 3 0 0 [.ref m0, .int (iI x), .int (iI y)] (mW cs m0 ad v g) (mP cs m0 ad (fun r v1 g1 => mTop v g r v1 g1 c0 hs (sPag c0 x y) ((upN v 6 0)))) := by
  refine zM_of (own := RX13) (by decide) rfl (Nat.le_of_ble_eq_true rfl) ?_
  intro p e s m below meth c hC hr hlk hnm hZ ls hl
  have hx := hC.x
  have hb := hC.b
  have hl : lv_has ls 3 [(0, .ref m0), (1, .int (iI x)), (2, .int (iI y))] := hl
  refine lv_aload_n hx hb dX13_setPage_0 rfl (lv_at hl 0 rfl) ?_
  refine z_callv (z_runV (rest := []) (As := []) (n := 0) (ci := 16) hC hZ (met_X13_keep l D cs A m0 ad v g   hD hok ) gv_X13_94 hd_X13_keep rfl mW_o rfl hl rfl (Nat.le_of_ble_eq_true rfl) ⟨Nat.le_of_ble_eq_true rfl, Nat.le_of_ble_eq_true rfl⟩ ⟨Nat.le_of_ble_eq_true rfl, Nat.le_of_ble_eq_true rfl⟩ dX13_setPage_1) hZ (fun _ H locs hp_1 hZ => ?_)
  obtain ⟨_, _, rfl, hok_2, rfl, rfl⟩ := hp_1
  refine lv_aload_n hx hb dX13_setPage_4 rfl (lv_at hl 0 rfl) ?_
  refine lv_aload_n hx hb dX13_setPage_5 rfl (lv_at hl 0 rfl) ?_
  refine lv_iload_n hx hb dX13_setPage_6 rfl (lv_at hl 1 rfl) ?_
  refine lv_iload_n hx hb dX13_setPage_7 rfl (lv_at hl 2 rfl) ?_
  refine z_calli (z_runV (rest := [.ref m0]) (As := [.int (iI x), .int (iI y)]) (n := 2) (ci := 16) hC hZ (met_X13_doSetPage l D cs A m0 ad (upN v 6 0) (upG g 1 (cpI (g 0) (g 1) 0 0 2439)) x y  hD hok_2 hx0 hy0) gv_X13_191 hd_X13_doSetPage rfl mW_o rfl hl rfl (Nat.le_of_ble_eq_true rfl) ⟨Nat.le_of_ble_eq_true rfl, Nat.le_of_ble_eq_true rfl⟩ ⟨Nat.le_of_ble_eq_true rfl, Nat.le_of_ble_eq_true rfl⟩ dX13_setPage_8) hZ (fun r8 _ H locs hp_3 hZ => ?_)
  obtain ⟨v_5, g_6, rfl, hok_4, hdo⟩ := hp_3
  replace hdo := mDo_pag (g := (upG g 1 (cpI (g 0) (g 1) 0 0 2439))) hR hK hdo
  have h5b : 0 ≤ v_5 5 ∧ v_5 5 ≤ 8 := by
    have hh1 := hH.1
    have hh2 := hH.2.1
    rcases hdo with ⟨-, hh, -, -⟩ | ⟨-, hh, -, -⟩
    · rw [← hh, upN_n (by decide), upN_n (by decide)]; omega
    · rw [hh 5 (by decide)]; show 0 ≤ v 5 ∧ v 5 ≤ 8; omega
  have hrr : InR r8 := by
    rcases hdo with ⟨-, -, -, hh⟩ | ⟨hq0, -, -, -, hh⟩
    · rw [← hh]; decide
    · rw [← hh]; exact hRA hq0
  refine z_calli (z_runV (rest := []) (As := [.int (iI r8)]) (n := 1) (ci := 16) hC hZ (met_X13_ends l D cs A m0 ad v_5 g_6 r8  hD hok_4 hrr h5b) gv_X13_100 hd_X13_ends rfl mW_o rfl hl rfl (Nat.le_of_ble_eq_true rfl) ⟨Nat.le_of_ble_eq_true rfl, Nat.le_of_ble_eq_true rfl⟩ ⟨Nat.le_of_ble_eq_true rfl, Nat.le_of_ble_eq_true rfl⟩ dX13_setPage_11) hZ (fun r11 _ H locs hp_7 hZ => ?_)
  obtain ⟨v_9, g_10, rfl, hok_8, hen⟩ := hp_7
  exact z_iret hC hr hlk hZ (by decide) (by decide) (⟨_, _, rfl, hok_8, mTop_of hR hK hH hHK (sPag_p _ _ _) hdo rfl rfl hen⟩) dX13_setPage_14

set_option maxHeartbeats 4000000 in
set_option maxRecDepth 100000 in
theorem met_X13_doPassDays (l : Launch) (D : va_G) (cs : Nat → ClassId) (A : Nat → Prop) (m0 : Nat) (ad : Nat → Nat) (v : Nat → Int) (g : Nat → Int → Int) (x : Int)  (N : Nat) (c0 : zCo) (hD : mD m0 ad) (hok : mOK v g) (hR : mR (g 0) c0) (hK : cOK N c0) (hx0 : InR x) (hN : N ≤ 1000) : zM l D cs A yX13_doPassDays cX13_doPassDays 4 (some FieldType.int) 3 0 0 [.ref m0, .int (iI x)] (mW cs m0 ad v g) (mP cs m0 ad (fun r v1 g1 => mDo v g r v1 g1 (sDay c0 x) v)) := by
  refine zM_of (own := RX13) (by decide) rfl (Nat.le_of_ble_eq_true rfl) ?_
  intro p e s m below meth c hC hr hlk hnm hZ ls hl
  have hx := hC.x
  have hb := hC.b
  have hl : lv_has ls 4 [(0, .ref m0), (1, .int (iI x))] := hl
  have hm := mR_m hR hK
  have hdb := hK.2.2.2.2.2.2.2.2.2.2.2.1
  have hm7 := hR.2.2.2.2.2.2.2.1
  have hda := hR.2.2.2.2.2.1
  refine lv_iload_n hx hb dX13_doPassDays_0 rfl (lv_at hl 1 rfl) ?_
  refine z_iconst hx hb dX13_doPassDays_1 ?_
  refine z_bipush hx hb dX13_doPassDays_2 (by decide) ?_
  refine z_calli (z_runS (rest := []) (As := [.int (iI x), .int (iI 1), .int (iI 30)]) (n := 3) hC hZ (met_X13_in l D cs A (mW cs m0 ad v g) x 1 30 (by omega) (by decide) (by decide)) gs_X13_71 he_X13_in rfl hl rfl (Nat.le_of_ble_eq_true rfl) ⟨Nat.le_of_ble_eq_true rfl, Nat.le_of_ble_eq_true rfl⟩ ⟨Nat.le_of_ble_eq_true rfl, Nat.le_of_ble_eq_true rfl⟩ dX13_doPassDays_4) hZ (fun r4 _ H locs hp_1 hZ => ?_)
  obtain ⟨rfl, hp_1⟩ := hp_1
  have hin := hp_1
  refine z_if_ne (tgt := 16) hx hb dX13_doPassDays_7 (by decide) (by omega) (fun c_2 => ?_) (fun c_2 => ?_)
  · skip
    refine z_iconst hx hb dX13_doPassDays_16 ?_
    refine lv_istore_n (lv' := [(2, .int (iI 0)), (0, .ref m0), (1, .int (iI x))]) hx hb dX13_doPassDays_17 rfl hl (by decide) rfl (fun ls hl => ?_)
    refine z_iconst hx hb dX13_doPassDays_18 ?_
    refine lv_istore_n (lv' := [(3, .int (iI 0)), (2, .int (iI 0)), (0, .ref m0), (1, .int (iI x))]) hx hb dX13_doPassDays_19 rfl hl (by decide) rfl (fun ls hl => ?_)
    have L20_k_3 : ∀ (fu : Nat) (q i : Int)  (hfu : (g 0 7 - i).toNat < fu) (hi20_0 : 0 ≤ i ∧ i ≤ g 0 7) (hi20_1 : 0 ≤ q ∧ q ≤ i) (hi20_2 : q = zlost (cDa c0) x ((cIs c0).take i.toNat)) (H : Heap) (locs : List Loc) (hZ : zS D A s (mW cs m0 ad v g) H locs) (ls : Array Slot) (hl : lv_has ls 4 [(3, .int (iI i)), (2, .int (iI q)), (0, .ref m0), (1, .int (iI x))]), W p l e (zR 3 0 0) s m [.ref m0, .int (iI x)].toArray below meth c H locs 0 0 (MQ below (zQ D A (mP cs m0 ad (fun r v1 g1 => mDo v g r v1 g1 (sDay c0 x) v))) [.ref m0, .int (iI x)].toArray s 0 0 A) (F0 m 20 ls []) := by
      intro fu
      induction fu with
      | zero =>
        intro q i  hfu
        exact absurd hfu (Nat.not_lt_zero _)
      | succ fu ih20 =>
        intro q i  hfu hi20_0 hi20_1 hi20_2  H locs hZ ls hl
        refine lv_iload_n hx hb dX13_doPassDays_20 rfl (lv_at hl 0 rfl) ?_
        refine lv_aload_n hx hb dX13_doPassDays_21 rfl (lv_at hl 2 rfl) ?_
        refine m_get hC hZ 0 (x := .ref (ad 0)) rfl (by decide) ql_X13_9 rfl dX13_doPassDays_22 ?_
        refine z_bipush hx hb dX13_doPassDays_25 (by decide) ?_
        refine m_iald hC hZ hD 0 (by decide) (f := g 0) rfl rfl (by decide) (by decide) dX13_doPassDays_27 ?_
        have hr_4 : -2147483648 ≤ (g 0) 7 ∧ (g 0) 7 ≤ 2147483647 := hok.2 0 _
        refine z_icmp_ge (tgt := 65) hx hb dX13_doPassDays_28 (by decide) (by omega) (by omega) (fun c_5 => ?_) (fun c_5 => ?_)
        · skip
          refine lv_aload_n hx hb dX13_doPassDays_65 rfl (lv_at hl 2 rfl) ?_
          refine m_get hC hZ 0 (x := .ref (ad 0)) rfl (by decide) ql_X13_9 rfl dX13_doPassDays_66 ?_
          refine z_iconst hx hb dX13_doPassDays_69 ?_
          refine lv_dup2_11 hx hb dX13_doPassDays_70 rfl rfl ?_
          refine m_iald hC hZ hD 0 (by decide) (f := g 0) rfl rfl (by decide) (by decide) dX13_doPassDays_71 ?_
          have hr_6 : -2147483648 ≤ (g 0) 5 ∧ (g 0) 5 ≤ 2147483647 := hok.2 0 _
          refine lv_iload_n hx hb dX13_doPassDays_72 rfl (lv_at hl 3 rfl) ?_
          refine z_iadd hx hb dX13_doPassDays_73 ?_
          refine m_iast hC hZ hD 0 (by decide) (f := g 0) rfl rfl (by decide) (by decide) dX13_doPassDays_74 (fun H locs hZ => ?_)
          have hok_7 := hok.g (k := 0) (i := 5) (x := (((g 0) 5) + x)) (f := g 0) rfl (by omega)
          refine lv_iload_n hx hb dX13_doPassDays_75 rfl (lv_at hl 1 rfl) ?_
          exact z_iret hC hr hlk hZ (by decide) (by decide) (⟨_, _, rfl, hok_7, by
              rw [show sDay c0 x = (0, cDay c0 x, zlost (cDa c0) x (cIs c0)) from if_pos (by omega)]
              refine Or.inr ⟨rfl, fun _ _ => rfl, fun j h0 _ _ _ => upG_n h0, ?_, ?_⟩
              · rw [upG_s]
                obtain ⟨e0, e1, e2, e3, e4, e5, e6, e7, e8, -⟩ := id hR
                refine mR_set hR hK rfl rfl (fun k hk => upI_n (by omega)) (upI_n (by decide)) ?_ ?_ ?_ ?_ ?_ ?_ (upI_n (by decide)) ?_
                · rw [upI_n (by decide)]; exact e1
                · rw [upI_n (by decide)]; exact e2
                · rw [upI_n (by decide)]; exact e3
                · rw [upI_n (by decide)]; exact e4
                · rw [upI_s, e5]; rfl
                · rw [upI_n (by decide)]; exact e6
                · rw [upI_n (by decide)]; exact e8
              · show zlost (cDa c0) x (cIs c0) = q
                rw [hi20_2, List.take_of_length_le (by omega)]⟩) dX13_doPassDays_76
        · skip
          obtain ⟨si, hsi⟩ : ∃ s, (cIs c0)[i.toNat]? = some s := ⟨_, List.getElem?_eq_getElem (by omega)⟩
          have hri := hR.2.2.2.2.2.2.2.2.2.2 _ _ hsi
          have hki := hK.2.2.2.2.1 si (List.mem_of_getElem? hsi)
          have hri1 := hri.2.1
          rw [Int.toNat_of_nonneg (by omega)] at hri1
          have hpr := hki.2.2.2.2.2.2.2
          refine lv_iload_n hx hb dX13_doPassDays_31 rfl (lv_at hl 1 rfl) ?_
          refine lv_aload_n hx hb dX13_doPassDays_32 rfl (lv_at hl 2 rfl) ?_
          refine lv_iload_n hx hb dX13_doPassDays_33 rfl (lv_at hl 0 rfl) ?_
          refine z_calli (z_runV (rest := [.int (iI q)]) (As := [.int (iI i)]) (n := 1) (ci := 16) hC hZ (met_X13_age l D cs A m0 ad v g i  hD hok (by omega)) gv_X13_203 hd_X13_age rfl mW_o rfl hl rfl (Nat.le_of_ble_eq_true rfl) ⟨Nat.le_of_ble_eq_true rfl, Nat.le_of_ble_eq_true rfl⟩ ⟨Nat.le_of_ble_eq_true rfl, Nat.le_of_ble_eq_true rfl⟩ dX13_doPassDays_34) hZ (fun r34 _ H locs hp_8 hZ => ?_)
          obtain ⟨_, _, rfl, _, rfl, rfl, rfl⟩ := hp_8
          have hr_9 : -2147483648 ≤ moi (g 0) i 1 ∧ moi (g 0) i 1 ≤ 2147483647 := hok.2 0 _
          have hr_10 : -2147483648 ≤ (g 0) 5 ∧ (g 0) 5 ≤ 2147483647 := hok.2 0 _
          refine z_iconst hx hb dX13_doPassDays_37 ?_
          refine z_icmp_ge (tgt := 56) hx hb dX13_doPassDays_38 (by decide) (by omega) (by decide) (fun c_11 => ?_) (fun c_11 => ?_)
          · skip
            refine z_iconst hx hb dX13_doPassDays_56 ?_
            refine z_iadd hx hb dX13_doPassDays_57 ?_
            refine lv_istore_n (lv' := [(2, .int (iI (q + 0))), (3, .int (iI i)), (0, .ref m0), (1, .int (iI x))]) hx hb dX13_doPassDays_58 rfl hl (by decide) rfl (fun ls hl => ?_)
            refine z_iinc (lv' := [(3, .int (iI (i + 1))), (2, .int (iI (q + 0))), (0, .ref m0), (1, .int (iI x))]) hx hb dX13_doPassDays_59 hl (k := 1) rfl (by decide) rfl (fun ls hl => ?_)
            refine lv_goto (tgt := 20) hx hb dX13_doPassDays_62 (by decide) ?_
            exact ih20 (q + 0) (i + 1)  (by omega) (by omega) (by omega) (by rw [show (i + 1).toNat = i.toNat + 1 by omega]; rcases zlost_s (da := cDa c0) (days := x) hsi with ⟨z1, z2⟩ | ⟨z1, z2⟩ <;> rw [z2] <;> omega)  _ _ hZ ls (lv_sub hl [0, 1, 2, 3] rfl)
          · skip
            refine lv_aload_n hx hb dX13_doPassDays_41 rfl (lv_at hl 2 rfl) ?_
            refine lv_iload_n hx hb dX13_doPassDays_42 rfl (lv_at hl 0 rfl) ?_
            refine z_calli (z_runV (rest := [.int (iI q)]) (As := [.int (iI i)]) (n := 1) (ci := 16) hC hZ (met_X13_age l D cs A m0 ad v g i  hD hok (by omega)) gv_X13_203 hd_X13_age rfl mW_o rfl hl rfl (Nat.le_of_ble_eq_true rfl) ⟨Nat.le_of_ble_eq_true rfl, Nat.le_of_ble_eq_true rfl⟩ ⟨Nat.le_of_ble_eq_true rfl, Nat.le_of_ble_eq_true rfl⟩ dX13_doPassDays_43) hZ (fun r43 _ H locs hp_12 hZ => ?_)
            obtain ⟨_, _, rfl, _, rfl, rfl, rfl⟩ := hp_12
            have hr_13 : -2147483648 ≤ moi (g 0) i 1 ∧ moi (g 0) i 1 ≤ 2147483647 := hok.2 0 _
            have hr_14 : -2147483648 ≤ (g 0) 5 ∧ (g 0) 5 ≤ 2147483647 := hok.2 0 _
            refine lv_iload_n hx hb dX13_doPassDays_46 rfl (lv_at hl 3 rfl) ?_
            refine z_iadd hx hb dX13_doPassDays_47 ?_
            refine z_iconst hx hb dX13_doPassDays_48 ?_
            refine z_icmp_lt (tgt := 56) hx hb dX13_doPassDays_49 (by decide) (by omega) (by decide) (fun c_15 => ?_) (fun c_15 => ?_)
            · skip
              refine z_iconst hx hb dX13_doPassDays_56 ?_
              refine z_iadd hx hb dX13_doPassDays_57 ?_
              refine lv_istore_n (lv' := [(2, .int (iI (q + 0))), (3, .int (iI i)), (0, .ref m0), (1, .int (iI x))]) hx hb dX13_doPassDays_58 rfl hl (by decide) rfl (fun ls hl => ?_)
              refine z_iinc (lv' := [(3, .int (iI (i + 1))), (2, .int (iI (q + 0))), (0, .ref m0), (1, .int (iI x))]) hx hb dX13_doPassDays_59 hl (k := 1) rfl (by decide) rfl (fun ls hl => ?_)
              refine lv_goto (tgt := 20) hx hb dX13_doPassDays_62 (by decide) ?_
              exact ih20 (q + 0) (i + 1)  (by omega) (by omega) (by omega) (by rw [show (i + 1).toNat = i.toNat + 1 by omega]; rcases zlost_s (da := cDa c0) (days := x) hsi with ⟨z1, z2⟩ | ⟨z1, z2⟩ <;> rw [z2] <;> omega)  _ _ hZ ls (lv_sub hl [0, 1, 2, 3] rfl)
            · skip
              refine z_iconst hx hb dX13_doPassDays_52 ?_
              refine lv_goto (tgt := 57) hx hb dX13_doPassDays_53 (by decide) ?_
              refine z_iadd hx hb dX13_doPassDays_57 ?_
              refine lv_istore_n (lv' := [(2, .int (iI (q + 1))), (3, .int (iI i)), (0, .ref m0), (1, .int (iI x))]) hx hb dX13_doPassDays_58 rfl hl (by decide) rfl (fun ls hl => ?_)
              refine z_iinc (lv' := [(3, .int (iI (i + 1))), (2, .int (iI (q + 1))), (0, .ref m0), (1, .int (iI x))]) hx hb dX13_doPassDays_59 hl (k := 1) rfl (by decide) rfl (fun ls hl => ?_)
              refine lv_goto (tgt := 20) hx hb dX13_doPassDays_62 (by decide) ?_
              exact ih20 (q + 1) (i + 1)  (by omega) (by omega) (by omega) (by rw [show (i + 1).toNat = i.toNat + 1 by omega]; rcases zlost_s (da := cDa c0) (days := x) hsi with ⟨z1, z2⟩ | ⟨z1, z2⟩ <;> rw [z2] <;> omega)  _ _ hZ ls (lv_sub hl [0, 1, 2, 3] rfl)
    exact L20_k_3 _ 0 0  (Nat.lt_succ_self _) (by omega) (by omega) rfl  _ _ hZ ls (lv_sub hl [0, 1, 2, 3] rfl)
  · skip
    refine lv_aload_n hx hb dX13_doPassDays_10 rfl (lv_at hl 0 rfl) ?_
    refine z_iconst hx hb dX13_doPassDays_11 ?_
    refine z_calli (z_runV (rest := []) (As := [.int (iI 1)]) (n := 1) (ci := 16) hC hZ (met_X13_fails l D cs A m0 ad v g 1  hD hok (by decide)) gv_X13_82 hd_X13_fails rfl mW_o rfl hl rfl (Nat.le_of_ble_eq_true rfl) ⟨Nat.le_of_ble_eq_true rfl, Nat.le_of_ble_eq_true rfl⟩ ⟨Nat.le_of_ble_eq_true rfl, Nat.le_of_ble_eq_true rfl⟩ dX13_doPassDays_12) hZ (fun r12 _ H locs hp_16 hZ => ?_)
    obtain ⟨_, _, rfl, hok_17, rfl, rfl, rfl⟩ := hp_16
    exact z_iret hC hr hlk hZ (by decide) (by decide) (⟨_, _, rfl, hok_17, by rw [show sDay c0 x = (1, c0, 0) from if_neg (by omega)]; exact Or.inl ⟨(by decide : (1 : Int) ≠ 0), rfl, rfl, rfl⟩⟩) dX13_doPassDays_15

set_option maxHeartbeats 4000000 in
set_option maxRecDepth 100000 in
theorem met_X13_passDays (l : Launch) (D : va_G) (cs : Nat → ClassId) (A : Nat → Prop) (m0 : Nat) (ad : Nat → Nat) (v : Nat → Int) (g : Nat → Int → Int) (x : Int) (hs : List zCo) (N : Nat) (c0 : zCo) (hD : mD m0 ad) (hok : mOK v g) (hR : mR (g 0) c0) (hK : cOK N c0) (hx0 : InR x) (hN : N ≤ 1000) (hH : mHi v g hs) (hHK : ∀ h ∈ hs, cOK N h) (hRA : (sDay c0 x).1 = 0 → InR (sDay c0 x).2.2) : zM l D cs A yX13_passDays cX13_passDays 2 (some FieldType.int) 4 0 0 [.ref m0, .int (iI x)] (mW cs m0 ad v g) (mP cs m0 ad (fun r v1 g1 => mTop v g r v1 g1 c0 hs (sDay c0 x) ((upN v 6 0)))) := by
  refine zM_of (own := RX13) (by decide) rfl (Nat.le_of_ble_eq_true rfl) ?_
  intro p e s m below meth c hC hr hlk hnm hZ ls hl
  have hx := hC.x
  have hb := hC.b
  have hl : lv_has ls 2 [(0, .ref m0), (1, .int (iI x))] := hl
  refine lv_aload_n hx hb dX13_passDays_0 rfl (lv_at hl 0 rfl) ?_
  refine z_callv (z_runV (rest := []) (As := []) (n := 0) (ci := 16) hC hZ (met_X13_keep l D cs A m0 ad v g   hD hok ) gv_X13_94 hd_X13_keep rfl mW_o rfl hl rfl (Nat.le_of_ble_eq_true rfl) ⟨Nat.le_of_ble_eq_true rfl, Nat.le_of_ble_eq_true rfl⟩ ⟨Nat.le_of_ble_eq_true rfl, Nat.le_of_ble_eq_true rfl⟩ dX13_passDays_1) hZ (fun _ H locs hp_1 hZ => ?_)
  obtain ⟨_, _, rfl, hok_2, rfl, rfl⟩ := hp_1
  refine lv_aload_n hx hb dX13_passDays_4 rfl (lv_at hl 0 rfl) ?_
  refine lv_aload_n hx hb dX13_passDays_5 rfl (lv_at hl 0 rfl) ?_
  refine lv_iload_n hx hb dX13_passDays_6 rfl (lv_at hl 1 rfl) ?_
  refine z_calli (z_runV (rest := [.ref m0]) (As := [.int (iI x)]) (n := 1) (ci := 16) hC hZ (met_X13_doPassDays l D cs A m0 ad (upN v 6 0) (upG g 1 (cpI (g 0) (g 1) 0 0 2439)) x  N c0 hD hok_2 hR hK hx0 hN) gv_X13_206 hd_X13_doPassDays rfl mW_o rfl hl rfl (Nat.le_of_ble_eq_true rfl) ⟨Nat.le_of_ble_eq_true rfl, Nat.le_of_ble_eq_true rfl⟩ ⟨Nat.le_of_ble_eq_true rfl, Nat.le_of_ble_eq_true rfl⟩ dX13_passDays_7) hZ (fun r7 _ H locs hp_3 hZ => ?_)
  obtain ⟨v_5, g_6, rfl, hok_4, hdo⟩ := hp_3
  have h5b : 0 ≤ v_5 5 ∧ v_5 5 ≤ 8 := by
    have hh1 := hH.1
    have hh2 := hH.2.1
    rcases hdo with ⟨-, hh, -, -⟩ | ⟨-, hh, -, -⟩
    · rw [← hh, upN_n (by decide), upN_n (by decide)]; omega
    · rw [hh 5 (by decide)]; show 0 ≤ v 5 ∧ v 5 ≤ 8; omega
  have hrr : InR r7 := by
    rcases hdo with ⟨-, -, -, hh⟩ | ⟨hq0, -, -, -, hh⟩
    · rw [← hh]; decide
    · rw [← hh]; exact hRA hq0
  refine z_calli (z_runV (rest := []) (As := [.int (iI r7)]) (n := 1) (ci := 16) hC hZ (met_X13_ends l D cs A m0 ad v_5 g_6 r7  hD hok_4 hrr h5b) gv_X13_100 hd_X13_ends rfl mW_o rfl hl rfl (Nat.le_of_ble_eq_true rfl) ⟨Nat.le_of_ble_eq_true rfl, Nat.le_of_ble_eq_true rfl⟩ ⟨Nat.le_of_ble_eq_true rfl, Nat.le_of_ble_eq_true rfl⟩ dX13_passDays_10) hZ (fun r10 _ H locs hp_7 hZ => ?_)
  obtain ⟨v_9, g_10, rfl, hok_8, hen⟩ := hp_7
  exact z_iret hC hr hlk hZ (by decide) (by decide) (⟨_, _, rfl, hok_8, mTop_of hR hK hH hHK (sDay_p _ _) hdo rfl rfl hen⟩) dX13_passDays_13

set_option maxHeartbeats 4000000 in
set_option maxRecDepth 100000 in
theorem met_X13_doPrint (l : Launch) (D : va_G) (cs : Nat → ClassId) (A : Nat → Prop) (m0 : Nat) (ad : Nat → Nat) (v : Nat → Int) (g : Nat → Int → Int)   (N : Nat) (c0 : zCo) (hD : mD m0 ad) (hok : mOK v g) (hR : mR (g 0) c0) (hK : cOK N c0) (hN : N ≤ 1000) : zM l D cs A yX13_doPrint cX13_doPrint 5 (some FieldType.int) 6 0 0 [.ref m0] (mW cs m0 ad v g) (mP cs m0 ad (fun r v1 g1 => mDo v g r v1 g1 (sPrt c0) v)) := by
  refine zM_of (own := RX13) (by decide) rfl (Nat.le_of_ble_eq_true rfl) ?_
  intro p e s m below meth c hC hr hlk hnm hZ ls hl
  have hx := hC.x
  have hb := hC.b
  have hl : lv_has ls 5 [(0, .ref m0)] := hl
  have hm := mR_m hR hK
  have hn := mR_n hR hK
  have hn0 := hR.1
  have hm7 := hR.2.2.2.2.2.2.2.1
  have hK1 := cOK_drp hK
  have hli := dropI_len hK.2.1
  have hsrt : (cAr (cDrp c0)).Pairwise (fun a b => a.1 < b.1) := hK.2.2.2.1
  have hpg := cpg hK
  have hnn := hK.2.2.2.2.2.2.2.1
  have hwi := hK.2.2.2.2.2.2.2.2.1
  have hdb := hK.2.2.2.2.2.2.2.2.2.2.2.1
  have hco := hK.2.2.2.2.2.2.2.2.2.1
  have hhe := hK.2.2.2.2.2.2.2.2.2.2.1
  have hLI : ((cIs (cDrp c0)).length : Int) ≤ 3 := by show ((dropI (cIs c0)).length : Int) ≤ 3; omega
  refine lv_aload_n hx hb dX13_doPrint_0 rfl (lv_at hl 0 rfl) ?_
  refine m_get hC hZ 0 (x := .ref (ad 0)) rfl (by decide) ql_X13_9 rfl dX13_doPrint_1 ?_
  refine z_iconst hx hb dX13_doPrint_4 ?_
  refine m_iald hC hZ hD 0 (by decide) (f := g 0) rfl rfl (by decide) (by decide) dX13_doPrint_5 ?_
  have hr_1 : -2147483648 ≤ (g 0) 0 ∧ (g 0) 0 ≤ 2147483647 := hok.2 0 _
  refine z_if_ne (tgt := 15) hx hb dX13_doPrint_6 (by decide) (by omega) (fun c_2 => ?_) (fun c_2 => ?_)
  · skip
    have J56_k_3 : ∀  (g2 : Nat → Int → Int) (hj56_0 : mR (g2 0) (cDrp c0)) (hj56_1 : ∀ j, j ≠ 0 → g2 j = g j) (hw : mOK v g2) (H : Heap) (locs : List Loc) (hZ : zS D A s (mW cs m0 ad v g2) H locs) (ls : Array Slot) (hl : lv_has ls 5 [(0, .ref m0)]), W p l e (zR 6 0 0) s m [.ref m0].toArray below meth c H locs 0 0 (MQ below (zQ D A (mP cs m0 ad (fun r v1 g1 => mDo v g r v1 g1 (sPrt c0) v))) [.ref m0].toArray s 0 0 A) (F0 m 56 ls []) := by
      intro  g2 hj56_0 hj56_1 hw H locs hZ ls hl
      obtain ⟨y0, y1, y2, y3, y4, y5, y6, y7, y8, -⟩ := id hj56_0
      replace y8 : g2 0 8 = cNn c0 := y8
      replace y5 : g2 0 5 = cDa c0 := y5
      replace y3 : g2 0 3 = cCo c0 := y3
      replace y4 : g2 0 4 = cHe c0 := y4
      refine z_sipush hx hb dX13_doPrint_56 (by decide) ?_
      refine z_bipush hx hb dX13_doPrint_59 (by decide) ?_
      refine lv_aload_n hx hb dX13_doPrint_61 rfl (lv_at hl 0 rfl) ?_
      refine m_get hC hZ 0 (x := .ref (ad 0)) rfl (by decide) ql_X13_9 rfl dX13_doPrint_62 ?_
      refine z_bipush hx hb dX13_doPrint_65 (by decide) ?_
      refine m_iald hC hZ hD 0 (by decide) (f := g2 0) rfl rfl (by decide) (by decide) dX13_doPrint_67 ?_
      have hr_4 : -2147483648 ≤ (g2 0) 7 ∧ (g2 0) 7 ≤ 2147483647 := hw.2 0 _
      refine z_top (y := ((cIs (cDrp c0)).length : Int)) y7 ?_
      refine z_imul hx hb dX13_doPrint_68 ?_
      refine z_iadd hx hb dX13_doPrint_69 ?_
      refine lv_istore_n (lv' := [(1, .int (iI (2367 + (18 * ((cIs (cDrp c0)).length : Int))))), (0, .ref m0)]) hx hb dX13_doPrint_70 rfl hl (by decide) rfl (fun ls hl => ?_)
      refine lv_aload_n hx hb dX13_doPrint_71 rfl (lv_at hl 1 rfl) ?_
      refine m_get hC hZ 0 (x := .ref (ad 0)) rfl (by decide) ql_X13_9 rfl dX13_doPrint_72 ?_
      refine lv_iload_n hx hb dX13_doPrint_75 rfl (lv_at hl 0 rfl) ?_
      refine lv_aload_n hx hb dX13_doPrint_76 rfl (lv_at hl 1 rfl) ?_
      refine m_get hC hZ 0 (x := .ref (ad 0)) rfl (by decide) ql_X13_9 rfl dX13_doPrint_77 ?_
      refine z_bipush hx hb dX13_doPrint_80 (by decide) ?_
      refine m_iald hC hZ hD 0 (by decide) (f := g2 0) rfl rfl (by decide) (by decide) dX13_doPrint_82 ?_
      have hr_5 : -2147483648 ≤ (g2 0) 8 ∧ (g2 0) 8 ≤ 2147483647 := hw.2 0 _
      refine z_top (y := cNn c0) y8 ?_
      refine m_iast hC hZ hD 0 (by decide) (f := g2 0) rfl rfl (by show _ ∧ _ < (2439 : Int); omega) (by decide) dX13_doPrint_83 (fun H locs hZ => ?_)
      have hok_6 := hw.g (k := 0) (i := (2367 + (18 * ((cIs (cDrp c0)).length : Int)))) (x := (cNn c0)) (f := g2 0) rfl (by omega)
      refine lv_aload_n hx hb dX13_doPrint_84 rfl (lv_at hl 1 rfl) ?_
      refine m_get hC hZ 0 (x := .ref (ad 0)) rfl (by decide) ql_X13_9 rfl dX13_doPrint_85 ?_
      refine lv_iload_n hx hb dX13_doPrint_88 rfl (lv_at hl 0 rfl) ?_
      refine z_iconst hx hb dX13_doPrint_89 ?_
      refine z_iadd hx hb dX13_doPrint_90 ?_
      refine lv_aload_n hx hb dX13_doPrint_91 rfl (lv_at hl 1 rfl) ?_
      refine m_get hC hZ 0 (x := .ref (ad 0)) rfl (by decide) ql_X13_9 rfl dX13_doPrint_92 ?_
      refine z_iconst hx hb dX13_doPrint_95 ?_
      refine m_iald hC hZ hD 0 (by decide) (f := upI (g2 0) (2367 + (18 * ((cIs (cDrp c0)).length : Int))) (cNn c0)) rfl rfl (by decide) (by decide) dX13_doPrint_96 ?_
      have hr_7 : -2147483648 ≤ (upI (g2 0) (2367 + (18 * ((cIs (cDrp c0)).length : Int))) (cNn c0)) 5 ∧ (upI (g2 0) (2367 + (18 * ((cIs (cDrp c0)).length : Int))) (cNn c0)) 5 ≤ 2147483647 := (hok_6.2 0 5)
      refine z_top (y := cDa c0) (by rw [upI_n (by omega)]; exact y5) ?_
      refine m_iast hC hZ hD 0 (by decide) (f := upI (g2 0) (2367 + (18 * ((cIs (cDrp c0)).length : Int))) (cNn c0)) rfl rfl (by show _ ∧ _ < (2439 : Int); omega) (by decide) dX13_doPrint_97 (fun H locs hZ => ?_)
      have hok_8 := hok_6.g (k := 0) (i := ((2367 + (18 * ((cIs (cDrp c0)).length : Int))) + 1)) (x := (cDa c0)) (f := upI (g2 0) (2367 + (18 * ((cIs (cDrp c0)).length : Int))) (cNn c0)) rfl (by omega)
      refine lv_aload_n hx hb dX13_doPrint_98 rfl (lv_at hl 1 rfl) ?_
      refine m_get hC hZ 0 (x := .ref (ad 0)) rfl (by decide) ql_X13_9 rfl dX13_doPrint_99 ?_
      refine lv_iload_n hx hb dX13_doPrint_102 rfl (lv_at hl 0 rfl) ?_
      refine z_iconst hx hb dX13_doPrint_103 ?_
      refine z_iadd hx hb dX13_doPrint_104 ?_
      refine lv_aload_n hx hb dX13_doPrint_105 rfl (lv_at hl 1 rfl) ?_
      refine m_get hC hZ 0 (x := .ref (ad 0)) rfl (by decide) ql_X13_9 rfl dX13_doPrint_106 ?_
      refine z_iconst hx hb dX13_doPrint_109 ?_
      refine m_iald hC hZ hD 0 (by decide) (f := upI (upI (g2 0) (2367 + (18 * ((cIs (cDrp c0)).length : Int))) (cNn c0)) ((2367 + (18 * ((cIs (cDrp c0)).length : Int))) + 1) (cDa c0)) rfl rfl (by decide) (by decide) dX13_doPrint_110 ?_
      have hr_9 : -2147483648 ≤ (upI (upI (g2 0) (2367 + (18 * ((cIs (cDrp c0)).length : Int))) (cNn c0)) ((2367 + (18 * ((cIs (cDrp c0)).length : Int))) + 1) (cDa c0)) 3 ∧ (upI (upI (g2 0) (2367 + (18 * ((cIs (cDrp c0)).length : Int))) (cNn c0)) ((2367 + (18 * ((cIs (cDrp c0)).length : Int))) + 1) (cDa c0)) 3 ≤ 2147483647 := (hok_8.2 0 3)
      refine z_top (y := cCo c0) (by rw [upI_n (by omega), upI_n (by omega)]; exact y3) ?_
      refine m_iast hC hZ hD 0 (by decide) (f := upI (upI (g2 0) (2367 + (18 * ((cIs (cDrp c0)).length : Int))) (cNn c0)) ((2367 + (18 * ((cIs (cDrp c0)).length : Int))) + 1) (cDa c0)) rfl rfl (by show _ ∧ _ < (2439 : Int); omega) (by decide) dX13_doPrint_111 (fun H locs hZ => ?_)
      have hok_10 := hok_8.g (k := 0) (i := ((2367 + (18 * ((cIs (cDrp c0)).length : Int))) + 2)) (x := (cCo c0)) (f := upI (upI (g2 0) (2367 + (18 * ((cIs (cDrp c0)).length : Int))) (cNn c0)) ((2367 + (18 * ((cIs (cDrp c0)).length : Int))) + 1) (cDa c0)) rfl (by omega)
      refine lv_aload_n hx hb dX13_doPrint_112 rfl (lv_at hl 1 rfl) ?_
      refine m_get hC hZ 0 (x := .ref (ad 0)) rfl (by decide) ql_X13_9 rfl dX13_doPrint_113 ?_
      refine lv_iload_n hx hb dX13_doPrint_116 rfl (lv_at hl 0 rfl) ?_
      refine z_iconst hx hb dX13_doPrint_117 ?_
      refine z_iadd hx hb dX13_doPrint_118 ?_
      refine lv_aload_n hx hb dX13_doPrint_119 rfl (lv_at hl 1 rfl) ?_
      refine m_get hC hZ 0 (x := .ref (ad 0)) rfl (by decide) ql_X13_9 rfl dX13_doPrint_120 ?_
      refine z_iconst hx hb dX13_doPrint_123 ?_
      refine m_iald hC hZ hD 0 (by decide) (f := upI (upI (upI (g2 0) (2367 + (18 * ((cIs (cDrp c0)).length : Int))) (cNn c0)) ((2367 + (18 * ((cIs (cDrp c0)).length : Int))) + 1) (cDa c0)) ((2367 + (18 * ((cIs (cDrp c0)).length : Int))) + 2) (cCo c0)) rfl rfl (by decide) (by decide) dX13_doPrint_124 ?_
      have hr_11 : -2147483648 ≤ (upI (upI (upI (g2 0) (2367 + (18 * ((cIs (cDrp c0)).length : Int))) (cNn c0)) ((2367 + (18 * ((cIs (cDrp c0)).length : Int))) + 1) (cDa c0)) ((2367 + (18 * ((cIs (cDrp c0)).length : Int))) + 2) (cCo c0)) 4 ∧ (upI (upI (upI (g2 0) (2367 + (18 * ((cIs (cDrp c0)).length : Int))) (cNn c0)) ((2367 + (18 * ((cIs (cDrp c0)).length : Int))) + 1) (cDa c0)) ((2367 + (18 * ((cIs (cDrp c0)).length : Int))) + 2) (cCo c0)) 4 ≤ 2147483647 := (hok_10.2 0 4)
      refine z_top (y := cHe c0) (by rw [upI_n (by omega), upI_n (by omega), upI_n (by omega)]; exact y4) ?_
      refine m_iast hC hZ hD 0 (by decide) (f := upI (upI (upI (g2 0) (2367 + (18 * ((cIs (cDrp c0)).length : Int))) (cNn c0)) ((2367 + (18 * ((cIs (cDrp c0)).length : Int))) + 1) (cDa c0)) ((2367 + (18 * ((cIs (cDrp c0)).length : Int))) + 2) (cCo c0)) rfl rfl (by show _ ∧ _ < (2439 : Int); omega) (by decide) dX13_doPrint_125 (fun H locs hZ => ?_)
      have hok_12 := hok_10.g (k := 0) (i := ((2367 + (18 * ((cIs (cDrp c0)).length : Int))) + 3)) (x := (cHe c0)) (f := upI (upI (upI (g2 0) (2367 + (18 * ((cIs (cDrp c0)).length : Int))) (cNn c0)) ((2367 + (18 * ((cIs (cDrp c0)).length : Int))) + 1) (cDa c0)) ((2367 + (18 * ((cIs (cDrp c0)).length : Int))) + 2) (cCo c0)) rfl (by omega)
      refine lv_aload_n hx hb dX13_doPrint_126 rfl (lv_at hl 1 rfl) ?_
      refine m_get hC hZ 0 (x := .ref (ad 0)) rfl (by decide) ql_X13_9 rfl dX13_doPrint_127 ?_
      refine lv_iload_n hx hb dX13_doPrint_130 rfl (lv_at hl 0 rfl) ?_
      refine z_iconst hx hb dX13_doPrint_131 ?_
      refine z_iadd hx hb dX13_doPrint_132 ?_
      refine z_iconst hx hb dX13_doPrint_133 ?_
      refine m_iast hC hZ hD 0 (by decide) (f := upI (upI (upI (upI (g2 0) (2367 + (18 * ((cIs (cDrp c0)).length : Int))) (cNn c0)) ((2367 + (18 * ((cIs (cDrp c0)).length : Int))) + 1) (cDa c0)) ((2367 + (18 * ((cIs (cDrp c0)).length : Int))) + 2) (cCo c0)) ((2367 + (18 * ((cIs (cDrp c0)).length : Int))) + 3) (cHe c0)) rfl rfl (by show _ ∧ _ < (2439 : Int); omega) (by decide) dX13_doPrint_134 (fun H locs hZ => ?_)
      have hok_13 := hok_12.g (k := 0) (i := ((2367 + (18 * ((cIs (cDrp c0)).length : Int))) + 4)) (x := 0) (f := upI (upI (upI (upI (g2 0) (2367 + (18 * ((cIs (cDrp c0)).length : Int))) (cNn c0)) ((2367 + (18 * ((cIs (cDrp c0)).length : Int))) + 1) (cDa c0)) ((2367 + (18 * ((cIs (cDrp c0)).length : Int))) + 2) (cCo c0)) ((2367 + (18 * ((cIs (cDrp c0)).length : Int))) + 3) (cHe c0)) rfl (by decide)
      refine lv_aload_n hx hb dX13_doPrint_135 rfl (lv_at hl 1 rfl) ?_
      refine m_get hC hZ 0 (x := .ref (ad 0)) rfl (by decide) ql_X13_9 rfl dX13_doPrint_136 ?_
      refine lv_iload_n hx hb dX13_doPrint_139 rfl (lv_at hl 0 rfl) ?_
      refine z_iconst hx hb dX13_doPrint_140 ?_
      refine z_iadd hx hb dX13_doPrint_141 ?_
      refine z_iconst hx hb dX13_doPrint_142 ?_
      refine m_iast hC hZ hD 0 (by decide) (f := upI (upI (upI (upI (upI (g2 0) (2367 + (18 * ((cIs (cDrp c0)).length : Int))) (cNn c0)) ((2367 + (18 * ((cIs (cDrp c0)).length : Int))) + 1) (cDa c0)) ((2367 + (18 * ((cIs (cDrp c0)).length : Int))) + 2) (cCo c0)) ((2367 + (18 * ((cIs (cDrp c0)).length : Int))) + 3) (cHe c0)) ((2367 + (18 * ((cIs (cDrp c0)).length : Int))) + 4) 0) rfl rfl (by show _ ∧ _ < (2439 : Int); omega) (by decide) dX13_doPrint_143 (fun H locs hZ => ?_)
      have hok_14 := hok_13.g (k := 0) (i := ((2367 + (18 * ((cIs (cDrp c0)).length : Int))) + 5)) (x := 0) (f := upI (upI (upI (upI (upI (g2 0) (2367 + (18 * ((cIs (cDrp c0)).length : Int))) (cNn c0)) ((2367 + (18 * ((cIs (cDrp c0)).length : Int))) + 1) (cDa c0)) ((2367 + (18 * ((cIs (cDrp c0)).length : Int))) + 2) (cCo c0)) ((2367 + (18 * ((cIs (cDrp c0)).length : Int))) + 3) (cHe c0)) ((2367 + (18 * ((cIs (cDrp c0)).length : Int))) + 4) 0) rfl (by decide)
      refine z_iconst hx hb dX13_doPrint_144 ?_
      refine lv_istore_n (lv' := [(2, .int (iI 0)), (1, .int (iI (2367 + (18 * ((cIs (cDrp c0)).length : Int))))), (0, .ref m0)]) hx hb dX13_doPrint_145 rfl hl (by decide) rfl (fun ls hl => ?_)
      have L146_k_15 : ∀ (fu : Nat) (k_ : Int) (v3 : Nat → Int) (g3 : Nat → Int → Int) (hfu : (((cAr c0).length : Int) - k_).toNat < fu) (hi146_0 : 0 ≤ k_ ∧ k_ ≤ (cAr c0).length) (hi146_1 : ∀ k, k ≠ 12 → v3 k = v k) (hi146_2 : ∀ j, j ≠ 0 → j ≠ 9 → j ≠ 10 → j ≠ 11 → g3 j = g j) (hi146_3 : zprow (g3 0) (2367 + 18 * ((cIs (cDrp c0)).length : Int)) c0 k_.toNat) (hi146_4 : ∀ k : Int, 0 ≤ k → k < (2367 + 18 * ((cIs (cDrp c0)).length : Int)) → g3 0 k = g2 0 k) (hw3 : mOK v3 g3) (H : Heap) (locs : List Loc) (hZ : zS D A s (mW cs m0 ad v3 g3) H locs) (ls : Array Slot) (hl : lv_has ls 5 [(2, .int (iI k_)), (1, .int (iI (2367 + (18 * ((cIs (cDrp c0)).length : Int))))), (0, .ref m0)]), W p l e (zR 6 0 0) s m [.ref m0].toArray below meth c H locs 0 0 (MQ below (zQ D A (mP cs m0 ad (fun r v1 g1 => mDo v g r v1 g1 (sPrt c0) v))) [.ref m0].toArray s 0 0 A) (F0 m 146 ls []) := by
        intro fu
        induction fu with
        | zero =>
          intro k_ v3 g3 hfu
          exact absurd hfu (Nat.not_lt_zero _)
        | succ fu ih146 =>
          intro k_ v3 g3 hfu hi146_0 hi146_1 hi146_2 hi146_3 hi146_4 hw3 H locs hZ ls hl
          have hRk : mR (g3 0) (cDrp c0) := mR_cong2 hj56_0 hK1 hi146_4
          have hk0 := hRk.1
          have hk2 := hRk.2.2.1
          have hk3 := hRk.2.2.2.1
          have hk4 := hRk.2.2.2.2.1
          have hk7 := hRk.2.2.2.2.2.2.2.1
          have hk8 := hRk.2.2.2.2.2.2.2.2.1
          replace hk0 : g3 0 0 = ((cAr c0).length : Int) := hk0
          replace hk2 : g3 0 2 = cWi c0 := hk2
          replace hk3 : g3 0 3 = cCo c0 := hk3
          replace hk4 : g3 0 4 = cHe c0 := hk4
          replace hk8 : g3 0 8 = cNn c0 := hk8
          refine lv_iload_n hx hb dX13_doPrint_146 rfl (lv_at hl 0 rfl) ?_
          refine lv_aload_n hx hb dX13_doPrint_147 rfl (lv_at hl 2 rfl) ?_
          refine m_get hC hZ 0 (x := .ref (ad 0)) rfl (by decide) ql_X13_9 rfl dX13_doPrint_148 ?_
          refine z_iconst hx hb dX13_doPrint_151 ?_
          refine m_iald hC hZ hD 0 (by decide) (f := g3 0) rfl rfl (by decide) (by decide) dX13_doPrint_152 ?_
          have hr_16 : -2147483648 ≤ (g3 0) 0 ∧ (g3 0) 0 ≤ 2147483647 := hw3.2 0 _
          refine z_top (y := ((cAr c0).length : Int)) hk0 ?_
          refine z_icmp_ge (tgt := 294) hx hb dX13_doPrint_153 (by decide) (by omega) (by omega) (fun c_17 => ?_) (fun c_17 => ?_)
          · skip
            refine lv_aload_n hx hb dX13_doPrint_294 rfl (lv_at hl 2 rfl) ?_
            refine m_get hC hZ 0 (x := .ref (ad 0)) rfl (by decide) ql_X13_9 rfl dX13_doPrint_295 ?_
            refine z_bipush hx hb dX13_doPrint_298 (by decide) ?_
            refine lv_dup2_11 hx hb dX13_doPrint_300 rfl rfl ?_
            refine m_iald hC hZ hD 0 (by decide) (f := g3 0) rfl rfl (by decide) (by decide) dX13_doPrint_301 ?_
            have hr_18 : -2147483648 ≤ (g3 0) 7 ∧ (g3 0) 7 ≤ 2147483647 := hw3.2 0 _
            refine z_iconst hx hb dX13_doPrint_302 ?_
            refine z_iadd hx hb dX13_doPrint_303 ?_
            refine m_iast hC hZ hD 0 (by decide) (f := g3 0) rfl rfl (by decide) (by decide) dX13_doPrint_304 (fun H locs hZ => ?_)
            have hok_19 := hw3.g (k := 0) (i := 7) (x := (((g3 0) 7) + 1)) (f := g3 0) rfl (by omega)
            refine lv_aload_n hx hb dX13_doPrint_305 rfl (lv_at hl 2 rfl) ?_
            refine m_get hC hZ 0 (x := .ref (ad 0)) rfl (by decide) ql_X13_9 rfl dX13_doPrint_306 ?_
            refine z_bipush hx hb dX13_doPrint_309 (by decide) ?_
            refine lv_dup2_11 hx hb dX13_doPrint_311 rfl rfl ?_
            refine m_iald hC hZ hD 0 (by decide) (f := upI (g3 0) 7 (((g3 0) 7) + 1)) rfl rfl (by decide) (by decide) dX13_doPrint_312 ?_
            have hr_20 : -2147483648 ≤ (upI (g3 0) 7 (((g3 0) 7) + 1)) 8 ∧ (upI (g3 0) 7 (((g3 0) 7) + 1)) 8 ≤ 2147483647 := (hok_19.2 0 8)
            refine z_top (y := cNn c0) (by rw [upI_n (by decide)]; exact hk8) ?_
            refine z_iconst hx hb dX13_doPrint_313 ?_
            refine z_iadd hx hb dX13_doPrint_314 ?_
            refine m_iast hC hZ hD 0 (by decide) (f := upI (g3 0) 7 (((g3 0) 7) + 1)) rfl rfl (by decide) (by decide) dX13_doPrint_315 (fun H locs hZ => ?_)
            have hok_21 := hok_19.g (k := 0) (i := 8) (x := ((cNn c0) + 1)) (f := upI (g3 0) 7 (((g3 0) 7) + 1)) rfl (by omega)
            refine lv_aload_n hx hb dX13_doPrint_316 rfl (lv_at hl 2 rfl) ?_
            refine m_get hC hZ 0 (x := .ref (ad 0)) rfl (by decide) ql_X13_9 rfl dX13_doPrint_317 ?_
            refine z_bipush hx hb dX13_doPrint_320 (by decide) ?_
            refine m_iald hC hZ hD 0 (by decide) (f := upI (upI (g3 0) 7 (((g3 0) 7) + 1)) 8 ((cNn c0) + 1)) rfl rfl (by decide) (by decide) dX13_doPrint_322 ?_
            have hr_22 : -2147483648 ≤ (upI (upI (g3 0) 7 (((g3 0) 7) + 1)) 8 ((cNn c0) + 1)) 8 ∧ (upI (upI (g3 0) 7 (((g3 0) 7) + 1)) 8 ((cNn c0) + 1)) 8 ≤ 2147483647 := (hok_21.2 0 8)
            refine z_top (y := cNn c0 + 1) upI_s ?_
            refine z_iconst hx hb dX13_doPrint_323 ?_
            refine z_isub hx hb dX13_doPrint_324 ?_
            exact z_iret hC hr hlk hZ (by decide) (by decide) (⟨_, _, rfl, hok_21, by
                rw [show sPrt c0 = (0, cPrt c0, cNn c0) from if_neg (by omega)]
                refine Or.inr ⟨rfl, hi146_1, fun j h0 h9 h10 h11 => by rw [upG_n h0, upG_n h0]; exact hi146_2 j h0 h9 h10 h11, ?_, ?_⟩
                · rw [upG_s]
                  have hrwn := hi146_3
                  rw [show k_.toNat = (cAr c0).length by omega] at hrwn
                  refine mR_prt hRk hK hrwn ?_ ?_ (fun k z1 z2 => ?_)
                  · rw [upI_n (by decide), upI_s]
                  · rw [upI_s]; omega
                  · rw [upI_n z2, upI_n z1]
                · show cNn c0 = cNn c0 + 1 - 1
                  omega⟩) dX13_doPrint_325
          · skip
            refine lv_aload_n hx hb dX13_doPrint_156 rfl (lv_at hl 2 rfl) ?_
            refine lv_iload_n hx hb dX13_doPrint_157 rfl (lv_at hl 0 rfl) ?_
            refine z_calli (z_runV (rest := []) (As := [.int (iI k_)]) (n := 1) (ci := 16) hC hZ (met_X13_ranked l D cs A m0 ad v3 g3 k_ N (cDrp c0) hD hw3 hRk hK1 (by omega)) gv_X13_130 hd_X13_ranked rfl mW_o rfl hl rfl (Nat.le_of_ble_eq_true rfl) ⟨Nat.le_of_ble_eq_true rfl, Nat.le_of_ble_eq_true rfl⟩ ⟨Nat.le_of_ble_eq_true rfl, Nat.le_of_ble_eq_true rfl⟩ dX13_doPrint_158) hZ (fun r158 _ H locs hp_23 hZ => ?_)
            obtain ⟨_, _, rfl, _, rfl, rfl, hp_23⟩ := hp_23
            obtain ⟨jr, ar, hjr, har, hzr, hjl⟩ := mRk_in hsrt hp_23 (by show _ ∧ _ ≤ ((cAr c0).length : Int) - 1; omega)
            replace har : (cAr c0)[jr]? = some ar := har
            replace hzr : zrk (cAr c0) k_ = some ar := hzr
            replace hjl : (jr : Int) < ((cAr c0).length : Int) := hjl
            have hra := hRk.2.2.2.2.2.2.2.2.2.1 jr ar har
            have hka := hK.2.2.1 ar (List.mem_of_getElem? har)
            subst hjr
            refine lv_istore_n (lv' := [(3, .int (iI (jr : Int))), (2, .int (iI k_)), (1, .int (iI (2367 + (18 * ((cIs (cDrp c0)).length : Int))))), (0, .ref m0)]) hx hb dX13_doPrint_161 rfl hl (by decide) rfl (fun ls hl => ?_)
            refine lv_aload_n hx hb dX13_doPrint_162 rfl (lv_at hl 3 rfl) ?_
            refine lv_iload_n hx hb dX13_doPrint_163 rfl (lv_at hl 0 rfl) ?_
            refine lv_aload_n hx hb dX13_doPrint_164 rfl (lv_at hl 3 rfl) ?_
            refine m_get hC hZ 0 (x := .ref (ad 0)) rfl (by decide) ql_X13_9 rfl dX13_doPrint_165 ?_
            refine z_iconst hx hb dX13_doPrint_168 ?_
            refine m_iald hC hZ hD 0 (by decide) (f := g3 0) rfl rfl (by decide) (by decide) dX13_doPrint_169 ?_
            have hr_24 : -2147483648 ≤ (g3 0) 2 ∧ (g3 0) 2 ≤ 2147483647 := hw3.2 0 _
            refine z_top (y := cWi c0) hk2 ?_
            refine z_calli (z_runV (rest := []) (As := [.int (iI (jr : Int)), .int (iI (cWi c0))]) (n := 2) (ci := 16) hC hZ (met_X13_setsArticle l D cs A m0 ad v3 g3 (cWi c0) jr ar (cNi c0) hD hw3 hra hka (by omega) hwi) gv_X13_168 hd_X13_setsArticle rfl mW_o rfl hl rfl (Nat.le_of_ble_eq_true rfl) ⟨Nat.le_of_ble_eq_true rfl, Nat.le_of_ble_eq_true rfl⟩ ⟨Nat.le_of_ble_eq_true rfl, Nat.le_of_ble_eq_true rfl⟩ dX13_doPrint_170) hZ (fun r170 _ H locs hp_25 hZ => ?_)
            obtain ⟨v_27, g_28, rfl, hok_26, hsv, hsg, hp_25⟩ := hp_25
            rcases hp_25 with ⟨hzl, erl⟩ | ⟨ls0, hzl, erl, hlb, hll, hml⟩
            · skip
              subst erl
              have har1 := hka.1
              have hni9 := hK.2.2.2.2.2.2.1
              have e30 : g_28 0 = g3 0 := hsg 0 (by decide) (by decide) (by decide)
              have hRk9 := hRk
              rw [← e30] at hRk9
              have hrw9 := hi146_3
              have hlo9 := hi146_4
              rw [← e30] at hrw9 hlo9
              obtain ⟨q0, q1, q2, q3, q4, q5, q6⟩ := id hrw9
              have hfk := zfill_ok hK k_.toNat
              have hkk : (k_.toNat : Int) = k_ := Int.toNat_of_nonneg (by omega)
              have hks : (k_ + 1).toNat = k_.toNat + 1 := by omega
              have hzr9 := hzr
              rw [← hkk] at hzr9
              have hfn := zfill_no hzr9 hzl
              refine lv_istore (lv' := [(4, .int (iI (-1))), (3, .int (iI (jr : Int))), (2, .int (iI k_)), (1, .int (iI (2367 + (18 * ((cIs (cDrp c0)).length : Int))))), (0, .ref m0)]) hx hb dX13_doPrint_173 hl (by decide) rfl (fun ls hl => ?_)
              refine lv_iload hx hb dX13_doPrint_175 (lv_at hl 0 rfl) ?_
              refine z_if_lt (tgt := 288) hx hb dX13_doPrint_177 (by decide) (by decide) (fun c_29 => ?_) (fun c_29 => ?_)
              · skip
                refine z_iinc (lv' := [(2, .int (iI (k_ + 1))), (4, .int (iI (-1))), (3, .int (iI (jr : Int))), (1, .int (iI (2367 + (18 * ((cIs (cDrp c0)).length : Int))))), (0, .ref m0)]) hx hb dX13_doPrint_288 hl (k := 2) rfl (by decide) rfl (fun ls hl => ?_)
                refine lv_goto (tgt := 146) hx hb dX13_doPrint_291 (by decide) ?_
                exact ih146 (k_ + 1) v_27 g_28 (by omega) (by omega) (fun k hk => (hsv k hk).trans (hi146_1 k hk)) (fun j h0 h9 h10 h11 => (hsg j h9 h10 h11).trans (hi146_2 j h0 h9 h10 h11)) (by rw [hks]; unfold zprow; rw [hfn]; exact hrw9) hlo9 hok_26 _ _ hZ ls (lv_sub hl [0, 3, 4] rfl)
              · skip
                exfalso; omega
            · skip
              subst erl
              have har1 := hka.1
              have hni9 := hK.2.2.2.2.2.2.1
              have e30 : g_28 0 = g3 0 := hsg 0 (by decide) (by decide) (by decide)
              have hRk9 := hRk
              rw [← e30] at hRk9
              have hrw9 := hi146_3
              have hlo9 := hi146_4
              rw [← e30] at hrw9 hlo9
              obtain ⟨q0, q1, q2, q3, q4, q5, q6⟩ := id hrw9
              have hfk := zfill_ok hK k_.toNat
              have hkk : (k_.toNat : Int) = k_ := Int.toNat_of_nonneg (by omega)
              have hks : (k_ + 1).toNat = k_.toNat + 1 := by omega
              have hzr9 := hzr
              rw [← hkk] at hzr9
              refine lv_istore (lv' := [(4, .int (iI (ls0.length : Int))), (3, .int (iI (jr : Int))), (2, .int (iI k_)), (1, .int (iI (2367 + (18 * ((cIs (cDrp c0)).length : Int))))), (0, .ref m0)]) hx hb dX13_doPrint_173 hl (by decide) rfl (fun ls hl => ?_)
              refine lv_iload hx hb dX13_doPrint_175 (lv_at hl 0 rfl) ?_
              refine z_if_lt (tgt := 288) hx hb dX13_doPrint_177 (by decide) (by omega) (fun c_30 => ?_) (fun c_30 => ?_)
              · skip
                exfalso; omega
              · skip
                refine lv_aload_n hx hb dX13_doPrint_180 rfl (lv_at hl 4 rfl) ?_
                refine m_get hC hZ 0 (x := .ref (ad 0)) rfl (by decide) ql_X13_9 rfl dX13_doPrint_181 ?_
                refine lv_iload_n hx hb dX13_doPrint_184 rfl (lv_at hl 3 rfl) ?_
                refine z_iconst hx hb dX13_doPrint_185 ?_
                refine z_iadd hx hb dX13_doPrint_186 ?_
                refine m_iald hC hZ hD 0 (by decide) (f := g_28 0) rfl rfl (by show _ ∧ _ < (2439 : Int); omega) (by decide) dX13_doPrint_187 ?_
                have hr_31 : -2147483648 ≤ (g_28 0) ((2367 + (18 * ((cIs (cDrp c0)).length : Int))) + 4) ∧ (g_28 0) ((2367 + (18 * ((cIs (cDrp c0)).length : Int))) + 4) ≤ 2147483647 := hok_26.2 0 _
                refine z_top (y := (zfill c0 k_.toNat).2) q4 ?_
                refine lv_iload hx hb dX13_doPrint_188 (lv_at hl 0 rfl) ?_
                refine z_iadd hx hb dX13_doPrint_190 ?_
                refine lv_aload_n hx hb dX13_doPrint_191 rfl (lv_at hl 4 rfl) ?_
                refine m_get hC hZ 0 (x := .ref (ad 0)) rfl (by decide) ql_X13_9 rfl dX13_doPrint_192 ?_
                refine z_iconst hx hb dX13_doPrint_195 ?_
                refine m_iald hC hZ hD 0 (by decide) (f := g_28 0) rfl rfl (by decide) (by decide) dX13_doPrint_196 ?_
                have hr_32 : -2147483648 ≤ (g_28 0) 3 ∧ (g_28 0) 3 ≤ 2147483647 := hok_26.2 0 _
                refine z_top (y := cCo c0) (hRk9.2.2.2.1) ?_
                refine lv_aload_n hx hb dX13_doPrint_197 rfl (lv_at hl 4 rfl) ?_
                refine m_get hC hZ 0 (x := .ref (ad 0)) rfl (by decide) ql_X13_9 rfl dX13_doPrint_198 ?_
                refine z_iconst hx hb dX13_doPrint_201 ?_
                refine m_iald hC hZ hD 0 (by decide) (f := g_28 0) rfl rfl (by decide) (by decide) dX13_doPrint_202 ?_
                have hr_33 : -2147483648 ≤ (g_28 0) 4 ∧ (g_28 0) 4 ≤ 2147483647 := hok_26.2 0 _
                refine z_top (y := cHe c0) (hRk9.2.2.2.2.1) ?_
                refine z_imul hx hb dX13_doPrint_203 ?_
                refine z_icmp_gt (tgt := 288) hx hb dX13_doPrint_204 (by decide) (by omega) (by omega) (fun c_34 => ?_) (fun c_34 => ?_)
                · skip
                  have hfn := zfill_no2 hzr9 hzl (by omega)
                  refine z_iinc (lv' := [(2, .int (iI (k_ + 1))), (4, .int (iI (ls0.length : Int))), (3, .int (iI (jr : Int))), (1, .int (iI (2367 + (18 * ((cIs (cDrp c0)).length : Int))))), (0, .ref m0)]) hx hb dX13_doPrint_288 hl (k := 2) rfl (by decide) rfl (fun ls hl => ?_)
                  refine lv_goto (tgt := 146) hx hb dX13_doPrint_291 (by decide) ?_
                  exact ih146 (k_ + 1) v_27 g_28 (by omega) (by omega) (fun k hk => (hsv k hk).trans (hi146_1 k hk)) (fun j h0 h9 h10 h11 => (hsg j h9 h10 h11).trans (hi146_2 j h0 h9 h10 h11)) (by rw [hks]; unfold zprow; rw [hfn]; exact hrw9) hlo9 hok_26 _ _ hZ ls (lv_sub hl [0, 3, 4] rfl)
                · skip
                  have hfy := zfill_yes hzr9 hzl (by omega)
                  have hfl1 := hfk.1
                  refine lv_aload_n hx hb dX13_doPrint_207 rfl (lv_at hl 4 rfl) ?_
                  refine m_get hC hZ 0 (x := .ref (ad 0)) rfl (by decide) ql_X13_9 rfl dX13_doPrint_208 ?_
                  refine lv_iload_n hx hb dX13_doPrint_211 rfl (lv_at hl 3 rfl) ?_
                  refine z_bipush hx hb dX13_doPrint_212 (by decide) ?_
                  refine z_iadd hx hb dX13_doPrint_214 ?_
                  refine z_iconst hx hb dX13_doPrint_215 ?_
                  refine lv_aload_n hx hb dX13_doPrint_216 rfl (lv_at hl 4 rfl) ?_
                  refine m_get hC hZ 0 (x := .ref (ad 0)) rfl (by decide) ql_X13_9 rfl dX13_doPrint_217 ?_
                  refine lv_iload_n hx hb dX13_doPrint_220 rfl (lv_at hl 3 rfl) ?_
                  refine z_iconst hx hb dX13_doPrint_221 ?_
                  refine z_iadd hx hb dX13_doPrint_222 ?_
                  refine m_iald hC hZ hD 0 (by decide) (f := g_28 0) rfl rfl (by show _ ∧ _ < (2439 : Int); omega) (by decide) dX13_doPrint_223 ?_
                  have hr_35 : -2147483648 ≤ (g_28 0) ((2367 + (18 * ((cIs (cDrp c0)).length : Int))) + 5) ∧ (g_28 0) ((2367 + (18 * ((cIs (cDrp c0)).length : Int))) + 5) ≤ 2147483647 := hok_26.2 0 _
                  refine z_top (y := ((zfill c0 k_.toNat).1.length : Int)) q5 ?_
                  refine z_imul hx hb dX13_doPrint_224 ?_
                  refine z_iadd hx hb dX13_doPrint_225 ?_
                  refine lv_aload_n hx hb dX13_doPrint_226 rfl (lv_at hl 4 rfl) ?_
                  refine lv_iload_n hx hb dX13_doPrint_227 rfl (lv_at hl 1 rfl) ?_
                  refine z_iconst hx hb dX13_doPrint_228 ?_
                  refine z_calli (z_runV (rest := [.int (iI (((2367 + (18 * ((cIs (cDrp c0)).length : Int))) + 6) + (2 * ((zfill c0 k_.toNat).1.length : Int)))), .ref (ad 0)]) (As := [.int (iI (jr : Int)), .int (iI 0)]) (n := 2) (ci := 16) hC hZ (met_X13_of l D cs A m0 ad v_27 g_28 (jr : Int) 0  hD hok_26 (by omega) (by omega)) gv_X13_67 hd_X13_of rfl mW_o rfl hl rfl (Nat.le_of_ble_eq_true rfl) ⟨Nat.le_of_ble_eq_true rfl, Nat.le_of_ble_eq_true rfl⟩ ⟨Nat.le_of_ble_eq_true rfl, Nat.le_of_ble_eq_true rfl⟩ dX13_doPrint_229) hZ (fun r229 _ H locs hp_36 hZ => ?_)
                  obtain ⟨_, _, rfl, _, rfl, rfl, rfl⟩ := hp_36
                  have hr_37 : -2147483648 ≤ mof (g_28 0) (jr : Int) 0 ∧ mof (g_28 0) (jr : Int) 0 ≤ 2147483647 := hok_26.2 0 _
                  refine z_top (y := ar.1) (hRk9.2.2.2.2.2.2.2.2.2.1 jr ar har).1 ?_
                  refine m_iast hC hZ hD 0 (by decide) (f := g_28 0) rfl rfl (by show _ ∧ _ < (2439 : Int); omega) (by decide) dX13_doPrint_232 (fun H locs hZ => ?_)
                  have hok_38 := hok_26.g (k := 0) (i := (((2367 + (18 * ((cIs (cDrp c0)).length : Int))) + 6) + (2 * ((zfill c0 k_.toNat).1.length : Int)))) (x := ar.1) (f := g_28 0) rfl (by omega)
                  refine lv_aload_n hx hb dX13_doPrint_233 rfl (lv_at hl 4 rfl) ?_
                  refine m_get hC hZ 0 (x := .ref (ad 0)) rfl (by decide) ql_X13_9 rfl dX13_doPrint_234 ?_
                  refine lv_iload_n hx hb dX13_doPrint_237 rfl (lv_at hl 3 rfl) ?_
                  refine z_bipush hx hb dX13_doPrint_238 (by decide) ?_
                  refine z_iadd hx hb dX13_doPrint_240 ?_
                  refine z_iconst hx hb dX13_doPrint_241 ?_
                  refine lv_aload_n hx hb dX13_doPrint_242 rfl (lv_at hl 4 rfl) ?_
                  refine m_get hC hZ 0 (x := .ref (ad 0)) rfl (by decide) ql_X13_9 rfl dX13_doPrint_243 ?_
                  refine lv_iload_n hx hb dX13_doPrint_246 rfl (lv_at hl 3 rfl) ?_
                  refine z_iconst hx hb dX13_doPrint_247 ?_
                  refine z_iadd hx hb dX13_doPrint_248 ?_
                  refine m_iald hC hZ hD 0 (by decide) (f := upI (g_28 0) (((2367 + (18 * ((cIs (cDrp c0)).length : Int))) + 6) + (2 * ((zfill c0 k_.toNat).1.length : Int))) ar.1) rfl rfl (by show _ ∧ _ < (2439 : Int); omega) (by decide) dX13_doPrint_249 ?_
                  have hr_39 : -2147483648 ≤ (upI (g_28 0) (((2367 + (18 * ((cIs (cDrp c0)).length : Int))) + 6) + (2 * ((zfill c0 k_.toNat).1.length : Int))) ar.1) ((2367 + (18 * ((cIs (cDrp c0)).length : Int))) + 5) ∧ (upI (g_28 0) (((2367 + (18 * ((cIs (cDrp c0)).length : Int))) + 6) + (2 * ((zfill c0 k_.toNat).1.length : Int))) ar.1) ((2367 + (18 * ((cIs (cDrp c0)).length : Int))) + 5) ≤ 2147483647 := (hok_38.2 0 ((2367 + (18 * ((cIs (cDrp c0)).length : Int))) + 5))
                  refine z_top (y := ((zfill c0 k_.toNat).1.length : Int)) (by rw [upI_n (by omega)]; exact q5) ?_
                  refine z_imul hx hb dX13_doPrint_250 ?_
                  refine z_iadd hx hb dX13_doPrint_251 ?_
                  refine z_iconst hx hb dX13_doPrint_252 ?_
                  refine z_iadd hx hb dX13_doPrint_253 ?_
                  refine lv_aload_n hx hb dX13_doPrint_254 rfl (lv_at hl 4 rfl) ?_
                  refine m_get hC hZ 0 (x := .ref (ad 0)) rfl (by decide) ql_X13_9 rfl dX13_doPrint_255 ?_
                  refine lv_iload_n hx hb dX13_doPrint_258 rfl (lv_at hl 3 rfl) ?_
                  refine z_iconst hx hb dX13_doPrint_259 ?_
                  refine z_iadd hx hb dX13_doPrint_260 ?_
                  refine m_iald hC hZ hD 0 (by decide) (f := upI (g_28 0) (((2367 + (18 * ((cIs (cDrp c0)).length : Int))) + 6) + (2 * ((zfill c0 k_.toNat).1.length : Int))) ar.1) rfl rfl (by show _ ∧ _ < (2439 : Int); omega) (by decide) dX13_doPrint_261 ?_
                  have hr_40 : -2147483648 ≤ (upI (g_28 0) (((2367 + (18 * ((cIs (cDrp c0)).length : Int))) + 6) + (2 * ((zfill c0 k_.toNat).1.length : Int))) ar.1) ((2367 + (18 * ((cIs (cDrp c0)).length : Int))) + 4) ∧ (upI (g_28 0) (((2367 + (18 * ((cIs (cDrp c0)).length : Int))) + 6) + (2 * ((zfill c0 k_.toNat).1.length : Int))) ar.1) ((2367 + (18 * ((cIs (cDrp c0)).length : Int))) + 4) ≤ 2147483647 := (hok_38.2 0 ((2367 + (18 * ((cIs (cDrp c0)).length : Int))) + 4))
                  refine z_top (y := (zfill c0 k_.toNat).2) (by rw [upI_n (by omega)]; exact q4) ?_
                  refine m_iast hC hZ hD 0 (by decide) (f := upI (g_28 0) (((2367 + (18 * ((cIs (cDrp c0)).length : Int))) + 6) + (2 * ((zfill c0 k_.toNat).1.length : Int))) ar.1) rfl rfl (by show _ ∧ _ < (2439 : Int); omega) (by decide) dX13_doPrint_262 (fun H locs hZ => ?_)
                  have hok_41 := hok_38.g (k := 0) (i := ((((2367 + (18 * ((cIs (cDrp c0)).length : Int))) + 6) + (2 * ((zfill c0 k_.toNat).1.length : Int))) + 1)) (x := ((zfill c0 k_.toNat).2)) (f := upI (g_28 0) (((2367 + (18 * ((cIs (cDrp c0)).length : Int))) + 6) + (2 * ((zfill c0 k_.toNat).1.length : Int))) ar.1) rfl (by omega)
                  refine lv_aload_n hx hb dX13_doPrint_263 rfl (lv_at hl 4 rfl) ?_
                  refine m_get hC hZ 0 (x := .ref (ad 0)) rfl (by decide) ql_X13_9 rfl dX13_doPrint_264 ?_
                  refine lv_iload_n hx hb dX13_doPrint_267 rfl (lv_at hl 3 rfl) ?_
                  refine z_iconst hx hb dX13_doPrint_268 ?_
                  refine z_iadd hx hb dX13_doPrint_269 ?_
                  refine lv_dup2_11 hx hb dX13_doPrint_270 rfl rfl ?_
                  refine m_iald hC hZ hD 0 (by decide) (f := upI (upI (g_28 0) (((2367 + (18 * ((cIs (cDrp c0)).length : Int))) + 6) + (2 * ((zfill c0 k_.toNat).1.length : Int))) ar.1) ((((2367 + (18 * ((cIs (cDrp c0)).length : Int))) + 6) + (2 * ((zfill c0 k_.toNat).1.length : Int))) + 1) ((zfill c0 k_.toNat).2)) rfl rfl (by show _ ∧ _ < (2439 : Int); omega) (by decide) dX13_doPrint_271 ?_
                  have hr_42 : -2147483648 ≤ (upI (upI (g_28 0) (((2367 + (18 * ((cIs (cDrp c0)).length : Int))) + 6) + (2 * ((zfill c0 k_.toNat).1.length : Int))) ar.1) ((((2367 + (18 * ((cIs (cDrp c0)).length : Int))) + 6) + (2 * ((zfill c0 k_.toNat).1.length : Int))) + 1) ((zfill c0 k_.toNat).2)) ((2367 + (18 * ((cIs (cDrp c0)).length : Int))) + 5) ∧ (upI (upI (g_28 0) (((2367 + (18 * ((cIs (cDrp c0)).length : Int))) + 6) + (2 * ((zfill c0 k_.toNat).1.length : Int))) ar.1) ((((2367 + (18 * ((cIs (cDrp c0)).length : Int))) + 6) + (2 * ((zfill c0 k_.toNat).1.length : Int))) + 1) ((zfill c0 k_.toNat).2)) ((2367 + (18 * ((cIs (cDrp c0)).length : Int))) + 5) ≤ 2147483647 := (hok_41.2 0 ((2367 + (18 * ((cIs (cDrp c0)).length : Int))) + 5))
                  refine z_top (y := ((zfill c0 k_.toNat).1.length : Int)) (by rw [upI_n (by omega), upI_n (by omega)]; exact q5) ?_
                  refine z_iconst hx hb dX13_doPrint_272 ?_
                  refine z_iadd hx hb dX13_doPrint_273 ?_
                  refine m_iast hC hZ hD 0 (by decide) (f := upI (upI (g_28 0) (((2367 + (18 * ((cIs (cDrp c0)).length : Int))) + 6) + (2 * ((zfill c0 k_.toNat).1.length : Int))) ar.1) ((((2367 + (18 * ((cIs (cDrp c0)).length : Int))) + 6) + (2 * ((zfill c0 k_.toNat).1.length : Int))) + 1) ((zfill c0 k_.toNat).2)) rfl rfl (by show _ ∧ _ < (2439 : Int); omega) (by decide) dX13_doPrint_274 (fun H locs hZ => ?_)
                  have hok_43 := hok_41.g (k := 0) (i := ((2367 + (18 * ((cIs (cDrp c0)).length : Int))) + 5)) (x := (((zfill c0 k_.toNat).1.length : Int) + 1)) (f := upI (upI (g_28 0) (((2367 + (18 * ((cIs (cDrp c0)).length : Int))) + 6) + (2 * ((zfill c0 k_.toNat).1.length : Int))) ar.1) ((((2367 + (18 * ((cIs (cDrp c0)).length : Int))) + 6) + (2 * ((zfill c0 k_.toNat).1.length : Int))) + 1) ((zfill c0 k_.toNat).2)) rfl (by omega)
                  refine lv_aload_n hx hb dX13_doPrint_275 rfl (lv_at hl 4 rfl) ?_
                  refine m_get hC hZ 0 (x := .ref (ad 0)) rfl (by decide) ql_X13_9 rfl dX13_doPrint_276 ?_
                  refine lv_iload_n hx hb dX13_doPrint_279 rfl (lv_at hl 3 rfl) ?_
                  refine z_iconst hx hb dX13_doPrint_280 ?_
                  refine z_iadd hx hb dX13_doPrint_281 ?_
                  refine lv_dup2_11 hx hb dX13_doPrint_282 rfl rfl ?_
                  refine m_iald hC hZ hD 0 (by decide) (f := upI (upI (upI (g_28 0) (((2367 + (18 * ((cIs (cDrp c0)).length : Int))) + 6) + (2 * ((zfill c0 k_.toNat).1.length : Int))) ar.1) ((((2367 + (18 * ((cIs (cDrp c0)).length : Int))) + 6) + (2 * ((zfill c0 k_.toNat).1.length : Int))) + 1) ((zfill c0 k_.toNat).2)) ((2367 + (18 * ((cIs (cDrp c0)).length : Int))) + 5) (((zfill c0 k_.toNat).1.length : Int) + 1)) rfl rfl (by show _ ∧ _ < (2439 : Int); omega) (by decide) dX13_doPrint_283 ?_
                  have hr_44 : -2147483648 ≤ (upI (upI (upI (g_28 0) (((2367 + (18 * ((cIs (cDrp c0)).length : Int))) + 6) + (2 * ((zfill c0 k_.toNat).1.length : Int))) ar.1) ((((2367 + (18 * ((cIs (cDrp c0)).length : Int))) + 6) + (2 * ((zfill c0 k_.toNat).1.length : Int))) + 1) ((zfill c0 k_.toNat).2)) ((2367 + (18 * ((cIs (cDrp c0)).length : Int))) + 5) (((zfill c0 k_.toNat).1.length : Int) + 1)) ((2367 + (18 * ((cIs (cDrp c0)).length : Int))) + 4) ∧ (upI (upI (upI (g_28 0) (((2367 + (18 * ((cIs (cDrp c0)).length : Int))) + 6) + (2 * ((zfill c0 k_.toNat).1.length : Int))) ar.1) ((((2367 + (18 * ((cIs (cDrp c0)).length : Int))) + 6) + (2 * ((zfill c0 k_.toNat).1.length : Int))) + 1) ((zfill c0 k_.toNat).2)) ((2367 + (18 * ((cIs (cDrp c0)).length : Int))) + 5) (((zfill c0 k_.toNat).1.length : Int) + 1)) ((2367 + (18 * ((cIs (cDrp c0)).length : Int))) + 4) ≤ 2147483647 := (hok_43.2 0 ((2367 + (18 * ((cIs (cDrp c0)).length : Int))) + 4))
                  refine z_top (y := (zfill c0 k_.toNat).2) (by rw [upI_n (by omega), upI_n (by omega), upI_n (by omega)]; exact q4) ?_
                  refine lv_iload hx hb dX13_doPrint_284 (lv_at hl 0 rfl) ?_
                  refine z_iadd hx hb dX13_doPrint_286 ?_
                  refine m_iast hC hZ hD 0 (by decide) (f := upI (upI (upI (g_28 0) (((2367 + (18 * ((cIs (cDrp c0)).length : Int))) + 6) + (2 * ((zfill c0 k_.toNat).1.length : Int))) ar.1) ((((2367 + (18 * ((cIs (cDrp c0)).length : Int))) + 6) + (2 * ((zfill c0 k_.toNat).1.length : Int))) + 1) ((zfill c0 k_.toNat).2)) ((2367 + (18 * ((cIs (cDrp c0)).length : Int))) + 5) (((zfill c0 k_.toNat).1.length : Int) + 1)) rfl rfl (by show _ ∧ _ < (2439 : Int); omega) (by decide) dX13_doPrint_287 (fun H locs hZ => ?_)
                  have hok_45 := hok_43.g (k := 0) (i := ((2367 + (18 * ((cIs (cDrp c0)).length : Int))) + 4)) (x := (((zfill c0 k_.toNat).2) + (ls0.length : Int))) (f := upI (upI (upI (g_28 0) (((2367 + (18 * ((cIs (cDrp c0)).length : Int))) + 6) + (2 * ((zfill c0 k_.toNat).1.length : Int))) ar.1) ((((2367 + (18 * ((cIs (cDrp c0)).length : Int))) + 6) + (2 * ((zfill c0 k_.toNat).1.length : Int))) + 1) ((zfill c0 k_.toNat).2)) ((2367 + (18 * ((cIs (cDrp c0)).length : Int))) + 5) (((zfill c0 k_.toNat).1.length : Int) + 1)) rfl (by omega)
                  refine z_iinc (lv' := [(2, .int (iI (k_ + 1))), (4, .int (iI (ls0.length : Int))), (3, .int (iI (jr : Int))), (1, .int (iI (2367 + (18 * ((cIs (cDrp c0)).length : Int))))), (0, .ref m0)]) hx hb dX13_doPrint_288 hl (k := 2) rfl (by decide) rfl (fun ls hl => ?_)
                  refine lv_goto (tgt := 146) hx hb dX13_doPrint_291 (by decide) ?_
                  exact ih146 (k_ + 1) v_27 (upG (upG (upG (upG g_28 0 (upI (g_28 0) (((2367 + (18 * ((cIs (cDrp c0)).length : Int))) + 6) + (2 * ((zfill c0 k_.toNat).1.length : Int))) ar.1)) 0 (upI (upI (g_28 0) (((2367 + (18 * ((cIs (cDrp c0)).length : Int))) + 6) + (2 * ((zfill c0 k_.toNat).1.length : Int))) ar.1) ((((2367 + (18 * ((cIs (cDrp c0)).length : Int))) + 6) + (2 * ((zfill c0 k_.toNat).1.length : Int))) + 1) ((zfill c0 k_.toNat).2))) 0 (upI (upI (upI (g_28 0) (((2367 + (18 * ((cIs (cDrp c0)).length : Int))) + 6) + (2 * ((zfill c0 k_.toNat).1.length : Int))) ar.1) ((((2367 + (18 * ((cIs (cDrp c0)).length : Int))) + 6) + (2 * ((zfill c0 k_.toNat).1.length : Int))) + 1) ((zfill c0 k_.toNat).2)) ((2367 + (18 * ((cIs (cDrp c0)).length : Int))) + 5) (((zfill c0 k_.toNat).1.length : Int) + 1))) 0 (upI (upI (upI (upI (g_28 0) (((2367 + (18 * ((cIs (cDrp c0)).length : Int))) + 6) + (2 * ((zfill c0 k_.toNat).1.length : Int))) ar.1) ((((2367 + (18 * ((cIs (cDrp c0)).length : Int))) + 6) + (2 * ((zfill c0 k_.toNat).1.length : Int))) + 1) ((zfill c0 k_.toNat).2)) ((2367 + (18 * ((cIs (cDrp c0)).length : Int))) + 5) (((zfill c0 k_.toNat).1.length : Int) + 1)) ((2367 + (18 * ((cIs (cDrp c0)).length : Int))) + 4) (((zfill c0 k_.toNat).2) + (ls0.length : Int)))) (by omega) (by omega) (fun k hk => (hsv k hk).trans (hi146_1 k hk)) (fun j h0 h9 h10 h11 => by rw [upG_n h0, upG_n h0, upG_n h0, upG_n h0]; exact (hsg j h9 h10 h11).trans (hi146_2 j h0 h9 h10 h11)) (by
                                          rw [hks, upG_s]
                                          unfold zprow
                                          rw [hfy]
                                          refine ⟨?_, ?_, ?_, ?_, ?_, ?_, fun i q hq => ?_⟩
                                          · rw [upI_n (by omega), upI_n (by omega), upI_n (by omega), upI_n (by omega)]; exact q0
                                          · rw [upI_n (by omega), upI_n (by omega), upI_n (by omega), upI_n (by omega)]; exact q1
                                          · rw [upI_n (by omega), upI_n (by omega), upI_n (by omega), upI_n (by omega)]; exact q2
                                          · rw [upI_n (by omega), upI_n (by omega), upI_n (by omega), upI_n (by omega)]; exact q3
                                          · rw [upI_s]
                                          · rw [upI_n (by omega), upI_s, List.length_append, List.length_singleton]; rfl
                                          · have hql := (List.getElem?_eq_some_iff.mp hq).1
                                            rw [List.length_append, List.length_singleton] at hql
                                            by_cases z : i < (zfill c0 k_.toNat).1.length
                                            · rw [List.getElem?_append_left z] at hq
                                              have hq6 := q6 i q hq
                                              rw [upI_n (by omega), upI_n (by omega), upI_n (by omega), upI_n (by omega), upI_n (by omega), upI_n (by omega), upI_n (by omega), upI_n (by omega)]
                                              exact hq6
                                            · have e : i = (zfill c0 k_.toNat).1.length := by omega
                                              subst e
                                              rw [List.getElem?_append_right (Nat.le_refl _)] at hq
                                              simp at hq
                                              subst hq
                                              refine ⟨?_, ?_⟩
                                              · rw [upI_n (by omega), upI_n (by omega), upI_n (by omega), upI_s]
                                              · rw [upI_n (by omega), upI_n (by omega), upI_s]) (fun k h1 h2 => by rw [upG_s, upI_n (by omega), upI_n (by omega), upI_n (by omega), upI_n (by omega)]; exact hlo9 k h1 h2) hok_45 _ _ hZ ls (lv_sub hl [0, 3, 4] rfl)
      exact L146_k_15 _ 0 v (upG (upG (upG (upG (upG (upG g2 0 (upI (g2 0) (2367 + (18 * ((cIs (cDrp c0)).length : Int))) (cNn c0))) 0 (upI (upI (g2 0) (2367 + (18 * ((cIs (cDrp c0)).length : Int))) (cNn c0)) ((2367 + (18 * ((cIs (cDrp c0)).length : Int))) + 1) (cDa c0))) 0 (upI (upI (upI (g2 0) (2367 + (18 * ((cIs (cDrp c0)).length : Int))) (cNn c0)) ((2367 + (18 * ((cIs (cDrp c0)).length : Int))) + 1) (cDa c0)) ((2367 + (18 * ((cIs (cDrp c0)).length : Int))) + 2) (cCo c0))) 0 (upI (upI (upI (upI (g2 0) (2367 + (18 * ((cIs (cDrp c0)).length : Int))) (cNn c0)) ((2367 + (18 * ((cIs (cDrp c0)).length : Int))) + 1) (cDa c0)) ((2367 + (18 * ((cIs (cDrp c0)).length : Int))) + 2) (cCo c0)) ((2367 + (18 * ((cIs (cDrp c0)).length : Int))) + 3) (cHe c0))) 0 (upI (upI (upI (upI (upI (g2 0) (2367 + (18 * ((cIs (cDrp c0)).length : Int))) (cNn c0)) ((2367 + (18 * ((cIs (cDrp c0)).length : Int))) + 1) (cDa c0)) ((2367 + (18 * ((cIs (cDrp c0)).length : Int))) + 2) (cCo c0)) ((2367 + (18 * ((cIs (cDrp c0)).length : Int))) + 3) (cHe c0)) ((2367 + (18 * ((cIs (cDrp c0)).length : Int))) + 4) 0)) 0 (upI (upI (upI (upI (upI (upI (g2 0) (2367 + (18 * ((cIs (cDrp c0)).length : Int))) (cNn c0)) ((2367 + (18 * ((cIs (cDrp c0)).length : Int))) + 1) (cDa c0)) ((2367 + (18 * ((cIs (cDrp c0)).length : Int))) + 2) (cCo c0)) ((2367 + (18 * ((cIs (cDrp c0)).length : Int))) + 3) (cHe c0)) ((2367 + (18 * ((cIs (cDrp c0)).length : Int))) + 4) 0) ((2367 + (18 * ((cIs (cDrp c0)).length : Int))) + 5) 0)) (Nat.lt_succ_self _) (by omega) (fun _ _ => rfl) (fun j h0 h9 h10 h11 => by rw [upG_n h0, upG_n h0, upG_n h0, upG_n h0, upG_n h0, upG_n h0]; exact hj56_1 j h0) (by
                rw [upG_s]
                refine ⟨?_, ?_, ?_, ?_, ?_, ?_, fun i q hq => by simp [zfill] at hq⟩
                · rw [upI_n (by omega), upI_n (by omega), upI_n (by omega), upI_n (by omega), upI_n (by omega), upI_s]
                · rw [upI_n (by omega), upI_n (by omega), upI_n (by omega), upI_n (by omega), upI_s]
                · rw [upI_n (by omega), upI_n (by omega), upI_n (by omega), upI_s]
                · rw [upI_n (by omega), upI_n (by omega), upI_s]
                · rw [upI_n (by omega), upI_s]; rfl
                · rw [upI_s]; rfl) (fun k h1 h2 => by rw [upG_s, upI_n (by omega), upI_n (by omega), upI_n (by omega), upI_n (by omega), upI_n (by omega), upI_n (by omega)]) hok_14 _ _ hZ ls (lv_sub hl [0, 1, 2] rfl)
    refine lv_aload_n hx hb dX13_doPrint_15 rfl (lv_at hl 0 rfl) ?_
    refine m_get hC hZ 0 (x := .ref (ad 0)) rfl (by decide) ql_X13_9 rfl dX13_doPrint_16 ?_
    refine z_bipush hx hb dX13_doPrint_19 (by decide) ?_
    refine m_iald hC hZ hD 0 (by decide) (f := g 0) rfl rfl (by decide) (by decide) dX13_doPrint_21 ?_
    have hr_46 : -2147483648 ≤ (g 0) 7 ∧ (g 0) 7 ≤ 2147483647 := hok.2 0 _
    refine z_iconst hx hb dX13_doPrint_22 ?_
    refine z_icmp_ne (tgt := 56) hx hb dX13_doPrint_23 (by decide) (by omega) (by decide) (fun c_47 => ?_) (fun c_47 => ?_)
    · skip
      exact J56_k_3  g  (mR_drp0 hR (by omega)) (fun _ _ => rfl) hok _ _ hZ ls (lv_sub hl [0] rfl)
    · skip
      refine lv_aload_n hx hb dX13_doPrint_26 rfl (lv_at hl 0 rfl) ?_
      refine m_get hC hZ 0 (x := .ref (ad 0)) rfl (by decide) ql_X13_9 rfl dX13_doPrint_27 ?_
      refine z_sipush hx hb dX13_doPrint_30 (by decide) ?_
      refine lv_aload_n hx hb dX13_doPrint_33 rfl (lv_at hl 0 rfl) ?_
      refine m_get hC hZ 0 (x := .ref (ad 0)) rfl (by decide) ql_X13_9 rfl dX13_doPrint_34 ?_
      refine z_sipush hx hb dX13_doPrint_37 (by decide) ?_
      refine z_bipush hx hb dX13_doPrint_40 (by decide) ?_
      refine m_copy (rest := []) hC hZ hD 0 0 1 1 (f1 := g 0) (f2 := g 0) hl rfl rfl rfl (by decide) (by decide) (by decide) (by decide) (by decide) (Nat.le_of_ble_eq_true rfl) (by decide) qm_X13_58 qv_J10_arraycopy_1e247 qt_J10_arraycopy_1e247 qn_J10 dX13_doPrint_42 (fun H locs hZ => ?_)
      have hok_48 := hok.gf (k := 0) (f := cpI (g 0) (g 0) 2385 2367 54) (InR.cp (f := g 0) (g := g 0) (hok.2 0) (hok.2 0))
      refine lv_aload_n hx hb dX13_doPrint_45 rfl (lv_at hl 0 rfl) ?_
      refine m_get hC hZ 0 (x := .ref (ad 0)) rfl (by decide) ql_X13_9 rfl dX13_doPrint_46 ?_
      refine z_bipush hx hb dX13_doPrint_49 (by decide) ?_
      refine lv_dup2_11 hx hb dX13_doPrint_51 rfl rfl ?_
      refine m_iald hC hZ hD 0 (by decide) (f := cpI (g 0) (g 0) 2385 2367 54) rfl rfl (by decide) (by decide) dX13_doPrint_52 ?_
      have hr_49 : -2147483648 ≤ (cpI (g 0) (g 0) 2385 2367 54) 7 ∧ (cpI (g 0) (g 0) 2385 2367 54) 7 ≤ 2147483647 := (hok_48.2 0 7)
      refine z_top (y := 4) (by rw [cpI_out (by omega)]; omega) ?_
      refine z_iconst hx hb dX13_doPrint_53 ?_
      refine z_isub hx hb dX13_doPrint_54 ?_
      refine z_top (y := 3) (by decide) ?_
      refine m_iast hC hZ hD 0 (by decide) (f := cpI (g 0) (g 0) 2385 2367 54) rfl rfl (by decide) (by decide) dX13_doPrint_55 (fun H locs hZ => ?_)
      have hok_50 := hok_48.g (k := 0) (i := 7) (x := 3) (f := cpI (g 0) (g 0) 2385 2367 54) rfl (by decide)
      exact J56_k_3  (upG (upG g 0 (cpI (g 0) (g 0) 2385 2367 54)) 0 (upI (cpI (g 0) (g 0) 2385 2367 54) 7 3))  (by
                    rw [upG_s]
                    refine mR_drp hR hK (by omega) ?_ (fun k z1 z2 z3 => ?_) (fun k z1 z2 => ?_)
                    · rw [upI_s]
                    · rw [upI_n z3, cpI_out (by omega)]
                    · rw [upI_n (by omega), cpI_in (by omega)]; congr 1; omega) (fun j h => by rw [upG_n h, upG_n h]) hok_50 _ _ hZ ls (lv_sub hl [0] rfl)
  · skip
    refine lv_aload_n hx hb dX13_doPrint_9 rfl (lv_at hl 0 rfl) ?_
    refine z_iconst hx hb dX13_doPrint_10 ?_
    refine z_calli (z_runV (rest := []) (As := [.int (iI 1)]) (n := 1) (ci := 16) hC hZ (met_X13_fails l D cs A m0 ad v g 1  hD hok (by decide)) gv_X13_82 hd_X13_fails rfl mW_o rfl hl rfl (Nat.le_of_ble_eq_true rfl) ⟨Nat.le_of_ble_eq_true rfl, Nat.le_of_ble_eq_true rfl⟩ ⟨Nat.le_of_ble_eq_true rfl, Nat.le_of_ble_eq_true rfl⟩ dX13_doPrint_11) hZ (fun r11 _ H locs hp_51 hZ => ?_)
    obtain ⟨_, _, rfl, hok_52, rfl, rfl, rfl⟩ := hp_51
    exact z_iret hC hr hlk hZ (by decide) (by decide) (⟨_, _, rfl, hok_52, by rw [show sPrt c0 = (1, c0, 0) from if_pos (by omega)]; exact Or.inl ⟨(by decide : (1 : Int) ≠ 0), rfl, rfl, rfl⟩⟩) dX13_doPrint_14

set_option maxHeartbeats 4000000 in
set_option maxRecDepth 100000 in
theorem met_X13_print (l : Launch) (D : va_G) (cs : Nat → ClassId) (A : Nat → Prop) (m0 : Nat) (ad : Nat → Nat) (v : Nat → Int) (g : Nat → Int → Int)  (hs : List zCo) (N : Nat) (c0 : zCo) (hD : mD m0 ad) (hok : mOK v g) (hR : mR (g 0) c0) (hK : cOK N c0) (hN : N ≤ 1000) (hH : mHi v g hs) (hHK : ∀ h ∈ hs, cOK N h) (hRA : (sPrt c0).1 = 0 → InR (sPrt c0).2.2) : zM l D cs A yX13_print cX13_print 1 (some FieldType.int) 7 0 0 [.ref m0] (mW cs m0 ad v g) (mP cs m0 ad (fun r v1 g1 => mTop v g r v1 g1 c0 hs (sPrt c0) ((upN v 6 0)))) := by
  refine zM_of (own := RX13) (by decide) rfl (Nat.le_of_ble_eq_true rfl) ?_
  intro p e s m below meth c hC hr hlk hnm hZ ls hl
  have hx := hC.x
  have hb := hC.b
  have hl : lv_has ls 1 [(0, .ref m0)] := hl
  refine lv_aload_n hx hb dX13_print_0 rfl (lv_at hl 0 rfl) ?_
  refine z_callv (z_runV (rest := []) (As := []) (n := 0) (ci := 16) hC hZ (met_X13_keep l D cs A m0 ad v g   hD hok ) gv_X13_94 hd_X13_keep rfl mW_o rfl hl rfl (Nat.le_of_ble_eq_true rfl) ⟨Nat.le_of_ble_eq_true rfl, Nat.le_of_ble_eq_true rfl⟩ ⟨Nat.le_of_ble_eq_true rfl, Nat.le_of_ble_eq_true rfl⟩ dX13_print_1) hZ (fun _ H locs hp_1 hZ => ?_)
  obtain ⟨_, _, rfl, hok_2, rfl, rfl⟩ := hp_1
  refine lv_aload_n hx hb dX13_print_4 rfl (lv_at hl 0 rfl) ?_
  refine lv_aload_n hx hb dX13_print_5 rfl (lv_at hl 0 rfl) ?_
  refine z_calli (z_runV (rest := [.ref m0]) (As := []) (n := 0) (ci := 16) hC hZ (met_X13_doPrint l D cs A m0 ad (upN v 6 0) (upG g 1 (cpI (g 0) (g 1) 0 0 2439))   N c0 hD hok_2 hR hK hN) gv_X13_197 hd_X13_doPrint rfl mW_o rfl hl rfl (Nat.le_of_ble_eq_true rfl) ⟨Nat.le_of_ble_eq_true rfl, Nat.le_of_ble_eq_true rfl⟩ ⟨Nat.le_of_ble_eq_true rfl, Nat.le_of_ble_eq_true rfl⟩ dX13_print_6) hZ (fun r6 _ H locs hp_3 hZ => ?_)
  obtain ⟨v_5, g_6, rfl, hok_4, hdo⟩ := hp_3
  have h5b : 0 ≤ v_5 5 ∧ v_5 5 ≤ 8 := by
    have hh1 := hH.1
    have hh2 := hH.2.1
    rcases hdo with ⟨-, hh, -, -⟩ | ⟨-, hh, -, -⟩
    · rw [← hh, upN_n (by decide), upN_n (by decide)]; omega
    · rw [hh 5 (by decide)]; show 0 ≤ v 5 ∧ v 5 ≤ 8; omega
  have hrr : InR r6 := by
    rcases hdo with ⟨-, -, -, hh⟩ | ⟨hq0, -, -, -, hh⟩
    · rw [← hh]; decide
    · rw [← hh]; exact hRA hq0
  refine z_calli (z_runV (rest := []) (As := [.int (iI r6)]) (n := 1) (ci := 16) hC hZ (met_X13_ends l D cs A m0 ad v_5 g_6 r6  hD hok_4 hrr h5b) gv_X13_100 hd_X13_ends rfl mW_o rfl hl rfl (Nat.le_of_ble_eq_true rfl) ⟨Nat.le_of_ble_eq_true rfl, Nat.le_of_ble_eq_true rfl⟩ ⟨Nat.le_of_ble_eq_true rfl, Nat.le_of_ble_eq_true rfl⟩ dX13_print_9) hZ (fun r9 _ H locs hp_7 hZ => ?_)
  obtain ⟨v_9, g_10, rfl, hok_8, hen⟩ := hp_7
  exact z_iret hC hr hlk hZ (by decide) (by decide) (⟨_, _, rfl, hok_8, mTop_of hR hK hH hHK (sPrt_p _) hdo rfl rfl hen⟩) dX13_print_12

