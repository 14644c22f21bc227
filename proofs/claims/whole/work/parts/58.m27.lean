theorem mEx_fail {N : Nat} {v2 v1 : Nat → Int} {g g2 g1 : Nat → Int → Int} {x r : Int} {c0 : zCo} (hR : mR (g 0) c0) (hK : cOK N c0) (e1 : g2 1 = cpI (g 0) (g 1) 0 0 2439) (h6 : v2 6 > 0) (he : mEn v2 g2 x r v1 g1) : v2 = v1 ∧ mR (g1 0) c0 ∧ ∀ j, j ≠ 0 → g1 j = g2 j := by
  rcases he with ⟨-, rfl, rfl, -⟩ | ⟨z, -⟩ | ⟨z, -⟩
  · refine ⟨rfl, ?_, fun j hj => upG_n hj⟩
    rw [upG_s]
    refine mR_cong hR hK (fun k h1 h2 => ?_)
    rw [cpI_in (by omega), e1, cpI_in (by omega)]
    congr 1
    omega
  · omega
  · omega
/-- the end of execute: which exception, the answer, what was kept -/
def mExe (v : Nat → Int) (g : Nat → Int → Int) (r : Int) (v1 : Nat → Int) (g1 : Nat → Int → Int) (c0 : zCo) (hs : List zCo) (q : (Int × zCo × Int) × Int × Int) : Prop :=
  v1 6 = q.1.1 ∧ (q.1.1 = 0 → r = q.1.2.2) ∧ v1 17 = 0 ∧ v1 20 = q.2.1 ∧ v1 21 = q.2.2 ∧ mR (g1 0) (if q.1.1 = 0 then q.1.2.1 else c0) ∧ mHi v1 g1 (if q.1.1 = 0 then pushH hs c0 else hs) ∧
  (∀ k, k ≠ 5 → k ≠ 6 → k ≠ 12 → k ≠ 17 → k ≠ 18 → k ≠ 19 → k ≠ 20 → k ≠ 21 → k ≠ 23 → v1 k = v k) ∧ (∀ j, j ≠ 0 → j ≠ 1 → j ≠ 4 → j ≠ 9 → j ≠ 10 → j ≠ 11 → j ≠ 22 → g1 j = g j)
theorem sExe_l {c : zCo} {inp : List Int} {er fa p : Int} (h : zparse inp = .inl p) : sExe c inp er fa = ((1, c, 0), p, fa) := by
  unfold sExe; rw [h]
theorem sExe_f {c : zCo} {inp : List Int} {er fa : Int} {cs : List zCm} {k : Nat} (h : zparse inp = .inr cs) (hr : zrun cs c 0 = .inl k) : sExe c inp er fa = ((2, c, 0), er, (k : Int)) := by
  unfold sExe; rw [h]; simp only []; rw [hr]
theorem sExe_r {c c' : zCo} {inp : List Int} {er fa : Int} {cs : List zCm} (h : zparse inp = .inr cs) (hr : zrun cs c 0 = .inr c') : sExe c inp er fa = ((0, c', (cs.length : Int)), er, fa) := by
  unfold sExe; rw [h]; simp only []; rw [hr]
set_option maxHeartbeats 4000000 in
set_option maxRecDepth 100000 in
theorem met_X13_execute (l : Launch) (D : va_G) (cs : Nat → ClassId) (A : Nat → Prop) (m0 : Nat) (ad : Nat → Nat) (v : Nat → Int) (g : Nat → Int → Int)  (inp : List Int) (hs : List zCo) (N : Nat) (c0 : zCo) (hD : mD m0 ad) (hok : mOK v g) (hR : mR (g 0) c0) (hK : cOK N c0) (hN : N ≤ 900) (hI : mI v g inp) (h20 : InR (v 20)) (hH : mHi v g hs) (hHK : ∀ h ∈ hs, cOK N h) : zM l D cs A yX13_execute cX13_execute 2 (some FieldType.int) 9 0 0 [.ref m0] (mW cs m0 ad v g) (mP cs m0 ad (fun r v1 g1 => mExe v g r v1 g1 c0 hs (sExe c0 inp (v 20) (v 21)))) := by
  refine zM_of (own := RX13) (by decide) rfl (Nat.le_of_ble_eq_true rfl) ?_
  intro p e s m below meth c hC hr hlk hnm hZ ls hl
  have hx := hC.x
  have hb := hC.b
  have hl : lv_has ls 2 [(0, .ref m0)] := hl
  have h17 := hI.1
  have h60 := hI.2.2.1
  refine lv_aload_n hx hb dX13_execute_0 rfl (lv_at hl 0 rfl) ?_
  refine z_iconst hx hb dX13_execute_1 ?_
  refine m_put hC hZ 18 (ty := .int) (by decide) ql_X13_235 rfl rfl rfl (Or.inl rfl) rfl dX13_execute_2 (fun H locs hZ => ?_)
  have hok_1 := hok.v (k := 18) (x := 0) (by decide)
  refine lv_aload_n hx hb dX13_execute_5 rfl (lv_at hl 0 rfl) ?_
  refine z_iconst hx hb dX13_execute_6 ?_
  refine m_put hC hZ 19 (ty := .boolean) (by decide) ql_X13_242 rfl rfl rfl (Or.inr ⟨rfl, (by decide)⟩) rfl dX13_execute_7 (fun H locs hZ => ?_)
  have hok_2 := hok_1.v (k := 19) (x := 0) (by decide)
  refine lv_aload_n hx hb dX13_execute_10 rfl (lv_at hl 0 rfl) ?_
  refine z_iconst hx hb dX13_execute_11 ?_
  refine m_put hC hZ 23 (ty := .int) (by decide) ql_X13_261 rfl rfl rfl (Or.inl rfl) rfl dX13_execute_12 (fun H locs hZ => ?_)
  have hok_3 := hok_2.v (k := 23) (x := 0) (by decide)
  refine lv_aload_n hx hb dX13_execute_15 rfl (lv_at hl 0 rfl) ?_
  refine z_callv (z_runV (rest := []) (As := []) (n := 0) (ci := 16) hC hZ (met_X13_readCommand l D cs A m0 ad (upN (upN (upN v 18 0) 19 0) 23 0) g inp hD hok_3 (mI_of hI rfl rfl) (by show 0 ≤ (0 : Int) ∧ (0 : Int) ≤ (inp.length : Int); omega) (Or.inl rfl) (by show 0 ≤ (0 : Int) ∧ (0 : Int) ≤ 11; decide)) gv_X13_280 hd_X13_readCommand rfl mW_o rfl hl rfl (Nat.le_of_ble_eq_true rfl) ⟨Nat.le_of_ble_eq_true rfl, Nat.le_of_ble_eq_true rfl⟩ ⟨Nat.le_of_ble_eq_true rfl, Nat.le_of_ble_eq_true rfl⟩ dX13_execute_16) hZ (fun _ H locs hp16 hZ => ?_)
  obtain ⟨v_5, g_6, rfl, hok_4, hrc⟩ := hp16
  have hz0 := zcmd_ok (inp := inp) (a := 0) (by decide) (by omega)
  obtain ⟨hA0, hA1, hA2, hA3⟩ : (∀ k, k ≠ 18 → k ≠ 19 → k ≠ 23 → v_5 k = v k) ∧ (∀ j, j ≠ 22 → g_6 j = g j) ∧ (0 ≤ v_5 18 ∧ v_5 18 ≤ inp.length) ∧ ((v_5 19 = 1 ∧ (zread inp 61 0).1 = true ∧ (zread inp 61 0).2.1 = v_5 18) ∨ (v_5 19 = 0 ∧ zsofar inp [(zcmd inp 0).2.2] (v_5 18) ∧ zcrows (g_6 22) [(zcmd inp 0).2.2] ∧ v_5 23 = ([(zcmd inp 0).2.2] : List zCm).length)) := by
    rcases hrc with ⟨z, -, -⟩ | ⟨-, a1, a2, a3, a4, a5, a6, a7⟩
    · exact absurd (show (0 : Int) = 1 from z) (by decide)
    · replace a3 : v_5 18 = (zcmd inp 0).2.1 := a3
      replace a4 : v_5 19 = b2i (zcmd inp 0).1 := a4
      replace a5 : v_5 23 = 0 + 1 := a5
      replace a7 : (zcmd inp 0).1 = false → zcrow (g_6 22) 0 (zcmd inp 0).2.2 := a7
      refine ⟨fun k h1 h2 h3 => (a1 k h1 h2 h3).trans (by rw [upN_n h3, upN_n h2, upN_n h1]), a2, by rw [a3]; exact ⟨hz0.1, hz0.2.1⟩, ?_⟩
      cases hb : (zcmd inp 0).1 with
      | true =>
        left
        rw [hb] at a4
        obtain ⟨y1, y2⟩ := zparse_w1 hb
        exact ⟨a4, y1, y2.trans a3.symm⟩
      | false =>
        right
        rw [hb] at a4
        refine ⟨a4, by rw [a3]; exact zsofar_1 hb, fun k q hq => ?_, a5⟩
        have hl := (List.getElem?_eq_some_iff.mp hq).1
        rw [List.length_singleton] at hl
        obtain rfl : k = 0 := by omega
        simp at hq
        subst hq
        exact a7 hb
  have L19_k_7 : ∀ (fu : Nat)  (v2 : Nat → Int) (g2 : Nat → Int → Int) (cs2 : List zCm) (hfu : ((inp.length : Int) + 1 - v2 18).toNat < fu) (hi19_0 : ∀ k, k ≠ 18 → k ≠ 19 → k ≠ 23 → v2 k = v k) (hi19_1 : ∀ j, j ≠ 22 → g2 j = g j) (hi19_2 : 0 ≤ v2 18 ∧ v2 18 ≤ inp.length) (hi19_3 : (v2 19 = 1 ∧ (zread inp 61 0).1 = true ∧ (zread inp 61 0).2.1 = v2 18) ∨ (v2 19 = 0 ∧ zsofar inp cs2 (v2 18) ∧ zcrows (g2 22) cs2 ∧ v2 23 = cs2.length)) (hw : mOK v2 g2) (H : Heap) (locs : List Loc) (hZ : zS D A s (mW cs m0 ad v2 g2) H locs) (ls : Array Slot) (hl : lv_has ls 2 [(0, .ref m0)]), W p l e (zR 9 0 0) s m [.ref m0].toArray below meth c H locs 0 0 (MQ below (zQ D A (mP cs m0 ad (fun r v1 g1 => mExe v g r v1 g1 c0 hs (sExe c0 inp (v 20) (v 21))))) [.ref m0].toArray s 0 0 A) (F0 m 19 ls []) := by
    intro fu
    induction fu with
    | zero =>
      intro  v2 g2 cs2 hfu
      exact absurd hfu (Nat.not_lt_zero _)
    | succ fu ih19 =>
      intro  v2 g2 cs2 hfu hi19_0 hi19_1 hi19_2 hi19_3 hw H locs hZ ls hl
      have hfv := hi19_0
      have hfg := hi19_1
      have hI2 : mI v2 g2 inp := mI_of hI (hfv 17 (by decide) (by decide) (by decide)) (hfg 16 (by decide))
      have h192 : v2 19 = 0 ∨ v2 19 = 1 := by rcases hi19_3 with ⟨z, -⟩ | ⟨z, -⟩ <;> omega
      have hr20 := hw.1 20
      have h17b := hI2.1
      have h20v := hfv 20 (by decide) (by decide) (by decide)
      refine lv_aload_n hx hb dX13_execute_19 rfl (lv_at hl 0 rfl) ?_
      refine m_get hC hZ 19 (x := .int (iI (v2 19))) rfl (by decide) ql_X13_242 rfl dX13_execute_20 ?_
      have hr_8 : -2147483648 ≤ v2 19 ∧ v2 19 ≤ 2147483647 := hw.1 19
      refine z_if_ne (tgt := 53) hx hb dX13_execute_23 (by decide) (by omega) (fun c_9 => ?_) (fun c_9 => ?_)
      · skip
        have hzp : zparse inp = .inl (v2 18) := by
          rcases hi19_3 with ⟨-, z2, z3⟩ | ⟨z, -⟩
          · exact zparse_w z2 z3
          · omega
        refine lv_aload_n hx hb dX13_execute_53 rfl (lv_at hl 0 rfl) ?_
        refine lv_aload_n hx hb dX13_execute_54 rfl (lv_at hl 0 rfl) ?_
        refine m_get hC hZ 19 (x := .int (iI (v2 19))) rfl (by decide) ql_X13_242 rfl dX13_execute_55 ?_
        have hr_10 : -2147483648 ≤ v2 19 ∧ v2 19 ≤ 2147483647 := hw.1 19
        refine z_if_ne (tgt := 72) hx hb dX13_execute_58 (by decide) (by omega) (fun c_11 => ?_) (fun c_11 => ?_)
        · skip
          refine z_iconst hx hb dX13_execute_72 ?_
          refine lv_goto (tgt := 77) hx hb dX13_execute_73 (by decide) ?_
          refine m_put hC hZ 19 (ty := .boolean) (by decide) ql_X13_242 rfl rfl rfl (Or.inr ⟨rfl, (by decide)⟩) rfl dX13_execute_77 (fun H locs hZ => ?_)
          have hok_12 := hw.v (k := 19) (x := 1) (by decide)
          refine lv_aload_n hx hb dX13_execute_80 rfl (lv_at hl 0 rfl) ?_
          refine lv_aload_n hx hb dX13_execute_81 rfl (lv_at hl 0 rfl) ?_
          refine m_get hC hZ 19 (x := .int (iI 1)) rfl (by decide) ql_X13_242 rfl dX13_execute_82 ?_
          refine z_if_eq (tgt := 95) hx hb dX13_execute_85 (by decide) (by decide) (fun c_13 => ?_) (fun c_13 => ?_)
          · skip
            exfalso; omega
          · skip
            refine lv_aload_n hx hb dX13_execute_88 rfl (lv_at hl 0 rfl) ?_
            refine m_get hC hZ 18 (x := .int (iI (v2 18))) rfl (by decide) ql_X13_235 rfl dX13_execute_89 ?_
            refine lv_goto (tgt := 99) hx hb dX13_execute_92 (by decide) ?_
            refine m_put hC hZ 20 (ty := .int) (by decide) ql_X13_45 rfl rfl rfl (Or.inl rfl) rfl dX13_execute_99 (fun H locs hZ => ?_)
            have hok_14 := hok_12.v (k := 20) (x := v2 18) (by omega)
            refine lv_aload_n hx hb dX13_execute_102 rfl (lv_at hl 0 rfl) ?_
            refine z_iconst hx hb dX13_execute_103 ?_
            refine m_put hC hZ 17 (ty := .int) (by decide) ql_X13_232 rfl rfl rfl (Or.inl rfl) rfl dX13_execute_104 (fun H locs hZ => ?_)
            have hok_15 := hok_14.v (k := 17) (x := 0) (by decide)
            refine lv_aload_n hx hb dX13_execute_107 rfl (lv_at hl 0 rfl) ?_
            refine m_get hC hZ 19 (x := .int (iI 1)) rfl (by decide) ql_X13_242 rfl dX13_execute_108 ?_
            refine z_if_eq (tgt := 120) hx hb dX13_execute_111 (by decide) (by decide) (fun c_16 => ?_) (fun c_16 => ?_)
            · skip
              exfalso; omega
            · skip
              refine lv_aload_n hx hb dX13_execute_114 rfl (lv_at hl 0 rfl) ?_
              refine z_iconst hx hb dX13_execute_115 ?_
              refine z_calli (z_runV (rest := []) (As := [.int (iI 1)]) (n := 1) (ci := 16) hC hZ (met_X13_fails l D cs A m0 ad (upN (upN (upN v2 19 1) 20 (v2 18)) 17 0) g2 1  hD hok_15 (by decide)) gv_X13_82 hd_X13_fails rfl mW_o rfl hl rfl (Nat.le_of_ble_eq_true rfl) ⟨Nat.le_of_ble_eq_true rfl, Nat.le_of_ble_eq_true rfl⟩ ⟨Nat.le_of_ble_eq_true rfl, Nat.le_of_ble_eq_true rfl⟩ dX13_execute_116) hZ (fun r116 _ H locs hp_17 hZ => ?_)
              obtain ⟨_, _, rfl, hok_18, rfl, rfl, rfl⟩ := hp_17
              exact z_iret hC hr hlk hZ (by decide) (by decide) (⟨_, _, rfl, hok_18, by
                  unfold mExe
                  rw [sExe_l hzp]
                  refine ⟨rfl, fun z => absurd (show (1 : Int) = 0 from z) (by decide), rfl, rfl, hfv 21 (by decide) (by decide) (by decide), ?_, ⟨?_, hH.2.1, fun j h hj => ?_⟩, fun k h5 h6 h12 h17 h18 h19 h20 h21 h23 => ?_, fun j h0 h1 h4 h9 h10 h11 h22 => hfg j h22⟩
                  · rw [if_neg (show ¬ (1 : Int) = 0 by decide), hfg 0 (by decide)]; exact hR
                  · rw [if_neg (show ¬ (1 : Int) = 0 by decide)]; exact (hfv 5 (by decide) (by decide) (by decide)).trans hH.1
                  · rw [if_neg (show ¬ (1 : Int) = 0 by decide)] at hj; rw [hfg 4 (by decide)]; exact hH.2.2 j h hj
                  · rw [upN_n h6, upN_n h17, upN_n h20, upN_n h19]; exact hfv k h18 h19 h23⟩) dX13_execute_119
        · skip
          exfalso; omega
      · skip
        obtain ⟨hso, hrows, hn23⟩ : zsofar inp cs2 (v2 18) ∧ zcrows (g2 22) cs2 ∧ v2 23 = cs2.length := by
          rcases hi19_3 with ⟨z, -⟩ | ⟨-, z⟩
          · omega
          · exact z
        refine lv_aload_n hx hb dX13_execute_26 rfl (lv_at hl 0 rfl) ?_
        refine z_iconst hx hb dX13_execute_27 ?_
        refine z_calli (z_runV (rest := []) (As := [.int (iI 0)]) (n := 1) (ci := 16) hC hZ (met_X13_behind l D cs A m0 ad v2 g2 0 inp hD hw hI2 hi19_2 (by decide)) gv_X13_246 hd_X13_behind rfl mW_o rfl hl rfl (Nat.le_of_ble_eq_true rfl) ⟨Nat.le_of_ble_eq_true rfl, Nat.le_of_ble_eq_true rfl⟩ ⟨Nat.le_of_ble_eq_true rfl, Nat.le_of_ble_eq_true rfl⟩ dX13_execute_28) hZ (fun r28 _ H locs hp_19 hZ => ?_)
        obtain ⟨_, _, rfl, _, rfl, rfl, rfl⟩ := hp_19
        refine z_top (y := bh inp (v2 18)) (congrArg (bh inp) (Int.add_zero _)) ?_
        have hbr_20 := bh_rng hI.2.2 (v2 18) (by omega)
        refine z_bipush hx hb dX13_execute_31 (by decide) ?_
        refine z_icmp_ne (tgt := 53) hx hb dX13_execute_33 (by decide) (by omega) (by decide) (fun c_21 => ?_) (fun c_21 => ?_)
        · skip
          have hzp0 := zsofar_e hso (by omega)
          refine lv_aload_n hx hb dX13_execute_53 rfl (lv_at hl 0 rfl) ?_
          refine lv_aload_n hx hb dX13_execute_54 rfl (lv_at hl 0 rfl) ?_
          refine m_get hC hZ 19 (x := .int (iI (v2 19))) rfl (by decide) ql_X13_242 rfl dX13_execute_55 ?_
          have hr_22 : -2147483648 ≤ v2 19 ∧ v2 19 ≤ 2147483647 := hw.1 19
          refine z_if_ne (tgt := 72) hx hb dX13_execute_58 (by decide) (by omega) (fun c_23 => ?_) (fun c_23 => ?_)
          · skip
            exfalso; omega
          · skip
            refine lv_aload_n hx hb dX13_execute_61 rfl (lv_at hl 0 rfl) ?_
            refine m_get hC hZ 18 (x := .int (iI (v2 18))) rfl (by decide) ql_X13_235 rfl dX13_execute_62 ?_
            have hr_24 : -2147483648 ≤ v2 18 ∧ v2 18 ≤ 2147483647 := hw.1 18
            refine lv_aload_n hx hb dX13_execute_65 rfl (lv_at hl 0 rfl) ?_
            refine m_get hC hZ 17 (x := .int (iI (v2 17))) rfl (by decide) ql_X13_232 rfl dX13_execute_66 ?_
            have hr_25 : -2147483648 ≤ v2 17 ∧ v2 17 ≤ 2147483647 := hw.1 17
            refine z_icmp_ge (tgt := 76) hx hb dX13_execute_69 (by decide) (by omega) (by omega) (fun c_26 => ?_) (fun c_26 => ?_)
            · skip
              have hzp : zparse inp = .inr cs2 := by rw [hzp0, if_neg (by omega)]
              refine z_iconst hx hb dX13_execute_76 ?_
              refine m_put hC hZ 19 (ty := .boolean) (by decide) ql_X13_242 rfl rfl rfl (Or.inr ⟨rfl, (by decide)⟩) rfl dX13_execute_77 (fun H locs hZ => ?_)
              have hok_27 := hw.v (k := 19) (x := 0) (by decide)
              refine lv_aload_n hx hb dX13_execute_80 rfl (lv_at hl 0 rfl) ?_
              refine lv_aload_n hx hb dX13_execute_81 rfl (lv_at hl 0 rfl) ?_
              refine m_get hC hZ 19 (x := .int (iI 0)) rfl (by decide) ql_X13_242 rfl dX13_execute_82 ?_
              refine z_if_eq (tgt := 95) hx hb dX13_execute_85 (by decide) (by decide) (fun c_28 => ?_) (fun c_28 => ?_)
              · skip
                refine lv_aload_n hx hb dX13_execute_95 rfl (lv_at hl 0 rfl) ?_
                refine m_get hC hZ 20 (x := .int (iI (v2 20))) rfl (by decide) ql_X13_45 rfl dX13_execute_96 ?_
                refine m_put hC hZ 20 (ty := .int) (by decide) ql_X13_45 rfl rfl rfl (Or.inl rfl) rfl dX13_execute_99 (fun H locs hZ => ?_)
                have hok_29 := hok_27.v (k := 20) (x := v2 20) (by omega)
                refine lv_aload_n hx hb dX13_execute_102 rfl (lv_at hl 0 rfl) ?_
                refine z_iconst hx hb dX13_execute_103 ?_
                refine m_put hC hZ 17 (ty := .int) (by decide) ql_X13_232 rfl rfl rfl (Or.inl rfl) rfl dX13_execute_104 (fun H locs hZ => ?_)
                have hok_30 := hok_29.v (k := 17) (x := 0) (by decide)
                refine lv_aload_n hx hb dX13_execute_107 rfl (lv_at hl 0 rfl) ?_
                refine m_get hC hZ 19 (x := .int (iI 0)) rfl (by decide) ql_X13_242 rfl dX13_execute_108 ?_
                refine z_if_eq (tgt := 120) hx hb dX13_execute_111 (by decide) (by decide) (fun c_31 => ?_) (fun c_31 => ?_)
                · skip
                  refine lv_aload_n hx hb dX13_execute_120 rfl (lv_at hl 0 rfl) ?_
                  refine z_callv (z_runV (rest := []) (As := []) (n := 0) (ci := 16) hC hZ (met_X13_keep l D cs A m0 ad (upN (upN (upN v2 19 0) 20 (v2 20)) 17 0) g2   hD hok_30 ) gv_X13_94 hd_X13_keep rfl mW_o rfl hl rfl (Nat.le_of_ble_eq_true rfl) ⟨Nat.le_of_ble_eq_true rfl, Nat.le_of_ble_eq_true rfl⟩ ⟨Nat.le_of_ble_eq_true rfl, Nat.le_of_ble_eq_true rfl⟩ dX13_execute_121) hZ (fun _ H locs hp_32 hZ => ?_)
                  obtain ⟨_, _, rfl, hok_33, rfl, rfl⟩ := hp_32
                  obtain ⟨vK, hvK⟩ : ∃ x : Nat → Int, x = upN (upN (upN (upN v2 19 0) 20 (v2 20)) 17 0) 6 0 := ⟨_, rfl⟩
                  obtain ⟨gK, hgK⟩ : ∃ x : Nat → Int → Int, x = upG g2 1 (cpI (g2 0) (g2 1) 0 0 2439) := ⟨_, rfl⟩
                  rw [← hvK, ← hgK] at hZ hok_33
                  have k6 : vK 6 = 0 := by rw [hvK]; rfl
                  have k17 : vK 17 = 0 := by rw [hvK]; rfl
                  have k20 : vK 20 = v 20 := by rw [hvK]; exact hfv 20 (by decide) (by decide) (by decide)
                  have kfr : ∀ k, k ≠ 6 → k ≠ 17 → k ≠ 18 → k ≠ 19 → k ≠ 20 → k ≠ 23 → vK k = v k := fun k h6 h17 h18 h19 h20 h23 => by rw [hvK, upN_n h6, upN_n h17, upN_n h20, upN_n h19]; exact hfv k h18 h19 h23
                  have k5 : vK 5 = v 5 := kfr 5 (by decide) (by decide) (by decide) (by decide) (by decide) (by decide)
                  have k23 : vK 23 = cs2.length := by rw [hvK]; exact hn23
                  have k1 : gK 1 = cpI (g 0) (g 1) 0 0 2439 := by rw [hgK, upG_s, hfg 0 (by decide), hfg 1 (by decide)]
                  have kg : ∀ j, j ≠ 1 → j ≠ 22 → gK j = g j := fun j h1 h22 => by rw [hgK, upG_n h1]; exact hfg j h22
                  have k22 : zcrows (gK 22) cs2 := by rw [hgK, upG_n (by decide)]; exact hrows
                  have k0 : mR (gK 0) c0 := by rw [kg 0 (by decide) (by decide)]; exact hR
                  have hH1 := hH.1
                  have hH2 := hH.2.1
                  have hcs10 : cs2.length ≤ 10 := by have := hso.1; omega
                  refine z_iconst hx hb dX13_execute_124 ?_
                  refine lv_istore_n (lv' := [(1, .int (iI 0)), (0, .ref m0)]) hx hb dX13_execute_125 rfl hl (by decide) rfl (fun ls hl => ?_)
                  have L126_k_34 : ∀ (fu : Nat) (k_ : Int) (v4 : Nat → Int) (g4 : Nat → Int → Int) (ck : zCo) (hfu : ((cs2.length : Int) - k_).toNat < fu) (hi126_0 : 0 ≤ k_ ∧ k_ ≤ cs2.length) (hi126_1 : ∀ k, k ≠ 12 → v4 k = vK k) (hi126_2 : ∀ j, j ≠ 0 → j ≠ 9 → j ≠ 10 → j ≠ 11 → g4 j = gK j) (hi126_3 : mR (g4 0) ck) (hi126_4 : zrun (cs2.drop k_.toNat) ck k_.toNat = zrun cs2 c0 0) (hi126_5 : cOKj N k_.toNat ck) (hw4 : mOK v4 g4) (H : Heap) (locs : List Loc) (hZ : zS D A s (mW cs m0 ad v4 g4) H locs) (ls : Array Slot) (hl : lv_has ls 2 [(1, .int (iI k_)), (0, .ref m0)]), W p l e (zR 9 0 0) s m [.ref m0].toArray below meth c H locs 0 0 (MQ below (zQ D A (mP cs m0 ad (fun r v1 g1 => mExe v g r v1 g1 c0 hs (sExe c0 inp (v 20) (v 21))))) [.ref m0].toArray s 0 0 A) (F0 m 126 ls []) := by
                    intro fu
                    induction fu with
                    | zero =>
                      intro k_ v4 g4 ck hfu
                      exact absurd hfu (Nat.not_lt_zero _)
                    | succ fu ih126 =>
                      intro k_ v4 g4 ck hfu hi126_0 hi126_1 hi126_2 hi126_3 hi126_4 hi126_5 hw4 H locs hZ ls hl
                      have h23k : v4 23 = cs2.length := (hi126_1 23 (by decide)).trans k23
                      refine lv_iload_n hx hb dX13_execute_126 rfl (lv_at hl 0 rfl) ?_
                      refine lv_aload_n hx hb dX13_execute_127 rfl (lv_at hl 1 rfl) ?_
                      refine m_get hC hZ 23 (x := .int (iI (v4 23))) rfl (by decide) ql_X13_261 rfl dX13_execute_128 ?_
                      have hr_35 : -2147483648 ≤ v4 23 ∧ v4 23 ≤ 2147483647 := hw4.1 23
                      refine z_icmp_ge (tgt := 167) hx hb dX13_execute_131 (by decide) (by omega) (by omega) (fun c_36 => ?_) (fun c_36 => ?_)
                      · skip
                        have h5e : 0 ≤ v4 5 ∧ v4 5 ≤ 8 := by have := hi126_1 5 (by decide); omega
                        refine lv_aload_n hx hb dX13_execute_167 rfl (lv_at hl 1 rfl) ?_
                        refine lv_aload_n hx hb dX13_execute_168 rfl (lv_at hl 1 rfl) ?_
                        refine m_get hC hZ 23 (x := .int (iI (v4 23))) rfl (by decide) ql_X13_261 rfl dX13_execute_169 ?_
                        have hr_37 : -2147483648 ≤ v4 23 ∧ v4 23 ≤ 2147483647 := hw4.1 23
                        refine z_calli (z_runV (rest := []) (As := [.int (iI (v4 23))]) (n := 1) (ci := 16) hC hZ (met_X13_ends l D cs A m0 ad v4 g4 (v4 23)  hD hw4 (by omega) h5e) gv_X13_100 hd_X13_ends rfl mW_o rfl hl rfl (Nat.le_of_ble_eq_true rfl) ⟨Nat.le_of_ble_eq_true rfl, Nat.le_of_ble_eq_true rfl⟩ ⟨Nat.le_of_ble_eq_true rfl, Nat.le_of_ble_eq_true rfl⟩ dX13_execute_172) hZ (fun r172 _ H locs hp_38 hZ => ?_)
                        obtain ⟨v_40, g_41, rfl, hok_39, hen⟩ := hp_38
                        exact z_iret hC hr hlk hZ (by decide) (by decide) (⟨_, _, rfl, hok_39, by
                            have hrd : zrun cs2 c0 0 = .inr ck := by rw [← hi126_4, zrun_e (by omega)]
                            have hz := sExe_r (c := c0) (er := v 20) (fa := v 21) hzp hrd
                            have e1 : g4 1 = cpI (g 0) (g 1) 0 0 2439 := (hi126_2 1 (by decide) (by decide) (by decide) (by decide)).trans k1
                            have e4 : g4 4 = g 4 := (hi126_2 4 (by decide) (by decide) (by decide) (by decide)).trans (kg 4 (by decide) (by decide))
                            have hd : mDo (upN vK 6 0) (upG g 1 (cpI (g 0) (g 1) 0 0 2439)) (cs2.length : Int) v4 (upG (upG g 0 (g4 0)) 1 (g4 1)) (0, ck, (cs2.length : Int)) (upN vK 6 0) := by
                              refine Or.inr ⟨rfl, fun k hk => ?_, fun j h0 _ _ _ => ?_, ?_, rfl⟩
                              · by_cases z : k = 6
                                · subst z; rw [upN_s]; exact (hi126_1 6 (by decide)).trans k6
                                · rw [upN_n z]; exact hi126_1 k hk
                              · by_cases z : j = 1
                                · subst z; rw [upG_s, upG_s]; exact e1
                                · rw [upG_n z, upG_n z, upG_n h0]
                              · rw [upG_n (by decide), upG_s]; exact hi126_3
                            unfold mExe
                            rw [hz]
                            have h23e : v4 23 = cs2.length := (hi126_1 23 (by decide)).trans k23
                            have h6e : v4 6 = 0 := (hi126_1 6 (by decide)).trans k6
                            have h5v : v4 5 = v 5 := (hi126_1 5 (by decide)).trans k5
                            have hvk : ∀ k, k ≠ 5 → k ≠ 12 → v_40 k = vK k := by
                              rcases hen with ⟨z, -⟩ | ⟨-, -, rfl, -, -⟩ | ⟨-, -, rfl, -, -⟩
                              · omega
                              · exact fun k h5 h12 => (upN_n h5).trans (hi126_1 k h12)
                              · exact fun k h5 h12 => (upN_n h5).trans (hi126_1 k h12)
                            have hrr : r172 = cs2.length := by
                              rcases hen with ⟨z, -⟩ | ⟨-, -, -, -, z⟩ | ⟨-, -, -, -, z⟩ <;> omega
                            have hgj : ∀ j, j ≠ 4 → g_41 j = g4 j := by
                              rcases hen with ⟨z, -⟩ | ⟨-, -, -, rfl, -⟩ | ⟨-, -, -, rfl, -⟩
                              · omega
                              · exact fun j hj => upG_n hj
                              · exact fun j hj => upG_n hj
                            have hhist : mHi v_40 g_41 (pushH hs c0) := by
                              have hen2 : mEn v4 (upG (upG g 0 (g4 0)) 1 (g4 1)) (cs2.length : Int) (cs2.length : Int) v_40 (upG (upG (upG g 0 (g4 0)) 1 (g4 1)) 4 (g_41 4)) := by
                                rcases hen with ⟨z, -⟩ | ⟨a1, a2, a3, a4, a5⟩ | ⟨a1, a2, a3, a4, a5⟩
                                · omega
                                · exact Or.inr (Or.inl ⟨a1, a2, a3, by rw [← a4, upG_s, upG_s, upG_n (j := 4) (by decide), upG_n (j := 4) (by decide), e4], rfl⟩)
                                · exact Or.inr (Or.inr ⟨a1, a2, a3, by rw [← a4, upG_s, upG_s, upG_n (j := 4) (by decide), upG_n (j := 4) (by decide), e4], rfl⟩)
                              have ht := mTop_of (v := vK) (g := g) hR hK ⟨k5.trans hH.1, hH.2.1, hH.2.2⟩ hHK (by exact Int.le_refl 0) hd rfl rfl hen2
                              have h4 := ht.2.2.2.1
                              rw [if_pos rfl] at h4
                              refine ⟨h4.1, h4.2.1, fun j h hj => ?_⟩
                              have := h4.2.2 j h hj
                              rw [upG_s] at this
                              exact this
                            refine ⟨(hvk 6 (by decide) (by decide)).trans k6, fun _ => hrr, (hvk 17 (by decide) (by decide)).trans k17, (hvk 20 (by decide) (by decide)).trans k20, (hvk 21 (by decide) (by decide)).trans (kfr 21 (by decide) (by decide) (by decide) (by decide) (by decide) (by decide)), ?_, ?_, fun k h5 h6 h12 h17 h18 h19 h20 h21 h23 => (hvk k h5 h12).trans (kfr k h6 h17 h18 h19 h20 h23), fun j h0 h1 h4 h9 h10 h11 h22 => (hgj j h4).trans ((hi126_2 j h0 h9 h10 h11).trans (kg j h1 h22))⟩
                            · rw [if_pos rfl, hgj 0 (by decide)]; exact hi126_3
                            · rw [if_pos rfl]; exact hhist⟩) dX13_execute_175
                      · skip
                        obtain ⟨qk, hqk⟩ : ∃ q, cs2[k_.toNat]? = some q := ⟨_, List.getElem?_eq_getElem (by omega)⟩
                        have hRk := hi126_3
                        have hKk := hi126_5
                        have hrd := hi126_4
                        rw [zrun_d hqk] at hrd
                        have hks : (k_ + 1).toNat = k_.toNat + 1 := by omega
                        have hcmk := hso.2.2.1 qk (List.mem_of_getElem? hqk)
                        have hcrk : zcrow (g4 22) k_ qk := by
                          rw [hi126_2 22 (by decide) (by decide) (by decide) (by decide)]
                          have := k22 _ _ hqk
                          rw [show ((k_.toNat : Nat) : Int) = k_ by omega] at this
                          exact this
                        refine lv_aload_n hx hb dX13_execute_134 rfl (lv_at hl 1 rfl) ?_
                        refine lv_iload_n hx hb dX13_execute_135 rfl (lv_at hl 0 rfl) ?_
                        refine z_callv (z_runV (rest := []) (As := [.int (iI k_)]) (n := 1) (ci := 16) hC hZ (met_X13_does l D cs A m0 ad v4 g4 k_ qk (N + 1) ck hD hw4 hRk (hKk.1) (by omega) (by omega) hcrk hcmk) gv_X13_283 hd_X13_does rfl mW_o rfl hl rfl (Nat.le_of_ble_eq_true rfl) ⟨Nat.le_of_ble_eq_true rfl, Nat.le_of_ble_eq_true rfl⟩ ⟨Nat.le_of_ble_eq_true rfl, Nat.le_of_ble_eq_true rfl⟩ dX13_execute_136) hZ (fun _ H locs hp136 hZ => ?_)
                        obtain ⟨v_43, g_44, rfl, hok_42, rq, hdo⟩ := hp136
                        rcases hdo with ⟨q0, hv5, hg5, -⟩ | ⟨q0, hv5, hg5, hm5, -⟩
                        · skip
                          subst hv5 hg5
                          have hqp := zdo_p ck qk
                          have hr6 : InR (zdo ck qk).1 := by
                            have h6z := hok_42.1 6
                            rw [upN_s] at h6z
                            exact h6z
                          rw [if_neg q0] at hrd
                          refine lv_aload_n hx hb dX13_execute_139 rfl (lv_at hl 1 rfl) ?_
                          refine m_get hC hZ 6 (x := .int (iI ((zdo ck qk).1))) rfl (by decide) ql_X13_55 rfl dX13_execute_140 ?_
                          refine z_if_le (tgt := 161) hx hb dX13_execute_143 (by decide) (by omega) (fun c_45 => ?_) (fun c_45 => ?_)
                          · skip
                            exfalso; omega
                          · skip
                            have h5e : 0 ≤ upN (upN (upN v4 6 (zdo ck qk).1) 21 k_) 6 2 5 ∧ upN (upN (upN v4 6 (zdo ck qk).1) 21 k_) 6 2 5 ≤ 8 := by have := hi126_1 5 (by decide); show 0 ≤ v4 5 ∧ v4 5 ≤ 8; omega
                            refine lv_aload_n hx hb dX13_execute_146 rfl (lv_at hl 1 rfl) ?_
                            refine lv_iload_n hx hb dX13_execute_147 rfl (lv_at hl 0 rfl) ?_
                            refine m_put hC hZ 21 (ty := .int) (by decide) ql_X13_49 rfl rfl rfl (Or.inl rfl) rfl dX13_execute_148 (fun H locs hZ => ?_)
                            have hok_46 := hok_42.v (k := 21) (x := k_) (by omega)
                            refine lv_aload_n hx hb dX13_execute_151 rfl (lv_at hl 1 rfl) ?_
                            refine lv_aload_n hx hb dX13_execute_152 rfl (lv_at hl 1 rfl) ?_
                            refine z_iconst hx hb dX13_execute_153 ?_
                            refine z_calli (z_runV (rest := [.ref m0]) (As := [.int (iI 2)]) (n := 1) (ci := 16) hC hZ (met_X13_fails l D cs A m0 ad (upN (upN v4 6 (zdo ck qk).1) 21 k_) g4 2  hD hok_46 (by decide)) gv_X13_82 hd_X13_fails rfl mW_o rfl hl rfl (Nat.le_of_ble_eq_true rfl) ⟨Nat.le_of_ble_eq_true rfl, Nat.le_of_ble_eq_true rfl⟩ ⟨Nat.le_of_ble_eq_true rfl, Nat.le_of_ble_eq_true rfl⟩ dX13_execute_154) hZ (fun r154 _ H locs hp_47 hZ => ?_)
                            obtain ⟨_, _, rfl, hok_48, rfl, rfl, rfl⟩ := hp_47
                            refine z_calli (z_runV (rest := []) (As := [.int (iI 0)]) (n := 1) (ci := 16) hC hZ (met_X13_ends l D cs A m0 ad (upN (upN (upN v4 6 (zdo ck qk).1) 21 k_) 6 2) g4 0  hD hok_48 (by decide) h5e) gv_X13_100 hd_X13_ends rfl mW_o rfl hl rfl (Nat.le_of_ble_eq_true rfl) ⟨Nat.le_of_ble_eq_true rfl, Nat.le_of_ble_eq_true rfl⟩ ⟨Nat.le_of_ble_eq_true rfl, Nat.le_of_ble_eq_true rfl⟩ dX13_execute_157) hZ (fun r157 _ H locs hp_49 hZ => ?_)
                            obtain ⟨v_51, g_52, rfl, hok_50, hen⟩ := hp_49
                            exact z_iret hC hr hlk hZ (by decide) (by decide) (⟨_, _, rfl, hok_50, by
                                have hz := sExe_f (c := c0) (er := v 20) (fa := v 21) hzp hrd.symm
                                have e1 : g4 1 = cpI (g 0) (g 1) 0 0 2439 := (hi126_2 1 (by decide) (by decide) (by decide) (by decide)).trans k1
                                obtain ⟨rfl, hm, hgj⟩ := mEx_fail hR hK e1 (by show (2 : Int) > 0; decide) hen
                                unfold mExe
                                rw [hz]
                                have hb : ∀ k, k ≠ 6 → k ≠ 12 → k ≠ 21 → upN (upN (upN v4 6 (zdo ck qk).1) 21 k_) 6 2 k = vK k := fun k h6 h12 h21 => by rw [upN_n h6, upN_n h21, upN_n h6]; exact hi126_1 k h12
                                refine ⟨rfl, fun z => absurd (show (2 : Int) = 0 from z) (by decide), (hb 17 (by decide) (by decide) (by decide)).trans k17, (hb 20 (by decide) (by decide) (by decide)).trans k20, ?_, ?_, ⟨?_, hH.2.1, fun j h hj => ?_⟩, fun k h5 h6 h12 h17 h18 h19 h20 h21 h23 => (hb k h6 h12 h21).trans (kfr k h6 h17 h18 h19 h20 h23), fun j h0 h1 h4 h9 h10 h11 h22 => (hgj j h0).trans ((hi126_2 j h0 h9 h10 h11).trans (kg j h1 h22))⟩
                                · rw [upN_n (by decide), upN_s]; show k_ = (k_.toNat : Int); omega
                                · rw [if_neg (show ¬ (2 : Int) = 0 by decide)]; exact hm
                                · rw [if_neg (show ¬ (2 : Int) = 0 by decide)]; exact (hb 5 (by decide) (by decide) (by decide)).trans (k5.trans hH.1)
                                · rw [if_neg (show ¬ (2 : Int) = 0 by decide)] at hj
                                  rw [hgj 4 (by decide), hi126_2 4 (by decide) (by decide) (by decide) (by decide), kg 4 (by decide) (by decide)]
                                  exact hH.2.2 j h hj⟩) dX13_execute_160
                        · skip
                          have h6b : v_43 6 = 0 := (hv5 6 (by decide)).trans ((hi126_1 6 (by decide)).trans k6)
                          rw [if_pos q0] at hrd
                          have hKn := cOKj_s hKk (by omega) q0
                          refine lv_aload_n hx hb dX13_execute_139 rfl (lv_at hl 1 rfl) ?_
                          refine m_get hC hZ 6 (x := .int (iI (v_43 6))) rfl (by decide) ql_X13_55 rfl dX13_execute_140 ?_
                          have hr_53 : -2147483648 ≤ v_43 6 ∧ v_43 6 ≤ 2147483647 := hok_42.1 6
                          refine z_if_le (tgt := 161) hx hb dX13_execute_143 (by decide) (by omega) (fun c_54 => ?_) (fun c_54 => ?_)
                          · skip
                            refine z_iinc (lv' := [(1, .int (iI (k_ + 1))), (0, .ref m0)]) hx hb dX13_execute_161 hl (k := 0) rfl (by decide) rfl (fun ls hl => ?_)
                            refine lv_goto (tgt := 126) hx hb dX13_execute_164 (by decide) ?_
                            exact ih126 (k_ + 1) v_43 g_44 (zdo ck qk).2.1 (by omega) (by omega) (fun k hk => (hv5 k hk).trans (hi126_1 k hk)) (fun j h0 h9 h10 h11 => (hg5 j h0 h9 h10 h11).trans (hi126_2 j h0 h9 h10 h11)) hm5 (by rw [hks, ← hrd]) (by rw [hks]; exact hKn) hok_42 _ _ hZ ls (lv_sub hl [0, 1] rfl)
                          · skip
                            exfalso; omega
                  exact L126_k_34 _ 0 vK gK c0 (Nat.lt_succ_self _) (by omega) (fun _ _ => rfl) (fun _ _ _ _ _ => rfl) k0 rfl (cOKj_0 hK) hok_33 _ _ hZ ls (lv_sub hl [0, 1] rfl)
                · skip
                  exfalso; omega
              · skip
                exfalso; omega
            · skip
              have hzp : zparse inp = .inl (v2 18) := by rw [hzp0, if_pos (by omega)]
              refine z_iconst hx hb dX13_execute_72 ?_
              refine lv_goto (tgt := 77) hx hb dX13_execute_73 (by decide) ?_
              refine m_put hC hZ 19 (ty := .boolean) (by decide) ql_X13_242 rfl rfl rfl (Or.inr ⟨rfl, (by decide)⟩) rfl dX13_execute_77 (fun H locs hZ => ?_)
              have hok_55 := hw.v (k := 19) (x := 1) (by decide)
              refine lv_aload_n hx hb dX13_execute_80 rfl (lv_at hl 0 rfl) ?_
              refine lv_aload_n hx hb dX13_execute_81 rfl (lv_at hl 0 rfl) ?_
              refine m_get hC hZ 19 (x := .int (iI 1)) rfl (by decide) ql_X13_242 rfl dX13_execute_82 ?_
              refine z_if_eq (tgt := 95) hx hb dX13_execute_85 (by decide) (by decide) (fun c_56 => ?_) (fun c_56 => ?_)
              · skip
                exfalso; omega
              · skip
                refine lv_aload_n hx hb dX13_execute_88 rfl (lv_at hl 0 rfl) ?_
                refine m_get hC hZ 18 (x := .int (iI (v2 18))) rfl (by decide) ql_X13_235 rfl dX13_execute_89 ?_
                refine lv_goto (tgt := 99) hx hb dX13_execute_92 (by decide) ?_
                refine m_put hC hZ 20 (ty := .int) (by decide) ql_X13_45 rfl rfl rfl (Or.inl rfl) rfl dX13_execute_99 (fun H locs hZ => ?_)
                have hok_57 := hok_55.v (k := 20) (x := v2 18) (by omega)
                refine lv_aload_n hx hb dX13_execute_102 rfl (lv_at hl 0 rfl) ?_
                refine z_iconst hx hb dX13_execute_103 ?_
                refine m_put hC hZ 17 (ty := .int) (by decide) ql_X13_232 rfl rfl rfl (Or.inl rfl) rfl dX13_execute_104 (fun H locs hZ => ?_)
                have hok_58 := hok_57.v (k := 17) (x := 0) (by decide)
                refine lv_aload_n hx hb dX13_execute_107 rfl (lv_at hl 0 rfl) ?_
                refine m_get hC hZ 19 (x := .int (iI 1)) rfl (by decide) ql_X13_242 rfl dX13_execute_108 ?_
                refine z_if_eq (tgt := 120) hx hb dX13_execute_111 (by decide) (by decide) (fun c_59 => ?_) (fun c_59 => ?_)
                · skip
                  exfalso; omega
                · skip
                  refine lv_aload_n hx hb dX13_execute_114 rfl (lv_at hl 0 rfl) ?_
                  refine z_iconst hx hb dX13_execute_115 ?_
                  refine z_calli (z_runV (rest := []) (As := [.int (iI 1)]) (n := 1) (ci := 16) hC hZ (met_X13_fails l D cs A m0 ad (upN (upN (upN v2 19 1) 20 (v2 18)) 17 0) g2 1  hD hok_58 (by decide)) gv_X13_82 hd_X13_fails rfl mW_o rfl hl rfl (Nat.le_of_ble_eq_true rfl) ⟨Nat.le_of_ble_eq_true rfl, Nat.le_of_ble_eq_true rfl⟩ ⟨Nat.le_of_ble_eq_true rfl, Nat.le_of_ble_eq_true rfl⟩ dX13_execute_116) hZ (fun r116 _ H locs hp_60 hZ => ?_)
                  obtain ⟨_, _, rfl, hok_61, rfl, rfl, rfl⟩ := hp_60
                  exact z_iret hC hr hlk hZ (by decide) (by decide) (⟨_, _, rfl, hok_61, by
                      unfold mExe
                      rw [sExe_l hzp]
                      refine ⟨rfl, fun z => absurd (show (1 : Int) = 0 from z) (by decide), rfl, rfl, hfv 21 (by decide) (by decide) (by decide), ?_, ⟨?_, hH.2.1, fun j h hj => ?_⟩, fun k h5 h6 h12 h17 h18 h19 h20 h21 h23 => ?_, fun j h0 h1 h4 h9 h10 h11 h22 => hfg j h22⟩
                      · rw [if_neg (show ¬ (1 : Int) = 0 by decide), hfg 0 (by decide)]; exact hR
                      · rw [if_neg (show ¬ (1 : Int) = 0 by decide)]; exact (hfv 5 (by decide) (by decide) (by decide)).trans hH.1
                      · rw [if_neg (show ¬ (1 : Int) = 0 by decide)] at hj; rw [hfg 4 (by decide)]; exact hH.2.2 j h hj
                      · rw [upN_n h6, upN_n h17, upN_n h20, upN_n h19]; exact hfv k h18 h19 h23⟩) dX13_execute_119
        · skip
          obtain ⟨hs1, hs2, hs3⟩ := zsofar_s h60 hso (by omega)
          refine lv_aload_n hx hb dX13_execute_36 rfl (lv_at hl 0 rfl) ?_
          refine lv_dup hx hb dX13_execute_37 rfl ?_
          refine m_get hC hZ 18 (x := .int (iI (v2 18))) rfl (by decide) ql_X13_235 rfl dX13_execute_38 ?_
          have hr_62 : -2147483648 ≤ v2 18 ∧ v2 18 ≤ 2147483647 := hw.1 18
          refine z_iconst hx hb dX13_execute_41 ?_
          refine z_iadd hx hb dX13_execute_42 ?_
          refine m_put hC hZ 18 (ty := .int) (by decide) ql_X13_235 rfl rfl rfl (Or.inl rfl) rfl dX13_execute_43 (fun H locs hZ => ?_)
          have hok_63 := hw.v (k := 18) (x := (v2 18) + 1) (by omega)
          refine lv_aload_n hx hb dX13_execute_46 rfl (lv_at hl 0 rfl) ?_
          refine z_callv (z_runV (rest := []) (As := []) (n := 0) (ci := 16) hC hZ (met_X13_readCommand l D cs A m0 ad (upN v2 18 ((v2 18) + 1)) g2 inp hD hok_63 (mI_of hI2 rfl rfl) (by show 0 ≤ v2 18 + 1 ∧ v2 18 + 1 ≤ (inp.length : Int); omega) (by show v2 19 = 0 ∨ v2 19 = 1; omega) (by show 0 ≤ v2 23 ∧ v2 23 ≤ 11; omega)) gv_X13_280 hd_X13_readCommand rfl mW_o rfl hl rfl (Nat.le_of_ble_eq_true rfl) ⟨Nat.le_of_ble_eq_true rfl, Nat.le_of_ble_eq_true rfl⟩ ⟨Nat.le_of_ble_eq_true rfl, Nat.le_of_ble_eq_true rfl⟩ dX13_execute_47) hZ (fun _ H locs hp47 hZ => ?_)
          obtain ⟨v_65, g_66, rfl, hok_64, hrc⟩ := hp47
          have hz1 := zcmd_ok (inp := inp) (a := v2 18 + 1) (by omega) (by omega)
          have h180 : v2 19 = 0 := by omega
          have hb18 : v2 18 < v_65 18 := by
            rcases hrc with ⟨z, -, -⟩ | ⟨-, -, -, a3, -⟩
            · exact absurd (show v2 19 = 1 from z) (by omega)
            · replace a3 : v_65 18 = (zcmd inp (v2 18 + 1)).2.1 := a3
              omega
          obtain ⟨hB0, hB1, hB2, hB3⟩ : (∀ k, k ≠ 18 → k ≠ 19 → k ≠ 23 → v_65 k = v k) ∧ (∀ j, j ≠ 22 → g_66 j = g j) ∧ (0 ≤ v_65 18 ∧ v_65 18 ≤ inp.length) ∧ ((v_65 19 = 1 ∧ (zread inp 61 0).1 = true ∧ (zread inp 61 0).2.1 = v_65 18) ∨ (v_65 19 = 0 ∧ zsofar inp (cs2 ++ [(zcmd inp (v2 18 + 1)).2.2]) (v_65 18) ∧ zcrows (g_66 22) (cs2 ++ [(zcmd inp (v2 18 + 1)).2.2]) ∧ v_65 23 = (cs2 ++ [(zcmd inp (v2 18 + 1)).2.2]).length)) := by
            rcases hrc with ⟨z, -, -⟩ | ⟨-, a1, a2, a3, a4, a5, a6, a7⟩
            · exact absurd (show v2 19 = 1 from z) (by omega)
            · replace a3 : v_65 18 = (zcmd inp (v2 18 + 1)).2.1 := a3
              replace a4 : v_65 19 = b2i (zcmd inp (v2 18 + 1)).1 := a4
              replace a5 : v_65 23 = v2 23 + 1 := a5
              replace a7 : (zcmd inp (v2 18 + 1)).1 = false → zcrow (g_66 22) (v2 23) (zcmd inp (v2 18 + 1)).2.2 := a7
              refine ⟨fun k h1 h2 h3 => (a1 k h1 h2 h3).trans (by rw [upN_n h1]; exact hfv k h1 h2 h3), fun j hj => (a2 j hj).trans (hfg j hj), by rw [a3]; exact ⟨by omega, hz1.2.1⟩, ?_⟩
              rcases hs3 with ⟨y1, y2, y3⟩ | ⟨y1, y2⟩
              · left
                rw [y1] at a4
                exact ⟨a4, y2, y3.trans a3.symm⟩
              · right
                rw [y1] at a4
                refine ⟨a4, by rw [a3]; exact y2, zcrows_s hrows hn23 a6 (a7 y1), ?_⟩
                rw [List.length_append, List.length_singleton, a5]
                omega
          refine lv_goto (tgt := 19) hx hb dX13_execute_50 (by decide) ?_
          exact ih19  v_65 g_66 (cs2 ++ [(zcmd inp (v2 18 + 1)).2.2]) (by omega) hB0 hB1 hB2 hB3 hok_64 _ _ hZ ls (lv_sub hl [0] rfl)
  exact L19_k_7 _  v_5 g_6 [(zcmd inp 0).2.2] (Nat.lt_succ_self _) hA0 hA1 hA2 hA3 hok_4 _ _ hZ ls (lv_sub hl [0] rfl)

set_option maxHeartbeats 4000000 in
set_option maxRecDepth 100000 in
theorem met_X13_leastBadnessForward (l : Launch) (D : va_G) (cs : Nat → ClassId) (A : Nat → Prop) (m0 : Nat) (ad : Nat → Nat) (v : Nat → Int) (g : Nat → Int → Int) (x : Int)  (N : Nat) (c0 : zCo) (hD : mD m0 ad) (hok : mOK v g) (hR : mR (g 0) c0) (hK : cOK N c0) (hx0 : InR x) : zM l D cs A yX13_leastBadnessForward cX13_leastBadnessForward 2 (some FieldType.int) 4 0 0 [.ref m0, .int (iI x)] (mW cs m0 ad v g) (mP cs m0 ad (fun r v1 g1 => upN v 6 (sLb c0 x).1 = v1 ∧ (∀ j, j ≠ 13 → g1 j = g j) ∧ ((sLb c0 x).1 = 0 → r = (sLb c0 x).2))) := by
  refine zM_of (own := RX13) (by decide) rfl (Nat.le_of_ble_eq_true rfl) ?_
  intro p e s m below meth c hC hr hlk hnm hZ ls hl
  have hx := hC.x
  have hb := hC.b
  have hl : lv_has ls 2 [(0, .ref m0), (1, .int (iI x))] := hl
  refine lv_aload_n hx hb dX13_leastBadnessForward_0 rfl (lv_at hl 0 rfl) ?_
  refine lv_iload_n hx hb dX13_leastBadnessForward_1 rfl (lv_at hl 1 rfl) ?_
  refine z_calli (z_runV (rest := []) (As := [.int (iI x)]) (n := 1) (ci := 16) hC hZ (met_X13_leastBadness l D cs A m0 ad v g x N c0 hD hok hR hK hx0) gv_X13_188 hd_X13_leastBadness rfl mW_o rfl hl rfl (Nat.le_of_ble_eq_true rfl) ⟨Nat.le_of_ble_eq_true rfl, Nat.le_of_ble_eq_true rfl⟩ ⟨Nat.le_of_ble_eq_true rfl, Nat.le_of_ble_eq_true rfl⟩ dX13_leastBadnessForward_2) hZ (fun r2 _ H locs hp_1 hZ => ?_)
  obtain ⟨v_3, g_4, rfl, hok_2, hlb1, hlb2, hlb3⟩ := hp_1
  exact z_iret hC hr hlk hZ (by decide) (by decide) (⟨_, _, rfl, hok_2, hlb1, hlb2, hlb3⟩) dX13_leastBadnessForward_5

