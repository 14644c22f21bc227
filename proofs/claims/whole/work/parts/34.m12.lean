def zwt (s : Int) : List zWd → List Int
  | [] => []
  | w :: ws => s :: (w ++ zwt 32 ws)
/-- an article as it is written -/
def zart (a : zAr) : List Int := zdig a.1 ++ [33] ++ zdig a.2.1 ++ zwt 58 a.2.2
theorem zwt_app (s : Int) : ∀ (l1 l2 : List zWd), zwt s (l1 ++ l2) = zwt s l1 ++ zwt (if l1 = [] then s else 32) l2
  | [], l2 => by simp [zwt]
  | w :: ws, l2 => by
    show s :: (w ++ zwt 32 (ws ++ l2)) = s :: (w ++ zwt 32 ws) ++ zwt _ l2
    rw [zwt_app 32 ws l2, ite_self, if_neg (List.cons_ne_nil _ _)]
    simp
theorem zwt_s {ws : List zWd} {k : Int} {wd : zWd} (h0 : 0 ≤ k) (hw : ws[k.toNat]? = some wd) : zwt 58 (ws.take (k + 1).toNat) = zwt 58 (ws.take k.toNat) ++ [if k = 0 then 58 else 32] ++ wd := by
  have hl := (List.getElem?_eq_some_iff.mp hw).1
  rw [show (k + 1).toNat = k.toNat + 1 by omega, List.take_add_one, hw]
  show zwt 58 (ws.take k.toNat ++ [wd]) = _
  rw [zwt_app]
  have e : (if ws.take k.toNat = [] then (58 : Int) else 32) = if k = 0 then 58 else 32 := by
    by_cases q : k = 0
    · subst q; simp
    · rw [if_neg q, if_neg]
      intro z
      have := congrArg List.length z
      rw [List.length_take, List.length_nil] at this
      omega
  rw [e]
  simp [zwt]
theorem zwt_len (s : Int) : ∀ (ws : List zWd), (∀ w ∈ ws, wdOK w) → (zwt s ws).length ≤ 13 * ws.length
  | [], _ => Nat.le_refl 0
  | w :: ws, h => by
    have h1 := (h w List.mem_cons_self).1.2
    have h2 := zwt_len 32 ws (fun x hx => h x (List.mem_cons_of_mem _ hx))
    show (s :: (w ++ zwt 32 ws)).length ≤ _
    simp
    omega
theorem zdig_len (x : Int) : (zdig x).length ≤ 3 ∧ 1 ≤ (zdig x).length := by
  unfold zdig; split
  · simp
  · split <;> simp
def sWr (c : zCo) (x : Int) : Int × List Int := match zfa (cAr c) x with
  | none => (1, [])
  | some a => (0, zart a)
set_option maxHeartbeats 4000000 in
set_option maxRecDepth 100000 in
theorem met_X13_writeArticle (l : Launch) (D : va_G) (cs : Nat → ClassId) (A : Nat → Prop) (m0 : Nat) (ad : Nat → Nat) (v : Nat → Int) (g : Nat → Int → Int) (x : Int)  (N : Nat) (c0 : zCo) (hD : mD m0 ad) (hok : mOK v g) (hR : mR (g 0) c0) (hK : cOK N c0) (hx0 : InR x) (hN : N ≤ 900) : zM l D cs A yX13_writeArticle cX13_writeArticle 5 (some FieldType.int) 5 0 0 [.ref m0, .int (iI x)] (mW cs m0 ad v g) (mP cs m0 ad (fun r v1 g1 => mWr v g r v1 g1 (sWr c0 x).1 (sWr c0 x).2)) := by
  refine zM_of (own := RX13) (by decide) rfl (Nat.le_of_ble_eq_true rfl) ?_
  intro p e s m below meth c hC hr hlk hnm hZ ls hl
  have hx := hC.x
  have hb := hC.b
  have hl : lv_has ls 5 [(0, .ref m0), (1, .int (iI x))] := hl
  have hn := mR_n hR hK
  have hni := hK.2.2.2.2.2.2.1
  refine lv_aload_n hx hb dX13_writeArticle_0 rfl (lv_at hl 0 rfl) ?_
  refine lv_iload_n hx hb dX13_writeArticle_1 rfl (lv_at hl 1 rfl) ?_
  refine z_calli (z_runV (rest := []) (As := [.int (iI x)]) (n := 1) (ci := 16) hC hZ (met_X13_placeOf l D cs A m0 ad v g x  hD hok (by omega) hn) gv_X13_103 hd_X13_placeOf rfl mW_o rfl hl rfl (Nat.le_of_ble_eq_true rfl) ⟨Nat.le_of_ble_eq_true rfl, Nat.le_of_ble_eq_true rfl⟩ ⟨Nat.le_of_ble_eq_true rfl, Nat.le_of_ble_eq_true rfl⟩ dX13_writeArticle_2) hZ (fun r2 _ H locs hp_1 hZ => ?_)
  obtain ⟨_, _, rfl, _, rfl, rfl, hp_1⟩ := hp_1
  rcases mPl_fa hR hK hp_1 with ⟨hz, hzi, er⟩ | ⟨i0, a0, hz, hzi, er, hi, hid, hib, hra, hka⟩
  · skip
    subst er
    refine lv_istore_n (lv' := [(2, .int (iI (-1))), (0, .ref m0), (1, .int (iI x))]) hx hb dX13_writeArticle_5 rfl hl (by decide) rfl (fun ls hl => ?_)
    refine lv_aload_n hx hb dX13_writeArticle_6 rfl (lv_at hl 1 rfl) ?_
    refine lv_iload_n hx hb dX13_writeArticle_7 rfl (lv_at hl 0 rfl) ?_
    refine z_if_lt (tgt := 15) hx hb dX13_writeArticle_8 (by decide) (by decide) (fun c_2 => ?_) (fun c_2 => ?_)
    · skip
      refine z_iconst hx hb dX13_writeArticle_15 ?_
      refine z_calli (z_runV (rest := []) (As := [.int (iI 0)]) (n := 1) (ci := 16) hC hZ (met_X13_isThere l D cs A m0 ad v g 0  hD hok (by decide)) gv_X13_126 hd_X13_isThere rfl mW_o rfl hl rfl (Nat.le_of_ble_eq_true rfl) ⟨Nat.le_of_ble_eq_true rfl, Nat.le_of_ble_eq_true rfl⟩ ⟨Nat.le_of_ble_eq_true rfl, Nat.le_of_ble_eq_true rfl⟩ dX13_writeArticle_16) hZ (fun r16 _ H locs hp_3 hZ => ?_)
      obtain ⟨_, _, rfl, hok_4, rfl, rfl, rfl⟩ := hp_3
      refine z_if_ne (tgt := 24) hx hb dX13_writeArticle_19 (by decide) (by decide) (fun c_5 => ?_) (fun c_5 => ?_)
      · skip
        exfalso; omega
      · skip
        refine z_iconst hx hb dX13_writeArticle_22 ?_
        exact z_iret hC hr hlk hZ (by decide) (by decide) (⟨_, _, rfl, hok_4, by unfold sWr; rw [hz]; rfl, (fun k h1 h2 h3 => upN_n h1), (fun _ _ _ _ _ => rfl), (fun _ => ⟨upN_n (by decide), rfl⟩), (fun q => by unfold sWr at q; rw [hz] at q; exact absurd (show (1 : Int) = 0 from q) (by decide))⟩) dX13_writeArticle_23
    · skip
      exfalso; omega
  · skip
    subst er
    have hra1 := hra.2.1
    have hra2 := hra.2.2.1
    have hida := hka.1
    have hpr := hka.2.1
    have hw30 := hka.2.2.1
    have hdl := zdig_len x
    refine lv_istore_n (lv' := [(2, .int (iI (i0 : Int))), (0, .ref m0), (1, .int (iI x))]) hx hb dX13_writeArticle_5 rfl hl (by decide) rfl (fun ls hl => ?_)
    refine lv_aload_n hx hb dX13_writeArticle_6 rfl (lv_at hl 1 rfl) ?_
    refine lv_iload_n hx hb dX13_writeArticle_7 rfl (lv_at hl 0 rfl) ?_
    refine z_if_lt (tgt := 15) hx hb dX13_writeArticle_8 (by decide) (by omega) (fun c_6 => ?_) (fun c_6 => ?_)
    · skip
      exfalso; omega
    · skip
      refine z_iconst hx hb dX13_writeArticle_11 ?_
      refine lv_goto (tgt := 16) hx hb dX13_writeArticle_12 (by decide) ?_
      refine z_calli (z_runV (rest := []) (As := [.int (iI 1)]) (n := 1) (ci := 16) hC hZ (met_X13_isThere l D cs A m0 ad v g 1  hD hok (by decide)) gv_X13_126 hd_X13_isThere rfl mW_o rfl hl rfl (Nat.le_of_ble_eq_true rfl) ⟨Nat.le_of_ble_eq_true rfl, Nat.le_of_ble_eq_true rfl⟩ ⟨Nat.le_of_ble_eq_true rfl, Nat.le_of_ble_eq_true rfl⟩ dX13_writeArticle_16) hZ (fun r16 _ H locs hp_7 hZ => ?_)
      obtain ⟨_, _, rfl, hok_8, rfl, rfl, rfl⟩ := hp_7
      refine z_if_ne (tgt := 24) hx hb dX13_writeArticle_19 (by decide) (by decide) (fun c_9 => ?_) (fun c_9 => ?_)
      · skip
        refine lv_aload_n hx hb dX13_writeArticle_24 rfl (lv_at hl 1 rfl) ?_
        refine z_iconst hx hb dX13_writeArticle_25 ?_
        refine m_put hC hZ 15 (ty := .int) (by decide) ql_X13_223 rfl rfl rfl (Or.inl rfl) rfl dX13_writeArticle_26 (fun H locs hZ => ?_)
        have hok_10 := hok_8.v (k := 15) (x := 0) (by decide)
        refine lv_aload_n hx hb dX13_writeArticle_29 rfl (lv_at hl 1 rfl) ?_
        refine lv_iload_n hx hb dX13_writeArticle_30 rfl (lv_at hl 2 rfl) ?_
        refine z_callv (z_runV (rest := []) (As := [.int (iI x)]) (n := 1) (ci := 16) hC hZ (met_saysN3 l D cs A m0 ad (upN (upN v 6 (1 - 1)) 15 0) g x [] hD hok_10 (by omega) mO_nil (by simp)) gv_X13_226 hd_X13_saysNumber rfl mW_o rfl hl rfl (Nat.le_of_ble_eq_true rfl) ⟨Nat.le_of_ble_eq_true rfl, Nat.le_of_ble_eq_true rfl⟩ ⟨Nat.le_of_ble_eq_true rfl, Nat.le_of_ble_eq_true rfl⟩ dX13_writeArticle_31) hZ (fun _ H locs hp_11 hZ => ?_)
        obtain ⟨v_13, g_14, rfl, hok_12, fv_15, fg_16, ho_17⟩ := hp_11
        have e0_18 := fg_16 0 (by decide)
        refine lv_aload_n hx hb dX13_writeArticle_34 rfl (lv_at hl 1 rfl) ?_
        refine z_bipush hx hb dX13_writeArticle_35 (by decide) ?_
        refine z_callv (z_runV (rest := []) (As := [.int (iI 33)]) (n := 1) (ci := 16) hC hZ (met_X13_says l D cs A m0 ad v_13 g_14 33 (zdig x) hD hok_12 (by decide) ho_17 (by omega)) gv_X13_229 hd_X13_says rfl mW_o rfl hl rfl (Nat.le_of_ble_eq_true rfl) ⟨Nat.le_of_ble_eq_true rfl, Nat.le_of_ble_eq_true rfl⟩ ⟨Nat.le_of_ble_eq_true rfl, Nat.le_of_ble_eq_true rfl⟩ dX13_writeArticle_37) hZ (fun _ H locs hp_19 hZ => ?_)
        obtain ⟨v_21, g_22, rfl, hok_20, fv_23, fg_24, ho_25⟩ := hp_19
        have cv_26 := fun k hk => (fv_23 k hk).trans (fv_15 k hk)
        have cg_27 := fun j hj => (fg_24 j hj).trans (fg_16 j hj)
        have e0_28 := cg_27 0 (by decide)
        refine lv_aload_n hx hb dX13_writeArticle_40 rfl (lv_at hl 1 rfl) ?_
        refine lv_aload_n hx hb dX13_writeArticle_41 rfl (lv_at hl 1 rfl) ?_
        refine lv_iload_n hx hb dX13_writeArticle_42 rfl (lv_at hl 0 rfl) ?_
        refine z_iconst hx hb dX13_writeArticle_43 ?_
        refine z_calli (z_runV (rest := [.ref m0]) (As := [.int (iI (i0 : Int)), .int (iI 1)]) (n := 2) (ci := 16) hC hZ (met_X13_of l D cs A m0 ad v_21 g_22 (i0 : Int) 1  hD hok_20 (by omega) (by omega)) gv_X13_67 hd_X13_of rfl mW_o rfl hl rfl (Nat.le_of_ble_eq_true rfl) ⟨Nat.le_of_ble_eq_true rfl, Nat.le_of_ble_eq_true rfl⟩ ⟨Nat.le_of_ble_eq_true rfl, Nat.le_of_ble_eq_true rfl⟩ dX13_writeArticle_44) hZ (fun r44 _ H locs hp_29 hZ => ?_)
        obtain ⟨_, _, rfl, _, rfl, rfl, rfl⟩ := hp_29
        have hr_30 : -2147483648 ≤ mof (g_22 0) (i0 : Int) 1 ∧ mof (g_22 0) (i0 : Int) 1 ≤ 2147483647 := hok_20.2 0 _
        refine z_top (y := a0.2.1) (by rw [e0_28]; exact hra1) ?_
        refine z_callv (z_runV (rest := []) (As := [.int (iI a0.2.1)]) (n := 1) (ci := 16) hC hZ (met_saysN3 l D cs A m0 ad v_21 g_22 a0.2.1 (zdig x ++ [33]) hD hok_20 (by omega) ho_25 (by simp; omega)) gv_X13_226 hd_X13_saysNumber rfl mW_o rfl hl rfl (Nat.le_of_ble_eq_true rfl) ⟨Nat.le_of_ble_eq_true rfl, Nat.le_of_ble_eq_true rfl⟩ ⟨Nat.le_of_ble_eq_true rfl, Nat.le_of_ble_eq_true rfl⟩ dX13_writeArticle_47) hZ (fun _ H locs hp_31 hZ => ?_)
        obtain ⟨v_33, g_34, rfl, hok_32, fv_35, fg_36, ho_37⟩ := hp_31
        have cv_38 := fun k hk => (fv_35 k hk).trans (cv_26 k hk)
        have cg_39 := fun j hj => (fg_36 j hj).trans (cg_27 j hj)
        have e0_40 := cg_39 0 (by decide)
        refine z_iconst hx hb dX13_writeArticle_50 ?_
        refine lv_istore_n (lv' := [(3, .int (iI 0)), (2, .int (iI (i0 : Int))), (0, .ref m0), (1, .int (iI x))]) hx hb dX13_writeArticle_51 rfl hl (by decide) rfl (fun ls hl => ?_)
        have L52_k_41 : ∀ (fu : Nat) (w0 : Int) (v4 : Nat → Int) (g4 : Nat → Int → Int) (hfu : ((a0.2.2.length : Int) - w0).toNat < fu) (hi52_0 : 0 ≤ w0 ∧ w0 ≤ a0.2.2.length) (hi52_1 : ∀ k, k ≠ 15 → v4 k = (upN (upN v 6 0) 15 0) k) (hi52_2 : ∀ j, j ≠ 14 → g4 j = g j) (hi52_3 : mO v4 g4 (zdig x ++ [33] ++ zdig a0.2.1 ++ zwt 58 (a0.2.2.take w0.toNat))) (hw : mOK v4 g4) (H : Heap) (locs : List Loc) (hZ : zS D A s (mW cs m0 ad v4 g4) H locs) (ls : Array Slot) (hl : lv_has ls 5 [(3, .int (iI w0)), (2, .int (iI (i0 : Int))), (0, .ref m0), (1, .int (iI x))]), W p l e (zR 5 0 0) s m [.ref m0, .int (iI x)].toArray below meth c H locs 0 0 (MQ below (zQ D A (mP cs m0 ad (fun r v1 g1 => mWr v g r v1 g1 (sWr c0 x).1 (sWr c0 x).2))) [.ref m0, .int (iI x)].toArray s 0 0 A) (F0 m 52 ls []) := by
          intro fu
          induction fu with
          | zero =>
            intro w0 v4 g4 hfu
            exact absurd hfu (Nat.not_lt_zero _)
          | succ fu ih52 =>
            intro w0 v4 g4 hfu hi52_0 hi52_1 hi52_2 hi52_3 hw H locs hZ ls hl
            have e0 : g4 0 = g 0 := hi52_2 0 (by decide)
            have hlw := zwt_len 58 (a0.2.2.take w0.toNat) (fun z hz => hka.2.2.2 z (List.mem_of_mem_take hz))
            rw [List.length_take] at hlw
            have hdl := zdig_len x
            have hdl2 := zdig_len a0.2.1
            refine lv_iload_n hx hb dX13_writeArticle_52 rfl (lv_at hl 0 rfl) ?_
            refine lv_aload_n hx hb dX13_writeArticle_53 rfl (lv_at hl 2 rfl) ?_
            refine lv_iload_n hx hb dX13_writeArticle_54 rfl (lv_at hl 1 rfl) ?_
            refine z_iconst hx hb dX13_writeArticle_55 ?_
            refine z_calli (z_runV (rest := [.int (iI w0)]) (As := [.int (iI (i0 : Int)), .int (iI 2)]) (n := 2) (ci := 16) hC hZ (met_X13_of l D cs A m0 ad v4 g4 (i0 : Int) 2  hD hw (by omega) (by omega)) gv_X13_67 hd_X13_of rfl mW_o rfl hl rfl (Nat.le_of_ble_eq_true rfl) ⟨Nat.le_of_ble_eq_true rfl, Nat.le_of_ble_eq_true rfl⟩ ⟨Nat.le_of_ble_eq_true rfl, Nat.le_of_ble_eq_true rfl⟩ dX13_writeArticle_56) hZ (fun r56 _ H locs hp_42 hZ => ?_)
            obtain ⟨_, _, rfl, _, rfl, rfl, rfl⟩ := hp_42
            have hr_43 : -2147483648 ≤ mof (g4 0) (i0 : Int) 2 ∧ mof (g4 0) (i0 : Int) 2 ≤ 2147483647 := hw.2 0 _
            refine z_top (y := (a0.2.2.length : Int)) (by rw [e0]; exact hra2) ?_
            refine z_icmp_ge (tgt := 115) hx hb dX13_writeArticle_59 (by decide) (by omega) (by omega) (fun c_44 => ?_) (fun c_44 => ?_)
            · skip
              refine lv_aload_n hx hb dX13_writeArticle_115 rfl (lv_at hl 2 rfl) ?_
              refine m_get hC hZ 15 (x := .int (iI (v4 15))) rfl (by decide) ql_X13_223 rfl dX13_writeArticle_116 ?_
              have hr_45 : -2147483648 ≤ v4 15 ∧ v4 15 ≤ 2147483647 := hw.1 15
              exact z_iret hC hr hlk hZ (by decide) (by decide) (⟨_, _, rfl, hw, by unfold sWr; rw [hz, hi52_1 6 (by decide)]; rfl, (fun k h1 h2 h3 => (hi52_1 k h3).trans ((upN_n h3).trans (upN_n h1))), (fun j h1 h2 h3 h4 => hi52_2 j h4), (fun q => by unfold sWr at q; rw [hz] at q; exact absurd rfl q), (fun _ => by unfold sWr; rw [hz]; unfold zart; simp only [hid]; have hkk : a0.2.2.take w0.toNat = a0.2.2 := List.take_of_length_le (by omega); rw [hkk] at hi52_3; exact ⟨hi52_3.1, hi52_3⟩)⟩) dX13_writeArticle_119
            · skip
              obtain ⟨wd, hzw, hwd, hln, hw29, hlt⟩ := rAr_wd hra hka (w := w0) (by omega) (by omega)
              have hwt : a0.2.2[w0.toNat]? = some wd := by unfold zwd at hzw; rw [if_pos (by omega)] at hzw; exact hzw
              have hwl := hwd.1
              refine lv_aload_n hx hb dX13_writeArticle_62 rfl (lv_at hl 2 rfl) ?_
              refine lv_iload_n hx hb dX13_writeArticle_63 rfl (lv_at hl 0 rfl) ?_
              refine z_if_ne (tgt := 72) hx hb dX13_writeArticle_64 (by decide) (by omega) (fun c_46 => ?_) (fun c_46 => ?_)
              · skip
                refine z_bipush hx hb dX13_writeArticle_72 (by decide) ?_
                refine z_top (y := (if w0 = 0 then 58 else 32)) (by first | rw [if_pos (by omega)] | rw [if_neg (by omega)]) ?_
                refine z_callv (z_runV (rest := []) (As := [.int (iI (if w0 = 0 then 58 else 32))]) (n := 1) (ci := 16) hC hZ (met_X13_says l D cs A m0 ad v4 g4 (if w0 = 0 then 58 else 32) (zdig x ++ [33] ++ zdig a0.2.1 ++ zwt 58 (a0.2.2.take w0.toNat)) hD hw (by split <;> omega) hi52_3 (by simp; omega)) gv_X13_229 hd_X13_says rfl mW_o rfl hl rfl (Nat.le_of_ble_eq_true rfl) ⟨Nat.le_of_ble_eq_true rfl, Nat.le_of_ble_eq_true rfl⟩ ⟨Nat.le_of_ble_eq_true rfl, Nat.le_of_ble_eq_true rfl⟩ dX13_writeArticle_74) hZ (fun _ H locs hp_47 hZ => ?_)
                obtain ⟨v_49, g_50, rfl, hok_48, fv_51, fg_52, ho_53⟩ := hp_47
                have e0_54 := fg_52 0 (by decide)
                refine z_iconst hx hb dX13_writeArticle_77 ?_
                refine lv_istore (lv' := [(4, .int (iI 0)), (3, .int (iI w0)), (2, .int (iI (i0 : Int))), (0, .ref m0), (1, .int (iI x))]) hx hb dX13_writeArticle_78 hl (by decide) rfl (fun ls hl => ?_)
                have L80_k_55 : ∀ (fu : Nat) (k0 : Int) (v5 : Nat → Int) (g5 : Nat → Int → Int) (hfu : ((wd.length : Int) - k0).toNat < fu) (hi80_0 : 0 ≤ k0 ∧ k0 ≤ wd.length) (hi80_1 : ∀ k, k ≠ 15 → v5 k = (upN (upN v 6 0) 15 0) k) (hi80_2 : ∀ j, j ≠ 14 → g5 j = g j) (hi80_3 : mO v5 g5 (zdig x ++ [33] ++ zdig a0.2.1 ++ zwt 58 (a0.2.2.take w0.toNat) ++ [if w0 = 0 then 58 else 32] ++ wd.take k0.toNat)) (hw5 : mOK v5 g5) (H : Heap) (locs : List Loc) (hZ : zS D A s (mW cs m0 ad v5 g5) H locs) (ls : Array Slot) (hl : lv_has ls 5 [(4, .int (iI k0)), (3, .int (iI w0)), (2, .int (iI (i0 : Int))), (0, .ref m0), (1, .int (iI x))]), W p l e (zR 5 0 0) s m [.ref m0, .int (iI x)].toArray below meth c H locs 0 0 (MQ below (zQ D A (mP cs m0 ad (fun r v1 g1 => mWr v g r v1 g1 (sWr c0 x).1 (sWr c0 x).2))) [.ref m0, .int (iI x)].toArray s 0 0 A) (F0 m 80 ls []) := by
                  intro fu
                  induction fu with
                  | zero =>
                    intro k0 v5 g5 hfu
                    exact absurd hfu (Nat.not_lt_zero _)
                  | succ fu ih80 =>
                    intro k0 v5 g5 hfu hi80_0 hi80_1 hi80_2 hi80_3 hw5 H locs hZ ls hl
                    have e5 : g5 0 = g 0 := hi80_2 0 (by decide)
                    refine lv_iload hx hb dX13_writeArticle_80 (lv_at hl 0 rfl) ?_
                    refine lv_aload_n hx hb dX13_writeArticle_82 rfl (lv_at hl 3 rfl) ?_
                    refine lv_iload_n hx hb dX13_writeArticle_83 rfl (lv_at hl 2 rfl) ?_
                    refine lv_iload_n hx hb dX13_writeArticle_84 rfl (lv_at hl 1 rfl) ?_
                    refine z_calli (z_runV (rest := [.int (iI k0)]) (As := [.int (iI (i0 : Int)), .int (iI w0)]) (n := 2) (ci := 16) hC hZ (met_X13_long1 l D cs A m0 ad v5 g5 (i0 : Int) w0  hD hw5 (by omega) (by omega)) gv_X13_113 hd_X13_long1 rfl mW_o rfl hl rfl (Nat.le_of_ble_eq_true rfl) ⟨Nat.le_of_ble_eq_true rfl, Nat.le_of_ble_eq_true rfl⟩ ⟨Nat.le_of_ble_eq_true rfl, Nat.le_of_ble_eq_true rfl⟩ dX13_writeArticle_85) hZ (fun r85 _ H locs hp_56 hZ => ?_)
                    obtain ⟨_, _, rfl, _, rfl, rfl, rfl⟩ := hp_56
                    have hr_57 : -2147483648 ≤ mof (g5 0) (i0 : Int) (3 + 13 * w0) ∧ mof (g5 0) (i0 : Int) (3 + 13 * w0) ≤ 2147483647 := hw5.2 0 _
                    refine z_top (y := (wd.length : Int)) (by rw [e5]; exact hln) ?_
                    refine z_icmp_ge (tgt := 109) hx hb dX13_writeArticle_88 (by decide) (by omega) (by omega) (fun c_58 => ?_) (fun c_58 => ?_)
                    · skip
                      refine z_iinc (lv' := [(3, .int (iI (w0 + 1))), (4, .int (iI k0)), (2, .int (iI (i0 : Int))), (0, .ref m0), (1, .int (iI x))]) hx hb dX13_writeArticle_109 hl (k := 1) rfl (by decide) rfl (fun ls hl => ?_)
                      refine lv_goto (tgt := 52) hx hb dX13_writeArticle_112 (by decide) ?_
                      exact ih52 (w0 + 1) v5 g5 (by omega) (by omega) hi80_1 hi80_2 (by rw [zwt_s (by omega) hwt, ← List.append_assoc, ← List.append_assoc]; have hkk : wd.take k0.toNat = wd := List.take_of_length_le (by omega); rw [hkk] at hi80_3; exact hi80_3) hw5 _ _ hZ ls (lv_sub hl [0, 2, 3, 4] rfl)
                    · skip
                      refine lv_aload_n hx hb dX13_writeArticle_91 rfl (lv_at hl 3 rfl) ?_
                      refine lv_aload_n hx hb dX13_writeArticle_92 rfl (lv_at hl 3 rfl) ?_
                      refine lv_iload_n hx hb dX13_writeArticle_93 rfl (lv_at hl 2 rfl) ?_
                      refine lv_iload_n hx hb dX13_writeArticle_94 rfl (lv_at hl 1 rfl) ?_
                      refine lv_iload hx hb dX13_writeArticle_95 (lv_at hl 0 rfl) ?_
                      have hl1 := hlt k0 (by omega) (by omega)
                      refine z_calli (z_runV (rest := [.ref m0]) (As := [.int (iI (i0 : Int)), .int (iI w0), .int (iI k0)]) (n := 3) (ci := 16) hC hZ (met_X13_letter l D cs A m0 ad v5 g5 (i0 : Int) w0 k0  hD hw5 (by omega) (by omega) (by omega) (by rw [e5]; omega)) gv_X13_136 hd_X13_letter rfl mW_o rfl hl rfl (Nat.le_of_ble_eq_true rfl) ⟨Nat.le_of_ble_eq_true rfl, Nat.le_of_ble_eq_true rfl⟩ ⟨Nat.le_of_ble_eq_true rfl, Nat.le_of_ble_eq_true rfl⟩ dX13_writeArticle_97) hZ (fun r97 _ H locs hp_59 hZ => ?_)
                      obtain ⟨_, _, rfl, _, rfl, rfl, rfl⟩ := hp_59
                      have hr_60 : -2147483648 ≤ mof (g5 0) (i0 : Int) (3 + 13 * w0 + 1 + k0) ∧ mof (g5 0) (i0 : Int) (3 + 13 * w0 + 1 + k0) ≤ 2147483647 := hw5.2 0 _
                      refine z_top (y := wd.getD k0.toNat 0) (by rw [e5]; exact hl1.1) ?_
                      refine z_callv (z_runV (rest := []) (As := [.int (iI (wd.getD k0.toNat 0))]) (n := 1) (ci := 16) hC hZ (met_X13_says l D cs A m0 ad v5 g5 (wd.getD k0.toNat 0) (zdig x ++ [33] ++ zdig a0.2.1 ++ zwt 58 (a0.2.2.take w0.toNat) ++ [if w0 = 0 then 58 else 32] ++ wd.take k0.toNat) hD hw5 (by omega) hi80_3 (by simp; omega)) gv_X13_229 hd_X13_says rfl mW_o rfl hl rfl (Nat.le_of_ble_eq_true rfl) ⟨Nat.le_of_ble_eq_true rfl, Nat.le_of_ble_eq_true rfl⟩ ⟨Nat.le_of_ble_eq_true rfl, Nat.le_of_ble_eq_true rfl⟩ dX13_writeArticle_100) hZ (fun _ H locs hp_61 hZ => ?_)
                      obtain ⟨v_63, g_64, rfl, hok_62, fv_65, fg_66, ho_67⟩ := hp_61
                      have e0_68 := fg_66 0 (by decide)
                      refine z_iinc (lv' := [(4, .int (iI (k0 + 1))), (3, .int (iI w0)), (2, .int (iI (i0 : Int))), (0, .ref m0), (1, .int (iI x))]) hx hb dX13_writeArticle_103 hl (k := 0) rfl (by decide) rfl (fun ls hl => ?_)
                      refine lv_goto (tgt := 80) hx hb dX13_writeArticle_106 (by decide) ?_
                      exact ih80 (k0 + 1) v_63 g_64 (by omega) (by omega) (fun k hk => (fv_65 k hk).trans (hi80_1 k hk)) (fun j hj => (fg_66 j hj).trans (hi80_2 j hj)) (by rw [take_s (by omega) (by omega), ← List.append_assoc]; exact ho_67) hok_62 _ _ hZ ls (lv_sub hl [0, 1, 2, 3, 4] rfl)
                exact L80_k_55 _ 0 v_49 g_50 (Nat.lt_succ_self _) (by omega) (fun k hk => (fv_51 k hk).trans (hi52_1 k hk)) (fun j hj => (fg_52 j hj).trans (hi52_2 j hj)) (by simpa using ho_53) hok_48 _ _ hZ ls (lv_sub hl [0, 1, 2, 3, 4] rfl)
              · skip
                refine z_bipush hx hb dX13_writeArticle_67 (by decide) ?_
                refine lv_goto (tgt := 74) hx hb dX13_writeArticle_69 (by decide) ?_
                refine z_top (y := (if w0 = 0 then 58 else 32)) (by first | rw [if_pos (by omega)] | rw [if_neg (by omega)]) ?_
                refine z_callv (z_runV (rest := []) (As := [.int (iI (if w0 = 0 then 58 else 32))]) (n := 1) (ci := 16) hC hZ (met_X13_says l D cs A m0 ad v4 g4 (if w0 = 0 then 58 else 32) (zdig x ++ [33] ++ zdig a0.2.1 ++ zwt 58 (a0.2.2.take w0.toNat)) hD hw (by split <;> omega) hi52_3 (by simp; omega)) gv_X13_229 hd_X13_says rfl mW_o rfl hl rfl (Nat.le_of_ble_eq_true rfl) ⟨Nat.le_of_ble_eq_true rfl, Nat.le_of_ble_eq_true rfl⟩ ⟨Nat.le_of_ble_eq_true rfl, Nat.le_of_ble_eq_true rfl⟩ dX13_writeArticle_74) hZ (fun _ H locs hp_69 hZ => ?_)
                obtain ⟨v_71, g_72, rfl, hok_70, fv_73, fg_74, ho_75⟩ := hp_69
                have e0_76 := fg_74 0 (by decide)
                refine z_iconst hx hb dX13_writeArticle_77 ?_
                refine lv_istore (lv' := [(4, .int (iI 0)), (3, .int (iI w0)), (2, .int (iI (i0 : Int))), (0, .ref m0), (1, .int (iI x))]) hx hb dX13_writeArticle_78 hl (by decide) rfl (fun ls hl => ?_)
                have L80_k_77 : ∀ (fu : Nat) (k0 : Int) (v5 : Nat → Int) (g5 : Nat → Int → Int) (hfu : ((wd.length : Int) - k0).toNat < fu) (hi80_0 : 0 ≤ k0 ∧ k0 ≤ wd.length) (hi80_1 : ∀ k, k ≠ 15 → v5 k = (upN (upN v 6 0) 15 0) k) (hi80_2 : ∀ j, j ≠ 14 → g5 j = g j) (hi80_3 : mO v5 g5 (zdig x ++ [33] ++ zdig a0.2.1 ++ zwt 58 (a0.2.2.take w0.toNat) ++ [if w0 = 0 then 58 else 32] ++ wd.take k0.toNat)) (hw5 : mOK v5 g5) (H : Heap) (locs : List Loc) (hZ : zS D A s (mW cs m0 ad v5 g5) H locs) (ls : Array Slot) (hl : lv_has ls 5 [(4, .int (iI k0)), (3, .int (iI w0)), (2, .int (iI (i0 : Int))), (0, .ref m0), (1, .int (iI x))]), W p l e (zR 5 0 0) s m [.ref m0, .int (iI x)].toArray below meth c H locs 0 0 (MQ below (zQ D A (mP cs m0 ad (fun r v1 g1 => mWr v g r v1 g1 (sWr c0 x).1 (sWr c0 x).2))) [.ref m0, .int (iI x)].toArray s 0 0 A) (F0 m 80 ls []) := by
                  intro fu
                  induction fu with
                  | zero =>
                    intro k0 v5 g5 hfu
                    exact absurd hfu (Nat.not_lt_zero _)
                  | succ fu ih80 =>
                    intro k0 v5 g5 hfu hi80_0 hi80_1 hi80_2 hi80_3 hw5 H locs hZ ls hl
                    have e5 : g5 0 = g 0 := hi80_2 0 (by decide)
                    refine lv_iload hx hb dX13_writeArticle_80 (lv_at hl 0 rfl) ?_
                    refine lv_aload_n hx hb dX13_writeArticle_82 rfl (lv_at hl 3 rfl) ?_
                    refine lv_iload_n hx hb dX13_writeArticle_83 rfl (lv_at hl 2 rfl) ?_
                    refine lv_iload_n hx hb dX13_writeArticle_84 rfl (lv_at hl 1 rfl) ?_
                    refine z_calli (z_runV (rest := [.int (iI k0)]) (As := [.int (iI (i0 : Int)), .int (iI w0)]) (n := 2) (ci := 16) hC hZ (met_X13_long1 l D cs A m0 ad v5 g5 (i0 : Int) w0  hD hw5 (by omega) (by omega)) gv_X13_113 hd_X13_long1 rfl mW_o rfl hl rfl (Nat.le_of_ble_eq_true rfl) ⟨Nat.le_of_ble_eq_true rfl, Nat.le_of_ble_eq_true rfl⟩ ⟨Nat.le_of_ble_eq_true rfl, Nat.le_of_ble_eq_true rfl⟩ dX13_writeArticle_85) hZ (fun r85 _ H locs hp_78 hZ => ?_)
                    obtain ⟨_, _, rfl, _, rfl, rfl, rfl⟩ := hp_78
                    have hr_79 : -2147483648 ≤ mof (g5 0) (i0 : Int) (3 + 13 * w0) ∧ mof (g5 0) (i0 : Int) (3 + 13 * w0) ≤ 2147483647 := hw5.2 0 _
                    refine z_top (y := (wd.length : Int)) (by rw [e5]; exact hln) ?_
                    refine z_icmp_ge (tgt := 109) hx hb dX13_writeArticle_88 (by decide) (by omega) (by omega) (fun c_80 => ?_) (fun c_80 => ?_)
                    · skip
                      refine z_iinc (lv' := [(3, .int (iI (w0 + 1))), (4, .int (iI k0)), (2, .int (iI (i0 : Int))), (0, .ref m0), (1, .int (iI x))]) hx hb dX13_writeArticle_109 hl (k := 1) rfl (by decide) rfl (fun ls hl => ?_)
                      refine lv_goto (tgt := 52) hx hb dX13_writeArticle_112 (by decide) ?_
                      exact ih52 (w0 + 1) v5 g5 (by omega) (by omega) hi80_1 hi80_2 (by rw [zwt_s (by omega) hwt, ← List.append_assoc, ← List.append_assoc]; have hkk : wd.take k0.toNat = wd := List.take_of_length_le (by omega); rw [hkk] at hi80_3; exact hi80_3) hw5 _ _ hZ ls (lv_sub hl [0, 2, 3, 4] rfl)
                    · skip
                      refine lv_aload_n hx hb dX13_writeArticle_91 rfl (lv_at hl 3 rfl) ?_
                      refine lv_aload_n hx hb dX13_writeArticle_92 rfl (lv_at hl 3 rfl) ?_
                      refine lv_iload_n hx hb dX13_writeArticle_93 rfl (lv_at hl 2 rfl) ?_
                      refine lv_iload_n hx hb dX13_writeArticle_94 rfl (lv_at hl 1 rfl) ?_
                      refine lv_iload hx hb dX13_writeArticle_95 (lv_at hl 0 rfl) ?_
                      have hl1 := hlt k0 (by omega) (by omega)
                      refine z_calli (z_runV (rest := [.ref m0]) (As := [.int (iI (i0 : Int)), .int (iI w0), .int (iI k0)]) (n := 3) (ci := 16) hC hZ (met_X13_letter l D cs A m0 ad v5 g5 (i0 : Int) w0 k0  hD hw5 (by omega) (by omega) (by omega) (by rw [e5]; omega)) gv_X13_136 hd_X13_letter rfl mW_o rfl hl rfl (Nat.le_of_ble_eq_true rfl) ⟨Nat.le_of_ble_eq_true rfl, Nat.le_of_ble_eq_true rfl⟩ ⟨Nat.le_of_ble_eq_true rfl, Nat.le_of_ble_eq_true rfl⟩ dX13_writeArticle_97) hZ (fun r97 _ H locs hp_81 hZ => ?_)
                      obtain ⟨_, _, rfl, _, rfl, rfl, rfl⟩ := hp_81
                      have hr_82 : -2147483648 ≤ mof (g5 0) (i0 : Int) (3 + 13 * w0 + 1 + k0) ∧ mof (g5 0) (i0 : Int) (3 + 13 * w0 + 1 + k0) ≤ 2147483647 := hw5.2 0 _
                      refine z_top (y := wd.getD k0.toNat 0) (by rw [e5]; exact hl1.1) ?_
                      refine z_callv (z_runV (rest := []) (As := [.int (iI (wd.getD k0.toNat 0))]) (n := 1) (ci := 16) hC hZ (met_X13_says l D cs A m0 ad v5 g5 (wd.getD k0.toNat 0) (zdig x ++ [33] ++ zdig a0.2.1 ++ zwt 58 (a0.2.2.take w0.toNat) ++ [if w0 = 0 then 58 else 32] ++ wd.take k0.toNat) hD hw5 (by omega) hi80_3 (by simp; omega)) gv_X13_229 hd_X13_says rfl mW_o rfl hl rfl (Nat.le_of_ble_eq_true rfl) ⟨Nat.le_of_ble_eq_true rfl, Nat.le_of_ble_eq_true rfl⟩ ⟨Nat.le_of_ble_eq_true rfl, Nat.le_of_ble_eq_true rfl⟩ dX13_writeArticle_100) hZ (fun _ H locs hp_83 hZ => ?_)
                      obtain ⟨v_85, g_86, rfl, hok_84, fv_87, fg_88, ho_89⟩ := hp_83
                      have e0_90 := fg_88 0 (by decide)
                      refine z_iinc (lv' := [(4, .int (iI (k0 + 1))), (3, .int (iI w0)), (2, .int (iI (i0 : Int))), (0, .ref m0), (1, .int (iI x))]) hx hb dX13_writeArticle_103 hl (k := 0) rfl (by decide) rfl (fun ls hl => ?_)
                      refine lv_goto (tgt := 80) hx hb dX13_writeArticle_106 (by decide) ?_
                      exact ih80 (k0 + 1) v_85 g_86 (by omega) (by omega) (fun k hk => (fv_87 k hk).trans (hi80_1 k hk)) (fun j hj => (fg_88 j hj).trans (hi80_2 j hj)) (by rw [take_s (by omega) (by omega), ← List.append_assoc]; exact ho_89) hok_84 _ _ hZ ls (lv_sub hl [0, 1, 2, 3, 4] rfl)
                exact L80_k_77 _ 0 v_71 g_72 (Nat.lt_succ_self _) (by omega) (fun k hk => (fv_73 k hk).trans (hi52_1 k hk)) (fun j hj => (fg_74 j hj).trans (hi52_2 j hj)) (by simpa using ho_75) hok_70 _ _ hZ ls (lv_sub hl [0, 1, 2, 3, 4] rfl)
        exact L52_k_41 _ 0 v_33 g_34 (Nat.lt_succ_self _) (by omega) cv_38 cg_39 (by simpa [zwt] using ho_37) hok_32 _ _ hZ ls (lv_sub hl [0, 1, 2, 3] rfl)
      · skip
        exfalso; omega

