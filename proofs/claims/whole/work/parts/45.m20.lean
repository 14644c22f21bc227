set_option maxHeartbeats 4000000 in
set_option maxRecDepth 100000 in
theorem met_X13_leastBadness (l : Launch) (D : va_G) (cs : Nat → ClassId) (A : Nat → Prop) (m0 : Nat) (ad : Nat → Nat) (v : Nat → Int) (g : Nat → Int → Int) (x : Int)  (N : Nat) (c0 : zCo) (hD : mD m0 ad) (hok : mOK v g) (hR : mR (g 0) c0) (hK : cOK N c0) (hx0 : InR x) : zM l D cs A yX13_leastBadness cX13_leastBadness 10 (some FieldType.int) 3 0 0 [.ref m0, .int (iI x)] (mW cs m0 ad v g) (mP cs m0 ad (fun r v1 g1 => upN v 6 (sLb c0 x).1 = v1 ∧ (∀ j, j ≠ 13 → g1 j = g j) ∧ ((sLb c0 x).1 = 0 → r = (sLb c0 x).2))) := by
  refine zM_of (own := RX13) (by decide) rfl (Nat.le_of_ble_eq_true rfl) ?_
  intro p e s m below meth c hC hr hlk hnm hZ ls hl
  have hx := hC.x
  have hb := hC.b
  have hl : lv_has ls 10 [(0, .ref m0), (1, .int (iI x))] := hl
  have hn := mR_n hR hK
  have hg2 := hR.2.2.1
  have hwi := hK.2.2.2.2.2.2.2.2.1
  refine lv_aload_n hx hb dX13_leastBadness_0 rfl (lv_at hl 0 rfl) ?_
  refine lv_iload_n hx hb dX13_leastBadness_1 rfl (lv_at hl 1 rfl) ?_
  refine z_calli (z_runV (rest := []) (As := [.int (iI x)]) (n := 1) (ci := 16) hC hZ (met_X13_placeOf l D cs A m0 ad v g x  hD hok (by omega) hn) gv_X13_103 hd_X13_placeOf rfl mW_o rfl hl rfl (Nat.le_of_ble_eq_true rfl) ⟨Nat.le_of_ble_eq_true rfl, Nat.le_of_ble_eq_true rfl⟩ ⟨Nat.le_of_ble_eq_true rfl, Nat.le_of_ble_eq_true rfl⟩ dX13_leastBadness_2) hZ (fun r2 _ H locs hp_1 hZ => ?_)
  obtain ⟨_, _, rfl, _, rfl, rfl, hp_1⟩ := hp_1
  rcases mPl_fa hR hK hp_1 with ⟨hz, hzi, er⟩ | ⟨i0, a0, hz, hzi, er, hi, hid, hib, hra, hka⟩
  · skip
    subst er
    refine lv_istore_n (lv' := [(2, .int (iI (-1))), (0, .ref m0), (1, .int (iI x))]) hx hb dX13_leastBadness_5 rfl hl (by decide) rfl (fun ls hl => ?_)
    refine lv_iload_n hx hb dX13_leastBadness_6 rfl (lv_at hl 0 rfl) ?_
    refine z_if_ge (tgt := 14) hx hb dX13_leastBadness_7 (by decide) (by decide) (fun c_2 => ?_) (fun c_2 => ?_)
    · skip
      exfalso; omega
    · skip
      refine z_iconst hx hb dX13_leastBadness_10 ?_
      refine lv_goto (tgt := 20) hx hb dX13_leastBadness_11 (by decide) ?_
      refine lv_istore_n (lv' := [(3, .int (iI 0)), (2, .int (iI (-1))), (0, .ref m0), (1, .int (iI x))]) hx hb dX13_leastBadness_20 rfl hl (by decide) rfl (fun ls hl => ?_)
      refine z_iconst hx hb dX13_leastBadness_21 ?_
      refine lv_istore (lv' := [(4, .int (iI 0)), (3, .int (iI 0)), (2, .int (iI (-1))), (0, .ref m0), (1, .int (iI x))]) hx hb dX13_leastBadness_22 hl (by decide) rfl (fun ls hl => ?_)
      refine z_iconst hx hb dX13_leastBadness_24 ?_
      refine lv_istore (lv' := [(5, .int (iI 0)), (4, .int (iI 0)), (3, .int (iI 0)), (2, .int (iI (-1))), (0, .ref m0), (1, .int (iI x))]) hx hb dX13_leastBadness_25 hl (by decide) rfl (fun ls hl => ?_)
      refine lv_iload hx hb dX13_leastBadness_27 (lv_at hl 0 rfl) ?_
      refine lv_iload_n hx hb dX13_leastBadness_29 rfl (lv_at hl 2 rfl) ?_
      refine z_icmp_ge (tgt := 53) hx hb dX13_leastBadness_30 (by decide) (by decide) (by decide) (fun c_3 => ?_) (fun c_3 => ?_)
      · skip
        refine lv_aload_n hx hb dX13_leastBadness_53 rfl (lv_at hl 4 rfl) ?_
        refine lv_iload_n hx hb dX13_leastBadness_54 rfl (lv_at hl 3 rfl) ?_
        refine z_if_ge (tgt := 62) hx hb dX13_leastBadness_55 (by decide) (by decide) (fun c_4 => ?_) (fun c_4 => ?_)
        · skip
          exfalso; omega
        · skip
          refine z_iconst hx hb dX13_leastBadness_58 ?_
          refine lv_goto (tgt := 78) hx hb dX13_leastBadness_59 (by decide) ?_
          refine m_put hC hZ 6 (ty := .int) (by decide) ql_X13_55 rfl rfl rfl (Or.inl rfl) rfl dX13_leastBadness_78 (fun H locs hZ => ?_)
          have hok_5 := hok.v (k := 6) (x := 1) (by decide)
          refine lv_aload_n hx hb dX13_leastBadness_81 rfl (lv_at hl 4 rfl) ?_
          refine m_get hC hZ 13 (x := .ref (ad 13)) rfl (by decide) ql_X13_36 rfl dX13_leastBadness_82 ?_
          refine lv_iload_n hx hb dX13_leastBadness_85 rfl (lv_at hl 2 rfl) ?_
          refine z_iconst hx hb dX13_leastBadness_86 ?_
          refine m_iast hC hZ hD 13 (by decide) (f := g 13) rfl rfl (by decide) (by decide) dX13_leastBadness_87 (fun H locs hZ => ?_)
          have hok_6 := hok_5.g (k := 13) (i := 0) (x := 0) (f := g 13) rfl (by decide)
          refine lv_iload_n hx hb dX13_leastBadness_88 rfl (lv_at hl 2 rfl) ?_
          refine z_iconst hx hb dX13_leastBadness_89 ?_
          refine z_isub hx hb dX13_leastBadness_90 ?_
          refine z_top (y := -1) (by decide) ?_
          refine lv_istore (lv' := [(5, .int (iI (-1))), (4, .int (iI 0)), (3, .int (iI 0)), (2, .int (iI (-1))), (0, .ref m0), (1, .int (iI x))]) hx hb dX13_leastBadness_91 hl (by decide) rfl (fun ls hl => ?_)
          refine lv_iload hx hb dX13_leastBadness_93 (lv_at hl 0 rfl) ?_
          refine z_if_lt (tgt := 227) hx hb dX13_leastBadness_95 (by decide) (by decide) (fun c_7 => ?_) (fun c_7 => ?_)
          · skip
            refine lv_aload_n hx hb dX13_leastBadness_227 rfl (lv_at hl 4 rfl) ?_
            refine m_get hC hZ 6 (x := .int (iI 1)) rfl (by decide) ql_X13_55 rfl dX13_leastBadness_228 ?_
            refine z_if_le (tgt := 238) hx hb dX13_leastBadness_231 (by decide) (by decide) (fun c_8 => ?_) (fun c_8 => ?_)
            · skip
              exfalso; omega
            · skip
              refine z_iconst hx hb dX13_leastBadness_234 ?_
              refine lv_goto (tgt := 244) hx hb dX13_leastBadness_235 (by decide) ?_
              exact z_iret hC hr hlk hZ (by decide) (by decide) (⟨_, _, rfl, hok_6, by unfold sLb; rw [hz], fun j hj => upG_n hj, fun q => by unfold sLb at q; rw [hz] at q; exact absurd (show (1 : Int) = 0 from q) (by decide)⟩) dX13_leastBadness_244
          · skip
            exfalso; omega
      · skip
        exfalso; omega
  · skip
    subst er
    have hra2 := hra.2.2.1
    have hk30 := hka.2.2.1
    refine lv_istore_n (lv' := [(2, .int (iI (i0 : Int))), (0, .ref m0), (1, .int (iI x))]) hx hb dX13_leastBadness_5 rfl hl (by decide) rfl (fun ls hl => ?_)
    refine lv_iload_n hx hb dX13_leastBadness_6 rfl (lv_at hl 0 rfl) ?_
    refine z_if_ge (tgt := 14) hx hb dX13_leastBadness_7 (by decide) (by omega) (fun c_9 => ?_) (fun c_9 => ?_)
    · skip
      refine lv_aload_n hx hb dX13_leastBadness_14 rfl (lv_at hl 1 rfl) ?_
      refine lv_iload_n hx hb dX13_leastBadness_15 rfl (lv_at hl 0 rfl) ?_
      refine z_iconst hx hb dX13_leastBadness_16 ?_
      refine z_calli (z_runV (rest := []) (As := [.int (iI (i0 : Int)), .int (iI 2)]) (n := 2) (ci := 16) hC hZ (met_X13_of l D cs A m0 ad v g (i0 : Int) 2  hD hok (by omega) (by omega)) gv_X13_67 hd_X13_of rfl mW_o rfl hl rfl (Nat.le_of_ble_eq_true rfl) ⟨Nat.le_of_ble_eq_true rfl, Nat.le_of_ble_eq_true rfl⟩ ⟨Nat.le_of_ble_eq_true rfl, Nat.le_of_ble_eq_true rfl⟩ dX13_leastBadness_17) hZ (fun r17 _ H locs hp_10 hZ => ?_)
      obtain ⟨_, _, rfl, _, rfl, rfl, rfl⟩ := hp_10
      have hr_11 : -2147483648 ≤ mof (g 0) (i0 : Int) 2 ∧ mof (g 0) (i0 : Int) 2 ≤ 2147483647 := hok.2 0 _
      refine z_top (y := (a0.2.2.length : Int)) hra2 ?_
      refine lv_istore_n (lv' := [(3, .int (iI (a0.2.2.length : Int))), (2, .int (iI (i0 : Int))), (0, .ref m0), (1, .int (iI x))]) hx hb dX13_leastBadness_20 rfl hl (by decide) rfl (fun ls hl => ?_)
      refine z_iconst hx hb dX13_leastBadness_21 ?_
      refine lv_istore (lv' := [(4, .int (iI 0)), (3, .int (iI (a0.2.2.length : Int))), (2, .int (iI (i0 : Int))), (0, .ref m0), (1, .int (iI x))]) hx hb dX13_leastBadness_22 hl (by decide) rfl (fun ls hl => ?_)
      refine z_iconst hx hb dX13_leastBadness_24 ?_
      refine lv_istore (lv' := [(5, .int (iI 0)), (4, .int (iI 0)), (3, .int (iI (a0.2.2.length : Int))), (2, .int (iI (i0 : Int))), (0, .ref m0), (1, .int (iI x))]) hx hb dX13_leastBadness_25 hl (by decide) rfl (fun ls hl => ?_)
      have L27_k_12 : ∀ (fu : Nat) (q k : Int)  (hfu : ((a0.2.2.length : Int) - k).toNat < fu) (hi27_0 : 0 ≤ k ∧ k ≤ a0.2.2.length) (hi27_1 : 0 ≤ q ∧ q ≤ 12) (hi27_2 : ∀ (i : Nat) (wd : zWd), a0.2.2[i]? = some wd → (i : Int) < k → (wd.length : Int) ≤ q) (hi27_3 : q = 0 ∨ ∃ wd ∈ a0.2.2, (wd.length : Int) = q) (H : Heap) (locs : List Loc) (hZ : zS D A s (mW cs m0 ad v g) H locs) (ls : Array Slot) (hl : lv_has ls 10 [(5, .int (iI k)), (4, .int (iI q)), (3, .int (iI (a0.2.2.length : Int))), (2, .int (iI (i0 : Int))), (0, .ref m0), (1, .int (iI x))]), W p l e (zR 3 0 0) s m [.ref m0, .int (iI x)].toArray below meth c H locs 0 0 (MQ below (zQ D A (mP cs m0 ad (fun r v1 g1 => upN v 6 (sLb c0 x).1 = v1 ∧ (∀ j, j ≠ 13 → g1 j = g j) ∧ ((sLb c0 x).1 = 0 → r = (sLb c0 x).2)))) [.ref m0, .int (iI x)].toArray s 0 0 A) (F0 m 27 ls []) := by
        intro fu
        induction fu with
        | zero =>
          intro q k  hfu
          exact absurd hfu (Nat.not_lt_zero _)
        | succ fu ih27 =>
          intro q k  hfu hi27_0 hi27_1 hi27_2 hi27_3  H locs hZ ls hl
          refine lv_iload hx hb dX13_leastBadness_27 (lv_at hl 0 rfl) ?_
          refine lv_iload_n hx hb dX13_leastBadness_29 rfl (lv_at hl 2 rfl) ?_
          refine z_icmp_ge (tgt := 53) hx hb dX13_leastBadness_30 (by decide) (by omega) (by omega) (fun c_13 => ?_) (fun c_13 => ?_)
          · skip
            have hkl : k = a0.2.2.length := by omega
            refine lv_aload_n hx hb dX13_leastBadness_53 rfl (lv_at hl 4 rfl) ?_
            refine lv_iload_n hx hb dX13_leastBadness_54 rfl (lv_at hl 3 rfl) ?_
            refine z_if_ge (tgt := 62) hx hb dX13_leastBadness_55 (by decide) (by omega) (fun c_14 => ?_) (fun c_14 => ?_)
            · skip
              refine lv_iload hx hb dX13_leastBadness_62 (lv_at hl 1 rfl) ?_
              refine lv_aload_n hx hb dX13_leastBadness_64 rfl (lv_at hl 4 rfl) ?_
              refine m_get hC hZ 0 (x := .ref (ad 0)) rfl (by decide) ql_X13_9 rfl dX13_leastBadness_65 ?_
              refine z_iconst hx hb dX13_leastBadness_68 ?_
              refine m_iald hC hZ hD 0 (by decide) (f := g 0) rfl rfl (by decide) (by decide) dX13_leastBadness_69 ?_
              have hr_15 : -2147483648 ≤ (g 0) 2 ∧ (g 0) 2 ≤ 2147483647 := hok.2 0 _
              refine z_top (y := cWi c0) hg2 ?_
              refine z_icmp_le (tgt := 77) hx hb dX13_leastBadness_70 (by decide) (by omega) (by omega) (fun c_16 => ?_) (fun c_16 => ?_)
              · skip
                have hall : ∀ wd ∈ a0.2.2, (wd.length : Int) ≤ cWi c0 := fun wd hwd => by
                  obtain ⟨i, hi1⟩ := List.getElem?_of_mem hwd
                  have := hi27_2 i wd hi1 (by have := (List.getElem?_eq_some_iff.mp hi1).1; omega)
                  omega
                have hfit := zlens_fit hka hall
                have hsl : sLb c0 x = (0, zlb (cWi c0) (zlens a0)) := by
                  unfold sLb; rw [hz]; simp only []; rw [if_pos (List.all_eq_true.mpr (fun wd hwd => decide_eq_true (hall wd hwd)))]
                refine z_iconst hx hb dX13_leastBadness_77 ?_
                refine m_put hC hZ 6 (ty := .int) (by decide) ql_X13_55 rfl rfl rfl (Or.inl rfl) rfl dX13_leastBadness_78 (fun H locs hZ => ?_)
                have hok_17 := hok.v (k := 6) (x := 0) (by decide)
                refine lv_aload_n hx hb dX13_leastBadness_81 rfl (lv_at hl 4 rfl) ?_
                refine m_get hC hZ 13 (x := .ref (ad 13)) rfl (by decide) ql_X13_36 rfl dX13_leastBadness_82 ?_
                refine lv_iload_n hx hb dX13_leastBadness_85 rfl (lv_at hl 2 rfl) ?_
                refine z_iconst hx hb dX13_leastBadness_86 ?_
                refine m_iast hC hZ hD 13 (by decide) (f := g 13) rfl rfl (by show _ ∧ _ < (31 : Int); omega) (by decide) dX13_leastBadness_87 (fun H locs hZ => ?_)
                have hok_18 := hok_17.g (k := 13) (i := (a0.2.2.length : Int)) (x := 0) (f := g 13) rfl (by decide)
                refine lv_iload_n hx hb dX13_leastBadness_88 rfl (lv_at hl 2 rfl) ?_
                refine z_iconst hx hb dX13_leastBadness_89 ?_
                refine z_isub hx hb dX13_leastBadness_90 ?_
                refine lv_istore (lv' := [(5, .int (iI ((a0.2.2.length : Int) - 1))), (4, .int (iI q)), (3, .int (iI (a0.2.2.length : Int))), (2, .int (iI (i0 : Int))), (0, .ref m0), (1, .int (iI x))]) hx hb dX13_leastBadness_91 hl (by decide) rfl (fun ls hl => ?_)
                have L93_k_19 : ∀ (fu : Nat) (f : Int) (g2 : Nat → Int → Int) (hfu : (f + 1).toNat < fu) (hi93_0 : -1 ≤ f ∧ f ≤ (a0.2.2.length : Int) - 1) (hi93_1 : ∀ j, j ≠ 13 → g2 j = g j) (hi93_2 : ∀ i : Nat, f < (i : Int) → i ≤ a0.2.2.length → g2 13 i = zlb (cWi c0) ((zlens a0).drop i)) (hw : mOK (upN v 6 0) g2) (H : Heap) (locs : List Loc) (hZ : zS D A s (mW cs m0 ad (upN v 6 0) g2) H locs) (ls : Array Slot) (hl : lv_has ls 10 [(5, .int (iI f)), (3, .int (iI (a0.2.2.length : Int))), (2, .int (iI (i0 : Int))), (0, .ref m0), (1, .int (iI x))]), W p l e (zR 3 0 0) s m [.ref m0, .int (iI x)].toArray below meth c H locs 0 0 (MQ below (zQ D A (mP cs m0 ad (fun r v1 g1 => upN v 6 (sLb c0 x).1 = v1 ∧ (∀ j, j ≠ 13 → g1 j = g j) ∧ ((sLb c0 x).1 = 0 → r = (sLb c0 x).2)))) [.ref m0, .int (iI x)].toArray s 0 0 A) (F0 m 93 ls []) := by
                  intro fu
                  induction fu with
                  | zero =>
                    intro f g2 hfu
                    exact absurd hfu (Nat.not_lt_zero _)
                  | succ fu ih93 =>
                    intro f g2 hfu hi93_0 hi93_1 hi93_2 hw H locs hZ ls hl
                    have e0 : g2 0 = g 0 := hi93_1 0 (by decide)
                    refine lv_iload hx hb dX13_leastBadness_93 (lv_at hl 0 rfl) ?_
                    refine z_if_lt (tgt := 227) hx hb dX13_leastBadness_95 (by decide) (by omega) (fun c_20 => ?_) (fun c_20 => ?_)
                    · skip
                      refine lv_aload_n hx hb dX13_leastBadness_227 rfl (lv_at hl 3 rfl) ?_
                      refine m_get hC hZ 6 (x := .int (iI 0)) rfl (by decide) ql_X13_55 rfl dX13_leastBadness_228 ?_
                      refine z_if_le (tgt := 238) hx hb dX13_leastBadness_231 (by decide) (by decide) (fun c_21 => ?_) (fun c_21 => ?_)
                      · skip
                        refine lv_aload_n hx hb dX13_leastBadness_238 rfl (lv_at hl 3 rfl) ?_
                        refine m_get hC hZ 13 (x := .ref (ad 13)) rfl (by decide) ql_X13_36 rfl dX13_leastBadness_239 ?_
                        refine z_iconst hx hb dX13_leastBadness_242 ?_
                        refine m_iald hC hZ hD 13 (by decide) (f := g2 13) rfl rfl (by decide) (by decide) dX13_leastBadness_243 ?_
                        have hr_22 : -2147483648 ≤ (g2 13) 0 ∧ (g2 13) 0 ≤ 2147483647 := hw.2 13 _
                        exact z_iret hC hr hlk hZ (by decide) (by decide) (⟨_, _, rfl, hw, by rw [hsl], hi93_1, fun _ => by rw [hsl]; have h := hi93_2 0 (by omega) (by omega); rw [List.drop_zero] at h; exact h⟩) dX13_leastBadness_244
                      · skip
                        exfalso; omega
                    · skip
                      obtain ⟨wf, hwf⟩ : ∃ wd, a0.2.2[f.toNat]? = some wd := ⟨_, List.getElem?_eq_getElem (by omega)⟩
                      have hfl2 := (hka.2.2.2 wf (List.mem_of_getElem? hwf)).1
                      have hzll := zlens_l a0
                      refine lv_aload_n hx hb dX13_leastBadness_98 rfl (lv_at hl 3 rfl) ?_
                      refine m_get hC hZ 6 (x := .int (iI 0)) rfl (by decide) ql_X13_55 rfl dX13_leastBadness_99 ?_
                      refine z_if_ne (tgt := 227) hx hb dX13_leastBadness_102 (by decide) (by decide) (fun c_23 => ?_) (fun c_23 => ?_)
                      · skip
                        exfalso; omega
                      · skip
                        refine z_iconst hx hb dX13_leastBadness_105 ?_
                        refine lv_istore (lv' := [(6, .int (iI (-1))), (5, .int (iI f)), (3, .int (iI (a0.2.2.length : Int))), (2, .int (iI (i0 : Int))), (0, .ref m0), (1, .int (iI x))]) hx hb dX13_leastBadness_106 hl (by decide) rfl (fun ls hl => ?_)
                        refine lv_aload_n hx hb dX13_leastBadness_108 rfl (lv_at hl 4 rfl) ?_
                        refine m_get hC hZ 13 (x := .ref (ad 13)) rfl (by decide) ql_X13_36 rfl dX13_leastBadness_109 ?_
                        refine lv_iload hx hb dX13_leastBadness_112 (lv_at hl 1 rfl) ?_
                        refine z_ldc (z := 2147483647) hC q_1940 (by decide) dX13_leastBadness_114 ?_
                        refine m_iast hC hZ hD 13 (by decide) (f := g2 13) rfl rfl (by show _ ∧ _ < (31 : Int); omega) (by decide) dX13_leastBadness_116 (fun H locs hZ => ?_)
                        have hok_24 := hw.g (k := 13) (i := f) (x := 2147483647) (f := g2 13) rfl (by decide)
                        refine lv_iload hx hb dX13_leastBadness_117 (lv_at hl 1 rfl) ?_
                        refine lv_istore (lv' := [(7, .int (iI f)), (6, .int (iI (-1))), (5, .int (iI f)), (3, .int (iI (a0.2.2.length : Int))), (2, .int (iI (i0 : Int))), (0, .ref m0), (1, .int (iI x))]) hx hb dX13_leastBadness_119 hl (by decide) rfl (fun ls hl => ?_)
                        have L121_k_25 : ∀ (fu : Nat) (sm k : Int) (g3 : Nat → Int → Int) (hfu : ((a0.2.2.length : Int) - k).toNat < fu) (hi121_0 : f ≤ k ∧ k ≤ a0.2.2.length) (hi121_1 : ∀ j, j ≠ 13 → g3 j = g2 j) (hi121_2 : ∀ i : Int, i ≠ f → g3 13 i = g2 13 i) (hi121_3 : -1 ≤ sm ∧ sm ≤ 13 * k) (hi121_4 : (k = f ∧ sm = -1 ∧ g3 13 f = 2147483647) ∨ (f < k ∧ 0 ≤ g3 13 f ∧ g3 13 f ≤ 1000000)) (hi121_5 : zsc (cWi c0) sm (g3 13 f) ((zlens a0).drop k.toNat) = zlb (cWi c0) ((zlens a0).drop f.toNat)) (hw3 : mOK (upN v 6 0) g3) (H : Heap) (locs : List Loc) (hZ : zS D A s (mW cs m0 ad (upN v 6 0) g3) H locs) (ls : Array Slot) (hl : lv_has ls 10 [(7, .int (iI k)), (6, .int (iI sm)), (5, .int (iI f)), (3, .int (iI (a0.2.2.length : Int))), (2, .int (iI (i0 : Int))), (0, .ref m0), (1, .int (iI x))]), W p l e (zR 3 0 0) s m [.ref m0, .int (iI x)].toArray below meth c H locs 0 0 (MQ below (zQ D A (mP cs m0 ad (fun r v1 g1 => upN v 6 (sLb c0 x).1 = v1 ∧ (∀ j, j ≠ 13 → g1 j = g j) ∧ ((sLb c0 x).1 = 0 → r = (sLb c0 x).2)))) [.ref m0, .int (iI x)].toArray s 0 0 A) (F0 m 121 ls []) := by
                          intro fu
                          induction fu with
                          | zero =>
                            intro sm k g3 hfu
                            exact absurd hfu (Nat.not_lt_zero _)
                          | succ fu ih121 =>
                            intro sm k g3 hfu hi121_0 hi121_1 hi121_2 hi121_3 hi121_4 hi121_5 hw3 H locs hZ ls hl
                            have e03 : g3 0 = g 0 := (hi121_1 0 (by decide)).trans e0
                            refine lv_iload hx hb dX13_leastBadness_121 (lv_at hl 0 rfl) ?_
                            refine lv_iload_n hx hb dX13_leastBadness_123 rfl (lv_at hl 3 rfl) ?_
                            refine z_icmp_ge (tgt := 221) hx hb dX13_leastBadness_124 (by decide) (by omega) (by omega) (fun c_26 => ?_) (fun c_26 => ?_)
                            · skip
                              refine z_iinc (lv' := [(5, .int (iI (f + (-1)))), (7, .int (iI k)), (6, .int (iI sm)), (3, .int (iI (a0.2.2.length : Int))), (2, .int (iI (i0 : Int))), (0, .ref m0), (1, .int (iI x))]) hx hb dX13_leastBadness_221 hl (k := 2) rfl (by decide) rfl (fun ls hl => ?_)
                              refine lv_goto (tgt := 93) hx hb dX13_leastBadness_224 (by decide) ?_
                              exact ih93 (f + (-1)) g3 (by omega) (by omega) (fun j hj => (hi121_1 j hj).trans (hi93_1 j hj)) (fun i h1 h2 => by
                                              by_cases z : f < (i : Int)
                                              · rw [hi121_2 i (by omega)]; exact hi93_2 i z h2
                                              · rw [show (i : Int) = f by omega, show i = f.toNat by omega, ← hi121_5, List.drop_of_length_le (by rw [zlens_l]; omega)]; rfl) hw3 _ _ hZ ls (lv_sub hl [0, 3, 4, 5, 6] rfl)
                            · skip
                              obtain ⟨wd, hwt⟩ : ∃ wd, a0.2.2[k.toNat]? = some wd := ⟨_, List.getElem?_eq_getElem (by omega)⟩
                              have hwl := (hka.2.2.2 wd (List.mem_of_getElem? hwt)).1
                              have hlk := (hra.2.2.2 _ _ hwt).1
                              rw [Int.toNat_of_nonneg (by omega), ← e03] at hlk
                              have hstep := hi121_5
                              rw [zlens_d hwt] at hstep
                              unfold zsc at hstep
                              have hnx : g3 13 (k + 1) = zlb (cWi c0) ((zlens a0).drop (k.toNat + 1)) := by
                                rw [hi121_2 (k + 1) (by omega), show k + 1 = ((k.toNat + 1 : Nat) : Int) by omega]
                                exact hi93_2 _ (by omega) (by omega)
                              have hnb := zlb_bd (w := cWi c0) (by omega) _ (zfit_d hfit (k.toNat + 1))
                              have hwal := hall wd (List.mem_of_getElem? hwt)
                              have hnn := (zlb_nn (cWi c0) ((zlens a0).drop (k.toNat + 1))).1
                              rw [List.length_drop] at hnb
                              have hsq := sq_bd (z := cWi c0 - (sm + ((wd.length : Int) + 1))) (n := 500) (by omega)
                              have hsn := sq_nn (cWi c0 - (sm + ((wd.length : Int) + 1)))
                              have hsq9 := hsq
                              refine lv_iload hx hb dX13_leastBadness_127 (lv_at hl 1 rfl) ?_
                              refine lv_aload_n hx hb dX13_leastBadness_129 rfl (lv_at hl 5 rfl) ?_
                              refine lv_iload_n hx hb dX13_leastBadness_130 rfl (lv_at hl 4 rfl) ?_
                              refine lv_iload hx hb dX13_leastBadness_131 (lv_at hl 0 rfl) ?_
                              refine z_calli (z_runV (rest := [.int (iI sm)]) (As := [.int (iI (i0 : Int)), .int (iI k)]) (n := 2) (ci := 16) hC hZ (met_X13_long1 l D cs A m0 ad (upN v 6 0) g3 (i0 : Int) k  hD hw3 (by omega) (by omega)) gv_X13_113 hd_X13_long1 rfl mW_o rfl hl rfl (Nat.le_of_ble_eq_true rfl) ⟨Nat.le_of_ble_eq_true rfl, Nat.le_of_ble_eq_true rfl⟩ ⟨Nat.le_of_ble_eq_true rfl, Nat.le_of_ble_eq_true rfl⟩ dX13_leastBadness_133) hZ (fun r133 _ H locs hp_27 hZ => ?_)
                              obtain ⟨_, _, rfl, _, rfl, rfl, rfl⟩ := hp_27
                              have hr_28 : -2147483648 ≤ mof (g3 0) (i0 : Int) (3 + 13 * k) ∧ mof (g3 0) (i0 : Int) (3 + 13 * k) ≤ 2147483647 := hw3.2 0 _
                              refine z_top (y := (wd.length : Int)) hlk ?_
                              refine z_iconst hx hb dX13_leastBadness_136 ?_
                              refine z_iadd hx hb dX13_leastBadness_137 ?_
                              refine z_iadd hx hb dX13_leastBadness_138 ?_
                              refine lv_istore (lv' := [(6, .int (iI (sm + ((wd.length : Int) + 1)))), (7, .int (iI k)), (5, .int (iI f)), (3, .int (iI (a0.2.2.length : Int))), (2, .int (iI (i0 : Int))), (0, .ref m0), (1, .int (iI x))]) hx hb dX13_leastBadness_139 hl (by decide) rfl (fun ls hl => ?_)
                              refine lv_aload_n hx hb dX13_leastBadness_141 rfl (lv_at hl 5 rfl) ?_
                              refine m_get hC hZ 0 (x := .ref (ad 0)) rfl (by decide) ql_X13_9 rfl dX13_leastBadness_142 ?_
                              refine z_iconst hx hb dX13_leastBadness_145 ?_
                              refine m_iald hC hZ hD 0 (by decide) (f := g3 0) rfl rfl (by decide) (by decide) dX13_leastBadness_146 ?_
                              have hr_29 : -2147483648 ≤ (g3 0) 2 ∧ (g3 0) 2 ≤ 2147483647 := hw3.2 0 _
                              refine z_top (y := cWi c0) (by rw [e03]; exact hg2) ?_
                              refine lv_iload hx hb dX13_leastBadness_147 (lv_at hl 0 rfl) ?_
                              refine z_isub hx hb dX13_leastBadness_149 ?_
                              refine lv_istore (lv' := [(8, .int (iI ((cWi c0) - (sm + ((wd.length : Int) + 1))))), (6, .int (iI (sm + ((wd.length : Int) + 1)))), (7, .int (iI k)), (5, .int (iI f)), (3, .int (iI (a0.2.2.length : Int))), (2, .int (iI (i0 : Int))), (0, .ref m0), (1, .int (iI x))]) hx hb dX13_leastBadness_150 hl (by decide) rfl (fun ls hl => ?_)
                              refine lv_iload hx hb dX13_leastBadness_152 (lv_at hl 2 rfl) ?_
                              refine lv_iload_n hx hb dX13_leastBadness_154 rfl (lv_at hl 4 rfl) ?_
                              refine z_iconst hx hb dX13_leastBadness_155 ?_
                              refine z_isub hx hb dX13_leastBadness_156 ?_
                              refine z_icmp_ne (tgt := 164) hx hb dX13_leastBadness_157 (by decide) (by omega) (by omega) (fun c_30 => ?_) (fun c_30 => ?_)
                              · skip
                                have hdn : (zlens a0).drop (k.toNat + 1) ≠ [] := fun q => by have := congrArg List.length q; rw [List.length_drop] at this; simp at this; omega
                                refine lv_iload hx hb dX13_leastBadness_164 (lv_at hl 0 rfl) ?_
                                refine lv_iload hx hb dX13_leastBadness_166 (lv_at hl 0 rfl) ?_
                                refine z_imul hx hb dX13_leastBadness_168 ?_
                                refine lv_aload_n hx hb dX13_leastBadness_169 rfl (lv_at hl 6 rfl) ?_
                                refine m_get hC hZ 13 (x := .ref (ad 13)) rfl (by decide) ql_X13_36 rfl dX13_leastBadness_170 ?_
                                refine lv_iload hx hb dX13_leastBadness_173 (lv_at hl 2 rfl) ?_
                                refine z_iconst hx hb dX13_leastBadness_175 ?_
                                refine z_iadd hx hb dX13_leastBadness_176 ?_
                                refine m_iald hC hZ hD 13 (by decide) (f := g3 13) rfl rfl (by show _ ∧ _ < (31 : Int); omega) (by decide) dX13_leastBadness_177 ?_
                                have hr_31 : -2147483648 ≤ (g3 13) (k + 1) ∧ (g3 13) (k + 1) ≤ 2147483647 := hw3.2 13 _
                                refine z_top (y := zlb (cWi c0) ((zlens a0).drop (k.toNat + 1))) hnx ?_
                                refine z_iadd hx hb dX13_leastBadness_178 ?_
                                refine lv_istore (lv' := [(9, .int (iI ((((cWi c0) - (sm + ((wd.length : Int) + 1))) * ((cWi c0) - (sm + ((wd.length : Int) + 1)))) + (zlb (cWi c0) ((zlens a0).drop (k.toNat + 1)))))), (8, .int (iI ((cWi c0) - (sm + ((wd.length : Int) + 1))))), (6, .int (iI (sm + ((wd.length : Int) + 1)))), (7, .int (iI k)), (5, .int (iI f)), (3, .int (iI (a0.2.2.length : Int))), (2, .int (iI (i0 : Int))), (0, .ref m0), (1, .int (iI x))]) hx hb dX13_leastBadness_179 hl (by decide) rfl (fun ls hl => ?_)
                                refine lv_aload_n hx hb dX13_leastBadness_181 rfl (lv_at hl 7 rfl) ?_
                                refine m_get hC hZ 13 (x := .ref (ad 13)) rfl (by decide) ql_X13_36 rfl dX13_leastBadness_182 ?_
                                refine lv_iload hx hb dX13_leastBadness_185 (lv_at hl 4 rfl) ?_
                                refine lv_iload hx hb dX13_leastBadness_187 (lv_at hl 1 rfl) ?_
                                refine z_if_lt (tgt := 207) hx hb dX13_leastBadness_189 (by decide) (by omega) (fun c_32 => ?_) (fun c_32 => ?_)
                                · skip
                                  refine lv_aload_n hx hb dX13_leastBadness_207 rfl (lv_at hl 7 rfl) ?_
                                  refine m_get hC hZ 13 (x := .ref (ad 13)) rfl (by decide) ql_X13_36 rfl dX13_leastBadness_208 ?_
                                  refine lv_iload hx hb dX13_leastBadness_211 (lv_at hl 4 rfl) ?_
                                  refine m_iald hC hZ hD 13 (by decide) (f := g3 13) rfl rfl (by show _ ∧ _ < (31 : Int); omega) (by decide) dX13_leastBadness_213 ?_
                                  have hr_33 : -2147483648 ≤ (g3 13) f ∧ (g3 13) f ≤ 2147483647 := hw3.2 13 _
                                  refine m_iast hC hZ hD 13 (by decide) (f := g3 13) rfl rfl (by show _ ∧ _ < (31 : Int); omega) (by decide) dX13_leastBadness_214 (fun H locs hZ => ?_)
                                  have hok_34 := hw3.g (k := 13) (i := f) (x := ((g3 13) f)) (f := g3 13) rfl (by omega)
                                  refine z_iinc (lv' := [(7, .int (iI (k + 1))), (9, .int (iI ((((cWi c0) - (sm + ((wd.length : Int) + 1))) * ((cWi c0) - (sm + ((wd.length : Int) + 1)))) + (zlb (cWi c0) ((zlens a0).drop (k.toNat + 1)))))), (8, .int (iI ((cWi c0) - (sm + ((wd.length : Int) + 1))))), (6, .int (iI (sm + ((wd.length : Int) + 1)))), (5, .int (iI f)), (3, .int (iI (a0.2.2.length : Int))), (2, .int (iI (i0 : Int))), (0, .ref m0), (1, .int (iI x))]) hx hb dX13_leastBadness_215 hl (k := 3) rfl (by decide) rfl (fun ls hl => ?_)
                                  refine lv_goto (tgt := 121) hx hb dX13_leastBadness_218 (by decide) ?_
                                  exact ih121 (sm + ((wd.length : Int) + 1)) (k + 1) (upG g3 13 (upI (g3 13) f ((g3 13) f))) (by omega) (by omega) (fun j hj => (upG_n hj).trans (hi121_1 j hj)) (fun i hi => by rw [upG_s, upI_n hi]; exact hi121_2 i hi) (by omega) (Or.inr ⟨by omega, by rw [upG_s, upI_s]; rcases hi121_4 with ⟨z1, z2, -⟩ | ⟨z1, z2, z3⟩ <;> first | exact z2 | (exfalso; omega), by rw [upG_s, upI_s]; rcases hi121_4 with ⟨z1, z2, -⟩ | ⟨z1, z2, z3⟩ <;> first | exact z3 | (exfalso; omega)⟩) (by rw [if_neg (by omega)] at hstep; rw [upG_s, upI_s, zsc_over _ (fun l hl => by have := (zfit_d hfit _ l hl).1; omega) (by omega)]; exact hstep) hok_34 _ _ hZ ls (lv_sub hl [0, 3, 4, 5, 6, 7, 8] rfl)
                                · skip
                                  refine lv_aload_n hx hb dX13_leastBadness_192 rfl (lv_at hl 7 rfl) ?_
                                  refine m_get hC hZ 13 (x := .ref (ad 13)) rfl (by decide) ql_X13_36 rfl dX13_leastBadness_193 ?_
                                  refine lv_iload hx hb dX13_leastBadness_196 (lv_at hl 4 rfl) ?_
                                  refine m_iald hC hZ hD 13 (by decide) (f := g3 13) rfl rfl (by show _ ∧ _ < (31 : Int); omega) (by decide) dX13_leastBadness_198 ?_
                                  have hr_35 : -2147483648 ≤ (g3 13) f ∧ (g3 13) f ≤ 2147483647 := hw3.2 13 _
                                  refine lv_iload hx hb dX13_leastBadness_199 (lv_at hl 0 rfl) ?_
                                  refine z_mmin (rest := [.int (iI f), .ref (ad 13)]) hC hl qm_X13_185 (by omega) (by omega) ⟨Nat.le_of_ble_eq_true rfl, Nat.le_of_ble_eq_true rfl⟩ ⟨Nat.le_of_ble_eq_true rfl, Nat.le_of_ble_eq_true rfl⟩ dX13_leastBadness_201 (fun r201 hmx201 => ?_)
                                  refine lv_goto (tgt := 214) hx hb dX13_leastBadness_204 (by decide) ?_
                                  refine m_iast hC hZ hD 13 (by decide) (f := g3 13) rfl rfl (by show _ ∧ _ < (31 : Int); omega) (by decide) dX13_leastBadness_214 (fun H locs hZ => ?_)
                                  have hok_36 := hw3.g (k := 13) (i := f) (x := r201) (f := g3 13) rfl (by omega)
                                  refine z_iinc (lv' := [(7, .int (iI (k + 1))), (9, .int (iI ((((cWi c0) - (sm + ((wd.length : Int) + 1))) * ((cWi c0) - (sm + ((wd.length : Int) + 1)))) + (zlb (cWi c0) ((zlens a0).drop (k.toNat + 1)))))), (8, .int (iI ((cWi c0) - (sm + ((wd.length : Int) + 1))))), (6, .int (iI (sm + ((wd.length : Int) + 1)))), (5, .int (iI f)), (3, .int (iI (a0.2.2.length : Int))), (2, .int (iI (i0 : Int))), (0, .ref m0), (1, .int (iI x))]) hx hb dX13_leastBadness_215 hl (k := 3) rfl (by decide) rfl (fun ls hl => ?_)
                                  refine lv_goto (tgt := 121) hx hb dX13_leastBadness_218 (by decide) ?_
                                  exact ih121 (sm + ((wd.length : Int) + 1)) (k + 1) (upG g3 13 (upI (g3 13) f r201)) (by omega) (by omega) (fun j hj => (upG_n hj).trans (hi121_1 j hj)) (fun i hi => by rw [upG_s, upI_n hi]; exact hi121_2 i hi) (by omega) (Or.inr ⟨by omega, by rw [upG_s, upI_s]; omega, by rw [upG_s, upI_s]; omega⟩) (by
                                                      rw [if_pos (by omega), if_neg hdn] at hstep
                                                      rw [upG_s, upI_s, ← hstep, show (k + 1).toNat = k.toNat + 1 by omega, show sm + ((wd.length : Int) + 1) = sm + (wd.length : Int) + 1 by omega]
                                                      congr 1
                                                      try rw [show sm + ((wd.length : Int) + 1) = sm + (wd.length : Int) + 1 by omega] at hmx201
                                                      rcases hmx201 with ⟨z1, z2⟩ | ⟨z1, z2⟩
                                                      · rw [z2, Int.min_eq_right (by omega)]; try rfl
                                                      · rw [z2, Int.min_eq_left (by omega)]) hok_36 _ _ hZ ls (lv_sub hl [0, 3, 4, 5, 6, 7, 8] rfl)
                              · skip
                                have hdn : (zlens a0).drop (k.toNat + 1) = [] := List.drop_of_length_le (by omega)
                                have hlbz : zlb (cWi c0) ((zlens a0).drop (k.toNat + 1)) = 0 := by rw [hdn]; rfl
                                refine z_iconst hx hb dX13_leastBadness_160 ?_
                                refine lv_goto (tgt := 179) hx hb dX13_leastBadness_161 (by decide) ?_
                                refine lv_istore (lv' := [(9, .int (iI 0)), (8, .int (iI ((cWi c0) - (sm + ((wd.length : Int) + 1))))), (6, .int (iI (sm + ((wd.length : Int) + 1)))), (7, .int (iI k)), (5, .int (iI f)), (3, .int (iI (a0.2.2.length : Int))), (2, .int (iI (i0 : Int))), (0, .ref m0), (1, .int (iI x))]) hx hb dX13_leastBadness_179 hl (by decide) rfl (fun ls hl => ?_)
                                refine lv_aload_n hx hb dX13_leastBadness_181 rfl (lv_at hl 7 rfl) ?_
                                refine m_get hC hZ 13 (x := .ref (ad 13)) rfl (by decide) ql_X13_36 rfl dX13_leastBadness_182 ?_
                                refine lv_iload hx hb dX13_leastBadness_185 (lv_at hl 4 rfl) ?_
                                refine lv_iload hx hb dX13_leastBadness_187 (lv_at hl 1 rfl) ?_
                                refine z_if_lt (tgt := 207) hx hb dX13_leastBadness_189 (by decide) (by omega) (fun c_37 => ?_) (fun c_37 => ?_)
                                · skip
                                  refine lv_aload_n hx hb dX13_leastBadness_207 rfl (lv_at hl 7 rfl) ?_
                                  refine m_get hC hZ 13 (x := .ref (ad 13)) rfl (by decide) ql_X13_36 rfl dX13_leastBadness_208 ?_
                                  refine lv_iload hx hb dX13_leastBadness_211 (lv_at hl 4 rfl) ?_
                                  refine m_iald hC hZ hD 13 (by decide) (f := g3 13) rfl rfl (by show _ ∧ _ < (31 : Int); omega) (by decide) dX13_leastBadness_213 ?_
                                  have hr_38 : -2147483648 ≤ (g3 13) f ∧ (g3 13) f ≤ 2147483647 := hw3.2 13 _
                                  refine m_iast hC hZ hD 13 (by decide) (f := g3 13) rfl rfl (by show _ ∧ _ < (31 : Int); omega) (by decide) dX13_leastBadness_214 (fun H locs hZ => ?_)
                                  have hok_39 := hw3.g (k := 13) (i := f) (x := ((g3 13) f)) (f := g3 13) rfl (by omega)
                                  refine z_iinc (lv' := [(7, .int (iI (k + 1))), (9, .int (iI 0)), (8, .int (iI ((cWi c0) - (sm + ((wd.length : Int) + 1))))), (6, .int (iI (sm + ((wd.length : Int) + 1)))), (5, .int (iI f)), (3, .int (iI (a0.2.2.length : Int))), (2, .int (iI (i0 : Int))), (0, .ref m0), (1, .int (iI x))]) hx hb dX13_leastBadness_215 hl (k := 3) rfl (by decide) rfl (fun ls hl => ?_)
                                  refine lv_goto (tgt := 121) hx hb dX13_leastBadness_218 (by decide) ?_
                                  exact ih121 (sm + ((wd.length : Int) + 1)) (k + 1) (upG g3 13 (upI (g3 13) f ((g3 13) f))) (by omega) (by omega) (fun j hj => (upG_n hj).trans (hi121_1 j hj)) (fun i hi => by rw [upG_s, upI_n hi]; exact hi121_2 i hi) (by omega) (Or.inr ⟨by omega, by rw [upG_s, upI_s]; rcases hi121_4 with ⟨z1, z2, -⟩ | ⟨z1, z2, z3⟩ <;> first | exact z2 | (exfalso; omega), by rw [upG_s, upI_s]; rcases hi121_4 with ⟨z1, z2, -⟩ | ⟨z1, z2, z3⟩ <;> first | exact z3 | (exfalso; omega)⟩) (by rw [if_neg (by omega)] at hstep; rw [upG_s, upI_s, zsc_over _ (fun l hl => by have := (zfit_d hfit _ l hl).1; omega) (by omega)]; exact hstep) hok_39 _ _ hZ ls (lv_sub hl [0, 3, 4, 5, 6, 7, 8] rfl)
                                · skip
                                  refine lv_aload_n hx hb dX13_leastBadness_192 rfl (lv_at hl 7 rfl) ?_
                                  refine m_get hC hZ 13 (x := .ref (ad 13)) rfl (by decide) ql_X13_36 rfl dX13_leastBadness_193 ?_
                                  refine lv_iload hx hb dX13_leastBadness_196 (lv_at hl 4 rfl) ?_
                                  refine m_iald hC hZ hD 13 (by decide) (f := g3 13) rfl rfl (by show _ ∧ _ < (31 : Int); omega) (by decide) dX13_leastBadness_198 ?_
                                  have hr_40 : -2147483648 ≤ (g3 13) f ∧ (g3 13) f ≤ 2147483647 := hw3.2 13 _
                                  refine lv_iload hx hb dX13_leastBadness_199 (lv_at hl 0 rfl) ?_
                                  refine z_mmin (rest := [.int (iI f), .ref (ad 13)]) hC hl qm_X13_185 (by omega) (by decide) ⟨Nat.le_of_ble_eq_true rfl, Nat.le_of_ble_eq_true rfl⟩ ⟨Nat.le_of_ble_eq_true rfl, Nat.le_of_ble_eq_true rfl⟩ dX13_leastBadness_201 (fun r201 hmx201 => ?_)
                                  refine lv_goto (tgt := 214) hx hb dX13_leastBadness_204 (by decide) ?_
                                  refine m_iast hC hZ hD 13 (by decide) (f := g3 13) rfl rfl (by show _ ∧ _ < (31 : Int); omega) (by decide) dX13_leastBadness_214 (fun H locs hZ => ?_)
                                  have hok_41 := hw3.g (k := 13) (i := f) (x := r201) (f := g3 13) rfl (by omega)
                                  refine z_iinc (lv' := [(7, .int (iI (k + 1))), (9, .int (iI 0)), (8, .int (iI ((cWi c0) - (sm + ((wd.length : Int) + 1))))), (6, .int (iI (sm + ((wd.length : Int) + 1)))), (5, .int (iI f)), (3, .int (iI (a0.2.2.length : Int))), (2, .int (iI (i0 : Int))), (0, .ref m0), (1, .int (iI x))]) hx hb dX13_leastBadness_215 hl (k := 3) rfl (by decide) rfl (fun ls hl => ?_)
                                  refine lv_goto (tgt := 121) hx hb dX13_leastBadness_218 (by decide) ?_
                                  exact ih121 (sm + ((wd.length : Int) + 1)) (k + 1) (upG g3 13 (upI (g3 13) f r201)) (by omega) (by omega) (fun j hj => (upG_n hj).trans (hi121_1 j hj)) (fun i hi => by rw [upG_s, upI_n hi]; exact hi121_2 i hi) (by omega) (Or.inr ⟨by omega, by rw [upG_s, upI_s]; omega, by rw [upG_s, upI_s]; omega⟩) (by
                                                      rw [if_pos (by omega), if_pos hdn, hlbz] at hstep
                                                      rw [upG_s, upI_s, ← hstep, show (k + 1).toNat = k.toNat + 1 by omega, show sm + ((wd.length : Int) + 1) = sm + (wd.length : Int) + 1 by omega]
                                                      congr 1
                                                      try rw [show sm + ((wd.length : Int) + 1) = sm + (wd.length : Int) + 1 by omega] at hmx201
                                                      rcases hmx201 with ⟨z1, z2⟩ | ⟨z1, z2⟩
                                                      · rw [z2, Int.min_eq_right (by omega)]; try rfl
                                                      · rw [z2, Int.min_eq_left (by omega)]) hok_41 _ _ hZ ls (lv_sub hl [0, 3, 4, 5, 6, 7, 8] rfl)
                        exact L121_k_25 _ (-1) f (upG g2 13 (upI (g2 13) f 2147483647)) (Nat.lt_succ_self _) (by omega) (fun j hj => upG_n hj) (fun i hi => by rw [upG_s, upI_n hi]) (by omega) (Or.inl ⟨rfl, rfl, by rw [upG_s, upI_s]⟩) (by rw [upG_s, upI_s]; rw [zlens_d hwf]; refine zsc_1 (by omega) (by rw [← zlens_d hwf]; exact zfit_d hfit _) (by rw [List.length_drop, zlens_l]; omega) (by decide)) hok_24 _ _ hZ ls (lv_sub hl [0, 1, 2, 3, 4, 5, 6] rfl)
                exact L93_k_19 _ ((a0.2.2.length : Int) - 1) (upG g 13 (upI (g 13) (a0.2.2.length : Int) 0)) (Nat.lt_succ_self _) (by omega) (fun j hj => upG_n hj) (fun i h1 h2 => by rw [upG_s, show i = a0.2.2.length by omega, upI_s, List.drop_of_length_le (by rw [zlens_l]; omega)]; rfl) hok_18 _ _ hZ ls (lv_sub hl [0, 2, 3, 4, 5] rfl)
              · skip
                have hsl : sLb c0 x = (2, 0) := by
                  unfold sLb; rw [hz]; simp only []; rw [if_neg]
                  intro q
                  have q := List.all_eq_true.mp q
                  rcases hi27_3 with z | ⟨wd, z1, z2⟩
                  · omega
                  · have := of_decide_eq_true (q wd z1)
                    omega
                refine z_iconst hx hb dX13_leastBadness_73 ?_
                refine lv_goto (tgt := 78) hx hb dX13_leastBadness_74 (by decide) ?_
                refine m_put hC hZ 6 (ty := .int) (by decide) ql_X13_55 rfl rfl rfl (Or.inl rfl) rfl dX13_leastBadness_78 (fun H locs hZ => ?_)
                have hok_42 := hok.v (k := 6) (x := 2) (by decide)
                refine lv_aload_n hx hb dX13_leastBadness_81 rfl (lv_at hl 4 rfl) ?_
                refine m_get hC hZ 13 (x := .ref (ad 13)) rfl (by decide) ql_X13_36 rfl dX13_leastBadness_82 ?_
                refine lv_iload_n hx hb dX13_leastBadness_85 rfl (lv_at hl 2 rfl) ?_
                refine z_iconst hx hb dX13_leastBadness_86 ?_
                refine m_iast hC hZ hD 13 (by decide) (f := g 13) rfl rfl (by show _ ∧ _ < (31 : Int); omega) (by decide) dX13_leastBadness_87 (fun H locs hZ => ?_)
                have hok_43 := hok_42.g (k := 13) (i := (a0.2.2.length : Int)) (x := 0) (f := g 13) rfl (by decide)
                refine lv_iload_n hx hb dX13_leastBadness_88 rfl (lv_at hl 2 rfl) ?_
                refine z_iconst hx hb dX13_leastBadness_89 ?_
                refine z_isub hx hb dX13_leastBadness_90 ?_
                refine lv_istore (lv' := [(5, .int (iI ((a0.2.2.length : Int) - 1))), (4, .int (iI q)), (3, .int (iI (a0.2.2.length : Int))), (2, .int (iI (i0 : Int))), (0, .ref m0), (1, .int (iI x))]) hx hb dX13_leastBadness_91 hl (by decide) rfl (fun ls hl => ?_)
                refine lv_iload hx hb dX13_leastBadness_93 (lv_at hl 0 rfl) ?_
                refine z_if_lt (tgt := 227) hx hb dX13_leastBadness_95 (by decide) (by omega) (fun c_44 => ?_) (fun c_44 => ?_)
                · skip
                  refine lv_aload_n hx hb dX13_leastBadness_227 rfl (lv_at hl 4 rfl) ?_
                  refine m_get hC hZ 6 (x := .int (iI 2)) rfl (by decide) ql_X13_55 rfl dX13_leastBadness_228 ?_
                  refine z_if_le (tgt := 238) hx hb dX13_leastBadness_231 (by decide) (by decide) (fun c_45 => ?_) (fun c_45 => ?_)
                  · skip
                    exfalso; omega
                  · skip
                    refine z_iconst hx hb dX13_leastBadness_234 ?_
                    refine lv_goto (tgt := 244) hx hb dX13_leastBadness_235 (by decide) ?_
                    exact z_iret hC hr hlk hZ (by decide) (by decide) (⟨_, _, rfl, hok_43, by rw [hsl], fun j hj => upG_n hj, fun q => by rw [hsl] at q; exact absurd (show (2 : Int) = 0 from q) (by decide)⟩) dX13_leastBadness_244
                · skip
                  refine lv_aload_n hx hb dX13_leastBadness_98 rfl (lv_at hl 4 rfl) ?_
                  refine m_get hC hZ 6 (x := .int (iI 2)) rfl (by decide) ql_X13_55 rfl dX13_leastBadness_99 ?_
                  refine z_if_ne (tgt := 227) hx hb dX13_leastBadness_102 (by decide) (by decide) (fun c_46 => ?_) (fun c_46 => ?_)
                  · skip
                    refine lv_aload_n hx hb dX13_leastBadness_227 rfl (lv_at hl 4 rfl) ?_
                    refine m_get hC hZ 6 (x := .int (iI 2)) rfl (by decide) ql_X13_55 rfl dX13_leastBadness_228 ?_
                    refine z_if_le (tgt := 238) hx hb dX13_leastBadness_231 (by decide) (by decide) (fun c_47 => ?_) (fun c_47 => ?_)
                    · skip
                      exfalso; omega
                    · skip
                      refine z_iconst hx hb dX13_leastBadness_234 ?_
                      refine lv_goto (tgt := 244) hx hb dX13_leastBadness_235 (by decide) ?_
                      exact z_iret hC hr hlk hZ (by decide) (by decide) (⟨_, _, rfl, hok_43, by rw [hsl], fun j hj => upG_n hj, fun q => by rw [hsl] at q; exact absurd (show (2 : Int) = 0 from q) (by decide)⟩) dX13_leastBadness_244
                  · skip
                    exfalso; omega
            · skip
              exfalso; omega
          · skip
            obtain ⟨wd, hwt⟩ : ∃ wd, a0.2.2[k.toNat]? = some wd := ⟨_, List.getElem?_eq_getElem (by omega)⟩
            have hwl := (hka.2.2.2 wd (List.mem_of_getElem? hwt)).1
            have hlk := (hra.2.2.2 _ _ hwt).1
            rw [Int.toNat_of_nonneg (by omega)] at hlk
            refine lv_iload hx hb dX13_leastBadness_33 (lv_at hl 1 rfl) ?_
            refine lv_aload_n hx hb dX13_leastBadness_35 rfl (lv_at hl 4 rfl) ?_
            refine lv_iload_n hx hb dX13_leastBadness_36 rfl (lv_at hl 3 rfl) ?_
            refine lv_iload hx hb dX13_leastBadness_37 (lv_at hl 0 rfl) ?_
            refine z_calli (z_runV (rest := [.int (iI q)]) (As := [.int (iI (i0 : Int)), .int (iI k)]) (n := 2) (ci := 16) hC hZ (met_X13_long1 l D cs A m0 ad v g (i0 : Int) k  hD hok (by omega) (by omega)) gv_X13_113 hd_X13_long1 rfl mW_o rfl hl rfl (Nat.le_of_ble_eq_true rfl) ⟨Nat.le_of_ble_eq_true rfl, Nat.le_of_ble_eq_true rfl⟩ ⟨Nat.le_of_ble_eq_true rfl, Nat.le_of_ble_eq_true rfl⟩ dX13_leastBadness_39) hZ (fun r39 _ H locs hp_48 hZ => ?_)
            obtain ⟨_, _, rfl, _, rfl, rfl, rfl⟩ := hp_48
            have hr_49 : -2147483648 ≤ mof (g 0) (i0 : Int) (3 + 13 * k) ∧ mof (g 0) (i0 : Int) (3 + 13 * k) ≤ 2147483647 := hok.2 0 _
            refine z_top (y := (wd.length : Int)) hlk ?_
            refine z_mmax (rest := []) hC hl qm_X13_174 (by omega) (by omega) ⟨Nat.le_of_ble_eq_true rfl, Nat.le_of_ble_eq_true rfl⟩ ⟨Nat.le_of_ble_eq_true rfl, Nat.le_of_ble_eq_true rfl⟩ dX13_leastBadness_42 (fun r42 hmx42 => ?_)
            refine lv_istore (lv' := [(4, .int (iI r42)), (5, .int (iI k)), (3, .int (iI (a0.2.2.length : Int))), (2, .int (iI (i0 : Int))), (0, .ref m0), (1, .int (iI x))]) hx hb dX13_leastBadness_45 hl (by decide) rfl (fun ls hl => ?_)
            refine z_iinc (lv' := [(5, .int (iI (k + 1))), (4, .int (iI r42)), (3, .int (iI (a0.2.2.length : Int))), (2, .int (iI (i0 : Int))), (0, .ref m0), (1, .int (iI x))]) hx hb dX13_leastBadness_47 hl (k := 1) rfl (by decide) rfl (fun ls hl => ?_)
            refine lv_goto (tgt := 27) hx hb dX13_leastBadness_50 (by decide) ?_
            exact ih27 r42 (k + 1)  (by clear hi27_3; omega) (by clear hi27_3; omega) (by clear hi27_3; omega) (fun i wd1 h1 h2 => by
                                clear hi27_3
                                by_cases z : (i : Int) < k
                                · have := hi27_2 i wd1 h1 z
                                  omega
                                · have e : i = k.toNat := by omega
                                  subst e
                                  rw [hwt] at h1
                                  cases h1
                                  omega) (hmx42.elim (fun z => Or.inr ⟨wd, List.mem_of_getElem? hwt, z.2.symm⟩) (fun z => by rw [z.2]; exact hi27_3))  _ _ hZ ls (lv_sub hl [0, 1, 2, 3, 4, 5] rfl)
      exact L27_k_12 _ 0 0  (Nat.lt_succ_self _) (by omega) (by omega) (fun i wd _ h => absurd h (by omega)) (Or.inl rfl)  _ _ hZ ls (lv_sub hl [0, 1, 2, 3, 4, 5] rfl)
    · skip
      exfalso; omega

