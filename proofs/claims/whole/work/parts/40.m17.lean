set_option maxHeartbeats 4000000 in
set_option maxRecDepth 100000 in
theorem met_X13_doAddArticle (l : Launch) (D : va_G) (cs : Nat → ClassId) (A : Nat → Prop) (m0 : Nat) (ad : Nat → Nat) (v : Nat → Int) (g : Nat → Int → Int) (x : Int) (tx : List Int) (N : Nat) (c0 : zCo) (hD : mD m0 ad) (hok : mOK v g) (hR : mR (g 0) c0) (hK : cOK N c0) (hx0 : InR x) (ht : mT v g tx) (htl : tx.length ≤ 60) (hNi : N ≤ 100000) : zM l D cs A yX13_doAddArticle cX13_doAddArticle 6 (some FieldType.int) 3 0 0 [.ref m0, .int (iI x)] (mW cs m0 ad v g) (mP cs m0 ad (fun r v1 g1 => mDo v g r v1 g1 (sAdd c0 x tx) (upN v 8 0))) := by
  refine zM_of (own := RX13) (by decide) rfl (Nat.le_of_ble_eq_true rfl) ?_
  intro p e s m below meth c hC hr hlk hnm hZ ls hl
  have hx := hC.x
  have hb := hC.b
  have hl : lv_has ls 6 [(0, .ref m0), (1, .int (iI x))] := hl
  have hn := mR_n hR hK
  have hn0 := hR.1
  have hn1 := hR.2.1
  have h8 := ht.1
  have hni := hK.2.2.2.2.2.2.1
  refine lv_aload_n hx hb dX13_doAddArticle_0 rfl (lv_at hl 0 rfl) ?_
  refine m_get hC hZ 0 (x := .ref (ad 0)) rfl (by decide) ql_X13_9 rfl dX13_doAddArticle_1 ?_
  refine z_iconst hx hb dX13_doAddArticle_4 ?_
  refine m_iald hC hZ hD 0 (by decide) (f := g 0) rfl rfl (by decide) (by decide) dX13_doAddArticle_5 ?_
  have hr_1 : -2147483648 ≤ (g 0) 0 ∧ (g 0) 0 ≤ 2147483647 := hok.2 0 _
  refine z_top (y := ((cAr c0).length : Int)) hn0 ?_
  refine lv_istore_n (lv' := [(2, .int (iI ((cAr c0).length : Int))), (0, .ref m0), (1, .int (iI x))]) hx hb dX13_doAddArticle_6 rfl hl (by decide) rfl (fun ls hl => ?_)
  refine lv_iload_n hx hb dX13_doAddArticle_7 rfl (lv_at hl 2 rfl) ?_
  refine z_iconst hx hb dX13_doAddArticle_8 ?_
  refine z_bipush hx hb dX13_doAddArticle_9 (by decide) ?_
  refine z_calli (z_runS (rest := []) (As := [.int (iI x), .int (iI 1), .int (iI 9)]) (n := 3) hC hZ (met_X13_in l D cs A (mW cs m0 ad v g) x 1 9 (by omega) (by decide) (by decide)) gs_X13_71 he_X13_in rfl hl rfl (Nat.le_of_ble_eq_true rfl) ⟨Nat.le_of_ble_eq_true rfl, Nat.le_of_ble_eq_true rfl⟩ ⟨Nat.le_of_ble_eq_true rfl, Nat.le_of_ble_eq_true rfl⟩ dX13_doAddArticle_11) hZ (fun r11 _ H locs hp_2 hZ => ?_)
  obtain ⟨rfl, hp_2⟩ := hp_2
  have hin := hp_2
  refine z_if_ne (tgt := 23) hx hb dX13_doAddArticle_14 (by decide) (by omega) (fun c_3 => ?_) (fun c_3 => ?_)
  · skip
    refine lv_iload_n hx hb dX13_doAddArticle_23 rfl (lv_at hl 0 rfl) ?_
    refine z_bipush hx hb dX13_doAddArticle_24 (by decide) ?_
    refine z_icmp_ne (tgt := 35) hx hb dX13_doAddArticle_26 (by decide) (by omega) (by decide) (fun c_4 => ?_) (fun c_4 => ?_)
    · skip
      refine lv_aload_n hx hb dX13_doAddArticle_35 rfl (lv_at hl 1 rfl) ?_
      refine z_calli (z_runV (rest := []) (As := []) (n := 0) (ci := 16) hC hZ (met_X13_words l D cs A m0 ad v g  tx hD hok ht htl) gv_X13_86 hd_X13_words rfl mW_o rfl hl rfl (Nat.le_of_ble_eq_true rfl) ⟨Nat.le_of_ble_eq_true rfl, Nat.le_of_ble_eq_true rfl⟩ ⟨Nat.le_of_ble_eq_true rfl, Nat.le_of_ble_eq_true rfl⟩ dX13_doAddArticle_36) hZ (fun r36 _ H locs hp_5 hZ => ?_)
      obtain ⟨_, _, rfl, _, rfl, rfl, hp_5⟩ := hp_5
      have hwo := hp_5
      have hr36 : 0 ≤ r36 ∧ r36 ≤ 30 := by
        rcases hwo with ⟨z1, z2⟩ | ⟨z1, z2⟩
        · have := zat_30 z1 htl
          omega
        · omega
      refine lv_istore_n (lv' := [(3, .int (iI r36)), (2, .int (iI ((cAr c0).length : Int))), (0, .ref m0), (1, .int (iI x))]) hx hb dX13_doAddArticle_39 rfl hl (by decide) rfl (fun ls hl => ?_)
      refine lv_iload_n hx hb dX13_doAddArticle_40 rfl (lv_at hl 0 rfl) ?_
      refine z_if_ne (tgt := 50) hx hb dX13_doAddArticle_41 (by decide) (by omega) (fun c_WO => ?_) (fun c_WO => ?_)
      · skip
        have hz : zat tx := by
          rcases hwo with h | h
          · exact h.1
          · exact absurd h.2 c_WO
        have hz30 := zat_30 hz htl
        have hr36e : r36 = ((zsp tx).length : Int) := by
          rcases hwo with h | h
          · exact h.2
          · exact absurd h.1 (fun q => q hz)
        refine lv_aload_n hx hb dX13_doAddArticle_50 rfl (lv_at hl 2 rfl) ?_
        refine lv_iload_n hx hb dX13_doAddArticle_51 rfl (lv_at hl 1 rfl) ?_
        refine z_iconst hx hb dX13_doAddArticle_52 ?_
        refine lv_aload_n hx hb dX13_doAddArticle_53 rfl (lv_at hl 2 rfl) ?_
        refine m_get hC hZ 0 (x := .ref (ad 0)) rfl (by decide) ql_X13_9 rfl dX13_doAddArticle_54 ?_
        refine z_iconst hx hb dX13_doAddArticle_57 ?_
        refine m_iald hC hZ hD 0 (by decide) (f := g 0) rfl rfl (by decide) (by decide) dX13_doAddArticle_58 ?_
        have hr_6 : -2147483648 ≤ (g 0) 1 ∧ (g 0) 1 ≤ 2147483647 := hok.2 0 _
        refine z_top (y := cNi c0) hn1 ?_
        refine z_callv (z_runV (rest := []) (As := [.int (iI ((cAr c0).length : Int)), .int (iI 0), .int (iI (cNi c0))]) (n := 3) (ci := 16) hC hZ (met_X13_sets l D cs A m0 ad v g ((cAr c0).length : Int) 0 (cNi c0)  hD hok (by omega) (by omega) (by omega)) gv_X13_78 hd_X13_sets rfl mW_o rfl hl rfl (Nat.le_of_ble_eq_true rfl) ⟨Nat.le_of_ble_eq_true rfl, Nat.le_of_ble_eq_true rfl⟩ ⟨Nat.le_of_ble_eq_true rfl, Nat.le_of_ble_eq_true rfl⟩ dX13_doAddArticle_59) hZ (fun _ H locs hp_7 hZ => ?_)
        obtain ⟨_, _, rfl, hok_8, rfl, rfl⟩ := hp_7
        refine lv_aload_n hx hb dX13_doAddArticle_62 rfl (lv_at hl 2 rfl) ?_
        refine lv_iload_n hx hb dX13_doAddArticle_63 rfl (lv_at hl 1 rfl) ?_
        refine z_iconst hx hb dX13_doAddArticle_64 ?_
        refine lv_iload_n hx hb dX13_doAddArticle_65 rfl (lv_at hl 3 rfl) ?_
        refine z_callv (z_runV (rest := []) (As := [.int (iI ((cAr c0).length : Int)), .int (iI 1), .int (iI x)]) (n := 3) (ci := 16) hC hZ (met_X13_sets l D cs A m0 ad v (upG g 0 (upI (g 0) (9 + 393 * ((cAr c0).length : Int) + 0) (cNi c0))) ((cAr c0).length : Int) 1 x  hD hok_8 (by omega) (by omega) (by omega)) gv_X13_78 hd_X13_sets rfl mW_o rfl hl rfl (Nat.le_of_ble_eq_true rfl) ⟨Nat.le_of_ble_eq_true rfl, Nat.le_of_ble_eq_true rfl⟩ ⟨Nat.le_of_ble_eq_true rfl, Nat.le_of_ble_eq_true rfl⟩ dX13_doAddArticle_66) hZ (fun _ H locs hp_9 hZ => ?_)
        obtain ⟨_, _, rfl, hok_10, rfl, rfl⟩ := hp_9
        refine lv_aload_n hx hb dX13_doAddArticle_69 rfl (lv_at hl 2 rfl) ?_
        refine lv_iload_n hx hb dX13_doAddArticle_70 rfl (lv_at hl 1 rfl) ?_
        refine z_iconst hx hb dX13_doAddArticle_71 ?_
        refine lv_iload_n hx hb dX13_doAddArticle_72 rfl (lv_at hl 0 rfl) ?_
        refine z_callv (z_runV (rest := []) (As := [.int (iI ((cAr c0).length : Int)), .int (iI 2), .int (iI r36)]) (n := 3) (ci := 16) hC hZ (met_X13_sets l D cs A m0 ad v (upG (upG g 0 (upI (g 0) (9 + 393 * ((cAr c0).length : Int) + 0) (cNi c0))) 0 (upI (upI (g 0) (9 + 393 * ((cAr c0).length : Int) + 0) (cNi c0)) (9 + 393 * ((cAr c0).length : Int) + 1) x)) ((cAr c0).length : Int) 2 r36  hD hok_10 (by omega) (by omega) (by omega)) gv_X13_78 hd_X13_sets rfl mW_o rfl hl rfl (Nat.le_of_ble_eq_true rfl) ⟨Nat.le_of_ble_eq_true rfl, Nat.le_of_ble_eq_true rfl⟩ ⟨Nat.le_of_ble_eq_true rfl, Nat.le_of_ble_eq_true rfl⟩ dX13_doAddArticle_73) hZ (fun _ H locs hp_11 hZ => ?_)
        obtain ⟨_, _, rfl, hok_12, rfl, rfl⟩ := hp_11
        refine z_iconst hx hb dX13_doAddArticle_76 ?_
        refine lv_istore (lv' := [(4, .int (iI 0)), (3, .int (iI r36)), (2, .int (iI ((cAr c0).length : Int))), (0, .ref m0), (1, .int (iI x))]) hx hb dX13_doAddArticle_77 hl (by decide) rfl (fun ls hl => ?_)
        refine z_iconst hx hb dX13_doAddArticle_79 ?_
        refine lv_istore (lv' := [(5, .int (iI 0)), (4, .int (iI 0)), (3, .int (iI r36)), (2, .int (iI ((cAr c0).length : Int))), (0, .ref m0), (1, .int (iI x))]) hx hb dX13_doAddArticle_80 hl (by decide) rfl (fun ls hl => ?_)
        have L82_k_13 : ∀ (fu : Nat) (w at_ : Int) (g2 : Nat → Int → Int) (hfu : (((zsp tx).length : Int) - w).toNat < fu) (hi82_0 : 0 ≤ w ∧ w ≤ (zsp tx).length) (hi82_1 : at_ = zpos (zsp tx) w.toNat) (hi82_2 : ∀ j, j ≠ 0 → g2 j = g j) (hi82_3 : ∀ k : Int, (k < 9 + 393 * ((cAr c0).length : Int) ∨ 9 + 393 * ((cAr c0).length : Int) + 393 ≤ k) → g2 0 k = g 0 k) (hi82_4 : mof (g2 0) ((cAr c0).length : Int) 0 = cNi c0) (hi82_5 : mof (g2 0) ((cAr c0).length : Int) 1 = x) (hi82_6 : mof (g2 0) ((cAr c0).length : Int) 2 = (zsp tx).length) (hi82_7 : ∀ (i : Nat) (wd : zWd), (zsp tx)[i]? = some wd → (i : Int) < w → mof (g2 0) ((cAr c0).length : Int) (3 + 13 * i) = wd.length ∧ ∀ (k : Nat) (y : Int), wd[k]? = some y → mof (g2 0) ((cAr c0).length : Int) (3 + 13 * i + 1 + k) = y) (hw : mOK v g2) (H : Heap) (locs : List Loc) (hZ : zS D A s (mW cs m0 ad v g2) H locs) (ls : Array Slot) (hl : lv_has ls 6 [(5, .int (iI w)), (4, .int (iI at_)), (3, .int (iI r36)), (2, .int (iI ((cAr c0).length : Int))), (0, .ref m0), (1, .int (iI x))]), W p l e (zR 3 0 0) s m [.ref m0, .int (iI x)].toArray below meth c H locs 0 0 (MQ below (zQ D A (mP cs m0 ad (fun r v1 g1 => mDo v g r v1 g1 (sAdd c0 x tx) (upN v 8 0)))) [.ref m0, .int (iI x)].toArray s 0 0 A) (F0 m 82 ls []) := by
          intro fu
          induction fu with
          | zero =>
            intro w at_ g2 hfu
            exact absurd hfu (Nat.not_lt_zero _)
          | succ fu ih82 =>
            intro w at_ g2 hfu hi82_0 hi82_1 hi82_2 hi82_3 hi82_4 hi82_5 hi82_6 hi82_7 hw H locs hZ ls hl
            have e7 : g2 7 = g 7 := hi82_2 7 (by decide)
            refine lv_iload hx hb dX13_doAddArticle_82 (lv_at hl 0 rfl) ?_
            refine lv_iload_n hx hb dX13_doAddArticle_84 rfl (lv_at hl 2 rfl) ?_
            refine z_icmp_ge (tgt := 107) hx hb dX13_doAddArticle_85 (by decide) (by omega) (by omega) (fun c_14 => ?_) (fun c_14 => ?_)
            · skip
              have h00 : g2 0 0 = g 0 0 := hi82_3 0 (Or.inl (by omega))
              have h01 : g2 0 1 = g 0 1 := hi82_3 1 (Or.inl (by omega))
              refine lv_aload_n hx hb dX13_doAddArticle_107 rfl (lv_at hl 4 rfl) ?_
              refine z_iconst hx hb dX13_doAddArticle_108 ?_
              refine m_put hC hZ 8 (ty := .int) (by decide) ql_X13_75 rfl rfl rfl (Or.inl rfl) rfl dX13_doAddArticle_109 (fun H locs hZ => ?_)
              have hok_15 := hw.v (k := 8) (x := 0) (by decide)
              refine lv_aload_n hx hb dX13_doAddArticle_112 rfl (lv_at hl 4 rfl) ?_
              refine m_get hC hZ 0 (x := .ref (ad 0)) rfl (by decide) ql_X13_9 rfl dX13_doAddArticle_113 ?_
              refine z_iconst hx hb dX13_doAddArticle_116 ?_
              refine lv_dup2_11 hx hb dX13_doAddArticle_117 rfl rfl ?_
              refine m_iald hC hZ hD 0 (by decide) (f := g2 0) rfl rfl (by decide) (by decide) dX13_doAddArticle_118 ?_
              have hr_16 : -2147483648 ≤ (g2 0) 0 ∧ (g2 0) 0 ≤ 2147483647 := hok_15.2 0 _
              refine z_iconst hx hb dX13_doAddArticle_119 ?_
              refine z_iadd hx hb dX13_doAddArticle_120 ?_
              refine m_iast hC hZ hD 0 (by decide) (f := g2 0) rfl rfl (by decide) (by decide) dX13_doAddArticle_121 (fun H locs hZ => ?_)
              have hok_17 := hok_15.g (k := 0) (i := 0) (x := (((g2 0) 0) + 1)) (f := g2 0) rfl (by omega)
              refine lv_aload_n hx hb dX13_doAddArticle_122 rfl (lv_at hl 4 rfl) ?_
              refine m_get hC hZ 0 (x := .ref (ad 0)) rfl (by decide) ql_X13_9 rfl dX13_doAddArticle_123 ?_
              refine z_iconst hx hb dX13_doAddArticle_126 ?_
              refine lv_dup2_11 hx hb dX13_doAddArticle_127 rfl rfl ?_
              refine m_iald hC hZ hD 0 (by decide) (f := upI (g2 0) 0 (((g2 0) 0) + 1)) rfl rfl (by decide) (by decide) dX13_doAddArticle_128 ?_
              have hr_18 : -2147483648 ≤ (upI (g2 0) 0 (((g2 0) 0) + 1)) 1 ∧ (upI (g2 0) 0 (((g2 0) 0) + 1)) 1 ≤ 2147483647 := (hok_17.2 0 1)
              refine z_top (y := g2 0 1) (upI_n (by decide)) ?_
              refine z_iconst hx hb dX13_doAddArticle_129 ?_
              refine z_iadd hx hb dX13_doAddArticle_130 ?_
              refine m_iast hC hZ hD 0 (by decide) (f := upI (g2 0) 0 (((g2 0) 0) + 1)) rfl rfl (by decide) (by decide) dX13_doAddArticle_131 (fun H locs hZ => ?_)
              have hok_19 := hok_17.g (k := 0) (i := 1) (x := ((g2 0 1) + 1)) (f := upI (g2 0) 0 (((g2 0) 0) + 1)) rfl (by omega)
              refine lv_aload_n hx hb dX13_doAddArticle_132 rfl (lv_at hl 4 rfl) ?_
              refine m_get hC hZ 0 (x := .ref (ad 0)) rfl (by decide) ql_X13_9 rfl dX13_doAddArticle_133 ?_
              refine z_iconst hx hb dX13_doAddArticle_136 ?_
              refine m_iald hC hZ hD 0 (by decide) (f := upI (upI (g2 0) 0 (((g2 0) 0) + 1)) 1 ((g2 0 1) + 1)) rfl rfl (by decide) (by decide) dX13_doAddArticle_137 ?_
              have hr_20 : -2147483648 ≤ (upI (upI (g2 0) 0 (((g2 0) 0) + 1)) 1 ((g2 0 1) + 1)) 1 ∧ (upI (upI (g2 0) 0 (((g2 0) 0) + 1)) 1 ((g2 0 1) + 1)) 1 ≤ 2147483647 := (hok_19.2 0 1)
              refine z_top (y := g2 0 1 + 1) upI_s ?_
              refine z_iconst hx hb dX13_doAddArticle_138 ?_
              refine z_isub hx hb dX13_doAddArticle_139 ?_
              exact z_iret hC hr hlk hZ (by decide) (by decide) (⟨_, _, rfl, hok_19, by
                  rw [sAdd_0 (by omega) (by omega) hz]
                  refine Or.inr ⟨rfl, fun _ _ => rfl, fun j h0 h9 h10 h11 => ?_, ?_, ?_⟩
                  · rw [upG_n h0, upG_n h0]; exact hi82_2 j h0
                  · rw [upG_s]
                    refine mR_add hR hK rfl (by omega) (fun k h2 hk => ?_) ?_ ?_ ?_
                    · rw [upI_n (by omega), upI_n (by omega)]; exact hi82_3 k hk
                    · rw [upI_n (by decide), upI_s, h00]
                    · rw [upI_s, h01]
                    · have hfr : ∀ k : Int, 2 ≤ k → upI (upI (g2 0) 0 (g2 0 0 + 1)) 1 (g2 0 1 + 1) k = g2 0 k := fun k hk => by rw [upI_n (by omega), upI_n (by omega)]
                      refine ⟨?_, ?_, ?_, fun i wd hi => ?_⟩
                      · unfold mof; rw [hfr _ (by omega)]; exact hi82_4
                      · unfold mof; rw [hfr _ (by omega)]; exact hi82_5
                      · unfold mof; rw [hfr _ (by omega)]; exact hi82_6
                      · have hi : (zsp tx)[i]? = some wd := hi
                        have hil := (List.getElem?_eq_some_iff.mp hi).1
                        obtain ⟨z1, z2⟩ := hi82_7 i wd hi (by omega)
                        refine ⟨by unfold mof; rw [hfr _ (by omega)]; exact z1, fun k y hy => ?_⟩
                        unfold mof; rw [hfr _ (by omega)]; exact z2 k y hy
                  · show cNi c0 = g2 0 1 + 1 - 1
                    omega⟩) dX13_doAddArticle_140
            · skip
              have hwt0 : w.toNat < (zsp tx).length := by omega
              obtain ⟨wd, hwt⟩ : ∃ wd, (zsp tx)[w.toNat]? = some wd := ⟨_, List.getElem?_eq_getElem hwt0⟩
              have hwl := hz wd (List.mem_of_getElem? hwt)
              unfold zwl at hwl
              have hle := zsp_le ht hwt
              have hrun : ∀ e, at_ ≤ e → e ≤ v 8 → (∀ k, at_ ≤ k → k < e → g2 7 k ≠ 32) → e - at_ ≤ 12 := fun e z1 z2 z3 => by
                have := zsp_run ht hwt z2 (fun k y1 y2 => by rw [← e7]; exact z3 k (by omega) y2)
                omega
              refine lv_aload_n hx hb dX13_doAddArticle_88 rfl (lv_at hl 4 rfl) ?_
              refine lv_iload_n hx hb dX13_doAddArticle_89 rfl (lv_at hl 3 rfl) ?_
              refine lv_iload hx hb dX13_doAddArticle_90 (lv_at hl 0 rfl) ?_
              refine lv_iload hx hb dX13_doAddArticle_92 (lv_at hl 1 rfl) ?_
              refine z_calli (z_runV (rest := []) (As := [.int (iI ((cAr c0).length : Int)), .int (iI w), .int (iI at_)]) (n := 3) (ci := 16) hC hZ (met_X13_takes l D cs A m0 ad v g2 ((cAr c0).length : Int) w at_  hD hw (by omega) (by omega) (by omega) (by omega) hrun) gv_X13_90 hd_X13_takes rfl mW_o rfl hl rfl (Nat.le_of_ble_eq_true rfl) ⟨Nat.le_of_ble_eq_true rfl, Nat.le_of_ble_eq_true rfl⟩ ⟨Nat.le_of_ble_eq_true rfl, Nat.le_of_ble_eq_true rfl⟩ dX13_doAddArticle_94) hZ (fun r94 _ H locs hp_21 hZ => ?_)
              obtain ⟨_, g_23, rfl, hok_22, hkb, hkc, hke, rfl, hkg, hkn, hkl, hkf⟩ := hp_21
              have hrr : r94 = at_ + wd.length := by
                have := zsp_end (r := r94) ht hwt (by omega) (by omega) (fun k y1 y2 => by rw [← e7]; exact hkc k (by omega) y2) (by rw [← e7]; exact hke)
                omega
              have hnew : ∀ (i : Nat) (wd : zWd), (zsp tx)[i]? = some wd → (i : Int) < w + 1 → mof (g_23 0) ((cAr c0).length : Int) (3 + 13 * i) = wd.length ∧ ∀ (k : Nat) (y : Int), wd[k]? = some y → mof (g_23 0) ((cAr c0).length : Int) (3 + 13 * i + 1 + k) = y := by
                intro i wd1 h1 h2
                by_cases q : (i : Int) < w
                · obtain ⟨z1, z2⟩ := hi82_7 i wd1 h1 q
                  have hw1 := hz wd1 (List.mem_of_getElem? h1)
                  unfold zwl at hw1
                  refine ⟨by unfold mof at z1 ⊢; rw [hkf _ (by omega)]; exact z1, fun k y hy => ?_⟩
                  have hkl2 := (List.getElem?_eq_some_iff.mp hy).1
                  have z3 := z2 k y hy
                  unfold mof at z3 ⊢; rw [hkf _ (by omega)]; exact z3
                · have e : i = w.toNat := by omega
                  subst e
                  rw [hwt] at h1
                  cases h1
                  rw [Int.toNat_of_nonneg (by omega)]
                  refine ⟨by rw [hkn]; omega, fun k y hy => ?_⟩
                  have hkl2 := (List.getElem?_eq_some_iff.mp hy).1
                  rw [hkl k (by omega) (by omega), e7, hi82_1]
                  exact zsp_in ht hwt hy
              refine z_iconst hx hb dX13_doAddArticle_97 ?_
              refine z_iadd hx hb dX13_doAddArticle_98 ?_
              refine lv_istore (lv' := [(4, .int (iI (r94 + 1))), (5, .int (iI w)), (3, .int (iI r36)), (2, .int (iI ((cAr c0).length : Int))), (0, .ref m0), (1, .int (iI x))]) hx hb dX13_doAddArticle_99 hl (by decide) rfl (fun ls hl => ?_)
              refine z_iinc (lv' := [(5, .int (iI (w + 1))), (4, .int (iI (r94 + 1))), (3, .int (iI r36)), (2, .int (iI ((cAr c0).length : Int))), (0, .ref m0), (1, .int (iI x))]) hx hb dX13_doAddArticle_101 hl (k := 1) rfl (by decide) rfl (fun ls hl => ?_)
              refine lv_goto (tgt := 82) hx hb dX13_doAddArticle_104 (by decide) ?_
              exact ih82 (w + 1) (r94 + 1) g_23 (by omega) (by omega) (by rw [show (w + 1).toNat = w.toNat + 1 by omega, zpos_s hwt]; omega) (fun j h => (hkg j h).trans (hi82_2 j h)) (fun k hk => (hkf k (by omega)).trans (hi82_3 k hk)) (by unfold mof at hi82_4 ⊢; rw [hkf _ (by omega)]; exact hi82_4) (by unfold mof at hi82_5 ⊢; rw [hkf _ (by omega)]; exact hi82_5) (by unfold mof at hi82_6 ⊢; rw [hkf _ (by omega)]; exact hi82_6) hnew hok_22 _ _ hZ ls (lv_sub hl [0, 1, 2, 3, 4, 5] rfl)
        exact L82_k_13 _ 0 0 (upG (upG (upG g 0 (upI (g 0) (9 + 393 * ((cAr c0).length : Int) + 0) (cNi c0))) 0 (upI (upI (g 0) (9 + 393 * ((cAr c0).length : Int) + 0) (cNi c0)) (9 + 393 * ((cAr c0).length : Int) + 1) x)) 0 (upI (upI (upI (g 0) (9 + 393 * ((cAr c0).length : Int) + 0) (cNi c0)) (9 + 393 * ((cAr c0).length : Int) + 1) x) (9 + 393 * ((cAr c0).length : Int) + 2) r36)) (Nat.lt_succ_self _) (by omega) rfl (fun j h => by rw [upG_n h, upG_n h, upG_n h]) (fun k hk => by rw [upG_s, upI_n (by omega), upI_n (by omega), upI_n (by omega)]) (by unfold mof; rw [upG_s, upI_n (by omega), upI_n (by omega), upI_s]) (by unfold mof; rw [upG_s, upI_n (by omega), upI_s]) (by unfold mof; rw [upG_s, upI_s]; exact hr36e) (fun i wd _ h => absurd h (by omega)) hok_12 _ _ hZ ls (lv_sub hl [0, 1, 2, 3, 4, 5] rfl)
      · skip
        have hnz : ¬ zat tx := by
          intro z
          have := (zat_30 z htl).1
          rcases hwo with h | h
          · omega
          · exact h.1 z
        refine lv_aload_n hx hb dX13_doAddArticle_44 rfl (lv_at hl 2 rfl) ?_
        refine z_iconst hx hb dX13_doAddArticle_45 ?_
        refine z_calli (z_runV (rest := []) (As := [.int (iI 3)]) (n := 1) (ci := 16) hC hZ (met_X13_fails l D cs A m0 ad v g 3  hD hok (by decide)) gv_X13_82 hd_X13_fails rfl mW_o rfl hl rfl (Nat.le_of_ble_eq_true rfl) ⟨Nat.le_of_ble_eq_true rfl, Nat.le_of_ble_eq_true rfl⟩ ⟨Nat.le_of_ble_eq_true rfl, Nat.le_of_ble_eq_true rfl⟩ dX13_doAddArticle_46) hZ (fun r46 _ H locs hp_24 hZ => ?_)
        obtain ⟨_, _, rfl, hok_25, rfl, rfl, rfl⟩ := hp_24
        exact z_iret hC hr hlk hZ (by decide) (by decide) (⟨_, _, rfl, hok_25, by rw [sAdd_3 (by omega) (by omega) hnz]; exact Or.inl ⟨(by decide : (3 : Int) ≠ 0), rfl, rfl, rfl⟩⟩) dX13_doAddArticle_49
    · skip
      refine lv_aload_n hx hb dX13_doAddArticle_29 rfl (lv_at hl 1 rfl) ?_
      refine z_iconst hx hb dX13_doAddArticle_30 ?_
      refine z_calli (z_runV (rest := []) (As := [.int (iI 2)]) (n := 1) (ci := 16) hC hZ (met_X13_fails l D cs A m0 ad v g 2  hD hok (by decide)) gv_X13_82 hd_X13_fails rfl mW_o rfl hl rfl (Nat.le_of_ble_eq_true rfl) ⟨Nat.le_of_ble_eq_true rfl, Nat.le_of_ble_eq_true rfl⟩ ⟨Nat.le_of_ble_eq_true rfl, Nat.le_of_ble_eq_true rfl⟩ dX13_doAddArticle_31) hZ (fun r31 _ H locs hp_26 hZ => ?_)
      obtain ⟨_, _, rfl, hok_27, rfl, rfl, rfl⟩ := hp_26
      exact z_iret hC hr hlk hZ (by decide) (by decide) (⟨_, _, rfl, hok_27, by rw [sAdd_2 (by omega) (by omega)]; exact Or.inl ⟨(by decide : (2 : Int) ≠ 0), rfl, rfl, rfl⟩⟩) dX13_doAddArticle_34
  · skip
    refine lv_aload_n hx hb dX13_doAddArticle_17 rfl (lv_at hl 1 rfl) ?_
    refine z_iconst hx hb dX13_doAddArticle_18 ?_
    refine z_calli (z_runV (rest := []) (As := [.int (iI 1)]) (n := 1) (ci := 16) hC hZ (met_X13_fails l D cs A m0 ad v g 1  hD hok (by decide)) gv_X13_82 hd_X13_fails rfl mW_o rfl hl rfl (Nat.le_of_ble_eq_true rfl) ⟨Nat.le_of_ble_eq_true rfl, Nat.le_of_ble_eq_true rfl⟩ ⟨Nat.le_of_ble_eq_true rfl, Nat.le_of_ble_eq_true rfl⟩ dX13_doAddArticle_19) hZ (fun r19 _ H locs hp_28 hZ => ?_)
    obtain ⟨_, _, rfl, hok_29, rfl, rfl, rfl⟩ := hp_28
    exact z_iret hC hr hlk hZ (by decide) (by decide) (⟨_, _, rfl, hok_29, by rw [sAdd_1 (by omega)]; exact Or.inl ⟨(by decide : (1 : Int) ≠ 0), rfl, rfl, rfl⟩⟩) dX13_doAddArticle_22

set_option maxHeartbeats 4000000 in
set_option maxRecDepth 100000 in
theorem met_X13_addArticle (l : Launch) (D : va_G) (cs : Nat → ClassId) (A : Nat → Prop) (m0 : Nat) (ad : Nat → Nat) (v : Nat → Int) (g : Nat → Int → Int) (x : Int) (hs : List zCo) (tx : List Int) (N : Nat) (c0 : zCo) (hD : mD m0 ad) (hok : mOK v g) (hR : mR (g 0) c0) (hK : cOK N c0) (hx0 : InR x) (ht : mT v g tx) (htl : tx.length ≤ 60) (hNi : N ≤ 100000) (hH : mHi v g hs) (hHK : ∀ h ∈ hs, cOK N h) (hRA : (sAdd c0 x tx).1 = 0 → InR (sAdd c0 x tx).2.2) : zM l D cs A yX13_addArticle cX13_addArticle 2 (some FieldType.int) 4 0 0 [.ref m0, .int (iI x)] (mW cs m0 ad v g) (mP cs m0 ad (fun r v1 g1 => mTop v g r v1 g1 c0 hs (sAdd c0 x tx) (upN (upN v 6 0) 8 0))) := by
  refine zM_of (own := RX13) (by decide) rfl (Nat.le_of_ble_eq_true rfl) ?_
  intro p e s m below meth c hC hr hlk hnm hZ ls hl
  have hx := hC.x
  have hb := hC.b
  have hl : lv_has ls 2 [(0, .ref m0), (1, .int (iI x))] := hl
  refine lv_aload_n hx hb dX13_addArticle_0 rfl (lv_at hl 0 rfl) ?_
  refine z_callv (z_runV (rest := []) (As := []) (n := 0) (ci := 16) hC hZ (met_X13_keep l D cs A m0 ad v g   hD hok ) gv_X13_94 hd_X13_keep rfl mW_o rfl hl rfl (Nat.le_of_ble_eq_true rfl) ⟨Nat.le_of_ble_eq_true rfl, Nat.le_of_ble_eq_true rfl⟩ ⟨Nat.le_of_ble_eq_true rfl, Nat.le_of_ble_eq_true rfl⟩ dX13_addArticle_1) hZ (fun _ H locs hp_1 hZ => ?_)
  obtain ⟨_, _, rfl, hok_2, rfl, rfl⟩ := hp_1
  refine lv_aload_n hx hb dX13_addArticle_4 rfl (lv_at hl 0 rfl) ?_
  refine lv_aload_n hx hb dX13_addArticle_5 rfl (lv_at hl 0 rfl) ?_
  refine lv_iload_n hx hb dX13_addArticle_6 rfl (lv_at hl 1 rfl) ?_
  refine z_calli (z_runV (rest := [.ref m0]) (As := [.int (iI x)]) (n := 1) (ci := 16) hC hZ (met_X13_doAddArticle l D cs A m0 ad (upN v 6 0) (upG g 1 (cpI (g 0) (g 1) 0 0 2439)) x tx N c0 hD hok_2 hR hK hx0 ht htl hNi) gv_X13_97 hd_X13_doAddArticle rfl mW_o rfl hl rfl (Nat.le_of_ble_eq_true rfl) ⟨Nat.le_of_ble_eq_true rfl, Nat.le_of_ble_eq_true rfl⟩ ⟨Nat.le_of_ble_eq_true rfl, Nat.le_of_ble_eq_true rfl⟩ dX13_addArticle_7) hZ (fun r7 _ H locs hp_3 hZ => ?_)
  obtain ⟨v_5, g_6, rfl, hok_4, hdo⟩ := hp_3
  have h5b : 0 ≤ v_5 5 ∧ v_5 5 ≤ 8 := by
    have hh1 := hH.1
    have hh2 := hH.2.1
    rcases hdo with ⟨-, hh, -, -⟩ | ⟨-, hh, -, -⟩
    · rw [← hh, upN_n (by decide), upN_n (by decide)]; omega
    · rw [hh 5 (by decide)]; show 0 ≤ v 5 ∧ v 5 ≤ 8; omega
  have hrr : InR r7 := by
    rcases hdo with ⟨-, -, -, hh⟩ | ⟨hq0, -, -, -, hh⟩
    · rw [← hh]; decide
    · rw [← hh]; exact hRA hq0
  refine z_calli (z_runV (rest := []) (As := [.int (iI r7)]) (n := 1) (ci := 16) hC hZ (met_X13_ends l D cs A m0 ad v_5 g_6 r7  hD hok_4 hrr h5b) gv_X13_100 hd_X13_ends rfl mW_o rfl hl rfl (Nat.le_of_ble_eq_true rfl) ⟨Nat.le_of_ble_eq_true rfl, Nat.le_of_ble_eq_true rfl⟩ ⟨Nat.le_of_ble_eq_true rfl, Nat.le_of_ble_eq_true rfl⟩ dX13_addArticle_10) hZ (fun r10 _ H locs hp_7 hZ => ?_)
  obtain ⟨v_9, g_10, rfl, hok_8, hen⟩ := hp_7
  exact z_iret hC hr hlk hZ (by decide) (by decide) (⟨_, _, rfl, hok_8, mTop_of hR hK hH hHK (sAdd_p _ _ _) hdo rfl rfl hen⟩) dX13_addArticle_13

