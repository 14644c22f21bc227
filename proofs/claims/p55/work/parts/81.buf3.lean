set_option maxHeartbeats 4000000 in
set_option maxRecDepth 100000 in
theorem met_X2_wordBetween (l : Launch) (D : va_G) (cs : Nat → ClassId) (A : Nat → Prop) (F : zF) (a sg : Nat) (t : List Int) (b z : Int) (w : zWd)  (hb1 : oBf cs F a sg t) (hbz : 0 ≤ b ∧ b ≤ z ∧ z ≤ t.length) (hwl : (w.length : Int) = z - b) (hwt : ∀ k : Int, 0 ≤ k → k < w.length → w.getD k.toNat 0 = t.getD (b + k).toNat 0) (hwo : wdOK w) : zM l D cs A yX2_wordBetween cX2_wordBetween 5 (some (FieldType.object "StoneGazette$Word")) 3 3 26 [.ref a, .int (iI b), .int (iI z)] F (pR (fun r F1 => zle F F1 ∧ F r = none ∧ oWd cs F1 r w)) := by
  refine zM_of (own := RX2) (by decide) rfl (Nat.le_of_ble_eq_true rfl) ?_
  intro p e s m below meth c hC hr hlk hnm hZ ls hl
  have hx := hC.x
  have hb := hC.b
  have hl : lv_has ls 5 [(0, .ref a), (1, .int (iI b)), (2, .int (iI z))] := hl
  obtain ⟨f_, h0, h1, h2, h3, h4⟩ := id hb1
  have hw1 := hwo.1
  refine z_iconst hx hb dX2_wordBetween_0 ?_
  refine lv_iload_n hx hb dX2_wordBetween_1 rfl (lv_at hl 2 rfl) ?_
  refine lv_iload_n hx hb dX2_wordBetween_2 rfl (lv_at hl 1 rfl) ?_
  refine z_isub hx hb dX2_wordBetween_3 ?_
  refine z_mmax (rest := []) hC hl qm_X2_15 (by decide) (by omega) ⟨Nat.le_of_ble_eq_true rfl, Nat.le_of_ble_eq_true rfl⟩ ⟨Nat.le_of_ble_eq_true rfl, Nat.le_of_ble_eq_true rfl⟩ dX2_wordBetween_4 (fun r4 hmx4 => ?_)
  refine z_top (y := ((w.length : Nat) : Int)) (by omega) ?_
  refine z_newp (atype := .char) (ty := .char) (n := ((w.length : Nat) : Int)) 1 (hC := hC) (hZ := hZ) q_70 rfl rfl (fun h => va_nm_char h) rfl (by decide) (by omega) (Nat.le_of_ble_eq_true rfl) (by show _ ≤ 26; omega) dX2_wordBetween_7 (fun q7 H hq7 hZ => ?_)
  have hnt7 : (((w.length : Nat) : Int)).toNat = w.length := (Int.toNat_natCast _)
  rw [hnt7] at hZ
  rw [hnt7]
  have hf_1 : (zup F q7 (zA (cs 1) w.length (fun _ => 0))) a = some (.inr (6, [.ref sg, .int (iI (t.length : Int))])) := zup_k (zF_ne h0 hq7.1) h0
  have hf_2 : (zup F q7 (zA (cs 1) w.length (fun _ => 0))) sg = some (zA (cs 1) 60 f_) := zup_k (zF_ne h1 hq7.1) h1
  have hf_3 : (zup F q7 (zA (cs 1) w.length (fun _ => 0))) q7 = some (zA (cs 1) w.length (fun _ => 0)) := zup_s
  replace hZ : zS D A s (zup F q7 (zA (cs 1) w.length (fun _ => 0))) _ _ := hZ
  refine lv_astore_n (lv' := [(3, .ref q7), (0, .ref a), (1, .int (iI b)), (2, .int (iI z))]) hx hb dX2_wordBetween_9 rfl hl (by decide) rfl (fun ls hl => ?_)
  refine z_iconst hx hb dX2_wordBetween_10 ?_
  refine lv_istore (lv' := [(4, .int (iI 0)), (3, .ref q7), (0, .ref a), (1, .int (iI b)), (2, .int (iI z))]) hx hb dX2_wordBetween_11 hl (by decide) rfl (fun ls hl => ?_)
  have L13_k_4 : ∀ (fu : Nat) (k : Int) (F2 : zF) (q2 : Nat) (g2 : Int → Int) (hfu : ((w.length : Int) - k).toNat < fu) (hi13_0 : 0 ≤ k ∧ k ≤ (w.length : Int)) (hi13_1 : zle F F2) (hi13_2 : F2 q2 = some (zA (cs 1) w.length g2)) (hi13_3 : ∀ j : Int, 0 ≤ j → j < k → g2 j = w.getD j.toNat 0) (hi13_4 : F q2 = none) (H : Heap) (locs : List Loc) (hZ : zS D A s F2 H locs) (ls : Array Slot) (hl : lv_has ls 5 [(4, .int (iI k)), (3, .ref q2), (0, .ref a), (1, .int (iI b)), (2, .int (iI z))]), W p l e (zR 3 3 26) s m [.ref a, .int (iI b), .int (iI z)].toArray below meth c H locs 1 (0 + w.length) (MQ below (zQ D A (pR (fun r F1 => zle F F1 ∧ F r = none ∧ oWd cs F1 r w))) [.ref a, .int (iI b), .int (iI z)].toArray s 3 26 A) (F0 m 13 ls []) := by
    intro fu
    induction fu with
    | zero =>
      intro k F2 q2 g2 hfu
      exact absurd hfu (Nat.not_lt_zero _)
    | succ fu ih13 =>
      intro k F2 q2 g2 hfu hi13_0 hi13_1 hi13_2 hi13_3 hi13_4  H locs hZ ls hl
      have g0 : F2 a = _ := hi13_1 _ _ h0
      have hb2 : oBf cs F2 a sg t := hb1.mono hi13_1
      refine lv_iload hx hb dX2_wordBetween_13 (lv_at hl 0 rfl) ?_
      refine lv_aload_n hx hb dX2_wordBetween_15 rfl (lv_at hl 1 rfl) ?_
      refine z_alen (t := 1) hC hZ hi13_2 rfl dX2_wordBetween_16 ?_
      refine z_icmp_ge (tgt := 38) hx hb dX2_wordBetween_17 (by decide) (by omega) (by omega) (fun c_5 => ?_) (fun c_5 => ?_)
      · skip
        have hkn : k = w.length := by omega
        refine z_new (T := TX11) (N := 2) (ci := 14) hC hZ tyX11 tyX11_ok in_X11 rfl qk_X2_33 qx_X11 qn_X11 [.null, .null] df_X11 (Nat.le_of_ble_eq_true rfl) (by show _ ≤ 26; omega) dX2_wordBetween_38 (fun q38 H hq38 hZ => ?_)
        have hf_6 : (zup F2 q38 (.inr (14, [.null, .null]))) a = some (.inr (6, [.ref sg, .int (iI (t.length : Int))])) := zup_k (zF_ne g0 hq38.1) g0
        have hf_7 : (zup F2 q38 (.inr (14, [.null, .null]))) q2 = some (zA (cs 1) w.length g2) := zup_k (zF_ne hi13_2 hq38.1) hi13_2
        have hf_8 : (zup F2 q38 (.inr (14, [.null, .null]))) q38 = some (.inr (14, [.null, .null])) := zup_s
        replace hZ : zS D A s (zup F2 q38 (.inr (14, [.null, .null]))) _ _ := hZ
        refine lv_dup hx hb dX2_wordBetween_41 rfl ?_
        refine lv_aload_n hx hb dX2_wordBetween_42 rfl (lv_at hl 1 rfl) ?_
        refine z_callv (z_runI (rest := [.ref q38]) (As := [.ref q2]) (n := 1) hC hZ (met_X11_init l D cs A (zup F2 q38 (.inr (14, [.null, .null]))) q38 q2 w g2 hf_8 hf_7 (fun j j0 j1 => hi13_3 j j0 (by omega)) hwo) qc_X11_init qn_X11 qm_X2_43 qi_X11_init rfl he_X11_init rfl hl rfl (Nat.le_of_ble_eq_true rfl) ⟨Nat.le_of_ble_eq_true rfl, Nat.le_of_ble_eq_true rfl⟩ ⟨(by show _ ≤ 3; omega), (by show _ ≤ 26; omega)⟩ dX2_wordBetween_43) hZ (fun F43 H locs hp43_c_9 hZ => ?_)
        obtain ⟨hk43, ho43⟩ := hp43_c_9
        exact z_aret hC hr (Or.inl ⟨_, rfl⟩) hlk hZ (by omega) (by omega) (⟨(hi13_1.trans (zle.fresh hq38.1)).kod hk43 (fun q9 hq9 => by rw [List.mem_singleton.mp hq9]; exact hi13_1.nn hq38.1), hi13_1.nn hq38.1, ho43⟩) dX2_wordBetween_46
      · skip
        have hgr := wd_g hwo (k := k) (by omega) (by omega)
        refine lv_aload_n hx hb dX2_wordBetween_20 rfl (lv_at hl 1 rfl) ?_
        refine lv_iload hx hb dX2_wordBetween_21 (lv_at hl 0 rfl) ?_
        refine lv_aload_n hx hb dX2_wordBetween_23 rfl (lv_at hl 2 rfl) ?_
        refine lv_iload_n hx hb dX2_wordBetween_24 rfl (lv_at hl 3 rfl) ?_
        refine lv_iload hx hb dX2_wordBetween_25 (lv_at hl 0 rfl) ?_
        refine z_iadd hx hb dX2_wordBetween_27 ?_
        refine z_calli (z_runV (rest := [.int (iI k), .ref q2]) (As := [.int (iI (b + k))]) (n := 1) (ci := 6) hC hZ (met_X2_signAt l D cs A F2 a sg t (b + k) hb2 (by omega)) gv_X2_29 hd_X2_signAt rfl g0 rfl hl rfl (Nat.le_of_ble_eq_true rfl) ⟨Nat.le_of_ble_eq_true rfl, Nat.le_of_ble_eq_true rfl⟩ ⟨(by show _ ≤ 3; omega), (by show _ ≤ 26; omega)⟩ dX2_wordBetween_28) hZ (fun r28 F28 H locs hp28_c_10 hZ => ?_)
        obtain ⟨rfl, hp28_c_10⟩ := hp28_c_10
        refine z_top (y := w.getD k.toNat 0) (((hp28_c_10.1.elim (fun z => z.2.2) (fun z => absurd (show 0 ≤ (b + k) ∧ (b + k) < (t.length : Int) by omega) z.1))).trans (hwt k (by omega) (by omega)).symm) ?_
        refine z_cast hC hZ hi13_2 (by omega) (by omega) (by omega) dX2_wordBetween_31 (fun H locs hZ => ?_)
        have hf_11 : (zup F2 q2 (zA (cs 1) w.length (upI g2 k (w.getD k.toNat 0)))) a = some (.inr (6, [.ref sg, .int (iI (t.length : Int))])) := zup_k (zne g0 hi13_2 (fun q => by cases q)) g0
        have hf_12 : (zup F2 q2 (zA (cs 1) w.length (upI g2 k (w.getD k.toNat 0)))) q2 = some (zA (cs 1) w.length (upI g2 k (w.getD k.toNat 0))) := zup_s
        replace hZ : zS D A s (zup F2 q2 (zA (cs 1) w.length (upI g2 k (w.getD k.toNat 0)))) _ _ := hZ
        refine z_iinc (lv' := [(4, .int (iI (k + 1))), (3, .ref q2), (0, .ref a), (1, .int (iI b)), (2, .int (iI z))]) hx hb dX2_wordBetween_32 hl (k := 0) rfl (by decide) rfl (fun ls hl => ?_)
        refine lv_goto (tgt := 13) hx hb dX2_wordBetween_35 (by decide) ?_
        refine W.widen (k := 1) (n := (0 + w.length)) (by omega) (by omega) ?_
        exact ih13 (k + 1) (zup F2 q2 (zA (cs 1) w.length (upI g2 k (w.getD k.toNat 0)))) q2 (upI g2 k (w.getD k.toNat 0)) (by omega) (by omega) (hi13_1.up hi13_4) hf_12 (fun j j0 j1 => by unfold upI; by_cases q : j = k; (rw [if_pos q, q]); rw [if_neg q]; exact hi13_3 j j0 (by omega)) hi13_4  _ _ hZ ls (lv_sub hl [0, 1, 2, 3, 4] rfl)
  exact L13_k_4 _ 0 (zup F q7 (zA (cs 1) w.length (fun _ => 0))) q7 (fun _ => 0) (Nat.lt_succ_self _) (by omega) (zle.fresh hq7.1) hf_3 (fun j j0 j1 => absurd j0 (by omega)) hq7.1  _ _ hZ ls (lv_sub hl [0, 1, 2, 3, 4] rfl)
