theorem zdig_3 (x : Int) : 1 ≤ (zdig x).length ∧ (zdig x).length ≤ 3 := by
  rw [zdig_l]
  split
  · omega
  · split <;> omega
set_option maxHeartbeats 4000000 in
set_option maxRecDepth 100000 in
theorem lm_undone (l : Launch) (D : va_G) (cs : Nat → ClassId) (A : Nat → Prop) (G X : zF) (ob : Nat) (N : Nat) (tx out : List Int) (c0 : zCo) (hs : List zCo) (hd : zdj G X) (hlt : l.stackTraces = false) (hG : lG cs G ob N tx [] out c0 hs) (hL : (cs 99 : Int) ≤ 260) (hN : N ≤ 12) : zM l D cs A yL_undone cL_undone 8 (some FieldType.boolean) 27 92000 780000 [.ref (cs 98), .ref ob] (zun G X) (pGI (fun r G1 X1 => r = 1)) := by
  refine zM_of (own := RL) (by decide) rfl (Nat.le_of_ble_eq_true rfl) ?_
  intro p e s m below meth c hC hr hlk hnm hZ ls hl
  have hx := hC.x
  have hb := hC.b
  have hl : lv_has ls 8 [(0, .ref (cs 98)), (1, .ref ob)] := hl
  have hW := zW3.of hZ hd
  have hz2 : (zLw 2).length = 1 := rfl
  have hz8 : (zLw 8).length = 12 := rfl
  have hz9 : (zLw 9).length = 6 := rfl
  have hzw : ([119, 105, 100, 116, 104, 32] : List Int).length = 6 := rfl
  refine z_bipush hx hb dL_undone_0 (by decide) ?_
  refine z_newl (n := 9) hC hW.all q_2139 (by decide) (by show _ ≤ 92000; omega) (by show _ ≤ 780000; omega) dL_undone_2 (fun q2 H hq2 hZ => ?_)
  have hW := hW.nX hq2.1 hZ
  refine lv_astore_n (lv' := [(2, .ref q2), (0, .ref (cs 98)), (1, .ref ob)]) hx hb dL_undone_4 rfl hl (by decide) rfl (fun ls hl => ?_)
  refine z_iconst hx hb dL_undone_5 ?_
  refine lv_istore_n (lv' := [(3, .int (iI 0)), (2, .ref q2), (0, .ref (cs 98)), (1, .ref ob)]) hx hb dL_undone_6 rfl hl (by decide) rfl (fun ls hl => ?_)
  refine z_iconst hx hb dL_undone_7 ?_
  refine lv_istore (lv' := [(4, .int (iI 0)), (3, .int (iI 0)), (2, .ref q2), (0, .ref (cs 98)), (1, .ref ob)]) hx hb dL_undone_8 hl (by decide) rfl (fun ls hl => ?_)
  have L10_k_1 : ∀ (fu : Nat) (i dn : Int) (G1 X1 : zF) (N1 : Nat) (tx1 out1 : List Int) (c1 : zCo) (hs1 : List zCo) (f : Int → Int64) (hfu : (7 - i).toNat < fu) (hi10_0 : 0 ≤ i ∧ i ≤ 7) (hi10_1 : 0 ≤ dn ∧ dn ≤ i) (hG : lG cs G1 ob N1 tx1 [] out1 c1 hs1) (hAr : X1 q2 = some (zL8 (cs 6) 9 f)) (hN1 : N1 ≤ 12 + i) (hhi : hist f hs1 dn) (H : Heap) (locs : List Loc) (hW : zW3 D A s G1 zE X1 H locs) (ls : Array Slot) (hl : lv_has ls 8 [(4, .int (iI i)), (3, .int (iI dn)), (2, .ref q2), (0, .ref (cs 98)), (1, .ref ob)]), W p l e (zR 27 92000 780000) s m [.ref (cs 98), .ref ob].toArray below meth c H locs (1 + 9000 * i.toNat) (9 + 78000 * i.toNat) (MQ below (zQ D A (pGI (fun r G1 X1 => r = 1))) [.ref (cs 98), .ref ob].toArray s 92000 780000 A) (F0 m 10 ls []) := by
    intro fu
    induction fu with
    | zero =>
      intro i dn G1 X1 N1 tx1 out1 c1 hs1 f hfu
      exact absurd hfu (Nat.not_lt_zero _)
    | succ fu ih10 =>
      intro i dn G1 X1 N1 tx1 out1 c1 hs1 f hfu hi10_0 hi10_1 hG hAr hN1 hhi H locs hW ls hl
      refine lv_iload hx hb dL_undone_10 (lv_at hl 0 rfl) ?_
      refine z_bipush hx hb dL_undone_12 (by decide) ?_
      refine z_icmp_ge (tgt := 372) hx hb dL_undone_14 (by decide) (by omega) (by decide) (fun c_2 => ?_) (fun c_2 => ?_)
      · skip
        refine lv_aload_n hx hb dL_undone_372 rfl (lv_at hl 4 rfl) ?_
        obtain ⟨⟨g, sa, so, hL, sv, er, fa, hg⟩, hK, hh8, hhs, htz, ht60, hin, hN9⟩ := id hG
        obtain ⟨cap, hso⟩ := hg.2.2.2.2.1
        have hwi := hK.2.2.2.2.2.2.2.2.1
        refine z_cGi hC (z_frV (rest := []) (As := []) (n := 0) (ci := 15) hC hW.g (met_X12_undoCount l D cs (zfA G1 _) G1 ob g sa so er fa c1 hL hg.1 (hg.2.2.2.2.2.2.2.2.2.1.mono zrm_le) hg.2.2.2.2.2.2.2.2.1) gv_L_422 hd_X12_undoCount rfl hg.1 rfl hl rfl (Nat.le_of_ble_eq_true rfl) ⟨Nat.le_of_ble_eq_true rfl, Nat.le_of_ble_eq_true rfl⟩ ⟨(by show _ ≤ 92000; omega), (by show _ ≤ 780000; omega)⟩ dL_undone_373) hW (fun r373 G373 H locs hp373 hW => ?_)
        obtain ⟨rfl, rfl⟩ := hp373
        refine z_top (y := (hs1.length : Int)) (by rw [hg.2.2.2.2.2.2.2.2.2.2.2.1]) ?_
        refine lv_istore (lv' := [(4, .int (iI (hs1.length : Int))), (3, .int (iI dn)), (2, .ref q2), (0, .ref (cs 98)), (1, .ref ob)]) hx hb dL_undone_376 hl (by decide) rfl (fun ls hl => ?_)
        refine lv_iload_n hx hb dL_undone_378 rfl (lv_at hl 1 rfl) ?_
        refine z_iconst hx hb dL_undone_379 ?_
        refine z_isub hx hb dL_undone_380 ?_
        refine lv_istore (lv' := [(5, .int (iI (dn - 1))), (4, .int (iI (hs1.length : Int))), (3, .int (iI dn)), (2, .ref q2), (0, .ref (cs 98)), (1, .ref ob)]) hx hb dL_undone_381 hl (by decide) rfl (fun ls hl => ?_)
        have L383_k_3 : ∀ (fu : Nat) (i2 lf : Int) (G3 : zF) (out3 : List Int) (c3 : zCo) (hs3 : List zCo) (hfu : (i2 + 1).toNat < fu) (hi383_0 : -1 ≤ i2 ∧ i2 ≤ 6) (hi383_1 : lf = hs3.length) (hG : lG cs G3 ob N1 tx1 [] out3 c3 hs3) (hhi : hist f hs3 (i2 + 1)) (H : Heap) (locs : List Loc) (hW : zW3 D A s G3 zE X1 H locs) (ls : Array Slot) (hl : lv_has ls 8 [(5, .int (iI i2)), (4, .int (iI lf)), (2, .ref q2), (0, .ref (cs 98)), (1, .ref ob)]), W p l e (zR 27 92000 780000) s m [.ref (cs 98), .ref ob].toArray below meth c H locs (63001 + 4100 * (6 - i2).toNat) (546009 + 33100 * (6 - i2).toNat) (MQ below (zQ D A (pGI (fun r G1 X1 => r = 1))) [.ref (cs 98), .ref ob].toArray s 92000 780000 A) (F0 m 383 ls []) := by
          intro fu
          induction fu with
          | zero =>
            intro i2 lf G3 out3 c3 hs3 hfu
            exact absurd hfu (Nat.not_lt_zero _)
          | succ fu ih383 =>
            intro i2 lf G3 out3 c3 hs3 hfu hi383_0 hi383_1 hG hhi H locs hW ls hl
            refine lv_iload hx hb dL_undone_383 (lv_at hl 0 rfl) ?_
            refine z_if_lt (tgt := 420) hx hb dL_undone_385 (by decide) (by omega) (fun c_4 => ?_) (fun c_4 => ?_)
            · skip
              refine z_iconst hx hb dL_undone_420 ?_
              exact z_zretG hC hr hlk hW rfl (by omega) (by omega) (rfl) dL_undone_421
            · skip
              have hh1 := hhi.2.1
              have hh83 : hs3.length ≤ 8 := hG.2.2.1
              have hu := hist_u hhi (by omega)
              refine z_iinc (lv' := [(4, .int (iI (lf + (-1)))), (5, .int (iI i2)), (2, .ref q2), (0, .ref (cs 98)), (1, .ref ob)]) hx hb dL_undone_388 hl (k := 1) rfl (by decide) rfl (fun ls hl => ?_)
              refine lv_aload_n hx hb dL_undone_391 rfl (lv_at hl 4 rfl) ?_
              refine z_cGi hC (z_frSW (rest := []) (As := [.ref ob]) (n := 1) hC hW.g (lw_undo l D cs (zfA G3 _) G3 ob  N1 tx1 ([] : List Int) out3 c3 hs3 hlt hG ) (zgsW qm_L_425 qt_L_undo qn_L qc_L_undo) he_L_undo rfl hl rfl (Nat.le_of_ble_eq_true rfl) ⟨Nat.le_of_ble_eq_true rfl, Nat.le_of_ble_eq_true rfl⟩ ⟨(by show _ ≤ 92000; omega), (by show _ ≤ 780000; omega)⟩ dL_undone_392) hW (fun r392 G392 H locs hp392 hW => ?_)
              obtain ⟨hG, rfl⟩ := hp392
              have hG : lG cs G392 ob N1 tx1 ([] : List Int) out3 (hs3.getD (hs3.length - 1) cNew) (hs3.eraseIdx (hs3.length - 1)) := (by have z9 := hG; rw [if_neg (by omega), if_neg (by omega)] at z9; exact z9)
              refine z_top (y := (lf + (-1))) (by unfold sUn; rw [if_neg (by omega)]; exact (wq_0 rfl).trans (by show (hs3.length : Int) - 1 = lf + (-1); omega)) ?_
              refine lv_iload hx hb dL_undone_395 (lv_at hl 0 rfl) ?_
              refine z_icmp_ne (tgt := 412) hx hb dL_undone_397 (by decide) (by omega) (by omega) (fun c_5 => ?_) (fun c_5 => ?_)
              · skip
                exfalso; omega
              · skip
                refine lv_aload_n hx hb dL_undone_400 rfl (lv_at hl 4 rfl) ?_
                refine z_cGXl hC (z_frS (rest := []) (As := [.ref ob]) (n := 1) hC hW.gx (lm_sum l D cs (zfA (zun G392 X1) _) G392 X1 ob N1 tx1 ([] : List Int) out3 (hs3.getD (hs3.length - 1) cNew) (hs3.eraseIdx (hs3.length - 1)) hW.dgx hlt hG) gs_L_406 he_L_sum rfl hl rfl (Nat.le_of_ble_eq_true rfl) ⟨Nat.le_of_ble_eq_true rfl, Nat.le_of_ble_eq_true rfl⟩ ⟨(by show _ ≤ 92000; omega), (by show _ ≤ 780000; omega)⟩ dL_undone_401) hW (fun r401 G401 X401 H locs hp401 hW => ?_)
                obtain ⟨rfl, ⟨out401, hG⟩, rfl⟩ := hp401
                refine lv_aload_n hx hb dL_undone_404 rfl (lv_at hl 2 rfl) ?_
                refine lv_iload hx hb dL_undone_405 (lv_at hl 1 rfl) ?_
                refine z_lald hC hW.x hAr (by omega) (by decide) dL_undone_407 ?_
                refine z_topl (y := (zSum (hs3.getD (hs3.length - 1) cNew))) (by have z9 := hist_top hhi (by omega); rw [show i2 + 1 - 1 = i2 by omega] at z9; exact z9) ?_
                refine W.lcmp hx hb dL_undone_408 ?_
                refine z_topi (y := 0) (lg_self _) ?_
                refine z_if_eq (tgt := 414) hx hb dL_undone_409 (by decide) (by decide) (fun c_6 => ?_) (fun c_6 => ?_)
                · skip
                  refine z_iinc (lv' := [(5, .int (iI (i2 + (-1)))), (4, .int (iI (lf + (-1)))), (2, .ref q2), (0, .ref (cs 98)), (1, .ref ob)]) hx hb dL_undone_414 hl (k := 1) rfl (by decide) rfl (fun ls hl => ?_)
                  refine lv_goto (tgt := 383) hx hb dL_undone_417 (by decide) ?_
                  refine W.widen (k := (63001 + 4100 * (6 - (i2 + (-1))).toNat)) (n := (546009 + 33100 * (6 - (i2 + (-1))).toNat)) (by omega) (by omega) ?_
                  exact ih383 (i2 + (-1)) (lf + (-1)) G401 out401 (hs3.getD (hs3.length - 1) cNew) (hs3.eraseIdx (hs3.length - 1)) (by omega) (by omega) (by omega) hG (by rw [show i2 + (-1) + 1 = i2 + 1 - 1 by omega]; exact hu.1) _ _ hW ls (lv_sub hl [0, 1, 2, 3, 4] rfl)
                · skip
                  exfalso; omega
        refine W.widen (k := (63001 + 4100 * (6 - (dn - 1)).toNat)) (n := (546009 + 33100 * (6 - (dn - 1)).toNat)) (by omega) (by omega) ?_
        exact L383_k_3 _ (dn - 1) (hs1.length : Int) G1 out1 c1 hs1 (Nat.lt_succ_self _) (by omega) (by omega) hG (by rw [show dn - 1 + 1 = dn by omega]; exact hhi) _ _ hW ls (lv_sub hl [0, 1, 3, 4, 5] rfl)
      · skip
        have hh81 : hs1.length ≤ 8 := hG.2.2.1
        have hK1 := hG.k
        refine lv_aload_n hx hb dL_undone_17 rfl (lv_at hl 3 rfl) ?_
        refine z_bipush hx hb dL_undone_18 (by decide) ?_
        refine lv_iload hx hb dL_undone_20 (lv_at hl 0 rfl) ?_
        refine z_iadd hx hb dL_undone_22 ?_
        refine z_cXi hC (z_frS (rest := []) (As := [.ref (cs 98), .int (iI (12 + i))]) (n := 2) hC hW.x (lm_cell l D cs (zfA X1 _) X1 (12 + i) (by omega) hL) gs_L_185 he_L_cell rfl hl rfl (Nat.le_of_ble_eq_true rfl) ⟨Nat.le_of_ble_eq_true rfl, Nat.le_of_ble_eq_true rfl⟩ ⟨(by show _ ≤ 92000; omega), (by show _ ≤ 780000; omega)⟩ dL_undone_23) hW (fun r23 X23 H locs hp23 hW => ?_)
        obtain ⟨rfl, rfl⟩ := hp23
        refine z_iconst hx hb dL_undone_26 ?_
        refine lv_iushr (v := iI ((dC cs (12 + i)))) hx hb dL_undone_27 (iI_ushr _ 1 (by decide)) ?_
        have hbc := dC_b cs (12 + i)
        refine lv_istore (lv' := [(5, .int (iI (dC cs (12 + i)))), (4, .int (iI i)), (3, .int (iI dn)), (2, .ref q2), (0, .ref (cs 98)), (1, .ref ob)]) hx hb dL_undone_28 hl (by decide) rfl (fun ls hl => ?_)
        refine lv_iload hx hb dL_undone_30 (lv_at hl 0 rfl) ?_
        refine z_iconst hx hb dL_undone_32 ?_
        refine lv_iushr (v := iI (((dC cs (12 + i)) / 16))) hx hb dL_undone_33 (iI_ushrN 4 (by decide) (by omega)) ?_
        refine lv_istore (lv' := [(6, .int (iI ((dC cs (12 + i)) / 16))), (5, .int (iI (dC cs (12 + i)))), (4, .int (iI i)), (3, .int (iI dn)), (2, .ref q2), (0, .ref (cs 98)), (1, .ref ob)]) hx hb dL_undone_34 hl (by decide) rfl (fun ls hl => ?_)
        refine lv_aload_n hx hb dL_undone_36 rfl (lv_at hl 4 rfl) ?_
        refine lv_iload_n hx hb dL_undone_37 rfl (lv_at hl 3 rfl) ?_
        refine lv_aload_n hx hb dL_undone_38 rfl (lv_at hl 6 rfl) ?_
        refine z_cGXl hC (z_frS (rest := [.int (iI dn), .ref q2]) (As := [.ref ob]) (n := 1) hC hW.gx (lm_sum l D cs (zfA (zun G1 X1) _) G1 X1 ob N1 tx1 ([] : List Int) out1 c1 hs1 hW.dgx hlt hG) gs_L_406 he_L_sum rfl hl rfl (Nat.le_of_ble_eq_true rfl) ⟨Nat.le_of_ble_eq_true rfl, Nat.le_of_ble_eq_true rfl⟩ ⟨(by show _ ≤ 92000; omega), (by show _ ≤ 780000; omega)⟩ dL_undone_39) hW (fun r39 G39 X39 H locs hp39 hW => ?_)
        obtain ⟨rfl, ⟨out39, hG⟩, rfl⟩ := hp39
        refine z_lastl hC hW.all (zal_x hW.dgx hW.dbx _ _ hAr) (by omega) (by decide) dL_undone_42 (fun H locs hZ => ?_)
        have hW := hW.uX hAr hZ
        have J335_k_7 : ∀ (r : Int) (G2 X2 : zF) (N2 : Nat) (tx2 out2 : List Int) (c2 : zCo) (hs2 : List zCo) (hj335_0 : -20 ≤ r ∧ r ≤ 2000) (hG : lG cs G2 ob N2 tx2 [] out2 c2 hs2) (hAr2 : X2 q2 = some (zL8 (cs 6) 9 (upI f dn (zSum c1)))) (hN2 : N2 ≤ 13 + i) (hst : (0 ≤ r ∧ hs2 = pushH hs1 c1) ∨ (r < 0 ∧ c2 = c1 ∧ hs2 = hs1)) (H : Heap) (locs : List Loc) (hW : zW3 D A s G2 zE X2 H locs) (ls : Array Slot) (hl : lv_has ls 8 [(4, .int (iI i)), (3, .int (iI dn)), (2, .ref q2), (0, .ref (cs 98)), (1, .ref ob), (7, .int (iI r))]), W p l e (zR 27 92000 780000) s m [.ref (cs 98), .ref ob].toArray below meth c H locs (1 + 9000 * i.toNat + 4900) (9 + 78000 * i.toNat + 44400) (MQ below (zQ D A (pGI (fun r G1 X1 => r = 1))) [.ref (cs 98), .ref ob].toArray s 92000 780000 A) (F0 m 335 ls []) := by
          intro r G2 X2 N2 tx2 out2 c2 hs2 hj335_0 hG hAr2 hN2 hst H locs hW ls hl
          refine lv_iload hx hb dL_undone_335 (lv_at hl 5 rfl) ?_
          refine z_if_ge (tgt := 353) hx hb dL_undone_337 (by decide) (by omega) (fun c_8 => ?_) (fun c_8 => ?_)
          · skip
            refine lv_iload_n hx hb dL_undone_353 rfl (lv_at hl 1 rfl) ?_
            refine lv_iload hx hb dL_undone_354 (lv_at hl 5 rfl) ?_
            refine z_if_ge (tgt := 363) hx hb dL_undone_356 (by decide) (by omega) (fun c_9 => ?_) (fun c_9 => ?_)
            · skip
              refine z_iconst hx hb dL_undone_363 ?_
              refine z_iadd hx hb dL_undone_364 ?_
              refine lv_istore_n (lv' := [(3, .int (iI (dn + 1))), (4, .int (iI i)), (2, .ref q2), (0, .ref (cs 98)), (1, .ref ob), (7, .int (iI r))]) hx hb dL_undone_365 rfl hl (by decide) rfl (fun ls hl => ?_)
              refine z_iinc (lv' := [(4, .int (iI (i + 1))), (3, .int (iI (dn + 1))), (2, .ref q2), (0, .ref (cs 98)), (1, .ref ob), (7, .int (iI r))]) hx hb dL_undone_366 hl (k := 1) rfl (by decide) rfl (fun ls hl => ?_)
              refine lv_goto (tgt := 10) hx hb dL_undone_369 (by decide) ?_
              refine W.widen (k := (1 + 9000 * (i + 1).toNat)) (n := (9 + 78000 * (i + 1).toNat)) (by omega) (by omega) ?_
              exact ih10 (i + 1) (dn + 1) G2 X2 N2 tx2 out2 c2 hs2 (upI f dn (zSum c1)) (by omega) (by omega) (by omega) hG hAr2 (by omega) (by rw [(hst.resolve_right (fun z => by omega)).2]; exact hist_y hhi hh81 (by omega)) _ _ hW ls (lv_sub hl [0, 1, 2, 3, 4] rfl)
            · skip
              exfalso; omega
          · skip
            have hc21 : c2 = c1 := (hst.resolve_left (fun z => by omega)).2.1
            refine lv_aload_n hx hb dL_undone_340 rfl (lv_at hl 4 rfl) ?_
            refine z_cGXl hC (z_frS (rest := []) (As := [.ref ob]) (n := 1) hC hW.gx (lm_sum l D cs (zfA (zun G2 X2) _) G2 X2 ob N2 tx2 ([] : List Int) out2 c2 hs2 hW.dgx hlt hG) gs_L_406 he_L_sum rfl hl rfl (Nat.le_of_ble_eq_true rfl) ⟨Nat.le_of_ble_eq_true rfl, Nat.le_of_ble_eq_true rfl⟩ ⟨(by show _ ≤ 92000; omega), (by show _ ≤ 780000; omega)⟩ dL_undone_341) hW (fun r341 G341 X341 H locs hp341 hW => ?_)
            obtain ⟨rfl, ⟨out341, hG⟩, rfl⟩ := hp341
            refine lv_aload_n hx hb dL_undone_344 rfl (lv_at hl 2 rfl) ?_
            refine lv_iload_n hx hb dL_undone_345 rfl (lv_at hl 1 rfl) ?_
            refine z_lald hC hW.x hAr2 (by omega) (by decide) dL_undone_346 ?_
            refine z_topl (y := (zSum c2)) (by show (if dn = dn then _ else _) = _; rw [if_pos rfl, hc21]) ?_
            refine W.lcmp hx hb dL_undone_347 ?_
            refine z_topi (y := 0) (lg_self _) ?_
            refine z_if_eq (tgt := 353) hx hb dL_undone_348 (by decide) (by decide) (fun c_10 => ?_) (fun c_10 => ?_)
            · skip
              refine lv_iload_n hx hb dL_undone_353 rfl (lv_at hl 1 rfl) ?_
              refine lv_iload hx hb dL_undone_354 (lv_at hl 5 rfl) ?_
              refine z_if_ge (tgt := 363) hx hb dL_undone_356 (by decide) (by omega) (fun c_11 => ?_) (fun c_11 => ?_)
              · skip
                exfalso; omega
              · skip
                refine z_iconst hx hb dL_undone_359 ?_
                refine lv_goto (tgt := 364) hx hb dL_undone_360 (by decide) ?_
                refine z_iadd hx hb dL_undone_364 ?_
                refine lv_istore_n (lv' := [(3, .int (iI (dn + 0))), (4, .int (iI i)), (2, .ref q2), (0, .ref (cs 98)), (1, .ref ob), (7, .int (iI r))]) hx hb dL_undone_365 rfl hl (by decide) rfl (fun ls hl => ?_)
                refine z_iinc (lv' := [(4, .int (iI (i + 1))), (3, .int (iI (dn + 0))), (2, .ref q2), (0, .ref (cs 98)), (1, .ref ob), (7, .int (iI r))]) hx hb dL_undone_366 hl (k := 1) rfl (by decide) rfl (fun ls hl => ?_)
                refine lv_goto (tgt := 10) hx hb dL_undone_369 (by decide) ?_
                refine W.widen (k := (1 + 9000 * (i + 1).toNat)) (n := (9 + 78000 * (i + 1).toNat)) (by omega) (by omega) ?_
                exact ih10 (i + 1) (dn + 0) G341 X2 N2 tx2 out341 c2 hs2 (upI f dn (zSum c1)) (by omega) (by omega) (by omega) hG hAr2 (by omega) (by rw [(hst.resolve_left (fun z => by omega)).2.2]; exact hist_n hhi) _ _ hW ls (lv_sub hl [0, 1, 2, 3, 4] rfl)
            · skip
              exfalso; omega
        refine lv_iload hx hb dL_undone_43 (lv_at hl 1 rfl) ?_
        refine z_bipush hx hb dL_undone_45 (by decide) ?_
        refine z_irem hx hb dL_undone_47 (by omega) (by omega) ?_
        have hsw : (dC cs (12 + i)) % 9 = 0 ∨ (dC cs (12 + i)) % 9 = 1 ∨ (dC cs (12 + i)) % 9 = 2 ∨ (dC cs (12 + i)) % 9 = 3 ∨ (dC cs (12 + i)) % 9 = 4 ∨ (dC cs (12 + i)) % 9 = 5 ∨ (dC cs (12 + i)) % 9 = 6 ∨ (dC cs (12 + i)) % 9 = 7 ∨ (dC cs (12 + i)) % 9 = 8 := by omega
        rcases hsw with hsw | hsw | hsw | hsw | hsw | hsw | hsw | hsw | hsw
        · skip
          refine z_top (y := 0) hsw ?_
          refine lv_tableIn (off := 48) (tgt := 96) hx hb dL_undone_48 (by decide +kernel) (by decide +kernel) (by decide +kernel) (by decide) ?_
          refine lv_aload_n hx hb dL_undone_96 rfl (lv_at hl 6 rfl) ?_
          refine lv_iload hx hb dL_undone_97 (lv_at hl 1 rfl) ?_
          refine z_iconst hx hb dL_undone_99 ?_
          refine z_irem hx hb dL_undone_100 (by omega) (by omega) ?_
          refine z_if_ne (tgt := 130) hx hb dL_undone_101 (by decide) (by omega) (fun c_12 => ?_) (fun c_12 => ?_)
          · skip
            refine lv_iload hx hb dL_undone_130 (lv_at hl 0 rfl) ?_
            refine z_cXr hC (z_frS (rest := [.ref ob]) (As := [.int (iI ((dC cs (12 + i)) / 16))]) (n := 1) hC hW.x (lm_drawnText l D cs (zfA (zup X1 q2 (zL8 (cs 6) 9 (upI f dn (zSum c1)))) _) (zup X1 q2 (zL8 (cs 6) 9 (upI f dn (zSum c1)))) ((dC cs (12 + i)) / 16) (by omega)) gs_L_189 he_L_drawnText rfl hl rfl (Nat.le_of_ble_eq_true rfl) ⟨Nat.le_of_ble_eq_true rfl, Nat.le_of_ble_eq_true rfl⟩ ⟨(by show _ ≤ 92000; omega), (by show _ ≤ 780000; omega)⟩ dL_undone_132) hW (fun r132 X132 H locs hp132 hW => ?_)
            obtain ⟨hl132, hd132⟩ := hp132
            obtain ⟨v132, t132, hq132, htx132⟩ := hd132
            have hle_13 : zle (zup X1 q2 (zL8 (cs 6) 9 (upI f dn (zSum c1)))) X132 := zle.refl.trans hl132
            have hzt := htx132.2.2.1
            have hzl := htx132.2.1
            refine z_cGXi hC (z_frS (rest := []) (As := [.ref ob, .ref r132]) (n := 2) hC hW.gx (lm_types l D cs (zfA (zun G39 X132) _) G39 X132 ob N1 tx1 ([] : List Int) out39 c1 hs1 r132 v132 t132 hW.dgx hlt hG hq132 hzl hzt) gs_L_192 he_L_types rfl hl rfl (Nat.le_of_ble_eq_true rfl) ⟨Nat.le_of_ble_eq_true rfl, Nat.le_of_ble_eq_true rfl⟩ ⟨(by show _ ≤ 92000; omega), (by show _ ≤ 780000; omega)⟩ dL_undone_135) hW (fun r135 G135 X135 H locs hp135 hW => ?_)
            obtain ⟨rfl, hG, rfl⟩ := hp135
            refine z_if_eq (tgt := 153) hx hb dL_undone_138 (by decide) (by decide) (fun c_14 => ?_) (fun c_14 => ?_)
            · skip
              exfalso; omega
            · skip
              refine lv_aload_n hx hb dL_undone_141 rfl (lv_at hl 6 rfl) ?_
              refine lv_iload hx hb dL_undone_142 (lv_at hl 0 rfl) ?_
              refine z_bipush hx hb dL_undone_144 (by decide) ?_
              refine z_irem hx hb dL_undone_146 (by omega) (by omega) ?_
              refine z_cGi hC (z_frSW (rest := []) (As := [.ref ob, .int (iI (((dC cs (12 + i)) / 16) % 11))]) (n := 2) hC hW.g (lw_addArticle l D cs (zfA G135 _) G135 ob (((dC cs (12 + i)) / 16) % 11) N1 t132 ([] : List Int) out39 c1 hs1 hlt hG (by omega) (by omega)) (zgsW qm_L_196 qt_L_addArticle qn_L qc_L_addArticle) he_L_addArticle rfl hl rfl (Nat.le_of_ble_eq_true rfl) ⟨Nat.le_of_ble_eq_true rfl, Nat.le_of_ble_eq_true rfl⟩ ⟨(by show _ ≤ 92000; omega), (by show _ ≤ 780000; omega)⟩ dL_undone_147) hW (fun r147 G147 H locs hp147 hW => ?_)
              obtain ⟨hG, rfl⟩ := hp147
              have hop := op_st (hs := hs1) (show opOK [-1, -2, -3] c1 (sAdd c1 (((dC cs (12 + i)) / 16) % 11) t132) from sAdd_o hK1 (by omega))
              refine lv_goto (tgt := 154) hx hb dL_undone_150 (by decide) ?_
              refine lv_istore (lv' := [(7, .int (iI (wq [-1, -2, -3] ((sAdd c1 (((dC cs (12 + i)) / 16) % 11) t132).1, (sAdd c1 (((dC cs (12 + i)) / 16) % 11) t132).2.2)))), (6, .int (iI ((dC cs (12 + i)) / 16))), (5, .int (iI (dC cs (12 + i)))), (4, .int (iI i)), (3, .int (iI dn)), (2, .ref q2), (0, .ref (cs 98)), (1, .ref ob)]) hx hb dL_undone_154 hl (by decide) rfl (fun ls hl => ?_)
              refine lv_goto (tgt := 335) hx hb dL_undone_156 (by decide) ?_
              refine W.widen (k := (1 + 9000 * i.toNat + 4900)) (n := (9 + 78000 * i.toNat + 44400)) (by omega) (by omega) ?_
              exact J335_k_7 (wq [-1, -2, -3] ((sAdd c1 (((dC cs (12 + i)) / 16) % 11) t132).1, (sAdd c1 (((dC cs (12 + i)) / 16) % 11) t132).2.2)) G147 X132 (N1 + 1) (if (sAdd c1 (((dC cs (12 + i)) / 16) % 11) t132).1 = 0 then [] else t132) out39 ((sAdd c1 (((dC cs (12 + i)) / 16) % 11) t132).2.1) (if (sAdd c1 (((dC cs (12 + i)) / 16) % 11) t132).1 = 0 then pushH hs1 c1 else hs1)  (by omega) hG (hl132 _ _ zup_s) (by omega) (by rcases hop with z | z; exact Or.inl ⟨z.1, z.2.2⟩; exact Or.inr ⟨z.2.1, z.2.2.1, z.2.2.2⟩) _ _ hW ls (lv_sub hl [3, 4, 5, 6, 7, 0] rfl)
          · skip
            refine z_new (T := TJ4) (N := 4) (ci := 1) hC hW.all tyJ4 tyJ4_ok in_J4 rfl qk_L_162 qx_J4 qn_J4 [.null, .int (iI 0), .int (iI 0), .int (iI 0)] df_J4 (by show _ ≤ 92000; omega) (by show _ ≤ 780000; omega) dL_undone_104 (fun b104 H hb104 hZ => ?_)
            have hW := hW.nB hb104.1 hZ
            refine lv_dup hx hb dL_undone_107 rfl ?_
            refine z_cBv hC (z_frI (rest := [.ref b104, .ref ob]) (As := []) (n := 0) hC hW.b (met_J4_init_da8c8 l D cs (zfA (zup zE b104 (.inr (1, [.null, .int (iI 0), .int (iI 0), .int (iI 0)]))) _) (zup zE b104 (.inr (1, [.null, .int (iI 0), .int (iI 0), .int (iI 0)]))) b104 zup_s) qc_J4_init_da8c8 qn_J4 qm_L_164 qi_J4_init_da8c8 rfl he_J4_init_da8c8 rfl hl rfl (Nat.le_of_ble_eq_true rfl) ⟨Nat.le_of_ble_eq_true rfl, Nat.le_of_ble_eq_true rfl⟩ ⟨(by show _ ≤ 92000; omega), (by show _ ≤ 780000; omega)⟩ dL_undone_108) hW (fun B108 H locs hp108 hW => ?_)
            obtain ⟨va108, -, -, hb108⟩ := hp108
            have hnil : ([] : List Int).length = 0 := rfl
            refine W.widen (k := (1 + 9000 * i.toNat) + 4000 + 2) (n := (9 + 78000 * i.toNat) + 33000 + 20) (by omega) (by omega) ?_
            refine lv_iload hx hb dL_undone_111 (lv_at hl 0 rfl) ?_
            refine z_cXr hC (z_frS (rest := [.ref b104, .ref ob]) (As := [.int (iI ((dC cs (12 + i)) / 16))]) (n := 1) hC hW.x (lm_drawnText l D cs (zfA (zup X1 q2 (zL8 (cs 6) 9 (upI f dn (zSum c1)))) _) (zup X1 q2 (zL8 (cs 6) 9 (upI f dn (zSum c1)))) ((dC cs (12 + i)) / 16) (by omega)) gs_L_189 he_L_drawnText rfl hl rfl (Nat.le_of_ble_eq_true rfl) ⟨Nat.le_of_ble_eq_true rfl, Nat.le_of_ble_eq_true rfl⟩ ⟨(by show _ ≤ 92000; omega), (by show _ ≤ 780000; omega)⟩ dL_undone_113) hW (fun r113 X113 H locs hp113 hW => ?_)
            obtain ⟨hl113, hd113⟩ := hp113
            obtain ⟨v113, t113, hq113, htx113⟩ := hd113
            have hle_15 : zle (zup X1 q2 (zL8 (cs 6) 9 (upI f dn (zSum c1)))) X113 := zle.refl.trans hl113
            have hx60 := htx113.2.1
            have hcc116 := oSB.c hb108
            have hgx116 := grx_le 16 (([] : List Int).length + t113.length)
            have hmc116 := mcS_le (cap := 16) (n := (([] : List Int).length + t113.length))
            obtain ⟨fs116, ho116⟩ := (oSB.mono hb108 zun_le1).o
            refine z_cAp hC (z_frV (rest := [.ref ob]) (As := [.ref r113]) (n := 1) (ci := 1) hC hW.bx (mes_append l D cs (zfA (zun B108 X113) _) (zun B108 X113) b104 va108 16 ([] : List Int) r113 v113 t113 (oSB.mono hb108 zun_le1) (oSt.mono hq113 (zun_le2 hW.dbx)) (by omega)) gv_L_165 hd_J4_append_15ec4 rfl ho116 rfl hl rfl (Nat.le_of_ble_eq_true rfl) ⟨Nat.le_of_ble_eq_true rfl, Nat.le_of_ble_eq_true rfl⟩ ⟨(by show _ ≤ 92000; omega), (by show _ ≤ 780000; omega)⟩ dL_undone_116) hW hb108 (fun B116 va116 H locs hb116 hW => ?_)
            obtain ⟨ca116, hca116⟩ : ∃ c_ : Nat, c_ = grx 16 (([] : List Int).length + t113.length) := ⟨_, rfl⟩
            rw [← hca116] at hb116 hgx116
            refine W.widen (k := (1 + 9000 * i.toNat) + 4000 + 704 + 3) (n := (9 + 78000 * i.toNat) + 33000 + 9520 + (20 + 2 * (ca116 - 16))) (by omega) (by omega) ?_
            have hgb116 : 16 ≤ ca116 ∧ ca116 ≤ 2 * (([] : List Int).length + t113.length) + 16 := by omega
            clear hgx116 hmc116 hcc116 hca116
            have hlen116 : (([] : List Int) ++ t113).length = (([] : List Int).length + t113.length) := List.length_append
            refine z_ldcS1 hC (List.mem_of_getElem? (i := 2) rfl) dL_undone_119 ?_
            have hcc121 := oSB.c hb116
            have hgx121 := grx_le ca116 ((([] : List Int) ++ t113).length + (zLw 2).length)
            have hmc121 := mcS_le (cap := ca116) (n := ((([] : List Int) ++ t113).length + (zLw 2).length))
            obtain ⟨fs121, ho121⟩ := (oSB.mono hb116 zun_le1).o
            refine z_cAp hC (z_frV (rest := [.ref ob]) (As := [.ref (cs (50 + 2))]) (n := 1) (ci := 1) hC hW.bx (mes_append l D cs (zfA (zun B116 X113) _) (zun B116 X113) b104 va116 ca116 (([] : List Int) ++ t113) (cs (50 + 2)) (cs (70 + 2)) (zLw 2) (oSB.mono hb116 zun_le1) (oSt.mono (zLw_st (j := 2) (by decide)) (zun_le2 hW.dbx)) (by omega)) gv_L_165 hd_J4_append_15ec4 rfl ho121 rfl hl rfl (Nat.le_of_ble_eq_true rfl) ⟨Nat.le_of_ble_eq_true rfl, Nat.le_of_ble_eq_true rfl⟩ ⟨(by show _ ≤ 92000; omega), (by show _ ≤ 780000; omega)⟩ dL_undone_121) hW hb116 (fun B121 va121 H locs hb121 hW => ?_)
            obtain ⟨ca121, hca121⟩ : ∃ c_ : Nat, c_ = grx ca116 ((([] : List Int) ++ t113).length + (zLw 2).length) := ⟨_, rfl⟩
            rw [← hca121] at hb121 hgx121
            refine W.widen (k := (1 + 9000 * i.toNat) + 4000 + 704 + 4) (n := (9 + 78000 * i.toNat) + 33000 + 9520 + (20 + 2 * (ca121 - 16))) (by omega) (by omega) ?_
            have hgb121 : 16 ≤ ca121 ∧ ca121 ≤ 2 * ((([] : List Int) ++ t113).length + (zLw 2).length) + 16 := by omega
            clear hgx121 hmc121 hcc121 hca121
            have hlen121 : ((([] : List Int) ++ t113) ++ (zLw 2)).length = ((([] : List Int) ++ t113).length + (zLw 2).length) := List.length_append
            obtain ⟨fs124, ho124⟩ := (oSB.mono hb121 zun_le1).o
            refine z_cTs hC (z_frV (rest := [.ref ob]) (As := []) (n := 0) (ci := 1) hC hW.bx (mes_toString l D cs (zfA (zun B121 X113) _) (zun B121 X113) b104 va121 ca121 ((([] : List Int) ++ t113) ++ (zLw 2)) (oSB.mono hb121 zun_le1) (by omega)) gv_L_174 hd_J4_toString_0e30d rfl ho124 rfl hl rfl (Nat.le_of_ble_eq_true rfl) ⟨Nat.le_of_ble_eq_true rfl, Nat.le_of_ble_eq_true rfl⟩ ⟨(by show _ ≤ 92000; omega), (by show _ ≤ 780000; omega)⟩ dL_undone_124) hW hb121 (fun r124 v124 X124 H locs hl124 hq124 hh124 hW => ?_)
            have hs_16 : oSt cs X124 r113 v113 t113 := hq113.mono hl124
            have hle_17 : zle (zup X1 q2 (zL8 (cs 6) 9 (upI f dn (zSum c1)))) X124 := hle_15.trans hl124
            have hq124 : oSt cs X124 r124 v124 (t113 ++ [32]) := hq124
            have hzt : zlt2 (t113 ++ [32]) := zlt2_sp htx113.2.2.1
            have hzl : (t113 ++ [32]).length ≤ 60 := by
              have z8 := tLs_59 (c := (dC cs (12 + i))) (e := ((dC cs (12 + i)) / 16)) (by omega) rfl (by omega) (by omega)
              have z9 := htx113.1
              rw [List.length_append, List.length_singleton]
              omega
            refine lv_goto (tgt := 135) hx hb dL_undone_127 (by decide) ?_
            refine z_cGXi hC (z_frS (rest := []) (As := [.ref ob, .ref r124]) (n := 2) hC hW.gx (lm_types l D cs (zfA (zun G39 X124) _) G39 X124 ob N1 tx1 ([] : List Int) out39 c1 hs1 r124 v124 (t113 ++ [32]) hW.dgx hlt hG hq124 hzl hzt) gs_L_192 he_L_types rfl hl rfl (Nat.le_of_ble_eq_true rfl) ⟨Nat.le_of_ble_eq_true rfl, Nat.le_of_ble_eq_true rfl⟩ ⟨(by show _ ≤ 92000; omega), (by show _ ≤ 780000; omega)⟩ dL_undone_135) hW (fun r135 G135 X135 H locs hp135 hW => ?_)
            obtain ⟨rfl, hG, rfl⟩ := hp135
            refine z_if_eq (tgt := 153) hx hb dL_undone_138 (by decide) (by decide) (fun c_18 => ?_) (fun c_18 => ?_)
            · skip
              exfalso; omega
            · skip
              refine lv_aload_n hx hb dL_undone_141 rfl (lv_at hl 6 rfl) ?_
              refine lv_iload hx hb dL_undone_142 (lv_at hl 0 rfl) ?_
              refine z_bipush hx hb dL_undone_144 (by decide) ?_
              refine z_irem hx hb dL_undone_146 (by omega) (by omega) ?_
              refine z_cGi hC (z_frSW (rest := []) (As := [.ref ob, .int (iI (((dC cs (12 + i)) / 16) % 11))]) (n := 2) hC hW.g (lw_addArticle l D cs (zfA G135 _) G135 ob (((dC cs (12 + i)) / 16) % 11) N1 (t113 ++ [32]) ([] : List Int) out39 c1 hs1 hlt hG (by omega) (by omega)) (zgsW qm_L_196 qt_L_addArticle qn_L qc_L_addArticle) he_L_addArticle rfl hl rfl (Nat.le_of_ble_eq_true rfl) ⟨Nat.le_of_ble_eq_true rfl, Nat.le_of_ble_eq_true rfl⟩ ⟨(by show _ ≤ 92000; omega), (by show _ ≤ 780000; omega)⟩ dL_undone_147) hW (fun r147 G147 H locs hp147 hW => ?_)
              obtain ⟨hG, rfl⟩ := hp147
              have hop := op_st (hs := hs1) (show opOK [-1, -2, -3] c1 (sAdd c1 (((dC cs (12 + i)) / 16) % 11) (t113 ++ [32])) from sAdd_o hK1 (by omega))
              refine lv_goto (tgt := 154) hx hb dL_undone_150 (by decide) ?_
              refine lv_istore (lv' := [(7, .int (iI (wq [-1, -2, -3] ((sAdd c1 (((dC cs (12 + i)) / 16) % 11) (t113 ++ [32])).1, (sAdd c1 (((dC cs (12 + i)) / 16) % 11) (t113 ++ [32])).2.2)))), (6, .int (iI ((dC cs (12 + i)) / 16))), (5, .int (iI (dC cs (12 + i)))), (4, .int (iI i)), (3, .int (iI dn)), (2, .ref q2), (0, .ref (cs 98)), (1, .ref ob)]) hx hb dL_undone_154 hl (by decide) rfl (fun ls hl => ?_)
              refine lv_goto (tgt := 335) hx hb dL_undone_156 (by decide) ?_
              refine W.widen (k := (1 + 9000 * i.toNat + 4900)) (n := (9 + 78000 * i.toNat + 44400)) (by omega) (by omega) ?_
              exact J335_k_7 (wq [-1, -2, -3] ((sAdd c1 (((dC cs (12 + i)) / 16) % 11) (t113 ++ [32])).1, (sAdd c1 (((dC cs (12 + i)) / 16) % 11) (t113 ++ [32])).2.2)) G147 X124 (N1 + 1) (if (sAdd c1 (((dC cs (12 + i)) / 16) % 11) (t113 ++ [32])).1 = 0 then [] else (t113 ++ [32])) out39 ((sAdd c1 (((dC cs (12 + i)) / 16) % 11) (t113 ++ [32])).2.1) (if (sAdd c1 (((dC cs (12 + i)) / 16) % 11) (t113 ++ [32])).1 = 0 then pushH hs1 c1 else hs1)  (by omega) hG (hl124 _ _ (hl113 _ _ zup_s)) (by omega) (by rcases hop with z | z; exact Or.inl ⟨z.1, z.2.2⟩; exact Or.inr ⟨z.2.1, z.2.2.1, z.2.2.2⟩) _ _ hW ls (lv_sub hl [3, 4, 5, 6, 7, 0] rfl)
        · skip
          refine z_top (y := 1) hsw ?_
          refine lv_tableIn (off := 111) (tgt := 159) hx hb dL_undone_48 (by decide +kernel) (by decide +kernel) (by decide +kernel) (by decide) ?_
          refine lv_aload_n hx hb dL_undone_159 rfl (lv_at hl 6 rfl) ?_
          refine lv_iload hx hb dL_undone_160 (lv_at hl 0 rfl) ?_
          refine z_bipush hx hb dL_undone_162 (by decide) ?_
          refine z_irem hx hb dL_undone_164 (by omega) (by omega) ?_
          refine z_cGi hC (z_frSW (rest := []) (As := [.ref ob, .int (iI (((dC cs (12 + i)) / 16) % 8))]) (n := 2) hC hW.g (lw_remove l D cs (zfA G39 _) G39 ob (((dC cs (12 + i)) / 16) % 8) N1 tx1 ([] : List Int) out39 c1 hs1 hlt hG (by omega) (by omega)) (zgsW qm_L_410 qt_L_remove qn_L qc_L_remove) he_L_remove rfl hl rfl (Nat.le_of_ble_eq_true rfl) ⟨Nat.le_of_ble_eq_true rfl, Nat.le_of_ble_eq_true rfl⟩ ⟨(by show _ ≤ 92000; omega), (by show _ ≤ 780000; omega)⟩ dL_undone_165) hW (fun r165 G165 H locs hp165 hW => ?_)
          obtain ⟨hG, rfl⟩ := hp165
          have hop := op_st (hs := hs1) (show opOK [-1] c1 (sRem c1 (((dC cs (12 + i)) / 16) % 8)) from sRem_o hK1)
          refine lv_istore (lv' := [(7, .int (iI (wq [-1] ((sRem c1 (((dC cs (12 + i)) / 16) % 8)).1, (sRem c1 (((dC cs (12 + i)) / 16) % 8)).2.2)))), (6, .int (iI ((dC cs (12 + i)) / 16))), (5, .int (iI (dC cs (12 + i)))), (4, .int (iI i)), (3, .int (iI dn)), (2, .ref q2), (0, .ref (cs 98)), (1, .ref ob)]) hx hb dL_undone_168 hl (by decide) rfl (fun ls hl => ?_)
          refine lv_goto (tgt := 335) hx hb dL_undone_170 (by decide) ?_
          refine W.widen (k := (1 + 9000 * i.toNat + 4900)) (n := (9 + 78000 * i.toNat + 44400)) (by omega) (by omega) ?_
          exact J335_k_7 (wq [-1] ((sRem c1 (((dC cs (12 + i)) / 16) % 8)).1, (sRem c1 (((dC cs (12 + i)) / 16) % 8)).2.2)) G165 (zup X1 q2 (zL8 (cs 6) 9 (upI f dn (zSum c1)))) (N1 + 1) (if (sRem c1 (((dC cs (12 + i)) / 16) % 8)).1 = 0 then tx1 else tx1) out39 ((sRem c1 (((dC cs (12 + i)) / 16) % 8)).2.1) (if (sRem c1 (((dC cs (12 + i)) / 16) % 8)).1 = 0 then pushH hs1 c1 else hs1)  (by omega) hG zup_s (by omega) (by rcases hop with z | z; exact Or.inl ⟨z.1, z.2.2⟩; exact Or.inr ⟨z.2.1, z.2.2.1, z.2.2.2⟩) _ _ hW ls (lv_sub hl [3, 4, 5, 6, 7, 0] rfl)
        · skip
          refine z_top (y := 2) hsw ?_
          refine lv_tableIn (off := 125) (tgt := 173) hx hb dL_undone_48 (by decide +kernel) (by decide +kernel) (by decide +kernel) (by decide) ?_
          refine lv_aload_n hx hb dL_undone_173 rfl (lv_at hl 6 rfl) ?_
          refine lv_iload hx hb dL_undone_174 (lv_at hl 0 rfl) ?_
          refine z_cXr hC (z_frS (rest := [.ref ob]) (As := [.int (iI ((dC cs (12 + i)) / 16))]) (n := 1) hC hW.x (lm_drawnWord l D cs (zfA (zup X1 q2 (zL8 (cs 6) 9 (upI f dn (zSum c1)))) _) (zup X1 q2 (zL8 (cs 6) 9 (upI f dn (zSum c1)))) ((dC cs (12 + i)) / 16) (by omega)) gs_L_178 he_L_drawnWord rfl hl rfl (Nat.le_of_ble_eq_true rfl) ⟨Nat.le_of_ble_eq_true rfl, Nat.le_of_ble_eq_true rfl⟩ ⟨(by show _ ≤ 92000; omega), (by show _ ≤ 780000; omega)⟩ dL_undone_176) hW (fun r176 X176 H locs hp176 hW => ?_)
          obtain ⟨hl176, hd176⟩ := hp176
          obtain ⟨v176, t176, hq176, hh176, hn176, hw176⟩ := hd176
          have hle_19 : zle (zup X1 q2 (zL8 (cs 6) 9 (upI f dn (zSum c1)))) X176 := zle.refl.trans hl176
          have hzt := zlet_2 hw176
          have hzl : t176.length ≤ 60 := by omega
          refine z_cGXi hC (z_frS (rest := []) (As := [.ref ob, .ref r176]) (n := 2) hC hW.gx (lm_types l D cs (zfA (zun G39 X176) _) G39 X176 ob N1 tx1 ([] : List Int) out39 c1 hs1 r176 v176 t176 hW.dgx hlt hG hq176 hzl hzt) gs_L_192 he_L_types rfl hl rfl (Nat.le_of_ble_eq_true rfl) ⟨Nat.le_of_ble_eq_true rfl, Nat.le_of_ble_eq_true rfl⟩ ⟨(by show _ ≤ 92000; omega), (by show _ ≤ 780000; omega)⟩ dL_undone_179) hW (fun r179 G179 X179 H locs hp179 hW => ?_)
          obtain ⟨rfl, hG, rfl⟩ := hp179
          refine z_if_eq (tgt := 206) hx hb dL_undone_182 (by decide) (by decide) (fun c_20 => ?_) (fun c_20 => ?_)
          · skip
            exfalso; omega
          · skip
            refine lv_aload_n hx hb dL_undone_185 rfl (lv_at hl 6 rfl) ?_
            refine lv_iload hx hb dL_undone_186 (lv_at hl 0 rfl) ?_
            refine z_iconst hx hb dL_undone_188 ?_
            refine lv_iushr (v := iI ((((dC cs (12 + i)) / 16) / 16))) hx hb dL_undone_189 (iI_ushrN 4 (by decide) (by omega)) ?_
            refine z_bipush hx hb dL_undone_190 (by decide) ?_
            refine z_irem hx hb dL_undone_192 (by omega) (by omega) ?_
            refine lv_iload hx hb dL_undone_193 (lv_at hl 0 rfl) ?_
            refine z_bipush hx hb dL_undone_195 (by decide) ?_
            refine lv_iushr (v := iI ((((dC cs (12 + i)) / 16) / 128))) hx hb dL_undone_197 (iI_ushrN 7 (by decide) (by omega)) ?_
            refine z_iconst hx hb dL_undone_198 ?_
            refine z_irem hx hb dL_undone_199 (by omega) (by omega) ?_
            refine z_cGi hC (z_frSW (rest := []) (As := [.ref ob, .int (iI ((((dC cs (12 + i)) / 16) / 16) % 7)), .int (iI ((((dC cs (12 + i)) / 16) / 128) % 4))]) (n := 3) hC hW.g (lw_correct l D cs (zfA G179 _) G179 ob ((((dC cs (12 + i)) / 16) / 16) % 7) ((((dC cs (12 + i)) / 16) / 128) % 4) N1 t176 ([] : List Int) out39 c1 hs1 hlt hG (by omega) (by omega) (by omega)) (zgsW qm_L_210 qt_L_correct qn_L qc_L_correct) he_L_correct rfl hl rfl (Nat.le_of_ble_eq_true rfl) ⟨Nat.le_of_ble_eq_true rfl, Nat.le_of_ble_eq_true rfl⟩ ⟨(by show _ ≤ 92000; omega), (by show _ ≤ 780000; omega)⟩ dL_undone_200) hW (fun r200 G200 H locs hp200 hW => ?_)
            obtain ⟨hG, rfl⟩ := hp200
            have hop := op_st (hs := hs1) (show opOK [-1, -2, -3] c1 (sCor c1 ((((dC cs (12 + i)) / 16) / 16) % 7) ((((dC cs (12 + i)) / 16) / 128) % 4) t176) from sCor_o hK1)
            refine lv_goto (tgt := 207) hx hb dL_undone_203 (by decide) ?_
            refine lv_istore (lv' := [(7, .int (iI (wq [-1, -2, -3] ((sCor c1 ((((dC cs (12 + i)) / 16) / 16) % 7) ((((dC cs (12 + i)) / 16) / 128) % 4) t176).1, (sCor c1 ((((dC cs (12 + i)) / 16) / 16) % 7) ((((dC cs (12 + i)) / 16) / 128) % 4) t176).2.2)))), (6, .int (iI ((dC cs (12 + i)) / 16))), (5, .int (iI (dC cs (12 + i)))), (4, .int (iI i)), (3, .int (iI dn)), (2, .ref q2), (0, .ref (cs 98)), (1, .ref ob)]) hx hb dL_undone_207 hl (by decide) rfl (fun ls hl => ?_)
            refine lv_goto (tgt := 335) hx hb dL_undone_209 (by decide) ?_
            refine W.widen (k := (1 + 9000 * i.toNat + 4900)) (n := (9 + 78000 * i.toNat + 44400)) (by omega) (by omega) ?_
            exact J335_k_7 (wq [-1, -2, -3] ((sCor c1 ((((dC cs (12 + i)) / 16) / 16) % 7) ((((dC cs (12 + i)) / 16) / 128) % 4) t176).1, (sCor c1 ((((dC cs (12 + i)) / 16) / 16) % 7) ((((dC cs (12 + i)) / 16) / 128) % 4) t176).2.2)) G200 X176 (N1 + 1) (if (sCor c1 ((((dC cs (12 + i)) / 16) / 16) % 7) ((((dC cs (12 + i)) / 16) / 128) % 4) t176).1 = 0 then [] else t176) out39 ((sCor c1 ((((dC cs (12 + i)) / 16) / 16) % 7) ((((dC cs (12 + i)) / 16) / 128) % 4) t176).2.1) (if (sCor c1 ((((dC cs (12 + i)) / 16) / 16) % 7) ((((dC cs (12 + i)) / 16) / 128) % 4) t176).1 = 0 then pushH hs1 c1 else hs1)  (by omega) hG (hl176 _ _ zup_s) (by omega) (by rcases hop with z | z; exact Or.inl ⟨z.1, z.2.2⟩; exact Or.inr ⟨z.2.1, z.2.2.1, z.2.2.2⟩) _ _ hW ls (lv_sub hl [3, 4, 5, 6, 7, 0] rfl)
        · skip
          refine z_top (y := 3) hsw ?_
          refine lv_tableIn (off := 125) (tgt := 173) hx hb dL_undone_48 (by decide +kernel) (by decide +kernel) (by decide +kernel) (by decide) ?_
          refine lv_aload_n hx hb dL_undone_173 rfl (lv_at hl 6 rfl) ?_
          refine lv_iload hx hb dL_undone_174 (lv_at hl 0 rfl) ?_
          refine z_cXr hC (z_frS (rest := [.ref ob]) (As := [.int (iI ((dC cs (12 + i)) / 16))]) (n := 1) hC hW.x (lm_drawnWord l D cs (zfA (zup X1 q2 (zL8 (cs 6) 9 (upI f dn (zSum c1)))) _) (zup X1 q2 (zL8 (cs 6) 9 (upI f dn (zSum c1)))) ((dC cs (12 + i)) / 16) (by omega)) gs_L_178 he_L_drawnWord rfl hl rfl (Nat.le_of_ble_eq_true rfl) ⟨Nat.le_of_ble_eq_true rfl, Nat.le_of_ble_eq_true rfl⟩ ⟨(by show _ ≤ 92000; omega), (by show _ ≤ 780000; omega)⟩ dL_undone_176) hW (fun r176 X176 H locs hp176 hW => ?_)
          obtain ⟨hl176, hd176⟩ := hp176
          obtain ⟨v176, t176, hq176, hh176, hn176, hw176⟩ := hd176
          have hle_21 : zle (zup X1 q2 (zL8 (cs 6) 9 (upI f dn (zSum c1)))) X176 := zle.refl.trans hl176
          have hzt := zlet_2 hw176
          have hzl : t176.length ≤ 60 := by omega
          refine z_cGXi hC (z_frS (rest := []) (As := [.ref ob, .ref r176]) (n := 2) hC hW.gx (lm_types l D cs (zfA (zun G39 X176) _) G39 X176 ob N1 tx1 ([] : List Int) out39 c1 hs1 r176 v176 t176 hW.dgx hlt hG hq176 hzl hzt) gs_L_192 he_L_types rfl hl rfl (Nat.le_of_ble_eq_true rfl) ⟨Nat.le_of_ble_eq_true rfl, Nat.le_of_ble_eq_true rfl⟩ ⟨(by show _ ≤ 92000; omega), (by show _ ≤ 780000; omega)⟩ dL_undone_179) hW (fun r179 G179 X179 H locs hp179 hW => ?_)
          obtain ⟨rfl, hG, rfl⟩ := hp179
          refine z_if_eq (tgt := 206) hx hb dL_undone_182 (by decide) (by decide) (fun c_22 => ?_) (fun c_22 => ?_)
          · skip
            exfalso; omega
          · skip
            refine lv_aload_n hx hb dL_undone_185 rfl (lv_at hl 6 rfl) ?_
            refine lv_iload hx hb dL_undone_186 (lv_at hl 0 rfl) ?_
            refine z_iconst hx hb dL_undone_188 ?_
            refine lv_iushr (v := iI ((((dC cs (12 + i)) / 16) / 16))) hx hb dL_undone_189 (iI_ushrN 4 (by decide) (by omega)) ?_
            refine z_bipush hx hb dL_undone_190 (by decide) ?_
            refine z_irem hx hb dL_undone_192 (by omega) (by omega) ?_
            refine lv_iload hx hb dL_undone_193 (lv_at hl 0 rfl) ?_
            refine z_bipush hx hb dL_undone_195 (by decide) ?_
            refine lv_iushr (v := iI ((((dC cs (12 + i)) / 16) / 128))) hx hb dL_undone_197 (iI_ushrN 7 (by decide) (by omega)) ?_
            refine z_iconst hx hb dL_undone_198 ?_
            refine z_irem hx hb dL_undone_199 (by omega) (by omega) ?_
            refine z_cGi hC (z_frSW (rest := []) (As := [.ref ob, .int (iI ((((dC cs (12 + i)) / 16) / 16) % 7)), .int (iI ((((dC cs (12 + i)) / 16) / 128) % 4))]) (n := 3) hC hW.g (lw_correct l D cs (zfA G179 _) G179 ob ((((dC cs (12 + i)) / 16) / 16) % 7) ((((dC cs (12 + i)) / 16) / 128) % 4) N1 t176 ([] : List Int) out39 c1 hs1 hlt hG (by omega) (by omega) (by omega)) (zgsW qm_L_210 qt_L_correct qn_L qc_L_correct) he_L_correct rfl hl rfl (Nat.le_of_ble_eq_true rfl) ⟨Nat.le_of_ble_eq_true rfl, Nat.le_of_ble_eq_true rfl⟩ ⟨(by show _ ≤ 92000; omega), (by show _ ≤ 780000; omega)⟩ dL_undone_200) hW (fun r200 G200 H locs hp200 hW => ?_)
            obtain ⟨hG, rfl⟩ := hp200
            have hop := op_st (hs := hs1) (show opOK [-1, -2, -3] c1 (sCor c1 ((((dC cs (12 + i)) / 16) / 16) % 7) ((((dC cs (12 + i)) / 16) / 128) % 4) t176) from sCor_o hK1)
            refine lv_goto (tgt := 207) hx hb dL_undone_203 (by decide) ?_
            refine lv_istore (lv' := [(7, .int (iI (wq [-1, -2, -3] ((sCor c1 ((((dC cs (12 + i)) / 16) / 16) % 7) ((((dC cs (12 + i)) / 16) / 128) % 4) t176).1, (sCor c1 ((((dC cs (12 + i)) / 16) / 16) % 7) ((((dC cs (12 + i)) / 16) / 128) % 4) t176).2.2)))), (6, .int (iI ((dC cs (12 + i)) / 16))), (5, .int (iI (dC cs (12 + i)))), (4, .int (iI i)), (3, .int (iI dn)), (2, .ref q2), (0, .ref (cs 98)), (1, .ref ob)]) hx hb dL_undone_207 hl (by decide) rfl (fun ls hl => ?_)
            refine lv_goto (tgt := 335) hx hb dL_undone_209 (by decide) ?_
            refine W.widen (k := (1 + 9000 * i.toNat + 4900)) (n := (9 + 78000 * i.toNat + 44400)) (by omega) (by omega) ?_
            exact J335_k_7 (wq [-1, -2, -3] ((sCor c1 ((((dC cs (12 + i)) / 16) / 16) % 7) ((((dC cs (12 + i)) / 16) / 128) % 4) t176).1, (sCor c1 ((((dC cs (12 + i)) / 16) / 16) % 7) ((((dC cs (12 + i)) / 16) / 128) % 4) t176).2.2)) G200 X176 (N1 + 1) (if (sCor c1 ((((dC cs (12 + i)) / 16) / 16) % 7) ((((dC cs (12 + i)) / 16) / 128) % 4) t176).1 = 0 then [] else t176) out39 ((sCor c1 ((((dC cs (12 + i)) / 16) / 16) % 7) ((((dC cs (12 + i)) / 16) / 128) % 4) t176).2.1) (if (sCor c1 ((((dC cs (12 + i)) / 16) / 16) % 7) ((((dC cs (12 + i)) / 16) / 128) % 4) t176).1 = 0 then pushH hs1 c1 else hs1)  (by omega) hG (hl176 _ _ zup_s) (by omega) (by rcases hop with z | z; exact Or.inl ⟨z.1, z.2.2⟩; exact Or.inr ⟨z.2.1, z.2.2.1, z.2.2.2⟩) _ _ hW ls (lv_sub hl [3, 4, 5, 6, 7, 0] rfl)
        · skip
          refine z_top (y := 4) hsw ?_
          refine lv_tableIn (off := 164) (tgt := 212) hx hb dL_undone_48 (by decide +kernel) (by decide +kernel) (by decide +kernel) (by decide) ?_
          refine lv_aload_n hx hb dL_undone_212 rfl (lv_at hl 6 rfl) ?_
          refine lv_iload hx hb dL_undone_213 (lv_at hl 0 rfl) ?_
          refine z_bipush hx hb dL_undone_215 (by decide) ?_
          refine z_irem hx hb dL_undone_217 (by omega) (by omega) ?_
          refine z_cGi hC (z_frSW (rest := []) (As := [.ref ob, .int (iI (((dC cs (12 + i)) / 16) % 22))]) (n := 2) hC hW.g (lw_setWidth l D cs (zfA G39 _) G39 ob (((dC cs (12 + i)) / 16) % 22) N1 tx1 ([] : List Int) out39 c1 hs1 hlt hG (by omega) (by omega)) (zgsW qm_L_199 qt_L_setWidth qn_L qc_L_setWidth) he_L_setWidth rfl hl rfl (Nat.le_of_ble_eq_true rfl) ⟨Nat.le_of_ble_eq_true rfl, Nat.le_of_ble_eq_true rfl⟩ ⟨(by show _ ≤ 92000; omega), (by show _ ≤ 780000; omega)⟩ dL_undone_218) hW (fun r218 G218 H locs hp218 hW => ?_)
          obtain ⟨hG, rfl⟩ := hp218
          have hop := op_st (hs := hs1) (show opOK [-1] c1 (sWid c1 (((dC cs (12 + i)) / 16) % 22)) from sWid_o hK1)
          refine lv_istore (lv' := [(7, .int (iI (wq [-1] ((sWid c1 (((dC cs (12 + i)) / 16) % 22)).1, (sWid c1 (((dC cs (12 + i)) / 16) % 22)).2.2)))), (6, .int (iI ((dC cs (12 + i)) / 16))), (5, .int (iI (dC cs (12 + i)))), (4, .int (iI i)), (3, .int (iI dn)), (2, .ref q2), (0, .ref (cs 98)), (1, .ref ob)]) hx hb dL_undone_221 hl (by decide) rfl (fun ls hl => ?_)
          refine lv_goto (tgt := 335) hx hb dL_undone_223 (by decide) ?_
          refine W.widen (k := (1 + 9000 * i.toNat + 4900)) (n := (9 + 78000 * i.toNat + 44400)) (by omega) (by omega) ?_
          exact J335_k_7 (wq [-1] ((sWid c1 (((dC cs (12 + i)) / 16) % 22)).1, (sWid c1 (((dC cs (12 + i)) / 16) % 22)).2.2)) G218 (zup X1 q2 (zL8 (cs 6) 9 (upI f dn (zSum c1)))) (N1 + 1) (if (sWid c1 (((dC cs (12 + i)) / 16) % 22)).1 = 0 then tx1 else tx1) out39 ((sWid c1 (((dC cs (12 + i)) / 16) % 22)).2.1) (if (sWid c1 (((dC cs (12 + i)) / 16) % 22)).1 = 0 then pushH hs1 c1 else hs1)  (by omega) hG zup_s (by omega) (by rcases hop with z | z; exact Or.inl ⟨z.1, z.2.2⟩; exact Or.inr ⟨z.2.1, z.2.2.1, z.2.2.2⟩) _ _ hW ls (lv_sub hl [3, 4, 5, 6, 7, 0] rfl)
        · skip
          refine z_top (y := 5) hsw ?_
          refine lv_tableIn (off := 178) (tgt := 226) hx hb dL_undone_48 (by decide +kernel) (by decide +kernel) (by decide +kernel) (by decide) ?_
          refine lv_aload_n hx hb dL_undone_226 rfl (lv_at hl 6 rfl) ?_
          refine lv_iload hx hb dL_undone_227 (lv_at hl 0 rfl) ?_
          refine z_bipush hx hb dL_undone_229 (by decide) ?_
          refine z_irem hx hb dL_undone_231 (by omega) (by omega) ?_
          refine lv_iload hx hb dL_undone_232 (lv_at hl 0 rfl) ?_
          refine z_iconst hx hb dL_undone_234 ?_
          refine lv_iushr (v := iI ((((dC cs (12 + i)) / 16) / 8))) hx hb dL_undone_235 (iI_ushrN 3 (by decide) (by omega)) ?_
          refine z_bipush hx hb dL_undone_236 (by decide) ?_
          refine z_irem hx hb dL_undone_238 (by omega) (by omega) ?_
          refine z_cGi hC (z_frSW (rest := []) (As := [.ref ob, .int (iI (((dC cs (12 + i)) / 16) % 6)), .int (iI ((((dC cs (12 + i)) / 16) / 8) % 22))]) (n := 3) hC hW.g (lw_setPage l D cs (zfA G39 _) G39 ob (((dC cs (12 + i)) / 16) % 6) ((((dC cs (12 + i)) / 16) / 8) % 22) N1 tx1 ([] : List Int) out39 c1 hs1 hlt hG (by omega) (by omega) (by omega)) (zgsW qm_L_201 qt_L_setPage qn_L qc_L_setPage) he_L_setPage rfl hl rfl (Nat.le_of_ble_eq_true rfl) ⟨Nat.le_of_ble_eq_true rfl, Nat.le_of_ble_eq_true rfl⟩ ⟨(by show _ ≤ 92000; omega), (by show _ ≤ 780000; omega)⟩ dL_undone_239) hW (fun r239 G239 H locs hp239 hW => ?_)
          obtain ⟨hG, rfl⟩ := hp239
          have hop := op_st (hs := hs1) (show opOK [-1] c1 (sPag c1 (((dC cs (12 + i)) / 16) % 6) ((((dC cs (12 + i)) / 16) / 8) % 22)) from sPag_o)
          refine lv_istore (lv' := [(7, .int (iI (wq [-1] ((sPag c1 (((dC cs (12 + i)) / 16) % 6) ((((dC cs (12 + i)) / 16) / 8) % 22)).1, (sPag c1 (((dC cs (12 + i)) / 16) % 6) ((((dC cs (12 + i)) / 16) / 8) % 22)).2.2)))), (6, .int (iI ((dC cs (12 + i)) / 16))), (5, .int (iI (dC cs (12 + i)))), (4, .int (iI i)), (3, .int (iI dn)), (2, .ref q2), (0, .ref (cs 98)), (1, .ref ob)]) hx hb dL_undone_242 hl (by decide) rfl (fun ls hl => ?_)
          refine lv_goto (tgt := 335) hx hb dL_undone_244 (by decide) ?_
          refine W.widen (k := (1 + 9000 * i.toNat + 4900)) (n := (9 + 78000 * i.toNat + 44400)) (by omega) (by omega) ?_
          exact J335_k_7 (wq [-1] ((sPag c1 (((dC cs (12 + i)) / 16) % 6) ((((dC cs (12 + i)) / 16) / 8) % 22)).1, (sPag c1 (((dC cs (12 + i)) / 16) % 6) ((((dC cs (12 + i)) / 16) / 8) % 22)).2.2)) G239 (zup X1 q2 (zL8 (cs 6) 9 (upI f dn (zSum c1)))) (N1 + 1) (if (sPag c1 (((dC cs (12 + i)) / 16) % 6) ((((dC cs (12 + i)) / 16) / 8) % 22)).1 = 0 then tx1 else tx1) out39 ((sPag c1 (((dC cs (12 + i)) / 16) % 6) ((((dC cs (12 + i)) / 16) / 8) % 22)).2.1) (if (sPag c1 (((dC cs (12 + i)) / 16) % 6) ((((dC cs (12 + i)) / 16) / 8) % 22)).1 = 0 then pushH hs1 c1 else hs1)  (by omega) hG zup_s (by omega) (by rcases hop with z | z; exact Or.inl ⟨z.1, z.2.2⟩; exact Or.inr ⟨z.2.1, z.2.2.1, z.2.2.2⟩) _ _ hW ls (lv_sub hl [3, 4, 5, 6, 7, 0] rfl)
        · skip
          refine z_top (y := 6) hsw ?_
          refine lv_tableIn (off := 199) (tgt := 247) hx hb dL_undone_48 (by decide +kernel) (by decide +kernel) (by decide +kernel) (by decide) ?_
          refine lv_aload_n hx hb dL_undone_247 rfl (lv_at hl 6 rfl) ?_
          refine z_cGi hC (z_frSW (rest := []) (As := [.ref ob]) (n := 1) hC hW.g (lw_prints l D cs (zfA G39 _) G39 ob  N1 tx1 ([] : List Int) out39 c1 hs1 hlt hG (by omega)) (zgsW qm_L_204 qt_L_prints qn_L qc_L_prints) he_L_prints rfl hl rfl (Nat.le_of_ble_eq_true rfl) ⟨Nat.le_of_ble_eq_true rfl, Nat.le_of_ble_eq_true rfl⟩ ⟨(by show _ ≤ 92000; omega), (by show _ ≤ 780000; omega)⟩ dL_undone_248) hW (fun r248 G248 H locs hp248 hW => ?_)
          obtain ⟨hG, rfl⟩ := hp248
          have hop := op_st (hs := hs1) (show opOK [-1] c1 (sPrt c1) from sPrt_o hK1 (by omega))
          refine lv_istore (lv' := [(7, .int (iI (wq [-1] ((sPrt c1).1, (sPrt c1).2.2)))), (6, .int (iI ((dC cs (12 + i)) / 16))), (5, .int (iI (dC cs (12 + i)))), (4, .int (iI i)), (3, .int (iI dn)), (2, .ref q2), (0, .ref (cs 98)), (1, .ref ob)]) hx hb dL_undone_251 hl (by decide) rfl (fun ls hl => ?_)
          refine lv_goto (tgt := 335) hx hb dL_undone_253 (by decide) ?_
          refine W.widen (k := (1 + 9000 * i.toNat + 4900)) (n := (9 + 78000 * i.toNat + 44400)) (by omega) (by omega) ?_
          exact J335_k_7 (wq [-1] ((sPrt c1).1, (sPrt c1).2.2)) G248 (zup X1 q2 (zL8 (cs 6) 9 (upI f dn (zSum c1)))) (N1 + 1) (if (sPrt c1).1 = 0 then tx1 else tx1) out39 ((sPrt c1).2.1) (if (sPrt c1).1 = 0 then pushH hs1 c1 else hs1)  (by omega) hG zup_s (by omega) (by rcases hop with z | z; exact Or.inl ⟨z.1, z.2.2⟩; exact Or.inr ⟨z.2.1, z.2.2.1, z.2.2.2⟩) _ _ hW ls (lv_sub hl [3, 4, 5, 6, 7, 0] rfl)
        · skip
          refine z_top (y := 7) hsw ?_
          refine lv_tableIn (off := 208) (tgt := 256) hx hb dL_undone_48 (by decide +kernel) (by decide +kernel) (by decide +kernel) (by decide) ?_
          refine lv_aload_n hx hb dL_undone_256 rfl (lv_at hl 6 rfl) ?_
          refine lv_iload hx hb dL_undone_257 (lv_at hl 0 rfl) ?_
          refine z_bipush hx hb dL_undone_259 (by decide) ?_
          refine z_irem hx hb dL_undone_261 (by omega) (by omega) ?_
          refine z_cGi hC (z_frSW (rest := []) (As := [.ref ob, .int (iI (((dC cs (12 + i)) / 16) % 32))]) (n := 2) hC hW.g (lw_pass l D cs (zfA G39 _) G39 ob (((dC cs (12 + i)) / 16) % 32) N1 tx1 ([] : List Int) out39 c1 hs1 hlt hG (by omega) (by omega)) (zgsW qm_L_207 qt_L_pass qn_L qc_L_pass) he_L_pass rfl hl rfl (Nat.le_of_ble_eq_true rfl) ⟨Nat.le_of_ble_eq_true rfl, Nat.le_of_ble_eq_true rfl⟩ ⟨(by show _ ≤ 92000; omega), (by show _ ≤ 780000; omega)⟩ dL_undone_262) hW (fun r262 G262 H locs hp262 hW => ?_)
          obtain ⟨hG, rfl⟩ := hp262
          have hop := op_st (hs := hs1) (show opOK [-1] c1 (sDay c1 (((dC cs (12 + i)) / 16) % 32)) from sDay_o hK1)
          refine lv_istore (lv' := [(7, .int (iI (wq [-1] ((sDay c1 (((dC cs (12 + i)) / 16) % 32)).1, (sDay c1 (((dC cs (12 + i)) / 16) % 32)).2.2)))), (6, .int (iI ((dC cs (12 + i)) / 16))), (5, .int (iI (dC cs (12 + i)))), (4, .int (iI i)), (3, .int (iI dn)), (2, .ref q2), (0, .ref (cs 98)), (1, .ref ob)]) hx hb dL_undone_265 hl (by decide) rfl (fun ls hl => ?_)
          refine lv_goto (tgt := 335) hx hb dL_undone_267 (by decide) ?_
          refine W.widen (k := (1 + 9000 * i.toNat + 4900)) (n := (9 + 78000 * i.toNat + 44400)) (by omega) (by omega) ?_
          exact J335_k_7 (wq [-1] ((sDay c1 (((dC cs (12 + i)) / 16) % 32)).1, (sDay c1 (((dC cs (12 + i)) / 16) % 32)).2.2)) G262 (zup X1 q2 (zL8 (cs 6) 9 (upI f dn (zSum c1)))) (N1 + 1) (if (sDay c1 (((dC cs (12 + i)) / 16) % 32)).1 = 0 then tx1 else tx1) out39 ((sDay c1 (((dC cs (12 + i)) / 16) % 32)).2.1) (if (sDay c1 (((dC cs (12 + i)) / 16) % 32)).1 = 0 then pushH hs1 c1 else hs1)  (by omega) hG zup_s (by omega) (by rcases hop with z | z; exact Or.inl ⟨z.1, z.2.2⟩; exact Or.inr ⟨z.2.1, z.2.2.1, z.2.2.2⟩) _ _ hW ls (lv_sub hl [3, 4, 5, 6, 7, 0] rfl)
        · skip
          refine z_top (y := 8) hsw ?_
          refine lv_tableOut (tgt := 270) hx hb dL_undone_48 (Or.inr (by decide +kernel)) (by decide) ?_
          refine lv_aload_n hx hb dL_undone_270 rfl (lv_at hl 6 rfl) ?_
          have hd1 := zdig_3 (4 + ((dC cs (12 + i)) / 16) % 18)
          have hd2 := zdig_3 (((dC cs (12 + i)) / 16) / 32 % 9)
          have hd3 := zdig_3 (((dC cs (12 + i)) / 16) / 512 % 7)
          refine z_new (T := TJ4) (N := 4) (ci := 1) hC hW.all tyJ4 tyJ4_ok in_J4 rfl qk_L_162 qx_J4 qn_J4 [.null, .int (iI 0), .int (iI 0), .int (iI 0)] df_J4 (by show _ ≤ 92000; omega) (by show _ ≤ 780000; omega) dL_undone_271 (fun b271 H hb271 hZ => ?_)
          have hW := hW.nB hb271.1 hZ
          refine lv_dup hx hb dL_undone_274 rfl ?_
          refine z_cBv hC (z_frI (rest := [.ref b271, .ref ob]) (As := []) (n := 0) hC hW.b (met_J4_init_da8c8 l D cs (zfA (zup zE b271 (.inr (1, [.null, .int (iI 0), .int (iI 0), .int (iI 0)]))) _) (zup zE b271 (.inr (1, [.null, .int (iI 0), .int (iI 0), .int (iI 0)]))) b271 zup_s) qc_J4_init_da8c8 qn_J4 qm_L_164 qi_J4_init_da8c8 rfl he_J4_init_da8c8 rfl hl rfl (Nat.le_of_ble_eq_true rfl) ⟨Nat.le_of_ble_eq_true rfl, Nat.le_of_ble_eq_true rfl⟩ ⟨(by show _ ≤ 92000; omega), (by show _ ≤ 780000; omega)⟩ dL_undone_275) hW (fun B275 H locs hp275 hW => ?_)
          obtain ⟨va275, -, -, hb275⟩ := hp275
          have hnil : ([] : List Int).length = 0 := rfl
          refine W.widen (k := (1 + 9000 * i.toNat) + 4000 + 2) (n := (9 + 78000 * i.toNat) + 33000 + 20) (by omega) (by omega) ?_
          refine z_ldcS hC (List.mem_of_getElem? (i := 11) rfl) dL_undone_278 ?_
          have hcc281 := oSB.c hb275
          have hgx281 := grx_le 16 (([] : List Int).length + ([119, 105, 100, 116, 104, 32] : List Int).length)
          have hmc281 := mcS_le (cap := 16) (n := (([] : List Int).length + ([119, 105, 100, 116, 104, 32] : List Int).length))
          obtain ⟨fs281, ho281⟩ := (oSB.mono hb275 zun_le1).o
          refine z_cAp hC (z_frV (rest := [.ref ob]) (As := [.ref (cs 30)]) (n := 1) (ci := 1) hC hW.bx (mes_append l D cs (zfA (zun B275 (zup X1 q2 (zL8 (cs 6) 9 (upI f dn (zSum c1))))) _) (zun B275 (zup X1 q2 (zL8 (cs 6) 9 (upI f dn (zSum c1))))) b271 va275 16 ([] : List Int) (cs 30) (cs 40) ([119, 105, 100, 116, 104, 32] : List Int) (oSB.mono hb275 zun_le1) (oSt.mono zLw_w (zun_le2 hW.dbx)) (by omega)) gv_L_165 hd_J4_append_15ec4 rfl ho281 rfl hl rfl (Nat.le_of_ble_eq_true rfl) ⟨Nat.le_of_ble_eq_true rfl, Nat.le_of_ble_eq_true rfl⟩ ⟨(by show _ ≤ 92000; omega), (by show _ ≤ 780000; omega)⟩ dL_undone_281) hW hb275 (fun B281 va281 H locs hb281 hW => ?_)
          obtain ⟨ca281, hca281⟩ : ∃ c_ : Nat, c_ = grx 16 (([] : List Int).length + ([119, 105, 100, 116, 104, 32] : List Int).length) := ⟨_, rfl⟩
          rw [← hca281] at hb281 hgx281
          refine W.widen (k := (1 + 9000 * i.toNat) + 4000 + 3) (n := (9 + 78000 * i.toNat) + 33000 + (20 + 2 * (ca281 - 16))) (by omega) (by omega) ?_
          have hgb281 : 16 ≤ ca281 ∧ ca281 ≤ 2 * (([] : List Int).length + ([119, 105, 100, 116, 104, 32] : List Int).length) + 16 := by omega
          clear hgx281 hmc281 hcc281 hca281
          have hlen281 : (([] : List Int) ++ ([119, 105, 100, 116, 104, 32] : List Int)).length = (([] : List Int).length + ([119, 105, 100, 116, 104, 32] : List Int).length) := List.length_append
          refine z_iconst hx hb dL_undone_284 ?_
          refine lv_iload hx hb dL_undone_285 (lv_at hl 0 rfl) ?_
          refine z_bipush hx hb dL_undone_287 (by decide) ?_
          refine z_irem hx hb dL_undone_289 (by omega) (by omega) ?_
          refine z_iadd hx hb dL_undone_290 ?_
          have hcc291 := oSB.c hb281
          have hgx291 := grw_f (cap := ca281) (n := ((([] : List Int) ++ ([119, 105, 100, 116, 104, 32] : List Int)).length + (zdig (4 + (((dC cs (12 + i)) / 16) % 18))).length)) (by omega)
          have hmc291 := mcS_le (cap := ca281) (n := ((([] : List Int) ++ ([119, 105, 100, 116, 104, 32] : List Int)).length + (zdig (4 + (((dC cs (12 + i)) / 16) % 18))).length))
          obtain ⟨fs291, ho291⟩ := (oSB.mono hb281 zun_le1).o
          refine z_cAp hC (z_frV (rest := [.ref ob]) (As := [.int (iI (4 + (((dC cs (12 + i)) / 16) % 18)))]) (n := 1) (ci := 1) hC hW.bx (met_J4_append_bf812 l D cs (zfA (zun B281 (zup X1 q2 (zL8 (cs 6) 9 (upI f dn (zSum c1))))) _) (zun B281 (zup X1 q2 (zL8 (cs 6) 9 (upI f dn (zSum c1))))) b271 va281 ca281 (([] : List Int) ++ ([119, 105, 100, 116, 104, 32] : List Int)) (4 + (((dC cs (12 + i)) / 16) % 18)) (oSB.mono hb281 zun_le1) (by omega) (by omega)) gv_L_268 hd_J4_append_bf812 rfl ho291 rfl hl rfl (Nat.le_of_ble_eq_true rfl) ⟨Nat.le_of_ble_eq_true rfl, Nat.le_of_ble_eq_true rfl⟩ ⟨(by show _ ≤ 92000; omega), (by show _ ≤ 780000; omega)⟩ dL_undone_291) hW hb281 (fun B291 va291 H locs hb291 hW => ?_)
          obtain ⟨ca291, hca291⟩ : ∃ c_ : Nat, c_ = grw ca281 ((([] : List Int) ++ ([119, 105, 100, 116, 104, 32] : List Int)).length + (zdig (4 + (((dC cs (12 + i)) / 16) % 18))).length) := ⟨_, rfl⟩
          rw [← hca291] at hb291 hgx291
          refine W.widen (k := (1 + 9000 * i.toNat) + 4000 + 4) (n := (9 + 78000 * i.toNat) + 33000 + (20 + 2 * (ca291 - 16))) (by omega) (by omega) ?_
          have hgb291 : 16 ≤ ca291 ∧ ca291 ≤ 2 * ((([] : List Int) ++ ([119, 105, 100, 116, 104, 32] : List Int)).length + (zdig (4 + (((dC cs (12 + i)) / 16) % 18))).length) + 16 := by omega
          clear hgx291 hmc291 hcc291 hca291
          have hlen291 : ((([] : List Int) ++ ([119, 105, 100, 116, 104, 32] : List Int)) ++ zdig (4 + (((dC cs (12 + i)) / 16) % 18))).length = ((([] : List Int) ++ ([119, 105, 100, 116, 104, 32] : List Int)).length + (zdig (4 + (((dC cs (12 + i)) / 16) % 18))).length) := List.length_append
          refine z_ldcS hC (List.mem_of_getElem? (i := 8) rfl) dL_undone_294 ?_
          have hcc297 := oSB.c hb291
          have hgx297 := grx_le ca291 (((([] : List Int) ++ ([119, 105, 100, 116, 104, 32] : List Int)) ++ zdig (4 + (((dC cs (12 + i)) / 16) % 18))).length + (zLw 8).length)
          have hmc297 := mcS_le (cap := ca291) (n := (((([] : List Int) ++ ([119, 105, 100, 116, 104, 32] : List Int)) ++ zdig (4 + (((dC cs (12 + i)) / 16) % 18))).length + (zLw 8).length))
          obtain ⟨fs297, ho297⟩ := (oSB.mono hb291 zun_le1).o
          refine z_cAp hC (z_frV (rest := [.ref ob]) (As := [.ref (cs (50 + 8))]) (n := 1) (ci := 1) hC hW.bx (mes_append l D cs (zfA (zun B291 (zup X1 q2 (zL8 (cs 6) 9 (upI f dn (zSum c1))))) _) (zun B291 (zup X1 q2 (zL8 (cs 6) 9 (upI f dn (zSum c1))))) b271 va291 ca291 ((([] : List Int) ++ ([119, 105, 100, 116, 104, 32] : List Int)) ++ zdig (4 + (((dC cs (12 + i)) / 16) % 18))) (cs (50 + 8)) (cs (70 + 8)) (zLw 8) (oSB.mono hb291 zun_le1) (oSt.mono (zLw_st (j := 8) (by decide)) (zun_le2 hW.dbx)) (by omega)) gv_L_165 hd_J4_append_15ec4 rfl ho297 rfl hl rfl (Nat.le_of_ble_eq_true rfl) ⟨Nat.le_of_ble_eq_true rfl, Nat.le_of_ble_eq_true rfl⟩ ⟨(by show _ ≤ 92000; omega), (by show _ ≤ 780000; omega)⟩ dL_undone_297) hW hb291 (fun B297 va297 H locs hb297 hW => ?_)
          obtain ⟨ca297, hca297⟩ : ∃ c_ : Nat, c_ = grx ca291 (((([] : List Int) ++ ([119, 105, 100, 116, 104, 32] : List Int)) ++ zdig (4 + (((dC cs (12 + i)) / 16) % 18))).length + (zLw 8).length) := ⟨_, rfl⟩
          rw [← hca297] at hb297 hgx297
          refine W.widen (k := (1 + 9000 * i.toNat) + 4000 + 5) (n := (9 + 78000 * i.toNat) + 33000 + (20 + 2 * (ca297 - 16))) (by omega) (by omega) ?_
          have hgb297 : 16 ≤ ca297 ∧ ca297 ≤ 2 * (((([] : List Int) ++ ([119, 105, 100, 116, 104, 32] : List Int)) ++ zdig (4 + (((dC cs (12 + i)) / 16) % 18))).length + (zLw 8).length) + 16 := by omega
          clear hgx297 hmc297 hcc297 hca297
          have hlen297 : (((([] : List Int) ++ ([119, 105, 100, 116, 104, 32] : List Int)) ++ zdig (4 + (((dC cs (12 + i)) / 16) % 18))) ++ (zLw 8)).length = (((([] : List Int) ++ ([119, 105, 100, 116, 104, 32] : List Int)) ++ zdig (4 + (((dC cs (12 + i)) / 16) % 18))).length + (zLw 8).length) := List.length_append
          refine lv_iload hx hb dL_undone_300 (lv_at hl 0 rfl) ?_
          refine z_iconst hx hb dL_undone_302 ?_
          refine lv_iushr (v := iI ((((dC cs (12 + i)) / 16) / 32))) hx hb dL_undone_303 (iI_ushrN 5 (by decide) (by omega)) ?_
          refine z_bipush hx hb dL_undone_304 (by decide) ?_
          refine z_irem hx hb dL_undone_306 (by omega) (by omega) ?_
          have hcc307 := oSB.c hb297
          have hgx307 := grw_f (cap := ca297) (n := ((((([] : List Int) ++ ([119, 105, 100, 116, 104, 32] : List Int)) ++ zdig (4 + (((dC cs (12 + i)) / 16) % 18))) ++ (zLw 8)).length + (zdig ((((dC cs (12 + i)) / 16) / 32) % 9)).length)) (by omega)
          have hmc307 := mcS_le (cap := ca297) (n := ((((([] : List Int) ++ ([119, 105, 100, 116, 104, 32] : List Int)) ++ zdig (4 + (((dC cs (12 + i)) / 16) % 18))) ++ (zLw 8)).length + (zdig ((((dC cs (12 + i)) / 16) / 32) % 9)).length))
          obtain ⟨fs307, ho307⟩ := (oSB.mono hb297 zun_le1).o
          refine z_cAp hC (z_frV (rest := [.ref ob]) (As := [.int (iI ((((dC cs (12 + i)) / 16) / 32) % 9))]) (n := 1) (ci := 1) hC hW.bx (met_J4_append_bf812 l D cs (zfA (zun B297 (zup X1 q2 (zL8 (cs 6) 9 (upI f dn (zSum c1))))) _) (zun B297 (zup X1 q2 (zL8 (cs 6) 9 (upI f dn (zSum c1))))) b271 va297 ca297 (((([] : List Int) ++ ([119, 105, 100, 116, 104, 32] : List Int)) ++ zdig (4 + (((dC cs (12 + i)) / 16) % 18))) ++ (zLw 8)) ((((dC cs (12 + i)) / 16) / 32) % 9) (oSB.mono hb297 zun_le1) (by omega) (by omega)) gv_L_268 hd_J4_append_bf812 rfl ho307 rfl hl rfl (Nat.le_of_ble_eq_true rfl) ⟨Nat.le_of_ble_eq_true rfl, Nat.le_of_ble_eq_true rfl⟩ ⟨(by show _ ≤ 92000; omega), (by show _ ≤ 780000; omega)⟩ dL_undone_307) hW hb297 (fun B307 va307 H locs hb307 hW => ?_)
          obtain ⟨ca307, hca307⟩ : ∃ c_ : Nat, c_ = grw ca297 ((((([] : List Int) ++ ([119, 105, 100, 116, 104, 32] : List Int)) ++ zdig (4 + (((dC cs (12 + i)) / 16) % 18))) ++ (zLw 8)).length + (zdig ((((dC cs (12 + i)) / 16) / 32) % 9)).length) := ⟨_, rfl⟩
          rw [← hca307] at hb307 hgx307
          refine W.widen (k := (1 + 9000 * i.toNat) + 4000 + 6) (n := (9 + 78000 * i.toNat) + 33000 + (20 + 2 * (ca307 - 16))) (by omega) (by omega) ?_
          have hgb307 : 16 ≤ ca307 ∧ ca307 ≤ 2 * ((((([] : List Int) ++ ([119, 105, 100, 116, 104, 32] : List Int)) ++ zdig (4 + (((dC cs (12 + i)) / 16) % 18))) ++ (zLw 8)).length + (zdig ((((dC cs (12 + i)) / 16) / 32) % 9)).length) + 16 := by omega
          clear hgx307 hmc307 hcc307 hca307
          have hlen307 : ((((([] : List Int) ++ ([119, 105, 100, 116, 104, 32] : List Int)) ++ zdig (4 + (((dC cs (12 + i)) / 16) % 18))) ++ (zLw 8)) ++ zdig ((((dC cs (12 + i)) / 16) / 32) % 9)).length = ((((([] : List Int) ++ ([119, 105, 100, 116, 104, 32] : List Int)) ++ zdig (4 + (((dC cs (12 + i)) / 16) % 18))) ++ (zLw 8)).length + (zdig ((((dC cs (12 + i)) / 16) / 32) % 9)).length) := List.length_append
          refine z_ldcS hC (List.mem_of_getElem? (i := 9) rfl) dL_undone_310 ?_
          have hcc313 := oSB.c hb307
          have hgx313 := grx_le ca307 (((((([] : List Int) ++ ([119, 105, 100, 116, 104, 32] : List Int)) ++ zdig (4 + (((dC cs (12 + i)) / 16) % 18))) ++ (zLw 8)) ++ zdig ((((dC cs (12 + i)) / 16) / 32) % 9)).length + (zLw 9).length)
          have hmc313 := mcS_le (cap := ca307) (n := (((((([] : List Int) ++ ([119, 105, 100, 116, 104, 32] : List Int)) ++ zdig (4 + (((dC cs (12 + i)) / 16) % 18))) ++ (zLw 8)) ++ zdig ((((dC cs (12 + i)) / 16) / 32) % 9)).length + (zLw 9).length))
          obtain ⟨fs313, ho313⟩ := (oSB.mono hb307 zun_le1).o
          refine z_cAp hC (z_frV (rest := [.ref ob]) (As := [.ref (cs (50 + 9))]) (n := 1) (ci := 1) hC hW.bx (mes_append l D cs (zfA (zun B307 (zup X1 q2 (zL8 (cs 6) 9 (upI f dn (zSum c1))))) _) (zun B307 (zup X1 q2 (zL8 (cs 6) 9 (upI f dn (zSum c1))))) b271 va307 ca307 ((((([] : List Int) ++ ([119, 105, 100, 116, 104, 32] : List Int)) ++ zdig (4 + (((dC cs (12 + i)) / 16) % 18))) ++ (zLw 8)) ++ zdig ((((dC cs (12 + i)) / 16) / 32) % 9)) (cs (50 + 9)) (cs (70 + 9)) (zLw 9) (oSB.mono hb307 zun_le1) (oSt.mono (zLw_st (j := 9) (by decide)) (zun_le2 hW.dbx)) (by omega)) gv_L_165 hd_J4_append_15ec4 rfl ho313 rfl hl rfl (Nat.le_of_ble_eq_true rfl) ⟨Nat.le_of_ble_eq_true rfl, Nat.le_of_ble_eq_true rfl⟩ ⟨(by show _ ≤ 92000; omega), (by show _ ≤ 780000; omega)⟩ dL_undone_313) hW hb307 (fun B313 va313 H locs hb313 hW => ?_)
          obtain ⟨ca313, hca313⟩ : ∃ c_ : Nat, c_ = grx ca307 (((((([] : List Int) ++ ([119, 105, 100, 116, 104, 32] : List Int)) ++ zdig (4 + (((dC cs (12 + i)) / 16) % 18))) ++ (zLw 8)) ++ zdig ((((dC cs (12 + i)) / 16) / 32) % 9)).length + (zLw 9).length) := ⟨_, rfl⟩
          rw [← hca313] at hb313 hgx313
          refine W.widen (k := (1 + 9000 * i.toNat) + 4000 + 7) (n := (9 + 78000 * i.toNat) + 33000 + (20 + 2 * (ca313 - 16))) (by omega) (by omega) ?_
          have hgb313 : 16 ≤ ca313 ∧ ca313 ≤ 2 * (((((([] : List Int) ++ ([119, 105, 100, 116, 104, 32] : List Int)) ++ zdig (4 + (((dC cs (12 + i)) / 16) % 18))) ++ (zLw 8)) ++ zdig ((((dC cs (12 + i)) / 16) / 32) % 9)).length + (zLw 9).length) + 16 := by omega
          clear hgx313 hmc313 hcc313 hca313
          have hlen313 : (((((([] : List Int) ++ ([119, 105, 100, 116, 104, 32] : List Int)) ++ zdig (4 + (((dC cs (12 + i)) / 16) % 18))) ++ (zLw 8)) ++ zdig ((((dC cs (12 + i)) / 16) / 32) % 9)) ++ (zLw 9)).length = (((((([] : List Int) ++ ([119, 105, 100, 116, 104, 32] : List Int)) ++ zdig (4 + (((dC cs (12 + i)) / 16) % 18))) ++ (zLw 8)) ++ zdig ((((dC cs (12 + i)) / 16) / 32) % 9)).length + (zLw 9).length) := List.length_append
          refine lv_iload hx hb dL_undone_316 (lv_at hl 0 rfl) ?_
          refine z_bipush hx hb dL_undone_318 (by decide) ?_
          refine lv_iushr (v := iI ((((dC cs (12 + i)) / 16) / 512))) hx hb dL_undone_320 (iI_ushrN 9 (by decide) (by omega)) ?_
          refine z_bipush hx hb dL_undone_321 (by decide) ?_
          refine z_irem hx hb dL_undone_323 (by omega) (by omega) ?_
          have hcc324 := oSB.c hb313
          have hgx324 := grw_f (cap := ca313) (n := ((((((([] : List Int) ++ ([119, 105, 100, 116, 104, 32] : List Int)) ++ zdig (4 + (((dC cs (12 + i)) / 16) % 18))) ++ (zLw 8)) ++ zdig ((((dC cs (12 + i)) / 16) / 32) % 9)) ++ (zLw 9)).length + (zdig ((((dC cs (12 + i)) / 16) / 512) % 7)).length)) (by omega)
          have hmc324 := mcS_le (cap := ca313) (n := ((((((([] : List Int) ++ ([119, 105, 100, 116, 104, 32] : List Int)) ++ zdig (4 + (((dC cs (12 + i)) / 16) % 18))) ++ (zLw 8)) ++ zdig ((((dC cs (12 + i)) / 16) / 32) % 9)) ++ (zLw 9)).length + (zdig ((((dC cs (12 + i)) / 16) / 512) % 7)).length))
          obtain ⟨fs324, ho324⟩ := (oSB.mono hb313 zun_le1).o
          refine z_cAp hC (z_frV (rest := [.ref ob]) (As := [.int (iI ((((dC cs (12 + i)) / 16) / 512) % 7))]) (n := 1) (ci := 1) hC hW.bx (met_J4_append_bf812 l D cs (zfA (zun B313 (zup X1 q2 (zL8 (cs 6) 9 (upI f dn (zSum c1))))) _) (zun B313 (zup X1 q2 (zL8 (cs 6) 9 (upI f dn (zSum c1))))) b271 va313 ca313 (((((([] : List Int) ++ ([119, 105, 100, 116, 104, 32] : List Int)) ++ zdig (4 + (((dC cs (12 + i)) / 16) % 18))) ++ (zLw 8)) ++ zdig ((((dC cs (12 + i)) / 16) / 32) % 9)) ++ (zLw 9)) ((((dC cs (12 + i)) / 16) / 512) % 7) (oSB.mono hb313 zun_le1) (by omega) (by omega)) gv_L_268 hd_J4_append_bf812 rfl ho324 rfl hl rfl (Nat.le_of_ble_eq_true rfl) ⟨Nat.le_of_ble_eq_true rfl, Nat.le_of_ble_eq_true rfl⟩ ⟨(by show _ ≤ 92000; omega), (by show _ ≤ 780000; omega)⟩ dL_undone_324) hW hb313 (fun B324 va324 H locs hb324 hW => ?_)
          obtain ⟨ca324, hca324⟩ : ∃ c_ : Nat, c_ = grw ca313 ((((((([] : List Int) ++ ([119, 105, 100, 116, 104, 32] : List Int)) ++ zdig (4 + (((dC cs (12 + i)) / 16) % 18))) ++ (zLw 8)) ++ zdig ((((dC cs (12 + i)) / 16) / 32) % 9)) ++ (zLw 9)).length + (zdig ((((dC cs (12 + i)) / 16) / 512) % 7)).length) := ⟨_, rfl⟩
          rw [← hca324] at hb324 hgx324
          refine W.widen (k := (1 + 9000 * i.toNat) + 4000 + 8) (n := (9 + 78000 * i.toNat) + 33000 + (20 + 2 * (ca324 - 16))) (by omega) (by omega) ?_
          have hgb324 : 16 ≤ ca324 ∧ ca324 ≤ 2 * ((((((([] : List Int) ++ ([119, 105, 100, 116, 104, 32] : List Int)) ++ zdig (4 + (((dC cs (12 + i)) / 16) % 18))) ++ (zLw 8)) ++ zdig ((((dC cs (12 + i)) / 16) / 32) % 9)) ++ (zLw 9)).length + (zdig ((((dC cs (12 + i)) / 16) / 512) % 7)).length) + 16 := by omega
          clear hgx324 hmc324 hcc324 hca324
          have hlen324 : ((((((([] : List Int) ++ ([119, 105, 100, 116, 104, 32] : List Int)) ++ zdig (4 + (((dC cs (12 + i)) / 16) % 18))) ++ (zLw 8)) ++ zdig ((((dC cs (12 + i)) / 16) / 32) % 9)) ++ (zLw 9)) ++ zdig ((((dC cs (12 + i)) / 16) / 512) % 7)).length = ((((((([] : List Int) ++ ([119, 105, 100, 116, 104, 32] : List Int)) ++ zdig (4 + (((dC cs (12 + i)) / 16) % 18))) ++ (zLw 8)) ++ zdig ((((dC cs (12 + i)) / 16) / 32) % 9)) ++ (zLw 9)).length + (zdig ((((dC cs (12 + i)) / 16) / 512) % 7)).length) := List.length_append
          obtain ⟨fs327, ho327⟩ := (oSB.mono hb324 zun_le1).o
          refine z_cTs hC (z_frV (rest := [.ref ob]) (As := []) (n := 0) (ci := 1) hC hW.bx (mes_toString l D cs (zfA (zun B324 (zup X1 q2 (zL8 (cs 6) 9 (upI f dn (zSum c1))))) _) (zun B324 (zup X1 q2 (zL8 (cs 6) 9 (upI f dn (zSum c1))))) b271 va324 ca324 ((((((([] : List Int) ++ ([119, 105, 100, 116, 104, 32] : List Int)) ++ zdig (4 + (((dC cs (12 + i)) / 16) % 18))) ++ (zLw 8)) ++ zdig ((((dC cs (12 + i)) / 16) / 32) % 9)) ++ (zLw 9)) ++ zdig ((((dC cs (12 + i)) / 16) / 512) % 7)) (oSB.mono hb324 zun_le1) (by omega)) gv_L_174 hd_J4_toString_0e30d rfl ho327 rfl hl rfl (Nat.le_of_ble_eq_true rfl) ⟨Nat.le_of_ble_eq_true rfl, Nat.le_of_ble_eq_true rfl⟩ ⟨(by show _ ≤ 92000; omega), (by show _ ≤ 780000; omega)⟩ dL_undone_327) hW hb324 (fun r327 v327 X327 H locs hl327 hq327 hh327 hW => ?_)
          have hle_23 : zle (zup X1 q2 (zL8 (cs 6) 9 (upI f dn (zSum c1)))) X327 := zle.refl.trans hl327
          refine z_cGXi hC (z_frS (rest := []) (As := [.ref ob, .ref r327]) (n := 2) hC hW.gx (lm_execute l D cs (zfA (zun G39 X327) _) G39 X327 ob N1 tx1 out39 c1 hs1 r327 v327 ((((((([] : List Int) ++ ([119, 105, 100, 116, 104, 32] : List Int)) ++ zdig (4 + (((dC cs (12 + i)) / 16) % 18))) ++ (zLw 8)) ++ zdig ((((dC cs (12 + i)) / 16) / 32) % 9)) ++ (zLw 9)) ++ zdig ((((dC cs (12 + i)) / 16) / 512) % 7)) hW.dgx hlt hG hq327 (by omega) (by omega)) gs_L_419 he_L_execute rfl hl rfl (Nat.le_of_ble_eq_true rfl) ⟨Nat.le_of_ble_eq_true rfl, Nat.le_of_ble_eq_true rfl⟩ ⟨(by show _ ≤ 92000; omega), (by show _ ≤ 780000; omega)⟩ dL_undone_330) hW (fun r330 G330 X330 H locs hp330 hW => ?_)
          obtain ⟨rfl, hG, rfl⟩ := hp330
          have hop := op_st (hs := hs1) (show opOK [-1, -2] c1 (sEx c1 ((((((([] : List Int) ++ ([119, 105, 100, 116, 104, 32] : List Int)) ++ zdig (4 + (((dC cs (12 + i)) / 16) % 18))) ++ (zLw 8)) ++ zdig ((((dC cs (12 + i)) / 16) / 32) % 9)) ++ (zLw 9)) ++ zdig ((((dC cs (12 + i)) / 16) / 512) % 7))) from sEx_o (by omega))
          refine lv_istore (lv' := [(7, .int (iI (wq [-1, -2] ((sEx c1 ((((((([] : List Int) ++ ([119, 105, 100, 116, 104, 32] : List Int)) ++ zdig (4 + (((dC cs (12 + i)) / 16) % 18))) ++ (zLw 8)) ++ zdig ((((dC cs (12 + i)) / 16) / 32) % 9)) ++ (zLw 9)) ++ zdig ((((dC cs (12 + i)) / 16) / 512) % 7))).1, (sEx c1 ((((((([] : List Int) ++ ([119, 105, 100, 116, 104, 32] : List Int)) ++ zdig (4 + (((dC cs (12 + i)) / 16) % 18))) ++ (zLw 8)) ++ zdig ((((dC cs (12 + i)) / 16) / 32) % 9)) ++ (zLw 9)) ++ zdig ((((dC cs (12 + i)) / 16) / 512) % 7))).2.2)))), (6, .int (iI ((dC cs (12 + i)) / 16))), (5, .int (iI (dC cs (12 + i)))), (4, .int (iI i)), (3, .int (iI dn)), (2, .ref q2), (0, .ref (cs 98)), (1, .ref ob)]) hx hb dL_undone_333 hl (by decide) rfl (fun ls hl => ?_)
          refine W.widen (k := (1 + 9000 * i.toNat + 4900)) (n := (9 + 78000 * i.toNat + 44400)) (by omega) (by omega) ?_
          exact J335_k_7 (wq [-1, -2] ((sEx c1 ((((((([] : List Int) ++ ([119, 105, 100, 116, 104, 32] : List Int)) ++ zdig (4 + (((dC cs (12 + i)) / 16) % 18))) ++ (zLw 8)) ++ zdig ((((dC cs (12 + i)) / 16) / 32) % 9)) ++ (zLw 9)) ++ zdig ((((dC cs (12 + i)) / 16) / 512) % 7))).1, (sEx c1 ((((((([] : List Int) ++ ([119, 105, 100, 116, 104, 32] : List Int)) ++ zdig (4 + (((dC cs (12 + i)) / 16) % 18))) ++ (zLw 8)) ++ zdig ((((dC cs (12 + i)) / 16) / 32) % 9)) ++ (zLw 9)) ++ zdig ((((dC cs (12 + i)) / 16) / 512) % 7))).2.2)) G330 X327 (N1 + 1) tx1 out39 ((sEx c1 ((((((([] : List Int) ++ ([119, 105, 100, 116, 104, 32] : List Int)) ++ zdig (4 + (((dC cs (12 + i)) / 16) % 18))) ++ (zLw 8)) ++ zdig ((((dC cs (12 + i)) / 16) / 32) % 9)) ++ (zLw 9)) ++ zdig ((((dC cs (12 + i)) / 16) / 512) % 7))).2.1) (if (sEx c1 ((((((([] : List Int) ++ ([119, 105, 100, 116, 104, 32] : List Int)) ++ zdig (4 + (((dC cs (12 + i)) / 16) % 18))) ++ (zLw 8)) ++ zdig ((((dC cs (12 + i)) / 16) / 32) % 9)) ++ (zLw 9)) ++ zdig ((((dC cs (12 + i)) / 16) / 512) % 7))).1 = 0 then pushH hs1 c1 else hs1)  (by omega) hG (hl327 _ _ zup_s) (by omega) (by rcases hop with z | z; exact Or.inl ⟨z.1, z.2.2⟩; exact Or.inr ⟨z.2.1, z.2.2.1, z.2.2.2⟩) _ _ hW ls (lv_sub hl [3, 4, 5, 6, 7, 0] rfl)
  refine W.widen (k := (1 + 9000 * (0 : Int).toNat)) (n := (9 + 78000 * (0 : Int).toNat)) (by omega) (by omega) ?_
  exact L10_k_1 _ 0 0 G (zup X q2 (zL8 (cs 6) 9 (fun _ => 0))) N tx out c0 hs (fun _ => 0) (Nat.lt_succ_self _) (by omega) (by omega) hG zup_s (by omega) hist_0 _ _ hW ls (lv_sub hl [0, 1, 2, 3, 4] rfl)

theorem z_cDr {p : Program} {l : Launch} {e : Env} {R : Room} {s : State} {m : MethodId} {args : Array Value} {below : List Frame} {meth : Method} {c : Code} {H : Heap} {locs : List Loc} {cells slots : Nat} {Q : State → Prop} {cc : ByteArray} {pc nL : Nat} {ls : Array Slot} {rest : List Value} {own : String} {D : va_G} {cs : Nat → ClassId} {A : Nat → Prop} {X : zF} (hC : zC p s m args c cc nL own D cs A) {post : Nat → zF → zF → Prop} {mc ms : Nat} {st0 : List Value} (hr : zRun p l e R s m args below meth c H locs cells slots mc ms (F0 m pc ls st0) rest D (zfA X H) (pGR post)) (hW : zW3 D A s zE zE X H locs)
    (kk : ∀ (r : Nat) (G1 X1 : zF) (H1 : Heap) (locs1 : List Loc), post r G1 X1 → zW3 D A s G1 zE X1 H1 locs1 → W p l e R s m args below meth c H1 locs1 (cells + mc) (slots + ms) Q (F0 m (pc + 3) ls (.ref r :: rest))) : W p l e R s m args below meth c H locs cells slots Q (F0 m pc ls st0) :=
  z_cX hC hr hW (fun v F1 H1 locs1 hp h => by
    obtain ⟨r, rfl, G1, X1, e1, d1, hp⟩ := hp
    subst e1
    exact kk r G1 X1 H1 locs1 hp (zW3.of h.x d1))
