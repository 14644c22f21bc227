set_option maxHeartbeats 4000000 in
set_option maxRecDepth 100000 in
theorem met_X12_undo (l : Launch) (D : va_G) (cs : Nat → ClassId) (A : Nat → Prop) (F : zF) (ob : Nat) (g : Nat → Nat) (sa : Nat) (so : Option Nat) (hL : List Nat) (tx inp out : List Int) (c0 : zCo) (sv : Option zCo) (hs : List zCo) (er fa : Int) (hlt : l.stackTraces = false)  (hg : gOb cs F ob g sa so hL tx inp out c0 sv hs er fa) (hh8 : hs.length ≤ 8) : zXM l D cs A yX12_undo cX12_undo 2 (some FieldType.int) 6 1 6 [.ref ob] F (pI (fun r F1 => 1 ≤ hs.length ∧ (hs.length : Int) - 1 = r ∧ ∃ (g1 : Nat → Nat) (sa1 : Nat) (hL1 : List Nat), gOb cs F1 ob g1 sa1 so hL1 tx inp out (hs.getD (hs.length - 1) cNew) sv (hs.eraseIdx (hs.length - 1)) er fa)) (fun E F1 => gOb cs F1 ob g sa so hL tx inp out c0 sv hs er fa ∧ hs.length = 0 ∧ E = "java/lang/IllegalStateException") := by
  refine zX_of (own := RX12) (by decide) rfl (Nat.le_of_ble_eq_true rfl) ?_
  intro p e s m below meth c hC hr hlk hT hZ ls hl
  have hx := hC.x
  have hb := hC.b
  have hl : lv_has ls 2 [(0, .ref ob)] := hl
  have h0 : F ob = some (.inr (15, [.ref (g 0), .ref (g 2), .ref (g 4), .ref (g 6), .ref (g 9), .ref (g 11), .ref (g 14), .ref sa, va_rf so, .int (iI er), .int (iI fa)])) := hg.1
  have hs1 := hg.st
  have h8 := z_c8 hC hZ
  obtain ⟨-, hDis, hTx, hI, ⟨cap, hO⟩, ⟨wd0, st0, hLs⟩, ⟨hE1, e0, hE2⟩, ⟨pos0, L0, hR1, hR2⟩, hH, hSt⟩ := id hg
  obtain ⟨hst1, hso1, hlen1, hhs1⟩ := id hSt
  refine lv_aload_n hx hb dX12_undo_0 rfl (lv_at hl 0 rfl) ?_
  refine z_get (T := TX12) (N := 11) (ci := 15) (k := 6) (fs := [.ref (g 0), .ref (g 2), .ref (g 4), .ref (g 6), .ref (g 9), .ref (g 11), .ref (g 14), .ref sa, va_rf so, .int (iI er), .int (iI fa)]) (v := .ref (g 14)) hC hZ in_X12 rfl (by decide) ql_X12_52 rfl h0 rfl dX12_undo_1 ?_
  obtain ⟨fsho_1, ho_1⟩ := (hH).o
  refine z_calli (z_runV (rest := []) (As := []) (n := 0) (ci := 4) hC hZ (met_Jx4a65c_size_8abf5 l D cs A F (g 14) (g 15) hL hH) gv_X12_101 hd_Jx4a65c_size_8abf5 rfl ho_1 rfl hl rfl (Nat.le_of_ble_eq_true rfl) ⟨Nat.le_of_ble_eq_true rfl, Nat.le_of_ble_eq_true rfl⟩ ⟨Nat.le_of_ble_eq_true rfl, Nat.le_of_ble_eq_true rfl⟩ dX12_undo_4) hZ (fun r4 F4 H locs hp4_c_2 hZ => ?_)
  obtain ⟨rfl, rfl⟩ := hp4_c_2
  refine z_iconst hx hb dX12_undo_7 ?_
  refine z_isub hx hb dX12_undo_8 ?_
  refine lv_istore_n (lv' := [(1, .int (iI ((hL.length : Int) - 1))), (0, .ref ob)]) hx hb dX12_undo_9 rfl hl (by decide) rfl (fun ls hl => ?_)
  refine lv_iload_n hx hb dX12_undo_10 rfl (lv_at hl 0 rfl) ?_
  refine z_if_ge (tgt := 25) hx hb dX12_undo_11 (by decide) (by omega) (fun c_3 => ?_) (fun c_3 => ?_)
  · skip
    refine lv_aload_n hx hb dX12_undo_25 rfl (lv_at hl 1 rfl) ?_
    refine lv_aload_n hx hb dX12_undo_26 rfl (lv_at hl 1 rfl) ?_
    refine z_get (T := TX12) (N := 11) (ci := 15) (k := 6) (fs := [.ref (g 0), .ref (g 2), .ref (g 4), .ref (g 6), .ref (g 9), .ref (g 11), .ref (g 14), .ref sa, va_rf so, .int (iI er), .int (iI fa)]) (v := .ref (g 14)) hC hZ in_X12 rfl (by decide) ql_X12_52 rfl h0 rfl dX12_undo_27 ?_
    refine lv_iload_n hx hb dX12_undo_30 rfl (lv_at hl 0 rfl) ?_
    obtain ⟨fsho_4, ho_4⟩ := (hH).o
    refine z_callr (z_runV (rest := [.ref ob]) (As := [.int (iI ((hL.length : Int) - 1))]) (n := 1) (ci := 4) hC hZ (met_Jx4a65c_remove_915e3 l D cs A F (g 14) (g 15) hL ((hL.length : Int) - 1) hH ⟨by omega, by omega⟩ (hst_el (P := zrm (gMl g ob) F) hlen1 hhs1 zrm_le)) gv_X12_381 hd_Jx4a65c_remove_915e3 rfl ho_4 rfl hl rfl (Nat.le_of_ble_eq_true rfl) ⟨Nat.le_of_ble_eq_true rfl, Nat.le_of_ble_eq_true rfl⟩ ⟨Nat.le_of_ble_eq_true rfl, Nat.le_of_ble_eq_true rfl⟩ dX12_undo_31) hZ (fun r31 F31 H locs hp31_c_5 hZ => ?_)
    obtain ⟨hk31, hl31, hr31⟩ := hp31_c_5
    have hix31 : ((hL.length : Int) - 1).toNat = hs.length - 1 := by omega
    rw [hix31] at hl31 hr31
    have hg31 := hg.sH h8 (Or.inl rfl) hk31 hl31 (by rw [List.length_eraseIdx, List.length_eraseIdx, hlen1]) (hst_era (i := hs.length - 1) (by omega) hlen1 hhs1)
    have hq31 : rSt cs (zrm (gMl g ob) F) r31 (hs.getD (hs.length - 1) cNew) := by rw [← hr31]; exact hhs1 _ (by omega)
    have hq31 := hq31.mono (hg.mon (J := [14, 15]) (a := 15) (by decide) hk31 (by decide) (Or.inl rfl))
    rw [gup_id] at hg31 hq31
    have h031 : F31 ob = some (.inr (15, [.ref (g 0), .ref (g 2), .ref (g 4), .ref (g 6), .ref (g 9), .ref (g 11), .ref (g 14), .ref sa, va_rf so, .int (iI er), .int (iI fa)])) := hg31.1
    have hs131 := hg31.st
    have h831 := z_c8 hC hZ
    obtain ⟨_, _, _, _, hv31, -⟩ := hq31.mono zrm_le
    refine z_castS (ci := 13) (N := 9) (T := TX10) hC hZ qk_X12_56 hv31 rfl dX12_undo_34 ?_
    refine z_put (T := TX12) (N := 11) (ci := 15) (k := 7) (fs := [.ref (g 0), .ref (g 2), .ref (g 4), .ref (g 6), .ref (g 9), .ref (g 11), .ref (g 14), .ref sa, va_rf so, .int (iI er), .int (iI fa)]) (v := .ref r31) hC hZ tyX12 tyX12_ok nmX12 in_X12 rfl (by decide) ql_X12_59 rfl (Or.inl rfl) rfl h031 (by show 7 < 11; decide) rfl rfl dX12_undo_37 (fun H locs hZ => ?_)
    have hf_6 : (zup F31 ob (.inr (15, [.ref (g 0), .ref (g 2), .ref (g 4), .ref (g 6), .ref (g 9), .ref (g 11), .ref (g 14), .ref r31, va_rf so, .int (iI er), .int (iI fa)]))) ob = some (.inr (15, [.ref (g 0), .ref (g 2), .ref (g 4), .ref (g 6), .ref (g 9), .ref (g 11), .ref (g 14), .ref r31, va_rf so, .int (iI er), .int (iI fa)])) := zup_s
    replace hZ : zS D A s (zup F31 ob (.inr (15, [.ref (g 0), .ref (g 2), .ref (g 4), .ref (g 6), .ref (g 9), .ref (g 11), .ref (g 14), .ref r31, va_rf so, .int (iI er), .int (iI fa)]))) _ _ := hZ
    refine lv_iload_n hx hb dX12_undo_40 rfl (lv_at hl 0 rfl) ?_
    refine vx_ret ?_
    exact z_iret hC hr hlk hZ (by decide) (by decide) (⟨by omega, by omega, g, r31, _, hg31.sX ((zko.refl : zko [ob] F31 F31).up (by simp)) hf_6 ⟨hq31, hg31.2.2.2.2.2.2.2.2.2.2⟩⟩) dX12_undo_41
  · skip
    exact z_throwW (rest := []) hC hZ hlt hT hlk zth_e1 zth_g1 zth_o1 zth_k1 zth_i1 (by decide) (List.mem_of_getElem? (i := 20) rfl) hl (Nat.le_of_ble_eq_true rfl) (Nat.le_of_ble_eq_true rfl) (Nat.le_of_ble_eq_true rfl) (Nat.le_of_ble_eq_true rfl) (Nat.le_of_ble_eq_true rfl) (Nat.le_of_ble_eq_true rfl) (⟨hg, by omega, rfl⟩) dX12_undo_14 dX12_undo_17 dX12_undo_18 dX12_undo_21 dX12_undo_24

set_option maxHeartbeats 4000000 in
set_option maxRecDepth 100000 in
theorem met_X12_save (l : Launch) (D : va_G) (cs : Nat → ClassId) (A : Nat → Prop) (F : zF) (ob : Nat) (g : Nat → Nat) (sa : Nat) (so : Option Nat) (hL : List Nat) (tx inp out : List Int) (c0 : zCo) (sv : Option zCo) (hs : List zCo) (er fa : Int)  (hg : gOb cs F ob g sa so hL tx inp out c0 sv hs er fa) : zM l D cs A yX12_save cX12_save 1 (some FieldType.int) 2 0 0 [.ref ob] F (pI (fun r F1 => ((cAr c0).length : Int) = r ∧ gOb cs F1 ob g sa (some sa) hL tx inp out c0 (some c0) hs er fa)) := by
  refine zM_of (own := RX12) (by decide) rfl (Nat.le_of_ble_eq_true rfl) ?_
  intro p e s m below meth c hC hr hlk hnm hZ ls hl
  have hx := hC.x
  have hb := hC.b
  have hl : lv_has ls 1 [(0, .ref ob)] := hl
  have h0 : F ob = some (.inr (15, [.ref (g 0), .ref (g 2), .ref (g 4), .ref (g 6), .ref (g 9), .ref (g 11), .ref (g 14), .ref sa, va_rf so, .int (iI er), .int (iI fa)])) := hg.1
  have hs1 := hg.st
  have h8 := z_c8 hC hZ
  obtain ⟨-, hDis, hTx, hI, ⟨cap, hO⟩, ⟨wd0, st0, hLs⟩, ⟨hE1, e0, hE2⟩, ⟨pos0, L0, hR1, hR2⟩, hH, hSt⟩ := id hg
  obtain ⟨la, li, aL, iL, h9, ⟨ra, hla⟩, ⟨ri, hli⟩, has, his⟩ := id hs1
  have haL := has.1
  have hiL := his.1
  have ha10 := oL_10 hla
  have hi10 := oL_10 hli
  obtain ⟨hst1, hso1, hlen1, hhs1⟩ := id hSt
  refine lv_aload_n hx hb dX12_save_0 rfl (lv_at hl 0 rfl) ?_
  refine lv_aload_n hx hb dX12_save_1 rfl (lv_at hl 0 rfl) ?_
  refine z_get (T := TX12) (N := 11) (ci := 15) (k := 7) (fs := [.ref (g 0), .ref (g 2), .ref (g 4), .ref (g 6), .ref (g 9), .ref (g 11), .ref (g 14), .ref sa, va_rf so, .int (iI er), .int (iI fa)]) (v := .ref sa) hC hZ in_X12 rfl (by decide) ql_X12_59 rfl h0 rfl dX12_save_2 ?_
  refine z_put (T := TX12) (N := 11) (ci := 15) (k := 8) (fs := [.ref (g 0), .ref (g 2), .ref (g 4), .ref (g 6), .ref (g 9), .ref (g 11), .ref (g 14), .ref sa, va_rf so, .int (iI er), .int (iI fa)]) (v := .ref sa) hC hZ tyX12 tyX12_ok nmX12 in_X12 rfl (by decide) ql_X12_63 rfl (Or.inl rfl) rfl h0 (by show 8 < 11; decide) rfl rfl dX12_save_5 (fun H locs hZ => ?_)
  have hf_1 : (zup F ob (.inr (15, [.ref (g 0), .ref (g 2), .ref (g 4), .ref (g 6), .ref (g 9), .ref (g 11), .ref (g 14), .ref sa, .ref sa, .int (iI er), .int (iI fa)]))) sa = some (.inr (13, [.ref la, .ref li, .int (iI (cNi c0)), .int (iI (cNn c0)), .int (iI (cWi c0)), .int (iI (cCo c0)), .int (iI (cHe c0)), .int (iI (cDa c0)), .int (iI (cLa c0))])) := zup_k (zne h9 h0 (fun q => by cases q)) h9
  have hf_2 : (zup F ob (.inr (15, [.ref (g 0), .ref (g 2), .ref (g 4), .ref (g 6), .ref (g 9), .ref (g 11), .ref (g 14), .ref sa, .ref sa, .int (iI er), .int (iI fa)]))) ob = some (.inr (15, [.ref (g 0), .ref (g 2), .ref (g 4), .ref (g 6), .ref (g 9), .ref (g 11), .ref (g 14), .ref sa, .ref sa, .int (iI er), .int (iI fa)])) := zup_s
  replace hZ : zS D A s (zup F ob (.inr (15, [.ref (g 0), .ref (g 2), .ref (g 4), .ref (g 6), .ref (g 9), .ref (g 11), .ref (g 14), .ref sa, .ref sa, .int (iI er), .int (iI fa)]))) _ _ := hZ
  have hgS : gOb cs (zup F ob (.inr (15, [.ref (g 0), .ref (g 2), .ref (g 4), .ref (g 6), .ref (g 9), .ref (g 11), .ref (g 14), .ref sa, .ref sa, .int (iI er), .int (iI fa)]))) ob g sa (some sa) hL tx inp out c0 (some c0) hs er fa := hg.sX ((zko.refl : zko [ob] F F).up (by simp)) hf_2 ⟨hst1, Or.inr ⟨sa, c0, rfl, rfl, hst1⟩, hlen1, hhs1⟩
  have hs1S := hgS.st
  obtain ⟨laS, liS, aLS, iLS, h9S, ⟨raS, hlaS⟩, ⟨riS, hliS⟩, hasS, hisS⟩ := id hs1S
  have haLS := hasS.1
  have hiLS := hisS.1
  have ha10S := oL_10 hlaS
  have hi10S := oL_10 hliS
  refine lv_aload_n hx hb dX12_save_8 rfl (lv_at hl 0 rfl) ?_
  refine z_get (T := TX12) (N := 11) (ci := 15) (k := 7) (fs := [.ref (g 0), .ref (g 2), .ref (g 4), .ref (g 6), .ref (g 9), .ref (g 11), .ref (g 14), .ref sa, .ref sa, .int (iI er), .int (iI fa)]) (v := .ref sa) hC hZ in_X12 rfl (by decide) ql_X12_59 rfl hf_2 rfl dX12_save_9 ?_
  refine z_getN (T := TX10) (N := 9) (ci := 13) (k := 0) (fs := [.ref laS, .ref liS, .int (iI (cNi c0)), .int (iI (cNn c0)), .int (iI (cWi c0)), .int (iI (cCo c0)), .int (iI (cHe c0)), .int (iI (cDa c0)), .int (iI (cLa c0))]) (v := .ref laS) hC hZ in_X10 rfl (by decide) ql_X12_98 rfl h9S rfl dX12_save_12 ?_
  obtain ⟨fsho_3, ho_3⟩ := (hlaS).o
  refine z_calli (z_runV (rest := []) (As := []) (n := 0) (ci := 4) hC hZ (met_Jx4a65c_size_8abf5 l D cs A (zup F ob (.inr (15, [.ref (g 0), .ref (g 2), .ref (g 4), .ref (g 6), .ref (g 9), .ref (g 11), .ref (g 14), .ref sa, .ref sa, .int (iI er), .int (iI fa)]))) laS raS aLS hlaS) gv_X12_101 hd_Jx4a65c_size_8abf5 rfl ho_3 rfl hl rfl (Nat.le_of_ble_eq_true rfl) ⟨Nat.le_of_ble_eq_true rfl, Nat.le_of_ble_eq_true rfl⟩ ⟨Nat.le_of_ble_eq_true rfl, Nat.le_of_ble_eq_true rfl⟩ dX12_save_15) hZ (fun r15 F15 H locs hp15_c_4 hZ => ?_)
  obtain ⟨rfl, rfl⟩ := hp15_c_4
  exact z_iret hC hr hlk hZ (by decide) (by decide) (⟨by omega, hgS⟩) dX12_save_18

set_option maxHeartbeats 4000000 in
set_option maxRecDepth 100000 in
theorem met_X12_restore (l : Launch) (D : va_G) (cs : Nat → ClassId) (A : Nat → Prop) (F : zF) (ob : Nat) (g : Nat → Nat) (sa : Nat) (so : Option Nat) (hL : List Nat) (tx inp out : List Int) (c0 : zCo) (sv : Option zCo) (hs : List zCo) (er fa : Int) (hlt : l.stackTraces = false)  (hg : gOb cs F ob g sa so hL tx inp out c0 sv hs er fa) : zXM l D cs A yX12_restore cX12_restore 1 (some FieldType.int) 6 1 6 [.ref ob] F (pI (fun r F1 => ∃ d1 : zCo, sv = some d1 ∧ ((cAr d1).length : Int) = r ∧ ∃ q1 : Nat, gOb cs F1 ob g q1 so [] tx inp out d1 sv [] er fa)) (fun E F1 => gOb cs F1 ob g sa so hL tx inp out c0 sv hs er fa ∧ sv = none ∧ E = "java/lang/IllegalStateException") := by
  refine zX_of (own := RX12) (by decide) rfl (Nat.le_of_ble_eq_true rfl) ?_
  intro p e s m below meth c hC hr hlk hT hZ ls hl
  have hx := hC.x
  have hb := hC.b
  have hl : lv_has ls 1 [(0, .ref ob)] := hl
  have h0 : F ob = some (.inr (15, [.ref (g 0), .ref (g 2), .ref (g 4), .ref (g 6), .ref (g 9), .ref (g 11), .ref (g 14), .ref sa, va_rf so, .int (iI er), .int (iI fa)])) := hg.1
  have hs1 := hg.st
  have h8 := z_c8 hC hZ
  obtain ⟨-, hDis, hTx, hI, ⟨cap, hO⟩, ⟨wd0, st0, hLs⟩, ⟨hE1, e0, hE2⟩, ⟨pos0, L0, hR1, hR2⟩, hH, hSt⟩ := id hg
  obtain ⟨hst1, hso1, hlen1, hhs1⟩ := id hSt
  refine lv_aload_n hx hb dX12_restore_0 rfl (lv_at hl 0 rfl) ?_
  refine z_get (T := TX12) (N := 11) (ci := 15) (k := 8) (fs := [.ref (g 0), .ref (g 2), .ref (g 4), .ref (g 6), .ref (g 9), .ref (g 11), .ref (g 14), .ref sa, va_rf so, .int (iI er), .int (iI fa)]) (v := va_rf so) hC hZ in_X12 rfl (by decide) ql_X12_63 rfl h0 rfl dX12_restore_1 ?_
  rcases hso1 with ⟨rfl, rfl⟩ | ⟨q1, d1, rfl, rfl, hqs1⟩
  · skip
    refine lv_ifnonnullN hx hb dX12_restore_4 ?_
    exact z_throwW (rest := []) hC hZ hlt hT hlk zth_e1 zth_g1 zth_o1 zth_k1 zth_i1 (by decide) (List.mem_of_getElem? (i := 21) rfl) hl (Nat.le_of_ble_eq_true rfl) (Nat.le_of_ble_eq_true rfl) (Nat.le_of_ble_eq_true rfl) (Nat.le_of_ble_eq_true rfl) (Nat.le_of_ble_eq_true rfl) (Nat.le_of_ble_eq_true rfl) (⟨hg, rfl, rfl⟩) dX12_restore_7 dX12_restore_10 dX12_restore_11 dX12_restore_14 dX12_restore_17
  · skip
    refine lv_ifnonnull (tgt := 18) hx hb dX12_restore_4 (by decide) ?_
    refine lv_aload_n hx hb dX12_restore_18 rfl (lv_at hl 0 rfl) ?_
    refine lv_aload_n hx hb dX12_restore_19 rfl (lv_at hl 0 rfl) ?_
    refine z_get (T := TX12) (N := 11) (ci := 15) (k := 8) (fs := [.ref (g 0), .ref (g 2), .ref (g 4), .ref (g 6), .ref (g 9), .ref (g 11), .ref (g 14), .ref sa, .ref q1, .int (iI er), .int (iI fa)]) (v := .ref q1) hC hZ in_X12 rfl (by decide) ql_X12_63 rfl h0 rfl dX12_restore_20 ?_
    refine z_put (T := TX12) (N := 11) (ci := 15) (k := 7) (fs := [.ref (g 0), .ref (g 2), .ref (g 4), .ref (g 6), .ref (g 9), .ref (g 11), .ref (g 14), .ref sa, .ref q1, .int (iI er), .int (iI fa)]) (v := .ref q1) hC hZ tyX12 tyX12_ok nmX12 in_X12 rfl (by decide) ql_X12_59 rfl (Or.inl rfl) rfl h0 (by show 7 < 11; decide) rfl rfl dX12_restore_23 (fun H locs hZ => ?_)
    have hf_1 : (zup F ob (.inr (15, [.ref (g 0), .ref (g 2), .ref (g 4), .ref (g 6), .ref (g 9), .ref (g 11), .ref (g 14), .ref q1, .ref q1, .int (iI er), .int (iI fa)]))) ob = some (.inr (15, [.ref (g 0), .ref (g 2), .ref (g 4), .ref (g 6), .ref (g 9), .ref (g 11), .ref (g 14), .ref q1, .ref q1, .int (iI er), .int (iI fa)])) := zup_s
    replace hZ : zS D A s (zup F ob (.inr (15, [.ref (g 0), .ref (g 2), .ref (g 4), .ref (g 6), .ref (g 9), .ref (g 11), .ref (g 14), .ref q1, .ref q1, .int (iI er), .int (iI fa)]))) _ _ := hZ
    have hgS : gOb cs (zup F ob (.inr (15, [.ref (g 0), .ref (g 2), .ref (g 4), .ref (g 6), .ref (g 9), .ref (g 11), .ref (g 14), .ref q1, .ref q1, .int (iI er), .int (iI fa)]))) ob g q1 (some q1) hL tx inp out d1 (some d1) hs er fa := hg.sX ((zko.refl : zko [ob] F F).up (by simp)) hf_1 ⟨hqs1, Or.inr ⟨q1, d1, rfl, rfl, hqs1⟩, hlen1, hhs1⟩
    have h8S := z_c8 hC hZ
    have hHS : oLx cs (zup F ob (.inr (15, [.ref (g 0), .ref (g 2), .ref (g 4), .ref (g 6), .ref (g 9), .ref (g 11), .ref (g 14), .ref q1, .ref q1, .int (iI er), .int (iI fa)]))) (g 14) (g 15) hL := hgS.2.2.2.2.2.2.2.2.1
    refine lv_aload_n hx hb dX12_restore_26 rfl (lv_at hl 0 rfl) ?_
    refine z_get (T := TX12) (N := 11) (ci := 15) (k := 6) (fs := [.ref (g 0), .ref (g 2), .ref (g 4), .ref (g 6), .ref (g 9), .ref (g 11), .ref (g 14), .ref q1, .ref q1, .int (iI er), .int (iI fa)]) (v := .ref (g 14)) hC hZ in_X12 rfl (by decide) ql_X12_52 rfl hf_1 rfl dX12_restore_27 ?_
    obtain ⟨fsho_2, ho_2⟩ := (hHS).o
    refine z_callv (z_runV (rest := []) (As := []) (n := 0) (ci := 4) hC hZ (met_Jx4a65c_clear_da8c8 l D cs A (zup F ob (.inr (15, [.ref (g 0), .ref (g 2), .ref (g 4), .ref (g 6), .ref (g 9), .ref (g 11), .ref (g 14), .ref q1, .ref q1, .int (iI er), .int (iI fa)]))) (g 14) (g 15) hL hHS) gv_X12_386 hd_Jx4a65c_clear_da8c8 rfl ho_2 rfl hl rfl (Nat.le_of_ble_eq_true rfl) ⟨Nat.le_of_ble_eq_true rfl, Nat.le_of_ble_eq_true rfl⟩ ⟨Nat.le_of_ble_eq_true rfl, Nat.le_of_ble_eq_true rfl⟩ dX12_restore_30) hZ (fun F30 H locs hp30_c_3 hZ => ?_)
    obtain ⟨hk30, hl30⟩ := hp30_c_3
    have hg30 := hgS.sH (hs1 := []) h8S (Or.inl rfl) hk30 hl30 rfl (fun k hk => absurd hk (Nat.not_lt_zero _))
    rw [gup_id] at hg30
    have h030 : F30 ob = some (.inr (15, [.ref (g 0), .ref (g 2), .ref (g 4), .ref (g 6), .ref (g 9), .ref (g 11), .ref (g 14), .ref q1, .ref q1, .int (iI er), .int (iI fa)])) := hg30.1
    have hs130 := hg30.st
    have h830 := z_c8 hC hZ
    obtain ⟨la30, li30, aL30, iL30, h930, ⟨ra30, hla30⟩, ⟨ri30, hli30⟩, has30, his30⟩ := id hs130
    have haL30 := has30.1
    have hiL30 := his30.1
    have ha1030 := oL_10 hla30
    have hi1030 := oL_10 hli30
    refine lv_aload_n hx hb dX12_restore_33 rfl (lv_at hl 0 rfl) ?_
    refine z_get (T := TX12) (N := 11) (ci := 15) (k := 7) (fs := [.ref (g 0), .ref (g 2), .ref (g 4), .ref (g 6), .ref (g 9), .ref (g 11), .ref (g 14), .ref q1, .ref q1, .int (iI er), .int (iI fa)]) (v := .ref q1) hC hZ in_X12 rfl (by decide) ql_X12_59 rfl h030 rfl dX12_restore_34 ?_
    refine z_getN (T := TX10) (N := 9) (ci := 13) (k := 0) (fs := [.ref la30, .ref li30, .int (iI (cNi d1)), .int (iI (cNn d1)), .int (iI (cWi d1)), .int (iI (cCo d1)), .int (iI (cHe d1)), .int (iI (cDa d1)), .int (iI (cLa d1))]) (v := .ref la30) hC hZ in_X10 rfl (by decide) ql_X12_98 rfl h930 rfl dX12_restore_37 ?_
    obtain ⟨fsho_4, ho_4⟩ := (hla30).o
    refine z_calli (z_runV (rest := []) (As := []) (n := 0) (ci := 4) hC hZ (met_Jx4a65c_size_8abf5 l D cs A F30 la30 ra30 aL30 hla30) gv_X12_101 hd_Jx4a65c_size_8abf5 rfl ho_4 rfl hl rfl (Nat.le_of_ble_eq_true rfl) ⟨Nat.le_of_ble_eq_true rfl, Nat.le_of_ble_eq_true rfl⟩ ⟨Nat.le_of_ble_eq_true rfl, Nat.le_of_ble_eq_true rfl⟩ dX12_restore_40) hZ (fun r40 F40 H locs hp40_c_5 hZ => ?_)
    obtain ⟨rfl, rfl⟩ := hp40_c_5
    refine vx_ret ?_
    exact z_iret hC hr hlk hZ (by decide) (by decide) (⟨d1, rfl, by omega, q1, hg30⟩) dX12_restore_43

