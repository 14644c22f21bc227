set_option maxHeartbeats 4000000 in
set_option maxRecDepth 100000 in
theorem met_X12_undo (l : Launch) (D : va_G) (cs : Nat → ClassId) (A : Nat → Prop) (F : zF) (ob : Nat) (g : Nat → Nat) (sa : Nat) (so : Option Nat) (hL : List Nat) (tx inp out : List Int) (c0 : zCo) (sv : Option zCo) (hs : List zCo) (er fa : Int) (hlt : l.stackTraces = false)  (hg : gOb cs F ob g sa so hL tx inp out c0 sv hs er fa) (hh8 : hs.length ≤ 8) : zXM l D cs A yX12_undo cX12_undo 2 (some FieldType.int) 6 1 6 [.ref ob] F (pI (fun r F1 => 1 ≤ hs.length ∧ (hs.length : Int) - 1 = r ∧ ∃ (g1 : Nat → Nat) (sa1 : Nat) (hL1 : List Nat), gOb cs F1 ob g1 sa1 so hL1 tx inp out (hs.getD (hs.length - 1) cNew) sv (hs.eraseIdx (hs.length - 1)) er fa)) (fun E F1 => gOb cs F1 ob g sa so hL tx inp out c0 sv hs er fa ∧ hs.length = 0 ∧ E = "java/lang/IllegalStateException") := by
  refine zX_of (own := RX12) (by decide) rfl (Nat.le_of_ble_eq_true rfl) ?_
  intro p e s m below meth c hC hr hlk hT hZ ls hl
  have hx := hC.x
  have hb := hC.b
  have hl : lv_has ls 2 [(0, .ref ob)] := hl
  have h0 : F ob = some (.inr (15, [.ref (g 0), .ref (g 2), .ref (g 4), .ref (g 6), .ref (g 9), .ref (g 11), .ref (g 14), .ref sa, va_rf so, .int (iI er), .int (iI fa)])) := hg.1
  have hs1 := hg.st
  have h8 := z_c8 hC hZ
  obtain ⟨-, hDis, hTx, hI, ⟨cap, hO⟩, ⟨wd0, st0, hLs⟩, ⟨hE1, e0, hE2⟩, ⟨pos0, L0, hR1, hR2⟩, hH, hSt⟩ := id hg
  obtain ⟨hst1, hso1, hlen1, hhs1⟩ := id hSt
  refine lv_aload_n hx hb dX12_undo_0 rfl (lv_at hl 0 rfl) ?_
  refine z_get (T := TX12) (N := 11) (ci := 15) (k := 6) (fs := [.ref (g 0), .ref (g 2), .ref (g 4), .ref (g 6), .ref (g 9), .ref (g 11), .ref (g 14), .ref sa, va_rf so, .int (iI er), .int (iI fa)]) (v := .ref (g 14)) hC hZ in_X12 rfl (by decide) ql_X12_52 rfl h0 rfl dX12_undo_1 ?_
  obtain ⟨fsho_1, ho_1⟩ := (hH).o
  refine z_calli (z_runV (rest := []) (As := []) (n := 0) (ci := 4) hC hZ (met_Jx4a65c_size_8abf5 l D cs A F (g 14) (g 15) hL hH) gv_X12_101 hd_Jx4a65c_size_8abf5 rfl ho_1 rfl hl rfl (Nat.le_of_ble_eq_true rfl) ⟨Nat.le_of_ble_eq_true rfl, Nat.le_of_ble_eq_true rfl⟩ ⟨Nat.le_of_ble_eq_true rfl, Nat.le_of_ble_eq_true rfl⟩ dX12_undo_4) hZ (fun r4 F4 H locs hp4_c_2 hZ => ?_)
  obtain ⟨rfl, rfl⟩ := hp4_c_2
  refine z_iconst hx hb dX12_undo_7 ?_
  refine z_isub hx hb dX12_undo_8 ?_
  refine lv_istore_n (lv' := [(1, .int (iI ((hL.length : Int) - 1))), (0, .ref ob)]) hx hb dX12_undo_9 rfl hl (by decide) rfl (fun ls hl => ?_)
  refine lv_iload_n hx hb dX12_undo_10 rfl (lv_at hl 0 rfl) ?_
  refine z_if_ge (tgt := 25) hx hb dX12_undo_11 (by decide) (by omega) (fun c_3 => ?_) (fun c_3 => ?_)
  · skip
    refine lv_aload_n hx hb dX12_undo_25 rfl (lv_at hl 1 rfl) ?_
    refine lv_aload_n hx hb dX12_undo_26 rfl (lv_at hl 1 rfl) ?_
    refine z_get (T := TX12) (N := 11) (ci := 15) (k := 6) (fs := [.ref (g 0), .ref (g 2), .ref (g 4), .ref (g 6), .ref (g 9), .ref (g 11), .ref (g 14), .ref sa, va_rf so, .int (iI er), .int (iI fa)]) (v := .ref (g 14)) hC hZ in_X12 rfl (by decide) ql_X12_52 rfl h0 rfl dX12_undo_27 ?_
    refine lv_iload_n hx hb dX12_undo_30 rfl (lv_at hl 0 rfl) ?_
    obtain ⟨fsho_4, ho_4⟩ := (hH).o
    refine z_callr (z_runV (rest := [.ref ob]) (As := [.int (iI ((hL.length : Int) - 1))]) (n := 1) (ci := 4) hC hZ (met_Jx4a65c_remove_915e3 l D cs A F (g 14) (g 15) hL ((hL.length : Int) - 1) hH ⟨by omega, by omega⟩ (hst_el (P := zrm (gMl g ob) F) hlen1 hhs1 zrm_le)) gv_X12_381 hd_Jx4a65c_remove_915e3 rfl ho_4 rfl hl rfl (Nat.le_of_ble_eq_true rfl) ⟨Nat.le_of_ble_eq_true rfl, Nat.le_of_ble_eq_true rfl⟩ ⟨Nat.le_of_ble_eq_true rfl, Nat.le_of_ble_eq_true rfl⟩ dX12_undo_31) hZ (fun r31 F31 H locs hp31_c_5 hZ => ?_)
    obtain ⟨hk31, hl31, hr31⟩ := hp31_c_5
    have hix31 : ((hL.length : Int) - 1).toNat = hs.length - 1 := by omega
    rw [hix31] at hl31 hr31
    have hg31 := hg.sH h8 (Or.inl rfl) hk31 hl31 (by rw [List.length_eraseIdx, List.length_eraseIdx, hlen1]) (hst_era (i := hs.length - 1) (by omega) hlen1 hhs1)
    have hq31 : rSt cs (zrm (gMl g ob) F) r31 (hs.getD (hs.length - 1) cNew) := by rw [← hr31]; exact hhs1 _ (by omega)
    have hq31 := hq31.mono (hg.mon (J := [14, 15]) (a := 15) (by decide) hk31 (by decide) (Or.inl rfl))
    rw [gup_id] at hg31 hq31
    have h031 : F31 ob = some (.inr (15, [.ref (g 0), .ref (g 2), .ref (g 4), .ref (g 6), .ref (g 9), .ref (g 11), .ref (g 14), .ref sa, va_rf so, .int (iI er), .int (iI fa)])) := hg31.1
    have hs131 := hg31.st
    have h831 := z_c8 hC hZ
    obtain ⟨_, _, _, _, hv31, -⟩ := hq31.mono zrm_le
    refine z_castS (ci := 13) (N := 9) (T := TX10) hC hZ qk_X12_56 hv31 rfl dX12_undo_34 ?_
    refine z_put (T := TX12) (N := 11) (ci := 15) (k := 7) (fs := [.ref (g 0), .ref (g 2), .ref (g 4), .ref (g 6), .ref (g 9), .ref (g 11), .ref (g 14), .ref sa, va_rf so, .int (iI er), .int (iI fa)]) (v := .ref r31) hC hZ tyX12 tyX12_ok nmX12 in_X12 rfl (by decide) ql_X12_59 rfl (Or.inl rfl) rfl h031 (by show 7 < 11; decide) rfl rfl dX12_undo_37 (fun H locs hZ => ?_)
    have hf_6 : (zup F31 ob (.inr (15, [.ref (g 0), .ref (g 2), .ref (g 4), .ref (g 6), .ref (g 9), .ref (g 11), .ref (g 14), .ref r31, va_rf so, .int (iI er), .int (iI fa)]))) ob = some (.inr (15, [.ref (g 0), .ref (g 2), .ref (g 4), .ref (g 6), .ref (g 9), .ref (g 11), .ref (g 14), .ref r31, va_rf so, .int (iI er), .int (iI fa)])) := zup_s
    replace hZ : zS D A s (zup F31 ob (.inr (15, [.ref (g 0), .ref (g 2), .ref (g 4), .ref (g 6), .ref (g 9), .ref (g 11), .ref (g 14), .ref r31, va_rf so, .int (iI er), .int (iI fa)]))) _ _ := hZ
    refine lv_iload_n hx hb dX12_undo_40 rfl (lv_at hl 0 rfl) ?_
    refine vx_ret ?_
    exact z_iret hC hr hlk hZ (by decide) (by decide) (⟨by omega, by omega, g, r31, _, hg31.sX ((zko.refl : zko [ob] F31 F31).up (by simp)) hf_6 ⟨hq31, hg31.2.2.2.2.2.2.2.2.2.2⟩⟩) dX12_undo_41
  · skip
    exact z_throwW (rest := []) hC hZ hlt hT hlk zth_e1 zth_g1 zth_o1 zth_k1 zth_i1 (by decide) (List.mem_of_getElem? (i := 20) rfl) hl (Nat.le_of_ble_eq_true rfl) (Nat.le_of_ble_eq_true rfl) (Nat.le_of_ble_eq_true rfl) (Nat.le_of_ble_eq_true rfl) (Nat.le_of_ble_eq_true rfl) (Nat.le_of_ble_eq_true rfl) (⟨hg, by omega, rfl⟩) dX12_undo_14 dX12_undo_17 dX12_undo_18 dX12_undo_21 dX12_undo_24
