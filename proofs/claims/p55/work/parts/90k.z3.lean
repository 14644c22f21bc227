set_option maxHeartbeats 4000000 in
set_option maxRecDepth 100000 in
theorem met_X12_linesKeepWidth (l : Launch) (D : va_G) (cs : Nat → ClassId) (A : Nat → Prop) (F : zF) (ob : Nat) (g : Nat → Nat) (sa : Nat) (so : Option Nat) (hL : List Nat) (tx inp out : List Int) (c0 : zCo) (sv : Option zCo) (hs : List zCo) (er fa : Int) (b : Nat) (y : zAr)  (hg : gOb cs F ob g sa so hL tx inp out c0 sv hs er fa) (hby : oAr cs F b y) (hwi : 4 ≤ cWi c0 ∧ cWi c0 ≤ 20) : zM l D cs A yX12_linesKeepWidth cX12_linesKeepWidth 3 (some FieldType.boolean) 5 0 0 [.ref ob, .ref b] F (pI (fun r F1 => 1 = r ∧ gOb cs F1 ob g sa so hL tx inp out c0 sv hs er fa ∧ zko [g 6, g 7, g 8] F F1)) := by
  refine zM_of (own := RX12) (by decide) rfl (Nat.le_of_ble_eq_true rfl) ?_
  intro p e s m below meth c hC hr hlk hnm hZ ls hl
  have hx := hC.x
  have hb := hC.b
  have hl : lv_has ls 3 [(0, .ref ob), (1, .ref b)] := hl
  have h0 : F ob = some (.inr (15, [.ref (g 0), .ref (g 2), .ref (g 4), .ref (g 6), .ref (g 9), .ref (g 11), .ref (g 14), .ref sa, va_rf so, .int (iI er), .int (iI fa)])) := hg.1
  have hs1 := hg.st
  have h8 := z_c8 hC hZ
  obtain ⟨-, hDis, hTx, hI, ⟨cap, hO⟩, ⟨wd0, st0, hLs⟩, ⟨hE1, e0, hE2⟩, ⟨pos0, L0, hR1, hR2⟩, hH, hSt⟩ := id hg
  obtain ⟨la, li, aL, iL, h9, ⟨ra, hla⟩, ⟨ri, hli⟩, has, his⟩ := id hs1
  have haL := has.1
  have hiL := his.1
  have ha10 := oL_10 hla
  have hi10 := oL_10 hli
  obtain ⟨fLs, eLs, oLs, -⟩ := id hLs
  refine lv_aload_n hx hb dX12_linesKeepWidth_0 rfl (lv_at hl 0 rfl) ?_
  refine z_get (T := TX12) (N := 11) (ci := 15) (k := 3) (fs := [.ref (g 0), .ref (g 2), .ref (g 4), .ref (g 6), .ref (g 9), .ref (g 11), .ref (g 14), .ref sa, va_rf so, .int (iI er), .int (iI fa)]) (v := .ref (g 6)) hC hZ in_X12 rfl (by decide) ql_X12_31 rfl h0 rfl dX12_linesKeepWidth_1 ?_
  refine lv_aload_n hx hb dX12_linesKeepWidth_4 rfl (lv_at hl 1 rfl) ?_
  refine lv_aload_n hx hb dX12_linesKeepWidth_5 rfl (lv_at hl 0 rfl) ?_
  refine z_get (T := TX12) (N := 11) (ci := 15) (k := 7) (fs := [.ref (g 0), .ref (g 2), .ref (g 4), .ref (g 6), .ref (g 9), .ref (g 11), .ref (g 14), .ref sa, va_rf so, .int (iI er), .int (iI fa)]) (v := .ref sa) hC hZ in_X12 rfl (by decide) ql_X12_59 rfl h0 rfl dX12_linesKeepWidth_6 ?_
  refine z_getN (T := TX10) (N := 9) (ci := 13) (k := 4) (fs := [.ref la, .ref li, .int (iI (cNi c0)), .int (iI (cNn c0)), .int (iI (cWi c0)), .int (iI (cCo c0)), .int (iI (cHe c0)), .int (iI (cDa c0)), .int (iI (cLa c0))]) (v := .int (iI (cWi c0))) hC hZ in_X10 rfl (by decide) ql_X12_205 rfl h9 rfl dX12_linesKeepWidth_9 ?_
  refine z_calli (z_runV (rest := []) (As := [.ref b, .int (iI (cWi c0))]) (n := 2) (ci := 11) hC hZ (met_X8_arrange l D cs A F (g 6) (g 7) (g 8) wd0 (cWi c0) st0 b y hLs hby hwi) gv_X12_208 hd_X8_arrange rfl oLs rfl hl rfl (Nat.le_of_ble_eq_true rfl) ⟨Nat.le_of_ble_eq_true rfl, Nat.le_of_ble_eq_true rfl⟩ ⟨Nat.le_of_ble_eq_true rfl, Nat.le_of_ble_eq_true rfl⟩ dX12_linesKeepWidth_12) hZ (fun r12 F12 H locs hp12_c_1 hZ => ?_)
  obtain ⟨hk12, hc12⟩ := hp12_c_1
  rcases hc12 with ⟨ls12, hz12, rfl, hq12, hn12, hw12⟩ | ⟨hz12, rfl, st12, hq12⟩
  · skip
    have hg12 := hg.sL h8 hk12 hq12
    have h012 : F12 ob = some (.inr (15, [.ref (g 0), .ref (g 2), .ref (g 4), .ref (g 6), .ref (g 9), .ref (g 11), .ref (g 14), .ref sa, va_rf so, .int (iI er), .int (iI fa)])) := hg12.1
    have hs112 := hg12.st
    have h812 := z_c8 hC hZ
    obtain ⟨la12, li12, aL12, iL12, h912, ⟨ra12, hla12⟩, ⟨ri12, hli12⟩, has12, his12⟩ := id hs112
    have haL12 := has12.1
    have hiL12 := his12.1
    have ha1012 := oL_10 hla12
    have hi1012 := oL_10 hli12
    obtain ⟨fL12, eL12, oL12, -⟩ := id hq12
    refine z_if_ne (tgt := 20) hx hb dX12_linesKeepWidth_15 (by decide) (by decide) (fun c_2 => ?_) (fun c_2 => ?_)
    · skip
      refine z_iconst hx hb dX12_linesKeepWidth_20 ?_
      refine lv_istore_n (lv' := [(2, .int (iI 0)), (0, .ref ob), (1, .ref b)]) hx hb dX12_linesKeepWidth_21 rfl hl (by decide) rfl (fun ls hl => ?_)
      have L22_k_3 : ∀ (fu : Nat) (k : Int)  (hfu : ((ls12.length : Int) - k).toNat < fu) (hi22_0 : 0 ≤ k ∧ k ≤ ls12.length) (H : Heap) (locs : List Loc) (hZ : zS D A s F12 H locs) (ls : Array Slot) (hl : lv_has ls 3 [(2, .int (iI k)), (0, .ref ob), (1, .ref b)]), W p l e (zR 5 0 0) s m [.ref ob, .ref b].toArray below meth c H locs 0 0 (MQ below (zQ D A (pI (fun r F1 => 1 = r ∧ gOb cs F1 ob g sa so hL tx inp out c0 sv hs er fa ∧ zko [g 6, g 7, g 8] F F1))) [.ref ob, .ref b].toArray s 0 0 A) (F0 m 22 ls []) := by
        intro fu
        induction fu with
        | zero =>
          intro k  hfu
          exact absurd hfu (Nat.not_lt_zero _)
        | succ fu ih22 =>
          intro k  hfu hi22_0  H locs hZ ls hl
          refine lv_iload_n hx hb dX12_linesKeepWidth_22 rfl (lv_at hl 0 rfl) ?_
          refine lv_aload_n hx hb dX12_linesKeepWidth_23 rfl (lv_at hl 1 rfl) ?_
          refine z_get (T := TX12) (N := 11) (ci := 15) (k := 3) (fs := [.ref (g 0), .ref (g 2), .ref (g 4), .ref (g 6), .ref (g 9), .ref (g 11), .ref (g 14), .ref sa, va_rf so, .int (iI er), .int (iI fa)]) (v := .ref (g 6)) hC hZ in_X12 rfl (by decide) ql_X12_31 rfl h012 rfl dX12_linesKeepWidth_24 ?_
          refine z_getN (T := TX8) (N := 5) (ci := 11) (k := 3) (fs := [.ref (g 7), .ref (g 8), .int (iI ((zfl (ls12, [])).length : Int)), .int (iI (ls12.length : Int)), .int (iI (cWi c0))]) (v := .int (iI (ls12.length : Int))) hC hZ in_X8 rfl (by decide) ql_X12_215 rfl oL12 rfl dX12_linesKeepWidth_27 ?_
          refine z_icmp_ge (tgt := 59) hx hb dX12_linesKeepWidth_30 (by decide) (by omega) (by omega) (fun c_4 => ?_) (fun c_4 => ?_)
          · skip
            refine z_iconst hx hb dX12_linesKeepWidth_59 ?_
            exact z_zret hC hr hlk hZ rfl (by decide) (by decide) (⟨rfl, hg12, hk12⟩) dX12_linesKeepWidth_60
          · skip
            refine lv_aload_n hx hb dX12_linesKeepWidth_33 rfl (lv_at hl 1 rfl) ?_
            refine z_get (T := TX12) (N := 11) (ci := 15) (k := 3) (fs := [.ref (g 0), .ref (g 2), .ref (g 4), .ref (g 6), .ref (g 9), .ref (g 11), .ref (g 14), .ref sa, va_rf so, .int (iI er), .int (iI fa)]) (v := .ref (g 6)) hC hZ in_X12 rfl (by decide) ql_X12_31 rfl h012 rfl dX12_linesKeepWidth_34 ?_
            refine lv_iload_n hx hb dX12_linesKeepWidth_37 rfl (lv_at hl 0 rfl) ?_
            refine z_calli (z_runV (rest := []) (As := [.int (iI k)]) (n := 1) (ci := 11) hC hZ (met_X8_lengthOf l D cs A F12 (g 6) (g 7) (g 8) (cWi c0) (ls12, []) k hq12 ⟨by omega, by show k < (ls12.length : Int); omega⟩) gv_X12_222 hd_X8_lengthOf rfl oL12 rfl hl rfl (Nat.le_of_ble_eq_true rfl) ⟨Nat.le_of_ble_eq_true rfl, Nat.le_of_ble_eq_true rfl⟩ ⟨Nat.le_of_ble_eq_true rfl, Nat.le_of_ble_eq_true rfl⟩ dX12_linesKeepWidth_38) hZ (fun r38 F38 H locs hp38_c_5 hZ => ?_)
            obtain ⟨rfl, hy38⟩ := hp38_c_5
            have hy39 : ((ls12.getD k.toNat []).length : Int) = r38 := hy38
            have hwk := hw12 (ls12.getD k.toNat []) (by rw [List.getD_eq_getElem?_getD, List.getElem?_eq_getElem (show k.toNat < ls12.length by omega)]; exact List.getElem_mem _)
            refine lv_aload_n hx hb dX12_linesKeepWidth_41 rfl (lv_at hl 1 rfl) ?_
            refine z_get (T := TX12) (N := 11) (ci := 15) (k := 7) (fs := [.ref (g 0), .ref (g 2), .ref (g 4), .ref (g 6), .ref (g 9), .ref (g 11), .ref (g 14), .ref sa, va_rf so, .int (iI er), .int (iI fa)]) (v := .ref sa) hC hZ in_X12 rfl (by decide) ql_X12_59 rfl h012 rfl dX12_linesKeepWidth_42 ?_
            refine z_getN (T := TX10) (N := 9) (ci := 13) (k := 4) (fs := [.ref la12, .ref li12, .int (iI (cNi c0)), .int (iI (cNn c0)), .int (iI (cWi c0)), .int (iI (cCo c0)), .int (iI (cHe c0)), .int (iI (cDa c0)), .int (iI (cLa c0))]) (v := .int (iI (cWi c0))) hC hZ in_X10 rfl (by decide) ql_X12_205 rfl h912 rfl dX12_linesKeepWidth_45 ?_
            refine z_icmp_le (tgt := 53) hx hb dX12_linesKeepWidth_48 (by decide) (by omega) (by omega) (fun c_6 => ?_) (fun c_6 => ?_)
            · skip
              refine z_iinc (lv' := [(2, .int (iI (k + 1))), (0, .ref ob), (1, .ref b)]) hx hb dX12_linesKeepWidth_53 hl (k := 0) rfl (by decide) rfl (fun ls hl => ?_)
              refine lv_goto (tgt := 22) hx hb dX12_linesKeepWidth_56 (by decide) ?_
              exact ih22 (k + 1)  (by omega) (by omega)  _ _ hZ ls (lv_sub hl [0, 1, 2] rfl)
            · skip
              exfalso; omega
      exact L22_k_3 _ 0  (Nat.lt_succ_self _) (by omega)  _ _ hZ ls (lv_sub hl [0, 1, 2] rfl)
    · skip
      exfalso; omega
  · skip
    have hg12 := hg.sL h8 hk12 hq12
    refine z_if_ne (tgt := 20) hx hb dX12_linesKeepWidth_15 (by decide) (by decide) (fun c_7 => ?_) (fun c_7 => ?_)
    · skip
      exfalso; omega
    · skip
      refine z_iconst hx hb dX12_linesKeepWidth_18 ?_
      exact z_zret hC hr hlk hZ rfl (by decide) (by decide) (⟨rfl, hg12, hk12⟩) dX12_linesKeepWidth_19

set_option maxHeartbeats 4000000 in
set_option maxRecDepth 100000 in
theorem met_X12_badnessesAgree (l : Launch) (D : va_G) (cs : Nat → ClassId) (A : Nat → Prop) (F : zF) (ob : Nat) (g : Nat → Nat) (sa : Nat) (so : Option Nat) (hL : List Nat) (tx inp out : List Int) (c0 : zCo) (sv : Option zCo) (hs : List zCo) (er fa : Int) (b : Nat) (y : zAr)  (hg : gOb cs F ob g sa so hL tx inp out c0 sv hs er fa) (hby : oAr cs F b y) (hwi : 4 ≤ cWi c0 ∧ cWi c0 ≤ 20) : zM l D cs A yX12_badnessesAgree cX12_badnessesAgree 3 (some FieldType.boolean) 4 0 0 [.ref ob, .ref b] F (pI (fun r F1 => 1 = r ∧ gOb cs F1 ob g sa so hL tx inp out c0 sv hs er fa)) := by
  refine zM_of (own := RX12) (by decide) rfl (Nat.le_of_ble_eq_true rfl) ?_
  intro p e s m below meth c hC hr hlk hnm hZ ls hl
  have hx := hC.x
  have hb := hC.b
  have hl : lv_has ls 3 [(0, .ref ob), (1, .ref b)] := hl
  have h0 : F ob = some (.inr (15, [.ref (g 0), .ref (g 2), .ref (g 4), .ref (g 6), .ref (g 9), .ref (g 11), .ref (g 14), .ref sa, va_rf so, .int (iI er), .int (iI fa)])) := hg.1
  have hs1 := hg.st
  have h8 := z_c8 hC hZ
  obtain ⟨-, hDis, hTx, hI, ⟨cap, hO⟩, ⟨wd0, st0, hLs⟩, ⟨hE1, e0, hE2⟩, ⟨pos0, L0, hR1, hR2⟩, hH, hSt⟩ := id hg
  obtain ⟨la, li, aL, iL, h9, ⟨ra, hla⟩, ⟨ri, hli⟩, has, his⟩ := id hs1
  have haL := has.1
  have hiL := his.1
  have ha10 := oL_10 hla
  have hi10 := oL_10 hli
  refine lv_aload_n hx hb dX12_badnessesAgree_0 rfl (lv_at hl 1 rfl) ?_
  obtain ⟨fsho_1, ho_1⟩ := (hby).o
  refine z_calli (z_runV (rest := []) (As := []) (n := 0) (ci := 5) hC hZ (met_X1_longestWord l D cs A F b y hby) gv_X12_398 hd_X1_longestWord rfl ho_1 rfl hl rfl (Nat.le_of_ble_eq_true rfl) ⟨Nat.le_of_ble_eq_true rfl, Nat.le_of_ble_eq_true rfl⟩ ⟨Nat.le_of_ble_eq_true rfl, Nat.le_of_ble_eq_true rfl⟩ dX12_badnessesAgree_1) hZ (fun r1 F1 H locs hp1_c_2 hZ => ?_)
  obtain ⟨rfl, hp1_c_2⟩ := hp1_c_2
  have hlg := hp1_c_2
  refine lv_aload_n hx hb dX12_badnessesAgree_4 rfl (lv_at hl 0 rfl) ?_
  refine z_get (T := TX12) (N := 11) (ci := 15) (k := 7) (fs := [.ref (g 0), .ref (g 2), .ref (g 4), .ref (g 6), .ref (g 9), .ref (g 11), .ref (g 14), .ref sa, va_rf so, .int (iI er), .int (iI fa)]) (v := .ref sa) hC hZ in_X12 rfl (by decide) ql_X12_59 rfl h0 rfl dX12_badnessesAgree_5 ?_
  refine z_getN (T := TX10) (N := 9) (ci := 13) (k := 4) (fs := [.ref la, .ref li, .int (iI (cNi c0)), .int (iI (cNn c0)), .int (iI (cWi c0)), .int (iI (cCo c0)), .int (iI (cHe c0)), .int (iI (cDa c0)), .int (iI (cLa c0))]) (v := .int (iI (cWi c0))) hC hZ in_X10 rfl (by decide) ql_X12_205 rfl h9 rfl dX12_badnessesAgree_8 ?_
  refine z_icmp_le (tgt := 16) hx hb dX12_badnessesAgree_11 (by decide) (by omega) (by omega) (fun c_3 => ?_) (fun c_3 => ?_)
  · skip
    have hall := lgW_le hlg.1 (show r1 ≤ cWi c0 by omega)
    have hft : zfit (cWi c0) (zlens y) := by obtain ⟨_, _, _, hok9⟩ := id hby; exact zlens_fit hok9 hall
    refine lv_aload_n hx hb dX12_badnessesAgree_16 rfl (lv_at hl 0 rfl) ?_
    refine z_get (T := TX12) (N := 11) (ci := 15) (k := 4) (fs := [.ref (g 0), .ref (g 2), .ref (g 4), .ref (g 6), .ref (g 9), .ref (g 11), .ref (g 14), .ref sa, va_rf so, .int (iI er), .int (iI fa)]) (v := .ref (g 9)) hC hZ in_X12 rfl (by decide) ql_X12_38 rfl h0 rfl dX12_badnessesAgree_17 ?_
    refine lv_aload_n hx hb dX12_badnessesAgree_20 rfl (lv_at hl 1 rfl) ?_
    refine lv_aload_n hx hb dX12_badnessesAgree_21 rfl (lv_at hl 0 rfl) ?_
    refine z_get (T := TX12) (N := 11) (ci := 15) (k := 7) (fs := [.ref (g 0), .ref (g 2), .ref (g 4), .ref (g 6), .ref (g 9), .ref (g 11), .ref (g 14), .ref sa, va_rf so, .int (iI er), .int (iI fa)]) (v := .ref sa) hC hZ in_X12 rfl (by decide) ql_X12_59 rfl h0 rfl dX12_badnessesAgree_22 ?_
    refine z_getN (T := TX10) (N := 9) (ci := 13) (k := 4) (fs := [.ref la, .ref li, .int (iI (cNi c0)), .int (iI (cNn c0)), .int (iI (cWi c0)), .int (iI (cCo c0)), .int (iI (cHe c0)), .int (iI (cDa c0)), .int (iI (cLa c0))]) (v := .int (iI (cWi c0))) hC hZ in_X10 rfl (by decide) ql_X12_205 rfl h9 rfl dX12_badnessesAgree_25 ?_
    refine z_calli (z_runV (rest := []) (As := [.ref b, .int (iI (cWi c0))]) (n := 2) (ci := 9) hC hZ (met_X5_fromLastWord l D cs A F (g 9) (g 10) b y (cWi c0) e0 hE1 hE2 hby hwi hft) gv_X12_241 hd_X5_fromLastWord rfl hE1 rfl hl rfl (Nat.le_of_ble_eq_true rfl) ⟨Nat.le_of_ble_eq_true rfl, Nat.le_of_ble_eq_true rfl⟩ ⟨Nat.le_of_ble_eq_true rfl, Nat.le_of_ble_eq_true rfl⟩ dX12_badnessesAgree_28) hZ (fun r28 F28 H locs hp28_c_4 hZ => ?_)
    obtain ⟨hk28, ⟨e28, he28⟩, hr28⟩ := hp28_c_4
    have hg28 := hg.sE h8 hk28 he28
    have h028 : F28 ob = some (.inr (15, [.ref (g 0), .ref (g 2), .ref (g 4), .ref (g 6), .ref (g 9), .ref (g 11), .ref (g 14), .ref sa, va_rf so, .int (iI er), .int (iI fa)])) := hg28.1
    have hs128 := hg28.st
    have h828 := z_c8 hC hZ
    obtain ⟨la28, li28, aL28, iL28, h928, ⟨ra28, hla28⟩, ⟨ri28, hli28⟩, has28, his28⟩ := id hs128
    have haL28 := has28.1
    have hiL28 := his28.1
    have ha1028 := oL_10 hla28
    have hi1028 := oL_10 hli28
    obtain ⟨⟨hE128, e028, hE228⟩, -⟩ := hg28.2.2.2.2.2.2
    have hb28 := hby.keepO hk28 (fun o ho => by rw [List.mem_singleton.mp ho]; exact zNi.i hE2 (by decide))
    have hrr28 := zlb_r hwi.2 hft (by obtain ⟨_, _, _, hok9⟩ := id hby; exact hok9.2.2.1.2) 0
    rw [List.drop_zero, hr28] at hrr28
    refine lv_istore_n (lv' := [(2, .int (iI r28)), (0, .ref ob), (1, .ref b)]) hx hb dX12_badnessesAgree_31 rfl hl (by decide) rfl (fun ls hl => ?_)
    refine lv_iload_n hx hb dX12_badnessesAgree_32 rfl (lv_at hl 0 rfl) ?_
    refine lv_aload_n hx hb dX12_badnessesAgree_33 rfl (lv_at hl 1 rfl) ?_
    refine z_get (T := TX12) (N := 11) (ci := 15) (k := 4) (fs := [.ref (g 0), .ref (g 2), .ref (g 4), .ref (g 6), .ref (g 9), .ref (g 11), .ref (g 14), .ref sa, va_rf so, .int (iI er), .int (iI fa)]) (v := .ref (g 9)) hC hZ in_X12 rfl (by decide) ql_X12_38 rfl h028 rfl dX12_badnessesAgree_34 ?_
    refine lv_aload_n hx hb dX12_badnessesAgree_37 rfl (lv_at hl 2 rfl) ?_
    refine lv_aload_n hx hb dX12_badnessesAgree_38 rfl (lv_at hl 1 rfl) ?_
    refine z_get (T := TX12) (N := 11) (ci := 15) (k := 7) (fs := [.ref (g 0), .ref (g 2), .ref (g 4), .ref (g 6), .ref (g 9), .ref (g 11), .ref (g 14), .ref sa, va_rf so, .int (iI er), .int (iI fa)]) (v := .ref sa) hC hZ in_X12 rfl (by decide) ql_X12_59 rfl h028 rfl dX12_badnessesAgree_39 ?_
    refine z_getN (T := TX10) (N := 9) (ci := 13) (k := 4) (fs := [.ref la28, .ref li28, .int (iI (cNi c0)), .int (iI (cNn c0)), .int (iI (cWi c0)), .int (iI (cCo c0)), .int (iI (cHe c0)), .int (iI (cDa c0)), .int (iI (cLa c0))]) (v := .int (iI (cWi c0))) hC hZ in_X10 rfl (by decide) ql_X12_205 rfl h928 rfl dX12_badnessesAgree_42 ?_
    refine z_calli (z_runV (rest := [.int (iI r28)]) (As := [.ref b, .int (iI (cWi c0))]) (n := 2) (ci := 9) hC hZ (met_X5_fromFirstWord l D cs A F28 (g 9) (g 10) b y (cWi c0) e028 hE128 hE228 hb28 hwi hft) gv_X12_245 hd_X5_fromFirstWord rfl hE128 rfl hl rfl (Nat.le_of_ble_eq_true rfl) ⟨Nat.le_of_ble_eq_true rfl, Nat.le_of_ble_eq_true rfl⟩ ⟨Nat.le_of_ble_eq_true rfl, Nat.le_of_ble_eq_true rfl⟩ dX12_badnessesAgree_45) hZ (fun r45 F45 H locs hp45_c_5 hZ => ?_)
    obtain ⟨hk45, ⟨e45, he45⟩, hr45⟩ := hp45_c_5
    have hg45 := hg28.sE h828 hk45 he45
    have h045 : F45 ob = some (.inr (15, [.ref (g 0), .ref (g 2), .ref (g 4), .ref (g 6), .ref (g 9), .ref (g 11), .ref (g 14), .ref sa, va_rf so, .int (iI er), .int (iI fa)])) := hg45.1
    have hs145 := hg45.st
    have h845 := z_c8 hC hZ
    obtain ⟨la45, li45, aL45, iL45, h945, ⟨ra45, hla45⟩, ⟨ri45, hli45⟩, has45, his45⟩ := id hs145
    have haL45 := has45.1
    have hiL45 := his45.1
    have ha1045 := oL_10 hla45
    have hi1045 := oL_10 hli45
    obtain ⟨⟨hE145, e045, hE245⟩, -⟩ := hg45.2.2.2.2.2.2
    have hrr45 : r45 = r28 := by rw [← hr45, ← hr28]
    refine z_icmp_ne (tgt := 55) hx hb dX12_badnessesAgree_48 (by decide) (by omega) (by omega) (fun c_6 => ?_) (fun c_6 => ?_)
    · skip
      exfalso; omega
    · skip
      refine z_iconst hx hb dX12_badnessesAgree_51 ?_
      refine lv_goto (tgt := 56) hx hb dX12_badnessesAgree_52 (by decide) ?_
      exact z_zret hC hr hlk hZ rfl (by decide) (by decide) (⟨rfl, hg45⟩) dX12_badnessesAgree_56
  · skip
    refine z_iconst hx hb dX12_badnessesAgree_14 ?_
    exact z_zret hC hr hlk hZ rfl (by decide) (by decide) (⟨rfl, hg⟩) dX12_badnessesAgree_15

set_option maxHeartbeats 4000000 in
set_option maxRecDepth 100000 in
theorem met_X12_isConsistent (l : Launch) (D : va_G) (cs : Nat → ClassId) (A : Nat → Prop) (F : zF) (ob : Nat) (g : Nat → Nat) (sa : Nat) (so : Option Nat) (hL : List Nat) (tx inp out : List Int) (c0 : zCo) (sv : Option zCo) (hs : List zCo) (er fa : Int)  (hg : gOb cs F ob g sa so hL tx inp out c0 sv hs er fa) (hwi : 4 ≤ cWi c0 ∧ cWi c0 ≤ 20) : zM l D cs A yX12_isConsistent cX12_isConsistent 3 (some FieldType.boolean) 6 0 0 [.ref ob] F (pI (fun r F1 => 1 = r ∧ gOb cs F1 ob g sa so hL tx inp out c0 sv hs er fa)) := by
  refine zM_of (own := RX12) (by decide) rfl (Nat.le_of_ble_eq_true rfl) ?_
  intro p e s m below meth c hC hr hlk hnm hZ ls hl
  have hx := hC.x
  have hb := hC.b
  have hl : lv_has ls 3 [(0, .ref ob)] := hl
  have h0 : F ob = some (.inr (15, [.ref (g 0), .ref (g 2), .ref (g 4), .ref (g 6), .ref (g 9), .ref (g 11), .ref (g 14), .ref sa, va_rf so, .int (iI er), .int (iI fa)])) := hg.1
  have hs1 := hg.st
  have h8 := z_c8 hC hZ
  obtain ⟨-, hDis, hTx, hI, ⟨cap, hO⟩, ⟨wd0, st0, hLs⟩, ⟨hE1, e0, hE2⟩, ⟨pos0, L0, hR1, hR2⟩, hH, hSt⟩ := id hg
  refine z_iconst hx hb dX12_isConsistent_0 ?_
  refine lv_istore_n (lv' := [(1, .int (iI 0)), (0, .ref ob)]) hx hb dX12_isConsistent_1 rfl hl (by decide) rfl (fun ls hl => ?_)
  have L2_k_1 : ∀ (fu : Nat) (k : Int) (F2 : zF) (hfu : (((cAr c0).length : Int) - k).toNat < fu) (hi2_0 : 0 ≤ k ∧ k ≤ (cAr c0).length) (hi2_1 : gOb cs F2 ob g sa so hL tx inp out c0 sv hs er fa) (H : Heap) (locs : List Loc) (hZ : zS D A s F2 H locs) (ls : Array Slot) (hl : lv_has ls 3 [(1, .int (iI k)), (0, .ref ob)]), W p l e (zR 6 0 0) s m [.ref ob].toArray below meth c H locs 0 0 (MQ below (zQ D A (pI (fun r F1 => 1 = r ∧ gOb cs F1 ob g sa so hL tx inp out c0 sv hs er fa))) [.ref ob].toArray s 0 0 A) (F0 m 2 ls []) := by
    intro fu
    induction fu with
    | zero =>
      intro k F2 hfu
      exact absurd hfu (Nat.not_lt_zero _)
    | succ fu ih2 =>
      intro k F2 hfu hi2_0 hi2_1  H locs hZ ls hl
      have h0b : F2 ob = some (.inr (15, [.ref (g 0), .ref (g 2), .ref (g 4), .ref (g 6), .ref (g 9), .ref (g 11), .ref (g 14), .ref sa, va_rf so, .int (iI er), .int (iI fa)])) := hi2_1.1
      have hs1b := hi2_1.st
      have h8b := z_c8 hC hZ
      obtain ⟨lab, lib, aLb, iLb, h9b, ⟨rab, hlab⟩, ⟨rib, hlib⟩, hasb, hisb⟩ := id hs1b
      have haLb := hasb.1
      have hiLb := hisb.1
      have ha10b := oL_10 hlab
      have hi10b := oL_10 hlib
      obtain ⟨wdb, stb, hlb⟩ := hi2_1.2.2.2.2.2.1
      refine lv_iload_n hx hb dX12_isConsistent_2 rfl (lv_at hl 0 rfl) ?_
      refine lv_aload_n hx hb dX12_isConsistent_3 rfl (lv_at hl 1 rfl) ?_
      refine z_get (T := TX12) (N := 11) (ci := 15) (k := 7) (fs := [.ref (g 0), .ref (g 2), .ref (g 4), .ref (g 6), .ref (g 9), .ref (g 11), .ref (g 14), .ref sa, va_rf so, .int (iI er), .int (iI fa)]) (v := .ref sa) hC hZ in_X12 rfl (by decide) ql_X12_59 rfl h0b rfl dX12_isConsistent_4 ?_
      refine z_getN (T := TX10) (N := 9) (ci := 13) (k := 0) (fs := [.ref lab, .ref lib, .int (iI (cNi c0)), .int (iI (cNn c0)), .int (iI (cWi c0)), .int (iI (cCo c0)), .int (iI (cHe c0)), .int (iI (cDa c0)), .int (iI (cLa c0))]) (v := .ref lab) hC hZ in_X10 rfl (by decide) ql_X12_98 rfl h9b rfl dX12_isConsistent_7 ?_
      obtain ⟨fsho_2, ho_2⟩ := (hlab).o
      refine z_calli (z_runV (rest := [.int (iI k)]) (As := []) (n := 0) (ci := 4) hC hZ (met_Jx4a65c_size_8abf5 l D cs A F2 lab rab aLb hlab) gv_X12_101 hd_Jx4a65c_size_8abf5 rfl ho_2 rfl hl rfl (Nat.le_of_ble_eq_true rfl) ⟨Nat.le_of_ble_eq_true rfl, Nat.le_of_ble_eq_true rfl⟩ ⟨Nat.le_of_ble_eq_true rfl, Nat.le_of_ble_eq_true rfl⟩ dX12_isConsistent_10) hZ (fun r10 F10 H locs hp10_c_3 hZ => ?_)
      obtain ⟨rfl, rfl⟩ := hp10_c_3
      refine z_icmp_ge (tgt := 55) hx hb dX12_isConsistent_13 (by decide) (by omega) (by omega) (fun c_4 => ?_) (fun c_4 => ?_)
      · skip
        refine z_iconst hx hb dX12_isConsistent_55 ?_
        exact z_zret hC hr hlk hZ rfl (by decide) (by decide) (⟨rfl, hi2_1⟩) dX12_isConsistent_56
      · skip
        refine lv_aload_n hx hb dX12_isConsistent_16 rfl (lv_at hl 1 rfl) ?_
        refine z_get (T := TX12) (N := 11) (ci := 15) (k := 7) (fs := [.ref (g 0), .ref (g 2), .ref (g 4), .ref (g 6), .ref (g 9), .ref (g 11), .ref (g 14), .ref sa, va_rf so, .int (iI er), .int (iI fa)]) (v := .ref sa) hC hZ in_X12 rfl (by decide) ql_X12_59 rfl h0b rfl dX12_isConsistent_17 ?_
        refine z_getN (T := TX10) (N := 9) (ci := 13) (k := 0) (fs := [.ref lab, .ref lib, .int (iI (cNi c0)), .int (iI (cNn c0)), .int (iI (cWi c0)), .int (iI (cCo c0)), .int (iI (cHe c0)), .int (iI (cDa c0)), .int (iI (cLa c0))]) (v := .ref lab) hC hZ in_X10 rfl (by decide) ql_X12_98 rfl h9b rfl dX12_isConsistent_20 ?_
        refine lv_iload_n hx hb dX12_isConsistent_23 rfl (lv_at hl 0 rfl) ?_
        obtain ⟨fsho_5, ho_5⟩ := (hlab).o
        refine z_callr (z_runV (rest := []) (As := [.int (iI k)]) (n := 1) (ci := 4) hC hZ (met_Jx4a65c_get_915e3 l D cs A F2 lab rab aLb k hlab (by omega)) gv_X12_166 hd_Jx4a65c_get_915e3 rfl ho_5 rfl hl rfl (Nat.le_of_ble_eq_true rfl) ⟨Nat.le_of_ble_eq_true rfl, Nat.le_of_ble_eq_true rfl⟩ ⟨Nat.le_of_ble_eq_true rfl, Nat.le_of_ble_eq_true rfl⟩ dX12_isConsistent_24) hZ (fun r24 F24 H locs hp24_c_6 hZ => ?_)
        obtain ⟨rfl, rfl⟩ := hp24_c_6
        have hoa24 := hasb.2 k (by omega) (by omega)
        obtain ⟨wa24, y024, -, hyo24⟩ := id hoa24
        refine z_castS (ci := 5) (N := 3) (T := TX1) hC hZ qk_X12_170 y024 rfl dX12_isConsistent_27 ?_
        refine lv_astore_n (lv' := [(2, .ref (aLb.getD k.toNat 0)), (1, .int (iI k)), (0, .ref ob)]) hx hb dX12_isConsistent_30 rfl hl (by decide) rfl (fun ls hl => ?_)
        refine lv_aload_n hx hb dX12_isConsistent_31 rfl (lv_at hl 2 rfl) ?_
        refine lv_aload_n hx hb dX12_isConsistent_32 rfl (lv_at hl 0 rfl) ?_
        refine z_calli (z_runV (rest := []) (As := [.ref (aLb.getD k.toNat 0)]) (n := 1) (ci := 15) hC hZ (met_X12_linesKeepWidth l D cs A F2 ob g sa so hL tx inp out c0 sv hs er fa (aLb.getD k.toNat 0) ((cAr c0).getD k.toNat (0, 0, [])) hi2_1 hoa24 hwi) gv_X12_346 hd_X12_linesKeepWidth rfl h0b rfl hl rfl (Nat.le_of_ble_eq_true rfl) ⟨Nat.le_of_ble_eq_true rfl, Nat.le_of_ble_eq_true rfl⟩ ⟨Nat.le_of_ble_eq_true rfl, Nat.le_of_ble_eq_true rfl⟩ dX12_isConsistent_33) hZ (fun r33 F33 H locs hp33_c_7 hZ => ?_)
        obtain ⟨rfl, hg33, hk33⟩ := hp33_c_7
        have hoa33 := hoa24.keepO hk33 hlb.ni.1
        have h033 : F33 ob = some (.inr (15, [.ref (g 0), .ref (g 2), .ref (g 4), .ref (g 6), .ref (g 9), .ref (g 11), .ref (g 14), .ref sa, va_rf so, .int (iI er), .int (iI fa)])) := hg33.1
        have hs133 := hg33.st
        have h833 := z_c8 hC hZ
        refine z_if_eq (tgt := 47) hx hb dX12_isConsistent_36 (by decide) (by decide) (fun c_8 => ?_) (fun c_8 => ?_)
        · skip
          exfalso; omega
        · skip
          refine lv_aload_n hx hb dX12_isConsistent_39 rfl (lv_at hl 2 rfl) ?_
          refine lv_aload_n hx hb dX12_isConsistent_40 rfl (lv_at hl 0 rfl) ?_
          refine z_calli (z_runV (rest := []) (As := [.ref (aLb.getD k.toNat 0)]) (n := 1) (ci := 15) hC hZ (met_X12_badnessesAgree l D cs A F33 ob g sa so hL tx inp out c0 sv hs er fa (aLb.getD k.toNat 0) ((cAr c0).getD k.toNat (0, 0, [])) hg33 hoa33 hwi) gv_X12_350 hd_X12_badnessesAgree rfl h033 rfl hl rfl (Nat.le_of_ble_eq_true rfl) ⟨Nat.le_of_ble_eq_true rfl, Nat.le_of_ble_eq_true rfl⟩ ⟨Nat.le_of_ble_eq_true rfl, Nat.le_of_ble_eq_true rfl⟩ dX12_isConsistent_41) hZ (fun r41 F41 H locs hp41_c_9 hZ => ?_)
          obtain ⟨rfl, hg41⟩ := hp41_c_9
          refine z_if_ne (tgt := 49) hx hb dX12_isConsistent_44 (by decide) (by decide) (fun c_10 => ?_) (fun c_10 => ?_)
          · skip
            refine z_iinc (lv' := [(1, .int (iI (k + 1))), (2, .ref (aLb.getD k.toNat 0)), (0, .ref ob)]) hx hb dX12_isConsistent_49 hl (k := 1) rfl (by decide) rfl (fun ls hl => ?_)
            refine lv_goto (tgt := 2) hx hb dX12_isConsistent_52 (by decide) ?_
            exact ih2 (k + 1) F41 (by omega) (by omega) hg41  _ _ hZ ls (lv_sub hl [0, 2] rfl)
          · skip
            exfalso; omega
  exact L2_k_1 _ 0 F (Nat.lt_succ_self _) (by omega) hg  _ _ hZ ls (lv_sub hl [0, 1] rfl)
