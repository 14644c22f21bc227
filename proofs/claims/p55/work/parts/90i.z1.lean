set_option maxHeartbeats 4000000 in
set_option maxRecDepth 100000 in
theorem met_X12_clearText (l : Launch) (D : va_G) (cs : Nat → ClassId) (A : Nat → Prop) (F : zF) (ob : Nat) (g : Nat → Nat) (sa : Nat) (so : Option Nat) (hL : List Nat) (tx inp out : List Int) (c0 : zCo) (sv : Option zCo) (hs : List zCo) (er fa : Int)  (hg : gOb cs F ob g sa so hL tx inp out c0 sv hs er fa) : zM l D cs A yX12_clearText cX12_clearText 1 (some FieldType.int) 2 0 0 [.ref ob] F (pI (fun r F1 => (tx.length : Int) = r ∧ gOb cs F1 ob g sa so hL [] inp out c0 sv hs er fa)) := by
  refine zM_of (own := RX12) (by decide) rfl (Nat.le_of_ble_eq_true rfl) ?_
  intro p e s m below meth c hC hr hlk hnm hZ ls hl
  have hx := hC.x
  have hb := hC.b
  have hl : lv_has ls 1 [(0, .ref ob)] := hl
  have h0 : F ob = some (.inr (15, [.ref (g 0), .ref (g 2), .ref (g 4), .ref (g 6), .ref (g 9), .ref (g 11), .ref (g 14), .ref sa, va_rf so, .int (iI er), .int (iI fa)])) := hg.1
  have hs1 := hg.st
  have h8 := z_c8 hC hZ
  obtain ⟨-, hDis, hTx, hI, ⟨cap, hO⟩, ⟨wd0, st0, hLs⟩, ⟨hE1, e0, hE2⟩, ⟨pos0, L0, hR1, hR2⟩, hH, hSt⟩ := id hg
  obtain ⟨fT, oTx, -⟩ := id hTx
  refine lv_aload_n hx hb dX12_clearText_0 rfl (lv_at hl 0 rfl) ?_
  refine z_get (T := TX12) (N := 11) (ci := 15) (k := 0) (fs := [.ref (g 0), .ref (g 2), .ref (g 4), .ref (g 6), .ref (g 9), .ref (g 11), .ref (g 14), .ref sa, va_rf so, .int (iI er), .int (iI fa)]) (v := .ref (g 0)) hC hZ in_X12 rfl (by decide) ql_X12_14 rfl h0 rfl dX12_clearText_1 ?_
  refine z_calli (z_runV (rest := []) (As := []) (n := 0) (ci := 6) hC hZ (met_X2_empty l D cs A F (g 0) (g 1) tx hTx) gv_X12_92 hd_X2_empty rfl oTx rfl hl rfl (Nat.le_of_ble_eq_true rfl) ⟨Nat.le_of_ble_eq_true rfl, Nat.le_of_ble_eq_true rfl⟩ ⟨Nat.le_of_ble_eq_true rfl, Nat.le_of_ble_eq_true rfl⟩ dX12_clearText_4) hZ (fun r4 F4 H locs hp4_c_1 hZ => ?_)
  obtain ⟨hr4, hk4, hb4⟩ := hp4_c_1
  exact z_iret hC hr hlk hZ (by decide) (by decide) (⟨hr4, hg.sT h8 hk4 hb4⟩) dX12_clearText_7

set_option maxHeartbeats 4000000 in
set_option maxRecDepth 100000 in
theorem met_X12_type (l : Launch) (D : va_G) (cs : Nat → ClassId) (A : Nat → Prop) (F : zF) (ob : Nat) (g : Nat → Nat) (sa : Nat) (so : Option Nat) (hL : List Nat) (tx inp out : List Int) (c0 : zCo) (sv : Option zCo) (hs : List zCo) (er fa : Int) (x : Int) (hlt : l.stackTraces = false)  (hg : gOb cs F ob g sa so hL tx inp out c0 sv hs er fa) (hx0 : 0 ≤ x ∧ x ≤ 65535) : zXM l D cs A yX12_type cX12_type 2 (some FieldType.int) 6 1 6 [.ref ob, .int (iI x)] F (pI (fun r F1 => ((97 ≤ x ∧ x ≤ 122) ∨ x = 32) ∧ tx.length < 60 ∧ r = (tx.length : Int) + 1 ∧ gOb cs F1 ob g sa so hL (tx ++ [x]) inp out c0 sv hs er fa)) (fun E F1 => gOb cs F1 ob g sa so hL tx inp out c0 sv hs er fa ∧ ((¬ ((97 ≤ x ∧ x ≤ 122) ∨ x = 32) ∧ E = "java/lang/IllegalArgumentException") ∨ ((((97 ≤ x ∧ x ≤ 122) ∨ x = 32) ∧ tx.length = 60) ∧ E = "java/lang/IllegalStateException"))) := by
  refine zX_of (own := RX12) (by decide) rfl (Nat.le_of_ble_eq_true rfl) ?_
  intro p e s m below meth c hC hr hlk hT hZ ls hl
  have hx := hC.x
  have hb := hC.b
  have hl : lv_has ls 2 [(0, .ref ob), (1, .int (iI x))] := hl
  have h0 : F ob = some (.inr (15, [.ref (g 0), .ref (g 2), .ref (g 4), .ref (g 6), .ref (g 9), .ref (g 11), .ref (g 14), .ref sa, va_rf so, .int (iI er), .int (iI fa)])) := hg.1
  have hs1 := hg.st
  have h8 := z_c8 hC hZ
  obtain ⟨-, hDis, hTx, hI, ⟨cap, hO⟩, ⟨wd0, st0, hLs⟩, ⟨hE1, e0, hE2⟩, ⟨pos0, L0, hR1, hR2⟩, hH, hSt⟩ := id hg
  obtain ⟨fT, oTx, -⟩ := id hTx
  refine lv_iload_n hx hb dX12_type_0 rfl (lv_at hl 1 rfl) ?_
  refine z_bipush hx hb dX12_type_1 (by decide) ?_
  refine z_icmp_eq (tgt := 28) hx hb dX12_type_3 (by decide) (by omega) (by decide) (fun c_1 => ?_) (fun c_1 => ?_)
  · skip
    refine lv_aload_n hx hb dX12_type_28 rfl (lv_at hl 0 rfl) ?_
    refine z_get (T := TX12) (N := 11) (ci := 15) (k := 0) (fs := [.ref (g 0), .ref (g 2), .ref (g 4), .ref (g 6), .ref (g 9), .ref (g 11), .ref (g 14), .ref sa, va_rf so, .int (iI er), .int (iI fa)]) (v := .ref (g 0)) hC hZ in_X12 rfl (by decide) ql_X12_14 rfl h0 rfl dX12_type_29 ?_
    refine lv_iload_n hx hb dX12_type_32 rfl (lv_at hl 1 rfl) ?_
    refine z_calli (z_runV (rest := []) (As := [.int (iI x)]) (n := 1) (ci := 6) hC hZ (met_X2_append l D cs A F (g 0) (g 1) tx x hTx (by omega)) gv_X12_80 hd_X2_append rfl oTx rfl hl rfl (Nat.le_of_ble_eq_true rfl) ⟨Nat.le_of_ble_eq_true rfl, Nat.le_of_ble_eq_true rfl⟩ ⟨Nat.le_of_ble_eq_true rfl, Nat.le_of_ble_eq_true rfl⟩ dX12_type_33) hZ (fun r33 F33 H locs hp33_c_2 hZ => ?_)
    rcases hp33_c_2 with ⟨hf33, rfl, rfl⟩ | ⟨hf33, rfl, hk33, hb33⟩
    · skip
      refine z_if_ne (tgt := 49) hx hb dX12_type_36 (by decide) (by decide) (fun c_3 => ?_) (fun c_3 => ?_)
      · skip
        exfalso; omega
      · skip
        exact z_throw (rest := []) hC hZ hlt hT hlk zth_e1 zth_g1 zth_o1 zth_k1 zth_i1 (by decide) (List.mem_of_getElem? (i := 1) rfl) hl (Nat.le_of_ble_eq_true rfl) (Nat.le_of_ble_eq_true rfl) (Nat.le_of_ble_eq_true rfl) (Nat.le_of_ble_eq_true rfl) (Nat.le_of_ble_eq_true rfl) (Nat.le_of_ble_eq_true rfl) (⟨hg, Or.inr ⟨⟨by omega, hf33⟩, rfl⟩⟩) dX12_type_39 dX12_type_42 dX12_type_43 dX12_type_45 dX12_type_48
    · skip
      have hg33 := hg.sT h8 hk33 hb33
      have h033 : F33 ob = some (.inr (15, [.ref (g 0), .ref (g 2), .ref (g 4), .ref (g 6), .ref (g 9), .ref (g 11), .ref (g 14), .ref sa, va_rf so, .int (iI er), .int (iI fa)])) := hg33.1
      have hs133 := hg33.st
      have h833 := z_c8 hC hZ
      obtain ⟨fB33, oB33, -⟩ := id hb33
      have hln33 : (((tx ++ [x]).length : Nat) : Int) = (tx.length : Int) + 1 := by rw [List.length_append, List.length_singleton]; omega
      refine z_if_ne (tgt := 49) hx hb dX12_type_36 (by decide) (by decide) (fun c_4 => ?_) (fun c_4 => ?_)
      · skip
        refine lv_aload_n hx hb dX12_type_49 rfl (lv_at hl 0 rfl) ?_
        refine z_get (T := TX12) (N := 11) (ci := 15) (k := 0) (fs := [.ref (g 0), .ref (g 2), .ref (g 4), .ref (g 6), .ref (g 9), .ref (g 11), .ref (g 14), .ref sa, va_rf so, .int (iI er), .int (iI fa)]) (v := .ref (g 0)) hC hZ in_X12 rfl (by decide) ql_X12_14 rfl h033 rfl dX12_type_50 ?_
        refine z_getN (T := TX2) (N := 2) (ci := 6) (k := 1) (fs := [.ref (g 1), .int (iI ((tx ++ [x]).length : Int))]) (v := .int (iI ((tx ++ [x]).length : Int))) hC hZ in_X2 rfl (by decide) ql_X12_89 rfl oB33 rfl dX12_type_53 ?_
        refine vx_ret ?_
        exact z_iret hC hr hlk hZ (by decide) (by decide) (⟨by omega, hf33, hln33, hg33⟩) dX12_type_56
      · skip
        exfalso; omega
  · skip
    refine lv_iload_n hx hb dX12_type_6 rfl (lv_at hl 1 rfl) ?_
    refine z_bipush hx hb dX12_type_7 (by decide) ?_
    refine z_icmp_lt (tgt := 18) hx hb dX12_type_9 (by decide) (by omega) (by decide) (fun c_5 => ?_) (fun c_5 => ?_)
    · skip
      exact z_throw (rest := []) hC hZ hlt hT hlk zth_e0 zth_g0 zth_o0 zth_k0 zth_i0 (by decide) (List.mem_of_getElem? (i := 0) rfl) hl (Nat.le_of_ble_eq_true rfl) (Nat.le_of_ble_eq_true rfl) (Nat.le_of_ble_eq_true rfl) (Nat.le_of_ble_eq_true rfl) (Nat.le_of_ble_eq_true rfl) (Nat.le_of_ble_eq_true rfl) (⟨hg, Or.inl ⟨by omega, rfl⟩⟩) dX12_type_18 dX12_type_21 dX12_type_22 dX12_type_24 dX12_type_27
    · skip
      refine lv_iload_n hx hb dX12_type_12 rfl (lv_at hl 1 rfl) ?_
      refine z_bipush hx hb dX12_type_13 (by decide) ?_
      refine z_icmp_le (tgt := 28) hx hb dX12_type_15 (by decide) (by omega) (by decide) (fun c_6 => ?_) (fun c_6 => ?_)
      · skip
        refine lv_aload_n hx hb dX12_type_28 rfl (lv_at hl 0 rfl) ?_
        refine z_get (T := TX12) (N := 11) (ci := 15) (k := 0) (fs := [.ref (g 0), .ref (g 2), .ref (g 4), .ref (g 6), .ref (g 9), .ref (g 11), .ref (g 14), .ref sa, va_rf so, .int (iI er), .int (iI fa)]) (v := .ref (g 0)) hC hZ in_X12 rfl (by decide) ql_X12_14 rfl h0 rfl dX12_type_29 ?_
        refine lv_iload_n hx hb dX12_type_32 rfl (lv_at hl 1 rfl) ?_
        refine z_calli (z_runV (rest := []) (As := [.int (iI x)]) (n := 1) (ci := 6) hC hZ (met_X2_append l D cs A F (g 0) (g 1) tx x hTx (by omega)) gv_X12_80 hd_X2_append rfl oTx rfl hl rfl (Nat.le_of_ble_eq_true rfl) ⟨Nat.le_of_ble_eq_true rfl, Nat.le_of_ble_eq_true rfl⟩ ⟨Nat.le_of_ble_eq_true rfl, Nat.le_of_ble_eq_true rfl⟩ dX12_type_33) hZ (fun r33 F33 H locs hp33_c_7 hZ => ?_)
        rcases hp33_c_7 with ⟨hf33, rfl, rfl⟩ | ⟨hf33, rfl, hk33, hb33⟩
        · skip
          refine z_if_ne (tgt := 49) hx hb dX12_type_36 (by decide) (by decide) (fun c_8 => ?_) (fun c_8 => ?_)
          · skip
            exfalso; omega
          · skip
            exact z_throw (rest := []) hC hZ hlt hT hlk zth_e1 zth_g1 zth_o1 zth_k1 zth_i1 (by decide) (List.mem_of_getElem? (i := 1) rfl) hl (Nat.le_of_ble_eq_true rfl) (Nat.le_of_ble_eq_true rfl) (Nat.le_of_ble_eq_true rfl) (Nat.le_of_ble_eq_true rfl) (Nat.le_of_ble_eq_true rfl) (Nat.le_of_ble_eq_true rfl) (⟨hg, Or.inr ⟨⟨by omega, hf33⟩, rfl⟩⟩) dX12_type_39 dX12_type_42 dX12_type_43 dX12_type_45 dX12_type_48
        · skip
          have hg33 := hg.sT h8 hk33 hb33
          have h033 : F33 ob = some (.inr (15, [.ref (g 0), .ref (g 2), .ref (g 4), .ref (g 6), .ref (g 9), .ref (g 11), .ref (g 14), .ref sa, va_rf so, .int (iI er), .int (iI fa)])) := hg33.1
          have hs133 := hg33.st
          have h833 := z_c8 hC hZ
          obtain ⟨fB33, oB33, -⟩ := id hb33
          have hln33 : (((tx ++ [x]).length : Nat) : Int) = (tx.length : Int) + 1 := by rw [List.length_append, List.length_singleton]; omega
          refine z_if_ne (tgt := 49) hx hb dX12_type_36 (by decide) (by decide) (fun c_9 => ?_) (fun c_9 => ?_)
          · skip
            refine lv_aload_n hx hb dX12_type_49 rfl (lv_at hl 0 rfl) ?_
            refine z_get (T := TX12) (N := 11) (ci := 15) (k := 0) (fs := [.ref (g 0), .ref (g 2), .ref (g 4), .ref (g 6), .ref (g 9), .ref (g 11), .ref (g 14), .ref sa, va_rf so, .int (iI er), .int (iI fa)]) (v := .ref (g 0)) hC hZ in_X12 rfl (by decide) ql_X12_14 rfl h033 rfl dX12_type_50 ?_
            refine z_getN (T := TX2) (N := 2) (ci := 6) (k := 1) (fs := [.ref (g 1), .int (iI ((tx ++ [x]).length : Int))]) (v := .int (iI ((tx ++ [x]).length : Int))) hC hZ in_X2 rfl (by decide) ql_X12_89 rfl oB33 rfl dX12_type_53 ?_
            refine vx_ret ?_
            exact z_iret hC hr hlk hZ (by decide) (by decide) (⟨by omega, hf33, hln33, hg33⟩) dX12_type_56
          · skip
            exfalso; omega
      · skip
        exact z_throw (rest := []) hC hZ hlt hT hlk zth_e0 zth_g0 zth_o0 zth_k0 zth_i0 (by decide) (List.mem_of_getElem? (i := 0) rfl) hl (Nat.le_of_ble_eq_true rfl) (Nat.le_of_ble_eq_true rfl) (Nat.le_of_ble_eq_true rfl) (Nat.le_of_ble_eq_true rfl) (Nat.le_of_ble_eq_true rfl) (Nat.le_of_ble_eq_true rfl) (⟨hg, Or.inl ⟨by omega, rfl⟩⟩) dX12_type_18 dX12_type_21 dX12_type_22 dX12_type_24 dX12_type_27

set_option maxHeartbeats 4000000 in
set_option maxRecDepth 100000 in
theorem met_X12_feed (l : Launch) (D : va_G) (cs : Nat → ClassId) (A : Nat → Prop) (F : zF) (ob : Nat) (g : Nat → Nat) (sa : Nat) (so : Option Nat) (hL : List Nat) (tx inp out : List Int) (c0 : zCo) (sv : Option zCo) (hs : List zCo) (er fa : Int) (x : Int) (hlt : l.stackTraces = false)  (hg : gOb cs F ob g sa so hL tx inp out c0 sv hs er fa) (hx0 : 0 ≤ x ∧ x ≤ 65535) : zXM l D cs A yX12_feed cX12_feed 2 (some FieldType.int) 6 1 6 [.ref ob, .int (iI x)] F (pI (fun r F1 => inp.length < 60 ∧ r = (inp.length : Int) + 1 ∧ gOb cs F1 ob g sa so hL tx (inp ++ [x]) out c0 sv hs er fa)) (fun E F1 => gOb cs F1 ob g sa so hL tx inp out c0 sv hs er fa ∧ inp.length = 60 ∧ E = "java/lang/IllegalStateException") := by
  refine zX_of (own := RX12) (by decide) rfl (Nat.le_of_ble_eq_true rfl) ?_
  intro p e s m below meth c hC hr hlk hT hZ ls hl
  have hx := hC.x
  have hb := hC.b
  have hl : lv_has ls 2 [(0, .ref ob), (1, .int (iI x))] := hl
  have h0 : F ob = some (.inr (15, [.ref (g 0), .ref (g 2), .ref (g 4), .ref (g 6), .ref (g 9), .ref (g 11), .ref (g 14), .ref sa, va_rf so, .int (iI er), .int (iI fa)])) := hg.1
  have hs1 := hg.st
  have h8 := z_c8 hC hZ
  obtain ⟨-, hDis, hTx, hI, ⟨cap, hO⟩, ⟨wd0, st0, hLs⟩, ⟨hE1, e0, hE2⟩, ⟨pos0, L0, hR1, hR2⟩, hH, hSt⟩ := id hg
  obtain ⟨fI, oI, -⟩ := id hI
  refine lv_aload_n hx hb dX12_feed_0 rfl (lv_at hl 0 rfl) ?_
  refine z_get (T := TX12) (N := 11) (ci := 15) (k := 1) (fs := [.ref (g 0), .ref (g 2), .ref (g 4), .ref (g 6), .ref (g 9), .ref (g 11), .ref (g 14), .ref sa, va_rf so, .int (iI er), .int (iI fa)]) (v := .ref (g 2)) hC hZ in_X12 rfl (by decide) ql_X12_18 rfl h0 rfl dX12_feed_1 ?_
  refine lv_iload_n hx hb dX12_feed_4 rfl (lv_at hl 1 rfl) ?_
  refine z_calli (z_runV (rest := []) (As := [.int (iI x)]) (n := 1) (ci := 6) hC hZ (met_X2_append l D cs A F (g 2) (g 3) inp x hI (by omega)) gv_X12_80 hd_X2_append rfl oI rfl hl rfl (Nat.le_of_ble_eq_true rfl) ⟨Nat.le_of_ble_eq_true rfl, Nat.le_of_ble_eq_true rfl⟩ ⟨Nat.le_of_ble_eq_true rfl, Nat.le_of_ble_eq_true rfl⟩ dX12_feed_5) hZ (fun r5 F5 H locs hp5_c_1 hZ => ?_)
  rcases hp5_c_1 with ⟨hf5, rfl, rfl⟩ | ⟨hf5, rfl, hk5, hb5⟩
  · skip
    refine z_if_ne (tgt := 22) hx hb dX12_feed_8 (by decide) (by decide) (fun c_2 => ?_) (fun c_2 => ?_)
    · skip
      exfalso; omega
    · skip
      exact z_throwW (rest := []) hC hZ hlt hT hlk zth_e1 zth_g1 zth_o1 zth_k1 zth_i1 (by decide) (List.mem_of_getElem? (i := 15) rfl) hl (Nat.le_of_ble_eq_true rfl) (Nat.le_of_ble_eq_true rfl) (Nat.le_of_ble_eq_true rfl) (Nat.le_of_ble_eq_true rfl) (Nat.le_of_ble_eq_true rfl) (Nat.le_of_ble_eq_true rfl) (⟨hg, hf5, rfl⟩) dX12_feed_11 dX12_feed_14 dX12_feed_15 dX12_feed_18 dX12_feed_21
  · skip
    have hg5 := hg.sI h8 hk5 hb5
    have h05 : F5 ob = some (.inr (15, [.ref (g 0), .ref (g 2), .ref (g 4), .ref (g 6), .ref (g 9), .ref (g 11), .ref (g 14), .ref sa, va_rf so, .int (iI er), .int (iI fa)])) := hg5.1
    have hs15 := hg5.st
    have h85 := z_c8 hC hZ
    obtain ⟨fB5, oB5, -⟩ := id hb5
    have hln5 : (((inp ++ [x]).length : Nat) : Int) = (inp.length : Int) + 1 := by rw [List.length_append, List.length_singleton]; omega
    refine z_if_ne (tgt := 22) hx hb dX12_feed_8 (by decide) (by decide) (fun c_3 => ?_) (fun c_3 => ?_)
    · skip
      refine lv_aload_n hx hb dX12_feed_22 rfl (lv_at hl 0 rfl) ?_
      refine z_get (T := TX12) (N := 11) (ci := 15) (k := 1) (fs := [.ref (g 0), .ref (g 2), .ref (g 4), .ref (g 6), .ref (g 9), .ref (g 11), .ref (g 14), .ref sa, va_rf so, .int (iI er), .int (iI fa)]) (v := .ref (g 2)) hC hZ in_X12 rfl (by decide) ql_X12_18 rfl h05 rfl dX12_feed_23 ?_
      refine z_getN (T := TX2) (N := 2) (ci := 6) (k := 1) (fs := [.ref (g 3), .int (iI ((inp ++ [x]).length : Int))]) (v := .int (iI ((inp ++ [x]).length : Int))) hC hZ in_X2 rfl (by decide) ql_X12_89 rfl oB5 rfl dX12_feed_26 ?_
      refine vx_ret ?_
      exact z_iret hC hr hlk hZ (by decide) (by decide) (⟨hf5, hln5, hg5⟩) dX12_feed_29
    · skip
      exfalso; omega

theorem zal_1 {c : zCo} {x : Int} (h : zfa (cAr c) x = none) : zal c x = (1, []) := by unfold zal; rw [h]
theorem zal_2 {c : zCo} {x : Int} {y : zAr} (h : zfa (cAr c) x = some y) (h2 : zlines (cWi c) y.2.2 = none) : zal c x = (2, []) := by unfold zal; rw [h]; simp only []; rw [h2]
theorem zal_0 {c : zCo} {x : Int} {y : zAr} {ls : List zWd} (h : zfa (cAr c) x = some y) (h2 : zlines (cWi c) y.2.2 = some ls) : zal c x = (0, ls) := by unfold zal; rw [h]; simp only []; rw [h2]
theorem zlw_y {ls : List zWd} {w : Int} (h0 : 0 ≤ w) (h1 : w < ls.length) : zlw ls w = some (ls.getD w.toNat []) := by
  unfold zlw
  rw [if_pos h0, List.getD_eq_getElem?_getD, List.getElem?_eq_getElem (by omega)]
  rfl
theorem zlw_n {ls : List zWd} {w : Int} (h : ¬ (0 ≤ w ∧ w < ls.length)) : zlw ls w = none := by
  unfold zlw
  by_cases q : 0 ≤ w
  · rw [if_pos q, List.getElem?_eq_none (by omega)]
  · rw [if_neg q]
theorem zlq_y {c : zCo} {x w : Int} {ls : List zWd} (h : zal c x = (0, ls)) (h0 : 0 ≤ w) (h1 : w < ls.length) : zlq c x w = (0, ls.getD w.toNat []) := by
  unfold zlq
  rw [h, if_pos rfl]
  simp only []
  rw [zlw_y h0 h1]
theorem zlq_n {c : zCo} {x w : Int} {ls : List zWd} (h : zal c x = (0, ls)) (h0 : ¬ (0 ≤ w ∧ w < ls.length)) : zlq c x w = (3, []) := by
  unfold zlq
  rw [h, if_pos rfl]
  simp only []
  rw [zlw_n h0]
theorem zlq_e {c : zCo} {x w t : Int} (h : zal c x = (t, [])) (ht : t ≠ 0) : zlq c x w = (t, []) := by
  unfold zlq
  rw [h, if_neg ht]
set_option maxHeartbeats 4000000 in
set_option maxRecDepth 100000 in
theorem met_X12_canBeSet (l : Launch) (D : va_G) (cs : Nat → ClassId) (A : Nat → Prop) (F : zF) (ob : Nat) (g : Nat → Nat) (sa : Nat) (so : Option Nat) (hL : List Nat) (tx inp out : List Int) (c0 : zCo) (sv : Option zCo) (hs : List zCo) (er fa : Int) (x : Int) (hlt : l.stackTraces = false)  (hg : gOb cs F ob g sa so hL tx inp out c0 sv hs er fa) (hx0 : InR x) (hwi : 4 ≤ cWi c0 ∧ cWi c0 ≤ 20) : zXM l D cs A yX12_canBeSet cX12_canBeSet 2 (some FieldType.boolean) 7 1 6 [.ref ob, .int (iI x)] F (pI (fun r F1 => gOb cs F1 ob g sa so hL tx inp out c0 sv hs er fa ∧ (match zfa (cAr c0) x with | none => ((1 : Int), (0 : Int)) | some a => (0, if (zlines (cWi c0) a.2.2).isSome then 1 else 0)).1 = 0 ∧ (match zfa (cAr c0) x with | none => ((1 : Int), (0 : Int)) | some a => (0, if (zlines (cWi c0) a.2.2).isSome then 1 else 0)).2 = r)) (fun E F1 => gOb cs F1 ob g sa so hL tx inp out c0 sv hs er fa ∧ (((match zfa (cAr c0) x with | none => ((1 : Int), (0 : Int)) | some a => (0, if (zlines (cWi c0) a.2.2).isSome then 1 else 0)).1 = 1 ∧ E = "java/util/NoSuchElementException"))) := by
  refine zX_of (own := RX12) (by decide) rfl (Nat.le_of_ble_eq_true rfl) ?_
  intro p e s m below meth c hC hr hlk hT hZ ls hl
  have hx := hC.x
  have hb := hC.b
  have hl : lv_has ls 2 [(0, .ref ob), (1, .int (iI x))] := hl
  have h0 : F ob = some (.inr (15, [.ref (g 0), .ref (g 2), .ref (g 4), .ref (g 6), .ref (g 9), .ref (g 11), .ref (g 14), .ref sa, va_rf so, .int (iI er), .int (iI fa)])) := hg.1
  have hs1 := hg.st
  have h8 := z_c8 hC hZ
  obtain ⟨-, hDis, hTx, hI, ⟨cap, hO⟩, ⟨wd0, st0, hLs⟩, ⟨hE1, e0, hE2⟩, ⟨pos0, L0, hR1, hR2⟩, hH, hSt⟩ := id hg
  obtain ⟨la, li, aL, iL, h9, ⟨ra, hla⟩, ⟨ri, hli⟩, has, his⟩ := id hs1
  have haL := has.1
  have hiL := his.1
  have ha10 := oL_10 hla
  have hi10 := oL_10 hli
  obtain ⟨fLs, eLs, oLs, -⟩ := id hLs
  refine lv_aload_n hx hb dX12_canBeSet_0 rfl (lv_at hl 0 rfl) ?_
  refine z_get (T := TX12) (N := 11) (ci := 15) (k := 3) (fs := [.ref (g 0), .ref (g 2), .ref (g 4), .ref (g 6), .ref (g 9), .ref (g 11), .ref (g 14), .ref sa, va_rf so, .int (iI er), .int (iI fa)]) (v := .ref (g 6)) hC hZ in_X12 rfl (by decide) ql_X12_31 rfl h0 rfl dX12_canBeSet_1 ?_
  refine lv_aload_n hx hb dX12_canBeSet_4 rfl (lv_at hl 0 rfl) ?_
  refine lv_iload_n hx hb dX12_canBeSet_5 rfl (lv_at hl 1 rfl) ?_
  refine z_xcallr (z_xrunV (rest := [.ref (g 6)]) (As := [.int (iI x)]) (n := 1) (ci := 15) hC hZ (met_X12_knownArticle l D cs A F ob g sa so er fa c0 x hlt h0 hs1 (by omega)) gv_X12_181 hd_X12_knownArticle rfl h0 rfl hl rfl (Nat.le_of_ble_eq_true rfl) ⟨Nat.le_of_ble_eq_true rfl, Nat.le_of_ble_eq_true rfl⟩ ⟨Nat.le_of_ble_eq_true rfl, Nat.le_of_ble_eq_true rfl⟩ dX12_canBeSet_6) hZ hT hlk (Nat.le_of_ble_eq_true rfl) (Nat.le_of_ble_eq_true rfl) (fun E F1 q => ⟨by rw [← q.1]; exact hg, by rw [q.2.1], q.2.2⟩) (fun r6 F6 H locs hp6_c_1 hZ => ?_)
  obtain ⟨rfl, y6, hz6, hm6, ho6⟩ := hp6_c_1
  obtain ⟨wa6, yo6, yw6, yk6⟩ := id ho6
  obtain ⟨fw6, yv6, ye6⟩ := id yw6
  have yk16 := yk6.1
  have yk26 := yk6.2.1
  have yk36 := yk6.2.2.1
  refine lv_aload_n hx hb dX12_canBeSet_9 rfl (lv_at hl 0 rfl) ?_
  refine z_get (T := TX12) (N := 11) (ci := 15) (k := 7) (fs := [.ref (g 0), .ref (g 2), .ref (g 4), .ref (g 6), .ref (g 9), .ref (g 11), .ref (g 14), .ref sa, va_rf so, .int (iI er), .int (iI fa)]) (v := .ref sa) hC hZ in_X12 rfl (by decide) ql_X12_59 rfl h0 rfl dX12_canBeSet_10 ?_
  refine z_getN (T := TX10) (N := 9) (ci := 13) (k := 4) (fs := [.ref la, .ref li, .int (iI (cNi c0)), .int (iI (cNn c0)), .int (iI (cWi c0)), .int (iI (cCo c0)), .int (iI (cHe c0)), .int (iI (cDa c0)), .int (iI (cLa c0))]) (v := .int (iI (cWi c0))) hC hZ in_X10 rfl (by decide) ql_X12_205 rfl h9 rfl dX12_canBeSet_13 ?_
  refine z_calli (z_runV (rest := []) (As := [.ref r6, .int (iI (cWi c0))]) (n := 2) (ci := 11) hC hZ (met_X8_arrange l D cs A F (g 6) (g 7) (g 8) wd0 (cWi c0) st0 r6 y6 hLs ho6 hwi) gv_X12_208 hd_X8_arrange rfl oLs rfl hl rfl (Nat.le_of_ble_eq_true rfl) ⟨Nat.le_of_ble_eq_true rfl, Nat.le_of_ble_eq_true rfl⟩ ⟨Nat.le_of_ble_eq_true rfl, Nat.le_of_ble_eq_true rfl⟩ dX12_canBeSet_16) hZ (fun r16 F16 H locs hp16_c_2 hZ => ?_)
  obtain ⟨hk16, hc16⟩ := hp16_c_2
  rcases hc16 with ⟨ls16, hz16, rfl, hq16, hn16, hw16⟩ | ⟨hz16, rfl, st16, hq16⟩
  · skip
    have hg16 := hg.sL h8 hk16 hq16
    have h016 : F16 ob = some (.inr (15, [.ref (g 0), .ref (g 2), .ref (g 4), .ref (g 6), .ref (g 9), .ref (g 11), .ref (g 14), .ref sa, va_rf so, .int (iI er), .int (iI fa)])) := hg16.1
    have hs116 := hg16.st
    have h816 := z_c8 hC hZ
    obtain ⟨fL16, eL16, oL16, -⟩ := id hq16
    refine vx_ret ?_
    exact z_zret hC hr hlk hZ rfl (by decide) (by decide) (⟨hg16, by rw [hz6], by rw [hz6]; show (if (zlines (cWi c0) y6.2.2).isSome = true then (1 : Int) else 0) = _; rw [hz16]; rfl⟩) dX12_canBeSet_19
  · skip
    have hg16 := hg.sL h8 hk16 hq16
    have h016 : F16 ob = some (.inr (15, [.ref (g 0), .ref (g 2), .ref (g 4), .ref (g 6), .ref (g 9), .ref (g 11), .ref (g 14), .ref sa, va_rf so, .int (iI er), .int (iI fa)])) := hg16.1
    have hs116 := hg16.st
    have h816 := z_c8 hC hZ
    refine vx_ret ?_
    exact z_zret hC hr hlk hZ rfl (by decide) (by decide) (⟨hg16, by rw [hz6], by rw [hz6]; show (if (zlines (cWi c0) y6.2.2).isSome = true then (1 : Int) else 0) = _; rw [hz16]; rfl⟩) dX12_canBeSet_19

set_option maxHeartbeats 4000000 in
set_option maxRecDepth 100000 in
theorem met_X12_arrangeKnown (l : Launch) (D : va_G) (cs : Nat → ClassId) (A : Nat → Prop) (F : zF) (ob : Nat) (g : Nat → Nat) (sa : Nat) (so : Option Nat) (hL : List Nat) (tx inp out : List Int) (c0 : zCo) (sv : Option zCo) (hs : List zCo) (er fa : Int) (x : Int) (hlt : l.stackTraces = false)  (hg : gOb cs F ob g sa so hL tx inp out c0 sv hs er fa) (hx0 : InR x) (hwi : 4 ≤ cWi c0 ∧ cWi c0 ≤ 20) : zXM l D cs A yX12_arrangeKnown cX12_arrangeKnown 2 (none : Option Jvm.ClassFile.FieldType) 7 2 12 [.ref ob, .int (iI x)] F (pV (fun F1 => gOb cs F1 ob g sa so hL tx inp out c0 sv hs er fa ∧ ∃ ls : List zWd, zal c0 x = (0, ls) ∧ rLs cs F1 (g 6) (g 7) (g 8) (cWi c0) (ls, []) ∧ (1 ≤ ls.length ∧ ls.length ≤ 181) ∧ (∀ l ∈ ls, (l.length : Int) ≤ cWi c0) ∧ ∀ l ∈ ls, l ≠ [])) (fun E F1 => gOb cs F1 ob g sa so hL tx inp out c0 sv hs er fa ∧ ((zal c0 x = (1, []) ∧ E = "java/util/NoSuchElementException") ∨ (zal c0 x = (2, []) ∧ E = "java/lang/UnsupportedOperationException"))) := by
  refine zX_of (own := RX12) (by decide) rfl (Nat.le_of_ble_eq_true rfl) ?_
  intro p e s m below meth c hC hr hlk hT hZ ls hl
  have hx := hC.x
  have hb := hC.b
  have hl : lv_has ls 2 [(0, .ref ob), (1, .int (iI x))] := hl
  have h0 : F ob = some (.inr (15, [.ref (g 0), .ref (g 2), .ref (g 4), .ref (g 6), .ref (g 9), .ref (g 11), .ref (g 14), .ref sa, va_rf so, .int (iI er), .int (iI fa)])) := hg.1
  have hs1 := hg.st
  have h8 := z_c8 hC hZ
  obtain ⟨-, hDis, hTx, hI, ⟨cap, hO⟩, ⟨wd0, st0, hLs⟩, ⟨hE1, e0, hE2⟩, ⟨pos0, L0, hR1, hR2⟩, hH, hSt⟩ := id hg
  obtain ⟨la, li, aL, iL, h9, ⟨ra, hla⟩, ⟨ri, hli⟩, has, his⟩ := id hs1
  have haL := has.1
  have hiL := his.1
  have ha10 := oL_10 hla
  have hi10 := oL_10 hli
  obtain ⟨fLs, eLs, oLs, -⟩ := id hLs
  refine lv_aload_n hx hb dX12_arrangeKnown_0 rfl (lv_at hl 0 rfl) ?_
  refine z_get (T := TX12) (N := 11) (ci := 15) (k := 3) (fs := [.ref (g 0), .ref (g 2), .ref (g 4), .ref (g 6), .ref (g 9), .ref (g 11), .ref (g 14), .ref sa, va_rf so, .int (iI er), .int (iI fa)]) (v := .ref (g 6)) hC hZ in_X12 rfl (by decide) ql_X12_31 rfl h0 rfl dX12_arrangeKnown_1 ?_
  refine lv_aload_n hx hb dX12_arrangeKnown_4 rfl (lv_at hl 0 rfl) ?_
  refine lv_iload_n hx hb dX12_arrangeKnown_5 rfl (lv_at hl 1 rfl) ?_
  refine z_xcallr (z_xrunV (rest := [.ref (g 6)]) (As := [.int (iI x)]) (n := 1) (ci := 15) hC hZ (met_X12_knownArticle l D cs A F ob g sa so er fa c0 x hlt h0 hs1 (by omega)) gv_X12_181 hd_X12_knownArticle rfl h0 rfl hl rfl (Nat.le_of_ble_eq_true rfl) ⟨Nat.le_of_ble_eq_true rfl, Nat.le_of_ble_eq_true rfl⟩ ⟨Nat.le_of_ble_eq_true rfl, Nat.le_of_ble_eq_true rfl⟩ dX12_arrangeKnown_6) hZ hT hlk (Nat.le_of_ble_eq_true rfl) (Nat.le_of_ble_eq_true rfl) (fun E F1 q => ⟨by rw [← q.1]; exact hg, Or.inl ⟨zal_1 q.2.1, q.2.2⟩⟩) (fun r6 F6 H locs hp6_c_1 hZ => ?_)
  obtain ⟨rfl, y6, hz6, hm6, ho6⟩ := hp6_c_1
  obtain ⟨wa6, yo6, yw6, yk6⟩ := id ho6
  obtain ⟨fw6, yv6, ye6⟩ := id yw6
  have yk16 := yk6.1
  have yk26 := yk6.2.1
  have yk36 := yk6.2.2.1
  refine lv_aload_n hx hb dX12_arrangeKnown_9 rfl (lv_at hl 0 rfl) ?_
  refine z_get (T := TX12) (N := 11) (ci := 15) (k := 7) (fs := [.ref (g 0), .ref (g 2), .ref (g 4), .ref (g 6), .ref (g 9), .ref (g 11), .ref (g 14), .ref sa, va_rf so, .int (iI er), .int (iI fa)]) (v := .ref sa) hC hZ in_X12 rfl (by decide) ql_X12_59 rfl h0 rfl dX12_arrangeKnown_10 ?_
  refine z_getN (T := TX10) (N := 9) (ci := 13) (k := 4) (fs := [.ref la, .ref li, .int (iI (cNi c0)), .int (iI (cNn c0)), .int (iI (cWi c0)), .int (iI (cCo c0)), .int (iI (cHe c0)), .int (iI (cDa c0)), .int (iI (cLa c0))]) (v := .int (iI (cWi c0))) hC hZ in_X10 rfl (by decide) ql_X12_205 rfl h9 rfl dX12_arrangeKnown_13 ?_
  refine z_calli (z_runV (rest := []) (As := [.ref r6, .int (iI (cWi c0))]) (n := 2) (ci := 11) hC hZ (met_X8_arrange l D cs A F (g 6) (g 7) (g 8) wd0 (cWi c0) st0 r6 y6 hLs ho6 hwi) gv_X12_208 hd_X8_arrange rfl oLs rfl hl rfl (Nat.le_of_ble_eq_true rfl) ⟨Nat.le_of_ble_eq_true rfl, Nat.le_of_ble_eq_true rfl⟩ ⟨Nat.le_of_ble_eq_true rfl, Nat.le_of_ble_eq_true rfl⟩ dX12_arrangeKnown_16) hZ (fun r16 F16 H locs hp16_c_2 hZ => ?_)
  obtain ⟨hk16, hc16⟩ := hp16_c_2
  rcases hc16 with ⟨ls16, hz16, rfl, hq16, hn16, hw16⟩ | ⟨hz16, rfl, st16, hq16⟩
  · skip
    have hg16 := hg.sL h8 hk16 hq16
    have h016 : F16 ob = some (.inr (15, [.ref (g 0), .ref (g 2), .ref (g 4), .ref (g 6), .ref (g 9), .ref (g 11), .ref (g 14), .ref sa, va_rf so, .int (iI er), .int (iI fa)])) := hg16.1
    have hs116 := hg16.st
    have h816 := z_c8 hC hZ
    obtain ⟨fL16, eL16, oL16, -⟩ := id hq16
    refine z_if_ne (tgt := 33) hx hb dX12_arrangeKnown_19 (by decide) (by decide) (fun c_3 => ?_) (fun c_3 => ?_)
    · skip
      refine vx_ret ?_
      exact z_vret hC hr hlk hZ (by decide) (by decide) (⟨hg16, _, zal_0 hz6 hz16, hq16, hn16, hw16, zlines_ne yk6.2.2.2 (fun z9 => by have := yk36.1; rw [z9] at this; exact absurd this (by decide)) hz16⟩) dX12_arrangeKnown_33
    · skip
      exfalso; omega
  · skip
    have hg16 := hg.sL h8 hk16 hq16
    have h016 : F16 ob = some (.inr (15, [.ref (g 0), .ref (g 2), .ref (g 4), .ref (g 6), .ref (g 9), .ref (g 11), .ref (g 14), .ref sa, va_rf so, .int (iI er), .int (iI fa)])) := hg16.1
    have hs116 := hg16.st
    have h816 := z_c8 hC hZ
    refine z_if_ne (tgt := 33) hx hb dX12_arrangeKnown_19 (by decide) (by decide) (fun c_4 => ?_) (fun c_4 => ?_)
    · skip
      exfalso; omega
    · skip
      exact z_throwW (rest := []) hC hZ hlt hT hlk zth_e2 zth_g2 zth_o2 zth_k2 zth_i2 (by decide) (List.mem_of_getElem? (i := 24) rfl) hl (Nat.le_of_ble_eq_true rfl) (Nat.le_of_ble_eq_true rfl) (Nat.le_of_ble_eq_true rfl) (Nat.le_of_ble_eq_true rfl) (Nat.le_of_ble_eq_true rfl) (Nat.le_of_ble_eq_true rfl) (⟨hg16, Or.inr ⟨zal_2 hz6 hz16, rfl⟩⟩) dX12_arrangeKnown_22 dX12_arrangeKnown_25 dX12_arrangeKnown_26 dX12_arrangeKnown_29 dX12_arrangeKnown_32

set_option maxHeartbeats 4000000 in
set_option maxRecDepth 100000 in
theorem met_X12_lineCount (l : Launch) (D : va_G) (cs : Nat → ClassId) (A : Nat → Prop) (F : zF) (ob : Nat) (g : Nat → Nat) (sa : Nat) (so : Option Nat) (hL : List Nat) (tx inp out : List Int) (c0 : zCo) (sv : Option zCo) (hs : List zCo) (er fa : Int) (x : Int) (hlt : l.stackTraces = false)  (hg : gOb cs F ob g sa so hL tx inp out c0 sv hs er fa) (hx0 : InR x) (hwi : 4 ≤ cWi c0 ∧ cWi c0 ≤ 20) : zXM l D cs A yX12_lineCount cX12_lineCount 2 (some FieldType.int) 8 2 12 [.ref ob, .int (iI x)] F (pI (fun r F1 => gOb cs F1 ob g sa so hL tx inp out c0 sv hs er fa ∧ (sLn c0 x (fun ls => ls.length)).1 = 0 ∧ (sLn c0 x (fun ls => ls.length)).2 = r)) (fun E F1 => gOb cs F1 ob g sa so hL tx inp out c0 sv hs er fa ∧ (((sLn c0 x (fun ls => ls.length)).1 = 1 ∧ E = "java/util/NoSuchElementException") ∨ ((sLn c0 x (fun ls => ls.length)).1 = 2 ∧ E = "java/lang/UnsupportedOperationException"))) := by
  refine zX_of (own := RX12) (by decide) rfl (Nat.le_of_ble_eq_true rfl) ?_
  intro p e s m below meth c hC hr hlk hT hZ ls hl
  have hx := hC.x
  have hb := hC.b
  have hl : lv_has ls 2 [(0, .ref ob), (1, .int (iI x))] := hl
  have h0 : F ob = some (.inr (15, [.ref (g 0), .ref (g 2), .ref (g 4), .ref (g 6), .ref (g 9), .ref (g 11), .ref (g 14), .ref sa, va_rf so, .int (iI er), .int (iI fa)])) := hg.1
  have hs1 := hg.st
  have h8 := z_c8 hC hZ
  obtain ⟨-, hDis, hTx, hI, ⟨cap, hO⟩, ⟨wd0, st0, hLs⟩, ⟨hE1, e0, hE2⟩, ⟨pos0, L0, hR1, hR2⟩, hH, hSt⟩ := id hg
  refine lv_aload_n hx hb dX12_lineCount_0 rfl (lv_at hl 0 rfl) ?_
  refine lv_iload_n hx hb dX12_lineCount_1 rfl (lv_at hl 1 rfl) ?_
  refine z_xcallv (z_xrunV (rest := []) (As := [.int (iI x)]) (n := 1) (ci := 15) hC hZ (met_X12_arrangeKnown l D cs A F ob g sa so hL tx inp out c0 sv hs er fa x hlt hg hx0 hwi) gv_X12_212 hd_X12_arrangeKnown rfl h0 rfl hl rfl (Nat.le_of_ble_eq_true rfl) ⟨Nat.le_of_ble_eq_true rfl, Nat.le_of_ble_eq_true rfl⟩ ⟨Nat.le_of_ble_eq_true rfl, Nat.le_of_ble_eq_true rfl⟩ dX12_lineCount_2) hZ hT hlk (Nat.le_of_ble_eq_true rfl) (Nat.le_of_ble_eq_true rfl) (fun E F1 q => ⟨q.1, q.2.elim (fun y => Or.inl ⟨by unfold sLn; rw [y.1], y.2⟩) (fun y => Or.inr ⟨by unfold sLn; rw [y.1], y.2⟩)⟩) (fun F2 H locs hp2_c_1 hZ => ?_)
  obtain ⟨hg2, ls2, hz2, hq2, hn2, hw2, hne2⟩ := hp2_c_1
  have h02 : F2 ob = some (.inr (15, [.ref (g 0), .ref (g 2), .ref (g 4), .ref (g 6), .ref (g 9), .ref (g 11), .ref (g 14), .ref sa, va_rf so, .int (iI er), .int (iI fa)])) := hg2.1
  have hs12 := hg2.st
  have h82 := z_c8 hC hZ
  obtain ⟨fL2, eL2, oL2, -⟩ := id hq2
  refine lv_aload_n hx hb dX12_lineCount_5 rfl (lv_at hl 0 rfl) ?_
  refine z_get (T := TX12) (N := 11) (ci := 15) (k := 3) (fs := [.ref (g 0), .ref (g 2), .ref (g 4), .ref (g 6), .ref (g 9), .ref (g 11), .ref (g 14), .ref sa, va_rf so, .int (iI er), .int (iI fa)]) (v := .ref (g 6)) hC hZ in_X12 rfl (by decide) ql_X12_31 rfl h02 rfl dX12_lineCount_6 ?_
  refine z_getN (T := TX8) (N := 5) (ci := 11) (k := 3) (fs := [.ref (g 7), .ref (g 8), .int (iI ((zfl (ls2, [])).length : Int)), .int (iI (ls2.length : Int)), .int (iI (cWi c0))]) (v := .int (iI (ls2.length : Int))) hC hZ in_X8 rfl (by decide) ql_X12_215 rfl oL2 rfl dX12_lineCount_9 ?_
  refine vx_ret ?_
  exact z_iret hC hr hlk hZ (by decide) (by decide) (⟨hg2, by unfold sLn; rw [hz2], by unfold sLn; rw [hz2]⟩) dX12_lineCount_12

set_option maxHeartbeats 4000000 in
set_option maxRecDepth 100000 in
theorem met_X12_hyphenCount (l : Launch) (D : va_G) (cs : Nat → ClassId) (A : Nat → Prop) (F : zF) (ob : Nat) (g : Nat → Nat) (sa : Nat) (so : Option Nat) (hL : List Nat) (tx inp out : List Int) (c0 : zCo) (sv : Option zCo) (hs : List zCo) (er fa : Int) (x : Int) (hlt : l.stackTraces = false)  (hg : gOb cs F ob g sa so hL tx inp out c0 sv hs er fa) (hx0 : InR x) (hwi : 4 ≤ cWi c0 ∧ cWi c0 ≤ 20) : zXM l D cs A yX12_hyphenCount cX12_hyphenCount 2 (some FieldType.int) 8 2 12 [.ref ob, .int (iI x)] F (pI (fun r F1 => gOb cs F1 ob g sa so hL tx inp out c0 sv hs er fa ∧ (sLn c0 x sHy).1 = 0 ∧ (sLn c0 x sHy).2 = r)) (fun E F1 => gOb cs F1 ob g sa so hL tx inp out c0 sv hs er fa ∧ (((sLn c0 x sHy).1 = 1 ∧ E = "java/util/NoSuchElementException") ∨ ((sLn c0 x sHy).1 = 2 ∧ E = "java/lang/UnsupportedOperationException"))) := by
  refine zX_of (own := RX12) (by decide) rfl (Nat.le_of_ble_eq_true rfl) ?_
  intro p e s m below meth c hC hr hlk hT hZ ls hl
  have hx := hC.x
  have hb := hC.b
  have hl : lv_has ls 2 [(0, .ref ob), (1, .int (iI x))] := hl
  have h0 : F ob = some (.inr (15, [.ref (g 0), .ref (g 2), .ref (g 4), .ref (g 6), .ref (g 9), .ref (g 11), .ref (g 14), .ref sa, va_rf so, .int (iI er), .int (iI fa)])) := hg.1
  have hs1 := hg.st
  have h8 := z_c8 hC hZ
  obtain ⟨-, hDis, hTx, hI, ⟨cap, hO⟩, ⟨wd0, st0, hLs⟩, ⟨hE1, e0, hE2⟩, ⟨pos0, L0, hR1, hR2⟩, hH, hSt⟩ := id hg
  refine lv_aload_n hx hb dX12_hyphenCount_0 rfl (lv_at hl 0 rfl) ?_
  refine lv_iload_n hx hb dX12_hyphenCount_1 rfl (lv_at hl 1 rfl) ?_
  refine z_xcallv (z_xrunV (rest := []) (As := [.int (iI x)]) (n := 1) (ci := 15) hC hZ (met_X12_arrangeKnown l D cs A F ob g sa so hL tx inp out c0 sv hs er fa x hlt hg hx0 hwi) gv_X12_212 hd_X12_arrangeKnown rfl h0 rfl hl rfl (Nat.le_of_ble_eq_true rfl) ⟨Nat.le_of_ble_eq_true rfl, Nat.le_of_ble_eq_true rfl⟩ ⟨Nat.le_of_ble_eq_true rfl, Nat.le_of_ble_eq_true rfl⟩ dX12_hyphenCount_2) hZ hT hlk (Nat.le_of_ble_eq_true rfl) (Nat.le_of_ble_eq_true rfl) (fun E F1 q => ⟨q.1, q.2.elim (fun y => Or.inl ⟨by unfold sLn; rw [y.1], y.2⟩) (fun y => Or.inr ⟨by unfold sLn; rw [y.1], y.2⟩)⟩) (fun F2 H locs hp2_c_1 hZ => ?_)
  obtain ⟨hg2, ls2, hz2, hq2, hn2, hw2, hne2⟩ := hp2_c_1
  have h02 : F2 ob = some (.inr (15, [.ref (g 0), .ref (g 2), .ref (g 4), .ref (g 6), .ref (g 9), .ref (g 11), .ref (g 14), .ref sa, va_rf so, .int (iI er), .int (iI fa)])) := hg2.1
  have hs12 := hg2.st
  have h82 := z_c8 hC hZ
  obtain ⟨fL2, eL2, oL2, -⟩ := id hq2
  refine lv_aload_n hx hb dX12_hyphenCount_5 rfl (lv_at hl 0 rfl) ?_
  refine z_get (T := TX12) (N := 11) (ci := 15) (k := 3) (fs := [.ref (g 0), .ref (g 2), .ref (g 4), .ref (g 6), .ref (g 9), .ref (g 11), .ref (g 14), .ref sa, va_rf so, .int (iI er), .int (iI fa)]) (v := .ref (g 6)) hC hZ in_X12 rfl (by decide) ql_X12_31 rfl h02 rfl dX12_hyphenCount_6 ?_
  refine z_calli (z_runV (rest := []) (As := []) (n := 0) (ci := 11) hC hZ (met_X8_countHyphens l D cs A F2 (g 6) (g 7) (g 8) (cWi c0) (ls2, []) hq2 hn2.2 hne2) gv_X12_226 hd_X8_countHyphens rfl oL2 rfl hl rfl (Nat.le_of_ble_eq_true rfl) ⟨Nat.le_of_ble_eq_true rfl, Nat.le_of_ble_eq_true rfl⟩ ⟨Nat.le_of_ble_eq_true rfl, Nat.le_of_ble_eq_true rfl⟩ dX12_hyphenCount_9) hZ (fun r9 F9 H locs hp9_c_2 hZ => ?_)
  obtain ⟨rfl, hy9⟩ := hp9_c_2
  refine vx_ret ?_
  exact z_iret hC hr hlk hZ (by decide) (by decide) (⟨hg2, by unfold sLn; rw [hz2], by unfold sLn; rw [hz2]; exact hy9⟩) dX12_hyphenCount_12

set_option maxHeartbeats 4000000 in
set_option maxRecDepth 100000 in
theorem met_X12_arrangeKnownLine (l : Launch) (D : va_G) (cs : Nat → ClassId) (A : Nat → Prop) (F : zF) (ob : Nat) (g : Nat → Nat) (sa : Nat) (so : Option Nat) (hL : List Nat) (tx inp out : List Int) (c0 : zCo) (sv : Option zCo) (hs : List zCo) (er fa : Int) (x z : Int) (hlt : l.stackTraces = false)  (hg : gOb cs F ob g sa so hL tx inp out c0 sv hs er fa) (hx0 : InR x) (hz0 : InR z) (hwi : 4 ≤ cWi c0 ∧ cWi c0 ≤ 20) : zXM l D cs A yX12_arrangeKnownLine cX12_arrangeKnownLine 3 (none : Option Jvm.ClassFile.FieldType) 8 3 18 [.ref ob, .int (iI x), .int (iI z)] F (pV (fun F1 => gOb cs F1 ob g sa so hL tx inp out c0 sv hs er fa ∧ (∃ ls : List zWd, (0 ≤ z ∧ z < ls.length) ∧ rLs cs F1 (g 6) (g 7) (g 8) (cWi c0) (ls, []) ∧ zlq c0 x z = (0, ls.getD z.toNat []) ∧ ∀ l ∈ ls, (l.length : Int) ≤ cWi c0))) (fun E F1 => gOb cs F1 ob g sa so hL tx inp out c0 sv hs er fa ∧ ((zlq c0 x z = (1, []) ∧ E = "java/util/NoSuchElementException") ∨ (zlq c0 x z = (2, []) ∧ E = "java/lang/UnsupportedOperationException") ∨ (zlq c0 x z = (3, []) ∧ E = "java/lang/IndexOutOfBoundsException"))) := by
  refine zX_of (own := RX12) (by decide) rfl (Nat.le_of_ble_eq_true rfl) ?_
  intro p e s m below meth c hC hr hlk hT hZ ls hl
  have hx := hC.x
  have hb := hC.b
  have hl : lv_has ls 3 [(0, .ref ob), (1, .int (iI x)), (2, .int (iI z))] := hl
  have h0 : F ob = some (.inr (15, [.ref (g 0), .ref (g 2), .ref (g 4), .ref (g 6), .ref (g 9), .ref (g 11), .ref (g 14), .ref sa, va_rf so, .int (iI er), .int (iI fa)])) := hg.1
  have hs1 := hg.st
  have h8 := z_c8 hC hZ
  obtain ⟨-, hDis, hTx, hI, ⟨cap, hO⟩, ⟨wd0, st0, hLs⟩, ⟨hE1, e0, hE2⟩, ⟨pos0, L0, hR1, hR2⟩, hH, hSt⟩ := id hg
  refine lv_aload_n hx hb dX12_arrangeKnownLine_0 rfl (lv_at hl 0 rfl) ?_
  refine lv_iload_n hx hb dX12_arrangeKnownLine_1 rfl (lv_at hl 1 rfl) ?_
  refine z_xcallv (z_xrunV (rest := []) (As := [.int (iI x)]) (n := 1) (ci := 15) hC hZ (met_X12_arrangeKnown l D cs A F ob g sa so hL tx inp out c0 sv hs er fa x hlt hg hx0 hwi) gv_X12_212 hd_X12_arrangeKnown rfl h0 rfl hl rfl (Nat.le_of_ble_eq_true rfl) ⟨Nat.le_of_ble_eq_true rfl, Nat.le_of_ble_eq_true rfl⟩ ⟨Nat.le_of_ble_eq_true rfl, Nat.le_of_ble_eq_true rfl⟩ dX12_arrangeKnownLine_2) hZ hT hlk (Nat.le_of_ble_eq_true rfl) (Nat.le_of_ble_eq_true rfl) (fun E F1 q => ⟨q.1, q.2.elim (fun y => Or.inl ⟨zlq_e y.1 (by decide), y.2⟩) (fun y => Or.inr (Or.inl ⟨zlq_e y.1 (by decide), y.2⟩))⟩) (fun F2 H locs hp2_c_1 hZ => ?_)
  obtain ⟨hg2, ls2, hz2, hq2, hn2, hw2, hne2⟩ := hp2_c_1
  have h02 : F2 ob = some (.inr (15, [.ref (g 0), .ref (g 2), .ref (g 4), .ref (g 6), .ref (g 9), .ref (g 11), .ref (g 14), .ref sa, va_rf so, .int (iI er), .int (iI fa)])) := hg2.1
  have hs12 := hg2.st
  have h82 := z_c8 hC hZ
  obtain ⟨fL2, eL2, oL2, -⟩ := id hq2
  refine lv_iload_n hx hb dX12_arrangeKnownLine_5 rfl (lv_at hl 2 rfl) ?_
  refine z_if_lt (tgt := 20) hx hb dX12_arrangeKnownLine_6 (by decide) (by omega) (fun c_2 => ?_) (fun c_2 => ?_)
  · skip
    exact z_throwW (rest := []) hC hZ hlt hT hlk zth_e4 zth_g4 zth_o4 zth_k4 zth_i4 (by decide) (List.mem_of_getElem? (i := 25) rfl) hl (Nat.le_of_ble_eq_true rfl) (Nat.le_of_ble_eq_true rfl) (Nat.le_of_ble_eq_true rfl) (Nat.le_of_ble_eq_true rfl) (Nat.le_of_ble_eq_true rfl) (Nat.le_of_ble_eq_true rfl) (⟨hg2, Or.inr (Or.inr ⟨zlq_n hz2 (by omega), rfl⟩)⟩) dX12_arrangeKnownLine_20 dX12_arrangeKnownLine_23 dX12_arrangeKnownLine_24 dX12_arrangeKnownLine_27 dX12_arrangeKnownLine_30
  · skip
    refine lv_iload_n hx hb dX12_arrangeKnownLine_9 rfl (lv_at hl 2 rfl) ?_
    refine lv_aload_n hx hb dX12_arrangeKnownLine_10 rfl (lv_at hl 0 rfl) ?_
    refine z_get (T := TX12) (N := 11) (ci := 15) (k := 3) (fs := [.ref (g 0), .ref (g 2), .ref (g 4), .ref (g 6), .ref (g 9), .ref (g 11), .ref (g 14), .ref sa, va_rf so, .int (iI er), .int (iI fa)]) (v := .ref (g 6)) hC hZ in_X12 rfl (by decide) ql_X12_31 rfl h02 rfl dX12_arrangeKnownLine_11 ?_
    refine z_getN (T := TX8) (N := 5) (ci := 11) (k := 3) (fs := [.ref (g 7), .ref (g 8), .int (iI ((zfl (ls2, [])).length : Int)), .int (iI (ls2.length : Int)), .int (iI (cWi c0))]) (v := .int (iI (ls2.length : Int))) hC hZ in_X8 rfl (by decide) ql_X12_215 rfl oL2 rfl dX12_arrangeKnownLine_14 ?_
    refine z_icmp_lt (tgt := 31) hx hb dX12_arrangeKnownLine_17 (by decide) (by omega) (by omega) (fun c_3 => ?_) (fun c_3 => ?_)
    · skip
      refine vx_ret ?_
      exact z_vret hC hr hlk hZ (by decide) (by decide) (⟨hg2, ls2, ⟨by omega, by omega⟩, hq2, zlq_y hz2 (by omega) (by omega), hw2⟩) dX12_arrangeKnownLine_31
    · skip
      exact z_throwW (rest := []) hC hZ hlt hT hlk zth_e4 zth_g4 zth_o4 zth_k4 zth_i4 (by decide) (List.mem_of_getElem? (i := 25) rfl) hl (Nat.le_of_ble_eq_true rfl) (Nat.le_of_ble_eq_true rfl) (Nat.le_of_ble_eq_true rfl) (Nat.le_of_ble_eq_true rfl) (Nat.le_of_ble_eq_true rfl) (Nat.le_of_ble_eq_true rfl) (⟨hg2, Or.inr (Or.inr ⟨zlq_n hz2 (by omega), rfl⟩)⟩) dX12_arrangeKnownLine_20 dX12_arrangeKnownLine_23 dX12_arrangeKnownLine_24 dX12_arrangeKnownLine_27 dX12_arrangeKnownLine_30

set_option maxHeartbeats 4000000 in
set_option maxRecDepth 100000 in
theorem met_X12_lineLength (l : Launch) (D : va_G) (cs : Nat → ClassId) (A : Nat → Prop) (F : zF) (ob : Nat) (g : Nat → Nat) (sa : Nat) (so : Option Nat) (hL : List Nat) (tx inp out : List Int) (c0 : zCo) (sv : Option zCo) (hs : List zCo) (er fa : Int) (x z : Int) (hlt : l.stackTraces = false)  (hg : gOb cs F ob g sa so hL tx inp out c0 sv hs er fa) (hx0 : InR x) (hz0 : InR z) (hwi : 4 ≤ cWi c0 ∧ cWi c0 ≤ 20) : zXM l D cs A yX12_lineLength cX12_lineLength 3 (some FieldType.int) 9 3 18 [.ref ob, .int (iI x), .int (iI z)] F (pI (fun r F1 => gOb cs F1 ob g sa so hL tx inp out c0 sv hs er fa ∧ ((zlq c0 x z).1, ((zlq c0 x z).2.length : Int)).1 = 0 ∧ ((zlq c0 x z).1, ((zlq c0 x z).2.length : Int)).2 = r)) (fun E F1 => gOb cs F1 ob g sa so hL tx inp out c0 sv hs er fa ∧ ((((zlq c0 x z).1, ((zlq c0 x z).2.length : Int)).1 = 1 ∧ E = "java/util/NoSuchElementException") ∨ (((zlq c0 x z).1, ((zlq c0 x z).2.length : Int)).1 = 2 ∧ E = "java/lang/UnsupportedOperationException") ∨ (((zlq c0 x z).1, ((zlq c0 x z).2.length : Int)).1 = 3 ∧ E = "java/lang/IndexOutOfBoundsException"))) := by
  refine zX_of (own := RX12) (by decide) rfl (Nat.le_of_ble_eq_true rfl) ?_
  intro p e s m below meth c hC hr hlk hT hZ ls hl
  have hx := hC.x
  have hb := hC.b
  have hl : lv_has ls 3 [(0, .ref ob), (1, .int (iI x)), (2, .int (iI z))] := hl
  have h0 : F ob = some (.inr (15, [.ref (g 0), .ref (g 2), .ref (g 4), .ref (g 6), .ref (g 9), .ref (g 11), .ref (g 14), .ref sa, va_rf so, .int (iI er), .int (iI fa)])) := hg.1
  have hs1 := hg.st
  have h8 := z_c8 hC hZ
  obtain ⟨-, hDis, hTx, hI, ⟨cap, hO⟩, ⟨wd0, st0, hLs⟩, ⟨hE1, e0, hE2⟩, ⟨pos0, L0, hR1, hR2⟩, hH, hSt⟩ := id hg
  refine lv_aload_n hx hb dX12_lineLength_0 rfl (lv_at hl 0 rfl) ?_
  refine lv_iload_n hx hb dX12_lineLength_1 rfl (lv_at hl 1 rfl) ?_
  refine lv_iload_n hx hb dX12_lineLength_2 rfl (lv_at hl 2 rfl) ?_
  refine z_xcallv (z_xrunV (rest := []) (As := [.int (iI x), .int (iI z)]) (n := 2) (ci := 15) hC hZ (met_X12_arrangeKnownLine l D cs A F ob g sa so hL tx inp out c0 sv hs er fa x z hlt hg hx0 hz0 hwi) gv_X12_218 hd_X12_arrangeKnownLine rfl h0 rfl hl rfl (Nat.le_of_ble_eq_true rfl) ⟨Nat.le_of_ble_eq_true rfl, Nat.le_of_ble_eq_true rfl⟩ ⟨Nat.le_of_ble_eq_true rfl, Nat.le_of_ble_eq_true rfl⟩ dX12_lineLength_3) hZ hT hlk (Nat.le_of_ble_eq_true rfl) (Nat.le_of_ble_eq_true rfl) (fun E F1 q => ⟨q.1, q.2.elim (fun y => Or.inl ⟨by rw [y.1], y.2⟩) (fun y => y.elim (fun y => Or.inr (Or.inl ⟨by rw [y.1], y.2⟩)) (fun y => Or.inr (Or.inr ⟨by rw [y.1], y.2⟩)))⟩) (fun F3 H locs hp3_c_1 hZ => ?_)
  obtain ⟨hg3, ls3, hn3, hq3, hz3, hw3⟩ := hp3_c_1
  have h03 : F3 ob = some (.inr (15, [.ref (g 0), .ref (g 2), .ref (g 4), .ref (g 6), .ref (g 9), .ref (g 11), .ref (g 14), .ref sa, va_rf so, .int (iI er), .int (iI fa)])) := hg3.1
  have hs13 := hg3.st
  have h83 := z_c8 hC hZ
  obtain ⟨fL3, eL3, oL3, -⟩ := id hq3
  refine lv_aload_n hx hb dX12_lineLength_6 rfl (lv_at hl 0 rfl) ?_
  refine z_get (T := TX12) (N := 11) (ci := 15) (k := 3) (fs := [.ref (g 0), .ref (g 2), .ref (g 4), .ref (g 6), .ref (g 9), .ref (g 11), .ref (g 14), .ref sa, va_rf so, .int (iI er), .int (iI fa)]) (v := .ref (g 6)) hC hZ in_X12 rfl (by decide) ql_X12_31 rfl h03 rfl dX12_lineLength_7 ?_
  refine lv_iload_n hx hb dX12_lineLength_10 rfl (lv_at hl 2 rfl) ?_
  refine z_calli (z_runV (rest := []) (As := [.int (iI z)]) (n := 1) (ci := 11) hC hZ (met_X8_lengthOf l D cs A F3 (g 6) (g 7) (g 8) (cWi c0) (ls3, []) z hq3 hn3) gv_X12_222 hd_X8_lengthOf rfl oL3 rfl hl rfl (Nat.le_of_ble_eq_true rfl) ⟨Nat.le_of_ble_eq_true rfl, Nat.le_of_ble_eq_true rfl⟩ ⟨Nat.le_of_ble_eq_true rfl, Nat.le_of_ble_eq_true rfl⟩ dX12_lineLength_11) hZ (fun r11 F11 H locs hp11_c_2 hZ => ?_)
  obtain ⟨rfl, hy11⟩ := hp11_c_2
  refine vx_ret ?_
  exact z_iret hC hr hlk hZ (by decide) (by decide) (⟨hg3, by rw [hz3], by rw [hz3]; exact hy11⟩) dX12_lineLength_14
