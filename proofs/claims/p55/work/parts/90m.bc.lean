set_option maxHeartbeats 4000000 in
set_option maxRecDepth 100000 in
theorem met_X12_become (l : Launch) (D : va_G) (cs : Nat → ClassId) (A : Nat → Prop) (F : zF) (ob : Nat) (g : Nat → Nat) (sa : Nat) (so : Option Nat) (hL : List Nat) (tx inp out : List Int) (c0 : zCo) (sv : Option zCo) (hs : List zCo) (er fa : Int) (nx : Nat) (c1 : zCo)  (hg : gOb cs F ob g sa so hL tx inp out c0 sv hs er fa) (hnx : rSt cs (zrm (gMl g ob) F) nx c1) (hh8 : hs.length ≤ 8) : zM l D cs A yX12_become cX12_become 2 (none : Option Jvm.ClassFile.FieldType) 8 1 10 [.ref ob, .ref nx] F (pV (fun F1 => zko [ob, g 14, g 15] F F1 ∧ ∃ (g1 : Nat → Nat) (hL1 : List Nat), gOb cs F1 ob g1 nx so hL1 tx inp out c1 sv (pushH hs c0) er fa)) := by
  refine zM_of (own := RX12) (by decide) rfl (Nat.le_of_ble_eq_true rfl) ?_
  intro p e s m below meth c hC hr hlk hnm hZ ls hl
  have hx := hC.x
  have hb := hC.b
  have hl : lv_has ls 2 [(0, .ref ob), (1, .ref nx)] := hl
  have h0 : F ob = some (.inr (15, [.ref (g 0), .ref (g 2), .ref (g 4), .ref (g 6), .ref (g 9), .ref (g 11), .ref (g 14), .ref sa, va_rf so, .int (iI er), .int (iI fa)])) := hg.1
  have hs1 := hg.st
  have h8 := z_c8 hC hZ
  obtain ⟨-, hDis, hTx, hI, ⟨cap, hO⟩, ⟨wd0, st0, hLs⟩, ⟨hE1, e0, hE2⟩, ⟨pos0, L0, hR1, hR2⟩, hH, hSt⟩ := id hg
  obtain ⟨hst1, hso1, hlen1, hhs1⟩ := id hSt
  obtain ⟨fH, oH⟩ := hH.o
  obtain ⟨la, li, aL, iL, h9, -⟩ := id hs1
  have hxa : sa ≠ g 14 := zneK h9 oH (by show 1000000 + 13 ≠ 1000000 + 4; decide)
  have hst1 : rSt cs (zrm (gMl g ob) F) sa c0 := hst1
  have hfn : zEl F sa := ⟨13, 9, RX10, TX10, _, h9, rfl, q_2165⟩
  refine lv_aload_n hx hb dX12_become_0 rfl (lv_at hl 0 rfl) ?_
  refine z_get (T := TX12) (N := 11) (ci := 15) (k := 6) (fs := [.ref (g 0), .ref (g 2), .ref (g 4), .ref (g 6), .ref (g 9), .ref (g 11), .ref (g 14), .ref sa, va_rf so, .int (iI er), .int (iI fa)]) (v := .ref (g 14)) hC hZ in_X12 rfl (by decide) ql_X12_52 rfl h0 rfl dX12_become_1 ?_
  refine lv_aload_n hx hb dX12_become_4 rfl (lv_at hl 0 rfl) ?_
  refine z_get (T := TX12) (N := 11) (ci := 15) (k := 7) (fs := [.ref (g 0), .ref (g 2), .ref (g 4), .ref (g 6), .ref (g 9), .ref (g 11), .ref (g 14), .ref sa, va_rf so, .int (iI er), .int (iI fa)]) (v := .ref sa) hC hZ in_X12 rfl (by decide) ql_X12_59 rfl h0 rfl dX12_become_5 ?_
  obtain ⟨fsho_1, ho_1⟩ := (hH).o
  refine z_calli (z_runV (rest := []) (As := [.ref sa]) (n := 1) (ci := 4) hC hZ (met_Jx4a65c_add_9ea2d l D cs A F (g 14) (g 15) hL sa hH (by omega) hfn hxa) gv_X12_389 hd_Jx4a65c_add_9ea2d rfl ho_1 rfl hl rfl (Nat.le_of_ble_eq_true rfl) ⟨Nat.le_of_ble_eq_true rfl, Nat.le_of_ble_eq_true rfl⟩ ⟨Nat.le_of_ble_eq_true rfl, Nat.le_of_ble_eq_true rfl⟩ dX12_become_8) hZ (fun r8 F8 H locs hp8_c_2 hZ => ?_)
  obtain ⟨hr8, arr8, ha8, hk8, hl8⟩ := hp8_c_2
  subst hr8
  have hg8 := hg.sH h8 ha8 hk8 hl8 (by rw [List.length_append, List.length_append, hlen1, List.length_singleton, List.length_singleton]) (hst_app hlen1 hhs1 hst1)
  have hnx8 := hnx.mono (hg.mon (J := [14, 15]) (by decide) hk8 (by decide) ha8)
  have hgA1 : gup g 15 arr8 14 = g 14 := gup_n (by decide)
  have hgA2 : gup g 15 arr8 15 = g 15 ∨ F (gup g 15 arr8 15) = none := by rw [gup_s]; exact ha8
  generalize gup g 15 arr8 = gA at hg8 hnx8 hgA1 hgA2
  have hko8 : zko [ob, g 14, g 15] F F8 := hk8.sub (fun q hq => List.mem_cons_of_mem _ hq)
  have h08 : F8 ob = some (.inr (15, [.ref (gA 0), .ref (gA 2), .ref (gA 4), .ref (gA 6), .ref (gA 9), .ref (gA 11), .ref (gA 14), .ref sa, va_rf so, .int (iI er), .int (iI fa)])) := hg8.1
  have hs18 := hg8.st
  have h88 := z_c8 hC hZ
  have hH8 : oLx cs F8 (gA 14) (gA 15) (hL ++ [sa]) := hg8.2.2.2.2.2.2.2.2.1
  have hSt8 := hg8.2.2.2.2.2.2.2.2.2
  have hlA : (((hL ++ [sa]).length : Nat) : Int) = (hs.length : Int) + 1 := by rw [List.length_append, List.length_singleton, hlen1]; omega
  have hlB : (hs ++ [c0]).length = hs.length + 1 := by rw [List.length_append, List.length_singleton]
  refine lv_pop hx hb dX12_become_11 rfl ?_
  refine lv_aload_n hx hb dX12_become_12 rfl (lv_at hl 0 rfl) ?_
  refine z_get (T := TX12) (N := 11) (ci := 15) (k := 6) (fs := [.ref (gA 0), .ref (gA 2), .ref (gA 4), .ref (gA 6), .ref (gA 9), .ref (gA 11), .ref (gA 14), .ref sa, va_rf so, .int (iI er), .int (iI fa)]) (v := .ref (gA 14)) hC hZ in_X12 rfl (by decide) ql_X12_52 rfl h08 rfl dX12_become_13 ?_
  obtain ⟨fsho_3, ho_3⟩ := (hH8).o
  refine z_calli (z_runV (rest := []) (As := []) (n := 0) (ci := 4) hC hZ (met_Jx4a65c_size_8abf5 l D cs A F8 (gA 14) (gA 15) (hL ++ [sa]) hH8) gv_X12_101 hd_Jx4a65c_size_8abf5 rfl ho_3 rfl hl rfl (Nat.le_of_ble_eq_true rfl) ⟨Nat.le_of_ble_eq_true rfl, Nat.le_of_ble_eq_true rfl⟩ ⟨Nat.le_of_ble_eq_true rfl, Nat.le_of_ble_eq_true rfl⟩ dX12_become_16) hZ (fun r16 F16 H locs hp16_c_4 hZ => ?_)
  obtain ⟨rfl, rfl⟩ := hp16_c_4
  refine z_bipush hx hb dX12_become_19 (by decide) ?_
  refine z_icmp_le (tgt := 33) hx hb dX12_become_21 (by decide) (by omega) (by decide) (fun c_5 => ?_) (fun c_5 => ?_)
  · skip
    refine lv_aload_n hx hb dX12_become_33 rfl (lv_at hl 0 rfl) ?_
    refine lv_aload_n hx hb dX12_become_34 rfl (lv_at hl 1 rfl) ?_
    refine z_put (T := TX12) (N := 11) (ci := 15) (k := 7) (fs := [.ref (gA 0), .ref (gA 2), .ref (gA 4), .ref (gA 6), .ref (gA 9), .ref (gA 11), .ref (gA 14), .ref sa, va_rf so, .int (iI er), .int (iI fa)]) (v := .ref nx) hC hZ tyX12 tyX12_ok nmX12 in_X12 rfl (by decide) ql_X12_59 rfl (Or.inl rfl) rfl h08 (by show 7 < 11; decide) rfl rfl dX12_become_35 (fun H locs hZ => ?_)
    have hf_6 : (zup F8 ob (.inr (15, [.ref (gA 0), .ref (gA 2), .ref (gA 4), .ref (gA 6), .ref (gA 9), .ref (gA 11), .ref (gA 14), .ref nx, va_rf so, .int (iI er), .int (iI fa)]))) ob = some (.inr (15, [.ref (gA 0), .ref (gA 2), .ref (gA 4), .ref (gA 6), .ref (gA 9), .ref (gA 11), .ref (gA 14), .ref nx, va_rf so, .int (iI er), .int (iI fa)])) := zup_s
    replace hZ : zS D A s (zup F8 ob (.inr (15, [.ref (gA 0), .ref (gA 2), .ref (gA 4), .ref (gA 6), .ref (gA 9), .ref (gA 11), .ref (gA 14), .ref nx, va_rf so, .int (iI er), .int (iI fa)]))) _ _ := hZ
    exact z_vret hC hr hlk hZ (by decide) (by decide) (⟨hko8.tr ((zko.refl : zko [ob] F8 F8).up (by simp)) (fun q hq => by rw [List.mem_singleton.mp hq]; exact Or.inl List.mem_cons_self), gA, _, (show gOb cs F8 ob gA sa so (hL ++ [sa]) tx inp out c0 sv (pushH hs c0) er fa by rw [← pushH_n (by omega)]; exact hg8).sX ((zko.refl : zko [ob] F8 F8).up (by simp)) hf_6 ⟨hnx8, (show gOb cs F8 ob gA sa so (hL ++ [sa]) tx inp out c0 sv (pushH hs c0) er fa by rw [← pushH_n (by omega)]; exact hg8).2.2.2.2.2.2.2.2.2.2⟩⟩) dX12_become_38
  · skip
    refine lv_aload_n hx hb dX12_become_24 rfl (lv_at hl 0 rfl) ?_
    refine z_get (T := TX12) (N := 11) (ci := 15) (k := 6) (fs := [.ref (gA 0), .ref (gA 2), .ref (gA 4), .ref (gA 6), .ref (gA 9), .ref (gA 11), .ref (gA 14), .ref sa, va_rf so, .int (iI er), .int (iI fa)]) (v := .ref (gA 14)) hC hZ in_X12 rfl (by decide) ql_X12_52 rfl h08 rfl dX12_become_25 ?_
    refine z_iconst hx hb dX12_become_28 ?_
    obtain ⟨fsho_7, ho_7⟩ := (hH8).o
    refine z_callr (z_runV (rest := []) (As := [.int (iI 0)]) (n := 1) (ci := 4) hC hZ (met_Jx4a65c_remove_915e3 l D cs A F8 (gA 14) (gA 15) (hL ++ [sa]) 0 hH8 ⟨by decide, by omega⟩ (hst_el (P := zrm (gMl gA ob) F8) hSt8.2.2.1 hSt8.2.2.2 zrm_le)) gv_X12_381 hd_Jx4a65c_remove_915e3 rfl ho_7 rfl hl rfl (Nat.le_of_ble_eq_true rfl) ⟨Nat.le_of_ble_eq_true rfl, Nat.le_of_ble_eq_true rfl⟩ ⟨Nat.le_of_ble_eq_true rfl, Nat.le_of_ble_eq_true rfl⟩ dX12_become_29) hZ (fun r29 F29 H locs hp29_c_8 hZ => ?_)
    obtain ⟨hk29, hl29, hr29⟩ := hp29_c_8
    have hg29 := hg8.sH h88 (Or.inl rfl) hk29 hl29 (by rw [List.length_eraseIdx, List.length_eraseIdx, hSt8.2.2.1]) (hst_era (i := (0 : Int).toNat) (by show 0 < _; omega) hSt8.2.2.1 hSt8.2.2.2)
    rw [gup_id, pushH_8 (by omega)] at hg29
    have hnx29 := hnx8.mono (hg8.mon (J := [14, 15]) (a := 15) (by decide) hk29 (by decide) (Or.inl rfl))
    rw [gup_id] at hnx29
    have hko29 : zko [ob, g 14, g 15] F F29 := hko8.tr hk29 (fun q hq => by
      rcases List.mem_cons.mp hq with e | e
      · rw [e, hgA1]; exact Or.inl (by simp)
      · rw [List.mem_singleton.mp e]; exact hgA2.imp_left (fun z => by rw [z]; simp))
    have h029 : F29 ob = some (.inr (15, [.ref (gA 0), .ref (gA 2), .ref (gA 4), .ref (gA 6), .ref (gA 9), .ref (gA 11), .ref (gA 14), .ref sa, va_rf so, .int (iI er), .int (iI fa)])) := hg29.1
    have hs129 := hg29.st
    have h829 := z_c8 hC hZ
    refine lv_pop hx hb dX12_become_32 rfl ?_
    refine lv_aload_n hx hb dX12_become_33 rfl (lv_at hl 0 rfl) ?_
    refine lv_aload_n hx hb dX12_become_34 rfl (lv_at hl 1 rfl) ?_
    refine z_put (T := TX12) (N := 11) (ci := 15) (k := 7) (fs := [.ref (gA 0), .ref (gA 2), .ref (gA 4), .ref (gA 6), .ref (gA 9), .ref (gA 11), .ref (gA 14), .ref sa, va_rf so, .int (iI er), .int (iI fa)]) (v := .ref nx) hC hZ tyX12 tyX12_ok nmX12 in_X12 rfl (by decide) ql_X12_59 rfl (Or.inl rfl) rfl h029 (by show 7 < 11; decide) rfl rfl dX12_become_35 (fun H locs hZ => ?_)
    have hf_9 : (zup F29 ob (.inr (15, [.ref (gA 0), .ref (gA 2), .ref (gA 4), .ref (gA 6), .ref (gA 9), .ref (gA 11), .ref (gA 14), .ref nx, va_rf so, .int (iI er), .int (iI fa)]))) ob = some (.inr (15, [.ref (gA 0), .ref (gA 2), .ref (gA 4), .ref (gA 6), .ref (gA 9), .ref (gA 11), .ref (gA 14), .ref nx, va_rf so, .int (iI er), .int (iI fa)])) := zup_s
    replace hZ : zS D A s (zup F29 ob (.inr (15, [.ref (gA 0), .ref (gA 2), .ref (gA 4), .ref (gA 6), .ref (gA 9), .ref (gA 11), .ref (gA 14), .ref nx, va_rf so, .int (iI er), .int (iI fa)]))) _ _ := hZ
    exact z_vret hC hr hlk hZ (by decide) (by decide) (⟨hko29.tr ((zko.refl : zko [ob] F29 F29).up (by simp)) (fun q hq => by rw [List.mem_singleton.mp hq]; exact Or.inl List.mem_cons_self), gA, _, hg29.sX ((zko.refl : zko [ob] F29 F29).up (by simp)) hf_9 ⟨hnx29, hg29.2.2.2.2.2.2.2.2.2.2⟩⟩) dX12_become_38
