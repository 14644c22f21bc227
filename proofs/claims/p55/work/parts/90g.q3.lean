section ZLW
variable {p : Program} {l : Launch} {e : Env} {R : Room} {s : State} {m : MethodId} {args : Array Value} {below : List Frame} {meth : Method} {c : Code} {H : Heap} {locs : List Loc} {cells slots : Nat} {Q : State → Prop}
variable {cc : ByteArray} {pc nL : Nat} {ls : Array Slot} {rest : List Value} {own : String} {D : va_G} {cs : Nat → ClassId} {A : Nat → Prop}
theorem z_ldcfw (hC : zC p s m args c cc nL own D cs A) {index : Nat} {v : UInt32} (hk : Cond.constantFloat own index v ∈ ZALL) (d : decode cc pc = .ok (.ldc_w index, 3)) (k : W p l e R s m args below meth c H locs cells slots Q (F0 m (pc + 3) ls (.float v :: rest))) : W p l e R s m args below meth c H locs cells slots Q (F0 m pc ls rest) := by
  have hexec := hC.x
  have hdg : decode c.code pc = .ok (.ldc_w index, 3) := by rw [hC.b]; exact d
  intro T hT X
  obtain ⟨t, a, b⟩ := k T hT X
  obtain ⟨k9, cf, hk9, hcf, hcp⟩ := Cond.constantFloat_spec hC.ow (hC.ts hk)
  obtain ⟨k', hk', he⟩ := X.warmed.alike.2.2 _ _ hk9
  refine ⟨t, ?_, b⟩
  show Steps p.tables e below (T.setTop (F0 m pc ls rest)) t
  jvm_step X.here [hexec, hdg, ldc_w.wp_float (s := T) (f := F0 m pc ls rest) X.here.top hk' (by rw [he]; exact hcf) hcp]
  exact a
end ZLW
set_option maxHeartbeats 4000000 in
set_option maxRecDepth 100000 in
theorem met_X12_articleCount (l : Launch) (D : va_G) (cs : Nat → ClassId) (A : Nat → Prop) (F : zF) (ob : Nat) (g : Nat → Nat) (sa : Nat) (so : Option Nat) (er fa : Int) (c0 : zCo)  (h0 : F ob = some (.inr (15, [.ref (g 0), .ref (g 2), .ref (g 4), .ref (g 6), .ref (g 9), .ref (g 11), .ref (g 14), .ref sa, va_rf so, .int (iI er), .int (iI fa)]))) (hs1 : rSt cs F sa c0) : zM l D cs A yX12_articleCount cX12_articleCount 1 (some FieldType.int) 2 0 0 [.ref ob] F (pI (fun r F1 => F = F1 ∧ ((cAr c0).length : Int) = r)) := by
  refine zM_of (own := RX12) (by decide) rfl (Nat.le_of_ble_eq_true rfl) ?_
  intro p e s m below meth c hC hr hlk hnm hZ ls hl
  have hx := hC.x
  have hb := hC.b
  have hl : lv_has ls 1 [(0, .ref ob)] := hl
  obtain ⟨la, li, aL, iL, h9, ⟨ra, hla⟩, ⟨ri, hli⟩, has, his⟩ := id hs1
  have haL := has.1
  have hiL := his.1
  have ha10 := oL_10 hla
  have hi10 := oL_10 hli
  refine lv_aload_n hx hb dX12_articleCount_0 rfl (lv_at hl 0 rfl) ?_
  refine z_get (T := TX12) (N := 11) (ci := 15) (k := 7) (fs := [.ref (g 0), .ref (g 2), .ref (g 4), .ref (g 6), .ref (g 9), .ref (g 11), .ref (g 14), .ref sa, va_rf so, .int (iI er), .int (iI fa)]) (v := .ref sa) hC hZ in_X12 rfl (by decide) ql_X12_59 rfl h0 rfl dX12_articleCount_1 ?_
  refine z_getN (T := TX10) (N := 9) (ci := 13) (k := 0) (fs := [.ref la, .ref li, .int (iI (cNi c0)), .int (iI (cNn c0)), .int (iI (cWi c0)), .int (iI (cCo c0)), .int (iI (cHe c0)), .int (iI (cDa c0)), .int (iI (cLa c0))]) (v := .ref la) hC hZ in_X10 rfl (by decide) ql_X12_98 rfl h9 rfl dX12_articleCount_4 ?_
  obtain ⟨fsho_1, ho_1⟩ := (hla).o
  refine z_calli (z_runV (rest := []) (As := []) (n := 0) (ci := 4) hC hZ (met_Jx4a65c_size_8abf5 l D cs A F la ra aL hla) gv_X12_101 hd_Jx4a65c_size_8abf5 rfl ho_1 rfl hl rfl (Nat.le_of_ble_eq_true rfl) ⟨Nat.le_of_ble_eq_true rfl, Nat.le_of_ble_eq_true rfl⟩ ⟨Nat.le_of_ble_eq_true rfl, Nat.le_of_ble_eq_true rfl⟩ dX12_articleCount_7) hZ (fun r7 F7 H locs hp7_c_2 hZ => ?_)
  obtain ⟨rfl, rfl⟩ := hp7_c_2
  exact z_iret hC hr hlk hZ (by decide) (by decide) (⟨rfl, by first | rfl | omega⟩) dX12_articleCount_10

set_option maxHeartbeats 4000000 in
set_option maxRecDepth 100000 in
theorem met_X12_issueCount (l : Launch) (D : va_G) (cs : Nat → ClassId) (A : Nat → Prop) (F : zF) (ob : Nat) (g : Nat → Nat) (sa : Nat) (so : Option Nat) (er fa : Int) (c0 : zCo)  (h0 : F ob = some (.inr (15, [.ref (g 0), .ref (g 2), .ref (g 4), .ref (g 6), .ref (g 9), .ref (g 11), .ref (g 14), .ref sa, va_rf so, .int (iI er), .int (iI fa)]))) (hs1 : rSt cs F sa c0) : zM l D cs A yX12_issueCount cX12_issueCount 1 (some FieldType.int) 2 0 0 [.ref ob] F (pI (fun r F1 => F = F1 ∧ ((cIs c0).length : Int) = r)) := by
  refine zM_of (own := RX12) (by decide) rfl (Nat.le_of_ble_eq_true rfl) ?_
  intro p e s m below meth c hC hr hlk hnm hZ ls hl
  have hx := hC.x
  have hb := hC.b
  have hl : lv_has ls 1 [(0, .ref ob)] := hl
  obtain ⟨la, li, aL, iL, h9, ⟨ra, hla⟩, ⟨ri, hli⟩, has, his⟩ := id hs1
  have haL := has.1
  have hiL := his.1
  have ha10 := oL_10 hla
  have hi10 := oL_10 hli
  refine lv_aload_n hx hb dX12_issueCount_0 rfl (lv_at hl 0 rfl) ?_
  refine z_get (T := TX12) (N := 11) (ci := 15) (k := 7) (fs := [.ref (g 0), .ref (g 2), .ref (g 4), .ref (g 6), .ref (g 9), .ref (g 11), .ref (g 14), .ref sa, va_rf so, .int (iI er), .int (iI fa)]) (v := .ref sa) hC hZ in_X12 rfl (by decide) ql_X12_59 rfl h0 rfl dX12_issueCount_1 ?_
  refine z_getN (T := TX10) (N := 9) (ci := 13) (k := 1) (fs := [.ref la, .ref li, .int (iI (cNi c0)), .int (iI (cNn c0)), .int (iI (cWi c0)), .int (iI (cCo c0)), .int (iI (cHe c0)), .int (iI (cDa c0)), .int (iI (cLa c0))]) (v := .ref li) hC hZ in_X10 rfl (by decide) ql_X12_263 rfl h9 rfl dX12_issueCount_4 ?_
  obtain ⟨fsho_1, ho_1⟩ := (hli).o
  refine z_calli (z_runV (rest := []) (As := []) (n := 0) (ci := 4) hC hZ (met_Jx4a65c_size_8abf5 l D cs A F li ri iL hli) gv_X12_101 hd_Jx4a65c_size_8abf5 rfl ho_1 rfl hl rfl (Nat.le_of_ble_eq_true rfl) ⟨Nat.le_of_ble_eq_true rfl, Nat.le_of_ble_eq_true rfl⟩ ⟨Nat.le_of_ble_eq_true rfl, Nat.le_of_ble_eq_true rfl⟩ dX12_issueCount_7) hZ (fun r7 F7 H locs hp7_c_2 hZ => ?_)
  obtain ⟨rfl, rfl⟩ := hp7_c_2
  exact z_iret hC hr hlk hZ (by decide) (by decide) (⟨rfl, by first | rfl | omega⟩) dX12_issueCount_10

set_option maxHeartbeats 4000000 in
set_option maxRecDepth 100000 in
theorem met_X12_day (l : Launch) (D : va_G) (cs : Nat → ClassId) (A : Nat → Prop) (F : zF) (ob : Nat) (g : Nat → Nat) (sa : Nat) (so : Option Nat) (er fa : Int) (c0 : zCo)  (h0 : F ob = some (.inr (15, [.ref (g 0), .ref (g 2), .ref (g 4), .ref (g 6), .ref (g 9), .ref (g 11), .ref (g 14), .ref sa, va_rf so, .int (iI er), .int (iI fa)]))) (hs1 : rSt cs F sa c0) : zM l D cs A yX12_day cX12_day 1 (some FieldType.int) 1 0 0 [.ref ob] F (pI (fun r F1 => F = F1 ∧ cDa c0 = r)) := by
  refine zM_of (own := RX12) (by decide) rfl (Nat.le_of_ble_eq_true rfl) ?_
  intro p e s m below meth c hC hr hlk hnm hZ ls hl
  have hx := hC.x
  have hb := hC.b
  have hl : lv_has ls 1 [(0, .ref ob)] := hl
  obtain ⟨la, li, aL, iL, h9, ⟨ra, hla⟩, ⟨ri, hli⟩, has, his⟩ := id hs1
  have haL := has.1
  have hiL := his.1
  have ha10 := oL_10 hla
  have hi10 := oL_10 hli
  refine lv_aload_n hx hb dX12_day_0 rfl (lv_at hl 0 rfl) ?_
  refine z_get (T := TX12) (N := 11) (ci := 15) (k := 7) (fs := [.ref (g 0), .ref (g 2), .ref (g 4), .ref (g 6), .ref (g 9), .ref (g 11), .ref (g 14), .ref sa, va_rf so, .int (iI er), .int (iI fa)]) (v := .ref sa) hC hZ in_X12 rfl (by decide) ql_X12_59 rfl h0 rfl dX12_day_1 ?_
  refine z_getN (T := TX10) (N := 9) (ci := 13) (k := 7) (fs := [.ref la, .ref li, .int (iI (cNi c0)), .int (iI (cNn c0)), .int (iI (cWi c0)), .int (iI (cCo c0)), .int (iI (cHe c0)), .int (iI (cDa c0)), .int (iI (cLa c0))]) (v := .int (iI (cDa c0))) hC hZ in_X10 rfl (by decide) ql_X12_312 rfl h9 rfl dX12_day_4 ?_
  exact z_iret hC hr hlk hZ (by decide) (by decide) (⟨rfl, by first | rfl | omega⟩) dX12_day_7

set_option maxHeartbeats 4000000 in
set_option maxRecDepth 100000 in
theorem met_X12_width (l : Launch) (D : va_G) (cs : Nat → ClassId) (A : Nat → Prop) (F : zF) (ob : Nat) (g : Nat → Nat) (sa : Nat) (so : Option Nat) (er fa : Int) (c0 : zCo)  (h0 : F ob = some (.inr (15, [.ref (g 0), .ref (g 2), .ref (g 4), .ref (g 6), .ref (g 9), .ref (g 11), .ref (g 14), .ref sa, va_rf so, .int (iI er), .int (iI fa)]))) (hs1 : rSt cs F sa c0) : zM l D cs A yX12_width cX12_width 1 (some FieldType.int) 1 0 0 [.ref ob] F (pI (fun r F1 => F = F1 ∧ cWi c0 = r)) := by
  refine zM_of (own := RX12) (by decide) rfl (Nat.le_of_ble_eq_true rfl) ?_
  intro p e s m below meth c hC hr hlk hnm hZ ls hl
  have hx := hC.x
  have hb := hC.b
  have hl : lv_has ls 1 [(0, .ref ob)] := hl
  obtain ⟨la, li, aL, iL, h9, ⟨ra, hla⟩, ⟨ri, hli⟩, has, his⟩ := id hs1
  have haL := has.1
  have hiL := his.1
  have ha10 := oL_10 hla
  have hi10 := oL_10 hli
  refine lv_aload_n hx hb dX12_width_0 rfl (lv_at hl 0 rfl) ?_
  refine z_get (T := TX12) (N := 11) (ci := 15) (k := 7) (fs := [.ref (g 0), .ref (g 2), .ref (g 4), .ref (g 6), .ref (g 9), .ref (g 11), .ref (g 14), .ref sa, va_rf so, .int (iI er), .int (iI fa)]) (v := .ref sa) hC hZ in_X12 rfl (by decide) ql_X12_59 rfl h0 rfl dX12_width_1 ?_
  refine z_getN (T := TX10) (N := 9) (ci := 13) (k := 4) (fs := [.ref la, .ref li, .int (iI (cNi c0)), .int (iI (cNn c0)), .int (iI (cWi c0)), .int (iI (cCo c0)), .int (iI (cHe c0)), .int (iI (cDa c0)), .int (iI (cLa c0))]) (v := .int (iI (cWi c0))) hC hZ in_X10 rfl (by decide) ql_X12_205 rfl h9 rfl dX12_width_4 ?_
  exact z_iret hC hr hlk hZ (by decide) (by decide) (⟨rfl, by first | rfl | omega⟩) dX12_width_7

set_option maxHeartbeats 4000000 in
set_option maxRecDepth 100000 in
theorem met_X12_lateCorrections (l : Launch) (D : va_G) (cs : Nat → ClassId) (A : Nat → Prop) (F : zF) (ob : Nat) (g : Nat → Nat) (sa : Nat) (so : Option Nat) (er fa : Int) (c0 : zCo)  (h0 : F ob = some (.inr (15, [.ref (g 0), .ref (g 2), .ref (g 4), .ref (g 6), .ref (g 9), .ref (g 11), .ref (g 14), .ref sa, va_rf so, .int (iI er), .int (iI fa)]))) (hs1 : rSt cs F sa c0) : zM l D cs A yX12_lateCorrections cX12_lateCorrections 1 (some FieldType.int) 1 0 0 [.ref ob] F (pI (fun r F1 => F = F1 ∧ cLa c0 = r)) := by
  refine zM_of (own := RX12) (by decide) rfl (Nat.le_of_ble_eq_true rfl) ?_
  intro p e s m below meth c hC hr hlk hnm hZ ls hl
  have hx := hC.x
  have hb := hC.b
  have hl : lv_has ls 1 [(0, .ref ob)] := hl
  obtain ⟨la, li, aL, iL, h9, ⟨ra, hla⟩, ⟨ri, hli⟩, has, his⟩ := id hs1
  have haL := has.1
  have hiL := his.1
  have ha10 := oL_10 hla
  have hi10 := oL_10 hli
  refine lv_aload_n hx hb dX12_lateCorrections_0 rfl (lv_at hl 0 rfl) ?_
  refine z_get (T := TX12) (N := 11) (ci := 15) (k := 7) (fs := [.ref (g 0), .ref (g 2), .ref (g 4), .ref (g 6), .ref (g 9), .ref (g 11), .ref (g 14), .ref sa, va_rf so, .int (iI er), .int (iI fa)]) (v := .ref sa) hC hZ in_X12 rfl (by decide) ql_X12_59 rfl h0 rfl dX12_lateCorrections_1 ?_
  refine z_getN (T := TX10) (N := 9) (ci := 13) (k := 8) (fs := [.ref la, .ref li, .int (iI (cNi c0)), .int (iI (cNn c0)), .int (iI (cWi c0)), .int (iI (cCo c0)), .int (iI (cHe c0)), .int (iI (cDa c0)), .int (iI (cLa c0))]) (v := .int (iI (cLa c0))) hC hZ in_X10 rfl (by decide) ql_X12_197 rfl h9 rfl dX12_lateCorrections_4 ?_
  exact z_iret hC hr hlk hZ (by decide) (by decide) (⟨rfl, by first | rfl | omega⟩) dX12_lateCorrections_7

set_option maxHeartbeats 4000000 in
set_option maxRecDepth 100000 in
theorem met_X12_undoCount (l : Launch) (D : va_G) (cs : Nat → ClassId) (A : Nat → Prop) (F : zF) (ob : Nat) (g : Nat → Nat) (sa : Nat) (so : Option Nat) (er fa : Int) (c0 : zCo) (hL : List Nat)  (h0 : F ob = some (.inr (15, [.ref (g 0), .ref (g 2), .ref (g 4), .ref (g 6), .ref (g 9), .ref (g 11), .ref (g 14), .ref sa, va_rf so, .int (iI er), .int (iI fa)]))) (hs1 : rSt cs F sa c0) (hh : oLx cs F (g 14) (g 15) hL) : zM l D cs A yX12_undoCount cX12_undoCount 1 (some FieldType.int) 2 0 0 [.ref ob] F (pI (fun r F1 => F = F1 ∧ (hL.length : Int) = r)) := by
  refine zM_of (own := RX12) (by decide) rfl (Nat.le_of_ble_eq_true rfl) ?_
  intro p e s m below meth c hC hr hlk hnm hZ ls hl
  have hx := hC.x
  have hb := hC.b
  have hl : lv_has ls 1 [(0, .ref ob)] := hl
  have hh10 := oL_10 hh
  refine lv_aload_n hx hb dX12_undoCount_0 rfl (lv_at hl 0 rfl) ?_
  refine z_get (T := TX12) (N := 11) (ci := 15) (k := 6) (fs := [.ref (g 0), .ref (g 2), .ref (g 4), .ref (g 6), .ref (g 9), .ref (g 11), .ref (g 14), .ref sa, va_rf so, .int (iI er), .int (iI fa)]) (v := .ref (g 14)) hC hZ in_X12 rfl (by decide) ql_X12_52 rfl h0 rfl dX12_undoCount_1 ?_
  obtain ⟨fsho_1, ho_1⟩ := (hh).o
  refine z_calli (z_runV (rest := []) (As := []) (n := 0) (ci := 4) hC hZ (met_Jx4a65c_size_8abf5 l D cs A F (g 14) (g 15) hL hh) gv_X12_101 hd_Jx4a65c_size_8abf5 rfl ho_1 rfl hl rfl (Nat.le_of_ble_eq_true rfl) ⟨Nat.le_of_ble_eq_true rfl, Nat.le_of_ble_eq_true rfl⟩ ⟨Nat.le_of_ble_eq_true rfl, Nat.le_of_ble_eq_true rfl⟩ dX12_undoCount_4) hZ (fun r4 F4 H locs hp4_c_2 hZ => ?_)
  obtain ⟨rfl, rfl⟩ := hp4_c_2
  exact z_iret hC hr hlk hZ (by decide) (by decide) (⟨rfl, rfl⟩) dX12_undoCount_7

set_option maxHeartbeats 4000000 in
set_option maxRecDepth 100000 in
theorem met_X12_isKept (l : Launch) (D : va_G) (cs : Nat → ClassId) (A : Nat → Prop) (F : zF) (ob : Nat) (g : Nat → Nat) (sa : Nat) (so : Option Nat) (er fa : Int) (c0 : zCo) (x : Int)  (h0 : F ob = some (.inr (15, [.ref (g 0), .ref (g 2), .ref (g 4), .ref (g 6), .ref (g 9), .ref (g 11), .ref (g 14), .ref sa, va_rf so, .int (iI er), .int (iI fa)]))) (hs1 : rSt cs F sa c0) (hx0 : InR x) : zM l D cs A yX12_isKept cX12_isKept 2 (some FieldType.boolean) 5 0 0 [.ref ob, .int (iI x)] F (pI (fun r F1 => F = F1 ∧ ((zfi (cIs c0) x).isSome = true ∧ r = 1 ∨ (zfi (cIs c0) x).isSome = false ∧ r = 0))) := by
  refine zM_of (own := RX12) (by decide) rfl (Nat.le_of_ble_eq_true rfl) ?_
  intro p e s m below meth c hC hr hlk hnm hZ ls hl
  have hx := hC.x
  have hb := hC.b
  have hl : lv_has ls 2 [(0, .ref ob), (1, .int (iI x))] := hl
  refine lv_aload_n hx hb dX12_isKept_0 rfl (lv_at hl 0 rfl) ?_
  refine z_get (T := TX12) (N := 11) (ci := 15) (k := 7) (fs := [.ref (g 0), .ref (g 2), .ref (g 4), .ref (g 6), .ref (g 9), .ref (g 11), .ref (g 14), .ref sa, va_rf so, .int (iI er), .int (iI fa)]) (v := .ref sa) hC hZ in_X12 rfl (by decide) ql_X12_59 rfl h0 rfl dX12_isKept_1 ?_
  refine lv_iload_n hx hb dX12_isKept_4 rfl (lv_at hl 1 rfl) ?_
  obtain ⟨fsho_1, ho_1⟩ := (hs1).o
  refine z_callq (z_runV (rest := []) (As := [.int (iI x)]) (n := 1) (ci := 13) hC hZ (met_X10_findIssue l D cs A F sa c0 x hs1 (by omega)) gv_X12_266 hd_X10_findIssue rfl ho_1 rfl hl rfl (Nat.le_of_ble_eq_true rfl) ⟨Nat.le_of_ble_eq_true rfl, Nat.le_of_ble_eq_true rfl⟩ ⟨Nat.le_of_ble_eq_true rfl, Nat.le_of_ble_eq_true rfl⟩ dX12_isKept_5) hZ (fun r5 F5 H locs hp5_c_2 hZ => ?_)
  obtain ⟨rfl, hp5_c_2⟩ := hp5_c_2
  rcases hp5_c_2 with ⟨hz5, rfl⟩ | ⟨s5, q5, hz5, rfl, ho5⟩
  · skip
    refine lv_ifnullN (tgt := 15) hx hb dX12_isKept_8 (by decide) ?_
    refine z_iconst hx hb dX12_isKept_15 ?_
    exact z_zret hC hr hlk hZ rfl (by decide) (by decide) (⟨rfl, Or.inr ⟨by rw [hz5]; rfl, rfl⟩⟩) dX12_isKept_16
  · skip
    refine lv_ifnull hx hb dX12_isKept_8 ?_
    refine z_iconst hx hb dX12_isKept_11 ?_
    refine lv_goto (tgt := 16) hx hb dX12_isKept_12 (by decide) ?_
    exact z_zret hC hr hlk hZ rfl (by decide) (by decide) (⟨rfl, Or.inl ⟨by rw [hz5]; rfl, rfl⟩⟩) dX12_isKept_16

theorem oSB.ch {cs : Nat → ClassId} {F : zF} {a va cap : Nat} {t : List Int} (h : oSB cs F a va cap t) {k : Int} (h0 : 0 ≤ k) (h1 : k < t.length) : 0 ≤ t.getD k.toNat 0 ∧ t.getD k.toNat 0 ≤ 127 := by
  obtain ⟨ml, f, -, -, -, h2, h3⟩ := h
  rw [← h2 k h0 h1]
  exact h3 k
set_option maxHeartbeats 4000000 in
set_option maxRecDepth 100000 in
theorem met_X12_outputCharacter (l : Launch) (D : va_G) (cs : Nat → ClassId) (A : Nat → Prop) (F : zF) (ob : Nat) (g : Nat → Nat) (sa : Nat) (so : Option Nat) (er fa : Int) (c0 : zCo) (x : Int) (cap : Nat) (out : List Int) (hlt : l.stackTraces = false)  (h0 : F ob = some (.inr (15, [.ref (g 0), .ref (g 2), .ref (g 4), .ref (g 6), .ref (g 9), .ref (g 11), .ref (g 14), .ref sa, va_rf so, .int (iI er), .int (iI fa)]))) (hs1 : rSt cs F sa c0) (hx0 : InR x) (hso : oSB cs F (g 4) (g 5) cap out) : zXM l D cs A yX12_outputCharacter cX12_outputCharacter 2 (some FieldType.char) 6 1 6 [.ref ob, .int (iI x)] F (pI (fun r F1 => F = F1 ∧ (if 0 ≤ x ∧ x < (out.length : Int) then ((0 : Int), out.getD x.toNat 0) else (1, 0)).1 = 0 ∧ (if 0 ≤ x ∧ x < (out.length : Int) then ((0 : Int), out.getD x.toNat 0) else (1, 0)).2 = r)) (fun E F1 => F = F1 ∧ (((if 0 ≤ x ∧ x < (out.length : Int) then ((0 : Int), out.getD x.toNat 0) else (1, 0)).1 = 1 ∧ E = "java/lang/IndexOutOfBoundsException"))) := by
  refine zX_of (own := RX12) (by decide) rfl (Nat.le_of_ble_eq_true rfl) ?_
  intro p e s m below meth c hC hr hlk hT hZ ls hl
  have hx := hC.x
  have hb := hC.b
  have hl : lv_has ls 2 [(0, .ref ob), (1, .int (iI x))] := hl
  obtain ⟨fso, hsof⟩ := hso.o
  have hsoc := hso.c
  refine lv_iload_n hx hb dX12_outputCharacter_0 rfl (lv_at hl 1 rfl) ?_
  refine z_if_lt (tgt := 15) hx hb dX12_outputCharacter_1 (by decide) (by omega) (fun c_1 => ?_) (fun c_1 => ?_)
  · skip
    exact z_throwW (rest := []) hC hZ hlt hT hlk zth_e4 zth_g4 zth_o4 zth_k4 zth_i4 (by decide) (List.mem_of_getElem? (i := 14) rfl) hl (Nat.le_of_ble_eq_true rfl) (Nat.le_of_ble_eq_true rfl) (Nat.le_of_ble_eq_true rfl) (Nat.le_of_ble_eq_true rfl) (Nat.le_of_ble_eq_true rfl) (Nat.le_of_ble_eq_true rfl) (⟨rfl, by rw [if_neg (by omega)], rfl⟩) dX12_outputCharacter_15 dX12_outputCharacter_18 dX12_outputCharacter_19 dX12_outputCharacter_22 dX12_outputCharacter_25
  · skip
    refine lv_iload_n hx hb dX12_outputCharacter_4 rfl (lv_at hl 1 rfl) ?_
    refine lv_aload_n hx hb dX12_outputCharacter_5 rfl (lv_at hl 0 rfl) ?_
    refine z_get (T := TX12) (N := 11) (ci := 15) (k := 2) (fs := [.ref (g 0), .ref (g 2), .ref (g 4), .ref (g 6), .ref (g 9), .ref (g 11), .ref (g 14), .ref sa, va_rf so, .int (iI er), .int (iI fa)]) (v := .ref (g 4)) hC hZ in_X12 rfl (by decide) ql_X12_24 rfl h0 rfl dX12_outputCharacter_6 ?_
    refine z_calli (z_runV (rest := [.int (iI x)]) (As := []) (n := 0) (ci := 1) hC hZ (met_J4_length_8abf5 l D cs A F (g 4) (g 5) cap out hso) gv_X12_236 hd_J4_length_8abf5 rfl hsof rfl hl rfl (Nat.le_of_ble_eq_true rfl) ⟨Nat.le_of_ble_eq_true rfl, Nat.le_of_ble_eq_true rfl⟩ ⟨Nat.le_of_ble_eq_true rfl, Nat.le_of_ble_eq_true rfl⟩ dX12_outputCharacter_9) hZ (fun r9 F9 H locs hp9_c_2 hZ => ?_)
    obtain ⟨rfl, rfl⟩ := hp9_c_2
    refine z_icmp_lt (tgt := 26) hx hb dX12_outputCharacter_12 (by decide) (by omega) (by omega) (fun c_3 => ?_) (fun c_3 => ?_)
    · skip
      refine lv_aload_n hx hb dX12_outputCharacter_26 rfl (lv_at hl 0 rfl) ?_
      refine z_get (T := TX12) (N := 11) (ci := 15) (k := 2) (fs := [.ref (g 0), .ref (g 2), .ref (g 4), .ref (g 6), .ref (g 9), .ref (g 11), .ref (g 14), .ref sa, va_rf so, .int (iI er), .int (iI fa)]) (v := .ref (g 4)) hC hZ in_X12 rfl (by decide) ql_X12_24 rfl h0 rfl dX12_outputCharacter_27 ?_
      refine lv_iload_n hx hb dX12_outputCharacter_30 rfl (lv_at hl 1 rfl) ?_
      refine z_calli (z_runV (rest := []) (As := [.int (iI x)]) (n := 1) (ci := 1) hC hZ (met_J4_charAt_5068e l D cs A F (g 4) (g 5) cap out x hso (by omega)) gv_X12_342 hd_J4_charAt_5068e rfl hsof rfl hl rfl (Nat.le_of_ble_eq_true rfl) ⟨Nat.le_of_ble_eq_true rfl, Nat.le_of_ble_eq_true rfl⟩ ⟨Nat.le_of_ble_eq_true rfl, Nat.le_of_ble_eq_true rfl⟩ dX12_outputCharacter_31) hZ (fun r31 F31 H locs hp31_c_4 hZ => ?_)
      obtain ⟨rfl, rfl⟩ := hp31_c_4
      refine vx_ret ?_
      exact z_zret hC hr hlk hZ (iI_narC (by have := hso.ch (k := x) (by omega) (by omega); omega)).1 (by decide) (by decide) (⟨rfl, by rw [if_pos (by omega)], by rw [if_pos (by omega)]⟩) dX12_outputCharacter_34
    · skip
      exact z_throwW (rest := []) hC hZ hlt hT hlk zth_e4 zth_g4 zth_o4 zth_k4 zth_i4 (by decide) (List.mem_of_getElem? (i := 14) rfl) hl (Nat.le_of_ble_eq_true rfl) (Nat.le_of_ble_eq_true rfl) (Nat.le_of_ble_eq_true rfl) (Nat.le_of_ble_eq_true rfl) (Nat.le_of_ble_eq_true rfl) (Nat.le_of_ble_eq_true rfl) (⟨rfl, by rw [if_neg (by omega)], rfl⟩) dX12_outputCharacter_15 dX12_outputCharacter_18 dX12_outputCharacter_19 dX12_outputCharacter_22 dX12_outputCharacter_25

set_option maxHeartbeats 4000000 in
set_option maxRecDepth 100000 in
theorem met_X12_meanWordLength (l : Launch) (D : va_G) (cs : Nat → ClassId) (A : Nat → Prop) (F : zF) (ob : Nat) (g : Nat → Nat) (sa : Nat) (so : Option Nat) (er fa : Int) (c0 : zCo) (N : Nat) (hlt : l.stackTraces = false)  (h0 : F ob = some (.inr (15, [.ref (g 0), .ref (g 2), .ref (g 4), .ref (g 6), .ref (g 9), .ref (g 11), .ref (g 14), .ref sa, va_rf so, .int (iI er), .int (iI fa)]))) (hs1 : rSt cs F sa c0) (hK : cOK N c0) : zXM l D cs A yX12_meanWordLength cX12_meanWordLength 5 (some FieldType.double) 6 1 6 [.ref ob] F (pD (fun r F1 => F = F1 ∧ (sMW c0).1 = 0 ∧ (sMW c0).2 = r)) (fun E F1 => F = F1 ∧ (((sMW c0).1 = 1 ∧ E = "java/lang/ArithmeticException"))) := by
  refine zX_of (own := RX12) (by decide) rfl (Nat.le_of_ble_eq_true rfl) ?_
  intro p e s m below meth c hC hr hlk hT hZ ls hl
  have hx := hC.x
  have hb := hC.b
  have hl : lv_has ls 5 [(0, .ref ob)] := hl
  obtain ⟨la, li, aL, iL, h9, ⟨ra, hla⟩, ⟨ri, hli⟩, has, his⟩ := id hs1
  have haL := has.1
  have hiL := his.1
  have ha10 := oL_10 hla
  have hi10 := oL_10 hli
  have hk6 := hK.1
  have hk4 := hK.2.1
  refine z_iconst hx hb dX12_meanWordLength_0 ?_
  refine lv_istore_n (lv' := [(1, .int (iI 0)), (0, .ref ob)]) hx hb dX12_meanWordLength_1 rfl hl (by decide) rfl (fun ls hl => ?_)
  refine z_iconst hx hb dX12_meanWordLength_2 ?_
  refine lv_istore_n (lv' := [(2, .int (iI 0)), (1, .int (iI 0)), (0, .ref ob)]) hx hb dX12_meanWordLength_3 rfl hl (by decide) rfl (fun ls hl => ?_)
  refine z_iconst hx hb dX12_meanWordLength_4 ?_
  refine lv_istore_n (lv' := [(3, .int (iI 0)), (2, .int (iI 0)), (1, .int (iI 0)), (0, .ref ob)]) hx hb dX12_meanWordLength_5 rfl hl (by decide) rfl (fun ls hl => ?_)
  have L6_k_1 : ∀ (fu : Nat) (t q k : Int)  (hfu : (((cAr c0).length : Int) - k).toNat < fu) (hi6_0 : 0 ≤ k ∧ k ≤ (cAr c0).length) (hi6_1 : k ≤ q ∧ q ≤ 30 * k) (hi6_2 : 0 ≤ t ∧ t ≤ 360 * k) (hi6_3 : q = zwn ((cAr c0).take k.toNat)) (hi6_4 : t = zlt ((cAr c0).take k.toNat)) (H : Heap) (locs : List Loc) (hZ : zS D A s F H locs) (ls : Array Slot) (hl : lv_has ls 5 [(3, .int (iI k)), (2, .int (iI q)), (1, .int (iI t)), (0, .ref ob)]), W p l e (zR 6 1 6) s m [.ref ob].toArray below meth c H locs 0 0 (vx_MQ below (zQ D A (pD (fun r F1 => F = F1 ∧ (sMW c0).1 = 0 ∧ (sMW c0).2 = r))) (zXC D A (fun E F1 => F = F1 ∧ (((sMW c0).1 = 1 ∧ E = "java/lang/ArithmeticException")))) [.ref ob].toArray s 1 6 A) (F0 m 6 ls []) := by
    intro fu
    induction fu with
    | zero =>
      intro t q k  hfu
      exact absurd hfu (Nat.not_lt_zero _)
    | succ fu ih6 =>
      intro t q k  hfu hi6_0 hi6_1 hi6_2 hi6_3 hi6_4  H locs hZ ls hl
      refine lv_iload_n hx hb dX12_meanWordLength_6 rfl (lv_at hl 0 rfl) ?_
      refine lv_aload_n hx hb dX12_meanWordLength_7 rfl (lv_at hl 3 rfl) ?_
      refine z_get (T := TX12) (N := 11) (ci := 15) (k := 7) (fs := [.ref (g 0), .ref (g 2), .ref (g 4), .ref (g 6), .ref (g 9), .ref (g 11), .ref (g 14), .ref sa, va_rf so, .int (iI er), .int (iI fa)]) (v := .ref sa) hC hZ in_X12 rfl (by decide) ql_X12_59 rfl h0 rfl dX12_meanWordLength_8 ?_
      refine z_getN (T := TX10) (N := 9) (ci := 13) (k := 0) (fs := [.ref la, .ref li, .int (iI (cNi c0)), .int (iI (cNn c0)), .int (iI (cWi c0)), .int (iI (cCo c0)), .int (iI (cHe c0)), .int (iI (cDa c0)), .int (iI (cLa c0))]) (v := .ref la) hC hZ in_X10 rfl (by decide) ql_X12_98 rfl h9 rfl dX12_meanWordLength_11 ?_
      obtain ⟨fsho_2, ho_2⟩ := (hla).o
      refine z_calli (z_runV (rest := [.int (iI k)]) (As := []) (n := 0) (ci := 4) hC hZ (met_Jx4a65c_size_8abf5 l D cs A F la ra aL hla) gv_X12_101 hd_Jx4a65c_size_8abf5 rfl ho_2 rfl hl rfl (Nat.le_of_ble_eq_true rfl) ⟨Nat.le_of_ble_eq_true rfl, Nat.le_of_ble_eq_true rfl⟩ ⟨Nat.le_of_ble_eq_true rfl, Nat.le_of_ble_eq_true rfl⟩ dX12_meanWordLength_14) hZ (fun r14 F14 H locs hp14_c_3 hZ => ?_)
      obtain ⟨rfl, rfl⟩ := hp14_c_3
      refine z_icmp_ge (tgt := 59) hx hb dX12_meanWordLength_17 (by decide) (by omega) (by omega) (fun c_4 => ?_) (fun c_4 => ?_)
      · skip
        have hwz : q = zwn (cAr c0) := by rw [hi6_3, List.take_of_length_le (by omega)]
        have htz : t = zlt (cAr c0) := by rw [hi6_4, List.take_of_length_le (by omega)]
        refine lv_iload_n hx hb dX12_meanWordLength_59 rfl (lv_at hl 1 rfl) ?_
        refine z_if_ne (tgt := 74) hx hb dX12_meanWordLength_60 (by decide) (by omega) (fun c_5 => ?_) (fun c_5 => ?_)
        · skip
          have hda := i2d_ok (z := t) (by omega)
          have hdb := i2d_ok (z := q) (by omega)
          have hne : cAr c0 ≠ [] := fun z => by have e9 : (cAr c0).length = 0 := (by rw [z]; rfl); omega
          refine lv_iload_n hx hb dX12_meanWordLength_74 rfl (lv_at hl 2 rfl) ?_
          refine lv_i2d hx hb dX12_meanWordLength_75 ?_
          refine lv_iload_n hx hb dX12_meanWordLength_76 rfl (lv_at hl 1 rfl) ?_
          refine lv_i2d hx hb dX12_meanWordLength_77 ?_
          refine lv_ddiv hx hb dX12_meanWordLength_78 (vf_of64 (dQ_div hda.1 (hdb.2 (by omega)))) ?_
          refine vx_ret ?_
          exact z_dret hC hr hlk hZ (by decide) (by decide) (⟨rfl, by unfold sMW; rw [if_neg hne], by unfold sMW; rw [if_neg hne, ← htz, ← hwz]⟩) dX12_meanWordLength_79
        · skip
          have hem : cAr c0 = [] := List.eq_nil_of_length_eq_zero (by omega)
          exact z_throwW (rest := []) hC hZ hlt hT hlk zth_e5 zth_g5 zth_o5 zth_k5 zth_i5 (by decide) (List.mem_of_getElem? (i := 11) rfl) hl (Nat.le_of_ble_eq_true rfl) (Nat.le_of_ble_eq_true rfl) (Nat.le_of_ble_eq_true rfl) (Nat.le_of_ble_eq_true rfl) (Nat.le_of_ble_eq_true rfl) (Nat.le_of_ble_eq_true rfl) (⟨rfl, by unfold sMW; rw [if_pos hem], rfl⟩) dX12_meanWordLength_63 dX12_meanWordLength_66 dX12_meanWordLength_67 dX12_meanWordLength_70 dX12_meanWordLength_73
      · skip
        refine lv_aload_n hx hb dX12_meanWordLength_20 rfl (lv_at hl 3 rfl) ?_
        refine z_get (T := TX12) (N := 11) (ci := 15) (k := 7) (fs := [.ref (g 0), .ref (g 2), .ref (g 4), .ref (g 6), .ref (g 9), .ref (g 11), .ref (g 14), .ref sa, va_rf so, .int (iI er), .int (iI fa)]) (v := .ref sa) hC hZ in_X12 rfl (by decide) ql_X12_59 rfl h0 rfl dX12_meanWordLength_21 ?_
        refine z_getN (T := TX10) (N := 9) (ci := 13) (k := 0) (fs := [.ref la, .ref li, .int (iI (cNi c0)), .int (iI (cNn c0)), .int (iI (cWi c0)), .int (iI (cCo c0)), .int (iI (cHe c0)), .int (iI (cDa c0)), .int (iI (cLa c0))]) (v := .ref la) hC hZ in_X10 rfl (by decide) ql_X12_98 rfl h9 rfl dX12_meanWordLength_24 ?_
        refine lv_iload_n hx hb dX12_meanWordLength_27 rfl (lv_at hl 0 rfl) ?_
        obtain ⟨fsho_6, ho_6⟩ := (hla).o
        refine z_callr (z_runV (rest := []) (As := [.int (iI k)]) (n := 1) (ci := 4) hC hZ (met_Jx4a65c_get_915e3 l D cs A F la ra aL k hla (by omega)) gv_X12_166 hd_Jx4a65c_get_915e3 rfl ho_6 rfl hl rfl (Nat.le_of_ble_eq_true rfl) ⟨Nat.le_of_ble_eq_true rfl, Nat.le_of_ble_eq_true rfl⟩ ⟨Nat.le_of_ble_eq_true rfl, Nat.le_of_ble_eq_true rfl⟩ dX12_meanWordLength_28) hZ (fun r28 F28 H locs hp28_c_7 hZ => ?_)
        obtain ⟨rfl, rfl⟩ := hp28_c_7
        have hoak := has.2 k (by omega) (by omega)
        obtain ⟨wak, yok, ⟨fwk, ywk, -⟩, hyok⟩ := id hoak
        have hak := gDA (l := cAr c0) (k := k) (by omega) (by omega)
        have hk30 := hyok.2.2.1
        refine z_castS (ci := 5) (N := 3) (T := TX1) hC hZ qk_X12_170 yok rfl dX12_meanWordLength_31 ?_
        refine lv_astore (lv' := [(4, .ref (aL.getD k.toNat 0)), (3, .int (iI k)), (2, .int (iI q)), (1, .int (iI t)), (0, .ref ob)]) hx hb dX12_meanWordLength_34 hl (by decide) rfl (fun ls hl => ?_)
        refine lv_iload_n hx hb dX12_meanWordLength_36 rfl (lv_at hl 3 rfl) ?_
        refine lv_aload hx hb dX12_meanWordLength_37 (lv_at hl 0 rfl) ?_
        refine z_calli (z_runV (rest := [.int (iI t)]) (As := []) (n := 0) (ci := 5) hC hZ (met_X1_countLetters l D cs A F (aL.getD k.toNat 0) ((cAr c0).getD k.toNat (0, 0, [])) hoak) gv_X12_329 hd_X1_countLetters rfl yok rfl hl rfl (Nat.le_of_ble_eq_true rfl) ⟨Nat.le_of_ble_eq_true rfl, Nat.le_of_ble_eq_true rfl⟩ ⟨Nat.le_of_ble_eq_true rfl, Nat.le_of_ble_eq_true rfl⟩ dX12_meanWordLength_39) hZ (fun r39 F39 H locs hp39_c_8 hZ => ?_)
        obtain ⟨rfl, hp39_c_8⟩ := hp39_c_8
        have hcl39 := hp39_c_8
        refine z_iadd hx hb dX12_meanWordLength_42 ?_
        refine lv_istore_n (lv' := [(1, .int (iI (t + r39))), (4, .ref (aL.getD k.toNat 0)), (3, .int (iI k)), (2, .int (iI q)), (0, .ref ob)]) hx hb dX12_meanWordLength_43 rfl hl (by decide) rfl (fun ls hl => ?_)
        refine lv_iload_n hx hb dX12_meanWordLength_44 rfl (lv_at hl 3 rfl) ?_
        refine lv_aload hx hb dX12_meanWordLength_45 (lv_at hl 1 rfl) ?_
        refine z_getN (T := TX1) (N := 3) (ci := 5) (k := 2) (fs := [.int (iI (((cAr c0).getD k.toNat (0, 0, [])).1)), .int (iI (((cAr c0).getD k.toNat (0, 0, [])).2.1)), .ref wak]) (v := .ref wak) hC hZ in_X1 rfl (by decide) ql_X12_187 rfl yok rfl dX12_meanWordLength_47 ?_
        refine z_alen (t := 4) hC hZ ywk rfl dX12_meanWordLength_50 ?_
        refine z_iadd hx hb dX12_meanWordLength_51 ?_
        refine lv_istore_n (lv' := [(2, .int (iI (q + (((cAr c0).getD k.toNat (0, 0, [])).2.2.length : Int)))), (1, .int (iI (t + r39))), (4, .ref (aL.getD k.toNat 0)), (3, .int (iI k)), (0, .ref ob)]) hx hb dX12_meanWordLength_52 rfl hl (by decide) rfl (fun ls hl => ?_)
        refine z_iinc (lv' := [(3, .int (iI (k + 1))), (2, .int (iI (q + (((cAr c0).getD k.toNat (0, 0, [])).2.2.length : Int)))), (1, .int (iI (t + r39))), (4, .ref (aL.getD k.toNat 0)), (0, .ref ob)]) hx hb dX12_meanWordLength_53 hl (k := 3) rfl (by decide) rfl (fun ls hl => ?_)
        refine lv_goto (tgt := 6) hx hb dX12_meanWordLength_56 (by decide) ?_
        exact ih6 (t + r39) (q + (((cAr c0).getD k.toNat (0, 0, [])).2.2.length : Int)) (k + 1)  (by omega) (by omega) (by omega) (by omega) (by rw [show (k + 1).toNat = k.toNat + 1 by omega, zwn_s hak, ← hi6_3]) (by rw [show (k + 1).toNat = k.toNat + 1 by omega, zlt_s hak, ← hi6_4, hcl39.1])  _ _ hZ ls (lv_sub hl [0, 1, 2, 4] rfl)
  exact L6_k_1 _ 0 0 0  (Nat.lt_succ_self _) (by omega) (by omega) (by omega) rfl rfl  _ _ hZ ls (lv_sub hl [0, 1, 2, 3] rfl)

set_option maxHeartbeats 4000000 in
set_option maxRecDepth 100000 in
theorem met_X12_meanFreshness (l : Launch) (D : va_G) (cs : Nat → ClassId) (A : Nat → Prop) (F : zF) (ob : Nat) (g : Nat → Nat) (sa : Nat) (so : Option Nat) (er fa : Int) (c0 : zCo) (N : Nat) (hlt : l.stackTraces = false)  (h0 : F ob = some (.inr (15, [.ref (g 0), .ref (g 2), .ref (g 4), .ref (g 6), .ref (g 9), .ref (g 11), .ref (g 14), .ref sa, va_rf so, .int (iI er), .int (iI fa)]))) (hs1 : rSt cs F sa c0) (hK : cOK N c0) : zXM l D cs A yX12_meanFreshness cX12_meanFreshness 4 (some FieldType.float) 6 1 6 [.ref ob] F (pF (fun r F1 => F = F1 ∧ (sMF c0).1 = 0 ∧ (sMF c0).2 = r)) (fun E F1 => F = F1 ∧ (((sMF c0).1 = 1 ∧ E = "java/lang/ArithmeticException"))) := by
  refine zX_of (own := RX12) (by decide) rfl (Nat.le_of_ble_eq_true rfl) ?_
  intro p e s m below meth c hC hr hlk hT hZ ls hl
  have hx := hC.x
  have hb := hC.b
  have hl : lv_has ls 4 [(0, .ref ob)] := hl
  obtain ⟨la, li, aL, iL, h9, ⟨ra, hla⟩, ⟨ri, hli⟩, has, his⟩ := id hs1
  have haL := has.1
  have hiL := his.1
  have ha10 := oL_10 hla
  have hi10 := oL_10 hli
  have hk6 := hK.1
  have hk4 := hK.2.1
  refine lv_aload_n hx hb dX12_meanFreshness_0 rfl (lv_at hl 0 rfl) ?_
  refine z_get (T := TX12) (N := 11) (ci := 15) (k := 7) (fs := [.ref (g 0), .ref (g 2), .ref (g 4), .ref (g 6), .ref (g 9), .ref (g 11), .ref (g 14), .ref sa, va_rf so, .int (iI er), .int (iI fa)]) (v := .ref sa) hC hZ in_X12 rfl (by decide) ql_X12_59 rfl h0 rfl dX12_meanFreshness_1 ?_
  refine z_getN (T := TX10) (N := 9) (ci := 13) (k := 1) (fs := [.ref la, .ref li, .int (iI (cNi c0)), .int (iI (cNn c0)), .int (iI (cWi c0)), .int (iI (cCo c0)), .int (iI (cHe c0)), .int (iI (cDa c0)), .int (iI (cLa c0))]) (v := .ref li) hC hZ in_X10 rfl (by decide) ql_X12_263 rfl h9 rfl dX12_meanFreshness_4 ?_
  obtain ⟨fsho_1, ho_1⟩ := (hli).o
  refine z_calli (z_runV (rest := []) (As := []) (n := 0) (ci := 4) hC hZ (met_Jx4a65c_size_8abf5 l D cs A F li ri iL hli) gv_X12_101 hd_Jx4a65c_size_8abf5 rfl ho_1 rfl hl rfl (Nat.le_of_ble_eq_true rfl) ⟨Nat.le_of_ble_eq_true rfl, Nat.le_of_ble_eq_true rfl⟩ ⟨Nat.le_of_ble_eq_true rfl, Nat.le_of_ble_eq_true rfl⟩ dX12_meanFreshness_7) hZ (fun r7 F7 H locs hp7_c_2 hZ => ?_)
  obtain ⟨rfl, rfl⟩ := hp7_c_2
  refine z_top (y := ((cIs c0).length : Int)) (by omega) ?_
  refine lv_istore_n (lv' := [(1, .int (iI ((cIs c0).length : Int))), (0, .ref ob)]) hx hb dX12_meanFreshness_10 rfl hl (by decide) rfl (fun ls hl => ?_)
  refine lv_iload_n hx hb dX12_meanFreshness_11 rfl (lv_at hl 0 rfl) ?_
  refine z_if_ne (tgt := 26) hx hb dX12_meanFreshness_12 (by decide) (by omega) (fun c_3 => ?_) (fun c_3 => ?_)
  · skip
    have hne : cIs c0 ≠ [] := fun z => by have e9 : (cIs c0).length = 0 := (by rw [z]; rfl); omega
    have hfb := i2f_ok (z := ((cIs c0).length : Int)) (by omega)
    refine lv_fconst0 hx hb dX12_meanFreshness_26 ?_
    refine z_topf (y := zsf2 (cDa c0) ((cIs c0).take (0 : Int).toNat)) rfl ?_
    refine lv_fstore_n (lv' := [(2, .float (zsf2 (cDa c0) ((cIs c0).take (0 : Int).toNat))), (1, .int (iI ((cIs c0).length : Int))), (0, .ref ob)]) hx hb dX12_meanFreshness_27 rfl hl (by decide) rfl (fun ls hl => ?_)
    refine z_iconst hx hb dX12_meanFreshness_28 ?_
    refine lv_istore_n (lv' := [(3, .int (iI 0)), (2, .float (zsf2 (cDa c0) ((cIs c0).take (0 : Int).toNat))), (1, .int (iI ((cIs c0).length : Int))), (0, .ref ob)]) hx hb dX12_meanFreshness_29 rfl hl (by decide) rfl (fun ls hl => ?_)
    have L30_k_4 : ∀ (fu : Nat) (k : Int)  (hfu : (((cIs c0).length : Int) - k).toNat < fu) (hi30_0 : 0 ≤ k ∧ k ≤ (cIs c0).length) (hi30_1 : fP (zsf2 (cDa c0) ((cIs c0).take k.toNat))) (H : Heap) (locs : List Loc) (hZ : zS D A s F H locs) (ls : Array Slot) (hl : lv_has ls 4 [(3, .int (iI k)), (2, .float (zsf2 (cDa c0) ((cIs c0).take k.toNat))), (1, .int (iI ((cIs c0).length : Int))), (0, .ref ob)]), W p l e (zR 6 1 6) s m [.ref ob].toArray below meth c H locs 0 0 (vx_MQ below (zQ D A (pF (fun r F1 => F = F1 ∧ (sMF c0).1 = 0 ∧ (sMF c0).2 = r))) (zXC D A (fun E F1 => F = F1 ∧ (((sMF c0).1 = 1 ∧ E = "java/lang/ArithmeticException")))) [.ref ob].toArray s 1 6 A) (F0 m 30 ls []) := by
      intro fu
      induction fu with
      | zero =>
        intro k  hfu
        exact absurd hfu (Nat.not_lt_zero _)
      | succ fu ih30 =>
        intro k  hfu hi30_0 hi30_1  H locs hZ ls hl
        refine lv_iload_n hx hb dX12_meanFreshness_30 rfl (lv_at hl 0 rfl) ?_
        refine lv_iload_n hx hb dX12_meanFreshness_31 rfl (lv_at hl 2 rfl) ?_
        refine z_icmp_ge (tgt := 61) hx hb dX12_meanFreshness_32 (by decide) (by omega) (by omega) (fun c_5 => ?_) (fun c_5 => ?_)
        · skip
          have hall : (cIs c0).take k.toNat = cIs c0 := List.take_of_length_le (by omega)
          refine lv_fload_n hx hb dX12_meanFreshness_61 rfl (lv_at hl 1 rfl) ?_
          refine lv_iload_n hx hb dX12_meanFreshness_62 rfl (lv_at hl 2 rfl) ?_
          refine lv_i2f hx hb dX12_meanFreshness_63 ?_
          refine lv_fdiv hx hb dX12_meanFreshness_64 (vf_of (fP_div hi30_1 (hfb.2 (by omega)))) ?_
          refine vx_ret ?_
          exact z_fret hC hr hlk hZ (by decide) (by decide) (⟨rfl, by unfold sMF; rw [if_neg hne], by unfold sMF; rw [if_neg hne, hall]⟩) dX12_meanFreshness_65
        · skip
          refine lv_fload_n hx hb dX12_meanFreshness_35 rfl (lv_at hl 1 rfl) ?_
          refine lv_aload_n hx hb dX12_meanFreshness_36 rfl (lv_at hl 3 rfl) ?_
          refine z_get (T := TX12) (N := 11) (ci := 15) (k := 7) (fs := [.ref (g 0), .ref (g 2), .ref (g 4), .ref (g 6), .ref (g 9), .ref (g 11), .ref (g 14), .ref sa, va_rf so, .int (iI er), .int (iI fa)]) (v := .ref sa) hC hZ in_X12 rfl (by decide) ql_X12_59 rfl h0 rfl dX12_meanFreshness_37 ?_
          refine z_getN (T := TX10) (N := 9) (ci := 13) (k := 1) (fs := [.ref la, .ref li, .int (iI (cNi c0)), .int (iI (cNn c0)), .int (iI (cWi c0)), .int (iI (cCo c0)), .int (iI (cHe c0)), .int (iI (cDa c0)), .int (iI (cLa c0))]) (v := .ref li) hC hZ in_X10 rfl (by decide) ql_X12_263 rfl h9 rfl dX12_meanFreshness_40 ?_
          refine lv_iload_n hx hb dX12_meanFreshness_43 rfl (lv_at hl 0 rfl) ?_
          obtain ⟨fsho_6, ho_6⟩ := (hli).o
          refine z_callr (z_runV (rest := [.float (zsf2 (cDa c0) ((cIs c0).take k.toNat))]) (As := [.int (iI k)]) (n := 1) (ci := 4) hC hZ (met_Jx4a65c_get_915e3 l D cs A F li ri iL k hli (by omega)) gv_X12_166 hd_Jx4a65c_get_915e3 rfl ho_6 rfl hl rfl (Nat.le_of_ble_eq_true rfl) ⟨Nat.le_of_ble_eq_true rfl, Nat.le_of_ble_eq_true rfl⟩ ⟨Nat.le_of_ble_eq_true rfl, Nat.le_of_ble_eq_true rfl⟩ dX12_meanFreshness_44) hZ (fun r44 F44 H locs hp44_c_7 hZ => ?_)
          obtain ⟨rfl, rfl⟩ := hp44_c_7
          have hoik := his.2 k (by omega) (by omega)
          obtain ⟨pak, iok, -⟩ := id hoik
          have hak := gDI (l := cIs c0) (k := k) (by omega) (by omega)
          have hfa := fP_add hi30_1 (zfr_P (cDa c0 - iPr ((cIs c0).getD k.toNat (0, 0, 0, 0, [], 0))).toNat)
          have hnx : FP.fadd (zsf2 (cDa c0) ((cIs c0).take k.toNat)) (zfr (cDa c0 - iPr ((cIs c0).getD k.toNat (0, 0, 0, 0, [], 0))).toNat) = zsf2 (cDa c0) ((cIs c0).take (k + 1).toNat) := by
            rw [show (k + 1).toNat = k.toNat + 1 by omega, zsf2_s hak]
          have hfs := hfa
          rw [hnx] at hfs
          refine z_castS (ci := 10) (N := 3) (T := TX6) hC hZ qk_X12_274 iok rfl dX12_meanFreshness_47 ?_
          refine z_getN (T := TX6) (N := 3) (ci := 10) (k := 2) (fs := [.int (iI (iNo ((cIs c0).getD k.toNat (0, 0, 0, 0, [], 0)))), .ref pak, .float (zfr (cDa c0 - iPr ((cIs c0).getD k.toNat (0, 0, 0, 0, [], 0))).toNat)]) (v := .float (zfr (cDa c0 - iPr ((cIs c0).getD k.toNat (0, 0, 0, 0, [], 0))).toNat)) hC hZ in_X6 rfl (by decide) ql_X12_315 rfl iok rfl dX12_meanFreshness_50 ?_
          refine lv_fadd hx hb dX12_meanFreshness_53 (vf_of hfa) ?_
          refine z_topf (y := zsf2 (cDa c0) ((cIs c0).take (k + 1).toNat)) hnx ?_
          refine lv_fstore_n (lv' := [(2, .float (zsf2 (cDa c0) ((cIs c0).take (k + 1).toNat))), (3, .int (iI k)), (1, .int (iI ((cIs c0).length : Int))), (0, .ref ob)]) hx hb dX12_meanFreshness_54 rfl hl (by decide) rfl (fun ls hl => ?_)
          refine z_iinc (lv' := [(3, .int (iI (k + 1))), (2, .float (zsf2 (cDa c0) ((cIs c0).take (k + 1).toNat))), (1, .int (iI ((cIs c0).length : Int))), (0, .ref ob)]) hx hb dX12_meanFreshness_55 hl (k := 1) rfl (by decide) rfl (fun ls hl => ?_)
          refine lv_goto (tgt := 30) hx hb dX12_meanFreshness_58 (by decide) ?_
          exact ih30 (k + 1)  (by omega) (by omega) hfs  _ _ hZ ls (lv_sub hl [0, 1, 2, 3] rfl)
    exact L30_k_4 _ 0  (Nat.lt_succ_self _) (by omega) (by show (FP.fconst0).toNat ≤ 2139095040; decide)  _ _ hZ ls (lv_sub hl [0, 1, 2, 3] rfl)
  · skip
    have hem : cIs c0 = [] := List.eq_nil_of_length_eq_zero (by omega)
    exact z_throwW (rest := []) hC hZ hlt hT hlk zth_e5 zth_g5 zth_o5 zth_k5 zth_i5 (by decide) (List.mem_of_getElem? (i := 13) rfl) hl (Nat.le_of_ble_eq_true rfl) (Nat.le_of_ble_eq_true rfl) (Nat.le_of_ble_eq_true rfl) (Nat.le_of_ble_eq_true rfl) (Nat.le_of_ble_eq_true rfl) (Nat.le_of_ble_eq_true rfl) (⟨rfl, by unfold sMF; rw [if_pos hem], rfl⟩) dX12_meanFreshness_15 dX12_meanFreshness_18 dX12_meanFreshness_19 dX12_meanFreshness_22 dX12_meanFreshness_25

set_option maxHeartbeats 4000000 in
set_option maxRecDepth 100000 in
theorem met_X12_bitsOf (l : Launch) (D : va_G) (cs : Nat → ClassId) (A : Nat → Prop) (F : zF) (n : Nat)   : zM l D cs A yX12_bitsOf cX12_bitsOf 3 (some FieldType.int) 1 0 0 [.float (zfr n)] F (pI (fun r F1 => F = F1 ∧ (zfr n).toInt32.toInt = r)) := by
  refine zM_of (own := RX12) (by decide) rfl (Nat.le_of_ble_eq_true rfl) ?_
  intro p e s m below meth c hC hr hlk hnm hZ ls hl
  have hx := hC.x
  have hb := hC.b
  have hl : lv_has ls 3 [(0, .float (zfr n))] := hl
  refine z_iconst hx hb dX12_bitsOf_0 ?_
  refine lv_istore_n (lv' := [(1, .int (iI 0)), (0, .float (zfr n))]) hx hb dX12_bitsOf_1 rfl hl (by decide) rfl (fun ls hl => ?_)
  refine lv_fload_n hx hb dX12_bitsOf_2 rfl (lv_at hl 1 rfl) ?_
  refine lv_fstore_n (lv' := [(2, .float (zfr n)), (1, .int (iI 0)), (0, .float (zfr n))]) hx hb dX12_bitsOf_3 rfl hl (by decide) rfl (fun ls hl => ?_)
  have L4_k_1 : ∀ (fu : Nat) (k : Int) (y : UInt32) (hfu : (126 - k).toNat < fu) (hi4_0 : 0 ≤ k ∧ k ≤ 126) (hi4_1 : blc (126 - k.toNat) k.toNat y (zfr n) = true) (H : Heap) (locs : List Loc) (hZ : zS D A s F H locs) (ls : Array Slot) (hl : lv_has ls 3 [(2, .float y), (1, .int (iI k)), (0, .float (zfr n))]), W p l e (zR 1 0 0) s m [.float (zfr n)].toArray below meth c H locs 0 0 (MQ below (zQ D A (pI (fun r F1 => F = F1 ∧ (zfr n).toInt32.toInt = r))) [.float (zfr n)].toArray s 0 0 A) (F0 m 4 ls []) := by
    intro fu
    induction fu with
    | zero =>
      intro k y hfu
      exact absurd hfu (Nat.not_lt_zero _)
    | succ fu ih4 =>
      intro k y hfu hi4_0 hi4_1  H locs hZ ls hl
      refine lv_iload_n hx hb dX12_bitsOf_4 rfl (lv_at hl 1 rfl) ?_
      refine z_bipush hx hb dX12_bitsOf_5 (by decide) ?_
      refine z_icmp_ge (tgt := 26) hx hb dX12_bitsOf_7 (by decide) (by omega) (by decide) (fun c_2 => ?_) (fun c_2 => ?_)
      · skip
        have hend := blc_end hi4_1 (Or.inl (by omega))
        refine lv_fload_n hx hb dX12_bitsOf_26 rfl (lv_at hl 0 rfl) ?_
        refine lv_fconst1 hx hb dX12_bitsOf_27 ?_
        refine lv_fcmp hx hb dX12_bitsOf_28 ?_
        refine z_topi (y := (Op.cmpValue (FP.fcmp y FP.fconst1) .g).toInt) (iI_of _) ?_
        have hrr28 := iI_rng (Op.cmpValue (FP.fcmp y FP.fconst1) .g)
        refine z_if_ge (tgt := 39) hx hb dX12_bitsOf_29 (by decide) hrr28 (fun c_3 => ?_) (fun c_3 => ?_)
        · skip
          have hyn := bfin_n hend (by omega)
          refine z_bipush hx hb dX12_bitsOf_39 (by decide) ?_
          refine lv_iload_n hx hb dX12_bitsOf_41 rfl (lv_at hl 1 rfl) ?_
          refine z_isub hx hb dX12_bitsOf_42 ?_
          refine z_bipush hx hb dX12_bitsOf_43 (by decide) ?_
          refine lv_ishl hx hb dX12_bitsOf_45 ?_
          refine lv_fload_n hx hb dX12_bitsOf_46 rfl (lv_at hl 0 rfl) ?_
          refine lv_fconst1 hx hb dX12_bitsOf_47 ?_
          refine lv_fsub hx hb dX12_bitsOf_48 (vf_of hyn.1) ?_
          refine z_ldcfw (v := 1258291200) hC q_1421 dX12_bitsOf_49 ?_
          refine lv_fmul hx hb dX12_bitsOf_52 (vf_of hyn.2.1) ?_
          refine lv_f2i hx hb dX12_bitsOf_53 ?_
          refine lv_ior hx hb dX12_bitsOf_54 ?_
          refine z_topi (y := (zfr n).toInt32.toInt) (by have e9 := hyn.2.2; rw [show ((k.toNat : Nat) : Int) = k by omega] at e9; rw [e9]; exact iI_of _) ?_
          exact z_iret hC hr hlk hZ (by decide) (by decide) (⟨rfl, rfl⟩) dX12_bitsOf_55
        · skip
          have hy := bfin_y hend (by omega)
          refine lv_fload_n hx hb dX12_bitsOf_32 rfl (lv_at hl 0 rfl) ?_
          refine z_ldcfw (v := 1258291200) hC q_1421 dX12_bitsOf_33 ?_
          refine lv_fmul hx hb dX12_bitsOf_36 (vf_of hy.1) ?_
          refine lv_f2i hx hb dX12_bitsOf_37 ?_
          refine z_topi (y := (zfr n).toInt32.toInt) (by rw [hy.2]; exact iI_of _) ?_
          exact z_iret hC hr hlk hZ (by decide) (by decide) (⟨rfl, rfl⟩) dX12_bitsOf_38
      · skip
        refine lv_fload_n hx hb dX12_bitsOf_10 rfl (lv_at hl 0 rfl) ?_
        refine lv_fconst1 hx hb dX12_bitsOf_11 ?_
        refine lv_fcmp hx hb dX12_bitsOf_12 ?_
        refine z_topi (y := (Op.cmpValue (FP.fcmp y FP.fconst1) .g).toInt) (iI_of _) ?_
        have hrr12 := iI_rng (Op.cmpValue (FP.fcmp y FP.fconst1) .g)
        refine z_if_ge (tgt := 26) hx hb dX12_bitsOf_13 (by decide) hrr12 (fun c_4 => ?_) (fun c_4 => ?_)
        · skip
          have hend := blc_end hi4_1 (Or.inr (by omega))
          refine lv_fload_n hx hb dX12_bitsOf_26 rfl (lv_at hl 0 rfl) ?_
          refine lv_fconst1 hx hb dX12_bitsOf_27 ?_
          refine lv_fcmp hx hb dX12_bitsOf_28 ?_
          refine z_topi (y := (Op.cmpValue (FP.fcmp y FP.fconst1) .g).toInt) (iI_of _) ?_
          have hrr28 := iI_rng (Op.cmpValue (FP.fcmp y FP.fconst1) .g)
          refine z_if_ge (tgt := 39) hx hb dX12_bitsOf_29 (by decide) hrr28 (fun c_5 => ?_) (fun c_5 => ?_)
          · skip
            have hyn := bfin_n hend (by omega)
            refine z_bipush hx hb dX12_bitsOf_39 (by decide) ?_
            refine lv_iload_n hx hb dX12_bitsOf_41 rfl (lv_at hl 1 rfl) ?_
            refine z_isub hx hb dX12_bitsOf_42 ?_
            refine z_bipush hx hb dX12_bitsOf_43 (by decide) ?_
            refine lv_ishl hx hb dX12_bitsOf_45 ?_
            refine lv_fload_n hx hb dX12_bitsOf_46 rfl (lv_at hl 0 rfl) ?_
            refine lv_fconst1 hx hb dX12_bitsOf_47 ?_
            refine lv_fsub hx hb dX12_bitsOf_48 (vf_of hyn.1) ?_
            refine z_ldcfw (v := 1258291200) hC q_1421 dX12_bitsOf_49 ?_
            refine lv_fmul hx hb dX12_bitsOf_52 (vf_of hyn.2.1) ?_
            refine lv_f2i hx hb dX12_bitsOf_53 ?_
            refine lv_ior hx hb dX12_bitsOf_54 ?_
            refine z_topi (y := (zfr n).toInt32.toInt) (by have e9 := hyn.2.2; rw [show ((k.toNat : Nat) : Int) = k by omega] at e9; rw [e9]; exact iI_of _) ?_
            exact z_iret hC hr hlk hZ (by decide) (by decide) (⟨rfl, rfl⟩) dX12_bitsOf_55
          · skip
            exfalso; omega
        · skip
          have hgo : fP (FP.fmul y FP.fconst2) ∧ blc (125 - k.toNat) (k.toNat + 1) (FP.fmul y FP.fconst2) (zfr n) = true := blc_go (by rw [show 125 - k.toNat + 1 = 126 - k.toNat by omega]; exact hi4_1) (by omega)
          refine lv_fload_n hx hb dX12_bitsOf_16 rfl (lv_at hl 0 rfl) ?_
          refine lv_fconst2 hx hb dX12_bitsOf_17 ?_
          refine lv_fmul hx hb dX12_bitsOf_18 (vf_of hgo.1) ?_
          refine lv_fstore_n (lv' := [(2, .float (FP.fmul y FP.fconst2)), (1, .int (iI k)), (0, .float (zfr n))]) hx hb dX12_bitsOf_19 rfl hl (by decide) rfl (fun ls hl => ?_)
          refine z_iinc (lv' := [(1, .int (iI (k + 1))), (2, .float (FP.fmul y FP.fconst2)), (0, .float (zfr n))]) hx hb dX12_bitsOf_20 hl (k := 1) rfl (by decide) rfl (fun ls hl => ?_)
          refine lv_goto (tgt := 4) hx hb dX12_bitsOf_23 (by decide) ?_
          exact ih4 (k + 1) (FP.fmul y FP.fconst2) (by omega) (by omega) (by rw [show (k + 1).toNat = k.toNat + 1 by omega, show 126 - (k.toNat + 1) = 125 - k.toNat by omega]; exact hgo.2)  _ _ hZ ls (lv_sub hl [1, 0, 2] rfl)
  exact L4_k_1 _ (0 : Int) (zfr n) (Nat.lt_succ_self _) (by omega) (bits_all n)  _ _ hZ ls (lv_sub hl [0, 1, 2] rfl)

set_option maxHeartbeats 4000000 in
set_option maxRecDepth 100000 in
theorem met_X12_freshnessBits (l : Launch) (D : va_G) (cs : Nat → ClassId) (A : Nat → Prop) (F : zF) (ob : Nat) (g : Nat → Nat) (sa : Nat) (so : Option Nat) (er fa : Int) (c0 : zCo) (x : Int) (hlt : l.stackTraces = false)  (h0 : F ob = some (.inr (15, [.ref (g 0), .ref (g 2), .ref (g 4), .ref (g 6), .ref (g 9), .ref (g 11), .ref (g 14), .ref sa, va_rf so, .int (iI er), .int (iI fa)]))) (hs1 : rSt cs F sa c0) (hx0 : InR x) : zXM l D cs A yX12_freshnessBits cX12_freshnessBits 2 (some FieldType.int) 7 1 6 [.ref ob, .int (iI x)] F (pI (fun r F1 => F = F1 ∧ (sFB c0 x).1 = 0 ∧ (sFB c0 x).2 = r)) (fun E F1 => F = F1 ∧ (((sFB c0 x).1 = 1 ∧ E = "java/util/NoSuchElementException"))) := by
  refine zX_of (own := RX12) (by decide) rfl (Nat.le_of_ble_eq_true rfl) ?_
  intro p e s m below meth c hC hr hlk hT hZ ls hl
  have hx := hC.x
  have hb := hC.b
  have hl : lv_has ls 2 [(0, .ref ob), (1, .int (iI x))] := hl
  refine lv_aload_n hx hb dX12_freshnessBits_0 rfl (lv_at hl 0 rfl) ?_
  refine lv_iload_n hx hb dX12_freshnessBits_1 rfl (lv_at hl 1 rfl) ?_
  refine z_xcallr (z_xrunV (rest := []) (As := [.int (iI x)]) (n := 1) (ci := 15) hC hZ (met_X12_knownIssue l D cs A F ob g sa so er fa c0 x hlt h0 hs1 (by omega)) gv_X12_270 hd_X12_knownIssue rfl h0 rfl hl rfl (Nat.le_of_ble_eq_true rfl) ⟨Nat.le_of_ble_eq_true rfl, Nat.le_of_ble_eq_true rfl⟩ ⟨Nat.le_of_ble_eq_true rfl, Nat.le_of_ble_eq_true rfl⟩ dX12_freshnessBits_2) hZ hT hlk (Nat.le_of_ble_eq_true rfl) (Nat.le_of_ble_eq_true rfl) (fun E F1 q => ⟨q.1, by unfold sFB; rw [q.2.1], q.2.2⟩) (fun r2 F2 H locs hp2_c_1 hZ => ?_)
  obtain ⟨rfl, s2, hz2, ho2⟩ := hp2_c_1
  obtain ⟨pa2, io2, ip2⟩ := id ho2
  obtain ⟨pi2, pl2, pf2, pg2, po2, pe2, ph2, pj2, ik2⟩ := id ip2
  have ik12 := ik2.1
  have ik22 := ik2.2.1
  have ik32 := ik2.2.2.1
  have ik42 := ik2.2.2.2.1
  have ik52 := ik2.2.2.2.2.1
  have hpg2 := isOK_pg ik2
  refine z_getN (T := TX6) (N := 3) (ci := 10) (k := 2) (fs := [.int (iI (iNo s2)), .ref pa2, .float (zfr (cDa c0 - iPr s2).toNat)]) (v := .float (zfr (cDa c0 - iPr s2).toNat)) hC hZ in_X6 rfl (by decide) ql_X12_315 rfl io2 rfl dX12_freshnessBits_5 ?_
  refine z_calli (z_runS (rest := []) (As := [.float (zfr (cDa c0 - iPr s2).toNat)]) (n := 1) hC hZ (met_X12_bitsOf l D cs A F (cDa c0 - iPr s2).toNat) gs_X12_319 he_X12_bitsOf rfl hl rfl (Nat.le_of_ble_eq_true rfl) ⟨Nat.le_of_ble_eq_true rfl, Nat.le_of_ble_eq_true rfl⟩ ⟨Nat.le_of_ble_eq_true rfl, Nat.le_of_ble_eq_true rfl⟩ dX12_freshnessBits_8) hZ (fun r8 F8 H locs hp8_c_2 hZ => ?_)
  obtain ⟨rfl, rfl⟩ := hp8_c_2
  refine vx_ret ?_
  exact z_iret hC hr hlk hZ (by decide) (by decide) (⟨rfl, by unfold sFB; rw [hz2], by unfold sFB; rw [hz2]⟩) dX12_freshnessBits_11
