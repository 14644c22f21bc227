theorem grw_c {cap n : Nat} (hn : n ≤ 20) (hc : 16 ≤ cap) : mcS cap n ≤ 1 ∧ msS cap n ≤ 40 := by
  unfold mcS msS
  split
  · omega
  · omega
set_option maxHeartbeats 4000000 in
set_option maxRecDepth 100000 in
theorem met_X12_writeLine (l : Launch) (D : va_G) (cs : Nat → ClassId) (A : Nat → Prop) (F : zF) (ob : Nat) (g : Nat → Nat) (sa : Nat) (so : Option Nat) (hL : List Nat) (tx inp out : List Int) (c0 : zCo) (sv : Option zCo) (hs : List zCo) (er fa : Int) (x z : Int) (hlt : l.stackTraces = false)  (hg : gOb cs F ob g sa so hL tx inp out c0 sv hs er fa) (hx0 : InR x) (hz0 : InR z) (hwi : 4 ≤ cWi c0 ∧ cWi c0 ≤ 20) : zXM l D cs A yX12_writeLine cX12_writeLine 3 (some FieldType.int) 24 4 58 [.ref ob, .int (iI x), .int (iI z)] F (pI (fun r F1 => (zlq c0 x z).1 = 0 ∧ ((zlq c0 x z).2.length : Int) = r ∧ ∃ g1 : Nat → Nat, gOb cs F1 ob g1 sa so hL tx inp (zlq c0 x z).2 c0 sv hs er fa)) (fun E F1 => gOb cs F1 ob g sa so hL tx inp out c0 sv hs er fa ∧ (((zlq c0 x z).1 = 1 ∧ E = "java/util/NoSuchElementException") ∨ ((zlq c0 x z).1 = 2 ∧ E = "java/lang/UnsupportedOperationException") ∨ ((zlq c0 x z).1 = 3 ∧ E = "java/lang/IndexOutOfBoundsException"))) := by
  refine zX_of (own := RX12) (by decide) rfl (Nat.le_of_ble_eq_true rfl) ?_
  intro p e s m below meth c hC hr hlk hT hZ ls hl
  have hx := hC.x
  have hb := hC.b
  have hl : lv_has ls 3 [(0, .ref ob), (1, .int (iI x)), (2, .int (iI z))] := hl
  have h0 : F ob = some (.inr (15, [.ref (g 0), .ref (g 2), .ref (g 4), .ref (g 6), .ref (g 9), .ref (g 11), .ref (g 14), .ref sa, va_rf so, .int (iI er), .int (iI fa)])) := hg.1
  have hs1 := hg.st
  have h8 := z_c8 hC hZ
  obtain ⟨-, hDis, hTx, hI, ⟨cap, hO⟩, ⟨wd0, st0, hLs⟩, ⟨hE1, e0, hE2⟩, ⟨pos0, L0, hR1, hR2⟩, hH, hSt⟩ := id hg
  refine lv_aload_n hx hb dX12_writeLine_0 rfl (lv_at hl 0 rfl) ?_
  refine lv_iload_n hx hb dX12_writeLine_1 rfl (lv_at hl 1 rfl) ?_
  refine lv_iload_n hx hb dX12_writeLine_2 rfl (lv_at hl 2 rfl) ?_
  refine z_xcallv (z_xrunV (rest := []) (As := [.int (iI x), .int (iI z)]) (n := 2) (ci := 15) hC hZ (met_X12_arrangeKnownLine l D cs A F ob g sa so hL tx inp out c0 sv hs er fa x z hlt hg hx0 hz0 hwi) gv_X12_218 hd_X12_arrangeKnownLine rfl h0 rfl hl rfl (Nat.le_of_ble_eq_true rfl) ⟨Nat.le_of_ble_eq_true rfl, Nat.le_of_ble_eq_true rfl⟩ ⟨Nat.le_of_ble_eq_true rfl, Nat.le_of_ble_eq_true rfl⟩ dX12_writeLine_3) hZ hT hlk (Nat.le_of_ble_eq_true rfl) (Nat.le_of_ble_eq_true rfl) (fun E F1 q => ⟨q.1, q.2.elim (fun y => Or.inl ⟨by rw [y.1], y.2⟩) (fun y => y.elim (fun y => Or.inr (Or.inl ⟨by rw [y.1], y.2⟩)) (fun y => Or.inr (Or.inr ⟨by rw [y.1], y.2⟩)))⟩) (fun F3 H locs hp3_c_1 hZ => ?_)
  obtain ⟨hg3, ls3, hn3, hq3, hz3, hw3⟩ := hp3_c_1
  have h03 : F3 ob = some (.inr (15, [.ref (g 0), .ref (g 2), .ref (g 4), .ref (g 6), .ref (g 9), .ref (g 11), .ref (g 14), .ref sa, va_rf so, .int (iI er), .int (iI fa)])) := hg3.1
  have hs13 := hg3.st
  have h83 := z_c8 hC hZ
  obtain ⟨fL3, eL3, oL3, -⟩ := id hq3
  obtain ⟨n9, rfl⟩ : ∃ n : Nat, z = n := ⟨z.toNat, by omega⟩
  have hz3 : zlq c0 x (n9 : Int) = (0, ls3.getD n9 []) := hz3
  have hn9 : n9 < ls3.length := by omega
  have hl9 : (ls3.getD n9 []).length ≤ 20 := by
    have h9 := hw3 (ls3.getD n9 []) (by rw [List.getD_eq_getElem?_getD, List.getElem?_eq_getElem hn9]; exact List.getElem_mem hn9)
    omega
  refine lv_aload_n hx hb dX12_writeLine_6 rfl (lv_at hl 0 rfl) ?_
  refine z_get (T := TX12) (N := 11) (ci := 15) (k := 2) (fs := [.ref (g 0), .ref (g 2), .ref (g 4), .ref (g 6), .ref (g 9), .ref (g 11), .ref (g 14), .ref sa, va_rf so, .int (iI er), .int (iI fa)]) (v := .ref (g 4)) hC hZ in_X12 rfl (by decide) ql_X12_24 rfl h03 rfl dX12_writeLine_7 ?_
  refine z_iconst hx hb dX12_writeLine_10 ?_
  obtain ⟨cap3, hO3⟩ := hg3.2.2.2.2.1
  obtain ⟨fso3, oso3⟩ := hO3.o
  refine z_callv (z_runV (rest := []) (As := [.int (iI 0)]) (n := 1) (ci := 1) hC hZ (met_J4_setLength_d00df l D cs A F3 (g 4) (g 5) cap3 out hO3) gv_X12_229 hd_J4_setLength_d00df rfl oso3 rfl hl rfl (Nat.le_of_ble_eq_true rfl) ⟨Nat.le_of_ble_eq_true rfl, Nat.le_of_ble_eq_true rfl⟩ ⟨Nat.le_of_ble_eq_true rfl, Nat.le_of_ble_eq_true rfl⟩ dX12_writeLine_11) hZ (fun F11 H locs hp11_c_2 hZ => ?_)
  obtain ⟨va11, hva11, hk11, hsb11⟩ := hp11_c_2
  have hg11 := hg3.sO h83 hva11 hk11 hsb11
  have h011 : F11 ob = some (.inr (15, [.ref (g 0), .ref (g 2), .ref (g 4), .ref (g 6), .ref (g 9), .ref (g 11), .ref (g 14), .ref sa, va_rf so, .int (iI er), .int (iI fa)])) := hg11.1
  have hs111 := hg11.st
  have h811 := z_c8 hC hZ
  obtain ⟨fsb11, osb11⟩ := hsb11.o
  have hJ45 : ∀ j, j ∈ [4, 5] → j < 16 := by decide
  have hk45 : zko ([4, 5].map g) F3 F11 := hk11
  have hq11 := hq3.keep hk45 (hDis.ni h83 hJ45 (by decide) (by decide) hq3.kn.1) (hDis.ni h83 hJ45 (by decide) (by decide) hq3.kn.2.1) (hDis.ni h83 hJ45 (by decide) (by decide) hq3.kn.2.2)
  obtain ⟨fL11, eL11, oL11, -⟩ := id hq11
  have hcc := hsb11.c
  have hgc := grw_c hl9 hcc.2.1
  have hgc2 : mcS cap3 (((ls3, []) : zLn).1.getD n9 []).length ≤ 1 ∧ msS cap3 (((ls3, []) : zLn).1.getD n9 []).length ≤ 40 := hgc
  refine lv_aload_n hx hb dX12_writeLine_14 rfl (lv_at hl 0 rfl) ?_
  refine z_get (T := TX12) (N := 11) (ci := 15) (k := 3) (fs := [.ref (g 0), .ref (g 2), .ref (g 4), .ref (g 6), .ref (g 9), .ref (g 11), .ref (g 14), .ref sa, va_rf so, .int (iI er), .int (iI fa)]) (v := .ref (g 6)) hC hZ in_X12 rfl (by decide) ql_X12_31 rfl h011 rfl dX12_writeLine_15 ?_
  refine lv_aload_n hx hb dX12_writeLine_18 rfl (lv_at hl 0 rfl) ?_
  refine z_get (T := TX12) (N := 11) (ci := 15) (k := 2) (fs := [.ref (g 0), .ref (g 2), .ref (g 4), .ref (g 6), .ref (g 9), .ref (g 11), .ref (g 14), .ref sa, va_rf so, .int (iI er), .int (iI fa)]) (v := .ref (g 4)) hC hZ in_X12 rfl (by decide) ql_X12_24 rfl h011 rfl dX12_writeLine_19 ?_
  refine lv_iload_n hx hb dX12_writeLine_22 rfl (lv_at hl 2 rfl) ?_
  refine z_callv (z_runV (rest := []) (As := [.ref (g 4), .int (iI (n9 : Int))]) (n := 2) (ci := 11) hC hZ (met_X8_writeTo l D cs A F11 (g 6) (g 7) (g 8) (cWi c0) (ls3, []) (g 4) va11 cap3 n9 hq11 hsb11 hn9 hl9) gv_X12_232 hd_X8_writeTo rfl oL11 rfl hl rfl (Nat.le_of_ble_eq_true rfl) ⟨Nat.le_of_ble_eq_true rfl, Nat.le_of_ble_eq_true rfl⟩ ⟨(by show _ ≤ 4; omega), (by show _ ≤ 58; omega)⟩ dX12_writeLine_23) hZ (fun F23 H locs hp23_c_3 hZ => ?_)
  obtain ⟨va23, hva23, hk23, hsb23⟩ := hp23_c_3
  have hg23 := hg11.sO h811 hva23 hk23 hsb23
  have h023 : F23 ob = some (.inr (15, [.ref (g 0), .ref (g 2), .ref (g 4), .ref (g 6), .ref (g 9), .ref (g 11), .ref (g 14), .ref sa, va_rf so, .int (iI er), .int (iI fa)])) := hg23.1
  have hs123 := hg23.st
  have h823 := z_c8 hC hZ
  obtain ⟨fsb23, osb23⟩ := hsb23.o
  refine lv_aload_n hx hb dX12_writeLine_26 rfl (lv_at hl 0 rfl) ?_
  refine z_get (T := TX12) (N := 11) (ci := 15) (k := 2) (fs := [.ref (g 0), .ref (g 2), .ref (g 4), .ref (g 6), .ref (g 9), .ref (g 11), .ref (g 14), .ref sa, va_rf so, .int (iI er), .int (iI fa)]) (v := .ref (g 4)) hC hZ in_X12 rfl (by decide) ql_X12_24 rfl h023 rfl dX12_writeLine_27 ?_
  refine z_calli (z_runV (rest := []) (As := []) (n := 0) (ci := 1) hC hZ (met_J4_length_8abf5 l D cs A F23 (g 4) va23 (grw cap3 (ls3.getD n9 []).length) (ls3.getD n9 []) hsb23) gv_X12_236 hd_J4_length_8abf5 rfl osb23 rfl hl rfl (Nat.le_of_ble_eq_true rfl) ⟨Nat.le_of_ble_eq_true rfl, Nat.le_of_ble_eq_true rfl⟩ ⟨(by show _ ≤ 4; omega), (by show _ ≤ 58; omega)⟩ dX12_writeLine_30) hZ (fun r30 F30 H locs hp30_c_4 hZ => ?_)
  obtain ⟨rfl, hy30⟩ := hp30_c_4
  refine vx_ret ?_
  exact z_iret hC hr hlk hZ (by omega) (by omega) (⟨by rw [hz3], by rw [hz3]; exact hy30, _, by rw [hz3]; exact hg23⟩) dX12_writeLine_33

set_option maxHeartbeats 4000000 in
set_option maxRecDepth 100000 in
theorem met_X12_writeArticle (l : Launch) (D : va_G) (cs : Nat → ClassId) (A : Nat → Prop) (F : zF) (ob : Nat) (g : Nat → Nat) (sa : Nat) (so : Option Nat) (hL : List Nat) (tx inp out : List Int) (c0 : zCo) (sv : Option zCo) (hs : List zCo) (er fa : Int) (x : Int) (N : Nat) (hlt : l.stackTraces = false)  (hg : gOb cs F ob g sa so hL tx inp out c0 sv hs er fa) (hx0 : InR x) (hK : cOK N c0) (hN : N ≤ 900) : zXM l D cs A yX12_writeArticle cX12_writeArticle 3 (some FieldType.int) 24 51 1606 [.ref ob, .int (iI x)] F (pI (fun r F1 => (sWr c0 x).1 = 0 ∧ ((sWr c0 x).2.length : Int) = r ∧ ∃ g1 : Nat → Nat, gOb cs F1 ob g1 sa so hL tx inp (sWr c0 x).2 c0 sv hs er fa)) (fun E F1 => gOb cs F1 ob g sa so hL tx inp out c0 sv hs er fa ∧ (((sWr c0 x).1 = 1 ∧ E = "java/util/NoSuchElementException"))) := by
  refine zX_of (own := RX12) (by decide) rfl (Nat.le_of_ble_eq_true rfl) ?_
  intro p e s m below meth c hC hr hlk hT hZ ls hl
  have hx := hC.x
  have hb := hC.b
  have hl : lv_has ls 3 [(0, .ref ob), (1, .int (iI x))] := hl
  have h0 : F ob = some (.inr (15, [.ref (g 0), .ref (g 2), .ref (g 4), .ref (g 6), .ref (g 9), .ref (g 11), .ref (g 14), .ref sa, va_rf so, .int (iI er), .int (iI fa)])) := hg.1
  have hs1 := hg.st
  have h8 := z_c8 hC hZ
  obtain ⟨-, hDis, hTx, hI, ⟨cap, hO⟩, ⟨wd0, st0, hLs⟩, ⟨hE1, e0, hE2⟩, ⟨pos0, L0, hR1, hR2⟩, hH, hSt⟩ := id hg
  refine lv_aload_n hx hb dX12_writeArticle_0 rfl (lv_at hl 0 rfl) ?_
  refine lv_iload_n hx hb dX12_writeArticle_1 rfl (lv_at hl 1 rfl) ?_
  refine z_xcallr (z_xrunV (rest := []) (As := [.int (iI x)]) (n := 1) (ci := 15) hC hZ (met_X12_knownArticle l D cs A F ob g sa so er fa c0 x hlt h0 hs1 (by omega)) gv_X12_181 hd_X12_knownArticle rfl h0 rfl hl rfl (Nat.le_of_ble_eq_true rfl) ⟨Nat.le_of_ble_eq_true rfl, Nat.le_of_ble_eq_true rfl⟩ ⟨Nat.le_of_ble_eq_true rfl, Nat.le_of_ble_eq_true rfl⟩ dX12_writeArticle_2) hZ hT hlk (Nat.le_of_ble_eq_true rfl) (Nat.le_of_ble_eq_true rfl) (fun E F1 q => ⟨by rw [← q.1]; exact hg, by unfold sWr; rw [q.2.1], q.2.2⟩) (fun r2 F2 H locs hp2_c_1 hZ => ?_)
  obtain ⟨rfl, y2, hz2, hm2, ho2⟩ := hp2_c_1
  obtain ⟨wa2, yo2, yw2, yk2⟩ := id ho2
  obtain ⟨fw2, yv2, ye2⟩ := id yw2
  have yk12 := yk2.1
  have yk22 := yk2.2.1
  have yk32 := yk2.2.2.1
  refine lv_astore_n (lv' := [(2, .ref r2), (0, .ref ob), (1, .int (iI x))]) hx hb dX12_writeArticle_5 rfl hl (by decide) rfl (fun ls hl => ?_)
  refine lv_aload_n hx hb dX12_writeArticle_6 rfl (lv_at hl 1 rfl) ?_
  refine z_get (T := TX12) (N := 11) (ci := 15) (k := 2) (fs := [.ref (g 0), .ref (g 2), .ref (g 4), .ref (g 6), .ref (g 9), .ref (g 11), .ref (g 14), .ref sa, va_rf so, .int (iI er), .int (iI fa)]) (v := .ref (g 4)) hC hZ in_X12 rfl (by decide) ql_X12_24 rfl h0 rfl dX12_writeArticle_7 ?_
  refine z_iconst hx hb dX12_writeArticle_10 ?_
  obtain ⟨fso, oso⟩ := hO.o
  refine z_callv (z_runV (rest := []) (As := [.int (iI 0)]) (n := 1) (ci := 1) hC hZ (met_J4_setLength_d00df l D cs A F (g 4) (g 5) cap out hO) gv_X12_229 hd_J4_setLength_d00df rfl oso rfl hl rfl (Nat.le_of_ble_eq_true rfl) ⟨Nat.le_of_ble_eq_true rfl, Nat.le_of_ble_eq_true rfl⟩ ⟨Nat.le_of_ble_eq_true rfl, Nat.le_of_ble_eq_true rfl⟩ dX12_writeArticle_11) hZ (fun F11 H locs hp11_c_2 hZ => ?_)
  obtain ⟨va11, hva11, hk11, hsb11⟩ := hp11_c_2
  have hg11 := hg.sO h8 hva11 hk11 hsb11
  have h011 : F11 ob = some (.inr (15, [.ref (g 0), .ref (g 2), .ref (g 4), .ref (g 6), .ref (g 9), .ref (g 11), .ref (g 14), .ref sa, va_rf so, .int (iI er), .int (iI fa)])) := hg11.1
  have hs111 := hg11.st
  have h811 := z_c8 hC hZ
  obtain ⟨fsb11, osb11⟩ := hsb11.o
  have hJ45 : ∀ j, j ∈ [4, 5] → j < 16 := by decide
  have hko := hO.kn
  obtain ⟨ml4, fb4, hb4, hb5, hb6, -⟩ := id hO
  have hni4 : ∀ o, o ∈ [g 4, g 5] → zNi cs F o := fun o ho => by
    rcases List.mem_cons.mp ho with q | q
    · rw [q]; exact zNi.o hb4 (by decide)
    · rw [List.mem_singleton.mp q]; exact zNi.i hb5 (by omega)
  have ho10 := ho2.keepO hk11 hni4
  obtain ⟨fo10, oo10⟩ := ho10.o
  have hid := (hK.2.2.1 y2 hm2).1
  have hni9 := hK.2.2.2.2.2.2.1
  refine lv_aload_n hx hb dX12_writeArticle_14 rfl (lv_at hl 0 rfl) ?_
  refine lv_aload_n hx hb dX12_writeArticle_15 rfl (lv_at hl 1 rfl) ?_
  refine z_get (T := TX12) (N := 11) (ci := 15) (k := 2) (fs := [.ref (g 0), .ref (g 2), .ref (g 4), .ref (g 6), .ref (g 9), .ref (g 11), .ref (g 14), .ref sa, va_rf so, .int (iI er), .int (iI fa)]) (v := .ref (g 4)) hC hZ in_X12 rfl (by decide) ql_X12_24 rfl h011 rfl dX12_writeArticle_16 ?_
  refine z_callv (z_runV (rest := []) (As := [.ref (g 4)]) (n := 1) (ci := 5) hC hZ (met_X1_writeTo l D cs A F11 r2 y2 (g 4) va11 cap ho10 hsb11 (by omega)) gv_X12_337 hd_X1_writeTo rfl oo10 rfl hl rfl (Nat.le_of_ble_eq_true rfl) ⟨Nat.le_of_ble_eq_true rfl, Nat.le_of_ble_eq_true rfl⟩ ⟨Nat.le_of_ble_eq_true rfl, Nat.le_of_ble_eq_true rfl⟩ dX12_writeArticle_19) hZ (fun F19 H locs hp19_c_3 hZ => ?_)
  obtain ⟨va19, cap19, hva19, hk19, hsb19⟩ := hp19_c_3
  have hg19 := hg11.sO h811 hva19 hk19 hsb19
  have h019 : F19 ob = some (.inr (15, [.ref (g 0), .ref (g 2), .ref (g 4), .ref (g 6), .ref (g 9), .ref (g 11), .ref (g 14), .ref sa, va_rf so, .int (iI er), .int (iI fa)])) := hg19.1
  have hs119 := hg19.st
  have h819 := z_c8 hC hZ
  obtain ⟨fsb19, osb19⟩ := hsb19.o
  refine lv_aload_n hx hb dX12_writeArticle_22 rfl (lv_at hl 1 rfl) ?_
  refine z_get (T := TX12) (N := 11) (ci := 15) (k := 2) (fs := [.ref (g 0), .ref (g 2), .ref (g 4), .ref (g 6), .ref (g 9), .ref (g 11), .ref (g 14), .ref sa, va_rf so, .int (iI er), .int (iI fa)]) (v := .ref (g 4)) hC hZ in_X12 rfl (by decide) ql_X12_24 rfl h019 rfl dX12_writeArticle_23 ?_
  refine z_calli (z_runV (rest := []) (As := []) (n := 0) (ci := 1) hC hZ (met_J4_length_8abf5 l D cs A F19 (g 4) va19 cap19 (zart y2) hsb19) gv_X12_236 hd_J4_length_8abf5 rfl osb19 rfl hl rfl (Nat.le_of_ble_eq_true rfl) ⟨Nat.le_of_ble_eq_true rfl, Nat.le_of_ble_eq_true rfl⟩ ⟨Nat.le_of_ble_eq_true rfl, Nat.le_of_ble_eq_true rfl⟩ dX12_writeArticle_26) hZ (fun r26 F26 H locs hp26_c_4 hZ => ?_)
  obtain ⟨rfl, hy26⟩ := hp26_c_4
  refine vx_ret ?_
  exact z_iret hC hr hlk hZ (by decide) (by decide) (⟨by unfold sWr; rw [hz2], by unfold sWr; rw [hz2]; exact hy26, _, by unfold sWr; rw [hz2]; exact hg19⟩) dX12_writeArticle_29

set_option maxHeartbeats 4000000 in
set_option maxRecDepth 100000 in
theorem met_X12_smallestWidth (l : Launch) (D : va_G) (cs : Nat → ClassId) (A : Nat → Prop) (F : zF) (ob : Nat) (g : Nat → Nat) (sa : Nat) (so : Option Nat) (hL : List Nat) (tx inp out : List Int) (c0 : zCo) (sv : Option zCo) (hs : List zCo) (er fa : Int) (x : Int) (hlt : l.stackTraces = false)  (hg : gOb cs F ob g sa so hL tx inp out c0 sv hs er fa) (hx0 : InR x) : zXM l D cs A yX12_smallestWidth cX12_smallestWidth 4 (some FieldType.int) 7 1 6 [.ref ob, .int (iI x)] F (pI (fun r F1 => gOb cs F1 ob g sa so hL tx inp out c0 sv hs er fa ∧ (sSm c0 x).1 = 0 ∧ (sSm c0 x).2 = r)) (fun E F1 => gOb cs F1 ob g sa so hL tx inp out c0 sv hs er fa ∧ (((sSm c0 x).1 = 1 ∧ E = "java/util/NoSuchElementException"))) := by
  refine zX_of (own := RX12) (by decide) rfl (Nat.le_of_ble_eq_true rfl) ?_
  intro p e s m below meth c hC hr hlk hT hZ ls hl
  have hx := hC.x
  have hb := hC.b
  have hl : lv_has ls 4 [(0, .ref ob), (1, .int (iI x))] := hl
  have h0 : F ob = some (.inr (15, [.ref (g 0), .ref (g 2), .ref (g 4), .ref (g 6), .ref (g 9), .ref (g 11), .ref (g 14), .ref sa, va_rf so, .int (iI er), .int (iI fa)])) := hg.1
  have hs1 := hg.st
  have h8 := z_c8 hC hZ
  obtain ⟨-, hDis, hTx, hI, ⟨cap, hO⟩, ⟨wd0, st0, hLs⟩, ⟨hE1, e0, hE2⟩, ⟨pos0, L0, hR1, hR2⟩, hH, hSt⟩ := id hg
  refine lv_aload_n hx hb dX12_smallestWidth_0 rfl (lv_at hl 0 rfl) ?_
  refine lv_iload_n hx hb dX12_smallestWidth_1 rfl (lv_at hl 1 rfl) ?_
  refine z_xcallr (z_xrunV (rest := []) (As := [.int (iI x)]) (n := 1) (ci := 15) hC hZ (met_X12_knownArticle l D cs A F ob g sa so er fa c0 x hlt h0 hs1 (by omega)) gv_X12_181 hd_X12_knownArticle rfl h0 rfl hl rfl (Nat.le_of_ble_eq_true rfl) ⟨Nat.le_of_ble_eq_true rfl, Nat.le_of_ble_eq_true rfl⟩ ⟨Nat.le_of_ble_eq_true rfl, Nat.le_of_ble_eq_true rfl⟩ dX12_smallestWidth_2) hZ hT hlk (Nat.le_of_ble_eq_true rfl) (Nat.le_of_ble_eq_true rfl) (fun E F1 q => ⟨by rw [← q.1]; exact hg, by unfold sSm; rw [q.2.1], q.2.2⟩) (fun r2 F2 H locs hp2_c_1 hZ => ?_)
  obtain ⟨rfl, y2, hz2, hm2, ho2⟩ := hp2_c_1
  obtain ⟨wa2, yo2, yw2, yk2⟩ := id ho2
  obtain ⟨fw2, yv2, ye2⟩ := id yw2
  have yk12 := yk2.1
  have yk22 := yk2.2.1
  have yk32 := yk2.2.2.1
  refine lv_astore_n (lv' := [(2, .ref r2), (0, .ref ob), (1, .int (iI x))]) hx hb dX12_smallestWidth_5 rfl hl (by decide) rfl (fun ls hl => ?_)
  refine z_iconst hx hb dX12_smallestWidth_6 ?_
  refine lv_istore_n (lv' := [(3, .int (iI 4)), (2, .ref r2), (0, .ref ob), (1, .int (iI x))]) hx hb dX12_smallestWidth_7 rfl hl (by decide) rfl (fun ls hl => ?_)
  have L8_k_2 : ∀ (fu : Nat) (k : Int) (F2 : zF) (hfu : (20 - k).toNat < fu) (hi8_0 : 4 ≤ k ∧ k ≤ 20) (hi8_1 : zsm y2.2.2 16 4 = zsm y2.2.2 (20 - k).toNat k) (hi8_2 : gOb cs F2 ob g sa so hL tx inp out c0 sv hs er fa) (hi8_3 : oAr cs F2 r2 y2) (H : Heap) (locs : List Loc) (hZ : zS D A s F2 H locs) (ls : Array Slot) (hl : lv_has ls 4 [(3, .int (iI k)), (2, .ref r2), (0, .ref ob), (1, .int (iI x))]), W p l e (zR 7 1 6) s m [.ref ob, .int (iI x)].toArray below meth c H locs 1 6 (vx_MQ below (zQ D A (pI (fun r F1 => gOb cs F1 ob g sa so hL tx inp out c0 sv hs er fa ∧ (sSm c0 x).1 = 0 ∧ (sSm c0 x).2 = r))) (zXC D A (fun E F1 => gOb cs F1 ob g sa so hL tx inp out c0 sv hs er fa ∧ (((sSm c0 x).1 = 1 ∧ E = "java/util/NoSuchElementException")))) [.ref ob, .int (iI x)].toArray s 1 6 A) (F0 m 8 ls []) := by
    intro fu
    induction fu with
    | zero =>
      intro k F2 hfu
      exact absurd hfu (Nat.not_lt_zero _)
    | succ fu ih8 =>
      intro k F2 hfu hi8_0 hi8_1 hi8_2 hi8_3  H locs hZ ls hl
      have h0b : F2 ob = some (.inr (15, [.ref (g 0), .ref (g 2), .ref (g 4), .ref (g 6), .ref (g 9), .ref (g 11), .ref (g 14), .ref sa, va_rf so, .int (iI er), .int (iI fa)])) := hi8_2.1
      have h8b := z_c8 hC hZ
      obtain ⟨wdb, stb, hlb⟩ := hi8_2.2.2.2.2.2.1
      obtain ⟨flb, olb⟩ := hlb.o
      refine lv_iload_n hx hb dX12_smallestWidth_8 rfl (lv_at hl 0 rfl) ?_
      refine z_bipush hx hb dX12_smallestWidth_9 (by decide) ?_
      refine z_icmp_ge (tgt := 34) hx hb dX12_smallestWidth_11 (by decide) (by omega) (by decide) (fun c_3 => ?_) (fun c_3 => ?_)
      · skip
        have hfin : zsm y2.2.2 16 4 = 20 := by rw [hi8_1, show (20 - k).toNat = 0 by omega]; show k = 20; omega
        refine z_bipush hx hb dX12_smallestWidth_34 (by decide) ?_
        refine vx_ret ?_
        exact z_iret hC hr hlk hZ (by decide) (by decide) (⟨hi8_2, by unfold sSm; rw [hz2], by unfold sSm; rw [hz2]; exact hfin⟩) dX12_smallestWidth_36
      · skip
        refine lv_aload_n hx hb dX12_smallestWidth_14 rfl (lv_at hl 2 rfl) ?_
        refine z_get (T := TX12) (N := 11) (ci := 15) (k := 3) (fs := [.ref (g 0), .ref (g 2), .ref (g 4), .ref (g 6), .ref (g 9), .ref (g 11), .ref (g 14), .ref sa, va_rf so, .int (iI er), .int (iI fa)]) (v := .ref (g 6)) hC hZ in_X12 rfl (by decide) ql_X12_31 rfl h0b rfl dX12_smallestWidth_15 ?_
        refine lv_aload_n hx hb dX12_smallestWidth_18 rfl (lv_at hl 1 rfl) ?_
        refine lv_iload_n hx hb dX12_smallestWidth_19 rfl (lv_at hl 0 rfl) ?_
        refine z_calli (z_runV (rest := []) (As := [.ref r2, .int (iI k)]) (n := 2) (ci := 11) hC hZ (met_X8_arrange l D cs A F2 (g 6) (g 7) (g 8) wdb k stb r2 y2 hlb hi8_3 (by omega)) gv_X12_208 hd_X8_arrange rfl olb rfl hl rfl (Nat.le_of_ble_eq_true rfl) ⟨Nat.le_of_ble_eq_true rfl, Nat.le_of_ble_eq_true rfl⟩ ⟨Nat.le_of_ble_eq_true rfl, Nat.le_of_ble_eq_true rfl⟩ dX12_smallestWidth_20) hZ (fun r20 F20 H locs hp20_c_4 hZ => ?_)
        obtain ⟨hk20, hc20⟩ := hp20_c_4
        rcases hc20 with ⟨ls20, hz20, rfl, hq20, -⟩ | ⟨hz20, rfl, st20, hq20⟩
        · skip
          have hg20 := hi8_2.sL h8b hk20 hq20
          have h020 : F20 ob = some (.inr (15, [.ref (g 0), .ref (g 2), .ref (g 4), .ref (g 6), .ref (g 9), .ref (g 11), .ref (g 14), .ref sa, va_rf so, .int (iI er), .int (iI fa)])) := hg20.1
          have hs120 := hg20.st
          have h820 := z_c8 hC hZ
          have hfin : zsm y2.2.2 16 4 = k := by rw [hi8_1, show (20 - k).toNat = (19 - k).toNat + 1 by omega]; unfold zsm; rw [hz20]; rfl
          refine z_if_eq (tgt := 28) hx hb dX12_smallestWidth_23 (by decide) (by decide) (fun c_5 => ?_) (fun c_5 => ?_)
          · skip
            exfalso; omega
          · skip
            refine lv_iload_n hx hb dX12_smallestWidth_26 rfl (lv_at hl 0 rfl) ?_
            refine vx_ret ?_
            exact z_iret hC hr hlk hZ (by decide) (by decide) (⟨hg20, by unfold sSm; rw [hz2], by unfold sSm; rw [hz2]; exact hfin⟩) dX12_smallestWidth_27
        · skip
          have hg20 := hi8_2.sL h8b hk20 hq20
          have h020 : F20 ob = some (.inr (15, [.ref (g 0), .ref (g 2), .ref (g 4), .ref (g 6), .ref (g 9), .ref (g 11), .ref (g 14), .ref sa, va_rf so, .int (iI er), .int (iI fa)])) := hg20.1
          have hs120 := hg20.st
          have h820 := z_c8 hC hZ
          have hnx : zsm y2.2.2 16 4 = zsm y2.2.2 (20 - (k + 1)).toNat (k + 1) := by rw [hi8_1, show (20 - k).toNat = (20 - (k + 1)).toNat + 1 by omega, zsm_n hz20]
          have ho20 := hi8_3.keepO hk20 hlb.ni.1
          refine z_if_eq (tgt := 28) hx hb dX12_smallestWidth_23 (by decide) (by decide) (fun c_6 => ?_) (fun c_6 => ?_)
          · skip
            refine z_iinc (lv' := [(3, .int (iI (k + 1))), (2, .ref r2), (0, .ref ob), (1, .int (iI x))]) hx hb dX12_smallestWidth_28 hl (k := 0) rfl (by decide) rfl (fun ls hl => ?_)
            refine lv_goto (tgt := 8) hx hb dX12_smallestWidth_31 (by decide) ?_
            exact ih8 (k + 1) F20 (by omega) (by omega) hnx hg20 ho20  _ _ hZ ls (lv_sub hl [0, 1, 2, 3] rfl)
          · skip
            exfalso; omega
  exact L8_k_2 _ 4 F (Nat.lt_succ_self _) (by omega) rfl hg ho2  _ _ hZ ls (lv_sub hl [0, 1, 2, 3] rfl)

theorem lgW_le {x : zAr} {r w : Int} (h : lgW x x.2.2.length r) (hr : r ≤ w) : ∀ wd ∈ x.2.2, (wd.length : Int) ≤ w := fun wd hwd => by
  obtain ⟨i, hi⟩ := List.getElem?_of_mem hwd
  have hl := (List.getElem?_eq_some_iff.mp hi).1
  have h1 := h.1 i (by omega) (by omega)
  rw [Int.toNat_natCast, List.getD_eq_getElem?_getD, hi] at h1
  simp only [Option.getD_some] at h1
  omega
theorem lgW_gt {x : zAr} {r w : Int} (h : lgW x x.2.2.length r) (h0 : 0 ≤ w) (hr : w < r) : (x.2.2.all (fun wd => decide ((wd.length : Int) ≤ w))) ≠ true := fun c => by
  rcases h.2 with h1 | ⟨j, h1, h2, h3⟩
  · omega
  · have hl : j.toNat < x.2.2.length := by omega
    have h4 := of_decide_eq_true (List.all_eq_true.mp c _ (List.getElem_mem hl))
    rw [List.getD_eq_getElem?_getD, List.getElem?_eq_getElem hl] at h3
    simp only [Option.getD_some] at h3
    omega
theorem sLb_0 {c : zCo} {x : Int} {y : zAr} (h : zfa (cAr c) x = some y) (h2 : ∀ wd ∈ y.2.2, (wd.length : Int) ≤ cWi c) : sLb c x = (0, zlb (cWi c) (zlens y)) := by
  unfold sLb
  rw [h]
  simp only []
  rw [if_pos (List.all_eq_true.mpr (fun wd hwd => decide_eq_true (h2 wd hwd)))]
theorem sLb_1 {c : zCo} {x : Int} (h : zfa (cAr c) x = none) : sLb c x = (1, 0) := by unfold sLb; rw [h]
theorem sLb_2 {c : zCo} {x : Int} {y : zAr} (h : zfa (cAr c) x = some y) (h2 : (y.2.2.all (fun wd => decide ((wd.length : Int) ≤ cWi c))) ≠ true) : sLb c x = (2, 0) := by
  unfold sLb
  rw [h]
  simp only []
  rw [if_neg h2]
set_option maxHeartbeats 4000000 in
set_option maxRecDepth 100000 in
theorem met_X12_knownNarrowArticle (l : Launch) (D : va_G) (cs : Nat → ClassId) (A : Nat → Prop) (F : zF) (ob : Nat) (g : Nat → Nat) (sa : Nat) (so : Option Nat) (er fa : Int) (c0 : zCo) (x : Int) (hlt : l.stackTraces = false)  (h0 : F ob = some (.inr (15, [.ref (g 0), .ref (g 2), .ref (g 4), .ref (g 6), .ref (g 9), .ref (g 11), .ref (g 14), .ref sa, va_rf so, .int (iI er), .int (iI fa)]))) (hs1 : rSt cs F sa c0) (hx0 : InR x) (hwi : 4 ≤ cWi c0 ∧ cWi c0 ≤ 20) : zXM l D cs A yX12_knownNarrowArticle cX12_knownNarrowArticle 3 (some (FieldType.object "StoneGazette$Article")) 7 2 12 [.ref ob, .int (iI x)] F (pR (fun r F1 => F = F1 ∧ ∃ y : zAr, zfa (cAr c0) x = some y ∧ oAr cs F r y ∧ ∀ wd ∈ y.2.2, (wd.length : Int) ≤ cWi c0)) (fun E F1 => F = F1 ∧ ((zfa (cAr c0) x = none ∧ E = "java/util/NoSuchElementException") ∨ ((∃ y : zAr, zfa (cAr c0) x = some y ∧ (y.2.2.all (fun wd => decide ((wd.length : Int) ≤ cWi c0))) ≠ true) ∧ E = "java/lang/UnsupportedOperationException"))) := by
  refine zX_of (own := RX12) (by decide) rfl (Nat.le_of_ble_eq_true rfl) ?_
  intro p e s m below meth c hC hr hlk hT hZ ls hl
  have hx := hC.x
  have hb := hC.b
  have hl : lv_has ls 3 [(0, .ref ob), (1, .int (iI x))] := hl
  obtain ⟨la, li, aL, iL, h9, ⟨ra, hla⟩, ⟨ri, hli⟩, has, his⟩ := id hs1
  have haL := has.1
  have hiL := his.1
  have ha10 := oL_10 hla
  have hi10 := oL_10 hli
  refine lv_aload_n hx hb dX12_knownNarrowArticle_0 rfl (lv_at hl 0 rfl) ?_
  refine lv_iload_n hx hb dX12_knownNarrowArticle_1 rfl (lv_at hl 1 rfl) ?_
  refine z_xcallr (z_xrunV (rest := []) (As := [.int (iI x)]) (n := 1) (ci := 15) hC hZ (met_X12_knownArticle l D cs A F ob g sa so er fa c0 x hlt h0 hs1 (by omega)) gv_X12_181 hd_X12_knownArticle rfl h0 rfl hl rfl (Nat.le_of_ble_eq_true rfl) ⟨Nat.le_of_ble_eq_true rfl, Nat.le_of_ble_eq_true rfl⟩ ⟨Nat.le_of_ble_eq_true rfl, Nat.le_of_ble_eq_true rfl⟩ dX12_knownNarrowArticle_2) hZ hT hlk (Nat.le_of_ble_eq_true rfl) (Nat.le_of_ble_eq_true rfl) (fun E F1 q => ⟨q.1, Or.inl q.2⟩) (fun r2 F2 H locs hp2_c_1 hZ => ?_)
  obtain ⟨rfl, y2, hz2, hm2, ho2⟩ := hp2_c_1
  obtain ⟨wa2, yo2, yw2, yk2⟩ := id ho2
  obtain ⟨fw2, yv2, ye2⟩ := id yw2
  have yk12 := yk2.1
  have yk22 := yk2.2.1
  have yk32 := yk2.2.2.1
  refine lv_astore_n (lv' := [(2, .ref r2), (0, .ref ob), (1, .int (iI x))]) hx hb dX12_knownNarrowArticle_5 rfl hl (by decide) rfl (fun ls hl => ?_)
  refine lv_aload_n hx hb dX12_knownNarrowArticle_6 rfl (lv_at hl 0 rfl) ?_
  refine z_calli (z_runV (rest := []) (As := []) (n := 0) (ci := 5) hC hZ (met_X1_longestWord l D cs A F r2 y2 ho2) gv_X12_398 hd_X1_longestWord rfl yo2 rfl hl rfl (Nat.le_of_ble_eq_true rfl) ⟨Nat.le_of_ble_eq_true rfl, Nat.le_of_ble_eq_true rfl⟩ ⟨Nat.le_of_ble_eq_true rfl, Nat.le_of_ble_eq_true rfl⟩ dX12_knownNarrowArticle_7) hZ (fun r7 F7 H locs hp7_c_2 hZ => ?_)
  obtain ⟨rfl, hp7_c_2⟩ := hp7_c_2
  have hlg := hp7_c_2
  refine lv_aload_n hx hb dX12_knownNarrowArticle_10 rfl (lv_at hl 1 rfl) ?_
  refine z_get (T := TX12) (N := 11) (ci := 15) (k := 7) (fs := [.ref (g 0), .ref (g 2), .ref (g 4), .ref (g 6), .ref (g 9), .ref (g 11), .ref (g 14), .ref sa, va_rf so, .int (iI er), .int (iI fa)]) (v := .ref sa) hC hZ in_X12 rfl (by decide) ql_X12_59 rfl h0 rfl dX12_knownNarrowArticle_11 ?_
  refine z_getN (T := TX10) (N := 9) (ci := 13) (k := 4) (fs := [.ref la, .ref li, .int (iI (cNi c0)), .int (iI (cNn c0)), .int (iI (cWi c0)), .int (iI (cCo c0)), .int (iI (cHe c0)), .int (iI (cDa c0)), .int (iI (cLa c0))]) (v := .int (iI (cWi c0))) hC hZ in_X10 rfl (by decide) ql_X12_205 rfl h9 rfl dX12_knownNarrowArticle_14 ?_
  refine z_icmp_le (tgt := 31) hx hb dX12_knownNarrowArticle_17 (by decide) (by omega) (by omega) (fun c_3 => ?_) (fun c_3 => ?_)
  · skip
    refine lv_aload_n hx hb dX12_knownNarrowArticle_31 rfl (lv_at hl 0 rfl) ?_
    refine vx_ret ?_
    exact z_aret hC hr (Or.inl ⟨_, rfl⟩) hlk hZ (by decide) (by decide) (⟨rfl, y2, hz2, ho2, lgW_le hlg.1 (by omega)⟩) dX12_knownNarrowArticle_32
  · skip
    exact z_throwW (rest := []) hC hZ hlt hT hlk zth_e2 zth_g2 zth_o2 zth_k2 zth_i2 (by decide) (List.mem_of_getElem? (i := 23) rfl) hl (Nat.le_of_ble_eq_true rfl) (Nat.le_of_ble_eq_true rfl) (Nat.le_of_ble_eq_true rfl) (Nat.le_of_ble_eq_true rfl) (Nat.le_of_ble_eq_true rfl) (Nat.le_of_ble_eq_true rfl) (⟨rfl, Or.inr ⟨⟨y2, hz2, lgW_gt hlg.1 (by omega) (by omega)⟩, rfl⟩⟩) dX12_knownNarrowArticle_20 dX12_knownNarrowArticle_23 dX12_knownNarrowArticle_24 dX12_knownNarrowArticle_27 dX12_knownNarrowArticle_30

set_option maxHeartbeats 4000000 in
set_option maxRecDepth 100000 in
theorem met_X12_leastBadness (l : Launch) (D : va_G) (cs : Nat → ClassId) (A : Nat → Prop) (F : zF) (ob : Nat) (g : Nat → Nat) (sa : Nat) (so : Option Nat) (hL : List Nat) (tx inp out : List Int) (c0 : zCo) (sv : Option zCo) (hs : List zCo) (er fa : Int) (x : Int) (hlt : l.stackTraces = false)  (hg : gOb cs F ob g sa so hL tx inp out c0 sv hs er fa) (hx0 : InR x) (hwi : 4 ≤ cWi c0 ∧ cWi c0 ≤ 20) : zXM l D cs A yX12_leastBadness cX12_leastBadness 2 (some FieldType.int) 8 2 12 [.ref ob, .int (iI x)] F (pI (fun r F1 => gOb cs F1 ob g sa so hL tx inp out c0 sv hs er fa ∧ (sLb c0 x).1 = 0 ∧ (sLb c0 x).2 = r)) (fun E F1 => gOb cs F1 ob g sa so hL tx inp out c0 sv hs er fa ∧ (((sLb c0 x).1 = 1 ∧ E = "java/util/NoSuchElementException") ∨ ((sLb c0 x).1 = 2 ∧ E = "java/lang/UnsupportedOperationException"))) := by
  refine zX_of (own := RX12) (by decide) rfl (Nat.le_of_ble_eq_true rfl) ?_
  intro p e s m below meth c hC hr hlk hT hZ ls hl
  have hx := hC.x
  have hb := hC.b
  have hl : lv_has ls 2 [(0, .ref ob), (1, .int (iI x))] := hl
  have h0 : F ob = some (.inr (15, [.ref (g 0), .ref (g 2), .ref (g 4), .ref (g 6), .ref (g 9), .ref (g 11), .ref (g 14), .ref sa, va_rf so, .int (iI er), .int (iI fa)])) := hg.1
  have hs1 := hg.st
  have h8 := z_c8 hC hZ
  obtain ⟨-, hDis, hTx, hI, ⟨cap, hO⟩, ⟨wd0, st0, hLs⟩, ⟨hE1, e0, hE2⟩, ⟨pos0, L0, hR1, hR2⟩, hH, hSt⟩ := id hg
  obtain ⟨la, li, aL, iL, h9, ⟨ra, hla⟩, ⟨ri, hli⟩, has, his⟩ := id hs1
  have haL := has.1
  have hiL := his.1
  have ha10 := oL_10 hla
  have hi10 := oL_10 hli
  refine lv_aload_n hx hb dX12_leastBadness_0 rfl (lv_at hl 0 rfl) ?_
  refine z_get (T := TX12) (N := 11) (ci := 15) (k := 4) (fs := [.ref (g 0), .ref (g 2), .ref (g 4), .ref (g 6), .ref (g 9), .ref (g 11), .ref (g 14), .ref sa, va_rf so, .int (iI er), .int (iI fa)]) (v := .ref (g 9)) hC hZ in_X12 rfl (by decide) ql_X12_38 rfl h0 rfl dX12_leastBadness_1 ?_
  refine lv_aload_n hx hb dX12_leastBadness_4 rfl (lv_at hl 0 rfl) ?_
  refine lv_iload_n hx hb dX12_leastBadness_5 rfl (lv_at hl 1 rfl) ?_
  refine z_xcallr (z_xrunV (rest := [.ref (g 9)]) (As := [.int (iI x)]) (n := 1) (ci := 15) hC hZ (met_X12_knownNarrowArticle l D cs A F ob g sa so er fa c0 x hlt h0 hs1 hx0 hwi) gv_X12_238 hd_X12_knownNarrowArticle rfl h0 rfl hl rfl (Nat.le_of_ble_eq_true rfl) ⟨Nat.le_of_ble_eq_true rfl, Nat.le_of_ble_eq_true rfl⟩ ⟨Nat.le_of_ble_eq_true rfl, Nat.le_of_ble_eq_true rfl⟩ dX12_leastBadness_6) hZ hT hlk (Nat.le_of_ble_eq_true rfl) (Nat.le_of_ble_eq_true rfl) (fun E F1 q => ⟨by rw [← q.1]; exact hg, q.2.elim (fun y => Or.inl ⟨by rw [sLb_1 y.1], y.2⟩) (fun y => Or.inr ⟨by obtain ⟨z9, y1, y2⟩ := y.1; rw [sLb_2 y1 y2], y.2⟩)⟩) (fun r6 F6 H locs hp6_c_1 hZ => ?_)
  obtain ⟨rfl, y6, hz6, ho6, hall6⟩ := hp6_c_1
  have hft6 : zfit (cWi c0) (zlens y6) := by obtain ⟨_, _, _, hok9⟩ := id ho6; exact zlens_fit hok9 hall6
  refine lv_aload_n hx hb dX12_leastBadness_9 rfl (lv_at hl 0 rfl) ?_
  refine z_get (T := TX12) (N := 11) (ci := 15) (k := 7) (fs := [.ref (g 0), .ref (g 2), .ref (g 4), .ref (g 6), .ref (g 9), .ref (g 11), .ref (g 14), .ref sa, va_rf so, .int (iI er), .int (iI fa)]) (v := .ref sa) hC hZ in_X12 rfl (by decide) ql_X12_59 rfl h0 rfl dX12_leastBadness_10 ?_
  refine z_getN (T := TX10) (N := 9) (ci := 13) (k := 4) (fs := [.ref la, .ref li, .int (iI (cNi c0)), .int (iI (cNn c0)), .int (iI (cWi c0)), .int (iI (cCo c0)), .int (iI (cHe c0)), .int (iI (cDa c0)), .int (iI (cLa c0))]) (v := .int (iI (cWi c0))) hC hZ in_X10 rfl (by decide) ql_X12_205 rfl h9 rfl dX12_leastBadness_13 ?_
  refine z_calli (z_runV (rest := []) (As := [.ref r6, .int (iI (cWi c0))]) (n := 2) (ci := 9) hC hZ (met_X5_fromLastWord l D cs A F (g 9) (g 10) r6 y6 (cWi c0) e0 hE1 hE2 ho6 hwi hft6) gv_X12_241 hd_X5_fromLastWord rfl hE1 rfl hl rfl (Nat.le_of_ble_eq_true rfl) ⟨Nat.le_of_ble_eq_true rfl, Nat.le_of_ble_eq_true rfl⟩ ⟨Nat.le_of_ble_eq_true rfl, Nat.le_of_ble_eq_true rfl⟩ dX12_leastBadness_16) hZ (fun r16 F16 H locs hp16_c_2 hZ => ?_)
  obtain ⟨hk16, ⟨e16, he16⟩, hr16⟩ := hp16_c_2
  have hg16 := hg.sE h8 hk16 he16
  refine vx_ret ?_
  exact z_iret hC hr hlk hZ (by decide) (by decide) (⟨hg16, by rw [sLb_0 hz6 hall6], by rw [sLb_0 hz6 hall6]; exact hr16⟩) dX12_leastBadness_19

set_option maxHeartbeats 4000000 in
set_option maxRecDepth 100000 in
theorem met_X12_leastBadnessForward (l : Launch) (D : va_G) (cs : Nat → ClassId) (A : Nat → Prop) (F : zF) (ob : Nat) (g : Nat → Nat) (sa : Nat) (so : Option Nat) (hL : List Nat) (tx inp out : List Int) (c0 : zCo) (sv : Option zCo) (hs : List zCo) (er fa : Int) (x : Int) (hlt : l.stackTraces = false)  (hg : gOb cs F ob g sa so hL tx inp out c0 sv hs er fa) (hx0 : InR x) (hwi : 4 ≤ cWi c0 ∧ cWi c0 ≤ 20) : zXM l D cs A yX12_leastBadnessForward cX12_leastBadnessForward 2 (some FieldType.int) 8 2 12 [.ref ob, .int (iI x)] F (pI (fun r F1 => gOb cs F1 ob g sa so hL tx inp out c0 sv hs er fa ∧ (sLb c0 x).1 = 0 ∧ (sLb c0 x).2 = r)) (fun E F1 => gOb cs F1 ob g sa so hL tx inp out c0 sv hs er fa ∧ (((sLb c0 x).1 = 1 ∧ E = "java/util/NoSuchElementException") ∨ ((sLb c0 x).1 = 2 ∧ E = "java/lang/UnsupportedOperationException"))) := by
  refine zX_of (own := RX12) (by decide) rfl (Nat.le_of_ble_eq_true rfl) ?_
  intro p e s m below meth c hC hr hlk hT hZ ls hl
  have hx := hC.x
  have hb := hC.b
  have hl : lv_has ls 2 [(0, .ref ob), (1, .int (iI x))] := hl
  have h0 : F ob = some (.inr (15, [.ref (g 0), .ref (g 2), .ref (g 4), .ref (g 6), .ref (g 9), .ref (g 11), .ref (g 14), .ref sa, va_rf so, .int (iI er), .int (iI fa)])) := hg.1
  have hs1 := hg.st
  have h8 := z_c8 hC hZ
  obtain ⟨-, hDis, hTx, hI, ⟨cap, hO⟩, ⟨wd0, st0, hLs⟩, ⟨hE1, e0, hE2⟩, ⟨pos0, L0, hR1, hR2⟩, hH, hSt⟩ := id hg
  obtain ⟨la, li, aL, iL, h9, ⟨ra, hla⟩, ⟨ri, hli⟩, has, his⟩ := id hs1
  have haL := has.1
  have hiL := his.1
  have ha10 := oL_10 hla
  have hi10 := oL_10 hli
  refine lv_aload_n hx hb dX12_leastBadnessForward_0 rfl (lv_at hl 0 rfl) ?_
  refine z_get (T := TX12) (N := 11) (ci := 15) (k := 4) (fs := [.ref (g 0), .ref (g 2), .ref (g 4), .ref (g 6), .ref (g 9), .ref (g 11), .ref (g 14), .ref sa, va_rf so, .int (iI er), .int (iI fa)]) (v := .ref (g 9)) hC hZ in_X12 rfl (by decide) ql_X12_38 rfl h0 rfl dX12_leastBadnessForward_1 ?_
  refine lv_aload_n hx hb dX12_leastBadnessForward_4 rfl (lv_at hl 0 rfl) ?_
  refine lv_iload_n hx hb dX12_leastBadnessForward_5 rfl (lv_at hl 1 rfl) ?_
  refine z_xcallr (z_xrunV (rest := [.ref (g 9)]) (As := [.int (iI x)]) (n := 1) (ci := 15) hC hZ (met_X12_knownNarrowArticle l D cs A F ob g sa so er fa c0 x hlt h0 hs1 hx0 hwi) gv_X12_238 hd_X12_knownNarrowArticle rfl h0 rfl hl rfl (Nat.le_of_ble_eq_true rfl) ⟨Nat.le_of_ble_eq_true rfl, Nat.le_of_ble_eq_true rfl⟩ ⟨Nat.le_of_ble_eq_true rfl, Nat.le_of_ble_eq_true rfl⟩ dX12_leastBadnessForward_6) hZ hT hlk (Nat.le_of_ble_eq_true rfl) (Nat.le_of_ble_eq_true rfl) (fun E F1 q => ⟨by rw [← q.1]; exact hg, q.2.elim (fun y => Or.inl ⟨by rw [sLb_1 y.1], y.2⟩) (fun y => Or.inr ⟨by obtain ⟨z9, y1, y2⟩ := y.1; rw [sLb_2 y1 y2], y.2⟩)⟩) (fun r6 F6 H locs hp6_c_1 hZ => ?_)
  obtain ⟨rfl, y6, hz6, ho6, hall6⟩ := hp6_c_1
  have hft6 : zfit (cWi c0) (zlens y6) := by obtain ⟨_, _, _, hok9⟩ := id ho6; exact zlens_fit hok9 hall6
  refine lv_aload_n hx hb dX12_leastBadnessForward_9 rfl (lv_at hl 0 rfl) ?_
  refine z_get (T := TX12) (N := 11) (ci := 15) (k := 7) (fs := [.ref (g 0), .ref (g 2), .ref (g 4), .ref (g 6), .ref (g 9), .ref (g 11), .ref (g 14), .ref sa, va_rf so, .int (iI er), .int (iI fa)]) (v := .ref sa) hC hZ in_X12 rfl (by decide) ql_X12_59 rfl h0 rfl dX12_leastBadnessForward_10 ?_
  refine z_getN (T := TX10) (N := 9) (ci := 13) (k := 4) (fs := [.ref la, .ref li, .int (iI (cNi c0)), .int (iI (cNn c0)), .int (iI (cWi c0)), .int (iI (cCo c0)), .int (iI (cHe c0)), .int (iI (cDa c0)), .int (iI (cLa c0))]) (v := .int (iI (cWi c0))) hC hZ in_X10 rfl (by decide) ql_X12_205 rfl h9 rfl dX12_leastBadnessForward_13 ?_
  refine z_calli (z_runV (rest := []) (As := [.ref r6, .int (iI (cWi c0))]) (n := 2) (ci := 9) hC hZ (met_X5_fromFirstWord l D cs A F (g 9) (g 10) r6 y6 (cWi c0) e0 hE1 hE2 ho6 hwi hft6) gv_X12_245 hd_X5_fromFirstWord rfl hE1 rfl hl rfl (Nat.le_of_ble_eq_true rfl) ⟨Nat.le_of_ble_eq_true rfl, Nat.le_of_ble_eq_true rfl⟩ ⟨Nat.le_of_ble_eq_true rfl, Nat.le_of_ble_eq_true rfl⟩ dX12_leastBadnessForward_16) hZ (fun r16 F16 H locs hp16_c_2 hZ => ?_)
  obtain ⟨hk16, ⟨e16, he16⟩, hr16⟩ := hp16_c_2
  have hg16 := hg.sE h8 hk16 he16
  refine vx_ret ?_
  exact z_iret hC hr hlk hZ (by decide) (by decide) (⟨hg16, by rw [sLb_0 hz6 hall6], by rw [sLb_0 hz6 hall6]; exact hr16⟩) dX12_leastBadnessForward_19
