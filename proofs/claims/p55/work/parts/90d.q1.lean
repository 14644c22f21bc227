theorem zfa_zix {l : List zAr} {x : Int} {i : Nat} (h : zix l x = some i) (hi : i < l.length) : zfa l x = some (l.getD i (0, 0, [])) ∧ l.getD i (0, 0, []) ∈ l := by
  have e : l[i]? = some (l.getD i (0, 0, [])) := by rw [List.getD_eq_getElem?_getD, List.getElem?_eq_getElem hi]; rfl
  exact ⟨zfa_ix h e, List.mem_of_getElem? e⟩
theorem zwd_y {a : zAr} {w : Int} (h0 : 0 ≤ w) (h1 : w < a.2.2.length) : zwd a w = some (a.2.2.getD w.toNat []) := by
  unfold zwd
  rw [if_pos h0, List.getD_eq_getElem?_getD, List.getElem?_eq_getElem (by omega)]
  rfl
theorem zwd_n {a : zAr} {w : Int} (h : ¬ (0 ≤ w ∧ w < a.2.2.length)) : zwd a w = none := by
  unfold zwd
  by_cases q : 0 ≤ w
  · rw [if_pos q, List.getElem?_eq_none (by omega)]
  · rw [if_neg q]
set_option maxHeartbeats 4000000 in
set_option maxRecDepth 100000 in
theorem met_X12_knownArticle (l : Launch) (D : va_G) (cs : Nat → ClassId) (A : Nat → Prop) (F : zF) (ob : Nat) (g : Nat → Nat) (sa : Nat) (so : Option Nat) (er fa : Int) (c0 : zCo) (x : Int) (hlt : l.stackTraces = false)  (h0 : F ob = some (.inr (15, [.ref (g 0), .ref (g 2), .ref (g 4), .ref (g 6), .ref (g 9), .ref (g 11), .ref (g 14), .ref sa, va_rf so, .int (iI er), .int (iI fa)]))) (hs1 : rSt cs F sa c0) (hx0 : InR x) : zXM l D cs A yX12_knownArticle cX12_knownArticle 3 (some (FieldType.object "StoneGazette$Article")) 6 1 6 [.ref ob, .int (iI x)] F (pR (fun r F1 => F = F1 ∧ ∃ y : zAr, zfa (cAr c0) x = some y ∧ y ∈ cAr c0 ∧ oAr cs F r y)) (fun E F1 => F = F1 ∧ zfa (cAr c0) x = none ∧ E = "java/util/NoSuchElementException") := by
  refine zX_of (own := RX12) (by decide) rfl (Nat.le_of_ble_eq_true rfl) ?_
  intro p e s m below meth c hC hr hlk hT hZ ls hl
  have hx := hC.x
  have hb := hC.b
  have hl : lv_has ls 3 [(0, .ref ob), (1, .int (iI x))] := hl
  refine lv_aload_n hx hb dX12_knownArticle_0 rfl (lv_at hl 0 rfl) ?_
  refine z_get (T := TX12) (N := 11) (ci := 15) (k := 7) (fs := [.ref (g 0), .ref (g 2), .ref (g 4), .ref (g 6), .ref (g 9), .ref (g 11), .ref (g 14), .ref sa, va_rf so, .int (iI er), .int (iI fa)]) (v := .ref sa) hC hZ in_X12 rfl (by decide) ql_X12_59 rfl h0 rfl dX12_knownArticle_1 ?_
  refine lv_iload_n hx hb dX12_knownArticle_4 rfl (lv_at hl 1 rfl) ?_
  obtain ⟨fsho_1, ho_1⟩ := (hs1).o
  refine z_callq (z_runV (rest := []) (As := [.int (iI x)]) (n := 1) (ci := 13) hC hZ (met_X10_findArticle l D cs A F sa c0 x hs1 (by omega)) gv_X12_393 hd_X10_findArticle rfl ho_1 rfl hl rfl (Nat.le_of_ble_eq_true rfl) ⟨Nat.le_of_ble_eq_true rfl, Nat.le_of_ble_eq_true rfl⟩ ⟨Nat.le_of_ble_eq_true rfl, Nat.le_of_ble_eq_true rfl⟩ dX12_knownArticle_5) hZ (fun r5 F5 H locs hp5_c_2 hZ => ?_)
  obtain ⟨rfl, hp5_c_2⟩ := hp5_c_2
  rcases hp5_c_2 with ⟨hz5, rfl⟩ | ⟨i5, q5, hz5, hil5, rfl, ho5⟩
  · skip
    have hno := zfa_none hz5
    refine lv_astore_nN (lv' := [(2, .null), (0, .ref ob), (1, .int (iI x))]) hx hb dX12_knownArticle_8 rfl hl (by decide) rfl (fun ls hl => ?_)
    refine lv_aload_nN hx hb dX12_knownArticle_9 rfl (lv_at hl 0 rfl) ?_
    refine lv_ifnonnullN hx hb dX12_knownArticle_10 ?_
    exact z_throwN (rest := []) hC hZ hlt hT hlk (List.mem_of_getElem? (i := 5) rfl) hl (Nat.le_of_ble_eq_true rfl) (Nat.le_of_ble_eq_true rfl) (Nat.le_of_ble_eq_true rfl) (Nat.le_of_ble_eq_true rfl) (Nat.le_of_ble_eq_true rfl) (Nat.le_of_ble_eq_true rfl) (⟨rfl, hno, rfl⟩) dX12_knownArticle_13 dX12_knownArticle_16 (Or.inl ⟨dX12_knownArticle_17, rfl⟩) dX12_knownArticle_19 dX12_knownArticle_22
  · skip
    have hyes := zfa_zix hz5 hil5
    refine lv_astore_n (lv' := [(2, .ref q5), (0, .ref ob), (1, .int (iI x))]) hx hb dX12_knownArticle_8 rfl hl (by decide) rfl (fun ls hl => ?_)
    refine lv_aload_n hx hb dX12_knownArticle_9 rfl (lv_at hl 0 rfl) ?_
    refine lv_ifnonnull (tgt := 23) hx hb dX12_knownArticle_10 (by decide) ?_
    refine lv_aload_n hx hb dX12_knownArticle_23 rfl (lv_at hl 0 rfl) ?_
    refine vx_ret ?_
    exact z_aret hC hr (Or.inl ⟨_, rfl⟩) hlk hZ (by decide) (by decide) (⟨rfl, _, hyes.1, hyes.2, ho5⟩) dX12_knownArticle_24

set_option maxHeartbeats 4000000 in
set_option maxRecDepth 100000 in
theorem met_X12_priority (l : Launch) (D : va_G) (cs : Nat → ClassId) (A : Nat → Prop) (F : zF) (ob : Nat) (g : Nat → Nat) (sa : Nat) (so : Option Nat) (er fa : Int) (c0 : zCo) (x : Int) (hlt : l.stackTraces = false)  (h0 : F ob = some (.inr (15, [.ref (g 0), .ref (g 2), .ref (g 4), .ref (g 6), .ref (g 9), .ref (g 11), .ref (g 14), .ref sa, va_rf so, .int (iI er), .int (iI fa)]))) (hs1 : rSt cs F sa c0) (hx0 : InR x) : zXM l D cs A yX12_priority cX12_priority 2 (some FieldType.int) 7 1 6 [.ref ob, .int (iI x)] F (pI (fun r F1 => F = F1 ∧ (sPrio c0 x).1 = 0 ∧ (sPrio c0 x).2 = r)) (fun E F1 => F = F1 ∧ (((sPrio c0 x).1 = 1 ∧ E = "java/util/NoSuchElementException"))) := by
  refine zX_of (own := RX12) (by decide) rfl (Nat.le_of_ble_eq_true rfl) ?_
  intro p e s m below meth c hC hr hlk hT hZ ls hl
  have hx := hC.x
  have hb := hC.b
  have hl : lv_has ls 2 [(0, .ref ob), (1, .int (iI x))] := hl
  refine lv_aload_n hx hb dX12_priority_0 rfl (lv_at hl 0 rfl) ?_
  refine lv_iload_n hx hb dX12_priority_1 rfl (lv_at hl 1 rfl) ?_
  refine z_xcallr (z_xrunV (rest := []) (As := [.int (iI x)]) (n := 1) (ci := 15) hC hZ (met_X12_knownArticle l D cs A F ob g sa so er fa c0 x hlt h0 hs1 (by omega)) gv_X12_181 hd_X12_knownArticle rfl h0 rfl hl rfl (Nat.le_of_ble_eq_true rfl) ⟨Nat.le_of_ble_eq_true rfl, Nat.le_of_ble_eq_true rfl⟩ ⟨Nat.le_of_ble_eq_true rfl, Nat.le_of_ble_eq_true rfl⟩ dX12_priority_2) hZ hT hlk (Nat.le_of_ble_eq_true rfl) (Nat.le_of_ble_eq_true rfl) (fun E F1 q => ⟨q.1, ⟨by unfold sPrio; rw [q.2.1], q.2.2⟩⟩) (fun r2 F2 H locs hp2_c_1 hZ => ?_)
  obtain ⟨rfl, y2, hz2, hm2, ho2⟩ := hp2_c_1
  obtain ⟨wa2, yo2, yw2, yk2⟩ := id ho2
  obtain ⟨fw2, yv2, ye2⟩ := id yw2
  have yk12 := yk2.1
  have yk22 := yk2.2.1
  have yk32 := yk2.2.2.1
  refine z_getN (T := TX1) (N := 3) (ci := 5) (k := 1) (fs := [.int (iI y2.1), .int (iI y2.2.1), .ref wa2]) (v := .int (iI y2.2.1)) hC hZ in_X1 rfl (by decide) ql_X12_184 rfl yo2 rfl dX12_priority_5 ?_
  refine vx_ret ?_
  exact z_iret hC hr hlk hZ (by decide) (by decide) (⟨rfl, by unfold sPrio; rw [hz2], by unfold sPrio; rw [hz2]⟩) dX12_priority_8

set_option maxHeartbeats 4000000 in
set_option maxRecDepth 100000 in
theorem met_X12_wordCount (l : Launch) (D : va_G) (cs : Nat → ClassId) (A : Nat → Prop) (F : zF) (ob : Nat) (g : Nat → Nat) (sa : Nat) (so : Option Nat) (er fa : Int) (c0 : zCo) (x : Int) (hlt : l.stackTraces = false)  (h0 : F ob = some (.inr (15, [.ref (g 0), .ref (g 2), .ref (g 4), .ref (g 6), .ref (g 9), .ref (g 11), .ref (g 14), .ref sa, va_rf so, .int (iI er), .int (iI fa)]))) (hs1 : rSt cs F sa c0) (hx0 : InR x) : zXM l D cs A yX12_wordCount cX12_wordCount 2 (some FieldType.int) 7 1 6 [.ref ob, .int (iI x)] F (pI (fun r F1 => F = F1 ∧ (sWcnt c0 x).1 = 0 ∧ (sWcnt c0 x).2 = r)) (fun E F1 => F = F1 ∧ (((sWcnt c0 x).1 = 1 ∧ E = "java/util/NoSuchElementException"))) := by
  refine zX_of (own := RX12) (by decide) rfl (Nat.le_of_ble_eq_true rfl) ?_
  intro p e s m below meth c hC hr hlk hT hZ ls hl
  have hx := hC.x
  have hb := hC.b
  have hl : lv_has ls 2 [(0, .ref ob), (1, .int (iI x))] := hl
  refine lv_aload_n hx hb dX12_wordCount_0 rfl (lv_at hl 0 rfl) ?_
  refine lv_iload_n hx hb dX12_wordCount_1 rfl (lv_at hl 1 rfl) ?_
  refine z_xcallr (z_xrunV (rest := []) (As := [.int (iI x)]) (n := 1) (ci := 15) hC hZ (met_X12_knownArticle l D cs A F ob g sa so er fa c0 x hlt h0 hs1 (by omega)) gv_X12_181 hd_X12_knownArticle rfl h0 rfl hl rfl (Nat.le_of_ble_eq_true rfl) ⟨Nat.le_of_ble_eq_true rfl, Nat.le_of_ble_eq_true rfl⟩ ⟨Nat.le_of_ble_eq_true rfl, Nat.le_of_ble_eq_true rfl⟩ dX12_wordCount_2) hZ hT hlk (Nat.le_of_ble_eq_true rfl) (Nat.le_of_ble_eq_true rfl) (fun E F1 q => ⟨q.1, ⟨by unfold sWcnt; rw [q.2.1], q.2.2⟩⟩) (fun r2 F2 H locs hp2_c_1 hZ => ?_)
  obtain ⟨rfl, y2, hz2, hm2, ho2⟩ := hp2_c_1
  obtain ⟨wa2, yo2, yw2, yk2⟩ := id ho2
  obtain ⟨fw2, yv2, ye2⟩ := id yw2
  have yk12 := yk2.1
  have yk22 := yk2.2.1
  have yk32 := yk2.2.2.1
  refine z_getN (T := TX1) (N := 3) (ci := 5) (k := 2) (fs := [.int (iI y2.1), .int (iI y2.2.1), .ref wa2]) (v := .ref wa2) hC hZ in_X1 rfl (by decide) ql_X12_187 rfl yo2 rfl dX12_wordCount_5 ?_
  refine z_alen (t := 4) hC hZ yv2 rfl dX12_wordCount_8 ?_
  refine vx_ret ?_
  exact z_iret hC hr hlk hZ (by decide) (by decide) (⟨rfl, by unfold sWcnt; rw [hz2], by unfold sWcnt; rw [hz2]⟩) dX12_wordCount_9

set_option maxHeartbeats 4000000 in
set_option maxRecDepth 100000 in
theorem met_X12_knownWord (l : Launch) (D : va_G) (cs : Nat → ClassId) (A : Nat → Prop) (F : zF) (ob : Nat) (g : Nat → Nat) (sa : Nat) (so : Option Nat) (er fa : Int) (c0 : zCo) (x z : Int) (hlt : l.stackTraces = false)  (h0 : F ob = some (.inr (15, [.ref (g 0), .ref (g 2), .ref (g 4), .ref (g 6), .ref (g 9), .ref (g 11), .ref (g 14), .ref sa, va_rf so, .int (iI er), .int (iI fa)]))) (hs1 : rSt cs F sa c0) (hx0 : InR x) (hz0 : InR z) : zXM l D cs A yX12_knownWord cX12_knownWord 4 (some (FieldType.object "StoneGazette$Word")) 7 2 12 [.ref ob, .int (iI x), .int (iI z)] F (pR (fun r F1 => F = F1 ∧ ∃ (y : zAr) (wd : zWd), zfa (cAr c0) x = some y ∧ zwd y z = some wd ∧ oWd cs F r wd)) (fun E F1 => F = F1 ∧ ((zfa (cAr c0) x = none ∧ E = "java/util/NoSuchElementException") ∨ ((∃ y : zAr, zfa (cAr c0) x = some y ∧ zwd y z = none) ∧ E = "java/lang/IndexOutOfBoundsException"))) := by
  refine zX_of (own := RX12) (by decide) rfl (Nat.le_of_ble_eq_true rfl) ?_
  intro p e s m below meth c hC hr hlk hT hZ ls hl
  have hx := hC.x
  have hb := hC.b
  have hl : lv_has ls 4 [(0, .ref ob), (1, .int (iI x)), (2, .int (iI z))] := hl
  refine lv_aload_n hx hb dX12_knownWord_0 rfl (lv_at hl 0 rfl) ?_
  refine lv_iload_n hx hb dX12_knownWord_1 rfl (lv_at hl 1 rfl) ?_
  refine z_xcallr (z_xrunV (rest := []) (As := [.int (iI x)]) (n := 1) (ci := 15) hC hZ (met_X12_knownArticle l D cs A F ob g sa so er fa c0 x hlt h0 hs1 (by omega)) gv_X12_181 hd_X12_knownArticle rfl h0 rfl hl rfl (Nat.le_of_ble_eq_true rfl) ⟨Nat.le_of_ble_eq_true rfl, Nat.le_of_ble_eq_true rfl⟩ ⟨Nat.le_of_ble_eq_true rfl, Nat.le_of_ble_eq_true rfl⟩ dX12_knownWord_2) hZ hT hlk (Nat.le_of_ble_eq_true rfl) (Nat.le_of_ble_eq_true rfl) (fun E F1 q => ⟨q.1, Or.inl q.2⟩) (fun r2 F2 H locs hp2_c_1 hZ => ?_)
  obtain ⟨rfl, y2, hz2, hm2, ho2⟩ := hp2_c_1
  obtain ⟨wa2, yo2, yw2, yk2⟩ := id ho2
  obtain ⟨fw2, yv2, ye2⟩ := id yw2
  have yk12 := yk2.1
  have yk22 := yk2.2.1
  have yk32 := yk2.2.2.1
  refine lv_astore_n (lv' := [(3, .ref r2), (0, .ref ob), (1, .int (iI x)), (2, .int (iI z))]) hx hb dX12_knownWord_5 rfl hl (by decide) rfl (fun ls hl => ?_)
  refine lv_iload_n hx hb dX12_knownWord_6 rfl (lv_at hl 3 rfl) ?_
  refine z_if_lt (tgt := 19) hx hb dX12_knownWord_7 (by decide) (by omega) (fun c_2 => ?_) (fun c_2 => ?_)
  · skip
    exact z_throwW (rest := []) hC hZ hlt hT hlk zth_e4 zth_g4 zth_o4 zth_k4 zth_i4 (by decide) (List.mem_of_getElem? (i := 22) rfl) hl (Nat.le_of_ble_eq_true rfl) (Nat.le_of_ble_eq_true rfl) (Nat.le_of_ble_eq_true rfl) (Nat.le_of_ble_eq_true rfl) (Nat.le_of_ble_eq_true rfl) (Nat.le_of_ble_eq_true rfl) (⟨rfl, Or.inr ⟨⟨y2, hz2, zwd_n (by omega)⟩, rfl⟩⟩) dX12_knownWord_19 dX12_knownWord_22 dX12_knownWord_23 dX12_knownWord_26 dX12_knownWord_29
  · skip
    refine lv_iload_n hx hb dX12_knownWord_10 rfl (lv_at hl 3 rfl) ?_
    refine lv_aload_n hx hb dX12_knownWord_11 rfl (lv_at hl 0 rfl) ?_
    refine z_getN (T := TX1) (N := 3) (ci := 5) (k := 2) (fs := [.int (iI y2.1), .int (iI y2.2.1), .ref wa2]) (v := .ref wa2) hC hZ in_X1 rfl (by decide) ql_X12_187 rfl yo2 rfl dX12_knownWord_12 ?_
    refine z_alen (t := 4) hC hZ yv2 rfl dX12_knownWord_15 ?_
    refine z_icmp_lt (tgt := 30) hx hb dX12_knownWord_16 (by decide) (by omega) (by omega) (fun c_3 => ?_) (fun c_3 => ?_)
    · skip
      refine lv_aload_n hx hb dX12_knownWord_30 rfl (lv_at hl 0 rfl) ?_
      refine z_getN (T := TX1) (N := 3) (ci := 5) (k := 2) (fs := [.int (iI y2.1), .int (iI y2.2.1), .ref wa2]) (v := .ref wa2) hC hZ in_X1 rfl (by decide) ql_X12_187 rfl yo2 rfl dX12_knownWord_31 ?_
      refine lv_iload_n hx hb dX12_knownWord_34 rfl (lv_at hl 3 rfl) ?_
      obtain ⟨q35, hq35, hwd35⟩ := ye2 z (by omega) (by omega)
      refine z_aald (t := 4) (C := "StoneGazette$Word") (v := (some q35)) hC hZ yv2 rfl (by omega) (by omega) hq35 dX12_knownWord_35 ?_
      refine vx_ret ?_
      exact z_aret hC hr (Or.inl ⟨_, rfl⟩) hlk hZ (by decide) (by decide) (⟨rfl, y2, _, hz2, zwd_y (by omega) (by omega), hwd35⟩) dX12_knownWord_36
    · skip
      exact z_throwW (rest := []) hC hZ hlt hT hlk zth_e4 zth_g4 zth_o4 zth_k4 zth_i4 (by decide) (List.mem_of_getElem? (i := 22) rfl) hl (Nat.le_of_ble_eq_true rfl) (Nat.le_of_ble_eq_true rfl) (Nat.le_of_ble_eq_true rfl) (Nat.le_of_ble_eq_true rfl) (Nat.le_of_ble_eq_true rfl) (Nat.le_of_ble_eq_true rfl) (⟨rfl, Or.inr ⟨⟨y2, hz2, zwd_n (by omega)⟩, rfl⟩⟩) dX12_knownWord_19 dX12_knownWord_22 dX12_knownWord_23 dX12_knownWord_26 dX12_knownWord_29

theorem sWord_1 {c : zCo} {x z : Int} {f : zWd → Int} (h : zfa (cAr c) x = none) : sWord c x z f = (1, 0) := by unfold sWord; rw [h]
theorem sWord_2 {c : zCo} {x z : Int} {f : zWd → Int} (h : ∃ y : zAr, zfa (cAr c) x = some y ∧ zwd y z = none) : sWord c x z f = (2, 0) := by
  obtain ⟨y, h1, h2⟩ := h
  unfold sWord; rw [h1]; simp only []; rw [h2]
theorem sWord_0 {c : zCo} {x z : Int} {f : zWd → Int} {y : zAr} {wd : zWd} (h1 : zfa (cAr c) x = some y) (h2 : zwd y z = some wd) : sWord c x z f = (0, f wd) := by
  unfold sWord; rw [h1]; simp only []; rw [h2]
theorem sCan_y {p : Int} {w : zWd} (h : cutOK w p) : sCan p w = 1 := if_pos h
theorem sCan_n {p : Int} {w : zWd} (h : ¬ cutOK w p) : sCan p w = 0 := if_neg h
set_option maxHeartbeats 4000000 in
set_option maxRecDepth 100000 in
theorem met_X12_wordLength (l : Launch) (D : va_G) (cs : Nat → ClassId) (A : Nat → Prop) (F : zF) (ob : Nat) (g : Nat → Nat) (sa : Nat) (so : Option Nat) (er fa : Int) (c0 : zCo) (x z : Int) (hlt : l.stackTraces = false)  (h0 : F ob = some (.inr (15, [.ref (g 0), .ref (g 2), .ref (g 4), .ref (g 6), .ref (g 9), .ref (g 11), .ref (g 14), .ref sa, va_rf so, .int (iI er), .int (iI fa)]))) (hs1 : rSt cs F sa c0) (hx0 : InR x) (hz0 : InR z) : zXM l D cs A yX12_wordLength cX12_wordLength 3 (some FieldType.int) 8 2 12 [.ref ob, .int (iI x), .int (iI z)] F (pI (fun r F1 => F = F1 ∧ (sWord c0 x z (fun wd => wd.length)).1 = 0 ∧ (sWord c0 x z (fun wd => wd.length)).2 = r)) (fun E F1 => F = F1 ∧ (((sWord c0 x z (fun wd => wd.length)).1 = 1 ∧ E = "java/util/NoSuchElementException") ∨ ((sWord c0 x z (fun wd => wd.length)).1 = 2 ∧ E = "java/lang/IndexOutOfBoundsException"))) := by
  refine zX_of (own := RX12) (by decide) rfl (Nat.le_of_ble_eq_true rfl) ?_
  intro p e s m below meth c hC hr hlk hT hZ ls hl
  have hx := hC.x
  have hb := hC.b
  have hl : lv_has ls 3 [(0, .ref ob), (1, .int (iI x)), (2, .int (iI z))] := hl
  refine lv_aload_n hx hb dX12_wordLength_0 rfl (lv_at hl 0 rfl) ?_
  refine lv_iload_n hx hb dX12_wordLength_1 rfl (lv_at hl 1 rfl) ?_
  refine lv_iload_n hx hb dX12_wordLength_2 rfl (lv_at hl 2 rfl) ?_
  refine z_xcallr (z_xrunV (rest := []) (As := [.int (iI x), .int (iI z)]) (n := 2) (ci := 15) hC hZ (met_X12_knownWord l D cs A F ob g sa so er fa c0 x z hlt h0 hs1 hx0 hz0) gv_X12_140 hd_X12_knownWord rfl h0 rfl hl rfl (Nat.le_of_ble_eq_true rfl) ⟨Nat.le_of_ble_eq_true rfl, Nat.le_of_ble_eq_true rfl⟩ ⟨Nat.le_of_ble_eq_true rfl, Nat.le_of_ble_eq_true rfl⟩ dX12_wordLength_3) hZ hT hlk (Nat.le_of_ble_eq_true rfl) (Nat.le_of_ble_eq_true rfl) (fun E F1 q => ⟨q.1, q.2.elim (fun y => Or.inl ⟨by rw [sWord_1 y.1], y.2⟩) (fun y => Or.inr ⟨by rw [sWord_2 y.1], y.2⟩)⟩) (fun r3 F3 H locs hp3_c_1 hZ => ?_)
  obtain ⟨rfl, y3, wd3, hz3, hw3, ho3⟩ := hp3_c_1
  obtain ⟨fsho_2, ho_2⟩ := (ho3).o
  refine z_calli (z_runV (rest := []) (As := []) (n := 0) (ci := 14) hC hZ (met_X11_letterCount l D cs A F r3 wd3 ho3) gv_X12_156 hd_X11_letterCount rfl ho_2 rfl hl rfl (Nat.le_of_ble_eq_true rfl) ⟨Nat.le_of_ble_eq_true rfl, Nat.le_of_ble_eq_true rfl⟩ ⟨Nat.le_of_ble_eq_true rfl, Nat.le_of_ble_eq_true rfl⟩ dX12_wordLength_6) hZ (fun r6 F6 H locs hp6_c_3 hZ => ?_)
  obtain ⟨rfl, rfl⟩ := hp6_c_3
  refine vx_ret ?_
  exact z_iret hC hr hlk hZ (by decide) (by decide) (⟨rfl, by rw [sWord_0 hz3 hw3], by rw [sWord_0 hz3 hw3]⟩) dX12_wordLength_9

set_option maxHeartbeats 4000000 in
set_option maxRecDepth 100000 in
theorem met_X12_divisions (l : Launch) (D : va_G) (cs : Nat → ClassId) (A : Nat → Prop) (F : zF) (ob : Nat) (g : Nat → Nat) (sa : Nat) (so : Option Nat) (er fa : Int) (c0 : zCo) (x z : Int) (hlt : l.stackTraces = false)  (h0 : F ob = some (.inr (15, [.ref (g 0), .ref (g 2), .ref (g 4), .ref (g 6), .ref (g 9), .ref (g 11), .ref (g 14), .ref sa, va_rf so, .int (iI er), .int (iI fa)]))) (hs1 : rSt cs F sa c0) (hx0 : InR x) (hz0 : InR z) : zXM l D cs A yX12_divisions cX12_divisions 3 (some FieldType.int) 8 2 12 [.ref ob, .int (iI x), .int (iI z)] F (pI (fun r F1 => F = F1 ∧ (sWord c0 x z sDiv).1 = 0 ∧ (sWord c0 x z sDiv).2 = r)) (fun E F1 => F = F1 ∧ (((sWord c0 x z sDiv).1 = 1 ∧ E = "java/util/NoSuchElementException") ∨ ((sWord c0 x z sDiv).1 = 2 ∧ E = "java/lang/IndexOutOfBoundsException"))) := by
  refine zX_of (own := RX12) (by decide) rfl (Nat.le_of_ble_eq_true rfl) ?_
  intro p e s m below meth c hC hr hlk hT hZ ls hl
  have hx := hC.x
  have hb := hC.b
  have hl : lv_has ls 3 [(0, .ref ob), (1, .int (iI x)), (2, .int (iI z))] := hl
  refine lv_aload_n hx hb dX12_divisions_0 rfl (lv_at hl 0 rfl) ?_
  refine lv_iload_n hx hb dX12_divisions_1 rfl (lv_at hl 1 rfl) ?_
  refine lv_iload_n hx hb dX12_divisions_2 rfl (lv_at hl 2 rfl) ?_
  refine z_xcallr (z_xrunV (rest := []) (As := [.int (iI x), .int (iI z)]) (n := 2) (ci := 15) hC hZ (met_X12_knownWord l D cs A F ob g sa so er fa c0 x z hlt h0 hs1 hx0 hz0) gv_X12_140 hd_X12_knownWord rfl h0 rfl hl rfl (Nat.le_of_ble_eq_true rfl) ⟨Nat.le_of_ble_eq_true rfl, Nat.le_of_ble_eq_true rfl⟩ ⟨Nat.le_of_ble_eq_true rfl, Nat.le_of_ble_eq_true rfl⟩ dX12_divisions_3) hZ hT hlk (Nat.le_of_ble_eq_true rfl) (Nat.le_of_ble_eq_true rfl) (fun E F1 q => ⟨q.1, q.2.elim (fun y => Or.inl ⟨by rw [sWord_1 y.1], y.2⟩) (fun y => Or.inr ⟨by rw [sWord_2 y.1], y.2⟩)⟩) (fun r3 F3 H locs hp3_c_1 hZ => ?_)
  obtain ⟨rfl, y3, wd3, hz3, hw3, ho3⟩ := hp3_c_1
  obtain ⟨fsho_2, ho_2⟩ := (ho3).o
  refine z_calli (z_runV (rest := []) (As := []) (n := 0) (ci := 14) hC hZ (met_X11_countCuts l D cs A F r3 wd3 ho3) gv_X12_191 hd_X11_countCuts rfl ho_2 rfl hl rfl (Nat.le_of_ble_eq_true rfl) ⟨Nat.le_of_ble_eq_true rfl, Nat.le_of_ble_eq_true rfl⟩ ⟨Nat.le_of_ble_eq_true rfl, Nat.le_of_ble_eq_true rfl⟩ dX12_divisions_6) hZ (fun r6 F6 H locs hp6_c_3 hZ => ?_)
  obtain ⟨rfl, rfl⟩ := hp6_c_3
  refine vx_ret ?_
  exact z_iret hC hr hlk hZ (by decide) (by decide) (⟨rfl, by rw [sWord_0 hz3 hw3], by rw [sWord_0 hz3 hw3]⟩) dX12_divisions_9

set_option maxHeartbeats 4000000 in
set_option maxRecDepth 100000 in
theorem met_X12_canDivide (l : Launch) (D : va_G) (cs : Nat → ClassId) (A : Nat → Prop) (F : zF) (ob : Nat) (g : Nat → Nat) (sa : Nat) (so : Option Nat) (er fa : Int) (c0 : zCo) (x z w9 : Int) (hlt : l.stackTraces = false)  (h0 : F ob = some (.inr (15, [.ref (g 0), .ref (g 2), .ref (g 4), .ref (g 6), .ref (g 9), .ref (g 11), .ref (g 14), .ref sa, va_rf so, .int (iI er), .int (iI fa)]))) (hs1 : rSt cs F sa c0) (hx0 : InR x) (hz0 : InR z) (hw9 : InR w9) : zXM l D cs A yX12_canDivide cX12_canDivide 4 (some FieldType.boolean) 8 2 12 [.ref ob, .int (iI x), .int (iI z), .int (iI w9)] F (pI (fun r F1 => F = F1 ∧ (sWord c0 x z (sCan w9)).1 = 0 ∧ (sWord c0 x z (sCan w9)).2 = r)) (fun E F1 => F = F1 ∧ (((sWord c0 x z (sCan w9)).1 = 1 ∧ E = "java/util/NoSuchElementException") ∨ ((sWord c0 x z (sCan w9)).1 = 2 ∧ E = "java/lang/IndexOutOfBoundsException"))) := by
  refine zX_of (own := RX12) (by decide) rfl (Nat.le_of_ble_eq_true rfl) ?_
  intro p e s m below meth c hC hr hlk hT hZ ls hl
  have hx := hC.x
  have hb := hC.b
  have hl : lv_has ls 4 [(0, .ref ob), (1, .int (iI x)), (2, .int (iI z)), (3, .int (iI w9))] := hl
  refine lv_aload_n hx hb dX12_canDivide_0 rfl (lv_at hl 0 rfl) ?_
  refine lv_iload_n hx hb dX12_canDivide_1 rfl (lv_at hl 1 rfl) ?_
  refine lv_iload_n hx hb dX12_canDivide_2 rfl (lv_at hl 2 rfl) ?_
  refine z_xcallr (z_xrunV (rest := []) (As := [.int (iI x), .int (iI z)]) (n := 2) (ci := 15) hC hZ (met_X12_knownWord l D cs A F ob g sa so er fa c0 x z hlt h0 hs1 hx0 hz0) gv_X12_140 hd_X12_knownWord rfl h0 rfl hl rfl (Nat.le_of_ble_eq_true rfl) ⟨Nat.le_of_ble_eq_true rfl, Nat.le_of_ble_eq_true rfl⟩ ⟨Nat.le_of_ble_eq_true rfl, Nat.le_of_ble_eq_true rfl⟩ dX12_canDivide_3) hZ hT hlk (Nat.le_of_ble_eq_true rfl) (Nat.le_of_ble_eq_true rfl) (fun E F1 q => ⟨q.1, q.2.elim (fun y => Or.inl ⟨by rw [sWord_1 y.1], y.2⟩) (fun y => Or.inr ⟨by rw [sWord_2 y.1], y.2⟩)⟩) (fun r3 F3 H locs hp3_c_1 hZ => ?_)
  obtain ⟨rfl, y3, wd3, hz3, hw3, ho3⟩ := hp3_c_1
  refine lv_iload_n hx hb dX12_canDivide_6 rfl (lv_at hl 3 rfl) ?_
  obtain ⟨fsho_2, ho_2⟩ := (ho3).o
  refine z_calli (z_runV (rest := []) (As := [.int (iI w9)]) (n := 1) (ci := 14) hC hZ (met_X11_hasCutAt l D cs A F r3 wd3 w9 ho3 hw9) gv_X12_194 hd_X11_hasCutAt rfl ho_2 rfl hl rfl (Nat.le_of_ble_eq_true rfl) ⟨Nat.le_of_ble_eq_true rfl, Nat.le_of_ble_eq_true rfl⟩ ⟨Nat.le_of_ble_eq_true rfl, Nat.le_of_ble_eq_true rfl⟩ dX12_canDivide_7) hZ (fun r7 F7 H locs hp7_c_3 hZ => ?_)
  obtain ⟨rfl, hp7_c_3⟩ := hp7_c_3
  have hcd := hp7_c_3
  have hcr : r7 = 0 ∨ r7 = 1 := by omega
  refine vx_ret ?_
  exact z_zret hC hr hlk hZ (iI_zr (by omega)) (by decide) (by decide) (⟨rfl, by rw [sWord_0 hz3 hw3], by rw [sWord_0 hz3 hw3]; exact hcd.elim (fun y => by rw [y.2]; exact sCan_y y.1) (fun y => by rw [y.2]; exact sCan_n y.1)⟩) dX12_canDivide_10
