theorem sArt_0 {c : zCo} {k : Int} (h0 : 0 ≤ k) (h1 : k < (cAr c).length) : sArt c k = (0, ((cAr c).getD k.toNat (0, 0, [])).1) := by
  unfold sArt
  rw [if_pos h0, gDA h0 h1]
theorem sArt_1 {c : zCo} {k : Int} (h : ¬ (0 ≤ k ∧ k < (cAr c).length)) : sArt c k = (1, 0) := by
  unfold sArt
  by_cases q : 0 ≤ k
  · rw [if_pos q, List.getElem?_eq_none (by omega)]
  · rw [if_neg q]
theorem zfi_mem {l : List zIs} {x : Int} {s : zIs} (h : zfi l x = some s) : s ∈ l := List.mem_of_find?_eq_some h
theorem sIss_1 {c : zCo} {x : Int} {f : zIs → Int} (h : zfi (cIs c) x = none) : sIss c x f = (1, 0) := by unfold sIss; rw [h]
theorem sIss_0 {c : zCo} {x : Int} {f : zIs → Int} {s : zIs} (h : zfi (cIs c) x = some s) : sIss c x f = (0, f s) := by unfold sIss; rw [h]
theorem sPos_1 {c : zCo} {x y : Int} {f : zIs → Int → Int} (h : zfi (cIs c) x = none) : sPos c x y f = (1, 0) := by unfold sPos; rw [h]
theorem sPos_2 {c : zCo} {x y : Int} {f : zIs → Int → Int} {s : zIs} (h : zfi (cIs c) x = some s) (h2 : zft s y = none) : sPos c x y f = (1, 0) := by unfold sPos; rw [h]; simp only []; rw [h2]
theorem sPos_0 {c : zCo} {x y : Int} {f : zIs → Int → Int} {s : zIs} {k : Int} (h : zfi (cIs c) x = some s) (h2 : zft s y = some k) : sPos c x y f = (0, f s k) := by unfold sPos; rw [h]; simp only []; rw [h2]
set_option maxHeartbeats 4000000 in
set_option maxRecDepth 100000 in
theorem met_X12_article (l : Launch) (D : va_G) (cs : Nat → ClassId) (A : Nat → Prop) (F : zF) (ob : Nat) (g : Nat → Nat) (sa : Nat) (so : Option Nat) (er fa : Int) (c0 : zCo) (x : Int) (hlt : l.stackTraces = false)  (h0 : F ob = some (.inr (15, [.ref (g 0), .ref (g 2), .ref (g 4), .ref (g 6), .ref (g 9), .ref (g 11), .ref (g 14), .ref sa, va_rf so, .int (iI er), .int (iI fa)]))) (hs1 : rSt cs F sa c0) (hx0 : InR x) : zXM l D cs A yX12_article cX12_article 2 (some FieldType.int) 6 1 6 [.ref ob, .int (iI x)] F (pI (fun r F1 => F = F1 ∧ (sArt c0 x).1 = 0 ∧ (sArt c0 x).2 = r)) (fun E F1 => F = F1 ∧ (((sArt c0 x).1 = 1 ∧ E = "java/lang/IndexOutOfBoundsException"))) := by
  refine zX_of (own := RX12) (by decide) rfl (Nat.le_of_ble_eq_true rfl) ?_
  intro p e s m below meth c hC hr hlk hT hZ ls hl
  have hx := hC.x
  have hb := hC.b
  have hl : lv_has ls 2 [(0, .ref ob), (1, .int (iI x))] := hl
  obtain ⟨la, li, aL, iL, h9, ⟨ra, hla⟩, ⟨ri, hli⟩, has, his⟩ := id hs1
  have haL := has.1
  have hiL := his.1
  have ha10 := oL_10 hla
  have hi10 := oL_10 hli
  refine lv_iload_n hx hb dX12_article_0 rfl (lv_at hl 1 rfl) ?_
  refine z_if_lt (tgt := 18) hx hb dX12_article_1 (by decide) (by omega) (fun c_1 => ?_) (fun c_1 => ?_)
  · skip
    exact z_throw (rest := []) hC hZ hlt hT hlk zth_e4 zth_g4 zth_o4 zth_k4 zth_i4 (by decide) (List.mem_of_getElem? (i := 7) rfl) hl (Nat.le_of_ble_eq_true rfl) (Nat.le_of_ble_eq_true rfl) (Nat.le_of_ble_eq_true rfl) (Nat.le_of_ble_eq_true rfl) (Nat.le_of_ble_eq_true rfl) (Nat.le_of_ble_eq_true rfl) (⟨rfl, by rw [sArt_1 (by omega)], rfl⟩) dX12_article_18 dX12_article_21 dX12_article_22 dX12_article_24 dX12_article_27
  · skip
    refine lv_iload_n hx hb dX12_article_4 rfl (lv_at hl 1 rfl) ?_
    refine lv_aload_n hx hb dX12_article_5 rfl (lv_at hl 0 rfl) ?_
    refine z_get (T := TX12) (N := 11) (ci := 15) (k := 7) (fs := [.ref (g 0), .ref (g 2), .ref (g 4), .ref (g 6), .ref (g 9), .ref (g 11), .ref (g 14), .ref sa, va_rf so, .int (iI er), .int (iI fa)]) (v := .ref sa) hC hZ in_X12 rfl (by decide) ql_X12_59 rfl h0 rfl dX12_article_6 ?_
    refine z_getN (T := TX10) (N := 9) (ci := 13) (k := 0) (fs := [.ref la, .ref li, .int (iI (cNi c0)), .int (iI (cNn c0)), .int (iI (cWi c0)), .int (iI (cCo c0)), .int (iI (cHe c0)), .int (iI (cDa c0)), .int (iI (cLa c0))]) (v := .ref la) hC hZ in_X10 rfl (by decide) ql_X12_98 rfl h9 rfl dX12_article_9 ?_
    obtain ⟨fsho_2, ho_2⟩ := (hla).o
    refine z_calli (z_runV (rest := [.int (iI x)]) (As := []) (n := 0) (ci := 4) hC hZ (met_Jx4a65c_size_8abf5 l D cs A F la ra aL hla) gv_X12_101 hd_Jx4a65c_size_8abf5 rfl ho_2 rfl hl rfl (Nat.le_of_ble_eq_true rfl) ⟨Nat.le_of_ble_eq_true rfl, Nat.le_of_ble_eq_true rfl⟩ ⟨Nat.le_of_ble_eq_true rfl, Nat.le_of_ble_eq_true rfl⟩ dX12_article_12) hZ (fun r12 F12 H locs hp12_c_3 hZ => ?_)
    obtain ⟨rfl, rfl⟩ := hp12_c_3
    refine z_icmp_lt (tgt := 28) hx hb dX12_article_15 (by decide) (by omega) (by omega) (fun c_4 => ?_) (fun c_4 => ?_)
    · skip
      refine lv_aload_n hx hb dX12_article_28 rfl (lv_at hl 0 rfl) ?_
      refine z_get (T := TX12) (N := 11) (ci := 15) (k := 7) (fs := [.ref (g 0), .ref (g 2), .ref (g 4), .ref (g 6), .ref (g 9), .ref (g 11), .ref (g 14), .ref sa, va_rf so, .int (iI er), .int (iI fa)]) (v := .ref sa) hC hZ in_X12 rfl (by decide) ql_X12_59 rfl h0 rfl dX12_article_29 ?_
      refine z_getN (T := TX10) (N := 9) (ci := 13) (k := 0) (fs := [.ref la, .ref li, .int (iI (cNi c0)), .int (iI (cNn c0)), .int (iI (cWi c0)), .int (iI (cCo c0)), .int (iI (cHe c0)), .int (iI (cDa c0)), .int (iI (cLa c0))]) (v := .ref la) hC hZ in_X10 rfl (by decide) ql_X12_98 rfl h9 rfl dX12_article_32 ?_
      refine lv_iload_n hx hb dX12_article_35 rfl (lv_at hl 1 rfl) ?_
      obtain ⟨fsho_5, ho_5⟩ := (hla).o
      refine z_callr (z_runV (rest := []) (As := [.int (iI x)]) (n := 1) (ci := 4) hC hZ (met_Jx4a65c_get_915e3 l D cs A F la ra aL x hla (by omega)) gv_X12_166 hd_Jx4a65c_get_915e3 rfl ho_5 rfl hl rfl (Nat.le_of_ble_eq_true rfl) ⟨Nat.le_of_ble_eq_true rfl, Nat.le_of_ble_eq_true rfl⟩ ⟨Nat.le_of_ble_eq_true rfl, Nat.le_of_ble_eq_true rfl⟩ dX12_article_36) hZ (fun r36 F36 H locs hp36_c_6 hZ => ?_)
      obtain ⟨rfl, rfl⟩ := hp36_c_6
      have hoa36 := has.2 x (by omega) (by omega)
      obtain ⟨wa36, y036, -, hyo36⟩ := id hoa36
      have hyi36 := hyo36.1
      have hyp36 := hyo36.2.1
      refine z_castS (ci := 5) (N := 3) (T := TX1) hC hZ qk_X12_170 y036 rfl dX12_article_39 ?_
      refine z_getN (T := TX1) (N := 3) (ci := 5) (k := 0) (fs := [.int (iI (((cAr c0).getD x.toNat (0, 0, [])).1)), .int (iI (((cAr c0).getD x.toNat (0, 0, [])).2.1)), .ref wa36]) (v := .int (iI (((cAr c0).getD x.toNat (0, 0, [])).1))) hC hZ in_X1 rfl (by decide) ql_X12_172 rfl y036 rfl dX12_article_42 ?_
      refine vx_ret ?_
      exact z_iret hC hr hlk hZ (by decide) (by decide) (⟨rfl, by rw [sArt_0 (by omega) (by omega)], by rw [sArt_0 (by omega) (by omega)]⟩) dX12_article_45
    · skip
      exact z_throw (rest := []) hC hZ hlt hT hlk zth_e4 zth_g4 zth_o4 zth_k4 zth_i4 (by decide) (List.mem_of_getElem? (i := 7) rfl) hl (Nat.le_of_ble_eq_true rfl) (Nat.le_of_ble_eq_true rfl) (Nat.le_of_ble_eq_true rfl) (Nat.le_of_ble_eq_true rfl) (Nat.le_of_ble_eq_true rfl) (Nat.le_of_ble_eq_true rfl) (⟨rfl, by rw [sArt_1 (by omega)], rfl⟩) dX12_article_18 dX12_article_21 dX12_article_22 dX12_article_24 dX12_article_27

set_option maxHeartbeats 4000000 in
set_option maxRecDepth 100000 in
theorem met_X12_articleByPriority (l : Launch) (D : va_G) (cs : Nat → ClassId) (A : Nat → Prop) (F : zF) (ob : Nat) (g : Nat → Nat) (sa : Nat) (so : Option Nat) (er fa : Int) (c0 : zCo) (x : Int) (hlt : l.stackTraces = false)  (h0 : F ob = some (.inr (15, [.ref (g 0), .ref (g 2), .ref (g 4), .ref (g 6), .ref (g 9), .ref (g 11), .ref (g 14), .ref sa, va_rf so, .int (iI er), .int (iI fa)]))) (hs1 : rSt cs F sa c0) (hx0 : InR x) : zXM l D cs A yX12_articleByPriority cX12_articleByPriority 3 (some FieldType.int) 6 1 6 [.ref ob, .int (iI x)] F (pI (fun r F1 => F = F1 ∧ (sArP c0 x).1 = 0 ∧ (sArP c0 x).2 = r)) (fun E F1 => F = F1 ∧ (((sArP c0 x).1 = 1 ∧ E = "java/lang/IndexOutOfBoundsException"))) := by
  refine zX_of (own := RX12) (by decide) rfl (Nat.le_of_ble_eq_true rfl) ?_
  intro p e s m below meth c hC hr hlk hT hZ ls hl
  have hx := hC.x
  have hb := hC.b
  have hl : lv_has ls 3 [(0, .ref ob), (1, .int (iI x))] := hl
  refine lv_aload_n hx hb dX12_articleByPriority_0 rfl (lv_at hl 0 rfl) ?_
  refine z_get (T := TX12) (N := 11) (ci := 15) (k := 7) (fs := [.ref (g 0), .ref (g 2), .ref (g 4), .ref (g 6), .ref (g 9), .ref (g 11), .ref (g 14), .ref sa, va_rf so, .int (iI er), .int (iI fa)]) (v := .ref sa) hC hZ in_X12 rfl (by decide) ql_X12_59 rfl h0 rfl dX12_articleByPriority_1 ?_
  refine lv_iload_n hx hb dX12_articleByPriority_4 rfl (lv_at hl 1 rfl) ?_
  obtain ⟨fsho_1, ho_1⟩ := (hs1).o
  refine z_callq (z_runV (rest := []) (As := [.int (iI x)]) (n := 1) (ci := 13) hC hZ (met_X10_ranked l D cs A F sa c0 x hs1 (by omega)) gv_X12_175 hd_X10_ranked rfl ho_1 rfl hl rfl (Nat.le_of_ble_eq_true rfl) ⟨Nat.le_of_ble_eq_true rfl, Nat.le_of_ble_eq_true rfl⟩ ⟨Nat.le_of_ble_eq_true rfl, Nat.le_of_ble_eq_true rfl⟩ dX12_articleByPriority_5) hZ (fun r5 F5 H locs hp5_c_2 hZ => ?_)
  obtain ⟨rfl, hp5_c_2⟩ := hp5_c_2
  rcases hp5_c_2 with ⟨hz5, rfl⟩ | ⟨y5, q5, hz5, hm5, rfl, ho5⟩
  · skip
    refine lv_astore_nN (lv' := [(2, .null), (0, .ref ob), (1, .int (iI x))]) hx hb dX12_articleByPriority_8 rfl hl (by decide) rfl (fun ls hl => ?_)
    refine lv_aload_nN hx hb dX12_articleByPriority_9 rfl (lv_at hl 0 rfl) ?_
    refine lv_ifnonnullN hx hb dX12_articleByPriority_10 ?_
    exact z_throw (rest := []) hC hZ hlt hT hlk zth_e4 zth_g4 zth_o4 zth_k4 zth_i4 (by decide) (List.mem_of_getElem? (i := 8) rfl) hl (Nat.le_of_ble_eq_true rfl) (Nat.le_of_ble_eq_true rfl) (Nat.le_of_ble_eq_true rfl) (Nat.le_of_ble_eq_true rfl) (Nat.le_of_ble_eq_true rfl) (Nat.le_of_ble_eq_true rfl) (⟨rfl, by unfold sArP; rw [hz5], rfl⟩) dX12_articleByPriority_13 dX12_articleByPriority_16 dX12_articleByPriority_17 dX12_articleByPriority_19 dX12_articleByPriority_22
  · skip
    obtain ⟨wa5, yo5, -⟩ := id ho5
    refine lv_astore_n (lv' := [(2, .ref q5), (0, .ref ob), (1, .int (iI x))]) hx hb dX12_articleByPriority_8 rfl hl (by decide) rfl (fun ls hl => ?_)
    refine lv_aload_n hx hb dX12_articleByPriority_9 rfl (lv_at hl 0 rfl) ?_
    refine lv_ifnonnull (tgt := 23) hx hb dX12_articleByPriority_10 (by decide) ?_
    refine lv_aload_n hx hb dX12_articleByPriority_23 rfl (lv_at hl 0 rfl) ?_
    refine z_getN (T := TX1) (N := 3) (ci := 5) (k := 0) (fs := [.int (iI y5.1), .int (iI y5.2.1), .ref wa5]) (v := .int (iI y5.1)) hC hZ in_X1 rfl (by decide) ql_X12_172 rfl yo5 rfl dX12_articleByPriority_24 ?_
    refine vx_ret ?_
    exact z_iret hC hr hlk hZ (by decide) (by decide) (⟨rfl, by unfold sArP; rw [hz5], by unfold sArP; rw [hz5]⟩) dX12_articleByPriority_27

set_option maxHeartbeats 4000000 in
set_option maxRecDepth 100000 in
theorem met_X12_knownIssue (l : Launch) (D : va_G) (cs : Nat → ClassId) (A : Nat → Prop) (F : zF) (ob : Nat) (g : Nat → Nat) (sa : Nat) (so : Option Nat) (er fa : Int) (c0 : zCo) (x : Int) (hlt : l.stackTraces = false)  (h0 : F ob = some (.inr (15, [.ref (g 0), .ref (g 2), .ref (g 4), .ref (g 6), .ref (g 9), .ref (g 11), .ref (g 14), .ref sa, va_rf so, .int (iI er), .int (iI fa)]))) (hs1 : rSt cs F sa c0) (hx0 : InR x) : zXM l D cs A yX12_knownIssue cX12_knownIssue 3 (some (FieldType.object "StoneGazette$Issue")) 6 1 6 [.ref ob, .int (iI x)] F (pR (fun r F1 => F = F1 ∧ ∃ s1 : zIs, zfi (cIs c0) x = some s1 ∧ oIs cs F r (cDa c0) s1)) (fun E F1 => F = F1 ∧ zfi (cIs c0) x = none ∧ E = "java/util/NoSuchElementException") := by
  refine zX_of (own := RX12) (by decide) rfl (Nat.le_of_ble_eq_true rfl) ?_
  intro p e s m below meth c hC hr hlk hT hZ ls hl
  have hx := hC.x
  have hb := hC.b
  have hl : lv_has ls 3 [(0, .ref ob), (1, .int (iI x))] := hl
  refine lv_aload_n hx hb dX12_knownIssue_0 rfl (lv_at hl 0 rfl) ?_
  refine z_get (T := TX12) (N := 11) (ci := 15) (k := 7) (fs := [.ref (g 0), .ref (g 2), .ref (g 4), .ref (g 6), .ref (g 9), .ref (g 11), .ref (g 14), .ref sa, va_rf so, .int (iI er), .int (iI fa)]) (v := .ref sa) hC hZ in_X12 rfl (by decide) ql_X12_59 rfl h0 rfl dX12_knownIssue_1 ?_
  refine lv_iload_n hx hb dX12_knownIssue_4 rfl (lv_at hl 1 rfl) ?_
  obtain ⟨fsho_1, ho_1⟩ := (hs1).o
  refine z_callq (z_runV (rest := []) (As := [.int (iI x)]) (n := 1) (ci := 13) hC hZ (met_X10_findIssue l D cs A F sa c0 x hs1 (by omega)) gv_X12_266 hd_X10_findIssue rfl ho_1 rfl hl rfl (Nat.le_of_ble_eq_true rfl) ⟨Nat.le_of_ble_eq_true rfl, Nat.le_of_ble_eq_true rfl⟩ ⟨Nat.le_of_ble_eq_true rfl, Nat.le_of_ble_eq_true rfl⟩ dX12_knownIssue_5) hZ (fun r5 F5 H locs hp5_c_2 hZ => ?_)
  obtain ⟨rfl, hp5_c_2⟩ := hp5_c_2
  rcases hp5_c_2 with ⟨hz5, rfl⟩ | ⟨s5, q5, hz5, rfl, ho5⟩
  · skip
    refine lv_astore_nN (lv' := [(2, .null), (0, .ref ob), (1, .int (iI x))]) hx hb dX12_knownIssue_8 rfl hl (by decide) rfl (fun ls hl => ?_)
    refine lv_aload_nN hx hb dX12_knownIssue_9 rfl (lv_at hl 0 rfl) ?_
    refine lv_ifnonnullN hx hb dX12_knownIssue_10 ?_
    exact z_throwN (rest := []) hC hZ hlt hT hlk (List.mem_of_getElem? (i := 26) rfl) hl (Nat.le_of_ble_eq_true rfl) (Nat.le_of_ble_eq_true rfl) (Nat.le_of_ble_eq_true rfl) (Nat.le_of_ble_eq_true rfl) (Nat.le_of_ble_eq_true rfl) (Nat.le_of_ble_eq_true rfl) (⟨rfl, hz5, rfl⟩) dX12_knownIssue_13 dX12_knownIssue_16 (Or.inr ⟨dX12_knownIssue_17, rfl⟩) dX12_knownIssue_20 dX12_knownIssue_23
  · skip
    refine lv_astore_n (lv' := [(2, .ref q5), (0, .ref ob), (1, .int (iI x))]) hx hb dX12_knownIssue_8 rfl hl (by decide) rfl (fun ls hl => ?_)
    refine lv_aload_n hx hb dX12_knownIssue_9 rfl (lv_at hl 0 rfl) ?_
    refine lv_ifnonnull (tgt := 24) hx hb dX12_knownIssue_10 (by decide) ?_
    refine lv_aload_n hx hb dX12_knownIssue_24 rfl (lv_at hl 0 rfl) ?_
    refine vx_ret ?_
    exact z_aret hC hr (Or.inl ⟨_, rfl⟩) hlk hZ (by decide) (by decide) (⟨rfl, _, hz5, ho5⟩) dX12_knownIssue_25

set_option maxHeartbeats 4000000 in
set_option maxRecDepth 100000 in
theorem met_X12_articlesIn (l : Launch) (D : va_G) (cs : Nat → ClassId) (A : Nat → Prop) (F : zF) (ob : Nat) (g : Nat → Nat) (sa : Nat) (so : Option Nat) (er fa : Int) (c0 : zCo) (x : Int) (hlt : l.stackTraces = false)  (h0 : F ob = some (.inr (15, [.ref (g 0), .ref (g 2), .ref (g 4), .ref (g 6), .ref (g 9), .ref (g 11), .ref (g 14), .ref sa, va_rf so, .int (iI er), .int (iI fa)]))) (hs1 : rSt cs F sa c0) (hx0 : InR x) : zXM l D cs A yX12_articlesIn cX12_articlesIn 2 (some FieldType.int) 7 1 6 [.ref ob, .int (iI x)] F (pI (fun r F1 => F = F1 ∧ (sIss c0 x (fun s => (iTk s).length)).1 = 0 ∧ (sIss c0 x (fun s => (iTk s).length)).2 = r)) (fun E F1 => F = F1 ∧ (((sIss c0 x (fun s => (iTk s).length)).1 = 1 ∧ E = "java/util/NoSuchElementException"))) := by
  refine zX_of (own := RX12) (by decide) rfl (Nat.le_of_ble_eq_true rfl) ?_
  intro p e s m below meth c hC hr hlk hT hZ ls hl
  have hx := hC.x
  have hb := hC.b
  have hl : lv_has ls 2 [(0, .ref ob), (1, .int (iI x))] := hl
  refine lv_aload_n hx hb dX12_articlesIn_0 rfl (lv_at hl 0 rfl) ?_
  refine lv_iload_n hx hb dX12_articlesIn_1 rfl (lv_at hl 1 rfl) ?_
  refine z_xcallr (z_xrunV (rest := []) (As := [.int (iI x)]) (n := 1) (ci := 15) hC hZ (met_X12_knownIssue l D cs A F ob g sa so er fa c0 x hlt h0 hs1 (by omega)) gv_X12_270 hd_X12_knownIssue rfl h0 rfl hl rfl (Nat.le_of_ble_eq_true rfl) ⟨Nat.le_of_ble_eq_true rfl, Nat.le_of_ble_eq_true rfl⟩ ⟨Nat.le_of_ble_eq_true rfl, Nat.le_of_ble_eq_true rfl⟩ dX12_articlesIn_2) hZ hT hlk (Nat.le_of_ble_eq_true rfl) (Nat.le_of_ble_eq_true rfl) (fun E F1 q => ⟨q.1, by rw [sIss_1 q.2.1], q.2.2⟩) (fun r2 F2 H locs hp2_c_1 hZ => ?_)
  obtain ⟨rfl, s2, hz2, ho2⟩ := hp2_c_1
  obtain ⟨pa2, io2, ip2⟩ := id ho2
  obtain ⟨pi2, pl2, pf2, pg2, po2, pe2, ph2, pj2, ik2⟩ := id ip2
  have ik12 := ik2.1
  have ik22 := ik2.2.1
  have ik32 := ik2.2.2.1
  have ik42 := ik2.2.2.2.1
  have ik52 := ik2.2.2.2.2.1
  have hpg2 := isOK_pg ik2
  refine z_getN (T := TX6) (N := 3) (ci := 10) (k := 1) (fs := [.int (iI (iNo s2)), .ref pa2, .float (zfr (cDa c0 - iPr s2).toNat)]) (v := .ref pa2) hC hZ in_X6 rfl (by decide) ql_X12_273 rfl io2 rfl dX12_articlesIn_5 ?_
  refine z_getN (T := TX9) (N := 6) (ci := 12) (k := 4) (fs := [.int (iI (iCo s2)), .int (iI (iHe s2)), .ref pi2, .ref pl2, .int (iI ((iTk s2).length : Int)), .int (iI (iLi s2))]) (v := .int (iI ((iTk s2).length : Int))) hC hZ in_X9 rfl (by decide) ql_X12_279 rfl po2 rfl dX12_articlesIn_8 ?_
  refine vx_ret ?_
  exact z_iret hC hr hlk hZ (by decide) (by decide) (⟨rfl, by rw [sIss_0 hz2], by rw [sIss_0 hz2]⟩) dX12_articlesIn_11

set_option maxHeartbeats 4000000 in
set_option maxRecDepth 100000 in
theorem met_X12_linesIn (l : Launch) (D : va_G) (cs : Nat → ClassId) (A : Nat → Prop) (F : zF) (ob : Nat) (g : Nat → Nat) (sa : Nat) (so : Option Nat) (er fa : Int) (c0 : zCo) (x : Int) (hlt : l.stackTraces = false)  (h0 : F ob = some (.inr (15, [.ref (g 0), .ref (g 2), .ref (g 4), .ref (g 6), .ref (g 9), .ref (g 11), .ref (g 14), .ref sa, va_rf so, .int (iI er), .int (iI fa)]))) (hs1 : rSt cs F sa c0) (hx0 : InR x) : zXM l D cs A yX12_linesIn cX12_linesIn 2 (some FieldType.int) 7 1 6 [.ref ob, .int (iI x)] F (pI (fun r F1 => F = F1 ∧ (sIss c0 x (fun s => iLi s)).1 = 0 ∧ (sIss c0 x (fun s => iLi s)).2 = r)) (fun E F1 => F = F1 ∧ (((sIss c0 x (fun s => iLi s)).1 = 1 ∧ E = "java/util/NoSuchElementException"))) := by
  refine zX_of (own := RX12) (by decide) rfl (Nat.le_of_ble_eq_true rfl) ?_
  intro p e s m below meth c hC hr hlk hT hZ ls hl
  have hx := hC.x
  have hb := hC.b
  have hl : lv_has ls 2 [(0, .ref ob), (1, .int (iI x))] := hl
  refine lv_aload_n hx hb dX12_linesIn_0 rfl (lv_at hl 0 rfl) ?_
  refine lv_iload_n hx hb dX12_linesIn_1 rfl (lv_at hl 1 rfl) ?_
  refine z_xcallr (z_xrunV (rest := []) (As := [.int (iI x)]) (n := 1) (ci := 15) hC hZ (met_X12_knownIssue l D cs A F ob g sa so er fa c0 x hlt h0 hs1 (by omega)) gv_X12_270 hd_X12_knownIssue rfl h0 rfl hl rfl (Nat.le_of_ble_eq_true rfl) ⟨Nat.le_of_ble_eq_true rfl, Nat.le_of_ble_eq_true rfl⟩ ⟨Nat.le_of_ble_eq_true rfl, Nat.le_of_ble_eq_true rfl⟩ dX12_linesIn_2) hZ hT hlk (Nat.le_of_ble_eq_true rfl) (Nat.le_of_ble_eq_true rfl) (fun E F1 q => ⟨q.1, by rw [sIss_1 q.2.1], q.2.2⟩) (fun r2 F2 H locs hp2_c_1 hZ => ?_)
  obtain ⟨rfl, s2, hz2, ho2⟩ := hp2_c_1
  obtain ⟨pa2, io2, ip2⟩ := id ho2
  obtain ⟨pi2, pl2, pf2, pg2, po2, pe2, ph2, pj2, ik2⟩ := id ip2
  have ik12 := ik2.1
  have ik22 := ik2.2.1
  have ik32 := ik2.2.2.1
  have ik42 := ik2.2.2.2.1
  have ik52 := ik2.2.2.2.2.1
  have hpg2 := isOK_pg ik2
  refine z_getN (T := TX6) (N := 3) (ci := 10) (k := 1) (fs := [.int (iI (iNo s2)), .ref pa2, .float (zfr (cDa c0 - iPr s2).toNat)]) (v := .ref pa2) hC hZ in_X6 rfl (by decide) ql_X12_273 rfl io2 rfl dX12_linesIn_5 ?_
  refine z_getN (T := TX9) (N := 6) (ci := 12) (k := 5) (fs := [.int (iI (iCo s2)), .int (iI (iHe s2)), .ref pi2, .ref pl2, .int (iI ((iTk s2).length : Int)), .int (iI (iLi s2))]) (v := .int (iI (iLi s2))) hC hZ in_X9 rfl (by decide) ql_X12_284 rfl po2 rfl dX12_linesIn_8 ?_
  refine vx_ret ?_
  exact z_iret hC hr hlk hZ (by decide) (by decide) (⟨rfl, by rw [sIss_0 hz2], by rw [sIss_0 hz2]⟩) dX12_linesIn_11

set_option maxHeartbeats 4000000 in
set_option maxRecDepth 100000 in
theorem met_X12_coverage (l : Launch) (D : va_G) (cs : Nat → ClassId) (A : Nat → Prop) (F : zF) (ob : Nat) (g : Nat → Nat) (sa : Nat) (so : Option Nat) (er fa : Int) (c0 : zCo) (x : Int) (hlt : l.stackTraces = false)  (h0 : F ob = some (.inr (15, [.ref (g 0), .ref (g 2), .ref (g 4), .ref (g 6), .ref (g 9), .ref (g 11), .ref (g 14), .ref sa, va_rf so, .int (iI er), .int (iI fa)]))) (hs1 : rSt cs F sa c0) (hx0 : InR x) : zXM l D cs A yX12_coverage cX12_coverage 2 (some FieldType.float) 7 1 6 [.ref ob, .int (iI x)] F (pF (fun r F1 => F = F1 ∧ (sCv c0 x).1 = 0 ∧ (sCv c0 x).2 = r)) (fun E F1 => F = F1 ∧ (((sCv c0 x).1 = 1 ∧ E = "java/util/NoSuchElementException"))) := by
  refine zX_of (own := RX12) (by decide) rfl (Nat.le_of_ble_eq_true rfl) ?_
  intro p e s m below meth c hC hr hlk hT hZ ls hl
  have hx := hC.x
  have hb := hC.b
  have hl : lv_has ls 2 [(0, .ref ob), (1, .int (iI x))] := hl
  refine lv_aload_n hx hb dX12_coverage_0 rfl (lv_at hl 0 rfl) ?_
  refine lv_iload_n hx hb dX12_coverage_1 rfl (lv_at hl 1 rfl) ?_
  refine z_xcallr (z_xrunV (rest := []) (As := [.int (iI x)]) (n := 1) (ci := 15) hC hZ (met_X12_knownIssue l D cs A F ob g sa so er fa c0 x hlt h0 hs1 (by omega)) gv_X12_270 hd_X12_knownIssue rfl h0 rfl hl rfl (Nat.le_of_ble_eq_true rfl) ⟨Nat.le_of_ble_eq_true rfl, Nat.le_of_ble_eq_true rfl⟩ ⟨Nat.le_of_ble_eq_true rfl, Nat.le_of_ble_eq_true rfl⟩ dX12_coverage_2) hZ hT hlk (Nat.le_of_ble_eq_true rfl) (Nat.le_of_ble_eq_true rfl) (fun E F1 q => ⟨q.1, by unfold sCv; rw [q.2.1], q.2.2⟩) (fun r2 F2 H locs hp2_c_1 hZ => ?_)
  obtain ⟨rfl, s2, hz2, ho2⟩ := hp2_c_1
  obtain ⟨pa2, io2, ip2⟩ := id ho2
  obtain ⟨pi2, pl2, pf2, pg2, po2, pe2, ph2, pj2, ik2⟩ := id ip2
  have ik12 := ik2.1
  have ik22 := ik2.2.1
  have ik32 := ik2.2.2.1
  have ik42 := ik2.2.2.2.1
  have ik52 := ik2.2.2.2.2.1
  have hpg2 := isOK_pg ik2
  refine z_getN (T := TX6) (N := 3) (ci := 10) (k := 1) (fs := [.int (iI (iNo s2)), .ref pa2, .float (zfr (cDa c0 - iPr s2).toNat)]) (v := .ref pa2) hC hZ in_X6 rfl (by decide) ql_X12_273 rfl io2 rfl dX12_coverage_5 ?_
  refine z_callf (z_runV (rest := []) (As := []) (n := 0) (ci := 12) hC hZ (met_X9_coveredPart l D cs A F pa2 s2 ip2) gv_X12_300 hd_X9_coveredPart rfl po2 rfl hl rfl (Nat.le_of_ble_eq_true rfl) ⟨Nat.le_of_ble_eq_true rfl, Nat.le_of_ble_eq_true rfl⟩ ⟨Nat.le_of_ble_eq_true rfl, Nat.le_of_ble_eq_true rfl⟩ dX12_coverage_8) hZ (fun r8 F8 H locs hp8_c_2 hZ => ?_)
  obtain ⟨rfl, rfl⟩ := hp8_c_2
  refine vx_ret ?_
  exact z_fret hC hr hlk hZ (by decide) (by decide) (⟨rfl, by unfold sCv; rw [hz2], by unfold sCv; rw [hz2]⟩) dX12_coverage_11

set_option maxHeartbeats 4000000 in
set_option maxRecDepth 100000 in
theorem met_X12_freshness (l : Launch) (D : va_G) (cs : Nat → ClassId) (A : Nat → Prop) (F : zF) (ob : Nat) (g : Nat → Nat) (sa : Nat) (so : Option Nat) (er fa : Int) (c0 : zCo) (x : Int) (hlt : l.stackTraces = false)  (h0 : F ob = some (.inr (15, [.ref (g 0), .ref (g 2), .ref (g 4), .ref (g 6), .ref (g 9), .ref (g 11), .ref (g 14), .ref sa, va_rf so, .int (iI er), .int (iI fa)]))) (hs1 : rSt cs F sa c0) (hx0 : InR x) : zXM l D cs A yX12_freshness cX12_freshness 2 (some FieldType.float) 7 1 6 [.ref ob, .int (iI x)] F (pF (fun r F1 => F = F1 ∧ (sFr c0 x).1 = 0 ∧ (sFr c0 x).2 = r)) (fun E F1 => F = F1 ∧ (((sFr c0 x).1 = 1 ∧ E = "java/util/NoSuchElementException"))) := by
  refine zX_of (own := RX12) (by decide) rfl (Nat.le_of_ble_eq_true rfl) ?_
  intro p e s m below meth c hC hr hlk hT hZ ls hl
  have hx := hC.x
  have hb := hC.b
  have hl : lv_has ls 2 [(0, .ref ob), (1, .int (iI x))] := hl
  refine lv_aload_n hx hb dX12_freshness_0 rfl (lv_at hl 0 rfl) ?_
  refine lv_iload_n hx hb dX12_freshness_1 rfl (lv_at hl 1 rfl) ?_
  refine z_xcallr (z_xrunV (rest := []) (As := [.int (iI x)]) (n := 1) (ci := 15) hC hZ (met_X12_knownIssue l D cs A F ob g sa so er fa c0 x hlt h0 hs1 (by omega)) gv_X12_270 hd_X12_knownIssue rfl h0 rfl hl rfl (Nat.le_of_ble_eq_true rfl) ⟨Nat.le_of_ble_eq_true rfl, Nat.le_of_ble_eq_true rfl⟩ ⟨Nat.le_of_ble_eq_true rfl, Nat.le_of_ble_eq_true rfl⟩ dX12_freshness_2) hZ hT hlk (Nat.le_of_ble_eq_true rfl) (Nat.le_of_ble_eq_true rfl) (fun E F1 q => ⟨q.1, by unfold sFr; rw [q.2.1], q.2.2⟩) (fun r2 F2 H locs hp2_c_1 hZ => ?_)
  obtain ⟨rfl, s2, hz2, ho2⟩ := hp2_c_1
  obtain ⟨pa2, io2, ip2⟩ := id ho2
  obtain ⟨pi2, pl2, pf2, pg2, po2, pe2, ph2, pj2, ik2⟩ := id ip2
  have ik12 := ik2.1
  have ik22 := ik2.2.1
  have ik32 := ik2.2.2.1
  have ik42 := ik2.2.2.2.1
  have ik52 := ik2.2.2.2.2.1
  have hpg2 := isOK_pg ik2
  refine z_getN (T := TX6) (N := 3) (ci := 10) (k := 2) (fs := [.int (iI (iNo s2)), .ref pa2, .float (zfr (cDa c0 - iPr s2).toNat)]) (v := .float (zfr (cDa c0 - iPr s2).toNat)) hC hZ in_X6 rfl (by decide) ql_X12_315 rfl io2 rfl dX12_freshness_5 ?_
  refine vx_ret ?_
  exact z_fret hC hr hlk hZ (by decide) (by decide) (⟨rfl, by unfold sFr; rw [hz2], by unfold sFr; rw [hz2]⟩) dX12_freshness_8

theorem cOK_age {N : Nat} {c : zCo} (hK : cOK N c) (hN : N ≤ 1001) {s : zIs} (h : s ∈ cIs c) : 0 ≤ cDa c - iPr s ∧ cDa c - iPr s ≤ 1000000 := by
  have h1 := hK.2.2.2.2.1 s h
  have h2 := h1.2.2.2.2.2.2.2
  have h3 := hK.2.2.2.2.2.2.2.2.2.2.2.1
  omega
set_option maxHeartbeats 4000000 in
set_option maxRecDepth 100000 in
theorem met_X12_isReadable (l : Launch) (D : va_G) (cs : Nat → ClassId) (A : Nat → Prop) (F : zF) (ob : Nat) (g : Nat → Nat) (sa : Nat) (so : Option Nat) (er fa : Int) (c0 : zCo) (x : Int) (N : Nat) (hlt : l.stackTraces = false)  (h0 : F ob = some (.inr (15, [.ref (g 0), .ref (g 2), .ref (g 4), .ref (g 6), .ref (g 9), .ref (g 11), .ref (g 14), .ref sa, va_rf so, .int (iI er), .int (iI fa)]))) (hs1 : rSt cs F sa c0) (hx0 : InR x) (hK : cOK N c0) (hN : N ≤ 1001) : zXM l D cs A yX12_isReadable cX12_isReadable 2 (some FieldType.boolean) 7 1 6 [.ref ob, .int (iI x)] F (pI (fun r F1 => F = F1 ∧ (sIss c0 x (fun s => if cDa c0 - iPr s < 5 then 1 else 0)).1 = 0 ∧ (sIss c0 x (fun s => if cDa c0 - iPr s < 5 then 1 else 0)).2 = r)) (fun E F1 => F = F1 ∧ (((sIss c0 x (fun s => if cDa c0 - iPr s < 5 then 1 else 0)).1 = 1 ∧ E = "java/util/NoSuchElementException"))) := by
  refine zX_of (own := RX12) (by decide) rfl (Nat.le_of_ble_eq_true rfl) ?_
  intro p e s m below meth c hC hr hlk hT hZ ls hl
  have hx := hC.x
  have hb := hC.b
  have hl : lv_has ls 2 [(0, .ref ob), (1, .int (iI x))] := hl
  refine lv_aload_n hx hb dX12_isReadable_0 rfl (lv_at hl 0 rfl) ?_
  refine lv_iload_n hx hb dX12_isReadable_1 rfl (lv_at hl 1 rfl) ?_
  refine z_xcallr (z_xrunV (rest := []) (As := [.int (iI x)]) (n := 1) (ci := 15) hC hZ (met_X12_knownIssue l D cs A F ob g sa so er fa c0 x hlt h0 hs1 (by omega)) gv_X12_270 hd_X12_knownIssue rfl h0 rfl hl rfl (Nat.le_of_ble_eq_true rfl) ⟨Nat.le_of_ble_eq_true rfl, Nat.le_of_ble_eq_true rfl⟩ ⟨Nat.le_of_ble_eq_true rfl, Nat.le_of_ble_eq_true rfl⟩ dX12_isReadable_2) hZ hT hlk (Nat.le_of_ble_eq_true rfl) (Nat.le_of_ble_eq_true rfl) (fun E F1 q => ⟨q.1, by rw [sIss_1 q.2.1], q.2.2⟩) (fun r2 F2 H locs hp2_c_1 hZ => ?_)
  obtain ⟨rfl, s2, hz2, ho2⟩ := hp2_c_1
  obtain ⟨pa2, io2, ip2⟩ := id ho2
  obtain ⟨pi2, pl2, pf2, pg2, po2, pe2, ph2, pj2, ik2⟩ := id ip2
  have ik12 := ik2.1
  have ik22 := ik2.2.1
  have ik32 := ik2.2.2.1
  have ik42 := ik2.2.2.2.1
  have ik52 := ik2.2.2.2.2.1
  have hpg2 := isOK_pg ik2
  have hag := cOK_age hK hN (zfi_mem hz2)
  refine z_calli (z_runV (rest := []) (As := []) (n := 0) (ci := 10) hC hZ (met_X6_canBeRead l D cs A F r2 (cDa c0) s2 ho2 (by omega)) gv_X12_323 hd_X6_canBeRead rfl io2 rfl hl rfl (Nat.le_of_ble_eq_true rfl) ⟨Nat.le_of_ble_eq_true rfl, Nat.le_of_ble_eq_true rfl⟩ ⟨Nat.le_of_ble_eq_true rfl, Nat.le_of_ble_eq_true rfl⟩ dX12_isReadable_5) hZ (fun r5 F5 H locs hp5_c_2 hZ => ?_)
  obtain ⟨rfl, hp5_c_2⟩ := hp5_c_2
  have hrd := hp5_c_2
  have hrr : r5 = 0 ∨ r5 = 1 := by omega
  refine vx_ret ?_
  exact z_zret hC hr hlk hZ (iI_zr (by omega)) (by decide) (by decide) (⟨rfl, by rw [sIss_0 hz2], by rw [sIss_0 hz2]; exact hrd.elim (fun y => by rw [y.2]; exact if_pos y.1) (fun y => by rw [y.2]; exact if_neg y.1)⟩) dX12_isReadable_8

set_option maxHeartbeats 4000000 in
set_option maxRecDepth 100000 in
theorem met_X12_daysUntilUnreadable (l : Launch) (D : va_G) (cs : Nat → ClassId) (A : Nat → Prop) (F : zF) (ob : Nat) (g : Nat → Nat) (sa : Nat) (so : Option Nat) (er fa : Int) (c0 : zCo) (x : Int) (N : Nat) (hlt : l.stackTraces = false)  (h0 : F ob = some (.inr (15, [.ref (g 0), .ref (g 2), .ref (g 4), .ref (g 6), .ref (g 9), .ref (g 11), .ref (g 14), .ref sa, va_rf so, .int (iI er), .int (iI fa)]))) (hs1 : rSt cs F sa c0) (hx0 : InR x) (hK : cOK N c0) (hN : N ≤ 1001) : zXM l D cs A yX12_daysUntilUnreadable cX12_daysUntilUnreadable 4 (some FieldType.int) 7 31 96 [.ref ob, .int (iI x)] F (pI (fun r F1 => zle F F1 ∧ (sIss c0 x (fun s => if cDa c0 - iPr s < 5 then 5 - (cDa c0 - iPr s) else 0)).1 = 0 ∧ (sIss c0 x (fun s => if cDa c0 - iPr s < 5 then 5 - (cDa c0 - iPr s) else 0)).2 = r)) (fun E F1 => F = F1 ∧ (((sIss c0 x (fun s => if cDa c0 - iPr s < 5 then 5 - (cDa c0 - iPr s) else 0)).1 = 1 ∧ E = "java/util/NoSuchElementException"))) := by
  refine zX_of (own := RX12) (by decide) rfl (Nat.le_of_ble_eq_true rfl) ?_
  intro p e s m below meth c hC hr hlk hT hZ ls hl
  have hx := hC.x
  have hb := hC.b
  have hl : lv_has ls 4 [(0, .ref ob), (1, .int (iI x))] := hl
  refine lv_aload_n hx hb dX12_daysUntilUnreadable_0 rfl (lv_at hl 0 rfl) ?_
  refine lv_iload_n hx hb dX12_daysUntilUnreadable_1 rfl (lv_at hl 1 rfl) ?_
  refine z_xcallr (z_xrunV (rest := []) (As := [.int (iI x)]) (n := 1) (ci := 15) hC hZ (met_X12_knownIssue l D cs A F ob g sa so er fa c0 x hlt h0 hs1 (by omega)) gv_X12_270 hd_X12_knownIssue rfl h0 rfl hl rfl (Nat.le_of_ble_eq_true rfl) ⟨Nat.le_of_ble_eq_true rfl, Nat.le_of_ble_eq_true rfl⟩ ⟨Nat.le_of_ble_eq_true rfl, Nat.le_of_ble_eq_true rfl⟩ dX12_daysUntilUnreadable_2) hZ hT hlk (Nat.le_of_ble_eq_true rfl) (Nat.le_of_ble_eq_true rfl) (fun E F1 q => ⟨q.1, by rw [sIss_1 q.2.1], q.2.2⟩) (fun r2 F2 H locs hp2_c_1 hZ => ?_)
  obtain ⟨rfl, s2, hz2, ho2⟩ := hp2_c_1
  obtain ⟨pa2, io2, ip2⟩ := id ho2
  obtain ⟨pi2, pl2, pf2, pg2, po2, pe2, ph2, pj2, ik2⟩ := id ip2
  have ik12 := ik2.1
  have ik22 := ik2.2.1
  have ik32 := ik2.2.2.1
  have ik42 := ik2.2.2.2.1
  have ik52 := ik2.2.2.2.2.1
  have hpg2 := isOK_pg ik2
  have hag := cOK_age hK hN (zfi_mem hz2)
  refine lv_astore_n (lv' := [(2, .ref r2), (0, .ref ob), (1, .int (iI x))]) hx hb dX12_daysUntilUnreadable_5 rfl hl (by decide) rfl (fun ls hl => ?_)
  refine z_iconst hx hb dX12_daysUntilUnreadable_6 ?_
  refine lv_istore_n (lv' := [(3, .int (iI 0)), (2, .ref r2), (0, .ref ob), (1, .int (iI x))]) hx hb dX12_daysUntilUnreadable_7 rfl hl (by decide) rfl (fun ls hl => ?_)
  have L8_k_2 : ∀ (fu : Nat) (k : Int) (F2 : zF) (q8 : Nat) (hfu : (30 - k).toNat < fu) (hi8_0 : 0 ≤ k ∧ k ≤ 30) (hi8_1 : k = 0 ∨ cDa c0 + k - 1 - iPr s2 < 5) (hi8_2 : zle F F2) (hi8_3 : oIs cs F2 q8 (cDa c0 + k) s2) (H : Heap) (locs : List Loc) (hZ : zS D A s F2 H locs) (ls : Array Slot) (hl : lv_has ls 4 [(3, .int (iI k)), (2, .ref q8), (0, .ref ob), (1, .int (iI x))]), W p l e (zR 7 31 96) s m [.ref ob, .int (iI x)].toArray below meth c H locs (1 + k.toNat) (6 + 3 * k.toNat) (vx_MQ below (zQ D A (pI (fun r F1 => zle F F1 ∧ (sIss c0 x (fun s => if cDa c0 - iPr s < 5 then 5 - (cDa c0 - iPr s) else 0)).1 = 0 ∧ (sIss c0 x (fun s => if cDa c0 - iPr s < 5 then 5 - (cDa c0 - iPr s) else 0)).2 = r))) (zXC D A (fun E F1 => F = F1 ∧ (((sIss c0 x (fun s => if cDa c0 - iPr s < 5 then 5 - (cDa c0 - iPr s) else 0)).1 = 1 ∧ E = "java/util/NoSuchElementException")))) [.ref ob, .int (iI x)].toArray s 31 96 A) (F0 m 8 ls []) := by
    intro fu
    induction fu with
    | zero =>
      intro k F2 q8 hfu
      exact absurd hfu (Nat.not_lt_zero _)
    | succ fu ih8 =>
      intro k F2 q8 hfu hi8_0 hi8_1 hi8_2 hi8_3  H locs hZ ls hl
      refine lv_iload_n hx hb dX12_daysUntilUnreadable_8 rfl (lv_at hl 0 rfl) ?_
      refine z_bipush hx hb dX12_daysUntilUnreadable_9 (by decide) ?_
      refine z_icmp_ge (tgt := 33) hx hb dX12_daysUntilUnreadable_11 (by decide) (by omega) (by decide) (fun c_3 => ?_) (fun c_3 => ?_)
      · skip
        exfalso; omega
      · skip
        refine lv_aload_n hx hb dX12_daysUntilUnreadable_14 rfl (lv_at hl 1 rfl) ?_
        obtain ⟨fsho_4, ho_4⟩ := (hi8_3).o
        refine z_calli (z_runV (rest := []) (As := []) (n := 0) (ci := 10) hC hZ (met_X6_canBeRead l D cs A F2 q8 (cDa c0 + k) s2 hi8_3 (by omega)) gv_X12_323 hd_X6_canBeRead rfl ho_4 rfl hl rfl (Nat.le_of_ble_eq_true rfl) ⟨Nat.le_of_ble_eq_true rfl, Nat.le_of_ble_eq_true rfl⟩ ⟨(by show _ ≤ 31; omega), (by show _ ≤ 96; omega)⟩ dX12_daysUntilUnreadable_15) hZ (fun r15 F15 H locs hp15_c_5 hZ => ?_)
        obtain ⟨rfl, hp15_c_5⟩ := hp15_c_5
        have hrd := hp15_c_5
        refine z_if_eq (tgt := 33) hx hb dX12_daysUntilUnreadable_18 (by decide) (by omega) (fun c_6 => ?_) (fun c_6 => ?_)
        · skip
          have hfin : sIss c0 x (fun s => if cDa c0 - iPr s < 5 then 5 - (cDa c0 - iPr s) else 0) = (0, k) := by
            rw [sIss_0 hz2]
            by_cases q : cDa c0 - iPr s2 < 5
            · rw [if_pos q]; congr 1; omega
            · rw [if_neg q]; congr 1; omega
          refine lv_iload_n hx hb dX12_daysUntilUnreadable_33 rfl (lv_at hl 0 rfl) ?_
          refine vx_ret ?_
          exact z_iret hC hr hlk hZ (by omega) (by omega) (⟨hi8_2, by rw [hfin], by rw [hfin]⟩) dX12_daysUntilUnreadable_34
        · skip
          have hgo : cDa c0 + k - iPr s2 < 5 := by omega
          refine lv_aload_n hx hb dX12_daysUntilUnreadable_21 rfl (lv_at hl 1 rfl) ?_
          refine z_iconst hx hb dX12_daysUntilUnreadable_22 ?_
          obtain ⟨fsho_7, ho_7⟩ := (hi8_3).o
          refine z_callr (z_runV (rest := []) (As := [.int (iI 1)]) (n := 1) (ci := 10) hC hZ (met_X6_faded l D cs A F2 q8 (cDa c0 + k) s2 1 hi8_3 (by omega) (by decide)) gv_X12_326 hd_X6_faded rfl ho_7 rfl hl rfl (Nat.le_of_ble_eq_true rfl) ⟨Nat.le_of_ble_eq_true rfl, Nat.le_of_ble_eq_true rfl⟩ ⟨(by show _ ≤ 31; omega), (by show _ ≤ 96; omega)⟩ dX12_daysUntilUnreadable_23) hZ (fun r23 F23 H locs hp23_c_8 hZ => ?_)
          obtain ⟨hle23, hnn23, hoi23⟩ := hp23_c_8
          refine lv_astore_n (lv' := [(2, .ref r23), (3, .int (iI k)), (0, .ref ob), (1, .int (iI x))]) hx hb dX12_daysUntilUnreadable_26 rfl hl (by decide) rfl (fun ls hl => ?_)
          refine z_iinc (lv' := [(3, .int (iI (k + 1))), (2, .ref r23), (0, .ref ob), (1, .int (iI x))]) hx hb dX12_daysUntilUnreadable_27 hl (k := 1) rfl (by decide) rfl (fun ls hl => ?_)
          refine lv_goto (tgt := 8) hx hb dX12_daysUntilUnreadable_30 (by decide) ?_
          refine W.widen (k := (1 + (k + 1).toNat)) (n := (6 + 3 * (k + 1).toNat)) (by omega) (by omega) ?_
          exact ih8 (k + 1) F23 r23 (by omega) (by omega) (by omega) (hi8_2.trans hle23) (by rw [show cDa c0 + (k + 1) = cDa c0 + k + 1 by omega]; exact hoi23)  _ _ hZ ls (lv_sub hl [0, 1, 2, 3] rfl)
  refine W.widen (k := (1 + (0 : Int).toNat)) (n := (6 + 3 * (0 : Int).toNat)) (by omega) (by omega) ?_
  exact L8_k_2 _ (0 : Int) F r2 (Nat.lt_succ_self _) (by omega) (by omega) zle.refl (by rw [Int.add_zero]; exact ho2)  _ _ hZ ls (lv_sub hl [0, 1, 2, 3] rfl)

set_option maxHeartbeats 4000000 in
set_option maxRecDepth 100000 in
theorem met_X12_knownPage (l : Launch) (D : va_G) (cs : Nat → ClassId) (A : Nat → Prop) (F : zF) (ob : Nat) (g : Nat → Nat) (sa : Nat) (so : Option Nat) (er fa : Int) (c0 : zCo) (x z : Int) (hlt : l.stackTraces = false)  (h0 : F ob = some (.inr (15, [.ref (g 0), .ref (g 2), .ref (g 4), .ref (g 6), .ref (g 9), .ref (g 11), .ref (g 14), .ref sa, va_rf so, .int (iI er), .int (iI fa)]))) (hs1 : rSt cs F sa c0) (hx0 : InR x) (hz0 : InR z) : zXM l D cs A yX12_knownPage cX12_knownPage 4 (some (FieldType.object "StoneGazette$Page")) 7 2 12 [.ref ob, .int (iI x), .int (iI z)] F (pR (fun r F1 => F = F1 ∧ ∃ (s1 : zIs) (k : Int), zfi (cIs c0) x = some s1 ∧ zft s1 z = some k ∧ (0 ≤ k ∧ k < iLi s1) ∧ oPg cs F r s1)) (fun E F1 => F = F1 ∧ (zfi (cIs c0) x = none ∨ ∃ s1 : zIs, zfi (cIs c0) x = some s1 ∧ zft s1 z = none) ∧ E = "java/util/NoSuchElementException") := by
  refine zX_of (own := RX12) (by decide) rfl (Nat.le_of_ble_eq_true rfl) ?_
  intro p e s m below meth c hC hr hlk hT hZ ls hl
  have hx := hC.x
  have hb := hC.b
  have hl : lv_has ls 4 [(0, .ref ob), (1, .int (iI x)), (2, .int (iI z))] := hl
  refine lv_aload_n hx hb dX12_knownPage_0 rfl (lv_at hl 0 rfl) ?_
  refine lv_iload_n hx hb dX12_knownPage_1 rfl (lv_at hl 1 rfl) ?_
  refine z_xcallr (z_xrunV (rest := []) (As := [.int (iI x)]) (n := 1) (ci := 15) hC hZ (met_X12_knownIssue l D cs A F ob g sa so er fa c0 x hlt h0 hs1 (by omega)) gv_X12_270 hd_X12_knownIssue rfl h0 rfl hl rfl (Nat.le_of_ble_eq_true rfl) ⟨Nat.le_of_ble_eq_true rfl, Nat.le_of_ble_eq_true rfl⟩ ⟨Nat.le_of_ble_eq_true rfl, Nat.le_of_ble_eq_true rfl⟩ dX12_knownPage_2) hZ hT hlk (Nat.le_of_ble_eq_true rfl) (Nat.le_of_ble_eq_true rfl) (fun E F1 q => ⟨q.1, Or.inl q.2.1, q.2.2⟩) (fun r2 F2 H locs hp2_c_1 hZ => ?_)
  obtain ⟨rfl, s2, hz2, ho2⟩ := hp2_c_1
  obtain ⟨pa2, io2, ip2⟩ := id ho2
  obtain ⟨pi2, pl2, pf2, pg2, po2, pe2, ph2, pj2, ik2⟩ := id ip2
  have ik12 := ik2.1
  have ik22 := ik2.2.1
  have ik32 := ik2.2.2.1
  have ik42 := ik2.2.2.2.1
  have ik52 := ik2.2.2.2.2.1
  have hpg2 := isOK_pg ik2
  refine z_getN (T := TX6) (N := 3) (ci := 10) (k := 1) (fs := [.int (iI (iNo s2)), .ref pa2, .float (zfr (cDa c0 - iPr s2).toNat)]) (v := .ref pa2) hC hZ in_X6 rfl (by decide) ql_X12_273 rfl io2 rfl dX12_knownPage_5 ?_
  refine lv_astore_n (lv' := [(3, .ref pa2), (0, .ref ob), (1, .int (iI x)), (2, .int (iI z))]) hx hb dX12_knownPage_8 rfl hl (by decide) rfl (fun ls hl => ?_)
  refine lv_aload_n hx hb dX12_knownPage_9 rfl (lv_at hl 0 rfl) ?_
  refine lv_iload_n hx hb dX12_knownPage_10 rfl (lv_at hl 3 rfl) ?_
  refine z_calli (z_runV (rest := []) (As := [.int (iI z)]) (n := 1) (ci := 12) hC hZ (met_X9_firstLineOf l D cs A F pa2 s2 z ip2 hz0) gv_X12_291 hd_X9_firstLineOf rfl po2 rfl hl rfl (Nat.le_of_ble_eq_true rfl) ⟨Nat.le_of_ble_eq_true rfl, Nat.le_of_ble_eq_true rfl⟩ ⟨Nat.le_of_ble_eq_true rfl, Nat.le_of_ble_eq_true rfl⟩ dX12_knownPage_11) hZ (fun r11 F11 H locs hp11_c_2 hZ => ?_)
  obtain ⟨rfl, hp11_c_2⟩ := hp11_c_2
  have hft := hp11_c_2
  refine z_iconst hx hb dX12_knownPage_14 ?_
  refine z_icmp_ne (tgt := 29) hx hb dX12_knownPage_15 (by decide) (by omega) (by decide) (fun c_3 => ?_) (fun c_3 => ?_)
  · skip
    have hfy := hft.elim (fun y => absurd y.2 (by assumption)) (fun y => y)
    refine lv_aload_n hx hb dX12_knownPage_29 rfl (lv_at hl 0 rfl) ?_
    refine vx_ret ?_
    exact z_aret hC hr (Or.inl ⟨_, rfl⟩) hlk hZ (by decide) (by decide) (⟨rfl, _, _, hz2, hfy.1, hfy.2, ip2⟩) dX12_knownPage_30
  · skip
    have hfn : zft s2 z = none := hft.elim (fun y => y.1) (fun y => absurd y.2.1 (by omega))
    exact z_throwN (rest := []) hC hZ hlt hT hlk (List.mem_of_getElem? (i := 27) rfl) hl (Nat.le_of_ble_eq_true rfl) (Nat.le_of_ble_eq_true rfl) (Nat.le_of_ble_eq_true rfl) (Nat.le_of_ble_eq_true rfl) (Nat.le_of_ble_eq_true rfl) (Nat.le_of_ble_eq_true rfl) (⟨rfl, Or.inr ⟨_, hz2, hfn⟩, rfl⟩) dX12_knownPage_18 dX12_knownPage_21 (Or.inr ⟨dX12_knownPage_22, rfl⟩) dX12_knownPage_25 dX12_knownPage_28

set_option maxHeartbeats 4000000 in
set_option maxRecDepth 100000 in
theorem met_X12_columnOf (l : Launch) (D : va_G) (cs : Nat → ClassId) (A : Nat → Prop) (F : zF) (ob : Nat) (g : Nat → Nat) (sa : Nat) (so : Option Nat) (er fa : Int) (c0 : zCo) (x z : Int) (hlt : l.stackTraces = false)  (h0 : F ob = some (.inr (15, [.ref (g 0), .ref (g 2), .ref (g 4), .ref (g 6), .ref (g 9), .ref (g 11), .ref (g 14), .ref sa, va_rf so, .int (iI er), .int (iI fa)]))) (hs1 : rSt cs F sa c0) (hx0 : InR x) (hz0 : InR z) : zXM l D cs A yX12_columnOf cX12_columnOf 4 (some FieldType.int) 8 2 12 [.ref ob, .int (iI x), .int (iI z)] F (pI (fun r F1 => F = F1 ∧ (sPos c0 x z (fun s l => l / iHe s)).1 = 0 ∧ (sPos c0 x z (fun s l => l / iHe s)).2 = r)) (fun E F1 => F = F1 ∧ (((sPos c0 x z (fun s l => l / iHe s)).1 = 1 ∧ E = "java/util/NoSuchElementException"))) := by
  refine zX_of (own := RX12) (by decide) rfl (Nat.le_of_ble_eq_true rfl) ?_
  intro p e s m below meth c hC hr hlk hT hZ ls hl
  have hx := hC.x
  have hb := hC.b
  have hl : lv_has ls 4 [(0, .ref ob), (1, .int (iI x)), (2, .int (iI z))] := hl
  refine lv_aload_n hx hb dX12_columnOf_0 rfl (lv_at hl 0 rfl) ?_
  refine lv_iload_n hx hb dX12_columnOf_1 rfl (lv_at hl 1 rfl) ?_
  refine lv_iload_n hx hb dX12_columnOf_2 rfl (lv_at hl 2 rfl) ?_
  refine z_xcallr (z_xrunV (rest := []) (As := [.int (iI x), .int (iI z)]) (n := 2) (ci := 15) hC hZ (met_X12_knownPage l D cs A F ob g sa so er fa c0 x z hlt h0 hs1 hx0 hz0) gv_X12_287 hd_X12_knownPage rfl h0 rfl hl rfl (Nat.le_of_ble_eq_true rfl) ⟨Nat.le_of_ble_eq_true rfl, Nat.le_of_ble_eq_true rfl⟩ ⟨Nat.le_of_ble_eq_true rfl, Nat.le_of_ble_eq_true rfl⟩ dX12_columnOf_3) hZ hT hlk (Nat.le_of_ble_eq_true rfl) (Nat.le_of_ble_eq_true rfl) (fun E F1 q => ⟨q.1, q.2.1.elim (fun y => by rw [sPos_1 y]) (fun y => by obtain ⟨s1, y1, y2⟩ := y; rw [sPos_2 y1 y2]), q.2.2⟩) (fun r3 F3 H locs hp3_c_1 hZ => ?_)
  obtain ⟨rfl, s3, k3, hz3, hf3, hk3, ho3⟩ := hp3_c_1
  have ik43 : 0 ≤ iLi s3 ∧ iLi s3 ≤ 80 := by obtain ⟨_, _, _, _, _, _, _, _, z9⟩ := id ho3; have := z9.2.2.2.1; have := isOK_pg z9; omega
  have ik33 : 1 ≤ iHe s3 ∧ iHe s3 ≤ 20 := by obtain ⟨_, _, _, _, _, _, _, _, z9⟩ := id ho3; exact z9.2.2.1
  refine lv_astore_n (lv' := [(3, .ref r3), (0, .ref ob), (1, .int (iI x)), (2, .int (iI z))]) hx hb dX12_columnOf_6 rfl hl (by decide) rfl (fun ls hl => ?_)
  refine lv_aload_n hx hb dX12_columnOf_7 rfl (lv_at hl 0 rfl) ?_
  refine lv_aload_n hx hb dX12_columnOf_8 rfl (lv_at hl 0 rfl) ?_
  refine lv_iload_n hx hb dX12_columnOf_9 rfl (lv_at hl 3 rfl) ?_
  obtain ⟨fsho_2, ho_2⟩ := (ho3).o
  refine z_calli (z_runV (rest := [.ref r3]) (As := [.int (iI z)]) (n := 1) (ci := 12) hC hZ (met_X9_firstLineOf l D cs A F r3 s3 z ho3 hz0) gv_X12_291 hd_X9_firstLineOf rfl ho_2 rfl hl rfl (Nat.le_of_ble_eq_true rfl) ⟨Nat.le_of_ble_eq_true rfl, Nat.le_of_ble_eq_true rfl⟩ ⟨Nat.le_of_ble_eq_true rfl, Nat.le_of_ble_eq_true rfl⟩ dX12_columnOf_10) hZ (fun r10 F10 H locs hp10_c_3 hZ => ?_)
  obtain ⟨rfl, hp10_c_3⟩ := hp10_c_3
  obtain ⟨hk10, hk11⟩ : k3 = r10 ∧ 0 ≤ r10 := hp10_c_3.elim (fun y => by have e9 := y.1; rw [hf3] at e9; cases e9) (fun y => ⟨by have e9 := y.1; rw [hf3] at e9; exact Option.some.inj e9, y.2.1⟩)
  obtain ⟨fsho_4, ho_4⟩ := (ho3).o
  refine z_calli (z_runV (rest := []) (As := [.int (iI r10)]) (n := 1) (ci := 12) hC hZ (met_X9_columnAt l D cs A F r3 s3 r10 ho3 (by omega)) gv_X12_294 hd_X9_columnAt rfl ho_4 rfl hl rfl (Nat.le_of_ble_eq_true rfl) ⟨Nat.le_of_ble_eq_true rfl, Nat.le_of_ble_eq_true rfl⟩ ⟨Nat.le_of_ble_eq_true rfl, Nat.le_of_ble_eq_true rfl⟩ dX12_columnOf_13) hZ (fun r13 F13 H locs hp13_c_5 hZ => ?_)
  obtain ⟨rfl, rfl⟩ := hp13_c_5
  refine vx_ret ?_
  exact z_iret hC hr hlk hZ (by decide) (by decide) (⟨rfl, by rw [sPos_0 hz3 hf3], by rw [sPos_0 hz3 hf3, hk10]⟩) dX12_columnOf_16

set_option maxHeartbeats 4000000 in
set_option maxRecDepth 100000 in
theorem met_X12_rowOf (l : Launch) (D : va_G) (cs : Nat → ClassId) (A : Nat → Prop) (F : zF) (ob : Nat) (g : Nat → Nat) (sa : Nat) (so : Option Nat) (er fa : Int) (c0 : zCo) (x z : Int) (hlt : l.stackTraces = false)  (h0 : F ob = some (.inr (15, [.ref (g 0), .ref (g 2), .ref (g 4), .ref (g 6), .ref (g 9), .ref (g 11), .ref (g 14), .ref sa, va_rf so, .int (iI er), .int (iI fa)]))) (hs1 : rSt cs F sa c0) (hx0 : InR x) (hz0 : InR z) : zXM l D cs A yX12_rowOf cX12_rowOf 4 (some FieldType.int) 8 2 12 [.ref ob, .int (iI x), .int (iI z)] F (pI (fun r F1 => F = F1 ∧ (sPos c0 x z (fun s l => l % iHe s)).1 = 0 ∧ (sPos c0 x z (fun s l => l % iHe s)).2 = r)) (fun E F1 => F = F1 ∧ (((sPos c0 x z (fun s l => l % iHe s)).1 = 1 ∧ E = "java/util/NoSuchElementException"))) := by
  refine zX_of (own := RX12) (by decide) rfl (Nat.le_of_ble_eq_true rfl) ?_
  intro p e s m below meth c hC hr hlk hT hZ ls hl
  have hx := hC.x
  have hb := hC.b
  have hl : lv_has ls 4 [(0, .ref ob), (1, .int (iI x)), (2, .int (iI z))] := hl
  refine lv_aload_n hx hb dX12_rowOf_0 rfl (lv_at hl 0 rfl) ?_
  refine lv_iload_n hx hb dX12_rowOf_1 rfl (lv_at hl 1 rfl) ?_
  refine lv_iload_n hx hb dX12_rowOf_2 rfl (lv_at hl 2 rfl) ?_
  refine z_xcallr (z_xrunV (rest := []) (As := [.int (iI x), .int (iI z)]) (n := 2) (ci := 15) hC hZ (met_X12_knownPage l D cs A F ob g sa so er fa c0 x z hlt h0 hs1 hx0 hz0) gv_X12_287 hd_X12_knownPage rfl h0 rfl hl rfl (Nat.le_of_ble_eq_true rfl) ⟨Nat.le_of_ble_eq_true rfl, Nat.le_of_ble_eq_true rfl⟩ ⟨Nat.le_of_ble_eq_true rfl, Nat.le_of_ble_eq_true rfl⟩ dX12_rowOf_3) hZ hT hlk (Nat.le_of_ble_eq_true rfl) (Nat.le_of_ble_eq_true rfl) (fun E F1 q => ⟨q.1, q.2.1.elim (fun y => by rw [sPos_1 y]) (fun y => by obtain ⟨s1, y1, y2⟩ := y; rw [sPos_2 y1 y2]), q.2.2⟩) (fun r3 F3 H locs hp3_c_1 hZ => ?_)
  obtain ⟨rfl, s3, k3, hz3, hf3, hk3, ho3⟩ := hp3_c_1
  have ik43 : 0 ≤ iLi s3 ∧ iLi s3 ≤ 80 := by obtain ⟨_, _, _, _, _, _, _, _, z9⟩ := id ho3; have := z9.2.2.2.1; have := isOK_pg z9; omega
  have ik33 : 1 ≤ iHe s3 ∧ iHe s3 ≤ 20 := by obtain ⟨_, _, _, _, _, _, _, _, z9⟩ := id ho3; exact z9.2.2.1
  refine lv_astore_n (lv' := [(3, .ref r3), (0, .ref ob), (1, .int (iI x)), (2, .int (iI z))]) hx hb dX12_rowOf_6 rfl hl (by decide) rfl (fun ls hl => ?_)
  refine lv_aload_n hx hb dX12_rowOf_7 rfl (lv_at hl 0 rfl) ?_
  refine lv_aload_n hx hb dX12_rowOf_8 rfl (lv_at hl 0 rfl) ?_
  refine lv_iload_n hx hb dX12_rowOf_9 rfl (lv_at hl 3 rfl) ?_
  obtain ⟨fsho_2, ho_2⟩ := (ho3).o
  refine z_calli (z_runV (rest := [.ref r3]) (As := [.int (iI z)]) (n := 1) (ci := 12) hC hZ (met_X9_firstLineOf l D cs A F r3 s3 z ho3 hz0) gv_X12_291 hd_X9_firstLineOf rfl ho_2 rfl hl rfl (Nat.le_of_ble_eq_true rfl) ⟨Nat.le_of_ble_eq_true rfl, Nat.le_of_ble_eq_true rfl⟩ ⟨Nat.le_of_ble_eq_true rfl, Nat.le_of_ble_eq_true rfl⟩ dX12_rowOf_10) hZ (fun r10 F10 H locs hp10_c_3 hZ => ?_)
  obtain ⟨rfl, hp10_c_3⟩ := hp10_c_3
  obtain ⟨hk10, hk11⟩ : k3 = r10 ∧ 0 ≤ r10 := hp10_c_3.elim (fun y => by have e9 := y.1; rw [hf3] at e9; cases e9) (fun y => ⟨by have e9 := y.1; rw [hf3] at e9; exact Option.some.inj e9, y.2.1⟩)
  obtain ⟨fsho_4, ho_4⟩ := (ho3).o
  refine z_calli (z_runV (rest := []) (As := [.int (iI r10)]) (n := 1) (ci := 12) hC hZ (met_X9_rowAt l D cs A F r3 s3 r10 ho3 (by omega)) gv_X12_297 hd_X9_rowAt rfl ho_4 rfl hl rfl (Nat.le_of_ble_eq_true rfl) ⟨Nat.le_of_ble_eq_true rfl, Nat.le_of_ble_eq_true rfl⟩ ⟨Nat.le_of_ble_eq_true rfl, Nat.le_of_ble_eq_true rfl⟩ dX12_rowOf_13) hZ (fun r13 F13 H locs hp13_c_5 hZ => ?_)
  obtain ⟨rfl, rfl⟩ := hp13_c_5
  refine vx_ret ?_
  exact z_iret hC hr hlk hZ (by decide) (by decide) (⟨rfl, by rw [sPos_0 hz3 hf3], by rw [sPos_0 hz3 hf3, hk10]⟩) dX12_rowOf_16
