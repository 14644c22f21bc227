theorem zle.kod2 {P F F1 : zF} {O O2 : List Nat} (h : zle P F) (hk : zko O F F1) (hO : ∀ q, q ∈ O → q ∈ O2 ∨ P q = none) : zko O2 P F1 := fun q e hq hn => hk q e (h q e hq) (fun c => (hO q c).elim hn (fun z => by rw [z] at hq; cases hq))
theorem znn1 {F : zF} {x : Nat} {O : List Nat} (h : F x = none) (h1 : ∀ q, q ∈ O → F q = none) : ∀ q, q ∈ x :: O → F q = none := fun q hq => (List.mem_cons.mp hq).elim (fun z => by rw [z]; exact h) (h1 q)
theorem znn0 {F : zF} : ∀ q, q ∈ ([] : List Nat) → F q = none := fun q hq => absurd hq List.not_mem_nil
theorem sWid_0 {c : zCo} {x : Int} (h : 4 ≤ x ∧ x ≤ 20) : sWid c x = (0, cWid c x, cWi c) := if_pos h
theorem sWid_1 {c : zCo} {x : Int} (h : ¬ (4 ≤ x ∧ x ≤ 20)) : sWid c x = (1, c, 0) := if_neg h
theorem sPag_0 {c : zCo} {x y : Int} (h : (1 ≤ x ∧ x ≤ 4) ∧ 1 ≤ y ∧ y ≤ 20) : sPag c x y = (0, cPag c x y, x * y) := if_pos h
theorem sPag_1 {c : zCo} {x y : Int} (h : ¬ ((1 ≤ x ∧ x ≤ 4) ∧ 1 ≤ y ∧ y ≤ 20)) : sPag c x y = (1, c, 0) := if_neg h
theorem sDay_0 {c : zCo} {x : Int} (h : 1 ≤ x ∧ x ≤ 30) : sDay c x = (0, cDay c x, zlost (cDa c) x (cIs c)) := if_pos h
theorem sDay_1 {c : zCo} {x : Int} (h : ¬ (1 ≤ x ∧ x ≤ 30)) : sDay c x = (1, c, 0) := if_neg h
theorem sRem_0 {c : zCo} {x : Int} {i : Nat} (h : zix (cAr c) x = some i) : sRem c x = (0, cRem c i, ((cAr c).length : Int) - 1) := by unfold sRem; rw [h]
theorem sRem_1 {c : zCo} {x : Int} (h : zix (cAr c) x = none) : sRem c x = (1, c, 0) := by unfold sRem; rw [h]
theorem sPrt_0 {c : zCo} (h : ¬ (cAr c).length = 0) : sPrt c = (0, cPrt c, cNn c) := if_neg h
theorem sPrt_1 {c : zCo} (h : (cAr c).length = 0) : sPrt c = (1, c, 0) := if_pos h
theorem zlost_rd (da d : Int) (hd : 0 ≤ d) : ∀ l : List zIs, zlost da d l = zrd da l - zrd (da + d) l := fun l => by
  unfold zlost zrd
  induction l with
  | nil => rfl
  | cons a t ih =>
    rw [List.countP_cons, List.countP_cons, List.countP_cons]
    by_cases q : da - iPr a < 5
    · by_cases q2 : da + d - iPr a < 5
      · rw [if_neg (by rw [Bool.and_eq_true]; exact fun z => by have := of_decide_eq_true z.2; omega), if_pos (decide_eq_true q), if_pos (decide_eq_true q2)]
        omega
      · rw [if_pos (by rw [Bool.and_eq_true]; exact ⟨decide_eq_true q, decide_eq_true (by omega)⟩), if_pos (decide_eq_true q), if_neg (fun z => q2 (of_decide_eq_true z))]
        omega
    · rw [if_neg (by rw [Bool.and_eq_true]; exact fun z => q (of_decide_eq_true z.1)), if_neg (fun z => q (of_decide_eq_true z)), if_neg (fun z => by have := of_decide_eq_true z; omega)]
      omega
set_option maxHeartbeats 4000000 in
set_option maxRecDepth 100000 in
theorem met_X12_setWidth (l : Launch) (D : va_G) (cs : Nat → ClassId) (A : Nat → Prop) (F : zF) (ob : Nat) (g : Nat → Nat) (sa : Nat) (so : Option Nat) (hL : List Nat) (tx inp out : List Int) (c0 : zCo) (sv : Option zCo) (hs : List zCo) (er fa : Int) (x : Int) (N : Nat) (hlt : l.stackTraces = false)  (hg : gOb cs F ob g sa so hL tx inp out c0 sv hs er fa) (hx0 : InR x) (hK : cOK N c0) (hN : N ≤ 900) (hh8 : hs.length ≤ 8) : zXM l D cs A yX12_setWidth cX12_setWidth 4 (some FieldType.int) 9 14 131 [.ref ob, .int (iI x)] F (pI (fun r F1 => (sWid c0 x).1 = 0 ∧ (sWid c0 x).2.2 = r ∧ ∃ (g1 : Nat → Nat) (sa1 : Nat) (hL1 : List Nat), gOb cs F1 ob g1 sa1 so hL1 tx inp out (sWid c0 x).2.1 sv (pushH hs c0) er fa)) (fun E F1 => gOb cs F1 ob g sa so hL tx inp out c0 sv hs er fa ∧ (((sWid c0 x).1 = 1 ∧ E = "java/lang/IllegalArgumentException"))) := by
  refine zX_of (own := RX12) (by decide) rfl (Nat.le_of_ble_eq_true rfl) ?_
  intro p e s m below meth c hC hr hlk hT hZ ls hl
  have hx := hC.x
  have hb := hC.b
  have hl : lv_has ls 4 [(0, .ref ob), (1, .int (iI x))] := hl
  have h0 : F ob = some (.inr (15, [.ref (g 0), .ref (g 2), .ref (g 4), .ref (g 6), .ref (g 9), .ref (g 11), .ref (g 14), .ref sa, va_rf so, .int (iI er), .int (iI fa)])) := hg.1
  have hs1 := hg.st
  have h8 := z_c8 hC hZ
  obtain ⟨-, hDis, hTx, hI, ⟨cap, hO⟩, ⟨wd0, st0, hLs⟩, ⟨hE1, e0, hE2⟩, ⟨pos0, L0, hR1, hR2⟩, hH, hSt⟩ := id hg
  obtain ⟨la, li, aL, iL, h9, ⟨ra, hla⟩, ⟨ri, hli⟩, has, his⟩ := id hs1
  have haL := has.1
  have hiL := his.1
  have ha10 := oL_10 hla
  have hi10 := oL_10 hli
  refine lv_aload_n hx hb dX12_setWidth_0 rfl (lv_at hl 0 rfl) ?_
  refine z_get (T := TX12) (N := 11) (ci := 15) (k := 7) (fs := [.ref (g 0), .ref (g 2), .ref (g 4), .ref (g 6), .ref (g 9), .ref (g 11), .ref (g 14), .ref sa, va_rf so, .int (iI er), .int (iI fa)]) (v := .ref sa) hC hZ in_X12 rfl (by decide) ql_X12_59 rfl h0 rfl dX12_setWidth_1 ?_
  refine z_callr (z_runV (rest := []) (As := []) (n := 0) (ci := 13) hC hZ (met_X10_copied l D cs A F sa c0 hs1 hK.1 hK.2.1) gv_X12_115 hd_X10_copied rfl h9 rfl hl rfl (Nat.le_of_ble_eq_true rfl) ⟨Nat.le_of_ble_eq_true rfl, Nat.le_of_ble_eq_true rfl⟩ ⟨Nat.le_of_ble_eq_true rfl, Nat.le_of_ble_eq_true rfl⟩ dX12_setWidth_4) hZ (fun r4 F4 H locs hp4_c_1 hZ => ?_)
  obtain ⟨hle4, lb, rb, lj, rj, n1, n2, n3, n4, n5, hb4⟩ := hp4_c_1
  have hg4 := hg.le hle4
  have h04 : F4 ob = some (.inr (15, [.ref (g 0), .ref (g 2), .ref (g 4), .ref (g 6), .ref (g 9), .ref (g 11), .ref (g 14), .ref sa, va_rf so, .int (iI er), .int (iI fa)])) := hg4.1
  have hs14 := hg4.st
  have h84 := z_c8 hC hZ
  obtain ⟨aN4, iN4, hN4, -⟩ := id hb4
  refine lv_astore_n (lv' := [(2, .ref r4), (0, .ref ob), (1, .int (iI x))]) hx hb dX12_setWidth_7 rfl hl (by decide) rfl (fun ls hl => ?_)
  refine lv_aload_n hx hb dX12_setWidth_8 rfl (lv_at hl 0 rfl) ?_
  refine lv_iload_n hx hb dX12_setWidth_9 rfl (lv_at hl 2 rfl) ?_
  refine z_calli (z_runV (rest := []) (As := [.int (iI x)]) (n := 1) (ci := 13) hC hZ (met_X10_takeWidth l D cs A F4 r4 lb rb lj rj c0 x hb4 hx0) gv_X12_200 hd_X10_takeWidth rfl hN4 rfl hl rfl (Nat.le_of_ble_eq_true rfl) ⟨Nat.le_of_ble_eq_true rfl, Nat.le_of_ble_eq_true rfl⟩ ⟨Nat.le_of_ble_eq_true rfl, Nat.le_of_ble_eq_true rfl⟩ dX12_setWidth_10) hZ (fun r10 F10 H locs hp10_c_2 hZ => ?_)
  rcases hp10_c_2 with ⟨hc10, rfl, rfl⟩ | ⟨hc10, rfl, hk10, hb10⟩
  · skip
    refine z_if_ne (tgt := 26) hx hb dX12_setWidth_13 (by decide) (by decide) (fun c_3 => ?_) (fun c_3 => ?_)
    · skip
      exfalso; omega
    · skip
      exact z_throw (rest := []) hC hZ hlt hT hlk zth_e0 zth_g0 zth_o0 zth_k0 zth_i0 (by decide) (List.mem_of_getElem? (i := 9) rfl) hl (Nat.le_of_ble_eq_true rfl) (Nat.le_of_ble_eq_true rfl) (Nat.le_of_ble_eq_true rfl) (Nat.le_of_ble_eq_true rfl) (Nat.le_of_ble_eq_true rfl) (Nat.le_of_ble_eq_true rfl) (⟨hg4, ⟨by rw [sWid_1 hc10], rfl⟩⟩) dX12_setWidth_16 dX12_setWidth_19 dX12_setWidth_20 dX12_setWidth_22 dX12_setWidth_25
  · skip
    have hle10 : zle F F10 := hle4.kod hk10 (znn1 n1 znn0)
    have hg10 := hg.le hle10
    have h010 : F10 ob = some (.inr (15, [.ref (g 0), .ref (g 2), .ref (g 4), .ref (g 6), .ref (g 9), .ref (g 11), .ref (g 14), .ref sa, va_rf so, .int (iI er), .int (iI fa)])) := hg10.1
    have hs110 := hg10.st
    have h810 := z_c8 hC hZ
    obtain ⟨la10, li10, aL10, iL10, h910, ⟨ra10, hla10⟩, ⟨ri10, hli10⟩, has10, his10⟩ := id hs110
    have haL10 := has10.1
    have hiL10 := his10.1
    have ha1010 := oL_10 hla10
    have hi1010 := oL_10 hli10
    have hnx10 := hg.nst hg10 hC.c54 h810 hb10 n1 n2 n4 n3 n5
    refine z_if_ne (tgt := 26) hx hb dX12_setWidth_13 (by decide) (by decide) (fun c_4 => ?_) (fun c_4 => ?_)
    · skip
      refine lv_aload_n hx hb dX12_setWidth_26 rfl (lv_at hl 1 rfl) ?_
      refine z_get (T := TX12) (N := 11) (ci := 15) (k := 7) (fs := [.ref (g 0), .ref (g 2), .ref (g 4), .ref (g 6), .ref (g 9), .ref (g 11), .ref (g 14), .ref sa, va_rf so, .int (iI er), .int (iI fa)]) (v := .ref sa) hC hZ in_X12 rfl (by decide) ql_X12_59 rfl h010 rfl dX12_setWidth_27 ?_
      refine z_getN (T := TX10) (N := 9) (ci := 13) (k := 4) (fs := [.ref la10, .ref li10, .int (iI (cNi c0)), .int (iI (cNn c0)), .int (iI (cWi c0)), .int (iI (cCo c0)), .int (iI (cHe c0)), .int (iI (cDa c0)), .int (iI (cLa c0))]) (v := .int (iI (cWi c0))) hC hZ in_X10 rfl (by decide) ql_X12_205 rfl h910 rfl dX12_setWidth_30 ?_
      refine lv_istore_n (lv' := [(3, .int (iI (cWi c0))), (2, .ref r4), (0, .ref ob), (1, .int (iI x))]) hx hb dX12_setWidth_33 rfl hl (by decide) rfl (fun ls hl => ?_)
      refine lv_aload_n hx hb dX12_setWidth_34 rfl (lv_at hl 2 rfl) ?_
      refine lv_aload_n hx hb dX12_setWidth_35 rfl (lv_at hl 1 rfl) ?_
      refine z_callv (z_runV (rest := []) (As := [.ref r4]) (n := 1) (ci := 15) hC hZ (met_X12_become l D cs A F10 ob g sa so hL tx inp out c0 sv hs er fa r4 (cWid c0 x) hg10 hnx10 hh8) gv_X12_127 hd_X12_become rfl h010 rfl hl rfl (Nat.le_of_ble_eq_true rfl) ⟨Nat.le_of_ble_eq_true rfl, Nat.le_of_ble_eq_true rfl⟩ ⟨Nat.le_of_ble_eq_true rfl, Nat.le_of_ble_eq_true rfl⟩ dX12_setWidth_36) hZ (fun F36 H locs hp36_c_5 hZ => ?_)
      obtain ⟨hk36, g1, hL1, hg36⟩ := hp36_c_5
      have h036 : F36 ob = some (.inr (15, [.ref (g1 0), .ref (g1 2), .ref (g1 4), .ref (g1 6), .ref (g1 9), .ref (g1 11), .ref (g1 14), .ref r4, va_rf so, .int (iI er), .int (iI fa)])) := hg36.1
      have hs136 := hg36.st
      have h836 := z_c8 hC hZ
      refine lv_iload_n hx hb dX12_setWidth_39 rfl (lv_at hl 0 rfl) ?_
      refine vx_ret ?_
      exact z_iret hC hr hlk hZ (by decide) (by decide) (⟨by rw [sWid_0 hc10], by rw [sWid_0 hc10], g1, r4, hL1, by rw [sWid_0 hc10]; exact hg36⟩) dX12_setWidth_40
    · skip
      exfalso; omega

set_option maxHeartbeats 4000000 in
set_option maxRecDepth 100000 in
theorem met_X12_setPage (l : Launch) (D : va_G) (cs : Nat → ClassId) (A : Nat → Prop) (F : zF) (ob : Nat) (g : Nat → Nat) (sa : Nat) (so : Option Nat) (hL : List Nat) (tx inp out : List Int) (c0 : zCo) (sv : Option zCo) (hs : List zCo) (er fa : Int) (x y : Int) (N : Nat) (hlt : l.stackTraces = false)  (hg : gOb cs F ob g sa so hL tx inp out c0 sv hs er fa) (hx0 : InR x) (hy0 : InR y) (hK : cOK N c0) (hN : N ≤ 900) (hh8 : hs.length ≤ 8) : zXM l D cs A yX12_setPage cX12_setPage 4 (some FieldType.int) 9 14 131 [.ref ob, .int (iI x), .int (iI y)] F (pI (fun r F1 => (sPag c0 x y).1 = 0 ∧ (sPag c0 x y).2.2 = r ∧ ∃ (g1 : Nat → Nat) (sa1 : Nat) (hL1 : List Nat), gOb cs F1 ob g1 sa1 so hL1 tx inp out (sPag c0 x y).2.1 sv (pushH hs c0) er fa)) (fun E F1 => gOb cs F1 ob g sa so hL tx inp out c0 sv hs er fa ∧ (((sPag c0 x y).1 = 1 ∧ E = "java/lang/IllegalArgumentException"))) := by
  refine zX_of (own := RX12) (by decide) rfl (Nat.le_of_ble_eq_true rfl) ?_
  intro p e s m below meth c hC hr hlk hT hZ ls hl
  have hx := hC.x
  have hb := hC.b
  have hl : lv_has ls 4 [(0, .ref ob), (1, .int (iI x)), (2, .int (iI y))] := hl
  have h0 : F ob = some (.inr (15, [.ref (g 0), .ref (g 2), .ref (g 4), .ref (g 6), .ref (g 9), .ref (g 11), .ref (g 14), .ref sa, va_rf so, .int (iI er), .int (iI fa)])) := hg.1
  have hs1 := hg.st
  have h8 := z_c8 hC hZ
  obtain ⟨-, hDis, hTx, hI, ⟨cap, hO⟩, ⟨wd0, st0, hLs⟩, ⟨hE1, e0, hE2⟩, ⟨pos0, L0, hR1, hR2⟩, hH, hSt⟩ := id hg
  obtain ⟨la, li, aL, iL, h9, ⟨ra, hla⟩, ⟨ri, hli⟩, has, his⟩ := id hs1
  have haL := has.1
  have hiL := his.1
  have ha10 := oL_10 hla
  have hi10 := oL_10 hli
  refine lv_aload_n hx hb dX12_setPage_0 rfl (lv_at hl 0 rfl) ?_
  refine z_get (T := TX12) (N := 11) (ci := 15) (k := 7) (fs := [.ref (g 0), .ref (g 2), .ref (g 4), .ref (g 6), .ref (g 9), .ref (g 11), .ref (g 14), .ref sa, va_rf so, .int (iI er), .int (iI fa)]) (v := .ref sa) hC hZ in_X12 rfl (by decide) ql_X12_59 rfl h0 rfl dX12_setPage_1 ?_
  refine z_callr (z_runV (rest := []) (As := []) (n := 0) (ci := 13) hC hZ (met_X10_copied l D cs A F sa c0 hs1 hK.1 hK.2.1) gv_X12_115 hd_X10_copied rfl h9 rfl hl rfl (Nat.le_of_ble_eq_true rfl) ⟨Nat.le_of_ble_eq_true rfl, Nat.le_of_ble_eq_true rfl⟩ ⟨Nat.le_of_ble_eq_true rfl, Nat.le_of_ble_eq_true rfl⟩ dX12_setPage_4) hZ (fun r4 F4 H locs hp4_c_1 hZ => ?_)
  obtain ⟨hle4, lb, rb, lj, rj, n1, n2, n3, n4, n5, hb4⟩ := hp4_c_1
  have hg4 := hg.le hle4
  have h04 : F4 ob = some (.inr (15, [.ref (g 0), .ref (g 2), .ref (g 4), .ref (g 6), .ref (g 9), .ref (g 11), .ref (g 14), .ref sa, va_rf so, .int (iI er), .int (iI fa)])) := hg4.1
  have hs14 := hg4.st
  have h84 := z_c8 hC hZ
  obtain ⟨aN4, iN4, hN4, -⟩ := id hb4
  refine lv_astore_n (lv' := [(3, .ref r4), (0, .ref ob), (1, .int (iI x)), (2, .int (iI y))]) hx hb dX12_setPage_7 rfl hl (by decide) rfl (fun ls hl => ?_)
  refine lv_aload_n hx hb dX12_setPage_8 rfl (lv_at hl 0 rfl) ?_
  refine lv_iload_n hx hb dX12_setPage_9 rfl (lv_at hl 2 rfl) ?_
  refine lv_iload_n hx hb dX12_setPage_10 rfl (lv_at hl 3 rfl) ?_
  refine z_calli (z_runV (rest := []) (As := [.int (iI x), .int (iI y)]) (n := 2) (ci := 13) hC hZ (met_X10_takePage l D cs A F4 r4 lb rb lj rj c0 x y hb4 hx0 hy0) gv_X12_248 hd_X10_takePage rfl hN4 rfl hl rfl (Nat.le_of_ble_eq_true rfl) ⟨Nat.le_of_ble_eq_true rfl, Nat.le_of_ble_eq_true rfl⟩ ⟨Nat.le_of_ble_eq_true rfl, Nat.le_of_ble_eq_true rfl⟩ dX12_setPage_11) hZ (fun r11 F11 H locs hp11_c_2 hZ => ?_)
  rcases hp11_c_2 with ⟨hc11, rfl, rfl⟩ | ⟨hc11, rfl, hk11, hb11⟩
  · skip
    refine z_if_ne (tgt := 27) hx hb dX12_setPage_14 (by decide) (by decide) (fun c_3 => ?_) (fun c_3 => ?_)
    · skip
      exfalso; omega
    · skip
      exact z_throw (rest := []) hC hZ hlt hT hlk zth_e0 zth_g0 zth_o0 zth_k0 zth_i0 (by decide) (List.mem_of_getElem? (i := 10) rfl) hl (Nat.le_of_ble_eq_true rfl) (Nat.le_of_ble_eq_true rfl) (Nat.le_of_ble_eq_true rfl) (Nat.le_of_ble_eq_true rfl) (Nat.le_of_ble_eq_true rfl) (Nat.le_of_ble_eq_true rfl) (⟨hg4, by rw [sPag_1 hc11], rfl⟩) dX12_setPage_17 dX12_setPage_20 dX12_setPage_21 dX12_setPage_23 dX12_setPage_26
  · skip
    have hle11 : zle F F11 := hle4.kod hk11 (znn1 n1 znn0)
    have hg11 := hg.le hle11
    have h011 : F11 ob = some (.inr (15, [.ref (g 0), .ref (g 2), .ref (g 4), .ref (g 6), .ref (g 9), .ref (g 11), .ref (g 14), .ref sa, va_rf so, .int (iI er), .int (iI fa)])) := hg11.1
    have hs111 := hg11.st
    have h811 := z_c8 hC hZ
    obtain ⟨la11, li11, aL11, iL11, h911, ⟨ra11, hla11⟩, ⟨ri11, hli11⟩, has11, his11⟩ := id hs111
    have haL11 := has11.1
    have hiL11 := his11.1
    have ha1011 := oL_10 hla11
    have hi1011 := oL_10 hli11
    have hnx11 := hg.nst hg11 hC.c54 h811 hb11 n1 n2 n4 n3 n5
    refine z_if_ne (tgt := 27) hx hb dX12_setPage_14 (by decide) (by decide) (fun c_4 => ?_) (fun c_4 => ?_)
    · skip
      refine lv_aload_n hx hb dX12_setPage_27 rfl (lv_at hl 1 rfl) ?_
      refine lv_aload_n hx hb dX12_setPage_28 rfl (lv_at hl 0 rfl) ?_
      refine z_callv (z_runV (rest := []) (As := [.ref r4]) (n := 1) (ci := 15) hC hZ (met_X12_become l D cs A F11 ob g sa so hL tx inp out c0 sv hs er fa r4 (cPag c0 x y) hg11 hnx11 hh8) gv_X12_127 hd_X12_become rfl h011 rfl hl rfl (Nat.le_of_ble_eq_true rfl) ⟨Nat.le_of_ble_eq_true rfl, Nat.le_of_ble_eq_true rfl⟩ ⟨Nat.le_of_ble_eq_true rfl, Nat.le_of_ble_eq_true rfl⟩ dX12_setPage_29) hZ (fun F29 H locs hp29_c_5 hZ => ?_)
      obtain ⟨hk29, g1, hL1, hg29⟩ := hp29_c_5
      have h029 : F29 ob = some (.inr (15, [.ref (g1 0), .ref (g1 2), .ref (g1 4), .ref (g1 6), .ref (g1 9), .ref (g1 11), .ref (g1 14), .ref r4, va_rf so, .int (iI er), .int (iI fa)])) := hg29.1
      have hs129 := hg29.st
      have h829 := z_c8 hC hZ
      refine lv_iload_n hx hb dX12_setPage_32 rfl (lv_at hl 2 rfl) ?_
      refine lv_iload_n hx hb dX12_setPage_33 rfl (lv_at hl 3 rfl) ?_
      refine z_imul hx hb dX12_setPage_34 ?_
      refine vx_ret ?_
      exact z_iret hC hr hlk hZ (by decide) (by decide) (⟨by rw [sPag_0 hc11], by rw [sPag_0 hc11], g1, r4, hL1, by rw [sPag_0 hc11]; exact hg29⟩) dX12_setPage_35
    · skip
      exfalso; omega

set_option maxHeartbeats 4000000 in
set_option maxRecDepth 100000 in
theorem met_X12_removeArticle (l : Launch) (D : va_G) (cs : Nat → ClassId) (A : Nat → Prop) (F : zF) (ob : Nat) (g : Nat → Nat) (sa : Nat) (so : Option Nat) (hL : List Nat) (tx inp out : List Int) (c0 : zCo) (sv : Option zCo) (hs : List zCo) (er fa : Int) (x : Int) (N : Nat) (hlt : l.stackTraces = false)  (hg : gOb cs F ob g sa so hL tx inp out c0 sv hs er fa) (hx0 : InR x) (hK : cOK N c0) (hN : N ≤ 900) (hh8 : hs.length ≤ 8) : zXM l D cs A yX12_removeArticle cX12_removeArticle 3 (some FieldType.int) 9 14 131 [.ref ob, .int (iI x)] F (pI (fun r F1 => (sRem c0 x).1 = 0 ∧ (sRem c0 x).2.2 = r ∧ ∃ (g1 : Nat → Nat) (sa1 : Nat) (hL1 : List Nat), gOb cs F1 ob g1 sa1 so hL1 tx inp out (sRem c0 x).2.1 sv (pushH hs c0) er fa)) (fun E F1 => gOb cs F1 ob g sa so hL tx inp out c0 sv hs er fa ∧ (((sRem c0 x).1 = 1 ∧ E = "java/util/NoSuchElementException"))) := by
  refine zX_of (own := RX12) (by decide) rfl (Nat.le_of_ble_eq_true rfl) ?_
  intro p e s m below meth c hC hr hlk hT hZ ls hl
  have hx := hC.x
  have hb := hC.b
  have hl : lv_has ls 3 [(0, .ref ob), (1, .int (iI x))] := hl
  have h0 : F ob = some (.inr (15, [.ref (g 0), .ref (g 2), .ref (g 4), .ref (g 6), .ref (g 9), .ref (g 11), .ref (g 14), .ref sa, va_rf so, .int (iI er), .int (iI fa)])) := hg.1
  have hs1 := hg.st
  have h8 := z_c8 hC hZ
  obtain ⟨-, hDis, hTx, hI, ⟨cap, hO⟩, ⟨wd0, st0, hLs⟩, ⟨hE1, e0, hE2⟩, ⟨pos0, L0, hR1, hR2⟩, hH, hSt⟩ := id hg
  obtain ⟨la, li, aL, iL, h9, ⟨ra, hla⟩, ⟨ri, hli⟩, has, his⟩ := id hs1
  have haL := has.1
  have hiL := his.1
  have ha10 := oL_10 hla
  have hi10 := oL_10 hli
  refine lv_aload_n hx hb dX12_removeArticle_0 rfl (lv_at hl 0 rfl) ?_
  refine z_get (T := TX12) (N := 11) (ci := 15) (k := 7) (fs := [.ref (g 0), .ref (g 2), .ref (g 4), .ref (g 6), .ref (g 9), .ref (g 11), .ref (g 14), .ref sa, va_rf so, .int (iI er), .int (iI fa)]) (v := .ref sa) hC hZ in_X12 rfl (by decide) ql_X12_59 rfl h0 rfl dX12_removeArticle_1 ?_
  refine z_callr (z_runV (rest := []) (As := []) (n := 0) (ci := 13) hC hZ (met_X10_copied l D cs A F sa c0 hs1 hK.1 hK.2.1) gv_X12_115 hd_X10_copied rfl h9 rfl hl rfl (Nat.le_of_ble_eq_true rfl) ⟨Nat.le_of_ble_eq_true rfl, Nat.le_of_ble_eq_true rfl⟩ ⟨Nat.le_of_ble_eq_true rfl, Nat.le_of_ble_eq_true rfl⟩ dX12_removeArticle_4) hZ (fun r4 F4 H locs hp4_c_1 hZ => ?_)
  obtain ⟨hle4, lb, rb, lj, rj, n1, n2, n3, n4, n5, hb4⟩ := hp4_c_1
  have hg4 := hg.le hle4
  have h04 : F4 ob = some (.inr (15, [.ref (g 0), .ref (g 2), .ref (g 4), .ref (g 6), .ref (g 9), .ref (g 11), .ref (g 14), .ref sa, va_rf so, .int (iI er), .int (iI fa)])) := hg4.1
  have hs14 := hg4.st
  have h84 := z_c8 hC hZ
  obtain ⟨aN4, iN4, hN4, -⟩ := id hb4
  refine lv_astore_n (lv' := [(2, .ref r4), (0, .ref ob), (1, .int (iI x))]) hx hb dX12_removeArticle_7 rfl hl (by decide) rfl (fun ls hl => ?_)
  refine lv_aload_n hx hb dX12_removeArticle_8 rfl (lv_at hl 0 rfl) ?_
  refine lv_iload_n hx hb dX12_removeArticle_9 rfl (lv_at hl 2 rfl) ?_
  refine z_calli (z_runV (rest := []) (As := [.int (iI x)]) (n := 1) (ci := 13) hC hZ (met_X10_dropArticle l D cs A F4 r4 lb rb lj rj c0 x hb4 hx0) gv_X12_131 hd_X10_dropArticle rfl hN4 rfl hl rfl (Nat.le_of_ble_eq_true rfl) ⟨Nat.le_of_ble_eq_true rfl, Nat.le_of_ble_eq_true rfl⟩ ⟨Nat.le_of_ble_eq_true rfl, Nat.le_of_ble_eq_true rfl⟩ dX12_removeArticle_10) hZ (fun r10 F10 H locs hp10_c_2 hZ => ?_)
  rcases hp10_c_2 with ⟨hc10, rfl, rfl⟩ | ⟨i10, hc10, hil10, rfl, hk10, hb10⟩
  · skip
    refine z_if_ne (tgt := 26) hx hb dX12_removeArticle_13 (by decide) (by decide) (fun c_3 => ?_) (fun c_3 => ?_)
    · skip
      exfalso; omega
    · skip
      exact z_throwN (rest := []) hC hZ hlt hT hlk (List.mem_of_getElem? (i := 5) rfl) hl (Nat.le_of_ble_eq_true rfl) (Nat.le_of_ble_eq_true rfl) (Nat.le_of_ble_eq_true rfl) (Nat.le_of_ble_eq_true rfl) (Nat.le_of_ble_eq_true rfl) (Nat.le_of_ble_eq_true rfl) (⟨hg4, by rw [sRem_1 hc10], rfl⟩) dX12_removeArticle_16 dX12_removeArticle_19 (Or.inl ⟨dX12_removeArticle_20, rfl⟩) dX12_removeArticle_22 dX12_removeArticle_25
  · skip
    have hle10 : zle F F10 := hle4.kod hk10 (znn1 n2 (znn1 n3 znn0))
    have hg10 := hg.le hle10
    have h010 : F10 ob = some (.inr (15, [.ref (g 0), .ref (g 2), .ref (g 4), .ref (g 6), .ref (g 9), .ref (g 11), .ref (g 14), .ref sa, va_rf so, .int (iI er), .int (iI fa)])) := hg10.1
    have hs110 := hg10.st
    have h810 := z_c8 hC hZ
    obtain ⟨la10, li10, aL10, iL10, h910, ⟨ra10, hla10⟩, ⟨ri10, hli10⟩, has10, his10⟩ := id hs110
    have haL10 := has10.1
    have hiL10 := his10.1
    have ha1010 := oL_10 hla10
    have hi1010 := oL_10 hli10
    have hnx10 := hg.nst hg10 hC.c54 h810 hb10 n1 n2 n4 n3 n5
    refine z_if_ne (tgt := 26) hx hb dX12_removeArticle_13 (by decide) (by decide) (fun c_4 => ?_) (fun c_4 => ?_)
    · skip
      refine lv_aload_n hx hb dX12_removeArticle_26 rfl (lv_at hl 1 rfl) ?_
      refine lv_aload_n hx hb dX12_removeArticle_27 rfl (lv_at hl 0 rfl) ?_
      refine z_callv (z_runV (rest := []) (As := [.ref r4]) (n := 1) (ci := 15) hC hZ (met_X12_become l D cs A F10 ob g sa so hL tx inp out c0 sv hs er fa r4 (cDrop c0 i10) hg10 hnx10 hh8) gv_X12_127 hd_X12_become rfl h010 rfl hl rfl (Nat.le_of_ble_eq_true rfl) ⟨Nat.le_of_ble_eq_true rfl, Nat.le_of_ble_eq_true rfl⟩ ⟨Nat.le_of_ble_eq_true rfl, Nat.le_of_ble_eq_true rfl⟩ dX12_removeArticle_28) hZ (fun F28 H locs hp28_c_5 hZ => ?_)
      obtain ⟨hk28, g1, hL1, hg28⟩ := hp28_c_5
      have h028 : F28 ob = some (.inr (15, [.ref (g1 0), .ref (g1 2), .ref (g1 4), .ref (g1 6), .ref (g1 9), .ref (g1 11), .ref (g1 14), .ref r4, va_rf so, .int (iI er), .int (iI fa)])) := hg28.1
      have hs128 := hg28.st
      have h828 := z_c8 hC hZ
      obtain ⟨la28, li28, aL28, iL28, h928, ⟨ra28, hla28⟩, ⟨ri28, hli28⟩, has28, his28⟩ := id hs128
      have haL28 := has28.1
      have hiL28 := his28.1
      have ha1028 := oL_10 hla28
      have hi1028 := oL_10 hli28
      refine lv_aload_n hx hb dX12_removeArticle_31 rfl (lv_at hl 1 rfl) ?_
      refine z_get (T := TX12) (N := 11) (ci := 15) (k := 7) (fs := [.ref (g1 0), .ref (g1 2), .ref (g1 4), .ref (g1 6), .ref (g1 9), .ref (g1 11), .ref (g1 14), .ref r4, va_rf so, .int (iI er), .int (iI fa)]) (v := .ref r4) hC hZ in_X12 rfl (by decide) ql_X12_59 rfl h028 rfl dX12_removeArticle_32 ?_
      refine z_getN (T := TX10) (N := 9) (ci := 13) (k := 0) (fs := [.ref la28, .ref li28, .int (iI (cNi (cDrop c0 i10))), .int (iI (cNn (cDrop c0 i10))), .int (iI (cWi (cDrop c0 i10))), .int (iI (cCo (cDrop c0 i10))), .int (iI (cHe (cDrop c0 i10))), .int (iI (cDa (cDrop c0 i10))), .int (iI (cLa (cDrop c0 i10)))]) (v := .ref la28) hC hZ in_X10 rfl (by decide) ql_X12_98 rfl h928 rfl dX12_removeArticle_35 ?_
      obtain ⟨fsho_6, ho_6⟩ := (hla28).o
      refine z_calli (z_runV (rest := []) (As := []) (n := 0) (ci := 4) hC hZ (met_Jx4a65c_size_8abf5 l D cs A F28 la28 ra28 aL28 hla28) gv_X12_101 hd_Jx4a65c_size_8abf5 rfl ho_6 rfl hl rfl (Nat.le_of_ble_eq_true rfl) ⟨Nat.le_of_ble_eq_true rfl, Nat.le_of_ble_eq_true rfl⟩ ⟨Nat.le_of_ble_eq_true rfl, Nat.le_of_ble_eq_true rfl⟩ dX12_removeArticle_38) hZ (fun r38 F38 H locs hp38_c_7 hZ => ?_)
      obtain ⟨rfl, rfl⟩ := hp38_c_7
      refine vx_ret ?_
      exact z_iret hC hr hlk hZ (by decide) (by decide) (⟨by rw [sRem_0 hc10], by rw [sRem_0 hc10]; show ((cAr c0).length : Int) - 1 = _; rw [haL28]; show _ = ((((cAr c0).eraseIdx i10).length : Nat) : Int); rw [List.length_eraseIdx, if_pos hil10]; omega, g1, r4, hL1, by rw [sRem_0 hc10]; exact hg28⟩) dX12_removeArticle_41
    · skip
      exfalso; omega

set_option maxHeartbeats 4000000 in
set_option maxRecDepth 100000 in
theorem met_X12_passDays (l : Launch) (D : va_G) (cs : Nat → ClassId) (A : Nat → Prop) (F : zF) (ob : Nat) (g : Nat → Nat) (sa : Nat) (so : Option Nat) (hL : List Nat) (tx inp out : List Int) (c0 : zCo) (sv : Option zCo) (hs : List zCo) (er fa : Int) (x : Int) (N : Nat) (hlt : l.stackTraces = false)  (hg : gOb cs F ob g sa so hL tx inp out c0 sv hs er fa) (hx0 : InR x) (hK : cOK N c0) (hN : N ≤ 900) (hh8 : hs.length ≤ 8) : zXM l D cs A yX12_passDays cX12_passDays 4 (some FieldType.int) 9 18 143 [.ref ob, .int (iI x)] F (pI (fun r F1 => (sDay c0 x).1 = 0 ∧ (sDay c0 x).2.2 = r ∧ ∃ (g1 : Nat → Nat) (sa1 : Nat) (hL1 : List Nat), gOb cs F1 ob g1 sa1 so hL1 tx inp out (sDay c0 x).2.1 sv (pushH hs c0) er fa)) (fun E F1 => gOb cs F1 ob g sa so hL tx inp out c0 sv hs er fa ∧ (((sDay c0 x).1 = 1 ∧ E = "java/lang/IllegalArgumentException"))) := by
  refine zX_of (own := RX12) (by decide) rfl (Nat.le_of_ble_eq_true rfl) ?_
  intro p e s m below meth c hC hr hlk hT hZ ls hl
  have hx := hC.x
  have hb := hC.b
  have hl : lv_has ls 4 [(0, .ref ob), (1, .int (iI x))] := hl
  have h0 : F ob = some (.inr (15, [.ref (g 0), .ref (g 2), .ref (g 4), .ref (g 6), .ref (g 9), .ref (g 11), .ref (g 14), .ref sa, va_rf so, .int (iI er), .int (iI fa)])) := hg.1
  have hs1 := hg.st
  have h8 := z_c8 hC hZ
  obtain ⟨-, hDis, hTx, hI, ⟨cap, hO⟩, ⟨wd0, st0, hLs⟩, ⟨hE1, e0, hE2⟩, ⟨pos0, L0, hR1, hR2⟩, hH, hSt⟩ := id hg
  obtain ⟨la, li, aL, iL, h9, ⟨ra, hla⟩, ⟨ri, hli⟩, has, his⟩ := id hs1
  have haL := has.1
  have hiL := his.1
  have ha10 := oL_10 hla
  have hi10 := oL_10 hli
  have hda : 0 ≤ cDa c0 ∧ cDa c0 ≤ 1000000 := by have := hK.2.2.2.2.2.2.2.2.2.2.2.1; omega
  refine lv_aload_n hx hb dX12_passDays_0 rfl (lv_at hl 0 rfl) ?_
  refine z_get (T := TX12) (N := 11) (ci := 15) (k := 7) (fs := [.ref (g 0), .ref (g 2), .ref (g 4), .ref (g 6), .ref (g 9), .ref (g 11), .ref (g 14), .ref sa, va_rf so, .int (iI er), .int (iI fa)]) (v := .ref sa) hC hZ in_X12 rfl (by decide) ql_X12_59 rfl h0 rfl dX12_passDays_1 ?_
  refine z_callr (z_runV (rest := []) (As := []) (n := 0) (ci := 13) hC hZ (met_X10_copied l D cs A F sa c0 hs1 hK.1 hK.2.1) gv_X12_115 hd_X10_copied rfl h9 rfl hl rfl (Nat.le_of_ble_eq_true rfl) ⟨Nat.le_of_ble_eq_true rfl, Nat.le_of_ble_eq_true rfl⟩ ⟨Nat.le_of_ble_eq_true rfl, Nat.le_of_ble_eq_true rfl⟩ dX12_passDays_4) hZ (fun r4 F4 H locs hp4_c_1 hZ => ?_)
  obtain ⟨hle4, lb, rb, lj, rj, n1, n2, n3, n4, n5, hb4⟩ := hp4_c_1
  have hg4 := hg.le hle4
  have h04 : F4 ob = some (.inr (15, [.ref (g 0), .ref (g 2), .ref (g 4), .ref (g 6), .ref (g 9), .ref (g 11), .ref (g 14), .ref sa, va_rf so, .int (iI er), .int (iI fa)])) := hg4.1
  have hs14 := hg4.st
  have h84 := z_c8 hC hZ
  obtain ⟨aN4, iN4, hN4, -⟩ := id hb4
  refine lv_astore_n (lv' := [(2, .ref r4), (0, .ref ob), (1, .int (iI x))]) hx hb dX12_passDays_7 rfl hl (by decide) rfl (fun ls hl => ?_)
  refine lv_aload_n hx hb dX12_passDays_8 rfl (lv_at hl 0 rfl) ?_
  refine lv_iload_n hx hb dX12_passDays_9 rfl (lv_at hl 2 rfl) ?_
  refine z_calli (z_runV (rest := []) (As := [.int (iI x)]) (n := 1) (ci := 13) hC hZ (met_X10_letDaysPass l D cs A F4 r4 lb rb lj rj c0 x hb4 hx0 hK.2.1 hda (fun s hs => cOK_age hK (by omega) hs)) gv_X12_304 hd_X10_letDaysPass rfl hN4 rfl hl rfl (Nat.le_of_ble_eq_true rfl) ⟨Nat.le_of_ble_eq_true rfl, Nat.le_of_ble_eq_true rfl⟩ ⟨Nat.le_of_ble_eq_true rfl, Nat.le_of_ble_eq_true rfl⟩ dX12_passDays_10) hZ (fun r10 F10 H locs hp10_c_2 hZ => ?_)
  rcases hp10_c_2 with ⟨hc10, rfl, rfl⟩ | ⟨hc10, rfl, hk10, hb10⟩
  · skip
    refine z_if_ne (tgt := 27) hx hb dX12_passDays_13 (by decide) (by decide) (fun c_3 => ?_) (fun c_3 => ?_)
    · skip
      exfalso; omega
    · skip
      exact z_throwW (rest := []) hC hZ hlt hT hlk zth_e0 zth_g0 zth_o0 zth_k0 zth_i0 (by decide) (List.mem_of_getElem? (i := 12) rfl) hl (Nat.le_of_ble_eq_true rfl) (Nat.le_of_ble_eq_true rfl) (Nat.le_of_ble_eq_true rfl) (Nat.le_of_ble_eq_true rfl) (Nat.le_of_ble_eq_true rfl) (Nat.le_of_ble_eq_true rfl) (⟨hg4, by rw [sDay_1 hc10], rfl⟩) dX12_passDays_16 dX12_passDays_19 dX12_passDays_20 dX12_passDays_23 dX12_passDays_26
  · skip
    have hle10 : zle F F10 := hle4.kod hk10 (znn1 n1 (znn1 n4 (znn1 n5 znn0)))
    have hg10 := hg.le hle10
    have h010 : F10 ob = some (.inr (15, [.ref (g 0), .ref (g 2), .ref (g 4), .ref (g 6), .ref (g 9), .ref (g 11), .ref (g 14), .ref sa, va_rf so, .int (iI er), .int (iI fa)])) := hg10.1
    have hs110 := hg10.st
    have h810 := z_c8 hC hZ
    obtain ⟨la10, li10, aL10, iL10, h910, ⟨ra10, hla10⟩, ⟨ri10, hli10⟩, has10, his10⟩ := id hs110
    have haL10 := has10.1
    have hiL10 := his10.1
    have ha1010 := oL_10 hla10
    have hi1010 := oL_10 hli10
    have hnx10 := hg.nst hg10 hC.c54 h810 hb10 n1 n2 n4 n3 n5
    obtain ⟨aN10, iN10, hN10, -⟩ := id hb10
    refine z_if_ne (tgt := 27) hx hb dX12_passDays_13 (by decide) (by decide) (fun c_4 => ?_) (fun c_4 => ?_)
    · skip
      refine lv_aload_n hx hb dX12_passDays_27 rfl (lv_at hl 1 rfl) ?_
      refine z_get (T := TX12) (N := 11) (ci := 15) (k := 7) (fs := [.ref (g 0), .ref (g 2), .ref (g 4), .ref (g 6), .ref (g 9), .ref (g 11), .ref (g 14), .ref sa, va_rf so, .int (iI er), .int (iI fa)]) (v := .ref sa) hC hZ in_X12 rfl (by decide) ql_X12_59 rfl h010 rfl dX12_passDays_28 ?_
      refine z_calli (z_runV (rest := []) (As := []) (n := 0) (ci := 13) hC hZ (met_X10_countReadable l D cs A F10 sa c0 hs110 (fun s hs => by have := cOK_age hK (by omega) hs; omega)) gv_X12_309 hd_X10_countReadable rfl h910 rfl hl rfl (Nat.le_of_ble_eq_true rfl) ⟨Nat.le_of_ble_eq_true rfl, Nat.le_of_ble_eq_true rfl⟩ ⟨Nat.le_of_ble_eq_true rfl, Nat.le_of_ble_eq_true rfl⟩ dX12_passDays_31) hZ (fun r31 F31 H locs hp31_c_5 hZ => ?_)
      obtain ⟨rfl, rfl⟩ := hp31_c_5
      refine lv_aload_n hx hb dX12_passDays_34 rfl (lv_at hl 0 rfl) ?_
      refine z_calli (z_runV (rest := [.int (iI (zrd (cDa c0) (cIs c0)))]) (As := []) (n := 0) (ci := 13) hC hZ (met_X10_countReadable l D cs A F10 r4 (cDay c0 x) hb10.r (fun s hs => by have := cOK_age hK (by omega) hs; show 0 ≤ cDa c0 + x - iPr s ∧ cDa c0 + x - iPr s ≤ 2000000; omega)) gv_X12_309 hd_X10_countReadable rfl hN10 rfl hl rfl (Nat.le_of_ble_eq_true rfl) ⟨Nat.le_of_ble_eq_true rfl, Nat.le_of_ble_eq_true rfl⟩ ⟨Nat.le_of_ble_eq_true rfl, Nat.le_of_ble_eq_true rfl⟩ dX12_passDays_35) hZ (fun r35 F35 H locs hp35_c_6 hZ => ?_)
      obtain ⟨rfl, rfl⟩ := hp35_c_6
      refine z_isub hx hb dX12_passDays_38 ?_
      refine lv_istore_n (lv' := [(3, .int (iI ((zrd (cDa c0) (cIs c0)) - (zrd (cDa (cDay c0 x)) (cIs (cDay c0 x)))))), (2, .ref r4), (0, .ref ob), (1, .int (iI x))]) hx hb dX12_passDays_39 rfl hl (by decide) rfl (fun ls hl => ?_)
      refine lv_aload_n hx hb dX12_passDays_40 rfl (lv_at hl 2 rfl) ?_
      refine lv_aload_n hx hb dX12_passDays_41 rfl (lv_at hl 1 rfl) ?_
      refine z_callv (z_runV (rest := []) (As := [.ref r4]) (n := 1) (ci := 15) hC hZ (met_X12_become l D cs A F10 ob g sa so hL tx inp out c0 sv hs er fa r4 (cDay c0 x) hg10 hnx10 hh8) gv_X12_127 hd_X12_become rfl h010 rfl hl rfl (Nat.le_of_ble_eq_true rfl) ⟨Nat.le_of_ble_eq_true rfl, Nat.le_of_ble_eq_true rfl⟩ ⟨Nat.le_of_ble_eq_true rfl, Nat.le_of_ble_eq_true rfl⟩ dX12_passDays_42) hZ (fun F42 H locs hp42_c_7 hZ => ?_)
      obtain ⟨hk42, g1, hL1, hg42⟩ := hp42_c_7
      have h042 : F42 ob = some (.inr (15, [.ref (g1 0), .ref (g1 2), .ref (g1 4), .ref (g1 6), .ref (g1 9), .ref (g1 11), .ref (g1 14), .ref r4, va_rf so, .int (iI er), .int (iI fa)])) := hg42.1
      have hs142 := hg42.st
      have h842 := z_c8 hC hZ
      refine lv_iload_n hx hb dX12_passDays_45 rfl (lv_at hl 0 rfl) ?_
      refine vx_ret ?_
      exact z_iret hC hr hlk hZ (by decide) (by decide) (⟨by rw [sDay_0 hc10], by rw [sDay_0 hc10]; exact zlost_rd _ _ (by omega) _, g1, r4, hL1, by rw [sDay_0 hc10]; exact hg42⟩) dX12_passDays_46
    · skip
      exfalso; omega

set_option maxHeartbeats 4000000 in
set_option maxRecDepth 100000 in
theorem met_X12_print (l : Launch) (D : va_G) (cs : Nat → ClassId) (A : Nat → Prop) (F : zF) (ob : Nat) (g : Nat → Nat) (sa : Nat) (so : Option Nat) (hL : List Nat) (tx inp out : List Int) (c0 : zCo) (sv : Option zCo) (hs : List zCo) (er fa : Int) (N : Nat) (hlt : l.stackTraces = false)  (hg : gOb cs F ob g sa so hL tx inp out c0 sv hs er fa) (hK : cOK N c0) (hN : N ≤ 900) (hh8 : hs.length ≤ 8) : zXM l D cs A yX12_print cX12_print 3 (some FieldType.int) 9 19 160 [.ref ob] F (pI (fun r F1 => (sPrt c0).1 = 0 ∧ (sPrt c0).2.2 = r ∧ ∃ (g1 : Nat → Nat) (sa1 : Nat) (hL1 : List Nat), gOb cs F1 ob g1 sa1 so hL1 tx inp out (sPrt c0).2.1 sv (pushH hs c0) er fa)) (fun E F1 => gOb cs F1 ob g sa so hL tx inp out c0 sv hs er fa ∧ (((sPrt c0).1 = 1 ∧ E = "java/lang/IllegalStateException"))) := by
  refine zX_of (own := RX12) (by decide) rfl (Nat.le_of_ble_eq_true rfl) ?_
  intro p e s m below meth c hC hr hlk hT hZ ls hl
  have hx := hC.x
  have hb := hC.b
  have hl : lv_has ls 3 [(0, .ref ob)] := hl
  have h0 : F ob = some (.inr (15, [.ref (g 0), .ref (g 2), .ref (g 4), .ref (g 6), .ref (g 9), .ref (g 11), .ref (g 14), .ref sa, va_rf so, .int (iI er), .int (iI fa)])) := hg.1
  have hs1 := hg.st
  have h8 := z_c8 hC hZ
  obtain ⟨-, hDis, hTx, hI, ⟨cap, hO⟩, ⟨wd0, st0, hLs⟩, ⟨hE1, e0, hE2⟩, ⟨pos0, L0, hR1, hR2⟩, hH, hSt⟩ := id hg
  obtain ⟨la, li, aL, iL, h9, ⟨ra, hla⟩, ⟨ri, hli⟩, has, his⟩ := id hs1
  have haL := has.1
  have hiL := his.1
  have ha10 := oL_10 hla
  have hi10 := oL_10 hli
  refine lv_aload_n hx hb dX12_print_0 rfl (lv_at hl 0 rfl) ?_
  refine z_get (T := TX12) (N := 11) (ci := 15) (k := 7) (fs := [.ref (g 0), .ref (g 2), .ref (g 4), .ref (g 6), .ref (g 9), .ref (g 11), .ref (g 14), .ref sa, va_rf so, .int (iI er), .int (iI fa)]) (v := .ref sa) hC hZ in_X12 rfl (by decide) ql_X12_59 rfl h0 rfl dX12_print_1 ?_
  refine z_getN (T := TX10) (N := 9) (ci := 13) (k := 3) (fs := [.ref la, .ref li, .int (iI (cNi c0)), .int (iI (cNn c0)), .int (iI (cWi c0)), .int (iI (cCo c0)), .int (iI (cHe c0)), .int (iI (cDa c0)), .int (iI (cLa c0))]) (v := .int (iI (cNn c0))) hC hZ in_X10 rfl (by decide) ql_X12_254 rfl h9 rfl dX12_print_4 ?_
  refine lv_istore_n (lv' := [(1, .int (iI (cNn c0))), (0, .ref ob)]) hx hb dX12_print_7 rfl hl (by decide) rfl (fun ls hl => ?_)
  refine lv_aload_n hx hb dX12_print_8 rfl (lv_at hl 1 rfl) ?_
  refine z_get (T := TX12) (N := 11) (ci := 15) (k := 7) (fs := [.ref (g 0), .ref (g 2), .ref (g 4), .ref (g 6), .ref (g 9), .ref (g 11), .ref (g 14), .ref sa, va_rf so, .int (iI er), .int (iI fa)]) (v := .ref sa) hC hZ in_X12 rfl (by decide) ql_X12_59 rfl h0 rfl dX12_print_9 ?_
  refine z_callr (z_runV (rest := []) (As := []) (n := 0) (ci := 13) hC hZ (met_X10_copied l D cs A F sa c0 hs1 hK.1 hK.2.1) gv_X12_115 hd_X10_copied rfl h9 rfl hl rfl (Nat.le_of_ble_eq_true rfl) ⟨Nat.le_of_ble_eq_true rfl, Nat.le_of_ble_eq_true rfl⟩ ⟨Nat.le_of_ble_eq_true rfl, Nat.le_of_ble_eq_true rfl⟩ dX12_print_12) hZ (fun r12 F12 H locs hp12_c_1 hZ => ?_)
  obtain ⟨hle12, lb, rb, lj, rj, n1, n2, n3, n4, n5, hb12⟩ := hp12_c_1
  have hg12 := hg.le hle12
  have h012 : F12 ob = some (.inr (15, [.ref (g 0), .ref (g 2), .ref (g 4), .ref (g 6), .ref (g 9), .ref (g 11), .ref (g 14), .ref sa, va_rf so, .int (iI er), .int (iI fa)])) := hg12.1
  have hs112 := hg12.st
  have h812 := z_c8 hC hZ
  obtain ⟨aN12, iN12, hN12, -⟩ := id hb12
  obtain ⟨wd12, st12, hL12⟩ := hg12.2.2.2.2.2.1
  refine lv_astore_n (lv' := [(2, .ref r12), (1, .int (iI (cNn c0))), (0, .ref ob)]) hx hb dX12_print_15 rfl hl (by decide) rfl (fun ls hl => ?_)
  refine lv_aload_n hx hb dX12_print_16 rfl (lv_at hl 0 rfl) ?_
  refine lv_aload_n hx hb dX12_print_17 rfl (lv_at hl 2 rfl) ?_
  refine z_get (T := TX12) (N := 11) (ci := 15) (k := 3) (fs := [.ref (g 0), .ref (g 2), .ref (g 4), .ref (g 6), .ref (g 9), .ref (g 11), .ref (g 14), .ref sa, va_rf so, .int (iI er), .int (iI fa)]) (v := .ref (g 6)) hC hZ in_X12 rfl (by decide) ql_X12_31 rfl h012 rfl dX12_print_18 ?_
  refine z_calli (z_runV (rest := []) (As := [.ref (g 6)]) (n := 1) (ci := 13) hC hZ (met_X10_printIssue l D cs A F12 r12 lb rb lj rj c0 (g 6) (g 7) (g 8) wd12 st12 N hb12 hL12 hK (by omega)) gv_X12_257 hd_X10_printIssue rfl hN12 rfl hl rfl (Nat.le_of_ble_eq_true rfl) ⟨Nat.le_of_ble_eq_true rfl, Nat.le_of_ble_eq_true rfl⟩ ⟨Nat.le_of_ble_eq_true rfl, Nat.le_of_ble_eq_true rfl⟩ dX12_print_21) hZ (fun r21 F21 H locs hp21_c_2 hZ => ?_)
  rcases hp21_c_2 with ⟨hc21, rfl, rfl⟩ | ⟨hc21, rfl, ri21, wd21, st21, hk21, ha21, hls21, hb21⟩
  · skip
    refine z_if_ne (tgt := 38) hx hb dX12_print_24 (by decide) (by decide) (fun c_3 => ?_) (fun c_3 => ?_)
    · skip
      exfalso; omega
    · skip
      exact z_throwW (rest := []) hC hZ hlt hT hlk zth_e1 zth_g1 zth_o1 zth_k1 zth_i1 (by decide) (List.mem_of_getElem? (i := 11) rfl) hl (Nat.le_of_ble_eq_true rfl) (Nat.le_of_ble_eq_true rfl) (Nat.le_of_ble_eq_true rfl) (Nat.le_of_ble_eq_true rfl) (Nat.le_of_ble_eq_true rfl) (Nat.le_of_ble_eq_true rfl) (⟨hg12, by rw [sPrt_1 hc21], rfl⟩) dX12_print_27 dX12_print_30 dX12_print_31 dX12_print_34 dX12_print_37
  · skip
    have hk21b : zko [g 6, g 7, g 8] F F21 := hle12.kod2 hk21 (fun q hq => by
      rcases List.mem_cons.mp hq with e | hq
      · rw [e]; exact Or.inr n1
      · rcases List.mem_cons.mp hq with e | hq
        · rw [e]; exact Or.inr n4
        · rcases List.mem_cons.mp hq with e | hq
          · rw [e]; exact Or.inr n5
          · exact Or.inl hq)
    have hg21 := hg.sL h8 hk21b hls21
    have h021 : F21 ob = some (.inr (15, [.ref (g 0), .ref (g 2), .ref (g 4), .ref (g 6), .ref (g 9), .ref (g 11), .ref (g 14), .ref sa, va_rf so, .int (iI er), .int (iI fa)])) := hg21.1
    have hs121 := hg21.st
    have h821 := z_c8 hC hZ
    have n521 : F ri21 = none := ha21.elim (fun z => by rw [z]; exact n5) (fun z => hle12.nn z)
    have hnx21 := hg.nst hg21 hC.c54 h821 hb21 n1 n2 n4 n3 n521
    refine z_if_ne (tgt := 38) hx hb dX12_print_24 (by decide) (by decide) (fun c_4 => ?_) (fun c_4 => ?_)
    · skip
      refine lv_aload_n hx hb dX12_print_38 rfl (lv_at hl 2 rfl) ?_
      refine lv_aload_n hx hb dX12_print_39 rfl (lv_at hl 0 rfl) ?_
      refine z_callv (z_runV (rest := []) (As := [.ref r12]) (n := 1) (ci := 15) hC hZ (met_X12_become l D cs A F21 ob g sa so hL tx inp out c0 sv hs er fa r12 (cPrt c0) hg21 hnx21 hh8) gv_X12_127 hd_X12_become rfl h021 rfl hl rfl (Nat.le_of_ble_eq_true rfl) ⟨Nat.le_of_ble_eq_true rfl, Nat.le_of_ble_eq_true rfl⟩ ⟨Nat.le_of_ble_eq_true rfl, Nat.le_of_ble_eq_true rfl⟩ dX12_print_40) hZ (fun F40 H locs hp40_c_5 hZ => ?_)
      obtain ⟨hk40, g1, hL1, hg40⟩ := hp40_c_5
      have h040 : F40 ob = some (.inr (15, [.ref (g1 0), .ref (g1 2), .ref (g1 4), .ref (g1 6), .ref (g1 9), .ref (g1 11), .ref (g1 14), .ref r12, va_rf so, .int (iI er), .int (iI fa)])) := hg40.1
      have hs140 := hg40.st
      have h840 := z_c8 hC hZ
      refine lv_iload_n hx hb dX12_print_43 rfl (lv_at hl 1 rfl) ?_
      refine vx_ret ?_
      exact z_iret hC hr hlk hZ (by decide) (by decide) (⟨by rw [sPrt_0 hc21], by rw [sPrt_0 hc21], g1, r12, hL1, by rw [sPrt_0 hc21]; exact hg40⟩) dX12_print_44
    · skip
      exfalso; omega
