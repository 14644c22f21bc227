theorem zwt_snoc : ∀ (ws : List zWd) (s : Int) (w : zWd), zwt s (ws ++ [w]) = zwt s ws ++ ((if ws = [] then s else 32) :: w)
  | [], s, w => by show s :: (w ++ []) = [] ++ (s :: w); simp
  | y :: ws, s, w => by
    show s :: (y ++ zwt 32 (ws ++ [w])) = (s :: (y ++ zwt 32 ws)) ++ (32 :: w)
    rw [zwt_snoc ws 32 w, show (if ws = [] then (32 : Int) else 32) = 32 by split <;> rfl]
    simp
def zhead (a : zAr) : List Int := zdig a.1 ++ [33] ++ zdig a.2.1
/-- an article's text, j of its words in it -/
def ztp (a : zAr) (j : Nat) : List Int := zhead a ++ (if j = 0 then [58] else zwt 58 (a.2.2.take j))
theorem ztp_0 {a : zAr} {k : Int} (h : a.1 = k) : ztp a (0 : Int).toNat = zdig k ++ [33] ++ zdig a.2.1 ++ [58] := by
  subst h
  rfl
theorem take_sn {ws : List zWd} {j : Int} (h0 : 0 ≤ j) (h1 : j < ws.length) : ws.take (j + 1).toNat = ws.take j.toNat ++ [ws.getD j.toNat []] := by
  have hl : j.toNat < ws.length := by omega
  rw [show (j + 1).toNat = j.toNat + 1 by omega, List.take_add_one, List.getD_eq_getElem?_getD, List.getElem?_eq_getElem hl]
  rfl
theorem ztp_s0 {a : zAr} {j : Int} (h0 : j = 0) (h1 : j < a.2.2.length) : ztp a (j + 1).toNat = ztp a j.toNat ++ a.2.2.getD j.toNat [] := by
  unfold ztp
  rw [take_sn (by omega) h1, if_neg (by omega), if_pos (by omega), zwt_snoc, show j.toNat = 0 by omega]
  show zhead a ++ ([] ++ ((if ([] : List zWd) = [] then (58 : Int) else 32) :: a.2.2.getD 0 [])) = _
  rw [if_pos rfl, List.append_assoc]
  rfl
theorem ztp_s1 {a : zAr} {j : Int} (h0 : 1 ≤ j) (h1 : j < a.2.2.length) : ztp a (j + 1).toNat = (ztp a j.toNat ++ [32]) ++ a.2.2.getD j.toNat [] := by
  unfold ztp
  rw [take_sn (by omega) h1, if_neg (by omega), if_neg (by omega), zwt_snoc, if_neg (fun z => by have z8 := congrArg List.length z; rw [List.length_take] at z8; have z9 : min j.toNat a.2.2.length = 0 := z8; omega)]
  simp
theorem ztp_e {a : zAr} {j : Int} (h0 : 1 ≤ a.2.2.length) (h1 : j = a.2.2.length) : ztp a j.toNat = zart a := by
  unfold ztp
  rw [if_neg (by omega), List.take_of_length_le (by omega)]
  rfl
/-- the article of place k, and what is said of it -/
theorem art_at {N n : Nat} {d k : Int} {c : zCo} (hK : cOK N c) (h : dJ n d c) (h0 : 0 ≤ k) (h1 : k < n) : ∃ a : zAr, (cAr c)[k.toNat]? = some a ∧ a.1 = k ∧ zfa (cAr c) k = some a ∧ a ∈ cAr c ∧ a.2.2.length ≤ 9 ∧ sArt c k = (0, k) ∧ sPrio c k = (0, a.2.1) ∧ sWr c k = (0, zart a) ∧ arOK (cNi c) a := by
  have hix := zix_d h (x := k.toNat) (by omega)
  rw [Int.toNat_of_nonneg h0] at hix
  obtain ⟨a, e1, e2⟩ := h.2.1 k.toNat (by omega)
  have e2 : a.1 = k := by omega
  have hfa := zfa_ix hix e1
  have hm := List.mem_of_getElem? e1
  refine ⟨a, e1, e2, hfa, hm, h.2.2.1 a hm, ?_, ?_, ?_, hK.2.2.1 a hm⟩
  · unfold sArt; rw [if_pos h0, e1]; show ((0 : Int), a.1) = _; rw [e2]
  · unfold sPrio; rw [hfa]
  · unfold sWr; rw [hfa]
theorem art_wd {c : zCo} {a : zAr} {k j : Int} {f : zWd → Int} (hfa : zfa (cAr c) k = some a) (h0 : 0 ≤ j) (h1 : j < a.2.2.length) : sWord c k j f = (0, f (a.2.2.getD j.toNat [])) := by
  unfold sWord; rw [hfa]; dsimp only; rw [zwd_y h0 h1]
theorem art_wn {c : zCo} {a : zAr} {k j : Int} {f : zWd → Int} (hfa : zfa (cAr c) k = some a) (h : ¬ (0 ≤ j ∧ j < a.2.2.length)) : sWord c k j f = (2, 0) := by
  unfold sWord; rw [hfa]; dsimp only; rw [zwd_n h]
theorem art_no {n : Nat} {d x : Int} {c : zCo} (h : dJ n d c) (hx : x < 0 ∨ (n : Int) ≤ x) : zfa (cAr c) x = none := by
  unfold zfa
  rw [List.find?_eq_none]
  intro a ha
  obtain ⟨i, hi⟩ := List.getElem?_of_mem ha
  have hl := (List.getElem?_eq_some_iff.mp hi).1
  obtain ⟨b, e1, e2⟩ := h.2.1 i (by have := h.1; omega)
  rw [hi] at e1
  obtain rfl := Option.some.inj e1
  have := h.1
  simp
  omega
theorem no_w {c : zCo} {x : Int} (h : zfa (cAr c) x = none) : sPrio c x = (1, 0) ∧ sWcnt c x = (1, 0) ∧ sWr c x = (1, []) ∧ (∀ (j : Int) (f : zWd → Int), sWord c x j f = (1, 0)) := by
  refine ⟨?_, ?_, ?_, fun j f => ?_⟩
  · unfold sPrio; rw [h]
  · unfold sWcnt; rw [h]
  · unfold sWr; rw [h]
  · unfold sWord; rw [h]
theorem no_art {n : Nat} {d x : Int} {c : zCo} (h : dJ n d c) (hx : x < 0 ∨ (n : Int) ≤ x) : sArt c x = (1, 0) ∧ sArP c x = (1, 0) := by
  refine ⟨?_, ?_⟩
  · unfold sArt
    split
    · rw [List.getElem?_eq_none (by have := h.1; omega)]
    · rfl
  · unfold sArP
    rw [zrk_no (by have := h.1; omega)]
theorem rk_at {N n : Nat} {d k : Int} {c : zCo} (hK : cOK N c) (h : dJ n d c) (h0 : 0 ≤ k) (h1 : k < n) : ∃ a : zAr, zrk (cAr c) k = some a ∧ sArP c k = (0, a.1) ∧ sPrio c a.1 = (0, a.2.1) ∧ (0 ≤ a.1 ∧ a.1 < n) ∧ (1 ≤ a.2.1 ∧ a.2.1 ≤ 9) := by
  obtain ⟨j, a, e1, e2⟩ := zrk_ex hK.2.2.2.1 (k := k.toNat) (by have := h.1; omega)
  have hz : zrk (cAr c) k = some a := by
    have := zrk_of hK.2.2.2.1 e1
    rw [e2, Int.toNat_of_nonneg h0] at this
    exact this
  have hjl := (List.getElem?_eq_some_iff.mp e1).1
  obtain ⟨b, e3, e4⟩ := h.2.1 j (by have := h.1; omega)
  rw [e1] at e3
  obtain rfl := Option.some.inj e3
  have hj := h.1
  obtain ⟨b, f1, f2, f3, f4, f5, f6, f7, f8, f9⟩ := art_at hK h (k := (j : Int)) (by omega) (by omega)
  rw [Int.toNat_natCast, e1] at f1
  obtain rfl := Option.some.inj f1
  rw [← f2] at f7
  exact ⟨a, hz, by unfold sArP; rw [hz], f7, by omega, f9.2.1⟩
theorem rk_lt {N n : Nat} {d k : Int} {c : zCo} {a b : zAr} (hK : cOK N c) (h : dJ n d c) (ha : zrk (cAr c) k = some a) (hb : zrk (cAr c) (k - 1) = some b) : a.2.1 < b.2.1 ∨ (b.2.1 = a.2.1 ∧ b.1 < a.1) := by
  obtain ⟨a1, a2⟩ := zrk_val ha
  obtain ⟨b1, b2⟩ := zrk_val hb
  refine Decidable.byContradiction (fun q => ?_)
  by_cases z : zbf a b = true
  · have := zah_lt a2 z; omega
  · rw [zbf_iff] at z
    obtain ⟨i, hi⟩ := List.getElem?_of_mem a2
    obtain ⟨j, hj⟩ := List.getElem?_of_mem b2
    have hil := (List.getElem?_eq_some_iff.mp hi).1
    have hjl := (List.getElem?_eq_some_iff.mp hj).1
    have hn := h.1
    obtain ⟨a', e1, e2⟩ := h.2.1 i (by omega)
    obtain ⟨b', e3, e4⟩ := h.2.1 j (by omega)
    rw [hi] at e1
    rw [hj] at e3
    obtain rfl := Option.some.inj e1
    obtain rfl := Option.some.inj e3
    have : i = j := by omega
    subst this
    rw [hi] at hj
    obtain rfl := Option.some.inj hj
    omega
theorem zcuts_14 {w : zWd} (h : w.length ≤ 12) : zcuts w (14 : Int).toNat = sDiv w := by
  have f : ∀ n : Nat, (w.length : Int) - 2 < n → zcuts w (n + 1) = zcuts w n := fun n hn => by
    show zcuts w n + _ = _
    rw [if_neg (fun q => by omega)]
    omega
  show zcuts w 14 = zcuts w 12
  rw [f 13 (by omega), f 12 (by omega)]
theorem zcuts_t {w : zWd} {x : Int} (h : -1 ≤ x) : (cutOK w x ∧ zcuts w (x + 1).toNat = zcuts w x.toNat + 1) ∨ (¬ cutOK w x ∧ zcuts w (x + 1).toNat = zcuts w x.toNat) := by
  by_cases q : 0 ≤ x
  · exact zcuts_s q
  · right
    refine ⟨fun z => by have := z.1; omega, ?_⟩
    rw [show (x + 1).toNat = 0 by omega, show x.toNat = 0 by omega]
theorem zle_sn {a : zAr} {j : Int} (h0 : 0 ≤ j) (h1 : j < a.2.2.length) : ((zlens a).take (j + 1).toNat).sum = ((zlens a).take j.toNat).sum + ((a.2.2.getD j.toNat []).length : Int) := by
  have hl : j.toNat < a.2.2.length := by omega
  rw [show (j + 1).toNat = j.toNat + 1 by omega, zls_s (zlens_at (List.getElem?_eq_getElem hl)), List.getD_eq_getElem?_getD, List.getElem?_eq_getElem hl]
  rfl
theorem art_at_q {N n : Nat} {d k : Int} {c : zCo} (hK : cOK N c) (h : dJ n d c) (h0 : 0 ≤ k) (h1 : k < n) : sArt c k = (0, k) := by
  obtain ⟨a, -, -, -, -, -, q, -⟩ := art_at hK h h0 h1
  exact q
set_option maxHeartbeats 4000000 in
set_option maxRecDepth 100000 in
theorem lm_articles (l : Launch) (D : va_G) (cs : Nat → ClassId) (A : Nat → Prop) (G X : zF) (ob : Nat) (N : Nat) (tx inp out : List Int) (c0 : zCo) (hs : List zCo) (n : Nat) (hd : zdj G X) (hlt : l.stackTraces = false) (hG : lG cs G ob N tx inp out c0 hs) (hn5 : 1 ≤ n ∧ n ≤ 5) (hdj : dJ n 5 c0) : zM l D cs A yL_articles cL_articles 12 (some FieldType.boolean) 27 12000 140000 [.ref ob] (zun G X) (pGI (fun r G1 X1 => zle X X1 ∧ (∃ out1, lG cs G1 ob N tx inp out1 c0 hs) ∧ r = 1)) := by
  refine zM_of (own := RL) (by decide) rfl (Nat.le_of_ble_eq_true rfl) ?_
  intro p e s m below meth c hC hr hlk hnm hZ ls hl
  have hx := hC.x
  have hb := hC.b
  have hl : lv_has ls 12 [(0, .ref ob)] := hl
  have hW := zW3.of hZ hd
  have hK := hG.k
  have hN9 := hG.2.2.2.2.2.2.2
  have hni := hK.2.2.2.2.2.2.1
  have hz3 : (zLw 3).length = 1 := rfl
  have hz4 : (zLw 4).length = 1 := rfl
  have hz2 : (zLw 2).length = 1 := rfl
  have hz0 : (zLw 0).length = 0 := rfl
  have hcl := hdj.1
  refine lv_aload_n hx hb dL_articles_0 rfl (lv_at hl 0 rfl) ?_
  obtain ⟨⟨g, sa, so, hL, sv, er, fa, hg⟩, hK, hh8, hhs, htz, ht60, hin, hN9⟩ := id hG
  obtain ⟨cap, hso⟩ := hg.2.2.2.2.1
  have hwi := hK.2.2.2.2.2.2.2.2.1
  refine z_cGi hC (z_frV (rest := []) (As := []) (n := 0) (ci := 15) hC hW.g (met_X12_articleCount l D cs (zfA G _) G ob g sa so er fa c0 hg.1 (hg.2.2.2.2.2.2.2.2.2.1.mono zrm_le)) gv_L_258 hd_X12_articleCount rfl hg.1 rfl hl rfl (Nat.le_of_ble_eq_true rfl) ⟨Nat.le_of_ble_eq_true rfl, Nat.le_of_ble_eq_true rfl⟩ ⟨Nat.le_of_ble_eq_true rfl, Nat.le_of_ble_eq_true rfl⟩ dL_articles_1) hW (fun r1 G1 H locs hp1 hW => ?_)
  obtain ⟨rfl, rfl⟩ := hp1
  refine z_top (y := (n : Int)) (by omega) ?_
  refine lv_istore_n (lv' := [(1, .int (iI (n : Int))), (0, .ref ob)]) hx hb dL_articles_4 rfl hl (by decide) rfl (fun ls hl => ?_)
  refine z_iconst hx hb dL_articles_5 ?_
  refine lv_istore_n (lv' := [(2, .int (iI 0)), (1, .int (iI (n : Int))), (0, .ref ob)]) hx hb dL_articles_6 rfl hl (by decide) rfl (fun ls hl => ?_)
  refine z_iconst hx hb dL_articles_7 ?_
  refine lv_istore_n (lv' := [(3, .int (iI 0)), (2, .int (iI 0)), (1, .int (iI (n : Int))), (0, .ref ob)]) hx hb dL_articles_8 rfl hl (by decide) rfl (fun ls hl => ?_)
  refine z_iconst hx hb dL_articles_9 ?_
  refine lv_istore (lv' := [(4, .int (iI 0)), (3, .int (iI 0)), (2, .int (iI 0)), (1, .int (iI (n : Int))), (0, .ref ob)]) hx hb dL_articles_10 hl (by decide) rfl (fun ls hl => ?_)
  have L12_k_1 : ∀ (fu : Nat) (k wn lt : Int) (G1 X1 : zF) (out1 : List Int) (hfu : ((n : Int) - k).toNat < fu) (hi12_0 : 0 ≤ k ∧ k ≤ n) (hi12_1 : wn = zwn ((cAr c0).take k.toNat)) (hi12_2 : lt = zlt ((cAr c0).take k.toNat)) (hi12_3 : k ≤ wn ∧ wn ≤ 9 * k) (hi12_4 : 0 ≤ lt ∧ lt ≤ 108 * k) (hG : lG cs G1 ob N tx inp out1 c0 hs) (hle1 : zle X X1) (H : Heap) (locs : List Loc) (hW : zW3 D A s G1 zE X1 H locs) (ls : Array Slot) (hl : lv_has ls 12 [(4, .int (iI k)), (3, .int (iI lt)), (2, .int (iI wn)), (1, .int (iI (n : Int))), (0, .ref ob)]), W p l e (zR 27 12000 140000) s m [.ref ob].toArray below meth c H locs (2300 * k.toNat) (27000 * k.toNat) (MQ below (zQ D A (pGI (fun r G1 X1 => zle X X1 ∧ (∃ out1, lG cs G1 ob N tx inp out1 c0 hs) ∧ r = 1))) [.ref ob].toArray s 12000 140000 A) (F0 m 12 ls []) := by
    intro fu
    induction fu with
    | zero =>
      intro k wn lt G1 X1 out1 hfu
      exact absurd hfu (Nat.not_lt_zero _)
    | succ fu ih12 =>
      intro k wn lt G1 X1 out1 hfu hi12_0 hi12_1 hi12_2 hi12_3 hi12_4 hG hle1 H locs hW ls hl
      refine lv_iload hx hb dL_articles_12 (lv_at hl 0 rfl) ?_
      refine lv_iload_n hx hb dL_articles_14 rfl (lv_at hl 3 rfl) ?_
      refine z_icmp_ge (tgt := 402) hx hb dL_articles_15 (by decide) (by omega) (by omega) (fun c_2 => ?_) (fun c_2 => ?_)
      · skip
        have hkn : k = n := by omega
        have hta : (cAr c0).take k.toNat = cAr c0 := List.take_of_length_le (by omega)
        rw [hta] at hi12_1 hi12_2
        have hca : cAr c0 ≠ [] := fun z => by rw [z] at hcl; exact absurd hcl (by simp; omega)
        have hmw : sMW c0 = (0, FP.ddiv (FP.i2d (iI lt)) (FP.i2d (iI wn))) := by unfold sMW; rw [if_neg hca, hi12_1, hi12_2]
        have hdl := i2d_ok (z := lt) (by omega)
        have hdw := i2d_ok (z := wn) (by omega)
        have hdq : dQ (FP.ddiv (FP.i2d (iI lt)) (FP.i2d (iI wn))) := dQ_div hdl.1 (hdw.2 (by omega))
        have h99 := no_w (art_no (x := 99) hdj (by omega))
        have h1m := no_w (art_no (x := (-1)) hdj (by omega))
        have hnn := no_art (x := (n : Int)) hdj (by omega)
        have hn1 := no_art (x := (-1 : Int)) hdj (by omega)
        refine lv_aload_n hx hb dL_articles_402 rfl (lv_at hl 4 rfl) ?_
        obtain ⟨⟨g, sa, so, hL, sv, er, fa, hg⟩, hK, hh8, hhs, htz, ht60, hin, hN9⟩ := id hG
        obtain ⟨cap, hso⟩ := hg.2.2.2.2.1
        have hwi := hK.2.2.2.2.2.2.2.2.1
        refine z_cGd hC (z_xno (z_frX (rest := []) (As := []) (n := 0) (ci := 15) hC hW.g (met_X12_meanWordLength l D cs (zfA G1 _) G1 ob g sa so er fa c0 N hlt hg.1 (hg.2.2.2.2.2.2.2.2.2.1.mono zrm_le) hK) gv_L_291 hd_X12_meanWordLength rfl hg.1 rfl hl rfl (Nat.le_of_ble_eq_true rfl) ⟨Nat.le_of_ble_eq_true rfl, Nat.le_of_ble_eq_true rfl⟩ ⟨(by show _ ≤ 12000; omega), (by show _ ≤ 140000; omega)⟩ dL_articles_403) (fun E F1 hz => absurd (show (0 : Int) = 1 from (congrArg Prod.fst hmw).symm.trans hz.2.1) (by decide))) hW (fun r403 G403 H locs hp403 hW => ?_)
        obtain ⟨rfl, -, rfl⟩ := hp403
        refine lv_iload_n hx hb dL_articles_406 rfl (lv_at hl 1 rfl) ?_
        refine lv_i2d hx hb dL_articles_407 ?_
        refine lv_iload_n hx hb dL_articles_408 rfl (lv_at hl 2 rfl) ?_
        refine lv_i2d hx hb dL_articles_409 ?_
        refine lv_ddiv hx hb dL_articles_410 (vf_of64 hdq) ?_
        refine lv_dcmp hx hb dL_articles_411 ?_
        refine z_topi (y := 0) (by rw [hmw]; show Op.cmpValue (FP.dcmp (FP.ddiv (FP.i2d (iI lt)) (FP.i2d (iI wn))) (FP.ddiv (FP.i2d (iI lt)) (FP.i2d (iI wn)))) .l = _; rw [dcmp_self hdq]; rfl) ?_
        refine z_if_ne (tgt := 518) hx hb dL_articles_412 (by decide) (by decide) (fun c_3 => ?_) (fun c_3 => ?_)
        · skip
          exfalso; omega
        · skip
          refine lv_aload_n hx hb dL_articles_415 rfl (lv_at hl 4 rfl) ?_
          refine lv_iload_n hx hb dL_articles_416 rfl (lv_at hl 3 rfl) ?_
          refine z_cGi hC (z_frSW (rest := []) (As := [.ref ob, .int (iI (n : Int))]) (n := 2) hC hW.g (lw_articleAt l D cs (zfA G1 _) G1 ob (n : Int) N tx inp out1 c0 hs hlt hG (by omega)) (zgsW qm_L_261 qt_L_articleAt qn_L qc_L_articleAt) he_L_articleAt rfl hl rfl (Nat.le_of_ble_eq_true rfl) ⟨Nat.le_of_ble_eq_true rfl, Nat.le_of_ble_eq_true rfl⟩ ⟨(by show _ ≤ 12000; omega), (by show _ ≤ 140000; omega)⟩ dL_articles_417) hW (fun r417 G417 H locs hp417 hW => ?_)
          obtain ⟨hG, rfl⟩ := hp417
          refine z_top (y := -11) (by rw [hnn.1]; rfl) ?_
          refine z_bipush hx hb dL_articles_420 (by decide) ?_
          refine z_icmp_ne (tgt := 518) hx hb dL_articles_422 (by decide) (by decide) (by decide) (fun c_4 => ?_) (fun c_4 => ?_)
          · skip
            exfalso; omega
          · skip
            refine lv_aload_n hx hb dL_articles_425 rfl (lv_at hl 4 rfl) ?_
            refine lv_iload_n hx hb dL_articles_426 rfl (lv_at hl 3 rfl) ?_
            refine z_cGi hC (z_frSW (rest := []) (As := [.ref ob, .int (iI (n : Int))]) (n := 2) hC hW.g (lw_byPriority l D cs (zfA G417 _) G417 ob (n : Int) N tx inp out1 c0 hs hlt hG (by omega)) (zgsW qm_L_282 qt_L_byPriority qn_L qc_L_byPriority) he_L_byPriority rfl hl rfl (Nat.le_of_ble_eq_true rfl) ⟨Nat.le_of_ble_eq_true rfl, Nat.le_of_ble_eq_true rfl⟩ ⟨(by show _ ≤ 12000; omega), (by show _ ≤ 140000; omega)⟩ dL_articles_427) hW (fun r427 G427 H locs hp427 hW => ?_)
            obtain ⟨hG, rfl⟩ := hp427
            refine z_top (y := -11) (by rw [hnn.2]; rfl) ?_
            refine z_bipush hx hb dL_articles_430 (by decide) ?_
            refine z_icmp_ne (tgt := 518) hx hb dL_articles_432 (by decide) (by decide) (by decide) (fun c_5 => ?_) (fun c_5 => ?_)
            · skip
              exfalso; omega
            · skip
              refine lv_aload_n hx hb dL_articles_435 rfl (lv_at hl 4 rfl) ?_
              refine z_iconst hx hb dL_articles_436 ?_
              refine z_cGi hC (z_frSW (rest := []) (As := [.ref ob, .int (iI (-1))]) (n := 2) hC hW.g (lw_byPriority l D cs (zfA G427 _) G427 ob (-1) N tx inp out1 c0 hs hlt hG (by decide)) (zgsW qm_L_282 qt_L_byPriority qn_L qc_L_byPriority) he_L_byPriority rfl hl rfl (Nat.le_of_ble_eq_true rfl) ⟨Nat.le_of_ble_eq_true rfl, Nat.le_of_ble_eq_true rfl⟩ ⟨(by show _ ≤ 12000; omega), (by show _ ≤ 140000; omega)⟩ dL_articles_437) hW (fun r437 G437 H locs hp437 hW => ?_)
              obtain ⟨hG, rfl⟩ := hp437
              refine z_top (y := -11) (by rw [hn1.2]; rfl) ?_
              refine z_bipush hx hb dL_articles_440 (by decide) ?_
              refine z_icmp_ne (tgt := 518) hx hb dL_articles_442 (by decide) (by decide) (by decide) (fun c_6 => ?_) (fun c_6 => ?_)
              · skip
                exfalso; omega
              · skip
                refine lv_aload_n hx hb dL_articles_445 rfl (lv_at hl 4 rfl) ?_
                refine z_bipush hx hb dL_articles_446 (by decide) ?_
                refine z_cGi hC (z_frSW (rest := []) (As := [.ref ob, .int (iI 99)]) (n := 2) hC hW.g (lw_priority l D cs (zfA G437 _) G437 ob 99 N tx inp out1 c0 hs hlt hG (by decide)) (zgsW qm_L_285 qt_L_priority qn_L qc_L_priority) he_L_priority rfl hl rfl (Nat.le_of_ble_eq_true rfl) ⟨Nat.le_of_ble_eq_true rfl, Nat.le_of_ble_eq_true rfl⟩ ⟨(by show _ ≤ 12000; omega), (by show _ ≤ 140000; omega)⟩ dL_articles_448) hW (fun r448 G448 H locs hp448 hW => ?_)
                obtain ⟨hG, rfl⟩ := hp448
                refine z_top (y := -13) (by rw [h99.1]; rfl) ?_
                refine z_bipush hx hb dL_articles_451 (by decide) ?_
                refine z_icmp_ne (tgt := 518) hx hb dL_articles_453 (by decide) (by decide) (by decide) (fun c_7 => ?_) (fun c_7 => ?_)
                · skip
                  exfalso; omega
                · skip
                  refine lv_aload_n hx hb dL_articles_456 rfl (lv_at hl 4 rfl) ?_
                  refine z_bipush hx hb dL_articles_457 (by decide) ?_
                  refine z_cGi hC (z_frSW (rest := []) (As := [.ref ob, .int (iI 99)]) (n := 2) hC hW.g (lw_wordCount l D cs (zfA G448 _) G448 ob 99 N tx inp out1 c0 hs hlt hG (by decide)) (zgsW qm_L_295 qt_L_wordCount qn_L qc_L_wordCount) he_L_wordCount rfl hl rfl (Nat.le_of_ble_eq_true rfl) ⟨Nat.le_of_ble_eq_true rfl, Nat.le_of_ble_eq_true rfl⟩ ⟨(by show _ ≤ 12000; omega), (by show _ ≤ 140000; omega)⟩ dL_articles_459) hW (fun r459 G459 H locs hp459 hW => ?_)
                  obtain ⟨hG, rfl⟩ := hp459
                  refine z_top (y := -13) (by rw [h99.2.1]; rfl) ?_
                  refine z_bipush hx hb dL_articles_462 (by decide) ?_
                  refine z_icmp_ne (tgt := 518) hx hb dL_articles_464 (by decide) (by decide) (by decide) (fun c_8 => ?_) (fun c_8 => ?_)
                  · skip
                    exfalso; omega
                  · skip
                    refine lv_aload_n hx hb dL_articles_467 rfl (lv_at hl 4 rfl) ?_
                    refine z_bipush hx hb dL_articles_468 (by decide) ?_
                    refine z_iconst hx hb dL_articles_470 ?_
                    refine z_cGi hC (z_frSW (rest := []) (As := [.ref ob, .int (iI 99), .int (iI 0)]) (n := 3) hC hW.g (lw_wordLength l D cs (zfA G459 _) G459 ob 99 0 N tx inp out1 c0 hs hlt hG (by decide) (by decide)) (zgsW qm_L_278 qt_L_wordLength qn_L qc_L_wordLength) he_L_wordLength rfl hl rfl (Nat.le_of_ble_eq_true rfl) ⟨Nat.le_of_ble_eq_true rfl, Nat.le_of_ble_eq_true rfl⟩ ⟨(by show _ ≤ 12000; omega), (by show _ ≤ 140000; omega)⟩ dL_articles_471) hW (fun r471 G471 H locs hp471 hW => ?_)
                    obtain ⟨hG, rfl⟩ := hp471
                    refine z_top (y := -13) (by rw [h99.2.2.2]; rfl) ?_
                    refine z_bipush hx hb dL_articles_474 (by decide) ?_
                    refine z_icmp_ne (tgt := 518) hx hb dL_articles_476 (by decide) (by decide) (by decide) (fun c_9 => ?_) (fun c_9 => ?_)
                    · skip
                      exfalso; omega
                    · skip
                      refine lv_aload_n hx hb dL_articles_479 rfl (lv_at hl 4 rfl) ?_
                      refine z_iconst hx hb dL_articles_480 ?_
                      refine z_iconst hx hb dL_articles_481 ?_
                      refine z_cGi hC (z_frSW (rest := []) (As := [.ref ob, .int (iI (-1)), .int (iI 0)]) (n := 3) hC hW.g (lw_divisions l D cs (zfA G471 _) G471 ob (-1) 0 N tx inp out1 c0 hs hlt hG (by decide) (by decide)) (zgsW qm_L_280 qt_L_divisions qn_L qc_L_divisions) he_L_divisions rfl hl rfl (Nat.le_of_ble_eq_true rfl) ⟨Nat.le_of_ble_eq_true rfl, Nat.le_of_ble_eq_true rfl⟩ ⟨(by show _ ≤ 12000; omega), (by show _ ≤ 140000; omega)⟩ dL_articles_482) hW (fun r482 G482 H locs hp482 hW => ?_)
                      obtain ⟨hG, rfl⟩ := hp482
                      refine z_top (y := -13) (by rw [h1m.2.2.2]; rfl) ?_
                      refine z_bipush hx hb dL_articles_485 (by decide) ?_
                      refine z_icmp_ne (tgt := 518) hx hb dL_articles_487 (by decide) (by decide) (by decide) (fun c_10 => ?_) (fun c_10 => ?_)
                      · skip
                        exfalso; omega
                      · skip
                        refine lv_aload_n hx hb dL_articles_490 rfl (lv_at hl 4 rfl) ?_
                        refine z_bipush hx hb dL_articles_491 (by decide) ?_
                        refine z_iconst hx hb dL_articles_493 ?_
                        refine z_iconst hx hb dL_articles_494 ?_
                        refine z_cGi hC (z_frSW (rest := []) (As := [.ref ob, .int (iI 99), .int (iI 0), .int (iI 2)]) (n := 4) hC hW.g (lw_canDivide l D cs (zfA G482 _) G482 ob 99 0 2 N tx inp out1 c0 hs hlt hG (by decide) (by decide) (by decide)) (zgsW qm_L_275 qt_L_canDivide qn_L qc_L_canDivide) he_L_canDivide rfl hl rfl (Nat.le_of_ble_eq_true rfl) ⟨Nat.le_of_ble_eq_true rfl, Nat.le_of_ble_eq_true rfl⟩ ⟨(by show _ ≤ 12000; omega), (by show _ ≤ 140000; omega)⟩ dL_articles_495) hW (fun r495 G495 H locs hp495 hW => ?_)
                        obtain ⟨hG, rfl⟩ := hp495
                        refine z_top (y := -13) (by rw [h99.2.2.2]; rfl) ?_
                        refine z_bipush hx hb dL_articles_498 (by decide) ?_
                        refine z_icmp_ne (tgt := 518) hx hb dL_articles_500 (by decide) (by decide) (by decide) (fun c_11 => ?_) (fun c_11 => ?_)
                        · skip
                          exfalso; omega
                        · skip
                          refine lv_aload_n hx hb dL_articles_503 rfl (lv_at hl 4 rfl) ?_
                          refine z_bipush hx hb dL_articles_504 (by decide) ?_
                          refine z_cGi hC (z_frSW (rest := []) (As := [.ref ob, .int (iI 99)]) (n := 2) hC hW.g (lw_writeArticle l D cs (zfA G495 _) G495 ob 99 N tx inp out1 c0 hs hlt hG (by decide)) (zgsW qm_L_215 qt_L_writeArticle qn_L qc_L_writeArticle) he_L_writeArticle rfl hl rfl (Nat.le_of_ble_eq_true rfl) ⟨Nat.le_of_ble_eq_true rfl, Nat.le_of_ble_eq_true rfl⟩ ⟨(by show _ ≤ 12000; omega), (by show _ ≤ 140000; omega)⟩ dL_articles_506) hW (fun r506 G506 H locs hp506 hW => ?_)
                          obtain ⟨hG, rfl⟩ := hp506
                          have hG : lG cs G506 ob N tx inp out1 c0 hs := (by have z9 := hG; rw [h99.2.2.1] at z9; exact z9)
                          refine z_top (y := -13) (by rw [h99.2.2.1]; rfl) ?_
                          refine z_bipush hx hb dL_articles_509 (by decide) ?_
                          refine z_icmp_ne (tgt := 518) hx hb dL_articles_511 (by decide) (by decide) (by decide) (fun c_12 => ?_) (fun c_12 => ?_)
                          · skip
                            exfalso; omega
                          · skip
                            refine z_iconst hx hb dL_articles_514 ?_
                            refine lv_goto (tgt := 519) hx hb dL_articles_515 (by decide) ?_
                            exact z_zretG hC hr hlk hW rfl (by omega) (by omega) (⟨hle1, ⟨_, hG⟩, rfl⟩) dL_articles_519
      · skip
        obtain ⟨a0, ha0, ha1, hfa, ham, hw9, hqa, hqp, hqw, hao⟩ := art_at (k := k) hK hdj (by omega) (by omega)
        have hwl := hao.2.2.1.1
        have hpr := hao.2.1
        have hd1 := zdig_l k
        have hd2 := zdig_l a0.2.1
        have hdd : 1 ≤ (zdig k).length ∧ (zdig k).length ≤ 3 := by rw [hd1]; split <;> (first | omega | (split <;> omega))
        have hde : 1 ≤ (zdig a0.2.1).length ∧ (zdig a0.2.1).length ≤ 3 := by rw [hd2]; split <;> (first | omega | (split <;> omega))
        clear hd1 hd2
        refine lv_aload_n hx hb dL_articles_18 rfl (lv_at hl 4 rfl) ?_
        refine lv_iload hx hb dL_articles_19 (lv_at hl 0 rfl) ?_
        refine z_cGi hC (z_frSW (rest := []) (As := [.ref ob, .int (iI k)]) (n := 2) hC hW.g (lw_articleAt l D cs (zfA G1 _) G1 ob k N tx inp out1 c0 hs hlt hG (by omega)) (zgsW qm_L_261 qt_L_articleAt qn_L qc_L_articleAt) he_L_articleAt rfl hl rfl (Nat.le_of_ble_eq_true rfl) ⟨Nat.le_of_ble_eq_true rfl, Nat.le_of_ble_eq_true rfl⟩ ⟨(by show _ ≤ 12000; omega), (by show _ ≤ 140000; omega)⟩ dL_articles_21) hW (fun r21 G21 H locs hp21 hW => ?_)
        obtain ⟨hG, rfl⟩ := hp21
        refine z_top (y := k) (by rw [hqa]; rfl) ?_
        refine lv_istore (lv' := [(5, .int (iI k)), (4, .int (iI k)), (3, .int (iI lt)), (2, .int (iI wn)), (1, .int (iI (n : Int))), (0, .ref ob)]) hx hb dL_articles_24 hl (by decide) rfl (fun ls hl => ?_)
        refine lv_aload_n hx hb dL_articles_26 rfl (lv_at hl 5 rfl) ?_
        refine lv_iload hx hb dL_articles_27 (lv_at hl 0 rfl) ?_
        refine z_cGXr hC (z_frS (rest := []) (As := [.ref ob, .int (iI k)]) (n := 2) hC hW.gx (lm_wordsOf l D cs (zfA (zun G21 X1) _) G21 X1 ob N tx inp out1 c0 hs k a0 hW.dgx hlt hG (by omega) hfa hw9) gs_L_264 he_L_wordsOf rfl hl rfl (Nat.le_of_ble_eq_true rfl) ⟨Nat.le_of_ble_eq_true rfl, Nat.le_of_ble_eq_true rfl⟩ ⟨(by show _ ≤ 12000; omega), (by show _ ≤ 140000; omega)⟩ dL_articles_29) hW (fun r29 G29 X29 H locs hp29 hW => ?_)
        obtain ⟨hl29, hA29, hG⟩ := hp29
        have hle_13 : zle X X29 := hle1.trans hl29
        refine lv_astore (lv' := [(6, .ref r29), (5, .int (iI k)), (4, .int (iI k)), (3, .int (iI lt)), (2, .int (iI wn)), (1, .int (iI (n : Int))), (0, .ref ob)]) hx hb dL_articles_32 hl (by decide) rfl (fun ls hl => ?_)
        refine z_new (T := TJ4) (N := 4) (ci := 1) hC hW.all tyJ4 tyJ4_ok in_J4 rfl qk_L_162 qx_J4 qn_J4 [.null, .int (iI 0), .int (iI 0), .int (iI 0)] df_J4 (by show _ ≤ 12000; omega) (by show _ ≤ 140000; omega) dL_articles_34 (fun b34 H hb34 hZ => ?_)
        have hW := hW.nB hb34.1 hZ
        refine lv_dup hx hb dL_articles_37 rfl ?_
        refine z_cBv hC (z_frI (rest := [.ref b34]) (As := []) (n := 0) hC hW.b (met_J4_init_da8c8 l D cs (zfA (zup zE b34 (.inr (1, [.null, .int (iI 0), .int (iI 0), .int (iI 0)]))) _) (zup zE b34 (.inr (1, [.null, .int (iI 0), .int (iI 0), .int (iI 0)]))) b34 zup_s) qc_J4_init_da8c8 qn_J4 qm_L_164 qi_J4_init_da8c8 rfl he_J4_init_da8c8 rfl hl rfl (Nat.le_of_ble_eq_true rfl) ⟨Nat.le_of_ble_eq_true rfl, Nat.le_of_ble_eq_true rfl⟩ ⟨(by show _ ≤ 12000; omega), (by show _ ≤ 140000; omega)⟩ dL_articles_38) hW (fun B38 H locs hp38 hW => ?_)
        obtain ⟨va38, -, -, hb38⟩ := hp38
        have hnil : ([] : List Int).length = 0 := rfl
        refine W.widen (k := (2300 * k.toNat) + 1 + 1400 + 2) (n := (27000 * k.toNat) + 6 + 12400 + 20) (by omega) (by omega) ?_
        refine lv_iload hx hb dL_articles_41 (lv_at hl 1 rfl) ?_
        have hcc43 := oSB.c hb38
        have hgx43 := grw_f (cap := 16) (n := (([] : List Int).length + (zdig k).length)) (by omega)
        have hmc43 := mcS_le (cap := 16) (n := (([] : List Int).length + (zdig k).length))
        obtain ⟨fs43, ho43⟩ := (oSB.mono hb38 zun_le1).o
        refine z_cAp hC (z_frV (rest := []) (As := [.int (iI k)]) (n := 1) (ci := 1) hC hW.bx (met_J4_append_bf812 l D cs (zfA (zun B38 X29) _) (zun B38 X29) b34 va38 16 ([] : List Int) k (oSB.mono hb38 zun_le1) (by omega) (by omega)) gv_L_268 hd_J4_append_bf812 rfl ho43 rfl hl rfl (Nat.le_of_ble_eq_true rfl) ⟨Nat.le_of_ble_eq_true rfl, Nat.le_of_ble_eq_true rfl⟩ ⟨(by show _ ≤ 12000; omega), (by show _ ≤ 140000; omega)⟩ dL_articles_43) hW hb38 (fun B43 va43 H locs hb43 hW => ?_)
        obtain ⟨ca43, hca43⟩ : ∃ c_ : Nat, c_ = grw 16 (([] : List Int).length + (zdig k).length) := ⟨_, rfl⟩
        rw [← hca43] at hb43 hgx43
        refine W.widen (k := (2300 * k.toNat) + 1 + 1400 + 3) (n := (27000 * k.toNat) + 6 + 12400 + (20 + 2 * (ca43 - 16))) (by omega) (by omega) ?_
        have hlen43 : (([] : List Int) ++ zdig k).length = (([] : List Int).length + (zdig k).length) := List.length_append
        refine z_ldcS hC (List.mem_of_getElem? (i := 3) rfl) dL_articles_46 ?_
        have hcc49 := oSB.c hb43
        have hgx49 := grx_le ca43 ((([] : List Int) ++ zdig k).length + (zLw 3).length)
        have hmc49 := mcS_le (cap := ca43) (n := ((([] : List Int) ++ zdig k).length + (zLw 3).length))
        obtain ⟨fs49, ho49⟩ := (oSB.mono hb43 zun_le1).o
        refine z_cAp hC (z_frV (rest := []) (As := [.ref (cs (50 + 3))]) (n := 1) (ci := 1) hC hW.bx (mes_append l D cs (zfA (zun B43 X29) _) (zun B43 X29) b34 va43 ca43 (([] : List Int) ++ zdig k) (cs (50 + 3)) (cs (70 + 3)) (zLw 3) (oSB.mono hb43 zun_le1) (oSt.mono (zLw_st (j := 3) (by decide)) (zun_le2 hW.dbx)) (by omega)) gv_L_165 hd_J4_append_15ec4 rfl ho49 rfl hl rfl (Nat.le_of_ble_eq_true rfl) ⟨Nat.le_of_ble_eq_true rfl, Nat.le_of_ble_eq_true rfl⟩ ⟨(by show _ ≤ 12000; omega), (by show _ ≤ 140000; omega)⟩ dL_articles_49) hW hb43 (fun B49 va49 H locs hb49 hW => ?_)
        obtain ⟨ca49, hca49⟩ : ∃ c_ : Nat, c_ = grx ca43 ((([] : List Int) ++ zdig k).length + (zLw 3).length) := ⟨_, rfl⟩
        rw [← hca49] at hb49 hgx49
        refine W.widen (k := (2300 * k.toNat) + 1 + 1400 + 4) (n := (27000 * k.toNat) + 6 + 12400 + (20 + 2 * (ca49 - 16))) (by omega) (by omega) ?_
        have hlen49 : ((([] : List Int) ++ zdig k) ++ (zLw 3)).length = ((([] : List Int) ++ zdig k).length + (zLw 3).length) := List.length_append
        refine lv_aload_n hx hb dL_articles_52 rfl (lv_at hl 6 rfl) ?_
        refine lv_iload hx hb dL_articles_53 (lv_at hl 1 rfl) ?_
        obtain ⟨⟨g, sa, so, hL, sv, er, fa, hg⟩, hK, hh8, hhs, htz, ht60, hin, hN9⟩ := id hG
        obtain ⟨cap, hso⟩ := hg.2.2.2.2.1
        have hwi := hK.2.2.2.2.2.2.2.2.1
        refine z_cGi hC (z_xno (z_frX (rest := [.ref b34]) (As := [.int (iI k)]) (n := 1) (ci := 15) hC hW.g (met_X12_priority l D cs (zfA G29 _) G29 ob g sa so er fa c0 k hlt hg.1 (hg.2.2.2.2.2.2.2.2.2.1.mono zrm_le) (by omega)) gv_L_41 hd_X12_priority rfl hg.1 rfl hl rfl (Nat.le_of_ble_eq_true rfl) ⟨Nat.le_of_ble_eq_true rfl, Nat.le_of_ble_eq_true rfl⟩ ⟨(by show _ ≤ 12000; omega), (by show _ ≤ 140000; omega)⟩ dL_articles_55) (fun E F1 hz => absurd (show (0 : Int) = 1 from (congrArg Prod.fst hqp).symm.trans hz.2.1) (by decide))) hW (fun r55 G55 H locs hp55 hW => ?_)
        obtain ⟨rfl, -, rfl⟩ := hp55
        refine z_top (y := a0.2.1) (by rw [hqp]) ?_
        have hcc58 := oSB.c hb49
        have hgx58 := grw_f (cap := ca49) (n := (((([] : List Int) ++ zdig k) ++ (zLw 3)).length + (zdig a0.2.1).length)) (by omega)
        have hmc58 := mcS_le (cap := ca49) (n := (((([] : List Int) ++ zdig k) ++ (zLw 3)).length + (zdig a0.2.1).length))
        obtain ⟨fs58, ho58⟩ := (oSB.mono hb49 zun_le1).o
        refine z_cAp hC (z_frV (rest := []) (As := [.int (iI a0.2.1)]) (n := 1) (ci := 1) hC hW.bx (met_J4_append_bf812 l D cs (zfA (zun B49 X29) _) (zun B49 X29) b34 va49 ca49 ((([] : List Int) ++ zdig k) ++ (zLw 3)) a0.2.1 (oSB.mono hb49 zun_le1) (by omega) (by omega)) gv_L_268 hd_J4_append_bf812 rfl ho58 rfl hl rfl (Nat.le_of_ble_eq_true rfl) ⟨Nat.le_of_ble_eq_true rfl, Nat.le_of_ble_eq_true rfl⟩ ⟨(by show _ ≤ 12000; omega), (by show _ ≤ 140000; omega)⟩ dL_articles_58) hW hb49 (fun B58 va58 H locs hb58 hW => ?_)
        obtain ⟨ca58, hca58⟩ : ∃ c_ : Nat, c_ = grw ca49 (((([] : List Int) ++ zdig k) ++ (zLw 3)).length + (zdig a0.2.1).length) := ⟨_, rfl⟩
        rw [← hca58] at hb58 hgx58
        refine W.widen (k := (2300 * k.toNat) + 1 + 1400 + 1 + 5) (n := (27000 * k.toNat) + 6 + 12400 + 6 + (20 + 2 * (ca58 - 16))) (by omega) (by omega) ?_
        have hlen58 : (((([] : List Int) ++ zdig k) ++ (zLw 3)) ++ zdig a0.2.1).length = (((([] : List Int) ++ zdig k) ++ (zLw 3)).length + (zdig a0.2.1).length) := List.length_append
        refine z_ldcS hC (List.mem_of_getElem? (i := 4) rfl) dL_articles_61 ?_
        have hcc64 := oSB.c hb58
        have hgx64 := grx_le ca58 ((((([] : List Int) ++ zdig k) ++ (zLw 3)) ++ zdig a0.2.1).length + (zLw 4).length)
        have hmc64 := mcS_le (cap := ca58) (n := ((((([] : List Int) ++ zdig k) ++ (zLw 3)) ++ zdig a0.2.1).length + (zLw 4).length))
        obtain ⟨fs64, ho64⟩ := (oSB.mono hb58 zun_le1).o
        refine z_cAp hC (z_frV (rest := []) (As := [.ref (cs (50 + 4))]) (n := 1) (ci := 1) hC hW.bx (mes_append l D cs (zfA (zun B58 X29) _) (zun B58 X29) b34 va58 ca58 (((([] : List Int) ++ zdig k) ++ (zLw 3)) ++ zdig a0.2.1) (cs (50 + 4)) (cs (70 + 4)) (zLw 4) (oSB.mono hb58 zun_le1) (oSt.mono (zLw_st (j := 4) (by decide)) (zun_le2 hW.dbx)) (by omega)) gv_L_165 hd_J4_append_15ec4 rfl ho64 rfl hl rfl (Nat.le_of_ble_eq_true rfl) ⟨Nat.le_of_ble_eq_true rfl, Nat.le_of_ble_eq_true rfl⟩ ⟨(by show _ ≤ 12000; omega), (by show _ ≤ 140000; omega)⟩ dL_articles_64) hW hb58 (fun B64 va64 H locs hb64 hW => ?_)
        obtain ⟨ca64, hca64⟩ : ∃ c_ : Nat, c_ = grx ca58 ((((([] : List Int) ++ zdig k) ++ (zLw 3)) ++ zdig a0.2.1).length + (zLw 4).length) := ⟨_, rfl⟩
        rw [← hca64] at hb64 hgx64
        refine W.widen (k := (2300 * k.toNat) + 1 + 1400 + 1 + 6) (n := (27000 * k.toNat) + 6 + 12400 + 6 + (20 + 2 * (ca64 - 16))) (by omega) (by omega) ?_
        have hlen64 : ((((([] : List Int) ++ zdig k) ++ (zLw 3)) ++ zdig a0.2.1) ++ (zLw 4)).length = ((((([] : List Int) ++ zdig k) ++ (zLw 3)) ++ zdig a0.2.1).length + (zLw 4).length) := List.length_append
        obtain ⟨fs67, ho67⟩ := (oSB.mono hb64 zun_le1).o
        refine z_cTs hC (z_frV (rest := []) (As := []) (n := 0) (ci := 1) hC hW.bx (mes_toString l D cs (zfA (zun B64 X29) _) (zun B64 X29) b34 va64 ca64 ((((([] : List Int) ++ zdig k) ++ (zLw 3)) ++ zdig a0.2.1) ++ (zLw 4)) (oSB.mono hb64 zun_le1) (by omega)) gv_L_174 hd_J4_toString_0e30d rfl ho67 rfl hl rfl (Nat.le_of_ble_eq_true rfl) ⟨Nat.le_of_ble_eq_true rfl, Nat.le_of_ble_eq_true rfl⟩ ⟨(by show _ ≤ 12000; omega), (by show _ ≤ 140000; omega)⟩ dL_articles_67) hW hb64 (fun r67 v67 X67 H locs hl67 hq67 hh67 hW => ?_)
        have hs_14 := hA29.mono hl67
        have hle_15 : zle X X67 := hle_13.trans hl67
        have hq67 : oSt cs X67 r67 v67 (ztp a0 (0 : Int).toNat) := (by rw [ztp_0 ha1]; exact hq67)
        have htl0 : (ztp a0 (0 : Int).toNat).length = (zdig k).length + 1 + (zdig a0.2.1).length + 1 := by rw [ztp_0 ha1]; simp only [List.length_append, List.length_cons, List.length_nil]
        refine lv_astore (lv' := [(7, .ref r67), (6, .ref r29), (5, .int (iI k)), (4, .int (iI k)), (3, .int (iI lt)), (2, .int (iI wn)), (1, .int (iI (n : Int))), (0, .ref ob)]) hx hb dL_articles_70 hl (by decide) rfl (fun ls hl => ?_)
        refine z_iconst hx hb dL_articles_72 ?_
        refine lv_istore (lv' := [(8, .int (iI 0)), (7, .ref r67), (6, .ref r29), (5, .int (iI k)), (4, .int (iI k)), (3, .int (iI lt)), (2, .int (iI wn)), (1, .int (iI (n : Int))), (0, .ref ob)]) hx hb dL_articles_73 hl (by decide) rfl (fun ls hl => ?_)
        have L75_k_16 : ∀ (fu : Nat) (j wj lj : Int) (G1 X1 : zF) (b v : Nat) (hfu : ((a0.2.2.length : Int) - j).toNat < fu) (hi75_0 : 0 ≤ j ∧ j ≤ a0.2.2.length) (hi75_1 : wj = wn + j) (hi75_2 : lj = lt + ((zlens a0).take j.toNat).sum) (hi75_3 : lt ≤ lj ∧ lj ≤ lt + 12 * j) (hi75_4 : ((ztp a0 j.toNat).length : Int) ≤ 8 + 13 * j) (hG : lG cs G1 ob N tx inp (zart a0) c0 hs) (hle1 : zle X X1) (hA1 : oSs7 cs X1 r29 a0.2.2) (hst : oSt cs X1 b v (ztp a0 j.toNat)) (H : Heap) (locs : List Loc) (hW : zW3 D A s G1 zE X1 H locs) (ls : Array Slot) (hl : lv_has ls 12 [(8, .int (iI j)), (7, .ref b), (6, .ref r29), (5, .int (iI k)), (4, .int (iI k)), (3, .int (iI lj)), (2, .int (iI wj)), (1, .int (iI (n : Int))), (0, .ref ob)]), W p l e (zR 27 12000 140000) s m [.ref ob].toArray below meth c H locs (2300 * k.toNat + 1420 + 50 * j.toNat) (27000 * k.toNat + 12700 + 1000 * j.toNat) (MQ below (zQ D A (pGI (fun r G1 X1 => zle X X1 ∧ (∃ out1, lG cs G1 ob N tx inp out1 c0 hs) ∧ r = 1))) [.ref ob].toArray s 12000 140000 A) (F0 m 75 ls []) := by
          intro fu
          induction fu with
          | zero =>
            intro j wj lj G1 X1 b v hfu
            exact absurd hfu (Nat.not_lt_zero _)
          | succ fu ih75 =>
            intro j wj lj G1 X1 b v hfu hi75_0 hi75_1 hi75_2 hi75_3 hi75_4 hG hle1 hA1 hst H locs hW ls hl
            refine lv_iload hx hb dL_articles_75 (lv_at hl 0 rfl) ?_
            refine lv_aload hx hb dL_articles_77 (lv_at hl 2 rfl) ?_
            obtain ⟨fa_17, hfa_17, h2fa_17⟩ := id hA1
            refine z_alen (t := 7) hC hW.x hfa_17 rfl dL_articles_79 ?_
            refine z_icmp_ge (tgt := 248) hx hb dL_articles_80 (by decide) (by omega) (by omega) (fun c_18 => ?_) (fun c_18 => ?_)
            · skip
              have hjE : j = a0.2.2.length := by omega
              have hte : ztp a0 j.toNat = zart a0 := ztp_e hwl hjE
              have hzs : ((zlens a0).take j.toNat).sum = (zlens a0).sum := by rw [List.take_of_length_le (by rw [zlens_l]; omega)]
              obtain ⟨ar, hr1, hr2, hr3, hr4, hr5⟩ := rk_at (k := k) hK hdj (by omega) (by omega)
              have hzl2 : (zart a0).length = (ztp a0 j.toNat).length := by rw [hte]
              refine lv_aload_n hx hb dL_articles_248 rfl (lv_at hl 8 rfl) ?_
              refine lv_iload hx hb dL_articles_249 (lv_at hl 4 rfl) ?_
              refine z_cGi hC (z_frSW (rest := []) (As := [.ref ob, .int (iI k)]) (n := 2) hC hW.g (lw_byPriority l D cs (zfA G1 _) G1 ob k N tx inp (zart a0) c0 hs hlt hG (by omega)) (zgsW qm_L_282 qt_L_byPriority qn_L qc_L_byPriority) he_L_byPriority rfl hl rfl (Nat.le_of_ble_eq_true rfl) ⟨Nat.le_of_ble_eq_true rfl, Nat.le_of_ble_eq_true rfl⟩ ⟨(by show _ ≤ 12000; omega), (by show _ ≤ 140000; omega)⟩ dL_articles_251) hW (fun r251 G251 H locs hp251 hW => ?_)
              obtain ⟨hG, rfl⟩ := hp251
              refine z_top (y := ar.1) (by rw [hr2]; rfl) ?_
              refine lv_istore (lv' := [(8, .int (iI ar.1)), (7, .ref b), (6, .ref r29), (5, .int (iI k)), (4, .int (iI k)), (3, .int (iI lj)), (2, .int (iI wj)), (1, .int (iI (n : Int))), (0, .ref ob)]) hx hb dL_articles_254 hl (by decide) rfl (fun ls hl => ?_)
              refine lv_iload hx hb dL_articles_256 (lv_at hl 4 rfl) ?_
              refine z_if_ne (tgt := 265) hx hb dL_articles_258 (by decide) (by omega) (fun c_19 => ?_) (fun c_19 => ?_)
              · skip
                refine lv_aload_n hx hb dL_articles_265 rfl (lv_at hl 8 rfl) ?_
                refine lv_iload hx hb dL_articles_266 (lv_at hl 4 rfl) ?_
                refine z_iconst hx hb dL_articles_268 ?_
                refine z_isub hx hb dL_articles_269 ?_
                obtain ⟨br, hs1, hs2, hs3, hs4, hs5⟩ := rk_at (k := k - 1) hK hdj (by omega) (by omega)
                have hlt2 := rk_lt hK hdj hr1 hs1
                refine z_cGi hC (z_frSW (rest := []) (As := [.ref ob, .int (iI (k - 1))]) (n := 2) hC hW.g (lw_byPriority l D cs (zfA G251 _) G251 ob (k - 1) N tx inp (zart a0) c0 hs hlt hG (by omega)) (zgsW qm_L_282 qt_L_byPriority qn_L qc_L_byPriority) he_L_byPriority rfl hl rfl (Nat.le_of_ble_eq_true rfl) ⟨Nat.le_of_ble_eq_true rfl, Nat.le_of_ble_eq_true rfl⟩ ⟨(by show _ ≤ 12000; omega), (by show _ ≤ 140000; omega)⟩ dL_articles_270) hW (fun r270 G270 H locs hp270 hW => ?_)
                obtain ⟨hG, rfl⟩ := hp270
                refine z_top (y := br.1) (by rw [hs2]; rfl) ?_
                refine lv_istore (lv' := [(9, .int (iI br.1)), (8, .int (iI ar.1)), (7, .ref b), (6, .ref r29), (5, .int (iI k)), (4, .int (iI k)), (3, .int (iI lj)), (2, .int (iI wj)), (1, .int (iI (n : Int))), (0, .ref ob)]) hx hb dL_articles_273 hl (by decide) rfl (fun ls hl => ?_)
                refine lv_iload hx hb dL_articles_275 (lv_at hl 5 rfl) ?_
                refine z_if_ne (tgt := 284) hx hb dL_articles_277 (by decide) (by omega) (fun c_20 => ?_) (fun c_20 => ?_)
                · skip
                  refine lv_aload_n hx hb dL_articles_284 rfl (lv_at hl 9 rfl) ?_
                  refine lv_iload hx hb dL_articles_285 (lv_at hl 0 rfl) ?_
                  refine z_cGi hC (z_frSW (rest := []) (As := [.ref ob, .int (iI br.1)]) (n := 2) hC hW.g (lw_priority l D cs (zfA G270 _) G270 ob br.1 N tx inp (zart a0) c0 hs hlt hG (by omega)) (zgsW qm_L_285 qt_L_priority qn_L qc_L_priority) he_L_priority rfl hl rfl (Nat.le_of_ble_eq_true rfl) ⟨Nat.le_of_ble_eq_true rfl, Nat.le_of_ble_eq_true rfl⟩ ⟨(by show _ ≤ 12000; omega), (by show _ ≤ 140000; omega)⟩ dL_articles_287) hW (fun r287 G287 H locs hp287 hW => ?_)
                  obtain ⟨hG, rfl⟩ := hp287
                  refine z_top (y := br.2.1) (by rw [hs3]; rfl) ?_
                  refine lv_aload_n hx hb dL_articles_290 rfl (lv_at hl 9 rfl) ?_
                  refine lv_iload hx hb dL_articles_291 (lv_at hl 1 rfl) ?_
                  refine z_cGi hC (z_frSW (rest := [.int (iI br.2.1)]) (As := [.ref ob, .int (iI ar.1)]) (n := 2) hC hW.g (lw_priority l D cs (zfA G287 _) G287 ob ar.1 N tx inp (zart a0) c0 hs hlt hG (by omega)) (zgsW qm_L_285 qt_L_priority qn_L qc_L_priority) he_L_priority rfl hl rfl (Nat.le_of_ble_eq_true rfl) ⟨Nat.le_of_ble_eq_true rfl, Nat.le_of_ble_eq_true rfl⟩ ⟨(by show _ ≤ 12000; omega), (by show _ ≤ 140000; omega)⟩ dL_articles_293) hW (fun r293 G293 H locs hp293 hW => ?_)
                  obtain ⟨hG, rfl⟩ := hp293
                  refine z_top (y := ar.2.1) (by rw [hr3]; rfl) ?_
                  refine z_isub hx hb dL_articles_296 ?_
                  refine lv_istore (lv' := [(10, .int (iI (br.2.1 - ar.2.1))), (9, .int (iI br.1)), (8, .int (iI ar.1)), (7, .ref b), (6, .ref r29), (5, .int (iI k)), (4, .int (iI k)), (3, .int (iI lj)), (2, .int (iI wj)), (1, .int (iI (n : Int))), (0, .ref ob)]) hx hb dL_articles_297 hl (by decide) rfl (fun ls hl => ?_)
                  refine lv_aload_n hx hb dL_articles_299 rfl (lv_at hl 10 rfl) ?_
                  refine lv_aload_n hx hb dL_articles_300 rfl (lv_at hl 10 rfl) ?_
                  refine lv_iload hx hb dL_articles_301 (lv_at hl 5 rfl) ?_
                  refine z_cGi hC (z_frSW (rest := [.ref ob]) (As := [.ref ob, .int (iI k)]) (n := 2) hC hW.g (lw_writeArticle l D cs (zfA G293 _) G293 ob k N tx inp (zart a0) c0 hs hlt hG (by omega)) (zgsW qm_L_215 qt_L_writeArticle qn_L qc_L_writeArticle) he_L_writeArticle rfl hl rfl (Nat.le_of_ble_eq_true rfl) ⟨Nat.le_of_ble_eq_true rfl, Nat.le_of_ble_eq_true rfl⟩ ⟨(by show _ ≤ 12000; omega), (by show _ ≤ 140000; omega)⟩ dL_articles_303) hW (fun r303 G303 H locs hp303 hW => ?_)
                  obtain ⟨hG, rfl⟩ := hp303
                  have hG : lG cs G303 ob N tx inp (zart a0) c0 hs := (by have z9 := hG; rw [hqw] at z9; exact z9)
                  refine z_top (y := ((zart a0).length : Int)) (by rw [hqw]; rfl) ?_
                  refine lv_aload hx hb dL_articles_306 (lv_at hl 3 rfl) ?_
                  refine z_cGXi hC (z_frS (rest := []) (As := [.ref ob, .int (iI ((zart a0).length : Int)), .ref b]) (n := 3) hC hW.gx (lm_spells l D cs (zfA (zun G303 X1) _) G303 X1 ob N tx inp (zart a0) c0 hs b v (ztp a0 j.toNat) ((zart a0).length : Int) hW.dgx hlt hG hst (by rw [hte]) hte.symm) gs_L_287 he_L_spells rfl hl rfl (Nat.le_of_ble_eq_true rfl) ⟨Nat.le_of_ble_eq_true rfl, Nat.le_of_ble_eq_true rfl⟩ ⟨(by show _ ≤ 12000; omega), (by show _ ≤ 140000; omega)⟩ dL_articles_308) hW (fun r308 G308 X308 H locs hp308 hW => ?_)
                  obtain ⟨rfl, hG, rfl⟩ := hp308
                  refine z_if_eq (tgt := 394) hx hb dL_articles_311 (by decide) (by decide) (fun c_21 => ?_) (fun c_21 => ?_)
                  · skip
                    exfalso; omega
                  · skip
                    refine lv_iload hx hb dL_articles_314 (lv_at hl 2 rfl) ?_
                    refine z_if_lt (tgt := 394) hx hb dL_articles_316 (by decide) (by omega) (fun c_22 => ?_) (fun c_22 => ?_)
                    · skip
                      exfalso; omega
                    · skip
                      refine lv_iload hx hb dL_articles_319 (lv_at hl 0 rfl) ?_
                      refine z_if_lt (tgt := 394) hx hb dL_articles_321 (by decide) (by omega) (fun c_23 => ?_) (fun c_23 => ?_)
                      · skip
                        exfalso; omega
                      · skip
                        refine lv_iload hx hb dL_articles_324 (lv_at hl 0 rfl) ?_
                        refine z_if_ne (tgt := 336) hx hb dL_articles_326 (by decide) (by omega) (fun c_24 => ?_) (fun c_24 => ?_)
                        · skip
                          refine lv_iload hx hb dL_articles_336 (lv_at hl 6 rfl) ?_
                          refine z_if_le (tgt := 354) hx hb dL_articles_338 (by decide) (by omega) (fun c_25 => ?_) (fun c_25 => ?_)
                          · skip
                            refine lv_aload_n hx hb dL_articles_354 rfl (lv_at hl 10 rfl) ?_
                            refine lv_iload hx hb dL_articles_355 (lv_at hl 5 rfl) ?_
                            refine lv_aload hx hb dL_articles_357 (lv_at hl 4 rfl) ?_
                            obtain ⟨fa_26, hfa_26, h2fa_26⟩ := id hA1
                            refine z_alen (t := 7) hC hW.x hfa_26 rfl dL_articles_359 ?_
                            refine z_cGi hC (z_frSW (rest := []) (As := [.ref ob, .int (iI k), .int (iI (a0.2.2.length : Int))]) (n := 3) hC hW.g (lw_wordLength l D cs (zfA G308 _) G308 ob k (a0.2.2.length : Int) N tx inp (zart a0) c0 hs hlt hG (by omega) (by omega)) (zgsW qm_L_278 qt_L_wordLength qn_L qc_L_wordLength) he_L_wordLength rfl hl rfl (Nat.le_of_ble_eq_true rfl) ⟨Nat.le_of_ble_eq_true rfl, Nat.le_of_ble_eq_true rfl⟩ ⟨(by show _ ≤ 12000; omega), (by show _ ≤ 140000; omega)⟩ dL_articles_360) hW (fun r360 G360 H locs hp360 hW => ?_)
                            obtain ⟨hG, rfl⟩ := hp360
                            refine z_top (y := -11) (by rw [art_wn hfa (by omega)]; rfl) ?_
                            refine z_bipush hx hb dL_articles_363 (by decide) ?_
                            refine z_icmp_ne (tgt := 394) hx hb dL_articles_365 (by decide) (by decide) (by decide) (fun c_27 => ?_) (fun c_27 => ?_)
                            · skip
                              exfalso; omega
                            · skip
                              refine lv_aload_n hx hb dL_articles_368 rfl (lv_at hl 10 rfl) ?_
                              refine lv_iload hx hb dL_articles_369 (lv_at hl 5 rfl) ?_
                              refine z_iconst hx hb dL_articles_371 ?_
                              refine z_cGi hC (z_frSW (rest := []) (As := [.ref ob, .int (iI k), .int (iI (-1))]) (n := 3) hC hW.g (lw_divisions l D cs (zfA G360 _) G360 ob k (-1) N tx inp (zart a0) c0 hs hlt hG (by omega) (by decide)) (zgsW qm_L_280 qt_L_divisions qn_L qc_L_divisions) he_L_divisions rfl hl rfl (Nat.le_of_ble_eq_true rfl) ⟨Nat.le_of_ble_eq_true rfl, Nat.le_of_ble_eq_true rfl⟩ ⟨(by show _ ≤ 12000; omega), (by show _ ≤ 140000; omega)⟩ dL_articles_372) hW (fun r372 G372 H locs hp372 hW => ?_)
                              obtain ⟨hG, rfl⟩ := hp372
                              refine z_top (y := -11) (by rw [art_wn hfa (by omega)]; rfl) ?_
                              refine z_bipush hx hb dL_articles_375 (by decide) ?_
                              refine z_icmp_ne (tgt := 394) hx hb dL_articles_377 (by decide) (by decide) (by decide) (fun c_28 => ?_) (fun c_28 => ?_)
                              · skip
                                exfalso; omega
                              · skip
                                refine lv_aload_n hx hb dL_articles_380 rfl (lv_at hl 10 rfl) ?_
                                refine lv_iload hx hb dL_articles_381 (lv_at hl 5 rfl) ?_
                                refine z_bipush hx hb dL_articles_383 (by decide) ?_
                                refine z_iconst hx hb dL_articles_385 ?_
                                refine z_cGi hC (z_frSW (rest := []) (As := [.ref ob, .int (iI k), .int (iI 99), .int (iI 2)]) (n := 4) hC hW.g (lw_canDivide l D cs (zfA G372 _) G372 ob k 99 2 N tx inp (zart a0) c0 hs hlt hG (by omega) (by decide) (by decide)) (zgsW qm_L_275 qt_L_canDivide qn_L qc_L_canDivide) he_L_canDivide rfl hl rfl (Nat.le_of_ble_eq_true rfl) ⟨Nat.le_of_ble_eq_true rfl, Nat.le_of_ble_eq_true rfl⟩ ⟨(by show _ ≤ 12000; omega), (by show _ ≤ 140000; omega)⟩ dL_articles_386) hW (fun r386 G386 H locs hp386 hW => ?_)
                                obtain ⟨hG, rfl⟩ := hp386
                                refine z_top (y := -11) (by rw [art_wn hfa (by omega)]; rfl) ?_
                                refine z_bipush hx hb dL_articles_389 (by decide) ?_
                                refine z_icmp_eq (tgt := 396) hx hb dL_articles_391 (by decide) (by decide) (by decide) (fun c_29 => ?_) (fun c_29 => ?_)
                                · skip
                                  refine z_iinc (lv' := [(4, .int (iI (k + 1))), (10, .int (iI (br.2.1 - ar.2.1))), (9, .int (iI br.1)), (8, .int (iI ar.1)), (7, .ref b), (6, .ref r29), (5, .int (iI k)), (3, .int (iI lj)), (2, .int (iI wj)), (1, .int (iI (n : Int))), (0, .ref ob)]) hx hb dL_articles_396 hl (k := 6) rfl (by decide) rfl (fun ls hl => ?_)
                                  refine lv_goto (tgt := 12) hx hb dL_articles_399 (by decide) ?_
                                  refine W.widen (k := (2300 * (k + 1).toNat)) (n := (27000 * (k + 1).toNat)) (by omega) (by omega) ?_
                                  exact ih12 (k + 1) wj lj G386 X1 (zart a0) (by omega) (by omega) (by rw [show (k + 1).toNat = k.toNat + 1 by omega, zwn_s ha0]; omega) (by rw [show (k + 1).toNat = k.toNat + 1 by omega, zlt_s ha0]; omega) (by omega) (by omega) hG hle1 _ _ hW ls (lv_sub hl [0, 7, 8, 9, 10] rfl)
                                · skip
                                  exfalso; omega
                          · skip
                            refine lv_aload_n hx hb dL_articles_341 rfl (lv_at hl 10 rfl) ?_
                            refine lv_iload hx hb dL_articles_342 (lv_at hl 6 rfl) ?_
                            refine z_iconst hx hb dL_articles_344 ?_
                            refine z_isub hx hb dL_articles_345 ?_
                            refine z_cGi hC (z_frSW (rest := []) (As := [.ref ob, .int (iI (k - 1))]) (n := 2) hC hW.g (lw_articleAt l D cs (zfA G308 _) G308 ob (k - 1) N tx inp (zart a0) c0 hs hlt hG (by omega)) (zgsW qm_L_261 qt_L_articleAt qn_L qc_L_articleAt) he_L_articleAt rfl hl rfl (Nat.le_of_ble_eq_true rfl) ⟨Nat.le_of_ble_eq_true rfl, Nat.le_of_ble_eq_true rfl⟩ ⟨(by show _ ≤ 12000; omega), (by show _ ≤ 140000; omega)⟩ dL_articles_346) hW (fun r346 G346 H locs hp346 hW => ?_)
                            obtain ⟨hG, rfl⟩ := hp346
                            refine z_top (y := (k - 1)) (by rw [(art_at_q hK hdj (by omega) (by omega) : sArt c0 (k - 1) = _)]; rfl) ?_
                            refine lv_iload hx hb dL_articles_349 (lv_at hl 5 rfl) ?_
                            refine z_icmp_ge (tgt := 394) hx hb dL_articles_351 (by decide) (by omega) (by omega) (fun c_30 => ?_) (fun c_30 => ?_)
                            · skip
                              exfalso; omega
                            · skip
                              refine lv_aload_n hx hb dL_articles_354 rfl (lv_at hl 10 rfl) ?_
                              refine lv_iload hx hb dL_articles_355 (lv_at hl 5 rfl) ?_
                              refine lv_aload hx hb dL_articles_357 (lv_at hl 4 rfl) ?_
                              obtain ⟨fa_31, hfa_31, h2fa_31⟩ := id hA1
                              refine z_alen (t := 7) hC hW.x hfa_31 rfl dL_articles_359 ?_
                              refine z_cGi hC (z_frSW (rest := []) (As := [.ref ob, .int (iI k), .int (iI (a0.2.2.length : Int))]) (n := 3) hC hW.g (lw_wordLength l D cs (zfA G346 _) G346 ob k (a0.2.2.length : Int) N tx inp (zart a0) c0 hs hlt hG (by omega) (by omega)) (zgsW qm_L_278 qt_L_wordLength qn_L qc_L_wordLength) he_L_wordLength rfl hl rfl (Nat.le_of_ble_eq_true rfl) ⟨Nat.le_of_ble_eq_true rfl, Nat.le_of_ble_eq_true rfl⟩ ⟨(by show _ ≤ 12000; omega), (by show _ ≤ 140000; omega)⟩ dL_articles_360) hW (fun r360 G360 H locs hp360 hW => ?_)
                              obtain ⟨hG, rfl⟩ := hp360
                              refine z_top (y := -11) (by rw [art_wn hfa (by omega)]; rfl) ?_
                              refine z_bipush hx hb dL_articles_363 (by decide) ?_
                              refine z_icmp_ne (tgt := 394) hx hb dL_articles_365 (by decide) (by decide) (by decide) (fun c_32 => ?_) (fun c_32 => ?_)
                              · skip
                                exfalso; omega
                              · skip
                                refine lv_aload_n hx hb dL_articles_368 rfl (lv_at hl 10 rfl) ?_
                                refine lv_iload hx hb dL_articles_369 (lv_at hl 5 rfl) ?_
                                refine z_iconst hx hb dL_articles_371 ?_
                                refine z_cGi hC (z_frSW (rest := []) (As := [.ref ob, .int (iI k), .int (iI (-1))]) (n := 3) hC hW.g (lw_divisions l D cs (zfA G360 _) G360 ob k (-1) N tx inp (zart a0) c0 hs hlt hG (by omega) (by decide)) (zgsW qm_L_280 qt_L_divisions qn_L qc_L_divisions) he_L_divisions rfl hl rfl (Nat.le_of_ble_eq_true rfl) ⟨Nat.le_of_ble_eq_true rfl, Nat.le_of_ble_eq_true rfl⟩ ⟨(by show _ ≤ 12000; omega), (by show _ ≤ 140000; omega)⟩ dL_articles_372) hW (fun r372 G372 H locs hp372 hW => ?_)
                                obtain ⟨hG, rfl⟩ := hp372
                                refine z_top (y := -11) (by rw [art_wn hfa (by omega)]; rfl) ?_
                                refine z_bipush hx hb dL_articles_375 (by decide) ?_
                                refine z_icmp_ne (tgt := 394) hx hb dL_articles_377 (by decide) (by decide) (by decide) (fun c_33 => ?_) (fun c_33 => ?_)
                                · skip
                                  exfalso; omega
                                · skip
                                  refine lv_aload_n hx hb dL_articles_380 rfl (lv_at hl 10 rfl) ?_
                                  refine lv_iload hx hb dL_articles_381 (lv_at hl 5 rfl) ?_
                                  refine z_bipush hx hb dL_articles_383 (by decide) ?_
                                  refine z_iconst hx hb dL_articles_385 ?_
                                  refine z_cGi hC (z_frSW (rest := []) (As := [.ref ob, .int (iI k), .int (iI 99), .int (iI 2)]) (n := 4) hC hW.g (lw_canDivide l D cs (zfA G372 _) G372 ob k 99 2 N tx inp (zart a0) c0 hs hlt hG (by omega) (by decide) (by decide)) (zgsW qm_L_275 qt_L_canDivide qn_L qc_L_canDivide) he_L_canDivide rfl hl rfl (Nat.le_of_ble_eq_true rfl) ⟨Nat.le_of_ble_eq_true rfl, Nat.le_of_ble_eq_true rfl⟩ ⟨(by show _ ≤ 12000; omega), (by show _ ≤ 140000; omega)⟩ dL_articles_386) hW (fun r386 G386 H locs hp386 hW => ?_)
                                  obtain ⟨hG, rfl⟩ := hp386
                                  refine z_top (y := -11) (by rw [art_wn hfa (by omega)]; rfl) ?_
                                  refine z_bipush hx hb dL_articles_389 (by decide) ?_
                                  refine z_icmp_eq (tgt := 396) hx hb dL_articles_391 (by decide) (by decide) (by decide) (fun c_34 => ?_) (fun c_34 => ?_)
                                  · skip
                                    refine z_iinc (lv' := [(4, .int (iI (k + 1))), (10, .int (iI (br.2.1 - ar.2.1))), (9, .int (iI br.1)), (8, .int (iI ar.1)), (7, .ref b), (6, .ref r29), (5, .int (iI k)), (3, .int (iI lj)), (2, .int (iI wj)), (1, .int (iI (n : Int))), (0, .ref ob)]) hx hb dL_articles_396 hl (k := 6) rfl (by decide) rfl (fun ls hl => ?_)
                                    refine lv_goto (tgt := 12) hx hb dL_articles_399 (by decide) ?_
                                    refine W.widen (k := (2300 * (k + 1).toNat)) (n := (27000 * (k + 1).toNat)) (by omega) (by omega) ?_
                                    exact ih12 (k + 1) wj lj G386 X1 (zart a0) (by omega) (by omega) (by rw [show (k + 1).toNat = k.toNat + 1 by omega, zwn_s ha0]; omega) (by rw [show (k + 1).toNat = k.toNat + 1 by omega, zlt_s ha0]; omega) (by omega) (by omega) hG hle1 _ _ hW ls (lv_sub hl [0, 7, 8, 9, 10] rfl)
                                  · skip
                                    exfalso; omega
                        · skip
                          refine lv_iload hx hb dL_articles_329 (lv_at hl 1 rfl) ?_
                          refine lv_iload hx hb dL_articles_331 (lv_at hl 2 rfl) ?_
                          refine z_icmp_gt (tgt := 394) hx hb dL_articles_333 (by decide) (by omega) (by omega) (fun c_35 => ?_) (fun c_35 => ?_)
                          · skip
                            exfalso; omega
                          · skip
                            refine lv_iload hx hb dL_articles_336 (lv_at hl 6 rfl) ?_
                            refine z_if_le (tgt := 354) hx hb dL_articles_338 (by decide) (by omega) (fun c_36 => ?_) (fun c_36 => ?_)
                            · skip
                              refine lv_aload_n hx hb dL_articles_354 rfl (lv_at hl 10 rfl) ?_
                              refine lv_iload hx hb dL_articles_355 (lv_at hl 5 rfl) ?_
                              refine lv_aload hx hb dL_articles_357 (lv_at hl 4 rfl) ?_
                              obtain ⟨fa_37, hfa_37, h2fa_37⟩ := id hA1
                              refine z_alen (t := 7) hC hW.x hfa_37 rfl dL_articles_359 ?_
                              refine z_cGi hC (z_frSW (rest := []) (As := [.ref ob, .int (iI k), .int (iI (a0.2.2.length : Int))]) (n := 3) hC hW.g (lw_wordLength l D cs (zfA G308 _) G308 ob k (a0.2.2.length : Int) N tx inp (zart a0) c0 hs hlt hG (by omega) (by omega)) (zgsW qm_L_278 qt_L_wordLength qn_L qc_L_wordLength) he_L_wordLength rfl hl rfl (Nat.le_of_ble_eq_true rfl) ⟨Nat.le_of_ble_eq_true rfl, Nat.le_of_ble_eq_true rfl⟩ ⟨(by show _ ≤ 12000; omega), (by show _ ≤ 140000; omega)⟩ dL_articles_360) hW (fun r360 G360 H locs hp360 hW => ?_)
                              obtain ⟨hG, rfl⟩ := hp360
                              refine z_top (y := -11) (by rw [art_wn hfa (by omega)]; rfl) ?_
                              refine z_bipush hx hb dL_articles_363 (by decide) ?_
                              refine z_icmp_ne (tgt := 394) hx hb dL_articles_365 (by decide) (by decide) (by decide) (fun c_38 => ?_) (fun c_38 => ?_)
                              · skip
                                exfalso; omega
                              · skip
                                refine lv_aload_n hx hb dL_articles_368 rfl (lv_at hl 10 rfl) ?_
                                refine lv_iload hx hb dL_articles_369 (lv_at hl 5 rfl) ?_
                                refine z_iconst hx hb dL_articles_371 ?_
                                refine z_cGi hC (z_frSW (rest := []) (As := [.ref ob, .int (iI k), .int (iI (-1))]) (n := 3) hC hW.g (lw_divisions l D cs (zfA G360 _) G360 ob k (-1) N tx inp (zart a0) c0 hs hlt hG (by omega) (by decide)) (zgsW qm_L_280 qt_L_divisions qn_L qc_L_divisions) he_L_divisions rfl hl rfl (Nat.le_of_ble_eq_true rfl) ⟨Nat.le_of_ble_eq_true rfl, Nat.le_of_ble_eq_true rfl⟩ ⟨(by show _ ≤ 12000; omega), (by show _ ≤ 140000; omega)⟩ dL_articles_372) hW (fun r372 G372 H locs hp372 hW => ?_)
                                obtain ⟨hG, rfl⟩ := hp372
                                refine z_top (y := -11) (by rw [art_wn hfa (by omega)]; rfl) ?_
                                refine z_bipush hx hb dL_articles_375 (by decide) ?_
                                refine z_icmp_ne (tgt := 394) hx hb dL_articles_377 (by decide) (by decide) (by decide) (fun c_39 => ?_) (fun c_39 => ?_)
                                · skip
                                  exfalso; omega
                                · skip
                                  refine lv_aload_n hx hb dL_articles_380 rfl (lv_at hl 10 rfl) ?_
                                  refine lv_iload hx hb dL_articles_381 (lv_at hl 5 rfl) ?_
                                  refine z_bipush hx hb dL_articles_383 (by decide) ?_
                                  refine z_iconst hx hb dL_articles_385 ?_
                                  refine z_cGi hC (z_frSW (rest := []) (As := [.ref ob, .int (iI k), .int (iI 99), .int (iI 2)]) (n := 4) hC hW.g (lw_canDivide l D cs (zfA G372 _) G372 ob k 99 2 N tx inp (zart a0) c0 hs hlt hG (by omega) (by decide) (by decide)) (zgsW qm_L_275 qt_L_canDivide qn_L qc_L_canDivide) he_L_canDivide rfl hl rfl (Nat.le_of_ble_eq_true rfl) ⟨Nat.le_of_ble_eq_true rfl, Nat.le_of_ble_eq_true rfl⟩ ⟨(by show _ ≤ 12000; omega), (by show _ ≤ 140000; omega)⟩ dL_articles_386) hW (fun r386 G386 H locs hp386 hW => ?_)
                                  obtain ⟨hG, rfl⟩ := hp386
                                  refine z_top (y := -11) (by rw [art_wn hfa (by omega)]; rfl) ?_
                                  refine z_bipush hx hb dL_articles_389 (by decide) ?_
                                  refine z_icmp_eq (tgt := 396) hx hb dL_articles_391 (by decide) (by decide) (by decide) (fun c_40 => ?_) (fun c_40 => ?_)
                                  · skip
                                    refine z_iinc (lv' := [(4, .int (iI (k + 1))), (10, .int (iI (br.2.1 - ar.2.1))), (9, .int (iI br.1)), (8, .int (iI ar.1)), (7, .ref b), (6, .ref r29), (5, .int (iI k)), (3, .int (iI lj)), (2, .int (iI wj)), (1, .int (iI (n : Int))), (0, .ref ob)]) hx hb dL_articles_396 hl (k := 6) rfl (by decide) rfl (fun ls hl => ?_)
                                    refine lv_goto (tgt := 12) hx hb dL_articles_399 (by decide) ?_
                                    refine W.widen (k := (2300 * (k + 1).toNat)) (n := (27000 * (k + 1).toNat)) (by omega) (by omega) ?_
                                    exact ih12 (k + 1) wj lj G386 X1 (zart a0) (by omega) (by omega) (by rw [show (k + 1).toNat = k.toNat + 1 by omega, zwn_s ha0]; omega) (by rw [show (k + 1).toNat = k.toNat + 1 by omega, zlt_s ha0]; omega) (by omega) (by omega) hG hle1 _ _ hW ls (lv_sub hl [0, 7, 8, 9, 10] rfl)
                                  · skip
                                    exfalso; omega
                            · skip
                              refine lv_aload_n hx hb dL_articles_341 rfl (lv_at hl 10 rfl) ?_
                              refine lv_iload hx hb dL_articles_342 (lv_at hl 6 rfl) ?_
                              refine z_iconst hx hb dL_articles_344 ?_
                              refine z_isub hx hb dL_articles_345 ?_
                              refine z_cGi hC (z_frSW (rest := []) (As := [.ref ob, .int (iI (k - 1))]) (n := 2) hC hW.g (lw_articleAt l D cs (zfA G308 _) G308 ob (k - 1) N tx inp (zart a0) c0 hs hlt hG (by omega)) (zgsW qm_L_261 qt_L_articleAt qn_L qc_L_articleAt) he_L_articleAt rfl hl rfl (Nat.le_of_ble_eq_true rfl) ⟨Nat.le_of_ble_eq_true rfl, Nat.le_of_ble_eq_true rfl⟩ ⟨(by show _ ≤ 12000; omega), (by show _ ≤ 140000; omega)⟩ dL_articles_346) hW (fun r346 G346 H locs hp346 hW => ?_)
                              obtain ⟨hG, rfl⟩ := hp346
                              refine z_top (y := (k - 1)) (by rw [(art_at_q hK hdj (by omega) (by omega) : sArt c0 (k - 1) = _)]; rfl) ?_
                              refine lv_iload hx hb dL_articles_349 (lv_at hl 5 rfl) ?_
                              refine z_icmp_ge (tgt := 394) hx hb dL_articles_351 (by decide) (by omega) (by omega) (fun c_41 => ?_) (fun c_41 => ?_)
                              · skip
                                exfalso; omega
                              · skip
                                refine lv_aload_n hx hb dL_articles_354 rfl (lv_at hl 10 rfl) ?_
                                refine lv_iload hx hb dL_articles_355 (lv_at hl 5 rfl) ?_
                                refine lv_aload hx hb dL_articles_357 (lv_at hl 4 rfl) ?_
                                obtain ⟨fa_42, hfa_42, h2fa_42⟩ := id hA1
                                refine z_alen (t := 7) hC hW.x hfa_42 rfl dL_articles_359 ?_
                                refine z_cGi hC (z_frSW (rest := []) (As := [.ref ob, .int (iI k), .int (iI (a0.2.2.length : Int))]) (n := 3) hC hW.g (lw_wordLength l D cs (zfA G346 _) G346 ob k (a0.2.2.length : Int) N tx inp (zart a0) c0 hs hlt hG (by omega) (by omega)) (zgsW qm_L_278 qt_L_wordLength qn_L qc_L_wordLength) he_L_wordLength rfl hl rfl (Nat.le_of_ble_eq_true rfl) ⟨Nat.le_of_ble_eq_true rfl, Nat.le_of_ble_eq_true rfl⟩ ⟨(by show _ ≤ 12000; omega), (by show _ ≤ 140000; omega)⟩ dL_articles_360) hW (fun r360 G360 H locs hp360 hW => ?_)
                                obtain ⟨hG, rfl⟩ := hp360
                                refine z_top (y := -11) (by rw [art_wn hfa (by omega)]; rfl) ?_
                                refine z_bipush hx hb dL_articles_363 (by decide) ?_
                                refine z_icmp_ne (tgt := 394) hx hb dL_articles_365 (by decide) (by decide) (by decide) (fun c_43 => ?_) (fun c_43 => ?_)
                                · skip
                                  exfalso; omega
                                · skip
                                  refine lv_aload_n hx hb dL_articles_368 rfl (lv_at hl 10 rfl) ?_
                                  refine lv_iload hx hb dL_articles_369 (lv_at hl 5 rfl) ?_
                                  refine z_iconst hx hb dL_articles_371 ?_
                                  refine z_cGi hC (z_frSW (rest := []) (As := [.ref ob, .int (iI k), .int (iI (-1))]) (n := 3) hC hW.g (lw_divisions l D cs (zfA G360 _) G360 ob k (-1) N tx inp (zart a0) c0 hs hlt hG (by omega) (by decide)) (zgsW qm_L_280 qt_L_divisions qn_L qc_L_divisions) he_L_divisions rfl hl rfl (Nat.le_of_ble_eq_true rfl) ⟨Nat.le_of_ble_eq_true rfl, Nat.le_of_ble_eq_true rfl⟩ ⟨(by show _ ≤ 12000; omega), (by show _ ≤ 140000; omega)⟩ dL_articles_372) hW (fun r372 G372 H locs hp372 hW => ?_)
                                  obtain ⟨hG, rfl⟩ := hp372
                                  refine z_top (y := -11) (by rw [art_wn hfa (by omega)]; rfl) ?_
                                  refine z_bipush hx hb dL_articles_375 (by decide) ?_
                                  refine z_icmp_ne (tgt := 394) hx hb dL_articles_377 (by decide) (by decide) (by decide) (fun c_44 => ?_) (fun c_44 => ?_)
                                  · skip
                                    exfalso; omega
                                  · skip
                                    refine lv_aload_n hx hb dL_articles_380 rfl (lv_at hl 10 rfl) ?_
                                    refine lv_iload hx hb dL_articles_381 (lv_at hl 5 rfl) ?_
                                    refine z_bipush hx hb dL_articles_383 (by decide) ?_
                                    refine z_iconst hx hb dL_articles_385 ?_
                                    refine z_cGi hC (z_frSW (rest := []) (As := [.ref ob, .int (iI k), .int (iI 99), .int (iI 2)]) (n := 4) hC hW.g (lw_canDivide l D cs (zfA G372 _) G372 ob k 99 2 N tx inp (zart a0) c0 hs hlt hG (by omega) (by decide) (by decide)) (zgsW qm_L_275 qt_L_canDivide qn_L qc_L_canDivide) he_L_canDivide rfl hl rfl (Nat.le_of_ble_eq_true rfl) ⟨Nat.le_of_ble_eq_true rfl, Nat.le_of_ble_eq_true rfl⟩ ⟨(by show _ ≤ 12000; omega), (by show _ ≤ 140000; omega)⟩ dL_articles_386) hW (fun r386 G386 H locs hp386 hW => ?_)
                                    obtain ⟨hG, rfl⟩ := hp386
                                    refine z_top (y := -11) (by rw [art_wn hfa (by omega)]; rfl) ?_
                                    refine z_bipush hx hb dL_articles_389 (by decide) ?_
                                    refine z_icmp_eq (tgt := 396) hx hb dL_articles_391 (by decide) (by decide) (by decide) (fun c_45 => ?_) (fun c_45 => ?_)
                                    · skip
                                      refine z_iinc (lv' := [(4, .int (iI (k + 1))), (10, .int (iI (br.2.1 - ar.2.1))), (9, .int (iI br.1)), (8, .int (iI ar.1)), (7, .ref b), (6, .ref r29), (5, .int (iI k)), (3, .int (iI lj)), (2, .int (iI wj)), (1, .int (iI (n : Int))), (0, .ref ob)]) hx hb dL_articles_396 hl (k := 6) rfl (by decide) rfl (fun ls hl => ?_)
                                      refine lv_goto (tgt := 12) hx hb dL_articles_399 (by decide) ?_
                                      refine W.widen (k := (2300 * (k + 1).toNat)) (n := (27000 * (k + 1).toNat)) (by omega) (by omega) ?_
                                      exact ih12 (k + 1) wj lj G386 X1 (zart a0) (by omega) (by omega) (by rw [show (k + 1).toNat = k.toNat + 1 by omega, zwn_s ha0]; omega) (by rw [show (k + 1).toNat = k.toNat + 1 by omega, zlt_s ha0]; omega) (by omega) (by omega) hG hle1 _ _ hW ls (lv_sub hl [0, 7, 8, 9, 10] rfl)
                                    · skip
                                      exfalso; omega
                · skip
                  exfalso; omega
              · skip
                refine z_iconst hx hb dL_articles_261 ?_
                refine lv_goto (tgt := 273) hx hb dL_articles_262 (by decide) ?_
                refine lv_istore (lv' := [(9, .int (iI (-1))), (8, .int (iI ar.1)), (7, .ref b), (6, .ref r29), (5, .int (iI k)), (4, .int (iI k)), (3, .int (iI lj)), (2, .int (iI wj)), (1, .int (iI (n : Int))), (0, .ref ob)]) hx hb dL_articles_273 hl (by decide) rfl (fun ls hl => ?_)
                refine lv_iload hx hb dL_articles_275 (lv_at hl 5 rfl) ?_
                refine z_if_ne (tgt := 284) hx hb dL_articles_277 (by decide) (by omega) (fun c_46 => ?_) (fun c_46 => ?_)
                · skip
                  exfalso; omega
                · skip
                  refine z_iconst hx hb dL_articles_280 ?_
                  refine lv_goto (tgt := 297) hx hb dL_articles_281 (by decide) ?_
                  refine lv_istore (lv' := [(10, .int (iI 1)), (9, .int (iI (-1))), (8, .int (iI ar.1)), (7, .ref b), (6, .ref r29), (5, .int (iI k)), (4, .int (iI k)), (3, .int (iI lj)), (2, .int (iI wj)), (1, .int (iI (n : Int))), (0, .ref ob)]) hx hb dL_articles_297 hl (by decide) rfl (fun ls hl => ?_)
                  refine lv_aload_n hx hb dL_articles_299 rfl (lv_at hl 10 rfl) ?_
                  refine lv_aload_n hx hb dL_articles_300 rfl (lv_at hl 10 rfl) ?_
                  refine lv_iload hx hb dL_articles_301 (lv_at hl 5 rfl) ?_
                  refine z_cGi hC (z_frSW (rest := [.ref ob]) (As := [.ref ob, .int (iI k)]) (n := 2) hC hW.g (lw_writeArticle l D cs (zfA G251 _) G251 ob k N tx inp (zart a0) c0 hs hlt hG (by omega)) (zgsW qm_L_215 qt_L_writeArticle qn_L qc_L_writeArticle) he_L_writeArticle rfl hl rfl (Nat.le_of_ble_eq_true rfl) ⟨Nat.le_of_ble_eq_true rfl, Nat.le_of_ble_eq_true rfl⟩ ⟨(by show _ ≤ 12000; omega), (by show _ ≤ 140000; omega)⟩ dL_articles_303) hW (fun r303 G303 H locs hp303 hW => ?_)
                  obtain ⟨hG, rfl⟩ := hp303
                  have hG : lG cs G303 ob N tx inp (zart a0) c0 hs := (by have z9 := hG; rw [hqw] at z9; exact z9)
                  refine z_top (y := ((zart a0).length : Int)) (by rw [hqw]; rfl) ?_
                  refine lv_aload hx hb dL_articles_306 (lv_at hl 3 rfl) ?_
                  refine z_cGXi hC (z_frS (rest := []) (As := [.ref ob, .int (iI ((zart a0).length : Int)), .ref b]) (n := 3) hC hW.gx (lm_spells l D cs (zfA (zun G303 X1) _) G303 X1 ob N tx inp (zart a0) c0 hs b v (ztp a0 j.toNat) ((zart a0).length : Int) hW.dgx hlt hG hst (by rw [hte]) hte.symm) gs_L_287 he_L_spells rfl hl rfl (Nat.le_of_ble_eq_true rfl) ⟨Nat.le_of_ble_eq_true rfl, Nat.le_of_ble_eq_true rfl⟩ ⟨(by show _ ≤ 12000; omega), (by show _ ≤ 140000; omega)⟩ dL_articles_308) hW (fun r308 G308 X308 H locs hp308 hW => ?_)
                  obtain ⟨rfl, hG, rfl⟩ := hp308
                  refine z_if_eq (tgt := 394) hx hb dL_articles_311 (by decide) (by decide) (fun c_47 => ?_) (fun c_47 => ?_)
                  · skip
                    exfalso; omega
                  · skip
                    refine lv_iload hx hb dL_articles_314 (lv_at hl 2 rfl) ?_
                    refine z_if_lt (tgt := 394) hx hb dL_articles_316 (by decide) (by omega) (fun c_48 => ?_) (fun c_48 => ?_)
                    · skip
                      exfalso; omega
                    · skip
                      refine lv_iload hx hb dL_articles_319 (lv_at hl 0 rfl) ?_
                      refine z_if_lt (tgt := 394) hx hb dL_articles_321 (by decide) (by decide) (fun c_49 => ?_) (fun c_49 => ?_)
                      · skip
                        exfalso; omega
                      · skip
                        refine lv_iload hx hb dL_articles_324 (lv_at hl 0 rfl) ?_
                        refine z_if_ne (tgt := 336) hx hb dL_articles_326 (by decide) (by decide) (fun c_50 => ?_) (fun c_50 => ?_)
                        · skip
                          refine lv_iload hx hb dL_articles_336 (lv_at hl 6 rfl) ?_
                          refine z_if_le (tgt := 354) hx hb dL_articles_338 (by decide) (by omega) (fun c_51 => ?_) (fun c_51 => ?_)
                          · skip
                            refine lv_aload_n hx hb dL_articles_354 rfl (lv_at hl 10 rfl) ?_
                            refine lv_iload hx hb dL_articles_355 (lv_at hl 5 rfl) ?_
                            refine lv_aload hx hb dL_articles_357 (lv_at hl 4 rfl) ?_
                            obtain ⟨fa_52, hfa_52, h2fa_52⟩ := id hA1
                            refine z_alen (t := 7) hC hW.x hfa_52 rfl dL_articles_359 ?_
                            refine z_cGi hC (z_frSW (rest := []) (As := [.ref ob, .int (iI k), .int (iI (a0.2.2.length : Int))]) (n := 3) hC hW.g (lw_wordLength l D cs (zfA G308 _) G308 ob k (a0.2.2.length : Int) N tx inp (zart a0) c0 hs hlt hG (by omega) (by omega)) (zgsW qm_L_278 qt_L_wordLength qn_L qc_L_wordLength) he_L_wordLength rfl hl rfl (Nat.le_of_ble_eq_true rfl) ⟨Nat.le_of_ble_eq_true rfl, Nat.le_of_ble_eq_true rfl⟩ ⟨(by show _ ≤ 12000; omega), (by show _ ≤ 140000; omega)⟩ dL_articles_360) hW (fun r360 G360 H locs hp360 hW => ?_)
                            obtain ⟨hG, rfl⟩ := hp360
                            refine z_top (y := -11) (by rw [art_wn hfa (by omega)]; rfl) ?_
                            refine z_bipush hx hb dL_articles_363 (by decide) ?_
                            refine z_icmp_ne (tgt := 394) hx hb dL_articles_365 (by decide) (by decide) (by decide) (fun c_53 => ?_) (fun c_53 => ?_)
                            · skip
                              exfalso; omega
                            · skip
                              refine lv_aload_n hx hb dL_articles_368 rfl (lv_at hl 10 rfl) ?_
                              refine lv_iload hx hb dL_articles_369 (lv_at hl 5 rfl) ?_
                              refine z_iconst hx hb dL_articles_371 ?_
                              refine z_cGi hC (z_frSW (rest := []) (As := [.ref ob, .int (iI k), .int (iI (-1))]) (n := 3) hC hW.g (lw_divisions l D cs (zfA G360 _) G360 ob k (-1) N tx inp (zart a0) c0 hs hlt hG (by omega) (by decide)) (zgsW qm_L_280 qt_L_divisions qn_L qc_L_divisions) he_L_divisions rfl hl rfl (Nat.le_of_ble_eq_true rfl) ⟨Nat.le_of_ble_eq_true rfl, Nat.le_of_ble_eq_true rfl⟩ ⟨(by show _ ≤ 12000; omega), (by show _ ≤ 140000; omega)⟩ dL_articles_372) hW (fun r372 G372 H locs hp372 hW => ?_)
                              obtain ⟨hG, rfl⟩ := hp372
                              refine z_top (y := -11) (by rw [art_wn hfa (by omega)]; rfl) ?_
                              refine z_bipush hx hb dL_articles_375 (by decide) ?_
                              refine z_icmp_ne (tgt := 394) hx hb dL_articles_377 (by decide) (by decide) (by decide) (fun c_54 => ?_) (fun c_54 => ?_)
                              · skip
                                exfalso; omega
                              · skip
                                refine lv_aload_n hx hb dL_articles_380 rfl (lv_at hl 10 rfl) ?_
                                refine lv_iload hx hb dL_articles_381 (lv_at hl 5 rfl) ?_
                                refine z_bipush hx hb dL_articles_383 (by decide) ?_
                                refine z_iconst hx hb dL_articles_385 ?_
                                refine z_cGi hC (z_frSW (rest := []) (As := [.ref ob, .int (iI k), .int (iI 99), .int (iI 2)]) (n := 4) hC hW.g (lw_canDivide l D cs (zfA G372 _) G372 ob k 99 2 N tx inp (zart a0) c0 hs hlt hG (by omega) (by decide) (by decide)) (zgsW qm_L_275 qt_L_canDivide qn_L qc_L_canDivide) he_L_canDivide rfl hl rfl (Nat.le_of_ble_eq_true rfl) ⟨Nat.le_of_ble_eq_true rfl, Nat.le_of_ble_eq_true rfl⟩ ⟨(by show _ ≤ 12000; omega), (by show _ ≤ 140000; omega)⟩ dL_articles_386) hW (fun r386 G386 H locs hp386 hW => ?_)
                                obtain ⟨hG, rfl⟩ := hp386
                                refine z_top (y := -11) (by rw [art_wn hfa (by omega)]; rfl) ?_
                                refine z_bipush hx hb dL_articles_389 (by decide) ?_
                                refine z_icmp_eq (tgt := 396) hx hb dL_articles_391 (by decide) (by decide) (by decide) (fun c_55 => ?_) (fun c_55 => ?_)
                                · skip
                                  refine z_iinc (lv' := [(4, .int (iI (k + 1))), (10, .int (iI 1)), (9, .int (iI (-1))), (8, .int (iI ar.1)), (7, .ref b), (6, .ref r29), (5, .int (iI k)), (3, .int (iI lj)), (2, .int (iI wj)), (1, .int (iI (n : Int))), (0, .ref ob)]) hx hb dL_articles_396 hl (k := 6) rfl (by decide) rfl (fun ls hl => ?_)
                                  refine lv_goto (tgt := 12) hx hb dL_articles_399 (by decide) ?_
                                  refine W.widen (k := (2300 * (k + 1).toNat)) (n := (27000 * (k + 1).toNat)) (by omega) (by omega) ?_
                                  exact ih12 (k + 1) wj lj G386 X1 (zart a0) (by omega) (by omega) (by rw [show (k + 1).toNat = k.toNat + 1 by omega, zwn_s ha0]; omega) (by rw [show (k + 1).toNat = k.toNat + 1 by omega, zlt_s ha0]; omega) (by omega) (by omega) hG hle1 _ _ hW ls (lv_sub hl [0, 7, 8, 9, 10] rfl)
                                · skip
                                  exfalso; omega
                          · skip
                            refine lv_aload_n hx hb dL_articles_341 rfl (lv_at hl 10 rfl) ?_
                            refine lv_iload hx hb dL_articles_342 (lv_at hl 6 rfl) ?_
                            refine z_iconst hx hb dL_articles_344 ?_
                            refine z_isub hx hb dL_articles_345 ?_
                            refine z_cGi hC (z_frSW (rest := []) (As := [.ref ob, .int (iI (k - 1))]) (n := 2) hC hW.g (lw_articleAt l D cs (zfA G308 _) G308 ob (k - 1) N tx inp (zart a0) c0 hs hlt hG (by omega)) (zgsW qm_L_261 qt_L_articleAt qn_L qc_L_articleAt) he_L_articleAt rfl hl rfl (Nat.le_of_ble_eq_true rfl) ⟨Nat.le_of_ble_eq_true rfl, Nat.le_of_ble_eq_true rfl⟩ ⟨(by show _ ≤ 12000; omega), (by show _ ≤ 140000; omega)⟩ dL_articles_346) hW (fun r346 G346 H locs hp346 hW => ?_)
                            obtain ⟨hG, rfl⟩ := hp346
                            refine z_top (y := (k - 1)) (by rw [(art_at_q hK hdj (by omega) (by omega) : sArt c0 (k - 1) = _)]; rfl) ?_
                            refine lv_iload hx hb dL_articles_349 (lv_at hl 5 rfl) ?_
                            refine z_icmp_ge (tgt := 394) hx hb dL_articles_351 (by decide) (by omega) (by omega) (fun c_56 => ?_) (fun c_56 => ?_)
                            · skip
                              exfalso; omega
                            · skip
                              refine lv_aload_n hx hb dL_articles_354 rfl (lv_at hl 10 rfl) ?_
                              refine lv_iload hx hb dL_articles_355 (lv_at hl 5 rfl) ?_
                              refine lv_aload hx hb dL_articles_357 (lv_at hl 4 rfl) ?_
                              obtain ⟨fa_57, hfa_57, h2fa_57⟩ := id hA1
                              refine z_alen (t := 7) hC hW.x hfa_57 rfl dL_articles_359 ?_
                              refine z_cGi hC (z_frSW (rest := []) (As := [.ref ob, .int (iI k), .int (iI (a0.2.2.length : Int))]) (n := 3) hC hW.g (lw_wordLength l D cs (zfA G346 _) G346 ob k (a0.2.2.length : Int) N tx inp (zart a0) c0 hs hlt hG (by omega) (by omega)) (zgsW qm_L_278 qt_L_wordLength qn_L qc_L_wordLength) he_L_wordLength rfl hl rfl (Nat.le_of_ble_eq_true rfl) ⟨Nat.le_of_ble_eq_true rfl, Nat.le_of_ble_eq_true rfl⟩ ⟨(by show _ ≤ 12000; omega), (by show _ ≤ 140000; omega)⟩ dL_articles_360) hW (fun r360 G360 H locs hp360 hW => ?_)
                              obtain ⟨hG, rfl⟩ := hp360
                              refine z_top (y := -11) (by rw [art_wn hfa (by omega)]; rfl) ?_
                              refine z_bipush hx hb dL_articles_363 (by decide) ?_
                              refine z_icmp_ne (tgt := 394) hx hb dL_articles_365 (by decide) (by decide) (by decide) (fun c_58 => ?_) (fun c_58 => ?_)
                              · skip
                                exfalso; omega
                              · skip
                                refine lv_aload_n hx hb dL_articles_368 rfl (lv_at hl 10 rfl) ?_
                                refine lv_iload hx hb dL_articles_369 (lv_at hl 5 rfl) ?_
                                refine z_iconst hx hb dL_articles_371 ?_
                                refine z_cGi hC (z_frSW (rest := []) (As := [.ref ob, .int (iI k), .int (iI (-1))]) (n := 3) hC hW.g (lw_divisions l D cs (zfA G360 _) G360 ob k (-1) N tx inp (zart a0) c0 hs hlt hG (by omega) (by decide)) (zgsW qm_L_280 qt_L_divisions qn_L qc_L_divisions) he_L_divisions rfl hl rfl (Nat.le_of_ble_eq_true rfl) ⟨Nat.le_of_ble_eq_true rfl, Nat.le_of_ble_eq_true rfl⟩ ⟨(by show _ ≤ 12000; omega), (by show _ ≤ 140000; omega)⟩ dL_articles_372) hW (fun r372 G372 H locs hp372 hW => ?_)
                                obtain ⟨hG, rfl⟩ := hp372
                                refine z_top (y := -11) (by rw [art_wn hfa (by omega)]; rfl) ?_
                                refine z_bipush hx hb dL_articles_375 (by decide) ?_
                                refine z_icmp_ne (tgt := 394) hx hb dL_articles_377 (by decide) (by decide) (by decide) (fun c_59 => ?_) (fun c_59 => ?_)
                                · skip
                                  exfalso; omega
                                · skip
                                  refine lv_aload_n hx hb dL_articles_380 rfl (lv_at hl 10 rfl) ?_
                                  refine lv_iload hx hb dL_articles_381 (lv_at hl 5 rfl) ?_
                                  refine z_bipush hx hb dL_articles_383 (by decide) ?_
                                  refine z_iconst hx hb dL_articles_385 ?_
                                  refine z_cGi hC (z_frSW (rest := []) (As := [.ref ob, .int (iI k), .int (iI 99), .int (iI 2)]) (n := 4) hC hW.g (lw_canDivide l D cs (zfA G372 _) G372 ob k 99 2 N tx inp (zart a0) c0 hs hlt hG (by omega) (by decide) (by decide)) (zgsW qm_L_275 qt_L_canDivide qn_L qc_L_canDivide) he_L_canDivide rfl hl rfl (Nat.le_of_ble_eq_true rfl) ⟨Nat.le_of_ble_eq_true rfl, Nat.le_of_ble_eq_true rfl⟩ ⟨(by show _ ≤ 12000; omega), (by show _ ≤ 140000; omega)⟩ dL_articles_386) hW (fun r386 G386 H locs hp386 hW => ?_)
                                  obtain ⟨hG, rfl⟩ := hp386
                                  refine z_top (y := -11) (by rw [art_wn hfa (by omega)]; rfl) ?_
                                  refine z_bipush hx hb dL_articles_389 (by decide) ?_
                                  refine z_icmp_eq (tgt := 396) hx hb dL_articles_391 (by decide) (by decide) (by decide) (fun c_60 => ?_) (fun c_60 => ?_)
                                  · skip
                                    refine z_iinc (lv' := [(4, .int (iI (k + 1))), (10, .int (iI 1)), (9, .int (iI (-1))), (8, .int (iI ar.1)), (7, .ref b), (6, .ref r29), (5, .int (iI k)), (3, .int (iI lj)), (2, .int (iI wj)), (1, .int (iI (n : Int))), (0, .ref ob)]) hx hb dL_articles_396 hl (k := 6) rfl (by decide) rfl (fun ls hl => ?_)
                                    refine lv_goto (tgt := 12) hx hb dL_articles_399 (by decide) ?_
                                    refine W.widen (k := (2300 * (k + 1).toNat)) (n := (27000 * (k + 1).toNat)) (by omega) (by omega) ?_
                                    exact ih12 (k + 1) wj lj G386 X1 (zart a0) (by omega) (by omega) (by rw [show (k + 1).toNat = k.toNat + 1 by omega, zwn_s ha0]; omega) (by rw [show (k + 1).toNat = k.toNat + 1 by omega, zlt_s ha0]; omega) (by omega) (by omega) hG hle1 _ _ hW ls (lv_sub hl [0, 7, 8, 9, 10] rfl)
                                  · skip
                                    exfalso; omega
                        · skip
                          exfalso; omega
            · skip
              have hwk := gD_wd (k := j) hao.2.2.2 (by omega) (by omega)
              have hwl2 := hwk.2.1
              have hsn := zle_sn (a := a0) (j := j) (by omega) (by omega)
              refine z_iconst hx hb dL_articles_83 ?_
              refine lv_istore (lv' := [(9, .int (iI 0)), (8, .int (iI j)), (7, .ref b), (6, .ref r29), (5, .int (iI k)), (4, .int (iI k)), (3, .int (iI lj)), (2, .int (iI wj)), (1, .int (iI (n : Int))), (0, .ref ob)]) hx hb dL_articles_84 hl (by decide) rfl (fun ls hl => ?_)
              refine z_iconst hx hb dL_articles_86 ?_
              refine lv_istore (lv' := [(10, .int (iI (-1))), (9, .int (iI 0)), (8, .int (iI j)), (7, .ref b), (6, .ref r29), (5, .int (iI k)), (4, .int (iI k)), (3, .int (iI lj)), (2, .int (iI wj)), (1, .int (iI (n : Int))), (0, .ref ob)]) hx hb dL_articles_87 hl (by decide) rfl (fun ls hl => ?_)
              have L89_k_61 : ∀ (fu : Nat) (at_ mm : Int) (G1 : zF) (hfu : (14 - at_).toNat < fu) (hi89_0 : -1 ≤ at_ ∧ at_ ≤ 14) (hi89_1 : mm = zcuts (a0.2.2.getD j.toNat []) at_.toNat) (hi89_2 : 0 ≤ mm ∧ mm ≤ at_ + 1) (hG : lG cs G1 ob N tx inp (zart a0) c0 hs) (H : Heap) (locs : List Loc) (hW : zW3 D A s G1 zE X1 H locs) (ls : Array Slot) (hl : lv_has ls 12 [(10, .int (iI at_)), (9, .int (iI mm)), (8, .int (iI j)), (7, .ref b), (6, .ref r29), (5, .int (iI k)), (4, .int (iI k)), (3, .int (iI lj)), (2, .int (iI wj)), (1, .int (iI (n : Int))), (0, .ref ob)]), W p l e (zR 27 12000 140000) s m [.ref ob].toArray below meth c H locs (2300 * k.toNat + 1420 + 50 * j.toNat + 2 * (at_ + 1).toNat) (27000 * k.toNat + 12700 + 1000 * j.toNat + 12 * (at_ + 1).toNat) (MQ below (zQ D A (pGI (fun r G1 X1 => zle X X1 ∧ (∃ out1, lG cs G1 ob N tx inp out1 c0 hs) ∧ r = 1))) [.ref ob].toArray s 12000 140000 A) (F0 m 89 ls []) := by
                intro fu
                induction fu with
                | zero =>
                  intro at_ mm G1 hfu
                  exact absurd hfu (Nat.not_lt_zero _)
                | succ fu ih89 =>
                  intro at_ mm G1 hfu hi89_0 hi89_1 hi89_2 hG H locs hW ls hl
                  refine lv_iload hx hb dL_articles_89 (lv_at hl 0 rfl) ?_
                  refine z_bipush hx hb dL_articles_91 (by decide) ?_
                  refine z_icmp_ge (tgt := 154) hx hb dL_articles_93 (by decide) (by omega) (by decide) (fun c_62 => ?_) (fun c_62 => ?_)
                  · skip
                    refine lv_aload_n hx hb dL_articles_154 rfl (lv_at hl 10 rfl) ?_
                    refine lv_iload hx hb dL_articles_155 (lv_at hl 5 rfl) ?_
                    refine lv_iload hx hb dL_articles_157 (lv_at hl 2 rfl) ?_
                    refine z_cGi hC (z_frSW (rest := []) (As := [.ref ob, .int (iI k), .int (iI j)]) (n := 3) hC hW.g (lw_wordLength l D cs (zfA G1 _) G1 ob k j N tx inp (zart a0) c0 hs hlt hG (by omega) (by omega)) (zgsW qm_L_278 qt_L_wordLength qn_L qc_L_wordLength) he_L_wordLength rfl hl rfl (Nat.le_of_ble_eq_true rfl) ⟨Nat.le_of_ble_eq_true rfl, Nat.le_of_ble_eq_true rfl⟩ ⟨(by show _ ≤ 12000; omega), (by show _ ≤ 140000; omega)⟩ dL_articles_159) hW (fun r159 G159 H locs hp159 hW => ?_)
                    obtain ⟨hG, rfl⟩ := hp159
                    refine z_top (y := ((a0.2.2.getD j.toNat []).length : Int)) (by rw [art_wd hfa (by omega) (by omega)]; rfl) ?_
                    refine lv_aload hx hb dL_articles_162 (lv_at hl 4 rfl) ?_
                    refine lv_iload hx hb dL_articles_164 (lv_at hl 2 rfl) ?_
                    obtain ⟨fa_63, hfa_63, h2fa_63⟩ := id hA1
                    obtain ⟨q166, vq166, h3fa_63, hsq166⟩ := h2fa_63 j (by omega) (by omega)
                    refine z_aald (t := 7) (C := "java/lang/String") (v := some q166) hC hW.x hfa_63 rfl (by omega) (by omega) h3fa_63 dL_articles_166 ?_
                    refine z_cXi hC (z_frSt (rest := [.int (iI ((a0.2.2.getD j.toNat []).length : Int))]) (As := []) (n := 0) hC hW.x (mes_length l D cs (zfA X1 _) X1 q166 vq166 (a0.2.2.getD j.toNat []) hsq166) gv_L_138 hd_J0_length_8abf5 hsq166 rfl hl rfl (Nat.le_of_ble_eq_true rfl) ⟨Nat.le_of_ble_eq_true rfl, Nat.le_of_ble_eq_true rfl⟩ ⟨(by show _ ≤ 12000; omega), (by show _ ≤ 140000; omega)⟩ dL_articles_167) hW (fun r167 X167 H locs hp167 hW => ?_)
                    obtain ⟨rfl, rfl⟩ := hp167
                    refine z_icmp_ne (tgt := 186) hx hb dL_articles_170 (by decide) (by omega) (by omega) (fun c_64 => ?_) (fun c_64 => ?_)
                    · skip
                      exfalso; omega
                    · skip
                      refine lv_aload_n hx hb dL_articles_173 rfl (lv_at hl 10 rfl) ?_
                      refine lv_iload hx hb dL_articles_174 (lv_at hl 5 rfl) ?_
                      refine lv_iload hx hb dL_articles_176 (lv_at hl 2 rfl) ?_
                      refine z_cGi hC (z_frSW (rest := []) (As := [.ref ob, .int (iI k), .int (iI j)]) (n := 3) hC hW.g (lw_divisions l D cs (zfA G159 _) G159 ob k j N tx inp (zart a0) c0 hs hlt hG (by omega) (by omega)) (zgsW qm_L_280 qt_L_divisions qn_L qc_L_divisions) he_L_divisions rfl hl rfl (Nat.le_of_ble_eq_true rfl) ⟨Nat.le_of_ble_eq_true rfl, Nat.le_of_ble_eq_true rfl⟩ ⟨(by show _ ≤ 12000; omega), (by show _ ≤ 140000; omega)⟩ dL_articles_178) hW (fun r178 G178 H locs hp178 hW => ?_)
                      obtain ⟨hG, rfl⟩ := hp178
                      refine z_top (y := mm) (by rw [art_wd hfa (by omega) (by omega)]; refine (wq_0 rfl).trans ?_; rw [hi89_1, show at_ = 14 by omega]; exact (zcuts_14 hwl2.2).symm) ?_
                      refine lv_iload hx hb dL_articles_181 (lv_at hl 1 rfl) ?_
                      refine z_icmp_eq (tgt := 188) hx hb dL_articles_183 (by decide) (by omega) (by omega) (fun c_65 => ?_) (fun c_65 => ?_)
                      · skip
                        refine z_new (T := TJ4) (N := 4) (ci := 1) hC hW.all tyJ4 tyJ4_ok in_J4 rfl qk_L_162 qx_J4 qn_J4 [.null, .int (iI 0), .int (iI 0), .int (iI 0)] df_J4 (by show _ ≤ 12000; omega) (by show _ ≤ 140000; omega) dL_articles_188 (fun b188 H hb188 hZ => ?_)
                        have hW := hW.nB hb188.1 hZ
                        refine lv_dup hx hb dL_articles_191 rfl ?_
                        refine z_cBv hC (z_frI (rest := [.ref b188]) (As := []) (n := 0) hC hW.b (met_J4_init_da8c8 l D cs (zfA (zup zE b188 (.inr (1, [.null, .int (iI 0), .int (iI 0), .int (iI 0)]))) _) (zup zE b188 (.inr (1, [.null, .int (iI 0), .int (iI 0), .int (iI 0)]))) b188 zup_s) qc_J4_init_da8c8 qn_J4 qm_L_164 qi_J4_init_da8c8 rfl he_J4_init_da8c8 rfl hl rfl (Nat.le_of_ble_eq_true rfl) ⟨Nat.le_of_ble_eq_true rfl, Nat.le_of_ble_eq_true rfl⟩ ⟨(by show _ ≤ 12000; omega), (by show _ ≤ 140000; omega)⟩ dL_articles_192) hW (fun B192 H locs hp192 hW => ?_)
                        obtain ⟨va192, -, -, hb192⟩ := hp192
                        have hnil : ([] : List Int).length = 0 := rfl
                        refine W.widen (k := (2300 * k.toNat + 1420 + 50 * j.toNat + 2 * (at_ + 1).toNat) + 2 + 2 + 2) (n := (27000 * k.toNat + 12700 + 1000 * j.toNat + 12 * (at_ + 1).toNat) + 12 + 12 + 20) (by omega) (by omega) ?_
                        refine lv_aload hx hb dL_articles_195 (lv_at hl 3 rfl) ?_
                        have hcc197 := oSB.c hb192
                        have hgx197 := grx_le 16 (([] : List Int).length + (ztp a0 j.toNat).length)
                        have hmc197 := mcS_le (cap := 16) (n := (([] : List Int).length + (ztp a0 j.toNat).length))
                        obtain ⟨fs197, ho197⟩ := (oSB.mono hb192 zun_le1).o
                        refine z_cAp hC (z_frV (rest := []) (As := [.ref b]) (n := 1) (ci := 1) hC hW.bx (mes_append l D cs (zfA (zun B192 X1) _) (zun B192 X1) b188 va192 16 ([] : List Int) b v (ztp a0 j.toNat) (oSB.mono hb192 zun_le1) (oSt.mono hst (zun_le2 hW.dbx)) (by omega)) gv_L_165 hd_J4_append_15ec4 rfl ho197 rfl hl rfl (Nat.le_of_ble_eq_true rfl) ⟨Nat.le_of_ble_eq_true rfl, Nat.le_of_ble_eq_true rfl⟩ ⟨(by show _ ≤ 12000; omega), (by show _ ≤ 140000; omega)⟩ dL_articles_197) hW hb192 (fun B197 va197 H locs hb197 hW => ?_)
                        obtain ⟨ca197, hca197⟩ : ∃ c_ : Nat, c_ = grx 16 (([] : List Int).length + (ztp a0 j.toNat).length) := ⟨_, rfl⟩
                        rw [← hca197] at hb197 hgx197
                        refine W.widen (k := (2300 * k.toNat + 1420 + 50 * j.toNat + 2 * (at_ + 1).toNat) + 2 + 2 + 3) (n := (27000 * k.toNat + 12700 + 1000 * j.toNat + 12 * (at_ + 1).toNat) + 12 + 12 + (20 + 2 * (ca197 - 16))) (by omega) (by omega) ?_
                        have hlen197 : (([] : List Int) ++ (ztp a0 j.toNat)).length = (([] : List Int).length + (ztp a0 j.toNat).length) := List.length_append
                        refine lv_iload hx hb dL_articles_200 (lv_at hl 2 rfl) ?_
                        refine z_if_ne (tgt := 210) hx hb dL_articles_202 (by decide) (by omega) (fun c_66 => ?_) (fun c_66 => ?_)
                        · skip
                          refine z_ldcS1 hC (List.mem_of_getElem? (i := 2) rfl) dL_articles_210 ?_
                          have hcc212 := oSB.c hb197
                          have hgx212 := grx_le ca197 ((([] : List Int) ++ (ztp a0 j.toNat)).length + (zLw 2).length)
                          have hmc212 := mcS_le (cap := ca197) (n := ((([] : List Int) ++ (ztp a0 j.toNat)).length + (zLw 2).length))
                          obtain ⟨fs212, ho212⟩ := (oSB.mono hb197 zun_le1).o
                          refine z_cAp hC (z_frV (rest := []) (As := [.ref (cs (50 + 2))]) (n := 1) (ci := 1) hC hW.bx (mes_append l D cs (zfA (zun B197 X1) _) (zun B197 X1) b188 va197 ca197 (([] : List Int) ++ (ztp a0 j.toNat)) (cs (50 + 2)) (cs (70 + 2)) (zLw 2) (oSB.mono hb197 zun_le1) (oSt.mono (zLw_st (j := 2) (by decide)) (zun_le2 hW.dbx)) (by omega)) gv_L_165 hd_J4_append_15ec4 rfl ho212 rfl hl rfl (Nat.le_of_ble_eq_true rfl) ⟨Nat.le_of_ble_eq_true rfl, Nat.le_of_ble_eq_true rfl⟩ ⟨(by show _ ≤ 12000; omega), (by show _ ≤ 140000; omega)⟩ dL_articles_212) hW hb197 (fun B212 va212 H locs hb212 hW => ?_)
                          obtain ⟨ca212, hca212⟩ : ∃ c_ : Nat, c_ = grx ca197 ((([] : List Int) ++ (ztp a0 j.toNat)).length + (zLw 2).length) := ⟨_, rfl⟩
                          rw [← hca212] at hb212 hgx212
                          refine W.widen (k := (2300 * k.toNat + 1420 + 50 * j.toNat + 2 * (at_ + 1).toNat) + 2 + 2 + 4) (n := (27000 * k.toNat + 12700 + 1000 * j.toNat + 12 * (at_ + 1).toNat) + 12 + 12 + (20 + 2 * (ca212 - 16))) (by omega) (by omega) ?_
                          have hlen212 : ((([] : List Int) ++ (ztp a0 j.toNat)) ++ (zLw 2)).length = ((([] : List Int) ++ (ztp a0 j.toNat)).length + (zLw 2).length) := List.length_append
                          refine lv_aload hx hb dL_articles_215 (lv_at hl 4 rfl) ?_
                          refine lv_iload hx hb dL_articles_217 (lv_at hl 2 rfl) ?_
                          obtain ⟨fa_67, hfa_67, h2fa_67⟩ := id hA1
                          obtain ⟨q219, vq219, h3fa_67, hsq219⟩ := h2fa_67 j (by omega) (by omega)
                          refine z_aald (t := 7) (C := "java/lang/String") (v := some q219) hC hW.x hfa_67 rfl (by omega) (by omega) h3fa_67 dL_articles_219 ?_
                          have hcc220 := oSB.c hb212
                          have hgx220 := grx_le ca212 (((([] : List Int) ++ (ztp a0 j.toNat)) ++ (zLw 2)).length + (a0.2.2.getD j.toNat []).length)
                          have hmc220 := mcS_le (cap := ca212) (n := (((([] : List Int) ++ (ztp a0 j.toNat)) ++ (zLw 2)).length + (a0.2.2.getD j.toNat []).length))
                          obtain ⟨fs220, ho220⟩ := (oSB.mono hb212 zun_le1).o
                          refine z_cAp hC (z_frV (rest := []) (As := [.ref q219]) (n := 1) (ci := 1) hC hW.bx (mes_append l D cs (zfA (zun B212 X1) _) (zun B212 X1) b188 va212 ca212 ((([] : List Int) ++ (ztp a0 j.toNat)) ++ (zLw 2)) q219 vq219 (a0.2.2.getD j.toNat []) (oSB.mono hb212 zun_le1) (oSt.mono hsq219 (zun_le2 hW.dbx)) (by omega)) gv_L_165 hd_J4_append_15ec4 rfl ho220 rfl hl rfl (Nat.le_of_ble_eq_true rfl) ⟨Nat.le_of_ble_eq_true rfl, Nat.le_of_ble_eq_true rfl⟩ ⟨(by show _ ≤ 12000; omega), (by show _ ≤ 140000; omega)⟩ dL_articles_220) hW hb212 (fun B220 va220 H locs hb220 hW => ?_)
                          obtain ⟨ca220, hca220⟩ : ∃ c_ : Nat, c_ = grx ca212 (((([] : List Int) ++ (ztp a0 j.toNat)) ++ (zLw 2)).length + (a0.2.2.getD j.toNat []).length) := ⟨_, rfl⟩
                          rw [← hca220] at hb220 hgx220
                          refine W.widen (k := (2300 * k.toNat + 1420 + 50 * j.toNat + 2 * (at_ + 1).toNat) + 2 + 2 + 5) (n := (27000 * k.toNat + 12700 + 1000 * j.toNat + 12 * (at_ + 1).toNat) + 12 + 12 + (20 + 2 * (ca220 - 16))) (by omega) (by omega) ?_
                          have hlen220 : (((([] : List Int) ++ (ztp a0 j.toNat)) ++ (zLw 2)) ++ (a0.2.2.getD j.toNat [])).length = (((([] : List Int) ++ (ztp a0 j.toNat)) ++ (zLw 2)).length + (a0.2.2.getD j.toNat []).length) := List.length_append
                          obtain ⟨fs223, ho223⟩ := (oSB.mono hb220 zun_le1).o
                          refine z_cTs hC (z_frV (rest := []) (As := []) (n := 0) (ci := 1) hC hW.bx (mes_toString l D cs (zfA (zun B220 X1) _) (zun B220 X1) b188 va220 ca220 (((([] : List Int) ++ (ztp a0 j.toNat)) ++ (zLw 2)) ++ (a0.2.2.getD j.toNat [])) (oSB.mono hb220 zun_le1) (by omega)) gv_L_174 hd_J4_toString_0e30d rfl ho223 rfl hl rfl (Nat.le_of_ble_eq_true rfl) ⟨Nat.le_of_ble_eq_true rfl, Nat.le_of_ble_eq_true rfl⟩ ⟨(by show _ ≤ 12000; omega), (by show _ ≤ 140000; omega)⟩ dL_articles_223) hW hb220 (fun r223 v223 X223 H locs hl223 hq223 hh223 hW => ?_)
                          have hs_68 : oSt cs X223 b v (ztp a0 j.toNat) := hst.mono hl223
                          have hs_69 : oSt cs X223 q166 vq166 (a0.2.2.getD j.toNat []) := hsq166.mono hl223
                          have hs_70 : oSt cs X223 q219 vq219 (a0.2.2.getD j.toNat []) := hsq219.mono hl223
                          have hs_71 := hA1.mono hl223
                          have hle_72 : zle X X223 := hle1.trans hl223
                          have hq223 : oSt cs X223 r223 v223 (ztp a0 (j + 1).toNat) := (by rw [ztp_s1 (by omega) (by omega)]; exact hq223)
                          have htl1 : (ztp a0 (j + 1).toNat).length = (ztp a0 j.toNat).length + (a0.2.2.getD j.toNat []).length + 1 := by rw [ztp_s1 (by omega) (by omega)]; simp only [List.length_append, List.length_cons, List.length_nil]; omega
                          refine lv_astore (lv' := [(7, .ref r223), (10, .int (iI at_)), (9, .int (iI mm)), (8, .int (iI j)), (6, .ref r29), (5, .int (iI k)), (4, .int (iI k)), (3, .int (iI lj)), (2, .int (iI wj)), (1, .int (iI (n : Int))), (0, .ref ob)]) hx hb dL_articles_226 hl (by decide) rfl (fun ls hl => ?_)
                          refine lv_iload_n hx hb dL_articles_228 rfl (lv_at hl 7 rfl) ?_
                          refine lv_aload hx hb dL_articles_229 (lv_at hl 4 rfl) ?_
                          refine lv_iload hx hb dL_articles_231 (lv_at hl 3 rfl) ?_
                          obtain ⟨fa_73, hfa_73, h2fa_73⟩ := id hs_71
                          obtain ⟨q233, vq233, h3fa_73, hsq233⟩ := h2fa_73 j (by omega) (by omega)
                          refine z_aald (t := 7) (C := "java/lang/String") (v := some q233) hC hW.x hfa_73 rfl (by omega) (by omega) h3fa_73 dL_articles_233 ?_
                          refine z_cXi hC (z_frSt (rest := [.int (iI lj)]) (As := []) (n := 0) hC hW.x (mes_length l D cs (zfA X223 _) X223 q233 vq233 (a0.2.2.getD j.toNat []) hsq233) gv_L_138 hd_J0_length_8abf5 hsq233 rfl hl rfl (Nat.le_of_ble_eq_true rfl) ⟨Nat.le_of_ble_eq_true rfl, Nat.le_of_ble_eq_true rfl⟩ ⟨(by show _ ≤ 12000; omega), (by show _ ≤ 140000; omega)⟩ dL_articles_234) hW (fun r234 X234 H locs hp234 hW => ?_)
                          obtain ⟨rfl, rfl⟩ := hp234
                          refine z_iadd hx hb dL_articles_237 ?_
                          refine lv_istore_n (lv' := [(3, .int (iI (lj + ((a0.2.2.getD j.toNat []).length : Int)))), (7, .ref r223), (10, .int (iI at_)), (9, .int (iI mm)), (8, .int (iI j)), (6, .ref r29), (5, .int (iI k)), (4, .int (iI k)), (2, .int (iI wj)), (1, .int (iI (n : Int))), (0, .ref ob)]) hx hb dL_articles_238 rfl hl (by decide) rfl (fun ls hl => ?_)
                          refine z_iinc (lv' := [(2, .int (iI (wj + 1))), (3, .int (iI (lj + ((a0.2.2.getD j.toNat []).length : Int)))), (7, .ref r223), (10, .int (iI at_)), (9, .int (iI mm)), (8, .int (iI j)), (6, .ref r29), (5, .int (iI k)), (4, .int (iI k)), (1, .int (iI (n : Int))), (0, .ref ob)]) hx hb dL_articles_239 hl (k := 8) rfl (by decide) rfl (fun ls hl => ?_)
                          refine z_iinc (lv' := [(8, .int (iI (j + 1))), (2, .int (iI (wj + 1))), (3, .int (iI (lj + ((a0.2.2.getD j.toNat []).length : Int)))), (7, .ref r223), (10, .int (iI at_)), (9, .int (iI mm)), (6, .ref r29), (5, .int (iI k)), (4, .int (iI k)), (1, .int (iI (n : Int))), (0, .ref ob)]) hx hb dL_articles_242 hl (k := 5) rfl (by decide) rfl (fun ls hl => ?_)
                          refine lv_goto (tgt := 75) hx hb dL_articles_245 (by decide) ?_
                          refine W.widen (k := (2300 * k.toNat + 1420 + 50 * (j + 1).toNat)) (n := (27000 * k.toNat + 12700 + 1000 * (j + 1).toNat)) (by omega) (by omega) ?_
                          exact ih75 (j + 1) (wj + 1) (lj + ((a0.2.2.getD j.toNat []).length : Int)) G178 X223 r223 v223 (by omega) (by omega) (by omega) (by rw [hsn]; omega) (by omega) (by omega) hG hle_72 hs_71 hq223 _ _ hW ls (lv_sub hl [0, 3, 6, 7, 8, 2, 1, 9, 10] rfl)
                        · skip
                          refine z_ldcS1 hC (List.mem_of_getElem? (i := 0) rfl) dL_articles_205 ?_
                          refine lv_goto (tgt := 212) hx hb dL_articles_207 (by decide) ?_
                          have hcc212 := oSB.c hb197
                          have hgx212 := grx_le ca197 ((([] : List Int) ++ (ztp a0 j.toNat)).length + (zLw 0).length)
                          have hmc212 := mcS_le (cap := ca197) (n := ((([] : List Int) ++ (ztp a0 j.toNat)).length + (zLw 0).length))
                          obtain ⟨fs212, ho212⟩ := (oSB.mono hb197 zun_le1).o
                          refine z_cAp hC (z_frV (rest := []) (As := [.ref (cs (50 + 0))]) (n := 1) (ci := 1) hC hW.bx (mes_append l D cs (zfA (zun B197 X1) _) (zun B197 X1) b188 va197 ca197 (([] : List Int) ++ (ztp a0 j.toNat)) (cs (50 + 0)) (cs (70 + 0)) (zLw 0) (oSB.mono hb197 zun_le1) (oSt.mono (zLw_st (j := 0) (by decide)) (zun_le2 hW.dbx)) (by omega)) gv_L_165 hd_J4_append_15ec4 rfl ho212 rfl hl rfl (Nat.le_of_ble_eq_true rfl) ⟨Nat.le_of_ble_eq_true rfl, Nat.le_of_ble_eq_true rfl⟩ ⟨(by show _ ≤ 12000; omega), (by show _ ≤ 140000; omega)⟩ dL_articles_212) hW hb197 (fun B212 va212 H locs hb212 hW => ?_)
                          obtain ⟨ca212, hca212⟩ : ∃ c_ : Nat, c_ = grx ca197 ((([] : List Int) ++ (ztp a0 j.toNat)).length + (zLw 0).length) := ⟨_, rfl⟩
                          rw [← hca212] at hb212 hgx212
                          refine W.widen (k := (2300 * k.toNat + 1420 + 50 * j.toNat + 2 * (at_ + 1).toNat) + 2 + 2 + 4) (n := (27000 * k.toNat + 12700 + 1000 * j.toNat + 12 * (at_ + 1).toNat) + 12 + 12 + (20 + 2 * (ca212 - 16))) (by omega) (by omega) ?_
                          have hlen212 : ((([] : List Int) ++ (ztp a0 j.toNat)) ++ (zLw 0)).length = ((([] : List Int) ++ (ztp a0 j.toNat)).length + (zLw 0).length) := List.length_append
                          refine lv_aload hx hb dL_articles_215 (lv_at hl 4 rfl) ?_
                          refine lv_iload hx hb dL_articles_217 (lv_at hl 2 rfl) ?_
                          obtain ⟨fa_74, hfa_74, h2fa_74⟩ := id hA1
                          obtain ⟨q219, vq219, h3fa_74, hsq219⟩ := h2fa_74 j (by omega) (by omega)
                          refine z_aald (t := 7) (C := "java/lang/String") (v := some q219) hC hW.x hfa_74 rfl (by omega) (by omega) h3fa_74 dL_articles_219 ?_
                          have hcc220 := oSB.c hb212
                          have hgx220 := grx_le ca212 (((([] : List Int) ++ (ztp a0 j.toNat)) ++ (zLw 0)).length + (a0.2.2.getD j.toNat []).length)
                          have hmc220 := mcS_le (cap := ca212) (n := (((([] : List Int) ++ (ztp a0 j.toNat)) ++ (zLw 0)).length + (a0.2.2.getD j.toNat []).length))
                          obtain ⟨fs220, ho220⟩ := (oSB.mono hb212 zun_le1).o
                          refine z_cAp hC (z_frV (rest := []) (As := [.ref q219]) (n := 1) (ci := 1) hC hW.bx (mes_append l D cs (zfA (zun B212 X1) _) (zun B212 X1) b188 va212 ca212 ((([] : List Int) ++ (ztp a0 j.toNat)) ++ (zLw 0)) q219 vq219 (a0.2.2.getD j.toNat []) (oSB.mono hb212 zun_le1) (oSt.mono hsq219 (zun_le2 hW.dbx)) (by omega)) gv_L_165 hd_J4_append_15ec4 rfl ho220 rfl hl rfl (Nat.le_of_ble_eq_true rfl) ⟨Nat.le_of_ble_eq_true rfl, Nat.le_of_ble_eq_true rfl⟩ ⟨(by show _ ≤ 12000; omega), (by show _ ≤ 140000; omega)⟩ dL_articles_220) hW hb212 (fun B220 va220 H locs hb220 hW => ?_)
                          obtain ⟨ca220, hca220⟩ : ∃ c_ : Nat, c_ = grx ca212 (((([] : List Int) ++ (ztp a0 j.toNat)) ++ (zLw 0)).length + (a0.2.2.getD j.toNat []).length) := ⟨_, rfl⟩
                          rw [← hca220] at hb220 hgx220
                          refine W.widen (k := (2300 * k.toNat + 1420 + 50 * j.toNat + 2 * (at_ + 1).toNat) + 2 + 2 + 5) (n := (27000 * k.toNat + 12700 + 1000 * j.toNat + 12 * (at_ + 1).toNat) + 12 + 12 + (20 + 2 * (ca220 - 16))) (by omega) (by omega) ?_
                          have hlen220 : (((([] : List Int) ++ (ztp a0 j.toNat)) ++ (zLw 0)) ++ (a0.2.2.getD j.toNat [])).length = (((([] : List Int) ++ (ztp a0 j.toNat)) ++ (zLw 0)).length + (a0.2.2.getD j.toNat []).length) := List.length_append
                          obtain ⟨fs223, ho223⟩ := (oSB.mono hb220 zun_le1).o
                          refine z_cTs hC (z_frV (rest := []) (As := []) (n := 0) (ci := 1) hC hW.bx (mes_toString l D cs (zfA (zun B220 X1) _) (zun B220 X1) b188 va220 ca220 (((([] : List Int) ++ (ztp a0 j.toNat)) ++ (zLw 0)) ++ (a0.2.2.getD j.toNat [])) (oSB.mono hb220 zun_le1) (by omega)) gv_L_174 hd_J4_toString_0e30d rfl ho223 rfl hl rfl (Nat.le_of_ble_eq_true rfl) ⟨Nat.le_of_ble_eq_true rfl, Nat.le_of_ble_eq_true rfl⟩ ⟨(by show _ ≤ 12000; omega), (by show _ ≤ 140000; omega)⟩ dL_articles_223) hW hb220 (fun r223 v223 X223 H locs hl223 hq223 hh223 hW => ?_)
                          have hs_75 : oSt cs X223 b v (ztp a0 j.toNat) := hst.mono hl223
                          have hs_76 : oSt cs X223 q166 vq166 (a0.2.2.getD j.toNat []) := hsq166.mono hl223
                          have hs_77 : oSt cs X223 q219 vq219 (a0.2.2.getD j.toNat []) := hsq219.mono hl223
                          have hs_78 := hA1.mono hl223
                          have hle_79 : zle X X223 := hle1.trans hl223
                          have hq223 : oSt cs X223 r223 v223 (ztp a0 (j + 1).toNat) := (by have z9 := hq223; rw [show zLw 0 = [] from rfl, List.append_nil] at z9; rw [ztp_s0 (by omega) (by omega)]; exact z9)
                          have htl1 : (ztp a0 (j + 1).toNat).length = (ztp a0 j.toNat).length + (a0.2.2.getD j.toNat []).length + 0 := by rw [ztp_s0 (by omega) (by omega)]; simp only [List.length_append, List.length_cons, List.length_nil]; omega
                          refine lv_astore (lv' := [(7, .ref r223), (10, .int (iI at_)), (9, .int (iI mm)), (8, .int (iI j)), (6, .ref r29), (5, .int (iI k)), (4, .int (iI k)), (3, .int (iI lj)), (2, .int (iI wj)), (1, .int (iI (n : Int))), (0, .ref ob)]) hx hb dL_articles_226 hl (by decide) rfl (fun ls hl => ?_)
                          refine lv_iload_n hx hb dL_articles_228 rfl (lv_at hl 7 rfl) ?_
                          refine lv_aload hx hb dL_articles_229 (lv_at hl 4 rfl) ?_
                          refine lv_iload hx hb dL_articles_231 (lv_at hl 3 rfl) ?_
                          obtain ⟨fa_80, hfa_80, h2fa_80⟩ := id hs_78
                          obtain ⟨q233, vq233, h3fa_80, hsq233⟩ := h2fa_80 j (by omega) (by omega)
                          refine z_aald (t := 7) (C := "java/lang/String") (v := some q233) hC hW.x hfa_80 rfl (by omega) (by omega) h3fa_80 dL_articles_233 ?_
                          refine z_cXi hC (z_frSt (rest := [.int (iI lj)]) (As := []) (n := 0) hC hW.x (mes_length l D cs (zfA X223 _) X223 q233 vq233 (a0.2.2.getD j.toNat []) hsq233) gv_L_138 hd_J0_length_8abf5 hsq233 rfl hl rfl (Nat.le_of_ble_eq_true rfl) ⟨Nat.le_of_ble_eq_true rfl, Nat.le_of_ble_eq_true rfl⟩ ⟨(by show _ ≤ 12000; omega), (by show _ ≤ 140000; omega)⟩ dL_articles_234) hW (fun r234 X234 H locs hp234 hW => ?_)
                          obtain ⟨rfl, rfl⟩ := hp234
                          refine z_iadd hx hb dL_articles_237 ?_
                          refine lv_istore_n (lv' := [(3, .int (iI (lj + ((a0.2.2.getD j.toNat []).length : Int)))), (7, .ref r223), (10, .int (iI at_)), (9, .int (iI mm)), (8, .int (iI j)), (6, .ref r29), (5, .int (iI k)), (4, .int (iI k)), (2, .int (iI wj)), (1, .int (iI (n : Int))), (0, .ref ob)]) hx hb dL_articles_238 rfl hl (by decide) rfl (fun ls hl => ?_)
                          refine z_iinc (lv' := [(2, .int (iI (wj + 1))), (3, .int (iI (lj + ((a0.2.2.getD j.toNat []).length : Int)))), (7, .ref r223), (10, .int (iI at_)), (9, .int (iI mm)), (8, .int (iI j)), (6, .ref r29), (5, .int (iI k)), (4, .int (iI k)), (1, .int (iI (n : Int))), (0, .ref ob)]) hx hb dL_articles_239 hl (k := 8) rfl (by decide) rfl (fun ls hl => ?_)
                          refine z_iinc (lv' := [(8, .int (iI (j + 1))), (2, .int (iI (wj + 1))), (3, .int (iI (lj + ((a0.2.2.getD j.toNat []).length : Int)))), (7, .ref r223), (10, .int (iI at_)), (9, .int (iI mm)), (6, .ref r29), (5, .int (iI k)), (4, .int (iI k)), (1, .int (iI (n : Int))), (0, .ref ob)]) hx hb dL_articles_242 hl (k := 5) rfl (by decide) rfl (fun ls hl => ?_)
                          refine lv_goto (tgt := 75) hx hb dL_articles_245 (by decide) ?_
                          refine W.widen (k := (2300 * k.toNat + 1420 + 50 * (j + 1).toNat)) (n := (27000 * k.toNat + 12700 + 1000 * (j + 1).toNat)) (by omega) (by omega) ?_
                          exact ih75 (j + 1) (wj + 1) (lj + ((a0.2.2.getD j.toNat []).length : Int)) G178 X223 r223 v223 (by omega) (by omega) (by omega) (by rw [hsn]; omega) (by omega) (by omega) hG hle_79 hs_78 hq223 _ _ hW ls (lv_sub hl [0, 3, 6, 7, 8, 2, 1, 9, 10] rfl)
                      · skip
                        exfalso; omega
                  · skip
                    refine lv_aload hx hb dL_articles_96 (lv_at hl 4 rfl) ?_
                    refine lv_iload hx hb dL_articles_98 (lv_at hl 2 rfl) ?_
                    obtain ⟨fa_81, hfa_81, h2fa_81⟩ := id hA1
                    obtain ⟨q100, vq100, h3fa_81, hsq100⟩ := h2fa_81 j (by omega) (by omega)
                    refine z_aald (t := 7) (C := "java/lang/String") (v := some q100) hC hW.x hfa_81 rfl (by omega) (by omega) h3fa_81 dL_articles_100 ?_
                    refine lv_iload hx hb dL_articles_101 (lv_at hl 0 rfl) ?_
                    refine z_cXi hC (z_frS (rest := []) (As := [.ref q100, .int (iI at_)]) (n := 2) hC hW.x (lm_divides l D cs (zfA X1 _) X1 q100 vq100 (a0.2.2.getD j.toNat []) at_ hsq100 (by omega)) gs_L_226 he_L_divides rfl hl rfl (Nat.le_of_ble_eq_true rfl) ⟨Nat.le_of_ble_eq_true rfl, Nat.le_of_ble_eq_true rfl⟩ ⟨(by show _ ≤ 12000; omega), (by show _ ≤ 140000; omega)⟩ dL_articles_103) hW (fun r103 X103 H locs hp103 hW => ?_)
                    obtain ⟨rfl, hp103⟩ := hp103
                    have hdv := hp103
                    have hzc := zcuts_t (w := (a0.2.2.getD j.toNat [])) (x := at_) (by omega)
                    refine lv_istore (lv' := [(11, .int (iI r103)), (10, .int (iI at_)), (9, .int (iI mm)), (8, .int (iI j)), (7, .ref b), (6, .ref r29), (5, .int (iI k)), (4, .int (iI k)), (3, .int (iI lj)), (2, .int (iI wj)), (1, .int (iI (n : Int))), (0, .ref ob)]) hx hb dL_articles_106 hl (by decide) rfl (fun ls hl => ?_)
                    refine lv_iload hx hb dL_articles_108 (lv_at hl 2 rfl) ?_
                    refine lv_iload hx hb dL_articles_110 (lv_at hl 0 rfl) ?_
                    refine z_if_eq (tgt := 119) hx hb dL_articles_112 (by decide) (by omega) (fun c_82 => ?_) (fun c_82 => ?_)
                    · skip
                      have hzd : zcuts (a0.2.2.getD j.toNat []) (at_ + 1).toNat = zcuts (a0.2.2.getD j.toNat []) at_.toNat := by
                        rcases hzc with z | z
                        · rcases hdv with y | y
                          · omega
                          · exact absurd z.1 y.1
                        · exact z.2
                      refine z_iconst hx hb dL_articles_119 ?_
                      refine z_iadd hx hb dL_articles_120 ?_
                      refine lv_istore (lv' := [(9, .int (iI (mm + 0))), (11, .int (iI r103)), (10, .int (iI at_)), (8, .int (iI j)), (7, .ref b), (6, .ref r29), (5, .int (iI k)), (4, .int (iI k)), (3, .int (iI lj)), (2, .int (iI wj)), (1, .int (iI (n : Int))), (0, .ref ob)]) hx hb dL_articles_121 hl (by decide) rfl (fun ls hl => ?_)
                      refine lv_aload_n hx hb dL_articles_123 rfl (lv_at hl 11 rfl) ?_
                      refine lv_iload hx hb dL_articles_124 (lv_at hl 6 rfl) ?_
                      refine lv_iload hx hb dL_articles_126 (lv_at hl 3 rfl) ?_
                      refine lv_iload hx hb dL_articles_128 (lv_at hl 2 rfl) ?_
                      refine z_cGi hC (z_frSW (rest := []) (As := [.ref ob, .int (iI k), .int (iI j), .int (iI at_)]) (n := 4) hC hW.g (lw_canDivide l D cs (zfA G1 _) G1 ob k j at_ N tx inp (zart a0) c0 hs hlt hG (by omega) (by omega) (by omega)) (zgsW qm_L_275 qt_L_canDivide qn_L qc_L_canDivide) he_L_canDivide rfl hl rfl (Nat.le_of_ble_eq_true rfl) ⟨Nat.le_of_ble_eq_true rfl, Nat.le_of_ble_eq_true rfl⟩ ⟨(by show _ ≤ 12000; omega), (by show _ ≤ 140000; omega)⟩ dL_articles_130) hW (fun r130 G130 H locs hp130 hW => ?_)
                      obtain ⟨hG, rfl⟩ := hp130
                      refine z_top (y := r103) (by rw [art_wd hfa (by omega) (by omega)]; refine (wq_0 rfl).trans ?_; show sCan at_ _ = r103; rcases hdv with z | z; exact (sCan_1 z.1).trans z.2.symm; exact (sCan_0 z.1).trans z.2.symm) ?_
                      refine lv_iload hx hb dL_articles_133 (lv_at hl 1 rfl) ?_
                      refine z_if_eq (tgt := 142) hx hb dL_articles_135 (by decide) (by omega) (fun c_83 => ?_) (fun c_83 => ?_)
                      · skip
                        refine z_iconst hx hb dL_articles_142 ?_
                        refine z_icmp_eq (tgt := 148) hx hb dL_articles_143 (by decide) (by omega) (by decide) (fun c_84 => ?_) (fun c_84 => ?_)
                        · skip
                          refine z_iinc (lv' := [(10, .int (iI (at_ + 1))), (9, .int (iI (mm + 0))), (11, .int (iI r103)), (8, .int (iI j)), (7, .ref b), (6, .ref r29), (5, .int (iI k)), (4, .int (iI k)), (3, .int (iI lj)), (2, .int (iI wj)), (1, .int (iI (n : Int))), (0, .ref ob)]) hx hb dL_articles_148 hl (k := 2) rfl (by decide) rfl (fun ls hl => ?_)
                          refine lv_goto (tgt := 89) hx hb dL_articles_151 (by decide) ?_
                          refine W.widen (k := (2300 * k.toNat + 1420 + 50 * j.toNat + 2 * ((at_ + 1) + 1).toNat)) (n := (27000 * k.toNat + 12700 + 1000 * j.toNat + 12 * ((at_ + 1) + 1).toNat)) (by omega) (by omega) ?_
                          exact ih89 (at_ + 1) (mm + 0) G130 (by omega) (by omega) (by omega) (by omega) hG _ _ hW ls (lv_sub hl [0, 1, 3, 4, 5, 6, 7, 8, 9, 10, 11] rfl)
                        · skip
                          exfalso; omega
                      · skip
                        refine z_iconst hx hb dL_articles_138 ?_
                        refine lv_goto (tgt := 143) hx hb dL_articles_139 (by decide) ?_
                        refine z_icmp_eq (tgt := 148) hx hb dL_articles_143 (by decide) (by omega) (by decide) (fun c_85 => ?_) (fun c_85 => ?_)
                        · skip
                          refine z_iinc (lv' := [(10, .int (iI (at_ + 1))), (9, .int (iI (mm + 0))), (11, .int (iI r103)), (8, .int (iI j)), (7, .ref b), (6, .ref r29), (5, .int (iI k)), (4, .int (iI k)), (3, .int (iI lj)), (2, .int (iI wj)), (1, .int (iI (n : Int))), (0, .ref ob)]) hx hb dL_articles_148 hl (k := 2) rfl (by decide) rfl (fun ls hl => ?_)
                          refine lv_goto (tgt := 89) hx hb dL_articles_151 (by decide) ?_
                          refine W.widen (k := (2300 * k.toNat + 1420 + 50 * j.toNat + 2 * ((at_ + 1) + 1).toNat)) (n := (27000 * k.toNat + 12700 + 1000 * j.toNat + 12 * ((at_ + 1) + 1).toNat)) (by omega) (by omega) ?_
                          exact ih89 (at_ + 1) (mm + 0) G130 (by omega) (by omega) (by omega) (by omega) hG _ _ hW ls (lv_sub hl [0, 1, 3, 4, 5, 6, 7, 8, 9, 10, 11] rfl)
                        · skip
                          exfalso; omega
                    · skip
                      have hzd : zcuts (a0.2.2.getD j.toNat []) (at_ + 1).toNat = zcuts (a0.2.2.getD j.toNat []) at_.toNat + 1 := by
                        rcases hzc with z | z
                        · exact z.2
                        · rcases hdv with y | y
                          · exact absurd y.1 z.1
                          · omega
                      refine z_iconst hx hb dL_articles_115 ?_
                      refine lv_goto (tgt := 120) hx hb dL_articles_116 (by decide) ?_
                      refine z_iadd hx hb dL_articles_120 ?_
                      refine lv_istore (lv' := [(9, .int (iI (mm + 1))), (11, .int (iI r103)), (10, .int (iI at_)), (8, .int (iI j)), (7, .ref b), (6, .ref r29), (5, .int (iI k)), (4, .int (iI k)), (3, .int (iI lj)), (2, .int (iI wj)), (1, .int (iI (n : Int))), (0, .ref ob)]) hx hb dL_articles_121 hl (by decide) rfl (fun ls hl => ?_)
                      refine lv_aload_n hx hb dL_articles_123 rfl (lv_at hl 11 rfl) ?_
                      refine lv_iload hx hb dL_articles_124 (lv_at hl 6 rfl) ?_
                      refine lv_iload hx hb dL_articles_126 (lv_at hl 3 rfl) ?_
                      refine lv_iload hx hb dL_articles_128 (lv_at hl 2 rfl) ?_
                      refine z_cGi hC (z_frSW (rest := []) (As := [.ref ob, .int (iI k), .int (iI j), .int (iI at_)]) (n := 4) hC hW.g (lw_canDivide l D cs (zfA G1 _) G1 ob k j at_ N tx inp (zart a0) c0 hs hlt hG (by omega) (by omega) (by omega)) (zgsW qm_L_275 qt_L_canDivide qn_L qc_L_canDivide) he_L_canDivide rfl hl rfl (Nat.le_of_ble_eq_true rfl) ⟨Nat.le_of_ble_eq_true rfl, Nat.le_of_ble_eq_true rfl⟩ ⟨(by show _ ≤ 12000; omega), (by show _ ≤ 140000; omega)⟩ dL_articles_130) hW (fun r130 G130 H locs hp130 hW => ?_)
                      obtain ⟨hG, rfl⟩ := hp130
                      refine z_top (y := r103) (by rw [art_wd hfa (by omega) (by omega)]; refine (wq_0 rfl).trans ?_; show sCan at_ _ = r103; rcases hdv with z | z; exact (sCan_1 z.1).trans z.2.symm; exact (sCan_0 z.1).trans z.2.symm) ?_
                      refine lv_iload hx hb dL_articles_133 (lv_at hl 1 rfl) ?_
                      refine z_if_eq (tgt := 142) hx hb dL_articles_135 (by decide) (by omega) (fun c_86 => ?_) (fun c_86 => ?_)
                      · skip
                        refine z_iconst hx hb dL_articles_142 ?_
                        refine z_icmp_eq (tgt := 148) hx hb dL_articles_143 (by decide) (by omega) (by decide) (fun c_87 => ?_) (fun c_87 => ?_)
                        · skip
                          refine z_iinc (lv' := [(10, .int (iI (at_ + 1))), (9, .int (iI (mm + 1))), (11, .int (iI r103)), (8, .int (iI j)), (7, .ref b), (6, .ref r29), (5, .int (iI k)), (4, .int (iI k)), (3, .int (iI lj)), (2, .int (iI wj)), (1, .int (iI (n : Int))), (0, .ref ob)]) hx hb dL_articles_148 hl (k := 2) rfl (by decide) rfl (fun ls hl => ?_)
                          refine lv_goto (tgt := 89) hx hb dL_articles_151 (by decide) ?_
                          refine W.widen (k := (2300 * k.toNat + 1420 + 50 * j.toNat + 2 * ((at_ + 1) + 1).toNat)) (n := (27000 * k.toNat + 12700 + 1000 * j.toNat + 12 * ((at_ + 1) + 1).toNat)) (by omega) (by omega) ?_
                          exact ih89 (at_ + 1) (mm + 1) G130 (by omega) (by omega) (by omega) (by omega) hG _ _ hW ls (lv_sub hl [0, 1, 3, 4, 5, 6, 7, 8, 9, 10, 11] rfl)
                        · skip
                          exfalso; omega
                      · skip
                        refine z_iconst hx hb dL_articles_138 ?_
                        refine lv_goto (tgt := 143) hx hb dL_articles_139 (by decide) ?_
                        refine z_icmp_eq (tgt := 148) hx hb dL_articles_143 (by decide) (by omega) (by decide) (fun c_88 => ?_) (fun c_88 => ?_)
                        · skip
                          refine z_iinc (lv' := [(10, .int (iI (at_ + 1))), (9, .int (iI (mm + 1))), (11, .int (iI r103)), (8, .int (iI j)), (7, .ref b), (6, .ref r29), (5, .int (iI k)), (4, .int (iI k)), (3, .int (iI lj)), (2, .int (iI wj)), (1, .int (iI (n : Int))), (0, .ref ob)]) hx hb dL_articles_148 hl (k := 2) rfl (by decide) rfl (fun ls hl => ?_)
                          refine lv_goto (tgt := 89) hx hb dL_articles_151 (by decide) ?_
                          refine W.widen (k := (2300 * k.toNat + 1420 + 50 * j.toNat + 2 * ((at_ + 1) + 1).toNat)) (n := (27000 * k.toNat + 12700 + 1000 * j.toNat + 12 * ((at_ + 1) + 1).toNat)) (by omega) (by omega) ?_
                          exact ih89 (at_ + 1) (mm + 1) G130 (by omega) (by omega) (by omega) (by omega) hG _ _ hW ls (lv_sub hl [0, 1, 3, 4, 5, 6, 7, 8, 9, 10, 11] rfl)
                        · skip
                          exfalso; omega
              refine W.widen (k := (2300 * k.toNat + 1420 + 50 * j.toNat + 2 * ((-1 : Int) + 1).toNat)) (n := (27000 * k.toNat + 12700 + 1000 * j.toNat + 12 * ((-1 : Int) + 1).toNat)) (by omega) (by omega) ?_
              exact L89_k_61 _ (-1) 0 G1 (Nat.lt_succ_self _) (by omega) rfl (by omega) hG _ _ hW ls (lv_sub hl [0, 1, 2, 3, 4, 5, 6, 7, 8, 9, 10] rfl)
        refine W.widen (k := (2300 * k.toNat + 1420 + 50 * (0 : Int).toNat)) (n := (27000 * k.toNat + 12700 + 1000 * (0 : Int).toNat)) (by omega) (by omega) ?_
        exact L75_k_16 _ 0 wn lt G29 X67 r67 v67 (Nat.lt_succ_self _) (by omega) (by omega) (by show lt = lt + 0; omega) (by omega) (by omega) hG hle_15 hs_14 hq67 _ _ hW ls (lv_sub hl [0, 1, 2, 3, 4, 5, 6, 7, 8] rfl)
  refine W.widen (k := (2300 * (0 : Int).toNat)) (n := (27000 * (0 : Int).toNat)) (by omega) (by omega) ?_
  exact L12_k_1 _ 0 0 0 G X out (Nat.lt_succ_self _) (by omega) rfl rfl (by omega) (by omega) hG zle.refl _ _ hW ls (lv_sub hl [0, 1, 2, 3, 4] rfl)

