/-- mx is the longest of the first i -/
def mxI (ws : List zWd) (i : Nat) (mx : Int) : Prop := (∀ x ∈ ws.take i, (x.length : Int) ≤ mx) ∧ (mx = 0 ∨ ∃ x ∈ ws, (x.length : Int) = mx)
def mxI2 (ws : List zWd) (mx : Int) : Prop := (∀ x ∈ ws, (x.length : Int) ≤ mx) ∧ (mx = 0 ∨ ∃ x ∈ ws, (x.length : Int) = mx)
theorem mx_s {ws : List zWd} {i mx r : Int} (h : mxI ws i.toNat mx) (h0 : 0 ≤ i) (h1 : i < ws.length) (hr : (mx < ((ws.getD i.toNat []).length : Int) ∧ r = ((ws.getD i.toNat []).length : Int)) ∨ (¬ mx < ((ws.getD i.toNat []).length : Int) ∧ r = mx)) : mxI ws (i + 1).toNat r := by
  have hl : i.toNat < ws.length := by omega
  have hg : ws.getD i.toNat [] = ws[i.toNat] := by rw [List.getD_eq_getElem?_getD, List.getElem?_eq_getElem hl]; rfl
  refine ⟨fun x hx => ?_, ?_⟩
  · rw [take_sn h0 h1] at hx
    rcases List.mem_append.mp hx with z | z
    · have := h.1 x z; omega
    · rw [List.mem_singleton.mp z]; omega
  · rcases hr with ⟨z1, z2⟩ | ⟨z1, z2⟩
    · right
      exact ⟨_, List.getElem_mem hl, by rw [← hg]; exact z2.symm⟩
    · rw [z2]; exact h.2
theorem sLb_y {c : zCo} {k : Int} {a : zAr} (hfa : zfa (cAr c) k = some a) (h : ∀ x ∈ a.2.2, (x.length : Int) ≤ cWi c) : sLb c k = (0, zlb (cWi c) (zlens a)) := by
  unfold sLb; rw [hfa]; dsimp only
  exact if_pos (List.all_eq_true.mpr (fun x hx => decide_eq_true (h x hx)))
def hnfP (w : Int) (ws : List zWd) : Prop := ∃ x ∈ ws, w < (x.length : Int)
theorem sLb_no {c : zCo} {k : Int} {a : zAr} (hfa : zfa (cAr c) k = some a) (h : hnfP (cWi c) a.2.2) : sLb c k = (2, 0) := by
  unfold sLb; rw [hfa]; dsimp only
  refine if_neg (fun q => ?_)
  obtain ⟨x, hx, hx2⟩ := h
  have := of_decide_eq_true (List.all_eq_true.mp q x hx)
  omega
theorem cbs_at {c : zCo} {k : Int} {a : zAr} {LS : List zWd} (hfa : zfa (cAr c) k = some a) (h : (zlines (cWi c) a.2.2 = none ∧ LS = []) ∨ (zlines (cWi c) a.2.2 = some LS ∧ 1 ≤ LS.length)) : ∃ cb : Int, sCbs c k = (0, cb) ∧ ((LS.length = 0 ∧ cb = 0) ∨ (1 ≤ LS.length ∧ cb = 1)) := by
  rcases h with ⟨z1, z2⟩ | ⟨z1, z2⟩
  · exact ⟨0, by unfold sCbs; rw [hfa]; dsimp only; rw [z1]; rfl, Or.inl ⟨by rw [z2]; rfl, rfl⟩⟩
  · exact ⟨1, by unfold sCbs; rw [hfa]; dsimp only; rw [z1]; rfl, Or.inr ⟨z2, rfl⟩⟩
theorem sub_h {x r : List Int} : ((x ++ 59 :: r).drop (0 : Int).toNat).take x.length = x := by simp
theorem sub_t {x r : List Int} : ((x ++ 59 :: r).drop ((x.length : Int) + 1).toNat).take r.length = r := by
  rw [show ((x.length : Int) + 1).toNat = x.length + 1 by omega, List.drop_append, List.drop_eq_nil_of_le (by omega)]
  simp
theorem gD_mem {L : List zWd} {i : Int} (h0 : 0 ≤ i) (h1 : i < L.length) : L.getD i.toNat [] ∈ L := by
  have hl : i.toNat < L.length := by omega
  rw [List.getD_eq_getElem?_getD, List.getElem?_eq_getElem hl]
  exact List.getElem_mem hl
set_option maxHeartbeats 4000000 in
set_option maxRecDepth 100000 in
theorem lm_lines (l : Launch) (D : va_G) (cs : Nat → ClassId) (A : Nat → Prop) (G X : zF) (ob : Nat) (N : Nat) (tx inp out : List Int) (c0 : zCo) (hs : List zCo) (n : Nat) (hd : zdj G X) (hlt : l.stackTraces = false) (hG : lG cs G ob N tx inp out c0 hs) (hn5 : 1 ≤ n ∧ n ≤ 5) (hdj : dJ n 5 c0) : zM l D cs A yL_lines cL_lines 12 (some FieldType.boolean) 27 86000 4530000 [.ref ob] (zun G X) (pGI (fun r G1 X1 => zle X X1 ∧ (∃ out1, lG cs G1 ob N tx inp out1 c0 hs) ∧ r = 1)) := by
  refine zM_of (own := RL) (by decide) rfl (Nat.le_of_ble_eq_true rfl) ?_
  intro p e s m below meth c hC hr hlk hnm hZ ls hl
  have hx := hC.x
  have hb := hC.b
  have hl : lv_has ls 12 [(0, .ref ob)] := hl
  have hW := zW3.of hZ hd
  have hK := hG.k
  have hwi := hK.2.2.2.2.2.2.2.2.1
  have hcl := hdj.1
  refine z_iconst hx hb dL_lines_0 ?_
  refine lv_istore_n (lv' := [(1, .int (iI 0)), (0, .ref ob)]) hx hb dL_lines_1 rfl hl (by decide) rfl (fun ls hl => ?_)
  have L2_k_1 : ∀ (fu : Nat) (k : Int) (G1 X1 : zF) (out1 : List Int) (hfu : ((n : Int) - k).toNat < fu) (hi2_0 : 0 ≤ k ∧ k ≤ n) (hG : lG cs G1 ob N tx inp out1 c0 hs) (hle1 : zle X X1) (H : Heap) (locs : List Loc) (hW : zW3 D A s G1 zE X1 H locs) (ls : Array Slot) (hl : lv_has ls 12 [(1, .int (iI k)), (0, .ref ob)]), W p l e (zR 27 86000 4530000) s m [.ref ob].toArray below meth c H locs (17000 * k.toNat) (905000 * k.toNat) (MQ below (zQ D A (pGI (fun r G1 X1 => zle X X1 ∧ (∃ out1, lG cs G1 ob N tx inp out1 c0 hs) ∧ r = 1))) [.ref ob].toArray s 86000 4530000 A) (F0 m 2 ls []) := by
    intro fu
    induction fu with
    | zero =>
      intro k G1 X1 out1 hfu
      exact absurd hfu (Nat.not_lt_zero _)
    | succ fu ih2 =>
      intro k G1 X1 out1 hfu hi2_0 hG hle1 H locs hW ls hl
      refine lv_iload_n hx hb dL_lines_2 rfl (lv_at hl 0 rfl) ?_
      refine lv_aload_n hx hb dL_lines_3 rfl (lv_at hl 1 rfl) ?_
      obtain ⟨⟨g, sa, so, hL, sv, er, fa, hg⟩, hK, hh8, hhs, htz, ht60, hin, hN9⟩ := id hG
      obtain ⟨cap, hso⟩ := hg.2.2.2.2.1
      have hwi := hK.2.2.2.2.2.2.2.2.1
      refine z_cGi hC (z_frV (rest := [.int (iI k)]) (As := []) (n := 0) (ci := 15) hC hW.g (met_X12_articleCount l D cs (zfA G1 _) G1 ob g sa so er fa c0 hg.1 (hg.2.2.2.2.2.2.2.2.2.1.mono zrm_le)) gv_L_258 hd_X12_articleCount rfl hg.1 rfl hl rfl (Nat.le_of_ble_eq_true rfl) ⟨Nat.le_of_ble_eq_true rfl, Nat.le_of_ble_eq_true rfl⟩ ⟨(by show _ ≤ 86000; omega), (by show _ ≤ 4530000; omega)⟩ dL_lines_4) hW (fun r4 G4 H locs hp4 hW => ?_)
      obtain ⟨rfl, rfl⟩ := hp4
      refine z_top (y := (n : Int)) (by omega) ?_
      refine z_icmp_ge (tgt := 398) hx hb dL_lines_7 (by decide) (by omega) (by omega) (fun c_2 => ?_) (fun c_2 => ?_)
      · skip
        have h99 := no_l (art_no (x := 99) hdj (by omega))
        have h1m := no_l (art_no (x := (-1)) hdj (by omega))
        refine lv_aload_n hx hb dL_lines_398 rfl (lv_at hl 1 rfl) ?_
        obtain ⟨⟨g, sa, so, hL, sv, er, fa, hg⟩, hK, hh8, hhs, htz, ht60, hin, hN9⟩ := id hG
        obtain ⟨cap, hso⟩ := hg.2.2.2.2.1
        have hwi := hK.2.2.2.2.2.2.2.2.1
        refine z_cGi hC (z_frV (rest := []) (As := []) (n := 0) (ci := 15) hC hW.g (met_X12_isConsistent l D cs (zfA G1 _) G1 ob g sa so hL tx inp out1 c0 sv hs er fa hg hwi) gv_L_341 hd_X12_isConsistent rfl hg.1 rfl hl rfl (Nat.le_of_ble_eq_true rfl) ⟨Nat.le_of_ble_eq_true rfl, Nat.le_of_ble_eq_true rfl⟩ ⟨(by show _ ≤ 86000; omega), (by show _ ≤ 4530000; omega)⟩ dL_lines_399) hW (fun r399 G399 H locs hp399 hW => ?_)
        obtain ⟨rfl, hg1⟩ := hp399
        have hG : lG cs G399 ob N tx inp out1 c0 hs := ⟨⟨g, sa, so, hL, sv, er, fa, hg1⟩, (hG).2⟩
        refine z_if_eq (tgt := 498) hx hb dL_lines_402 (by decide) (by decide) (fun c_3 => ?_) (fun c_3 => ?_)
        · skip
          exfalso; omega
        · skip
          refine lv_aload_n hx hb dL_lines_405 rfl (lv_at hl 1 rfl) ?_
          refine z_bipush hx hb dL_lines_406 (by decide) ?_
          refine z_cGi hC (z_frSW (rest := []) (As := [.ref ob, .int (iI 99)]) (n := 2) hC hW.g (lw_canBeSet l D cs (zfA G399 _) G399 ob 99 N tx inp out1 c0 hs hlt hG (by decide)) (zgsW qm_L_327 qt_L_canBeSet qn_L qc_L_canBeSet) he_L_canBeSet rfl hl rfl (Nat.le_of_ble_eq_true rfl) ⟨Nat.le_of_ble_eq_true rfl, Nat.le_of_ble_eq_true rfl⟩ ⟨(by show _ ≤ 86000; omega), (by show _ ≤ 4530000; omega)⟩ dL_lines_408) hW (fun r408 G408 H locs hp408 hW => ?_)
          obtain ⟨hG, rfl⟩ := hp408
          refine z_top (y := -13) (by rw [h99.1]; rfl) ?_
          refine z_bipush hx hb dL_lines_411 (by decide) ?_
          refine z_icmp_ne (tgt := 498) hx hb dL_lines_413 (by decide) (by decide) (by decide) (fun c_4 => ?_) (fun c_4 => ?_)
          · skip
            exfalso; omega
          · skip
            refine lv_aload_n hx hb dL_lines_416 rfl (lv_at hl 1 rfl) ?_
            refine z_bipush hx hb dL_lines_417 (by decide) ?_
            refine z_cGi hC (z_frSW (rest := []) (As := [.ref ob, .int (iI 99)]) (n := 2) hC hW.g (lw_lineCount l D cs (zfA G408 _) G408 ob 99 N tx inp out1 c0 hs hlt hG (by decide)) (zgsW qm_L_332 qt_L_lineCount qn_L qc_L_lineCount) he_L_lineCount rfl hl rfl (Nat.le_of_ble_eq_true rfl) ⟨Nat.le_of_ble_eq_true rfl, Nat.le_of_ble_eq_true rfl⟩ ⟨(by show _ ≤ 86000; omega), (by show _ ≤ 4530000; omega)⟩ dL_lines_419) hW (fun r419 G419 H locs hp419 hW => ?_)
            obtain ⟨hG, rfl⟩ := hp419
            refine z_top (y := -13) (by unfold sLn; rw [h99.2.1]; rfl) ?_
            refine z_bipush hx hb dL_lines_422 (by decide) ?_
            refine z_icmp_ne (tgt := 498) hx hb dL_lines_424 (by decide) (by decide) (by decide) (fun c_5 => ?_) (fun c_5 => ?_)
            · skip
              exfalso; omega
            · skip
              refine lv_aload_n hx hb dL_lines_427 rfl (lv_at hl 1 rfl) ?_
              refine z_bipush hx hb dL_lines_428 (by decide) ?_
              refine z_iconst hx hb dL_lines_430 ?_
              refine z_cGi hC (z_frSW (rest := []) (As := [.ref ob, .int (iI 99), .int (iI 0)]) (n := 3) hC hW.g (lw_lineLength l D cs (zfA G419 _) G419 ob 99 0 N tx inp out1 c0 hs hlt hG (by decide) (by decide)) (zgsW qm_L_337 qt_L_lineLength qn_L qc_L_lineLength) he_L_lineLength rfl hl rfl (Nat.le_of_ble_eq_true rfl) ⟨Nat.le_of_ble_eq_true rfl, Nat.le_of_ble_eq_true rfl⟩ ⟨(by show _ ≤ 86000; omega), (by show _ ≤ 4530000; omega)⟩ dL_lines_431) hW (fun r431 G431 H locs hp431 hW => ?_)
              obtain ⟨hG, rfl⟩ := hp431
              refine z_top (y := -13) (by rw [zlq_e h99.2.1 (by decide)]; rfl) ?_
              refine z_bipush hx hb dL_lines_434 (by decide) ?_
              refine z_icmp_ne (tgt := 498) hx hb dL_lines_436 (by decide) (by decide) (by decide) (fun c_6 => ?_) (fun c_6 => ?_)
              · skip
                exfalso; omega
              · skip
                refine lv_aload_n hx hb dL_lines_439 rfl (lv_at hl 1 rfl) ?_
                refine z_bipush hx hb dL_lines_440 (by decide) ?_
                refine z_cGi hC (z_frSW (rest := []) (As := [.ref ob, .int (iI 99)]) (n := 2) hC hW.g (lw_hyphens l D cs (zfA G431 _) G431 ob 99 N tx inp out1 c0 hs hlt hG (by decide)) (zgsW qm_L_334 qt_L_hyphens qn_L qc_L_hyphens) he_L_hyphens rfl hl rfl (Nat.le_of_ble_eq_true rfl) ⟨Nat.le_of_ble_eq_true rfl, Nat.le_of_ble_eq_true rfl⟩ ⟨(by show _ ≤ 86000; omega), (by show _ ≤ 4530000; omega)⟩ dL_lines_442) hW (fun r442 G442 H locs hp442 hW => ?_)
                obtain ⟨hG, rfl⟩ := hp442
                refine z_top (y := -13) (by unfold sLn; rw [h99.2.1]; rfl) ?_
                refine z_bipush hx hb dL_lines_445 (by decide) ?_
                refine z_icmp_ne (tgt := 498) hx hb dL_lines_447 (by decide) (by decide) (by decide) (fun c_7 => ?_) (fun c_7 => ?_)
                · skip
                  exfalso; omega
                · skip
                  refine lv_aload_n hx hb dL_lines_450 rfl (lv_at hl 1 rfl) ?_
                  refine z_bipush hx hb dL_lines_451 (by decide) ?_
                  refine z_iconst hx hb dL_lines_453 ?_
                  refine z_cGi hC (z_frSW (rest := []) (As := [.ref ob, .int (iI 99), .int (iI 0)]) (n := 3) hC hW.g (lw_writeLine l D cs (zfA G442 _) G442 ob 99 0 N tx inp out1 c0 hs hlt hG (by decide) (by decide)) (zgsW qm_L_339 qt_L_writeLine qn_L qc_L_writeLine) he_L_writeLine rfl hl rfl (Nat.le_of_ble_eq_true rfl) ⟨Nat.le_of_ble_eq_true rfl, Nat.le_of_ble_eq_true rfl⟩ ⟨(by show _ ≤ 86000; omega), (by show _ ≤ 4530000; omega)⟩ dL_lines_454) hW (fun r454 G454 H locs hp454 hW => ?_)
                  obtain ⟨hG, rfl⟩ := hp454
                  have hG : lG cs G454 ob N tx inp out1 c0 hs := (by have z9 := hG; rw [zlq_e h99.2.1 (by decide)] at z9; exact z9)
                  refine z_top (y := -13) (by rw [zlq_e h99.2.1 (by decide)]; rfl) ?_
                  refine z_bipush hx hb dL_lines_457 (by decide) ?_
                  refine z_icmp_ne (tgt := 498) hx hb dL_lines_459 (by decide) (by decide) (by decide) (fun c_8 => ?_) (fun c_8 => ?_)
                  · skip
                    exfalso; omega
                  · skip
                    refine lv_aload_n hx hb dL_lines_462 rfl (lv_at hl 1 rfl) ?_
                    refine z_bipush hx hb dL_lines_463 (by decide) ?_
                    refine z_cGi hC (z_frSW (rest := []) (As := [.ref ob, .int (iI 99)]) (n := 2) hC hW.g (lw_smallest l D cs (zfA G454 _) G454 ob 99 N tx inp out1 c0 hs hlt hG (by decide)) (zgsW qm_L_324 qt_L_smallest qn_L qc_L_smallest) he_L_smallest rfl hl rfl (Nat.le_of_ble_eq_true rfl) ⟨Nat.le_of_ble_eq_true rfl, Nat.le_of_ble_eq_true rfl⟩ ⟨(by show _ ≤ 86000; omega), (by show _ ≤ 4530000; omega)⟩ dL_lines_465) hW (fun r465 G465 H locs hp465 hW => ?_)
                    obtain ⟨hG, rfl⟩ := hp465
                    refine z_top (y := -13) (by rw [h99.2.2.1]; rfl) ?_
                    refine z_bipush hx hb dL_lines_468 (by decide) ?_
                    refine z_icmp_ne (tgt := 498) hx hb dL_lines_470 (by decide) (by decide) (by decide) (fun c_9 => ?_) (fun c_9 => ?_)
                    · skip
                      exfalso; omega
                    · skip
                      refine lv_aload_n hx hb dL_lines_473 rfl (lv_at hl 1 rfl) ?_
                      refine z_bipush hx hb dL_lines_474 (by decide) ?_
                      refine z_cGi hC (z_frSW (rest := []) (As := [.ref ob, .int (iI 99)]) (n := 2) hC hW.g (lw_badness l D cs (zfA G465 _) G465 ob 99 N tx inp out1 c0 hs hlt hG (by decide)) (zgsW qm_L_321 qt_L_badness qn_L qc_L_badness) he_L_badness rfl hl rfl (Nat.le_of_ble_eq_true rfl) ⟨Nat.le_of_ble_eq_true rfl, Nat.le_of_ble_eq_true rfl⟩ ⟨(by show _ ≤ 86000; omega), (by show _ ≤ 4530000; omega)⟩ dL_lines_476) hW (fun r476 G476 H locs hp476 hW => ?_)
                      obtain ⟨hG, rfl⟩ := hp476
                      refine z_top (y := -13) (by rw [h99.2.2.2]; rfl) ?_
                      refine z_bipush hx hb dL_lines_479 (by decide) ?_
                      refine z_icmp_ne (tgt := 498) hx hb dL_lines_481 (by decide) (by decide) (by decide) (fun c_10 => ?_) (fun c_10 => ?_)
                      · skip
                        exfalso; omega
                      · skip
                        refine lv_aload_n hx hb dL_lines_484 rfl (lv_at hl 1 rfl) ?_
                        refine z_iconst hx hb dL_lines_485 ?_
                        refine z_cGi hC (z_frSW (rest := []) (As := [.ref ob, .int (iI (-1))]) (n := 2) hC hW.g (lw_forward l D cs (zfA G476 _) G476 ob (-1) N tx inp out1 c0 hs hlt hG (by decide)) (zgsW qm_L_329 qt_L_forward qn_L qc_L_forward) he_L_forward rfl hl rfl (Nat.le_of_ble_eq_true rfl) ⟨Nat.le_of_ble_eq_true rfl, Nat.le_of_ble_eq_true rfl⟩ ⟨(by show _ ≤ 86000; omega), (by show _ ≤ 4530000; omega)⟩ dL_lines_486) hW (fun r486 G486 H locs hp486 hW => ?_)
                        obtain ⟨hG, rfl⟩ := hp486
                        refine z_top (y := -13) (by rw [h1m.2.2.2]; rfl) ?_
                        refine z_bipush hx hb dL_lines_489 (by decide) ?_
                        refine z_icmp_ne (tgt := 498) hx hb dL_lines_491 (by decide) (by decide) (by decide) (fun c_11 => ?_) (fun c_11 => ?_)
                        · skip
                          exfalso; omega
                        · skip
                          refine z_iconst hx hb dL_lines_494 ?_
                          refine lv_goto (tgt := 499) hx hb dL_lines_495 (by decide) ?_
                          exact z_zretG hC hr hlk hW rfl (by omega) (by omega) (⟨hle1, ⟨_, hG⟩, rfl⟩) dL_lines_499
      · skip
        obtain ⟨a0, ha0, ha1, hfa, ham, hw9, hqa, hqp, hqw, hao⟩ := art_at (k := k) hK hdj (by omega) (by omega)
        have hwl := hao.2.2.1.1
        have hwdk := hao.2.2.2
        obtain ⟨LS, hz1, hz2, hz3, hz4, hz5, hz6⟩ := ls_all hwdk hwi hw9
        have hqs : sSm c0 k = (0, zsm a0.2.2 16 4) := by unfold sSm; rw [hfa]
        have hhy := zmany_le (zcode LS) 45
        rw [zmany_code45 LS hz4] at hhy
        refine lv_aload_n hx hb dL_lines_10 rfl (lv_at hl 1 rfl) ?_
        refine lv_iload_n hx hb dL_lines_11 rfl (lv_at hl 0 rfl) ?_
        obtain ⟨⟨g, sa, so, hL, sv, er, fa, hg⟩, hK, hh8, hhs, htz, ht60, hin, hN9⟩ := id hG
        obtain ⟨cap, hso⟩ := hg.2.2.2.2.1
        have hwi := hK.2.2.2.2.2.2.2.2.1
        refine z_cGi hC (z_xno (z_frX (rest := []) (As := [.int (iI k)]) (n := 1) (ci := 15) hC hW.g (met_X12_article l D cs (zfA G1 _) G1 ob g sa so er fa c0 k hlt hg.1 (hg.2.2.2.2.2.2.2.2.2.1.mono zrm_le) (by omega)) gv_L_35 hd_X12_article rfl hg.1 rfl hl rfl (Nat.le_of_ble_eq_true rfl) ⟨Nat.le_of_ble_eq_true rfl, Nat.le_of_ble_eq_true rfl⟩ ⟨(by show _ ≤ 86000; omega), (by show _ ≤ 4530000; omega)⟩ dL_lines_12) (fun E F1 hz => absurd (show (0 : Int) = 1 from (congrArg Prod.fst hqa).symm.trans hz.2.1) (by decide))) hW (fun r12 G12 H locs hp12 hW => ?_)
        obtain ⟨rfl, -, rfl⟩ := hp12
        refine z_top (y := k) (by rw [hqa]) ?_
        refine lv_istore_n (lv' := [(2, .int (iI k)), (1, .int (iI k)), (0, .ref ob)]) hx hb dL_lines_15 rfl hl (by decide) rfl (fun ls hl => ?_)
        refine lv_aload_n hx hb dL_lines_16 rfl (lv_at hl 2 rfl) ?_
        refine lv_iload_n hx hb dL_lines_17 rfl (lv_at hl 0 rfl) ?_
        refine z_cGXr hC (z_frS (rest := []) (As := [.ref ob, .int (iI k)]) (n := 2) hC hW.gx (lm_wordsOf l D cs (zfA (zun G1 X1) _) G1 X1 ob N tx inp out1 c0 hs k a0 hW.dgx hlt hG (by omega) hfa hw9) gs_L_264 he_L_wordsOf rfl hl rfl (Nat.le_of_ble_eq_true rfl) ⟨Nat.le_of_ble_eq_true rfl, Nat.le_of_ble_eq_true rfl⟩ ⟨(by show _ ≤ 86000; omega), (by show _ ≤ 4530000; omega)⟩ dL_lines_18) hW (fun r18 G18 X18 H locs hp18 hW => ?_)
        obtain ⟨hl18, hA18, hG⟩ := hp18
        have hle_12 : zle X X18 := hle1.trans hl18
        refine lv_astore_n (lv' := [(3, .ref r18), (2, .int (iI k)), (1, .int (iI k)), (0, .ref ob)]) hx hb dL_lines_21 rfl hl (by decide) rfl (fun ls hl => ?_)
        refine lv_aload_n hx hb dL_lines_22 rfl (lv_at hl 0 rfl) ?_
        refine lv_aload_n hx hb dL_lines_23 rfl (lv_at hl 3 rfl) ?_
        obtain ⟨⟨g, sa, so, hL, sv, er, fa, hg⟩, hK, hh8, hhs, htz, ht60, hin, hN9⟩ := id hG
        obtain ⟨cap, hso⟩ := hg.2.2.2.2.1
        have hwi := hK.2.2.2.2.2.2.2.2.1
        refine z_cGi hC (z_frV (rest := [.ref r18]) (As := []) (n := 0) (ci := 15) hC hW.g (met_X12_width l D cs (zfA G18 _) G18 ob g sa so er fa c0 hg.1 (hg.2.2.2.2.2.2.2.2.2.1.mono zrm_le)) gv_L_307 hd_X12_width rfl hg.1 rfl hl rfl (Nat.le_of_ble_eq_true rfl) ⟨Nat.le_of_ble_eq_true rfl, Nat.le_of_ble_eq_true rfl⟩ ⟨(by show _ ≤ 86000; omega), (by show _ ≤ 4530000; omega)⟩ dL_lines_24) hW (fun r24 G24 H locs hp24 hW => ?_)
        obtain ⟨rfl, rfl⟩ := hp24
        refine z_cXr hC (z_frS (rest := []) (As := [.ref r18, .int (iI (cWi c0))]) (n := 2) hC hW.x (lm_linesOf l D cs (zfA X18 _) X18 r18 a0.2.2 (cWi c0) hA18 hwdk hwi hw9) gs_L_310 he_L_linesOf rfl hl rfl (Nat.le_of_ble_eq_true rfl) ⟨Nat.le_of_ble_eq_true rfl, Nat.le_of_ble_eq_true rfl⟩ ⟨(by show _ ≤ 86000; omega), (by show _ ≤ 4530000; omega)⟩ dL_lines_27) hW (fun r27 X27 H locs hp27 hW => ?_)
        obtain ⟨hl27, v27, hq27⟩ := hp27
        have hs_13 := hA18.mono hl27
        have hle_14 : zle X X27 := hle_12.trans hl27
        have hq27 : oSt cs X27 r27 v27 (zcode LS) := (by rw [← hz1]; exact hq27)
        refine lv_astore (lv' := [(4, .ref r27), (3, .ref r18), (2, .int (iI k)), (1, .int (iI k)), (0, .ref ob)]) hx hb dL_lines_30 hl (by decide) rfl (fun ls hl => ?_)
        refine lv_aload hx hb dL_lines_32 (lv_at hl 0 rfl) ?_
        refine z_bipush hx hb dL_lines_34 (by decide) ?_
        refine z_cXi hC (z_frS (rest := []) (As := [.ref r27, .int (iI 59)]) (n := 2) hC hW.x (lm_many l D cs (zfA X27 _) X27 r27 v27 (zcode LS) 59 hq27 (by decide)) gs_L_314 he_L_many rfl hl rfl (Nat.le_of_ble_eq_true rfl) ⟨Nat.le_of_ble_eq_true rfl, Nat.le_of_ble_eq_true rfl⟩ ⟨(by show _ ≤ 86000; omega), (by show _ ≤ 4530000; omega)⟩ dL_lines_36) hW (fun r36 X36 H locs hp36 hW => ?_)
        obtain ⟨rfl, rfl⟩ := hp36
        refine z_top (y := (LS.length : Int)) (zmany_code59 LS hz4) ?_
        refine lv_istore (lv' := [(5, .int (iI (LS.length : Int))), (4, .ref r27), (3, .ref r18), (2, .int (iI k)), (1, .int (iI k)), (0, .ref ob)]) hx hb dL_lines_39 hl (by decide) rfl (fun ls hl => ?_)
        refine z_iconst hx hb dL_lines_41 ?_
        refine lv_istore (lv' := [(6, .int (iI 4)), (5, .int (iI (LS.length : Int))), (4, .ref r27), (3, .ref r18), (2, .int (iI k)), (1, .int (iI k)), (0, .ref ob)]) hx hb dL_lines_42 hl (by decide) rfl (fun ls hl => ?_)
        have L44_k_15 : ∀ (fu : Nat) (ww : Int) (X1 : zF) (hfu : (12 - ww).toNat < fu) (hi44_0 : 4 ≤ ww ∧ ww ≤ 12) (hi44_1 : zsm a0.2.2 16 4 = zsm a0.2.2 (20 - ww).toNat ww) (hle1 : zle X X1) (hsa : oSt cs X1 r27 v27 (zcode LS)) (hA1 : oSs7 cs X1 r18 a0.2.2) (H : Heap) (locs : List Loc) (hW : zW3 D A s G18 zE X1 H locs) (ls : Array Slot) (hl : lv_has ls 12 [(6, .int (iI ww)), (5, .int (iI (LS.length : Int))), (4, .ref r27), (3, .ref r18), (2, .int (iI k)), (1, .int (iI k)), (0, .ref ob)]), W p l e (zR 27 86000 4530000) s m [.ref ob].toArray below meth c H locs (17000 * k.toNat + 2710 + 1300 * (ww - 4).toNat) (905000 * k.toNat + 92420 + 80000 * (ww - 4).toNat) (MQ below (zQ D A (pGI (fun r G1 X1 => zle X X1 ∧ (∃ out1, lG cs G1 ob N tx inp out1 c0 hs) ∧ r = 1))) [.ref ob].toArray s 86000 4530000 A) (F0 m 44 ls []) := by
          intro fu
          induction fu with
          | zero =>
            intro ww X1 hfu
            exact absurd hfu (Nat.not_lt_zero _)
          | succ fu ih44 =>
            intro ww X1 hfu hi44_0 hi44_1 hle1 hsa hA1 H locs hW ls hl
            refine lv_aload_n hx hb dL_lines_44 rfl (lv_at hl 3 rfl) ?_
            refine lv_iload hx hb dL_lines_45 (lv_at hl 0 rfl) ?_
            refine z_cXr hC (z_frS (rest := []) (As := [.ref r18, .int (iI ww)]) (n := 2) hC hW.x (lm_linesOf l D cs (zfA X1 _) X1 r18 a0.2.2 ww hA1 hwdk (by omega) hw9) gs_L_310 he_L_linesOf rfl hl rfl (Nat.le_of_ble_eq_true rfl) ⟨Nat.le_of_ble_eq_true rfl, Nat.le_of_ble_eq_true rfl⟩ ⟨(by show _ ≤ 86000; omega), (by show _ ≤ 4530000; omega)⟩ dL_lines_47) hW (fun r47 X47 H locs hp47 hW => ?_)
            obtain ⟨hl47, v47, hq47⟩ := hp47
            have hs_16 : oSt cs X47 r27 v27 (zcode LS) := hsa.mono hl47
            have hs_17 := hA1.mono hl47
            have hle_18 : zle X X47 := hle1.trans hl47
            have hzl : (zLt ww a0.2.2).length ≤ 1155 := by
              obtain ⟨L2, hy1, -, -, -, -, hy6⟩ := ls_all (w := ww) hwdk (by omega) hw9
              rw [hy1]
              exact hy6
            refine z_cXi hC (z_frSt (rest := []) (As := []) (n := 0) hC hW.x (mes_length l D cs (zfA X47 _) X47 r47 v47 (zLt ww a0.2.2) hq47) gv_L_138 hd_J0_length_8abf5 hq47 rfl hl rfl (Nat.le_of_ble_eq_true rfl) ⟨Nat.le_of_ble_eq_true rfl, Nat.le_of_ble_eq_true rfl⟩ ⟨(by show _ ≤ 86000; omega), (by show _ ≤ 4530000; omega)⟩ dL_lines_50) hW (fun r50 X50 H locs hp50 hW => ?_)
            obtain ⟨rfl, rfl⟩ := hp50
            refine z_if_ne (tgt := 62) hx hb dL_lines_53 (by decide) (by omega) (fun c_19 => ?_) (fun c_19 => ?_)
            · skip
              have hzs : zlines ww a0.2.2 ≠ none := fun z => by have z8 := (zLt_0 (w := ww) (ws := a0.2.2)).mpr z; omega
              have hsm : zsm a0.2.2 16 4 = ww := by
                obtain ⟨l9, hl9⟩ := Option.ne_none_iff_exists'.mp hzs
                rw [hi44_1, show (20 - ww).toNat = (19 - ww).toNat + 1 by omega, zsm_y hl9]
              refine z_iconst hx hb dL_lines_62 ?_
              refine lv_istore (lv' := [(7, .int (iI 0)), (6, .int (iI ww)), (5, .int (iI (LS.length : Int))), (4, .ref r27), (3, .ref r18), (2, .int (iI k)), (1, .int (iI k)), (0, .ref ob)]) hx hb dL_lines_63 hl (by decide) rfl (fun ls hl => ?_)
              refine lv_aload_n hx hb dL_lines_65 rfl (lv_at hl 4 rfl) ?_
              refine lv_astore (lv' := [(8, .ref r18), (7, .int (iI 0)), (6, .int (iI ww)), (5, .int (iI (LS.length : Int))), (4, .ref r27), (3, .ref r18), (2, .int (iI k)), (1, .int (iI k)), (0, .ref ob)]) hx hb dL_lines_66 hl (by decide) rfl (fun ls hl => ?_)
              refine lv_aload hx hb dL_lines_68 (lv_at hl 0 rfl) ?_
              obtain ⟨fa_20, hfa_20, h2fa_20⟩ := id hs_17
              refine z_alen (t := 7) hC hW.x hfa_20 rfl dL_lines_70 ?_
              refine lv_istore (lv' := [(9, .int (iI (a0.2.2.length : Int))), (8, .ref r18), (7, .int (iI 0)), (6, .int (iI ww)), (5, .int (iI (LS.length : Int))), (4, .ref r27), (3, .ref r18), (2, .int (iI k)), (1, .int (iI k)), (0, .ref ob)]) hx hb dL_lines_71 hl (by decide) rfl (fun ls hl => ?_)
              refine z_iconst hx hb dL_lines_73 ?_
              refine lv_istore (lv' := [(10, .int (iI 0)), (9, .int (iI (a0.2.2.length : Int))), (8, .ref r18), (7, .int (iI 0)), (6, .int (iI ww)), (5, .int (iI (LS.length : Int))), (4, .ref r27), (3, .ref r18), (2, .int (iI k)), (1, .int (iI k)), (0, .ref ob)]) hx hb dL_lines_74 hl (by decide) rfl (fun ls hl => ?_)
              have L76_k_21 : ∀ (fu : Nat) (i mx : Int)  (hfu : ((a0.2.2.length : Int) - i).toNat < fu) (hi76_0 : 0 ≤ i ∧ i ≤ a0.2.2.length) (hi76_1 : 0 ≤ mx ∧ mx ≤ 12) (hmx : mxI a0.2.2 i.toNat mx) (H : Heap) (locs : List Loc) (hW : zW3 D A s G18 zE X47 H locs) (ls : Array Slot) (hl : lv_has ls 12 [(10, .int (iI i)), (9, .int (iI (a0.2.2.length : Int))), (8, .ref r18), (7, .int (iI mx)), (6, .int (iI ww)), (5, .int (iI (LS.length : Int))), (4, .ref r27), (3, .ref r18), (2, .int (iI k)), (1, .int (iI k)), (0, .ref ob)]), W p l e (zR 27 86000 4530000) s m [.ref ob].toArray below meth c H locs ((17000 * k.toNat + 2710 + 1300 * (ww - 4).toNat) + 1300) ((905000 * k.toNat + 92420 + 80000 * (ww - 4).toNat) + 80000) (MQ below (zQ D A (pGI (fun r G1 X1 => zle X X1 ∧ (∃ out1, lG cs G1 ob N tx inp out1 c0 hs) ∧ r = 1))) [.ref ob].toArray s 86000 4530000 A) (F0 m 76 ls []) := by
                intro fu
                induction fu with
                | zero =>
                  intro i mx  hfu
                  exact absurd hfu (Nat.not_lt_zero _)
                | succ fu ih76 =>
                  intro i mx  hfu hi76_0 hi76_1 hmx H locs hW ls hl
                  refine lv_iload hx hb dL_lines_76 (lv_at hl 0 rfl) ?_
                  refine lv_iload hx hb dL_lines_78 (lv_at hl 1 rfl) ?_
                  refine z_icmp_ge (tgt := 108) hx hb dL_lines_80 (by decide) (by omega) (by omega) (fun c_22 => ?_) (fun c_22 => ?_)
                  · skip
                    have hta : a0.2.2.take i.toNat = a0.2.2 := List.take_of_length_le (by omega)
                    have hmx3 : mxI2 a0.2.2 mx := by
                      unfold mxI at hmx
                      rw [hta] at hmx
                      exact hmx
                    have J146_k_23 : ∀ (le : Int) (G2 : zF) (hj146_0 : -15 ≤ le ∧ le ≤ 12000) (hG : lG cs G2 ob N tx inp (zart a0) c0 hs) (hle3 : wq [-13, -15] (sLb c0 k) = le) (H : Heap) (locs : List Loc) (hW : zW3 D A s G2 zE X47 H locs) (ls : Array Slot) (hl : lv_has ls 12 [(10, .int (iI i)), (9, .int (iI (a0.2.2.length : Int))), (8, .ref r18), (7, .int (iI mx)), (6, .int (iI ww)), (5, .int (iI (LS.length : Int))), (4, .ref r27), (3, .ref r18), (2, .int (iI k)), (1, .int (iI k)), (0, .ref ob)]), W p l e (zR 27 86000 4530000) s m [.ref ob].toArray below meth c H locs ((17000 * k.toNat + 2710 + 1300 * (ww - 4).toNat) + 1300) ((905000 * k.toNat + 92420 + 80000 * (ww - 4).toNat) + 80000) (MQ below (zQ D A (pGI (fun r G1 X1 => zle X X1 ∧ (∃ out1, lG cs G1 ob N tx inp out1 c0 hs) ∧ r = 1))) [.ref ob].toArray s 86000 4530000 A) (F0 m 146 ls [.int (iI le)]) := by
                      intro le G2 hj146_0 hG hle3 H locs hW ls hl
                      refine lv_istore (lv' := [(8, .int (iI le)), (10, .int (iI i)), (9, .int (iI (a0.2.2.length : Int))), (7, .int (iI mx)), (6, .int (iI ww)), (5, .int (iI (LS.length : Int))), (4, .ref r27), (3, .ref r18), (2, .int (iI k)), (1, .int (iI k)), (0, .ref ob)]) hx hb dL_lines_146 hl (by decide) rfl (fun ls hl => ?_)
                      refine lv_aload_n hx hb dL_lines_148 rfl (lv_at hl 10 rfl) ?_
                      refine lv_iload_n hx hb dL_lines_149 rfl (lv_at hl 8 rfl) ?_
                      refine z_cGi hC (z_frSW (rest := []) (As := [.ref ob, .int (iI k)]) (n := 2) hC hW.g (lw_smallest l D cs (zfA G2 _) G2 ob k N tx inp (zart a0) c0 hs hlt hG (by omega)) (zgsW qm_L_324 qt_L_smallest qn_L qc_L_smallest) he_L_smallest rfl hl rfl (Nat.le_of_ble_eq_true rfl) ⟨Nat.le_of_ble_eq_true rfl, Nat.le_of_ble_eq_true rfl⟩ ⟨(by show _ ≤ 86000; omega), (by show _ ≤ 4530000; omega)⟩ dL_lines_150) hW (fun r150 G150 H locs hp150 hW => ?_)
                      obtain ⟨hG, rfl⟩ := hp150
                      refine z_top (y := ww) (by rw [hqs]; exact (wq_0 rfl).trans hsm) ?_
                      refine lv_iload hx hb dL_lines_153 (lv_at hl 4 rfl) ?_
                      refine z_icmp_ne (tgt := 196) hx hb dL_lines_155 (by decide) (by omega) (by omega) (fun c_24 => ?_) (fun c_24 => ?_)
                      · skip
                        exfalso; omega
                      · skip
                        obtain ⟨cb, hcb1, hcb2⟩ := cbs_at hfa hz5
                        refine lv_aload_n hx hb dL_lines_158 rfl (lv_at hl 10 rfl) ?_
                        refine lv_iload_n hx hb dL_lines_159 rfl (lv_at hl 8 rfl) ?_
                        refine z_cGi hC (z_frSW (rest := []) (As := [.ref ob, .int (iI k)]) (n := 2) hC hW.g (lw_canBeSet l D cs (zfA G150 _) G150 ob k N tx inp (zart a0) c0 hs hlt hG (by omega)) (zgsW qm_L_327 qt_L_canBeSet qn_L qc_L_canBeSet) he_L_canBeSet rfl hl rfl (Nat.le_of_ble_eq_true rfl) ⟨Nat.le_of_ble_eq_true rfl, Nat.le_of_ble_eq_true rfl⟩ ⟨(by show _ ≤ 86000; omega), (by show _ ≤ 4530000; omega)⟩ dL_lines_160) hW (fun r160 G160 H locs hp160 hW => ?_)
                        obtain ⟨hG, rfl⟩ := hp160
                        refine z_top (y := cb) (by rw [hcb1]; rfl) ?_
                        have J198_k_25 : ∀  (G5 : zF) (hG : lG cs G5 ob N tx inp (zart a0) c0 hs) (H : Heap) (locs : List Loc) (hW : zW3 D A s G5 zE X47 H locs) (ls : Array Slot) (hl : lv_has ls 12 [(8, .int (iI le)), (10, .int (iI i)), (9, .int (iI (a0.2.2.length : Int))), (7, .int (iI mx)), (6, .int (iI ww)), (5, .int (iI (LS.length : Int))), (4, .ref r27), (3, .ref r18), (2, .int (iI k)), (1, .int (iI k)), (0, .ref ob)]), W p l e (zR 27 86000 4530000) s m [.ref ob].toArray below meth c H locs (17000 * k.toNat + 14420) (905000 * k.toNat + 812480) (MQ below (zQ D A (pGI (fun r G1 X1 => zle X X1 ∧ (∃ out1, lG cs G1 ob N tx inp out1 c0 hs) ∧ r = 1))) [.ref ob].toArray s 86000 4530000 A) (F0 m 198 ls []) := by
                          intro  G5  hG H locs hW ls hl
                          have J302_k_26 : ∀  (G3 : zF) (out3 : List Int) (hG : lG cs G3 ob N tx inp out3 c0 hs) (H : Heap) (locs : List Loc) (hW : zW3 D A s G3 zE X47 H locs) (ls : Array Slot) (hl : lv_has ls 12 [(8, .int (iI le)), (10, .int (iI i)), (9, .int (iI (a0.2.2.length : Int))), (7, .int (iI mx)), (6, .int (iI ww)), (5, .int (iI (LS.length : Int))), (4, .ref r27), (3, .ref r18), (2, .int (iI k)), (1, .int (iI k)), (0, .ref ob)]), W p l e (zR 27 86000 4530000) s m [.ref ob].toArray below meth c H locs (17000 * k.toNat + 14440) (905000 * k.toNat + 812600) (MQ below (zQ D A (pGI (fun r G1 X1 => zle X X1 ∧ (∃ out1, lG cs G1 ob N tx inp out1 c0 hs) ∧ r = 1))) [.ref ob].toArray s 86000 4530000 A) (F0 m 302 ls []) := by
                            intro  G3 out3  hG H locs hW ls hl
                            refine z_iconst hx hb dL_lines_302 ?_
                            refine lv_istore (lv' := [(9, .int (iI 0)), (8, .int (iI le)), (10, .int (iI i)), (7, .int (iI mx)), (6, .int (iI ww)), (5, .int (iI (LS.length : Int))), (4, .ref r27), (3, .ref r18), (2, .int (iI k)), (1, .int (iI k)), (0, .ref ob)]) hx hb dL_lines_303 hl (by decide) rfl (fun ls hl => ?_)
                            have L305_k_27 : ∀ (fu : Nat) (i : Int) (G4 X4 : zF) (b v : Nat) (out4 : List Int) (hfu : ((LS.length : Int) - i).toNat < fu) (hi305_0 : 0 ≤ i ∧ i ≤ LS.length) (hi305_1 : (zcode (LS.drop i.toNat)).length ≤ 1155) (hG : lG cs G4 ob N tx inp out4 c0 hs) (hle4 : zle X X4) (hst : oSt cs X4 b v (zcode (LS.drop i.toNat))) (H : Heap) (locs : List Loc) (hW : zW3 D A s G4 zE X4 H locs) (ls : Array Slot) (hl : lv_has ls 12 [(9, .int (iI i)), (5, .int (iI (LS.length : Int))), (4, .ref b), (2, .int (iI k)), (1, .int (iI k)), (0, .ref ob)]), W p l e (zR 27 86000 4530000) s m [.ref ob].toArray below meth c H locs (17000 * k.toNat + 14440 + 40 * i.toNat) (905000 * k.toNat + 812600 + 1500 * i.toNat) (MQ below (zQ D A (pGI (fun r G1 X1 => zle X X1 ∧ (∃ out1, lG cs G1 ob N tx inp out1 c0 hs) ∧ r = 1))) [.ref ob].toArray s 86000 4530000 A) (F0 m 305 ls []) := by
                              intro fu
                              induction fu with
                              | zero =>
                                intro i G4 X4 b v out4 hfu
                                exact absurd hfu (Nat.not_lt_zero _)
                              | succ fu ih305 =>
                                intro i G4 X4 b v out4 hfu hi305_0 hi305_1 hG hle4 hst H locs hW ls hl
                                refine lv_iload hx hb dL_lines_305 (lv_at hl 0 rfl) ?_
                                refine lv_iload hx hb dL_lines_307 (lv_at hl 1 rfl) ?_
                                refine z_icmp_ge (tgt := 392) hx hb dL_lines_309 (by decide) (by omega) (by omega) (fun c_28 => ?_) (fun c_28 => ?_)
                                · skip
                                  refine z_iinc (lv' := [(1, .int (iI (k + 1))), (9, .int (iI i)), (5, .int (iI (LS.length : Int))), (4, .ref b), (2, .int (iI k)), (0, .ref ob)]) hx hb dL_lines_392 hl (k := 4) rfl (by decide) rfl (fun ls hl => ?_)
                                  refine lv_goto (tgt := 2) hx hb dL_lines_395 (by decide) ?_
                                  refine W.widen (k := (17000 * (k + 1).toNat)) (n := (905000 * (k + 1).toNat)) (by omega) (by omega) ?_
                                  exact ih2 (k + 1) G4 X4 out4 (by omega) (by omega) hG hle4 _ _ hW ls (lv_sub hl [0, 5] rfl)
                                · skip
                                  have hza0 : zal c0 k = (0, LS) := zal_0 hfa (hz5.elim (fun z => by have z8 : LS.length = 0 := (by rw [z.2]; rfl); omega) And.left)
                                  have hzd := zcode_d (L := LS) (i := i) (by omega) (by omega)
                                  have hxm := gD_mem (L := LS) (i := i) (by omega) (by omega)
                                  have hxw := hz3 _ hxm
                                  have hxg := hz4 _ hxm
                                  have hlz : (zcode (LS.drop i.toNat)).length = (LS.getD i.toNat []).length + 1 + (zcode (LS.drop (i + 1).toNat)).length := by rw [hzd, List.length_append, List.length_cons]; omega
                                  have hzq := zlq_y hza0 (w := i) (by omega) (by omega)
                                  refine lv_aload hx hb dL_lines_312 (lv_at hl 2 rfl) ?_
                                  refine z_iconst hx hb dL_lines_314 ?_
                                  refine lv_aload hx hb dL_lines_315 (lv_at hl 2 rfl) ?_
                                  refine z_bipush hx hb dL_lines_317 (by decide) ?_
                                  refine z_cXi hC (z_frSt (rest := [.int (iI 0), .ref b]) (As := [.int (iI 59)]) (n := 1) hC hW.x (mes_indexOf l D cs (zfA X4 _) X4 b v (zcode (LS.drop i.toNat)) 59 hst (by omega)) gv_L_219 hd_J0_indexOf_0f7a4 hst rfl hl rfl (Nat.le_of_ble_eq_true rfl) ⟨Nat.le_of_ble_eq_true rfl, Nat.le_of_ble_eq_true rfl⟩ ⟨(by show _ ≤ 86000; omega), (by show _ ≤ 4530000; omega)⟩ dL_lines_319) hW (fun r319 X319 H locs hp319 hW => ?_)
                                  obtain ⟨rfl, rfl⟩ := hp319
                                  refine z_top (y := ((LS.getD i.toNat []).length : Int)) (by rw [hzd]; exact (zixo_pre _ _ 0 (lnG_ne hxg)).trans (by omega)) ?_
                                  refine z_cXr hC (z_frSt (rest := []) (As := [.int (iI 0), .int (iI ((LS.getD i.toNat []).length : Int))]) (n := 2) hC hW.x (mes_substring2 l D cs (zfA X4 _) X4 b v (zcode (LS.drop i.toNat)) 0 ((LS.getD i.toNat []).length : Int) ((LS.getD i.toNat []).length) hst (by omega)) gv_L_233 hd_J0_substring_37a41 hst rfl hl rfl (Nat.le_of_ble_eq_true rfl) ⟨Nat.le_of_ble_eq_true rfl, Nat.le_of_ble_eq_true rfl⟩ ⟨(by show _ ≤ 86000; omega), (by show _ ≤ 4530000; omega)⟩ dL_lines_322) hW (fun r322 X322 H locs hp322 hW => ?_)
                                  obtain ⟨hl322, v322, hq322⟩ := hp322
                                  have hs_29 : oSt cs X322 b v (zcode (LS.drop i.toNat)) := hst.mono hl322
                                  have hle_30 : zle X X322 := hle4.trans hl322
                                  have hq322 : oSt cs X322 r322 v322 (LS.getD i.toNat []) := (by have z9 := hq322; rw [hzd] at z9; rw [sub_h] at z9; exact z9)
                                  refine lv_astore (lv' := [(10, .ref r322), (9, .int (iI i)), (5, .int (iI (LS.length : Int))), (4, .ref b), (2, .int (iI k)), (1, .int (iI k)), (0, .ref ob)]) hx hb dL_lines_325 hl (by decide) rfl (fun ls hl => ?_)
                                  refine lv_aload hx hb dL_lines_327 (lv_at hl 3 rfl) ?_
                                  refine lv_aload hx hb dL_lines_329 (lv_at hl 0 rfl) ?_
                                  refine z_cXi hC (z_frSt (rest := [.ref b]) (As := []) (n := 0) hC hW.x (mes_length l D cs (zfA X322 _) X322 r322 v322 (LS.getD i.toNat []) hq322) gv_L_138 hd_J0_length_8abf5 hq322 rfl hl rfl (Nat.le_of_ble_eq_true rfl) ⟨Nat.le_of_ble_eq_true rfl, Nat.le_of_ble_eq_true rfl⟩ ⟨(by show _ ≤ 86000; omega), (by show _ ≤ 4530000; omega)⟩ dL_lines_331) hW (fun r331 X331 H locs hp331 hW => ?_)
                                  obtain ⟨rfl, rfl⟩ := hp331
                                  refine z_iconst hx hb dL_lines_334 ?_
                                  refine z_iadd hx hb dL_lines_335 ?_
                                  refine z_cXr hC (z_frSt (rest := []) (As := [.int (iI (((LS.getD i.toNat []).length : Int) + 1))]) (n := 1) hC hW.x (mes_substring1 l D cs (zfA X322 _) X322 b v (zcode (LS.drop i.toNat)) (((LS.getD i.toNat []).length : Int) + 1) ((zcode (LS.drop (i + 1).toNat)).length) hs_29 (by omega)) gv_L_230 hd_J0_substring_b52d3 hs_29 rfl hl rfl (Nat.le_of_ble_eq_true rfl) ⟨Nat.le_of_ble_eq_true rfl, Nat.le_of_ble_eq_true rfl⟩ ⟨(by show _ ≤ 86000; omega), (by show _ ≤ 4530000; omega)⟩ dL_lines_336) hW (fun r336 X336 H locs hp336 hW => ?_)
                                  obtain ⟨hl336, v336, hq336⟩ := hp336
                                  have hs_31 : oSt cs X336 b v (zcode (LS.drop i.toNat)) := hs_29.mono hl336
                                  have hs_32 : oSt cs X336 r322 v322 (LS.getD i.toNat []) := hq322.mono hl336
                                  have hle_33 : zle X X336 := hle_30.trans hl336
                                  have hq336 : oSt cs X336 r336 v336 (zcode (LS.drop (i + 1).toNat)) := (by have z9 := hq336; rw [hzd] at z9; rw [sub_t] at z9; exact z9)
                                  refine lv_astore (lv' := [(4, .ref r336), (10, .ref r322), (9, .int (iI i)), (5, .int (iI (LS.length : Int))), (2, .int (iI k)), (1, .int (iI k)), (0, .ref ob)]) hx hb dL_lines_339 hl (by decide) rfl (fun ls hl => ?_)
                                  refine lv_aload_n hx hb dL_lines_341 rfl (lv_at hl 6 rfl) ?_
                                  refine lv_iload_n hx hb dL_lines_342 rfl (lv_at hl 4 rfl) ?_
                                  refine lv_iload hx hb dL_lines_343 (lv_at hl 2 rfl) ?_
                                  refine z_cGi hC (z_frSW (rest := []) (As := [.ref ob, .int (iI k), .int (iI i)]) (n := 3) hC hW.g (lw_lineLength l D cs (zfA G4 _) G4 ob k i N tx inp out4 c0 hs hlt hG (by omega) (by omega)) (zgsW qm_L_337 qt_L_lineLength qn_L qc_L_lineLength) he_L_lineLength rfl hl rfl (Nat.le_of_ble_eq_true rfl) ⟨Nat.le_of_ble_eq_true rfl, Nat.le_of_ble_eq_true rfl⟩ ⟨(by show _ ≤ 86000; omega), (by show _ ≤ 4530000; omega)⟩ dL_lines_345) hW (fun r345 G345 H locs hp345 hW => ?_)
                                  obtain ⟨hG, rfl⟩ := hp345
                                  refine z_top (y := ((LS.getD i.toNat []).length : Int)) (by rw [hzq]; rfl) ?_
                                  refine lv_aload hx hb dL_lines_348 (lv_at hl 1 rfl) ?_
                                  refine z_cXi hC (z_frSt (rest := [.int (iI ((LS.getD i.toNat []).length : Int))]) (As := []) (n := 0) hC hW.x (mes_length l D cs (zfA X336 _) X336 r322 v322 (LS.getD i.toNat []) hs_32) gv_L_138 hd_J0_length_8abf5 hs_32 rfl hl rfl (Nat.le_of_ble_eq_true rfl) ⟨Nat.le_of_ble_eq_true rfl, Nat.le_of_ble_eq_true rfl⟩ ⟨(by show _ ≤ 86000; omega), (by show _ ≤ 4530000; omega)⟩ dL_lines_350) hW (fun r350 X350 H locs hp350 hW => ?_)
                                  obtain ⟨rfl, rfl⟩ := hp350
                                  refine z_icmp_ne (tgt := 384) hx hb dL_lines_353 (by decide) (by omega) (by omega) (fun c_34 => ?_) (fun c_34 => ?_)
                                  · skip
                                    exfalso; omega
                                  · skip
                                    refine lv_aload hx hb dL_lines_356 (lv_at hl 1 rfl) ?_
                                    refine z_cXi hC (z_frSt (rest := []) (As := []) (n := 0) hC hW.x (mes_length l D cs (zfA X336 _) X336 r322 v322 (LS.getD i.toNat []) hs_32) gv_L_138 hd_J0_length_8abf5 hs_32 rfl hl rfl (Nat.le_of_ble_eq_true rfl) ⟨Nat.le_of_ble_eq_true rfl, Nat.le_of_ble_eq_true rfl⟩ ⟨(by show _ ≤ 86000; omega), (by show _ ≤ 4530000; omega)⟩ dL_lines_358) hW (fun r358 X358 H locs hp358 hW => ?_)
                                    obtain ⟨rfl, rfl⟩ := hp358
                                    refine lv_aload_n hx hb dL_lines_361 rfl (lv_at hl 6 rfl) ?_
                                    obtain ⟨⟨g, sa, so, hL, sv, er, fa, hg⟩, hK, hh8, hhs, htz, ht60, hin, hN9⟩ := id hG
                                    obtain ⟨cap, hso⟩ := hg.2.2.2.2.1
                                    have hwi := hK.2.2.2.2.2.2.2.2.1
                                    refine z_cGi hC (z_frV (rest := [.int (iI ((LS.getD i.toNat []).length : Int))]) (As := []) (n := 0) (ci := 15) hC hW.g (met_X12_width l D cs (zfA G345 _) G345 ob g sa so er fa c0 hg.1 (hg.2.2.2.2.2.2.2.2.2.1.mono zrm_le)) gv_L_307 hd_X12_width rfl hg.1 rfl hl rfl (Nat.le_of_ble_eq_true rfl) ⟨Nat.le_of_ble_eq_true rfl, Nat.le_of_ble_eq_true rfl⟩ ⟨(by show _ ≤ 86000; omega), (by show _ ≤ 4530000; omega)⟩ dL_lines_362) hW (fun r362 G362 H locs hp362 hW => ?_)
                                    obtain ⟨rfl, rfl⟩ := hp362
                                    refine z_icmp_gt (tgt := 384) hx hb dL_lines_365 (by decide) (by omega) (by omega) (fun c_35 => ?_) (fun c_35 => ?_)
                                    · skip
                                      exfalso; omega
                                    · skip
                                      refine lv_aload_n hx hb dL_lines_368 rfl (lv_at hl 6 rfl) ?_
                                      refine lv_aload_n hx hb dL_lines_369 rfl (lv_at hl 6 rfl) ?_
                                      refine lv_iload_n hx hb dL_lines_370 rfl (lv_at hl 4 rfl) ?_
                                      refine lv_iload hx hb dL_lines_371 (lv_at hl 2 rfl) ?_
                                      refine z_cGi hC (z_frSW (rest := [.ref ob]) (As := [.ref ob, .int (iI k), .int (iI i)]) (n := 3) hC hW.g (lw_writeLine l D cs (zfA G345 _) G345 ob k i N tx inp out4 c0 hs hlt hG (by omega) (by omega)) (zgsW qm_L_339 qt_L_writeLine qn_L qc_L_writeLine) he_L_writeLine rfl hl rfl (Nat.le_of_ble_eq_true rfl) ⟨Nat.le_of_ble_eq_true rfl, Nat.le_of_ble_eq_true rfl⟩ ⟨(by show _ ≤ 86000; omega), (by show _ ≤ 4530000; omega)⟩ dL_lines_373) hW (fun r373 G373 H locs hp373 hW => ?_)
                                      obtain ⟨hG, rfl⟩ := hp373
                                      have hG : lG cs G373 ob N tx inp (LS.getD i.toNat []) c0 hs := (by have z9 := hG; rw [hzq] at z9; exact z9)
                                      refine z_top (y := ((LS.getD i.toNat []).length : Int)) (by rw [hzq]; rfl) ?_
                                      refine lv_aload hx hb dL_lines_376 (lv_at hl 1 rfl) ?_
                                      refine z_cGXi hC (z_frS (rest := []) (As := [.ref ob, .int (iI ((LS.getD i.toNat []).length : Int)), .ref r322]) (n := 3) hC hW.gx (lm_spells l D cs (zfA (zun G373 X336) _) G373 X336 ob N tx inp (LS.getD i.toNat []) c0 hs r322 v322 (LS.getD i.toNat []) ((LS.getD i.toNat []).length : Int) hW.dgx hlt hG hs_32 rfl rfl) gs_L_287 he_L_spells rfl hl rfl (Nat.le_of_ble_eq_true rfl) ⟨Nat.le_of_ble_eq_true rfl, Nat.le_of_ble_eq_true rfl⟩ ⟨(by show _ ≤ 86000; omega), (by show _ ≤ 4530000; omega)⟩ dL_lines_378) hW (fun r378 G378 X378 H locs hp378 hW => ?_)
                                      obtain ⟨rfl, hG, rfl⟩ := hp378
                                      refine z_if_ne (tgt := 386) hx hb dL_lines_381 (by decide) (by decide) (fun c_36 => ?_) (fun c_36 => ?_)
                                      · skip
                                        refine z_iinc (lv' := [(9, .int (iI (i + 1))), (4, .ref r336), (10, .ref r322), (5, .int (iI (LS.length : Int))), (2, .int (iI k)), (1, .int (iI k)), (0, .ref ob)]) hx hb dL_lines_386 hl (k := 2) rfl (by decide) rfl (fun ls hl => ?_)
                                        refine lv_goto (tgt := 305) hx hb dL_lines_389 (by decide) ?_
                                        refine W.widen (k := (17000 * k.toNat + 14440 + 40 * (i + 1).toNat)) (n := (905000 * k.toNat + 812600 + 1500 * (i + 1).toNat)) (by omega) (by omega) ?_
                                        exact ih305 (i + 1) G378 X336 r336 v336 (LS.getD i.toNat []) (by omega) (by omega) (by omega) hG hle_33 hq336 _ _ hW ls (lv_sub hl [0, 3, 1, 4, 5, 6] rfl)
                                      · skip
                                        exfalso; omega
                            refine W.widen (k := (17000 * k.toNat + 14440 + 40 * (0 : Int).toNat)) (n := (905000 * k.toNat + 812600 + 1500 * (0 : Int).toNat)) (by omega) (by omega) ?_
                            exact L305_k_27 _ 0 G3 X47 r27 v27 out3 (Nat.lt_succ_self _) (by omega) hz6 hG hle_18 hs_16 _ _ hW ls (lv_sub hl [0, 5, 6, 8, 9, 10] rfl)
                          refine lv_iload hx hb dL_lines_198 (lv_at hl 5 rfl) ?_
                          refine z_if_ne (tgt := 247) hx hb dL_lines_200 (by decide) (by omega) (fun c_37 => ?_) (fun c_37 => ?_)
                          · skip
                            have hza0 : zal c0 k = (0, LS) := zal_0 hfa (hz5.elim (fun z => by have z8 : LS.length = 0 := (by rw [z.2]; rfl); omega) And.left)
                            refine lv_iload hx hb dL_lines_247 (lv_at hl 5 rfl) ?_
                            refine z_if_le (tgt := 302) hx hb dL_lines_249 (by decide) (by omega) (fun c_38 => ?_) (fun c_38 => ?_)
                            · skip
                              exfalso; omega
                            · skip
                              refine lv_aload_n hx hb dL_lines_252 rfl (lv_at hl 10 rfl) ?_
                              refine lv_iload_n hx hb dL_lines_253 rfl (lv_at hl 8 rfl) ?_
                              refine z_cGi hC (z_frSW (rest := []) (As := [.ref ob, .int (iI k)]) (n := 2) hC hW.g (lw_lineCount l D cs (zfA G5 _) G5 ob k N tx inp (zart a0) c0 hs hlt hG (by omega)) (zgsW qm_L_332 qt_L_lineCount qn_L qc_L_lineCount) he_L_lineCount rfl hl rfl (Nat.le_of_ble_eq_true rfl) ⟨Nat.le_of_ble_eq_true rfl, Nat.le_of_ble_eq_true rfl⟩ ⟨(by show _ ≤ 86000; omega), (by show _ ≤ 4530000; omega)⟩ dL_lines_254) hW (fun r254 G254 H locs hp254 hW => ?_)
                              obtain ⟨hG, rfl⟩ := hp254
                              refine z_top (y := (LS.length : Int)) (by unfold sLn; rw [hza0]; rfl) ?_
                              refine lv_iload hx hb dL_lines_257 (lv_at hl 5 rfl) ?_
                              refine z_icmp_ne (tgt := 300) hx hb dL_lines_259 (by decide) (by omega) (by omega) (fun c_39 => ?_) (fun c_39 => ?_)
                              · skip
                                exfalso; omega
                              · skip
                                refine lv_aload_n hx hb dL_lines_262 rfl (lv_at hl 10 rfl) ?_
                                refine lv_iload_n hx hb dL_lines_263 rfl (lv_at hl 8 rfl) ?_
                                refine z_cGi hC (z_frSW (rest := []) (As := [.ref ob, .int (iI k)]) (n := 2) hC hW.g (lw_hyphens l D cs (zfA G254 _) G254 ob k N tx inp (zart a0) c0 hs hlt hG (by omega)) (zgsW qm_L_334 qt_L_hyphens qn_L qc_L_hyphens) he_L_hyphens rfl hl rfl (Nat.le_of_ble_eq_true rfl) ⟨Nat.le_of_ble_eq_true rfl, Nat.le_of_ble_eq_true rfl⟩ ⟨(by show _ ≤ 86000; omega), (by show _ ≤ 4530000; omega)⟩ dL_lines_264) hW (fun r264 G264 H locs hp264 hW => ?_)
                                obtain ⟨hG, rfl⟩ := hp264
                                refine z_top (y := (sHy LS)) (by unfold sLn; rw [hza0]; rfl) ?_
                                refine lv_aload hx hb dL_lines_267 (lv_at hl 6 rfl) ?_
                                refine z_bipush hx hb dL_lines_269 (by decide) ?_
                                refine z_cXi hC (z_frS (rest := [.int (iI (sHy LS))]) (As := [.ref r27, .int (iI 45)]) (n := 2) hC hW.x (lm_many l D cs (zfA X47 _) X47 r27 v27 (zcode LS) 45 hs_16 (by decide)) gs_L_314 he_L_many rfl hl rfl (Nat.le_of_ble_eq_true rfl) ⟨Nat.le_of_ble_eq_true rfl, Nat.le_of_ble_eq_true rfl⟩ ⟨(by show _ ≤ 86000; omega), (by show _ ≤ 4530000; omega)⟩ dL_lines_271) hW (fun r271 X271 H locs hp271 hW => ?_)
                                obtain ⟨rfl, rfl⟩ := hp271
                                refine z_top (y := (sHy LS)) (zmany_code45 LS hz4) ?_
                                refine z_icmp_ne (tgt := 300) hx hb dL_lines_274 (by decide) (by omega) (by omega) (fun c_40 => ?_) (fun c_40 => ?_)
                                · skip
                                  exfalso; omega
                                · skip
                                  refine lv_aload_n hx hb dL_lines_277 rfl (lv_at hl 10 rfl) ?_
                                  refine lv_iload_n hx hb dL_lines_278 rfl (lv_at hl 8 rfl) ?_
                                  refine lv_iload hx hb dL_lines_279 (lv_at hl 5 rfl) ?_
                                  refine z_cGi hC (z_frSW (rest := []) (As := [.ref ob, .int (iI k), .int (iI (LS.length : Int))]) (n := 3) hC hW.g (lw_lineLength l D cs (zfA G264 _) G264 ob k (LS.length : Int) N tx inp (zart a0) c0 hs hlt hG (by omega) (by omega)) (zgsW qm_L_337 qt_L_lineLength qn_L qc_L_lineLength) he_L_lineLength rfl hl rfl (Nat.le_of_ble_eq_true rfl) ⟨Nat.le_of_ble_eq_true rfl, Nat.le_of_ble_eq_true rfl⟩ ⟨(by show _ ≤ 86000; omega), (by show _ ≤ 4530000; omega)⟩ dL_lines_281) hW (fun r281 G281 H locs hp281 hW => ?_)
                                  obtain ⟨hG, rfl⟩ := hp281
                                  refine z_top (y := -11) (by rw [zlq_n hza0 (by omega)]; rfl) ?_
                                  refine z_bipush hx hb dL_lines_284 (by decide) ?_
                                  refine z_icmp_ne (tgt := 300) hx hb dL_lines_286 (by decide) (by decide) (by decide) (fun c_41 => ?_) (fun c_41 => ?_)
                                  · skip
                                    exfalso; omega
                                  · skip
                                    refine lv_aload_n hx hb dL_lines_289 rfl (lv_at hl 10 rfl) ?_
                                    refine lv_iload_n hx hb dL_lines_290 rfl (lv_at hl 8 rfl) ?_
                                    refine z_iconst hx hb dL_lines_291 ?_
                                    refine z_cGi hC (z_frSW (rest := []) (As := [.ref ob, .int (iI k), .int (iI (-1))]) (n := 3) hC hW.g (lw_writeLine l D cs (zfA G281 _) G281 ob k (-1) N tx inp (zart a0) c0 hs hlt hG (by omega) (by decide)) (zgsW qm_L_339 qt_L_writeLine qn_L qc_L_writeLine) he_L_writeLine rfl hl rfl (Nat.le_of_ble_eq_true rfl) ⟨Nat.le_of_ble_eq_true rfl, Nat.le_of_ble_eq_true rfl⟩ ⟨(by show _ ≤ 86000; omega), (by show _ ≤ 4530000; omega)⟩ dL_lines_292) hW (fun r292 G292 H locs hp292 hW => ?_)
                                    obtain ⟨hG, rfl⟩ := hp292
                                    have hG : lG cs G292 ob N tx inp (zart a0) c0 hs := (by have z9 := hG; rw [zlq_n hza0 (by omega)] at z9; exact z9)
                                    refine z_top (y := -11) (by rw [zlq_n hza0 (by omega)]; rfl) ?_
                                    refine z_bipush hx hb dL_lines_295 (by decide) ?_
                                    refine z_icmp_eq (tgt := 302) hx hb dL_lines_297 (by decide) (by decide) (by decide) (fun c_42 => ?_) (fun c_42 => ?_)
                                    · skip
                                      refine W.widen (k := (17000 * k.toNat + 14440)) (n := (905000 * k.toNat + 812600)) (by omega) (by omega) ?_
                                      exact J302_k_26  G292 (zart a0)   hG _ _ hW ls (lv_sub hl [0, 1, 2, 3, 4, 5, 6, 7, 8, 9, 10] rfl)
                                    · skip
                                      exfalso; omega
                          · skip
                            have hza2 : zal c0 k = (2, []) := zal_2 hfa (hz5.elim And.left (fun z => by omega))
                            refine lv_aload_n hx hb dL_lines_203 rfl (lv_at hl 10 rfl) ?_
                            refine lv_iload_n hx hb dL_lines_204 rfl (lv_at hl 8 rfl) ?_
                            refine z_cGi hC (z_frSW (rest := []) (As := [.ref ob, .int (iI k)]) (n := 2) hC hW.g (lw_lineCount l D cs (zfA G5 _) G5 ob k N tx inp (zart a0) c0 hs hlt hG (by omega)) (zgsW qm_L_332 qt_L_lineCount qn_L qc_L_lineCount) he_L_lineCount rfl hl rfl (Nat.le_of_ble_eq_true rfl) ⟨Nat.le_of_ble_eq_true rfl, Nat.le_of_ble_eq_true rfl⟩ ⟨(by show _ ≤ 86000; omega), (by show _ ≤ 4530000; omega)⟩ dL_lines_205) hW (fun r205 G205 H locs hp205 hW => ?_)
                            obtain ⟨hG, rfl⟩ := hp205
                            refine z_top (y := -15) (by unfold sLn; rw [hza2]; rfl) ?_
                            refine z_bipush hx hb dL_lines_208 (by decide) ?_
                            refine z_icmp_ne (tgt := 245) hx hb dL_lines_210 (by decide) (by decide) (by decide) (fun c_43 => ?_) (fun c_43 => ?_)
                            · skip
                              exfalso; omega
                            · skip
                              refine lv_aload_n hx hb dL_lines_213 rfl (lv_at hl 10 rfl) ?_
                              refine lv_iload_n hx hb dL_lines_214 rfl (lv_at hl 8 rfl) ?_
                              refine z_cGi hC (z_frSW (rest := []) (As := [.ref ob, .int (iI k)]) (n := 2) hC hW.g (lw_hyphens l D cs (zfA G205 _) G205 ob k N tx inp (zart a0) c0 hs hlt hG (by omega)) (zgsW qm_L_334 qt_L_hyphens qn_L qc_L_hyphens) he_L_hyphens rfl hl rfl (Nat.le_of_ble_eq_true rfl) ⟨Nat.le_of_ble_eq_true rfl, Nat.le_of_ble_eq_true rfl⟩ ⟨(by show _ ≤ 86000; omega), (by show _ ≤ 4530000; omega)⟩ dL_lines_215) hW (fun r215 G215 H locs hp215 hW => ?_)
                              obtain ⟨hG, rfl⟩ := hp215
                              refine z_top (y := -15) (by unfold sLn; rw [hza2]; rfl) ?_
                              refine z_bipush hx hb dL_lines_218 (by decide) ?_
                              refine z_icmp_ne (tgt := 245) hx hb dL_lines_220 (by decide) (by decide) (by decide) (fun c_44 => ?_) (fun c_44 => ?_)
                              · skip
                                exfalso; omega
                              · skip
                                refine lv_aload_n hx hb dL_lines_223 rfl (lv_at hl 10 rfl) ?_
                                refine lv_iload_n hx hb dL_lines_224 rfl (lv_at hl 8 rfl) ?_
                                refine z_iconst hx hb dL_lines_225 ?_
                                refine z_cGi hC (z_frSW (rest := []) (As := [.ref ob, .int (iI k), .int (iI 0)]) (n := 3) hC hW.g (lw_lineLength l D cs (zfA G215 _) G215 ob k 0 N tx inp (zart a0) c0 hs hlt hG (by omega) (by decide)) (zgsW qm_L_337 qt_L_lineLength qn_L qc_L_lineLength) he_L_lineLength rfl hl rfl (Nat.le_of_ble_eq_true rfl) ⟨Nat.le_of_ble_eq_true rfl, Nat.le_of_ble_eq_true rfl⟩ ⟨(by show _ ≤ 86000; omega), (by show _ ≤ 4530000; omega)⟩ dL_lines_226) hW (fun r226 G226 H locs hp226 hW => ?_)
                                obtain ⟨hG, rfl⟩ := hp226
                                refine z_top (y := -15) (by rw [zlq_e hza2 (by decide)]; rfl) ?_
                                refine z_bipush hx hb dL_lines_229 (by decide) ?_
                                refine z_icmp_ne (tgt := 245) hx hb dL_lines_231 (by decide) (by decide) (by decide) (fun c_45 => ?_) (fun c_45 => ?_)
                                · skip
                                  exfalso; omega
                                · skip
                                  refine lv_aload_n hx hb dL_lines_234 rfl (lv_at hl 10 rfl) ?_
                                  refine lv_iload_n hx hb dL_lines_235 rfl (lv_at hl 8 rfl) ?_
                                  refine z_iconst hx hb dL_lines_236 ?_
                                  refine z_cGi hC (z_frSW (rest := []) (As := [.ref ob, .int (iI k), .int (iI 0)]) (n := 3) hC hW.g (lw_writeLine l D cs (zfA G226 _) G226 ob k 0 N tx inp (zart a0) c0 hs hlt hG (by omega) (by decide)) (zgsW qm_L_339 qt_L_writeLine qn_L qc_L_writeLine) he_L_writeLine rfl hl rfl (Nat.le_of_ble_eq_true rfl) ⟨Nat.le_of_ble_eq_true rfl, Nat.le_of_ble_eq_true rfl⟩ ⟨(by show _ ≤ 86000; omega), (by show _ ≤ 4530000; omega)⟩ dL_lines_237) hW (fun r237 G237 H locs hp237 hW => ?_)
                                  obtain ⟨hG, rfl⟩ := hp237
                                  have hG : lG cs G237 ob N tx inp (zart a0) c0 hs := (by have z9 := hG; rw [zlq_e hza2 (by decide)] at z9; exact z9)
                                  refine z_top (y := -15) (by rw [zlq_e hza2 (by decide)]; rfl) ?_
                                  refine z_bipush hx hb dL_lines_240 (by decide) ?_
                                  refine z_icmp_eq (tgt := 247) hx hb dL_lines_242 (by decide) (by decide) (by decide) (fun c_46 => ?_) (fun c_46 => ?_)
                                  · skip
                                    refine lv_iload hx hb dL_lines_247 (lv_at hl 5 rfl) ?_
                                    refine z_if_le (tgt := 302) hx hb dL_lines_249 (by decide) (by omega) (fun c_47 => ?_) (fun c_47 => ?_)
                                    · skip
                                      refine W.widen (k := (17000 * k.toNat + 14440)) (n := (905000 * k.toNat + 812600)) (by omega) (by omega) ?_
                                      exact J302_k_26  G237 (zart a0)   hG _ _ hW ls (lv_sub hl [0, 1, 2, 3, 4, 5, 6, 7, 8, 9, 10] rfl)
                                    · skip
                                      exfalso; omega
                                  · skip
                                    exfalso; omega
                        refine lv_iload hx hb dL_lines_163 (lv_at hl 5 rfl) ?_
                        refine z_if_le (tgt := 172) hx hb dL_lines_165 (by decide) (by omega) (fun c_48 => ?_) (fun c_48 => ?_)
                        · skip
                          refine z_iconst hx hb dL_lines_172 ?_
                          refine z_icmp_ne (tgt := 196) hx hb dL_lines_173 (by decide) (by omega) (by decide) (fun c_49 => ?_) (fun c_49 => ?_)
                          · skip
                            exfalso; omega
                          · skip
                            refine lv_aload_n hx hb dL_lines_176 rfl (lv_at hl 10 rfl) ?_
                            refine lv_iload_n hx hb dL_lines_177 rfl (lv_at hl 8 rfl) ?_
                            refine z_cGi hC (z_frSW (rest := []) (As := [.ref ob, .int (iI k)]) (n := 2) hC hW.g (lw_badness l D cs (zfA G160 _) G160 ob k N tx inp (zart a0) c0 hs hlt hG (by omega)) (zgsW qm_L_321 qt_L_badness qn_L qc_L_badness) he_L_badness rfl hl rfl (Nat.le_of_ble_eq_true rfl) ⟨Nat.le_of_ble_eq_true rfl, Nat.le_of_ble_eq_true rfl⟩ ⟨(by show _ ≤ 86000; omega), (by show _ ≤ 4530000; omega)⟩ dL_lines_178) hW (fun r178 G178 H locs hp178 hW => ?_)
                            obtain ⟨hG, rfl⟩ := hp178
                            refine z_top (y := le) hle3 ?_
                            refine lv_iload hx hb dL_lines_181 (lv_at hl 0 rfl) ?_
                            refine z_icmp_ne (tgt := 196) hx hb dL_lines_183 (by decide) (by omega) (by omega) (fun c_50 => ?_) (fun c_50 => ?_)
                            · skip
                              exfalso; omega
                            · skip
                              refine lv_aload_n hx hb dL_lines_186 rfl (lv_at hl 10 rfl) ?_
                              refine lv_iload_n hx hb dL_lines_187 rfl (lv_at hl 8 rfl) ?_
                              refine z_cGi hC (z_frSW (rest := []) (As := [.ref ob, .int (iI k)]) (n := 2) hC hW.g (lw_forward l D cs (zfA G178 _) G178 ob k N tx inp (zart a0) c0 hs hlt hG (by omega)) (zgsW qm_L_329 qt_L_forward qn_L qc_L_forward) he_L_forward rfl hl rfl (Nat.le_of_ble_eq_true rfl) ⟨Nat.le_of_ble_eq_true rfl, Nat.le_of_ble_eq_true rfl⟩ ⟨(by show _ ≤ 86000; omega), (by show _ ≤ 4530000; omega)⟩ dL_lines_188) hW (fun r188 G188 H locs hp188 hW => ?_)
                              obtain ⟨hG, rfl⟩ := hp188
                              refine z_top (y := le) hle3 ?_
                              refine lv_iload hx hb dL_lines_191 (lv_at hl 0 rfl) ?_
                              refine z_icmp_eq (tgt := 198) hx hb dL_lines_193 (by decide) (by omega) (by omega) (fun c_51 => ?_) (fun c_51 => ?_)
                              · skip
                                refine W.widen (k := (17000 * k.toNat + 14420)) (n := (905000 * k.toNat + 812480)) (by omega) (by omega) ?_
                                exact J198_k_25  G188   hG _ _ hW ls (lv_sub hl [0, 1, 2, 3, 4, 5, 6, 7, 8, 9, 10] rfl)
                              · skip
                                exfalso; omega
                        · skip
                          refine z_iconst hx hb dL_lines_168 ?_
                          refine lv_goto (tgt := 173) hx hb dL_lines_169 (by decide) ?_
                          refine z_icmp_ne (tgt := 196) hx hb dL_lines_173 (by decide) (by omega) (by decide) (fun c_52 => ?_) (fun c_52 => ?_)
                          · skip
                            exfalso; omega
                          · skip
                            refine lv_aload_n hx hb dL_lines_176 rfl (lv_at hl 10 rfl) ?_
                            refine lv_iload_n hx hb dL_lines_177 rfl (lv_at hl 8 rfl) ?_
                            refine z_cGi hC (z_frSW (rest := []) (As := [.ref ob, .int (iI k)]) (n := 2) hC hW.g (lw_badness l D cs (zfA G160 _) G160 ob k N tx inp (zart a0) c0 hs hlt hG (by omega)) (zgsW qm_L_321 qt_L_badness qn_L qc_L_badness) he_L_badness rfl hl rfl (Nat.le_of_ble_eq_true rfl) ⟨Nat.le_of_ble_eq_true rfl, Nat.le_of_ble_eq_true rfl⟩ ⟨(by show _ ≤ 86000; omega), (by show _ ≤ 4530000; omega)⟩ dL_lines_178) hW (fun r178 G178 H locs hp178 hW => ?_)
                            obtain ⟨hG, rfl⟩ := hp178
                            refine z_top (y := le) hle3 ?_
                            refine lv_iload hx hb dL_lines_181 (lv_at hl 0 rfl) ?_
                            refine z_icmp_ne (tgt := 196) hx hb dL_lines_183 (by decide) (by omega) (by omega) (fun c_53 => ?_) (fun c_53 => ?_)
                            · skip
                              exfalso; omega
                            · skip
                              refine lv_aload_n hx hb dL_lines_186 rfl (lv_at hl 10 rfl) ?_
                              refine lv_iload_n hx hb dL_lines_187 rfl (lv_at hl 8 rfl) ?_
                              refine z_cGi hC (z_frSW (rest := []) (As := [.ref ob, .int (iI k)]) (n := 2) hC hW.g (lw_forward l D cs (zfA G178 _) G178 ob k N tx inp (zart a0) c0 hs hlt hG (by omega)) (zgsW qm_L_329 qt_L_forward qn_L qc_L_forward) he_L_forward rfl hl rfl (Nat.le_of_ble_eq_true rfl) ⟨Nat.le_of_ble_eq_true rfl, Nat.le_of_ble_eq_true rfl⟩ ⟨(by show _ ≤ 86000; omega), (by show _ ≤ 4530000; omega)⟩ dL_lines_188) hW (fun r188 G188 H locs hp188 hW => ?_)
                              obtain ⟨hG, rfl⟩ := hp188
                              refine z_top (y := le) hle3 ?_
                              refine lv_iload hx hb dL_lines_191 (lv_at hl 0 rfl) ?_
                              refine z_icmp_eq (tgt := 198) hx hb dL_lines_193 (by decide) (by omega) (by omega) (fun c_54 => ?_) (fun c_54 => ?_)
                              · skip
                                refine W.widen (k := (17000 * k.toNat + 14420)) (n := (905000 * k.toNat + 812480)) (by omega) (by omega) ?_
                                exact J198_k_25  G188   hG _ _ hW ls (lv_sub hl [0, 1, 2, 3, 4, 5, 6, 7, 8, 9, 10] rfl)
                              · skip
                                exfalso; omega
                    refine lv_iload hx hb dL_lines_108 (lv_at hl 3 rfl) ?_
                    refine lv_aload_n hx hb dL_lines_110 rfl (lv_at hl 10 rfl) ?_
                    obtain ⟨⟨g, sa, so, hL, sv, er, fa, hg⟩, hK, hh8, hhs, htz, ht60, hin, hN9⟩ := id hG
                    obtain ⟨cap, hso⟩ := hg.2.2.2.2.1
                    have hwi := hK.2.2.2.2.2.2.2.2.1
                    refine z_cGi hC (z_frV (rest := [.int (iI mx)]) (As := []) (n := 0) (ci := 15) hC hW.g (met_X12_width l D cs (zfA G18 _) G18 ob g sa so er fa c0 hg.1 (hg.2.2.2.2.2.2.2.2.2.1.mono zrm_le)) gv_L_307 hd_X12_width rfl hg.1 rfl hl rfl (Nat.le_of_ble_eq_true rfl) ⟨Nat.le_of_ble_eq_true rfl, Nat.le_of_ble_eq_true rfl⟩ ⟨(by show _ ≤ 86000; omega), (by show _ ≤ 4530000; omega)⟩ dL_lines_111) hW (fun r111 G111 H locs hp111 hW => ?_)
                    obtain ⟨rfl, rfl⟩ := hp111
                    refine z_icmp_le (tgt := 122) hx hb dL_lines_114 (by decide) (by omega) (by omega) (fun c_55 => ?_) (fun c_55 => ?_)
                    · skip
                      have hfit : ∀ x ∈ a0.2.2, (x.length : Int) ≤ cWi c0 := fun x hx => by have z8 := hmx3.1 x hx; omega
                      have hzf : zfit (cWi c0) (zlW a0.2.2) := zlens_fit hao hfit
                      have hlb := zlb_r (k := 0) hwi.2 hzf hao.2.2.1.2
                      refine lv_aload_n hx hb dL_lines_122 rfl (lv_at hl 7 rfl) ?_
                      obtain ⟨fa_56, hfa_56, h2fa_56⟩ := id hs_17
                      refine z_alen (t := 7) hC hW.x hfa_56 rfl dL_lines_123 ?_
                      refine z_bipush hx hb dL_lines_124 (by decide) ?_
                      refine z_icmp_le (tgt := 137) hx hb dL_lines_126 (by decide) (by omega) (by decide) (fun c_57 => ?_) (fun c_57 => ?_)
                      · skip
                        refine lv_aload_n hx hb dL_lines_137 rfl (lv_at hl 7 rfl) ?_
                        refine lv_aload_n hx hb dL_lines_138 rfl (lv_at hl 10 rfl) ?_
                        obtain ⟨⟨g, sa, so, hL, sv, er, fa, hg⟩, hK, hh8, hhs, htz, ht60, hin, hN9⟩ := id hG
                        obtain ⟨cap, hso⟩ := hg.2.2.2.2.1
                        have hwi := hK.2.2.2.2.2.2.2.2.1
                        refine z_cGi hC (z_frV (rest := [.ref r18]) (As := []) (n := 0) (ci := 15) hC hW.g (met_X12_width l D cs (zfA G18 _) G18 ob g sa so er fa c0 hg.1 (hg.2.2.2.2.2.2.2.2.2.1.mono zrm_le)) gv_L_307 hd_X12_width rfl hg.1 rfl hl rfl (Nat.le_of_ble_eq_true rfl) ⟨Nat.le_of_ble_eq_true rfl, Nat.le_of_ble_eq_true rfl⟩ ⟨(by show _ ≤ 86000; omega), (by show _ ≤ 4530000; omega)⟩ dL_lines_139) hW (fun r139 G139 H locs hp139 hW => ?_)
                        obtain ⟨rfl, rfl⟩ := hp139
                        refine z_iconst hx hb dL_lines_142 ?_
                        refine z_cXi hC (z_frS (rest := []) (As := [.ref r18, .int (iI (cWi c0)), .int (iI 0)]) (n := 3) hC hW.x (lm_least9 l D cs (zfA X47 _) X47 r18 a0.2.2 (cWi c0) 0 hs_17 hzf hwi (by omega) (by omega) (by omega)) gs_L_298 he_L_leastOf rfl hl rfl (Nat.le_of_ble_eq_true rfl) ⟨Nat.le_of_ble_eq_true rfl, Nat.le_of_ble_eq_true rfl⟩ ⟨(by show _ ≤ 86000; omega), (by show _ ≤ 4530000; omega)⟩ dL_lines_143) hW (fun r143 X143 H locs hp143 hW => ?_)
                        obtain ⟨rfl, rfl⟩ := hp143
                        refine z_top (y := (zlb (cWi c0) ((zlens a0).drop 0))) rfl ?_
                        exact J146_k_23 (zlb (cWi c0) ((zlens a0).drop 0)) G18  (by omega) hG (by rw [sLb_y hfa hfit]; rfl) _ _ hW ls (lv_sub hl [0, 1, 2, 3, 4, 5, 6, 7, 8, 9, 10] rfl)
                      · skip
                        exfalso; omega
                    · skip
                      have hnf : hnfP (cWi c0) a0.2.2 := by
                        rcases hmx3.2 with z | ⟨x, z1, z2⟩
                        · omega
                        · exact ⟨x, z1, by omega⟩
                      refine z_bipush hx hb dL_lines_117 (by decide) ?_
                      refine lv_goto (tgt := 146) hx hb dL_lines_119 (by decide) ?_
                      exact J146_k_23 (-15) G18  (by omega) hG (by rw [sLb_no hfa hnf]; rfl) _ _ hW ls (lv_sub hl [0, 1, 2, 3, 4, 5, 6, 7, 8, 9, 10] rfl)
                  · skip
                    have hwk := gD_wd (k := i) hwdk (by omega) (by omega)
                    have hwl2 := hwk.2.1
                    refine lv_aload hx hb dL_lines_83 (lv_at hl 2 rfl) ?_
                    refine lv_iload hx hb dL_lines_85 (lv_at hl 0 rfl) ?_
                    obtain ⟨fa_58, hfa_58, h2fa_58⟩ := id hs_17
                    obtain ⟨q87, vq87, h3fa_58, hsq87⟩ := h2fa_58 i (by omega) (by omega)
                    refine z_aald (t := 7) (C := "java/lang/String") (v := some q87) hC hW.x hfa_58 rfl (by omega) (by omega) h3fa_58 dL_lines_87 ?_
                    refine lv_astore (lv' := [(11, .ref q87), (10, .int (iI i)), (9, .int (iI (a0.2.2.length : Int))), (8, .ref r18), (7, .int (iI mx)), (6, .int (iI ww)), (5, .int (iI (LS.length : Int))), (4, .ref r27), (3, .ref r18), (2, .int (iI k)), (1, .int (iI k)), (0, .ref ob)]) hx hb dL_lines_88 hl (by decide) rfl (fun ls hl => ?_)
                    refine lv_iload hx hb dL_lines_90 (lv_at hl 4 rfl) ?_
                    refine lv_aload hx hb dL_lines_92 (lv_at hl 0 rfl) ?_
                    refine z_cXi hC (z_frSt (rest := [.int (iI mx)]) (As := []) (n := 0) hC hW.x (mes_length l D cs (zfA X47 _) X47 q87 vq87 (a0.2.2.getD i.toNat []) hsq87) gv_L_138 hd_J0_length_8abf5 hsq87 rfl hl rfl (Nat.le_of_ble_eq_true rfl) ⟨Nat.le_of_ble_eq_true rfl, Nat.le_of_ble_eq_true rfl⟩ ⟨(by show _ ≤ 86000; omega), (by show _ ≤ 4530000; omega)⟩ dL_lines_94) hW (fun r94 X94 H locs hp94 hW => ?_)
                    obtain ⟨rfl, rfl⟩ := hp94
                    refine z_mmax (rest := []) hC hl qm_L_318 (by omega) (by omega) ⟨Nat.le_of_ble_eq_true rfl, Nat.le_of_ble_eq_true rfl⟩ ⟨(by show _ ≤ 86000; omega), (by show _ ≤ 4530000; omega)⟩ dL_lines_97 (fun r97 hmx97 => ?_)
                    refine lv_istore (lv' := [(7, .int (iI r97)), (11, .ref q87), (10, .int (iI i)), (9, .int (iI (a0.2.2.length : Int))), (8, .ref r18), (6, .int (iI ww)), (5, .int (iI (LS.length : Int))), (4, .ref r27), (3, .ref r18), (2, .int (iI k)), (1, .int (iI k)), (0, .ref ob)]) hx hb dL_lines_100 hl (by decide) rfl (fun ls hl => ?_)
                    refine z_iinc (lv' := [(10, .int (iI (i + 1))), (7, .int (iI r97)), (11, .ref q87), (9, .int (iI (a0.2.2.length : Int))), (8, .ref r18), (6, .int (iI ww)), (5, .int (iI (LS.length : Int))), (4, .ref r27), (3, .ref r18), (2, .int (iI k)), (1, .int (iI k)), (0, .ref ob)]) hx hb dL_lines_102 hl (k := 2) rfl (by decide) rfl (fun ls hl => ?_)
                    refine lv_goto (tgt := 76) hx hb dL_lines_105 (by decide) ?_
                    exact ih76 (i + 1) r97  (by omega) (by omega) (by omega) (mx_s hmx (by omega) (by omega) hmx97) _ _ hW ls (lv_sub hl [0, 3, 4, 1, 5, 6, 7, 8, 9, 10, 11] rfl)
              exact L76_k_21 _ 0 0  (Nat.lt_succ_self _) (by omega) (by omega) ⟨fun x hx => absurd hx List.not_mem_nil, Or.inl rfl⟩ _ _ hW ls (lv_sub hl [0, 1, 2, 3, 4, 5, 6, 7, 8, 9, 10] rfl)
            · skip
              have hzn := (zLt_0 (w := ww) (ws := a0.2.2)).mp (by omega)
              have hw12 : ww < 12 := Decidable.byContradiction (fun q => zlines_fit (by omega) hwdk hzn)
              refine z_iinc (lv' := [(6, .int (iI (ww + 1))), (5, .int (iI (LS.length : Int))), (4, .ref r27), (3, .ref r18), (2, .int (iI k)), (1, .int (iI k)), (0, .ref ob)]) hx hb dL_lines_56 hl (k := 0) rfl (by decide) rfl (fun ls hl => ?_)
              refine lv_goto (tgt := 44) hx hb dL_lines_59 (by decide) ?_
              refine W.widen (k := (17000 * k.toNat + 2710 + 1300 * ((ww + 1) - 4).toNat)) (n := (905000 * k.toNat + 92420 + 80000 * ((ww + 1) - 4).toNat)) (by omega) (by omega) ?_
              exact ih44 (ww + 1) X47 (by omega) (by omega) (by rw [hi44_1, show (20 - ww).toNat = (20 - (ww + 1)).toNat + 1 by omega, zsm_n hzn]) hle_18 hs_16 hs_17 _ _ hW ls (lv_sub hl [0, 1, 2, 3, 4, 5, 6] rfl)
        refine W.widen (k := (17000 * k.toNat + 2710 + 1300 * ((4 : Int) - 4).toNat)) (n := (905000 * k.toNat + 92420 + 80000 * ((4 : Int) - 4).toNat)) (by omega) (by omega) ?_
        exact L44_k_15 _ 4 X27 (Nat.lt_succ_self _) (by omega) rfl hle_14 hq27 hs_13 _ _ hW ls (lv_sub hl [0, 1, 2, 3, 4, 5, 6] rfl)
  refine W.widen (k := (17000 * (0 : Int).toNat)) (n := (905000 * (0 : Int).toNat)) (by omega) (by omega) ?_
  exact L2_k_1 _ 0 G X out (Nat.lt_succ_self _) (by omega) hG zle.refl _ _ hW ls (lv_sub hl [0, 1] rfl)

