theorem oPg.o {cs : Nat → ClassId} {F : zF} {a : Nat} {x : zIs} (h : oPg cs F a x) : ∃ fs, F a = some (.inr (12, fs)) := by
  obtain ⟨ia, la, f, g, h1, -⟩ := h
  exact ⟨_, h1⟩
theorem oIs.o {cs : Nat → ClassId} {F : zF} {a : Nat} {da : Int} {x : zIs} (h : oIs cs F a da x) : ∃ fs, F a = some (.inr (10, fs)) := by
  obtain ⟨ia, h1, -⟩ := h
  exact ⟨_, h1⟩
theorem tk_at {l : List (Int × Int)} {k : Int} (h0 : 0 ≤ k) (h1 : k < l.length) : l[k.toNat]? = some (l.getD k.toNat (0, 0)) := by
  have hl : k.toNat < l.length := by omega
  rw [List.getD_eq_getElem?_getD, List.getElem?_eq_getElem hl]
  rfl
theorem zft_n {s : zIs} {x : Int} (h : ∀ j : Int, 0 ≤ j → j < (iTk s).length → ((iTk s).getD j.toNat (0, 0)).1 ≠ x) : zft s x = none := by
  unfold zft
  rw [Option.map_eq_none_iff, List.find?_eq_none]
  intro q hq
  obtain ⟨j, hj⟩ := List.getElem?_of_mem hq
  have hl := (List.getElem?_eq_some_iff.mp hj).1
  have h2 := h j (by omega) (by omega)
  rw [Int.toNat_natCast, List.getD_eq_getElem?_getD, hj] at h2
  simpa using h2
theorem zft_y {s : zIs} {x k : Int} (h0 : 0 ≤ k) (h1 : k < (iTk s).length) (hx : ((iTk s).getD k.toNat (0, 0)).1 = x) (h : ∀ j : Int, 0 ≤ j → j < k → ((iTk s).getD j.toNat (0, 0)).1 ≠ x) : zft s x = some ((iTk s).getD k.toNat (0, 0)).2 := by
  unfold zft
  have hf : (iTk s).find? (fun q => q.1 == x) = some ((iTk s).getD k.toNat (0, 0)) := by
    obtain ⟨hl, hv⟩ := List.getElem?_eq_some_iff.mp (tk_at h0 h1)
    refine List.find?_eq_some_iff_getElem.mpr ⟨(show (((iTk s).getD k.toNat (0, 0)).1 == x) = true by rw [hx]; exact beq_self_eq_true x), k.toNat, hl, hv, fun j hj => ?_⟩
    have h2 := h j (by omega) (by omega)
    rw [Int.toNat_natCast, List.getD_eq_getElem?_getD, List.getElem?_eq_getElem (by omega)] at h2
    simpa using h2
  rw [hf]
  rfl
theorem tk_ok {ni nn da : Int} {s : zIs} (h : isOK ni nn da s) {k : Int} (h0 : 0 ≤ k) (h1 : k < (iTk s).length) : (0 ≤ ((iTk s).getD k.toNat (0, 0)).1 ∧ ((iTk s).getD k.toNat (0, 0)).1 < ni) ∧ 0 ≤ ((iTk s).getD k.toNat (0, 0)).2 ∧ ((iTk s).getD k.toNat (0, 0)).2 < iLi s := h.2.2.2.2.2.1 _ (List.mem_of_getElem? (tk_at h0 h1))
theorem zfr_read (n : Nat) : (Op.cmpValue (FP.fcmp (zfr n) 1048576000) .l).toInt < 0 ↔ ¬ n < 5 := by
  have h := zchk_all 370 0 zfr_tab n (Nat.zero_le _)
  rw [Bool.and_eq_true] at h
  have h2 := eq_of_beq h.2
  have h3 : Op.cmpValue (FP.fcmp (zfr n) 1048576000) .l < 0 ↔ ¬ n < 5 := by
    by_cases q : n < 5
    · rw [decide_eq_true q] at h2
      exact ⟨fun z => absurd z (of_decide_eq_false h2), fun z => absurd q z⟩
    · rw [decide_eq_false q] at h2
      exact ⟨fun _ => q, fun _ => of_decide_eq_true h2⟩
  rw [← h3, Int32.lt_iff_toInt_lt]
  exact Iff.rfl
set_option maxHeartbeats 4000000 in
set_option maxRecDepth 100000 in
theorem met_X9_firstLineOf (l : Launch) (D : va_G) (cs : Nat → ClassId) (A : Nat → Prop) (F : zF) (a : Nat) (s1 : zIs) (x : Int)  (hs1 : oPg cs F a s1) (hx0 : InR x) : zM l D cs A yX9_firstLineOf cX9_firstLineOf 3 (some FieldType.int) 1 0 0 [.ref a, .int (iI x)] F (pI (fun r F1 => F = F1 ∧ ((zft s1 x = none ∧ r = -1) ∨ (zft s1 x = some r ∧ 0 ≤ r ∧ r < iLi s1)))) := by
  refine zM_of (own := RX9) (by decide) rfl (Nat.le_of_ble_eq_true rfl) ?_
  intro p e s m below meth c hC hr hlk hnm hZ ls hl
  have hx := hC.x
  have hb := hC.b
  have hl : lv_has ls 3 [(0, .ref a), (1, .int (iI x))] := hl
  obtain ⟨ia, la, f_, g_, h0, h1, h2, h3, hso⟩ := id hs1
  obtain ⟨ho1, ho2, ho3, ho4, ho5, ho6, ho7, ho8⟩ := id hso
  have hpg := isOK_pg hso
  refine z_iconst hx hb dX9_firstLineOf_0 ?_
  refine lv_istore_n (lv' := [(2, .int (iI 0)), (0, .ref a), (1, .int (iI x))]) hx hb dX9_firstLineOf_1 rfl hl (by decide) rfl (fun ls hl => ?_)
  have L2_k_1 : ∀ (fu : Nat) (k : Int)  (hfu : (((iTk s1).length : Int) - k).toNat < fu) (hi2_0 : 0 ≤ k ∧ k ≤ ((iTk s1).length : Int)) (hi2_1 : ∀ j : Int, 0 ≤ j → j < k → ((iTk s1).getD j.toNat (0, 0)).1 ≠ x) (H : Heap) (locs : List Loc) (hZ : zS D A s F H locs) (ls : Array Slot) (hl : lv_has ls 3 [(2, .int (iI k)), (0, .ref a), (1, .int (iI x))]), W p l e (zR 1 0 0) s m [.ref a, .int (iI x)].toArray below meth c H locs 0 0 (MQ below (zQ D A (pI (fun r F1 => F = F1 ∧ ((zft s1 x = none ∧ r = -1) ∨ (zft s1 x = some r ∧ 0 ≤ r ∧ r < iLi s1))))) [.ref a, .int (iI x)].toArray s 0 0 A) (F0 m 2 ls []) := by
    intro fu
    induction fu with
    | zero =>
      intro k  hfu
      exact absurd hfu (Nat.not_lt_zero _)
    | succ fu ih2 =>
      intro k  hfu hi2_0 hi2_1  H locs hZ ls hl
      refine lv_iload_n hx hb dX9_firstLineOf_2 rfl (lv_at hl 0 rfl) ?_
      refine lv_aload_n hx hb dX9_firstLineOf_3 rfl (lv_at hl 1 rfl) ?_
      refine z_get (T := TX9) (N := 6) (ci := 12) (k := 4) (fs := [.int (iI (iCo s1)), .int (iI (iHe s1)), .ref ia, .ref la, .int (iI ((iTk s1).length)), .int (iI (iLi s1))]) (v := .int (iI ((iTk s1).length))) hC hZ in_X9 rfl (by decide) ql_X9_18 rfl h0 rfl dX9_firstLineOf_4 ?_
      refine z_icmp_ge (tgt := 51) hx hb dX9_firstLineOf_7 (by decide) (by omega) (by omega) (fun c_2 => ?_) (fun c_2 => ?_)
      · skip
        have hfin : zft s1 x = none := zft_n (fun j y1 y2 => hi2_1 j y1 (by omega))
        refine z_iconst hx hb dX9_firstLineOf_51 ?_
        exact z_iret hC hr hlk hZ (by decide) (by decide) (⟨rfl, Or.inl ⟨hfin, rfl⟩⟩) dX9_firstLineOf_52
      · skip
        refine lv_iload_n hx hb dX9_firstLineOf_10 rfl (lv_at hl 0 rfl) ?_
        refine lv_aload_n hx hb dX9_firstLineOf_11 rfl (lv_at hl 1 rfl) ?_
        refine z_get (T := TX9) (N := 6) (ci := 12) (k := 2) (fs := [.int (iI (iCo s1)), .int (iI (iHe s1)), .ref ia, .ref la, .int (iI ((iTk s1).length)), .int (iI (iLi s1))]) (v := .ref ia) hC hZ in_X9 rfl (by decide) ql_X9_9 rfl h0 rfl dX9_firstLineOf_12 ?_
        refine z_alen (t := 2) hC hZ h1 rfl dX9_firstLineOf_15 ?_
        refine z_top (y := 6) rfl ?_
        refine z_icmp_ge (tgt := 51) hx hb dX9_firstLineOf_16 (by decide) (by omega) (by decide) (fun c_3 => ?_) (fun c_3 => ?_)
        · skip
          exfalso; omega
        · skip
          refine lv_iload_n hx hb dX9_firstLineOf_19 rfl (lv_at hl 0 rfl) ?_
          refine lv_aload_n hx hb dX9_firstLineOf_20 rfl (lv_at hl 1 rfl) ?_
          refine z_get (T := TX9) (N := 6) (ci := 12) (k := 3) (fs := [.int (iI (iCo s1)), .int (iI (iHe s1)), .ref ia, .ref la, .int (iI ((iTk s1).length)), .int (iI (iLi s1))]) (v := .ref la) hC hZ in_X9 rfl (by decide) ql_X9_15 rfl h0 rfl dX9_firstLineOf_21 ?_
          refine z_alen (t := 2) hC hZ h2 rfl dX9_firstLineOf_24 ?_
          refine z_top (y := 6) rfl ?_
          refine z_icmp_ge (tgt := 51) hx hb dX9_firstLineOf_25 (by decide) (by omega) (by decide) (fun c_4 => ?_) (fun c_4 => ?_)
          · skip
            exfalso; omega
          · skip
            refine lv_aload_n hx hb dX9_firstLineOf_28 rfl (lv_at hl 1 rfl) ?_
            refine z_get (T := TX9) (N := 6) (ci := 12) (k := 2) (fs := [.int (iI (iCo s1)), .int (iI (iHe s1)), .ref ia, .ref la, .int (iI ((iTk s1).length)), .int (iI (iLi s1))]) (v := .ref ia) hC hZ in_X9 rfl (by decide) ql_X9_9 rfl h0 rfl dX9_firstLineOf_29 ?_
            refine lv_iload_n hx hb dX9_firstLineOf_32 rfl (lv_at hl 0 rfl) ?_
            refine z_iald hC hZ h1 (by show _ ∧ _ < (6 : Int); omega) (by decide) dX9_firstLineOf_33 ?_
            have h3k := h3 k (by omega) (by omega)
            have hok := tk_ok hso (k := k) (by omega) (by omega)
            refine lv_iload_n hx hb dX9_firstLineOf_34 rfl (lv_at hl 2 rfl) ?_
            refine z_icmp_ne (tgt := 45) hx hb dX9_firstLineOf_35 (by decide) (by omega) (by omega) (fun c_5 => ?_) (fun c_5 => ?_)
            · skip
              have hne : ((iTk s1).getD k.toNat (0, 0)).1 ≠ x := by rw [← h3k.1]; assumption
              refine z_iinc (lv' := [(2, .int (iI (k + 1))), (0, .ref a), (1, .int (iI x))]) hx hb dX9_firstLineOf_45 hl (k := 0) rfl (by decide) rfl (fun ls hl => ?_)
              refine lv_goto (tgt := 2) hx hb dX9_firstLineOf_48 (by decide) ?_
              exact ih2 (k + 1)  (by omega) (by omega) (fun j y1 y2 => by by_cases q : j = k; (rw [q]; exact hne); exact hi2_1 j y1 (by omega))  _ _ hZ ls (lv_sub hl [0, 1, 2] rfl)
            · skip
              have hyy := zft_y (k := k) (x := x) (s := s1) (by omega) (by omega) (by rw [← h3k.1]; omega) hi2_1
              refine lv_aload_n hx hb dX9_firstLineOf_38 rfl (lv_at hl 1 rfl) ?_
              refine z_get (T := TX9) (N := 6) (ci := 12) (k := 3) (fs := [.int (iI (iCo s1)), .int (iI (iHe s1)), .ref ia, .ref la, .int (iI ((iTk s1).length)), .int (iI (iLi s1))]) (v := .ref la) hC hZ in_X9 rfl (by decide) ql_X9_15 rfl h0 rfl dX9_firstLineOf_39 ?_
              refine lv_iload_n hx hb dX9_firstLineOf_42 rfl (lv_at hl 0 rfl) ?_
              refine z_iald hC hZ h2 (by show _ ∧ _ < (6 : Int); omega) (by decide) dX9_firstLineOf_43 ?_
              exact z_iret hC hr hlk hZ (by decide) (by decide) (⟨rfl, Or.inr ⟨by rw [hyy, h3k.2], by omega, by omega⟩⟩) dX9_firstLineOf_44
  exact L2_k_1 _ 0  (Nat.lt_succ_self _) (by omega) (fun j h1 h2 => absurd h1 (by omega))  _ _ hZ ls (lv_sub hl [0, 1, 2] rfl)

set_option maxHeartbeats 4000000 in
set_option maxRecDepth 100000 in
theorem met_X9_columnAt (l : Launch) (D : va_G) (cs : Nat → ClassId) (A : Nat → Prop) (F : zF) (a : Nat) (s1 : zIs) (x : Int)  (hs1 : oPg cs F a s1) (hx0 : 0 ≤ x ∧ x ≤ 1000000) : zM l D cs A yX9_columnAt cX9_columnAt 2 (some FieldType.int) 1 0 0 [.ref a, .int (iI x)] F (pI (fun r F1 => F = F1 ∧ x / iHe s1 = r)) := by
  refine zM_of (own := RX9) (by decide) rfl (Nat.le_of_ble_eq_true rfl) ?_
  intro p e s m below meth c hC hr hlk hnm hZ ls hl
  have hx := hC.x
  have hb := hC.b
  have hl : lv_has ls 2 [(0, .ref a), (1, .int (iI x))] := hl
  obtain ⟨ia, la, f_, g_, h0, h1, h2, h3, hso⟩ := id hs1
  obtain ⟨ho1, ho2, ho3, ho4, ho5, ho6, ho7, ho8⟩ := id hso
  have hpg := isOK_pg hso
  refine lv_aload_n hx hb dX9_columnAt_0 rfl (lv_at hl 0 rfl) ?_
  refine z_get (T := TX9) (N := 6) (ci := 12) (k := 1) (fs := [.int (iI (iCo s1)), .int (iI (iHe s1)), .ref ia, .ref la, .int (iI ((iTk s1).length)), .int (iI (iLi s1))]) (v := .int (iI (iHe s1))) hC hZ in_X9 rfl (by decide) ql_X9_28 rfl h0 rfl dX9_columnAt_1 ?_
  refine z_if_le (tgt := 16) hx hb dX9_columnAt_4 (by decide) (by omega) (fun c_1 => ?_) (fun c_1 => ?_)
  · skip
    exfalso; omega
  · skip
    refine lv_iload_n hx hb dX9_columnAt_7 rfl (lv_at hl 1 rfl) ?_
    refine lv_aload_n hx hb dX9_columnAt_8 rfl (lv_at hl 0 rfl) ?_
    refine z_get (T := TX9) (N := 6) (ci := 12) (k := 1) (fs := [.int (iI (iCo s1)), .int (iI (iHe s1)), .ref ia, .ref la, .int (iI ((iTk s1).length)), .int (iI (iLi s1))]) (v := .int (iI (iHe s1))) hC hZ in_X9 rfl (by decide) ql_X9_28 rfl h0 rfl dX9_columnAt_9 ?_
    refine z_idiv hx hb dX9_columnAt_12 (by omega) (by omega) ?_
    refine lv_goto (tgt := 17) hx hb dX9_columnAt_13 (by decide) ?_
    exact z_iret hC hr hlk hZ (by decide) (by decide) (⟨rfl, rfl⟩) dX9_columnAt_17

set_option maxHeartbeats 4000000 in
set_option maxRecDepth 100000 in
theorem met_X9_rowAt (l : Launch) (D : va_G) (cs : Nat → ClassId) (A : Nat → Prop) (F : zF) (a : Nat) (s1 : zIs) (x : Int)  (hs1 : oPg cs F a s1) (hx0 : 0 ≤ x ∧ x ≤ 1000000) : zM l D cs A yX9_rowAt cX9_rowAt 2 (some FieldType.int) 1 0 0 [.ref a, .int (iI x)] F (pI (fun r F1 => F = F1 ∧ x % iHe s1 = r)) := by
  refine zM_of (own := RX9) (by decide) rfl (Nat.le_of_ble_eq_true rfl) ?_
  intro p e s m below meth c hC hr hlk hnm hZ ls hl
  have hx := hC.x
  have hb := hC.b
  have hl : lv_has ls 2 [(0, .ref a), (1, .int (iI x))] := hl
  obtain ⟨ia, la, f_, g_, h0, h1, h2, h3, hso⟩ := id hs1
  obtain ⟨ho1, ho2, ho3, ho4, ho5, ho6, ho7, ho8⟩ := id hso
  have hpg := isOK_pg hso
  refine lv_aload_n hx hb dX9_rowAt_0 rfl (lv_at hl 0 rfl) ?_
  refine z_get (T := TX9) (N := 6) (ci := 12) (k := 1) (fs := [.int (iI (iCo s1)), .int (iI (iHe s1)), .ref ia, .ref la, .int (iI ((iTk s1).length)), .int (iI (iLi s1))]) (v := .int (iI (iHe s1))) hC hZ in_X9 rfl (by decide) ql_X9_28 rfl h0 rfl dX9_rowAt_1 ?_
  refine z_if_le (tgt := 16) hx hb dX9_rowAt_4 (by decide) (by omega) (fun c_1 => ?_) (fun c_1 => ?_)
  · skip
    exfalso; omega
  · skip
    refine lv_iload_n hx hb dX9_rowAt_7 rfl (lv_at hl 1 rfl) ?_
    refine lv_aload_n hx hb dX9_rowAt_8 rfl (lv_at hl 0 rfl) ?_
    refine z_get (T := TX9) (N := 6) (ci := 12) (k := 1) (fs := [.int (iI (iCo s1)), .int (iI (iHe s1)), .ref ia, .ref la, .int (iI ((iTk s1).length)), .int (iI (iLi s1))]) (v := .int (iI (iHe s1))) hC hZ in_X9 rfl (by decide) ql_X9_28 rfl h0 rfl dX9_rowAt_9 ?_
    refine z_irem hx hb dX9_rowAt_12 (by omega) (by omega) ?_
    refine lv_goto (tgt := 17) hx hb dX9_rowAt_13 (by decide) ?_
    exact z_iret hC hr hlk hZ (by decide) (by decide) (⟨rfl, rfl⟩) dX9_rowAt_17

set_option maxHeartbeats 4000000 in
set_option maxRecDepth 100000 in
theorem met_X9_coveredPart (l : Launch) (D : va_G) (cs : Nat → ClassId) (A : Nat → Prop) (F : zF) (a : Nat) (s1 : zIs)  (hs1 : oPg cs F a s1) : zM l D cs A yX9_coveredPart cX9_coveredPart 2 (some FieldType.float) 1 0 0 [.ref a] F (pF (fun r F1 => F = F1 ∧ FP.fdiv (FP.i2f (iI (iLi s1))) (FP.i2f (iI (iCo s1 * iHe s1))) = r)) := by
  refine zM_of (own := RX9) (by decide) rfl (Nat.le_of_ble_eq_true rfl) ?_
  intro p e s m below meth c hC hr hlk hnm hZ ls hl
  have hx := hC.x
  have hb := hC.b
  have hl : lv_has ls 2 [(0, .ref a)] := hl
  obtain ⟨ia, la, f_, g_, h0, h1, h2, h3, hso⟩ := id hs1
  obtain ⟨ho1, ho2, ho3, ho4, ho5, ho6, ho7, ho8⟩ := id hso
  have hpg := isOK_pg hso
  have hfa := i2f_ok (z := iLi s1) (by omega)
  have hfb := i2f_ok (z := iCo s1 * iHe s1) (by omega)
  refine lv_aload_n hx hb dX9_coveredPart_0 rfl (lv_at hl 0 rfl) ?_
  refine z_get (T := TX9) (N := 6) (ci := 12) (k := 0) (fs := [.int (iI (iCo s1)), .int (iI (iHe s1)), .ref ia, .ref la, .int (iI ((iTk s1).length)), .int (iI (iLi s1))]) (v := .int (iI (iCo s1))) hC hZ in_X9 rfl (by decide) ql_X9_25 rfl h0 rfl dX9_coveredPart_1 ?_
  refine lv_aload_n hx hb dX9_coveredPart_4 rfl (lv_at hl 0 rfl) ?_
  refine z_get (T := TX9) (N := 6) (ci := 12) (k := 1) (fs := [.int (iI (iCo s1)), .int (iI (iHe s1)), .ref ia, .ref la, .int (iI ((iTk s1).length)), .int (iI (iLi s1))]) (v := .int (iI (iHe s1))) hC hZ in_X9 rfl (by decide) ql_X9_28 rfl h0 rfl dX9_coveredPart_5 ?_
  refine z_imul hx hb dX9_coveredPart_8 ?_
  refine lv_istore_n (lv' := [(1, .int (iI ((iCo s1) * (iHe s1)))), (0, .ref a)]) hx hb dX9_coveredPart_9 rfl hl (by decide) rfl (fun ls hl => ?_)
  refine lv_iload_n hx hb dX9_coveredPart_10 rfl (lv_at hl 0 rfl) ?_
  refine z_if_le (tgt := 25) hx hb dX9_coveredPart_11 (by decide) (by omega) (fun c_1 => ?_) (fun c_1 => ?_)
  · skip
    exfalso; omega
  · skip
    refine lv_aload_n hx hb dX9_coveredPart_14 rfl (lv_at hl 1 rfl) ?_
    refine z_get (T := TX9) (N := 6) (ci := 12) (k := 5) (fs := [.int (iI (iCo s1)), .int (iI (iHe s1)), .ref ia, .ref la, .int (iI ((iTk s1).length)), .int (iI (iLi s1))]) (v := .int (iI (iLi s1))) hC hZ in_X9 rfl (by decide) ql_X9_22 rfl h0 rfl dX9_coveredPart_15 ?_
    refine lv_i2f hx hb dX9_coveredPart_18 ?_
    refine lv_iload_n hx hb dX9_coveredPart_19 rfl (lv_at hl 0 rfl) ?_
    refine lv_i2f hx hb dX9_coveredPart_20 ?_
    refine lv_fdiv hx hb dX9_coveredPart_21 (vf_of (fP_div hfa.1 (hfb.2 (by omega)))) ?_
    refine lv_goto (tgt := 26) hx hb dX9_coveredPart_22 (by decide) ?_
    exact z_fret hC hr hlk hZ (by decide) (by decide) (⟨rfl, rfl⟩) dX9_coveredPart_26

set_option maxHeartbeats 4000000 in
set_option maxRecDepth 100000 in
theorem met_X9_init (l : Launch) (D : va_G) (cs : Nat → ClassId) (A : Nat → Prop) (F : zF) (a : Nat) (x y : Int)  (h0 : F a = some (.inr (12, [.int (iI 0), .int (iI 0), .null, .null, .int (iI 0), .int (iI 0)]))) : zM l D cs A yX9_init cX9_init 3 (none : Option Jvm.ClassFile.FieldType) 1 2 12 [.ref a, .int (iI x), .int (iI y)] F (pV (fun F1 => ∃ ia la : Nat, zko [a] F F1 ∧ F ia = none ∧ F la = none ∧ bPg cs F1 a ia la x y [] 0)) := by
  refine zM_of (own := RX9) (by decide) rfl (Nat.le_of_ble_eq_true rfl) ?_
  intro p e s m below meth c hC hr hlk hnm hZ ls hl
  have hx := hC.x
  have hb := hC.b
  have hl : lv_has ls 3 [(0, .ref a), (1, .int (iI x)), (2, .int (iI y))] := hl
  refine lv_aload_n hx hb dX9_init_0 rfl (lv_at hl 0 rfl) ?_
  refine z_oinit (rest := []) hC hl qm_X9_3 ⟨Nat.le_of_ble_eq_true rfl, Nat.le_of_ble_eq_true rfl⟩ dX9_init_1 ?_
  refine lv_aload_n hx hb dX9_init_4 rfl (lv_at hl 0 rfl) ?_
  refine z_bipush hx hb dX9_init_5 (by decide) ?_
  refine z_newp (atype := .int) (ty := .int) (n := 6) 2 (hC := hC) (hZ := hZ) q_128 rfl rfl (fun h => va_nm_int h) rfl (by decide) (by decide) (Nat.le_of_ble_eq_true rfl) (Nat.le_of_ble_eq_true rfl) dX9_init_7 (fun q7 H hq7 hZ => ?_)
  have hf_1 : (zup F q7 (zA (cs 2) 6 (fun _ => 0))) a = some (.inr (12, [.int (iI 0), .int (iI 0), .null, .null, .int (iI 0), .int (iI 0)])) := zup_k (zF_ne h0 hq7.1) h0
  have hf_2 : (zup F q7 (zA (cs 2) 6 (fun _ => 0))) q7 = some (zA (cs 2) 6 (fun _ => 0)) := zup_s
  replace hZ : zS D A s (zup F q7 (zA (cs 2) 6 (fun _ => 0))) _ _ := hZ
  refine z_put (T := TX9) (N := 6) (ci := 12) (k := 2) (fs := [.int (iI 0), .int (iI 0), .null, .null, .int (iI 0), .int (iI 0)]) (v := .ref q7) hC hZ tyX9 tyX9_ok nmX9 in_X9 rfl (by decide) ql_X9_9 rfl (Or.inr ⟨rfl, hnm, rfl⟩) rfl hf_1 (by show 2 < 6; decide) rfl rfl dX9_init_9 (fun H locs hZ => ?_)
  have hf_3 : (zup (zup F q7 (zA (cs 2) 6 (fun _ => 0))) a (.inr (12, [.int (iI 0), .int (iI 0), .ref q7, .null, .int (iI 0), .int (iI 0)]))) q7 = some (zA (cs 2) 6 (fun _ => 0)) := zup_k (zne hf_2 hf_1 (fun q => by cases q)) hf_2
  have hf_4 : (zup (zup F q7 (zA (cs 2) 6 (fun _ => 0))) a (.inr (12, [.int (iI 0), .int (iI 0), .ref q7, .null, .int (iI 0), .int (iI 0)]))) a = some (.inr (12, [.int (iI 0), .int (iI 0), .ref q7, .null, .int (iI 0), .int (iI 0)])) := zup_s
  replace hZ : zS D A s (zup (zup F q7 (zA (cs 2) 6 (fun _ => 0))) a (.inr (12, [.int (iI 0), .int (iI 0), .ref q7, .null, .int (iI 0), .int (iI 0)]))) _ _ := hZ
  refine lv_aload_n hx hb dX9_init_12 rfl (lv_at hl 0 rfl) ?_
  refine z_bipush hx hb dX9_init_13 (by decide) ?_
  refine z_newp (atype := .int) (ty := .int) (n := 6) 2 (hC := hC) (hZ := hZ) q_128 rfl rfl (fun h => va_nm_int h) rfl (by decide) (by decide) (Nat.le_of_ble_eq_true rfl) (Nat.le_of_ble_eq_true rfl) dX9_init_15 (fun q15 H hq15 hZ => ?_)
  have hf_5 : (zup (zup (zup F q7 (zA (cs 2) 6 (fun _ => 0))) a (.inr (12, [.int (iI 0), .int (iI 0), .ref q7, .null, .int (iI 0), .int (iI 0)]))) q15 (zA (cs 2) 6 (fun _ => 0))) q7 = some (zA (cs 2) 6 (fun _ => 0)) := zup_k (zF_ne hf_3 hq15.1) hf_3
  have hf_6 : (zup (zup (zup F q7 (zA (cs 2) 6 (fun _ => 0))) a (.inr (12, [.int (iI 0), .int (iI 0), .ref q7, .null, .int (iI 0), .int (iI 0)]))) q15 (zA (cs 2) 6 (fun _ => 0))) a = some (.inr (12, [.int (iI 0), .int (iI 0), .ref q7, .null, .int (iI 0), .int (iI 0)])) := zup_k (zF_ne hf_4 hq15.1) hf_4
  have hf_7 : (zup (zup (zup F q7 (zA (cs 2) 6 (fun _ => 0))) a (.inr (12, [.int (iI 0), .int (iI 0), .ref q7, .null, .int (iI 0), .int (iI 0)]))) q15 (zA (cs 2) 6 (fun _ => 0))) q15 = some (zA (cs 2) 6 (fun _ => 0)) := zup_s
  replace hZ : zS D A s (zup (zup (zup F q7 (zA (cs 2) 6 (fun _ => 0))) a (.inr (12, [.int (iI 0), .int (iI 0), .ref q7, .null, .int (iI 0), .int (iI 0)]))) q15 (zA (cs 2) 6 (fun _ => 0))) _ _ := hZ
  refine z_put (T := TX9) (N := 6) (ci := 12) (k := 3) (fs := [.int (iI 0), .int (iI 0), .ref q7, .null, .int (iI 0), .int (iI 0)]) (v := .ref q15) hC hZ tyX9 tyX9_ok nmX9 in_X9 rfl (by decide) ql_X9_15 rfl (Or.inr ⟨rfl, hnm, rfl⟩) rfl hf_6 (by show 3 < 6; decide) rfl rfl dX9_init_17 (fun H locs hZ => ?_)
  have hf_8 : (zup (zup (zup (zup F q7 (zA (cs 2) 6 (fun _ => 0))) a (.inr (12, [.int (iI 0), .int (iI 0), .ref q7, .null, .int (iI 0), .int (iI 0)]))) q15 (zA (cs 2) 6 (fun _ => 0))) a (.inr (12, [.int (iI 0), .int (iI 0), .ref q7, .ref q15, .int (iI 0), .int (iI 0)]))) q7 = some (zA (cs 2) 6 (fun _ => 0)) := zup_k (zne hf_5 hf_6 (fun q => by cases q)) hf_5
  have hf_9 : (zup (zup (zup (zup F q7 (zA (cs 2) 6 (fun _ => 0))) a (.inr (12, [.int (iI 0), .int (iI 0), .ref q7, .null, .int (iI 0), .int (iI 0)]))) q15 (zA (cs 2) 6 (fun _ => 0))) a (.inr (12, [.int (iI 0), .int (iI 0), .ref q7, .ref q15, .int (iI 0), .int (iI 0)]))) q15 = some (zA (cs 2) 6 (fun _ => 0)) := zup_k (zne hf_7 hf_6 (fun q => by cases q)) hf_7
  have hf_10 : (zup (zup (zup (zup F q7 (zA (cs 2) 6 (fun _ => 0))) a (.inr (12, [.int (iI 0), .int (iI 0), .ref q7, .null, .int (iI 0), .int (iI 0)]))) q15 (zA (cs 2) 6 (fun _ => 0))) a (.inr (12, [.int (iI 0), .int (iI 0), .ref q7, .ref q15, .int (iI 0), .int (iI 0)]))) a = some (.inr (12, [.int (iI 0), .int (iI 0), .ref q7, .ref q15, .int (iI 0), .int (iI 0)])) := zup_s
  replace hZ : zS D A s (zup (zup (zup (zup F q7 (zA (cs 2) 6 (fun _ => 0))) a (.inr (12, [.int (iI 0), .int (iI 0), .ref q7, .null, .int (iI 0), .int (iI 0)]))) q15 (zA (cs 2) 6 (fun _ => 0))) a (.inr (12, [.int (iI 0), .int (iI 0), .ref q7, .ref q15, .int (iI 0), .int (iI 0)]))) _ _ := hZ
  refine lv_aload_n hx hb dX9_init_20 rfl (lv_at hl 0 rfl) ?_
  refine z_iconst hx hb dX9_init_21 ?_
  refine z_put (T := TX9) (N := 6) (ci := 12) (k := 4) (fs := [.int (iI 0), .int (iI 0), .ref q7, .ref q15, .int (iI 0), .int (iI 0)]) (v := .int (iI 0)) hC hZ tyX9 tyX9_ok nmX9 in_X9 rfl (by decide) ql_X9_18 rfl (Or.inl rfl) rfl hf_10 (by show 4 < 6; decide) rfl rfl dX9_init_22 (fun H locs hZ => ?_)
  rw [zup_up] at hZ
  have hf_11 : (zup (zup (zup (zup F q7 (zA (cs 2) 6 (fun _ => 0))) a (.inr (12, [.int (iI 0), .int (iI 0), .ref q7, .null, .int (iI 0), .int (iI 0)]))) q15 (zA (cs 2) 6 (fun _ => 0))) a (.inr (12, [.int (iI 0), .int (iI 0), .ref q7, .ref q15, .int (iI 0), .int (iI 0)]))) q7 = some (zA (cs 2) 6 (fun _ => 0)) := zup_k (zne hf_5 hf_6 (fun q => by cases q)) hf_5
  have hf_12 : (zup (zup (zup (zup F q7 (zA (cs 2) 6 (fun _ => 0))) a (.inr (12, [.int (iI 0), .int (iI 0), .ref q7, .null, .int (iI 0), .int (iI 0)]))) q15 (zA (cs 2) 6 (fun _ => 0))) a (.inr (12, [.int (iI 0), .int (iI 0), .ref q7, .ref q15, .int (iI 0), .int (iI 0)]))) q15 = some (zA (cs 2) 6 (fun _ => 0)) := zup_k (zne hf_7 hf_6 (fun q => by cases q)) hf_7
  have hf_13 : (zup (zup (zup (zup F q7 (zA (cs 2) 6 (fun _ => 0))) a (.inr (12, [.int (iI 0), .int (iI 0), .ref q7, .null, .int (iI 0), .int (iI 0)]))) q15 (zA (cs 2) 6 (fun _ => 0))) a (.inr (12, [.int (iI 0), .int (iI 0), .ref q7, .ref q15, .int (iI 0), .int (iI 0)]))) a = some (.inr (12, [.int (iI 0), .int (iI 0), .ref q7, .ref q15, .int (iI 0), .int (iI 0)])) := zup_s
  replace hZ : zS D A s (zup (zup (zup (zup F q7 (zA (cs 2) 6 (fun _ => 0))) a (.inr (12, [.int (iI 0), .int (iI 0), .ref q7, .null, .int (iI 0), .int (iI 0)]))) q15 (zA (cs 2) 6 (fun _ => 0))) a (.inr (12, [.int (iI 0), .int (iI 0), .ref q7, .ref q15, .int (iI 0), .int (iI 0)]))) _ _ := hZ
  refine lv_aload_n hx hb dX9_init_25 rfl (lv_at hl 0 rfl) ?_
  refine z_iconst hx hb dX9_init_26 ?_
  refine z_put (T := TX9) (N := 6) (ci := 12) (k := 5) (fs := [.int (iI 0), .int (iI 0), .ref q7, .ref q15, .int (iI 0), .int (iI 0)]) (v := .int (iI 0)) hC hZ tyX9 tyX9_ok nmX9 in_X9 rfl (by decide) ql_X9_22 rfl (Or.inl rfl) rfl hf_13 (by show 5 < 6; decide) rfl rfl dX9_init_27 (fun H locs hZ => ?_)
  rw [zup_up] at hZ
  have hf_14 : (zup (zup (zup (zup F q7 (zA (cs 2) 6 (fun _ => 0))) a (.inr (12, [.int (iI 0), .int (iI 0), .ref q7, .null, .int (iI 0), .int (iI 0)]))) q15 (zA (cs 2) 6 (fun _ => 0))) a (.inr (12, [.int (iI 0), .int (iI 0), .ref q7, .ref q15, .int (iI 0), .int (iI 0)]))) q7 = some (zA (cs 2) 6 (fun _ => 0)) := zup_k (zne hf_5 hf_6 (fun q => by cases q)) hf_5
  have hf_15 : (zup (zup (zup (zup F q7 (zA (cs 2) 6 (fun _ => 0))) a (.inr (12, [.int (iI 0), .int (iI 0), .ref q7, .null, .int (iI 0), .int (iI 0)]))) q15 (zA (cs 2) 6 (fun _ => 0))) a (.inr (12, [.int (iI 0), .int (iI 0), .ref q7, .ref q15, .int (iI 0), .int (iI 0)]))) q15 = some (zA (cs 2) 6 (fun _ => 0)) := zup_k (zne hf_7 hf_6 (fun q => by cases q)) hf_7
  have hf_16 : (zup (zup (zup (zup F q7 (zA (cs 2) 6 (fun _ => 0))) a (.inr (12, [.int (iI 0), .int (iI 0), .ref q7, .null, .int (iI 0), .int (iI 0)]))) q15 (zA (cs 2) 6 (fun _ => 0))) a (.inr (12, [.int (iI 0), .int (iI 0), .ref q7, .ref q15, .int (iI 0), .int (iI 0)]))) a = some (.inr (12, [.int (iI 0), .int (iI 0), .ref q7, .ref q15, .int (iI 0), .int (iI 0)])) := zup_s
  replace hZ : zS D A s (zup (zup (zup (zup F q7 (zA (cs 2) 6 (fun _ => 0))) a (.inr (12, [.int (iI 0), .int (iI 0), .ref q7, .null, .int (iI 0), .int (iI 0)]))) q15 (zA (cs 2) 6 (fun _ => 0))) a (.inr (12, [.int (iI 0), .int (iI 0), .ref q7, .ref q15, .int (iI 0), .int (iI 0)]))) _ _ := hZ
  refine lv_aload_n hx hb dX9_init_30 rfl (lv_at hl 0 rfl) ?_
  refine lv_iload_n hx hb dX9_init_31 rfl (lv_at hl 1 rfl) ?_
  refine z_put (T := TX9) (N := 6) (ci := 12) (k := 0) (fs := [.int (iI 0), .int (iI 0), .ref q7, .ref q15, .int (iI 0), .int (iI 0)]) (v := .int (iI x)) hC hZ tyX9 tyX9_ok nmX9 in_X9 rfl (by decide) ql_X9_25 rfl (Or.inr ⟨rfl, hnm, rfl⟩) rfl hf_16 (by show 0 < 6; decide) rfl rfl dX9_init_32 (fun H locs hZ => ?_)
  rw [zup_up] at hZ
  have hf_17 : (zup (zup (zup (zup F q7 (zA (cs 2) 6 (fun _ => 0))) a (.inr (12, [.int (iI 0), .int (iI 0), .ref q7, .null, .int (iI 0), .int (iI 0)]))) q15 (zA (cs 2) 6 (fun _ => 0))) a (.inr (12, [.int (iI x), .int (iI 0), .ref q7, .ref q15, .int (iI 0), .int (iI 0)]))) q7 = some (zA (cs 2) 6 (fun _ => 0)) := zup_k (zne hf_5 hf_6 (fun q => by cases q)) hf_5
  have hf_18 : (zup (zup (zup (zup F q7 (zA (cs 2) 6 (fun _ => 0))) a (.inr (12, [.int (iI 0), .int (iI 0), .ref q7, .null, .int (iI 0), .int (iI 0)]))) q15 (zA (cs 2) 6 (fun _ => 0))) a (.inr (12, [.int (iI x), .int (iI 0), .ref q7, .ref q15, .int (iI 0), .int (iI 0)]))) q15 = some (zA (cs 2) 6 (fun _ => 0)) := zup_k (zne hf_7 hf_6 (fun q => by cases q)) hf_7
  have hf_19 : (zup (zup (zup (zup F q7 (zA (cs 2) 6 (fun _ => 0))) a (.inr (12, [.int (iI 0), .int (iI 0), .ref q7, .null, .int (iI 0), .int (iI 0)]))) q15 (zA (cs 2) 6 (fun _ => 0))) a (.inr (12, [.int (iI x), .int (iI 0), .ref q7, .ref q15, .int (iI 0), .int (iI 0)]))) a = some (.inr (12, [.int (iI x), .int (iI 0), .ref q7, .ref q15, .int (iI 0), .int (iI 0)])) := zup_s
  replace hZ : zS D A s (zup (zup (zup (zup F q7 (zA (cs 2) 6 (fun _ => 0))) a (.inr (12, [.int (iI 0), .int (iI 0), .ref q7, .null, .int (iI 0), .int (iI 0)]))) q15 (zA (cs 2) 6 (fun _ => 0))) a (.inr (12, [.int (iI x), .int (iI 0), .ref q7, .ref q15, .int (iI 0), .int (iI 0)]))) _ _ := hZ
  refine lv_aload_n hx hb dX9_init_35 rfl (lv_at hl 0 rfl) ?_
  refine lv_iload_n hx hb dX9_init_36 rfl (lv_at hl 2 rfl) ?_
  refine z_put (T := TX9) (N := 6) (ci := 12) (k := 1) (fs := [.int (iI x), .int (iI 0), .ref q7, .ref q15, .int (iI 0), .int (iI 0)]) (v := .int (iI y)) hC hZ tyX9 tyX9_ok nmX9 in_X9 rfl (by decide) ql_X9_28 rfl (Or.inr ⟨rfl, hnm, rfl⟩) rfl hf_19 (by show 1 < 6; decide) rfl rfl dX9_init_37 (fun H locs hZ => ?_)
  rw [zup_up] at hZ
  have hf_20 : (zup (zup (zup (zup F q7 (zA (cs 2) 6 (fun _ => 0))) a (.inr (12, [.int (iI 0), .int (iI 0), .ref q7, .null, .int (iI 0), .int (iI 0)]))) q15 (zA (cs 2) 6 (fun _ => 0))) a (.inr (12, [.int (iI x), .int (iI y), .ref q7, .ref q15, .int (iI 0), .int (iI 0)]))) q7 = some (zA (cs 2) 6 (fun _ => 0)) := zup_k (zne hf_5 hf_6 (fun q => by cases q)) hf_5
  have hf_21 : (zup (zup (zup (zup F q7 (zA (cs 2) 6 (fun _ => 0))) a (.inr (12, [.int (iI 0), .int (iI 0), .ref q7, .null, .int (iI 0), .int (iI 0)]))) q15 (zA (cs 2) 6 (fun _ => 0))) a (.inr (12, [.int (iI x), .int (iI y), .ref q7, .ref q15, .int (iI 0), .int (iI 0)]))) q15 = some (zA (cs 2) 6 (fun _ => 0)) := zup_k (zne hf_7 hf_6 (fun q => by cases q)) hf_7
  have hf_22 : (zup (zup (zup (zup F q7 (zA (cs 2) 6 (fun _ => 0))) a (.inr (12, [.int (iI 0), .int (iI 0), .ref q7, .null, .int (iI 0), .int (iI 0)]))) q15 (zA (cs 2) 6 (fun _ => 0))) a (.inr (12, [.int (iI x), .int (iI y), .ref q7, .ref q15, .int (iI 0), .int (iI 0)]))) a = some (.inr (12, [.int (iI x), .int (iI y), .ref q7, .ref q15, .int (iI 0), .int (iI 0)])) := zup_s
  replace hZ : zS D A s (zup (zup (zup (zup F q7 (zA (cs 2) 6 (fun _ => 0))) a (.inr (12, [.int (iI 0), .int (iI 0), .ref q7, .null, .int (iI 0), .int (iI 0)]))) q15 (zA (cs 2) 6 (fun _ => 0))) a (.inr (12, [.int (iI x), .int (iI y), .ref q7, .ref q15, .int (iI 0), .int (iI 0)]))) _ _ := hZ
  exact z_vret hC hr hlk hZ (by decide) (by decide) (⟨q7, q15, (((((zko.refl).new hq7.1).up (by simp)).new hq15.1).up (by simp)), hq7.1, (zup_none (zup_none hq15.1)), _, _, hf_22, hf_20, hf_21, (zF_ne hf_3 hq15.1), fun k h1 h2 => absurd h2 (by show ¬ _; simp; omega)⟩) dX9_init_40
