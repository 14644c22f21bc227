theorem oAr.o {cs : Nat → ClassId} {F : zF} {a : Nat} {x : zAr} (h : oAr cs F a x) : ∃ fs, F a = some (.inr (5, fs)) := by
  obtain ⟨wa, h1, -⟩ := h
  exact ⟨_, h1⟩
theorem zl_s {x : zAr} {k : Int} (h0 : 0 ≤ k) (h1 : k < x.2.2.length) : ((zlens x).take (k + 1).toNat).sum = ((zlens x).take k.toNat).sum + ((x.2.2.getD k.toNat []).length : Int) := by
  have hl : k.toNat < x.2.2.length := by omega
  rw [show (k + 1).toNat = k.toNat + 1 by omega, List.take_add_one, zlens_at (List.getElem?_eq_getElem hl), List.getD_eq_getElem?_getD, List.getElem?_eq_getElem hl]
  simp
theorem ar_w {ni : Int} {x : zAr} (h : arOK ni x) {k : Int} (h0 : 0 ≤ k) (h1 : k < x.2.2.length) : wdOK (x.2.2.getD k.toNat []) := by
  have hl : k.toNat < x.2.2.length := by omega
  rw [List.getD_eq_getElem?_getD, List.getElem?_eq_getElem hl]
  exact h.2.2.2 _ (List.getElem_mem hl)
/-- n is the length of the longest of the first k words -/
def lgW (x : zAr) (k n : Int) : Prop := (∀ j : Int, 0 ≤ j → j < k → ((x.2.2.getD j.toNat []).length : Int) ≤ n) ∧ (n = 0 ∨ ∃ j : Int, 0 ≤ j ∧ j < k ∧ ((x.2.2.getD j.toNat []).length : Int) = n)
theorem lgW_s {x : zAr} {k n r : Int} (h : lgW x k n) (h0 : 0 ≤ k) (hr : (n < ((x.2.2.getD k.toNat []).length : Int) ∧ r = ((x.2.2.getD k.toNat []).length : Int)) ∨ (¬ n < ((x.2.2.getD k.toNat []).length : Int) ∧ r = n)) : lgW x (k + 1) r := by
  obtain ⟨y1, y2⟩ := h
  refine ⟨fun j h1 h2 => ?_, ?_⟩
  · clear y2
    by_cases q : j = k
    · rw [q]; omega
    · have := y1 j h1 (by omega)
      omega
  · rcases hr with ⟨q, e⟩ | ⟨q, e⟩
    · exact Or.inr ⟨k, h0, by clear y2; omega, e.symm⟩
    · rw [e]
      rcases y2 with y2 | ⟨j, z1, z2, z3⟩
      · exact Or.inl y2
      · exact Or.inr ⟨j, z1, by omega, z3⟩
set_option maxHeartbeats 4000000 in
set_option maxRecDepth 100000 in
theorem met_X1_init (l : Launch) (D : va_G) (cs : Nat → ClassId) (A : Nat → Prop) (F : zF) (a : Nat) (x y : Int) (wa : Nat)  (h0 : F a = some (.inr (5, [.int (iI 0), .int (iI 0), .null]))) : zM l D cs A yX1_init cX1_init 4 (none : Option Jvm.ClassFile.FieldType) 1 0 0 [.ref a, .int (iI x), .int (iI y), .ref wa] F (pV (fun F1 => F1 = zup F a (.inr (5, [.int (iI x), .int (iI y), .ref wa])))) := by
  refine zM_of (own := RX1) (by decide) rfl (Nat.le_of_ble_eq_true rfl) ?_
  intro p e s m below meth c hC hr hlk hnm hZ ls hl
  have hx := hC.x
  have hb := hC.b
  have hl : lv_has ls 4 [(0, .ref a), (1, .int (iI x)), (2, .int (iI y)), (3, .ref wa)] := hl
  refine lv_aload_n hx hb dX1_init_0 rfl (lv_at hl 0 rfl) ?_
  refine z_oinit (rest := []) hC hl qm_X1_1 ⟨Nat.le_of_ble_eq_true rfl, Nat.le_of_ble_eq_true rfl⟩ dX1_init_1 ?_
  refine lv_aload_n hx hb dX1_init_4 rfl (lv_at hl 0 rfl) ?_
  refine lv_iload_n hx hb dX1_init_5 rfl (lv_at hl 1 rfl) ?_
  refine z_put (T := TX1) (N := 3) (ci := 5) (k := 0) (fs := [.int (iI 0), .int (iI 0), .null]) (v := .int (iI x)) hC hZ tyX1 tyX1_ok nmX1 in_X1 rfl (by decide) ql_X1_7 rfl (Or.inr ⟨rfl, hnm, rfl⟩) rfl h0 (by show 0 < 3; decide) rfl rfl dX1_init_6 (fun H locs hZ => ?_)
  have hf_1 : (zup F a (.inr (5, [.int (iI x), .int (iI 0), .null]))) a = some (.inr (5, [.int (iI x), .int (iI 0), .null])) := zup_s
  replace hZ : zS D A s (zup F a (.inr (5, [.int (iI x), .int (iI 0), .null]))) _ _ := hZ
  refine lv_aload_n hx hb dX1_init_9 rfl (lv_at hl 0 rfl) ?_
  refine lv_iload_n hx hb dX1_init_10 rfl (lv_at hl 2 rfl) ?_
  refine z_put (T := TX1) (N := 3) (ci := 5) (k := 1) (fs := [.int (iI x), .int (iI 0), .null]) (v := .int (iI y)) hC hZ tyX1 tyX1_ok nmX1 in_X1 rfl (by decide) ql_X1_13 rfl (Or.inr ⟨rfl, hnm, rfl⟩) rfl hf_1 (by show 1 < 3; decide) rfl rfl dX1_init_11 (fun H locs hZ => ?_)
  rw [zup_up] at hZ
  have hf_2 : (zup F a (.inr (5, [.int (iI x), .int (iI y), .null]))) a = some (.inr (5, [.int (iI x), .int (iI y), .null])) := zup_s
  replace hZ : zS D A s (zup F a (.inr (5, [.int (iI x), .int (iI y), .null]))) _ _ := hZ
  refine lv_aload_n hx hb dX1_init_14 rfl (lv_at hl 0 rfl) ?_
  refine lv_aload_n hx hb dX1_init_15 rfl (lv_at hl 3 rfl) ?_
  refine z_put (T := TX1) (N := 3) (ci := 5) (k := 2) (fs := [.int (iI x), .int (iI y), .null]) (v := .ref wa) hC hZ tyX1 tyX1_ok nmX1 in_X1 rfl (by decide) ql_X1_16 rfl (Or.inr ⟨rfl, hnm, rfl⟩) rfl hf_2 (by show 2 < 3; decide) rfl rfl dX1_init_16 (fun H locs hZ => ?_)
  rw [zup_up] at hZ
  have hf_3 : (zup F a (.inr (5, [.int (iI x), .int (iI y), .ref wa]))) a = some (.inr (5, [.int (iI x), .int (iI y), .ref wa])) := zup_s
  replace hZ : zS D A s (zup F a (.inr (5, [.int (iI x), .int (iI y), .ref wa]))) _ _ := hZ
  exact z_vret hC hr hlk hZ (by decide) (by decide) (rfl) dX1_init_19

set_option maxHeartbeats 4000000 in
set_option maxRecDepth 100000 in
theorem met_X1_comesBefore (l : Launch) (D : va_G) (cs : Nat → ClassId) (A : Nat → Prop) (F : zF) (a b : Nat) (x y : zAr)  (hx1 : oAr cs F a x) (hy1 : oAr cs F b y) : zM l D cs A yX1_comesBefore cX1_comesBefore 2 (some FieldType.boolean) 1 0 0 [.ref a, .ref b] F (pI (fun r F1 => F = F1 ∧ (((y.2.1 < x.2.1 ∨ (x.2.1 = y.2.1 ∧ x.1 < y.1)) ∧ r = 1) ∨ (¬ (y.2.1 < x.2.1 ∨ (x.2.1 = y.2.1 ∧ x.1 < y.1)) ∧ r = 0)))) := by
  refine zM_of (own := RX1) (by decide) rfl (Nat.le_of_ble_eq_true rfl) ?_
  intro p e s m below meth c hC hr hlk hnm hZ ls hl
  have hx := hC.x
  have hb := hC.b
  have hl : lv_has ls 2 [(0, .ref a), (1, .ref b)] := hl
  obtain ⟨wa, h0, -, hxo⟩ := hx1
  obtain ⟨wb, h9, -, hyo⟩ := hy1
  have hx7 := hxo.1
  have hx8 := hxo.2.1
  have hy7 := hyo.1
  have hy8 := hyo.2.1
  refine lv_aload_n hx hb dX1_comesBefore_0 rfl (lv_at hl 0 rfl) ?_
  refine z_get (T := TX1) (N := 3) (ci := 5) (k := 1) (fs := [.int (iI x.1), .int (iI x.2.1), .ref wa]) (v := .int (iI x.2.1)) hC hZ in_X1 rfl (by decide) ql_X1_13 rfl h0 rfl dX1_comesBefore_1 ?_
  refine lv_aload_n hx hb dX1_comesBefore_4 rfl (lv_at hl 1 rfl) ?_
  refine z_get (T := TX1) (N := 3) (ci := 5) (k := 1) (fs := [.int (iI y.1), .int (iI y.2.1), .ref wb]) (v := .int (iI y.2.1)) hC hZ in_X1 rfl (by decide) ql_X1_13 rfl h9 rfl dX1_comesBefore_5 ?_
  refine z_icmp_gt (tgt := 33) hx hb dX1_comesBefore_8 (by decide) (by omega) (by omega) (fun c_1 => ?_) (fun c_1 => ?_)
  · skip
    refine z_iconst hx hb dX1_comesBefore_33 ?_
    refine lv_goto (tgt := 38) hx hb dX1_comesBefore_34 (by decide) ?_
    exact z_zret hC hr hlk hZ rfl (by decide) (by decide) (⟨rfl, Or.inl ⟨by omega, rfl⟩⟩) dX1_comesBefore_38
  · skip
    refine lv_aload_n hx hb dX1_comesBefore_11 rfl (lv_at hl 0 rfl) ?_
    refine z_get (T := TX1) (N := 3) (ci := 5) (k := 1) (fs := [.int (iI x.1), .int (iI x.2.1), .ref wa]) (v := .int (iI x.2.1)) hC hZ in_X1 rfl (by decide) ql_X1_13 rfl h0 rfl dX1_comesBefore_12 ?_
    refine lv_aload_n hx hb dX1_comesBefore_15 rfl (lv_at hl 1 rfl) ?_
    refine z_get (T := TX1) (N := 3) (ci := 5) (k := 1) (fs := [.int (iI y.1), .int (iI y.2.1), .ref wb]) (v := .int (iI y.2.1)) hC hZ in_X1 rfl (by decide) ql_X1_13 rfl h9 rfl dX1_comesBefore_16 ?_
    refine z_icmp_ne (tgt := 37) hx hb dX1_comesBefore_19 (by decide) (by omega) (by omega) (fun c_2 => ?_) (fun c_2 => ?_)
    · skip
      refine z_iconst hx hb dX1_comesBefore_37 ?_
      exact z_zret hC hr hlk hZ rfl (by decide) (by decide) (⟨rfl, Or.inr ⟨by omega, rfl⟩⟩) dX1_comesBefore_38
    · skip
      refine lv_aload_n hx hb dX1_comesBefore_22 rfl (lv_at hl 0 rfl) ?_
      refine z_get (T := TX1) (N := 3) (ci := 5) (k := 0) (fs := [.int (iI x.1), .int (iI x.2.1), .ref wa]) (v := .int (iI x.1)) hC hZ in_X1 rfl (by decide) ql_X1_7 rfl h0 rfl dX1_comesBefore_23 ?_
      refine lv_aload_n hx hb dX1_comesBefore_26 rfl (lv_at hl 1 rfl) ?_
      refine z_get (T := TX1) (N := 3) (ci := 5) (k := 0) (fs := [.int (iI y.1), .int (iI y.2.1), .ref wb]) (v := .int (iI y.1)) hC hZ in_X1 rfl (by decide) ql_X1_7 rfl h9 rfl dX1_comesBefore_27 ?_
      refine z_icmp_ge (tgt := 37) hx hb dX1_comesBefore_30 (by decide) (by omega) (by omega) (fun c_3 => ?_) (fun c_3 => ?_)
      · skip
        refine z_iconst hx hb dX1_comesBefore_37 ?_
        exact z_zret hC hr hlk hZ rfl (by decide) (by decide) (⟨rfl, Or.inr ⟨by omega, rfl⟩⟩) dX1_comesBefore_38
      · skip
        refine z_iconst hx hb dX1_comesBefore_33 ?_
        refine lv_goto (tgt := 38) hx hb dX1_comesBefore_34 (by decide) ?_
        exact z_zret hC hr hlk hZ rfl (by decide) (by decide) (⟨rfl, Or.inl ⟨by omega, rfl⟩⟩) dX1_comesBefore_38

set_option maxHeartbeats 4000000 in
set_option maxRecDepth 100000 in
theorem met_X1_countLetters (l : Launch) (D : va_G) (cs : Nat → ClassId) (A : Nat → Prop) (F : zF) (a : Nat) (x : zAr)  (hx1 : oAr cs F a x) : zM l D cs A yX1_countLetters cX1_countLetters 6 (some FieldType.int) 2 0 0 [.ref a] F (pI (fun r F1 => F = F1 ∧ (zlens x).sum = r ∧ 0 ≤ r ∧ r ≤ 360)) := by
  refine zM_of (own := RX1) (by decide) rfl (Nat.le_of_ble_eq_true rfl) ?_
  intro p e s m below meth c hC hr hlk hnm hZ ls hl
  have hx := hC.x
  have hb := hC.b
  have hl : lv_has ls 6 [(0, .ref a)] := hl
  obtain ⟨wa, h0, hws0, hxo⟩ := id hx1
  obtain ⟨h_, h1, h2⟩ := id hws0
  have hx6 := hxo.2.2.1
  have hx7 := hxo.1
  have hx8 := hxo.2.1
  refine z_iconst hx hb dX1_countLetters_0 ?_
  refine lv_istore_n (lv' := [(1, .int (iI 0)), (0, .ref a)]) hx hb dX1_countLetters_1 rfl hl (by decide) rfl (fun ls hl => ?_)
  refine lv_aload_n hx hb dX1_countLetters_2 rfl (lv_at hl 1 rfl) ?_
  refine z_get (T := TX1) (N := 3) (ci := 5) (k := 2) (fs := [.int (iI x.1), .int (iI x.2.1), .ref wa]) (v := .ref wa) hC hZ in_X1 rfl (by decide) ql_X1_16 rfl h0 rfl dX1_countLetters_3 ?_
  refine lv_astore_n (lv' := [(2, .ref wa), (1, .int (iI 0)), (0, .ref a)]) hx hb dX1_countLetters_6 rfl hl (by decide) rfl (fun ls hl => ?_)
  refine lv_aload_n hx hb dX1_countLetters_7 rfl (lv_at hl 0 rfl) ?_
  refine z_alen (t := 4) hC hZ h1 rfl dX1_countLetters_8 ?_
  refine lv_istore_n (lv' := [(3, .int (iI (x.2.2.length : Int))), (2, .ref wa), (1, .int (iI 0)), (0, .ref a)]) hx hb dX1_countLetters_9 rfl hl (by decide) rfl (fun ls hl => ?_)
  refine z_iconst hx hb dX1_countLetters_10 ?_
  refine lv_istore (lv' := [(4, .int (iI 0)), (3, .int (iI (x.2.2.length : Int))), (2, .ref wa), (1, .int (iI 0)), (0, .ref a)]) hx hb dX1_countLetters_11 hl (by decide) rfl (fun ls hl => ?_)
  have L13_k_1 : ∀ (fu : Nat) (n k : Int)  (hfu : ((x.2.2.length : Int) - k).toNat < fu) (hi13_0 : 0 ≤ k ∧ k ≤ (x.2.2.length : Int)) (hi13_1 : n = ((zlens x).take k.toNat).sum ∧ 0 ≤ n ∧ n ≤ 12 * k) (H : Heap) (locs : List Loc) (hZ : zS D A s F H locs) (ls : Array Slot) (hl : lv_has ls 6 [(4, .int (iI k)), (3, .int (iI (x.2.2.length : Int))), (2, .ref wa), (1, .int (iI n)), (0, .ref a)]), W p l e (zR 2 0 0) s m [.ref a].toArray below meth c H locs 0 0 (MQ below (zQ D A (pI (fun r F1 => F = F1 ∧ (zlens x).sum = r ∧ 0 ≤ r ∧ r ≤ 360))) [.ref a].toArray s 0 0 A) (F0 m 13 ls []) := by
    intro fu
    induction fu with
    | zero =>
      intro n k  hfu
      exact absurd hfu (Nat.not_lt_zero _)
    | succ fu ih13 =>
      intro n k  hfu hi13_0 hi13_1  H locs hZ ls hl
      refine lv_iload hx hb dX1_countLetters_13 (lv_at hl 0 rfl) ?_
      refine lv_iload_n hx hb dX1_countLetters_15 rfl (lv_at hl 1 rfl) ?_
      refine z_icmp_ge (tgt := 39) hx hb dX1_countLetters_16 (by decide) (by omega) (by omega) (fun c_2 => ?_) (fun c_2 => ?_)
      · skip
        have hfin : (zlens x).sum = n := by rw [hi13_1.1, List.take_of_length_le (by rw [zlens_l]; omega)]
        refine lv_iload_n hx hb dX1_countLetters_39 rfl (lv_at hl 3 rfl) ?_
        exact z_iret hC hr hlk hZ (by decide) (by decide) (⟨rfl, hfin, by omega, by omega⟩) dX1_countLetters_40
      · skip
        refine lv_aload_n hx hb dX1_countLetters_19 rfl (lv_at hl 2 rfl) ?_
        refine lv_iload hx hb dX1_countLetters_20 (lv_at hl 0 rfl) ?_
        obtain ⟨q22, hq22, hwd22⟩ := h2 k (by omega) (by omega)
        have hwo22 := ar_w hxo (k := k) (by omega) (by omega)
        have hwl22 := hwo22.1
        refine z_aald (t := 4) (C := "StoneGazette$Word") (v := (some q22)) hC hZ h1 rfl (by omega) (by omega) hq22 dX1_countLetters_22 ?_
        refine lv_astore (lv' := [(5, .ref q22), (4, .int (iI k)), (3, .int (iI (x.2.2.length : Int))), (2, .ref wa), (1, .int (iI n)), (0, .ref a)]) hx hb dX1_countLetters_23 hl (by decide) rfl (fun ls hl => ?_)
        refine lv_iload_n hx hb dX1_countLetters_25 rfl (lv_at hl 4 rfl) ?_
        refine lv_aload hx hb dX1_countLetters_26 (lv_at hl 0 rfl) ?_
        obtain ⟨fsho_3, ho_3⟩ := (hwd22).o
        refine z_calli (z_runV (rest := [.int (iI n)]) (As := []) (n := 0) (ci := 14) hC hZ (met_X11_letterCount l D cs A F q22 (x.2.2.getD k.toNat []) hwd22) gv_X1_28 hd_X11_letterCount rfl ho_3 rfl hl rfl (Nat.le_of_ble_eq_true rfl) ⟨Nat.le_of_ble_eq_true rfl, Nat.le_of_ble_eq_true rfl⟩ ⟨Nat.le_of_ble_eq_true rfl, Nat.le_of_ble_eq_true rfl⟩ dX1_countLetters_28) hZ (fun r28 F28 H locs hp28_c_4 hZ => ?_)
        obtain ⟨rfl, rfl⟩ := hp28_c_4
        refine z_iadd hx hb dX1_countLetters_31 ?_
        refine lv_istore_n (lv' := [(1, .int (iI (n + (((x.2.2.getD k.toNat [])).length : Int)))), (5, .ref q22), (4, .int (iI k)), (3, .int (iI (x.2.2.length : Int))), (2, .ref wa), (0, .ref a)]) hx hb dX1_countLetters_32 rfl hl (by decide) rfl (fun ls hl => ?_)
        refine z_iinc (lv' := [(4, .int (iI (k + 1))), (1, .int (iI (n + (((x.2.2.getD k.toNat [])).length : Int)))), (5, .ref q22), (3, .int (iI (x.2.2.length : Int))), (2, .ref wa), (0, .ref a)]) hx hb dX1_countLetters_33 hl (k := 2) rfl (by decide) rfl (fun ls hl => ?_)
        refine lv_goto (tgt := 13) hx hb dX1_countLetters_36 (by decide) ?_
        exact ih13 (n + (((x.2.2.getD k.toNat [])).length : Int)) (k + 1)  (by omega) (by omega) ⟨by rw [zl_s (by omega) (by omega), ← hi13_1.1], by omega, by omega⟩  _ _ hZ ls (lv_sub hl [0, 3, 4, 1, 5] rfl)
  exact L13_k_1 _ 0 0  (Nat.lt_succ_self _) (by omega) ⟨rfl, by decide, by decide⟩  _ _ hZ ls (lv_sub hl [0, 1, 2, 3, 4] rfl)

set_option maxHeartbeats 4000000 in
set_option maxRecDepth 100000 in
theorem met_X1_longestWord (l : Launch) (D : va_G) (cs : Nat → ClassId) (A : Nat → Prop) (F : zF) (a : Nat) (x : zAr)  (hx1 : oAr cs F a x) : zM l D cs A yX1_longestWord cX1_longestWord 6 (some FieldType.int) 2 0 0 [.ref a] F (pI (fun r F1 => F = F1 ∧ lgW x x.2.2.length r ∧ 0 ≤ r ∧ r ≤ 12)) := by
  refine zM_of (own := RX1) (by decide) rfl (Nat.le_of_ble_eq_true rfl) ?_
  intro p e s m below meth c hC hr hlk hnm hZ ls hl
  have hx := hC.x
  have hb := hC.b
  have hl : lv_has ls 6 [(0, .ref a)] := hl
  obtain ⟨wa, h0, hws0, hxo⟩ := id hx1
  obtain ⟨h_, h1, h2⟩ := id hws0
  have hx6 := hxo.2.2.1
  have hx7 := hxo.1
  have hx8 := hxo.2.1
  refine z_iconst hx hb dX1_longestWord_0 ?_
  refine lv_istore_n (lv' := [(1, .int (iI 0)), (0, .ref a)]) hx hb dX1_longestWord_1 rfl hl (by decide) rfl (fun ls hl => ?_)
  refine lv_aload_n hx hb dX1_longestWord_2 rfl (lv_at hl 1 rfl) ?_
  refine z_get (T := TX1) (N := 3) (ci := 5) (k := 2) (fs := [.int (iI x.1), .int (iI x.2.1), .ref wa]) (v := .ref wa) hC hZ in_X1 rfl (by decide) ql_X1_16 rfl h0 rfl dX1_longestWord_3 ?_
  refine lv_astore_n (lv' := [(2, .ref wa), (1, .int (iI 0)), (0, .ref a)]) hx hb dX1_longestWord_6 rfl hl (by decide) rfl (fun ls hl => ?_)
  refine lv_aload_n hx hb dX1_longestWord_7 rfl (lv_at hl 0 rfl) ?_
  refine z_alen (t := 4) hC hZ h1 rfl dX1_longestWord_8 ?_
  refine lv_istore_n (lv' := [(3, .int (iI (x.2.2.length : Int))), (2, .ref wa), (1, .int (iI 0)), (0, .ref a)]) hx hb dX1_longestWord_9 rfl hl (by decide) rfl (fun ls hl => ?_)
  refine z_iconst hx hb dX1_longestWord_10 ?_
  refine lv_istore (lv' := [(4, .int (iI 0)), (3, .int (iI (x.2.2.length : Int))), (2, .ref wa), (1, .int (iI 0)), (0, .ref a)]) hx hb dX1_longestWord_11 hl (by decide) rfl (fun ls hl => ?_)
  have L13_k_1 : ∀ (fu : Nat) (n k : Int)  (hfu : ((x.2.2.length : Int) - k).toNat < fu) (hi13_0 : 0 ≤ k ∧ k ≤ (x.2.2.length : Int)) (hi13_1 : lgW x k n) (hi13_2 : 0 ≤ n ∧ n ≤ 12) (H : Heap) (locs : List Loc) (hZ : zS D A s F H locs) (ls : Array Slot) (hl : lv_has ls 6 [(4, .int (iI k)), (3, .int (iI (x.2.2.length : Int))), (2, .ref wa), (1, .int (iI n)), (0, .ref a)]), W p l e (zR 2 0 0) s m [.ref a].toArray below meth c H locs 0 0 (MQ below (zQ D A (pI (fun r F1 => F = F1 ∧ lgW x x.2.2.length r ∧ 0 ≤ r ∧ r ≤ 12))) [.ref a].toArray s 0 0 A) (F0 m 13 ls []) := by
    intro fu
    induction fu with
    | zero =>
      intro n k  hfu
      exact absurd hfu (Nat.not_lt_zero _)
    | succ fu ih13 =>
      intro n k  hfu hi13_0 hi13_1 hi13_2  H locs hZ ls hl
      refine lv_iload hx hb dX1_longestWord_13 (lv_at hl 0 rfl) ?_
      refine lv_iload_n hx hb dX1_longestWord_15 rfl (lv_at hl 1 rfl) ?_
      refine z_icmp_ge (tgt := 41) hx hb dX1_longestWord_16 (by decide) (by omega) (by omega) (fun c_2 => ?_) (fun c_2 => ?_)
      · skip
        have hfin : k = x.2.2.length := by omega
        refine lv_iload_n hx hb dX1_longestWord_41 rfl (lv_at hl 3 rfl) ?_
        exact z_iret hC hr hlk hZ (by decide) (by decide) (⟨rfl, by rw [← hfin]; exact hi13_1, hi13_2⟩) dX1_longestWord_42
      · skip
        refine lv_aload_n hx hb dX1_longestWord_19 rfl (lv_at hl 2 rfl) ?_
        refine lv_iload hx hb dX1_longestWord_20 (lv_at hl 0 rfl) ?_
        obtain ⟨q22, hq22, hwd22⟩ := h2 k (by omega) (by omega)
        have hwo22 := ar_w hxo (k := k) (by omega) (by omega)
        have hwl22 := hwo22.1
        refine z_aald (t := 4) (C := "StoneGazette$Word") (v := (some q22)) hC hZ h1 rfl (by omega) (by omega) hq22 dX1_longestWord_22 ?_
        refine lv_astore (lv' := [(5, .ref q22), (4, .int (iI k)), (3, .int (iI (x.2.2.length : Int))), (2, .ref wa), (1, .int (iI n)), (0, .ref a)]) hx hb dX1_longestWord_23 hl (by decide) rfl (fun ls hl => ?_)
        refine lv_iload_n hx hb dX1_longestWord_25 rfl (lv_at hl 4 rfl) ?_
        refine lv_aload hx hb dX1_longestWord_26 (lv_at hl 0 rfl) ?_
        obtain ⟨fsho_3, ho_3⟩ := (hwd22).o
        refine z_calli (z_runV (rest := [.int (iI n)]) (As := []) (n := 0) (ci := 14) hC hZ (met_X11_letterCount l D cs A F q22 (x.2.2.getD k.toNat []) hwd22) gv_X1_28 hd_X11_letterCount rfl ho_3 rfl hl rfl (Nat.le_of_ble_eq_true rfl) ⟨Nat.le_of_ble_eq_true rfl, Nat.le_of_ble_eq_true rfl⟩ ⟨Nat.le_of_ble_eq_true rfl, Nat.le_of_ble_eq_true rfl⟩ dX1_longestWord_28) hZ (fun r28 F28 H locs hp28_c_4 hZ => ?_)
        obtain ⟨rfl, rfl⟩ := hp28_c_4
        refine z_mmax (rest := []) hC hl qm_X1_34 (by omega) (by omega) ⟨Nat.le_of_ble_eq_true rfl, Nat.le_of_ble_eq_true rfl⟩ ⟨Nat.le_of_ble_eq_true rfl, Nat.le_of_ble_eq_true rfl⟩ dX1_longestWord_31 (fun r31 hmx31 => ?_)
        have hnx := lgW_s hi13_1 (by omega) hmx31
        refine lv_istore_n (lv' := [(1, .int (iI r31)), (5, .ref q22), (4, .int (iI k)), (3, .int (iI (x.2.2.length : Int))), (2, .ref wa), (0, .ref a)]) hx hb dX1_longestWord_34 rfl hl (by decide) rfl (fun ls hl => ?_)
        refine z_iinc (lv' := [(4, .int (iI (k + 1))), (1, .int (iI r31)), (5, .ref q22), (3, .int (iI (x.2.2.length : Int))), (2, .ref wa), (0, .ref a)]) hx hb dX1_longestWord_35 hl (k := 2) rfl (by decide) rfl (fun ls hl => ?_)
        refine lv_goto (tgt := 13) hx hb dX1_longestWord_38 (by decide) ?_
        exact ih13 r31 (k + 1)  (by omega) (by omega) hnx (by omega)  _ _ hZ ls (lv_sub hl [0, 3, 4, 1, 5] rfl)
  exact L13_k_1 _ 0 0  (Nat.lt_succ_self _) (by omega) ⟨fun j h1 h2 => absurd h1 (by omega), Or.inl rfl⟩ ⟨by decide, by decide⟩  _ _ hZ ls (lv_sub hl [0, 1, 2, 3, 4] rfl)
