theorem gI_set {l : List Nat} {i k : Int} {x : Nat} (hi : 0 ≤ i ∧ i < l.length) (h0 : 0 ≤ k) : (l.set i.toNat x).getD k.toNat 0 = if k = i then x else l.getD k.toNat 0 := gD_set hi h0
theorem dayif {k j da x : Int} (h : j ≠ k) : (if j < k + 1 then da + x else da) = if j < k then da + x else da := by
  by_cases q : j < k
  · rw [if_pos q, if_pos (by omega)]
  · rw [if_neg q, if_neg (by omega)]
set_option maxHeartbeats 4000000 in
set_option maxRecDepth 100000 in
theorem met_X10_letDaysPass (l : Launch) (D : va_G) (cs : Nat → ClassId) (A : Nat → Prop) (F : zF) (a la ra li ri : Nat) (c0 : zCo) (x : Int)  (hs1 : bSt cs F a la ra li ri c0) (hx0 : InR x) (hn2 : (cIs c0).length ≤ 4) (hda : 0 ≤ cDa c0 ∧ cDa c0 ≤ 1000000) (hag : ∀ s ∈ cIs c0, 0 ≤ cDa c0 - iPr s ∧ cDa c0 - iPr s ≤ 1000000) : zM l D cs A yX10_letDaysPass cX10_letDaysPass 3 (some FieldType.boolean) 4 4 12 [.ref a, .int (iI x)] F (pI (fun r F1 => (¬ (1 ≤ x ∧ x ≤ 30) ∧ r = 0 ∧ F = F1) ∨ ((1 ≤ x ∧ x ≤ 30) ∧ r = 1 ∧ zko [a, li, ri] F F1 ∧ bSt cs F1 a la ra li ri (cDay c0 x)))) := by
  refine zM_of (own := RX10) (by decide) rfl (Nat.le_of_ble_eq_true rfl) ?_
  intro p e s m below meth c hC hr hlk hnm hZ ls hl
  have hx := hC.x
  have hb := hC.b
  have hl : lv_has ls 3 [(0, .ref a), (1, .int (iI x))] := hl
  obtain ⟨aL, iL, h0, hla, hli, has, his, hne1, hne2⟩ := id hs1
  have hO1 : ∀ o, o ∈ [a] → zNi cs F o := fun o ho => by rw [List.mem_singleton.mp ho]; exact zNi.o h0 (by decide)
  have hO2 : ∀ o, o ∈ [a] → ∃ (ci : Nat) (fs : List Value), F o = some (.inr (ci, fs)) ∧ ci ≠ 4 := fun o ho => by rw [List.mem_singleton.mp ho]; exact ⟨13, _, h0, by decide⟩
  have hiL := his.1
  have hi10 := oL_10 hli
  have h54 := hC.c54
  have h8 := z_c8 hC hZ
  obtain ⟨fsa, hoa⟩ := hla.o
  obtain ⟨fsi, hoi⟩ := hli.o
  have hali : a ≠ li := zneK h0 hoi (by show 1000000 + 13 ≠ 1000000 + 4; decide)
  have hari := hli.ne h0 h8
  have hO4 : ∀ o, o ∈ [li, ri] → zNi cs F o := fun o ho => by
    rcases List.mem_cons.mp ho with q | q
    · rw [q]; exact zNi.o hoi (by decide)
    · rw [List.mem_singleton.mp q]; exact hli.niR h54 h8
  refine lv_iload_n hx hb dX10_letDaysPass_0 rfl (lv_at hl 1 rfl) ?_
  refine z_iconst hx hb dX10_letDaysPass_1 ?_
  refine z_icmp_lt (tgt := 11) hx hb dX10_letDaysPass_2 (by decide) (by omega) (by decide) (fun c_1 => ?_) (fun c_1 => ?_)
  · skip
    refine z_iconst hx hb dX10_letDaysPass_11 ?_
    exact z_zret hC hr hlk hZ rfl (by decide) (by decide) ((Or.inl ⟨by omega, rfl, rfl⟩)) dX10_letDaysPass_12
  · skip
    refine lv_iload_n hx hb dX10_letDaysPass_5 rfl (lv_at hl 1 rfl) ?_
    refine z_bipush hx hb dX10_letDaysPass_6 (by decide) ?_
    refine z_icmp_le (tgt := 13) hx hb dX10_letDaysPass_8 (by decide) (by omega) (by decide) (fun c_2 => ?_) (fun c_2 => ?_)
    · skip
      refine z_iconst hx hb dX10_letDaysPass_13 ?_
      refine lv_istore_n (lv' := [(2, .int (iI 0)), (0, .ref a), (1, .int (iI x))]) hx hb dX10_letDaysPass_14 rfl hl (by decide) rfl (fun ls hl => ?_)
      have L15_k_3 : ∀ (fu : Nat) (k : Int) (F2 : zF) (iL2 : List Nat) (hfu : (((cIs c0).length : Int) - k).toNat < fu) (hi15_0 : 0 ≤ k ∧ k ≤ ((cIs c0).length : Int)) (hi15_1 : zko [li, ri] F F2) (hi15_2 : oLx cs F2 li ri iL2) (hi15_3 : iL2.length = iL.length) (hi15_4 : ∀ j : Int, 0 ≤ j → j < ((cIs c0).length : Int) → oIs cs F2 (iL2.getD j.toNat 0) (if j < k then cDa c0 + x else cDa c0) ((cIs c0).getD j.toNat (0, 0, 0, 0, [], 0))) (H : Heap) (locs : List Loc) (hZ : zS D A s F2 H locs) (ls : Array Slot) (hl : lv_has ls 3 [(2, .int (iI k)), (0, .ref a), (1, .int (iI x))]), W p l e (zR 4 4 12) s m [.ref a, .int (iI x)].toArray below meth c H locs k.toNat (3 * k.toNat) (MQ below (zQ D A (pI (fun r F1 => (¬ (1 ≤ x ∧ x ≤ 30) ∧ r = 0 ∧ F = F1) ∨ ((1 ≤ x ∧ x ≤ 30) ∧ r = 1 ∧ zko [a, li, ri] F F1 ∧ bSt cs F1 a la ra li ri (cDay c0 x))))) [.ref a, .int (iI x)].toArray s 4 12 A) (F0 m 15 ls []) := by
        intro fu
        induction fu with
        | zero =>
          intro k F2 iL2 hfu
          exact absurd hfu (Nat.not_lt_zero _)
        | succ fu ih15 =>
          intro k F2 iL2 hfu hi15_0 hi15_1 hi15_2 hi15_3 hi15_4  H locs hZ ls hl
          have g0 : F2 a = _ := hi15_1 _ _ h0 (zni1 hali (zni1 hari zni0))
          have hi102 := oL_10 hi15_2
          refine lv_iload_n hx hb dX10_letDaysPass_15 rfl (lv_at hl 0 rfl) ?_
          refine lv_aload_n hx hb dX10_letDaysPass_16 rfl (lv_at hl 1 rfl) ?_
          refine z_get (T := TX10) (N := 9) (ci := 13) (k := 1) (fs := [.ref la, .ref li, .int (iI (cNi c0)), .int (iI (cNn c0)), .int (iI (cWi c0)), .int (iI (cCo c0)), .int (iI (cHe c0)), .int (iI (cDa c0)), .int (iI (cLa c0))]) (v := .ref li) hC hZ in_X10 rfl (by decide) ql_X10_18 rfl g0 rfl dX10_letDaysPass_17 ?_
          obtain ⟨fsho_4, ho_4⟩ := (hi15_2).o
          refine z_calli (z_runV (rest := [.int (iI k)]) (As := []) (n := 0) (ci := 4) hC hZ (met_Jx4a65c_size_8abf5 l D cs A F2 li ri iL2 hi15_2) gv_X10_44 hd_Jx4a65c_size_8abf5 rfl ho_4 rfl hl rfl (Nat.le_of_ble_eq_true rfl) ⟨Nat.le_of_ble_eq_true rfl, Nat.le_of_ble_eq_true rfl⟩ ⟨(by show _ ≤ 4; omega), (by show _ ≤ 12; omega)⟩ dX10_letDaysPass_20) hZ (fun r20 F20 H locs hp20_c_5 hZ => ?_)
          obtain ⟨rfl, rfl⟩ := hp20_c_5
          refine z_icmp_ge (tgt := 56) hx hb dX10_letDaysPass_23 (by decide) (by omega) (by omega) (fun c_6 => ?_) (fun c_6 => ?_)
          · skip
            have hla2 : oLx cs F2 la ra aL := hla.sep hli hne1 hne2 h8 hi15_1
            have hO1b : ∀ o, o ∈ [a] → zNi cs F2 o := fun o ho => by rw [List.mem_singleton.mp ho]; exact zNi.o g0 (by decide)
            have hO2b : ∀ o, o ∈ [a] → ∃ (ci : Nat) (fs : List Value), F2 o = some (.inr (ci, fs)) ∧ ci ≠ 4 := fun o ho => by rw [List.mem_singleton.mp ho]; exact ⟨13, _, g0, by decide⟩
            refine lv_aload_n hx hb dX10_letDaysPass_56 rfl (lv_at hl 1 rfl) ?_
            refine lv_dup hx hb dX10_letDaysPass_57 rfl ?_
            refine z_get (T := TX10) (N := 9) (ci := 13) (k := 7) (fs := [.ref la, .ref li, .int (iI (cNi c0)), .int (iI (cNn c0)), .int (iI (cWi c0)), .int (iI (cCo c0)), .int (iI (cHe c0)), .int (iI (cDa c0)), .int (iI (cLa c0))]) (v := .int (iI (cDa c0))) hC hZ in_X10 rfl (by decide) ql_X10_37 rfl g0 rfl dX10_letDaysPass_58 ?_
            refine lv_iload_n hx hb dX10_letDaysPass_61 rfl (lv_at hl 2 rfl) ?_
            refine z_iadd hx hb dX10_letDaysPass_62 ?_
            refine z_put (T := TX10) (N := 9) (ci := 13) (k := 7) (fs := [.ref la, .ref li, .int (iI (cNi c0)), .int (iI (cNn c0)), .int (iI (cWi c0)), .int (iI (cCo c0)), .int (iI (cHe c0)), .int (iI (cDa c0)), .int (iI (cLa c0))]) (v := .int (iI ((cDa c0) + x))) hC hZ tyX10 tyX10_ok nmX10 in_X10 rfl (by decide) ql_X10_37 rfl (Or.inl rfl) rfl g0 (by show 7 < 9; decide) rfl rfl dX10_letDaysPass_63 (fun H locs hZ => ?_)
            have hf_7 : (zup F2 a (.inr (13, [.ref la, .ref li, .int (iI (cNi c0)), .int (iI (cNn c0)), .int (iI (cWi c0)), .int (iI (cCo c0)), .int (iI (cHe c0)), .int (iI ((cDa c0) + x)), .int (iI (cLa c0))]))) a = some (.inr (13, [.ref la, .ref li, .int (iI (cNi c0)), .int (iI (cNn c0)), .int (iI (cWi c0)), .int (iI (cCo c0)), .int (iI (cHe c0)), .int (iI ((cDa c0) + x)), .int (iI (cLa c0))])) := zup_s
            replace hZ : zS D A s (zup F2 a (.inr (13, [.ref la, .ref li, .int (iI (cNi c0)), .int (iI (cNn c0)), .int (iI (cWi c0)), .int (iI (cCo c0)), .int (iI (cHe c0)), .int (iI ((cDa c0) + x)), .int (iI (cLa c0))]))) _ _ := hZ
            refine z_iconst hx hb dX10_letDaysPass_66 ?_
            exact z_zret hC hr hlk hZ rfl (by omega) (by omega) ((Or.inr ⟨by omega, rfl, (hi15_1.sub (fun q hq => List.mem_cons_of_mem _ hq)).trans (((zko.refl : zko [a] F2 F2).up (by simp)).sub (fun q hq => by rw [List.mem_singleton.mp hq]; simp)), aL, iL2, hf_7, hla2.keepB ((zko.refl : zko [a] F2 F2).up (by simp)) hO2b, hi15_2.keepB ((zko.refl : zko [a] F2 F2).up (by simp)) hO2b, (has.keepO hi15_1 hO4).keepO ((zko.refl : zko [a] F2 F2).up (by simp)) hO1b, ⟨by rw [hi15_3]; exact hiL, fun j j0 j1 => by have z := hi15_4 j j0 j1; rw [if_pos (by have j1 : j < ((cIs c0).length : Int) := j1; omega)] at z; exact z.keepO ((zko.refl : zko [a] F2 F2).up (by simp)) hO1b⟩, hne1, hne2⟩)) dX10_letDaysPass_67
          · skip
            refine lv_aload_n hx hb dX10_letDaysPass_26 rfl (lv_at hl 1 rfl) ?_
            refine z_get (T := TX10) (N := 9) (ci := 13) (k := 1) (fs := [.ref la, .ref li, .int (iI (cNi c0)), .int (iI (cNn c0)), .int (iI (cWi c0)), .int (iI (cCo c0)), .int (iI (cHe c0)), .int (iI (cDa c0)), .int (iI (cLa c0))]) (v := .ref li) hC hZ in_X10 rfl (by decide) ql_X10_18 rfl g0 rfl dX10_letDaysPass_27 ?_
            refine lv_iload_n hx hb dX10_letDaysPass_30 rfl (lv_at hl 0 rfl) ?_
            refine lv_aload_n hx hb dX10_letDaysPass_31 rfl (lv_at hl 1 rfl) ?_
            refine z_get (T := TX10) (N := 9) (ci := 13) (k := 1) (fs := [.ref la, .ref li, .int (iI (cNi c0)), .int (iI (cNn c0)), .int (iI (cWi c0)), .int (iI (cCo c0)), .int (iI (cHe c0)), .int (iI (cDa c0)), .int (iI (cLa c0))]) (v := .ref li) hC hZ in_X10 rfl (by decide) ql_X10_18 rfl g0 rfl dX10_letDaysPass_32 ?_
            refine lv_iload_n hx hb dX10_letDaysPass_35 rfl (lv_at hl 0 rfl) ?_
            obtain ⟨fsho_8, ho_8⟩ := (hi15_2).o
            refine z_callr (z_runV (rest := [.int (iI k), .ref li]) (As := [.int (iI k)]) (n := 1) (ci := 4) hC hZ (met_Jx4a65c_get_915e3 l D cs A F2 li ri iL2 k hi15_2 (by omega)) gv_X10_48 hd_Jx4a65c_get_915e3 rfl ho_8 rfl hl rfl (Nat.le_of_ble_eq_true rfl) ⟨Nat.le_of_ble_eq_true rfl, Nat.le_of_ble_eq_true rfl⟩ ⟨(by show _ ≤ 4; omega), (by show _ ≤ 12; omega)⟩ dX10_letDaysPass_36) hZ (fun r36 F36 H locs hp36_c_9 hZ => ?_)
            obtain ⟨rfl, rfl⟩ := hp36_c_9
            have hoi36 := hi15_4 k (by omega) (by omega)
            rw [if_neg (by omega)] at hoi36
            obtain ⟨pa36, y036, hop36⟩ := id hoi36
            have hag36 := hag _ (List.mem_of_getElem? (gDI (l := cIs c0) (k := k) (by omega) (by omega)))
            refine z_castS (ci := 10) (N := 3) (T := TX6) hC hZ qk_X10_58 y036 rfl dX10_letDaysPass_39 ?_
            refine lv_iload_n hx hb dX10_letDaysPass_42 rfl (lv_at hl 2 rfl) ?_
            refine z_callr (z_runV (rest := [.int (iI k), .ref li]) (As := [.int (iI x)]) (n := 1) (ci := 10) hC hZ (met_X6_faded l D cs A F2 (iL2.getD k.toNat 0) (cDa c0) ((cIs c0).getD k.toNat (0, 0, 0, 0, [], 0)) x hoi36 ⟨by omega, by omega⟩ (by omega)) gv_X10_134 hd_X6_faded rfl y036 rfl hl rfl (Nat.le_of_ble_eq_true rfl) ⟨Nat.le_of_ble_eq_true rfl, Nat.le_of_ble_eq_true rfl⟩ ⟨(by show _ ≤ 4; omega), (by show _ ≤ 12; omega)⟩ dX10_letDaysPass_43) hZ (fun r43 F43 H locs hp43_c_10 hZ => ?_)
            obtain ⟨hle43, hnn43, hoi43⟩ := hp43_c_10
            have hf_11 : F43 a = some (.inr (13, [.ref la, .ref li, .int (iI (cNi c0)), .int (iI (cNn c0)), .int (iI (cWi c0)), .int (iI (cCo c0)), .int (iI (cHe c0)), .int (iI (cDa c0)), .int (iI (cLa c0))])) := hle43.ko _ _ g0 zni0
            have hf_12 : F43 (iL2.getD k.toNat 0) = some (.inr (10, [.int (iI (iNo ((cIs c0).getD k.toNat (0, 0, 0, 0, [], 0)))), .ref pa36, .float (zfr (cDa c0 - iPr ((cIs c0).getD k.toNat (0, 0, 0, 0, [], 0))).toNat)])) := hle43.ko _ _ y036 zni0
            have hl43 := hi15_2.mono hle43
            obtain ⟨pa43, y43, -⟩ := id hoi43
            have h843 := z_c8 hC hZ
            obtain ⟨fsho_13, ho_13⟩ := (hl43).o
            refine z_callr (z_runV (rest := []) (As := [.int (iI k), .ref r43]) (n := 2) (ci := 4) hC hZ (met_Jx4a65c_set_bcc79 l D cs A F43 li ri iL2 k r43 hl43 ⟨by omega, by omega⟩ ⟨10, 3, RX6, TX6, _, y43, rfl, q_2177⟩) gv_X10_101 hd_Jx4a65c_set_bcc79 rfl ho_13 rfl hl rfl (Nat.le_of_ble_eq_true rfl) ⟨Nat.le_of_ble_eq_true rfl, Nat.le_of_ble_eq_true rfl⟩ ⟨(by show _ ≤ 4; omega), (by show _ ≤ 12; omega)⟩ dX10_letDaysPass_46) hZ (fun r46 F46 H locs hp46_c_14 hZ => ?_)
            obtain ⟨hk46, hl46, hr46⟩ := hp46_c_14
            have hO46 : ∀ o, o ∈ [ri] → zNi cs F43 o := fun o ho => by rw [List.mem_singleton.mp ho]; exact hl43.niR h54 h843
            have hz46 : zko [li, ri] F F46 := (hi15_1.trans hle43.ko).trans (hk46.sub (fun q hq => List.mem_cons_of_mem _ hq))
            have hall46 : ∀ j : Int, 0 ≤ j → j < ((cIs c0).length : Int) → oIs cs F46 ((iL2.set k.toNat r43).getD j.toNat 0) (if j < k + 1 then cDa c0 + x else cDa c0) ((cIs c0).getD j.toNat (0, 0, 0, 0, [], 0)) := fun j j0 j1 => by
              rw [gI_set ⟨by omega, by omega⟩ j0]
              by_cases q : j = k
              · rw [if_pos q, if_pos (by omega), q]
                exact hoi43.keepO hk46 hO46
              · rw [if_neg q, dayif q]
                exact ((hi15_4 j j0 j1).mono hle43).keepO hk46 hO46
            refine lv_pop hx hb dX10_letDaysPass_49 rfl ?_
            refine z_iinc (lv' := [(2, .int (iI (k + 1))), (0, .ref a), (1, .int (iI x))]) hx hb dX10_letDaysPass_50 hl (k := 0) rfl (by decide) rfl (fun ls hl => ?_)
            refine lv_goto (tgt := 15) hx hb dX10_letDaysPass_53 (by decide) ?_
            refine W.widen (k := ((k + 1).toNat)) (n := (3 * (k + 1).toNat)) (by omega) (by omega) ?_
            exact ih15 (k + 1) F46 (iL2.set k.toNat r43) (by omega) (by omega) hz46 hl46 (by rw [List.length_set]; exact hi15_3) hall46  _ _ hZ ls (lv_sub hl [0, 1, 2] rfl)
      refine W.widen (k := ((0 : Int).toNat)) (n := (3 * (0 : Int).toNat)) (by omega) (by omega) ?_
      exact L15_k_3 _ (0 : Int) F iL (Nat.lt_succ_self _) (by omega) zko.refl hli rfl (fun j j0 j1 => by rw [if_neg (by omega)]; exact his.2 j j0 j1)  _ _ hZ ls (lv_sub hl [0, 1, 2] rfl)
    · skip
      refine z_iconst hx hb dX10_letDaysPass_11 ?_
      exact z_zret hC hr hlk hZ rfl (by decide) (by decide) ((Or.inl ⟨by omega, rfl, rfl⟩)) dX10_letDaysPass_12
