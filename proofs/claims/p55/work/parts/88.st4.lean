theorem oLx.keepB {cs : Nat → ClassId} {F F1 : zF} {a arr : Nat} {l O : List Nat} (h : oLx cs F a arr l) (hk : zko O F F1) (hO : ∀ o, o ∈ O → ∃ (ci : Nat) (fs : List Value), F o = some (.inr (ci, fs)) ∧ ci ≠ 4) : oLx cs F1 a arr l := by
  obtain ⟨mc, h1, h2⟩ := h
  refine ⟨mc, hk _ _ h1 (fun c => ?_), ?_⟩
  · obtain ⟨ci, fs, e1, e2⟩ := hO _ c
    rw [h1] at e1; cases e1; exact e2 rfl
  · rcases h2 with h2 | ⟨f, h3, h4⟩
    · exact Or.inl h2
    · refine Or.inr ⟨f, hk _ _ h3 (fun c => ?_), h4⟩
      obtain ⟨ci, fs, e1, e2⟩ := hO _ c
      rw [h3] at e1; cases e1
set_option maxHeartbeats 4000000 in
set_option maxRecDepth 100000 in
theorem met_X10_takeWidth (l : Launch) (D : va_G) (cs : Nat → ClassId) (A : Nat → Prop) (F : zF) (a la ra li ri : Nat) (c0 : zCo) (x : Int)  (hs1 : bSt cs F a la ra li ri c0) (hx0 : InR x) : zM l D cs A yX10_takeWidth cX10_takeWidth 2 (some FieldType.boolean) 1 0 0 [.ref a, .int (iI x)] F (pI (fun r F1 => (¬ (4 ≤ x ∧ x ≤ 20) ∧ r = 0 ∧ F = F1) ∨ ((4 ≤ x ∧ x ≤ 20) ∧ r = 1 ∧ zko [a] F F1 ∧ bSt cs F1 a la ra li ri (cWid c0 x)))) := by
  refine zM_of (own := RX10) (by decide) rfl (Nat.le_of_ble_eq_true rfl) ?_
  intro p e s m below meth c hC hr hlk hnm hZ ls hl
  have hx := hC.x
  have hb := hC.b
  have hl : lv_has ls 2 [(0, .ref a), (1, .int (iI x))] := hl
  obtain ⟨aL, iL, h0, hla, hli, has, his, hne1, hne2⟩ := id hs1
  have hO1 : ∀ o, o ∈ [a] → zNi cs F o := fun o ho => by rw [List.mem_singleton.mp ho]; exact zNi.o h0 (by decide)
  have hO2 : ∀ o, o ∈ [a] → ∃ (ci : Nat) (fs : List Value), F o = some (.inr (ci, fs)) ∧ ci ≠ 4 := fun o ho => by rw [List.mem_singleton.mp ho]; exact ⟨13, _, h0, by decide⟩
  refine lv_iload_n hx hb dX10_takeWidth_0 rfl (lv_at hl 1 rfl) ?_
  refine z_iconst hx hb dX10_takeWidth_1 ?_
  refine z_icmp_lt (tgt := 11) hx hb dX10_takeWidth_2 (by decide) (by omega) (by decide) (fun c_1 => ?_) (fun c_1 => ?_)
  · skip
    refine z_iconst hx hb dX10_takeWidth_11 ?_
    exact z_zret hC hr hlk hZ rfl (by decide) (by decide) ((Or.inl ⟨by omega, rfl, rfl⟩)) dX10_takeWidth_12
  · skip
    refine lv_iload_n hx hb dX10_takeWidth_5 rfl (lv_at hl 1 rfl) ?_
    refine z_bipush hx hb dX10_takeWidth_6 (by decide) ?_
    refine z_icmp_le (tgt := 13) hx hb dX10_takeWidth_8 (by decide) (by omega) (by decide) (fun c_2 => ?_) (fun c_2 => ?_)
    · skip
      refine lv_aload_n hx hb dX10_takeWidth_13 rfl (lv_at hl 0 rfl) ?_
      refine lv_iload_n hx hb dX10_takeWidth_14 rfl (lv_at hl 1 rfl) ?_
      refine z_put (T := TX10) (N := 9) (ci := 13) (k := 4) (fs := [.ref la, .ref li, .int (iI (cNi c0)), .int (iI (cNn c0)), .int (iI (cWi c0)), .int (iI (cCo c0)), .int (iI (cHe c0)), .int (iI (cDa c0)), .int (iI (cLa c0))]) (v := .int (iI x)) hC hZ tyX10 tyX10_ok nmX10 in_X10 rfl (by decide) ql_X10_28 rfl (Or.inl rfl) rfl h0 (by show 4 < 9; decide) rfl rfl dX10_takeWidth_15 (fun H locs hZ => ?_)
      have hf_3 : (zup F a (.inr (13, [.ref la, .ref li, .int (iI (cNi c0)), .int (iI (cNn c0)), .int (iI x), .int (iI (cCo c0)), .int (iI (cHe c0)), .int (iI (cDa c0)), .int (iI (cLa c0))]))) a = some (.inr (13, [.ref la, .ref li, .int (iI (cNi c0)), .int (iI (cNn c0)), .int (iI x), .int (iI (cCo c0)), .int (iI (cHe c0)), .int (iI (cDa c0)), .int (iI (cLa c0))])) := zup_s
      replace hZ : zS D A s (zup F a (.inr (13, [.ref la, .ref li, .int (iI (cNi c0)), .int (iI (cNn c0)), .int (iI x), .int (iI (cCo c0)), .int (iI (cHe c0)), .int (iI (cDa c0)), .int (iI (cLa c0))]))) _ _ := hZ
      refine z_iconst hx hb dX10_takeWidth_18 ?_
      exact z_zret hC hr hlk hZ rfl (by decide) (by decide) ((Or.inr ⟨by omega, rfl, ((zko.refl).up (by simp)), aL, iL, hf_3, hla.keepB ((zko.refl).up (by simp)) hO2, hli.keepB ((zko.refl).up (by simp)) hO2, has.keepO ((zko.refl).up (by simp)) hO1, his.keepO ((zko.refl).up (by simp)) hO1, hne1, hne2⟩)) dX10_takeWidth_19
    · skip
      refine z_iconst hx hb dX10_takeWidth_11 ?_
      exact z_zret hC hr hlk hZ rfl (by decide) (by decide) ((Or.inl ⟨by omega, rfl, rfl⟩)) dX10_takeWidth_12

set_option maxHeartbeats 4000000 in
set_option maxRecDepth 100000 in
theorem met_X10_takePage (l : Launch) (D : va_G) (cs : Nat → ClassId) (A : Nat → Prop) (F : zF) (a la ra li ri : Nat) (c0 : zCo) (x y : Int)  (hs1 : bSt cs F a la ra li ri c0) (hx0 : InR x) (hy0 : InR y) : zM l D cs A yX10_takePage cX10_takePage 3 (some FieldType.boolean) 1 0 0 [.ref a, .int (iI x), .int (iI y)] F (pI (fun r F1 => (¬ ((1 ≤ x ∧ x ≤ 4) ∧ 1 ≤ y ∧ y ≤ 20) ∧ r = 0 ∧ F = F1) ∨ (((1 ≤ x ∧ x ≤ 4) ∧ 1 ≤ y ∧ y ≤ 20) ∧ r = 1 ∧ zko [a] F F1 ∧ bSt cs F1 a la ra li ri (cPag c0 x y)))) := by
  refine zM_of (own := RX10) (by decide) rfl (Nat.le_of_ble_eq_true rfl) ?_
  intro p e s m below meth c hC hr hlk hnm hZ ls hl
  have hx := hC.x
  have hb := hC.b
  have hl : lv_has ls 3 [(0, .ref a), (1, .int (iI x)), (2, .int (iI y))] := hl
  obtain ⟨aL, iL, h0, hla, hli, has, his, hne1, hne2⟩ := id hs1
  have hO1 : ∀ o, o ∈ [a] → zNi cs F o := fun o ho => by rw [List.mem_singleton.mp ho]; exact zNi.o h0 (by decide)
  have hO2 : ∀ o, o ∈ [a] → ∃ (ci : Nat) (fs : List Value), F o = some (.inr (ci, fs)) ∧ ci ≠ 4 := fun o ho => by rw [List.mem_singleton.mp ho]; exact ⟨13, _, h0, by decide⟩
  refine lv_iload_n hx hb dX10_takePage_0 rfl (lv_at hl 1 rfl) ?_
  refine z_iconst hx hb dX10_takePage_1 ?_
  refine z_icmp_lt (tgt := 21) hx hb dX10_takePage_2 (by decide) (by omega) (by decide) (fun c_1 => ?_) (fun c_1 => ?_)
  · skip
    refine z_iconst hx hb dX10_takePage_21 ?_
    exact z_zret hC hr hlk hZ rfl (by decide) (by decide) ((Or.inl ⟨by omega, rfl, rfl⟩)) dX10_takePage_22
  · skip
    refine lv_iload_n hx hb dX10_takePage_5 rfl (lv_at hl 1 rfl) ?_
    refine z_iconst hx hb dX10_takePage_6 ?_
    refine z_icmp_gt (tgt := 21) hx hb dX10_takePage_7 (by decide) (by omega) (by decide) (fun c_2 => ?_) (fun c_2 => ?_)
    · skip
      refine z_iconst hx hb dX10_takePage_21 ?_
      exact z_zret hC hr hlk hZ rfl (by decide) (by decide) ((Or.inl ⟨by omega, rfl, rfl⟩)) dX10_takePage_22
    · skip
      refine lv_iload_n hx hb dX10_takePage_10 rfl (lv_at hl 2 rfl) ?_
      refine z_iconst hx hb dX10_takePage_11 ?_
      refine z_icmp_lt (tgt := 21) hx hb dX10_takePage_12 (by decide) (by omega) (by decide) (fun c_3 => ?_) (fun c_3 => ?_)
      · skip
        refine z_iconst hx hb dX10_takePage_21 ?_
        exact z_zret hC hr hlk hZ rfl (by decide) (by decide) ((Or.inl ⟨by omega, rfl, rfl⟩)) dX10_takePage_22
      · skip
        refine lv_iload_n hx hb dX10_takePage_15 rfl (lv_at hl 2 rfl) ?_
        refine z_bipush hx hb dX10_takePage_16 (by decide) ?_
        refine z_icmp_le (tgt := 23) hx hb dX10_takePage_18 (by decide) (by omega) (by decide) (fun c_4 => ?_) (fun c_4 => ?_)
        · skip
          refine lv_aload_n hx hb dX10_takePage_23 rfl (lv_at hl 0 rfl) ?_
          refine lv_iload_n hx hb dX10_takePage_24 rfl (lv_at hl 1 rfl) ?_
          refine z_put (T := TX10) (N := 9) (ci := 13) (k := 5) (fs := [.ref la, .ref li, .int (iI (cNi c0)), .int (iI (cNn c0)), .int (iI (cWi c0)), .int (iI (cCo c0)), .int (iI (cHe c0)), .int (iI (cDa c0)), .int (iI (cLa c0))]) (v := .int (iI x)) hC hZ tyX10 tyX10_ok nmX10 in_X10 rfl (by decide) ql_X10_31 rfl (Or.inl rfl) rfl h0 (by show 5 < 9; decide) rfl rfl dX10_takePage_25 (fun H locs hZ => ?_)
          have hf_5 : (zup F a (.inr (13, [.ref la, .ref li, .int (iI (cNi c0)), .int (iI (cNn c0)), .int (iI (cWi c0)), .int (iI x), .int (iI (cHe c0)), .int (iI (cDa c0)), .int (iI (cLa c0))]))) a = some (.inr (13, [.ref la, .ref li, .int (iI (cNi c0)), .int (iI (cNn c0)), .int (iI (cWi c0)), .int (iI x), .int (iI (cHe c0)), .int (iI (cDa c0)), .int (iI (cLa c0))])) := zup_s
          replace hZ : zS D A s (zup F a (.inr (13, [.ref la, .ref li, .int (iI (cNi c0)), .int (iI (cNn c0)), .int (iI (cWi c0)), .int (iI x), .int (iI (cHe c0)), .int (iI (cDa c0)), .int (iI (cLa c0))]))) _ _ := hZ
          refine lv_aload_n hx hb dX10_takePage_28 rfl (lv_at hl 0 rfl) ?_
          refine lv_iload_n hx hb dX10_takePage_29 rfl (lv_at hl 2 rfl) ?_
          refine z_put (T := TX10) (N := 9) (ci := 13) (k := 6) (fs := [.ref la, .ref li, .int (iI (cNi c0)), .int (iI (cNn c0)), .int (iI (cWi c0)), .int (iI x), .int (iI (cHe c0)), .int (iI (cDa c0)), .int (iI (cLa c0))]) (v := .int (iI y)) hC hZ tyX10 tyX10_ok nmX10 in_X10 rfl (by decide) ql_X10_34 rfl (Or.inl rfl) rfl hf_5 (by show 6 < 9; decide) rfl rfl dX10_takePage_30 (fun H locs hZ => ?_)
          rw [zup_up] at hZ
          have hf_6 : (zup F a (.inr (13, [.ref la, .ref li, .int (iI (cNi c0)), .int (iI (cNn c0)), .int (iI (cWi c0)), .int (iI x), .int (iI y), .int (iI (cDa c0)), .int (iI (cLa c0))]))) a = some (.inr (13, [.ref la, .ref li, .int (iI (cNi c0)), .int (iI (cNn c0)), .int (iI (cWi c0)), .int (iI x), .int (iI y), .int (iI (cDa c0)), .int (iI (cLa c0))])) := zup_s
          replace hZ : zS D A s (zup F a (.inr (13, [.ref la, .ref li, .int (iI (cNi c0)), .int (iI (cNn c0)), .int (iI (cWi c0)), .int (iI x), .int (iI y), .int (iI (cDa c0)), .int (iI (cLa c0))]))) _ _ := hZ
          refine z_iconst hx hb dX10_takePage_33 ?_
          exact z_zret hC hr hlk hZ rfl (by decide) (by decide) ((Or.inr ⟨by omega, rfl, ((zko.refl).up (by simp)), aL, iL, hf_6, hla.keepB ((zko.refl).up (by simp)) hO2, hli.keepB ((zko.refl).up (by simp)) hO2, has.keepO ((zko.refl).up (by simp)) hO1, his.keepO ((zko.refl).up (by simp)) hO1, hne1, hne2⟩)) dX10_takePage_34
        · skip
          refine z_iconst hx hb dX10_takePage_21 ?_
          exact z_zret hC hr hlk hZ rfl (by decide) (by decide) ((Or.inl ⟨by omega, rfl, rfl⟩)) dX10_takePage_22

/-- the first state -/
def cNew : zCo := ([], [], 0, 0, 12, 2, 8, 0, 0)
set_option maxHeartbeats 4000000 in
set_option maxRecDepth 100000 in
theorem met_X10_init (l : Launch) (D : va_G) (cs : Nat → ClassId) (A : Nat → Prop) (F : zF) (a : Nat)  (h0 : F a = some (.inr (13, [.null, .null, .int (iI 0), .int (iI 0), .int (iI 0), .int (iI 0), .int (iI 0), .int (iI 0), .int (iI 0)]))) : zM l D cs A yX10_init cX10_init 1 (none : Option Jvm.ClassFile.FieldType) 4 2 6 [.ref a] F (pV (fun F1 => ∃ la li : Nat, zko [a] F F1 ∧ F la = none ∧ F li = none ∧ bSt cs F1 a la (cs 8) li (cs 8) cNew)) := by
  refine zM_of (own := RX10) (by decide) rfl (Nat.le_of_ble_eq_true rfl) ?_
  intro p e s m below meth c hC hr hlk hnm hZ ls hl
  have hx := hC.x
  have hb := hC.b
  have hl : lv_has ls 1 [(0, .ref a)] := hl
  refine lv_aload_n hx hb dX10_init_0 rfl (lv_at hl 0 rfl) ?_
  refine z_oinit (rest := []) hC hl qm_X10_3 ⟨Nat.le_of_ble_eq_true rfl, Nat.le_of_ble_eq_true rfl⟩ dX10_init_1 ?_
  refine lv_aload_n hx hb dX10_init_4 rfl (lv_at hl 0 rfl) ?_
  refine z_new (T := TJx4a65c) (N := 3) (ci := 4) hC hZ tyJx4a65c tyJx4a65c_ok in_Jx4a65c rfl qk_X10_9 qx_Jx4a65c qn_Jx4a65c [.int (iI 0), .null, .int (iI 0)] df_Jx4a65c (Nat.le_of_ble_eq_true rfl) (Nat.le_of_ble_eq_true rfl) dX10_init_5 (fun q5 H hq5 hZ => ?_)
  have hf_1 : (zup F q5 (.inr (4, [.int (iI 0), .null, .int (iI 0)]))) a = some (.inr (13, [.null, .null, .int (iI 0), .int (iI 0), .int (iI 0), .int (iI 0), .int (iI 0), .int (iI 0), .int (iI 0)])) := zup_k (zF_ne h0 hq5.1) h0
  have hf_2 : (zup F q5 (.inr (4, [.int (iI 0), .null, .int (iI 0)]))) q5 = some (.inr (4, [.int (iI 0), .null, .int (iI 0)])) := zup_s
  replace hZ : zS D A s (zup F q5 (.inr (4, [.int (iI 0), .null, .int (iI 0)]))) _ _ := hZ
  refine lv_dup hx hb dX10_init_8 rfl ?_
  refine z_callv (z_runI (rest := [.ref q5, .ref a]) (As := []) (n := 0) hC hZ (met_Jx4a65c_init_da8c8 l D cs A (zup F q5 (.inr (4, [.int (iI 0), .null, .int (iI 0)]))) q5 hf_2) qc_Jx4a65c_init_da8c8 qn_Jx4a65c qm_X10_11 qi_Jx4a65c_init_da8c8 rfl he_Jx4a65c_init_da8c8 rfl hl rfl (Nat.le_of_ble_eq_true rfl) ⟨Nat.le_of_ble_eq_true rfl, Nat.le_of_ble_eq_true rfl⟩ ⟨Nat.le_of_ble_eq_true rfl, Nat.le_of_ble_eq_true rfl⟩ dX10_init_9) hZ (fun F9 H locs hp9_c_3 hZ => ?_)
  obtain rfl := hp9_c_3
  rw [zup_up] at hZ
  have hf_4 : (zup F q5 (.inr (4, [.int (iI 0), .ref (cs 8), .int (iI 0)]))) a = some (.inr (13, [.null, .null, .int (iI 0), .int (iI 0), .int (iI 0), .int (iI 0), .int (iI 0), .int (iI 0), .int (iI 0)])) := zup_k (zF_ne h0 hq5.1) h0
  have hf_5 : (zup F q5 (.inr (4, [.int (iI 0), .ref (cs 8), .int (iI 0)]))) q5 = some (.inr (4, [.int (iI 0), .ref (cs 8), .int (iI 0)])) := zup_s
  replace hZ : zS D A s (zup F q5 (.inr (4, [.int (iI 0), .ref (cs 8), .int (iI 0)]))) _ _ := hZ
  refine z_put (T := TX10) (N := 9) (ci := 13) (k := 0) (fs := [.null, .null, .int (iI 0), .int (iI 0), .int (iI 0), .int (iI 0), .int (iI 0), .int (iI 0), .int (iI 0)]) (v := .ref q5) hC hZ tyX10 tyX10_ok nmX10 in_X10 rfl (by decide) ql_X10_12 rfl (Or.inr ⟨rfl, hnm, rfl⟩) rfl hf_4 (by show 0 < 9; decide) rfl rfl dX10_init_12 (fun H locs hZ => ?_)
  have hf_6 : (zup (zup F q5 (.inr (4, [.int (iI 0), .ref (cs 8), .int (iI 0)]))) a (.inr (13, [.ref q5, .null, .int (iI 0), .int (iI 0), .int (iI 0), .int (iI 0), .int (iI 0), .int (iI 0), .int (iI 0)]))) q5 = some (.inr (4, [.int (iI 0), .ref (cs 8), .int (iI 0)])) := zup_k (zne hf_5 hf_4 (fun q => by cases q)) hf_5
  have hf_7 : (zup (zup F q5 (.inr (4, [.int (iI 0), .ref (cs 8), .int (iI 0)]))) a (.inr (13, [.ref q5, .null, .int (iI 0), .int (iI 0), .int (iI 0), .int (iI 0), .int (iI 0), .int (iI 0), .int (iI 0)]))) a = some (.inr (13, [.ref q5, .null, .int (iI 0), .int (iI 0), .int (iI 0), .int (iI 0), .int (iI 0), .int (iI 0), .int (iI 0)])) := zup_s
  replace hZ : zS D A s (zup (zup F q5 (.inr (4, [.int (iI 0), .ref (cs 8), .int (iI 0)]))) a (.inr (13, [.ref q5, .null, .int (iI 0), .int (iI 0), .int (iI 0), .int (iI 0), .int (iI 0), .int (iI 0), .int (iI 0)]))) _ _ := hZ
  refine lv_aload_n hx hb dX10_init_15 rfl (lv_at hl 0 rfl) ?_
  refine z_new (T := TJx4a65c) (N := 3) (ci := 4) hC hZ tyJx4a65c tyJx4a65c_ok in_Jx4a65c rfl qk_X10_9 qx_Jx4a65c qn_Jx4a65c [.int (iI 0), .null, .int (iI 0)] df_Jx4a65c (Nat.le_of_ble_eq_true rfl) (Nat.le_of_ble_eq_true rfl) dX10_init_16 (fun q16 H hq16 hZ => ?_)
  have hf_8 : (zup (zup (zup F q5 (.inr (4, [.int (iI 0), .ref (cs 8), .int (iI 0)]))) a (.inr (13, [.ref q5, .null, .int (iI 0), .int (iI 0), .int (iI 0), .int (iI 0), .int (iI 0), .int (iI 0), .int (iI 0)]))) q16 (.inr (4, [.int (iI 0), .null, .int (iI 0)]))) q5 = some (.inr (4, [.int (iI 0), .ref (cs 8), .int (iI 0)])) := zup_k (zF_ne hf_6 hq16.1) hf_6
  have hf_9 : (zup (zup (zup F q5 (.inr (4, [.int (iI 0), .ref (cs 8), .int (iI 0)]))) a (.inr (13, [.ref q5, .null, .int (iI 0), .int (iI 0), .int (iI 0), .int (iI 0), .int (iI 0), .int (iI 0), .int (iI 0)]))) q16 (.inr (4, [.int (iI 0), .null, .int (iI 0)]))) a = some (.inr (13, [.ref q5, .null, .int (iI 0), .int (iI 0), .int (iI 0), .int (iI 0), .int (iI 0), .int (iI 0), .int (iI 0)])) := zup_k (zF_ne hf_7 hq16.1) hf_7
  have hf_10 : (zup (zup (zup F q5 (.inr (4, [.int (iI 0), .ref (cs 8), .int (iI 0)]))) a (.inr (13, [.ref q5, .null, .int (iI 0), .int (iI 0), .int (iI 0), .int (iI 0), .int (iI 0), .int (iI 0), .int (iI 0)]))) q16 (.inr (4, [.int (iI 0), .null, .int (iI 0)]))) q16 = some (.inr (4, [.int (iI 0), .null, .int (iI 0)])) := zup_s
  replace hZ : zS D A s (zup (zup (zup F q5 (.inr (4, [.int (iI 0), .ref (cs 8), .int (iI 0)]))) a (.inr (13, [.ref q5, .null, .int (iI 0), .int (iI 0), .int (iI 0), .int (iI 0), .int (iI 0), .int (iI 0), .int (iI 0)]))) q16 (.inr (4, [.int (iI 0), .null, .int (iI 0)]))) _ _ := hZ
  refine lv_dup hx hb dX10_init_19 rfl ?_
  refine z_callv (z_runI (rest := [.ref q16, .ref a]) (As := []) (n := 0) hC hZ (met_Jx4a65c_init_da8c8 l D cs A (zup (zup (zup F q5 (.inr (4, [.int (iI 0), .ref (cs 8), .int (iI 0)]))) a (.inr (13, [.ref q5, .null, .int (iI 0), .int (iI 0), .int (iI 0), .int (iI 0), .int (iI 0), .int (iI 0), .int (iI 0)]))) q16 (.inr (4, [.int (iI 0), .null, .int (iI 0)]))) q16 hf_10) qc_Jx4a65c_init_da8c8 qn_Jx4a65c qm_X10_11 qi_Jx4a65c_init_da8c8 rfl he_Jx4a65c_init_da8c8 rfl hl rfl (Nat.le_of_ble_eq_true rfl) ⟨Nat.le_of_ble_eq_true rfl, Nat.le_of_ble_eq_true rfl⟩ ⟨Nat.le_of_ble_eq_true rfl, Nat.le_of_ble_eq_true rfl⟩ dX10_init_20) hZ (fun F20 H locs hp20_c_11 hZ => ?_)
  obtain rfl := hp20_c_11
  rw [zup_up] at hZ
  have hf_12 : (zup (zup (zup F q5 (.inr (4, [.int (iI 0), .ref (cs 8), .int (iI 0)]))) a (.inr (13, [.ref q5, .null, .int (iI 0), .int (iI 0), .int (iI 0), .int (iI 0), .int (iI 0), .int (iI 0), .int (iI 0)]))) q16 (.inr (4, [.int (iI 0), .ref (cs 8), .int (iI 0)]))) q5 = some (.inr (4, [.int (iI 0), .ref (cs 8), .int (iI 0)])) := zup_k (zF_ne hf_6 hq16.1) hf_6
  have hf_13 : (zup (zup (zup F q5 (.inr (4, [.int (iI 0), .ref (cs 8), .int (iI 0)]))) a (.inr (13, [.ref q5, .null, .int (iI 0), .int (iI 0), .int (iI 0), .int (iI 0), .int (iI 0), .int (iI 0), .int (iI 0)]))) q16 (.inr (4, [.int (iI 0), .ref (cs 8), .int (iI 0)]))) a = some (.inr (13, [.ref q5, .null, .int (iI 0), .int (iI 0), .int (iI 0), .int (iI 0), .int (iI 0), .int (iI 0), .int (iI 0)])) := zup_k (zF_ne hf_7 hq16.1) hf_7
  have hf_14 : (zup (zup (zup F q5 (.inr (4, [.int (iI 0), .ref (cs 8), .int (iI 0)]))) a (.inr (13, [.ref q5, .null, .int (iI 0), .int (iI 0), .int (iI 0), .int (iI 0), .int (iI 0), .int (iI 0), .int (iI 0)]))) q16 (.inr (4, [.int (iI 0), .ref (cs 8), .int (iI 0)]))) q16 = some (.inr (4, [.int (iI 0), .ref (cs 8), .int (iI 0)])) := zup_s
  replace hZ : zS D A s (zup (zup (zup F q5 (.inr (4, [.int (iI 0), .ref (cs 8), .int (iI 0)]))) a (.inr (13, [.ref q5, .null, .int (iI 0), .int (iI 0), .int (iI 0), .int (iI 0), .int (iI 0), .int (iI 0), .int (iI 0)]))) q16 (.inr (4, [.int (iI 0), .ref (cs 8), .int (iI 0)]))) _ _ := hZ
  refine z_put (T := TX10) (N := 9) (ci := 13) (k := 1) (fs := [.ref q5, .null, .int (iI 0), .int (iI 0), .int (iI 0), .int (iI 0), .int (iI 0), .int (iI 0), .int (iI 0)]) (v := .ref q16) hC hZ tyX10 tyX10_ok nmX10 in_X10 rfl (by decide) ql_X10_18 rfl (Or.inr ⟨rfl, hnm, rfl⟩) rfl hf_13 (by show 1 < 9; decide) rfl rfl dX10_init_23 (fun H locs hZ => ?_)
  have hf_15 : (zup (zup (zup (zup F q5 (.inr (4, [.int (iI 0), .ref (cs 8), .int (iI 0)]))) a (.inr (13, [.ref q5, .null, .int (iI 0), .int (iI 0), .int (iI 0), .int (iI 0), .int (iI 0), .int (iI 0), .int (iI 0)]))) q16 (.inr (4, [.int (iI 0), .ref (cs 8), .int (iI 0)]))) a (.inr (13, [.ref q5, .ref q16, .int (iI 0), .int (iI 0), .int (iI 0), .int (iI 0), .int (iI 0), .int (iI 0), .int (iI 0)]))) q5 = some (.inr (4, [.int (iI 0), .ref (cs 8), .int (iI 0)])) := zup_k (zne hf_12 hf_13 (fun q => by cases q)) hf_12
  have hf_16 : (zup (zup (zup (zup F q5 (.inr (4, [.int (iI 0), .ref (cs 8), .int (iI 0)]))) a (.inr (13, [.ref q5, .null, .int (iI 0), .int (iI 0), .int (iI 0), .int (iI 0), .int (iI 0), .int (iI 0), .int (iI 0)]))) q16 (.inr (4, [.int (iI 0), .ref (cs 8), .int (iI 0)]))) a (.inr (13, [.ref q5, .ref q16, .int (iI 0), .int (iI 0), .int (iI 0), .int (iI 0), .int (iI 0), .int (iI 0), .int (iI 0)]))) q16 = some (.inr (4, [.int (iI 0), .ref (cs 8), .int (iI 0)])) := zup_k (zne hf_14 hf_13 (fun q => by cases q)) hf_14
  have hf_17 : (zup (zup (zup (zup F q5 (.inr (4, [.int (iI 0), .ref (cs 8), .int (iI 0)]))) a (.inr (13, [.ref q5, .null, .int (iI 0), .int (iI 0), .int (iI 0), .int (iI 0), .int (iI 0), .int (iI 0), .int (iI 0)]))) q16 (.inr (4, [.int (iI 0), .ref (cs 8), .int (iI 0)]))) a (.inr (13, [.ref q5, .ref q16, .int (iI 0), .int (iI 0), .int (iI 0), .int (iI 0), .int (iI 0), .int (iI 0), .int (iI 0)]))) a = some (.inr (13, [.ref q5, .ref q16, .int (iI 0), .int (iI 0), .int (iI 0), .int (iI 0), .int (iI 0), .int (iI 0), .int (iI 0)])) := zup_s
  replace hZ : zS D A s (zup (zup (zup (zup F q5 (.inr (4, [.int (iI 0), .ref (cs 8), .int (iI 0)]))) a (.inr (13, [.ref q5, .null, .int (iI 0), .int (iI 0), .int (iI 0), .int (iI 0), .int (iI 0), .int (iI 0), .int (iI 0)]))) q16 (.inr (4, [.int (iI 0), .ref (cs 8), .int (iI 0)]))) a (.inr (13, [.ref q5, .ref q16, .int (iI 0), .int (iI 0), .int (iI 0), .int (iI 0), .int (iI 0), .int (iI 0), .int (iI 0)]))) _ _ := hZ
  refine lv_aload_n hx hb dX10_init_26 rfl (lv_at hl 0 rfl) ?_
  refine z_iconst hx hb dX10_init_27 ?_
  refine z_put (T := TX10) (N := 9) (ci := 13) (k := 2) (fs := [.ref q5, .ref q16, .int (iI 0), .int (iI 0), .int (iI 0), .int (iI 0), .int (iI 0), .int (iI 0), .int (iI 0)]) (v := .int (iI 0)) hC hZ tyX10 tyX10_ok nmX10 in_X10 rfl (by decide) ql_X10_21 rfl (Or.inl rfl) rfl hf_17 (by show 2 < 9; decide) rfl rfl dX10_init_28 (fun H locs hZ => ?_)
  rw [zup_up] at hZ
  have hf_18 : (zup (zup (zup (zup F q5 (.inr (4, [.int (iI 0), .ref (cs 8), .int (iI 0)]))) a (.inr (13, [.ref q5, .null, .int (iI 0), .int (iI 0), .int (iI 0), .int (iI 0), .int (iI 0), .int (iI 0), .int (iI 0)]))) q16 (.inr (4, [.int (iI 0), .ref (cs 8), .int (iI 0)]))) a (.inr (13, [.ref q5, .ref q16, .int (iI 0), .int (iI 0), .int (iI 0), .int (iI 0), .int (iI 0), .int (iI 0), .int (iI 0)]))) q5 = some (.inr (4, [.int (iI 0), .ref (cs 8), .int (iI 0)])) := zup_k (zne hf_12 hf_13 (fun q => by cases q)) hf_12
  have hf_19 : (zup (zup (zup (zup F q5 (.inr (4, [.int (iI 0), .ref (cs 8), .int (iI 0)]))) a (.inr (13, [.ref q5, .null, .int (iI 0), .int (iI 0), .int (iI 0), .int (iI 0), .int (iI 0), .int (iI 0), .int (iI 0)]))) q16 (.inr (4, [.int (iI 0), .ref (cs 8), .int (iI 0)]))) a (.inr (13, [.ref q5, .ref q16, .int (iI 0), .int (iI 0), .int (iI 0), .int (iI 0), .int (iI 0), .int (iI 0), .int (iI 0)]))) q16 = some (.inr (4, [.int (iI 0), .ref (cs 8), .int (iI 0)])) := zup_k (zne hf_14 hf_13 (fun q => by cases q)) hf_14
  have hf_20 : (zup (zup (zup (zup F q5 (.inr (4, [.int (iI 0), .ref (cs 8), .int (iI 0)]))) a (.inr (13, [.ref q5, .null, .int (iI 0), .int (iI 0), .int (iI 0), .int (iI 0), .int (iI 0), .int (iI 0), .int (iI 0)]))) q16 (.inr (4, [.int (iI 0), .ref (cs 8), .int (iI 0)]))) a (.inr (13, [.ref q5, .ref q16, .int (iI 0), .int (iI 0), .int (iI 0), .int (iI 0), .int (iI 0), .int (iI 0), .int (iI 0)]))) a = some (.inr (13, [.ref q5, .ref q16, .int (iI 0), .int (iI 0), .int (iI 0), .int (iI 0), .int (iI 0), .int (iI 0), .int (iI 0)])) := zup_s
  replace hZ : zS D A s (zup (zup (zup (zup F q5 (.inr (4, [.int (iI 0), .ref (cs 8), .int (iI 0)]))) a (.inr (13, [.ref q5, .null, .int (iI 0), .int (iI 0), .int (iI 0), .int (iI 0), .int (iI 0), .int (iI 0), .int (iI 0)]))) q16 (.inr (4, [.int (iI 0), .ref (cs 8), .int (iI 0)]))) a (.inr (13, [.ref q5, .ref q16, .int (iI 0), .int (iI 0), .int (iI 0), .int (iI 0), .int (iI 0), .int (iI 0), .int (iI 0)]))) _ _ := hZ
  refine lv_aload_n hx hb dX10_init_31 rfl (lv_at hl 0 rfl) ?_
  refine z_iconst hx hb dX10_init_32 ?_
  refine z_put (T := TX10) (N := 9) (ci := 13) (k := 3) (fs := [.ref q5, .ref q16, .int (iI 0), .int (iI 0), .int (iI 0), .int (iI 0), .int (iI 0), .int (iI 0), .int (iI 0)]) (v := .int (iI 0)) hC hZ tyX10 tyX10_ok nmX10 in_X10 rfl (by decide) ql_X10_25 rfl (Or.inl rfl) rfl hf_20 (by show 3 < 9; decide) rfl rfl dX10_init_33 (fun H locs hZ => ?_)
  rw [zup_up] at hZ
  have hf_21 : (zup (zup (zup (zup F q5 (.inr (4, [.int (iI 0), .ref (cs 8), .int (iI 0)]))) a (.inr (13, [.ref q5, .null, .int (iI 0), .int (iI 0), .int (iI 0), .int (iI 0), .int (iI 0), .int (iI 0), .int (iI 0)]))) q16 (.inr (4, [.int (iI 0), .ref (cs 8), .int (iI 0)]))) a (.inr (13, [.ref q5, .ref q16, .int (iI 0), .int (iI 0), .int (iI 0), .int (iI 0), .int (iI 0), .int (iI 0), .int (iI 0)]))) q5 = some (.inr (4, [.int (iI 0), .ref (cs 8), .int (iI 0)])) := zup_k (zne hf_12 hf_13 (fun q => by cases q)) hf_12
  have hf_22 : (zup (zup (zup (zup F q5 (.inr (4, [.int (iI 0), .ref (cs 8), .int (iI 0)]))) a (.inr (13, [.ref q5, .null, .int (iI 0), .int (iI 0), .int (iI 0), .int (iI 0), .int (iI 0), .int (iI 0), .int (iI 0)]))) q16 (.inr (4, [.int (iI 0), .ref (cs 8), .int (iI 0)]))) a (.inr (13, [.ref q5, .ref q16, .int (iI 0), .int (iI 0), .int (iI 0), .int (iI 0), .int (iI 0), .int (iI 0), .int (iI 0)]))) q16 = some (.inr (4, [.int (iI 0), .ref (cs 8), .int (iI 0)])) := zup_k (zne hf_14 hf_13 (fun q => by cases q)) hf_14
  have hf_23 : (zup (zup (zup (zup F q5 (.inr (4, [.int (iI 0), .ref (cs 8), .int (iI 0)]))) a (.inr (13, [.ref q5, .null, .int (iI 0), .int (iI 0), .int (iI 0), .int (iI 0), .int (iI 0), .int (iI 0), .int (iI 0)]))) q16 (.inr (4, [.int (iI 0), .ref (cs 8), .int (iI 0)]))) a (.inr (13, [.ref q5, .ref q16, .int (iI 0), .int (iI 0), .int (iI 0), .int (iI 0), .int (iI 0), .int (iI 0), .int (iI 0)]))) a = some (.inr (13, [.ref q5, .ref q16, .int (iI 0), .int (iI 0), .int (iI 0), .int (iI 0), .int (iI 0), .int (iI 0), .int (iI 0)])) := zup_s
  replace hZ : zS D A s (zup (zup (zup (zup F q5 (.inr (4, [.int (iI 0), .ref (cs 8), .int (iI 0)]))) a (.inr (13, [.ref q5, .null, .int (iI 0), .int (iI 0), .int (iI 0), .int (iI 0), .int (iI 0), .int (iI 0), .int (iI 0)]))) q16 (.inr (4, [.int (iI 0), .ref (cs 8), .int (iI 0)]))) a (.inr (13, [.ref q5, .ref q16, .int (iI 0), .int (iI 0), .int (iI 0), .int (iI 0), .int (iI 0), .int (iI 0), .int (iI 0)]))) _ _ := hZ
  refine lv_aload_n hx hb dX10_init_36 rfl (lv_at hl 0 rfl) ?_
  refine z_bipush hx hb dX10_init_37 (by decide) ?_
  refine z_put (T := TX10) (N := 9) (ci := 13) (k := 4) (fs := [.ref q5, .ref q16, .int (iI 0), .int (iI 0), .int (iI 0), .int (iI 0), .int (iI 0), .int (iI 0), .int (iI 0)]) (v := .int (iI 12)) hC hZ tyX10 tyX10_ok nmX10 in_X10 rfl (by decide) ql_X10_28 rfl (Or.inl rfl) rfl hf_23 (by show 4 < 9; decide) rfl rfl dX10_init_39 (fun H locs hZ => ?_)
  rw [zup_up] at hZ
  have hf_24 : (zup (zup (zup (zup F q5 (.inr (4, [.int (iI 0), .ref (cs 8), .int (iI 0)]))) a (.inr (13, [.ref q5, .null, .int (iI 0), .int (iI 0), .int (iI 0), .int (iI 0), .int (iI 0), .int (iI 0), .int (iI 0)]))) q16 (.inr (4, [.int (iI 0), .ref (cs 8), .int (iI 0)]))) a (.inr (13, [.ref q5, .ref q16, .int (iI 0), .int (iI 0), .int (iI 12), .int (iI 0), .int (iI 0), .int (iI 0), .int (iI 0)]))) q5 = some (.inr (4, [.int (iI 0), .ref (cs 8), .int (iI 0)])) := zup_k (zne hf_12 hf_13 (fun q => by cases q)) hf_12
  have hf_25 : (zup (zup (zup (zup F q5 (.inr (4, [.int (iI 0), .ref (cs 8), .int (iI 0)]))) a (.inr (13, [.ref q5, .null, .int (iI 0), .int (iI 0), .int (iI 0), .int (iI 0), .int (iI 0), .int (iI 0), .int (iI 0)]))) q16 (.inr (4, [.int (iI 0), .ref (cs 8), .int (iI 0)]))) a (.inr (13, [.ref q5, .ref q16, .int (iI 0), .int (iI 0), .int (iI 12), .int (iI 0), .int (iI 0), .int (iI 0), .int (iI 0)]))) q16 = some (.inr (4, [.int (iI 0), .ref (cs 8), .int (iI 0)])) := zup_k (zne hf_14 hf_13 (fun q => by cases q)) hf_14
  have hf_26 : (zup (zup (zup (zup F q5 (.inr (4, [.int (iI 0), .ref (cs 8), .int (iI 0)]))) a (.inr (13, [.ref q5, .null, .int (iI 0), .int (iI 0), .int (iI 0), .int (iI 0), .int (iI 0), .int (iI 0), .int (iI 0)]))) q16 (.inr (4, [.int (iI 0), .ref (cs 8), .int (iI 0)]))) a (.inr (13, [.ref q5, .ref q16, .int (iI 0), .int (iI 0), .int (iI 12), .int (iI 0), .int (iI 0), .int (iI 0), .int (iI 0)]))) a = some (.inr (13, [.ref q5, .ref q16, .int (iI 0), .int (iI 0), .int (iI 12), .int (iI 0), .int (iI 0), .int (iI 0), .int (iI 0)])) := zup_s
  replace hZ : zS D A s (zup (zup (zup (zup F q5 (.inr (4, [.int (iI 0), .ref (cs 8), .int (iI 0)]))) a (.inr (13, [.ref q5, .null, .int (iI 0), .int (iI 0), .int (iI 0), .int (iI 0), .int (iI 0), .int (iI 0), .int (iI 0)]))) q16 (.inr (4, [.int (iI 0), .ref (cs 8), .int (iI 0)]))) a (.inr (13, [.ref q5, .ref q16, .int (iI 0), .int (iI 0), .int (iI 12), .int (iI 0), .int (iI 0), .int (iI 0), .int (iI 0)]))) _ _ := hZ
  refine lv_aload_n hx hb dX10_init_42 rfl (lv_at hl 0 rfl) ?_
  refine z_iconst hx hb dX10_init_43 ?_
  refine z_put (T := TX10) (N := 9) (ci := 13) (k := 5) (fs := [.ref q5, .ref q16, .int (iI 0), .int (iI 0), .int (iI 12), .int (iI 0), .int (iI 0), .int (iI 0), .int (iI 0)]) (v := .int (iI 2)) hC hZ tyX10 tyX10_ok nmX10 in_X10 rfl (by decide) ql_X10_31 rfl (Or.inl rfl) rfl hf_26 (by show 5 < 9; decide) rfl rfl dX10_init_44 (fun H locs hZ => ?_)
  rw [zup_up] at hZ
  have hf_27 : (zup (zup (zup (zup F q5 (.inr (4, [.int (iI 0), .ref (cs 8), .int (iI 0)]))) a (.inr (13, [.ref q5, .null, .int (iI 0), .int (iI 0), .int (iI 0), .int (iI 0), .int (iI 0), .int (iI 0), .int (iI 0)]))) q16 (.inr (4, [.int (iI 0), .ref (cs 8), .int (iI 0)]))) a (.inr (13, [.ref q5, .ref q16, .int (iI 0), .int (iI 0), .int (iI 12), .int (iI 2), .int (iI 0), .int (iI 0), .int (iI 0)]))) q5 = some (.inr (4, [.int (iI 0), .ref (cs 8), .int (iI 0)])) := zup_k (zne hf_12 hf_13 (fun q => by cases q)) hf_12
  have hf_28 : (zup (zup (zup (zup F q5 (.inr (4, [.int (iI 0), .ref (cs 8), .int (iI 0)]))) a (.inr (13, [.ref q5, .null, .int (iI 0), .int (iI 0), .int (iI 0), .int (iI 0), .int (iI 0), .int (iI 0), .int (iI 0)]))) q16 (.inr (4, [.int (iI 0), .ref (cs 8), .int (iI 0)]))) a (.inr (13, [.ref q5, .ref q16, .int (iI 0), .int (iI 0), .int (iI 12), .int (iI 2), .int (iI 0), .int (iI 0), .int (iI 0)]))) q16 = some (.inr (4, [.int (iI 0), .ref (cs 8), .int (iI 0)])) := zup_k (zne hf_14 hf_13 (fun q => by cases q)) hf_14
  have hf_29 : (zup (zup (zup (zup F q5 (.inr (4, [.int (iI 0), .ref (cs 8), .int (iI 0)]))) a (.inr (13, [.ref q5, .null, .int (iI 0), .int (iI 0), .int (iI 0), .int (iI 0), .int (iI 0), .int (iI 0), .int (iI 0)]))) q16 (.inr (4, [.int (iI 0), .ref (cs 8), .int (iI 0)]))) a (.inr (13, [.ref q5, .ref q16, .int (iI 0), .int (iI 0), .int (iI 12), .int (iI 2), .int (iI 0), .int (iI 0), .int (iI 0)]))) a = some (.inr (13, [.ref q5, .ref q16, .int (iI 0), .int (iI 0), .int (iI 12), .int (iI 2), .int (iI 0), .int (iI 0), .int (iI 0)])) := zup_s
  replace hZ : zS D A s (zup (zup (zup (zup F q5 (.inr (4, [.int (iI 0), .ref (cs 8), .int (iI 0)]))) a (.inr (13, [.ref q5, .null, .int (iI 0), .int (iI 0), .int (iI 0), .int (iI 0), .int (iI 0), .int (iI 0), .int (iI 0)]))) q16 (.inr (4, [.int (iI 0), .ref (cs 8), .int (iI 0)]))) a (.inr (13, [.ref q5, .ref q16, .int (iI 0), .int (iI 0), .int (iI 12), .int (iI 2), .int (iI 0), .int (iI 0), .int (iI 0)]))) _ _ := hZ
  refine lv_aload_n hx hb dX10_init_47 rfl (lv_at hl 0 rfl) ?_
  refine z_bipush hx hb dX10_init_48 (by decide) ?_
  refine z_put (T := TX10) (N := 9) (ci := 13) (k := 6) (fs := [.ref q5, .ref q16, .int (iI 0), .int (iI 0), .int (iI 12), .int (iI 2), .int (iI 0), .int (iI 0), .int (iI 0)]) (v := .int (iI 8)) hC hZ tyX10 tyX10_ok nmX10 in_X10 rfl (by decide) ql_X10_34 rfl (Or.inl rfl) rfl hf_29 (by show 6 < 9; decide) rfl rfl dX10_init_50 (fun H locs hZ => ?_)
  rw [zup_up] at hZ
  have hf_30 : (zup (zup (zup (zup F q5 (.inr (4, [.int (iI 0), .ref (cs 8), .int (iI 0)]))) a (.inr (13, [.ref q5, .null, .int (iI 0), .int (iI 0), .int (iI 0), .int (iI 0), .int (iI 0), .int (iI 0), .int (iI 0)]))) q16 (.inr (4, [.int (iI 0), .ref (cs 8), .int (iI 0)]))) a (.inr (13, [.ref q5, .ref q16, .int (iI 0), .int (iI 0), .int (iI 12), .int (iI 2), .int (iI 8), .int (iI 0), .int (iI 0)]))) q5 = some (.inr (4, [.int (iI 0), .ref (cs 8), .int (iI 0)])) := zup_k (zne hf_12 hf_13 (fun q => by cases q)) hf_12
  have hf_31 : (zup (zup (zup (zup F q5 (.inr (4, [.int (iI 0), .ref (cs 8), .int (iI 0)]))) a (.inr (13, [.ref q5, .null, .int (iI 0), .int (iI 0), .int (iI 0), .int (iI 0), .int (iI 0), .int (iI 0), .int (iI 0)]))) q16 (.inr (4, [.int (iI 0), .ref (cs 8), .int (iI 0)]))) a (.inr (13, [.ref q5, .ref q16, .int (iI 0), .int (iI 0), .int (iI 12), .int (iI 2), .int (iI 8), .int (iI 0), .int (iI 0)]))) q16 = some (.inr (4, [.int (iI 0), .ref (cs 8), .int (iI 0)])) := zup_k (zne hf_14 hf_13 (fun q => by cases q)) hf_14
  have hf_32 : (zup (zup (zup (zup F q5 (.inr (4, [.int (iI 0), .ref (cs 8), .int (iI 0)]))) a (.inr (13, [.ref q5, .null, .int (iI 0), .int (iI 0), .int (iI 0), .int (iI 0), .int (iI 0), .int (iI 0), .int (iI 0)]))) q16 (.inr (4, [.int (iI 0), .ref (cs 8), .int (iI 0)]))) a (.inr (13, [.ref q5, .ref q16, .int (iI 0), .int (iI 0), .int (iI 12), .int (iI 2), .int (iI 8), .int (iI 0), .int (iI 0)]))) a = some (.inr (13, [.ref q5, .ref q16, .int (iI 0), .int (iI 0), .int (iI 12), .int (iI 2), .int (iI 8), .int (iI 0), .int (iI 0)])) := zup_s
  replace hZ : zS D A s (zup (zup (zup (zup F q5 (.inr (4, [.int (iI 0), .ref (cs 8), .int (iI 0)]))) a (.inr (13, [.ref q5, .null, .int (iI 0), .int (iI 0), .int (iI 0), .int (iI 0), .int (iI 0), .int (iI 0), .int (iI 0)]))) q16 (.inr (4, [.int (iI 0), .ref (cs 8), .int (iI 0)]))) a (.inr (13, [.ref q5, .ref q16, .int (iI 0), .int (iI 0), .int (iI 12), .int (iI 2), .int (iI 8), .int (iI 0), .int (iI 0)]))) _ _ := hZ
  refine lv_aload_n hx hb dX10_init_53 rfl (lv_at hl 0 rfl) ?_
  refine z_iconst hx hb dX10_init_54 ?_
  refine z_put (T := TX10) (N := 9) (ci := 13) (k := 7) (fs := [.ref q5, .ref q16, .int (iI 0), .int (iI 0), .int (iI 12), .int (iI 2), .int (iI 8), .int (iI 0), .int (iI 0)]) (v := .int (iI 0)) hC hZ tyX10 tyX10_ok nmX10 in_X10 rfl (by decide) ql_X10_37 rfl (Or.inl rfl) rfl hf_32 (by show 7 < 9; decide) rfl rfl dX10_init_55 (fun H locs hZ => ?_)
  rw [zup_up] at hZ
  have hf_33 : (zup (zup (zup (zup F q5 (.inr (4, [.int (iI 0), .ref (cs 8), .int (iI 0)]))) a (.inr (13, [.ref q5, .null, .int (iI 0), .int (iI 0), .int (iI 0), .int (iI 0), .int (iI 0), .int (iI 0), .int (iI 0)]))) q16 (.inr (4, [.int (iI 0), .ref (cs 8), .int (iI 0)]))) a (.inr (13, [.ref q5, .ref q16, .int (iI 0), .int (iI 0), .int (iI 12), .int (iI 2), .int (iI 8), .int (iI 0), .int (iI 0)]))) q5 = some (.inr (4, [.int (iI 0), .ref (cs 8), .int (iI 0)])) := zup_k (zne hf_12 hf_13 (fun q => by cases q)) hf_12
  have hf_34 : (zup (zup (zup (zup F q5 (.inr (4, [.int (iI 0), .ref (cs 8), .int (iI 0)]))) a (.inr (13, [.ref q5, .null, .int (iI 0), .int (iI 0), .int (iI 0), .int (iI 0), .int (iI 0), .int (iI 0), .int (iI 0)]))) q16 (.inr (4, [.int (iI 0), .ref (cs 8), .int (iI 0)]))) a (.inr (13, [.ref q5, .ref q16, .int (iI 0), .int (iI 0), .int (iI 12), .int (iI 2), .int (iI 8), .int (iI 0), .int (iI 0)]))) q16 = some (.inr (4, [.int (iI 0), .ref (cs 8), .int (iI 0)])) := zup_k (zne hf_14 hf_13 (fun q => by cases q)) hf_14
  have hf_35 : (zup (zup (zup (zup F q5 (.inr (4, [.int (iI 0), .ref (cs 8), .int (iI 0)]))) a (.inr (13, [.ref q5, .null, .int (iI 0), .int (iI 0), .int (iI 0), .int (iI 0), .int (iI 0), .int (iI 0), .int (iI 0)]))) q16 (.inr (4, [.int (iI 0), .ref (cs 8), .int (iI 0)]))) a (.inr (13, [.ref q5, .ref q16, .int (iI 0), .int (iI 0), .int (iI 12), .int (iI 2), .int (iI 8), .int (iI 0), .int (iI 0)]))) a = some (.inr (13, [.ref q5, .ref q16, .int (iI 0), .int (iI 0), .int (iI 12), .int (iI 2), .int (iI 8), .int (iI 0), .int (iI 0)])) := zup_s
  replace hZ : zS D A s (zup (zup (zup (zup F q5 (.inr (4, [.int (iI 0), .ref (cs 8), .int (iI 0)]))) a (.inr (13, [.ref q5, .null, .int (iI 0), .int (iI 0), .int (iI 0), .int (iI 0), .int (iI 0), .int (iI 0), .int (iI 0)]))) q16 (.inr (4, [.int (iI 0), .ref (cs 8), .int (iI 0)]))) a (.inr (13, [.ref q5, .ref q16, .int (iI 0), .int (iI 0), .int (iI 12), .int (iI 2), .int (iI 8), .int (iI 0), .int (iI 0)]))) _ _ := hZ
  refine lv_aload_n hx hb dX10_init_58 rfl (lv_at hl 0 rfl) ?_
  refine z_iconst hx hb dX10_init_59 ?_
  refine z_put (T := TX10) (N := 9) (ci := 13) (k := 8) (fs := [.ref q5, .ref q16, .int (iI 0), .int (iI 0), .int (iI 12), .int (iI 2), .int (iI 8), .int (iI 0), .int (iI 0)]) (v := .int (iI 0)) hC hZ tyX10 tyX10_ok nmX10 in_X10 rfl (by decide) ql_X10_40 rfl (Or.inl rfl) rfl hf_35 (by show 8 < 9; decide) rfl rfl dX10_init_60 (fun H locs hZ => ?_)
  rw [zup_up] at hZ
  have hf_36 : (zup (zup (zup (zup F q5 (.inr (4, [.int (iI 0), .ref (cs 8), .int (iI 0)]))) a (.inr (13, [.ref q5, .null, .int (iI 0), .int (iI 0), .int (iI 0), .int (iI 0), .int (iI 0), .int (iI 0), .int (iI 0)]))) q16 (.inr (4, [.int (iI 0), .ref (cs 8), .int (iI 0)]))) a (.inr (13, [.ref q5, .ref q16, .int (iI 0), .int (iI 0), .int (iI 12), .int (iI 2), .int (iI 8), .int (iI 0), .int (iI 0)]))) q5 = some (.inr (4, [.int (iI 0), .ref (cs 8), .int (iI 0)])) := zup_k (zne hf_12 hf_13 (fun q => by cases q)) hf_12
  have hf_37 : (zup (zup (zup (zup F q5 (.inr (4, [.int (iI 0), .ref (cs 8), .int (iI 0)]))) a (.inr (13, [.ref q5, .null, .int (iI 0), .int (iI 0), .int (iI 0), .int (iI 0), .int (iI 0), .int (iI 0), .int (iI 0)]))) q16 (.inr (4, [.int (iI 0), .ref (cs 8), .int (iI 0)]))) a (.inr (13, [.ref q5, .ref q16, .int (iI 0), .int (iI 0), .int (iI 12), .int (iI 2), .int (iI 8), .int (iI 0), .int (iI 0)]))) q16 = some (.inr (4, [.int (iI 0), .ref (cs 8), .int (iI 0)])) := zup_k (zne hf_14 hf_13 (fun q => by cases q)) hf_14
  have hf_38 : (zup (zup (zup (zup F q5 (.inr (4, [.int (iI 0), .ref (cs 8), .int (iI 0)]))) a (.inr (13, [.ref q5, .null, .int (iI 0), .int (iI 0), .int (iI 0), .int (iI 0), .int (iI 0), .int (iI 0), .int (iI 0)]))) q16 (.inr (4, [.int (iI 0), .ref (cs 8), .int (iI 0)]))) a (.inr (13, [.ref q5, .ref q16, .int (iI 0), .int (iI 0), .int (iI 12), .int (iI 2), .int (iI 8), .int (iI 0), .int (iI 0)]))) a = some (.inr (13, [.ref q5, .ref q16, .int (iI 0), .int (iI 0), .int (iI 12), .int (iI 2), .int (iI 8), .int (iI 0), .int (iI 0)])) := zup_s
  replace hZ : zS D A s (zup (zup (zup (zup F q5 (.inr (4, [.int (iI 0), .ref (cs 8), .int (iI 0)]))) a (.inr (13, [.ref q5, .null, .int (iI 0), .int (iI 0), .int (iI 0), .int (iI 0), .int (iI 0), .int (iI 0), .int (iI 0)]))) q16 (.inr (4, [.int (iI 0), .ref (cs 8), .int (iI 0)]))) a (.inr (13, [.ref q5, .ref q16, .int (iI 0), .int (iI 0), .int (iI 12), .int (iI 2), .int (iI 8), .int (iI 0), .int (iI 0)]))) _ _ := hZ
  exact z_vret hC hr hlk hZ (by decide) (by decide) (⟨q5, q16, (((((zko.refl).new hq5.1).up (by simp)).new hq16.1).up (by simp)), hq5.1, (zup_none (zup_none hq16.1)), [], [], hf_38, ⟨0, hf_36, Or.inl ⟨rfl, rfl⟩⟩, ⟨0, hf_37, Or.inl ⟨rfl, rfl⟩⟩, ⟨rfl, fun k k0 k1 => absurd k1 (by show ¬ _ < ((0 : Nat) : Int); omega)⟩, ⟨rfl, fun k k0 k1 => absurd k1 (by show ¬ _ < ((0 : Nat) : Int); omega)⟩, (zF_ne hf_6 hq16.1), fun _ => rfl⟩) dX10_init_63
