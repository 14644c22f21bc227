theorem era_len {l : List Nat} {i : Int} (hi : 0 ≤ i ∧ i < l.length) : (((l.eraseIdx i.toNat).length : Nat) : Int) = (l.length : Int) - 1 := by
  rw [List.length_eraseIdx, if_pos (by omega)]
  omega
/-- the array behind the removal of one -/
theorem era_arr {l : List Nat} {h : Int → Option Nat} {i : Int} (hi : 0 ≤ i ∧ i < l.length) (h3 : ∀ k : Int, 0 ≤ k → k < l.length → h k = some (l.getD k.toNat 0)) {g : Int → Option Nat} (hg : (i < (l.length : Int) - 1 ∧ g = zcpy h h (i + 1) i ((l.length : Int) - 1 - i)) ∨ (¬ i < (l.length : Int) - 1 ∧ g = h)) :
    ∀ k : Int, 0 ≤ k → k < (l.eraseIdx i.toNat).length → upI g ((l.length : Int) - 1) none k = some ((l.eraseIdx i.toNat).getD k.toNat 0) := by
  intro k k0 k1
  rw [era_len hi] at k1
  rw [gD_era hi k0]
  unfold upI
  rw [if_neg (by omega)]
  rcases hg with ⟨q, rfl⟩ | ⟨q, rfl⟩
  · unfold zcpy
    by_cases c : k < i
    · rw [if_neg (by omega), if_pos c]
      exact h3 k k0 (by omega)
    · rw [if_pos (by omega), if_neg c, show i + 1 + (k - i) = k + 1 by omega]
      exact h3 _ (by omega) (by omega)
  · rw [if_pos (by omega)]
    exact h3 k k0 (by omega)
set_option maxHeartbeats 4000000 in
set_option maxRecDepth 100000 in
theorem met_Jx4a65c_fastRemove_b59b0 (l : Launch) (D : va_G) (cs : Nat → ClassId) (A : Nat → Prop) (F : zF) (a arr : Nat) (xs : List Nat) (i : Int)  (hl1 : oLx cs F a arr xs) (hi : 0 ≤ i ∧ i < xs.length) (hels : ∀ k : Int, 0 ≤ k → k < xs.length → zEl F (xs.getD k.toNat 0)) : zM l D cs A yJx4a65c_fastRemove_b59b0 cJx4a65c_fastRemove_b59b0 4 (none : Option Jvm.ClassFile.FieldType) 1 0 0 [.ref a, .ref arr, .int (iI i)] F (pV (fun F1 => zko [a, arr] F F1 ∧ oLx cs F1 a arr (xs.eraseIdx i.toNat))) := by
  refine zM_of (own := RJx4a65c) (by decide) rfl (Nat.le_of_ble_eq_true rfl) ?_
  intro p e s m below meth c hC hr hlk hnm hZ ls hl
  have hx := hC.x
  have hb := hC.b
  have hl : lv_has ls 4 [(0, .ref a), (1, .ref arr), (2, .int (iI i))] := hl
  obtain ⟨mc, h0, hcase⟩ := id hl1
  have hl10 : xs.length ≤ 10 := by
    rcases hcase with ⟨-, rfl⟩ | ⟨h_, -, h2, -⟩
    · exact Nat.zero_le _
    · exact h2
  obtain ⟨h_, h1, h2, h3⟩ : ∃ h : Int → Option Nat, F arr = some (zO (cs 5) 10 h) ∧ xs.length ≤ 10 ∧ ∀ k : Int, 0 ≤ k → k < xs.length → h k = some (xs.getD k.toNat 0) := by
    rcases hcase with ⟨-, z⟩ | z
    · rw [z] at hi; simp at hi; omega
    · exact z
  refine lv_aload_n hx hb dJx4a65c_fastRemove_b59b0_0 rfl (lv_at hl 0 rfl) ?_
  refine lv_dup hx hb dJx4a65c_fastRemove_b59b0_1 rfl ?_
  refine z_getX (T := TJx4a65c) (N := 3) (ci := 4) (k := 0) (fs := [.int (iI mc), .ref arr, .int (iI (xs.length : Int))]) (v := .int (iI mc)) hC hZ in_Jx4a65c rfl (by decide) ql_Jx4a65c_63 q_163 h0 rfl dJx4a65c_fastRemove_b59b0_2 ?_
  refine z_iconst hx hb dJx4a65c_fastRemove_b59b0_5 ?_
  refine z_iadd hx hb dJx4a65c_fastRemove_b59b0_6 ?_
  refine z_putX (T := TJx4a65c) (N := 3) (ci := 4) (k := 0) (fs := [.int (iI mc), .ref arr, .int (iI (xs.length : Int))]) (v := .int (iI (mc + 1))) hC hZ tyJx4a65c tyJx4a65c_ok nmJx4a65c in_Jx4a65c rfl (by decide) ql_Jx4a65c_63 q_163 rfl rfl h0 (by show 0 < 3; decide) rfl rfl dJx4a65c_fastRemove_b59b0_7 (fun H locs hZ => ?_)
  have hf_1 : (zup F a (.inr (4, [.int (iI (mc + 1)), .ref arr, .int (iI (xs.length : Int))]))) arr = some (zO (cs 5) 10 h_) := zup_k (zne h1 h0 (fun q => by cases q)) h1
  have hf_2 : (zup F a (.inr (4, [.int (iI (mc + 1)), .ref arr, .int (iI (xs.length : Int))]))) a = some (.inr (4, [.int (iI (mc + 1)), .ref arr, .int (iI (xs.length : Int))])) := zup_s
  replace hZ : zS D A s (zup F a (.inr (4, [.int (iI (mc + 1)), .ref arr, .int (iI (xs.length : Int))]))) _ _ := hZ
  refine lv_aload_n hx hb dJx4a65c_fastRemove_b59b0_10 rfl (lv_at hl 0 rfl) ?_
  refine z_get (T := TJx4a65c) (N := 3) (ci := 4) (k := 2) (fs := [.int (iI (mc + 1)), .ref arr, .int (iI (xs.length : Int))]) (v := .int (iI (xs.length : Int))) hC hZ in_Jx4a65c rfl (by decide) ql_Jx4a65c_48 rfl hf_2 rfl dJx4a65c_fastRemove_b59b0_11 ?_
  refine z_iconst hx hb dJx4a65c_fastRemove_b59b0_14 ?_
  refine z_isub hx hb dJx4a65c_fastRemove_b59b0_15 ?_
  refine lv_dup hx hb dJx4a65c_fastRemove_b59b0_16 rfl ?_
  refine lv_istore_n (lv' := [(3, .int (iI ((xs.length : Int) - 1))), (0, .ref a), (1, .ref arr), (2, .int (iI i))]) hx hb dJx4a65c_fastRemove_b59b0_17 rfl hl (by decide) rfl (fun ls hl => ?_)
  refine lv_iload_n hx hb dJx4a65c_fastRemove_b59b0_18 rfl (lv_at hl 3 rfl) ?_
  refine z_icmp_le (tgt := 34) hx hb dJx4a65c_fastRemove_b59b0_19 (by decide) (by omega) (by omega) (fun c_3 => ?_) (fun c_3 => ?_)
  · skip
    refine lv_aload_n hx hb dJx4a65c_fastRemove_b59b0_34 rfl (lv_at hl 2 rfl) ?_
    refine lv_aload_n hx hb dJx4a65c_fastRemove_b59b0_35 rfl (lv_at hl 1 rfl) ?_
    refine lv_iload_n hx hb dJx4a65c_fastRemove_b59b0_36 rfl (lv_at hl 0 rfl) ?_
    refine lv_dup_x1 hx hb dJx4a65c_fastRemove_b59b0_37 rfl rfl ?_
    refine z_put (T := TJx4a65c) (N := 3) (ci := 4) (k := 2) (fs := [.int (iI (mc + 1)), .ref arr, .int (iI (xs.length : Int))]) (v := .int (iI ((xs.length : Int) - 1))) hC hZ tyJx4a65c tyJx4a65c_ok nmJx4a65c in_Jx4a65c rfl (by decide) ql_Jx4a65c_48 rfl (Or.inl rfl) rfl hf_2 (by show 2 < 3; decide) rfl rfl dJx4a65c_fastRemove_b59b0_38 (fun H locs hZ => ?_)
    rw [zup_up] at hZ
    have hf_4 : (zup F a (.inr (4, [.int (iI (mc + 1)), .ref arr, .int (iI ((xs.length : Int) - 1))]))) arr = some (zO (cs 5) 10 h_) := zup_k (zne h1 h0 (fun q => by cases q)) h1
    have hf_5 : (zup F a (.inr (4, [.int (iI (mc + 1)), .ref arr, .int (iI ((xs.length : Int) - 1))]))) a = some (.inr (4, [.int (iI (mc + 1)), .ref arr, .int (iI ((xs.length : Int) - 1))])) := zup_s
    replace hZ : zS D A s (zup F a (.inr (4, [.int (iI (mc + 1)), .ref arr, .int (iI ((xs.length : Int) - 1))]))) _ _ := hZ
    refine lv_null hx hb dJx4a65c_fastRemove_b59b0_41 ?_
    refine z_aastN (E := "java/lang/Object") hC hZ 5 hf_4 rfl (by show _ ∧ _ < (10 : Int); omega) (by decide) dJx4a65c_fastRemove_b59b0_42 (fun H locs hZ => ?_)
    have hf_6 : (zup (zup F a (.inr (4, [.int (iI (mc + 1)), .ref arr, .int (iI ((xs.length : Int) - 1))]))) arr (zO (cs 5) 10 (upI h_ ((xs.length : Int) - 1) none))) a = some (.inr (4, [.int (iI (mc + 1)), .ref arr, .int (iI ((xs.length : Int) - 1))])) := zup_k (zne hf_5 hf_4 (fun q => by cases q)) hf_5
    have hf_7 : (zup (zup F a (.inr (4, [.int (iI (mc + 1)), .ref arr, .int (iI ((xs.length : Int) - 1))]))) arr (zO (cs 5) 10 (upI h_ ((xs.length : Int) - 1) none))) arr = some (zO (cs 5) 10 (upI h_ ((xs.length : Int) - 1) none)) := zup_s
    replace hZ : zS D A s (zup (zup F a (.inr (4, [.int (iI (mc + 1)), .ref arr, .int (iI ((xs.length : Int) - 1))]))) arr (zO (cs 5) 10 (upI h_ ((xs.length : Int) - 1) none))) _ _ := hZ
    exact z_vret hC hr hlk hZ (by decide) (by decide) (⟨(((zko.refl).up (by simp)).up (by simp)), mc + 1, by rw [era_len hi]; exact hf_6, Or.inr ⟨_, hf_7, by have := era_len hi; omega, era_arr hi h3 (Or.inr ⟨by omega, rfl⟩)⟩⟩) dJx4a65c_fastRemove_b59b0_43
  · skip
    refine lv_aload_n hx hb dJx4a65c_fastRemove_b59b0_22 rfl (lv_at hl 2 rfl) ?_
    refine lv_iload_n hx hb dJx4a65c_fastRemove_b59b0_23 rfl (lv_at hl 3 rfl) ?_
    refine z_iconst hx hb dJx4a65c_fastRemove_b59b0_24 ?_
    refine z_iadd hx hb dJx4a65c_fastRemove_b59b0_25 ?_
    refine lv_aload_n hx hb dJx4a65c_fastRemove_b59b0_26 rfl (lv_at hl 2 rfl) ?_
    refine lv_iload_n hx hb dJx4a65c_fastRemove_b59b0_27 rfl (lv_at hl 3 rfl) ?_
    refine lv_iload_n hx hb dJx4a65c_fastRemove_b59b0_28 rfl (lv_at hl 0 rfl) ?_
    refine lv_iload_n hx hb dJx4a65c_fastRemove_b59b0_29 rfl (lv_at hl 3 rfl) ?_
    refine z_isub hx hb dJx4a65c_fastRemove_b59b0_30 ?_
    refine z_copyR (rest := []) hC hZ qm_Jx4a65c_112 qv_J10_arraycopy_1e247 qt_J10_arraycopy_1e247 qn_J10 5 (E := "java/lang/Object") (sp := i + 1) (dp := i) (n := ((xs.length : Int) - 1) - i) hf_1 hf_1 rfl (by omega) (by omega) (by omega) (by show _ ≤ (10 : Int); omega) (by show _ ≤ (10 : Int); omega) ⟨by decide, by decide⟩ (fun k k0 k1 y hy => by have e := h3 k (by omega) (by omega); rw [e] at hy; obtain ⟨ci, NN, CC, TT, fx, y1, y2, y3⟩ := (hels k (by omega) (by omega)).up (fs' := [.int (iI (mc + 1)), .ref arr, .int (iI (xs.length : Int))]) h0; rw [Option.some.inj hy] at y1; exact ⟨ci, NN, CC, TT, fx, y1, y2, Or.inr y3⟩) hl (Nat.le_of_ble_eq_true rfl) (by decide) dJx4a65c_fastRemove_b59b0_31 (fun H locs hZ => ?_)
    have hf_8 : (zup (zup F a (.inr (4, [.int (iI (mc + 1)), .ref arr, .int (iI (xs.length : Int))]))) arr (zO (cs 5) 10 (zcpy h_ h_ (i + 1) i (((xs.length : Int) - 1) - i)))) a = some (.inr (4, [.int (iI (mc + 1)), .ref arr, .int (iI (xs.length : Int))])) := zup_k (zne hf_2 hf_1 (fun q => by cases q)) hf_2
    have hf_9 : (zup (zup F a (.inr (4, [.int (iI (mc + 1)), .ref arr, .int (iI (xs.length : Int))]))) arr (zO (cs 5) 10 (zcpy h_ h_ (i + 1) i (((xs.length : Int) - 1) - i)))) arr = some (zO (cs 5) 10 (zcpy h_ h_ (i + 1) i (((xs.length : Int) - 1) - i))) := zup_s
    replace hZ : zS D A s (zup (zup F a (.inr (4, [.int (iI (mc + 1)), .ref arr, .int (iI (xs.length : Int))]))) arr (zO (cs 5) 10 (zcpy h_ h_ (i + 1) i (((xs.length : Int) - 1) - i)))) _ _ := hZ
    refine lv_aload_n hx hb dJx4a65c_fastRemove_b59b0_34 rfl (lv_at hl 2 rfl) ?_
    refine lv_aload_n hx hb dJx4a65c_fastRemove_b59b0_35 rfl (lv_at hl 1 rfl) ?_
    refine lv_iload_n hx hb dJx4a65c_fastRemove_b59b0_36 rfl (lv_at hl 0 rfl) ?_
    refine lv_dup_x1 hx hb dJx4a65c_fastRemove_b59b0_37 rfl rfl ?_
    refine z_put (T := TJx4a65c) (N := 3) (ci := 4) (k := 2) (fs := [.int (iI (mc + 1)), .ref arr, .int (iI (xs.length : Int))]) (v := .int (iI ((xs.length : Int) - 1))) hC hZ tyJx4a65c tyJx4a65c_ok nmJx4a65c in_Jx4a65c rfl (by decide) ql_Jx4a65c_48 rfl (Or.inl rfl) rfl hf_8 (by show 2 < 3; decide) rfl rfl dJx4a65c_fastRemove_b59b0_38 (fun H locs hZ => ?_)
    have hf_10 : (zup (zup (zup F a (.inr (4, [.int (iI (mc + 1)), .ref arr, .int (iI (xs.length : Int))]))) arr (zO (cs 5) 10 (zcpy h_ h_ (i + 1) i (((xs.length : Int) - 1) - i)))) a (.inr (4, [.int (iI (mc + 1)), .ref arr, .int (iI ((xs.length : Int) - 1))]))) arr = some (zO (cs 5) 10 (zcpy h_ h_ (i + 1) i (((xs.length : Int) - 1) - i))) := zup_k (zne hf_9 hf_8 (fun q => by cases q)) hf_9
    have hf_11 : (zup (zup (zup F a (.inr (4, [.int (iI (mc + 1)), .ref arr, .int (iI (xs.length : Int))]))) arr (zO (cs 5) 10 (zcpy h_ h_ (i + 1) i (((xs.length : Int) - 1) - i)))) a (.inr (4, [.int (iI (mc + 1)), .ref arr, .int (iI ((xs.length : Int) - 1))]))) a = some (.inr (4, [.int (iI (mc + 1)), .ref arr, .int (iI ((xs.length : Int) - 1))])) := zup_s
    replace hZ : zS D A s (zup (zup (zup F a (.inr (4, [.int (iI (mc + 1)), .ref arr, .int (iI (xs.length : Int))]))) arr (zO (cs 5) 10 (zcpy h_ h_ (i + 1) i (((xs.length : Int) - 1) - i)))) a (.inr (4, [.int (iI (mc + 1)), .ref arr, .int (iI ((xs.length : Int) - 1))]))) _ _ := hZ
    refine lv_null hx hb dJx4a65c_fastRemove_b59b0_41 ?_
    refine z_aastN (E := "java/lang/Object") hC hZ 5 hf_10 rfl (by show _ ∧ _ < (10 : Int); omega) (by decide) dJx4a65c_fastRemove_b59b0_42 (fun H locs hZ => ?_)
    have hf_12 : (zup (zup (zup (zup F a (.inr (4, [.int (iI (mc + 1)), .ref arr, .int (iI (xs.length : Int))]))) arr (zO (cs 5) 10 (zcpy h_ h_ (i + 1) i (((xs.length : Int) - 1) - i)))) a (.inr (4, [.int (iI (mc + 1)), .ref arr, .int (iI ((xs.length : Int) - 1))]))) arr (zO (cs 5) 10 (upI (zcpy h_ h_ (i + 1) i (((xs.length : Int) - 1) - i)) ((xs.length : Int) - 1) none))) a = some (.inr (4, [.int (iI (mc + 1)), .ref arr, .int (iI ((xs.length : Int) - 1))])) := zup_k (zne hf_11 hf_10 (fun q => by cases q)) hf_11
    have hf_13 : (zup (zup (zup (zup F a (.inr (4, [.int (iI (mc + 1)), .ref arr, .int (iI (xs.length : Int))]))) arr (zO (cs 5) 10 (zcpy h_ h_ (i + 1) i (((xs.length : Int) - 1) - i)))) a (.inr (4, [.int (iI (mc + 1)), .ref arr, .int (iI ((xs.length : Int) - 1))]))) arr (zO (cs 5) 10 (upI (zcpy h_ h_ (i + 1) i (((xs.length : Int) - 1) - i)) ((xs.length : Int) - 1) none))) arr = some (zO (cs 5) 10 (upI (zcpy h_ h_ (i + 1) i (((xs.length : Int) - 1) - i)) ((xs.length : Int) - 1) none)) := zup_s
    replace hZ : zS D A s (zup (zup (zup (zup F a (.inr (4, [.int (iI (mc + 1)), .ref arr, .int (iI (xs.length : Int))]))) arr (zO (cs 5) 10 (zcpy h_ h_ (i + 1) i (((xs.length : Int) - 1) - i)))) a (.inr (4, [.int (iI (mc + 1)), .ref arr, .int (iI ((xs.length : Int) - 1))]))) arr (zO (cs 5) 10 (upI (zcpy h_ h_ (i + 1) i (((xs.length : Int) - 1) - i)) ((xs.length : Int) - 1) none))) _ _ := hZ
    exact z_vret hC hr hlk hZ (by decide) (by decide) (⟨(((((zko.refl).up (by simp)).up (by simp)).up (by simp)).up (by simp)), mc + 1, by rw [era_len hi]; exact hf_12, Or.inr ⟨_, hf_13, by have := era_len hi; omega, era_arr hi h3 (Or.inl ⟨by omega, rfl⟩)⟩⟩) dJx4a65c_fastRemove_b59b0_43

set_option maxHeartbeats 4000000 in
set_option maxRecDepth 100000 in
theorem met_Jx4a65c_remove_915e3 (l : Launch) (D : va_G) (cs : Nat → ClassId) (A : Nat → Prop) (F : zF) (a arr : Nat) (xs : List Nat) (i : Int)  (hl1 : oLx cs F a arr xs) (hi : 0 ≤ i ∧ i < xs.length) (hels : ∀ k : Int, 0 ≤ k → k < xs.length → zEl F (xs.getD k.toNat 0)) : zM l D cs A yJx4a65c_remove_915e3 cJx4a65c_remove_915e3 4 (some (FieldType.object "java/lang/Object")) 3 0 0 [.ref a, .int (iI i)] F (pR (fun r F1 => zko [a, arr] F F1 ∧ oLx cs F1 a arr (xs.eraseIdx i.toNat) ∧ xs.getD i.toNat 0 = r)) := by
  refine zM_of (own := RJx4a65c) (by decide) rfl (Nat.le_of_ble_eq_true rfl) ?_
  intro p e s m below meth c hC hr hlk hnm hZ ls hl
  have hx := hC.x
  have hb := hC.b
  have hl : lv_has ls 4 [(0, .ref a), (1, .int (iI i))] := hl
  obtain ⟨mc, h0, hcase⟩ := id hl1
  have hl10 : xs.length ≤ 10 := by
    rcases hcase with ⟨-, rfl⟩ | ⟨h_, -, h2, -⟩
    · exact Nat.zero_le _
    · exact h2
  obtain ⟨h_, h1, h2, h3⟩ : ∃ h : Int → Option Nat, F arr = some (zO (cs 5) 10 h) ∧ xs.length ≤ 10 ∧ ∀ k : Int, 0 ≤ k → k < xs.length → h k = some (xs.getD k.toNat 0) := by
    rcases hcase with ⟨-, z⟩ | z
    · rw [z] at hi; simp at hi; omega
    · exact z
  refine lv_iload_n hx hb dJx4a65c_remove_915e3_0 rfl (lv_at hl 1 rfl) ?_
  refine lv_aload_n hx hb dJx4a65c_remove_915e3_1 rfl (lv_at hl 0 rfl) ?_
  refine z_get (T := TJx4a65c) (N := 3) (ci := 4) (k := 2) (fs := [.int (iI mc), .ref arr, .int (iI (xs.length : Int))]) (v := .int (iI (xs.length : Int))) hC hZ in_Jx4a65c rfl (by decide) ql_Jx4a65c_48 rfl h0 rfl dJx4a65c_remove_915e3_2 ?_
  refine z_calli (z_runS (rest := []) (As := [.int (iI i), .int (iI (xs.length : Int))]) (n := 2) hC hZ (met_J15_checkIndex_7cf53 l D cs A F i (xs.length : Int) (by omega) (by omega)) gs_Jx4a65c_118 he_J15_checkIndex_7cf53 rfl hl rfl (Nat.le_of_ble_eq_true rfl) ⟨Nat.le_of_ble_eq_true rfl, Nat.le_of_ble_eq_true rfl⟩ ⟨Nat.le_of_ble_eq_true rfl, Nat.le_of_ble_eq_true rfl⟩ dJx4a65c_remove_915e3_5) hZ (fun r5 _ H locs hp_1 hZ => ?_)
  obtain ⟨rfl, rfl⟩ := hp_1
  refine lv_pop hx hb dJx4a65c_remove_915e3_8 rfl ?_
  refine lv_aload_n hx hb dJx4a65c_remove_915e3_9 rfl (lv_at hl 0 rfl) ?_
  refine z_get (T := TJx4a65c) (N := 3) (ci := 4) (k := 1) (fs := [.int (iI mc), .ref arr, .int (iI (xs.length : Int))]) (v := .ref arr) hC hZ in_Jx4a65c rfl (by decide) ql_Jx4a65c_9 rfl h0 rfl dJx4a65c_remove_915e3_10 ?_
  refine lv_astore_n (lv' := [(2, .ref arr), (0, .ref a), (1, .int (iI i))]) hx hb dJx4a65c_remove_915e3_13 rfl hl (by decide) rfl (fun ls hl => ?_)
  refine lv_aload_n hx hb dJx4a65c_remove_915e3_14 rfl (lv_at hl 0 rfl) ?_
  refine lv_iload_n hx hb dJx4a65c_remove_915e3_15 rfl (lv_at hl 2 rfl) ?_
  refine z_aald (t := 5) (C := "java/lang/Object") (v := (some (xs.getD i.toNat 0))) hC hZ h1 rfl (by show _ ∧ _ < (10 : Int); omega) (by decide) (h3 i hi.1 hi.2) dJx4a65c_remove_915e3_16 ?_
  refine lv_astore_n (lv' := [(3, .ref (xs.getD i.toNat 0)), (2, .ref arr), (0, .ref a), (1, .int (iI i))]) hx hb dJx4a65c_remove_915e3_17 rfl hl (by decide) rfl (fun ls hl => ?_)
  refine lv_aload_n hx hb dJx4a65c_remove_915e3_18 rfl (lv_at hl 2 rfl) ?_
  refine lv_aload_n hx hb dJx4a65c_remove_915e3_19 rfl (lv_at hl 1 rfl) ?_
  refine lv_iload_n hx hb dJx4a65c_remove_915e3_20 rfl (lv_at hl 3 rfl) ?_
  refine z_callv (z_runV (rest := []) (As := [.ref arr, .int (iI i)]) (n := 2) (ci := 4) hC hZ (met_Jx4a65c_fastRemove_b59b0 l D cs A F a arr xs i hl1 hi hels) gv_Jx4a65c_144 hd_Jx4a65c_fastRemove_b59b0 rfl h0 rfl hl rfl (Nat.le_of_ble_eq_true rfl) ⟨Nat.le_of_ble_eq_true rfl, Nat.le_of_ble_eq_true rfl⟩ ⟨Nat.le_of_ble_eq_true rfl, Nat.le_of_ble_eq_true rfl⟩ dJx4a65c_remove_915e3_21) hZ (fun F21 H locs hp21_c_2 hZ => ?_)
  obtain ⟨hk1, hl2⟩ := hp21_c_2
  refine lv_aload_n hx hb dJx4a65c_remove_915e3_24 rfl (lv_at hl 0 rfl) ?_
  exact z_aret hC hr (Or.inl ⟨_, rfl⟩) hlk hZ (by decide) (by decide) (⟨hk1, hl2, rfl⟩) dJx4a65c_remove_915e3_25

set_option maxHeartbeats 4000000 in
set_option maxRecDepth 100000 in
theorem met_Jx4a65c_clear_da8c8 (l : Launch) (D : va_G) (cs : Nat → ClassId) (A : Nat → Prop) (F : zF) (a arr : Nat) (xs : List Nat)  (hl1 : oLx cs F a arr xs) : zM l D cs A yJx4a65c_clear_da8c8 cJx4a65c_clear_da8c8 4 (none : Option Jvm.ClassFile.FieldType) 1 0 0 [.ref a] F (pV (fun F1 => zko [a, arr] F F1 ∧ oLx cs F1 a arr [])) := by
  refine zM_of (own := RJx4a65c) (by decide) rfl (Nat.le_of_ble_eq_true rfl) ?_
  intro p e s m below meth c hC hr hlk hnm hZ ls hl
  have hx := hC.x
  have hb := hC.b
  have hl : lv_has ls 4 [(0, .ref a)] := hl
  obtain ⟨mc, h0, hcase⟩ := id hl1
  rcases hcase with ⟨rfl, rfl⟩ | ⟨h_, h1, h2, h3⟩
  · skip
    refine lv_aload_n hx hb dJx4a65c_clear_da8c8_0 rfl (lv_at hl 0 rfl) ?_
    refine lv_dup hx hb dJx4a65c_clear_da8c8_1 rfl ?_
    refine z_getX (T := TJx4a65c) (N := 3) (ci := 4) (k := 0) (fs := [.int (iI mc), .ref (cs 8), .int (iI 0)]) (v := .int (iI mc)) hC hZ in_Jx4a65c rfl (by decide) ql_Jx4a65c_63 q_163 h0 rfl dJx4a65c_clear_da8c8_2 ?_
    refine z_iconst hx hb dJx4a65c_clear_da8c8_5 ?_
    refine z_iadd hx hb dJx4a65c_clear_da8c8_6 ?_
    refine z_putX (T := TJx4a65c) (N := 3) (ci := 4) (k := 0) (fs := [.int (iI mc), .ref (cs 8), .int (iI 0)]) (v := .int (iI (mc + 1))) hC hZ tyJx4a65c tyJx4a65c_ok nmJx4a65c in_Jx4a65c rfl (by decide) ql_Jx4a65c_63 q_163 rfl rfl h0 (by show 0 < 3; decide) rfl rfl dJx4a65c_clear_da8c8_7 (fun H locs hZ => ?_)
    have hf_1 : (zup F a (.inr (4, [.int (iI (mc + 1)), .ref (cs 8), .int (iI 0)]))) a = some (.inr (4, [.int (iI (mc + 1)), .ref (cs 8), .int (iI 0)])) := zup_s
    replace hZ : zS D A s (zup F a (.inr (4, [.int (iI (mc + 1)), .ref (cs 8), .int (iI 0)]))) _ _ := hZ
    refine lv_aload_n hx hb dJx4a65c_clear_da8c8_10 rfl (lv_at hl 0 rfl) ?_
    refine z_get (T := TJx4a65c) (N := 3) (ci := 4) (k := 1) (fs := [.int (iI (mc + 1)), .ref (cs 8), .int (iI 0)]) (v := .ref (cs 8)) hC hZ in_Jx4a65c rfl (by decide) ql_Jx4a65c_9 rfl hf_1 rfl dJx4a65c_clear_da8c8_11 ?_
    refine lv_astore_n (lv' := [(1, .ref (cs 8)), (0, .ref a)]) hx hb dJx4a65c_clear_da8c8_14 rfl hl (by decide) rfl (fun ls hl => ?_)
    refine lv_aload_n hx hb dJx4a65c_clear_da8c8_15 rfl (lv_at hl 1 rfl) ?_
    refine z_get (T := TJx4a65c) (N := 3) (ci := 4) (k := 2) (fs := [.int (iI (mc + 1)), .ref (cs 8), .int (iI 0)]) (v := .int (iI 0)) hC hZ in_Jx4a65c rfl (by decide) ql_Jx4a65c_48 rfl hf_1 rfl dJx4a65c_clear_da8c8_16 ?_
    refine lv_istore_n (lv' := [(2, .int (iI 0)), (1, .ref (cs 8)), (0, .ref a)]) hx hb dJx4a65c_clear_da8c8_19 rfl hl (by decide) rfl (fun ls hl => ?_)
    refine lv_aload_n hx hb dJx4a65c_clear_da8c8_20 rfl (lv_at hl 2 rfl) ?_
    refine z_iconst hx hb dJx4a65c_clear_da8c8_21 ?_
    refine lv_dup_x1 hx hb dJx4a65c_clear_da8c8_22 rfl rfl ?_
    refine z_put (T := TJx4a65c) (N := 3) (ci := 4) (k := 2) (fs := [.int (iI (mc + 1)), .ref (cs 8), .int (iI 0)]) (v := .int (iI 0)) hC hZ tyJx4a65c tyJx4a65c_ok nmJx4a65c in_Jx4a65c rfl (by decide) ql_Jx4a65c_48 rfl (Or.inl rfl) rfl hf_1 (by show 2 < 3; decide) rfl rfl dJx4a65c_clear_da8c8_23 (fun H locs hZ => ?_)
    rw [zup_up] at hZ
    have hf_2 : (zup F a (.inr (4, [.int (iI (mc + 1)), .ref (cs 8), .int (iI 0)]))) a = some (.inr (4, [.int (iI (mc + 1)), .ref (cs 8), .int (iI 0)])) := zup_s
    replace hZ : zS D A s (zup F a (.inr (4, [.int (iI (mc + 1)), .ref (cs 8), .int (iI 0)]))) _ _ := hZ
    refine lv_istore_n (lv' := [(3, .int (iI 0)), (2, .int (iI 0)), (1, .ref (cs 8)), (0, .ref a)]) hx hb dJx4a65c_clear_da8c8_26 rfl hl (by decide) rfl (fun ls hl => ?_)
    refine lv_iload_n hx hb dJx4a65c_clear_da8c8_27 rfl (lv_at hl 0 rfl) ?_
    refine lv_iload_n hx hb dJx4a65c_clear_da8c8_28 rfl (lv_at hl 1 rfl) ?_
    refine z_icmp_ge (tgt := 42) hx hb dJx4a65c_clear_da8c8_29 (by decide) (by decide) (by decide) (fun c_3 => ?_) (fun c_3 => ?_)
    · skip
      exact z_vret hC hr hlk hZ (by decide) (by decide) (⟨((zko.refl).up (by simp)), _, hf_2, Or.inl ⟨rfl, rfl⟩⟩) dJx4a65c_clear_da8c8_42
    · skip
      exfalso; omega
  · skip
    refine lv_aload_n hx hb dJx4a65c_clear_da8c8_0 rfl (lv_at hl 0 rfl) ?_
    refine lv_dup hx hb dJx4a65c_clear_da8c8_1 rfl ?_
    refine z_getX (T := TJx4a65c) (N := 3) (ci := 4) (k := 0) (fs := [.int (iI mc), .ref arr, .int (iI (xs.length : Int))]) (v := .int (iI mc)) hC hZ in_Jx4a65c rfl (by decide) ql_Jx4a65c_63 q_163 h0 rfl dJx4a65c_clear_da8c8_2 ?_
    refine z_iconst hx hb dJx4a65c_clear_da8c8_5 ?_
    refine z_iadd hx hb dJx4a65c_clear_da8c8_6 ?_
    refine z_putX (T := TJx4a65c) (N := 3) (ci := 4) (k := 0) (fs := [.int (iI mc), .ref arr, .int (iI (xs.length : Int))]) (v := .int (iI (mc + 1))) hC hZ tyJx4a65c tyJx4a65c_ok nmJx4a65c in_Jx4a65c rfl (by decide) ql_Jx4a65c_63 q_163 rfl rfl h0 (by show 0 < 3; decide) rfl rfl dJx4a65c_clear_da8c8_7 (fun H locs hZ => ?_)
    have hf_4 : (zup F a (.inr (4, [.int (iI (mc + 1)), .ref arr, .int (iI (xs.length : Int))]))) arr = some (zO (cs 5) 10 h_) := zup_k (zne h1 h0 (fun q => by cases q)) h1
    have hf_5 : (zup F a (.inr (4, [.int (iI (mc + 1)), .ref arr, .int (iI (xs.length : Int))]))) a = some (.inr (4, [.int (iI (mc + 1)), .ref arr, .int (iI (xs.length : Int))])) := zup_s
    replace hZ : zS D A s (zup F a (.inr (4, [.int (iI (mc + 1)), .ref arr, .int (iI (xs.length : Int))]))) _ _ := hZ
    refine lv_aload_n hx hb dJx4a65c_clear_da8c8_10 rfl (lv_at hl 0 rfl) ?_
    refine z_get (T := TJx4a65c) (N := 3) (ci := 4) (k := 1) (fs := [.int (iI (mc + 1)), .ref arr, .int (iI (xs.length : Int))]) (v := .ref arr) hC hZ in_Jx4a65c rfl (by decide) ql_Jx4a65c_9 rfl hf_5 rfl dJx4a65c_clear_da8c8_11 ?_
    refine lv_astore_n (lv' := [(1, .ref arr), (0, .ref a)]) hx hb dJx4a65c_clear_da8c8_14 rfl hl (by decide) rfl (fun ls hl => ?_)
    refine lv_aload_n hx hb dJx4a65c_clear_da8c8_15 rfl (lv_at hl 1 rfl) ?_
    refine z_get (T := TJx4a65c) (N := 3) (ci := 4) (k := 2) (fs := [.int (iI (mc + 1)), .ref arr, .int (iI (xs.length : Int))]) (v := .int (iI (xs.length : Int))) hC hZ in_Jx4a65c rfl (by decide) ql_Jx4a65c_48 rfl hf_5 rfl dJx4a65c_clear_da8c8_16 ?_
    refine lv_istore_n (lv' := [(2, .int (iI (xs.length : Int))), (1, .ref arr), (0, .ref a)]) hx hb dJx4a65c_clear_da8c8_19 rfl hl (by decide) rfl (fun ls hl => ?_)
    refine lv_aload_n hx hb dJx4a65c_clear_da8c8_20 rfl (lv_at hl 2 rfl) ?_
    refine z_iconst hx hb dJx4a65c_clear_da8c8_21 ?_
    refine lv_dup_x1 hx hb dJx4a65c_clear_da8c8_22 rfl rfl ?_
    refine z_put (T := TJx4a65c) (N := 3) (ci := 4) (k := 2) (fs := [.int (iI (mc + 1)), .ref arr, .int (iI (xs.length : Int))]) (v := .int (iI 0)) hC hZ tyJx4a65c tyJx4a65c_ok nmJx4a65c in_Jx4a65c rfl (by decide) ql_Jx4a65c_48 rfl (Or.inl rfl) rfl hf_5 (by show 2 < 3; decide) rfl rfl dJx4a65c_clear_da8c8_23 (fun H locs hZ => ?_)
    rw [zup_up] at hZ
    have hf_6 : (zup F a (.inr (4, [.int (iI (mc + 1)), .ref arr, .int (iI 0)]))) arr = some (zO (cs 5) 10 h_) := zup_k (zne h1 h0 (fun q => by cases q)) h1
    have hf_7 : (zup F a (.inr (4, [.int (iI (mc + 1)), .ref arr, .int (iI 0)]))) a = some (.inr (4, [.int (iI (mc + 1)), .ref arr, .int (iI 0)])) := zup_s
    replace hZ : zS D A s (zup F a (.inr (4, [.int (iI (mc + 1)), .ref arr, .int (iI 0)]))) _ _ := hZ
    refine lv_istore_n (lv' := [(3, .int (iI 0)), (2, .int (iI (xs.length : Int))), (1, .ref arr), (0, .ref a)]) hx hb dJx4a65c_clear_da8c8_26 rfl hl (by decide) rfl (fun ls hl => ?_)
    have L27_k_8 : ∀ (fu : Nat) (k : Int) (F2 : zF) (g2 : Int → Option Nat) (hfu : ((xs.length : Int) - k).toNat < fu) (hi27_0 : 0 ≤ k ∧ k ≤ xs.length) (hi27_1 : zko [a, arr] F F2) (hi27_2 : F2 arr = some (zO (cs 5) 10 g2)) (hi27_3 : F2 a = some (.inr (4, [.int (iI (mc + 1)), .ref arr, .int (iI 0)]))) (H : Heap) (locs : List Loc) (hZ : zS D A s F2 H locs) (ls : Array Slot) (hl : lv_has ls 4 [(3, .int (iI k)), (2, .int (iI (xs.length : Int))), (1, .ref arr), (0, .ref a)]), W p l e (zR 1 0 0) s m [.ref a].toArray below meth c H locs 0 0 (MQ below (zQ D A (pV (fun F1 => zko [a, arr] F F1 ∧ oLx cs F1 a arr []))) [.ref a].toArray s 0 0 A) (F0 m 27 ls []) := by
      intro fu
      induction fu with
      | zero =>
        intro k F2 g2 hfu
        exact absurd hfu (Nat.not_lt_zero _)
      | succ fu ih27 =>
        intro k F2 g2 hfu hi27_0 hi27_1 hi27_2 hi27_3  H locs hZ ls hl
        have hg2 := hi27_2
        have hg3 := hi27_3
        refine lv_iload_n hx hb dJx4a65c_clear_da8c8_27 rfl (lv_at hl 0 rfl) ?_
        refine lv_iload_n hx hb dJx4a65c_clear_da8c8_28 rfl (lv_at hl 1 rfl) ?_
        refine z_icmp_ge (tgt := 42) hx hb dJx4a65c_clear_da8c8_29 (by decide) (by omega) (by omega) (fun c_9 => ?_) (fun c_9 => ?_)
        · skip
          exact z_vret hC hr hlk hZ (by decide) (by decide) (⟨hi27_1, _, hg3, Or.inr ⟨_, hg2, by simp, fun k k0 k1 => absurd k1 (by simp; omega)⟩⟩) dJx4a65c_clear_da8c8_42
        · skip
          refine lv_aload_n hx hb dJx4a65c_clear_da8c8_32 rfl (lv_at hl 2 rfl) ?_
          refine lv_iload_n hx hb dJx4a65c_clear_da8c8_33 rfl (lv_at hl 0 rfl) ?_
          refine lv_null hx hb dJx4a65c_clear_da8c8_34 ?_
          refine z_aastN (E := "java/lang/Object") hC hZ 5 hg2 rfl (by show _ ∧ _ < (10 : Int); omega) (by decide) dJx4a65c_clear_da8c8_35 (fun H locs hZ => ?_)
          have hf_10 : (zup F2 arr (zO (cs 5) 10 (upI g2 k none))) a = some (.inr (4, [.int (iI (mc + 1)), .ref arr, .int (iI 0)])) := zup_k (zne hg3 hg2 (fun q => by cases q)) hg3
          have hf_11 : (zup F2 arr (zO (cs 5) 10 (upI g2 k none))) arr = some (zO (cs 5) 10 (upI g2 k none)) := zup_s
          replace hZ : zS D A s (zup F2 arr (zO (cs 5) 10 (upI g2 k none))) _ _ := hZ
          refine z_iinc (lv' := [(3, .int (iI (k + 1))), (2, .int (iI (xs.length : Int))), (1, .ref arr), (0, .ref a)]) hx hb dJx4a65c_clear_da8c8_36 hl (k := 0) rfl (by decide) rfl (fun ls hl => ?_)
          refine lv_goto (tgt := 27) hx hb dJx4a65c_clear_da8c8_39 (by decide) ?_
          exact ih27 (k + 1) (zup F2 arr (zO (cs 5) 10 (upI g2 k none))) (upI g2 k none) (by omega) (by omega) (hi27_1.up (by simp)) hf_11 hf_10  _ _ hZ ls (lv_sub hl [0, 1, 2, 3] rfl)
    exact L27_k_8 _ 0 (zup F a (.inr (4, [.int (iI (mc + 1)), .ref arr, .int (iI 0)]))) h_ (Nat.lt_succ_self _) (by omega) ((zko.refl).up (by simp)) hf_6 hf_7  _ _ hZ ls (lv_sub hl [0, 1, 2, 3] rfl)
