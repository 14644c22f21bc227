/-- all that the lines hold, one behind the other -/
def zfl (st : zLn) : List Int := st.1.flatten ++ st.2
def zcum (l : List zWd) (n : Nat) : Int := ((l.take n).flatten.length : Nat)
/-- the line setter in the midst of setting -/
def rLs (cs : Nat → ClassId) (F : zF) (a sg en : Nat) (wd : Int) (st : zLn) : Prop := ∃ f e : Int → Int, F a = some (.inr (11, [.ref sg, .ref en, .int (iI (zfl st).length), .int (iI st.1.length), .int (iI wd)])) ∧ F sg = some (zA (cs 1) 750 f) ∧ F en = some (zA (cs 2) 360 e) ∧ (∀ k : Int, 0 ≤ k → k < (zfl st).length → f k = (zfl st).getD k.toNat 0) ∧ (∀ i : Int, 0 ≤ i → i < st.1.length → e i = zcum st.1 (i + 1).toNat) ∧ ((zfl st).length ≤ 750 ∧ st.1.length ≤ 360) ∧ ∀ k : Int, 0 ≤ k → k < (zfl st).length → 0 ≤ f k ∧ f k ≤ 127
theorem rLs.o {cs : Nat → ClassId} {F : zF} {a sg en : Nat} {wd : Int} {st : zLn} (h : rLs cs F a sg en wd st) : ∃ fs, F a = some (.inr (11, fs)) := by
  obtain ⟨f, e, h1, -⟩ := h
  exact ⟨_, h1⟩
theorem zcum_0 (l : List zWd) : zcum l 0 = 0 := rfl
theorem zcum_s {l : List zWd} {n : Nat} (h : n < l.length) : zcum l (n + 1) = zcum l n + ((l.getD n []).length : Int) := by
  unfold zcum
  rw [List.take_add_one, List.getElem?_eq_getElem h, List.getD_eq_getElem?_getD, List.getElem?_eq_getElem h]
  show ((((l.take n) ++ [l[n]]).flatten.length : Nat) : Int) = _ + ((l[n]).length : Int)
  rw [List.flatten_append, List.flatten_cons, List.flatten_nil, List.append_nil, List.length_append]
  omega
theorem zcum_all {l : List zWd} {n : Nat} (h : l.length ≤ n) : zcum l n = (l.flatten.length : Nat) := by
  unfold zcum; rw [List.take_of_length_le h]
theorem zcum_le {l : List zWd} : ∀ n : Nat, 0 ≤ zcum l n ∧ zcum l n ≤ (l.flatten.length : Nat) := by
  intro n
  unfold zcum
  refine ⟨by omega, ?_⟩
  have : l.flatten = (l.take n).flatten ++ (l.drop n).flatten := by rw [← List.flatten_append, List.take_append_drop]
  rw [this, List.length_append]
  omega
theorem zcum_app {l : List zWd} {x : zWd} {n : Nat} (h : n ≤ l.length) : zcum (l ++ [x]) n = zcum l n := by
  unfold zcum; rw [List.take_append_of_le_length h]
theorem zfl_l (st : zLn) : ((zfl st).length : Int) = (st.1.flatten.length : Nat) + st.2.length := by
  unfold zfl; rw [List.length_append]; omega
set_option maxHeartbeats 4000000 in
set_option maxRecDepth 100000 in
theorem met_X8_startOf (l : Launch) (D : va_G) (cs : Nat → ClassId) (A : Nat → Prop) (F : zF) (a sg en : Nat) (wd : Int) (st : zLn) (x : Int)  (hs1 : rLs cs F a sg en wd st) (hx0 : 0 ≤ x ∧ x ≤ st.1.length) : zM l D cs A yX8_startOf cX8_startOf 2 (some FieldType.int) 1 0 0 [.ref a, .int (iI x)] F (pI (fun r F1 => F = F1 ∧ zcum st.1 x.toNat = r)) := by
  refine zM_of (own := RX8) (by decide) rfl (Nat.le_of_ble_eq_true rfl) ?_
  intro p e s m below meth c hC hr hlk hnm hZ ls hl
  have hx := hC.x
  have hb := hC.b
  have hl : lv_has ls 2 [(0, .ref a), (1, .int (iI x))] := hl
  obtain ⟨f_, e_, h0, h1, h2, h3, h4, h5, h6⟩ := id hs1
  have hzl := zfl_l st
  refine lv_iload_n hx hb dX8_startOf_0 rfl (lv_at hl 1 rfl) ?_
  refine z_iconst hx hb dX8_startOf_1 ?_
  refine z_icmp_lt (tgt := 25) hx hb dX8_startOf_2 (by decide) (by omega) (by decide) (fun c_1 => ?_) (fun c_1 => ?_)
  · skip
    have hz : x = 0 := by omega
    refine z_iconst hx hb dX8_startOf_25 ?_
    exact z_iret hC hr hlk hZ (by decide) (by decide) (⟨rfl, by rw [hz]; rfl⟩) dX8_startOf_26
  · skip
    have he := h4 (x - 1) (by omega) (by omega)
    rw [show x - 1 + 1 = x by omega] at he
    refine lv_iload_n hx hb dX8_startOf_5 rfl (lv_at hl 1 rfl) ?_
    refine lv_aload_n hx hb dX8_startOf_6 rfl (lv_at hl 0 rfl) ?_
    refine z_get (T := TX8) (N := 5) (ci := 11) (k := 1) (fs := [.ref sg, .ref en, .int (iI ((zfl st).length : Int)), .int (iI (st.1.length : Int)), .int (iI wd)]) (v := .ref en) hC hZ in_X8 rfl (by decide) ql_X8_15 rfl h0 rfl dX8_startOf_7 ?_
    refine z_alen (t := 2) hC hZ h2 rfl dX8_startOf_10 ?_
    refine z_top (y := 360) rfl ?_
    refine z_icmp_gt (tgt := 25) hx hb dX8_startOf_11 (by decide) (by omega) (by decide) (fun c_2 => ?_) (fun c_2 => ?_)
    · skip
      exfalso; omega
    · skip
      refine lv_aload_n hx hb dX8_startOf_14 rfl (lv_at hl 0 rfl) ?_
      refine z_get (T := TX8) (N := 5) (ci := 11) (k := 1) (fs := [.ref sg, .ref en, .int (iI ((zfl st).length : Int)), .int (iI (st.1.length : Int)), .int (iI wd)]) (v := .ref en) hC hZ in_X8 rfl (by decide) ql_X8_15 rfl h0 rfl dX8_startOf_15 ?_
      refine lv_iload_n hx hb dX8_startOf_18 rfl (lv_at hl 1 rfl) ?_
      refine z_iconst hx hb dX8_startOf_19 ?_
      refine z_isub hx hb dX8_startOf_20 ?_
      refine z_iald hC hZ h2 (by show _ ∧ _ < (360 : Int); omega) (by decide) dX8_startOf_21 ?_
      refine lv_goto (tgt := 26) hx hb dX8_startOf_22 (by decide) ?_
      exact z_iret hC hr hlk hZ (by decide) (by decide) (⟨rfl, he.symm⟩) dX8_startOf_26

set_option maxHeartbeats 4000000 in
set_option maxRecDepth 100000 in
theorem met_X8_endOf (l : Launch) (D : va_G) (cs : Nat → ClassId) (A : Nat → Prop) (F : zF) (a sg en : Nat) (wd : Int) (st : zLn) (x : Int)  (hs1 : rLs cs F a sg en wd st) (hx0 : 0 ≤ x ∧ x < st.1.length) : zM l D cs A yX8_endOf cX8_endOf 2 (some FieldType.int) 1 0 0 [.ref a, .int (iI x)] F (pI (fun r F1 => F = F1 ∧ zcum st.1 (x + 1).toNat = r)) := by
  refine zM_of (own := RX8) (by decide) rfl (Nat.le_of_ble_eq_true rfl) ?_
  intro p e s m below meth c hC hr hlk hnm hZ ls hl
  have hx := hC.x
  have hb := hC.b
  have hl : lv_has ls 2 [(0, .ref a), (1, .int (iI x))] := hl
  obtain ⟨f_, e_, h0, h1, h2, h3, h4, h5, h6⟩ := id hs1
  have hzl := zfl_l st
  have he := h4 x hx0.1 hx0.2
  refine lv_iload_n hx hb dX8_endOf_0 rfl (lv_at hl 1 rfl) ?_
  refine z_if_lt (tgt := 22) hx hb dX8_endOf_1 (by decide) (by omega) (fun c_1 => ?_) (fun c_1 => ?_)
  · skip
    exfalso; omega
  · skip
    refine lv_iload_n hx hb dX8_endOf_4 rfl (lv_at hl 1 rfl) ?_
    refine lv_aload_n hx hb dX8_endOf_5 rfl (lv_at hl 0 rfl) ?_
    refine z_get (T := TX8) (N := 5) (ci := 11) (k := 1) (fs := [.ref sg, .ref en, .int (iI ((zfl st).length : Int)), .int (iI (st.1.length : Int)), .int (iI wd)]) (v := .ref en) hC hZ in_X8 rfl (by decide) ql_X8_15 rfl h0 rfl dX8_endOf_6 ?_
    refine z_alen (t := 2) hC hZ h2 rfl dX8_endOf_9 ?_
    refine z_top (y := 360) rfl ?_
    refine z_icmp_ge (tgt := 22) hx hb dX8_endOf_10 (by decide) (by omega) (by decide) (fun c_2 => ?_) (fun c_2 => ?_)
    · skip
      exfalso; omega
    · skip
      refine lv_aload_n hx hb dX8_endOf_13 rfl (lv_at hl 0 rfl) ?_
      refine z_get (T := TX8) (N := 5) (ci := 11) (k := 1) (fs := [.ref sg, .ref en, .int (iI ((zfl st).length : Int)), .int (iI (st.1.length : Int)), .int (iI wd)]) (v := .ref en) hC hZ in_X8 rfl (by decide) ql_X8_15 rfl h0 rfl dX8_endOf_14 ?_
      refine lv_iload_n hx hb dX8_endOf_17 rfl (lv_at hl 1 rfl) ?_
      refine z_iald hC hZ h2 (by show _ ∧ _ < (360 : Int); omega) (by decide) dX8_endOf_18 ?_
      refine lv_goto (tgt := 26) hx hb dX8_endOf_19 (by decide) ?_
      exact z_iret hC hr hlk hZ (by decide) (by decide) (⟨rfl, he.symm⟩) dX8_endOf_26

set_option maxHeartbeats 4000000 in
set_option maxRecDepth 100000 in
theorem met_X8_lengthOf (l : Launch) (D : va_G) (cs : Nat → ClassId) (A : Nat → Prop) (F : zF) (a sg en : Nat) (wd : Int) (st : zLn) (x : Int)  (hs1 : rLs cs F a sg en wd st) (hx0 : 0 ≤ x ∧ x < st.1.length) : zM l D cs A yX8_lengthOf cX8_lengthOf 2 (some FieldType.int) 2 0 0 [.ref a, .int (iI x)] F (pI (fun r F1 => F = F1 ∧ ((st.1.getD x.toNat []).length : Int) = r)) := by
  refine zM_of (own := RX8) (by decide) rfl (Nat.le_of_ble_eq_true rfl) ?_
  intro p e s m below meth c hC hr hlk hnm hZ ls hl
  have hx := hC.x
  have hb := hC.b
  have hl : lv_has ls 2 [(0, .ref a), (1, .int (iI x))] := hl
  obtain ⟨f_, e_, h0, h1, h2, h3, h4, h5, h6⟩ := id hs1
  have hzl := zfl_l st
  have hs2 := zcum_s (l := st.1) (n := x.toNat) (by omega)
  rw [← show (x + 1).toNat = x.toNat + 1 by omega] at hs2
  refine lv_aload_n hx hb dX8_lengthOf_0 rfl (lv_at hl 0 rfl) ?_
  refine lv_iload_n hx hb dX8_lengthOf_1 rfl (lv_at hl 1 rfl) ?_
  refine z_calli (z_runV (rest := []) (As := [.int (iI x)]) (n := 1) (ci := 11) hC hZ (met_X8_endOf l D cs A F a sg en wd st x hs1 (by omega)) gv_X8_67 hd_X8_endOf rfl h0 rfl hl rfl (Nat.le_of_ble_eq_true rfl) ⟨Nat.le_of_ble_eq_true rfl, Nat.le_of_ble_eq_true rfl⟩ ⟨Nat.le_of_ble_eq_true rfl, Nat.le_of_ble_eq_true rfl⟩ dX8_lengthOf_2) hZ (fun r2 F2 H locs hp2_c_1 hZ => ?_)
  obtain ⟨rfl, rfl⟩ := hp2_c_1
  refine lv_aload_n hx hb dX8_lengthOf_5 rfl (lv_at hl 0 rfl) ?_
  refine lv_iload_n hx hb dX8_lengthOf_6 rfl (lv_at hl 1 rfl) ?_
  refine z_calli (z_runV (rest := [.int (iI (zcum st.1 (x + 1).toNat))]) (As := [.int (iI x)]) (n := 1) (ci := 11) hC hZ (met_X8_startOf l D cs A F a sg en wd st x hs1 (by omega)) gv_X8_42 hd_X8_startOf rfl h0 rfl hl rfl (Nat.le_of_ble_eq_true rfl) ⟨Nat.le_of_ble_eq_true rfl, Nat.le_of_ble_eq_true rfl⟩ ⟨Nat.le_of_ble_eq_true rfl, Nat.le_of_ble_eq_true rfl⟩ dX8_lengthOf_7) hZ (fun r7 F7 H locs hp7_c_2 hZ => ?_)
  obtain ⟨rfl, rfl⟩ := hp7_c_2
  refine z_isub hx hb dX8_lengthOf_10 ?_
  exact z_iret hC hr hlk hZ (by decide) (by decide) (⟨rfl, by omega⟩) dX8_lengthOf_11

set_option maxHeartbeats 4000000 in
set_option maxRecDepth 100000 in
theorem met_X8_closeLine (l : Launch) (D : va_G) (cs : Nat → ClassId) (A : Nat → Prop) (F : zF) (a sg en : Nat) (wd : Int) (st : zLn)  (hs1 : rLs cs F a sg en wd st) (hlt : st.1.length < 360) : zM l D cs A yX8_closeLine cX8_closeLine 1 (none : Option Jvm.ClassFile.FieldType) 1 0 0 [.ref a] F (pV (fun F1 => zko [a, sg, en] F F1 ∧ rLs cs F1 a sg en wd (st.1 ++ [st.2], []))) := by
  refine zM_of (own := RX8) (by decide) rfl (Nat.le_of_ble_eq_true rfl) ?_
  intro p e s m below meth c hC hr hlk hnm hZ ls hl
  have hx := hC.x
  have hb := hC.b
  have hl : lv_has ls 1 [(0, .ref a)] := hl
  obtain ⟨f_, e_, h0, h1, h2, h3, h4, h5, h6⟩ := id hs1
  have hzl := zfl_l st
  have hfl : zfl (st.1 ++ [st.2], ([] : zWd)) = zfl st := by unfold zfl; simp
  refine lv_aload_n hx hb dX8_closeLine_0 rfl (lv_at hl 0 rfl) ?_
  refine z_get (T := TX8) (N := 5) (ci := 11) (k := 3) (fs := [.ref sg, .ref en, .int (iI ((zfl st).length : Int)), .int (iI (st.1.length : Int)), .int (iI wd)]) (v := .int (iI (st.1.length : Int))) hC hZ in_X8 rfl (by decide) ql_X8_23 rfl h0 rfl dX8_closeLine_1 ?_
  refine lv_aload_n hx hb dX8_closeLine_4 rfl (lv_at hl 0 rfl) ?_
  refine z_get (T := TX8) (N := 5) (ci := 11) (k := 1) (fs := [.ref sg, .ref en, .int (iI ((zfl st).length : Int)), .int (iI (st.1.length : Int)), .int (iI wd)]) (v := .ref en) hC hZ in_X8 rfl (by decide) ql_X8_15 rfl h0 rfl dX8_closeLine_5 ?_
  refine z_alen (t := 2) hC hZ h2 rfl dX8_closeLine_8 ?_
  refine z_top (y := 360) rfl ?_
  refine z_icmp_ge (tgt := 35) hx hb dX8_closeLine_9 (by decide) (by omega) (by decide) (fun c_1 => ?_) (fun c_1 => ?_)
  · skip
    exfalso; omega
  · skip
    refine lv_aload_n hx hb dX8_closeLine_12 rfl (lv_at hl 0 rfl) ?_
    refine z_get (T := TX8) (N := 5) (ci := 11) (k := 1) (fs := [.ref sg, .ref en, .int (iI ((zfl st).length : Int)), .int (iI (st.1.length : Int)), .int (iI wd)]) (v := .ref en) hC hZ in_X8 rfl (by decide) ql_X8_15 rfl h0 rfl dX8_closeLine_13 ?_
    refine lv_aload_n hx hb dX8_closeLine_16 rfl (lv_at hl 0 rfl) ?_
    refine z_get (T := TX8) (N := 5) (ci := 11) (k := 3) (fs := [.ref sg, .ref en, .int (iI ((zfl st).length : Int)), .int (iI (st.1.length : Int)), .int (iI wd)]) (v := .int (iI (st.1.length : Int))) hC hZ in_X8 rfl (by decide) ql_X8_23 rfl h0 rfl dX8_closeLine_17 ?_
    refine lv_aload_n hx hb dX8_closeLine_20 rfl (lv_at hl 0 rfl) ?_
    refine z_get (T := TX8) (N := 5) (ci := 11) (k := 2) (fs := [.ref sg, .ref en, .int (iI ((zfl st).length : Int)), .int (iI (st.1.length : Int)), .int (iI wd)]) (v := .int (iI ((zfl st).length : Int))) hC hZ in_X8 rfl (by decide) ql_X8_19 rfl h0 rfl dX8_closeLine_21 ?_
    refine z_iast hC hZ h2 (by show _ ∧ _ < (360 : Int); omega) (by decide) dX8_closeLine_24 (fun H locs hZ => ?_)
    have hf_2 : (zup F en (zA (cs 2) 360 (upI e_ (st.1.length : Int) ((zfl st).length : Int)))) a = some (.inr (11, [.ref sg, .ref en, .int (iI ((zfl st).length : Int)), .int (iI (st.1.length : Int)), .int (iI wd)])) := zup_k (zne h0 h2 (fun q => by cases q)) h0
    have hf_3 : (zup F en (zA (cs 2) 360 (upI e_ (st.1.length : Int) ((zfl st).length : Int)))) sg = some (zA (cs 1) 750 f_) := zup_k (zneL h1 h2 (by decide)) h1
    have hf_4 : (zup F en (zA (cs 2) 360 (upI e_ (st.1.length : Int) ((zfl st).length : Int)))) en = some (zA (cs 2) 360 (upI e_ (st.1.length : Int) ((zfl st).length : Int))) := zup_s
    replace hZ : zS D A s (zup F en (zA (cs 2) 360 (upI e_ (st.1.length : Int) ((zfl st).length : Int)))) _ _ := hZ
    refine lv_aload_n hx hb dX8_closeLine_25 rfl (lv_at hl 0 rfl) ?_
    refine lv_dup hx hb dX8_closeLine_26 rfl ?_
    refine z_get (T := TX8) (N := 5) (ci := 11) (k := 3) (fs := [.ref sg, .ref en, .int (iI ((zfl st).length : Int)), .int (iI (st.1.length : Int)), .int (iI wd)]) (v := .int (iI (st.1.length : Int))) hC hZ in_X8 rfl (by decide) ql_X8_23 rfl hf_2 rfl dX8_closeLine_27 ?_
    refine z_iconst hx hb dX8_closeLine_30 ?_
    refine z_iadd hx hb dX8_closeLine_31 ?_
    refine z_put (T := TX8) (N := 5) (ci := 11) (k := 3) (fs := [.ref sg, .ref en, .int (iI ((zfl st).length : Int)), .int (iI (st.1.length : Int)), .int (iI wd)]) (v := .int (iI ((st.1.length : Int) + 1))) hC hZ tyX8 tyX8_ok nmX8 in_X8 rfl (by decide) ql_X8_23 rfl (Or.inl rfl) rfl hf_2 (by show 3 < 5; decide) rfl rfl dX8_closeLine_32 (fun H locs hZ => ?_)
    have hf_5 : (zup (zup F en (zA (cs 2) 360 (upI e_ (st.1.length : Int) ((zfl st).length : Int)))) a (.inr (11, [.ref sg, .ref en, .int (iI ((zfl st).length : Int)), .int (iI ((st.1.length : Int) + 1)), .int (iI wd)]))) sg = some (zA (cs 1) 750 f_) := zup_k (zne hf_3 hf_2 (fun q => by cases q)) hf_3
    have hf_6 : (zup (zup F en (zA (cs 2) 360 (upI e_ (st.1.length : Int) ((zfl st).length : Int)))) a (.inr (11, [.ref sg, .ref en, .int (iI ((zfl st).length : Int)), .int (iI ((st.1.length : Int) + 1)), .int (iI wd)]))) en = some (zA (cs 2) 360 (upI e_ (st.1.length : Int) ((zfl st).length : Int))) := zup_k (zne hf_4 hf_2 (fun q => by cases q)) hf_4
    have hf_7 : (zup (zup F en (zA (cs 2) 360 (upI e_ (st.1.length : Int) ((zfl st).length : Int)))) a (.inr (11, [.ref sg, .ref en, .int (iI ((zfl st).length : Int)), .int (iI ((st.1.length : Int) + 1)), .int (iI wd)]))) a = some (.inr (11, [.ref sg, .ref en, .int (iI ((zfl st).length : Int)), .int (iI ((st.1.length : Int) + 1)), .int (iI wd)])) := zup_s
    replace hZ : zS D A s (zup (zup F en (zA (cs 2) 360 (upI e_ (st.1.length : Int) ((zfl st).length : Int)))) a (.inr (11, [.ref sg, .ref en, .int (iI ((zfl st).length : Int)), .int (iI ((st.1.length : Int) + 1)), .int (iI wd)]))) _ _ := hZ
    refine z_vret hC hr hlk hZ (by decide) (by decide) (⟨(((zko.refl).up (by simp)).up (by simp)), _, _, by rw [hfl, List.length_append]; exact hf_7, hf_5, hf_6, by rw [hfl]; exact h3, fun i i0 i1 => ?_, by rw [hfl, List.length_append]; exact ⟨h5.1, by simp; omega⟩, by rw [hfl]; exact h6⟩) dX8_closeLine_35
    have i1 : i < ((st.1 ++ [st.2]).length : Nat) := i1
    rw [List.length_append, List.length_singleton] at i1
    unfold upI
    by_cases q : i = st.1.length
    · rw [if_pos q]
      show _ = zcum (st.1 ++ [st.2]) (i + 1).toNat
      rw [zcum_all (by rw [List.length_append, List.length_singleton]; omega), List.flatten_append, List.length_append, List.flatten_cons, List.flatten_nil, List.append_nil]
      omega
    · rw [if_neg q]
      show _ = zcum (st.1 ++ [st.2]) (i + 1).toNat
      rw [zcum_app (by omega)]
      exact h4 i i0 (by omega)

set_option maxHeartbeats 4000000 in
set_option maxRecDepth 100000 in
theorem met_X8_putSign (l : Launch) (D : va_G) (cs : Nat → ClassId) (A : Nat → Prop) (F : zF) (a sg en : Nat) (wd : Int) (st : zLn) (x : Int)  (hs1 : rLs cs F a sg en wd st) (hx0 : 0 ≤ x ∧ x ≤ 127) (hlt : (zfl st).length < 750) : zM l D cs A yX8_putSign cX8_putSign 2 (none : Option Jvm.ClassFile.FieldType) 1 0 0 [.ref a, .int (iI x)] F (pV (fun F1 => zko [a, sg, en] F F1 ∧ rLs cs F1 a sg en wd (st.1, st.2 ++ [x]))) := by
  refine zM_of (own := RX8) (by decide) rfl (Nat.le_of_ble_eq_true rfl) ?_
  intro p e s m below meth c hC hr hlk hnm hZ ls hl
  have hx := hC.x
  have hb := hC.b
  have hl : lv_has ls 2 [(0, .ref a), (1, .int (iI x))] := hl
  obtain ⟨f_, e_, h0, h1, h2, h3, h4, h5, h6⟩ := id hs1
  have hzl := zfl_l st
  have hfl : zfl (st.1, st.2 ++ [x]) = zfl st ++ [x] := by unfold zfl; simp
  refine lv_aload_n hx hb dX8_putSign_0 rfl (lv_at hl 0 rfl) ?_
  refine z_get (T := TX8) (N := 5) (ci := 11) (k := 2) (fs := [.ref sg, .ref en, .int (iI ((zfl st).length : Int)), .int (iI (st.1.length : Int)), .int (iI wd)]) (v := .int (iI ((zfl st).length : Int))) hC hZ in_X8 rfl (by decide) ql_X8_19 rfl h0 rfl dX8_putSign_1 ?_
  refine lv_aload_n hx hb dX8_putSign_4 rfl (lv_at hl 0 rfl) ?_
  refine z_get (T := TX8) (N := 5) (ci := 11) (k := 0) (fs := [.ref sg, .ref en, .int (iI ((zfl st).length : Int)), .int (iI (st.1.length : Int)), .int (iI wd)]) (v := .ref sg) hC hZ in_X8 rfl (by decide) ql_X8_11 rfl h0 rfl dX8_putSign_5 ?_
  refine z_alen (t := 1) hC hZ h1 rfl dX8_putSign_8 ?_
  refine z_top (y := 750) rfl ?_
  refine z_icmp_ge (tgt := 32) hx hb dX8_putSign_9 (by decide) (by omega) (by decide) (fun c_1 => ?_) (fun c_1 => ?_)
  · skip
    exfalso; omega
  · skip
    refine lv_aload_n hx hb dX8_putSign_12 rfl (lv_at hl 0 rfl) ?_
    refine z_get (T := TX8) (N := 5) (ci := 11) (k := 0) (fs := [.ref sg, .ref en, .int (iI ((zfl st).length : Int)), .int (iI (st.1.length : Int)), .int (iI wd)]) (v := .ref sg) hC hZ in_X8 rfl (by decide) ql_X8_11 rfl h0 rfl dX8_putSign_13 ?_
    refine lv_aload_n hx hb dX8_putSign_16 rfl (lv_at hl 0 rfl) ?_
    refine z_get (T := TX8) (N := 5) (ci := 11) (k := 2) (fs := [.ref sg, .ref en, .int (iI ((zfl st).length : Int)), .int (iI (st.1.length : Int)), .int (iI wd)]) (v := .int (iI ((zfl st).length : Int))) hC hZ in_X8 rfl (by decide) ql_X8_19 rfl h0 rfl dX8_putSign_17 ?_
    refine lv_iload_n hx hb dX8_putSign_20 rfl (lv_at hl 1 rfl) ?_
    refine z_cast hC hZ h1 (by show _ ∧ _ < (750 : Int); omega) (by decide) (by omega) dX8_putSign_21 (fun H locs hZ => ?_)
    have hf_2 : (zup F sg (zA (cs 1) 750 (upI f_ ((zfl st).length : Int) x))) a = some (.inr (11, [.ref sg, .ref en, .int (iI ((zfl st).length : Int)), .int (iI (st.1.length : Int)), .int (iI wd)])) := zup_k (zne h0 h1 (fun q => by cases q)) h0
    have hf_3 : (zup F sg (zA (cs 1) 750 (upI f_ ((zfl st).length : Int) x))) en = some (zA (cs 2) 360 e_) := zup_k (zneL h2 h1 (by decide)) h2
    have hf_4 : (zup F sg (zA (cs 1) 750 (upI f_ ((zfl st).length : Int) x))) sg = some (zA (cs 1) 750 (upI f_ ((zfl st).length : Int) x)) := zup_s
    replace hZ : zS D A s (zup F sg (zA (cs 1) 750 (upI f_ ((zfl st).length : Int) x))) _ _ := hZ
    refine lv_aload_n hx hb dX8_putSign_22 rfl (lv_at hl 0 rfl) ?_
    refine lv_dup hx hb dX8_putSign_23 rfl ?_
    refine z_get (T := TX8) (N := 5) (ci := 11) (k := 2) (fs := [.ref sg, .ref en, .int (iI ((zfl st).length : Int)), .int (iI (st.1.length : Int)), .int (iI wd)]) (v := .int (iI ((zfl st).length : Int))) hC hZ in_X8 rfl (by decide) ql_X8_19 rfl hf_2 rfl dX8_putSign_24 ?_
    refine z_iconst hx hb dX8_putSign_27 ?_
    refine z_iadd hx hb dX8_putSign_28 ?_
    refine z_put (T := TX8) (N := 5) (ci := 11) (k := 2) (fs := [.ref sg, .ref en, .int (iI ((zfl st).length : Int)), .int (iI (st.1.length : Int)), .int (iI wd)]) (v := .int (iI (((zfl st).length : Int) + 1))) hC hZ tyX8 tyX8_ok nmX8 in_X8 rfl (by decide) ql_X8_19 rfl (Or.inl rfl) rfl hf_2 (by show 2 < 5; decide) rfl rfl dX8_putSign_29 (fun H locs hZ => ?_)
    have hf_5 : (zup (zup F sg (zA (cs 1) 750 (upI f_ ((zfl st).length : Int) x))) a (.inr (11, [.ref sg, .ref en, .int (iI (((zfl st).length : Int) + 1)), .int (iI (st.1.length : Int)), .int (iI wd)]))) en = some (zA (cs 2) 360 e_) := zup_k (zne hf_3 hf_2 (fun q => by cases q)) hf_3
    have hf_6 : (zup (zup F sg (zA (cs 1) 750 (upI f_ ((zfl st).length : Int) x))) a (.inr (11, [.ref sg, .ref en, .int (iI (((zfl st).length : Int) + 1)), .int (iI (st.1.length : Int)), .int (iI wd)]))) sg = some (zA (cs 1) 750 (upI f_ ((zfl st).length : Int) x)) := zup_k (zne hf_4 hf_2 (fun q => by cases q)) hf_4
    have hf_7 : (zup (zup F sg (zA (cs 1) 750 (upI f_ ((zfl st).length : Int) x))) a (.inr (11, [.ref sg, .ref en, .int (iI (((zfl st).length : Int) + 1)), .int (iI (st.1.length : Int)), .int (iI wd)]))) a = some (.inr (11, [.ref sg, .ref en, .int (iI (((zfl st).length : Int) + 1)), .int (iI (st.1.length : Int)), .int (iI wd)])) := zup_s
    replace hZ : zS D A s (zup (zup F sg (zA (cs 1) 750 (upI f_ ((zfl st).length : Int) x))) a (.inr (11, [.ref sg, .ref en, .int (iI (((zfl st).length : Int) + 1)), .int (iI (st.1.length : Int)), .int (iI wd)]))) _ _ := hZ
    exact z_vret hC hr hlk hZ (by decide) (by decide) (⟨(((zko.refl).up (by simp)).up (by simp)), _, _, by rw [hfl, List.length_append]; exact hf_7, hf_6, hf_5, fun k k0 k1 => by rw [hfl, List.length_append, List.length_singleton] at k1; rw [hfl, gD_appI k0 (by omega)]; unfold upI; by_cases q : k = (zfl st).length; (rw [if_pos q, if_pos q]); rw [if_neg q, if_neg q]; exact h3 k k0 (by omega), h4, by rw [hfl, List.length_append]; exact ⟨by simp; omega, h5.2⟩, fun k k0 k1 => by rw [hfl, List.length_append, List.length_singleton] at k1; unfold upI; by_cases q : k = (zfl st).length; (rw [if_pos q]; exact hx0); rw [if_neg q]; exact h6 k k0 (by omega)⟩) dX8_putSign_32
