/-- a buffer of 60 characters that holds t -/
def oBf (cs : Nat → ClassId) (F : zF) (a sg : Nat) (t : List Int) : Prop := ∃ f : Int → Int, F a = some (.inr (6, [.ref sg, .int (iI t.length)])) ∧ F sg = some (zA (cs 1) 60 f) ∧ t.length ≤ 60 ∧ (∀ k : Int, 0 ≤ k → k < t.length → f k = t.getD k.toNat 0) ∧ ∀ x ∈ t, 0 ≤ x ∧ x ≤ 65535
theorem oBf.o {cs : Nat → ClassId} {F : zF} {a sg : Nat} {t : List Int} (h : oBf cs F a sg t) : ∃ fs, F a = some (.inr (6, fs)) := by
  obtain ⟨f, h1, -⟩ := h
  exact ⟨_, h1⟩
theorem oBf.mono {cs : Nat → ClassId} {F F1 : zF} {a sg : Nat} {t : List Int} (h : oBf cs F a sg t) (hl : zle F F1) : oBf cs F1 a sg t := by
  obtain ⟨f, h1, h2, h3⟩ := h
  exact ⟨f, hl _ _ h1, hl _ _ h2, h3⟩
theorem tI_mem {t : List Int} {P : Int → Prop} (h : ∀ x ∈ t, P x) {k : Int} (h0 : 0 ≤ k) (h1 : k < t.length) : P (t.getD k.toNat 0) := by
  have hl : k.toNat < t.length := by omega
  rw [List.getD_eq_getElem?_getD, List.getElem?_eq_getElem hl]
  exact h _ (List.getElem_mem hl)
/-- blanks -/
def zbl (t : List Int) : Int := (t.countP (fun x => x == 32) : Nat)
theorem zbl_s {t : List Int} {k : Int} (h0 : 0 ≤ k) (h1 : k < t.length) : (t.getD k.toNat 0 = 32 ∧ zbl (t.take (k + 1).toNat) = zbl (t.take k.toNat) + 1) ∨ (t.getD k.toNat 0 ≠ 32 ∧ zbl (t.take (k + 1).toNat) = zbl (t.take k.toNat)) := by
  have hl : k.toNat < t.length := by omega
  unfold zbl
  rw [show (k + 1).toNat = k.toNat + 1 by omega, List.take_add_one, List.getElem?_eq_getElem hl, List.countP_append, List.getD_eq_getElem?_getD, List.getElem?_eq_getElem hl]
  by_cases q : t[k.toNat] = 32
  · left; exact ⟨q, by simp [q]⟩
  · right; exact ⟨q, by simp [q]⟩
theorem zbl_le (t : List Int) : 0 ≤ zbl t ∧ zbl t ≤ t.length := by
  unfold zbl
  have := List.countP_le_length (p := fun x : Int => x == 32) (l := t)
  omega
set_option maxHeartbeats 4000000 in
set_option maxRecDepth 100000 in
theorem met_X2_init (l : Launch) (D : va_G) (cs : Nat → ClassId) (A : Nat → Prop) (F : zF) (a : Nat)  (h0 : F a = some (.inr (6, [.null, .int (iI 0)]))) : zM l D cs A yX2_init cX2_init 2 (none : Option Jvm.ClassFile.FieldType) 2 1 60 [.ref a, .int (iI 60)] F (pV (fun F1 => ∃ sg : Nat, F sg = none ∧ zko [a] F F1 ∧ oBf cs F1 a sg [])) := by
  refine zM_of (own := RX2) (by decide) rfl (Nat.le_of_ble_eq_true rfl) ?_
  intro p e s m below meth c hC hr hlk hnm hZ ls hl
  have hx := hC.x
  have hb := hC.b
  have hl : lv_has ls 2 [(0, .ref a), (1, .int (iI 60))] := hl
  refine lv_aload_n hx hb dX2_init_0 rfl (lv_at hl 0 rfl) ?_
  refine z_oinit (rest := []) hC hl qm_X2_3 ⟨Nat.le_of_ble_eq_true rfl, Nat.le_of_ble_eq_true rfl⟩ dX2_init_1 ?_
  refine lv_aload_n hx hb dX2_init_4 rfl (lv_at hl 0 rfl) ?_
  refine z_iconst hx hb dX2_init_5 ?_
  refine z_put (T := TX2) (N := 2) (ci := 6) (k := 1) (fs := [.null, .int (iI 0)]) (v := .int (iI 0)) hC hZ tyX2 tyX2_ok nmX2 in_X2 rfl (by decide) ql_X2_9 rfl (Or.inl rfl) rfl h0 (by show 1 < 2; decide) rfl rfl dX2_init_6 (fun H locs hZ => ?_)
  have hf_1 : (zup F a (.inr (6, [.null, .int (iI 0)]))) a = some (.inr (6, [.null, .int (iI 0)])) := zup_s
  replace hZ : zS D A s (zup F a (.inr (6, [.null, .int (iI 0)]))) _ _ := hZ
  refine lv_aload_n hx hb dX2_init_9 rfl (lv_at hl 0 rfl) ?_
  refine z_iconst hx hb dX2_init_10 ?_
  refine lv_iload_n hx hb dX2_init_11 rfl (lv_at hl 1 rfl) ?_
  refine z_mmax (rest := [.ref a]) hC hl qm_X2_15 (by decide) (by decide) ⟨Nat.le_of_ble_eq_true rfl, Nat.le_of_ble_eq_true rfl⟩ ⟨Nat.le_of_ble_eq_true rfl, Nat.le_of_ble_eq_true rfl⟩ dX2_init_12 (fun r12 hmx12 => ?_)
  refine z_top (y := 60) (by omega) ?_
  refine z_newp (atype := .char) (ty := .char) (n := 60) 1 (hC := hC) (hZ := hZ) q_70 rfl rfl (fun h => va_nm_char h) rfl (by decide) (by decide) (Nat.le_of_ble_eq_true rfl) (Nat.le_of_ble_eq_true rfl) dX2_init_15 (fun q15 H hq15 hZ => ?_)
  have hf_2 : (zup (zup F a (.inr (6, [.null, .int (iI 0)]))) q15 (zA (cs 1) 60 (fun _ => 0))) a = some (.inr (6, [.null, .int (iI 0)])) := zup_k (zF_ne hf_1 hq15.1) hf_1
  have hf_3 : (zup (zup F a (.inr (6, [.null, .int (iI 0)]))) q15 (zA (cs 1) 60 (fun _ => 0))) q15 = some (zA (cs 1) 60 (fun _ => 0)) := zup_s
  replace hZ : zS D A s (zup (zup F a (.inr (6, [.null, .int (iI 0)]))) q15 (zA (cs 1) 60 (fun _ => 0))) _ _ := hZ
  refine z_put (T := TX2) (N := 2) (ci := 6) (k := 0) (fs := [.null, .int (iI 0)]) (v := .ref q15) hC hZ tyX2 tyX2_ok nmX2 in_X2 rfl (by decide) ql_X2_21 rfl (Or.inr ⟨rfl, hnm, rfl⟩) rfl hf_2 (by show 0 < 2; decide) rfl rfl dX2_init_17 (fun H locs hZ => ?_)
  have hf_4 : (zup (zup (zup F a (.inr (6, [.null, .int (iI 0)]))) q15 (zA (cs 1) 60 (fun _ => 0))) a (.inr (6, [.ref q15, .int (iI 0)]))) q15 = some (zA (cs 1) 60 (fun _ => 0)) := zup_k (zne hf_3 hf_2 (fun q => by cases q)) hf_3
  have hf_5 : (zup (zup (zup F a (.inr (6, [.null, .int (iI 0)]))) q15 (zA (cs 1) 60 (fun _ => 0))) a (.inr (6, [.ref q15, .int (iI 0)]))) a = some (.inr (6, [.ref q15, .int (iI 0)])) := zup_s
  replace hZ : zS D A s (zup (zup (zup F a (.inr (6, [.null, .int (iI 0)]))) q15 (zA (cs 1) 60 (fun _ => 0))) a (.inr (6, [.ref q15, .int (iI 0)]))) _ _ := hZ
  exact z_vret hC hr hlk hZ (by decide) (by decide) (⟨q15, (zup_none hq15.1), ((((zko.refl).up (by simp)).new hq15.1).up (by simp)), _, hf_5, hf_4, by simp, fun k k0 k1 => absurd k1 (by show ¬ _ < ((0 : Nat) : Int); omega), fun x hx => by cases hx⟩) dX2_init_20

set_option maxHeartbeats 4000000 in
set_option maxRecDepth 100000 in
theorem met_X2_append (l : Launch) (D : va_G) (cs : Nat → ClassId) (A : Nat → Prop) (F : zF) (a sg : Nat) (t : List Int) (x : Int)  (hb1 : oBf cs F a sg t) (hx0 : 0 ≤ x ∧ x ≤ 65535) : zM l D cs A yX2_append cX2_append 2 (some FieldType.boolean) 1 0 0 [.ref a, .int (iI x)] F (pI (fun r F1 => (t.length = 60 ∧ r = 0 ∧ F = F1) ∨ (t.length < 60 ∧ r = 1 ∧ zko [a, sg] F F1 ∧ oBf cs F1 a sg (t ++ [x])))) := by
  refine zM_of (own := RX2) (by decide) rfl (Nat.le_of_ble_eq_true rfl) ?_
  intro p e s m below meth c hC hr hlk hnm hZ ls hl
  have hx := hC.x
  have hb := hC.b
  have hl : lv_has ls 2 [(0, .ref a), (1, .int (iI x))] := hl
  obtain ⟨f_, h0, h1, h2, h3, h4⟩ := id hb1
  refine lv_aload_n hx hb dX2_append_0 rfl (lv_at hl 0 rfl) ?_
  refine z_get (T := TX2) (N := 2) (ci := 6) (k := 1) (fs := [.ref sg, .int (iI (t.length : Int))]) (v := .int (iI (t.length : Int))) hC hZ in_X2 rfl (by decide) ql_X2_9 rfl h0 rfl dX2_append_1 ?_
  refine z_if_lt (tgt := 19) hx hb dX2_append_4 (by decide) (by omega) (fun c_1 => ?_) (fun c_1 => ?_)
  · skip
    exfalso; omega
  · skip
    refine lv_aload_n hx hb dX2_append_7 rfl (lv_at hl 0 rfl) ?_
    refine z_get (T := TX2) (N := 2) (ci := 6) (k := 1) (fs := [.ref sg, .int (iI (t.length : Int))]) (v := .int (iI (t.length : Int))) hC hZ in_X2 rfl (by decide) ql_X2_9 rfl h0 rfl dX2_append_8 ?_
    refine lv_aload_n hx hb dX2_append_11 rfl (lv_at hl 0 rfl) ?_
    refine z_get (T := TX2) (N := 2) (ci := 6) (k := 0) (fs := [.ref sg, .int (iI (t.length : Int))]) (v := .ref sg) hC hZ in_X2 rfl (by decide) ql_X2_21 rfl h0 rfl dX2_append_12 ?_
    refine z_alen (t := 1) hC hZ h1 rfl dX2_append_15 ?_
    refine z_top (y := 60) rfl ?_
    refine z_icmp_lt (tgt := 21) hx hb dX2_append_16 (by decide) (by omega) (by decide) (fun c_2 => ?_) (fun c_2 => ?_)
    · skip
      refine lv_aload_n hx hb dX2_append_21 rfl (lv_at hl 0 rfl) ?_
      refine z_get (T := TX2) (N := 2) (ci := 6) (k := 0) (fs := [.ref sg, .int (iI (t.length : Int))]) (v := .ref sg) hC hZ in_X2 rfl (by decide) ql_X2_21 rfl h0 rfl dX2_append_22 ?_
      refine lv_aload_n hx hb dX2_append_25 rfl (lv_at hl 0 rfl) ?_
      refine z_get (T := TX2) (N := 2) (ci := 6) (k := 1) (fs := [.ref sg, .int (iI (t.length : Int))]) (v := .int (iI (t.length : Int))) hC hZ in_X2 rfl (by decide) ql_X2_9 rfl h0 rfl dX2_append_26 ?_
      refine lv_iload_n hx hb dX2_append_29 rfl (lv_at hl 1 rfl) ?_
      refine z_cast hC hZ h1 (by show _ ∧ _ < (60 : Int); omega) (by decide) (by omega) dX2_append_30 (fun H locs hZ => ?_)
      have hf_3 : (zup F sg (zA (cs 1) 60 (upI f_ (t.length : Int) x))) a = some (.inr (6, [.ref sg, .int (iI (t.length : Int))])) := zup_k (zne h0 h1 (fun q => by cases q)) h0
      have hf_4 : (zup F sg (zA (cs 1) 60 (upI f_ (t.length : Int) x))) sg = some (zA (cs 1) 60 (upI f_ (t.length : Int) x)) := zup_s
      replace hZ : zS D A s (zup F sg (zA (cs 1) 60 (upI f_ (t.length : Int) x))) _ _ := hZ
      refine lv_aload_n hx hb dX2_append_31 rfl (lv_at hl 0 rfl) ?_
      refine lv_dup hx hb dX2_append_32 rfl ?_
      refine z_get (T := TX2) (N := 2) (ci := 6) (k := 1) (fs := [.ref sg, .int (iI (t.length : Int))]) (v := .int (iI (t.length : Int))) hC hZ in_X2 rfl (by decide) ql_X2_9 rfl hf_3 rfl dX2_append_33 ?_
      refine z_iconst hx hb dX2_append_36 ?_
      refine z_iadd hx hb dX2_append_37 ?_
      refine z_put (T := TX2) (N := 2) (ci := 6) (k := 1) (fs := [.ref sg, .int (iI (t.length : Int))]) (v := .int (iI ((t.length : Int) + 1))) hC hZ tyX2 tyX2_ok nmX2 in_X2 rfl (by decide) ql_X2_9 rfl (Or.inl rfl) rfl hf_3 (by show 1 < 2; decide) rfl rfl dX2_append_38 (fun H locs hZ => ?_)
      have hf_5 : (zup (zup F sg (zA (cs 1) 60 (upI f_ (t.length : Int) x))) a (.inr (6, [.ref sg, .int (iI ((t.length : Int) + 1))]))) sg = some (zA (cs 1) 60 (upI f_ (t.length : Int) x)) := zup_k (zne hf_4 hf_3 (fun q => by cases q)) hf_4
      have hf_6 : (zup (zup F sg (zA (cs 1) 60 (upI f_ (t.length : Int) x))) a (.inr (6, [.ref sg, .int (iI ((t.length : Int) + 1))]))) a = some (.inr (6, [.ref sg, .int (iI ((t.length : Int) + 1))])) := zup_s
      replace hZ : zS D A s (zup (zup F sg (zA (cs 1) 60 (upI f_ (t.length : Int) x))) a (.inr (6, [.ref sg, .int (iI ((t.length : Int) + 1))]))) _ _ := hZ
      refine z_iconst hx hb dX2_append_41 ?_
      exact z_zret hC hr hlk hZ rfl (by decide) (by decide) ((Or.inr ⟨by omega, rfl, (((zko.refl).up (by simp)).up (by simp)), _, by rw [List.length_append]; exact hf_6, hf_5, by rw [List.length_append]; simp; omega, fun k k0 k1 => by rw [List.length_append, List.length_singleton] at k1; rw [gD_appI k0 (by omega)]; unfold upI; by_cases q : k = t.length; (rw [if_pos q, if_pos q]); rw [if_neg q, if_neg q]; exact h3 k k0 (by omega), fun y hy => (List.mem_append.mp hy).elim (h4 y) (fun z => by rw [List.mem_singleton.mp z]; exact hx0)⟩)) dX2_append_42
    · skip
      refine z_iconst hx hb dX2_append_19 ?_
      exact z_zret hC hr hlk hZ rfl (by decide) (by decide) ((Or.inl ⟨by omega, rfl, rfl⟩)) dX2_append_20

set_option maxHeartbeats 4000000 in
set_option maxRecDepth 100000 in
theorem met_X2_empty (l : Launch) (D : va_G) (cs : Nat → ClassId) (A : Nat → Prop) (F : zF) (a sg : Nat) (t : List Int)  (hb1 : oBf cs F a sg t) : zM l D cs A yX2_empty cX2_empty 2 (some FieldType.int) 1 0 0 [.ref a] F (pI (fun r F1 => (t.length : Int) = r ∧ zko [a, sg] F F1 ∧ oBf cs F1 a sg [])) := by
  refine zM_of (own := RX2) (by decide) rfl (Nat.le_of_ble_eq_true rfl) ?_
  intro p e s m below meth c hC hr hlk hnm hZ ls hl
  have hx := hC.x
  have hb := hC.b
  have hl : lv_has ls 2 [(0, .ref a)] := hl
  obtain ⟨f_, h0, h1, h2, h3, h4⟩ := id hb1
  refine lv_aload_n hx hb dX2_empty_0 rfl (lv_at hl 0 rfl) ?_
  refine z_get (T := TX2) (N := 2) (ci := 6) (k := 1) (fs := [.ref sg, .int (iI (t.length : Int))]) (v := .int (iI (t.length : Int))) hC hZ in_X2 rfl (by decide) ql_X2_9 rfl h0 rfl dX2_empty_1 ?_
  refine lv_istore_n (lv' := [(1, .int (iI (t.length : Int))), (0, .ref a)]) hx hb dX2_empty_4 rfl hl (by decide) rfl (fun ls hl => ?_)
  refine lv_aload_n hx hb dX2_empty_5 rfl (lv_at hl 1 rfl) ?_
  refine z_iconst hx hb dX2_empty_6 ?_
  refine z_put (T := TX2) (N := 2) (ci := 6) (k := 1) (fs := [.ref sg, .int (iI (t.length : Int))]) (v := .int (iI 0)) hC hZ tyX2 tyX2_ok nmX2 in_X2 rfl (by decide) ql_X2_9 rfl (Or.inl rfl) rfl h0 (by show 1 < 2; decide) rfl rfl dX2_empty_7 (fun H locs hZ => ?_)
  have hf_1 : (zup F a (.inr (6, [.ref sg, .int (iI 0)]))) sg = some (zA (cs 1) 60 f_) := zup_k (zne h1 h0 (fun q => by cases q)) h1
  have hf_2 : (zup F a (.inr (6, [.ref sg, .int (iI 0)]))) a = some (.inr (6, [.ref sg, .int (iI 0)])) := zup_s
  replace hZ : zS D A s (zup F a (.inr (6, [.ref sg, .int (iI 0)]))) _ _ := hZ
  refine lv_iload_n hx hb dX2_empty_10 rfl (lv_at hl 0 rfl) ?_
  exact z_iret hC hr hlk hZ (by decide) (by decide) (⟨rfl, ((zko.refl).up (by simp)), _, hf_2, hf_1, by simp, fun k k0 k1 => absurd k1 (by show ¬ _ < ((0 : Nat) : Int); omega), fun x hx => by cases hx⟩) dX2_empty_11

set_option maxHeartbeats 4000000 in
set_option maxRecDepth 100000 in
theorem met_X2_signAt (l : Launch) (D : va_G) (cs : Nat → ClassId) (A : Nat → Prop) (F : zF) (a sg : Nat) (t : List Int) (x : Int)  (hb1 : oBf cs F a sg t) (hx0 : InR x) : zM l D cs A yX2_signAt cX2_signAt 2 (some FieldType.char) 1 0 0 [.ref a, .int (iI x)] F (pI (fun r F1 => F = F1 ∧ ((0 ≤ x ∧ x < t.length ∧ r = t.getD x.toNat 0) ∨ (¬ (0 ≤ x ∧ x < t.length) ∧ r = 0)) ∧ 0 ≤ r ∧ r ≤ 65535)) := by
  refine zM_of (own := RX2) (by decide) rfl (Nat.le_of_ble_eq_true rfl) ?_
  intro p e s m below meth c hC hr hlk hnm hZ ls hl
  have hx := hC.x
  have hb := hC.b
  have hl : lv_has ls 2 [(0, .ref a), (1, .int (iI x))] := hl
  obtain ⟨f_, h0, h1, h2, h3, h4⟩ := id hb1
  refine lv_iload_n hx hb dX2_signAt_0 rfl (lv_at hl 1 rfl) ?_
  refine z_if_lt (tgt := 30) hx hb dX2_signAt_1 (by decide) (by omega) (fun c_1 => ?_) (fun c_1 => ?_)
  · skip
    refine z_iconst hx hb dX2_signAt_30 ?_
    exact z_zret hC hr hlk hZ rfl (by decide) (by decide) (⟨rfl, Or.inr ⟨by omega, rfl⟩, by decide⟩) dX2_signAt_31
  · skip
    refine lv_iload_n hx hb dX2_signAt_4 rfl (lv_at hl 1 rfl) ?_
    refine lv_aload_n hx hb dX2_signAt_5 rfl (lv_at hl 0 rfl) ?_
    refine z_get (T := TX2) (N := 2) (ci := 6) (k := 1) (fs := [.ref sg, .int (iI (t.length : Int))]) (v := .int (iI (t.length : Int))) hC hZ in_X2 rfl (by decide) ql_X2_9 rfl h0 rfl dX2_signAt_6 ?_
    refine z_icmp_ge (tgt := 30) hx hb dX2_signAt_9 (by decide) (by omega) (by omega) (fun c_2 => ?_) (fun c_2 => ?_)
    · skip
      refine z_iconst hx hb dX2_signAt_30 ?_
      exact z_zret hC hr hlk hZ rfl (by decide) (by decide) (⟨rfl, Or.inr ⟨by omega, rfl⟩, by decide⟩) dX2_signAt_31
    · skip
      refine lv_iload_n hx hb dX2_signAt_12 rfl (lv_at hl 1 rfl) ?_
      refine lv_aload_n hx hb dX2_signAt_13 rfl (lv_at hl 0 rfl) ?_
      refine z_get (T := TX2) (N := 2) (ci := 6) (k := 0) (fs := [.ref sg, .int (iI (t.length : Int))]) (v := .ref sg) hC hZ in_X2 rfl (by decide) ql_X2_21 rfl h0 rfl dX2_signAt_14 ?_
      refine z_alen (t := 1) hC hZ h1 rfl dX2_signAt_17 ?_
      refine z_top (y := 60) rfl ?_
      refine z_icmp_ge (tgt := 30) hx hb dX2_signAt_18 (by decide) (by omega) (by decide) (fun c_3 => ?_) (fun c_3 => ?_)
      · skip
        exfalso; omega
      · skip
        refine lv_aload_n hx hb dX2_signAt_21 rfl (lv_at hl 0 rfl) ?_
        refine z_get (T := TX2) (N := 2) (ci := 6) (k := 0) (fs := [.ref sg, .int (iI (t.length : Int))]) (v := .ref sg) hC hZ in_X2 rfl (by decide) ql_X2_21 rfl h0 rfl dX2_signAt_22 ?_
        refine lv_iload_n hx hb dX2_signAt_25 rfl (lv_at hl 1 rfl) ?_
        refine z_cald hC hZ h1 (by show _ ∧ _ < (60 : Int); omega) (by decide) dX2_signAt_26 ?_
        refine z_top (y := t.getD x.toNat 0) (h3 x (by omega) (by omega)) ?_
        have hrg := tI_mem h4 (k := x) (by omega) (by omega)
        refine lv_goto (tgt := 31) hx hb dX2_signAt_27 (by decide) ?_
        exact z_zret hC hr hlk hZ (iI_narC (by omega)).1 (by decide) (by decide) (⟨rfl, Or.inl ⟨by omega, by omega, rfl⟩, hrg⟩) dX2_signAt_31

set_option maxHeartbeats 4000000 in
set_option maxRecDepth 100000 in
theorem met_X2_countBlanks (l : Launch) (D : va_G) (cs : Nat → ClassId) (A : Nat → Prop) (F : zF) (a sg : Nat) (t : List Int)  (hb1 : oBf cs F a sg t) : zM l D cs A yX2_countBlanks cX2_countBlanks 3 (some FieldType.int) 2 0 0 [.ref a] F (pI (fun r F1 => F = F1 ∧ zbl t = r)) := by
  refine zM_of (own := RX2) (by decide) rfl (Nat.le_of_ble_eq_true rfl) ?_
  intro p e s m below meth c hC hr hlk hnm hZ ls hl
  have hx := hC.x
  have hb := hC.b
  have hl : lv_has ls 3 [(0, .ref a)] := hl
  obtain ⟨f_, h0, h1, h2, h3, h4⟩ := id hb1
  refine z_iconst hx hb dX2_countBlanks_0 ?_
  refine lv_istore_n (lv' := [(1, .int (iI 0)), (0, .ref a)]) hx hb dX2_countBlanks_1 rfl hl (by decide) rfl (fun ls hl => ?_)
  refine z_iconst hx hb dX2_countBlanks_2 ?_
  refine lv_istore_n (lv' := [(2, .int (iI 0)), (1, .int (iI 0)), (0, .ref a)]) hx hb dX2_countBlanks_3 rfl hl (by decide) rfl (fun ls hl => ?_)
  have L4_k_1 : ∀ (fu : Nat) (n k : Int)  (hfu : ((t.length : Int) - k).toNat < fu) (hi4_0 : 0 ≤ k ∧ k ≤ (t.length : Int)) (hi4_1 : n = zbl (t.take k.toNat) ∧ 0 ≤ n ∧ n ≤ k) (H : Heap) (locs : List Loc) (hZ : zS D A s F H locs) (ls : Array Slot) (hl : lv_has ls 3 [(2, .int (iI k)), (1, .int (iI n)), (0, .ref a)]), W p l e (zR 2 0 0) s m [.ref a].toArray below meth c H locs 0 0 (MQ below (zQ D A (pI (fun r F1 => F = F1 ∧ zbl t = r))) [.ref a].toArray s 0 0 A) (F0 m 4 ls []) := by
    intro fu
    induction fu with
    | zero =>
      intro n k  hfu
      exact absurd hfu (Nat.not_lt_zero _)
    | succ fu ih4 =>
      intro n k  hfu hi4_0 hi4_1  H locs hZ ls hl
      refine lv_iload_n hx hb dX2_countBlanks_4 rfl (lv_at hl 0 rfl) ?_
      refine lv_aload_n hx hb dX2_countBlanks_5 rfl (lv_at hl 2 rfl) ?_
      refine z_get (T := TX2) (N := 2) (ci := 6) (k := 1) (fs := [.ref sg, .int (iI (t.length : Int))]) (v := .int (iI (t.length : Int))) hC hZ in_X2 rfl (by decide) ql_X2_9 rfl h0 rfl dX2_countBlanks_6 ?_
      refine z_icmp_ge (tgt := 31) hx hb dX2_countBlanks_9 (by decide) (by omega) (by omega) (fun c_2 => ?_) (fun c_2 => ?_)
      · skip
        have hfin : zbl t = n := by rw [hi4_1.1, List.take_of_length_le (by omega)]
        refine lv_iload_n hx hb dX2_countBlanks_31 rfl (lv_at hl 1 rfl) ?_
        exact z_iret hC hr hlk hZ (by decide) (by decide) (⟨rfl, hfin⟩) dX2_countBlanks_32
      · skip
        have hbs := zbl_s (t := t) (k := k) (by omega) (by omega)
        have hkr := tI_mem h4 (k := k) (by omega) (by omega)
        refine lv_aload_n hx hb dX2_countBlanks_12 rfl (lv_at hl 2 rfl) ?_
        refine lv_iload_n hx hb dX2_countBlanks_13 rfl (lv_at hl 0 rfl) ?_
        refine z_calli (z_runV (rest := []) (As := [.int (iI k)]) (n := 1) (ci := 6) hC hZ (met_X2_signAt l D cs A F a sg t k hb1 (by omega)) gv_X2_29 hd_X2_signAt rfl h0 rfl hl rfl (Nat.le_of_ble_eq_true rfl) ⟨Nat.le_of_ble_eq_true rfl, Nat.le_of_ble_eq_true rfl⟩ ⟨Nat.le_of_ble_eq_true rfl, Nat.le_of_ble_eq_true rfl⟩ dX2_countBlanks_14) hZ (fun r14 F14 H locs hp14_c_3 hZ => ?_)
        obtain ⟨rfl, hp14_c_3⟩ := hp14_c_3
        refine z_top (y := t.getD k.toNat 0) (hp14_c_3.1.elim (fun z => z.2.2) (fun z => absurd (show 0 ≤ k ∧ k < (t.length : Int) by omega) z.1)) ?_
        refine z_bipush hx hb dX2_countBlanks_17 (by decide) ?_
        refine z_icmp_ne (tgt := 25) hx hb dX2_countBlanks_19 (by decide) (by omega) (by decide) (fun c_4 => ?_) (fun c_4 => ?_)
        · skip
          refine z_iinc (lv' := [(2, .int (iI (k + 1))), (1, .int (iI n)), (0, .ref a)]) hx hb dX2_countBlanks_25 hl (k := 0) rfl (by decide) rfl (fun ls hl => ?_)
          refine lv_goto (tgt := 4) hx hb dX2_countBlanks_28 (by decide) ?_
          exact ih4 n (k + 1)  (by omega) (by omega) (by omega)  _ _ hZ ls (lv_sub hl [0, 1, 2] rfl)
        · skip
          refine z_iinc (lv' := [(1, .int (iI (n + 1))), (2, .int (iI k)), (0, .ref a)]) hx hb dX2_countBlanks_22 hl (k := 1) rfl (by decide) rfl (fun ls hl => ?_)
          refine z_iinc (lv' := [(2, .int (iI (k + 1))), (1, .int (iI (n + 1))), (0, .ref a)]) hx hb dX2_countBlanks_25 hl (k := 1) rfl (by decide) rfl (fun ls hl => ?_)
          refine lv_goto (tgt := 4) hx hb dX2_countBlanks_28 (by decide) ?_
          exact ih4 (n + 1) (k + 1)  (by omega) (by omega) (by omega)  _ _ hZ ls (lv_sub hl [0, 1, 2] rfl)
  exact L4_k_1 _ 0 0  (Nat.lt_succ_self _) (by omega) ⟨rfl, by decide, by decide⟩  _ _ hZ ls (lv_sub hl [0, 1, 2] rfl)

set_option maxHeartbeats 4000000 in
set_option maxRecDepth 100000 in
theorem met_X2_holdsOneWord (l : Launch) (D : va_G) (cs : Nat → ClassId) (A : Nat → Prop) (F : zF) (a sg : Nat) (t : List Int)  (hb1 : oBf cs F a sg t) : zM l D cs A yX2_holdsOneWord cX2_holdsOneWord 1 (some FieldType.boolean) 3 0 0 [.ref a] F (pI (fun r F1 => F = F1 ∧ (((1 ≤ t.length ∧ t.length ≤ 12 ∧ zbl t = 0) ∧ r = 1) ∨ (¬ (1 ≤ t.length ∧ t.length ≤ 12 ∧ zbl t = 0) ∧ r = 0)))) := by
  refine zM_of (own := RX2) (by decide) rfl (Nat.le_of_ble_eq_true rfl) ?_
  intro p e s m below meth c hC hr hlk hnm hZ ls hl
  have hx := hC.x
  have hb := hC.b
  have hl : lv_has ls 1 [(0, .ref a)] := hl
  obtain ⟨f_, h0, h1, h2, h3, h4⟩ := id hb1
  have hzb := zbl_le t
  refine lv_aload_n hx hb dX2_holdsOneWord_0 rfl (lv_at hl 0 rfl) ?_
  refine z_get (T := TX2) (N := 2) (ci := 6) (k := 1) (fs := [.ref sg, .int (iI (t.length : Int))]) (v := .int (iI (t.length : Int))) hC hZ in_X2 rfl (by decide) ql_X2_9 rfl h0 rfl dX2_holdsOneWord_1 ?_
  refine z_iconst hx hb dX2_holdsOneWord_4 ?_
  refine z_icmp_lt (tgt := 28) hx hb dX2_holdsOneWord_5 (by decide) (by omega) (by decide) (fun c_1 => ?_) (fun c_1 => ?_)
  · skip
    refine z_iconst hx hb dX2_holdsOneWord_28 ?_
    exact z_zret hC hr hlk hZ rfl (by decide) (by decide) (⟨rfl, Or.inr ⟨by omega, rfl⟩⟩) dX2_holdsOneWord_29
  · skip
    refine lv_aload_n hx hb dX2_holdsOneWord_8 rfl (lv_at hl 0 rfl) ?_
    refine z_get (T := TX2) (N := 2) (ci := 6) (k := 1) (fs := [.ref sg, .int (iI (t.length : Int))]) (v := .int (iI (t.length : Int))) hC hZ in_X2 rfl (by decide) ql_X2_9 rfl h0 rfl dX2_holdsOneWord_9 ?_
    refine z_bipush hx hb dX2_holdsOneWord_12 (by decide) ?_
    refine z_icmp_gt (tgt := 28) hx hb dX2_holdsOneWord_14 (by decide) (by omega) (by decide) (fun c_2 => ?_) (fun c_2 => ?_)
    · skip
      refine z_iconst hx hb dX2_holdsOneWord_28 ?_
      exact z_zret hC hr hlk hZ rfl (by decide) (by decide) (⟨rfl, Or.inr ⟨by omega, rfl⟩⟩) dX2_holdsOneWord_29
    · skip
      refine lv_aload_n hx hb dX2_holdsOneWord_17 rfl (lv_at hl 0 rfl) ?_
      refine z_calli (z_runV (rest := []) (As := []) (n := 0) (ci := 6) hC hZ (met_X2_countBlanks l D cs A F a sg t hb1) gv_X2_25 hd_X2_countBlanks rfl h0 rfl hl rfl (Nat.le_of_ble_eq_true rfl) ⟨Nat.le_of_ble_eq_true rfl, Nat.le_of_ble_eq_true rfl⟩ ⟨Nat.le_of_ble_eq_true rfl, Nat.le_of_ble_eq_true rfl⟩ dX2_holdsOneWord_18) hZ (fun r18 F18 H locs hp18_c_3 hZ => ?_)
      obtain ⟨rfl, rfl⟩ := hp18_c_3
      refine z_if_ne (tgt := 28) hx hb dX2_holdsOneWord_21 (by decide) (by omega) (fun c_4 => ?_) (fun c_4 => ?_)
      · skip
        refine z_iconst hx hb dX2_holdsOneWord_28 ?_
        exact z_zret hC hr hlk hZ rfl (by decide) (by decide) (⟨rfl, Or.inr ⟨by omega, rfl⟩⟩) dX2_holdsOneWord_29
      · skip
        refine z_iconst hx hb dX2_holdsOneWord_24 ?_
        refine lv_goto (tgt := 29) hx hb dX2_holdsOneWord_25 (by decide) ?_
        exact z_zret hC hr hlk hZ rfl (by decide) (by decide) (⟨rfl, Or.inl ⟨by omega, rfl⟩⟩) dX2_holdsOneWord_29

theorem zat_of {t : List Int} : zat t ↔ (∀ w ∈ (zsf t).1, zwl w) ∧ zwl (zsf t).2 := by
  unfold zat zsp
  constructor
  · exact fun h => ⟨fun w hw => h w (List.mem_append_left _ hw), h _ (List.mem_append_right _ (List.mem_singleton.mpr rfl))⟩
  · exact fun h w hw => (List.mem_append.mp hw).elim (h.1 w) (fun z => by rw [List.mem_singleton.mp z]; exact h.2)
/-- what stands behind k characters is kept: once a word is bad it stays -/
theorem zsf_mono (t s : List Int) : ∃ r, (zsf (t ++ s)).1 ++ [(zsf (t ++ s)).2] = (zsf t).1 ++ r ∧ ∃ y, r.head? = some y ∧ (zsf t).2 <+: y := by
  refine snoc_ind (P := fun s => ∃ r, (zsf (t ++ s)).1 ++ [(zsf (t ++ s)).2] = (zsf t).1 ++ r ∧ ∃ y, r.head? = some y ∧ (zsf t).2 <+: y) ?_ (fun l x ih => ?_) s
  · rw [List.append_nil]; exact ⟨_, rfl, _, rfl, List.prefix_refl _⟩
  · obtain ⟨r, e, y, hy, hp⟩ := ih
    rw [← List.append_assoc, zsf_snoc]
    by_cases q : x = 32
    · rw [if_pos q]
      refine ⟨r ++ [[]], ?_, y, by rw [List.head?_append, hy]; rfl, hp⟩
      show ((zsf (t ++ l)).1 ++ [(zsf (t ++ l)).2]) ++ [[]] = _
      rw [e, List.append_assoc]
    · rw [if_neg q]
      show ∃ r, (zsf (t ++ l)).1 ++ [(zsf (t ++ l)).2 ++ [x]] = _ ∧ _
      rcases List.eq_nil_or_concat r with rfl | ⟨r0, z, rfl⟩
      · cases hy
      · rw [List.concat_eq_append, ← List.append_assoc] at e
        obtain ⟨e1, e2⟩ := List.append_inj' e rfl
        have e3 : (zsf (t ++ l)).2 = z := (List.cons.inj e2).1
        rw [e1, e3, List.append_assoc]
        refine ⟨r0 ++ [z ++ [x]], rfl, ?_⟩
        cases r0 with
        | nil =>
          rw [List.concat_eq_append] at hy
          have : z = y := by simpa using hy
          exact ⟨z ++ [x], rfl, by rw [this]; exact hp.trans (List.prefix_append _ _)⟩
        | cons r1 r2 =>
          rw [List.concat_eq_append] at hy
          exact ⟨r1, rfl, by have : r1 = y := by simpa using hy
                             rw [this]; exact hp⟩
theorem zat_bad1 {t s : List Int} (h : 12 < (zsf t).2.length) : ¬ zat (t ++ s) := by
  intro hz
  obtain ⟨r, e, y, hy, hp⟩ := zsf_mono t s
  have hm : y ∈ zsp (t ++ s) := by unfold zsp; rw [e]; exact List.mem_append_right _ (List.mem_of_mem_head? hy)
  have := (hz y hm).2
  have := hp.length_le
  omega
theorem zat_bad2 {t s : List Int} (h : (zsf t).2 = []) : ¬ zat (t ++ [32] ++ s) := by
  intro hz
  obtain ⟨r, e, y, hy, hp⟩ := zsf_mono (t ++ [32]) s
  have e2 : (zsf (t ++ [32])).1 = (zsf t).1 ++ [[]] := by rw [zsf_snoc, if_pos rfl, h]
  rw [e2] at e
  have hm : ([] : zWd) ∈ zsp (t ++ [32] ++ s) := by unfold zsp; rw [e]; simp
  have := (hz _ hm).1
  simp at this
