theorem zle_new {W F1 : zF} {q : Nat} {d : va_E} (hq : W q = none) (hk : zko [q] (zup W q d) F1) : zle W F1 := fun x e hx => hk x e (zup_k (zF_ne hx hq) hx) (fun c => by rw [List.mem_singleton.mp c, hq] at hx; cases hx)
/-- cells that lie apart, but for the empty row -/
def zNd (cs : Nat → ClassId) (F : zF) (l : List Nat) : Prop := l.Pairwise (fun x y => x = y → x = cs 8) ∧ ∀ x ∈ l, F x ≠ none ∨ x = cs 8
theorem zNd.ext {cs : Nat → ClassId} {F F1 : zF} {l qs : List Nat} (h : zNd cs F l) (hl : zle F F1) (hn : ∀ q, q ∈ qs → F q = none) (hp : qs.Pairwise (fun x y => x = y → x = cs 8)) (hk : ∀ q, q ∈ qs → F1 q ≠ none ∨ q = cs 8) : zNd cs F1 (l ++ qs) := by
  refine ⟨List.pairwise_append.mpr ⟨h.1, hp, fun x hx y hy e => ?_⟩, fun x hx => ?_⟩
  · rcases h.2 x hx with z | z
    · rw [e, hn y hy] at z; exact absurd rfl z
    · exact z
  · rcases List.mem_append.mp hx with z | z
    · rcases h.2 x z with y | y
      · left
        cases hF : F x with
        | none => exact absurd hF y
        | some e => rw [hl x e hF]; exact fun z => by cases z
      · exact Or.inr y
    · exact hk x z
theorem zNd.up {cs : Nat → ClassId} {F : zF} {l : List Nat} {a : Nat} {e : va_E} (h : zNd cs F l) : zNd cs (zup F a e) l := ⟨h.1, fun x hx => (h.2 x hx).imp_left (fun z => by
  by_cases c : x = a
  · rw [c, zup_s]; exact fun z => by cases z
  · cases hF : F x with
    | none => exact absurd hF z
    | some e2 => rw [zup_k c hF]; exact fun z => by cases z)⟩
theorem zpw1 {cs : Nat → ClassId} {x : Nat} : [x].Pairwise (fun x y => x = y → x = cs 8) := List.pairwise_singleton _ _
theorem zpw2 {cs : Nat → ClassId} {x y : Nat} (h : x = y → x = cs 8) : [x, y].Pairwise (fun x y => x = y → x = cs 8) := List.pairwise_cons.mpr ⟨fun z hz => by rw [List.mem_singleton.mp hz]; exact h, zpw1⟩
theorem zpw3 {cs : Nat → ClassId} {x y z : Nat} (h1 : x = y → x = cs 8) (h2 : x = z → x = cs 8) (h : y = z → y = cs 8) : [x, y, z].Pairwise (fun x y => x = y → x = cs 8) := List.pairwise_cons.mpr ⟨fun w hw => by
  rcases List.mem_cons.mp hw with e | e
  · rw [e]; exact h1
  · rw [List.mem_singleton.mp e]; exact h2, zpw2 h⟩
theorem zkn1 {cs : Nat → ClassId} {F : zF} {x : Nat} {O : List Nat} (h : F x ≠ none ∨ x = cs 8) (h1 : ∀ q, q ∈ O → F q ≠ none ∨ q = cs 8) : ∀ q, q ∈ x :: O → F q ≠ none ∨ q = cs 8 := fun q hq => (List.mem_cons.mp hq).elim (fun z => by rw [z]; exact h) (h1 q)
theorem zkn0 {cs : Nat → ClassId} {F : zF} : ∀ q, q ∈ ([] : List Nat) → F q ≠ none ∨ q = cs 8 := fun q hq => absurd hq List.not_mem_nil
theorem zsn {F : zF} {a : Nat} {e : va_E} (h : F a = some e) : F a ≠ none := by rw [h]; exact fun z => by cases z
theorem zup_nn {F : zF} {q x : Nat} {d : va_E} (h : zup F q d x = none) : F x = none ∧ q ≠ x := ⟨zup_none h, fun e => by rw [← e, zup_s] at h; cases h⟩
theorem zrm1 {ob : Nat} {F F1 : zF} (h : zle F F1) (hb : F ob ≠ none) : zle (zrm [ob] F) (zrm [ob] F1) := zrm_step (h.ko (O := [])) (fun o ho => absurd ho List.not_mem_nil) (fun q hq => Or.inl hq)
theorem zrm2 {ob : Nat} {F : zF} {e : va_E} : zle (zrm [ob] F) (zrm [ob] (zup F ob e)) := zrm_step ((zko.refl : zko [ob] F F).up List.mem_cons_self) (fun o ho => Or.inl ho) (fun q hq => Or.inl hq)
theorem zNd.dis {cs : Nat → ClassId} {F : zF} {ob : Nat} {l : List Nat} (h : zNd cs F (ob :: l)) (h8 : F (cs 8) = none) (hb : F ob ≠ none) (hl : l.length = 16) {g : Nat → Nat} (hg : g = fun i => l.getD i 0) : gDis cs g ob := by
  obtain ⟨h1, h2⟩ := List.pairwise_cons.mp h.1
  have hm : ∀ i, i < 16 → g i ∈ l := fun i hi => by
    rw [hg]
    show l.getD i 0 ∈ l
    rw [List.getD_eq_getElem?_getD, List.getElem?_eq_getElem (by omega)]
    exact List.getElem_mem _
  refine ⟨fun i j hi hj hij e => ?_, fun i hi e => ?_⟩
  · have key : ∀ a b : Nat, a < b → b < 16 → g a = g b → g a = cs 8 := fun a b hab hb2 e2 => by
      have h3 := List.pairwise_iff_getElem.mp h2 a b (by omega) (by omega) hab
      rw [hg] at e2 ⊢
      simp only [List.getD_eq_getElem?_getD, List.getElem?_eq_getElem (show a < l.length by omega), List.getElem?_eq_getElem (show b < l.length by omega), Option.getD_some] at e2 ⊢
      exact h3 e2
    rcases Nat.lt_or_gt_of_ne hij with z | z
    · exact key i j z hj e
    · rw [e]; exact key j i z hi e.symm
  · have h3 := h1 (g i) (hm i hi) e.symm
    rw [h3] at hb
    exact hb h8
set_option maxHeartbeats 4000000 in
set_option maxRecDepth 100000 in
theorem met_X8_init (l : Launch) (D : va_G) (cs : Nat → ClassId) (A : Nat → Prop) (F : zF) (a : Nat)  (h0 : F a = some (.inr (11, [.null, .null, .int (iI 0), .int (iI 0), .int (iI 0)]))) : zM l D cs A yX8_init cX8_init 1 (none : Option Jvm.ClassFile.FieldType) 1 2 1110 [.ref a] F (pV (fun F1 => ∃ sg en : Nat, F sg = none ∧ F en = none ∧ zko [a] F F1 ∧ rLs cs F1 a sg en 0 ([], []))) := by
  refine zM_of (own := RX8) (by decide) rfl (Nat.le_of_ble_eq_true rfl) ?_
  intro p e s m below meth c hC hr hlk hnm hZ ls hl
  have hx := hC.x
  have hb := hC.b
  have hl : lv_has ls 1 [(0, .ref a)] := hl
  refine lv_aload_n hx hb dX8_init_0 rfl (lv_at hl 0 rfl) ?_
  refine z_oinit (rest := []) hC hl qm_X8_3 ⟨Nat.le_of_ble_eq_true rfl, Nat.le_of_ble_eq_true rfl⟩ dX8_init_1 ?_
  refine lv_aload_n hx hb dX8_init_4 rfl (lv_at hl 0 rfl) ?_
  refine z_sipush hx hb dX8_init_5 (by decide) ?_
  refine z_newp (atype := .char) (ty := .char) (n := 750) 1 (hC := hC) (hZ := hZ) q_70 rfl rfl (fun h => va_nm_char h) rfl (by decide) (by decide) (Nat.le_of_ble_eq_true rfl) (Nat.le_of_ble_eq_true rfl) dX8_init_8 (fun q8 H hq8 hZ => ?_)
  have hf_1 : (zup F q8 (zA (cs 1) 750 (fun _ => 0))) a = some (.inr (11, [.null, .null, .int (iI 0), .int (iI 0), .int (iI 0)])) := zup_k (zF_ne h0 hq8.1) h0
  have hf_2 : (zup F q8 (zA (cs 1) 750 (fun _ => 0))) q8 = some (zA (cs 1) 750 (fun _ => 0)) := zup_s
  replace hZ : zS D A s (zup F q8 (zA (cs 1) 750 (fun _ => 0))) _ _ := hZ
  refine z_put (T := TX8) (N := 5) (ci := 11) (k := 0) (fs := [.null, .null, .int (iI 0), .int (iI 0), .int (iI 0)]) (v := .ref q8) hC hZ tyX8 tyX8_ok nmX8 in_X8 rfl (by decide) ql_X8_11 rfl (Or.inr ⟨rfl, hnm, rfl⟩) rfl hf_1 (by show 0 < 5; decide) rfl rfl dX8_init_10 (fun H locs hZ => ?_)
  have hf_3 : (zup (zup F q8 (zA (cs 1) 750 (fun _ => 0))) a (.inr (11, [.ref q8, .null, .int (iI 0), .int (iI 0), .int (iI 0)]))) q8 = some (zA (cs 1) 750 (fun _ => 0)) := zup_k (zne hf_2 hf_1 (fun q => by cases q)) hf_2
  have hf_4 : (zup (zup F q8 (zA (cs 1) 750 (fun _ => 0))) a (.inr (11, [.ref q8, .null, .int (iI 0), .int (iI 0), .int (iI 0)]))) a = some (.inr (11, [.ref q8, .null, .int (iI 0), .int (iI 0), .int (iI 0)])) := zup_s
  replace hZ : zS D A s (zup (zup F q8 (zA (cs 1) 750 (fun _ => 0))) a (.inr (11, [.ref q8, .null, .int (iI 0), .int (iI 0), .int (iI 0)]))) _ _ := hZ
  refine lv_aload_n hx hb dX8_init_13 rfl (lv_at hl 0 rfl) ?_
  refine z_sipush hx hb dX8_init_14 (by decide) ?_
  refine z_newp (atype := .int) (ty := .int) (n := 360) 2 (hC := hC) (hZ := hZ) q_128 rfl rfl (fun h => va_nm_int h) rfl (by decide) (by decide) (Nat.le_of_ble_eq_true rfl) (Nat.le_of_ble_eq_true rfl) dX8_init_17 (fun q17 H hq17 hZ => ?_)
  have hf_5 : (zup (zup (zup F q8 (zA (cs 1) 750 (fun _ => 0))) a (.inr (11, [.ref q8, .null, .int (iI 0), .int (iI 0), .int (iI 0)]))) q17 (zA (cs 2) 360 (fun _ => 0))) q8 = some (zA (cs 1) 750 (fun _ => 0)) := zup_k (zF_ne hf_3 hq17.1) hf_3
  have hf_6 : (zup (zup (zup F q8 (zA (cs 1) 750 (fun _ => 0))) a (.inr (11, [.ref q8, .null, .int (iI 0), .int (iI 0), .int (iI 0)]))) q17 (zA (cs 2) 360 (fun _ => 0))) a = some (.inr (11, [.ref q8, .null, .int (iI 0), .int (iI 0), .int (iI 0)])) := zup_k (zF_ne hf_4 hq17.1) hf_4
  have hf_7 : (zup (zup (zup F q8 (zA (cs 1) 750 (fun _ => 0))) a (.inr (11, [.ref q8, .null, .int (iI 0), .int (iI 0), .int (iI 0)]))) q17 (zA (cs 2) 360 (fun _ => 0))) q17 = some (zA (cs 2) 360 (fun _ => 0)) := zup_s
  replace hZ : zS D A s (zup (zup (zup F q8 (zA (cs 1) 750 (fun _ => 0))) a (.inr (11, [.ref q8, .null, .int (iI 0), .int (iI 0), .int (iI 0)]))) q17 (zA (cs 2) 360 (fun _ => 0))) _ _ := hZ
  refine z_put (T := TX8) (N := 5) (ci := 11) (k := 1) (fs := [.ref q8, .null, .int (iI 0), .int (iI 0), .int (iI 0)]) (v := .ref q17) hC hZ tyX8 tyX8_ok nmX8 in_X8 rfl (by decide) ql_X8_15 rfl (Or.inr ⟨rfl, hnm, rfl⟩) rfl hf_6 (by show 1 < 5; decide) rfl rfl dX8_init_19 (fun H locs hZ => ?_)
  have hf_8 : (zup (zup (zup (zup F q8 (zA (cs 1) 750 (fun _ => 0))) a (.inr (11, [.ref q8, .null, .int (iI 0), .int (iI 0), .int (iI 0)]))) q17 (zA (cs 2) 360 (fun _ => 0))) a (.inr (11, [.ref q8, .ref q17, .int (iI 0), .int (iI 0), .int (iI 0)]))) q8 = some (zA (cs 1) 750 (fun _ => 0)) := zup_k (zne hf_5 hf_6 (fun q => by cases q)) hf_5
  have hf_9 : (zup (zup (zup (zup F q8 (zA (cs 1) 750 (fun _ => 0))) a (.inr (11, [.ref q8, .null, .int (iI 0), .int (iI 0), .int (iI 0)]))) q17 (zA (cs 2) 360 (fun _ => 0))) a (.inr (11, [.ref q8, .ref q17, .int (iI 0), .int (iI 0), .int (iI 0)]))) q17 = some (zA (cs 2) 360 (fun _ => 0)) := zup_k (zne hf_7 hf_6 (fun q => by cases q)) hf_7
  have hf_10 : (zup (zup (zup (zup F q8 (zA (cs 1) 750 (fun _ => 0))) a (.inr (11, [.ref q8, .null, .int (iI 0), .int (iI 0), .int (iI 0)]))) q17 (zA (cs 2) 360 (fun _ => 0))) a (.inr (11, [.ref q8, .ref q17, .int (iI 0), .int (iI 0), .int (iI 0)]))) a = some (.inr (11, [.ref q8, .ref q17, .int (iI 0), .int (iI 0), .int (iI 0)])) := zup_s
  replace hZ : zS D A s (zup (zup (zup (zup F q8 (zA (cs 1) 750 (fun _ => 0))) a (.inr (11, [.ref q8, .null, .int (iI 0), .int (iI 0), .int (iI 0)]))) q17 (zA (cs 2) 360 (fun _ => 0))) a (.inr (11, [.ref q8, .ref q17, .int (iI 0), .int (iI 0), .int (iI 0)]))) _ _ := hZ
  refine lv_aload_n hx hb dX8_init_22 rfl (lv_at hl 0 rfl) ?_
  refine z_iconst hx hb dX8_init_23 ?_
  refine z_put (T := TX8) (N := 5) (ci := 11) (k := 2) (fs := [.ref q8, .ref q17, .int (iI 0), .int (iI 0), .int (iI 0)]) (v := .int (iI 0)) hC hZ tyX8 tyX8_ok nmX8 in_X8 rfl (by decide) ql_X8_19 rfl (Or.inl rfl) rfl hf_10 (by show 2 < 5; decide) rfl rfl dX8_init_24 (fun H locs hZ => ?_)
  rw [zup_up] at hZ
  have hf_11 : (zup (zup (zup (zup F q8 (zA (cs 1) 750 (fun _ => 0))) a (.inr (11, [.ref q8, .null, .int (iI 0), .int (iI 0), .int (iI 0)]))) q17 (zA (cs 2) 360 (fun _ => 0))) a (.inr (11, [.ref q8, .ref q17, .int (iI 0), .int (iI 0), .int (iI 0)]))) q8 = some (zA (cs 1) 750 (fun _ => 0)) := zup_k (zne hf_5 hf_6 (fun q => by cases q)) hf_5
  have hf_12 : (zup (zup (zup (zup F q8 (zA (cs 1) 750 (fun _ => 0))) a (.inr (11, [.ref q8, .null, .int (iI 0), .int (iI 0), .int (iI 0)]))) q17 (zA (cs 2) 360 (fun _ => 0))) a (.inr (11, [.ref q8, .ref q17, .int (iI 0), .int (iI 0), .int (iI 0)]))) q17 = some (zA (cs 2) 360 (fun _ => 0)) := zup_k (zne hf_7 hf_6 (fun q => by cases q)) hf_7
  have hf_13 : (zup (zup (zup (zup F q8 (zA (cs 1) 750 (fun _ => 0))) a (.inr (11, [.ref q8, .null, .int (iI 0), .int (iI 0), .int (iI 0)]))) q17 (zA (cs 2) 360 (fun _ => 0))) a (.inr (11, [.ref q8, .ref q17, .int (iI 0), .int (iI 0), .int (iI 0)]))) a = some (.inr (11, [.ref q8, .ref q17, .int (iI 0), .int (iI 0), .int (iI 0)])) := zup_s
  replace hZ : zS D A s (zup (zup (zup (zup F q8 (zA (cs 1) 750 (fun _ => 0))) a (.inr (11, [.ref q8, .null, .int (iI 0), .int (iI 0), .int (iI 0)]))) q17 (zA (cs 2) 360 (fun _ => 0))) a (.inr (11, [.ref q8, .ref q17, .int (iI 0), .int (iI 0), .int (iI 0)]))) _ _ := hZ
  refine lv_aload_n hx hb dX8_init_27 rfl (lv_at hl 0 rfl) ?_
  refine z_iconst hx hb dX8_init_28 ?_
  refine z_put (T := TX8) (N := 5) (ci := 11) (k := 3) (fs := [.ref q8, .ref q17, .int (iI 0), .int (iI 0), .int (iI 0)]) (v := .int (iI 0)) hC hZ tyX8 tyX8_ok nmX8 in_X8 rfl (by decide) ql_X8_23 rfl (Or.inl rfl) rfl hf_13 (by show 3 < 5; decide) rfl rfl dX8_init_29 (fun H locs hZ => ?_)
  rw [zup_up] at hZ
  have hf_14 : (zup (zup (zup (zup F q8 (zA (cs 1) 750 (fun _ => 0))) a (.inr (11, [.ref q8, .null, .int (iI 0), .int (iI 0), .int (iI 0)]))) q17 (zA (cs 2) 360 (fun _ => 0))) a (.inr (11, [.ref q8, .ref q17, .int (iI 0), .int (iI 0), .int (iI 0)]))) q8 = some (zA (cs 1) 750 (fun _ => 0)) := zup_k (zne hf_5 hf_6 (fun q => by cases q)) hf_5
  have hf_15 : (zup (zup (zup (zup F q8 (zA (cs 1) 750 (fun _ => 0))) a (.inr (11, [.ref q8, .null, .int (iI 0), .int (iI 0), .int (iI 0)]))) q17 (zA (cs 2) 360 (fun _ => 0))) a (.inr (11, [.ref q8, .ref q17, .int (iI 0), .int (iI 0), .int (iI 0)]))) q17 = some (zA (cs 2) 360 (fun _ => 0)) := zup_k (zne hf_7 hf_6 (fun q => by cases q)) hf_7
  have hf_16 : (zup (zup (zup (zup F q8 (zA (cs 1) 750 (fun _ => 0))) a (.inr (11, [.ref q8, .null, .int (iI 0), .int (iI 0), .int (iI 0)]))) q17 (zA (cs 2) 360 (fun _ => 0))) a (.inr (11, [.ref q8, .ref q17, .int (iI 0), .int (iI 0), .int (iI 0)]))) a = some (.inr (11, [.ref q8, .ref q17, .int (iI 0), .int (iI 0), .int (iI 0)])) := zup_s
  replace hZ : zS D A s (zup (zup (zup (zup F q8 (zA (cs 1) 750 (fun _ => 0))) a (.inr (11, [.ref q8, .null, .int (iI 0), .int (iI 0), .int (iI 0)]))) q17 (zA (cs 2) 360 (fun _ => 0))) a (.inr (11, [.ref q8, .ref q17, .int (iI 0), .int (iI 0), .int (iI 0)]))) _ _ := hZ
  refine lv_aload_n hx hb dX8_init_32 rfl (lv_at hl 0 rfl) ?_
  refine z_iconst hx hb dX8_init_33 ?_
  refine z_put (T := TX8) (N := 5) (ci := 11) (k := 4) (fs := [.ref q8, .ref q17, .int (iI 0), .int (iI 0), .int (iI 0)]) (v := .int (iI 0)) hC hZ tyX8 tyX8_ok nmX8 in_X8 rfl (by decide) ql_X8_26 rfl (Or.inl rfl) rfl hf_16 (by show 4 < 5; decide) rfl rfl dX8_init_34 (fun H locs hZ => ?_)
  rw [zup_up] at hZ
  have hf_17 : (zup (zup (zup (zup F q8 (zA (cs 1) 750 (fun _ => 0))) a (.inr (11, [.ref q8, .null, .int (iI 0), .int (iI 0), .int (iI 0)]))) q17 (zA (cs 2) 360 (fun _ => 0))) a (.inr (11, [.ref q8, .ref q17, .int (iI 0), .int (iI 0), .int (iI 0)]))) q8 = some (zA (cs 1) 750 (fun _ => 0)) := zup_k (zne hf_5 hf_6 (fun q => by cases q)) hf_5
  have hf_18 : (zup (zup (zup (zup F q8 (zA (cs 1) 750 (fun _ => 0))) a (.inr (11, [.ref q8, .null, .int (iI 0), .int (iI 0), .int (iI 0)]))) q17 (zA (cs 2) 360 (fun _ => 0))) a (.inr (11, [.ref q8, .ref q17, .int (iI 0), .int (iI 0), .int (iI 0)]))) q17 = some (zA (cs 2) 360 (fun _ => 0)) := zup_k (zne hf_7 hf_6 (fun q => by cases q)) hf_7
  have hf_19 : (zup (zup (zup (zup F q8 (zA (cs 1) 750 (fun _ => 0))) a (.inr (11, [.ref q8, .null, .int (iI 0), .int (iI 0), .int (iI 0)]))) q17 (zA (cs 2) 360 (fun _ => 0))) a (.inr (11, [.ref q8, .ref q17, .int (iI 0), .int (iI 0), .int (iI 0)]))) a = some (.inr (11, [.ref q8, .ref q17, .int (iI 0), .int (iI 0), .int (iI 0)])) := zup_s
  replace hZ : zS D A s (zup (zup (zup (zup F q8 (zA (cs 1) 750 (fun _ => 0))) a (.inr (11, [.ref q8, .null, .int (iI 0), .int (iI 0), .int (iI 0)]))) q17 (zA (cs 2) 360 (fun _ => 0))) a (.inr (11, [.ref q8, .ref q17, .int (iI 0), .int (iI 0), .int (iI 0)]))) _ _ := hZ
  exact z_vret hC hr hlk hZ (by decide) (by decide) (⟨q8, q17, hq8.1, zup_none (zup_none hq17.1), (((((zko.refl : zko [a] F F).new hq8.1).up (by simp)).new hq17.1).up (by simp)), fun _ => 0, fun _ => 0, hf_19, hf_17, hf_18, (fun k k0 k1 => absurd k1 (by show ¬ k < ((0 : Nat) : Int); omega)), (fun k k0 k1 => absurd k1 (by show ¬ k < ((0 : Nat) : Int); omega)), ⟨by decide, by decide⟩, fun k k0 k1 => absurd k1 (by show ¬ k < ((0 : Nat) : Int); omega)⟩) dX8_init_37

set_option maxHeartbeats 4000000 in
set_option maxRecDepth 100000 in
theorem met_X12_init (l : Launch) (D : va_G) (cs : Nat → ClassId) (A : Nat → Prop) (F : zF) (ob : Nat)  (h0 : F ob = some (.inr (15, [.null, .null, .null, .null, .null, .null, .null, .null, .null, .int (iI 0), .int (iI 0)]))) : zM l D cs A yX12_init cX12_init 1 (none : Option Jvm.ClassFile.FieldType) 5 20 1340 [.ref ob] F (pV (fun F1 => ∃ (g1 : Nat → Nat) (sa1 : Nat), zko [ob] F F1 ∧ gOb cs F1 ob g1 sa1 none [] [] [] [] cNew none [] (-1) (-1))) := by
  refine zM_of (own := RX12) (by decide) rfl (Nat.le_of_ble_eq_true rfl) ?_
  intro p e s m below meth c hC hr hlk hnm hZ ls hl
  have hx := hC.x
  have hb := hC.b
  have hl : lv_has ls 1 [(0, .ref ob)] := hl
  have h8 := z_c8 hC hZ
  have hnd0 : zNd cs F [ob] := ⟨zpw1, fun x hx => by rw [List.mem_singleton.mp hx]; exact Or.inl (zsn h0)⟩
  refine lv_aload_n hx hb dX12_init_0 rfl (lv_at hl 0 rfl) ?_
  refine z_oinit (rest := []) hC hl qm_X12_1 ⟨Nat.le_of_ble_eq_true rfl, Nat.le_of_ble_eq_true rfl⟩ dX12_init_1 ?_
  refine lv_aload_n hx hb dX12_init_4 rfl (lv_at hl 0 rfl) ?_
  refine z_new (T := TX2) (N := 2) (ci := 6) hC hZ tyX2 tyX2_ok in_X2 rfl qk_X12_7 qx_X2 qn_X2 [.null, .int (iI 0)] df_X2 (Nat.le_of_ble_eq_true rfl) (Nat.le_of_ble_eq_true rfl) dX12_init_5 (fun q5 H hq5 hZ => ?_)
  have hf_1 : (zup F q5 (.inr (6, [.null, .int (iI 0)]))) ob = some (.inr (15, [.null, .null, .null, .null, .null, .null, .null, .null, .null, .int (iI 0), .int (iI 0)])) := zup_k (zF_ne h0 hq5.1) h0
  have hf_2 : (zup F q5 (.inr (6, [.null, .int (iI 0)]))) q5 = some (.inr (6, [.null, .int (iI 0)])) := zup_s
  replace hZ : zS D A s (zup F q5 (.inr (6, [.null, .int (iI 0)]))) _ _ := hZ
  refine lv_dup hx hb dX12_init_8 rfl ?_
  refine z_bipush hx hb dX12_init_9 (by decide) ?_
  refine z_callv (z_runI (rest := [.ref q5, .ref ob]) (As := [.int (iI 60)]) (n := 1) hC hZ (met_X2_init l D cs A (zup F q5 (.inr (6, [.null, .int (iI 0)]))) q5 hf_2) qc_X2_init qn_X2 qm_X12_11 qi_X2_init rfl he_X2_init rfl hl rfl (Nat.le_of_ble_eq_true rfl) ⟨Nat.le_of_ble_eq_true rfl, Nat.le_of_ble_eq_true rfl⟩ ⟨Nat.le_of_ble_eq_true rfl, Nat.le_of_ble_eq_true rfl⟩ dX12_init_11) hZ (fun F11 H locs hp11_c_3 hZ => ?_)
  obtain ⟨sg11, hs11, hk11, hv11b⟩ := hp11_c_3
  have hlw11 : zle (F) F11 := zle_new hq5.1 hk11
  have hw8 := h8
  have h011 : F11 ob = some (.inr (15, [.null, .null, .null, .null, .null, .null, .null, .null, .null, .int (iI 0), .int (iI 0)])) := hlw11 _ _ h0
  have hf11_0 := hq5.1
  have hf11_1 := (zup_nn hs11).1
  have hy11_0 := hv11b.kn.1
  have hy11_1 := hv11b.kn.2
  obtain ⟨_, hv11, -⟩ := id hv11b
  have hnd11 := (hnd0).ext hlw11 (qs := [q5, sg11]) (znn1 hf11_0 (znn1 hf11_1 znn0)) (zpw2 (fun z => absurd z (zup_nn hs11).2)) (zkn1 (Or.inl hy11_0) (zkn1 (Or.inl hy11_1) zkn0))
  have hb11_0 : q5 ∉ [ob] := fun z => by rw [List.mem_singleton.mp z, h0] at hf11_0; cases hf11_0
  have hb11_1 : sg11 ∉ [ob] := fun z => by rw [List.mem_singleton.mp z, h0] at hf11_1; cases hf11_1
  have hrm11 : zle (zrm [ob] (F)) (zrm [ob] F11) := zrm1 hlw11 (zsn h0)
  have cb1_11 := (hv11b).keep (zrm_ko (M := [ob]) (F := F11)) hb11_0 hb11_1
  have hko11 : zko [ob] F F11 := ((zko.refl : zko [ob] F F)).trans hlw11.ko
  refine z_put (T := TX12) (N := 11) (ci := 15) (k := 0) (fs := [.null, .null, .null, .null, .null, .null, .null, .null, .null, .int (iI 0), .int (iI 0)]) (v := .ref q5) hC hZ tyX12 tyX12_ok nmX12 in_X12 rfl (by decide) ql_X12_14 rfl (Or.inr ⟨rfl, hnm, rfl⟩) rfl h011 (by show 0 < 11; decide) rfl rfl dX12_init_14 (fun H locs hZ => ?_)
  have hf_4 : (zup F11 ob (.inr (15, [.ref q5, .null, .null, .null, .null, .null, .null, .null, .null, .int (iI 0), .int (iI 0)]))) ob = some (.inr (15, [.ref q5, .null, .null, .null, .null, .null, .null, .null, .null, .int (iI 0), .int (iI 0)])) := zup_s
  replace hZ : zS D A s (zup F11 ob (.inr (15, [.ref q5, .null, .null, .null, .null, .null, .null, .null, .null, .int (iI 0), .int (iI 0)]))) _ _ := hZ
  have hnd14 : zNd cs (zup F11 ob (.inr (15, [.ref q5, .null, .null, .null, .null, .null, .null, .null, .null, .int (iI 0), .int (iI 0)]))) _ := (hnd11).up
  have hrm14 : zle (zrm [ob] F11) (zrm [ob] (zup F11 ob (.inr (15, [.ref q5, .null, .null, .null, .null, .null, .null, .null, .null, .int (iI 0), .int (iI 0)])))) := zrm2
  have hko14 : zko [ob] F (zup F11 ob (.inr (15, [.ref q5, .null, .null, .null, .null, .null, .null, .null, .null, .int (iI 0), .int (iI 0)]))) := (hko11).up List.mem_cons_self
  have h814 := z_c8 hC hZ
  have cb1_14 := (cb1_11).mono hrm14
  refine lv_aload_n hx hb dX12_init_17 rfl (lv_at hl 0 rfl) ?_
  refine z_new (T := TX2) (N := 2) (ci := 6) hC hZ tyX2 tyX2_ok in_X2 rfl qk_X12_7 qx_X2 qn_X2 [.null, .int (iI 0)] df_X2 (Nat.le_of_ble_eq_true rfl) (Nat.le_of_ble_eq_true rfl) dX12_init_18 (fun q18 H hq18 hZ => ?_)
  have hf_5 : (zup (zup F11 ob (.inr (15, [.ref q5, .null, .null, .null, .null, .null, .null, .null, .null, .int (iI 0), .int (iI 0)]))) q18 (.inr (6, [.null, .int (iI 0)]))) ob = some (.inr (15, [.ref q5, .null, .null, .null, .null, .null, .null, .null, .null, .int (iI 0), .int (iI 0)])) := zup_k (zF_ne hf_4 hq18.1) hf_4
  have hf_6 : (zup (zup F11 ob (.inr (15, [.ref q5, .null, .null, .null, .null, .null, .null, .null, .null, .int (iI 0), .int (iI 0)]))) q18 (.inr (6, [.null, .int (iI 0)]))) q18 = some (.inr (6, [.null, .int (iI 0)])) := zup_s
  replace hZ : zS D A s (zup (zup F11 ob (.inr (15, [.ref q5, .null, .null, .null, .null, .null, .null, .null, .null, .int (iI 0), .int (iI 0)]))) q18 (.inr (6, [.null, .int (iI 0)]))) _ _ := hZ
  refine lv_dup hx hb dX12_init_21 rfl ?_
  refine z_bipush hx hb dX12_init_22 (by decide) ?_
  refine z_callv (z_runI (rest := [.ref q18, .ref ob]) (As := [.int (iI 60)]) (n := 1) hC hZ (met_X2_init l D cs A (zup (zup F11 ob (.inr (15, [.ref q5, .null, .null, .null, .null, .null, .null, .null, .null, .int (iI 0), .int (iI 0)]))) q18 (.inr (6, [.null, .int (iI 0)]))) q18 hf_6) qc_X2_init qn_X2 qm_X12_11 qi_X2_init rfl he_X2_init rfl hl rfl (Nat.le_of_ble_eq_true rfl) ⟨Nat.le_of_ble_eq_true rfl, Nat.le_of_ble_eq_true rfl⟩ ⟨Nat.le_of_ble_eq_true rfl, Nat.le_of_ble_eq_true rfl⟩ dX12_init_24) hZ (fun F24 H locs hp24_c_7 hZ => ?_)
  obtain ⟨sg24, hs24, hk24, hv24b⟩ := hp24_c_7
  have hlw24 : zle (zup F11 ob (.inr (15, [.ref q5, .null, .null, .null, .null, .null, .null, .null, .null, .int (iI 0), .int (iI 0)]))) F24 := zle_new hq18.1 hk24
  have hw8 := h814
  have h024 : F24 ob = some (.inr (15, [.ref q5, .null, .null, .null, .null, .null, .null, .null, .null, .int (iI 0), .int (iI 0)])) := hlw24 _ _ hf_4
  have hf24_0 := hq18.1
  have hf24_1 := (zup_nn hs24).1
  have hy24_0 := hv24b.kn.1
  have hy24_1 := hv24b.kn.2
  obtain ⟨_, hv24, -⟩ := id hv24b
  have hnd24 := (hnd14).ext hlw24 (qs := [q18, sg24]) (znn1 hf24_0 (znn1 hf24_1 znn0)) (zpw2 (fun z => absurd z (zup_nn hs24).2)) (zkn1 (Or.inl hy24_0) (zkn1 (Or.inl hy24_1) zkn0))
  have hb24_0 : q18 ∉ [ob] := fun z => by rw [List.mem_singleton.mp z, hf_4] at hf24_0; cases hf24_0
  have hb24_1 : sg24 ∉ [ob] := fun z => by rw [List.mem_singleton.mp z, hf_4] at hf24_1; cases hf24_1
  have hrm24 : zle (zrm [ob] (zup F11 ob (.inr (15, [.ref q5, .null, .null, .null, .null, .null, .null, .null, .null, .int (iI 0), .int (iI 0)])))) (zrm [ob] F24) := zrm1 hlw24 (zsn hf_4)
  have cb1_24 := (cb1_14).mono hrm24
  have cb2_24 := (hv24b).keep (zrm_ko (M := [ob]) (F := F24)) hb24_0 hb24_1
  have hko24 : zko [ob] F F24 := (hko14).trans hlw24.ko
  refine z_put (T := TX12) (N := 11) (ci := 15) (k := 1) (fs := [.ref q5, .null, .null, .null, .null, .null, .null, .null, .null, .int (iI 0), .int (iI 0)]) (v := .ref q18) hC hZ tyX12 tyX12_ok nmX12 in_X12 rfl (by decide) ql_X12_18 rfl (Or.inr ⟨rfl, hnm, rfl⟩) rfl h024 (by show 1 < 11; decide) rfl rfl dX12_init_27 (fun H locs hZ => ?_)
  have hf_8 : (zup F24 ob (.inr (15, [.ref q5, .ref q18, .null, .null, .null, .null, .null, .null, .null, .int (iI 0), .int (iI 0)]))) ob = some (.inr (15, [.ref q5, .ref q18, .null, .null, .null, .null, .null, .null, .null, .int (iI 0), .int (iI 0)])) := zup_s
  replace hZ : zS D A s (zup F24 ob (.inr (15, [.ref q5, .ref q18, .null, .null, .null, .null, .null, .null, .null, .int (iI 0), .int (iI 0)]))) _ _ := hZ
  have hnd27 : zNd cs (zup F24 ob (.inr (15, [.ref q5, .ref q18, .null, .null, .null, .null, .null, .null, .null, .int (iI 0), .int (iI 0)]))) _ := (hnd24).up
  have hrm27 : zle (zrm [ob] F24) (zrm [ob] (zup F24 ob (.inr (15, [.ref q5, .ref q18, .null, .null, .null, .null, .null, .null, .null, .int (iI 0), .int (iI 0)])))) := zrm2
  have hko27 : zko [ob] F (zup F24 ob (.inr (15, [.ref q5, .ref q18, .null, .null, .null, .null, .null, .null, .null, .int (iI 0), .int (iI 0)]))) := (hko24).up List.mem_cons_self
  have h827 := z_c8 hC hZ
  have cb1_27 := (cb1_24).mono hrm27
  have cb2_27 := (cb2_24).mono hrm27
  refine lv_aload_n hx hb dX12_init_30 rfl (lv_at hl 0 rfl) ?_
  refine z_new (T := TJ4) (N := 4) (ci := 1) hC hZ tyJ4 tyJ4_ok in_J4 rfl qk_X12_21 qx_J4 qn_J4 [.null, .int (iI 0), .int (iI 0), .int (iI 0)] df_J4 (Nat.le_of_ble_eq_true rfl) (Nat.le_of_ble_eq_true rfl) dX12_init_31 (fun q31 H hq31 hZ => ?_)
  have hf_9 : (zup (zup F24 ob (.inr (15, [.ref q5, .ref q18, .null, .null, .null, .null, .null, .null, .null, .int (iI 0), .int (iI 0)]))) q31 (.inr (1, [.null, .int (iI 0), .int (iI 0), .int (iI 0)]))) ob = some (.inr (15, [.ref q5, .ref q18, .null, .null, .null, .null, .null, .null, .null, .int (iI 0), .int (iI 0)])) := zup_k (zF_ne hf_8 hq31.1) hf_8
  have hf_10 : (zup (zup F24 ob (.inr (15, [.ref q5, .ref q18, .null, .null, .null, .null, .null, .null, .null, .int (iI 0), .int (iI 0)]))) q31 (.inr (1, [.null, .int (iI 0), .int (iI 0), .int (iI 0)]))) q31 = some (.inr (1, [.null, .int (iI 0), .int (iI 0), .int (iI 0)])) := zup_s
  replace hZ : zS D A s (zup (zup F24 ob (.inr (15, [.ref q5, .ref q18, .null, .null, .null, .null, .null, .null, .null, .int (iI 0), .int (iI 0)]))) q31 (.inr (1, [.null, .int (iI 0), .int (iI 0), .int (iI 0)]))) _ _ := hZ
  refine lv_dup hx hb dX12_init_34 rfl ?_
  refine z_callv (z_runI (rest := [.ref q31, .ref ob]) (As := []) (n := 0) hC hZ (met_J4_init_da8c8 l D cs A (zup (zup F24 ob (.inr (15, [.ref q5, .ref q18, .null, .null, .null, .null, .null, .null, .null, .int (iI 0), .int (iI 0)]))) q31 (.inr (1, [.null, .int (iI 0), .int (iI 0), .int (iI 0)]))) q31 hf_10) qc_J4_init_da8c8 qn_J4 qm_X12_23 qi_J4_init_da8c8 rfl he_J4_init_da8c8 rfl hl rfl (Nat.le_of_ble_eq_true rfl) ⟨Nat.le_of_ble_eq_true rfl, Nat.le_of_ble_eq_true rfl⟩ ⟨Nat.le_of_ble_eq_true rfl, Nat.le_of_ble_eq_true rfl⟩ dX12_init_35) hZ (fun F35 H locs hp35_c_11 hZ => ?_)
  obtain ⟨va35, hs35, hk35, hv35b⟩ := hp35_c_11
  have hlw35 : zle (zup F24 ob (.inr (15, [.ref q5, .ref q18, .null, .null, .null, .null, .null, .null, .null, .int (iI 0), .int (iI 0)]))) F35 := zle_new hq31.1 hk35
  have hw8 := h827
  have h035 : F35 ob = some (.inr (15, [.ref q5, .ref q18, .null, .null, .null, .null, .null, .null, .null, .int (iI 0), .int (iI 0)])) := hlw35 _ _ hf_8
  have hf35_0 := hq31.1
  have hf35_1 := (zup_nn hs35).1
  have hy35_0 := hv35b.kn.1
  have hy35_1 := hv35b.kn.2
  obtain ⟨_, _, hv35, -⟩ := id hv35b
  have hnd35 := (hnd27).ext hlw35 (qs := [q31, va35]) (znn1 hf35_0 (znn1 hf35_1 znn0)) (zpw2 (fun z => absurd z (zup_nn hs35).2)) (zkn1 (Or.inl hy35_0) (zkn1 (Or.inl hy35_1) zkn0))
  have hb35_0 : q31 ∉ [ob] := fun z => by rw [List.mem_singleton.mp z, hf_8] at hf35_0; cases hf35_0
  have hb35_1 : va35 ∉ [ob] := fun z => by rw [List.mem_singleton.mp z, hf_8] at hf35_1; cases hf35_1
  have hrm35 : zle (zrm [ob] (zup F24 ob (.inr (15, [.ref q5, .ref q18, .null, .null, .null, .null, .null, .null, .null, .int (iI 0), .int (iI 0)])))) (zrm [ob] F35) := zrm1 hlw35 (zsn hf_8)
  have cb1_35 := (cb1_27).mono hrm35
  have cb2_35 := (cb2_27).mono hrm35
  have csb_35 := (hv35b).keep (zrm_ko (M := [ob]) (F := F35)) hb35_0 hb35_1
  have hko35 : zko [ob] F F35 := (hko27).trans hlw35.ko
  refine z_put (T := TX12) (N := 11) (ci := 15) (k := 2) (fs := [.ref q5, .ref q18, .null, .null, .null, .null, .null, .null, .null, .int (iI 0), .int (iI 0)]) (v := .ref q31) hC hZ tyX12 tyX12_ok nmX12 in_X12 rfl (by decide) ql_X12_24 rfl (Or.inr ⟨rfl, hnm, rfl⟩) rfl h035 (by show 2 < 11; decide) rfl rfl dX12_init_38 (fun H locs hZ => ?_)
  have hf_12 : (zup F35 ob (.inr (15, [.ref q5, .ref q18, .ref q31, .null, .null, .null, .null, .null, .null, .int (iI 0), .int (iI 0)]))) ob = some (.inr (15, [.ref q5, .ref q18, .ref q31, .null, .null, .null, .null, .null, .null, .int (iI 0), .int (iI 0)])) := zup_s
  replace hZ : zS D A s (zup F35 ob (.inr (15, [.ref q5, .ref q18, .ref q31, .null, .null, .null, .null, .null, .null, .int (iI 0), .int (iI 0)]))) _ _ := hZ
  have hnd38 : zNd cs (zup F35 ob (.inr (15, [.ref q5, .ref q18, .ref q31, .null, .null, .null, .null, .null, .null, .int (iI 0), .int (iI 0)]))) _ := (hnd35).up
  have hrm38 : zle (zrm [ob] F35) (zrm [ob] (zup F35 ob (.inr (15, [.ref q5, .ref q18, .ref q31, .null, .null, .null, .null, .null, .null, .int (iI 0), .int (iI 0)])))) := zrm2
  have hko38 : zko [ob] F (zup F35 ob (.inr (15, [.ref q5, .ref q18, .ref q31, .null, .null, .null, .null, .null, .null, .int (iI 0), .int (iI 0)]))) := (hko35).up List.mem_cons_self
  have h838 := z_c8 hC hZ
  have cb1_38 := (cb1_35).mono hrm38
  have cb2_38 := (cb2_35).mono hrm38
  have csb_38 := (csb_35).keep ((hrm38).ko (O := [])) zni0 zni0
  refine lv_aload_n hx hb dX12_init_41 rfl (lv_at hl 0 rfl) ?_
  refine z_new (T := TX8) (N := 5) (ci := 11) hC hZ tyX8 tyX8_ok in_X8 rfl qk_X12_28 qx_X8 qn_X8 [.null, .null, .int (iI 0), .int (iI 0), .int (iI 0)] df_X8 (Nat.le_of_ble_eq_true rfl) (Nat.le_of_ble_eq_true rfl) dX12_init_42 (fun q42 H hq42 hZ => ?_)
  have hf_13 : (zup (zup F35 ob (.inr (15, [.ref q5, .ref q18, .ref q31, .null, .null, .null, .null, .null, .null, .int (iI 0), .int (iI 0)]))) q42 (.inr (11, [.null, .null, .int (iI 0), .int (iI 0), .int (iI 0)]))) ob = some (.inr (15, [.ref q5, .ref q18, .ref q31, .null, .null, .null, .null, .null, .null, .int (iI 0), .int (iI 0)])) := zup_k (zF_ne hf_12 hq42.1) hf_12
  have hf_14 : (zup (zup F35 ob (.inr (15, [.ref q5, .ref q18, .ref q31, .null, .null, .null, .null, .null, .null, .int (iI 0), .int (iI 0)]))) q42 (.inr (11, [.null, .null, .int (iI 0), .int (iI 0), .int (iI 0)]))) q42 = some (.inr (11, [.null, .null, .int (iI 0), .int (iI 0), .int (iI 0)])) := zup_s
  replace hZ : zS D A s (zup (zup F35 ob (.inr (15, [.ref q5, .ref q18, .ref q31, .null, .null, .null, .null, .null, .null, .int (iI 0), .int (iI 0)]))) q42 (.inr (11, [.null, .null, .int (iI 0), .int (iI 0), .int (iI 0)]))) _ _ := hZ
  refine lv_dup hx hb dX12_init_45 rfl ?_
  refine z_callv (z_runIN (rest := [.ref q42, .ref ob]) (As := []) (n := 0) hC hZ (met_X8_init l D cs A (zup (zup F35 ob (.inr (15, [.ref q5, .ref q18, .ref q31, .null, .null, .null, .null, .null, .null, .int (iI 0), .int (iI 0)]))) q42 (.inr (11, [.null, .null, .int (iI 0), .int (iI 0), .int (iI 0)]))) q42 hf_14) qc_X8_init qn_X8 qm_X12_30 qi_X8_init rfl (by decide +kernel) rfl hl rfl (Nat.le_of_ble_eq_true rfl) ⟨Nat.le_of_ble_eq_true rfl, Nat.le_of_ble_eq_true rfl⟩ ⟨Nat.le_of_ble_eq_true rfl, Nat.le_of_ble_eq_true rfl⟩ dX12_init_46) hZ (fun F46 H locs hp46_c_15 hZ => ?_)
  obtain ⟨sg46, en46, hs46, he46, hk46, hv46b⟩ := hp46_c_15
  have hlw46 : zle (zup F35 ob (.inr (15, [.ref q5, .ref q18, .ref q31, .null, .null, .null, .null, .null, .null, .int (iI 0), .int (iI 0)]))) F46 := zle_new hq42.1 hk46
  have hw8 := h838
  have h046 : F46 ob = some (.inr (15, [.ref q5, .ref q18, .ref q31, .null, .null, .null, .null, .null, .null, .int (iI 0), .int (iI 0)])) := hlw46 _ _ hf_12
  have hf46_0 := hq42.1
  have hf46_1 := (zup_nn hs46).1
  have hf46_2 := (zup_nn he46).1
  have hy46_0 := hv46b.kn.1
  have hy46_1 := hv46b.kn.2.1
  have hy46_2 := hv46b.kn.2.2
  obtain ⟨_, _, hv46, hv46s, hv46e, -⟩ := id hv46b
  have hnd46 := (hnd38).ext hlw46 (qs := [q42, sg46, en46]) (znn1 hf46_0 (znn1 hf46_1 (znn1 hf46_2 znn0))) (zpw3 (fun z => absurd z (zup_nn hs46).2) (fun z => absurd z (zup_nn he46).2) (fun z => absurd z (zneL hv46s hv46e (by decide)))) (zkn1 (Or.inl hy46_0) (zkn1 (Or.inl hy46_1) (zkn1 (Or.inl hy46_2) zkn0)))
  have hb46_0 : q42 ∉ [ob] := fun z => by rw [List.mem_singleton.mp z, hf_12] at hf46_0; cases hf46_0
  have hb46_1 : sg46 ∉ [ob] := fun z => by rw [List.mem_singleton.mp z, hf_12] at hf46_1; cases hf46_1
  have hb46_2 : en46 ∉ [ob] := fun z => by rw [List.mem_singleton.mp z, hf_12] at hf46_2; cases hf46_2
  have hrm46 : zle (zrm [ob] (zup F35 ob (.inr (15, [.ref q5, .ref q18, .ref q31, .null, .null, .null, .null, .null, .null, .int (iI 0), .int (iI 0)])))) (zrm [ob] F46) := zrm1 hlw46 (zsn hf_12)
  have cb1_46 := (cb1_38).mono hrm46
  have cb2_46 := (cb2_38).mono hrm46
  have csb_46 := (csb_38).keep ((hrm46).ko (O := [])) zni0 zni0
  have cls_46 := (hv46b).keep (zrm_ko (M := [ob]) (F := F46)) hb46_0 hb46_1 hb46_2
  have hko46 : zko [ob] F F46 := (hko38).trans hlw46.ko
  refine z_put (T := TX12) (N := 11) (ci := 15) (k := 3) (fs := [.ref q5, .ref q18, .ref q31, .null, .null, .null, .null, .null, .null, .int (iI 0), .int (iI 0)]) (v := .ref q42) hC hZ tyX12 tyX12_ok nmX12 in_X12 rfl (by decide) ql_X12_31 rfl (Or.inr ⟨rfl, hnm, rfl⟩) rfl h046 (by show 3 < 11; decide) rfl rfl dX12_init_49 (fun H locs hZ => ?_)
  have hf_16 : (zup F46 ob (.inr (15, [.ref q5, .ref q18, .ref q31, .ref q42, .null, .null, .null, .null, .null, .int (iI 0), .int (iI 0)]))) ob = some (.inr (15, [.ref q5, .ref q18, .ref q31, .ref q42, .null, .null, .null, .null, .null, .int (iI 0), .int (iI 0)])) := zup_s
  replace hZ : zS D A s (zup F46 ob (.inr (15, [.ref q5, .ref q18, .ref q31, .ref q42, .null, .null, .null, .null, .null, .int (iI 0), .int (iI 0)]))) _ _ := hZ
  have hnd49 : zNd cs (zup F46 ob (.inr (15, [.ref q5, .ref q18, .ref q31, .ref q42, .null, .null, .null, .null, .null, .int (iI 0), .int (iI 0)]))) _ := (hnd46).up
  have hrm49 : zle (zrm [ob] F46) (zrm [ob] (zup F46 ob (.inr (15, [.ref q5, .ref q18, .ref q31, .ref q42, .null, .null, .null, .null, .null, .int (iI 0), .int (iI 0)])))) := zrm2
  have hko49 : zko [ob] F (zup F46 ob (.inr (15, [.ref q5, .ref q18, .ref q31, .ref q42, .null, .null, .null, .null, .null, .int (iI 0), .int (iI 0)]))) := (hko46).up List.mem_cons_self
  have h849 := z_c8 hC hZ
  have cb1_49 := (cb1_46).mono hrm49
  have cb2_49 := (cb2_46).mono hrm49
  have csb_49 := (csb_46).keep ((hrm49).ko (O := [])) zni0 zni0
  have cls_49 := (cls_46).keep ((hrm49).ko (O := [])) zni0 zni0 zni0
  refine lv_aload_n hx hb dX12_init_52 rfl (lv_at hl 0 rfl) ?_
  refine z_new (T := TX5) (N := 1) (ci := 9) hC hZ tyX5 tyX5_ok in_X5 rfl qk_X12_35 qx_X5 qn_X5 [.null] df_X5 (Nat.le_of_ble_eq_true rfl) (Nat.le_of_ble_eq_true rfl) dX12_init_53 (fun q53 H hq53 hZ => ?_)
  have hf_17 : (zup (zup F46 ob (.inr (15, [.ref q5, .ref q18, .ref q31, .ref q42, .null, .null, .null, .null, .null, .int (iI 0), .int (iI 0)]))) q53 (.inr (9, [.null]))) ob = some (.inr (15, [.ref q5, .ref q18, .ref q31, .ref q42, .null, .null, .null, .null, .null, .int (iI 0), .int (iI 0)])) := zup_k (zF_ne hf_16 hq53.1) hf_16
  have hf_18 : (zup (zup F46 ob (.inr (15, [.ref q5, .ref q18, .ref q31, .ref q42, .null, .null, .null, .null, .null, .int (iI 0), .int (iI 0)]))) q53 (.inr (9, [.null]))) q53 = some (.inr (9, [.null])) := zup_s
  replace hZ : zS D A s (zup (zup F46 ob (.inr (15, [.ref q5, .ref q18, .ref q31, .ref q42, .null, .null, .null, .null, .null, .int (iI 0), .int (iI 0)]))) q53 (.inr (9, [.null]))) _ _ := hZ
  refine lv_dup hx hb dX12_init_56 rfl ?_
  refine z_callv (z_runIN (rest := [.ref q53, .ref ob]) (As := []) (n := 0) hC hZ (met_X5_init l D cs A (zup (zup F46 ob (.inr (15, [.ref q5, .ref q18, .ref q31, .ref q42, .null, .null, .null, .null, .null, .int (iI 0), .int (iI 0)]))) q53 (.inr (9, [.null]))) q53 hf_18) qc_X5_init qn_X5 qm_X12_37 qi_X5_init rfl (by decide +kernel) rfl hl rfl (Nat.le_of_ble_eq_true rfl) ⟨Nat.le_of_ble_eq_true rfl, Nat.le_of_ble_eq_true rfl⟩ ⟨Nat.le_of_ble_eq_true rfl, Nat.le_of_ble_eq_true rfl⟩ dX12_init_57) hZ (fun F57 H locs hp57_c_19 hZ => ?_)
  obtain ⟨la57, hs57, hk57, hv57, hv57l⟩ := hp57_c_19
  have hlw57 : zle (zup F46 ob (.inr (15, [.ref q5, .ref q18, .ref q31, .ref q42, .null, .null, .null, .null, .null, .int (iI 0), .int (iI 0)]))) F57 := zle_new hq53.1 hk57
  have hw8 := h849
  have h057 : F57 ob = some (.inr (15, [.ref q5, .ref q18, .ref q31, .ref q42, .null, .null, .null, .null, .null, .int (iI 0), .int (iI 0)])) := hlw57 _ _ hf_16
  have hf57_0 := hq53.1
  have hf57_1 := (zup_nn hs57).1
  have hy57_0 := zsn hv57
  have hy57_1 := zsn hv57l
  have hnd57 := (hnd49).ext hlw57 (qs := [q53, la57]) (znn1 hf57_0 (znn1 hf57_1 znn0)) (zpw2 (fun z => absurd z (zup_nn hs57).2)) (zkn1 (Or.inl hy57_0) (zkn1 (Or.inl hy57_1) zkn0))
  have hb57_0 : q53 ∉ [ob] := fun z => by rw [List.mem_singleton.mp z, hf_16] at hf57_0; cases hf57_0
  have hb57_1 : la57 ∉ [ob] := fun z => by rw [List.mem_singleton.mp z, hf_16] at hf57_1; cases hf57_1
  have hrm57 : zle (zrm [ob] (zup F46 ob (.inr (15, [.ref q5, .ref q18, .ref q31, .ref q42, .null, .null, .null, .null, .null, .int (iI 0), .int (iI 0)])))) (zrm [ob] F57) := zrm1 hlw57 (zsn hf_16)
  have cb1_57 := (cb1_49).mono hrm57
  have cb2_57 := (cb2_49).mono hrm57
  have csb_57 := (csb_49).keep ((hrm57).ko (O := [])) zni0 zni0
  have cls_57 := (cls_49).keep ((hrm57).ko (O := [])) zni0 zni0 zni0
  have ce1_57 := zrm_ko (M := [ob]) (F := F57) _ _ hv57 hb57_0
  have ce2_57 := zrm_ko (M := [ob]) (F := F57) _ _ hv57l hb57_1
  have hko57 : zko [ob] F F57 := (hko49).trans hlw57.ko
  refine z_put (T := TX12) (N := 11) (ci := 15) (k := 4) (fs := [.ref q5, .ref q18, .ref q31, .ref q42, .null, .null, .null, .null, .null, .int (iI 0), .int (iI 0)]) (v := .ref q53) hC hZ tyX12 tyX12_ok nmX12 in_X12 rfl (by decide) ql_X12_38 rfl (Or.inr ⟨rfl, hnm, rfl⟩) rfl h057 (by show 4 < 11; decide) rfl rfl dX12_init_60 (fun H locs hZ => ?_)
  have hf_20 : (zup F57 ob (.inr (15, [.ref q5, .ref q18, .ref q31, .ref q42, .ref q53, .null, .null, .null, .null, .int (iI 0), .int (iI 0)]))) ob = some (.inr (15, [.ref q5, .ref q18, .ref q31, .ref q42, .ref q53, .null, .null, .null, .null, .int (iI 0), .int (iI 0)])) := zup_s
  replace hZ : zS D A s (zup F57 ob (.inr (15, [.ref q5, .ref q18, .ref q31, .ref q42, .ref q53, .null, .null, .null, .null, .int (iI 0), .int (iI 0)]))) _ _ := hZ
  have hnd60 : zNd cs (zup F57 ob (.inr (15, [.ref q5, .ref q18, .ref q31, .ref q42, .ref q53, .null, .null, .null, .null, .int (iI 0), .int (iI 0)]))) _ := (hnd57).up
  have hrm60 : zle (zrm [ob] F57) (zrm [ob] (zup F57 ob (.inr (15, [.ref q5, .ref q18, .ref q31, .ref q42, .ref q53, .null, .null, .null, .null, .int (iI 0), .int (iI 0)])))) := zrm2
  have hko60 : zko [ob] F (zup F57 ob (.inr (15, [.ref q5, .ref q18, .ref q31, .ref q42, .ref q53, .null, .null, .null, .null, .int (iI 0), .int (iI 0)]))) := (hko57).up List.mem_cons_self
  have h860 := z_c8 hC hZ
  have cb1_60 := (cb1_57).mono hrm60
  have cb2_60 := (cb2_57).mono hrm60
  have csb_60 := (csb_57).keep ((hrm60).ko (O := [])) zni0 zni0
  have cls_60 := (cls_57).keep ((hrm60).ko (O := [])) zni0 zni0 zni0
  have ce1_60 := hrm60 _ _ ce1_57
  have ce2_60 := hrm60 _ _ ce2_57
  refine lv_aload_n hx hb dX12_init_63 rfl (lv_at hl 0 rfl) ?_
  refine z_new (T := TX4) (N := 2) (ci := 8) hC hZ tyX4 tyX4_ok in_X4 rfl qk_X12_42 qx_X4 qn_X4 [.null, .int (iI 0)] df_X4 (Nat.le_of_ble_eq_true rfl) (Nat.le_of_ble_eq_true rfl) dX12_init_64 (fun q64 H hq64 hZ => ?_)
  have hf_21 : (zup (zup F57 ob (.inr (15, [.ref q5, .ref q18, .ref q31, .ref q42, .ref q53, .null, .null, .null, .null, .int (iI 0), .int (iI 0)]))) q64 (.inr (8, [.null, .int (iI 0)]))) ob = some (.inr (15, [.ref q5, .ref q18, .ref q31, .ref q42, .ref q53, .null, .null, .null, .null, .int (iI 0), .int (iI 0)])) := zup_k (zF_ne hf_20 hq64.1) hf_20
  have hf_22 : (zup (zup F57 ob (.inr (15, [.ref q5, .ref q18, .ref q31, .ref q42, .ref q53, .null, .null, .null, .null, .int (iI 0), .int (iI 0)]))) q64 (.inr (8, [.null, .int (iI 0)]))) q64 = some (.inr (8, [.null, .int (iI 0)])) := zup_s
  replace hZ : zS D A s (zup (zup F57 ob (.inr (15, [.ref q5, .ref q18, .ref q31, .ref q42, .ref q53, .null, .null, .null, .null, .int (iI 0), .int (iI 0)]))) q64 (.inr (8, [.null, .int (iI 0)]))) _ _ := hZ
  refine lv_dup hx hb dX12_init_67 rfl ?_
  refine z_callv (z_runIN (rest := [.ref q64, .ref ob]) (As := []) (n := 0) hC hZ (met_X4_init l D cs A (zup (zup F57 ob (.inr (15, [.ref q5, .ref q18, .ref q31, .ref q42, .ref q53, .null, .null, .null, .null, .int (iI 0), .int (iI 0)]))) q64 (.inr (8, [.null, .int (iI 0)]))) q64 hf_22) qc_X4_init qn_X4 qm_X12_44 qi_X4_init rfl (by decide +kernel) rfl hl rfl (Nat.le_of_ble_eq_true rfl) ⟨Nat.le_of_ble_eq_true rfl, Nat.le_of_ble_eq_true rfl⟩ ⟨Nat.le_of_ble_eq_true rfl, Nat.le_of_ble_eq_true rfl⟩ dX12_init_68) hZ (fun F68 H locs hp68_c_23 hZ => ?_)
  obtain ⟨cl68, hs68, hk68, hv68, hv68l⟩ := hp68_c_23
  have hlw68 : zle (zup F57 ob (.inr (15, [.ref q5, .ref q18, .ref q31, .ref q42, .ref q53, .null, .null, .null, .null, .int (iI 0), .int (iI 0)]))) F68 := zle_new hq64.1 hk68
  have hw8 := h860
  have h068 : F68 ob = some (.inr (15, [.ref q5, .ref q18, .ref q31, .ref q42, .ref q53, .null, .null, .null, .null, .int (iI 0), .int (iI 0)])) := hlw68 _ _ hf_20
  have hf68_0 := hq64.1
  have hf68_1 := (zup_nn hs68).1
  have hy68_0 := zsn hv68
  have hy68_1 := hv68l.kn.1
  have hx868 : F68 (cs 8) = none := z_c8 hC hZ
  have hnd68 := (hnd60).ext hlw68 (qs := [q64, cl68, (cs 8)]) (znn1 hf68_0 (znn1 hf68_1 (znn1 hw8 znn0))) (zpw3 (fun z => absurd z (zup_nn hs68).2) id id) (zkn1 (Or.inl hy68_0) (zkn1 (Or.inl hy68_1) (zkn1 (Or.inr rfl) zkn0)))
  have hb68_0 : q64 ∉ [ob] := fun z => by rw [List.mem_singleton.mp z, hf_20] at hf68_0; cases hf68_0
  have hb68_1 : cl68 ∉ [ob] := fun z => by rw [List.mem_singleton.mp z, hf_20] at hf68_1; cases hf68_1
  have hrm68 : zle (zrm [ob] (zup F57 ob (.inr (15, [.ref q5, .ref q18, .ref q31, .ref q42, .ref q53, .null, .null, .null, .null, .int (iI 0), .int (iI 0)])))) (zrm [ob] F68) := zrm1 hlw68 (zsn hf_20)
  have cb1_68 := (cb1_60).mono hrm68
  have cb2_68 := (cb2_60).mono hrm68
  have csb_68 := (csb_60).keep ((hrm68).ko (O := [])) zni0 zni0
  have cls_68 := (cls_60).keep ((hrm68).ko (O := [])) zni0 zni0 zni0
  have ce1_68 := hrm68 _ _ ce1_60
  have ce2_68 := hrm68 _ _ ce2_60
  have cr1_68 := zrm_ko (M := [ob]) (F := F68) _ _ hv68 hb68_0
  have cr2_68 := (hv68l).keepC (zrm_ko (M := [ob]) (F := F68)) hb68_1 (fun f hf => by rw [hx868] at hf; cases hf)
  have hko68 : zko [ob] F F68 := (hko60).trans hlw68.ko
  refine z_put (T := TX12) (N := 11) (ci := 15) (k := 5) (fs := [.ref q5, .ref q18, .ref q31, .ref q42, .ref q53, .null, .null, .null, .null, .int (iI 0), .int (iI 0)]) (v := .ref q64) hC hZ tyX12 tyX12_ok nmX12 in_X12 rfl (by decide) ql_X12_45 rfl (Or.inr ⟨rfl, hnm, rfl⟩) rfl h068 (by show 5 < 11; decide) rfl rfl dX12_init_71 (fun H locs hZ => ?_)
  have hf_24 : (zup F68 ob (.inr (15, [.ref q5, .ref q18, .ref q31, .ref q42, .ref q53, .ref q64, .null, .null, .null, .int (iI 0), .int (iI 0)]))) ob = some (.inr (15, [.ref q5, .ref q18, .ref q31, .ref q42, .ref q53, .ref q64, .null, .null, .null, .int (iI 0), .int (iI 0)])) := zup_s
  replace hZ : zS D A s (zup F68 ob (.inr (15, [.ref q5, .ref q18, .ref q31, .ref q42, .ref q53, .ref q64, .null, .null, .null, .int (iI 0), .int (iI 0)]))) _ _ := hZ
  have hnd71 : zNd cs (zup F68 ob (.inr (15, [.ref q5, .ref q18, .ref q31, .ref q42, .ref q53, .ref q64, .null, .null, .null, .int (iI 0), .int (iI 0)]))) _ := (hnd68).up
  have hrm71 : zle (zrm [ob] F68) (zrm [ob] (zup F68 ob (.inr (15, [.ref q5, .ref q18, .ref q31, .ref q42, .ref q53, .ref q64, .null, .null, .null, .int (iI 0), .int (iI 0)])))) := zrm2
  have hko71 : zko [ob] F (zup F68 ob (.inr (15, [.ref q5, .ref q18, .ref q31, .ref q42, .ref q53, .ref q64, .null, .null, .null, .int (iI 0), .int (iI 0)]))) := (hko68).up List.mem_cons_self
  have h871 := z_c8 hC hZ
  have cb1_71 := (cb1_68).mono hrm71
  have cb2_71 := (cb2_68).mono hrm71
  have csb_71 := (csb_68).keep ((hrm71).ko (O := [])) zni0 zni0
  have cls_71 := (cls_68).keep ((hrm71).ko (O := [])) zni0 zni0 zni0
  have ce1_71 := hrm71 _ _ ce1_68
  have ce2_71 := hrm71 _ _ ce2_68
  have cr1_71 := hrm71 _ _ cr1_68
  have cr2_71 := (cr2_68).mono hrm71
  refine lv_aload_n hx hb dX12_init_74 rfl (lv_at hl 0 rfl) ?_
  refine z_new (T := TJx4a65c) (N := 3) (ci := 4) hC hZ tyJx4a65c tyJx4a65c_ok in_Jx4a65c rfl qk_X12_49 qx_Jx4a65c qn_Jx4a65c [.int (iI 0), .null, .int (iI 0)] df_Jx4a65c (Nat.le_of_ble_eq_true rfl) (Nat.le_of_ble_eq_true rfl) dX12_init_75 (fun q75 H hq75 hZ => ?_)
  have hf_25 : (zup (zup F68 ob (.inr (15, [.ref q5, .ref q18, .ref q31, .ref q42, .ref q53, .ref q64, .null, .null, .null, .int (iI 0), .int (iI 0)]))) q75 (.inr (4, [.int (iI 0), .null, .int (iI 0)]))) ob = some (.inr (15, [.ref q5, .ref q18, .ref q31, .ref q42, .ref q53, .ref q64, .null, .null, .null, .int (iI 0), .int (iI 0)])) := zup_k (zF_ne hf_24 hq75.1) hf_24
  have hf_26 : (zup (zup F68 ob (.inr (15, [.ref q5, .ref q18, .ref q31, .ref q42, .ref q53, .ref q64, .null, .null, .null, .int (iI 0), .int (iI 0)]))) q75 (.inr (4, [.int (iI 0), .null, .int (iI 0)]))) q75 = some (.inr (4, [.int (iI 0), .null, .int (iI 0)])) := zup_s
  replace hZ : zS D A s (zup (zup F68 ob (.inr (15, [.ref q5, .ref q18, .ref q31, .ref q42, .ref q53, .ref q64, .null, .null, .null, .int (iI 0), .int (iI 0)]))) q75 (.inr (4, [.int (iI 0), .null, .int (iI 0)]))) _ _ := hZ
  refine lv_dup hx hb dX12_init_78 rfl ?_
  refine z_callv (z_runI (rest := [.ref q75, .ref ob]) (As := []) (n := 0) hC hZ (met_Jx4a65c_init_da8c8 l D cs A (zup (zup F68 ob (.inr (15, [.ref q5, .ref q18, .ref q31, .ref q42, .ref q53, .ref q64, .null, .null, .null, .int (iI 0), .int (iI 0)]))) q75 (.inr (4, [.int (iI 0), .null, .int (iI 0)]))) q75 hf_26) qc_Jx4a65c_init_da8c8 qn_Jx4a65c qm_X12_51 qi_Jx4a65c_init_da8c8 rfl he_Jx4a65c_init_da8c8 rfl hl rfl (Nat.le_of_ble_eq_true rfl) ⟨Nat.le_of_ble_eq_true rfl, Nat.le_of_ble_eq_true rfl⟩ ⟨Nat.le_of_ble_eq_true rfl, Nat.le_of_ble_eq_true rfl⟩ dX12_init_79) hZ (fun F79 H locs hp79_c_27 hZ => ?_)
  have hp79b : zko [q75] (zup (zup F68 ob (.inr (15, [.ref q5, .ref q18, .ref q31, .ref q42, .ref q53, .ref q64, .null, .null, .null, .int (iI 0), .int (iI 0)]))) q75 (.inr (4, [.int (iI 0), .null, .int (iI 0)]))) F79 ∧ oLx cs F79 q75 (cs 8) [] := by
    rw [hp79_c_27]
    exact ⟨(zko.refl).up List.mem_cons_self, _, zup_s, Or.inl ⟨rfl, rfl⟩⟩
  clear hp79_c_27
  obtain ⟨hk79, hv79b⟩ := hp79b
  have hlw79 : zle (zup F68 ob (.inr (15, [.ref q5, .ref q18, .ref q31, .ref q42, .ref q53, .ref q64, .null, .null, .null, .int (iI 0), .int (iI 0)]))) F79 := zle_new hq75.1 hk79
  have hw8 := h871
  have h079 : F79 ob = some (.inr (15, [.ref q5, .ref q18, .ref q31, .ref q42, .ref q53, .ref q64, .null, .null, .null, .int (iI 0), .int (iI 0)])) := hlw79 _ _ hf_24
  have hf79_0 := hq75.1
  have hy79_0 := hv79b.kn.1
  have hx879 : F79 (cs 8) = none := z_c8 hC hZ
  obtain ⟨_, hv79⟩ := hv79b.o
  have hnd79 := (hnd71).ext hlw79 (qs := [q75, (cs 8)]) (znn1 hf79_0 (znn1 hw8 znn0)) (zpw2 id) (zkn1 (Or.inl hy79_0) (zkn1 (Or.inr rfl) zkn0))
  have hb79_0 : q75 ∉ [ob] := fun z => by rw [List.mem_singleton.mp z, hf_24] at hf79_0; cases hf79_0
  have hrm79 : zle (zrm [ob] (zup F68 ob (.inr (15, [.ref q5, .ref q18, .ref q31, .ref q42, .ref q53, .ref q64, .null, .null, .null, .int (iI 0), .int (iI 0)])))) (zrm [ob] F79) := zrm1 hlw79 (zsn hf_24)
  have cb1_79 := (cb1_71).mono hrm79
  have cb2_79 := (cb2_71).mono hrm79
  have csb_79 := (csb_71).keep ((hrm79).ko (O := [])) zni0 zni0
  have cls_79 := (cls_71).keep ((hrm79).ko (O := [])) zni0 zni0 zni0
  have ce1_79 := hrm79 _ _ ce1_71
  have ce2_79 := hrm79 _ _ ce2_71
  have cr1_79 := hrm79 _ _ cr1_71
  have cr2_79 := (cr2_71).mono hrm79
  have chs_79 := (hv79b).keepC (zrm_ko (M := [ob]) (F := F79)) hb79_0 (fun f hf => by rw [hx879] at hf; cases hf)
  have hko79 : zko [ob] F F79 := (hko71).trans hlw79.ko
  refine z_put (T := TX12) (N := 11) (ci := 15) (k := 6) (fs := [.ref q5, .ref q18, .ref q31, .ref q42, .ref q53, .ref q64, .null, .null, .null, .int (iI 0), .int (iI 0)]) (v := .ref q75) hC hZ tyX12 tyX12_ok nmX12 in_X12 rfl (by decide) ql_X12_52 rfl (Or.inr ⟨rfl, hnm, rfl⟩) rfl h079 (by show 6 < 11; decide) rfl rfl dX12_init_82 (fun H locs hZ => ?_)
  have hf_28 : (zup F79 ob (.inr (15, [.ref q5, .ref q18, .ref q31, .ref q42, .ref q53, .ref q64, .ref q75, .null, .null, .int (iI 0), .int (iI 0)]))) ob = some (.inr (15, [.ref q5, .ref q18, .ref q31, .ref q42, .ref q53, .ref q64, .ref q75, .null, .null, .int (iI 0), .int (iI 0)])) := zup_s
  replace hZ : zS D A s (zup F79 ob (.inr (15, [.ref q5, .ref q18, .ref q31, .ref q42, .ref q53, .ref q64, .ref q75, .null, .null, .int (iI 0), .int (iI 0)]))) _ _ := hZ
  have hnd82 : zNd cs (zup F79 ob (.inr (15, [.ref q5, .ref q18, .ref q31, .ref q42, .ref q53, .ref q64, .ref q75, .null, .null, .int (iI 0), .int (iI 0)]))) _ := (hnd79).up
  have hrm82 : zle (zrm [ob] F79) (zrm [ob] (zup F79 ob (.inr (15, [.ref q5, .ref q18, .ref q31, .ref q42, .ref q53, .ref q64, .ref q75, .null, .null, .int (iI 0), .int (iI 0)])))) := zrm2
  have hko82 : zko [ob] F (zup F79 ob (.inr (15, [.ref q5, .ref q18, .ref q31, .ref q42, .ref q53, .ref q64, .ref q75, .null, .null, .int (iI 0), .int (iI 0)]))) := (hko79).up List.mem_cons_self
  have h882 := z_c8 hC hZ
  have cb1_82 := (cb1_79).mono hrm82
  have cb2_82 := (cb2_79).mono hrm82
  have csb_82 := (csb_79).keep ((hrm82).ko (O := [])) zni0 zni0
  have cls_82 := (cls_79).keep ((hrm82).ko (O := [])) zni0 zni0 zni0
  have ce1_82 := hrm82 _ _ ce1_79
  have ce2_82 := hrm82 _ _ ce2_79
  have cr1_82 := hrm82 _ _ cr1_79
  have cr2_82 := (cr2_79).mono hrm82
  have chs_82 := (chs_79).mono hrm82
  refine lv_aload_n hx hb dX12_init_85 rfl (lv_at hl 0 rfl) ?_
  refine z_new (T := TX10) (N := 9) (ci := 13) hC hZ tyX10 tyX10_ok in_X10 rfl qk_X12_56 qx_X10 qn_X10 [.null, .null, .int (iI 0), .int (iI 0), .int (iI 0), .int (iI 0), .int (iI 0), .int (iI 0), .int (iI 0)] df_X10 (Nat.le_of_ble_eq_true rfl) (Nat.le_of_ble_eq_true rfl) dX12_init_86 (fun q86 H hq86 hZ => ?_)
  have hf_29 : (zup (zup F79 ob (.inr (15, [.ref q5, .ref q18, .ref q31, .ref q42, .ref q53, .ref q64, .ref q75, .null, .null, .int (iI 0), .int (iI 0)]))) q86 (.inr (13, [.null, .null, .int (iI 0), .int (iI 0), .int (iI 0), .int (iI 0), .int (iI 0), .int (iI 0), .int (iI 0)]))) ob = some (.inr (15, [.ref q5, .ref q18, .ref q31, .ref q42, .ref q53, .ref q64, .ref q75, .null, .null, .int (iI 0), .int (iI 0)])) := zup_k (zF_ne hf_28 hq86.1) hf_28
  have hf_30 : (zup (zup F79 ob (.inr (15, [.ref q5, .ref q18, .ref q31, .ref q42, .ref q53, .ref q64, .ref q75, .null, .null, .int (iI 0), .int (iI 0)]))) q86 (.inr (13, [.null, .null, .int (iI 0), .int (iI 0), .int (iI 0), .int (iI 0), .int (iI 0), .int (iI 0), .int (iI 0)]))) q86 = some (.inr (13, [.null, .null, .int (iI 0), .int (iI 0), .int (iI 0), .int (iI 0), .int (iI 0), .int (iI 0), .int (iI 0)])) := zup_s
  replace hZ : zS D A s (zup (zup F79 ob (.inr (15, [.ref q5, .ref q18, .ref q31, .ref q42, .ref q53, .ref q64, .ref q75, .null, .null, .int (iI 0), .int (iI 0)]))) q86 (.inr (13, [.null, .null, .int (iI 0), .int (iI 0), .int (iI 0), .int (iI 0), .int (iI 0), .int (iI 0), .int (iI 0)]))) _ _ := hZ
  refine lv_dup hx hb dX12_init_89 rfl ?_
  refine z_callv (z_runIN (rest := [.ref q86, .ref ob]) (As := []) (n := 0) hC hZ (met_X10_init l D cs A (zup (zup F79 ob (.inr (15, [.ref q5, .ref q18, .ref q31, .ref q42, .ref q53, .ref q64, .ref q75, .null, .null, .int (iI 0), .int (iI 0)]))) q86 (.inr (13, [.null, .null, .int (iI 0), .int (iI 0), .int (iI 0), .int (iI 0), .int (iI 0), .int (iI 0), .int (iI 0)]))) q86 hf_30) qc_X10_init qn_X10 qm_X12_58 qi_X10_init rfl he_X10_init rfl hl rfl (Nat.le_of_ble_eq_true rfl) ⟨Nat.le_of_ble_eq_true rfl, Nat.le_of_ble_eq_true rfl⟩ ⟨Nat.le_of_ble_eq_true rfl, Nat.le_of_ble_eq_true rfl⟩ dX12_init_90) hZ (fun F90 H locs hp90_c_31 hZ => ?_)
  obtain ⟨la90, li90, hk90, hsl90, hsi90, hv90b⟩ := hp90_c_31
  have hlw90 : zle (zup F79 ob (.inr (15, [.ref q5, .ref q18, .ref q31, .ref q42, .ref q53, .ref q64, .ref q75, .null, .null, .int (iI 0), .int (iI 0)]))) F90 := zle_new hq86.1 hk90
  have hw8 := h882
  have h090 : F90 ob = some (.inr (15, [.ref q5, .ref q18, .ref q31, .ref q42, .ref q53, .ref q64, .ref q75, .null, .null, .int (iI 0), .int (iI 0)])) := hlw90 _ _ hf_28
  obtain ⟨aL90, iL90, hv90, hv90l, hv90i, hv90a, hv90s, -⟩ := id hv90b
  have hx890 : F90 (cs 8) = none := z_c8 hC hZ
  have hnd90 := (hnd82).ext hlw90 (qs := []) znn0 List.Pairwise.nil zkn0
  have hrm90 : zle (zrm [ob] (zup F79 ob (.inr (15, [.ref q5, .ref q18, .ref q31, .ref q42, .ref q53, .ref q64, .ref q75, .null, .null, .int (iI 0), .int (iI 0)])))) (zrm [ob] F90) := zrm1 hlw90 (zsn hf_28)
  have cb1_90 := (cb1_82).mono hrm90
  have cb2_90 := (cb2_82).mono hrm90
  have csb_90 := (csb_82).keep ((hrm90).ko (O := [])) zni0 zni0
  have cls_90 := (cls_82).keep ((hrm90).ko (O := [])) zni0 zni0 zni0
  have ce1_90 := hrm90 _ _ ce1_82
  have ce2_90 := hrm90 _ _ ce2_82
  have cr1_90 := hrm90 _ _ cr1_82
  have cr2_90 := (cr2_82).mono hrm90
  have chs_90 := (chs_82).mono hrm90
  have hko90 : zko [ob] F F90 := (hko82).trans hlw90.ko
  have hnm : ∀ x : Nat, (zup F79 ob (.inr (15, [.ref q5, .ref q18, .ref q31, .ref q42, .ref q53, .ref q64, .ref q75, .null, .null, .int (iI 0), .int (iI 0)]))) x = none → F90 x ≠ none → x ∉ gMl (fun i : Nat => [q5, sg11, q18, sg24, q31, va35, q42, sg46, en46, q53, la57, q64, cl68, (cs 8), q75, (cs 8)].getD i 0) ob := fun x hx hx1 c => by
    have h1 : x ∈ [ob, q5, sg11, q18, sg24, q31, va35, q42, sg46, en46, q53, la57, q64, cl68, (cs 8), q75, (cs 8)] := by
      rcases gMl_c c with e | ⟨i, hi, e⟩
      · rw [e]; exact List.mem_cons_self
      · refine List.mem_cons_of_mem _ ?_
        rw [← e]
        show [q5, sg11, q18, sg24, q31, va35, q42, sg46, en46, q53, la57, q64, cl68, (cs 8), q75, (cs 8)].getD i 0 ∈ _
        rw [List.getD_eq_getElem?_getD, List.getElem?_eq_getElem (show i < [q5, sg11, q18, sg24, q31, va35, q42, sg46, en46, q53, la57, q64, cl68, (cs 8), q75, (cs 8)].length from hi)]
        exact List.getElem_mem _
    rcases (hnd82).2 x h1 with z | z
    · exact z hx
    · rw [z] at hx1; exact hx1 hx890
  have hsa90 : rSt cs (zrm (gMl (fun i : Nat => [q5, sg11, q18, sg24, q31, va35, q42, sg46, en46, q53, la57, q64, cl68, (cs 8), q75, (cs 8)].getD i 0) ob) F90) q86 cNew := ⟨la90, li90, aL90, iL90, zrm_ko _ _ hv90 (hnm _ hq86.1 (zsn hv90)), ⟨cs 8, (hv90l).keepC zrm_ko (hnm _ (zup_nn hsl90).1 hv90l.kn.1) (fun f hf => by rw [hx890] at hf; cases hf)⟩, ⟨cs 8, (hv90i).keepC zrm_ko (hnm _ (zup_nn hsi90).1 hv90i.kn.1) (fun f hf => by rw [hx890] at hf; cases hf)⟩, ⟨hv90a.1, fun k k0 k1 => absurd k1 (by show ¬ k < ((0 : Nat) : Int); omega)⟩, ⟨hv90s.1, fun k k0 k1 => absurd k1 (by show ¬ k < ((0 : Nat) : Int); omega)⟩⟩
  refine z_put (T := TX12) (N := 11) (ci := 15) (k := 7) (fs := [.ref q5, .ref q18, .ref q31, .ref q42, .ref q53, .ref q64, .ref q75, .null, .null, .int (iI 0), .int (iI 0)]) (v := .ref q86) hC hZ tyX12 tyX12_ok nmX12 in_X12 rfl (by decide) ql_X12_59 rfl (Or.inl rfl) rfl h090 (by show 7 < 11; decide) rfl rfl dX12_init_93 (fun H locs hZ => ?_)
  have hf_32 : (zup F90 ob (.inr (15, [.ref q5, .ref q18, .ref q31, .ref q42, .ref q53, .ref q64, .ref q75, .ref q86, .null, .int (iI 0), .int (iI 0)]))) ob = some (.inr (15, [.ref q5, .ref q18, .ref q31, .ref q42, .ref q53, .ref q64, .ref q75, .ref q86, .null, .int (iI 0), .int (iI 0)])) := zup_s
  replace hZ : zS D A s (zup F90 ob (.inr (15, [.ref q5, .ref q18, .ref q31, .ref q42, .ref q53, .ref q64, .ref q75, .ref q86, .null, .int (iI 0), .int (iI 0)]))) _ _ := hZ
  have hnd93 : zNd cs (zup F90 ob (.inr (15, [.ref q5, .ref q18, .ref q31, .ref q42, .ref q53, .ref q64, .ref q75, .ref q86, .null, .int (iI 0), .int (iI 0)]))) _ := (hnd90).up
  have hrm93 : zle (zrm [ob] F90) (zrm [ob] (zup F90 ob (.inr (15, [.ref q5, .ref q18, .ref q31, .ref q42, .ref q53, .ref q64, .ref q75, .ref q86, .null, .int (iI 0), .int (iI 0)])))) := zrm2
  have hko93 : zko [ob] F (zup F90 ob (.inr (15, [.ref q5, .ref q18, .ref q31, .ref q42, .ref q53, .ref q64, .ref q75, .ref q86, .null, .int (iI 0), .int (iI 0)]))) := (hko90).up List.mem_cons_self
  have h893 := z_c8 hC hZ
  have cb1_93 := (cb1_90).mono hrm93
  have cb2_93 := (cb2_90).mono hrm93
  have csb_93 := (csb_90).keep ((hrm93).ko (O := [])) zni0 zni0
  have cls_93 := (cls_90).keep ((hrm93).ko (O := [])) zni0 zni0 zni0
  have ce1_93 := hrm93 _ _ ce1_90
  have ce2_93 := hrm93 _ _ ce2_90
  have cr1_93 := hrm93 _ _ cr1_90
  have cr2_93 := (cr2_90).mono hrm93
  have chs_93 := (chs_90).mono hrm93
  have hsa93 : rSt cs (zrm (gMl (fun i : Nat => [q5, sg11, q18, sg24, q31, va35, q42, sg46, en46, q53, la57, q64, cl68, (cs 8), q75, (cs 8)].getD i 0) ob) (zup F90 ob (.inr (15, [.ref q5, .ref q18, .ref q31, .ref q42, .ref q53, .ref q64, .ref q75, .ref q86, .null, .int (iI 0), .int (iI 0)])))) q86 cNew := (hsa90).mono (zrm_step ((zko.refl : zko [ob] F90 F90).up List.mem_cons_self) (fun o ho => by rw [List.mem_singleton.mp ho]; exact Or.inl gMl_ob) (fun q hq => Or.inl hq))
  refine lv_aload_n hx hb dX12_init_96 rfl (lv_at hl 0 rfl) ?_
  refine lv_null hx hb dX12_init_97 ?_
  refine z_put (T := TX12) (N := 11) (ci := 15) (k := 8) (fs := [.ref q5, .ref q18, .ref q31, .ref q42, .ref q53, .ref q64, .ref q75, .ref q86, .null, .int (iI 0), .int (iI 0)]) (v := .null) hC hZ tyX12 tyX12_ok nmX12 in_X12 rfl (by decide) ql_X12_63 rfl (Or.inl rfl) rfl hf_32 (by show 8 < 11; decide) rfl rfl dX12_init_98 (fun H locs hZ => ?_)
  have hf_33 : (zup (zup F90 ob (.inr (15, [.ref q5, .ref q18, .ref q31, .ref q42, .ref q53, .ref q64, .ref q75, .ref q86, .null, .int (iI 0), .int (iI 0)]))) ob (.inr (15, [.ref q5, .ref q18, .ref q31, .ref q42, .ref q53, .ref q64, .ref q75, .ref q86, .null, .int (iI 0), .int (iI 0)]))) ob = some (.inr (15, [.ref q5, .ref q18, .ref q31, .ref q42, .ref q53, .ref q64, .ref q75, .ref q86, .null, .int (iI 0), .int (iI 0)])) := zup_s
  replace hZ : zS D A s (zup (zup F90 ob (.inr (15, [.ref q5, .ref q18, .ref q31, .ref q42, .ref q53, .ref q64, .ref q75, .ref q86, .null, .int (iI 0), .int (iI 0)]))) ob (.inr (15, [.ref q5, .ref q18, .ref q31, .ref q42, .ref q53, .ref q64, .ref q75, .ref q86, .null, .int (iI 0), .int (iI 0)]))) _ _ := hZ
  have hnd98 : zNd cs (zup (zup F90 ob (.inr (15, [.ref q5, .ref q18, .ref q31, .ref q42, .ref q53, .ref q64, .ref q75, .ref q86, .null, .int (iI 0), .int (iI 0)]))) ob (.inr (15, [.ref q5, .ref q18, .ref q31, .ref q42, .ref q53, .ref q64, .ref q75, .ref q86, .null, .int (iI 0), .int (iI 0)]))) _ := (hnd93).up
  have hrm98 : zle (zrm [ob] (zup F90 ob (.inr (15, [.ref q5, .ref q18, .ref q31, .ref q42, .ref q53, .ref q64, .ref q75, .ref q86, .null, .int (iI 0), .int (iI 0)])))) (zrm [ob] (zup (zup F90 ob (.inr (15, [.ref q5, .ref q18, .ref q31, .ref q42, .ref q53, .ref q64, .ref q75, .ref q86, .null, .int (iI 0), .int (iI 0)]))) ob (.inr (15, [.ref q5, .ref q18, .ref q31, .ref q42, .ref q53, .ref q64, .ref q75, .ref q86, .null, .int (iI 0), .int (iI 0)])))) := zrm2
  have hko98 : zko [ob] F (zup (zup F90 ob (.inr (15, [.ref q5, .ref q18, .ref q31, .ref q42, .ref q53, .ref q64, .ref q75, .ref q86, .null, .int (iI 0), .int (iI 0)]))) ob (.inr (15, [.ref q5, .ref q18, .ref q31, .ref q42, .ref q53, .ref q64, .ref q75, .ref q86, .null, .int (iI 0), .int (iI 0)]))) := (hko93).up List.mem_cons_self
  have h898 := z_c8 hC hZ
  have cb1_98 := (cb1_93).mono hrm98
  have cb2_98 := (cb2_93).mono hrm98
  have csb_98 := (csb_93).keep ((hrm98).ko (O := [])) zni0 zni0
  have cls_98 := (cls_93).keep ((hrm98).ko (O := [])) zni0 zni0 zni0
  have ce1_98 := hrm98 _ _ ce1_93
  have ce2_98 := hrm98 _ _ ce2_93
  have cr1_98 := hrm98 _ _ cr1_93
  have cr2_98 := (cr2_93).mono hrm98
  have chs_98 := (chs_93).mono hrm98
  have hsa98 : rSt cs (zrm (gMl (fun i : Nat => [q5, sg11, q18, sg24, q31, va35, q42, sg46, en46, q53, la57, q64, cl68, (cs 8), q75, (cs 8)].getD i 0) ob) (zup (zup F90 ob (.inr (15, [.ref q5, .ref q18, .ref q31, .ref q42, .ref q53, .ref q64, .ref q75, .ref q86, .null, .int (iI 0), .int (iI 0)]))) ob (.inr (15, [.ref q5, .ref q18, .ref q31, .ref q42, .ref q53, .ref q64, .ref q75, .ref q86, .null, .int (iI 0), .int (iI 0)])))) q86 cNew := (hsa93).mono (zrm_step ((zko.refl : zko [ob] (zup F90 ob (.inr (15, [.ref q5, .ref q18, .ref q31, .ref q42, .ref q53, .ref q64, .ref q75, .ref q86, .null, .int (iI 0), .int (iI 0)]))) (zup F90 ob (.inr (15, [.ref q5, .ref q18, .ref q31, .ref q42, .ref q53, .ref q64, .ref q75, .ref q86, .null, .int (iI 0), .int (iI 0)])))).up List.mem_cons_self) (fun o ho => by rw [List.mem_singleton.mp ho]; exact Or.inl gMl_ob) (fun q hq => Or.inl hq))
  refine lv_aload_n hx hb dX12_init_101 rfl (lv_at hl 0 rfl) ?_
  refine z_iconst hx hb dX12_init_102 ?_
  refine z_put (T := TX12) (N := 11) (ci := 15) (k := 9) (fs := [.ref q5, .ref q18, .ref q31, .ref q42, .ref q53, .ref q64, .ref q75, .ref q86, .null, .int (iI 0), .int (iI 0)]) (v := .int (iI (-1))) hC hZ tyX12 tyX12_ok nmX12 in_X12 rfl (by decide) ql_X12_66 rfl (Or.inl rfl) rfl hf_33 (by show 9 < 11; decide) rfl rfl dX12_init_103 (fun H locs hZ => ?_)
  have hf_34 : (zup (zup (zup F90 ob (.inr (15, [.ref q5, .ref q18, .ref q31, .ref q42, .ref q53, .ref q64, .ref q75, .ref q86, .null, .int (iI 0), .int (iI 0)]))) ob (.inr (15, [.ref q5, .ref q18, .ref q31, .ref q42, .ref q53, .ref q64, .ref q75, .ref q86, .null, .int (iI 0), .int (iI 0)]))) ob (.inr (15, [.ref q5, .ref q18, .ref q31, .ref q42, .ref q53, .ref q64, .ref q75, .ref q86, .null, .int (iI (-1)), .int (iI 0)]))) ob = some (.inr (15, [.ref q5, .ref q18, .ref q31, .ref q42, .ref q53, .ref q64, .ref q75, .ref q86, .null, .int (iI (-1)), .int (iI 0)])) := zup_s
  replace hZ : zS D A s (zup (zup (zup F90 ob (.inr (15, [.ref q5, .ref q18, .ref q31, .ref q42, .ref q53, .ref q64, .ref q75, .ref q86, .null, .int (iI 0), .int (iI 0)]))) ob (.inr (15, [.ref q5, .ref q18, .ref q31, .ref q42, .ref q53, .ref q64, .ref q75, .ref q86, .null, .int (iI 0), .int (iI 0)]))) ob (.inr (15, [.ref q5, .ref q18, .ref q31, .ref q42, .ref q53, .ref q64, .ref q75, .ref q86, .null, .int (iI (-1)), .int (iI 0)]))) _ _ := hZ
  have hnd103 : zNd cs (zup (zup (zup F90 ob (.inr (15, [.ref q5, .ref q18, .ref q31, .ref q42, .ref q53, .ref q64, .ref q75, .ref q86, .null, .int (iI 0), .int (iI 0)]))) ob (.inr (15, [.ref q5, .ref q18, .ref q31, .ref q42, .ref q53, .ref q64, .ref q75, .ref q86, .null, .int (iI 0), .int (iI 0)]))) ob (.inr (15, [.ref q5, .ref q18, .ref q31, .ref q42, .ref q53, .ref q64, .ref q75, .ref q86, .null, .int (iI (-1)), .int (iI 0)]))) _ := (hnd98).up
  have hrm103 : zle (zrm [ob] (zup (zup F90 ob (.inr (15, [.ref q5, .ref q18, .ref q31, .ref q42, .ref q53, .ref q64, .ref q75, .ref q86, .null, .int (iI 0), .int (iI 0)]))) ob (.inr (15, [.ref q5, .ref q18, .ref q31, .ref q42, .ref q53, .ref q64, .ref q75, .ref q86, .null, .int (iI 0), .int (iI 0)])))) (zrm [ob] (zup (zup (zup F90 ob (.inr (15, [.ref q5, .ref q18, .ref q31, .ref q42, .ref q53, .ref q64, .ref q75, .ref q86, .null, .int (iI 0), .int (iI 0)]))) ob (.inr (15, [.ref q5, .ref q18, .ref q31, .ref q42, .ref q53, .ref q64, .ref q75, .ref q86, .null, .int (iI 0), .int (iI 0)]))) ob (.inr (15, [.ref q5, .ref q18, .ref q31, .ref q42, .ref q53, .ref q64, .ref q75, .ref q86, .null, .int (iI (-1)), .int (iI 0)])))) := zrm2
  have hko103 : zko [ob] F (zup (zup (zup F90 ob (.inr (15, [.ref q5, .ref q18, .ref q31, .ref q42, .ref q53, .ref q64, .ref q75, .ref q86, .null, .int (iI 0), .int (iI 0)]))) ob (.inr (15, [.ref q5, .ref q18, .ref q31, .ref q42, .ref q53, .ref q64, .ref q75, .ref q86, .null, .int (iI 0), .int (iI 0)]))) ob (.inr (15, [.ref q5, .ref q18, .ref q31, .ref q42, .ref q53, .ref q64, .ref q75, .ref q86, .null, .int (iI (-1)), .int (iI 0)]))) := (hko98).up List.mem_cons_self
  have h8103 := z_c8 hC hZ
  have cb1_103 := (cb1_98).mono hrm103
  have cb2_103 := (cb2_98).mono hrm103
  have csb_103 := (csb_98).keep ((hrm103).ko (O := [])) zni0 zni0
  have cls_103 := (cls_98).keep ((hrm103).ko (O := [])) zni0 zni0 zni0
  have ce1_103 := hrm103 _ _ ce1_98
  have ce2_103 := hrm103 _ _ ce2_98
  have cr1_103 := hrm103 _ _ cr1_98
  have cr2_103 := (cr2_98).mono hrm103
  have chs_103 := (chs_98).mono hrm103
  have hsa103 : rSt cs (zrm (gMl (fun i : Nat => [q5, sg11, q18, sg24, q31, va35, q42, sg46, en46, q53, la57, q64, cl68, (cs 8), q75, (cs 8)].getD i 0) ob) (zup (zup (zup F90 ob (.inr (15, [.ref q5, .ref q18, .ref q31, .ref q42, .ref q53, .ref q64, .ref q75, .ref q86, .null, .int (iI 0), .int (iI 0)]))) ob (.inr (15, [.ref q5, .ref q18, .ref q31, .ref q42, .ref q53, .ref q64, .ref q75, .ref q86, .null, .int (iI 0), .int (iI 0)]))) ob (.inr (15, [.ref q5, .ref q18, .ref q31, .ref q42, .ref q53, .ref q64, .ref q75, .ref q86, .null, .int (iI (-1)), .int (iI 0)])))) q86 cNew := (hsa98).mono (zrm_step ((zko.refl : zko [ob] (zup (zup F90 ob (.inr (15, [.ref q5, .ref q18, .ref q31, .ref q42, .ref q53, .ref q64, .ref q75, .ref q86, .null, .int (iI 0), .int (iI 0)]))) ob (.inr (15, [.ref q5, .ref q18, .ref q31, .ref q42, .ref q53, .ref q64, .ref q75, .ref q86, .null, .int (iI 0), .int (iI 0)]))) (zup (zup F90 ob (.inr (15, [.ref q5, .ref q18, .ref q31, .ref q42, .ref q53, .ref q64, .ref q75, .ref q86, .null, .int (iI 0), .int (iI 0)]))) ob (.inr (15, [.ref q5, .ref q18, .ref q31, .ref q42, .ref q53, .ref q64, .ref q75, .ref q86, .null, .int (iI 0), .int (iI 0)])))).up List.mem_cons_self) (fun o ho => by rw [List.mem_singleton.mp ho]; exact Or.inl gMl_ob) (fun q hq => Or.inl hq))
  refine lv_aload_n hx hb dX12_init_106 rfl (lv_at hl 0 rfl) ?_
  refine z_iconst hx hb dX12_init_107 ?_
  refine z_put (T := TX12) (N := 11) (ci := 15) (k := 10) (fs := [.ref q5, .ref q18, .ref q31, .ref q42, .ref q53, .ref q64, .ref q75, .ref q86, .null, .int (iI (-1)), .int (iI 0)]) (v := .int (iI (-1))) hC hZ tyX12 tyX12_ok nmX12 in_X12 rfl (by decide) ql_X12_70 rfl (Or.inl rfl) rfl hf_34 (by show 10 < 11; decide) rfl rfl dX12_init_108 (fun H locs hZ => ?_)
  have hf_35 : (zup (zup (zup (zup F90 ob (.inr (15, [.ref q5, .ref q18, .ref q31, .ref q42, .ref q53, .ref q64, .ref q75, .ref q86, .null, .int (iI 0), .int (iI 0)]))) ob (.inr (15, [.ref q5, .ref q18, .ref q31, .ref q42, .ref q53, .ref q64, .ref q75, .ref q86, .null, .int (iI 0), .int (iI 0)]))) ob (.inr (15, [.ref q5, .ref q18, .ref q31, .ref q42, .ref q53, .ref q64, .ref q75, .ref q86, .null, .int (iI (-1)), .int (iI 0)]))) ob (.inr (15, [.ref q5, .ref q18, .ref q31, .ref q42, .ref q53, .ref q64, .ref q75, .ref q86, .null, .int (iI (-1)), .int (iI (-1))]))) ob = some (.inr (15, [.ref q5, .ref q18, .ref q31, .ref q42, .ref q53, .ref q64, .ref q75, .ref q86, .null, .int (iI (-1)), .int (iI (-1))])) := zup_s
  replace hZ : zS D A s (zup (zup (zup (zup F90 ob (.inr (15, [.ref q5, .ref q18, .ref q31, .ref q42, .ref q53, .ref q64, .ref q75, .ref q86, .null, .int (iI 0), .int (iI 0)]))) ob (.inr (15, [.ref q5, .ref q18, .ref q31, .ref q42, .ref q53, .ref q64, .ref q75, .ref q86, .null, .int (iI 0), .int (iI 0)]))) ob (.inr (15, [.ref q5, .ref q18, .ref q31, .ref q42, .ref q53, .ref q64, .ref q75, .ref q86, .null, .int (iI (-1)), .int (iI 0)]))) ob (.inr (15, [.ref q5, .ref q18, .ref q31, .ref q42, .ref q53, .ref q64, .ref q75, .ref q86, .null, .int (iI (-1)), .int (iI (-1))]))) _ _ := hZ
  have hnd108 : zNd cs (zup (zup (zup (zup F90 ob (.inr (15, [.ref q5, .ref q18, .ref q31, .ref q42, .ref q53, .ref q64, .ref q75, .ref q86, .null, .int (iI 0), .int (iI 0)]))) ob (.inr (15, [.ref q5, .ref q18, .ref q31, .ref q42, .ref q53, .ref q64, .ref q75, .ref q86, .null, .int (iI 0), .int (iI 0)]))) ob (.inr (15, [.ref q5, .ref q18, .ref q31, .ref q42, .ref q53, .ref q64, .ref q75, .ref q86, .null, .int (iI (-1)), .int (iI 0)]))) ob (.inr (15, [.ref q5, .ref q18, .ref q31, .ref q42, .ref q53, .ref q64, .ref q75, .ref q86, .null, .int (iI (-1)), .int (iI (-1))]))) _ := (hnd103).up
  have hrm108 : zle (zrm [ob] (zup (zup (zup F90 ob (.inr (15, [.ref q5, .ref q18, .ref q31, .ref q42, .ref q53, .ref q64, .ref q75, .ref q86, .null, .int (iI 0), .int (iI 0)]))) ob (.inr (15, [.ref q5, .ref q18, .ref q31, .ref q42, .ref q53, .ref q64, .ref q75, .ref q86, .null, .int (iI 0), .int (iI 0)]))) ob (.inr (15, [.ref q5, .ref q18, .ref q31, .ref q42, .ref q53, .ref q64, .ref q75, .ref q86, .null, .int (iI (-1)), .int (iI 0)])))) (zrm [ob] (zup (zup (zup (zup F90 ob (.inr (15, [.ref q5, .ref q18, .ref q31, .ref q42, .ref q53, .ref q64, .ref q75, .ref q86, .null, .int (iI 0), .int (iI 0)]))) ob (.inr (15, [.ref q5, .ref q18, .ref q31, .ref q42, .ref q53, .ref q64, .ref q75, .ref q86, .null, .int (iI 0), .int (iI 0)]))) ob (.inr (15, [.ref q5, .ref q18, .ref q31, .ref q42, .ref q53, .ref q64, .ref q75, .ref q86, .null, .int (iI (-1)), .int (iI 0)]))) ob (.inr (15, [.ref q5, .ref q18, .ref q31, .ref q42, .ref q53, .ref q64, .ref q75, .ref q86, .null, .int (iI (-1)), .int (iI (-1))])))) := zrm2
  have hko108 : zko [ob] F (zup (zup (zup (zup F90 ob (.inr (15, [.ref q5, .ref q18, .ref q31, .ref q42, .ref q53, .ref q64, .ref q75, .ref q86, .null, .int (iI 0), .int (iI 0)]))) ob (.inr (15, [.ref q5, .ref q18, .ref q31, .ref q42, .ref q53, .ref q64, .ref q75, .ref q86, .null, .int (iI 0), .int (iI 0)]))) ob (.inr (15, [.ref q5, .ref q18, .ref q31, .ref q42, .ref q53, .ref q64, .ref q75, .ref q86, .null, .int (iI (-1)), .int (iI 0)]))) ob (.inr (15, [.ref q5, .ref q18, .ref q31, .ref q42, .ref q53, .ref q64, .ref q75, .ref q86, .null, .int (iI (-1)), .int (iI (-1))]))) := (hko103).up List.mem_cons_self
  have h8108 := z_c8 hC hZ
  have cb1_108 := (cb1_103).mono hrm108
  have cb2_108 := (cb2_103).mono hrm108
  have csb_108 := (csb_103).keep ((hrm108).ko (O := [])) zni0 zni0
  have cls_108 := (cls_103).keep ((hrm108).ko (O := [])) zni0 zni0 zni0
  have ce1_108 := hrm108 _ _ ce1_103
  have ce2_108 := hrm108 _ _ ce2_103
  have cr1_108 := hrm108 _ _ cr1_103
  have cr2_108 := (cr2_103).mono hrm108
  have chs_108 := (chs_103).mono hrm108
  have hsa108 : rSt cs (zrm (gMl (fun i : Nat => [q5, sg11, q18, sg24, q31, va35, q42, sg46, en46, q53, la57, q64, cl68, (cs 8), q75, (cs 8)].getD i 0) ob) (zup (zup (zup (zup F90 ob (.inr (15, [.ref q5, .ref q18, .ref q31, .ref q42, .ref q53, .ref q64, .ref q75, .ref q86, .null, .int (iI 0), .int (iI 0)]))) ob (.inr (15, [.ref q5, .ref q18, .ref q31, .ref q42, .ref q53, .ref q64, .ref q75, .ref q86, .null, .int (iI 0), .int (iI 0)]))) ob (.inr (15, [.ref q5, .ref q18, .ref q31, .ref q42, .ref q53, .ref q64, .ref q75, .ref q86, .null, .int (iI (-1)), .int (iI 0)]))) ob (.inr (15, [.ref q5, .ref q18, .ref q31, .ref q42, .ref q53, .ref q64, .ref q75, .ref q86, .null, .int (iI (-1)), .int (iI (-1))])))) q86 cNew := (hsa103).mono (zrm_step ((zko.refl : zko [ob] (zup (zup (zup F90 ob (.inr (15, [.ref q5, .ref q18, .ref q31, .ref q42, .ref q53, .ref q64, .ref q75, .ref q86, .null, .int (iI 0), .int (iI 0)]))) ob (.inr (15, [.ref q5, .ref q18, .ref q31, .ref q42, .ref q53, .ref q64, .ref q75, .ref q86, .null, .int (iI 0), .int (iI 0)]))) ob (.inr (15, [.ref q5, .ref q18, .ref q31, .ref q42, .ref q53, .ref q64, .ref q75, .ref q86, .null, .int (iI (-1)), .int (iI 0)]))) (zup (zup (zup F90 ob (.inr (15, [.ref q5, .ref q18, .ref q31, .ref q42, .ref q53, .ref q64, .ref q75, .ref q86, .null, .int (iI 0), .int (iI 0)]))) ob (.inr (15, [.ref q5, .ref q18, .ref q31, .ref q42, .ref q53, .ref q64, .ref q75, .ref q86, .null, .int (iI 0), .int (iI 0)]))) ob (.inr (15, [.ref q5, .ref q18, .ref q31, .ref q42, .ref q53, .ref q64, .ref q75, .ref q86, .null, .int (iI (-1)), .int (iI 0)])))).up List.mem_cons_self) (fun o ho => by rw [List.mem_singleton.mp ho]; exact Or.inl gMl_ob) (fun q hq => Or.inl hq))
  exact z_vret hC hr hlk hZ (by decide) (by decide) (⟨(fun i : Nat => [q5, sg11, q18, sg24, q31, va35, q42, sg46, en46, q53, la57, q64, cl68, (cs 8), q75, (cs 8)].getD i 0), q86, hko108, hf_35, (hnd108).dis h8108 (zsn hf_35) rfl rfl, (cb1_108).mono (zrm_le (M := [ob]) (F := zup (zup (zup (zup F90 ob (.inr (15, [.ref q5, .ref q18, .ref q31, .ref q42, .ref q53, .ref q64, .ref q75, .ref q86, .null, .int (iI 0), .int (iI 0)]))) ob (.inr (15, [.ref q5, .ref q18, .ref q31, .ref q42, .ref q53, .ref q64, .ref q75, .ref q86, .null, .int (iI 0), .int (iI 0)]))) ob (.inr (15, [.ref q5, .ref q18, .ref q31, .ref q42, .ref q53, .ref q64, .ref q75, .ref q86, .null, .int (iI (-1)), .int (iI 0)]))) ob (.inr (15, [.ref q5, .ref q18, .ref q31, .ref q42, .ref q53, .ref q64, .ref q75, .ref q86, .null, .int (iI (-1)), .int (iI (-1))])))), (cb2_108).mono (zrm_le (M := [ob]) (F := zup (zup (zup (zup F90 ob (.inr (15, [.ref q5, .ref q18, .ref q31, .ref q42, .ref q53, .ref q64, .ref q75, .ref q86, .null, .int (iI 0), .int (iI 0)]))) ob (.inr (15, [.ref q5, .ref q18, .ref q31, .ref q42, .ref q53, .ref q64, .ref q75, .ref q86, .null, .int (iI 0), .int (iI 0)]))) ob (.inr (15, [.ref q5, .ref q18, .ref q31, .ref q42, .ref q53, .ref q64, .ref q75, .ref q86, .null, .int (iI (-1)), .int (iI 0)]))) ob (.inr (15, [.ref q5, .ref q18, .ref q31, .ref q42, .ref q53, .ref q64, .ref q75, .ref q86, .null, .int (iI (-1)), .int (iI (-1))])))), ⟨16, (csb_108).keep (((zrm_le (M := [ob]) (F := zup (zup (zup (zup F90 ob (.inr (15, [.ref q5, .ref q18, .ref q31, .ref q42, .ref q53, .ref q64, .ref q75, .ref q86, .null, .int (iI 0), .int (iI 0)]))) ob (.inr (15, [.ref q5, .ref q18, .ref q31, .ref q42, .ref q53, .ref q64, .ref q75, .ref q86, .null, .int (iI 0), .int (iI 0)]))) ob (.inr (15, [.ref q5, .ref q18, .ref q31, .ref q42, .ref q53, .ref q64, .ref q75, .ref q86, .null, .int (iI (-1)), .int (iI 0)]))) ob (.inr (15, [.ref q5, .ref q18, .ref q31, .ref q42, .ref q53, .ref q64, .ref q75, .ref q86, .null, .int (iI (-1)), .int (iI (-1))]))))).ko (O := [])) zni0 zni0⟩, ⟨0, ([], []), (cls_108).keep (((zrm_le (M := [ob]) (F := zup (zup (zup (zup F90 ob (.inr (15, [.ref q5, .ref q18, .ref q31, .ref q42, .ref q53, .ref q64, .ref q75, .ref q86, .null, .int (iI 0), .int (iI 0)]))) ob (.inr (15, [.ref q5, .ref q18, .ref q31, .ref q42, .ref q53, .ref q64, .ref q75, .ref q86, .null, .int (iI 0), .int (iI 0)]))) ob (.inr (15, [.ref q5, .ref q18, .ref q31, .ref q42, .ref q53, .ref q64, .ref q75, .ref q86, .null, .int (iI (-1)), .int (iI 0)]))) ob (.inr (15, [.ref q5, .ref q18, .ref q31, .ref q42, .ref q53, .ref q64, .ref q75, .ref q86, .null, .int (iI (-1)), .int (iI (-1))]))))).ko (O := [])) zni0 zni0 zni0⟩, ⟨(zrm_le (M := [ob]) (F := zup (zup (zup (zup F90 ob (.inr (15, [.ref q5, .ref q18, .ref q31, .ref q42, .ref q53, .ref q64, .ref q75, .ref q86, .null, .int (iI 0), .int (iI 0)]))) ob (.inr (15, [.ref q5, .ref q18, .ref q31, .ref q42, .ref q53, .ref q64, .ref q75, .ref q86, .null, .int (iI 0), .int (iI 0)]))) ob (.inr (15, [.ref q5, .ref q18, .ref q31, .ref q42, .ref q53, .ref q64, .ref q75, .ref q86, .null, .int (iI (-1)), .int (iI 0)]))) ob (.inr (15, [.ref q5, .ref q18, .ref q31, .ref q42, .ref q53, .ref q64, .ref q75, .ref q86, .null, .int (iI (-1)), .int (iI (-1))])))) _ _ ce1_108, _, (zrm_le (M := [ob]) (F := zup (zup (zup (zup F90 ob (.inr (15, [.ref q5, .ref q18, .ref q31, .ref q42, .ref q53, .ref q64, .ref q75, .ref q86, .null, .int (iI 0), .int (iI 0)]))) ob (.inr (15, [.ref q5, .ref q18, .ref q31, .ref q42, .ref q53, .ref q64, .ref q75, .ref q86, .null, .int (iI 0), .int (iI 0)]))) ob (.inr (15, [.ref q5, .ref q18, .ref q31, .ref q42, .ref q53, .ref q64, .ref q75, .ref q86, .null, .int (iI (-1)), .int (iI 0)]))) ob (.inr (15, [.ref q5, .ref q18, .ref q31, .ref q42, .ref q53, .ref q64, .ref q75, .ref q86, .null, .int (iI (-1)), .int (iI (-1))])))) _ _ ce2_108⟩, ⟨0, [], (zrm_le (M := [ob]) (F := zup (zup (zup (zup F90 ob (.inr (15, [.ref q5, .ref q18, .ref q31, .ref q42, .ref q53, .ref q64, .ref q75, .ref q86, .null, .int (iI 0), .int (iI 0)]))) ob (.inr (15, [.ref q5, .ref q18, .ref q31, .ref q42, .ref q53, .ref q64, .ref q75, .ref q86, .null, .int (iI 0), .int (iI 0)]))) ob (.inr (15, [.ref q5, .ref q18, .ref q31, .ref q42, .ref q53, .ref q64, .ref q75, .ref q86, .null, .int (iI (-1)), .int (iI 0)]))) ob (.inr (15, [.ref q5, .ref q18, .ref q31, .ref q42, .ref q53, .ref q64, .ref q75, .ref q86, .null, .int (iI (-1)), .int (iI (-1))])))) _ _ cr1_108, (cr2_108).mono (zrm_le (M := [ob]) (F := zup (zup (zup (zup F90 ob (.inr (15, [.ref q5, .ref q18, .ref q31, .ref q42, .ref q53, .ref q64, .ref q75, .ref q86, .null, .int (iI 0), .int (iI 0)]))) ob (.inr (15, [.ref q5, .ref q18, .ref q31, .ref q42, .ref q53, .ref q64, .ref q75, .ref q86, .null, .int (iI 0), .int (iI 0)]))) ob (.inr (15, [.ref q5, .ref q18, .ref q31, .ref q42, .ref q53, .ref q64, .ref q75, .ref q86, .null, .int (iI (-1)), .int (iI 0)]))) ob (.inr (15, [.ref q5, .ref q18, .ref q31, .ref q42, .ref q53, .ref q64, .ref q75, .ref q86, .null, .int (iI (-1)), .int (iI (-1))]))))⟩, (chs_108).mono (zrm_le (M := [ob]) (F := zup (zup (zup (zup F90 ob (.inr (15, [.ref q5, .ref q18, .ref q31, .ref q42, .ref q53, .ref q64, .ref q75, .ref q86, .null, .int (iI 0), .int (iI 0)]))) ob (.inr (15, [.ref q5, .ref q18, .ref q31, .ref q42, .ref q53, .ref q64, .ref q75, .ref q86, .null, .int (iI 0), .int (iI 0)]))) ob (.inr (15, [.ref q5, .ref q18, .ref q31, .ref q42, .ref q53, .ref q64, .ref q75, .ref q86, .null, .int (iI (-1)), .int (iI 0)]))) ob (.inr (15, [.ref q5, .ref q18, .ref q31, .ref q42, .ref q53, .ref q64, .ref q75, .ref q86, .null, .int (iI (-1)), .int (iI (-1))])))), hsa108, Or.inl ⟨rfl, rfl⟩, rfl, fun k hk => absurd hk (Nat.not_lt_zero _)⟩) dX12_init_111
