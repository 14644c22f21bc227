theorem gD_appP {l : List (Int × Int)} {k : Int} {x : Int × Int} (h0 : 0 ≤ k) (h1 : k < (l.length : Int) + 1) : (l ++ [x]).getD k.toNat (0, 0) = if k = l.length then x else l.getD k.toNat (0, 0) := by
  rw [List.getD_eq_getElem?_getD, List.getD_eq_getElem?_getD]
  by_cases h : k = l.length
  · rw [if_pos h, List.getElem?_append_right (by omega), show k.toNat - l.length = 0 by omega]
    rfl
  · rw [if_neg h, List.getElem?_append_left (by omega)]
set_option maxHeartbeats 4000000 in
set_option maxRecDepth 100000 in
theorem met_X9_offer (l : Launch) (D : va_G) (cs : Nat → ClassId) (A : Nat → Prop) (F : zF) (a ia la : Nat) (co he : Int) (tk : List (Int × Int)) (us : Int) (x z : Int)  (hp1 : bPg cs F a ia la co he tk us) (hlt : tk.length < 6) (hx0 : InR x) (hz : 0 ≤ z ∧ z ≤ 200) (hu : 0 ≤ us ∧ us ≤ 80) (hcp : 1 ≤ co * he ∧ co * he ≤ 80) : zM l D cs A yX9_offer cX9_offer 3 (none : Option Jvm.ClassFile.FieldType) 1 0 0 [.ref a, .int (iI x), .int (iI z)] F (pV (fun F1 => zko [a, ia, la] F F1 ∧ (if us + z ≤ co * he then bPg cs F1 a ia la co he (tk ++ [(x, us)]) (us + z) else bPg cs F1 a ia la co he tk us))) := by
  refine zM_of (own := RX9) (by decide) rfl (Nat.le_of_ble_eq_true rfl) ?_
  intro p e s m below meth c hC hr hlk hnm hZ ls hl
  have hx := hC.x
  have hb := hC.b
  have hl : lv_has ls 3 [(0, .ref a), (1, .int (iI x)), (2, .int (iI z))] := hl
  obtain ⟨f_, g_, h0, h1, h2, hne, h3⟩ := id hp1
  refine lv_iload_n hx hb dX9_offer_0 rfl (lv_at hl 2 rfl) ?_
  refine lv_aload_n hx hb dX9_offer_1 rfl (lv_at hl 0 rfl) ?_
  refine z_get (T := TX9) (N := 6) (ci := 12) (k := 0) (fs := [.int (iI co), .int (iI he), .ref ia, .ref la, .int (iI (tk.length : Int)), .int (iI us)]) (v := .int (iI co)) hC hZ in_X9 rfl (by decide) ql_X9_25 rfl h0 rfl dX9_offer_2 ?_
  refine lv_aload_n hx hb dX9_offer_5 rfl (lv_at hl 0 rfl) ?_
  refine z_get (T := TX9) (N := 6) (ci := 12) (k := 1) (fs := [.int (iI co), .int (iI he), .ref ia, .ref la, .int (iI (tk.length : Int)), .int (iI us)]) (v := .int (iI he)) hC hZ in_X9 rfl (by decide) ql_X9_28 rfl h0 rfl dX9_offer_6 ?_
  refine z_imul hx hb dX9_offer_9 ?_
  refine lv_aload_n hx hb dX9_offer_10 rfl (lv_at hl 0 rfl) ?_
  refine z_get (T := TX9) (N := 6) (ci := 12) (k := 5) (fs := [.int (iI co), .int (iI he), .ref ia, .ref la, .int (iI (tk.length : Int)), .int (iI us)]) (v := .int (iI us)) hC hZ in_X9 rfl (by decide) ql_X9_22 rfl h0 rfl dX9_offer_11 ?_
  refine z_isub hx hb dX9_offer_14 ?_
  refine z_icmp_gt (tgt := 42) hx hb dX9_offer_15 (by decide) (by omega) (by omega) (fun c_1 => ?_) (fun c_1 => ?_)
  · skip
    exact z_vret hC hr hlk hZ (by decide) (by decide) (⟨zko.refl, by rw [if_neg (by omega)]; exact hp1⟩) dX9_offer_42
  · skip
    refine lv_aload_n hx hb dX9_offer_18 rfl (lv_at hl 0 rfl) ?_
    refine z_get (T := TX9) (N := 6) (ci := 12) (k := 4) (fs := [.int (iI co), .int (iI he), .ref ia, .ref la, .int (iI (tk.length : Int)), .int (iI us)]) (v := .int (iI (tk.length : Int))) hC hZ in_X9 rfl (by decide) ql_X9_18 rfl h0 rfl dX9_offer_19 ?_
    refine lv_aload_n hx hb dX9_offer_22 rfl (lv_at hl 0 rfl) ?_
    refine z_get (T := TX9) (N := 6) (ci := 12) (k := 2) (fs := [.int (iI co), .int (iI he), .ref ia, .ref la, .int (iI (tk.length : Int)), .int (iI us)]) (v := .ref ia) hC hZ in_X9 rfl (by decide) ql_X9_9 rfl h0 rfl dX9_offer_23 ?_
    refine z_alen (t := 2) hC hZ h1 rfl dX9_offer_26 ?_
    refine z_top (y := 6) rfl ?_
    refine z_icmp_ge (tgt := 42) hx hb dX9_offer_27 (by decide) (by omega) (by decide) (fun c_2 => ?_) (fun c_2 => ?_)
    · skip
      exfalso; omega
    · skip
      refine lv_aload_n hx hb dX9_offer_30 rfl (lv_at hl 0 rfl) ?_
      refine z_get (T := TX9) (N := 6) (ci := 12) (k := 4) (fs := [.int (iI co), .int (iI he), .ref ia, .ref la, .int (iI (tk.length : Int)), .int (iI us)]) (v := .int (iI (tk.length : Int))) hC hZ in_X9 rfl (by decide) ql_X9_18 rfl h0 rfl dX9_offer_31 ?_
      refine lv_aload_n hx hb dX9_offer_34 rfl (lv_at hl 0 rfl) ?_
      refine z_get (T := TX9) (N := 6) (ci := 12) (k := 3) (fs := [.int (iI co), .int (iI he), .ref ia, .ref la, .int (iI (tk.length : Int)), .int (iI us)]) (v := .ref la) hC hZ in_X9 rfl (by decide) ql_X9_15 rfl h0 rfl dX9_offer_35 ?_
      refine z_alen (t := 2) hC hZ h2 rfl dX9_offer_38 ?_
      refine z_top (y := 6) rfl ?_
      refine z_icmp_lt (tgt := 43) hx hb dX9_offer_39 (by decide) (by omega) (by decide) (fun c_3 => ?_) (fun c_3 => ?_)
      · skip
        refine lv_aload_n hx hb dX9_offer_43 rfl (lv_at hl 0 rfl) ?_
        refine z_get (T := TX9) (N := 6) (ci := 12) (k := 2) (fs := [.int (iI co), .int (iI he), .ref ia, .ref la, .int (iI (tk.length : Int)), .int (iI us)]) (v := .ref ia) hC hZ in_X9 rfl (by decide) ql_X9_9 rfl h0 rfl dX9_offer_44 ?_
        refine lv_aload_n hx hb dX9_offer_47 rfl (lv_at hl 0 rfl) ?_
        refine z_get (T := TX9) (N := 6) (ci := 12) (k := 4) (fs := [.int (iI co), .int (iI he), .ref ia, .ref la, .int (iI (tk.length : Int)), .int (iI us)]) (v := .int (iI (tk.length : Int))) hC hZ in_X9 rfl (by decide) ql_X9_18 rfl h0 rfl dX9_offer_48 ?_
        refine lv_iload_n hx hb dX9_offer_51 rfl (lv_at hl 1 rfl) ?_
        refine z_iast hC hZ h1 (by show _ ∧ _ < (6 : Int); omega) (by decide) dX9_offer_52 (fun H locs hZ => ?_)
        have hf_4 : (zup F ia (zA (cs 2) 6 (upI f_ (tk.length : Int) x))) a = some (.inr (12, [.int (iI co), .int (iI he), .ref ia, .ref la, .int (iI (tk.length : Int)), .int (iI us)])) := zup_k (zne h0 h1 (fun q => by cases q)) h0
        have hf_5 : (zup F ia (zA (cs 2) 6 (upI f_ (tk.length : Int) x))) la = some (zA (cs 2) 6 g_) := zup_k (Ne.symm hne) h2
        have hf_6 : (zup F ia (zA (cs 2) 6 (upI f_ (tk.length : Int) x))) ia = some (zA (cs 2) 6 (upI f_ (tk.length : Int) x)) := zup_s
        replace hZ : zS D A s (zup F ia (zA (cs 2) 6 (upI f_ (tk.length : Int) x))) _ _ := hZ
        refine lv_aload_n hx hb dX9_offer_53 rfl (lv_at hl 0 rfl) ?_
        refine z_get (T := TX9) (N := 6) (ci := 12) (k := 3) (fs := [.int (iI co), .int (iI he), .ref ia, .ref la, .int (iI (tk.length : Int)), .int (iI us)]) (v := .ref la) hC hZ in_X9 rfl (by decide) ql_X9_15 rfl hf_4 rfl dX9_offer_54 ?_
        refine lv_aload_n hx hb dX9_offer_57 rfl (lv_at hl 0 rfl) ?_
        refine z_get (T := TX9) (N := 6) (ci := 12) (k := 4) (fs := [.int (iI co), .int (iI he), .ref ia, .ref la, .int (iI (tk.length : Int)), .int (iI us)]) (v := .int (iI (tk.length : Int))) hC hZ in_X9 rfl (by decide) ql_X9_18 rfl hf_4 rfl dX9_offer_58 ?_
        refine lv_aload_n hx hb dX9_offer_61 rfl (lv_at hl 0 rfl) ?_
        refine z_get (T := TX9) (N := 6) (ci := 12) (k := 5) (fs := [.int (iI co), .int (iI he), .ref ia, .ref la, .int (iI (tk.length : Int)), .int (iI us)]) (v := .int (iI us)) hC hZ in_X9 rfl (by decide) ql_X9_22 rfl hf_4 rfl dX9_offer_62 ?_
        refine z_iast hC hZ hf_5 (by show _ ∧ _ < (6 : Int); omega) (by decide) dX9_offer_65 (fun H locs hZ => ?_)
        have hf_7 : (zup (zup F ia (zA (cs 2) 6 (upI f_ (tk.length : Int) x))) la (zA (cs 2) 6 (upI g_ (tk.length : Int) us))) a = some (.inr (12, [.int (iI co), .int (iI he), .ref ia, .ref la, .int (iI (tk.length : Int)), .int (iI us)])) := zup_k (zne hf_4 hf_5 (fun q => by cases q)) hf_4
        have hf_8 : (zup (zup F ia (zA (cs 2) 6 (upI f_ (tk.length : Int) x))) la (zA (cs 2) 6 (upI g_ (tk.length : Int) us))) ia = some (zA (cs 2) 6 (upI f_ (tk.length : Int) x)) := zup_k hne hf_6
        have hf_9 : (zup (zup F ia (zA (cs 2) 6 (upI f_ (tk.length : Int) x))) la (zA (cs 2) 6 (upI g_ (tk.length : Int) us))) la = some (zA (cs 2) 6 (upI g_ (tk.length : Int) us)) := zup_s
        replace hZ : zS D A s (zup (zup F ia (zA (cs 2) 6 (upI f_ (tk.length : Int) x))) la (zA (cs 2) 6 (upI g_ (tk.length : Int) us))) _ _ := hZ
        refine lv_aload_n hx hb dX9_offer_66 rfl (lv_at hl 0 rfl) ?_
        refine lv_dup hx hb dX9_offer_67 rfl ?_
        refine z_get (T := TX9) (N := 6) (ci := 12) (k := 4) (fs := [.int (iI co), .int (iI he), .ref ia, .ref la, .int (iI (tk.length : Int)), .int (iI us)]) (v := .int (iI (tk.length : Int))) hC hZ in_X9 rfl (by decide) ql_X9_18 rfl hf_7 rfl dX9_offer_68 ?_
        refine z_iconst hx hb dX9_offer_71 ?_
        refine z_iadd hx hb dX9_offer_72 ?_
        refine z_put (T := TX9) (N := 6) (ci := 12) (k := 4) (fs := [.int (iI co), .int (iI he), .ref ia, .ref la, .int (iI (tk.length : Int)), .int (iI us)]) (v := .int (iI ((tk.length : Int) + 1))) hC hZ tyX9 tyX9_ok nmX9 in_X9 rfl (by decide) ql_X9_18 rfl (Or.inl rfl) rfl hf_7 (by show 4 < 6; decide) rfl rfl dX9_offer_73 (fun H locs hZ => ?_)
        have hf_10 : (zup (zup (zup F ia (zA (cs 2) 6 (upI f_ (tk.length : Int) x))) la (zA (cs 2) 6 (upI g_ (tk.length : Int) us))) a (.inr (12, [.int (iI co), .int (iI he), .ref ia, .ref la, .int (iI ((tk.length : Int) + 1)), .int (iI us)]))) ia = some (zA (cs 2) 6 (upI f_ (tk.length : Int) x)) := zup_k (zne hf_8 hf_7 (fun q => by cases q)) hf_8
        have hf_11 : (zup (zup (zup F ia (zA (cs 2) 6 (upI f_ (tk.length : Int) x))) la (zA (cs 2) 6 (upI g_ (tk.length : Int) us))) a (.inr (12, [.int (iI co), .int (iI he), .ref ia, .ref la, .int (iI ((tk.length : Int) + 1)), .int (iI us)]))) la = some (zA (cs 2) 6 (upI g_ (tk.length : Int) us)) := zup_k (zne hf_9 hf_7 (fun q => by cases q)) hf_9
        have hf_12 : (zup (zup (zup F ia (zA (cs 2) 6 (upI f_ (tk.length : Int) x))) la (zA (cs 2) 6 (upI g_ (tk.length : Int) us))) a (.inr (12, [.int (iI co), .int (iI he), .ref ia, .ref la, .int (iI ((tk.length : Int) + 1)), .int (iI us)]))) a = some (.inr (12, [.int (iI co), .int (iI he), .ref ia, .ref la, .int (iI ((tk.length : Int) + 1)), .int (iI us)])) := zup_s
        replace hZ : zS D A s (zup (zup (zup F ia (zA (cs 2) 6 (upI f_ (tk.length : Int) x))) la (zA (cs 2) 6 (upI g_ (tk.length : Int) us))) a (.inr (12, [.int (iI co), .int (iI he), .ref ia, .ref la, .int (iI ((tk.length : Int) + 1)), .int (iI us)]))) _ _ := hZ
        refine lv_aload_n hx hb dX9_offer_76 rfl (lv_at hl 0 rfl) ?_
        refine lv_dup hx hb dX9_offer_77 rfl ?_
        refine z_get (T := TX9) (N := 6) (ci := 12) (k := 5) (fs := [.int (iI co), .int (iI he), .ref ia, .ref la, .int (iI ((tk.length : Int) + 1)), .int (iI us)]) (v := .int (iI us)) hC hZ in_X9 rfl (by decide) ql_X9_22 rfl hf_12 rfl dX9_offer_78 ?_
        refine lv_iload_n hx hb dX9_offer_81 rfl (lv_at hl 2 rfl) ?_
        refine z_iadd hx hb dX9_offer_82 ?_
        refine z_put (T := TX9) (N := 6) (ci := 12) (k := 5) (fs := [.int (iI co), .int (iI he), .ref ia, .ref la, .int (iI ((tk.length : Int) + 1)), .int (iI us)]) (v := .int (iI (us + z))) hC hZ tyX9 tyX9_ok nmX9 in_X9 rfl (by decide) ql_X9_22 rfl (Or.inl rfl) rfl hf_12 (by show 5 < 6; decide) rfl rfl dX9_offer_83 (fun H locs hZ => ?_)
        rw [zup_up] at hZ
        have hf_13 : (zup (zup (zup F ia (zA (cs 2) 6 (upI f_ (tk.length : Int) x))) la (zA (cs 2) 6 (upI g_ (tk.length : Int) us))) a (.inr (12, [.int (iI co), .int (iI he), .ref ia, .ref la, .int (iI ((tk.length : Int) + 1)), .int (iI (us + z))]))) ia = some (zA (cs 2) 6 (upI f_ (tk.length : Int) x)) := zup_k (zne hf_8 hf_7 (fun q => by cases q)) hf_8
        have hf_14 : (zup (zup (zup F ia (zA (cs 2) 6 (upI f_ (tk.length : Int) x))) la (zA (cs 2) 6 (upI g_ (tk.length : Int) us))) a (.inr (12, [.int (iI co), .int (iI he), .ref ia, .ref la, .int (iI ((tk.length : Int) + 1)), .int (iI (us + z))]))) la = some (zA (cs 2) 6 (upI g_ (tk.length : Int) us)) := zup_k (zne hf_9 hf_7 (fun q => by cases q)) hf_9
        have hf_15 : (zup (zup (zup F ia (zA (cs 2) 6 (upI f_ (tk.length : Int) x))) la (zA (cs 2) 6 (upI g_ (tk.length : Int) us))) a (.inr (12, [.int (iI co), .int (iI he), .ref ia, .ref la, .int (iI ((tk.length : Int) + 1)), .int (iI (us + z))]))) a = some (.inr (12, [.int (iI co), .int (iI he), .ref ia, .ref la, .int (iI ((tk.length : Int) + 1)), .int (iI (us + z))])) := zup_s
        replace hZ : zS D A s (zup (zup (zup F ia (zA (cs 2) 6 (upI f_ (tk.length : Int) x))) la (zA (cs 2) 6 (upI g_ (tk.length : Int) us))) a (.inr (12, [.int (iI co), .int (iI he), .ref ia, .ref la, .int (iI ((tk.length : Int) + 1)), .int (iI (us + z))]))) _ _ := hZ
        exact z_vret hC hr hlk hZ (by decide) (by decide) (⟨((((zko.refl).up (by simp)).up (by simp)).up (by simp)), by rw [if_pos (by omega)]; exact ⟨_, _, by rw [List.length_append]; exact hf_15, hf_13, hf_14, hne, fun k k0 k1 => by rw [List.length_append, List.length_singleton] at k1; rw [gD_appP k0 (by omega)]; unfold upI; by_cases q : k = tk.length; (rw [if_pos q, if_pos q, if_pos q]; exact ⟨rfl, rfl⟩); rw [if_neg q, if_neg q, if_neg q]; exact h3 k k0 (by omega)⟩⟩) dX9_offer_86
      · skip
        exfalso; omega

theorem zO_fit (c : ClassId) (n : Nat) (f : Int → Option Nat) : ∀ (i : Nat) (v : Value), (vp_cell c (n, .inr (.inr (.inr (.inr (fun k : Nat => f (k : Int))))))).slots[i]? = some v → fits (.object "StoneGazette$Word") v = true := by
  intro i v h
  rw [vp_cell_q] at h
  by_cases hi : i < n
  · rw [arrV_read _ _ hi] at h
    cases h
    cases f (i : Int) <;> rfl
  · rw [Array.getElem?_eq_none (by rw [arrV_size]; omega)] at h
    cases h
theorem oWs.set {cs : Nat → ClassId} {F : zF} {ws : List zWd} {h : Int → Option Nat} {i : Int} {v : Nat} {w : zWd} (hw : ∀ k : Int, 0 ≤ k → k < ws.length → ∃ q : Nat, h k = some q ∧ oWd cs F q (ws.getD k.toNat [])) (hv : oWd cs F v w) (hi : 0 ≤ i ∧ i < ws.length) : ∀ k : Int, 0 ≤ k → k < (ws.set i.toNat w).length → ∃ q : Nat, upI h i (some v) k = some q ∧ oWd cs F q ((ws.set i.toNat w).getD k.toNat []) := by
  intro k k0 k1
  rw [List.length_set] at k1
  rw [List.getD_eq_getElem?_getD, List.getElem?_set]
  unfold upI
  by_cases q : k = i
  · rw [if_pos q, q, if_pos rfl, if_pos (by omega)]
    exact ⟨v, rfl, hv⟩
  · rw [if_neg q, if_neg (by omega), ← List.getD_eq_getElem?_getD]
    exact hw k k0 k1
set_option maxHeartbeats 4000000 in
set_option maxRecDepth 100000 in
theorem met_X1_corrected (l : Launch) (D : va_G) (cs : Nat → ClassId) (A : Nat → Prop) (F : zF) (a : Nat) (x : zAr) (i : Int) (v : Nat) (w : zWd)  (hx1 : oAr cs F a x) (hi : 0 ≤ i ∧ i < x.2.2.length) (hv : oWd cs F v w) : zM l D cs A yX1_corrected cX1_corrected 4 (some (FieldType.object "StoneGazette$Article")) 2 2 33 [.ref a, .int (iI i), .ref v] F (pR (fun r F1 => zle F F1 ∧ F r = none ∧ oAr cs F1 r (x.1, x.2.1, x.2.2.set i.toNat w))) := by
  refine zM_of (own := RX1) (by decide) rfl (Nat.le_of_ble_eq_true rfl) ?_
  intro p e s m below meth c hC hr hlk hnm hZ ls hl
  have hx := hC.x
  have hb := hC.b
  have hl : lv_has ls 4 [(0, .ref a), (1, .int (iI i)), (2, .ref v)] := hl
  obtain ⟨wa, h0, hws0, hxo⟩ := id hx1
  obtain ⟨h_, h1, h2⟩ := id hws0
  have hx6 := hxo.2.2.1
  have hx7 := hxo.1
  have hx8 := hxo.2.1
  obtain ⟨fsv, hov⟩ := hv.o
  have hwov : wdOK w := by obtain ⟨_, _, _, _, _, _, _, _, _, z⟩ := hv; exact z
  have hva : v ≠ a := zneK hov h0 (by show 1000000 + 14 ≠ 1000000 + 5; decide)
  refine lv_aload_n hx hb dX1_corrected_0 rfl (lv_at hl 0 rfl) ?_
  refine z_get (T := TX1) (N := 3) (ci := 5) (k := 2) (fs := [.int (iI x.1), .int (iI x.2.1), .ref wa]) (v := .ref wa) hC hZ in_X1 rfl (by decide) ql_X1_16 rfl h0 rfl dX1_corrected_1 ?_
  refine z_clone (rest := []) (ad := "[LStoneGazette$Word;") (index := 20) (ty := .object "StoneGazette$Word") (x := (x.2.2.length, .inr (.inr (.inr (.inr (fun k : Nat => h_ (k : Int))))))) hC hZ 4 qm_X1_20 q_797 qv_java_lang_Object_clone_0502b qi_java_lang_Object_clone_0502b qs_java_lang_Object_clone_0502b__LStoneGazette_Word_ q_801 h1 rfl hC.nm4 (zO_fit _ _ _) hl (Nat.le_of_ble_eq_true rfl) (Nat.le_of_ble_eq_true rfl) (Nat.le_of_ble_eq_true rfl) (by show _ ≤ 33; omega) dX1_corrected_4 (fun q4 H hq4 hZ => ?_)
  have hf_1 : (zup F q4 (zO (cs 4) x.2.2.length h_)) a = some (.inr (5, [.int (iI x.1), .int (iI x.2.1), .ref wa])) := zup_k (zF_ne h0 hq4.1) h0
  have hf_2 : (zup F q4 (zO (cs 4) x.2.2.length h_)) wa = some (zO (cs 4) x.2.2.length h_) := zup_k (zF_ne h1 hq4.1) h1
  have hf_3 : (zup F q4 (zO (cs 4) x.2.2.length h_)) v = some (.inr (14, fsv)) := zup_k (zF_ne hov hq4.1) hov
  have hf_4 : (zup F q4 (zO (cs 4) x.2.2.length h_)) q4 = some (zO (cs 4) x.2.2.length h_) := zup_s
  replace hZ : zS D A s (zup F q4 (zO (cs 4) x.2.2.length h_)) _ _ := hZ
  refine z_castA (t := 4) hC hZ qk_X1_21 hf_4 (zC.nm4 hC) dX1_corrected_7 ?_
  refine lv_astore_n (lv' := [(3, .ref q4), (0, .ref a), (1, .int (iI i)), (2, .ref v)]) hx hb dX1_corrected_10 rfl hl (by decide) rfl (fun ls hl => ?_)
  refine lv_iload_n hx hb dX1_corrected_11 rfl (lv_at hl 2 rfl) ?_
  refine z_if_lt (tgt := 25) hx hb dX1_corrected_12 (by decide) (by omega) (fun c_5 => ?_) (fun c_5 => ?_)
  · skip
    exfalso; omega
  · skip
    refine lv_iload_n hx hb dX1_corrected_15 rfl (lv_at hl 2 rfl) ?_
    refine lv_aload_n hx hb dX1_corrected_16 rfl (lv_at hl 0 rfl) ?_
    refine z_alen (t := 4) hC hZ hf_4 rfl dX1_corrected_17 ?_
    refine z_icmp_ge (tgt := 25) hx hb dX1_corrected_18 (by decide) (by omega) (by omega) (fun c_6 => ?_) (fun c_6 => ?_)
    · skip
      exfalso; omega
    · skip
      refine lv_aload_n hx hb dX1_corrected_21 rfl (lv_at hl 0 rfl) ?_
      refine lv_iload_n hx hb dX1_corrected_22 rfl (lv_at hl 2 rfl) ?_
      refine lv_aload_n hx hb dX1_corrected_23 rfl (lv_at hl 3 rfl) ?_
      refine z_aast (ci := 14) (E := "StoneGazette$Word") hC hZ 4 hf_4 rfl hf_3 rfl (Or.inl rfl) (by omega) (by omega) dX1_corrected_24 (fun H locs hZ => ?_)
      rw [zup_up] at hZ
      have hf_7 : (zup F q4 (zO (cs 4) x.2.2.length (upI h_ i (some v)))) a = some (.inr (5, [.int (iI x.1), .int (iI x.2.1), .ref wa])) := zup_k (zF_ne h0 hq4.1) h0
      have hf_8 : (zup F q4 (zO (cs 4) x.2.2.length (upI h_ i (some v)))) wa = some (zO (cs 4) x.2.2.length h_) := zup_k (zF_ne h1 hq4.1) h1
      have hf_9 : (zup F q4 (zO (cs 4) x.2.2.length (upI h_ i (some v)))) v = some (.inr (14, fsv)) := zup_k (zF_ne hov hq4.1) hov
      have hf_10 : (zup F q4 (zO (cs 4) x.2.2.length (upI h_ i (some v)))) q4 = some (zO (cs 4) x.2.2.length (upI h_ i (some v))) := zup_s
      replace hZ : zS D A s (zup F q4 (zO (cs 4) x.2.2.length (upI h_ i (some v)))) _ _ := hZ
      refine z_new (T := TX1) (N := 3) (ci := 5) hC hZ tyX1 tyX1_ok in_X1 rfl qk_X1_8 qx_X1 qn_X1 [.int (iI 0), .int (iI 0), .null] df_X1 (Nat.le_of_ble_eq_true rfl) (by show _ ≤ 33; omega) dX1_corrected_25 (fun q25 H hq25 hZ => ?_)
      have hf_11 : (zup (zup F q4 (zO (cs 4) x.2.2.length (upI h_ i (some v)))) q25 (.inr (5, [.int (iI 0), .int (iI 0), .null]))) a = some (.inr (5, [.int (iI x.1), .int (iI x.2.1), .ref wa])) := zup_k (zF_ne hf_7 hq25.1) hf_7
      have hf_12 : (zup (zup F q4 (zO (cs 4) x.2.2.length (upI h_ i (some v)))) q25 (.inr (5, [.int (iI 0), .int (iI 0), .null]))) wa = some (zO (cs 4) x.2.2.length h_) := zup_k (zF_ne hf_8 hq25.1) hf_8
      have hf_13 : (zup (zup F q4 (zO (cs 4) x.2.2.length (upI h_ i (some v)))) q25 (.inr (5, [.int (iI 0), .int (iI 0), .null]))) v = some (.inr (14, fsv)) := zup_k (zF_ne hf_9 hq25.1) hf_9
      have hf_14 : (zup (zup F q4 (zO (cs 4) x.2.2.length (upI h_ i (some v)))) q25 (.inr (5, [.int (iI 0), .int (iI 0), .null]))) q4 = some (zO (cs 4) x.2.2.length (upI h_ i (some v))) := zup_k (zF_ne hf_10 hq25.1) hf_10
      have hf_15 : (zup (zup F q4 (zO (cs 4) x.2.2.length (upI h_ i (some v)))) q25 (.inr (5, [.int (iI 0), .int (iI 0), .null]))) q25 = some (.inr (5, [.int (iI 0), .int (iI 0), .null])) := zup_s
      replace hZ : zS D A s (zup (zup F q4 (zO (cs 4) x.2.2.length (upI h_ i (some v)))) q25 (.inr (5, [.int (iI 0), .int (iI 0), .null]))) _ _ := hZ
      refine lv_dup hx hb dX1_corrected_28 rfl ?_
      refine lv_aload_n hx hb dX1_corrected_29 rfl (lv_at hl 1 rfl) ?_
      refine z_get (T := TX1) (N := 3) (ci := 5) (k := 0) (fs := [.int (iI x.1), .int (iI x.2.1), .ref wa]) (v := .int (iI x.1)) hC hZ in_X1 rfl (by decide) ql_X1_7 rfl hf_11 rfl dX1_corrected_30 ?_
      refine lv_aload_n hx hb dX1_corrected_33 rfl (lv_at hl 1 rfl) ?_
      refine z_get (T := TX1) (N := 3) (ci := 5) (k := 1) (fs := [.int (iI x.1), .int (iI x.2.1), .ref wa]) (v := .int (iI x.2.1)) hC hZ in_X1 rfl (by decide) ql_X1_13 rfl hf_11 rfl dX1_corrected_34 ?_
      refine lv_aload_n hx hb dX1_corrected_37 rfl (lv_at hl 0 rfl) ?_
      refine z_callv (z_runI (rest := [.ref q25]) (As := [.int (iI x.1), .int (iI x.2.1), .ref q4]) (n := 3) hC hZ (met_X1_init l D cs A (zup (zup F q4 (zO (cs 4) x.2.2.length (upI h_ i (some v)))) q25 (.inr (5, [.int (iI 0), .int (iI 0), .null]))) q25 x.1 x.2.1 q4 hf_15) qc_X1_init qn_X1 qm_X1_25 qi_X1_init rfl he_X1_init rfl hl rfl (Nat.le_of_ble_eq_true rfl) ⟨Nat.le_of_ble_eq_true rfl, Nat.le_of_ble_eq_true rfl⟩ ⟨(by show _ ≤ 2; omega), (by show _ ≤ 33; omega)⟩ dX1_corrected_38) hZ (fun F38 H locs hp38_c_16 hZ => ?_)
      obtain rfl := hp38_c_16
      rw [zup_up] at hZ
      have hf_17 : (zup (zup F q4 (zO (cs 4) x.2.2.length (upI h_ i (some v)))) q25 (.inr (5, [.int (iI x.1), .int (iI x.2.1), .ref q4]))) a = some (.inr (5, [.int (iI x.1), .int (iI x.2.1), .ref wa])) := zup_k (zF_ne hf_7 hq25.1) hf_7
      have hf_18 : (zup (zup F q4 (zO (cs 4) x.2.2.length (upI h_ i (some v)))) q25 (.inr (5, [.int (iI x.1), .int (iI x.2.1), .ref q4]))) wa = some (zO (cs 4) x.2.2.length h_) := zup_k (zF_ne hf_8 hq25.1) hf_8
      have hf_19 : (zup (zup F q4 (zO (cs 4) x.2.2.length (upI h_ i (some v)))) q25 (.inr (5, [.int (iI x.1), .int (iI x.2.1), .ref q4]))) v = some (.inr (14, fsv)) := zup_k (zF_ne hf_9 hq25.1) hf_9
      have hf_20 : (zup (zup F q4 (zO (cs 4) x.2.2.length (upI h_ i (some v)))) q25 (.inr (5, [.int (iI x.1), .int (iI x.2.1), .ref q4]))) q4 = some (zO (cs 4) x.2.2.length (upI h_ i (some v))) := zup_k (zF_ne hf_10 hq25.1) hf_10
      have hf_21 : (zup (zup F q4 (zO (cs 4) x.2.2.length (upI h_ i (some v)))) q25 (.inr (5, [.int (iI x.1), .int (iI x.2.1), .ref q4]))) q25 = some (.inr (5, [.int (iI x.1), .int (iI x.2.1), .ref q4])) := zup_s
      replace hZ : zS D A s (zup (zup F q4 (zO (cs 4) x.2.2.length (upI h_ i (some v)))) q25 (.inr (5, [.int (iI x.1), .int (iI x.2.1), .ref q4]))) _ _ := hZ
      exact z_aret hC hr (Or.inl ⟨_, rfl⟩) hlk hZ (by omega) (by omega) (⟨((((zko.refl).new hq4.1).new hq25.1)).le, (zup_none hq25.1), q4, hf_21, ⟨_, by rw [List.length_set]; exact hf_20, oWs.set (fun k k0 k1 => by obtain ⟨q, e1, o1⟩ := h2 k k0 k1; exact ⟨q, e1, o1.mono ((((zko.refl).new hq4.1).new hq25.1)).le⟩) (hv.mono ((((zko.refl).new hq4.1).new hq25.1)).le) hi⟩, ⟨hx7, hx8, by rw [List.length_set]; exact hx6, fun y hy => (List.mem_or_eq_of_mem_set hy).elim (hxo.2.2.2 y) (fun z => by rw [z]; exact hwov)⟩⟩) dX1_corrected_41
