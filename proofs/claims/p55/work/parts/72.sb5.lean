theorem zneR {F : zF} {a b : Nat} {c c' : ClassId} {n n' : Nat} {x : Nat → Int32} {y : (Nat → Int64) ⊕ (Nat → UInt32) ⊕ (Nat → UInt64) ⊕ (Nat → Option Nat)} (ha : F a = some (.inl (c, n, .inr y))) (hb : F b = some (.inl (c', n', .inl x))) : a ≠ b := by
  intro q
  subst q
  have h := congrArg (fun e : va_E => match e with | .inl z => (match z.2.2 with | .inl _ => true | .inr _ => false) | .inr _ => false) (Option.some.inj (ha.symm.trans hb))
  cases h
/-- from F to F2 the builder at b was written to only: it holds t2 now -/
def sbR (cs : Nat → ClassId) (F F2 : zF) (b va va2 cap2 : Nat) (t2 : List Int) : Prop := (va2 = va ∨ F va2 = none) ∧ zko [b, va] F F2 ∧ oSB cs F2 b va2 cap2 t2
theorem sbR.step {cs : Nat → ClassId} {F F2 F3 : zF} {b va va2 va3 cap2 cap3 : Nat} {t2 t3 : List Int} (h : sbR cs F F2 b va va2 cap2 t2) (h1 : va3 = va2 ∨ F2 va3 = none) (hk : zko [b, va2] F2 F3) (h3 : oSB cs F3 b va3 cap3 t3) : sbR cs F F3 b va va3 cap3 t3 := by
  obtain ⟨g1, g2, g3⟩ := h
  refine ⟨h1.elim (fun q => by rw [q]; exact g1) (fun q => ?_), fun q9 e9 hq9 hn9 => ?_, h3⟩
  · cases hF : F va3 with
    | none => exact Or.inr rfl
    | some e9 =>
      by_cases q1 : va3 = va
      · exact Or.inl q1
      · by_cases q2 : va3 = b
        · rw [q2] at q; obtain ⟨fs9, ho9⟩ := g3.o; rw [ho9] at q; cases q
        · rw [g2 _ _ hF (zni1 q2 (zni1 q1 zni0))] at q; cases q
  · refine hk q9 e9 (g2 q9 e9 hq9 hn9) (fun c9 => ?_)
    rcases List.mem_cons.mp c9 with c9 | c9
    · exact hn9 (by rw [c9]; simp)
    · rw [List.mem_singleton.mp c9] at hq9 hn9
      rcases g1 with c8 | c8
      · exact hn9 (by rw [c8]; simp)
      · rw [c8] at hq9; cases hq9
theorem sbpot {cap n : Nat} (h : 16 ≤ cap) : 16 * mcS cap n + cap ≤ grw cap n ∧ msS cap n + 2 * cap ≤ 2 * grw cap n ∧ (grw cap n = cap ∨ (grw cap n ≤ 2 * n ∧ cap < n)) := by
  by_cases c : n ≤ cap
  · rw [show mcS cap n = 0 from if_pos c, show msS cap n = 0 from if_pos c, show grw cap n = cap from if_pos c]; omega
  · rw [show mcS cap n = 1 from if_neg c, show msS cap n = 2 * cap + 2 from if_neg c, show grw cap n = 2 * cap + 2 from if_neg c]; omega
theorem oSB.c {cs : Nat → ClassId} {F : zF} {a va cap : Nat} {t : List Int} (h : oSB cs F a va cap t) : t.length ≤ cap ∧ 16 ≤ cap ∧ cap ≤ 10000 := by
  obtain ⟨ml, f, -, -, h1, -⟩ := h
  exact h1
theorem oWd.keep {cs : Nat → ClassId} {F F1 : zF} {q : Nat} {w : zWd} {b va cap : Nat} {fs : List Value} {f : Int → Int} (h : oWd cs F q w) (hk : zko [b, va] F F1) (hb : F b = some (.inr (1, fs))) (hv : F va = some (zA (cs 0) cap f)) (hc : 16 ≤ cap) : oWd cs F1 q w := by
  obtain ⟨la, ca, f, g, h1, h2, h3, h4, h5, h6⟩ := h
  have hl := h6.1
  refine ⟨la, ca, f, g, hk _ _ h1 ?_, hk _ _ h2 ?_, hk _ _ h3 ?_, h4, h5, h6⟩
  · exact zni1 (zne h1 hb (fun q => by cases q)) (zni1 (zne h1 hv (fun q => by cases q)) zni0)
  · exact zni1 (zne h2 hb (fun q => by cases q)) (zni1 (zneL h2 hv (by omega)) zni0)
  · exact zni1 (zne h3 hb (fun q => by cases q)) (zni1 (zneL h3 hv (by omega)) zni0)
set_option maxHeartbeats 4000000 in
set_option maxRecDepth 100000 in
theorem met_X1_writeTo (l : Launch) (D : va_G) (cs : Nat → ClassId) (A : Nat → Prop) (F : zF) (a : Nat) (x : zAr) (b va cap : Nat)  (hx1 : oAr cs F a x) (hb1 : oSB cs F b va cap []) (hid : x.1 ≤ 999) : zM l D cs A yX1_writeTo cX1_writeTo 7 (none : Option Jvm.ClassFile.FieldType) 10 50 1600 [.ref a, .ref b] F (pV (fun F1 => ∃ va1 cap1 : Nat, sbR cs F F1 b va va1 cap1 (zart x))) := by
  refine zM_of (own := RX1) (by decide) rfl (Nat.le_of_ble_eq_true rfl) ?_
  intro p e s m below meth c hC hr hlk hnm hZ ls hl
  have hx := hC.x
  have hb := hC.b
  have hl : lv_has ls 7 [(0, .ref a), (1, .ref b)] := hl
  obtain ⟨wa, h0, hws0, hxo⟩ := id hx1
  obtain ⟨h_, h1, h2⟩ := id hws0
  have hx6 := hxo.2.2.1
  have hx7 := hxo.1
  have hx8 := hxo.2.1
  obtain ⟨ml, f2_, b0, b1, hcap, b2, b3⟩ := id hb1
  have hnab : a ≠ b := zne h0 b0 (fun q => by cases q)
  have hnav : a ≠ va := zne h0 b1 (fun q => by cases q)
  have hnwb : wa ≠ b := zne h1 b0 (fun q => by cases q)
  have hnwv : wa ≠ va := zneR h1 b1
  have hR0 : sbR cs F F b va va cap [] := ⟨Or.inl rfl, zko.refl, hb1⟩
  have hd1 := zdig_len x.1
  have hd2 := zdig_len x.2.1
  have hz : ∀ {n : Nat}, n ≤ 16 → grw cap n = cap ∧ mcS cap n = 0 ∧ msS cap n = 0 := fun h => ⟨if_pos (by omega), if_pos (by omega), if_pos (by omega)⟩
  have z1 := hz (n := ([] : List Int).length + (zdig x.1).length) (by simp; omega)
  have z2 := hz (n := (zdig x.1).length + 1) (by omega)
  have z3 := hz (n := (zdig x.1 ++ [33]).length + (zdig x.2.1).length) (by simp; omega)
  refine lv_aload_n hx hb dX1_writeTo_0 rfl (lv_at hl 1 rfl) ?_
  refine lv_aload_n hx hb dX1_writeTo_1 rfl (lv_at hl 0 rfl) ?_
  refine z_get (T := TX1) (N := 3) (ci := 5) (k := 0) (fs := [.int (iI x.1), .int (iI x.2.1), .ref wa]) (v := .int (iI x.1)) hC hZ in_X1 rfl (by decide) ql_X1_7 rfl h0 rfl dX1_writeTo_2 ?_
  obtain ⟨fsho_1, ho_1⟩ := (hb1).o
  refine z_callr (z_runV (rest := []) (As := [.int (iI x.1)]) (n := 1) (ci := 1) hC hZ (met_J4_append_bf812 l D cs A F b va cap ([]) x.1 hb1 (by omega) (by simp)) gv_X1_40 hd_J4_append_bf812 rfl ho_1 rfl hl rfl (Nat.le_of_ble_eq_true rfl) ⟨Nat.le_of_ble_eq_true rfl, Nat.le_of_ble_eq_true rfl⟩ ⟨(by show _ ≤ 50; omega), (by show _ ≤ 1600; omega)⟩ dX1_writeTo_5) hZ (fun r5 F5 H locs hp5_c_2 hZ => ?_)
  obtain ⟨rfl, va5, ha5, hk5, hb5⟩ := hp5_c_2
  have ht5 : (([]) ++ zdig x.1) = zdig x.1 := (List.nil_append _)
  rw [ht5] at hb5
  have hc5 : (grw cap (([]).length + (zdig x.1).length)) = cap := z1.1
  rw [hc5] at hb5
  have hR5 : sbR cs F F5 b va va5 cap (zdig x.1) := hR0.step ha5 hk5 hb5
  have hf_3 : F5 a = some (.inr (5, [.int (iI x.1), .int (iI x.2.1), .ref wa])) := hR5.2.1 _ _ h0 (zni1 hnab (zni1 hnav zni0))
  have hf_4 : F5 wa = some (zO (cs 4) x.2.2.length h_) := hR5.2.1 _ _ h1 (zni1 hnwb (zni1 hnwv zni0))
  refine z_bipush hx hb dX1_writeTo_8 (by decide) ?_
  obtain ⟨fsho_5, ho_5⟩ := (hb5).o
  refine z_callr (z_runV (rest := []) (As := [.int (iI 33)]) (n := 1) (ci := 1) hC hZ (met_J4_append_cf468 l D cs A F5 b va5 cap (zdig x.1) 33 hb5 (by omega) (by omega)) gv_X1_46 hd_J4_append_cf468 rfl ho_5 rfl hl rfl (Nat.le_of_ble_eq_true rfl) ⟨Nat.le_of_ble_eq_true rfl, Nat.le_of_ble_eq_true rfl⟩ ⟨(by show _ ≤ 50; omega), (by show _ ≤ 1600; omega)⟩ dX1_writeTo_10) hZ (fun r10 F10 H locs hp10_c_6 hZ => ?_)
  obtain ⟨rfl, va10, ha10, hk10, hb10⟩ := hp10_c_6
  have hc10 : (grw cap ((zdig x.1).length + 1)) = cap := z2.1
  rw [hc10] at hb10
  have hR10 : sbR cs F F10 b va va10 cap ((zdig x.1) ++ [33]) := hR5.step ha10 hk10 hb10
  have hf_7 : F10 a = some (.inr (5, [.int (iI x.1), .int (iI x.2.1), .ref wa])) := hR10.2.1 _ _ h0 (zni1 hnab (zni1 hnav zni0))
  have hf_8 : F10 wa = some (zO (cs 4) x.2.2.length h_) := hR10.2.1 _ _ h1 (zni1 hnwb (zni1 hnwv zni0))
  refine lv_aload_n hx hb dX1_writeTo_13 rfl (lv_at hl 0 rfl) ?_
  refine z_get (T := TX1) (N := 3) (ci := 5) (k := 1) (fs := [.int (iI x.1), .int (iI x.2.1), .ref wa]) (v := .int (iI x.2.1)) hC hZ in_X1 rfl (by decide) ql_X1_13 rfl hf_7 rfl dX1_writeTo_14 ?_
  obtain ⟨fsho_9, ho_9⟩ := (hb10).o
  refine z_callr (z_runV (rest := []) (As := [.int (iI x.2.1)]) (n := 1) (ci := 1) hC hZ (met_J4_append_bf812 l D cs A F10 b va10 cap ((zdig x.1) ++ [33]) x.2.1 hb10 (by omega) (by simp; omega)) gv_X1_40 hd_J4_append_bf812 rfl ho_9 rfl hl rfl (Nat.le_of_ble_eq_true rfl) ⟨Nat.le_of_ble_eq_true rfl, Nat.le_of_ble_eq_true rfl⟩ ⟨(by show _ ≤ 50; omega), (by show _ ≤ 1600; omega)⟩ dX1_writeTo_17) hZ (fun r17 F17 H locs hp17_c_10 hZ => ?_)
  obtain ⟨rfl, va17, ha17, hk17, hb17⟩ := hp17_c_10
  have hc17 : (grw cap (((zdig x.1) ++ [33]).length + (zdig x.2.1).length)) = cap := z3.1
  rw [hc17] at hb17
  have hR17 : sbR cs F F17 b va va17 cap (((zdig x.1) ++ [33]) ++ zdig x.2.1) := hR10.step ha17 hk17 hb17
  have hf_11 : F17 a = some (.inr (5, [.int (iI x.1), .int (iI x.2.1), .ref wa])) := hR17.2.1 _ _ h0 (zni1 hnab (zni1 hnav zni0))
  have hf_12 : F17 wa = some (zO (cs 4) x.2.2.length h_) := hR17.2.1 _ _ h1 (zni1 hnwb (zni1 hnwv zni0))
  refine lv_pop hx hb dX1_writeTo_20 rfl ?_
  refine z_bipush hx hb dX1_writeTo_21 (by decide) ?_
  refine lv_istore_n (lv' := [(2, .int (iI 58)), (0, .ref a), (1, .ref b)]) hx hb dX1_writeTo_23 rfl hl (by decide) rfl (fun ls hl => ?_)
  refine lv_aload_n hx hb dX1_writeTo_24 rfl (lv_at hl 1 rfl) ?_
  refine z_get (T := TX1) (N := 3) (ci := 5) (k := 2) (fs := [.int (iI x.1), .int (iI x.2.1), .ref wa]) (v := .ref wa) hC hZ in_X1 rfl (by decide) ql_X1_16 rfl hf_11 rfl dX1_writeTo_25 ?_
  refine lv_astore_n (lv' := [(3, .ref wa), (2, .int (iI 58)), (0, .ref a), (1, .ref b)]) hx hb dX1_writeTo_28 rfl hl (by decide) rfl (fun ls hl => ?_)
  refine lv_aload_n hx hb dX1_writeTo_29 rfl (lv_at hl 0 rfl) ?_
  refine z_alen (t := 4) hC hZ hf_12 rfl dX1_writeTo_30 ?_
  refine lv_istore (lv' := [(4, .int (iI (x.2.2.length : Int))), (3, .ref wa), (2, .int (iI 58)), (0, .ref a), (1, .ref b)]) hx hb dX1_writeTo_31 hl (by decide) rfl (fun ls hl => ?_)
  refine z_iconst hx hb dX1_writeTo_33 ?_
  refine lv_istore (lv' := [(5, .int (iI 0)), (4, .int (iI (x.2.2.length : Int))), (3, .ref wa), (2, .int (iI 58)), (0, .ref a), (1, .ref b)]) hx hb dX1_writeTo_34 hl (by decide) rfl (fun ls hl => ?_)
  have L36_k_13 : ∀ (fu : Nat) (k ch : Int) (cU sU : Nat) (F2 : zF) (va2 cap2 : Nat) (hfu : ((x.2.2.length : Int) - k).toNat < fu) (hi36_0 : 0 ≤ k ∧ k ≤ (x.2.2.length : Int)) (hi36_1 : (k = 0 ∧ ch = 58) ∨ (¬ k = 0 ∧ ch = 32)) (hi36_2 : sU + 2 * cap ≤ 2 * cap2 ∧ 16 * cU + cap ≤ cap2) (hi36_3 : cap2 = cap ∨ cap2 ≤ 800) (hi36_4 : sbR cs F F2 b va va2 cap2 (zdig x.1 ++ [33] ++ zdig x.2.1 ++ zwt 58 (x.2.2.take k.toNat))) (H : Heap) (locs : List Loc) (hZ : zS D A s F2 H locs) (ls : Array Slot) (hl : lv_has ls 7 [(5, .int (iI k)), (4, .int (iI (x.2.2.length : Int))), (3, .ref wa), (2, .int (iI ch)), (0, .ref a), (1, .ref b)]), W p l e (zR 10 50 1600) s m [.ref a, .ref b].toArray below meth c H locs cU sU (MQ below (zQ D A (pV (fun F1 => ∃ va1 cap1 : Nat, sbR cs F F1 b va va1 cap1 (zart x)))) [.ref a, .ref b].toArray s 50 1600 A) (F0 m 36 ls []) := by
    intro fu
    induction fu with
    | zero =>
      intro k ch cU sU F2 va2 cap2 hfu
      exact absurd hfu (Nat.not_lt_zero _)
    | succ fu ih36 =>
      intro k ch cU sU F2 va2 cap2 hfu hi36_0 hi36_1 hi36_2 hi36_3 hi36_4  H locs hZ ls hl
      have hR2 := hi36_4
      have g0 : F2 a = _ := hR2.2.1 _ _ h0 (zni1 hnab (zni1 hnav zni0))
      have g1 : F2 wa = _ := hR2.2.1 _ _ h1 (zni1 hnwb (zni1 hnwv zni0))
      have hc2 := hR2.2.2.c
      have hz3 := zwt_len 58 (x.2.2.take k.toNat) (fun w hw => hxo.2.2.2 w (List.mem_of_mem_take hw))
      rw [List.length_take] at hz3
      refine lv_iload hx hb dX1_writeTo_36 (lv_at hl 0 rfl) ?_
      refine lv_iload hx hb dX1_writeTo_38 (lv_at hl 1 rfl) ?_
      refine z_icmp_ge (tgt := 70) hx hb dX1_writeTo_40 (by decide) (by omega) (by omega) (fun c_14 => ?_) (fun c_14 => ?_)
      · skip
        have hfin : sbR cs F F2 b va va2 cap2 (zart x) := by have e : k.toNat = x.2.2.length := (by omega); rw [e, List.take_length] at hR2; exact hR2
        exact z_vret hC hr hlk hZ (by omega) (by omega) (⟨va2, cap2, hfin⟩) dX1_writeTo_70
      · skip
        refine lv_aload_n hx hb dX1_writeTo_43 rfl (lv_at hl 2 rfl) ?_
        refine lv_iload hx hb dX1_writeTo_44 (lv_at hl 0 rfl) ?_
        obtain ⟨q46, hq46, hwd46⟩ := h2 k (by omega) (by omega)
        have hwo46 := ar_w hxo (k := k) (by omega) (by omega)
        have hwl46 := hwo46.1
        have hwat : x.2.2[k.toNat]? = some (x.2.2.getD k.toNat []) := by rw [List.getD_eq_getElem?_getD, List.getElem?_eq_getElem (by omega)]; rfl
        obtain ⟨fsq, hqo⟩ := hwd46.o
        refine z_aald (t := 4) (C := "StoneGazette$Word") (v := (some q46)) hC hZ g1 rfl (by omega) (by omega) hq46 dX1_writeTo_46 ?_
        refine lv_astore (lv' := [(6, .ref q46), (5, .int (iI k)), (4, .int (iI (x.2.2.length : Int))), (3, .ref wa), (2, .int (iI ch)), (0, .ref a), (1, .ref b)]) hx hb dX1_writeTo_47 hl (by decide) rfl (fun ls hl => ?_)
        refine lv_aload_n hx hb dX1_writeTo_49 rfl (lv_at hl 6 rfl) ?_
        refine lv_iload_n hx hb dX1_writeTo_50 rfl (lv_at hl 4 rfl) ?_
        have hT0 : (zdig x.1 ++ [33] ++ zdig x.2.1 ++ zwt 58 (x.2.2.take k.toNat)).length ≤ 7 + 13 * k.toNat := by simp only [List.length_append, List.length_singleton]; omega
        have hp1 := sbpot (cap := cap2) (n := (zdig x.1 ++ [33] ++ zdig x.2.1 ++ zwt 58 (x.2.2.take k.toNat)).length + 1) hc2.2.1
        obtain ⟨fsho_15, ho_15⟩ := (hR2.2.2).o
        refine z_callr (z_runV (rest := []) (As := [.int (iI ch)]) (n := 1) (ci := 1) hC hZ (met_J4_append_cf468 l D cs A F2 b va2 cap2 (zdig x.1 ++ [33] ++ zdig x.2.1 ++ zwt 58 (x.2.2.take k.toNat)) ch hR2.2.2 (by omega) (by omega)) gv_X1_46 hd_J4_append_cf468 rfl ho_15 rfl hl rfl (Nat.le_of_ble_eq_true rfl) ⟨Nat.le_of_ble_eq_true rfl, Nat.le_of_ble_eq_true rfl⟩ ⟨(by show _ ≤ 50; omega), (by show _ ≤ 1600; omega)⟩ dX1_writeTo_51) hZ (fun r51 F51 H locs hp51_c_16 hZ => ?_)
        obtain ⟨rfl, va51, ha51, hk51, hb51⟩ := hp51_c_16
        have hR51 : sbR cs F F51 b va va51 (grw cap2 ((zdig x.1 ++ [33] ++ zdig x.2.1 ++ zwt 58 (x.2.2.take k.toNat)).length + 1)) ((zdig x.1 ++ [33] ++ zdig x.2.1 ++ zwt 58 (x.2.2.take k.toNat)) ++ [ch]) := hR2.step ha51 hk51 hb51
        have hf_17 : F51 a = some (.inr (5, [.int (iI x.1), .int (iI x.2.1), .ref wa])) := hR51.2.1 _ _ h0 (zni1 hnab (zni1 hnav zni0))
        have hf_18 : F51 wa = some (zO (cs 4) x.2.2.length h_) := hR51.2.1 _ _ h1 (zni1 hnwb (zni1 hnwv zni0))
        refine lv_pop hx hb dX1_writeTo_54 rfl ?_
        refine lv_aload hx hb dX1_writeTo_55 (lv_at hl 0 rfl) ?_
        refine lv_aload_n hx hb dX1_writeTo_57 rfl (lv_at hl 6 rfl) ?_
        have hqnb : True := trivial
        have hwB := hwd46
        have hc3 := hR51.2.2.c
        have hT1 : (zdig x.1 ++ [33] ++ zdig x.2.1 ++ zwt 58 (x.2.2.take k.toNat) ++ [ch]).length = (zdig x.1 ++ [33] ++ zdig x.2.1 ++ zwt 58 (x.2.2.take k.toNat)).length + 1 := by rw [List.length_append]; rfl
        have hp2 := sbpot (cap := (grw cap2 ((zdig x.1 ++ [33] ++ zdig x.2.1 ++ zwt 58 (x.2.2.take k.toNat)).length + 1))) (n := (zdig x.1 ++ [33] ++ zdig x.2.1 ++ zwt 58 (x.2.2.take k.toNat) ++ [ch]).length + (x.2.2.getD k.toNat []).length) hc3.2.1
        have hwdF : oWd cs F51 q46 (x.2.2.getD k.toNat []) := hwd46.keep hR51.2.1 b0 b1 (by omega)
        obtain ⟨fsB, hqB⟩ := hwdF.o
        refine z_callv (z_runV (rest := []) (As := [.ref b]) (n := 1) (ci := 14) hC hZ (met_X11_writeTo l D cs A F51 q46 (x.2.2.getD k.toNat []) b va51 (grw cap2 ((zdig x.1 ++ [33] ++ zdig x.2.1 ++ zwt 58 (x.2.2.take k.toNat)).length + 1)) ((zdig x.1 ++ [33] ++ zdig x.2.1 ++ zwt 58 (x.2.2.take k.toNat)) ++ [ch]) hwdF hb51 (by omega)) gv_X1_49 hd_X11_writeTo rfl hqB rfl hl rfl (Nat.le_of_ble_eq_true rfl) ⟨Nat.le_of_ble_eq_true rfl, Nat.le_of_ble_eq_true rfl⟩ ⟨(by show _ ≤ 50; omega), (by show _ ≤ 1600; omega)⟩ dX1_writeTo_58) hZ (fun F58 H locs hp58_c_19 hZ => ?_)
        obtain ⟨va58, ha58, hk58, hb58⟩ := hp58_c_19
        have ht58 : (((zdig x.1 ++ [33] ++ zdig x.2.1 ++ zwt 58 (x.2.2.take k.toNat)) ++ [ch]) ++ (x.2.2.getD k.toNat [])) = zdig x.1 ++ [33] ++ zdig x.2.1 ++ zwt 58 (x.2.2.take (k + 1).toNat) := (by rw [zwt_s (by omega) hwat]; have : ch = if k = 0 then 58 else 32 := (by split <;> omega); rw [← this]; simp only [List.append_assoc])
        rw [ht58] at hb58
        have hR58 : sbR cs F F58 b va va58 (grw (grw cap2 ((zdig x.1 ++ [33] ++ zdig x.2.1 ++ zwt 58 (x.2.2.take k.toNat)).length + 1)) (((zdig x.1 ++ [33] ++ zdig x.2.1 ++ zwt 58 (x.2.2.take k.toNat)) ++ [ch]).length + (x.2.2.getD k.toNat []).length)) (zdig x.1 ++ [33] ++ zdig x.2.1 ++ zwt 58 (x.2.2.take (k + 1).toNat)) := hR51.step ha58 hk58 hb58
        have hf_20 : F58 a = some (.inr (5, [.int (iI x.1), .int (iI x.2.1), .ref wa])) := hR58.2.1 _ _ h0 (zni1 hnab (zni1 hnav zni0))
        have hf_21 : F58 wa = some (zO (cs 4) x.2.2.length h_) := hR58.2.1 _ _ h1 (zni1 hnwb (zni1 hnwv zni0))
        refine z_bipush hx hb dX1_writeTo_61 (by decide) ?_
        refine lv_istore_n (lv' := [(2, .int (iI 32)), (6, .ref q46), (5, .int (iI k)), (4, .int (iI (x.2.2.length : Int))), (3, .ref wa), (0, .ref a), (1, .ref b)]) hx hb dX1_writeTo_63 rfl hl (by decide) rfl (fun ls hl => ?_)
        refine z_iinc (lv' := [(5, .int (iI (k + 1))), (2, .int (iI 32)), (6, .ref q46), (4, .int (iI (x.2.2.length : Int))), (3, .ref wa), (0, .ref a), (1, .ref b)]) hx hb dX1_writeTo_64 hl (k := 2) rfl (by decide) rfl (fun ls hl => ?_)
        refine lv_goto (tgt := 36) hx hb dX1_writeTo_67 (by decide) ?_
        refine W.widen (k := (cU + (mcS cap2 ((zdig x.1 ++ [33] ++ zdig x.2.1 ++ zwt 58 (x.2.2.take k.toNat)).length + 1)) + (mcS (grw cap2 ((zdig x.1 ++ [33] ++ zdig x.2.1 ++ zwt 58 (x.2.2.take k.toNat)).length + 1)) (((zdig x.1 ++ [33] ++ zdig x.2.1 ++ zwt 58 (x.2.2.take k.toNat)) ++ [ch]).length + (x.2.2.getD k.toNat []).length)))) (n := (sU + (msS cap2 ((zdig x.1 ++ [33] ++ zdig x.2.1 ++ zwt 58 (x.2.2.take k.toNat)).length + 1)) + (msS (grw cap2 ((zdig x.1 ++ [33] ++ zdig x.2.1 ++ zwt 58 (x.2.2.take k.toNat)).length + 1)) (((zdig x.1 ++ [33] ++ zdig x.2.1 ++ zwt 58 (x.2.2.take k.toNat)) ++ [ch]).length + (x.2.2.getD k.toNat []).length)))) (by omega) (by omega) ?_
        exact ih36 (k + 1) 32 (cU + (mcS cap2 ((zdig x.1 ++ [33] ++ zdig x.2.1 ++ zwt 58 (x.2.2.take k.toNat)).length + 1)) + (mcS (grw cap2 ((zdig x.1 ++ [33] ++ zdig x.2.1 ++ zwt 58 (x.2.2.take k.toNat)).length + 1)) (((zdig x.1 ++ [33] ++ zdig x.2.1 ++ zwt 58 (x.2.2.take k.toNat)) ++ [ch]).length + (x.2.2.getD k.toNat []).length))) (sU + (msS cap2 ((zdig x.1 ++ [33] ++ zdig x.2.1 ++ zwt 58 (x.2.2.take k.toNat)).length + 1)) + (msS (grw cap2 ((zdig x.1 ++ [33] ++ zdig x.2.1 ++ zwt 58 (x.2.2.take k.toNat)).length + 1)) (((zdig x.1 ++ [33] ++ zdig x.2.1 ++ zwt 58 (x.2.2.take k.toNat)) ++ [ch]).length + (x.2.2.getD k.toNat []).length))) F58 va58 (grw (grw cap2 ((zdig x.1 ++ [33] ++ zdig x.2.1 ++ zwt 58 (x.2.2.take k.toNat)).length + 1)) (((zdig x.1 ++ [33] ++ zdig x.2.1 ++ zwt 58 (x.2.2.take k.toNat)) ++ [ch]).length + (x.2.2.getD k.toNat []).length)) (by omega) (by omega) (Or.inr ⟨by omega, rfl⟩) (by omega) (by omega) hR58  _ _ hZ ls (lv_sub hl [0, 3, 4, 1, 5, 6] rfl)
  refine W.widen (k := (0 + (mcS cap (([]).length + (zdig x.1).length)) + (mcS cap ((zdig x.1).length + 1)) + (mcS cap (((zdig x.1) ++ [33]).length + (zdig x.2.1).length)))) (n := (0 + (msS cap (([]).length + (zdig x.1).length)) + (msS cap ((zdig x.1).length + 1)) + (msS cap (((zdig x.1) ++ [33]).length + (zdig x.2.1).length)))) (by omega) (by omega) ?_
  exact L36_k_13 _ (0 : Int) 58 (0 + (mcS cap (([]).length + (zdig x.1).length)) + (mcS cap ((zdig x.1).length + 1)) + (mcS cap (((zdig x.1) ++ [33]).length + (zdig x.2.1).length))) (0 + (msS cap (([]).length + (zdig x.1).length)) + (msS cap ((zdig x.1).length + 1)) + (msS cap (((zdig x.1) ++ [33]).length + (zdig x.2.1).length))) F17 va17 cap (Nat.lt_succ_self _) (by omega) (Or.inl ⟨rfl, rfl⟩) (by omega) (Or.inl rfl) (by have := hR17; rw [show zwt 58 (x.2.2.take (0 : Int).toNat) = [] from rfl, List.append_nil]; exact this)  _ _ hZ ls (lv_sub hl [0, 1, 2, 3, 4, 5] rfl)
