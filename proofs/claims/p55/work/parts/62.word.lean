theorem oWd.o {cs : Nat → ClassId} {F : zF} {a : Nat} {w : zWd} (h : oWd cs F a w) : ∃ fs, F a = some (.inr (14, fs)) := by
  obtain ⟨la, ca, f, g, h1, -⟩ := h
  exact ⟨_, h1⟩
theorem zcuts_end {w : zWd} {n : Nat} (h : w.length ≤ n) : zcuts w n = zcuts w w.length := by
  induction n with
  | zero => rw [Nat.le_zero.mp h]
  | succ n ih =>
    by_cases q : w.length = n + 1
    · rw [q]
    · rw [show zcuts w (n + 1) = zcuts w n + _ from rfl, if_neg (by omega), Int.add_zero]
      exact ih (by omega)
theorem wd_g {w : zWd} (h : wdOK w) {k : Int} (h0 : 0 ≤ k) (h1 : k < w.length) : 97 ≤ w.getD k.toNat 0 ∧ w.getD k.toNat 0 ≤ 122 := by
  have hl : k.toNat < w.length := by omega
  rw [List.getD_eq_getElem?_getD, List.getElem?_eq_getElem hl]
  exact h.2 _ (List.getElem_mem hl)
theorem cutOK_i {w : zWd} {k : Int} (h1 : 2 ≤ k) (h2 : k ≤ (w.length : Int) - 2) : cutOK w k ↔ isV (w.getD (k - 1).toNat 0) = true ∧ isV (w.getD k.toNat 0) = false := by
  have e : k.toNat - 1 = (k - 1).toNat := by omega
  unfold cutOK
  rw [e]
  exact ⟨fun h => h.2.2, fun h => ⟨h1, h2, h⟩⟩
set_option maxHeartbeats 4000000 in
set_option maxRecDepth 100000 in
theorem met_X11_isVowel (l : Launch) (D : va_G) (cs : Nat → ClassId) (A : Nat → Prop) (F : zF) (x : Int)  (hx0 : 0 ≤ x ∧ x ≤ 65535) : zM l D cs A yX11_isVowel cX11_isVowel 1 (some FieldType.boolean) 1 0 0 [.int (iI x)] F (pI (fun r F1 => F = F1 ∧ (isV x = true ∧ r = 1 ∨ isV x = false ∧ r = 0))) := by
  refine zM_of (own := RX11) (by decide) rfl (Nat.le_of_ble_eq_true rfl) ?_
  intro p e s m below meth c hC hr hlk hnm hZ ls hl
  have hx := hC.x
  have hb := hC.b
  have hl : lv_has ls 1 [(0, .int (iI x))] := hl
  refine lv_iload_n hx hb dX11_isVowel_0 rfl (lv_at hl 0 rfl) ?_
  refine z_bipush hx hb dX11_isVowel_1 (by decide) ?_
  refine z_icmp_eq (tgt := 30) hx hb dX11_isVowel_3 (by decide) (by omega) (by decide) (fun c_1 => ?_) (fun c_1 => ?_)
  · skip
    refine z_iconst hx hb dX11_isVowel_30 ?_
    refine lv_goto (tgt := 35) hx hb dX11_isVowel_31 (by decide) ?_
    exact z_zret hC hr hlk hZ rfl (by decide) (by decide) (⟨rfl, Or.inl ⟨by (unfold isV; simp; omega), rfl⟩⟩) dX11_isVowel_35
  · skip
    refine lv_iload_n hx hb dX11_isVowel_6 rfl (lv_at hl 0 rfl) ?_
    refine z_bipush hx hb dX11_isVowel_7 (by decide) ?_
    refine z_icmp_eq (tgt := 30) hx hb dX11_isVowel_9 (by decide) (by omega) (by decide) (fun c_2 => ?_) (fun c_2 => ?_)
    · skip
      refine z_iconst hx hb dX11_isVowel_30 ?_
      refine lv_goto (tgt := 35) hx hb dX11_isVowel_31 (by decide) ?_
      exact z_zret hC hr hlk hZ rfl (by decide) (by decide) (⟨rfl, Or.inl ⟨by (unfold isV; simp; omega), rfl⟩⟩) dX11_isVowel_35
    · skip
      refine lv_iload_n hx hb dX11_isVowel_12 rfl (lv_at hl 0 rfl) ?_
      refine z_bipush hx hb dX11_isVowel_13 (by decide) ?_
      refine z_icmp_eq (tgt := 30) hx hb dX11_isVowel_15 (by decide) (by omega) (by decide) (fun c_3 => ?_) (fun c_3 => ?_)
      · skip
        refine z_iconst hx hb dX11_isVowel_30 ?_
        refine lv_goto (tgt := 35) hx hb dX11_isVowel_31 (by decide) ?_
        exact z_zret hC hr hlk hZ rfl (by decide) (by decide) (⟨rfl, Or.inl ⟨by (unfold isV; simp; omega), rfl⟩⟩) dX11_isVowel_35
      · skip
        refine lv_iload_n hx hb dX11_isVowel_18 rfl (lv_at hl 0 rfl) ?_
        refine z_bipush hx hb dX11_isVowel_19 (by decide) ?_
        refine z_icmp_eq (tgt := 30) hx hb dX11_isVowel_21 (by decide) (by omega) (by decide) (fun c_4 => ?_) (fun c_4 => ?_)
        · skip
          refine z_iconst hx hb dX11_isVowel_30 ?_
          refine lv_goto (tgt := 35) hx hb dX11_isVowel_31 (by decide) ?_
          exact z_zret hC hr hlk hZ rfl (by decide) (by decide) (⟨rfl, Or.inl ⟨by (unfold isV; simp; omega), rfl⟩⟩) dX11_isVowel_35
        · skip
          refine lv_iload_n hx hb dX11_isVowel_24 rfl (lv_at hl 0 rfl) ?_
          refine z_bipush hx hb dX11_isVowel_25 (by decide) ?_
          refine z_icmp_ne (tgt := 34) hx hb dX11_isVowel_27 (by decide) (by omega) (by decide) (fun c_5 => ?_) (fun c_5 => ?_)
          · skip
            refine z_iconst hx hb dX11_isVowel_34 ?_
            exact z_zret hC hr hlk hZ rfl (by decide) (by decide) (⟨rfl, Or.inr ⟨by (unfold isV; simp; omega), rfl⟩⟩) dX11_isVowel_35
          · skip
            refine z_iconst hx hb dX11_isVowel_30 ?_
            refine lv_goto (tgt := 35) hx hb dX11_isVowel_31 (by decide) ?_
            exact z_zret hC hr hlk hZ rfl (by decide) (by decide) (⟨rfl, Or.inl ⟨by (unfold isV; simp; omega), rfl⟩⟩) dX11_isVowel_35

set_option maxHeartbeats 4000000 in
set_option maxRecDepth 100000 in
theorem met_X11_letterCount (l : Launch) (D : va_G) (cs : Nat → ClassId) (A : Nat → Prop) (F : zF) (a : Nat) (w : zWd)  (hw : oWd cs F a w) : zM l D cs A yX11_letterCount cX11_letterCount 1 (some FieldType.int) 1 0 0 [.ref a] F (pI (fun r F1 => F = F1 ∧ (w.length : Int) = r)) := by
  refine zM_of (own := RX11) (by decide) rfl (Nat.le_of_ble_eq_true rfl) ?_
  intro p e s m below meth c hC hr hlk hnm hZ ls hl
  have hx := hC.x
  have hb := hC.b
  have hl : lv_has ls 1 [(0, .ref a)] := hl
  obtain ⟨la, ca, f_, g_, h0, h1, h2, h3, h4, h5⟩ := id hw
  have h51 := h5.1
  refine lv_aload_n hx hb dX11_letterCount_0 rfl (lv_at hl 0 rfl) ?_
  refine z_get (T := TX11) (N := 2) (ci := 14) (k := 0) (fs := [.ref la, .ref ca]) (v := .ref la) hC hZ in_X11 rfl (by decide) ql_X11_9 rfl h0 rfl dX11_letterCount_1 ?_
  refine z_alen (t := 1) hC hZ h1 rfl dX11_letterCount_4 ?_
  exact z_iret hC hr hlk hZ (by decide) (by decide) (⟨rfl, rfl⟩) dX11_letterCount_5

set_option maxHeartbeats 4000000 in
set_option maxRecDepth 100000 in
theorem met_X11_hasCutAt (l : Launch) (D : va_G) (cs : Nat → ClassId) (A : Nat → Prop) (F : zF) (a : Nat) (w : zWd) (x : Int)  (hw : oWd cs F a w) (hp : InR x) : zM l D cs A yX11_hasCutAt cX11_hasCutAt 2 (some FieldType.boolean) 1 0 0 [.ref a, .int (iI x)] F (pI (fun r F1 => F = F1 ∧ ((cutOK w x ∧ r = 1) ∨ (¬ cutOK w x ∧ r = 0)))) := by
  refine zM_of (own := RX11) (by decide) rfl (Nat.le_of_ble_eq_true rfl) ?_
  intro p e s m below meth c hC hr hlk hnm hZ ls hl
  have hx := hC.x
  have hb := hC.b
  have hl : lv_has ls 2 [(0, .ref a), (1, .int (iI x))] := hl
  obtain ⟨la, ca, f_, g_, h0, h1, h2, h3, h4, h5⟩ := id hw
  have h51 := h5.1
  refine lv_iload_n hx hb dX11_hasCutAt_0 rfl (lv_at hl 1 rfl) ?_
  refine z_if_lt (tgt := 26) hx hb dX11_hasCutAt_1 (by decide) (by omega) (fun c_1 => ?_) (fun c_1 => ?_)
  · skip
    have hnc : ¬ cutOK w x := fun q => by unfold cutOK at q; omega
    refine z_iconst hx hb dX11_hasCutAt_26 ?_
    exact z_zret hC hr hlk hZ rfl (by decide) (by decide) (⟨rfl, Or.inr ⟨hnc, rfl⟩⟩) dX11_hasCutAt_27
  · skip
    refine lv_iload_n hx hb dX11_hasCutAt_4 rfl (lv_at hl 1 rfl) ?_
    refine lv_aload_n hx hb dX11_hasCutAt_5 rfl (lv_at hl 0 rfl) ?_
    refine z_get (T := TX11) (N := 2) (ci := 14) (k := 1) (fs := [.ref la, .ref ca]) (v := .ref ca) hC hZ in_X11 rfl (by decide) ql_X11_15 rfl h0 rfl dX11_hasCutAt_6 ?_
    refine z_alen (t := 3) hC hZ h2 rfl dX11_hasCutAt_9 ?_
    refine z_icmp_ge (tgt := 26) hx hb dX11_hasCutAt_10 (by decide) (by omega) (by omega) (fun c_2 => ?_) (fun c_2 => ?_)
    · skip
      have hnc : ¬ cutOK w x := fun q => by unfold cutOK at q; omega
      refine z_iconst hx hb dX11_hasCutAt_26 ?_
      exact z_zret hC hr hlk hZ rfl (by decide) (by decide) (⟨rfl, Or.inr ⟨hnc, rfl⟩⟩) dX11_hasCutAt_27
    · skip
      have hg := h4 x (by omega) (by omega)
      have hgr : g_ x = 0 ∨ g_ x = 1 := by omega
      refine lv_aload_n hx hb dX11_hasCutAt_13 rfl (lv_at hl 0 rfl) ?_
      refine z_get (T := TX11) (N := 2) (ci := 14) (k := 1) (fs := [.ref la, .ref ca]) (v := .ref ca) hC hZ in_X11 rfl (by decide) ql_X11_15 rfl h0 rfl dX11_hasCutAt_14 ?_
      refine lv_iload_n hx hb dX11_hasCutAt_17 rfl (lv_at hl 1 rfl) ?_
      refine z_zald hC hZ h2 (by omega) (by omega) dX11_hasCutAt_18 ?_
      refine z_if_eq (tgt := 26) hx hb dX11_hasCutAt_19 (by decide) (by omega) (fun c_3 => ?_) (fun c_3 => ?_)
      · skip
        have hnc : ¬ cutOK w x := hg.elim (fun q => absurd q.2 (by omega)) (fun q => q.1)
        refine z_iconst hx hb dX11_hasCutAt_26 ?_
        exact z_zret hC hr hlk hZ rfl (by decide) (by decide) (⟨rfl, Or.inr ⟨hnc, rfl⟩⟩) dX11_hasCutAt_27
      · skip
        have hyc : cutOK w x := hg.elim (fun q => q.1) (fun q => absurd q.2 (by omega))
        refine z_iconst hx hb dX11_hasCutAt_22 ?_
        refine lv_goto (tgt := 27) hx hb dX11_hasCutAt_23 (by decide) ?_
        exact z_zret hC hr hlk hZ rfl (by decide) (by decide) (⟨rfl, Or.inl ⟨hyc, rfl⟩⟩) dX11_hasCutAt_27

set_option maxHeartbeats 4000000 in
set_option maxRecDepth 100000 in
theorem met_X11_countCuts (l : Launch) (D : va_G) (cs : Nat → ClassId) (A : Nat → Prop) (F : zF) (a : Nat) (w : zWd)  (hw : oWd cs F a w) : zM l D cs A yX11_countCuts cX11_countCuts 6 (some FieldType.int) 1 0 0 [.ref a] F (pI (fun r F1 => F = F1 ∧ sDiv w = r)) := by
  refine zM_of (own := RX11) (by decide) rfl (Nat.le_of_ble_eq_true rfl) ?_
  intro p e s m below meth c hC hr hlk hnm hZ ls hl
  have hx := hC.x
  have hb := hC.b
  have hl : lv_has ls 6 [(0, .ref a)] := hl
  obtain ⟨la, ca, f_, g_, h0, h1, h2, h3, h4, h5⟩ := id hw
  have h51 := h5.1
  refine z_iconst hx hb dX11_countCuts_0 ?_
  refine lv_istore_n (lv' := [(1, .int (iI 0)), (0, .ref a)]) hx hb dX11_countCuts_1 rfl hl (by decide) rfl (fun ls hl => ?_)
  refine lv_aload_n hx hb dX11_countCuts_2 rfl (lv_at hl 1 rfl) ?_
  refine z_get (T := TX11) (N := 2) (ci := 14) (k := 1) (fs := [.ref la, .ref ca]) (v := .ref ca) hC hZ in_X11 rfl (by decide) ql_X11_15 rfl h0 rfl dX11_countCuts_3 ?_
  refine lv_astore_n (lv' := [(2, .ref ca), (1, .int (iI 0)), (0, .ref a)]) hx hb dX11_countCuts_6 rfl hl (by decide) rfl (fun ls hl => ?_)
  refine lv_aload_n hx hb dX11_countCuts_7 rfl (lv_at hl 0 rfl) ?_
  refine z_alen (t := 3) hC hZ h2 rfl dX11_countCuts_8 ?_
  refine lv_istore_n (lv' := [(3, .int (iI (w.length : Int))), (2, .ref ca), (1, .int (iI 0)), (0, .ref a)]) hx hb dX11_countCuts_9 rfl hl (by decide) rfl (fun ls hl => ?_)
  refine z_iconst hx hb dX11_countCuts_10 ?_
  refine lv_istore (lv' := [(4, .int (iI 0)), (3, .int (iI (w.length : Int))), (2, .ref ca), (1, .int (iI 0)), (0, .ref a)]) hx hb dX11_countCuts_11 hl (by decide) rfl (fun ls hl => ?_)
  have L13_k_1 : ∀ (fu : Nat) (n k : Int)  (hfu : ((w.length : Int) - k).toNat < fu) (hi13_0 : 0 ≤ k ∧ k ≤ (w.length : Int)) (hi13_1 : n = zcuts w k.toNat ∧ 0 ≤ n ∧ n ≤ k) (H : Heap) (locs : List Loc) (hZ : zS D A s F H locs) (ls : Array Slot) (hl : lv_has ls 6 [(4, .int (iI k)), (3, .int (iI (w.length : Int))), (2, .ref ca), (1, .int (iI n)), (0, .ref a)]), W p l e (zR 1 0 0) s m [.ref a].toArray below meth c H locs 0 0 (MQ below (zQ D A (pI (fun r F1 => F = F1 ∧ sDiv w = r))) [.ref a].toArray s 0 0 A) (F0 m 13 ls []) := by
    intro fu
    induction fu with
    | zero =>
      intro n k  hfu
      exact absurd hfu (Nat.not_lt_zero _)
    | succ fu ih13 =>
      intro n k  hfu hi13_0 hi13_1  H locs hZ ls hl
      refine lv_iload hx hb dX11_countCuts_13 (lv_at hl 0 rfl) ?_
      refine lv_iload_n hx hb dX11_countCuts_15 rfl (lv_at hl 1 rfl) ?_
      refine z_icmp_ge (tgt := 39) hx hb dX11_countCuts_16 (by decide) (by omega) (by omega) (fun c_2 => ?_) (fun c_2 => ?_)
      · skip
        have hfin : sDiv w = n := by unfold sDiv; rw [hi13_1.1, zcuts_end (by omega : w.length ≤ 12), show k.toNat = w.length by omega]
        refine lv_iload_n hx hb dX11_countCuts_39 rfl (lv_at hl 3 rfl) ?_
        exact z_iret hC hr hlk hZ (by decide) (by decide) (⟨rfl, hfin⟩) dX11_countCuts_40
      · skip
        refine lv_aload_n hx hb dX11_countCuts_19 rfl (lv_at hl 2 rfl) ?_
        refine lv_iload hx hb dX11_countCuts_20 (lv_at hl 0 rfl) ?_
        refine z_zald hC hZ h2 (by omega) (by omega) dX11_countCuts_22 ?_
        have hg := h4 k (by omega) (by omega)
        have hs0 := zcuts_s (w := w) (x := k) (by omega)
        have hs : (g_ k = 1 ∧ zcuts w (k + 1).toNat = zcuts w k.toNat + 1) ∨ (g_ k = 0 ∧ zcuts w (k + 1).toNat = zcuts w k.toNat) := hg.elim (fun y => hs0.elim (fun z => Or.inl ⟨y.2, z.2⟩) (fun z => absurd y.1 z.1)) (fun y => hs0.elim (fun z => absurd z.1 y.1) (fun z => Or.inr ⟨y.2, z.2⟩))
        refine lv_istore (lv' := [(5, .int (iI (g_ k))), (4, .int (iI k)), (3, .int (iI (w.length : Int))), (2, .ref ca), (1, .int (iI n)), (0, .ref a)]) hx hb dX11_countCuts_23 hl (by decide) rfl (fun ls hl => ?_)
        refine lv_iload hx hb dX11_countCuts_25 (lv_at hl 0 rfl) ?_
        refine z_if_eq (tgt := 33) hx hb dX11_countCuts_27 (by decide) (by omega) (fun c_3 => ?_) (fun c_3 => ?_)
        · skip
          refine z_iinc (lv' := [(4, .int (iI (k + 1))), (5, .int (iI (g_ k))), (3, .int (iI (w.length : Int))), (2, .ref ca), (1, .int (iI n)), (0, .ref a)]) hx hb dX11_countCuts_33 hl (k := 1) rfl (by decide) rfl (fun ls hl => ?_)
          refine lv_goto (tgt := 13) hx hb dX11_countCuts_36 (by decide) ?_
          exact ih13 n (k + 1)  (by omega) (by omega) (by omega)  _ _ hZ ls (lv_sub hl [0, 2, 3, 4, 5] rfl)
        · skip
          refine z_iinc (lv' := [(1, .int (iI (n + 1))), (5, .int (iI (g_ k))), (4, .int (iI k)), (3, .int (iI (w.length : Int))), (2, .ref ca), (0, .ref a)]) hx hb dX11_countCuts_30 hl (k := 4) rfl (by decide) rfl (fun ls hl => ?_)
          refine z_iinc (lv' := [(4, .int (iI (k + 1))), (1, .int (iI (n + 1))), (5, .int (iI (g_ k))), (3, .int (iI (w.length : Int))), (2, .ref ca), (0, .ref a)]) hx hb dX11_countCuts_33 hl (k := 2) rfl (by decide) rfl (fun ls hl => ?_)
          refine lv_goto (tgt := 13) hx hb dX11_countCuts_36 (by decide) ?_
          exact ih13 (n + 1) (k + 1)  (by omega) (by omega) (by omega)  _ _ hZ ls (lv_sub hl [0, 3, 4, 1, 5] rfl)
  exact L13_k_1 _ 0 0  (Nat.lt_succ_self _) (by omega) ⟨rfl, by decide, by decide⟩  _ _ hZ ls (lv_sub hl [0, 1, 2, 3, 4] rfl)

set_option maxHeartbeats 4000000 in
set_option maxRecDepth 100000 in
theorem met_X11_lastCut (l : Launch) (D : va_G) (cs : Nat → ClassId) (A : Nat → Prop) (F : zF) (a : Nat) (w : zWd) (b m1 : Int)  (hw : oWd cs F a w) (hb0 : 0 ≤ b ∧ b ≤ 12) (hm : -1000 ≤ m1 ∧ m1 ≤ 1000) : zM l D cs A yX11_lastCut cX11_lastCut 4 (some FieldType.int) 2 0 0 [.ref a, .int (iI b), .int (iI m1)] F (pI (fun r F1 => F = F1 ∧ ((r = -1 ∧ ∀ p : Int, b < p → p ≤ b + m1 → ¬ cutOK w p) ∨ (b < r ∧ r ≤ b + m1 ∧ cutOK w r ∧ ∀ p : Int, r < p → p ≤ b + m1 → ¬ cutOK w p)))) := by
  refine zM_of (own := RX11) (by decide) rfl (Nat.le_of_ble_eq_true rfl) ?_
  intro p e s m below meth c hC hr hlk hnm hZ ls hl
  have hx := hC.x
  have hb := hC.b
  have hl : lv_has ls 4 [(0, .ref a), (1, .int (iI b)), (2, .int (iI m1))] := hl
  obtain ⟨la, ca, f_, g_, h0, h1, h2, h3, h4, h5⟩ := id hw
  have h51 := h5.1
  refine lv_iload_n hx hb dX11_lastCut_0 rfl (lv_at hl 1 rfl) ?_
  refine lv_iload_n hx hb dX11_lastCut_1 rfl (lv_at hl 2 rfl) ?_
  refine z_iadd hx hb dX11_lastCut_2 ?_
  refine lv_istore_n (lv' := [(3, .int (iI (b + m1))), (0, .ref a), (1, .int (iI b)), (2, .int (iI m1))]) hx hb dX11_lastCut_3 rfl hl (by decide) rfl (fun ls hl => ?_)
  have L4_k_1 : ∀ (fu : Nat) (k : Int)  (hfu : (k - b).toNat < fu) (hi4_0 : -1000 ≤ k ∧ k ≤ b + m1) (hi4_1 : ∀ p : Int, k < p → p ≤ b + m1 → ¬ cutOK w p) (H : Heap) (locs : List Loc) (hZ : zS D A s F H locs) (ls : Array Slot) (hl : lv_has ls 4 [(3, .int (iI k)), (0, .ref a), (1, .int (iI b)), (2, .int (iI m1))]), W p l e (zR 2 0 0) s m [.ref a, .int (iI b), .int (iI m1)].toArray below meth c H locs 0 0 (MQ below (zQ D A (pI (fun r F1 => F = F1 ∧ ((r = -1 ∧ ∀ p : Int, b < p → p ≤ b + m1 → ¬ cutOK w p) ∨ (b < r ∧ r ≤ b + m1 ∧ cutOK w r ∧ ∀ p : Int, r < p → p ≤ b + m1 → ¬ cutOK w p))))) [.ref a, .int (iI b), .int (iI m1)].toArray s 0 0 A) (F0 m 4 ls []) := by
    intro fu
    induction fu with
    | zero =>
      intro k  hfu
      exact absurd hfu (Nat.not_lt_zero _)
    | succ fu ih4 =>
      intro k  hfu hi4_0 hi4_1  H locs hZ ls hl
      refine lv_iload_n hx hb dX11_lastCut_4 rfl (lv_at hl 0 rfl) ?_
      refine lv_iload_n hx hb dX11_lastCut_5 rfl (lv_at hl 2 rfl) ?_
      refine z_icmp_le (tgt := 25) hx hb dX11_lastCut_6 (by decide) (by omega) (by omega) (fun c_2 => ?_) (fun c_2 => ?_)
      · skip
        have hfin : ∀ p : Int, b < p → p ≤ b + m1 → ¬ cutOK w p := fun p h1 h2 => hi4_1 p (by omega) h2
        refine z_iconst hx hb dX11_lastCut_25 ?_
        exact z_iret hC hr hlk hZ (by decide) (by decide) (⟨rfl, Or.inl ⟨rfl, hfin⟩⟩) dX11_lastCut_26
      · skip
        refine lv_aload_n hx hb dX11_lastCut_9 rfl (lv_at hl 1 rfl) ?_
        refine lv_iload_n hx hb dX11_lastCut_10 rfl (lv_at hl 0 rfl) ?_
        refine z_calli (z_runV (rest := []) (As := [.int (iI k)]) (n := 1) (ci := 14) hC hZ (met_X11_hasCutAt l D cs A F a w k hw (by omega)) gv_X11_23 hd_X11_hasCutAt rfl h0 rfl hl rfl (Nat.le_of_ble_eq_true rfl) ⟨Nat.le_of_ble_eq_true rfl, Nat.le_of_ble_eq_true rfl⟩ ⟨Nat.le_of_ble_eq_true rfl, Nat.le_of_ble_eq_true rfl⟩ dX11_lastCut_11) hZ (fun r11 F11 H locs hp11_c_3 hZ => ?_)
        obtain ⟨rfl, hp11_c_3⟩ := hp11_c_3
        refine z_if_eq (tgt := 19) hx hb dX11_lastCut_14 (by decide) (by omega) (fun c_4 => ?_) (fun c_4 => ?_)
        · skip
          have hnc : ¬ cutOK w k := hp11_c_3.elim (fun q => absurd q.2 (by omega)) (fun q => q.1)
          refine z_iinc (lv' := [(3, .int (iI (k + (-1)))), (0, .ref a), (1, .int (iI b)), (2, .int (iI m1))]) hx hb dX11_lastCut_19 hl (k := 0) rfl (by decide) rfl (fun ls hl => ?_)
          refine lv_goto (tgt := 4) hx hb dX11_lastCut_22 (by decide) ?_
          exact ih4 (k + (-1))  (by omega) (by omega) (fun p h1 h2 => by by_cases q : p = k; (rw [q]; exact hnc); exact hi4_1 p (by omega) h2)  _ _ hZ ls (lv_sub hl [0, 1, 2, 3] rfl)
        · skip
          have hyc : cutOK w k := hp11_c_3.elim (fun q => q.1) (fun q => absurd q.2 (by omega))
          refine lv_iload_n hx hb dX11_lastCut_17 rfl (lv_at hl 0 rfl) ?_
          exact z_iret hC hr hlk hZ (by decide) (by decide) (⟨rfl, Or.inr ⟨by omega, by omega, hyc, hi4_1⟩⟩) dX11_lastCut_18
  exact L4_k_1 _ (b + m1)  (Nat.lt_succ_self _) (by omega) (fun p h1 h2 => absurd h1 (by omega))  _ _ hZ ls (lv_sub hl [0, 1, 2, 3] rfl)
