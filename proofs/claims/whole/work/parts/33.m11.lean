/-- the end of a call that may write the output: t tells the exception, out what is written -/
def mWr (v : Nat → Int) (g : Nat → Int → Int) (r : Int) (v1 : Nat → Int) (g1 : Nat → Int → Int) (t : Int) (out : List Int) : Prop :=
  v1 6 = t ∧ (∀ k, k ≠ 6 → k ≠ 12 → k ≠ 15 → v1 k = v k) ∧ (∀ j, j ≠ 9 → j ≠ 10 → j ≠ 11 → j ≠ 14 → g1 j = g j) ∧ (t ≠ 0 → v1 15 = v 15 ∧ g1 14 = g 14) ∧ (t = 0 → r = out.length ∧ mO v1 g1 out)
theorem lnAt_get {f : Int → Int} {b : Int} {l : List Int} {k : Int} (h : lnAt f b l) (h0 : 0 ≤ k) (h1 : k < l.length) : f (b + k) = l.getD k.toNat 0 := by
  have hl : k.toNat < l.length := by omega
  have := h k.toNat _ (List.getElem?_eq_getElem hl)
  rw [Int.toNat_of_nonneg h0] at this
  rw [this, List.getD_eq_getElem?_getD, List.getElem?_eq_getElem hl]; rfl
theorem take_s {l : List Int} {k : Int} (h0 : 0 ≤ k) (h1 : k < l.length) : l.take (k + 1).toNat = l.take k.toNat ++ [l.getD k.toNat 0] := by
  have hl : k.toNat < l.length := by omega
  rw [show (k + 1).toNat = k.toNat + 1 by omega, List.take_add_one, List.getD_eq_getElem?_getD, List.getElem?_eq_getElem hl]; rfl
set_option maxHeartbeats 4000000 in
set_option maxRecDepth 100000 in
theorem met_X13_writeLine (l : Launch) (D : va_G) (cs : Nat → ClassId) (A : Nat → Prop) (m0 : Nat) (ad : Nat → Nat) (v : Nat → Int) (g : Nat → Int → Int) (x b : Int)  (N : Nat) (c0 : zCo) (hD : mD m0 ad) (hok : mOK v g) (hR : mR (g 0) c0) (hK : cOK N c0) (hx0 : InR x) (hb0 : InR b) (hch : ∀ l, (zlq c0 x b) = (0, l) → ∀ y ∈ l, 0 ≤ y ∧ y ≤ 65535) : zM l D cs A yX13_writeLine cX13_writeLine 4 (some FieldType.int) 8 0 0 [.ref m0, .int (iI x), .int (iI b)] (mW cs m0 ad v g) (mP cs m0 ad (fun r v1 g1 => mWr v g r v1 g1 (zlq c0 x b).1 (zlq c0 x b).2)) := by
  refine zM_of (own := RX13) (by decide) rfl (Nat.le_of_ble_eq_true rfl) ?_
  intro p e s m below meth c hC hr hlk hnm hZ ls hl
  have hx := hC.x
  have hb := hC.b
  have hl : lv_has ls 4 [(0, .ref m0), (1, .int (iI x)), (2, .int (iI b))] := hl
  refine lv_aload_n hx hb dX13_writeLine_0 rfl (lv_at hl 0 rfl) ?_
  refine lv_iload_n hx hb dX13_writeLine_1 rfl (lv_at hl 1 rfl) ?_
  refine lv_iload_n hx hb dX13_writeLine_2 rfl (lv_at hl 2 rfl) ?_
  refine z_calli (z_runV (rest := []) (As := [.int (iI x), .int (iI b)]) (n := 2) (ci := 16) hC hZ (met_X13_asksLine l D cs A m0 ad v g x b N c0 hD hok hR hK (by omega) (by omega)) gv_X13_179 hd_X13_asksLine rfl mW_o rfl hl rfl (Nat.le_of_ble_eq_true rfl) ⟨Nat.le_of_ble_eq_true rfl, Nat.le_of_ble_eq_true rfl⟩ ⟨Nat.le_of_ble_eq_true rfl, Nat.le_of_ble_eq_true rfl⟩ dX13_writeLine_3) hZ (fun r3 _ H locs hp_1 hZ => ?_)
  obtain ⟨v_3, g_4, rfl, hok_2, hsv, hsg, hp_1⟩ := hp_1
  rcases hp_1 with ⟨h6, er, hzq⟩ | ⟨h6, er, ln0, hzq, hwb, hl20, hla, hlg⟩
  · skip
    subst er
    refine z_if_ne (tgt := 11) hx hb dX13_writeLine_6 (by decide) (by decide) (fun c_5 => ?_) (fun c_5 => ?_)
    · skip
      exfalso; omega
    · skip
      refine z_iconst hx hb dX13_writeLine_9 ?_
      exact z_iret hC hr hlk hZ (by decide) (by decide) (⟨_, _, rfl, hok_2, hzq.symm, (fun k h1 h2 h3 => hsv k h1 h2), (fun j h1 h2 h3 h4 => hsg j h1 h2 h3), (fun _ => ⟨hsv 15 (by decide) (by decide), hsg 14 (by decide) (by decide) (by decide)⟩), (fun q => absurd (hzq.symm.trans q) h6)⟩) dX13_writeLine_10
  · skip
    subst er
    refine z_if_ne (tgt := 11) hx hb dX13_writeLine_6 (by decide) (by decide) (fun c_6 => ?_) (fun c_6 => ?_)
    · skip
      refine lv_aload_n hx hb dX13_writeLine_11 rfl (lv_at hl 0 rfl) ?_
      refine z_iconst hx hb dX13_writeLine_12 ?_
      refine m_put hC hZ 15 (ty := .int) (by decide) ql_X13_223 rfl rfl rfl (Or.inl rfl) rfl dX13_writeLine_13 (fun H locs hZ => ?_)
      have hok_7 := hok_2.v (k := 15) (x := 0) (by decide)
      refine z_iconst hx hb dX13_writeLine_16 ?_
      refine lv_istore_n (lv' := [(3, .int (iI 0)), (0, .ref m0), (1, .int (iI x)), (2, .int (iI b))]) hx hb dX13_writeLine_17 rfl hl (by decide) rfl (fun ls hl => ?_)
      have L18_k_8 : ∀ (fu : Nat) (k : Int) (v4 : Nat → Int) (g4 : Nat → Int → Int) (hfu : ((ln0.length : Int) - k).toNat < fu) (hi18_0 : 0 ≤ k ∧ k ≤ ln0.length) (hi18_1 : ∀ q, q ≠ 15 → v4 q = v_3 q) (hi18_2 : ∀ j, j ≠ 14 → g4 j = g_4 j) (hi18_3 : mO v4 g4 (ln0.take k.toNat)) (hw : mOK v4 g4) (H : Heap) (locs : List Loc) (hZ : zS D A s (mW cs m0 ad v4 g4) H locs) (ls : Array Slot) (hl : lv_has ls 4 [(3, .int (iI k)), (0, .ref m0), (1, .int (iI x)), (2, .int (iI b))]), W p l e (zR 8 0 0) s m [.ref m0, .int (iI x), .int (iI b)].toArray below meth c H locs 0 0 (MQ below (zQ D A (mP cs m0 ad (fun r v1 g1 => mWr v g r v1 g1 (zlq c0 x b).1 (zlq c0 x b).2))) [.ref m0, .int (iI x), .int (iI b)].toArray s 0 0 A) (F0 m 18 ls []) := by
        intro fu
        induction fu with
        | zero =>
          intro k v4 g4 hfu
          exact absurd hfu (Nat.not_lt_zero _)
        | succ fu ih18 =>
          intro k v4 g4 hfu hi18_0 hi18_1 hi18_2 hi18_3 hw H locs hZ ls hl
          refine lv_iload_n hx hb dX13_writeLine_18 rfl (lv_at hl 0 rfl) ?_
          refine lv_aload_n hx hb dX13_writeLine_19 rfl (lv_at hl 1 rfl) ?_
          refine m_get hC hZ 10 (x := .ref (ad 10)) rfl (by decide) ql_X13_29 rfl dX13_writeLine_20 ?_
          refine lv_iload_n hx hb dX13_writeLine_23 rfl (lv_at hl 3 rfl) ?_
          refine m_iald hC hZ hD 10 (by decide) (f := g4 10) rfl rfl (by show _ ∧ _ < (200 : Int); omega) (by decide) dX13_writeLine_24 ?_
          have hr_9 : -2147483648 ≤ (g4 10) b ∧ (g4 10) b ≤ 2147483647 := hw.2 10 _
          refine z_top (y := (ln0.length : Int)) (by rw [hi18_2 10 (by decide)]; exact hlg) ?_
          refine z_icmp_ge (tgt := 49) hx hb dX13_writeLine_25 (by decide) (by omega) (by omega) (fun c_10 => ?_) (fun c_10 => ?_)
          · skip
            refine lv_aload_n hx hb dX13_writeLine_49 rfl (lv_at hl 1 rfl) ?_
            refine m_get hC hZ 15 (x := .int (iI (v4 15))) rfl (by decide) ql_X13_223 rfl dX13_writeLine_50 ?_
            have hr_11 : -2147483648 ≤ v4 15 ∧ v4 15 ≤ 2147483647 := hw.1 15
            exact z_iret hC hr hlk hZ (by decide) (by decide) (⟨_, _, rfl, hw, by rw [hzq, hi18_1 6 (by decide)]; exact h6, (fun k h1 h2 h3 => (hi18_1 k h3).trans (hsv k h1 h2)), (fun j h1 h2 h3 h4 => (hi18_2 j h4).trans (hsg j h1 h2 h3)), (fun q => absurd (by rw [hzq]) q), (fun _ => by rw [hzq]; have hkk : ln0.take k.toNat = ln0 := List.take_of_length_le (by omega); rw [hkk] at hi18_3; exact ⟨hi18_3.1, hi18_3⟩)⟩) dX13_writeLine_53
          · skip
            refine lv_aload_n hx hb dX13_writeLine_28 rfl (lv_at hl 1 rfl) ?_
            refine lv_aload_n hx hb dX13_writeLine_29 rfl (lv_at hl 1 rfl) ?_
            refine m_get hC hZ 9 (x := .ref (ad 9)) rfl (by decide) ql_X13_26 rfl dX13_writeLine_30 ?_
            refine z_bipush hx hb dX13_writeLine_33 (by decide) ?_
            refine lv_iload_n hx hb dX13_writeLine_35 rfl (lv_at hl 3 rfl) ?_
            refine z_imul hx hb dX13_writeLine_36 ?_
            refine lv_iload_n hx hb dX13_writeLine_37 rfl (lv_at hl 0 rfl) ?_
            refine z_iadd hx hb dX13_writeLine_38 ?_
            refine m_cald hC hZ hD 9 (by decide) (f := g4 9) rfl rfl (by show _ ∧ _ < (4000 : Int); omega) (by decide) dX13_writeLine_39 ?_
            have hr_12 : -2147483648 ≤ (g4 9) ((20 * b) + k) ∧ (g4 9) ((20 * b) + k) ≤ 2147483647 := hw.2 9 _
            refine z_top (y := ln0.getD k.toNat 0) (by rw [hi18_2 9 (by decide)]; exact lnAt_get hla (by omega) (by omega)) ?_
            have hmem : ln0.getD k.toNat 0 ∈ ln0 := by
              rw [List.getD_eq_getElem?_getD, List.getElem?_eq_getElem (show k.toNat < ln0.length by omega)]; exact List.getElem_mem _
            have hcr := hch ln0 hzq _ hmem
            refine z_callv (z_runV (rest := []) (As := [.int (iI (ln0.getD k.toNat 0))]) (n := 1) (ci := 16) hC hZ (met_X13_says l D cs A m0 ad v4 g4 (ln0.getD k.toNat 0) (ln0.take k.toNat) hD hw (by omega) hi18_3 (by rw [List.length_take]; omega)) gv_X13_229 hd_X13_says rfl mW_o rfl hl rfl (Nat.le_of_ble_eq_true rfl) ⟨Nat.le_of_ble_eq_true rfl, Nat.le_of_ble_eq_true rfl⟩ ⟨Nat.le_of_ble_eq_true rfl, Nat.le_of_ble_eq_true rfl⟩ dX13_writeLine_40) hZ (fun _ H locs hp_13 hZ => ?_)
            obtain ⟨v_15, g_16, rfl, hok_14, fv_17, fg_18, ho_19⟩ := hp_13
            refine z_iinc (lv' := [(3, .int (iI (k + 1))), (0, .ref m0), (1, .int (iI x)), (2, .int (iI b))]) hx hb dX13_writeLine_43 hl (k := 0) rfl (by decide) rfl (fun ls hl => ?_)
            refine lv_goto (tgt := 18) hx hb dX13_writeLine_46 (by decide) ?_
            exact ih18 (k + 1) v_15 g_16 (by omega) (by omega) (fun q hq => (fv_17 q hq).trans (hi18_1 q hq)) (fun j hj => (fg_18 j hj).trans (hi18_2 j hj)) (by rw [take_s (by omega) (by omega)]; exact ho_19) hok_14 _ _ hZ ls (lv_sub hl [0, 1, 2, 3] rfl)
      exact L18_k_8 _ 0 (upN v_3 15 0) g_4 (Nat.lt_succ_self _) (by omega) (fun q hq => upN_n hq) (fun _ _ => rfl) mO_nil hok_7 _ _ hZ ls (lv_sub hl [0, 1, 2, 3] rfl)
    · skip
      exfalso; omega

