set_option maxHeartbeats 4000000 in
set_option maxRecDepth 100000 in
theorem met_X4_bestKeyword (l : Launch) (D : va_G) (cs : Nat → ClassId) (A : Nat → Prop) (F : zF) (a cl b sg : Nat) (inp : List Int) (p0 : Int)  (h0 : F a = some (.inr (8, [.ref cl, .int (iI p0)]))) (hb1 : oBf cs F b sg inp) (hp0 : 0 ≤ p0 ∧ p0 ≤ inp.length) : zM l D cs A yX4_bestKeyword cX4_bestKeyword 7 (some (FieldType.object "StoneGazette$Keyword")) 7 0 0 [.ref a, .ref b] F (pR (fun r F1 => F = F1 ∧ cs (20 + zkw inp p0) = r)) := by
  refine zM_of (own := RX4) (by decide) rfl (Nat.le_of_ble_eq_true rfl) ?_
  intro p e s m below meth c hC hr hlk hnm hZ ls hl
  have hx := hC.x
  have hb := hC.b
  have hl : lv_has ls 7 [(0, .ref a), (1, .ref b)] := hl
  obtain ⟨fb_, b0, b1, b2, b3, b4⟩ := id hb1
  refine z_gets hC hZ (List.mem_of_getElem? (i := 6) rfl) ql_X4_73 dX4_bestKeyword_0 ?_
  refine lv_astore_n (lv' := [(2, .ref (cs 20)), (0, .ref a), (1, .ref b)]) hx hb dX4_bestKeyword_3 rfl hl (by decide) rfl (fun ls hl => ?_)
  refine z_getsN hC hZ (List.mem_of_getElem? (i := 4) rfl) ql_X4_77 dX4_bestKeyword_4 ?_
  refine lv_astore_n (lv' := [(3, .ref (cs 11)), (2, .ref (cs 20)), (0, .ref a), (1, .ref b)]) hx hb dX4_bestKeyword_7 rfl hl (by decide) rfl (fun ls hl => ?_)
  refine lv_aload_n hx hb dX4_bestKeyword_8 rfl (lv_at hl 0 rfl) ?_
  refine z_tlen hC hZ (List.mem_of_getElem? (i := 3) rfl) dX4_bestKeyword_9 ?_
  refine lv_istore (lv' := [(4, .int (iI 5)), (3, .ref (cs 11)), (2, .ref (cs 20)), (0, .ref a), (1, .ref b)]) hx hb dX4_bestKeyword_10 hl (by decide) rfl (fun ls hl => ?_)
  refine z_iconst hx hb dX4_bestKeyword_12 ?_
  refine lv_istore (lv' := [(5, .int (iI 0)), (4, .int (iI 5)), (3, .ref (cs 11)), (2, .ref (cs 20)), (0, .ref a), (1, .ref b)]) hx hb dX4_bestKeyword_13 hl (by decide) rfl (fun ls hl => ?_)
  have L15_k_1 : ∀ (fu : Nat) (k : Int) (bj : Nat) (hfu : (5 - k).toNat < fu) (hi15_0 : 0 ≤ k ∧ k ≤ 5) (hi15_1 : bj < 5) (hi15_2 : ∀ i : Nat, (i : Int) < k → cnt inp i p0 ≤ cnt inp bj p0) (hi15_3 : ∀ i : Nat, i < bj → cnt inp i p0 < cnt inp bj p0) (H : Heap) (locs : List Loc) (hZ : zS D A s F H locs) (ls : Array Slot) (hl : lv_has ls 7 [(5, .int (iI k)), (4, .int (iI 5)), (3, .ref (cs 11)), (2, .ref (cs (20 + bj))), (0, .ref a), (1, .ref b)]), W p l e (zR 7 0 0) s m [.ref a, .ref b].toArray below meth c H locs 0 0 (MQ below (zQ D A (pR (fun r F1 => F = F1 ∧ cs (20 + zkw inp p0) = r))) [.ref a, .ref b].toArray s 0 0 A) (F0 m 15 ls []) := by
    intro fu
    induction fu with
    | zero =>
      intro k bj hfu
      exact absurd hfu (Nat.not_lt_zero _)
    | succ fu ih15 =>
      intro k bj hfu hi15_0 hi15_1 hi15_2 hi15_3  H locs hZ ls hl
      refine lv_iload hx hb dX4_bestKeyword_15 (lv_at hl 0 rfl) ?_
      refine lv_iload hx hb dX4_bestKeyword_17 (lv_at hl 1 rfl) ?_
      refine z_icmp_ge (tgt := 59) hx hb dX4_bestKeyword_19 (by decide) (by omega) (by decide) (fun c_2 => ?_) (fun c_2 => ?_)
      · skip
        have hfin := kw_best (inp := inp) (a := p0) hi15_1 (fun i hi => hi15_2 i (by omega)) hi15_3
        refine lv_aload_n hx hb dX4_bestKeyword_59 rfl (lv_at hl 3 rfl) ?_
        exact z_aret hC hr (Or.inl ⟨_, rfl⟩) hlk hZ (by decide) (by decide) (⟨rfl, by rw [hfin]⟩) dX4_bestKeyword_60
      · skip
        have hk5 : k.toNat < 5 := by omega
        refine lv_aload_n hx hb dX4_bestKeyword_22 rfl (lv_at hl 2 rfl) ?_
        refine lv_iload hx hb dX4_bestKeyword_23 (lv_at hl 0 rfl) ?_
        refine z_tq (v := .ref (cs (20 + k.toNat))) hC hZ (List.mem_of_getElem? (i := 3) rfl) ⟨by omega, by omega⟩ (by decide) rfl dX4_bestKeyword_25 ?_
        refine lv_astore (lv' := [(6, .ref (cs (20 + k.toNat))), (5, .int (iI k)), (4, .int (iI 5)), (3, .ref (cs 11)), (2, .ref (cs (20 + bj))), (0, .ref a), (1, .ref b)]) hx hb dX4_bestKeyword_26 hl (by decide) rfl (fun ls hl => ?_)
        refine lv_aload hx hb dX4_bestKeyword_28 (lv_at hl 0 rfl) ?_
        refine lv_aload_n hx hb dX4_bestKeyword_30 rfl (lv_at hl 6 rfl) ?_
        refine lv_aload_n hx hb dX4_bestKeyword_31 rfl (lv_at hl 5 rfl) ?_
        refine z_get (T := TX4) (N := 2) (ci := 8) (k := 1) (fs := [.ref cl, .int (iI p0)]) (v := .int (iI p0)) hC hZ in_X4 rfl (by decide) ql_X4_18 rfl h0 rfl dX4_bestKeyword_32 ?_
        refine z_calli (z_runO (rest := []) (As := [.ref b, .int (iI p0)]) (n := 2) hC hZ (met_X7_countShared l D cs A F k.toNat b sg inp p0 hk5 hb1 (by omega)) gv_X4_42 hd_X7_countShared (kw_o hk5) rfl hl rfl (Nat.le_of_ble_eq_true rfl) ⟨Nat.le_of_ble_eq_true rfl, Nat.le_of_ble_eq_true rfl⟩ ⟨Nat.le_of_ble_eq_true rfl, Nat.le_of_ble_eq_true rfl⟩ dX4_bestKeyword_35) hZ (fun r35 F35 H locs hp_3 hZ => ?_)
        obtain ⟨rfl, hp_3⟩ := hp_3
        have hc35 := hp_3
        have hzl35 : (zstr k.toNat).length ≤ 6 := by unfold zstr; split <;> decide
        refine lv_aload_n hx hb dX4_bestKeyword_38 rfl (lv_at hl 4 rfl) ?_
        refine lv_aload_n hx hb dX4_bestKeyword_39 rfl (lv_at hl 6 rfl) ?_
        refine lv_aload_n hx hb dX4_bestKeyword_40 rfl (lv_at hl 5 rfl) ?_
        refine z_get (T := TX4) (N := 2) (ci := 8) (k := 1) (fs := [.ref cl, .int (iI p0)]) (v := .int (iI p0)) hC hZ in_X4 rfl (by decide) ql_X4_18 rfl h0 rfl dX4_bestKeyword_41 ?_
        refine z_calli (z_runO (rest := [.int (iI r35)]) (As := [.ref b, .int (iI p0)]) (n := 2) hC hZ (met_X7_countShared l D cs A F bj b sg inp p0 hi15_1 hb1 (by omega)) gv_X4_42 hd_X7_countShared (kw_o hi15_1) rfl hl rfl (Nat.le_of_ble_eq_true rfl) ⟨Nat.le_of_ble_eq_true rfl, Nat.le_of_ble_eq_true rfl⟩ ⟨Nat.le_of_ble_eq_true rfl, Nat.le_of_ble_eq_true rfl⟩ dX4_bestKeyword_44) hZ (fun r44 F44 H locs hp_4 hZ => ?_)
        obtain ⟨rfl, hp_4⟩ := hp_4
        have hc44 := hp_4
        have hzl44 : (zstr bj).length ≤ 6 := by unfold zstr; split <;> decide
        refine z_icmp_le (tgt := 53) hx hb dX4_bestKeyword_47 (by decide) (by omega) (by omega) (fun c_5 => ?_) (fun c_5 => ?_)
        · skip
          have hle : cnt inp k.toNat p0 ≤ cnt inp bj p0 := by rw [hc35.1, hc44.1]; omega
          refine z_iinc (lv' := [(5, .int (iI (k + 1))), (6, .ref (cs (20 + k.toNat))), (4, .int (iI 5)), (3, .ref (cs 11)), (2, .ref (cs (20 + bj))), (0, .ref a), (1, .ref b)]) hx hb dX4_bestKeyword_53 hl (k := 1) rfl (by decide) rfl (fun ls hl => ?_)
          refine lv_goto (tgt := 15) hx hb dX4_bestKeyword_56 (by decide) ?_
          exact ih15 (k + 1) bj (by omega) (by omega) hi15_1 (fun i hi => by by_cases q : (i : Int) < k; (exact hi15_2 i q); rw [show i = k.toNat by omega]; omega) hi15_3  _ _ hZ ls (lv_sub hl [0, 2, 3, 4, 5, 6] rfl)
        · skip
          have hlt : cnt inp bj p0 < cnt inp k.toNat p0 := by rw [hc35.1, hc44.1]; omega
          refine lv_aload hx hb dX4_bestKeyword_50 (lv_at hl 0 rfl) ?_
          refine lv_astore_n (lv' := [(2, .ref (cs (20 + k.toNat))), (6, .ref (cs (20 + k.toNat))), (5, .int (iI k)), (4, .int (iI 5)), (3, .ref (cs 11)), (0, .ref a), (1, .ref b)]) hx hb dX4_bestKeyword_52 rfl hl (by decide) rfl (fun ls hl => ?_)
          refine z_iinc (lv' := [(5, .int (iI (k + 1))), (2, .ref (cs (20 + k.toNat))), (6, .ref (cs (20 + k.toNat))), (4, .int (iI 5)), (3, .ref (cs 11)), (0, .ref a), (1, .ref b)]) hx hb dX4_bestKeyword_53 hl (k := 2) rfl (by decide) rfl (fun ls hl => ?_)
          refine lv_goto (tgt := 15) hx hb dX4_bestKeyword_56 (by decide) ?_
          exact ih15 (k + 1) k.toNat (by omega) (by omega) (by omega) (fun i hi => by by_cases q : (i : Int) < k; (have := hi15_2 i q; omega); rw [show i = k.toNat by omega]; omega) (fun i hi => by have := hi15_2 i (by omega); omega)  _ _ hZ ls (lv_sub hl [0, 3, 4, 1, 5, 6] rfl)
  exact L15_k_1 _ 0 0 (Nat.lt_succ_self _) (by omega) (by decide) (fun i hi => absurd hi (by omega)) (fun i hi => absurd hi (Nat.not_lt_zero _))  _ _ hZ ls (lv_sub hl [0, 1, 2, 3, 4, 5] rfl)

set_option maxHeartbeats 4000000 in
set_option maxRecDepth 100000 in
theorem met_X4_readSign (l : Launch) (D : va_G) (cs : Nat → ClassId) (A : Nat → Prop) (F : zF) (a cl b sg : Nat) (inp : List Int) (p0 : Int) (x : Int)  (h0 : F a = some (.inr (8, [.ref cl, .int (iI p0)]))) (hb1 : oBf cs F b sg inp) (hp0 : 0 ≤ p0 ∧ p0 ≤ inp.length) (hx0 : 1 ≤ x ∧ x ≤ 127) : zM l D cs A yX4_readSign cX4_readSign 3 (some FieldType.boolean) 2 0 0 [.ref a, .ref b, .int (iI x)] F (pI (fun r F1 => (bh inp p0 ≠ x ∧ r = 0 ∧ F = F1) ∨ (bh inp p0 = x ∧ r = 1 ∧ p0 < inp.length ∧ F1 = zup F a (.inr (8, [.ref cl, .int (iI (p0 + 1))]))))) := by
  refine zM_of (own := RX4) (by decide) rfl (Nat.le_of_ble_eq_true rfl) ?_
  intro p e s m below meth c hC hr hlk hnm hZ ls hl
  have hx := hC.x
  have hb := hC.b
  have hl : lv_has ls 3 [(0, .ref a), (1, .ref b), (2, .int (iI x))] := hl
  obtain ⟨fb_, b0, b1, b2, b3, b4⟩ := id hb1
  refine lv_aload_n hx hb dX4_readSign_0 rfl (lv_at hl 1 rfl) ?_
  refine lv_aload_n hx hb dX4_readSign_1 rfl (lv_at hl 0 rfl) ?_
  refine z_get (T := TX4) (N := 2) (ci := 8) (k := 1) (fs := [.ref cl, .int (iI p0)]) (v := .int (iI p0)) hC hZ in_X4 rfl (by decide) ql_X4_18 rfl h0 rfl dX4_readSign_2 ?_
  refine z_calli (z_runV (rest := []) (As := [.int (iI p0)]) (n := 1) (ci := 6) hC hZ (met_X2_signAt l D cs A F b sg inp p0 hb1 (by omega)) gv_X4_81 hd_X2_signAt rfl b0 rfl hl rfl (Nat.le_of_ble_eq_true rfl) ⟨Nat.le_of_ble_eq_true rfl, Nat.le_of_ble_eq_true rfl⟩ ⟨Nat.le_of_ble_eq_true rfl, Nat.le_of_ble_eq_true rfl⟩ dX4_readSign_5) hZ (fun r5 F5 H locs hp5_c_1 hZ => ?_)
  obtain ⟨rfl, hp5_c_1⟩ := hp5_c_1
  have hsb := sg_bh (by omega) hp5_c_1
  have hsr := hp5_c_1.2
  refine lv_iload_n hx hb dX4_readSign_8 rfl (lv_at hl 2 rfl) ?_
  refine z_icmp_eq (tgt := 14) hx hb dX4_readSign_9 (by decide) (by omega) (by omega) (fun c_2 => ?_) (fun c_2 => ?_)
  · skip
    have hee : bh inp p0 = x ∧ p0 < inp.length := by omega
    refine lv_aload_n hx hb dX4_readSign_14 rfl (lv_at hl 0 rfl) ?_
    refine lv_dup hx hb dX4_readSign_15 rfl ?_
    refine z_get (T := TX4) (N := 2) (ci := 8) (k := 1) (fs := [.ref cl, .int (iI p0)]) (v := .int (iI p0)) hC hZ in_X4 rfl (by decide) ql_X4_18 rfl h0 rfl dX4_readSign_16 ?_
    refine z_iconst hx hb dX4_readSign_19 ?_
    refine z_iadd hx hb dX4_readSign_20 ?_
    refine z_put (T := TX4) (N := 2) (ci := 8) (k := 1) (fs := [.ref cl, .int (iI p0)]) (v := .int (iI (p0 + 1))) hC hZ tyX4 tyX4_ok nmX4 in_X4 rfl (by decide) ql_X4_18 rfl (Or.inl rfl) rfl h0 (by show 1 < 2; decide) rfl rfl dX4_readSign_21 (fun H locs hZ => ?_)
    have hf_3 : (zup F a (.inr (8, [.ref cl, .int (iI (p0 + 1))]))) b = some (.inr (6, [.ref sg, .int (iI (inp.length : Int))])) := zup_k (zne b0 h0 (fun q => by cases q)) b0
    have hf_4 : (zup F a (.inr (8, [.ref cl, .int (iI (p0 + 1))]))) sg = some (zA (cs 1) 60 fb_) := zup_k (zne b1 h0 (fun q => by cases q)) b1
    have hf_5 : (zup F a (.inr (8, [.ref cl, .int (iI (p0 + 1))]))) a = some (.inr (8, [.ref cl, .int (iI (p0 + 1))])) := zup_s
    replace hZ : zS D A s (zup F a (.inr (8, [.ref cl, .int (iI (p0 + 1))]))) _ _ := hZ
    refine z_iconst hx hb dX4_readSign_24 ?_
    exact z_zret hC hr hlk hZ rfl (by decide) (by decide) ((Or.inr ⟨hee.1, rfl, hee.2, rfl⟩)) dX4_readSign_25
  · skip
    have hne : bh inp p0 ≠ x := by omega
    refine z_iconst hx hb dX4_readSign_12 ?_
    exact z_zret hC hr hlk hZ rfl (by decide) (by decide) ((Or.inl ⟨hne, rfl, rfl⟩)) dX4_readSign_13

/-- a number of one or two digits at q -/
def zdg (inp : List Int) (q : Int) : Bool × Int × Int := if 48 ≤ bh inp q ∧ bh inp q ≤ 57 then (if 48 ≤ bh inp (q + 1) ∧ bh inp (q + 1) ≤ 57 then (false, q + 2, 10 * (bh inp q - 48) + (bh inp (q + 1) - 48)) else (false, q + 1, bh inp q - 48)) else (true, q, 0)
theorem znum_d (inp l : List Int) (a : Int) : znum inp l a = if (zskip inp l a).1 = true then (true, (zskip inp l a).2, 0) else zdg inp (zskip inp l a).2 := rfl
theorem zdg_0 {inp : List Int} {q : Int} (h : ¬ (48 ≤ bh inp q ∧ bh inp q ≤ 57)) : zdg inp q = (true, q, 0) := if_neg h
theorem zdg_1 {inp : List Int} {q : Int} (h : 48 ≤ bh inp q ∧ bh inp q ≤ 57) (h1 : ¬ (48 ≤ bh inp (q + 1) ∧ bh inp (q + 1) ≤ 57)) : zdg inp q = (false, q + 1, bh inp q - 48) := by
  unfold zdg
  rw [if_pos h, if_neg h1]
theorem zdg_2 {inp : List Int} {q : Int} (h : 48 ≤ bh inp q ∧ bh inp q ≤ 57) (h1 : 48 ≤ bh inp (q + 1) ∧ bh inp (q + 1) ≤ 57) : zdg inp q = (false, q + 2, 10 * (bh inp q - 48) + (bh inp (q + 1) - 48)) := by
  unfold zdg
  rw [if_pos h, if_pos h1]
set_option maxHeartbeats 4000000 in
set_option maxRecDepth 100000 in
theorem met_X4_readNumber (l : Launch) (D : va_G) (cs : Nat → ClassId) (A : Nat → Prop) (F : zF) (a cl b sg : Nat) (inp : List Int) (p0 : Int)  (h0 : F a = some (.inr (8, [.ref cl, .int (iI p0)]))) (hb1 : oBf cs F b sg inp) (hp0 : 0 ≤ p0 ∧ p0 ≤ inp.length) : zM l D cs A yX4_readNumber cX4_readNumber 5 (some FieldType.int) 2 0 0 [.ref a, .ref b] F (pI (fun r F1 => ((zdg inp p0).1 = true ∧ r = -1 ∧ F = F1) ∨ ∃ z : Int, ((zdg inp p0).1 = false ∧ (zdg inp p0).2.2 = z) ∧ r = z ∧ (0 ≤ z ∧ z ≤ 99) ∧ F1 = zup F a (.inr (8, [.ref cl, .int (iI (zdg inp p0).2.1)])))) := by
  refine zM_of (own := RX4) (by decide) rfl (Nat.le_of_ble_eq_true rfl) ?_
  intro p e s m below meth c hC hr hlk hnm hZ ls hl
  have hx := hC.x
  have hb := hC.b
  have hl : lv_has ls 5 [(0, .ref a), (1, .ref b)] := hl
  obtain ⟨fb_, b0, b1, b2, b3, b4⟩ := id hb1
  refine z_iconst hx hb dX4_readNumber_0 ?_
  refine lv_istore_n (lv' := [(2, .int (iI (-1))), (0, .ref a), (1, .ref b)]) hx hb dX4_readNumber_1 rfl hl (by decide) rfl (fun ls hl => ?_)
  refine z_iconst hx hb dX4_readNumber_2 ?_
  refine lv_istore_n (lv' := [(3, .int (iI 0)), (2, .int (iI (-1))), (0, .ref a), (1, .ref b)]) hx hb dX4_readNumber_3 rfl hl (by decide) rfl (fun ls hl => ?_)
  refine lv_iload_n hx hb dX4_readNumber_4 rfl (lv_at hl 0 rfl) ?_
  refine z_iconst hx hb dX4_readNumber_5 ?_
  refine z_icmp_ge (tgt := 67) hx hb dX4_readNumber_6 (by decide) (by decide) (by decide) (fun c_1 => ?_) (fun c_1 => ?_)
  · skip
    exfalso; omega
  · skip
    refine lv_aload_n hx hb dX4_readNumber_9 rfl (lv_at hl 3 rfl) ?_
    refine lv_aload_n hx hb dX4_readNumber_10 rfl (lv_at hl 2 rfl) ?_
    refine z_get (T := TX4) (N := 2) (ci := 8) (k := 1) (fs := [.ref cl, .int (iI p0)]) (v := .int (iI p0)) hC hZ in_X4 rfl (by decide) ql_X4_18 rfl h0 rfl dX4_readNumber_11 ?_
    refine z_calli (z_runV (rest := []) (As := [.int (iI p0)]) (n := 1) (ci := 6) hC hZ (met_X2_signAt l D cs A F b sg inp p0 hb1 (by omega)) gv_X4_81 hd_X2_signAt rfl b0 rfl hl rfl (Nat.le_of_ble_eq_true rfl) ⟨Nat.le_of_ble_eq_true rfl, Nat.le_of_ble_eq_true rfl⟩ ⟨Nat.le_of_ble_eq_true rfl, Nat.le_of_ble_eq_true rfl⟩ dX4_readNumber_14) hZ (fun r14 F14 H locs hp14_c_2 hZ => ?_)
    obtain ⟨rfl, hp14_c_2⟩ := hp14_c_2
    obtain ⟨d1, rfl⟩ : ∃ y, y = r14 := ⟨_, rfl⟩
    have hs1 := sg_bh (by omega) hp14_c_2
    have hs1r := hp14_c_2.2
    refine lv_istore (lv' := [(4, .int (iI d1)), (3, .int (iI 0)), (2, .int (iI (-1))), (0, .ref a), (1, .ref b)]) hx hb dX4_readNumber_17 hl (by decide) rfl (fun ls hl => ?_)
    refine lv_iload hx hb dX4_readNumber_19 (lv_at hl 0 rfl) ?_
    refine z_bipush hx hb dX4_readNumber_21 (by decide) ?_
    refine z_icmp_lt (tgt := 67) hx hb dX4_readNumber_23 (by decide) (by omega) (by decide) (fun c_3 => ?_) (fun c_3 => ?_)
    · skip
      refine lv_iload_n hx hb dX4_readNumber_67 rfl (lv_at hl 2 rfl) ?_
      exact z_iret hC hr hlk hZ (by decide) (by decide) ((Or.inl ⟨by rw [zdg_0 (by omega)], rfl, rfl⟩)) dX4_readNumber_68
    · skip
      refine lv_iload hx hb dX4_readNumber_26 (lv_at hl 0 rfl) ?_
      refine z_bipush hx hb dX4_readNumber_28 (by decide) ?_
      refine z_icmp_le (tgt := 36) hx hb dX4_readNumber_30 (by decide) (by omega) (by decide) (fun c_4 => ?_) (fun c_4 => ?_)
      · skip
        refine lv_iload_n hx hb dX4_readNumber_36 rfl (lv_at hl 2 rfl) ?_
        refine z_iconst hx hb dX4_readNumber_37 ?_
        refine z_mmax (rest := []) hC hl qm_X4_85 (by omega) (by decide) ⟨Nat.le_of_ble_eq_true rfl, Nat.le_of_ble_eq_true rfl⟩ ⟨Nat.le_of_ble_eq_true rfl, Nat.le_of_ble_eq_true rfl⟩ dX4_readNumber_38 (fun r38 hmx38 => ?_)
        refine z_top (y := 0) (by omega) ?_
        refine z_bipush hx hb dX4_readNumber_41 (by decide) ?_
        refine z_imul hx hb dX4_readNumber_43 ?_
        refine z_top (y := 0) (by decide) ?_
        refine z_top (y := 0) (by decide) ?_
        refine lv_iload hx hb dX4_readNumber_44 (lv_at hl 0 rfl) ?_
        refine z_bipush hx hb dX4_readNumber_46 (by decide) ?_
        refine z_isub hx hb dX4_readNumber_48 ?_
        refine z_iadd hx hb dX4_readNumber_49 ?_
        refine z_top (y := d1 - 48) (by omega) ?_
        refine lv_istore_n (lv' := [(2, .int (iI (d1 - 48))), (4, .int (iI d1)), (3, .int (iI 0)), (0, .ref a), (1, .ref b)]) hx hb dX4_readNumber_50 rfl hl (by decide) rfl (fun ls hl => ?_)
        refine lv_aload_n hx hb dX4_readNumber_51 rfl (lv_at hl 3 rfl) ?_
        refine lv_dup hx hb dX4_readNumber_52 rfl ?_
        refine z_get (T := TX4) (N := 2) (ci := 8) (k := 1) (fs := [.ref cl, .int (iI p0)]) (v := .int (iI p0)) hC hZ in_X4 rfl (by decide) ql_X4_18 rfl h0 rfl dX4_readNumber_53 ?_
        refine z_iconst hx hb dX4_readNumber_56 ?_
        refine z_iadd hx hb dX4_readNumber_57 ?_
        refine z_put (T := TX4) (N := 2) (ci := 8) (k := 1) (fs := [.ref cl, .int (iI p0)]) (v := .int (iI (p0 + 1))) hC hZ tyX4 tyX4_ok nmX4 in_X4 rfl (by decide) ql_X4_18 rfl (Or.inl rfl) rfl h0 (by show 1 < 2; decide) rfl rfl dX4_readNumber_58 (fun H locs hZ => ?_)
        have hf_5 : (zup F a (.inr (8, [.ref cl, .int (iI (p0 + 1))]))) b = some (.inr (6, [.ref sg, .int (iI (inp.length : Int))])) := zup_k (zne b0 h0 (fun q => by cases q)) b0
        have hf_6 : (zup F a (.inr (8, [.ref cl, .int (iI (p0 + 1))]))) sg = some (zA (cs 1) 60 fb_) := zup_k (zne b1 h0 (fun q => by cases q)) b1
        have hf_7 : (zup F a (.inr (8, [.ref cl, .int (iI (p0 + 1))]))) a = some (.inr (8, [.ref cl, .int (iI (p0 + 1))])) := zup_s
        replace hZ : zS D A s (zup F a (.inr (8, [.ref cl, .int (iI (p0 + 1))]))) _ _ := hZ
        have hb1 : oBf cs (zup F a (.inr (8, [.ref cl, .int (iI (p0 + 1))]))) b sg inp := ⟨fb_, hf_5, hf_6, b2, b3, b4⟩
        refine z_iinc (lv' := [(3, .int (iI 1)), (2, .int (iI (d1 - 48))), (4, .int (iI d1)), (0, .ref a), (1, .ref b)]) hx hb dX4_readNumber_61 hl (k := 2) rfl (by decide) rfl (fun ls hl => ?_)
        refine lv_goto (tgt := 4) hx hb dX4_readNumber_64 (by decide) ?_
        refine lv_iload_n hx hb dX4_readNumber_4 rfl (lv_at hl 0 rfl) ?_
        refine z_iconst hx hb dX4_readNumber_5 ?_
        refine z_icmp_ge (tgt := 67) hx hb dX4_readNumber_6 (by decide) (by decide) (by decide) (fun c_8 => ?_) (fun c_8 => ?_)
        · skip
          exfalso; omega
        · skip
          refine lv_aload_n hx hb dX4_readNumber_9 rfl (lv_at hl 4 rfl) ?_
          refine lv_aload_n hx hb dX4_readNumber_10 rfl (lv_at hl 3 rfl) ?_
          refine z_get (T := TX4) (N := 2) (ci := 8) (k := 1) (fs := [.ref cl, .int (iI (p0 + 1))]) (v := .int (iI (p0 + 1))) hC hZ in_X4 rfl (by decide) ql_X4_18 rfl hf_7 rfl dX4_readNumber_11 ?_
          refine z_calli (z_runV (rest := []) (As := [.int (iI (p0 + 1))]) (n := 1) (ci := 6) hC hZ (met_X2_signAt l D cs A (zup F a (.inr (8, [.ref cl, .int (iI (p0 + 1))]))) b sg inp (p0 + 1) hb1 (by omega)) gv_X4_81 hd_X2_signAt rfl hf_5 rfl hl rfl (Nat.le_of_ble_eq_true rfl) ⟨Nat.le_of_ble_eq_true rfl, Nat.le_of_ble_eq_true rfl⟩ ⟨Nat.le_of_ble_eq_true rfl, Nat.le_of_ble_eq_true rfl⟩ dX4_readNumber_14) hZ (fun r14 F14 H locs hp14_c_9 hZ => ?_)
          obtain ⟨rfl, hp14_c_9⟩ := hp14_c_9
          obtain ⟨d2, rfl⟩ : ∃ y, y = r14 := ⟨_, rfl⟩
          have hs2 := sg_bh (by omega) hp14_c_9
          have hs2r := hp14_c_9.2
          refine lv_istore (lv' := [(4, .int (iI d2)), (3, .int (iI 1)), (2, .int (iI (d1 - 48))), (0, .ref a), (1, .ref b)]) hx hb dX4_readNumber_17 hl (by decide) rfl (fun ls hl => ?_)
          refine lv_iload hx hb dX4_readNumber_19 (lv_at hl 0 rfl) ?_
          refine z_bipush hx hb dX4_readNumber_21 (by decide) ?_
          refine z_icmp_lt (tgt := 67) hx hb dX4_readNumber_23 (by decide) (by omega) (by decide) (fun c_10 => ?_) (fun c_10 => ?_)
          · skip
            refine lv_iload_n hx hb dX4_readNumber_67 rfl (lv_at hl 2 rfl) ?_
            exact z_iret hC hr hlk hZ (by decide) (by decide) ((Or.inr ⟨d1 - 48, by rw [zdg_1 (by omega) (by omega), show bh inp p0 = d1 by omega]; exact ⟨rfl, rfl⟩, by omega, by omega, by rw [zdg_1 (by omega) (by omega)]⟩)) dX4_readNumber_68
          · skip
            refine lv_iload hx hb dX4_readNumber_26 (lv_at hl 0 rfl) ?_
            refine z_bipush hx hb dX4_readNumber_28 (by decide) ?_
            refine z_icmp_le (tgt := 36) hx hb dX4_readNumber_30 (by decide) (by omega) (by decide) (fun c_11 => ?_) (fun c_11 => ?_)
            · skip
              refine lv_iload_n hx hb dX4_readNumber_36 rfl (lv_at hl 2 rfl) ?_
              refine z_iconst hx hb dX4_readNumber_37 ?_
              refine z_mmax (rest := []) hC hl qm_X4_85 (by omega) (by decide) ⟨Nat.le_of_ble_eq_true rfl, Nat.le_of_ble_eq_true rfl⟩ ⟨Nat.le_of_ble_eq_true rfl, Nat.le_of_ble_eq_true rfl⟩ dX4_readNumber_38 (fun r38 hmx38 => ?_)
              refine z_top (y := (d1 - 48)) (by omega) ?_
              refine z_bipush hx hb dX4_readNumber_41 (by decide) ?_
              refine z_imul hx hb dX4_readNumber_43 ?_
              refine z_top (y := 10 * (d1 - 48)) (by omega) ?_
              refine lv_iload hx hb dX4_readNumber_44 (lv_at hl 0 rfl) ?_
              refine z_bipush hx hb dX4_readNumber_46 (by decide) ?_
              refine z_isub hx hb dX4_readNumber_48 ?_
              refine z_iadd hx hb dX4_readNumber_49 ?_
              refine z_top (y := 10 * (d1 - 48) + (d2 - 48)) (by omega) ?_
              refine lv_istore_n (lv' := [(2, .int (iI (10 * (d1 - 48) + (d2 - 48)))), (4, .int (iI d2)), (3, .int (iI 1)), (0, .ref a), (1, .ref b)]) hx hb dX4_readNumber_50 rfl hl (by decide) rfl (fun ls hl => ?_)
              refine lv_aload_n hx hb dX4_readNumber_51 rfl (lv_at hl 3 rfl) ?_
              refine lv_dup hx hb dX4_readNumber_52 rfl ?_
              refine z_get (T := TX4) (N := 2) (ci := 8) (k := 1) (fs := [.ref cl, .int (iI (p0 + 1))]) (v := .int (iI (p0 + 1))) hC hZ in_X4 rfl (by decide) ql_X4_18 rfl hf_7 rfl dX4_readNumber_53 ?_
              refine z_iconst hx hb dX4_readNumber_56 ?_
              refine z_iadd hx hb dX4_readNumber_57 ?_
              refine z_put (T := TX4) (N := 2) (ci := 8) (k := 1) (fs := [.ref cl, .int (iI (p0 + 1))]) (v := .int (iI ((p0 + 1) + 1))) hC hZ tyX4 tyX4_ok nmX4 in_X4 rfl (by decide) ql_X4_18 rfl (Or.inl rfl) rfl hf_7 (by show 1 < 2; decide) rfl rfl dX4_readNumber_58 (fun H locs hZ => ?_)
              rw [zup_up] at hZ
              have hf_12 : (zup F a (.inr (8, [.ref cl, .int (iI ((p0 + 1) + 1))]))) b = some (.inr (6, [.ref sg, .int (iI (inp.length : Int))])) := zup_k (zne b0 h0 (fun q => by cases q)) b0
              have hf_13 : (zup F a (.inr (8, [.ref cl, .int (iI ((p0 + 1) + 1))]))) sg = some (zA (cs 1) 60 fb_) := zup_k (zne b1 h0 (fun q => by cases q)) b1
              have hf_14 : (zup F a (.inr (8, [.ref cl, .int (iI ((p0 + 1) + 1))]))) a = some (.inr (8, [.ref cl, .int (iI ((p0 + 1) + 1))])) := zup_s
              replace hZ : zS D A s (zup F a (.inr (8, [.ref cl, .int (iI ((p0 + 1) + 1))]))) _ _ := hZ
              have hb1 : oBf cs (zup F a (.inr (8, [.ref cl, .int (iI ((p0 + 1) + 1))]))) b sg inp := ⟨fb_, hf_12, hf_13, b2, b3, b4⟩
              refine z_iinc (lv' := [(3, .int (iI 2)), (2, .int (iI (10 * (d1 - 48) + (d2 - 48)))), (4, .int (iI d2)), (0, .ref a), (1, .ref b)]) hx hb dX4_readNumber_61 hl (k := 2) rfl (by decide) rfl (fun ls hl => ?_)
              refine lv_goto (tgt := 4) hx hb dX4_readNumber_64 (by decide) ?_
              refine lv_iload_n hx hb dX4_readNumber_4 rfl (lv_at hl 0 rfl) ?_
              refine z_iconst hx hb dX4_readNumber_5 ?_
              refine z_icmp_ge (tgt := 67) hx hb dX4_readNumber_6 (by decide) (by decide) (by decide) (fun c_15 => ?_) (fun c_15 => ?_)
              · skip
                refine lv_iload_n hx hb dX4_readNumber_67 rfl (lv_at hl 1 rfl) ?_
                exact z_iret hC hr hlk hZ (by decide) (by decide) ((Or.inr ⟨10 * (d1 - 48) + (d2 - 48), by rw [zdg_2 (by omega) (by omega), show bh inp p0 = d1 by omega, show bh inp (p0 + 1) = d2 by omega]; exact ⟨rfl, rfl⟩, by omega, by omega, by rw [zdg_2 (by omega) (by omega), show p0 + 2 = p0 + 1 + 1 by omega]⟩)) dX4_readNumber_68
              · skip
                exfalso; omega
            · skip
              refine lv_goto (tgt := 67) hx hb dX4_readNumber_33 (by decide) ?_
              refine lv_iload_n hx hb dX4_readNumber_67 rfl (lv_at hl 2 rfl) ?_
              exact z_iret hC hr hlk hZ (by decide) (by decide) ((Or.inr ⟨d1 - 48, by rw [zdg_1 (by omega) (by omega), show bh inp p0 = d1 by omega]; exact ⟨rfl, rfl⟩, by omega, by omega, by rw [zdg_1 (by omega) (by omega)]⟩)) dX4_readNumber_68
      · skip
        refine lv_goto (tgt := 67) hx hb dX4_readNumber_33 (by decide) ?_
        refine lv_iload_n hx hb dX4_readNumber_67 rfl (lv_at hl 2 rfl) ?_
        exact z_iret hC hr hlk hZ (by decide) (by decide) ((Or.inl ⟨by rw [zdg_0 (by omega)], rfl, rfl⟩)) dX4_readNumber_68
