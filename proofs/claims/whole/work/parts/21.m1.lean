set_option maxHeartbeats 4000000 in
set_option maxRecDepth 100000 in
theorem met_X13_in (l : Launch) (D : va_G) (cs : Nat → ClassId) (A : Nat → Prop) (F : zF) (x a b : Int)  (hx0 : InR x) (ha0 : InR a) (hb0 : InR b) : zM l D cs A yX13_in cX13_in 3 (some FieldType.boolean) 1 0 0 [.int (iI x), .int (iI a), .int (iI b)] F (pI (fun r F1 => F = F1 ∧ (((a ≤ x ∧ x ≤ b) ∧ r = 1) ∨ (¬ (a ≤ x ∧ x ≤ b) ∧ r = 0)))) := by
  refine zM_of (own := RX13) (by decide) rfl (Nat.le_of_ble_eq_true rfl) ?_
  intro p e s m below meth c hC hr hlk hnm hZ ls hl
  have hx := hC.x
  have hb := hC.b
  have hl : lv_has ls 3 [(0, .int (iI x)), (1, .int (iI a)), (2, .int (iI b))] := hl
  refine lv_iload_n hx hb dX13_in_0 rfl (lv_at hl 0 rfl) ?_
  refine lv_iload_n hx hb dX13_in_1 rfl (lv_at hl 1 rfl) ?_
  refine z_icmp_lt (tgt := 14) hx hb dX13_in_2 (by decide) (by omega) (by omega) (fun c_1 => ?_) (fun c_1 => ?_)
  · skip
    refine z_iconst hx hb dX13_in_14 ?_
    exact z_zret hC hr hlk hZ rfl (by decide) (by decide) (⟨rfl, by omega⟩) dX13_in_15
  · skip
    refine lv_iload_n hx hb dX13_in_5 rfl (lv_at hl 0 rfl) ?_
    refine lv_iload_n hx hb dX13_in_6 rfl (lv_at hl 2 rfl) ?_
    refine z_icmp_gt (tgt := 14) hx hb dX13_in_7 (by decide) (by omega) (by omega) (fun c_2 => ?_) (fun c_2 => ?_)
    · skip
      refine z_iconst hx hb dX13_in_14 ?_
      exact z_zret hC hr hlk hZ rfl (by decide) (by decide) (⟨rfl, by omega⟩) dX13_in_15
    · skip
      refine z_iconst hx hb dX13_in_10 ?_
      refine lv_goto (tgt := 15) hx hb dX13_in_11 (by decide) ?_
      exact z_zret hC hr hlk hZ rfl (by decide) (by decide) (⟨rfl, by omega⟩) dX13_in_15

set_option maxHeartbeats 4000000 in
set_option maxRecDepth 100000 in
theorem met_X13_thrown (l : Launch) (D : va_G) (cs : Nat → ClassId) (A : Nat → Prop) (m0 : Nat) (ad : Nat → Nat) (v : Nat → Int) (g : Nat → Int → Int)  (hD : mD m0 ad) (hok : mOK v g)  : zM l D cs A yX13_thrown cX13_thrown 1 (some FieldType.int) 1 0 0 [.ref m0] (mW cs m0 ad v g) (mP cs m0 ad (fun r v1 g1 => v = v1 ∧ g = g1 ∧ v 6 = r)) := by
  refine zM_of (own := RX13) (by decide) rfl (Nat.le_of_ble_eq_true rfl) ?_
  intro p e s m below meth c hC hr hlk hnm hZ ls hl
  have hx := hC.x
  have hb := hC.b
  have hl : lv_has ls 1 [(0, .ref m0)] := hl
  refine lv_aload_n hx hb dX13_thrown_0 rfl (lv_at hl 0 rfl) ?_
  refine m_get hC hZ 6 (x := .int (iI (v 6))) rfl (by decide) ql_X13_55 rfl dX13_thrown_1 ?_
  have hr_1 : -2147483648 ≤ v 6 ∧ v 6 ≤ 2147483647 := hok.1 6
  exact z_iret hC hr hlk hZ (by decide) (by decide) (⟨_, _, rfl, ‹mOK v g›, rfl, rfl, rfl⟩) dX13_thrown_4

set_option maxHeartbeats 4000000 in
set_option maxRecDepth 100000 in
theorem met_X13_fails (l : Launch) (D : va_G) (cs : Nat → ClassId) (A : Nat → Prop) (m0 : Nat) (ad : Nat → Nat) (v : Nat → Int) (g : Nat → Int → Int) (x : Int) (hD : mD m0 ad) (hok : mOK v g) (hx0 : InR x) : zM l D cs A yX13_fails cX13_fails 2 (some FieldType.int) 1 0 0 [.ref m0, .int (iI x)] (mW cs m0 ad v g) (mP cs m0 ad (fun r v1 g1 => upN v 6 x = v1 ∧ g = g1 ∧ 0 = r)) := by
  refine zM_of (own := RX13) (by decide) rfl (Nat.le_of_ble_eq_true rfl) ?_
  intro p e s m below meth c hC hr hlk hnm hZ ls hl
  have hx := hC.x
  have hb := hC.b
  have hl : lv_has ls 2 [(0, .ref m0), (1, .int (iI x))] := hl
  refine lv_aload_n hx hb dX13_fails_0 rfl (lv_at hl 0 rfl) ?_
  refine lv_iload_n hx hb dX13_fails_1 rfl (lv_at hl 1 rfl) ?_
  refine m_put hC hZ 6 (ty := .int) (by decide) ql_X13_55 rfl rfl rfl (Or.inl rfl) rfl dX13_fails_2 (fun H locs hZ => ?_)
  have hok_1 := hok.v (k := 6) (x := x) (by omega)
  refine z_iconst hx hb dX13_fails_5 ?_
  exact z_iret hC hr hlk hZ (by decide) (by decide) (⟨_, _, rfl, hok_1, rfl, rfl, rfl⟩) dX13_fails_6

set_option maxHeartbeats 4000000 in
set_option maxRecDepth 100000 in
theorem met_X13_isThere (l : Launch) (D : va_G) (cs : Nat → ClassId) (A : Nat → Prop) (m0 : Nat) (ad : Nat → Nat) (v : Nat → Int) (g : Nat → Int → Int) (b : Int) (hD : mD m0 ad) (hok : mOK v g) (hb0 : b = 0 ∨ b = 1) : zM l D cs A yX13_isThere cX13_isThere 2 (some FieldType.boolean) 1 0 0 [.ref m0, .int (iI b)] (mW cs m0 ad v g) (mP cs m0 ad (fun r v1 g1 => upN v 6 (1 - b) = v1 ∧ g = g1 ∧ b = r)) := by
  refine zM_of (own := RX13) (by decide) rfl (Nat.le_of_ble_eq_true rfl) ?_
  intro p e s m below meth c hC hr hlk hnm hZ ls hl
  have hx := hC.x
  have hb := hC.b
  have hl : lv_has ls 2 [(0, .ref m0), (1, .int (iI b))] := hl
  refine lv_aload_n hx hb dX13_isThere_0 rfl (lv_at hl 0 rfl) ?_
  refine lv_iload_n hx hb dX13_isThere_1 rfl (lv_at hl 1 rfl) ?_
  refine z_if_eq (tgt := 9) hx hb dX13_isThere_2 (by decide) (by omega) (fun c_1 => ?_) (fun c_1 => ?_)
  · skip
    refine z_iconst hx hb dX13_isThere_9 ?_
    refine z_top (y := 1 - b) (by omega) ?_
    refine m_put hC hZ 6 (ty := .int) (by decide) ql_X13_55 rfl rfl rfl (Or.inl rfl) rfl dX13_isThere_10 (fun H locs hZ => ?_)
    have hok_2 := hok.v (k := 6) (x := 1 - b) (by omega)
    refine lv_iload_n hx hb dX13_isThere_13 rfl (lv_at hl 1 rfl) ?_
    exact z_zret hC hr hlk hZ (iI_zr (by omega)) (by decide) (by decide) (⟨_, _, rfl, hok_2, rfl, rfl, rfl⟩) dX13_isThere_14
  · skip
    refine z_iconst hx hb dX13_isThere_5 ?_
    refine lv_goto (tgt := 10) hx hb dX13_isThere_6 (by decide) ?_
    refine z_top (y := 1 - b) (by omega) ?_
    refine m_put hC hZ 6 (ty := .int) (by decide) ql_X13_55 rfl rfl rfl (Or.inl rfl) rfl dX13_isThere_10 (fun H locs hZ => ?_)
    have hok_3 := hok.v (k := 6) (x := 1 - b) (by omega)
    refine lv_iload_n hx hb dX13_isThere_13 rfl (lv_at hl 1 rfl) ?_
    exact z_zret hC hr hlk hZ (iI_zr (by omega)) (by decide) (by decide) (⟨_, _, rfl, hok_3, rfl, rfl, rfl⟩) dX13_isThere_14

set_option maxHeartbeats 4000000 in
set_option maxRecDepth 100000 in
theorem met_X13_of (l : Launch) (D : va_G) (cs : Nat → ClassId) (A : Nat → Prop) (m0 : Nat) (ad : Nat → Nat) (v : Nat → Int) (g : Nat → Int → Int) (a b : Int) (hD : mD m0 ad) (hok : mOK v g) (ha0 : 0 ≤ a ∧ a ≤ 6) (hb0 : 0 ≤ b ∧ b < 393 ∧ 9 + 393 * a + b < 2439) : zM l D cs A yX13_of cX13_of 3 (some FieldType.int) 1 0 0 [.ref m0, .int (iI a), .int (iI b)] (mW cs m0 ad v g) (mP cs m0 ad (fun r v1 g1 => v = v1 ∧ g = g1 ∧ mof (g 0) a b = r)) := by
  refine zM_of (own := RX13) (by decide) rfl (Nat.le_of_ble_eq_true rfl) ?_
  intro p e s m below meth c hC hr hlk hnm hZ ls hl
  have hx := hC.x
  have hb := hC.b
  have hl : lv_has ls 3 [(0, .ref m0), (1, .int (iI a)), (2, .int (iI b))] := hl
  refine lv_aload_n hx hb dX13_of_0 rfl (lv_at hl 0 rfl) ?_
  refine m_get hC hZ 0 (x := .ref (ad 0)) rfl (by decide) ql_X13_9 rfl dX13_of_1 ?_
  refine z_bipush hx hb dX13_of_4 (by decide) ?_
  refine z_sipush hx hb dX13_of_6 (by decide) ?_
  refine lv_iload_n hx hb dX13_of_9 rfl (lv_at hl 1 rfl) ?_
  refine z_imul hx hb dX13_of_10 ?_
  refine z_iadd hx hb dX13_of_11 ?_
  refine lv_iload_n hx hb dX13_of_12 rfl (lv_at hl 2 rfl) ?_
  refine z_iadd hx hb dX13_of_13 ?_
  refine m_iald hC hZ hD 0 (by decide) (f := g 0) rfl rfl (by show _ ∧ _ < (2439 : Int); omega) (by decide) dX13_of_14 ?_
  have hr_1 : -2147483648 ≤ (g 0) ((9 + (393 * a)) + b) ∧ (g 0) ((9 + (393 * a)) + b) ≤ 2147483647 := hok.2 0 _
  exact z_iret hC hr hlk hZ (by decide) (by decide) (⟨_, _, rfl, ‹mOK v g›, rfl, rfl, rfl⟩) dX13_of_15

set_option maxHeartbeats 4000000 in
set_option maxRecDepth 100000 in
theorem met_X13_sets (l : Launch) (D : va_G) (cs : Nat → ClassId) (A : Nat → Prop) (m0 : Nat) (ad : Nat → Nat) (v : Nat → Int) (g : Nat → Int → Int) (a b x : Int) (hD : mD m0 ad) (hok : mOK v g) (ha0 : 0 ≤ a ∧ a ≤ 6) (hb0 : 0 ≤ b ∧ b < 393 ∧ 9 + 393 * a + b < 2439) (hx0 : InR x) : zM l D cs A yX13_sets cX13_sets 4 (none : Option Jvm.ClassFile.FieldType) 1 0 0 [.ref m0, .int (iI a), .int (iI b), .int (iI x)] (mW cs m0 ad v g) (mPv cs m0 ad (fun v1 g1 => v = v1 ∧ upG g 0 (upI (g 0) (9 + 393 * a + b) x) = g1)) := by
  refine zM_of (own := RX13) (by decide) rfl (Nat.le_of_ble_eq_true rfl) ?_
  intro p e s m below meth c hC hr hlk hnm hZ ls hl
  have hx := hC.x
  have hb := hC.b
  have hl : lv_has ls 4 [(0, .ref m0), (1, .int (iI a)), (2, .int (iI b)), (3, .int (iI x))] := hl
  refine lv_aload_n hx hb dX13_sets_0 rfl (lv_at hl 0 rfl) ?_
  refine m_get hC hZ 0 (x := .ref (ad 0)) rfl (by decide) ql_X13_9 rfl dX13_sets_1 ?_
  refine z_bipush hx hb dX13_sets_4 (by decide) ?_
  refine z_sipush hx hb dX13_sets_6 (by decide) ?_
  refine lv_iload_n hx hb dX13_sets_9 rfl (lv_at hl 1 rfl) ?_
  refine z_imul hx hb dX13_sets_10 ?_
  refine z_iadd hx hb dX13_sets_11 ?_
  refine lv_iload_n hx hb dX13_sets_12 rfl (lv_at hl 2 rfl) ?_
  refine z_iadd hx hb dX13_sets_13 ?_
  refine lv_iload_n hx hb dX13_sets_14 rfl (lv_at hl 3 rfl) ?_
  refine m_iast hC hZ hD 0 (by decide) (f := g 0) rfl rfl (by show _ ∧ _ < (2439 : Int); omega) (by decide) dX13_sets_15 (fun H locs hZ => ?_)
  have hok_1 := hok.g (k := 0) (i := ((9 + (393 * a)) + b)) (x := x) (f := g 0) rfl (by omega)
  exact z_vret hC hr hlk hZ (by decide) (by decide) (⟨_, _, rfl, hok_1, rfl, rfl⟩) dX13_sets_16

set_option maxHeartbeats 4000000 in
set_option maxRecDepth 100000 in
theorem met_X13_placeOf (l : Launch) (D : va_G) (cs : Nat → ClassId) (A : Nat → Prop) (m0 : Nat) (ad : Nat → Nat) (v : Nat → Int) (g : Nat → Int → Int) (x : Int) (hD : mD m0 ad) (hok : mOK v g) (hx0 : InR x) (hn : 0 ≤ g 0 0 ∧ g 0 0 ≤ 6) : zM l D cs A yX13_placeOf cX13_placeOf 4 (some FieldType.int) 2 0 0 [.ref m0, .int (iI x)] (mW cs m0 ad v g) (mP cs m0 ad (fun r v1 g1 => v = v1 ∧ g = g1 ∧ mPl (g 0) (g 0 0) x r)) := by
  refine zM_of (own := RX13) (by decide) rfl (Nat.le_of_ble_eq_true rfl) ?_
  intro p e s m below meth c hC hr hlk hnm hZ ls hl
  have hx := hC.x
  have hb := hC.b
  have hl : lv_has ls 4 [(0, .ref m0), (1, .int (iI x))] := hl
  refine z_iconst hx hb dX13_placeOf_0 ?_
  refine lv_istore_n (lv' := [(2, .int (iI (-1))), (0, .ref m0), (1, .int (iI x))]) hx hb dX13_placeOf_1 rfl hl (by decide) rfl (fun ls hl => ?_)
  refine z_iconst hx hb dX13_placeOf_2 ?_
  refine lv_istore_n (lv' := [(3, .int (iI 0)), (2, .int (iI (-1))), (0, .ref m0), (1, .int (iI x))]) hx hb dX13_placeOf_3 rfl hl (by decide) rfl (fun ls hl => ?_)
  have L4_k_1 : ∀ (fu : Nat) (f i : Int)  (hfu : (g 0 0 - i).toNat < fu) (hi4_0 : 0 ≤ i ∧ i ≤ g 0 0) (hi4_1 : -1 ≤ f ∧ f < i) (hi4_2 : 0 ≤ f → mof (g 0) f 0 = x) (hi4_3 : ∀ j, f < j → 0 ≤ j → j < i → mof (g 0) j 0 ≠ x) (H : Heap) (locs : List Loc) (hZ : zS D A s (mW cs m0 ad v g) H locs) (ls : Array Slot) (hl : lv_has ls 4 [(3, .int (iI i)), (2, .int (iI f)), (0, .ref m0), (1, .int (iI x))]), W p l e (zR 2 0 0) s m [.ref m0, .int (iI x)].toArray below meth c H locs 0 0 (MQ below (zQ D A (mP cs m0 ad (fun r v1 g1 => v = v1 ∧ g = g1 ∧ mPl (g 0) (g 0 0) x r))) [.ref m0, .int (iI x)].toArray s 0 0 A) (F0 m 4 ls []) := by
    intro fu
    induction fu with
    | zero =>
      intro f i  hfu
      exact absurd hfu (Nat.not_lt_zero _)
    | succ fu ih4 =>
      intro f i  hfu hi4_0 hi4_1 hi4_2 hi4_3  H locs hZ ls hl
      refine lv_iload_n hx hb dX13_placeOf_4 rfl (lv_at hl 0 rfl) ?_
      refine lv_aload_n hx hb dX13_placeOf_5 rfl (lv_at hl 2 rfl) ?_
      refine m_get hC hZ 0 (x := .ref (ad 0)) rfl (by decide) ql_X13_9 rfl dX13_placeOf_6 ?_
      refine z_iconst hx hb dX13_placeOf_9 ?_
      refine m_iald hC hZ hD 0 (by decide) (f := g 0) rfl rfl (by decide) (by decide) dX13_placeOf_10 ?_
      have hr_2 : -2147483648 ≤ (g 0) 0 ∧ (g 0) 0 ≤ 2147483647 := hok.2 0 _
      refine z_icmp_ge (tgt := 36) hx hb dX13_placeOf_11 (by decide) (by omega) (by omega) (fun c_3 => ?_) (fun c_3 => ?_)
      · skip
        refine lv_iload_n hx hb dX13_placeOf_36 rfl (lv_at hl 1 rfl) ?_
        exact z_iret hC hr hlk hZ (by decide) (by decide) (⟨_, _, rfl, ‹mOK v g›, rfl, rfl, ⟨by omega, hi4_2, fun j h1 h2 h3 => hi4_3 j h1 h2 (by omega)⟩⟩) dX13_placeOf_37
      · skip
        refine lv_aload_n hx hb dX13_placeOf_14 rfl (lv_at hl 2 rfl) ?_
        refine lv_iload_n hx hb dX13_placeOf_15 rfl (lv_at hl 0 rfl) ?_
        refine z_iconst hx hb dX13_placeOf_16 ?_
        refine z_calli (z_runV (rest := []) (As := [.int (iI i), .int (iI 0)]) (n := 2) (ci := 16) hC hZ (met_X13_of l D cs A m0 ad v g i 0 hD hok (by omega) (by omega)) gv_X13_67 hd_X13_of rfl mW_o rfl hl rfl (Nat.le_of_ble_eq_true rfl) ⟨Nat.le_of_ble_eq_true rfl, Nat.le_of_ble_eq_true rfl⟩ ⟨Nat.le_of_ble_eq_true rfl, Nat.le_of_ble_eq_true rfl⟩ dX13_placeOf_17) hZ (fun r17 _ H locs hp_4 hZ => ?_)
        obtain ⟨_, _, rfl, _, rfl, rfl, rfl⟩ := hp_4
        have hr_5 : -2147483648 ≤ mof (g 0) i 0 ∧ mof (g 0) i 0 ≤ 2147483647 := hok.2 0 _
        refine lv_iload_n hx hb dX13_placeOf_20 rfl (lv_at hl 3 rfl) ?_
        refine z_icmp_ne (tgt := 28) hx hb dX13_placeOf_21 (by decide) (by omega) (by omega) (fun c_6 => ?_) (fun c_6 => ?_)
        · skip
          refine lv_iload_n hx hb dX13_placeOf_28 rfl (lv_at hl 1 rfl) ?_
          refine lv_istore_n (lv' := [(2, .int (iI f)), (3, .int (iI i)), (0, .ref m0), (1, .int (iI x))]) hx hb dX13_placeOf_29 rfl hl (by decide) rfl (fun ls hl => ?_)
          refine z_iinc (lv' := [(3, .int (iI (i + 1))), (2, .int (iI f)), (0, .ref m0), (1, .int (iI x))]) hx hb dX13_placeOf_30 hl (k := 1) rfl (by decide) rfl (fun ls hl => ?_)
          refine lv_goto (tgt := 4) hx hb dX13_placeOf_33 (by decide) ?_
          exact ih4 f (i + 1)  (by omega) (by omega) (by omega) hi4_2 (fun j h1 h2 h3 => (Int.lt_or_eq_of_le (Int.le_of_lt_add_one h3)).elim (hi4_3 j h1 h2) (fun q => by rw [q]; assumption))  _ _ hZ ls (lv_sub hl [0, 1, 2, 3] rfl)
        · skip
          refine lv_iload_n hx hb dX13_placeOf_24 rfl (lv_at hl 0 rfl) ?_
          refine lv_goto (tgt := 29) hx hb dX13_placeOf_25 (by decide) ?_
          refine lv_istore_n (lv' := [(2, .int (iI i)), (3, .int (iI i)), (0, .ref m0), (1, .int (iI x))]) hx hb dX13_placeOf_29 rfl hl (by decide) rfl (fun ls hl => ?_)
          refine z_iinc (lv' := [(3, .int (iI (i + 1))), (2, .int (iI i)), (0, .ref m0), (1, .int (iI x))]) hx hb dX13_placeOf_30 hl (k := 1) rfl (by decide) rfl (fun ls hl => ?_)
          refine lv_goto (tgt := 4) hx hb dX13_placeOf_33 (by decide) ?_
          exact ih4 i (i + 1)  (by omega) (by omega) (by omega) (fun _ => by assumption) (fun j h1 h2 h3 => by omega)  _ _ hZ ls (lv_sub hl [0, 1, 2, 3] rfl)
  exact L4_k_1 _ (-1) 0  (Nat.lt_succ_self _) (by omega) (by omega) (fun h => absurd h (by decide)) (fun j h1 h2 h3 => absurd h2 (by omega))  _ _ hZ ls (lv_sub hl [0, 1, 2, 3] rfl)

