/-- a number of the script, or what stands for it -/
def zcell (cs : Nat → ClassId) (k : Int) : Int := if k < (cs 99 : Int) then (Int32.ofNat (cs (100 + k.toNat))).toInt else 40503 * k
theorem zidx_V (x : Int) : (isV x = true ∧ 0 ≤ zidx (zLw 5) x) ∨ (isV x = false ∧ zidx (zLw 5) x < 0) := by
  show (isV x = true ∧ 0 ≤ zixo x [97, 101, 105, 111, 117] 0) ∨ (isV x = false ∧ zixo x [97, 101, 105, 111, 117] 0 < 0)
  unfold isV
  simp only [zixo]
  by_cases h1 : (97 : Int) = x
  · left; simp [← h1]
  by_cases h2 : (101 : Int) = x
  · left; simp [← h2]
  by_cases h3 : (105 : Int) = x
  · left; simp [← h3]
  by_cases h4 : (111 : Int) = x
  · left; simp [← h4]
  by_cases h5 : (117 : Int) = x
  · left; simp [← h5]
  right
  rw [if_neg h1, if_neg h2, if_neg h3, if_neg h4, if_neg h5]
  refine ⟨?_, by decide⟩
  simp
  omega
/-- how many there are of c -/
def zmany (t : List Int) (c : Int) : Int := (t.countP (fun x => decide (x = c)) : Nat)
theorem zmany_s {t : List Int} {c k : Int} (h0 : 0 ≤ k) (h1 : k < t.length) : (t.getD k.toNat 0 = c ∧ zmany (t.take (k + 1).toNat) c = zmany (t.take k.toNat) c + 1) ∨ (t.getD k.toNat 0 ≠ c ∧ zmany (t.take (k + 1).toNat) c = zmany (t.take k.toNat) c) := by
  have hl : k.toNat < t.length := by omega
  unfold zmany
  rw [show (k + 1).toNat = k.toNat + 1 by omega, List.take_add_one, List.getElem?_eq_getElem hl, List.countP_append, List.getD_eq_getElem?_getD, List.getElem?_eq_getElem hl]
  by_cases q : t[k.toNat] = c
  · left; simp [q]
  · right; simp [q]
theorem zmany_le (t : List Int) (c : Int) : 0 ≤ zmany t c ∧ zmany t c ≤ t.length := ⟨Int.natCast_nonneg _, Int.ofNat_le.mpr List.countP_le_length⟩
set_option maxHeartbeats 4000000 in
set_option maxRecDepth 100000 in
theorem lm_cell (l : Launch) (D : va_G) (cs : Nat → ClassId) (A : Nat → Prop) (F : zF) (k : Int)  (hk : 0 ≤ k ∧ k ≤ 1000) (hL : (cs 99 : Int) ≤ 260) : zM l D cs A yL_cell cL_cell 2 (some FieldType.int) 1 0 0 [.ref (cs 98), .int (iI k)] F (pI (fun r F1 => F = F1 ∧ zcell cs k = r)) := by
  refine zM_of (own := RL) (by decide) rfl (Nat.le_of_ble_eq_true rfl) ?_
  intro p e s m below meth c hC hr hlk hnm hZ ls hl
  have hx := hC.x
  have hb := hC.b
  have hl : lv_has ls 2 [(0, .ref (cs 98)), (1, .int (iI k))] := hl
  refine lv_iload_n hx hb dL_cell_0 rfl (lv_at hl 1 rfl) ?_
  refine lv_aload_n hx hb dL_cell_1 rfl (lv_at hl 0 rfl) ?_
  refine z_tlen hC hZ (List.mem_of_getElem? (i := 21) rfl) dL_cell_2 ?_
  refine z_icmp_ge (tgt := 12) hx hb dL_cell_3 (by decide) (by omega) (by omega) (fun c_1 => ?_) (fun c_1 => ?_)
  · skip
    refine z_ldc (z := 40503) hC qz_264 (by decide) dL_cell_12 ?_
    refine lv_iload_n hx hb dL_cell_14 rfl (lv_at hl 1 rfl) ?_
    refine z_imul hx hb dL_cell_15 ?_
    exact z_iret hC hr hlk hZ (by decide) (by decide) (⟨rfl, by unfold zcell; rw [if_neg (by omega)]⟩) dL_cell_16
  · skip
    refine lv_aload_n hx hb dL_cell_6 rfl (lv_at hl 0 rfl) ?_
    refine lv_iload_n hx hb dL_cell_7 rfl (lv_at hl 1 rfl) ?_
    refine z_ti (x := (Int32.ofNat (cs (100 + k.toNat))).toInt) hC hZ (List.mem_of_getElem? (i := 21) rfl) (by omega) (Int.ofNat_le.mp (by omega)) (congrArg Value.int (iI_of _)) dL_cell_8 ?_
    refine lv_goto (tgt := 16) hx hb dL_cell_9 (by decide) ?_
    exact z_iret hC hr hlk hZ (by decide) (by decide) (⟨rfl, by unfold zcell; rw [if_pos (by omega)]⟩) dL_cell_16

set_option maxHeartbeats 4000000 in
set_option maxRecDepth 100000 in
theorem lm_isVowel (l : Launch) (D : va_G) (cs : Nat → ClassId) (A : Nat → Prop) (F : zF) (x : Int)  (hx0 : 0 ≤ x ∧ x ≤ 127) : zM l D cs A yL_isVowel cL_isVowel 1 (some FieldType.boolean) 8 0 0 [.int (iI x)] F (pI (fun r F1 => F = F1 ∧ ((isV x = true ∧ r = 1) ∨ (isV x = false ∧ r = 0)))) := by
  refine zM_of (own := RL) (by decide) rfl (Nat.le_of_ble_eq_true rfl) ?_
  intro p e s m below meth c hC hr hlk hnm hZ ls hl
  have hx := hC.x
  have hb := hC.b
  have hl : lv_has ls 1 [(0, .int (iI x))] := hl
  have hzv := zidx_V x
  have hzr := zixo_rng x (zLw 5) 0 (by decide)
  have hzr2 : zidx (zLw 5) x = zixo x (zLw 5) 0 := rfl
  have hzl : (zLw 5).length = 5 := rfl
  refine z_ldcS1 hC (List.mem_of_getElem? (i := 5) rfl) dL_isVowel_0 ?_
  refine lv_iload_n hx hb dL_isVowel_2 rfl (lv_at hl 0 rfl) ?_
  refine z_calli (z_runSt (rest := []) (As := [.int (iI x)]) (n := 1) hC hZ (mes_indexOf l D cs A F (cs (50 + 5)) (cs (70 + 5)) (zLw 5) x (zLw_st (j := 5) (by decide)) (by omega)) gv_L_219 hd_J0_indexOf_0f7a4 (zLw_st (j := 5) (by decide)) rfl hl rfl (Nat.le_of_ble_eq_true rfl) ⟨Nat.le_of_ble_eq_true rfl, Nat.le_of_ble_eq_true rfl⟩ ⟨Nat.le_of_ble_eq_true rfl, Nat.le_of_ble_eq_true rfl⟩ dL_isVowel_3) hZ (fun r3 F3 H locs hp3_c_1 hZ => ?_)
  obtain ⟨rfl, rfl⟩ := hp3_c_1
  refine z_if_lt (tgt := 13) hx hb dL_isVowel_6 (by decide) (by omega) (fun c_2 => ?_) (fun c_2 => ?_)
  · skip
    refine z_iconst hx hb dL_isVowel_13 ?_
    exact z_zret hC hr hlk hZ rfl (by decide) (by decide) (⟨rfl, Or.inr ⟨hzv.elim (fun q => by omega) And.left, rfl⟩⟩) dL_isVowel_14
  · skip
    refine z_iconst hx hb dL_isVowel_9 ?_
    refine lv_goto (tgt := 14) hx hb dL_isVowel_10 (by decide) ?_
    exact z_zret hC hr hlk hZ rfl (by decide) (by decide) (⟨rfl, Or.inl ⟨hzv.elim And.left (fun q => by omega), rfl⟩⟩) dL_isVowel_14

set_option maxHeartbeats 4000000 in
set_option maxRecDepth 100000 in
theorem lm_divides (l : Launch) (D : va_G) (cs : Nat → ClassId) (A : Nat → Prop) (F : zF) (a v : Nat) (t : List Int) (k : Int)  (hs : oSt cs F a v t) (hk : -1 ≤ k ∧ k ≤ 3000) : zM l D cs A yL_divides cL_divides 2 (some FieldType.boolean) 9 0 0 [.ref a, .int (iI k)] F (pI (fun r F1 => F = F1 ∧ ((cutOK t k ∧ r = 1) ∨ (¬ cutOK t k ∧ r = 0)))) := by
  refine zM_of (own := RL) (by decide) rfl (Nat.le_of_ble_eq_true rfl) ?_
  intro p e s m below meth c hC hr hlk hnm hZ ls hl
  have hx := hC.x
  have hb := hC.b
  have hl : lv_has ls 2 [(0, .ref a), (1, .int (iI k))] := hl
  have hlen := hs.2.1
  have hrg := hs.2.2
  refine lv_iload_n hx hb dL_divides_0 rfl (lv_at hl 1 rfl) ?_
  refine z_iconst hx hb dL_divides_1 ?_
  refine z_icmp_le (tgt := 43) hx hb dL_divides_2 (by decide) (by omega) (by decide) (fun c_1 => ?_) (fun c_1 => ?_)
  · skip
    refine z_iconst hx hb dL_divides_43 ?_
    exact z_zret hC hr hlk hZ rfl (by decide) (by decide) (⟨rfl, Or.inr ⟨fun q => absurd q.1 (by omega), rfl⟩⟩) dL_divides_44
  · skip
    refine lv_iload_n hx hb dL_divides_5 rfl (lv_at hl 1 rfl) ?_
    refine lv_aload_n hx hb dL_divides_6 rfl (lv_at hl 0 rfl) ?_
    refine z_calli (z_runSt (rest := [.int (iI k)]) (As := []) (n := 0) hC hZ (mes_length l D cs A F a v t hs) gv_L_138 hd_J0_length_8abf5 hs rfl hl rfl (Nat.le_of_ble_eq_true rfl) ⟨Nat.le_of_ble_eq_true rfl, Nat.le_of_ble_eq_true rfl⟩ ⟨Nat.le_of_ble_eq_true rfl, Nat.le_of_ble_eq_true rfl⟩ dL_divides_7) hZ (fun r7 F7 H locs hp7_c_2 hZ => ?_)
    obtain ⟨rfl, rfl⟩ := hp7_c_2
    refine z_iconst hx hb dL_divides_10 ?_
    refine z_isub hx hb dL_divides_11 ?_
    refine z_icmp_ge (tgt := 43) hx hb dL_divides_12 (by decide) (by omega) (by omega) (fun c_3 => ?_) (fun c_3 => ?_)
    · skip
      refine z_iconst hx hb dL_divides_43 ?_
      exact z_zret hC hr hlk hZ rfl (by decide) (by decide) (⟨rfl, Or.inr ⟨fun q => absurd q.2.1 (by omega), rfl⟩⟩) dL_divides_44
    · skip
      refine lv_aload_n hx hb dL_divides_15 rfl (lv_at hl 0 rfl) ?_
      refine lv_iload_n hx hb dL_divides_16 rfl (lv_at hl 1 rfl) ?_
      refine z_iconst hx hb dL_divides_17 ?_
      refine z_isub hx hb dL_divides_18 ?_
      refine z_calli (z_runSt (rest := []) (As := [.int (iI (k - 1))]) (n := 1) hC hZ (mes_charAt l D cs A F a v t (k - 1) hs (by omega)) gv_L_143 hd_J0_charAt_5068e hs rfl hl rfl (Nat.le_of_ble_eq_true rfl) ⟨Nat.le_of_ble_eq_true rfl, Nat.le_of_ble_eq_true rfl⟩ ⟨Nat.le_of_ble_eq_true rfl, Nat.le_of_ble_eq_true rfl⟩ dL_divides_19) hZ (fun r19 F19 H locs hp19_c_4 hZ => ?_)
      obtain ⟨rfl, rfl⟩ := hp19_c_4
      have hg1 := gD_rng hrg (k - 1).toNat
      refine z_calli (z_runS (rest := []) (As := [.int (iI (t.getD (k - 1).toNat 0))]) (n := 1) hC hZ (lm_isVowel l D cs A F (t.getD (k - 1).toNat 0) (by omega)) gs_L_222 he_L_isVowel rfl hl rfl (Nat.le_of_ble_eq_true rfl) ⟨Nat.le_of_ble_eq_true rfl, Nat.le_of_ble_eq_true rfl⟩ ⟨Nat.le_of_ble_eq_true rfl, Nat.le_of_ble_eq_true rfl⟩ dL_divides_22) hZ (fun r22 F22 H locs hp22_c_5 hZ => ?_)
      obtain ⟨rfl, hp22_c_5⟩ := hp22_c_5
      have hv1 := hp22_c_5
      refine z_if_eq (tgt := 43) hx hb dL_divides_25 (by decide) (by omega) (fun c_6 => ?_) (fun c_6 => ?_)
      · skip
        refine z_iconst hx hb dL_divides_43 ?_
        exact z_zret hC hr hlk hZ rfl (by decide) (by decide) (⟨rfl, Or.inr ⟨fun q => by have h9 := q.2.2.1; rw [show k.toNat - 1 = (k - 1).toNat by omega] at h9; exact hv1.elim (fun z => by omega) (fun z => by rw [z.1] at h9; cases h9), rfl⟩⟩) dL_divides_44
      · skip
        refine lv_aload_n hx hb dL_divides_28 rfl (lv_at hl 0 rfl) ?_
        refine lv_iload_n hx hb dL_divides_29 rfl (lv_at hl 1 rfl) ?_
        refine z_calli (z_runSt (rest := []) (As := [.int (iI k)]) (n := 1) hC hZ (mes_charAt l D cs A F a v t k hs (by omega)) gv_L_143 hd_J0_charAt_5068e hs rfl hl rfl (Nat.le_of_ble_eq_true rfl) ⟨Nat.le_of_ble_eq_true rfl, Nat.le_of_ble_eq_true rfl⟩ ⟨Nat.le_of_ble_eq_true rfl, Nat.le_of_ble_eq_true rfl⟩ dL_divides_30) hZ (fun r30 F30 H locs hp30_c_7 hZ => ?_)
        obtain ⟨rfl, rfl⟩ := hp30_c_7
        have hg2 := gD_rng hrg k.toNat
        refine z_calli (z_runS (rest := []) (As := [.int (iI (t.getD k.toNat 0))]) (n := 1) hC hZ (lm_isVowel l D cs A F (t.getD k.toNat 0) (by omega)) gs_L_222 he_L_isVowel rfl hl rfl (Nat.le_of_ble_eq_true rfl) ⟨Nat.le_of_ble_eq_true rfl, Nat.le_of_ble_eq_true rfl⟩ ⟨Nat.le_of_ble_eq_true rfl, Nat.le_of_ble_eq_true rfl⟩ dL_divides_33) hZ (fun r33 F33 H locs hp33_c_8 hZ => ?_)
        obtain ⟨rfl, hp33_c_8⟩ := hp33_c_8
        have hv2 := hp33_c_8
        refine z_if_ne (tgt := 43) hx hb dL_divides_36 (by decide) (by omega) (fun c_9 => ?_) (fun c_9 => ?_)
        · skip
          refine z_iconst hx hb dL_divides_43 ?_
          exact z_zret hC hr hlk hZ rfl (by decide) (by decide) (⟨rfl, Or.inr ⟨fun q => by have h9 := q.2.2.2; exact hv2.elim (fun z => by rw [z.1] at h9; cases h9) (fun z => by omega), rfl⟩⟩) dL_divides_44
        · skip
          refine z_iconst hx hb dL_divides_39 ?_
          refine lv_goto (tgt := 44) hx hb dL_divides_40 (by decide) ?_
          exact z_zret hC hr hlk hZ rfl (by decide) (by decide) (⟨rfl, Or.inl ⟨⟨by omega, by omega, by rw [show k.toNat - 1 = (k - 1).toNat by omega]; exact (hv1.elim And.left (fun q => by omega)), hv2.elim (fun q => by omega) And.left⟩, rfl⟩⟩) dL_divides_44

set_option maxHeartbeats 4000000 in
set_option maxRecDepth 100000 in
theorem lm_many (l : Launch) (D : va_G) (cs : Nat → ClassId) (A : Nat → Prop) (F : zF) (a v : Nat) (t : List Int) (c_ : Int)  (hs : oSt cs F a v t) (hc0 : 0 ≤ c_ ∧ c_ ≤ 127) : zM l D cs A yL_many cL_many 4 (some FieldType.int) 6 0 0 [.ref a, .int (iI c_)] F (pI (fun r F1 => F = F1 ∧ zmany t c_ = r)) := by
  refine zM_of (own := RL) (by decide) rfl (Nat.le_of_ble_eq_true rfl) ?_
  intro p e s m below meth c hC hr hlk hnm hZ ls hl
  have hx := hC.x
  have hb := hC.b
  have hl : lv_has ls 4 [(0, .ref a), (1, .int (iI c_))] := hl
  have hlen := hs.2.1
  have hrg := hs.2.2
  refine z_iconst hx hb dL_many_0 ?_
  refine lv_istore_n (lv' := [(2, .int (iI 0)), (0, .ref a), (1, .int (iI c_))]) hx hb dL_many_1 rfl hl (by decide) rfl (fun ls hl => ?_)
  refine z_iconst hx hb dL_many_2 ?_
  refine lv_istore_n (lv' := [(3, .int (iI 0)), (2, .int (iI 0)), (0, .ref a), (1, .int (iI c_))]) hx hb dL_many_3 rfl hl (by decide) rfl (fun ls hl => ?_)
  have L4_k_1 : ∀ (fu : Nat) (k n : Int)  (hfu : ((t.length : Int) - k).toNat < fu) (hi4_0 : 0 ≤ k ∧ k ≤ t.length) (hi4_1 : n = zmany (t.take k.toNat) c_) (hi4_2 : 0 ≤ n ∧ n ≤ k) (H : Heap) (locs : List Loc) (hZ : zS D A s F H locs) (ls : Array Slot) (hl : lv_has ls 4 [(3, .int (iI k)), (2, .int (iI n)), (0, .ref a), (1, .int (iI c_))]), W p l e (zR 6 0 0) s m [.ref a, .int (iI c_)].toArray below meth c H locs 0 0 (MQ below (zQ D A (pI (fun r F1 => F = F1 ∧ zmany t c_ = r))) [.ref a, .int (iI c_)].toArray s 0 0 A) (F0 m 4 ls []) := by
    intro fu
    induction fu with
    | zero =>
      intro k n  hfu
      exact absurd hfu (Nat.not_lt_zero _)
    | succ fu ih4 =>
      intro k n  hfu hi4_0 hi4_1 hi4_2  H locs hZ ls hl
      refine lv_iload_n hx hb dL_many_4 rfl (lv_at hl 0 rfl) ?_
      refine lv_aload_n hx hb dL_many_5 rfl (lv_at hl 2 rfl) ?_
      refine z_calli (z_runSt (rest := [.int (iI k)]) (As := []) (n := 0) hC hZ (mes_length l D cs A F a v t hs) gv_L_138 hd_J0_length_8abf5 hs rfl hl rfl (Nat.le_of_ble_eq_true rfl) ⟨Nat.le_of_ble_eq_true rfl, Nat.le_of_ble_eq_true rfl⟩ ⟨Nat.le_of_ble_eq_true rfl, Nat.le_of_ble_eq_true rfl⟩ dL_many_6) hZ (fun r6 F6 H locs hp6_c_2 hZ => ?_)
      obtain ⟨rfl, rfl⟩ := hp6_c_2
      refine z_icmp_ge (tgt := 35) hx hb dL_many_9 (by decide) (by omega) (by omega) (fun c_3 => ?_) (fun c_3 => ?_)
      · skip
        refine lv_iload_n hx hb dL_many_35 rfl (lv_at hl 1 rfl) ?_
        exact z_iret hC hr hlk hZ (by decide) (by decide) (⟨rfl, by rw [hi4_1, show k.toNat = t.length by omega, List.take_length]⟩) dL_many_36
      · skip
        refine lv_iload_n hx hb dL_many_12 rfl (lv_at hl 1 rfl) ?_
        refine lv_aload_n hx hb dL_many_13 rfl (lv_at hl 2 rfl) ?_
        refine lv_iload_n hx hb dL_many_14 rfl (lv_at hl 0 rfl) ?_
        refine z_calli (z_runSt (rest := [.int (iI n)]) (As := [.int (iI k)]) (n := 1) hC hZ (mes_charAt l D cs A F a v t k hs (by omega)) gv_L_143 hd_J0_charAt_5068e hs rfl hl rfl (Nat.le_of_ble_eq_true rfl) ⟨Nat.le_of_ble_eq_true rfl, Nat.le_of_ble_eq_true rfl⟩ ⟨Nat.le_of_ble_eq_true rfl, Nat.le_of_ble_eq_true rfl⟩ dL_many_15) hZ (fun r15 F15 H locs hp15_c_4 hZ => ?_)
        obtain ⟨rfl, rfl⟩ := hp15_c_4
        have hgr := gD_rng hrg k.toNat
        have hms := zmany_s (c := c_) (t := t) hi4_0.1 (by omega)
        refine lv_iload_n hx hb dL_many_18 rfl (lv_at hl 3 rfl) ?_
        refine z_icmp_ne (tgt := 26) hx hb dL_many_19 (by decide) (by omega) (by omega) (fun c_5 => ?_) (fun c_5 => ?_)
        · skip
          refine z_iconst hx hb dL_many_26 ?_
          refine z_iadd hx hb dL_many_27 ?_
          refine lv_istore_n (lv' := [(2, .int (iI (n + 0))), (3, .int (iI k)), (0, .ref a), (1, .int (iI c_))]) hx hb dL_many_28 rfl hl (by decide) rfl (fun ls hl => ?_)
          refine z_iinc (lv' := [(3, .int (iI (k + 1))), (2, .int (iI (n + 0))), (0, .ref a), (1, .int (iI c_))]) hx hb dL_many_29 hl (k := 1) rfl (by decide) rfl (fun ls hl => ?_)
          refine lv_goto (tgt := 4) hx hb dL_many_32 (by decide) ?_
          exact ih4 (k + 1) (n + 0)  (by omega) (by omega) (by rcases hms with q | q <;> omega) (by omega)  _ _ hZ ls (lv_sub hl [0, 1, 2, 3] rfl)
        · skip
          refine z_iconst hx hb dL_many_22 ?_
          refine lv_goto (tgt := 27) hx hb dL_many_23 (by decide) ?_
          refine z_iadd hx hb dL_many_27 ?_
          refine lv_istore_n (lv' := [(2, .int (iI (n + 1))), (3, .int (iI k)), (0, .ref a), (1, .int (iI c_))]) hx hb dL_many_28 rfl hl (by decide) rfl (fun ls hl => ?_)
          refine z_iinc (lv' := [(3, .int (iI (k + 1))), (2, .int (iI (n + 1))), (0, .ref a), (1, .int (iI c_))]) hx hb dL_many_29 hl (k := 1) rfl (by decide) rfl (fun ls hl => ?_)
          refine lv_goto (tgt := 4) hx hb dL_many_32 (by decide) ?_
          exact ih4 (k + 1) (n + 1)  (by omega) (by omega) (by rcases hms with q | q <;> omega) (by omega)  _ _ hZ ls (lv_sub hl [0, 1, 2, 3] rfl)
  exact L4_k_1 _ 0 0  (Nat.lt_succ_self _) ⟨by decide, by omega⟩ rfl ⟨by decide, by decide⟩  _ _ hZ ls (lv_sub hl [0, 1, 2, 3] rfl)

