set_option maxHeartbeats 4000000 in
set_option maxRecDepth 100000 in
theorem met_X6_init (l : Launch) (D : va_G) (cs : Nat → ClassId) (A : Nat → Prop) (F : zF) (a : Nat) (x : Int) (pa : Nat) (y : UInt32)  (h0 : F a = some (.inr (10, [.int (iI 0), .null, .float 0]))) : zM l D cs A yX6_init cX6_init 4 (none : Option Jvm.ClassFile.FieldType) 1 0 0 [.ref a, .int (iI x), .ref pa, .float y] F (pV (fun F1 => F1 = zup F a (.inr (10, [.int (iI x), .ref pa, .float y])))) := by
  refine zM_of (own := RX6) (by decide) rfl (Nat.le_of_ble_eq_true rfl) ?_
  intro p e s m below meth c hC hr hlk hnm hZ ls hl
  have hx := hC.x
  have hb := hC.b
  have hl : lv_has ls 4 [(0, .ref a), (1, .int (iI x)), (2, .ref pa), (3, .float y)] := hl
  refine lv_aload_n hx hb dX6_init_0 rfl (lv_at hl 0 rfl) ?_
  refine z_oinit (rest := []) hC hl qm_X6_1 ⟨Nat.le_of_ble_eq_true rfl, Nat.le_of_ble_eq_true rfl⟩ dX6_init_1 ?_
  refine lv_aload_n hx hb dX6_init_4 rfl (lv_at hl 0 rfl) ?_
  refine lv_iload_n hx hb dX6_init_5 rfl (lv_at hl 1 rfl) ?_
  refine z_put (T := TX6) (N := 3) (ci := 10) (k := 0) (fs := [.int (iI 0), .null, .float 0]) (v := .int (iI x)) hC hZ tyX6 tyX6_ok nmX6 in_X6 rfl (by decide) ql_X6_7 rfl (Or.inr ⟨rfl, hnm, rfl⟩) rfl h0 (by show 0 < 3; decide) rfl rfl dX6_init_6 (fun H locs hZ => ?_)
  have hf_1 : (zup F a (.inr (10, [.int (iI x), .null, .float 0]))) a = some (.inr (10, [.int (iI x), .null, .float 0])) := zup_s
  replace hZ : zS D A s (zup F a (.inr (10, [.int (iI x), .null, .float 0]))) _ _ := hZ
  refine lv_aload_n hx hb dX6_init_9 rfl (lv_at hl 0 rfl) ?_
  refine lv_aload_n hx hb dX6_init_10 rfl (lv_at hl 2 rfl) ?_
  refine z_put (T := TX6) (N := 3) (ci := 10) (k := 1) (fs := [.int (iI x), .null, .float 0]) (v := .ref pa) hC hZ tyX6 tyX6_ok nmX6 in_X6 rfl (by decide) ql_X6_13 rfl (Or.inr ⟨rfl, hnm, rfl⟩) rfl hf_1 (by show 1 < 3; decide) rfl rfl dX6_init_11 (fun H locs hZ => ?_)
  rw [zup_up] at hZ
  have hf_2 : (zup F a (.inr (10, [.int (iI x), .ref pa, .float 0]))) a = some (.inr (10, [.int (iI x), .ref pa, .float 0])) := zup_s
  replace hZ : zS D A s (zup F a (.inr (10, [.int (iI x), .ref pa, .float 0]))) _ _ := hZ
  refine lv_aload_n hx hb dX6_init_14 rfl (lv_at hl 0 rfl) ?_
  refine lv_fload_n hx hb dX6_init_15 rfl (lv_at hl 3 rfl) ?_
  refine z_put (T := TX6) (N := 3) (ci := 10) (k := 2) (fs := [.int (iI x), .ref pa, .float 0]) (v := .float y) hC hZ tyX6 tyX6_ok nmX6 in_X6 rfl (by decide) ql_X6_17 rfl (Or.inr ⟨rfl, hnm, rfl⟩) rfl hf_2 (by show 2 < 3; decide) rfl rfl dX6_init_16 (fun H locs hZ => ?_)
  rw [zup_up] at hZ
  have hf_3 : (zup F a (.inr (10, [.int (iI x), .ref pa, .float y]))) a = some (.inr (10, [.int (iI x), .ref pa, .float y])) := zup_s
  replace hZ : zS D A s (zup F a (.inr (10, [.int (iI x), .ref pa, .float y]))) _ _ := hZ
  exact z_vret hC hr hlk hZ (by decide) (by decide) (rfl) dX6_init_19

set_option maxHeartbeats 4000000 in
set_option maxRecDepth 100000 in
theorem met_X6_canBeRead (l : Launch) (D : va_G) (cs : Nat → ClassId) (A : Nat → Prop) (F : zF) (a : Nat) (da : Int) (s1 : zIs)  (hs1 : oIs cs F a da s1) (hag : 0 ≤ da - iPr s1 ∧ da - iPr s1 ≤ 2000000) : zM l D cs A yX6_canBeRead cX6_canBeRead 1 (some FieldType.boolean) 1 0 0 [.ref a] F (pI (fun r F1 => F = F1 ∧ ((da - iPr s1 < 5 ∧ r = 1) ∨ (¬ da - iPr s1 < 5 ∧ r = 0)))) := by
  refine zM_of (own := RX6) (by decide) rfl (Nat.le_of_ble_eq_true rfl) ?_
  intro p e s m below meth c hC hr hlk hnm hZ ls hl
  have hx := hC.x
  have hb := hC.b
  have hl : lv_has ls 1 [(0, .ref a)] := hl
  obtain ⟨pa, h0, hpg1⟩ := id hs1
  obtain ⟨ia, la, f_, g_, p0, p1, p2, p3, hso⟩ := id hpg1
  refine lv_aload_n hx hb dX6_canBeRead_0 rfl (lv_at hl 0 rfl) ?_
  refine z_get (T := TX6) (N := 3) (ci := 10) (k := 2) (fs := [.int (iI (iNo s1)), .ref pa, .float (zfr (da - iPr s1).toNat)]) (v := .float (zfr (da - iPr s1).toNat)) hC hZ in_X6 rfl (by decide) ql_X6_17 rfl h0 rfl dX6_canBeRead_1 ?_
  refine z_ldcf (v := 1048576000) hC q_1403 dX6_canBeRead_4 ?_
  refine lv_fcmp hx hb dX6_canBeRead_6 ?_
  refine z_topi (y := (Op.cmpValue (FP.fcmp (zfr (da - iPr s1).toNat) 1048576000) .l).toInt) (iI_of _) ?_
  have hrd := zfr_read (da - iPr s1).toNat
  have hrr := iI_rng (Op.cmpValue (FP.fcmp (zfr (da - iPr s1).toNat) 1048576000) .l)
  generalize (Op.cmpValue (FP.fcmp (zfr (da - iPr s1).toNat) 1048576000) .l).toInt = zz at *
  refine z_if_lt (tgt := 14) hx hb dX6_canBeRead_7 (by decide) hrr (fun c_1 => ?_) (fun c_1 => ?_)
  · skip
    refine z_iconst hx hb dX6_canBeRead_14 ?_
    exact z_zret hC hr hlk hZ rfl (by decide) (by decide) (⟨rfl, Or.inr ⟨by have := hrd; omega, rfl⟩⟩) dX6_canBeRead_15
  · skip
    refine z_iconst hx hb dX6_canBeRead_10 ?_
    refine lv_goto (tgt := 15) hx hb dX6_canBeRead_11 (by decide) ?_
    exact z_zret hC hr hlk hZ rfl (by decide) (by decide) (⟨rfl, Or.inl ⟨by have := hrd; omega, rfl⟩⟩) dX6_canBeRead_15

set_option maxHeartbeats 4000000 in
set_option maxRecDepth 100000 in
theorem met_X6_faded (l : Launch) (D : va_G) (cs : Nat → ClassId) (A : Nat → Prop) (F : zF) (a : Nat) (da : Int) (s1 : zIs) (x : Int)  (hs1 : oIs cs F a da s1) (hag : 0 ≤ da - iPr s1 ∧ da - iPr s1 ≤ 2000000) (hx0 : 0 ≤ x ∧ x ≤ 30) : zM l D cs A yX6_faded cX6_faded 4 (some (FieldType.object "StoneGazette$Issue")) 2 1 3 [.ref a, .int (iI x)] F (pR (fun r F1 => zle F F1 ∧ F r = none ∧ oIs cs F1 r (da + x) s1)) := by
  refine zM_of (own := RX6) (by decide) rfl (Nat.le_of_ble_eq_true rfl) ?_
  intro p e s m below meth c hC hr hlk hnm hZ ls hl
  have hx := hC.x
  have hb := hC.b
  have hl : lv_has ls 4 [(0, .ref a), (1, .int (iI x))] := hl
  obtain ⟨pa, h0, hpg1⟩ := id hs1
  obtain ⟨ia, la, f_, g_, p0, p1, p2, p3, hso⟩ := id hpg1
  refine lv_aload_n hx hb dX6_faded_0 rfl (lv_at hl 0 rfl) ?_
  refine z_get (T := TX6) (N := 3) (ci := 10) (k := 2) (fs := [.int (iI (iNo s1)), .ref pa, .float (zfr (da - iPr s1).toNat)]) (v := .float (zfr (da - iPr s1).toNat)) hC hZ in_X6 rfl (by decide) ql_X6_17 rfl h0 rfl dX6_faded_1 ?_
  refine z_topf (y := zfr (da - iPr s1 + 0).toNat) (by rw [Int.add_zero]) ?_
  refine lv_fstore_n (lv' := [(2, .float (zfr (da - iPr s1 + 0).toNat)), (0, .ref a), (1, .int (iI x))]) hx hb dX6_faded_4 rfl hl (by decide) rfl (fun ls hl => ?_)
  refine z_iconst hx hb dX6_faded_5 ?_
  refine lv_istore_n (lv' := [(3, .int (iI 0)), (2, .float (zfr (da - iPr s1 + 0).toNat)), (0, .ref a), (1, .int (iI x))]) hx hb dX6_faded_6 rfl hl (by decide) rfl (fun ls hl => ?_)
  have L7_k_1 : ∀ (fu : Nat) (k : Int)  (hfu : (x - k).toNat < fu) (hi7_0 : 0 ≤ k ∧ k ≤ x) (H : Heap) (locs : List Loc) (hZ : zS D A s F H locs) (ls : Array Slot) (hl : lv_has ls 4 [(3, .int (iI k)), (2, .float (zfr (da - iPr s1 + k).toNat)), (0, .ref a), (1, .int (iI x))]), W p l e (zR 2 1 3) s m [.ref a, .int (iI x)].toArray below meth c H locs 0 0 (MQ below (zQ D A (pR (fun r F1 => zle F F1 ∧ F r = none ∧ oIs cs F1 r (da + x) s1))) [.ref a, .int (iI x)].toArray s 1 3 A) (F0 m 7 ls []) := by
    intro fu
    induction fu with
    | zero =>
      intro k  hfu
      exact absurd hfu (Nat.not_lt_zero _)
    | succ fu ih7 =>
      intro k  hfu hi7_0  H locs hZ ls hl
      refine lv_iload_n hx hb dX6_faded_7 rfl (lv_at hl 0 rfl) ?_
      refine lv_iload_n hx hb dX6_faded_8 rfl (lv_at hl 3 rfl) ?_
      refine z_icmp_ge (tgt := 23) hx hb dX6_faded_9 (by decide) (by omega) (by omega) (fun c_2 => ?_) (fun c_2 => ?_)
      · skip
        have hk : k = x := by omega
        refine z_new (T := TX6) (N := 3) (ci := 10) hC hZ tyX6 tyX6_ok in_X6 rfl qk_X6_8 qx_X6 qn_X6 [.int (iI 0), .null, .float 0] df_X6 (Nat.le_of_ble_eq_true rfl) (Nat.le_of_ble_eq_true rfl) dX6_faded_23 (fun q23 H hq23 hZ => ?_)
        have hf_3 : (zup F q23 (.inr (10, [.int (iI 0), .null, .float 0]))) a = some (.inr (10, [.int (iI (iNo s1)), .ref pa, .float (zfr (da - iPr s1).toNat)])) := zup_k (zF_ne h0 hq23.1) h0
        have hf_4 : (zup F q23 (.inr (10, [.int (iI 0), .null, .float 0]))) q23 = some (.inr (10, [.int (iI 0), .null, .float 0])) := zup_s
        replace hZ : zS D A s (zup F q23 (.inr (10, [.int (iI 0), .null, .float 0]))) _ _ := hZ
        refine lv_dup hx hb dX6_faded_26 rfl ?_
        refine lv_aload_n hx hb dX6_faded_27 rfl (lv_at hl 2 rfl) ?_
        refine z_get (T := TX6) (N := 3) (ci := 10) (k := 0) (fs := [.int (iI (iNo s1)), .ref pa, .float (zfr (da - iPr s1).toNat)]) (v := .int (iI (iNo s1))) hC hZ in_X6 rfl (by decide) ql_X6_7 rfl hf_3 rfl dX6_faded_28 ?_
        refine lv_aload_n hx hb dX6_faded_31 rfl (lv_at hl 2 rfl) ?_
        refine z_get (T := TX6) (N := 3) (ci := 10) (k := 1) (fs := [.int (iI (iNo s1)), .ref pa, .float (zfr (da - iPr s1).toNat)]) (v := .ref pa) hC hZ in_X6 rfl (by decide) ql_X6_13 rfl hf_3 rfl dX6_faded_32 ?_
        refine lv_fload_n hx hb dX6_faded_35 rfl (lv_at hl 1 rfl) ?_
        refine z_callv (z_runI (rest := [.ref q23]) (As := [.int (iI (iNo s1)), .ref pa, .float (zfr (da - iPr s1 + k).toNat)]) (n := 3) hC hZ (met_X6_init l D cs A (zup F q23 (.inr (10, [.int (iI 0), .null, .float 0]))) q23 (iNo s1) pa (zfr (da - iPr s1 + k).toNat) hf_4) qc_X6_init qn_X6 qm_X6_22 qi_X6_init rfl he_X6_init rfl hl rfl (Nat.le_of_ble_eq_true rfl) ⟨Nat.le_of_ble_eq_true rfl, Nat.le_of_ble_eq_true rfl⟩ ⟨Nat.le_of_ble_eq_true rfl, Nat.le_of_ble_eq_true rfl⟩ dX6_faded_36) hZ (fun F36 H locs hp36_c_5 hZ => ?_)
        obtain rfl := hp36_c_5
        rw [zup_up] at hZ
        have hf_6 : (zup F q23 (.inr (10, [.int (iI (iNo s1)), .ref pa, .float (zfr (da - iPr s1 + k).toNat)]))) a = some (.inr (10, [.int (iI (iNo s1)), .ref pa, .float (zfr (da - iPr s1).toNat)])) := zup_k (zF_ne h0 hq23.1) h0
        have hf_7 : (zup F q23 (.inr (10, [.int (iI (iNo s1)), .ref pa, .float (zfr (da - iPr s1 + k).toNat)]))) q23 = some (.inr (10, [.int (iI (iNo s1)), .ref pa, .float (zfr (da - iPr s1 + k).toNat)])) := zup_s
        replace hZ : zS D A s (zup F q23 (.inr (10, [.int (iI (iNo s1)), .ref pa, .float (zfr (da - iPr s1 + k).toNat)]))) _ _ := hZ
        exact z_aret hC hr (Or.inl ⟨_, rfl⟩) hlk hZ (by decide) (by decide) (⟨(((zko.refl).new hq23.1)).le, hq23.1, pa, by rw [hf_7, hk, show da - iPr s1 + x = da + x - iPr s1 by omega], hpg1.mono (((zko.refl).new hq23.1)).le⟩) dX6_faded_39
      · skip
        refine lv_fload_n hx hb dX6_faded_12 rfl (lv_at hl 1 rfl) ?_
        refine z_ldcf (v := 1061158912) hC q_1391 dX6_faded_13 ?_
        refine lv_fmul hx hb dX6_faded_15 (vf_of (zfr_P ((da - iPr s1 + k).toNat + 1))) ?_
        refine z_topf (y := zfr (da - iPr s1 + (k + 1)).toNat) (by rw [show (da - iPr s1 + (k + 1)).toNat = (da - iPr s1 + k).toNat + 1 by omega]; rfl) ?_
        refine lv_fstore_n (lv' := [(2, .float (zfr (da - iPr s1 + (k + 1)).toNat)), (3, .int (iI k)), (0, .ref a), (1, .int (iI x))]) hx hb dX6_faded_16 rfl hl (by decide) rfl (fun ls hl => ?_)
        refine z_iinc (lv' := [(3, .int (iI (k + 1))), (2, .float (zfr (da - iPr s1 + (k + 1)).toNat)), (0, .ref a), (1, .int (iI x))]) hx hb dX6_faded_17 hl (k := 1) rfl (by decide) rfl (fun ls hl => ?_)
        refine lv_goto (tgt := 7) hx hb dX6_faded_20 (by decide) ?_
        exact ih7 (k + 1)  (by omega) (by omega)  _ _ hZ ls (lv_sub hl [0, 1, 2, 3] rfl)
  exact L7_k_1 _ 0  (Nat.lt_succ_self _) (by omega)  _ _ hZ ls (lv_sub hl [0, 1, 2, 3] rfl)
