/-- a command object -/
def kwc (j : Nat) : Int := match j with
  | 0 => 119
  | 1 => 112
  | 2 => 114
  | 3 => 100
  | _ => 120
def oCm (cs : Nat → ClassId) (F : zF) (x : Nat) (q : zCm) : Prop := ∃ j : Nat, j < 5 ∧ kwc j = q.1 ∧ F x = some (.inr (7, [.ref (cs (20 + j)), .int (iI q.2.1), .int (iI q.2.2)]))
theorem oCm.keep {cs : Nat → ClassId} {F F1 : zF} {x : Nat} {q : zCm} {O : List Nat} (h : oCm cs F x q) (hk : zko O F F1) (hx : x ∉ O) : oCm cs F1 x q := by
  obtain ⟨j, h1, h2, h3⟩ := h
  exact ⟨j, h1, h2, hk _ _ h3 hx⟩
theorem oCm.o {cs : Nat → ClassId} {F : zF} {x : Nat} {q : zCm} (h : oCm cs F x q) : ∃ fs, F x = some (.inr (7, fs)) := by
  obtain ⟨j, h1, h2, h3⟩ := h
  exact ⟨_, h3⟩
theorem zdg_t {inp : List Int} {q : Int} (h : (zdg inp q).1 = true) : zdg inp q = (true, q, 0) := by
  by_cases h1 : 48 ≤ bh inp q ∧ bh inp q ≤ 57
  · by_cases h2 : 48 ≤ bh inp (q + 1) ∧ bh inp (q + 1) ≤ 57
    · rw [zdg_2 h1 h2] at h; cases h
    · rw [zdg_1 h1 h2] at h; cases h
  · exact zdg_0 h1
theorem zdg_ok {inp : List Int} {q : Int} (h0 : 0 ≤ q) (h : q ≤ inp.length) : q ≤ (zdg inp q).2.1 ∧ (zdg inp q).2.1 ≤ inp.length := by
  by_cases h1 : 48 ≤ bh inp q ∧ bh inp q ≤ 57
  · have b1 := bh_in (inp := inp) (a := q) h0 (by omega)
    by_cases h2 : 48 ≤ bh inp (q + 1) ∧ bh inp (q + 1) ≤ 57
    · have b2 := bh_in (inp := inp) (a := q + 1) (by omega) (by omega)
      rw [zdg_2 h1 h2]
      exact ⟨by show q ≤ q + 2; omega, by show q + 2 ≤ _; omega⟩
    · rw [zdg_1 h1 h2]
      exact ⟨by show q ≤ q + 1; omega, by show q + 1 ≤ _; omega⟩
  · rw [zdg_0 h1]
    exact ⟨Int.le_refl _, h⟩
theorem zn5_n {inp : List Int} {q : Int} (h : bh inp q ≠ 42) : znum inp (zstr 5) q = (true, q, 0) := by
  have e : zskip inp (zstr 5) q = (true, q) := by
    show zskip inp [42] q = _
    unfold zskip
    rw [if_neg h]
  rw [znum_d, e]
  rfl
theorem zn5_y {inp : List Int} {q : Int} (h : bh inp q = 42) : znum inp (zstr 5) q = zdg inp (q + 1) := by
  have e : zskip inp (zstr 5) q = (false, q + 1) := by
    show zskip inp [42] q = _
    unfold zskip
    rw [if_pos h]
    rfl
  rw [znum_d, e]
  rfl
theorem znum_t {inp : List Int} {j : Nat} {a k : Int} (h : zskip inp (zstr j) a = (true, a + k)) : znum inp (zstr j) a = (true, (zskip inp (zstr j) a).2, 0) := by
  rw [znum_d, if_pos (by rw [h])]
theorem znum_f {inp : List Int} {j : Nat} {a k : Int} (h : zskip inp (zstr j) a = (false, a + k)) : znum inp (zstr j) a = zdg inp (zskip inp (zstr j) a).2 := by
  rw [znum_d, if_neg (by rw [h]; exact fun z => by cases z)]
theorem zcmd_2 {inp : List Int} {a : Int} (h : zkw inp a = 2) : zcmd inp a = ((zskip inp (zstr 2) a).1, (zskip inp (zstr 2) a).2, (114, 0, 0)) := by
  unfold zkw at h
  unfold zcmd
  by_cases q1 : bh inp a = 112 ∧ bh inp (a + 1) = 114
  · rw [if_pos q1]
  · rw [if_neg q1] at h
    split at h
    · cases h
    · split at h
      · cases h
      · split at h
        · cases h
        · cases h
theorem zcmd_1 {inp : List Int} {a : Int} (h : zkw inp a = 1) : zcmd inp a = if (znum inp (zstr 1) a).1 = true then (true, (znum inp (zstr 1) a).2.1, (112, 0, 0))
     else ((znum inp (zstr 5) (znum inp (zstr 1) a).2.1).1, (znum inp (zstr 5) (znum inp (zstr 1) a).2.1).2.1, (112, (znum inp (zstr 1) a).2.2, (znum inp (zstr 5) (znum inp (zstr 1) a).2.1).2.2)) := by
  unfold zkw at h
  unfold zcmd
  by_cases q1 : bh inp a = 112 ∧ bh inp (a + 1) = 114
  · rw [if_pos q1] at h; cases h
  · rw [if_neg q1] at h
    rw [if_neg q1]
    by_cases q2 : bh inp a = 112
    · rw [if_pos q2]
    · rw [if_neg q2] at h
      split at h
      · cases h
      · split at h
        · cases h
        · cases h
theorem zcmd_n {inp : List Int} {a : Int} {j : Nat} (h : zkw inp a = j) (hj : j = 0 ∨ j = 3 ∨ j = 4) : zcmd inp a = ((znum inp (zstr j) a).1, (znum inp (zstr j) a).2.1, (kwc j, (znum inp (zstr j) a).2.2, 0)) := by
  unfold zkw at h
  unfold zcmd
  by_cases q1 : bh inp a = 112 ∧ bh inp (a + 1) = 114
  · rw [if_pos q1] at h; omega
  · rw [if_neg q1] at h
    rw [if_neg q1]
    by_cases q2 : bh inp a = 112
    · rw [if_pos q2] at h; omega
    · rw [if_neg q2] at h
      rw [if_neg q2]
      by_cases q3 : bh inp a = 100 ∧ bh inp (a + 1) = 114
      · rw [if_pos q3] at h; subst h; rw [if_pos q3]; rfl
      · rw [if_neg q3] at h
        rw [if_neg q3]
        by_cases q4 : bh inp a = 100
        · rw [if_pos q4] at h; subst h; rw [if_pos q4]; rfl
        · rw [if_neg q4] at h; subst h; rw [if_neg q4]; rfl
theorem oBf.keep {cs : Nat → ClassId} {F F1 : zF} {a sg : Nat} {t : List Int} {O : List Nat} (h : oBf cs F a sg t) (hk : zko O F F1) (ha : a ∉ O) (hs : sg ∉ O) : oBf cs F1 a sg t := by
  obtain ⟨f, h1, h2, h3⟩ := h
  exact ⟨f, hk _ _ h1 ha, hk _ _ h2 hs, h3⟩
theorem oLx.neI {cs : Nat → ClassId} {F : zF} {a arr q n : Nat} {c : ClassId} {f : Int → Int} {l : List Nat} (h : oLx cs F a arr l) (hq : F q = some (zA c n f)) (h8 : F (cs 8) = none) : q ≠ arr := by
  obtain ⟨mc, -, h1⟩ := h
  rcases h1 with ⟨z, -⟩ | ⟨f9, h2, -⟩
  · intro y; rw [y, z, h8] at hq; cases hq
  · exact Ne.symm (zneR h2 hq)
theorem oBf.offR {cs : Nat → ClassId} {F : zF} {b sg a cl arr : Nat} {t : List Int} {fs : List Value} {l : List Nat} (h : oBf cs F b sg t) (ha : F a = some (.inr (8, fs))) (hl : oLx cs F cl arr l) (h8 : F (cs 8) = none) : b ∉ [a, cl, arr] ∧ sg ∉ [a, cl, arr] := by
  obtain ⟨f, h1, h2, -⟩ := h
  obtain ⟨fl, hlo⟩ := hl.o
  exact ⟨zni1 (zneK h1 ha (by show 1000000 + 6 ≠ 1000000 + 8; decide)) (zni1 (zneK h1 hlo (by show 1000000 + 6 ≠ 1000000 + 4; decide)) (zni1 (hl.ne h1 h8) zni0)), zni1 (zne h2 ha (fun z => by cases z)) (zni1 (zne h2 hlo (fun z => by cases z)) (zni1 (hl.neI h2 h8) zni0))⟩
theorem zp_t {inp : List Int} {p : Int} {l : List zCm} (h : zread inp 61 0 = (true, p, l)) : zparse inp = .inl p := by
  unfold zparse
  rw [h, if_pos (Or.inl rfl)]
theorem zp_l {inp : List Int} {p : Int} {l : List zCm} (h : zread inp 61 0 = (false, p, l)) (hp : p < inp.length) : zparse inp = .inl p := by
  unfold zparse
  rw [h, if_pos (Or.inr hp)]
theorem zp_r {inp : List Int} {p : Int} {l : List zCm} (h : zread inp 61 0 = (false, p, l)) (hp : ¬ p < inp.length) : zparse inp = .inr l := by
  unfold zparse
  rw [h, if_neg (fun z => z.elim (fun y => by cases y) hp)]
set_option maxHeartbeats 4000000 in
set_option maxRecDepth 100000 in
theorem met_X4_init (l : Launch) (D : va_G) (cs : Nat → ClassId) (A : Nat → Prop) (F : zF) (a : Nat)  (h0 : F a = some (.inr (8, [.null, .int (iI 0)]))) : zM l D cs A yX4_init cX4_init 1 (none : Option Jvm.ClassFile.FieldType) 4 1 3 [.ref a] F (pV (fun F1 => ∃ cl : Nat, F cl = none ∧ zko [a] F F1 ∧ F1 a = some (.inr (8, [.ref cl, .int (iI 0)])) ∧ oLx cs F1 cl (cs 8) [])) := by
  refine zM_of (own := RX4) (by decide) rfl (Nat.le_of_ble_eq_true rfl) ?_
  intro p e s m below meth c hC hr hlk hnm hZ ls hl
  have hx := hC.x
  have hb := hC.b
  have hl : lv_has ls 1 [(0, .ref a)] := hl
  refine lv_aload_n hx hb dX4_init_0 rfl (lv_at hl 0 rfl) ?_
  refine z_oinit (rest := []) hC hl qm_X4_3 ⟨Nat.le_of_ble_eq_true rfl, Nat.le_of_ble_eq_true rfl⟩ dX4_init_1 ?_
  refine lv_aload_n hx hb dX4_init_4 rfl (lv_at hl 0 rfl) ?_
  refine z_new (T := TJx4a65c) (N := 3) (ci := 4) hC hZ tyJx4a65c tyJx4a65c_ok in_Jx4a65c rfl qk_X4_9 qx_Jx4a65c qn_Jx4a65c [.int (iI 0), .null, .int (iI 0)] df_Jx4a65c (Nat.le_of_ble_eq_true rfl) (Nat.le_of_ble_eq_true rfl) dX4_init_5 (fun q5 H hq5 hZ => ?_)
  have hf_1 : (zup F q5 (.inr (4, [.int (iI 0), .null, .int (iI 0)]))) a = some (.inr (8, [.null, .int (iI 0)])) := zup_k (zF_ne h0 hq5.1) h0
  have hf_2 : (zup F q5 (.inr (4, [.int (iI 0), .null, .int (iI 0)]))) q5 = some (.inr (4, [.int (iI 0), .null, .int (iI 0)])) := zup_s
  replace hZ : zS D A s (zup F q5 (.inr (4, [.int (iI 0), .null, .int (iI 0)]))) _ _ := hZ
  refine lv_dup hx hb dX4_init_8 rfl ?_
  refine z_callv (z_runI (rest := [.ref q5, .ref a]) (As := []) (n := 0) hC hZ (met_Jx4a65c_init_da8c8 l D cs A (zup F q5 (.inr (4, [.int (iI 0), .null, .int (iI 0)]))) q5 hf_2) qc_Jx4a65c_init_da8c8 qn_Jx4a65c qm_X4_11 qi_Jx4a65c_init_da8c8 rfl he_Jx4a65c_init_da8c8 rfl hl rfl (Nat.le_of_ble_eq_true rfl) ⟨Nat.le_of_ble_eq_true rfl, Nat.le_of_ble_eq_true rfl⟩ ⟨Nat.le_of_ble_eq_true rfl, Nat.le_of_ble_eq_true rfl⟩ dX4_init_9) hZ (fun F9 H locs hp9_c_3 hZ => ?_)
  obtain rfl := hp9_c_3
  rw [zup_up] at hZ
  have hf_4 : (zup F q5 (.inr (4, [.int (iI 0), .ref (cs 8), .int (iI 0)]))) a = some (.inr (8, [.null, .int (iI 0)])) := zup_k (zF_ne h0 hq5.1) h0
  have hf_5 : (zup F q5 (.inr (4, [.int (iI 0), .ref (cs 8), .int (iI 0)]))) q5 = some (.inr (4, [.int (iI 0), .ref (cs 8), .int (iI 0)])) := zup_s
  replace hZ : zS D A s (zup F q5 (.inr (4, [.int (iI 0), .ref (cs 8), .int (iI 0)]))) _ _ := hZ
  refine z_put (T := TX4) (N := 2) (ci := 8) (k := 0) (fs := [.null, .int (iI 0)]) (v := .ref q5) hC hZ tyX4 tyX4_ok nmX4 in_X4 rfl (by decide) ql_X4_12 rfl (Or.inr ⟨rfl, hnm, rfl⟩) rfl hf_4 (by show 0 < 2; decide) rfl rfl dX4_init_12 (fun H locs hZ => ?_)
  have hf_6 : (zup (zup F q5 (.inr (4, [.int (iI 0), .ref (cs 8), .int (iI 0)]))) a (.inr (8, [.ref q5, .int (iI 0)]))) q5 = some (.inr (4, [.int (iI 0), .ref (cs 8), .int (iI 0)])) := zup_k (zne hf_5 hf_4 (fun q => by cases q)) hf_5
  have hf_7 : (zup (zup F q5 (.inr (4, [.int (iI 0), .ref (cs 8), .int (iI 0)]))) a (.inr (8, [.ref q5, .int (iI 0)]))) a = some (.inr (8, [.ref q5, .int (iI 0)])) := zup_s
  replace hZ : zS D A s (zup (zup F q5 (.inr (4, [.int (iI 0), .ref (cs 8), .int (iI 0)]))) a (.inr (8, [.ref q5, .int (iI 0)]))) _ _ := hZ
  refine lv_aload_n hx hb dX4_init_15 rfl (lv_at hl 0 rfl) ?_
  refine z_iconst hx hb dX4_init_16 ?_
  refine z_put (T := TX4) (N := 2) (ci := 8) (k := 1) (fs := [.ref q5, .int (iI 0)]) (v := .int (iI 0)) hC hZ tyX4 tyX4_ok nmX4 in_X4 rfl (by decide) ql_X4_18 rfl (Or.inl rfl) rfl hf_7 (by show 1 < 2; decide) rfl rfl dX4_init_17 (fun H locs hZ => ?_)
  rw [zup_up] at hZ
  have hf_8 : (zup (zup F q5 (.inr (4, [.int (iI 0), .ref (cs 8), .int (iI 0)]))) a (.inr (8, [.ref q5, .int (iI 0)]))) q5 = some (.inr (4, [.int (iI 0), .ref (cs 8), .int (iI 0)])) := zup_k (zne hf_5 hf_4 (fun q => by cases q)) hf_5
  have hf_9 : (zup (zup F q5 (.inr (4, [.int (iI 0), .ref (cs 8), .int (iI 0)]))) a (.inr (8, [.ref q5, .int (iI 0)]))) a = some (.inr (8, [.ref q5, .int (iI 0)])) := zup_s
  replace hZ : zS D A s (zup (zup F q5 (.inr (4, [.int (iI 0), .ref (cs 8), .int (iI 0)]))) a (.inr (8, [.ref q5, .int (iI 0)]))) _ _ := hZ
  exact z_vret hC hr hlk hZ (by decide) (by decide) (⟨q5, hq5.1, (((zko.refl : zko [a] F F).new hq5.1).up (by simp)), hf_9, ⟨0, hf_8, Or.inl ⟨rfl, rfl⟩⟩⟩) dX4_init_20

set_option maxHeartbeats 4000000 in
set_option maxRecDepth 100000 in
theorem met_X4_readCommand (l : Launch) (D : va_G) (cs : Nat → ClassId) (A : Nat → Prop) (F : zF) (a cl b sg : Nat) (inp : List Int) (p0 : Int) (arr : Nat) (L : List Nat)  (h0 : F a = some (.inr (8, [.ref cl, .int (iI p0)]))) (hb1 : oBf cs F b sg inp) (hp0 : 0 ≤ p0 ∧ p0 ≤ inp.length) (hcl : oLx cs F cl arr L) (hL : p0 < inp.length → L.length < 10) : zM l D cs A yX4_readCommand cX4_readCommand 6 (some FieldType.boolean) 8 2 13 [.ref a, .ref b] F (pI (fun r F1 => ((zcmd inp p0).1 = true ∧ r = 0 ∧ zko [a] F F1 ∧ F1 a = some (.inr (8, [.ref cl, .int (iI (zcmd inp p0).2.1)]))) ∨ ((zcmd inp p0).1 = false ∧ r = 1 ∧ ∃ (arr1 x : Nat), zko [a, cl, arr] F F1 ∧ (arr1 = arr ∨ F arr1 = none) ∧ F1 a = some (.inr (8, [.ref cl, .int (iI (zcmd inp p0).2.1)])) ∧ oLx cs F1 cl arr1 (L ++ [x]) ∧ F x = none ∧ oCm cs F1 x (zcmd inp p0).2.2))) := by
  refine zM_of (own := RX4) (by decide) rfl (Nat.le_of_ble_eq_true rfl) ?_
  intro p e s m below meth c hC hr hlk hnm hZ ls hl
  have hx := hC.x
  have hb := hC.b
  have hl : lv_has ls 6 [(0, .ref a), (1, .ref b)] := hl
  obtain ⟨fb_, b0, b1, b2, b3, b4⟩ := id hb1
  have nba : b ≠ a := zneK b0 h0 (by show 1000000 + 6 ≠ 1000000 + 8; decide)
  have nsa : sg ≠ a := zne b1 h0 (fun z => by cases z)
  refine lv_aload_n hx hb dX4_readCommand_0 rfl (lv_at hl 0 rfl) ?_
  refine lv_aload_n hx hb dX4_readCommand_1 rfl (lv_at hl 1 rfl) ?_
  refine z_callr (z_runV (rest := []) (As := [.ref b]) (n := 1) (ci := 8) hC hZ (met_X4_bestKeyword l D cs A F a cl b sg inp p0 h0 hb1 hp0) gv_X4_38 hd_X4_bestKeyword rfl h0 rfl hl rfl (Nat.le_of_ble_eq_true rfl) ⟨Nat.le_of_ble_eq_true rfl, Nat.le_of_ble_eq_true rfl⟩ ⟨Nat.le_of_ble_eq_true rfl, Nat.le_of_ble_eq_true rfl⟩ dX4_readCommand_2) hZ (fun r2 F2 H locs hp2_c_1 hZ => ?_)
  obtain ⟨rfl, rfl⟩ := hp2_c_1
  have hk5 := zkw_5 inp p0
  obtain hjk | hjk | hjk | hjk | hjk : zkw inp p0 = 0 ∨ zkw inp p0 = 1 ∨ zkw inp p0 = 2 ∨ zkw inp p0 = 3 ∨ zkw inp p0 = 4 := by omega
  · skip
    have hj5 : 0 < 5 := by decide
    have hj6 : 0 < 5 := by decide
    rw [hjk]
    have hzc := zcmd_n hjk (by decide)
    have hPb := zskip_ok (inp := inp) (zstr 0) p0 (zstr_ne 0) hp0.1 hp0.2
    have hzl : 5 ≤ (zstr 0).length ∧ (zstr 0).length ≤ 6 := by decide
    refine lv_astore_n (lv' := [(2, .ref (cs (20 + 0))), (0, .ref a), (1, .ref b)]) hx hb dX4_readCommand_5 rfl hl (by decide) rfl (fun ls hl => ?_)
    refine lv_aload_n hx hb dX4_readCommand_6 rfl (lv_at hl 0 rfl) ?_
    refine lv_aload_n hx hb dX4_readCommand_7 rfl (lv_at hl 2 rfl) ?_
    refine lv_aload_n hx hb dX4_readCommand_8 rfl (lv_at hl 1 rfl) ?_
    refine z_get (T := TX4) (N := 2) (ci := 8) (k := 1) (fs := [.ref cl, .int (iI p0)]) (v := .int (iI p0)) hC hZ in_X4 rfl (by decide) ql_X4_18 rfl h0 rfl dX4_readCommand_9 ?_
    refine z_calli (z_runO (rest := []) (As := [.ref b, .int (iI p0)]) (n := 2) hC hZ (met_X7_countShared l D cs A F 0 b sg inp p0 hj5 hb1 (by omega)) gv_X4_42 hd_X7_countShared (kw_o hj5) rfl hl rfl (Nat.le_of_ble_eq_true rfl) ⟨Nat.le_of_ble_eq_true rfl, Nat.le_of_ble_eq_true rfl⟩ ⟨Nat.le_of_ble_eq_true rfl, Nat.le_of_ble_eq_true rfl⟩ dX4_readCommand_12) hZ (fun r12 F12 H locs hp_2 hZ => ?_)
    obtain ⟨rfl, hp_2⟩ := hp_2
    have hc12 := hp_2
    refine lv_istore_n (lv' := [(3, .int (iI r12)), (2, .ref (cs (20 + 0))), (0, .ref a), (1, .ref b)]) hx hb dX4_readCommand_15 rfl hl (by decide) rfl (fun ls hl => ?_)
    refine lv_aload_n hx hb dX4_readCommand_16 rfl (lv_at hl 2 rfl) ?_
    refine lv_dup hx hb dX4_readCommand_17 rfl ?_
    refine z_get (T := TX4) (N := 2) (ci := 8) (k := 1) (fs := [.ref cl, .int (iI p0)]) (v := .int (iI p0)) hC hZ in_X4 rfl (by decide) ql_X4_18 rfl h0 rfl dX4_readCommand_18 ?_
    refine lv_iload_n hx hb dX4_readCommand_21 rfl (lv_at hl 0 rfl) ?_
    refine z_iadd hx hb dX4_readCommand_22 ?_
    refine z_top (y := (zskip inp (zstr 0) p0).2) (by have := hc12.1; unfold cnt at this; omega) ?_
    refine z_put (T := TX4) (N := 2) (ci := 8) (k := 1) (fs := [.ref cl, .int (iI p0)]) (v := .int (iI ((zskip inp (zstr 0) p0).2))) hC hZ tyX4 tyX4_ok nmX4 in_X4 rfl (by decide) ql_X4_18 rfl (Or.inl rfl) rfl h0 (by show 1 < 2; decide) rfl rfl dX4_readCommand_23 (fun H locs hZ => ?_)
    have hf_3 : (zup F a (.inr (8, [.ref cl, .int (iI ((zskip inp (zstr 0) p0).2))]))) b = some (.inr (6, [.ref sg, .int (iI (inp.length : Int))])) := zup_k (zne b0 h0 (fun q => by cases q)) b0
    have hf_4 : (zup F a (.inr (8, [.ref cl, .int (iI ((zskip inp (zstr 0) p0).2))]))) sg = some (zA (cs 1) 60 fb_) := zup_k (zne b1 h0 (fun q => by cases q)) b1
    have hf_5 : (zup F a (.inr (8, [.ref cl, .int (iI ((zskip inp (zstr 0) p0).2))]))) a = some (.inr (8, [.ref cl, .int (iI ((zskip inp (zstr 0) p0).2))])) := zup_s
    replace hZ : zS D A s (zup F a (.inr (8, [.ref cl, .int (iI ((zskip inp (zstr 0) p0).2))]))) _ _ := hZ
    refine lv_iload_n hx hb dX4_readCommand_26 rfl (lv_at hl 0 rfl) ?_
    refine lv_aload_n hx hb dX4_readCommand_27 rfl (lv_at hl 1 rfl) ?_
    refine z_getON (v := .ref (cs (30 + 0))) hC hZ (kw_l hj5) ql_X4_48 rfl dX4_readCommand_28 ?_
    refine z_calli (z_runO (rest := [.int (iI r12)]) (As := []) (n := 0) hC hZ (met_J0_length_8abf5 l D cs A (zup F a (.inr (8, [.ref cl, .int (iI ((zskip inp (zstr 0) p0).2))]))) 0 hj6) gv_X4_52 hd_J0_length_8abf5 (zstr_o hj6) rfl hl rfl (Nat.le_of_ble_eq_true rfl) ⟨Nat.le_of_ble_eq_true rfl, Nat.le_of_ble_eq_true rfl⟩ ⟨Nat.le_of_ble_eq_true rfl, Nat.le_of_ble_eq_true rfl⟩ dX4_readCommand_31) hZ (fun r31 _ H locs hp31 hZ => ?_)
    obtain ⟨rfl, rfl⟩ := hp31
    refine z_icmp_ge (tgt := 39) hx hb dX4_readCommand_34 (by decide) (by omega) (by omega) (fun c_6 => ?_) (fun c_6 => ?_)
    · skip
      have hz : zskip inp (zstr 0) p0 = (false, p0 + r12) := hc12.2.2.elim (fun z => absurd z.1 (by omega)) (fun z => z.2)
      have hzq : (zskip inp (zstr 0) p0).2 = p0 + r12 := by rw [hz]
      have hpl : p0 < inp.length := by omega
      have hzn := znum_f hz
      refine lv_aload_n hx hb dX4_readCommand_39 rfl (lv_at hl 1 rfl) ?_
      refine z_getON (v := .int (iI 1)) hC hZ (kw_n hj5) ql_X4_57 rfl dX4_readCommand_40 ?_
      refine z_iconst hx hb dX4_readCommand_43 ?_
      refine z_icmp_lt (tgt := 55) hx hb dX4_readCommand_44 (by decide) (by decide) (by decide) (fun c_7 => ?_) (fun c_7 => ?_)
      · skip
        exfalso; omega
      · skip
        refine lv_aload_n hx hb dX4_readCommand_47 rfl (lv_at hl 2 rfl) ?_
        refine lv_aload_n hx hb dX4_readCommand_48 rfl (lv_at hl 3 rfl) ?_
        refine z_calli (z_runV (rest := []) (As := [.ref b]) (n := 1) (ci := 8) hC hZ (met_X4_readNumber l D cs A (zup F a (.inr (8, [.ref cl, .int (iI ((zskip inp (zstr 0) p0).2))]))) a cl b sg inp ((zskip inp (zstr 0) p0).2) hf_5 (hb1.keep (((zko.refl : zko [a] F F).up (by simp))) (zni1 nba zni0) (zni1 nsa zni0)) (by omega)) gv_X4_60 hd_X4_readNumber rfl hf_5 rfl hl rfl (Nat.le_of_ble_eq_true rfl) ⟨Nat.le_of_ble_eq_true rfl, Nat.le_of_ble_eq_true rfl⟩ ⟨Nat.le_of_ble_eq_true rfl, Nat.le_of_ble_eq_true rfl⟩ dX4_readCommand_49) hZ (fun r49 F49 H locs hp49_c_8 hZ => ?_)
        rcases hp49_c_8 with ⟨hzz49, rfl, rfl⟩ | ⟨z49, ⟨hza49, hzb49⟩, rfl, hzr49, rfl⟩
        · skip
          have hzt49 := zdg_t hzz49
          have hres : zcmd inp p0 = (true, (zskip inp (zstr 0) p0).2, (kwc 0, 0, 0)) := by rw [hzc, hzn, hzt49]
          refine lv_goto (tgt := 56) hx hb dX4_readCommand_52 (by decide) ?_
          refine lv_istore (lv' := [(4, .int (iI (-1))), (3, .int (iI r12)), (2, .ref (cs (20 + 0))), (0, .ref a), (1, .ref b)]) hx hb dX4_readCommand_56 hl (by decide) rfl (fun ls hl => ?_)
          refine lv_iload hx hb dX4_readCommand_58 (lv_at hl 0 rfl) ?_
          refine z_iconst hx hb dX4_readCommand_60 ?_
          refine z_icmp_eq (tgt := 82) hx hb dX4_readCommand_61 (by decide) (by decide) (by decide) (fun c_9 => ?_) (fun c_9 => ?_)
          · skip
            refine z_iconst hx hb dX4_readCommand_82 ?_
            exact z_zret hC hr hlk hZ rfl (by decide) (by decide) ((Or.inl ⟨by rw [hres], rfl, ((zko.refl : zko [a] F F).up (by simp)), by rw [hres]; exact hf_5⟩)) dX4_readCommand_83
          · skip
            exfalso; omega
        · skip
          rw [zup_up] at hZ
          have hf_10 : (zup F a (.inr (8, [.ref cl, .int (iI ((zdg inp ((zskip inp (zstr 0) p0).2)).2.1))]))) b = some (.inr (6, [.ref sg, .int (iI (inp.length : Int))])) := zup_k (zne b0 h0 (fun q => by cases q)) b0
          have hf_11 : (zup F a (.inr (8, [.ref cl, .int (iI ((zdg inp ((zskip inp (zstr 0) p0).2)).2.1))]))) sg = some (zA (cs 1) 60 fb_) := zup_k (zne b1 h0 (fun q => by cases q)) b1
          have hf_12 : (zup F a (.inr (8, [.ref cl, .int (iI ((zdg inp ((zskip inp (zstr 0) p0).2)).2.1))]))) a = some (.inr (8, [.ref cl, .int (iI ((zdg inp ((zskip inp (zstr 0) p0).2)).2.1))])) := zup_s
          replace hZ : zS D A s (zup F a (.inr (8, [.ref cl, .int (iI ((zdg inp ((zskip inp (zstr 0) p0).2)).2.1))]))) _ _ := hZ
          have hok49 := zdg_ok (inp := inp) (q := (zskip inp (zstr 0) p0).2) (by omega) (by omega)
          have hres : zcmd inp p0 = (false, (zdg inp ((zskip inp (zstr 0) p0).2)).2.1, (kwc 0, r49, 0)) := by rw [hzc, hzn, hza49, hzb49]
          refine lv_goto (tgt := 56) hx hb dX4_readCommand_52 (by decide) ?_
          refine lv_istore (lv' := [(4, .int (iI r49)), (3, .int (iI r12)), (2, .ref (cs (20 + 0))), (0, .ref a), (1, .ref b)]) hx hb dX4_readCommand_56 hl (by decide) rfl (fun ls hl => ?_)
          refine lv_iload hx hb dX4_readCommand_58 (lv_at hl 0 rfl) ?_
          refine z_iconst hx hb dX4_readCommand_60 ?_
          refine z_icmp_eq (tgt := 82) hx hb dX4_readCommand_61 (by decide) (by omega) (by decide) (fun c_13 => ?_) (fun c_13 => ?_)
          · skip
            exfalso; omega
          · skip
            refine lv_aload_n hx hb dX4_readCommand_64 rfl (lv_at hl 2 rfl) ?_
            refine z_getON (v := .int (iI 1)) hC hZ (kw_n hj5) ql_X4_57 rfl dX4_readCommand_65 ?_
            refine z_iconst hx hb dX4_readCommand_68 ?_
            refine z_icmp_lt (tgt := 84) hx hb dX4_readCommand_69 (by decide) (by decide) (by decide) (fun c_14 => ?_) (fun c_14 => ?_)
            · skip
              refine lv_aload_n hx hb dX4_readCommand_84 rfl (lv_at hl 2 rfl) ?_
              refine z_getON (v := .int (iI 1)) hC hZ (kw_n hj5) ql_X4_57 rfl dX4_readCommand_85 ?_
              refine z_iconst hx hb dX4_readCommand_88 ?_
              refine z_icmp_lt (tgt := 100) hx hb dX4_readCommand_89 (by decide) (by decide) (by decide) (fun c_15 => ?_) (fun c_15 => ?_)
              · skip
                refine z_iconst hx hb dX4_readCommand_100 ?_
                refine lv_istore (lv' := [(5, .int (iI 0)), (4, .int (iI r49)), (3, .int (iI r12)), (2, .ref (cs (20 + 0))), (0, .ref a), (1, .ref b)]) hx hb dX4_readCommand_101 hl (by decide) rfl (fun ls hl => ?_)
                refine lv_iload hx hb dX4_readCommand_103 (lv_at hl 0 rfl) ?_
                refine z_iconst hx hb dX4_readCommand_105 ?_
                refine z_icmp_ne (tgt := 111) hx hb dX4_readCommand_106 (by decide) (by decide) (by decide) (fun c_16 => ?_) (fun c_16 => ?_)
                · skip
                  refine lv_aload_n hx hb dX4_readCommand_111 rfl (lv_at hl 4 rfl) ?_
                  refine z_get (T := TX4) (N := 2) (ci := 8) (k := 0) (fs := [.ref cl, .int (iI ((zdg inp ((zskip inp (zstr 0) p0).2)).2.1))]) (v := .ref cl) hC hZ in_X4 rfl (by decide) ql_X4_12 rfl hf_12 rfl dX4_readCommand_112 ?_
                  refine z_new (T := TX3) (N := 3) (ci := 7) hC hZ tyX3 tyX3_ok in_X3 rfl qk_X4_64 qx_X3 qn_X3 [.null, .int (iI 0), .int (iI 0)] df_X3 (Nat.le_of_ble_eq_true rfl) (Nat.le_of_ble_eq_true rfl) dX4_readCommand_115 (fun q115 H hq115 hZ => ?_)
                  have hf_17 : (zup (zup F a (.inr (8, [.ref cl, .int (iI ((zdg inp ((zskip inp (zstr 0) p0).2)).2.1))]))) q115 (.inr (7, [.null, .int (iI 0), .int (iI 0)]))) b = some (.inr (6, [.ref sg, .int (iI (inp.length : Int))])) := zup_k (zF_ne hf_10 hq115.1) hf_10
                  have hf_18 : (zup (zup F a (.inr (8, [.ref cl, .int (iI ((zdg inp ((zskip inp (zstr 0) p0).2)).2.1))]))) q115 (.inr (7, [.null, .int (iI 0), .int (iI 0)]))) sg = some (zA (cs 1) 60 fb_) := zup_k (zF_ne hf_11 hq115.1) hf_11
                  have hf_19 : (zup (zup F a (.inr (8, [.ref cl, .int (iI ((zdg inp ((zskip inp (zstr 0) p0).2)).2.1))]))) q115 (.inr (7, [.null, .int (iI 0), .int (iI 0)]))) a = some (.inr (8, [.ref cl, .int (iI ((zdg inp ((zskip inp (zstr 0) p0).2)).2.1))])) := zup_k (zF_ne hf_12 hq115.1) hf_12
                  have hf_20 : (zup (zup F a (.inr (8, [.ref cl, .int (iI ((zdg inp ((zskip inp (zstr 0) p0).2)).2.1))]))) q115 (.inr (7, [.null, .int (iI 0), .int (iI 0)]))) q115 = some (.inr (7, [.null, .int (iI 0), .int (iI 0)])) := zup_s
                  replace hZ : zS D A s (zup (zup F a (.inr (8, [.ref cl, .int (iI ((zdg inp ((zskip inp (zstr 0) p0).2)).2.1))]))) q115 (.inr (7, [.null, .int (iI 0), .int (iI 0)]))) _ _ := hZ
                  refine lv_dup hx hb dX4_readCommand_118 rfl ?_
                  refine lv_aload_n hx hb dX4_readCommand_119 rfl (lv_at hl 3 rfl) ?_
                  refine lv_iload hx hb dX4_readCommand_120 (lv_at hl 1 rfl) ?_
                  refine lv_iload hx hb dX4_readCommand_122 (lv_at hl 0 rfl) ?_
                  refine z_callv (z_runI (rest := [.ref q115, .ref cl]) (As := [.ref (cs (20 + 0)), .int (iI r49), .int (iI 0)]) (n := 3) hC hZ (met_X3_init l D cs A (zup (zup F a (.inr (8, [.ref cl, .int (iI ((zdg inp ((zskip inp (zstr 0) p0).2)).2.1))]))) q115 (.inr (7, [.null, .int (iI 0), .int (iI 0)]))) q115 (cs (20 + 0)) r49 0 hf_20) qc_X3_init qn_X3 qm_X4_66 qi_X3_init rfl he_X3_init rfl hl rfl (Nat.le_of_ble_eq_true rfl) ⟨Nat.le_of_ble_eq_true rfl, Nat.le_of_ble_eq_true rfl⟩ ⟨Nat.le_of_ble_eq_true rfl, Nat.le_of_ble_eq_true rfl⟩ dX4_readCommand_124) hZ (fun F124 H locs hp124_c_21 hZ => ?_)
                  obtain rfl := hp124_c_21
                  rw [zup_up] at hZ
                  have hf_22 : (zup (zup F a (.inr (8, [.ref cl, .int (iI ((zdg inp ((zskip inp (zstr 0) p0).2)).2.1))]))) q115 (.inr (7, [.ref (cs (20 + 0)), .int (iI r49), .int (iI 0)]))) b = some (.inr (6, [.ref sg, .int (iI (inp.length : Int))])) := zup_k (zF_ne hf_10 hq115.1) hf_10
                  have hf_23 : (zup (zup F a (.inr (8, [.ref cl, .int (iI ((zdg inp ((zskip inp (zstr 0) p0).2)).2.1))]))) q115 (.inr (7, [.ref (cs (20 + 0)), .int (iI r49), .int (iI 0)]))) sg = some (zA (cs 1) 60 fb_) := zup_k (zF_ne hf_11 hq115.1) hf_11
                  have hf_24 : (zup (zup F a (.inr (8, [.ref cl, .int (iI ((zdg inp ((zskip inp (zstr 0) p0).2)).2.1))]))) q115 (.inr (7, [.ref (cs (20 + 0)), .int (iI r49), .int (iI 0)]))) a = some (.inr (8, [.ref cl, .int (iI ((zdg inp ((zskip inp (zstr 0) p0).2)).2.1))])) := zup_k (zF_ne hf_12 hq115.1) hf_12
                  have hf_25 : (zup (zup F a (.inr (8, [.ref cl, .int (iI ((zdg inp ((zskip inp (zstr 0) p0).2)).2.1))]))) q115 (.inr (7, [.ref (cs (20 + 0)), .int (iI r49), .int (iI 0)]))) q115 = some (.inr (7, [.ref (cs (20 + 0)), .int (iI r49), .int (iI 0)])) := zup_s
                  replace hZ : zS D A s (zup (zup F a (.inr (8, [.ref cl, .int (iI ((zdg inp ((zskip inp (zstr 0) p0).2)).2.1))]))) q115 (.inr (7, [.ref (cs (20 + 0)), .int (iI r49), .int (iI 0)]))) _ _ := hZ
                  have hk3 : zko [a] F (zup (zup F a (.inr (8, [.ref cl, .int (iI ((zdg inp ((zskip inp (zstr 0) p0).2)).2.1))]))) q115 (.inr (7, [.ref (cs (20 + 0)), .int (iI r49), .int (iI 0)]))) := (((zko.refl : zko [a] F F).up (by simp)).new hq115.1)
                  have hcl3 := hcl.keepB hk3 (fun o ho => by rw [List.mem_singleton.mp ho]; exact ⟨8, _, h0, by decide⟩)
                  have h83 := z_c8 hC hZ
                  obtain ⟨fcl3, hcl3o⟩ := hcl3.o
                  have hx3 := hf_25
                  have ha3 := hf_24
                  have hn115 : F q115 = none := (zup_none hq115.1)
                  obtain ⟨fsho_26, ho_26⟩ := (hcl3).o
                  refine z_calli (z_runV (rest := []) (As := [.ref q115]) (n := 1) (ci := 4) hC hZ (met_Jx4a65c_add_9ea2d l D cs A (zup (zup F a (.inr (8, [.ref cl, .int (iI ((zdg inp ((zskip inp (zstr 0) p0).2)).2.1))]))) q115 (.inr (7, [.ref (cs (20 + 0)), .int (iI r49), .int (iI 0)]))) cl arr L q115 hcl3 (hL hpl) ⟨7, 3, RX3, TX3, _, hx3, rfl, q_2179⟩ (zneK hx3 hcl3o (by show 1000000 + 7 ≠ 1000000 + 4; decide))) gv_X4_69 hd_Jx4a65c_add_9ea2d rfl ho_26 rfl hl rfl (Nat.le_of_ble_eq_true rfl) ⟨Nat.le_of_ble_eq_true rfl, Nat.le_of_ble_eq_true rfl⟩ ⟨Nat.le_of_ble_eq_true rfl, Nat.le_of_ble_eq_true rfl⟩ dX4_readCommand_127) hZ (fun r127 F127 H locs hp127_c_27 hZ => ?_)
                  obtain ⟨hr127, arr1, ha127, hk127, hl127⟩ := hp127_c_27
                  subst hr127
                  refine lv_pop hx hb dX4_readCommand_130 rfl ?_
                  refine z_iconst hx hb dX4_readCommand_131 ?_
                  exact z_zret hC hr hlk hZ rfl (by decide) (by decide) ((Or.inr ⟨by rw [hres], rfl, arr1, q115, (hk3.sub (fun q hq => by rw [List.mem_singleton.mp hq]; simp)).tr hk127 (fun q hq => Or.inl (List.mem_cons_of_mem _ hq)), ha127.imp_right (fun z => hk3.nnk (fun o ho => by rw [List.mem_singleton.mp ho, ha3]; exact fun y => by cases y) z), by rw [hres]; exact hk127 _ _ ha3 (zni1 (zneK ha3 hcl3o (by show 1000000 + 8 ≠ 1000000 + 4; decide)) (zni1 (hcl3.ne ha3 h83) zni0)), hl127, hn115, 0, by decide, (by rw [hres] <;> rfl), by rw [hres]; exact hk127 _ _ hx3 (zni1 (zneK hx3 hcl3o (by show 1000000 + 7 ≠ 1000000 + 4; decide)) (zni1 (hcl3.ne hx3 h83) zni0))⟩)) dX4_readCommand_132
                · skip
                  exfalso; omega
              · skip
                exfalso; omega
            · skip
              exfalso; omega
    · skip
      have hz : zskip inp (zstr 0) p0 = (true, p0 + r12) := hc12.2.2.elim (fun z => z.2) (fun z => absurd z.1 (by omega))
      have hres : zcmd inp p0 = (true, (zskip inp (zstr 0) p0).2, (kwc 0, 0, 0)) := by rw [hzc, znum_t hz]
      refine z_iconst hx hb dX4_readCommand_37 ?_
      exact z_zret hC hr hlk hZ rfl (by decide) (by decide) ((Or.inl ⟨by rw [hres], rfl, ((zko.refl : zko [a] F F).up (by simp)), by rw [hres]; exact hf_5⟩)) dX4_readCommand_38
  · skip
    have hj5 : 1 < 5 := by decide
    have hj6 : 1 < 5 := by decide
    rw [hjk]
    have hzc := zcmd_1 hjk
    have hPb := zskip_ok (inp := inp) (zstr 1) p0 (zstr_ne 1) hp0.1 hp0.2
    have hzl : 5 ≤ (zstr 1).length ∧ (zstr 1).length ≤ 6 := by decide
    refine lv_astore_n (lv' := [(2, .ref (cs (20 + 1))), (0, .ref a), (1, .ref b)]) hx hb dX4_readCommand_5 rfl hl (by decide) rfl (fun ls hl => ?_)
    refine lv_aload_n hx hb dX4_readCommand_6 rfl (lv_at hl 0 rfl) ?_
    refine lv_aload_n hx hb dX4_readCommand_7 rfl (lv_at hl 2 rfl) ?_
    refine lv_aload_n hx hb dX4_readCommand_8 rfl (lv_at hl 1 rfl) ?_
    refine z_get (T := TX4) (N := 2) (ci := 8) (k := 1) (fs := [.ref cl, .int (iI p0)]) (v := .int (iI p0)) hC hZ in_X4 rfl (by decide) ql_X4_18 rfl h0 rfl dX4_readCommand_9 ?_
    refine z_calli (z_runO (rest := []) (As := [.ref b, .int (iI p0)]) (n := 2) hC hZ (met_X7_countShared l D cs A F 1 b sg inp p0 hj5 hb1 (by omega)) gv_X4_42 hd_X7_countShared (kw_o hj5) rfl hl rfl (Nat.le_of_ble_eq_true rfl) ⟨Nat.le_of_ble_eq_true rfl, Nat.le_of_ble_eq_true rfl⟩ ⟨Nat.le_of_ble_eq_true rfl, Nat.le_of_ble_eq_true rfl⟩ dX4_readCommand_12) hZ (fun r12 F12 H locs hp_28 hZ => ?_)
    obtain ⟨rfl, hp_28⟩ := hp_28
    have hc12 := hp_28
    refine lv_istore_n (lv' := [(3, .int (iI r12)), (2, .ref (cs (20 + 1))), (0, .ref a), (1, .ref b)]) hx hb dX4_readCommand_15 rfl hl (by decide) rfl (fun ls hl => ?_)
    refine lv_aload_n hx hb dX4_readCommand_16 rfl (lv_at hl 2 rfl) ?_
    refine lv_dup hx hb dX4_readCommand_17 rfl ?_
    refine z_get (T := TX4) (N := 2) (ci := 8) (k := 1) (fs := [.ref cl, .int (iI p0)]) (v := .int (iI p0)) hC hZ in_X4 rfl (by decide) ql_X4_18 rfl h0 rfl dX4_readCommand_18 ?_
    refine lv_iload_n hx hb dX4_readCommand_21 rfl (lv_at hl 0 rfl) ?_
    refine z_iadd hx hb dX4_readCommand_22 ?_
    refine z_top (y := (zskip inp (zstr 1) p0).2) (by have := hc12.1; unfold cnt at this; omega) ?_
    refine z_put (T := TX4) (N := 2) (ci := 8) (k := 1) (fs := [.ref cl, .int (iI p0)]) (v := .int (iI ((zskip inp (zstr 1) p0).2))) hC hZ tyX4 tyX4_ok nmX4 in_X4 rfl (by decide) ql_X4_18 rfl (Or.inl rfl) rfl h0 (by show 1 < 2; decide) rfl rfl dX4_readCommand_23 (fun H locs hZ => ?_)
    have hf_29 : (zup F a (.inr (8, [.ref cl, .int (iI ((zskip inp (zstr 1) p0).2))]))) b = some (.inr (6, [.ref sg, .int (iI (inp.length : Int))])) := zup_k (zne b0 h0 (fun q => by cases q)) b0
    have hf_30 : (zup F a (.inr (8, [.ref cl, .int (iI ((zskip inp (zstr 1) p0).2))]))) sg = some (zA (cs 1) 60 fb_) := zup_k (zne b1 h0 (fun q => by cases q)) b1
    have hf_31 : (zup F a (.inr (8, [.ref cl, .int (iI ((zskip inp (zstr 1) p0).2))]))) a = some (.inr (8, [.ref cl, .int (iI ((zskip inp (zstr 1) p0).2))])) := zup_s
    replace hZ : zS D A s (zup F a (.inr (8, [.ref cl, .int (iI ((zskip inp (zstr 1) p0).2))]))) _ _ := hZ
    refine lv_iload_n hx hb dX4_readCommand_26 rfl (lv_at hl 0 rfl) ?_
    refine lv_aload_n hx hb dX4_readCommand_27 rfl (lv_at hl 1 rfl) ?_
    refine z_getON (v := .ref (cs (30 + 1))) hC hZ (kw_l hj5) ql_X4_48 rfl dX4_readCommand_28 ?_
    refine z_calli (z_runO (rest := [.int (iI r12)]) (As := []) (n := 0) hC hZ (met_J0_length_8abf5 l D cs A (zup F a (.inr (8, [.ref cl, .int (iI ((zskip inp (zstr 1) p0).2))]))) 1 hj6) gv_X4_52 hd_J0_length_8abf5 (zstr_o hj6) rfl hl rfl (Nat.le_of_ble_eq_true rfl) ⟨Nat.le_of_ble_eq_true rfl, Nat.le_of_ble_eq_true rfl⟩ ⟨Nat.le_of_ble_eq_true rfl, Nat.le_of_ble_eq_true rfl⟩ dX4_readCommand_31) hZ (fun r31 _ H locs hp31 hZ => ?_)
    obtain ⟨rfl, rfl⟩ := hp31
    refine z_icmp_ge (tgt := 39) hx hb dX4_readCommand_34 (by decide) (by omega) (by omega) (fun c_32 => ?_) (fun c_32 => ?_)
    · skip
      have hz : zskip inp (zstr 1) p0 = (false, p0 + r12) := hc12.2.2.elim (fun z => absurd z.1 (by omega)) (fun z => z.2)
      have hzq : (zskip inp (zstr 1) p0).2 = p0 + r12 := by rw [hz]
      have hpl : p0 < inp.length := by omega
      have hzn := znum_f hz
      refine lv_aload_n hx hb dX4_readCommand_39 rfl (lv_at hl 1 rfl) ?_
      refine z_getON (v := .int (iI 2)) hC hZ (kw_n hj5) ql_X4_57 rfl dX4_readCommand_40 ?_
      refine z_iconst hx hb dX4_readCommand_43 ?_
      refine z_icmp_lt (tgt := 55) hx hb dX4_readCommand_44 (by decide) (by decide) (by decide) (fun c_33 => ?_) (fun c_33 => ?_)
      · skip
        exfalso; omega
      · skip
        refine lv_aload_n hx hb dX4_readCommand_47 rfl (lv_at hl 2 rfl) ?_
        refine lv_aload_n hx hb dX4_readCommand_48 rfl (lv_at hl 3 rfl) ?_
        refine z_calli (z_runV (rest := []) (As := [.ref b]) (n := 1) (ci := 8) hC hZ (met_X4_readNumber l D cs A (zup F a (.inr (8, [.ref cl, .int (iI ((zskip inp (zstr 1) p0).2))]))) a cl b sg inp ((zskip inp (zstr 1) p0).2) hf_31 (hb1.keep (((zko.refl : zko [a] F F).up (by simp))) (zni1 nba zni0) (zni1 nsa zni0)) (by omega)) gv_X4_60 hd_X4_readNumber rfl hf_31 rfl hl rfl (Nat.le_of_ble_eq_true rfl) ⟨Nat.le_of_ble_eq_true rfl, Nat.le_of_ble_eq_true rfl⟩ ⟨Nat.le_of_ble_eq_true rfl, Nat.le_of_ble_eq_true rfl⟩ dX4_readCommand_49) hZ (fun r49 F49 H locs hp49_c_34 hZ => ?_)
        rcases hp49_c_34 with ⟨hzz49, rfl, rfl⟩ | ⟨z49, ⟨hza49, hzb49⟩, rfl, hzr49, rfl⟩
        · skip
          have hzt49 := zdg_t hzz49
          have hres : zcmd inp p0 = (true, (zskip inp (zstr 1) p0).2, (112, 0, 0)) := by rw [hzc, hzn, hzt49]; rfl
          refine lv_goto (tgt := 56) hx hb dX4_readCommand_52 (by decide) ?_
          refine lv_istore (lv' := [(4, .int (iI (-1))), (3, .int (iI r12)), (2, .ref (cs (20 + 1))), (0, .ref a), (1, .ref b)]) hx hb dX4_readCommand_56 hl (by decide) rfl (fun ls hl => ?_)
          refine lv_iload hx hb dX4_readCommand_58 (lv_at hl 0 rfl) ?_
          refine z_iconst hx hb dX4_readCommand_60 ?_
          refine z_icmp_eq (tgt := 82) hx hb dX4_readCommand_61 (by decide) (by decide) (by decide) (fun c_35 => ?_) (fun c_35 => ?_)
          · skip
            refine z_iconst hx hb dX4_readCommand_82 ?_
            exact z_zret hC hr hlk hZ rfl (by decide) (by decide) ((Or.inl ⟨by rw [hres], rfl, ((zko.refl : zko [a] F F).up (by simp)), by rw [hres]; exact hf_31⟩)) dX4_readCommand_83
          · skip
            exfalso; omega
        · skip
          rw [zup_up] at hZ
          have hf_36 : (zup F a (.inr (8, [.ref cl, .int (iI ((zdg inp ((zskip inp (zstr 1) p0).2)).2.1))]))) b = some (.inr (6, [.ref sg, .int (iI (inp.length : Int))])) := zup_k (zne b0 h0 (fun q => by cases q)) b0
          have hf_37 : (zup F a (.inr (8, [.ref cl, .int (iI ((zdg inp ((zskip inp (zstr 1) p0).2)).2.1))]))) sg = some (zA (cs 1) 60 fb_) := zup_k (zne b1 h0 (fun q => by cases q)) b1
          have hf_38 : (zup F a (.inr (8, [.ref cl, .int (iI ((zdg inp ((zskip inp (zstr 1) p0).2)).2.1))]))) a = some (.inr (8, [.ref cl, .int (iI ((zdg inp ((zskip inp (zstr 1) p0).2)).2.1))])) := zup_s
          replace hZ : zS D A s (zup F a (.inr (8, [.ref cl, .int (iI ((zdg inp ((zskip inp (zstr 1) p0).2)).2.1))]))) _ _ := hZ
          have hok49 := zdg_ok (inp := inp) (q := (zskip inp (zstr 1) p0).2) (by omega) (by omega)
          refine lv_goto (tgt := 56) hx hb dX4_readCommand_52 (by decide) ?_
          refine lv_istore (lv' := [(4, .int (iI r49)), (3, .int (iI r12)), (2, .ref (cs (20 + 1))), (0, .ref a), (1, .ref b)]) hx hb dX4_readCommand_56 hl (by decide) rfl (fun ls hl => ?_)
          refine lv_iload hx hb dX4_readCommand_58 (lv_at hl 0 rfl) ?_
          refine z_iconst hx hb dX4_readCommand_60 ?_
          refine z_icmp_eq (tgt := 82) hx hb dX4_readCommand_61 (by decide) (by omega) (by decide) (fun c_39 => ?_) (fun c_39 => ?_)
          · skip
            exfalso; omega
          · skip
            refine lv_aload_n hx hb dX4_readCommand_64 rfl (lv_at hl 2 rfl) ?_
            refine z_getON (v := .int (iI 2)) hC hZ (kw_n hj5) ql_X4_57 rfl dX4_readCommand_65 ?_
            refine z_iconst hx hb dX4_readCommand_68 ?_
            refine z_icmp_lt (tgt := 84) hx hb dX4_readCommand_69 (by decide) (by decide) (by decide) (fun c_40 => ?_) (fun c_40 => ?_)
            · skip
              exfalso; omega
            · skip
              refine lv_aload_n hx hb dX4_readCommand_72 rfl (lv_at hl 3 rfl) ?_
              refine lv_aload_n hx hb dX4_readCommand_73 rfl (lv_at hl 4 rfl) ?_
              refine z_bipush hx hb dX4_readCommand_74 (by decide) ?_
              refine z_calli (z_runV (rest := []) (As := [.ref b, .int (iI 42)]) (n := 2) (ci := 8) hC hZ (met_X4_readSign l D cs A (zup F a (.inr (8, [.ref cl, .int (iI ((zdg inp ((zskip inp (zstr 1) p0).2)).2.1))]))) a cl b sg inp ((zdg inp ((zskip inp (zstr 1) p0).2)).2.1) 42 hf_38 (hb1.keep (((zko.refl : zko [a] F F).up (by simp))) (zni1 nba zni0) (zni1 nsa zni0)) (by omega) (by decide)) gv_X4_34 hd_X4_readSign rfl hf_38 rfl hl rfl (Nat.le_of_ble_eq_true rfl) ⟨Nat.le_of_ble_eq_true rfl, Nat.le_of_ble_eq_true rfl⟩ ⟨Nat.le_of_ble_eq_true rfl, Nat.le_of_ble_eq_true rfl⟩ dX4_readCommand_76) hZ (fun r76 F76 H locs hp76_c_41 hZ => ?_)
              rcases hp76_c_41 with ⟨hs76, rfl, rfl⟩ | ⟨hs76, rfl, hsl76, rfl⟩
              · skip
                have hres : zcmd inp p0 = (true, (zdg inp ((zskip inp (zstr 1) p0).2)).2.1, (112, r49, 0)) := by rw [hzc, hzn, if_neg (by rw [hza49]; exact fun z => by cases z), zn5_n hs76, hzb49]
                refine z_if_ne (tgt := 84) hx hb dX4_readCommand_79 (by decide) (by decide) (fun c_42 => ?_) (fun c_42 => ?_)
                · skip
                  exfalso; omega
                · skip
                  refine z_iconst hx hb dX4_readCommand_82 ?_
                  exact z_zret hC hr hlk hZ rfl (by decide) (by decide) ((Or.inl ⟨by rw [hres], rfl, ((zko.refl : zko [a] F F).up (by simp)), by rw [hres]; exact hf_38⟩)) dX4_readCommand_83
              · skip
                rw [zup_up] at hZ
                have hf_43 : (zup F a (.inr (8, [.ref cl, .int (iI ((zdg inp ((zskip inp (zstr 1) p0).2)).2.1 + 1))]))) b = some (.inr (6, [.ref sg, .int (iI (inp.length : Int))])) := zup_k (zne b0 h0 (fun q => by cases q)) b0
                have hf_44 : (zup F a (.inr (8, [.ref cl, .int (iI ((zdg inp ((zskip inp (zstr 1) p0).2)).2.1 + 1))]))) sg = some (zA (cs 1) 60 fb_) := zup_k (zne b1 h0 (fun q => by cases q)) b1
                have hf_45 : (zup F a (.inr (8, [.ref cl, .int (iI ((zdg inp ((zskip inp (zstr 1) p0).2)).2.1 + 1))]))) a = some (.inr (8, [.ref cl, .int (iI ((zdg inp ((zskip inp (zstr 1) p0).2)).2.1 + 1))])) := zup_s
                replace hZ : zS D A s (zup F a (.inr (8, [.ref cl, .int (iI ((zdg inp ((zskip inp (zstr 1) p0).2)).2.1 + 1))]))) _ _ := hZ
                refine z_if_ne (tgt := 84) hx hb dX4_readCommand_79 (by decide) (by decide) (fun c_46 => ?_) (fun c_46 => ?_)
                · skip
                  refine lv_aload_n hx hb dX4_readCommand_84 rfl (lv_at hl 2 rfl) ?_
                  refine z_getON (v := .int (iI 2)) hC hZ (kw_n hj5) ql_X4_57 rfl dX4_readCommand_85 ?_
                  refine z_iconst hx hb dX4_readCommand_88 ?_
                  refine z_icmp_lt (tgt := 100) hx hb dX4_readCommand_89 (by decide) (by decide) (by decide) (fun c_47 => ?_) (fun c_47 => ?_)
                  · skip
                    exfalso; omega
                  · skip
                    refine lv_aload_n hx hb dX4_readCommand_92 rfl (lv_at hl 3 rfl) ?_
                    refine lv_aload_n hx hb dX4_readCommand_93 rfl (lv_at hl 4 rfl) ?_
                    refine z_calli (z_runV (rest := []) (As := [.ref b]) (n := 1) (ci := 8) hC hZ (met_X4_readNumber l D cs A (zup F a (.inr (8, [.ref cl, .int (iI ((zdg inp ((zskip inp (zstr 1) p0).2)).2.1 + 1))]))) a cl b sg inp ((zdg inp ((zskip inp (zstr 1) p0).2)).2.1 + 1) hf_45 (hb1.keep (((zko.refl : zko [a] F F).up (by simp))) (zni1 nba zni0) (zni1 nsa zni0)) (by omega)) gv_X4_60 hd_X4_readNumber rfl hf_45 rfl hl rfl (Nat.le_of_ble_eq_true rfl) ⟨Nat.le_of_ble_eq_true rfl, Nat.le_of_ble_eq_true rfl⟩ ⟨Nat.le_of_ble_eq_true rfl, Nat.le_of_ble_eq_true rfl⟩ dX4_readCommand_94) hZ (fun r94 F94 H locs hp94_c_48 hZ => ?_)
                    rcases hp94_c_48 with ⟨hzz94, rfl, rfl⟩ | ⟨z94, ⟨hza94, hzb94⟩, rfl, hzr94, rfl⟩
                    · skip
                      have hzt94 := zdg_t hzz94
                      have hres : zcmd inp p0 = (true, (zdg inp ((zskip inp (zstr 1) p0).2)).2.1 + 1, (112, r49, 0)) := by rw [hzc, hzn, if_neg (by rw [hza49]; exact fun z => by cases z), zn5_y hs76, hzt94, hzb49]
                      refine lv_goto (tgt := 101) hx hb dX4_readCommand_97 (by decide) ?_
                      refine lv_istore (lv' := [(5, .int (iI (-1))), (4, .int (iI r49)), (3, .int (iI r12)), (2, .ref (cs (20 + 1))), (0, .ref a), (1, .ref b)]) hx hb dX4_readCommand_101 hl (by decide) rfl (fun ls hl => ?_)
                      refine lv_iload hx hb dX4_readCommand_103 (lv_at hl 0 rfl) ?_
                      refine z_iconst hx hb dX4_readCommand_105 ?_
                      refine z_icmp_ne (tgt := 111) hx hb dX4_readCommand_106 (by decide) (by decide) (by decide) (fun c_49 => ?_) (fun c_49 => ?_)
                      · skip
                        exfalso; omega
                      · skip
                        refine z_iconst hx hb dX4_readCommand_109 ?_
                        exact z_zret hC hr hlk hZ rfl (by decide) (by decide) ((Or.inl ⟨by rw [hres], rfl, ((zko.refl : zko [a] F F).up (by simp)), by rw [hres]; exact hf_45⟩)) dX4_readCommand_110
                    · skip
                      rw [zup_up] at hZ
                      have hf_50 : (zup F a (.inr (8, [.ref cl, .int (iI ((zdg inp ((zdg inp ((zskip inp (zstr 1) p0).2)).2.1 + 1)).2.1))]))) b = some (.inr (6, [.ref sg, .int (iI (inp.length : Int))])) := zup_k (zne b0 h0 (fun q => by cases q)) b0
                      have hf_51 : (zup F a (.inr (8, [.ref cl, .int (iI ((zdg inp ((zdg inp ((zskip inp (zstr 1) p0).2)).2.1 + 1)).2.1))]))) sg = some (zA (cs 1) 60 fb_) := zup_k (zne b1 h0 (fun q => by cases q)) b1
                      have hf_52 : (zup F a (.inr (8, [.ref cl, .int (iI ((zdg inp ((zdg inp ((zskip inp (zstr 1) p0).2)).2.1 + 1)).2.1))]))) a = some (.inr (8, [.ref cl, .int (iI ((zdg inp ((zdg inp ((zskip inp (zstr 1) p0).2)).2.1 + 1)).2.1))])) := zup_s
                      replace hZ : zS D A s (zup F a (.inr (8, [.ref cl, .int (iI ((zdg inp ((zdg inp ((zskip inp (zstr 1) p0).2)).2.1 + 1)).2.1))]))) _ _ := hZ
                      have hok94 := zdg_ok (inp := inp) (q := (zdg inp ((zskip inp (zstr 1) p0).2)).2.1 + 1) (by omega) (by omega)
                      have hres : zcmd inp p0 = (false, (zdg inp ((zdg inp ((zskip inp (zstr 1) p0).2)).2.1 + 1)).2.1, (112, r49, r94)) := by rw [hzc, hzn, if_neg (by rw [hza49]; exact fun z => by cases z), zn5_y hs76, hza94, hzb94, hzb49]
                      refine lv_goto (tgt := 101) hx hb dX4_readCommand_97 (by decide) ?_
                      refine lv_istore (lv' := [(5, .int (iI r94)), (4, .int (iI r49)), (3, .int (iI r12)), (2, .ref (cs (20 + 1))), (0, .ref a), (1, .ref b)]) hx hb dX4_readCommand_101 hl (by decide) rfl (fun ls hl => ?_)
                      refine lv_iload hx hb dX4_readCommand_103 (lv_at hl 0 rfl) ?_
                      refine z_iconst hx hb dX4_readCommand_105 ?_
                      refine z_icmp_ne (tgt := 111) hx hb dX4_readCommand_106 (by decide) (by omega) (by decide) (fun c_53 => ?_) (fun c_53 => ?_)
                      · skip
                        refine lv_aload_n hx hb dX4_readCommand_111 rfl (lv_at hl 4 rfl) ?_
                        refine z_get (T := TX4) (N := 2) (ci := 8) (k := 0) (fs := [.ref cl, .int (iI ((zdg inp ((zdg inp ((zskip inp (zstr 1) p0).2)).2.1 + 1)).2.1))]) (v := .ref cl) hC hZ in_X4 rfl (by decide) ql_X4_12 rfl hf_52 rfl dX4_readCommand_112 ?_
                        refine z_new (T := TX3) (N := 3) (ci := 7) hC hZ tyX3 tyX3_ok in_X3 rfl qk_X4_64 qx_X3 qn_X3 [.null, .int (iI 0), .int (iI 0)] df_X3 (Nat.le_of_ble_eq_true rfl) (Nat.le_of_ble_eq_true rfl) dX4_readCommand_115 (fun q115 H hq115 hZ => ?_)
                        have hf_54 : (zup (zup F a (.inr (8, [.ref cl, .int (iI ((zdg inp ((zdg inp ((zskip inp (zstr 1) p0).2)).2.1 + 1)).2.1))]))) q115 (.inr (7, [.null, .int (iI 0), .int (iI 0)]))) b = some (.inr (6, [.ref sg, .int (iI (inp.length : Int))])) := zup_k (zF_ne hf_50 hq115.1) hf_50
                        have hf_55 : (zup (zup F a (.inr (8, [.ref cl, .int (iI ((zdg inp ((zdg inp ((zskip inp (zstr 1) p0).2)).2.1 + 1)).2.1))]))) q115 (.inr (7, [.null, .int (iI 0), .int (iI 0)]))) sg = some (zA (cs 1) 60 fb_) := zup_k (zF_ne hf_51 hq115.1) hf_51
                        have hf_56 : (zup (zup F a (.inr (8, [.ref cl, .int (iI ((zdg inp ((zdg inp ((zskip inp (zstr 1) p0).2)).2.1 + 1)).2.1))]))) q115 (.inr (7, [.null, .int (iI 0), .int (iI 0)]))) a = some (.inr (8, [.ref cl, .int (iI ((zdg inp ((zdg inp ((zskip inp (zstr 1) p0).2)).2.1 + 1)).2.1))])) := zup_k (zF_ne hf_52 hq115.1) hf_52
                        have hf_57 : (zup (zup F a (.inr (8, [.ref cl, .int (iI ((zdg inp ((zdg inp ((zskip inp (zstr 1) p0).2)).2.1 + 1)).2.1))]))) q115 (.inr (7, [.null, .int (iI 0), .int (iI 0)]))) q115 = some (.inr (7, [.null, .int (iI 0), .int (iI 0)])) := zup_s
                        replace hZ : zS D A s (zup (zup F a (.inr (8, [.ref cl, .int (iI ((zdg inp ((zdg inp ((zskip inp (zstr 1) p0).2)).2.1 + 1)).2.1))]))) q115 (.inr (7, [.null, .int (iI 0), .int (iI 0)]))) _ _ := hZ
                        refine lv_dup hx hb dX4_readCommand_118 rfl ?_
                        refine lv_aload_n hx hb dX4_readCommand_119 rfl (lv_at hl 3 rfl) ?_
                        refine lv_iload hx hb dX4_readCommand_120 (lv_at hl 1 rfl) ?_
                        refine lv_iload hx hb dX4_readCommand_122 (lv_at hl 0 rfl) ?_
                        refine z_callv (z_runI (rest := [.ref q115, .ref cl]) (As := [.ref (cs (20 + 1)), .int (iI r49), .int (iI r94)]) (n := 3) hC hZ (met_X3_init l D cs A (zup (zup F a (.inr (8, [.ref cl, .int (iI ((zdg inp ((zdg inp ((zskip inp (zstr 1) p0).2)).2.1 + 1)).2.1))]))) q115 (.inr (7, [.null, .int (iI 0), .int (iI 0)]))) q115 (cs (20 + 1)) r49 r94 hf_57) qc_X3_init qn_X3 qm_X4_66 qi_X3_init rfl he_X3_init rfl hl rfl (Nat.le_of_ble_eq_true rfl) ⟨Nat.le_of_ble_eq_true rfl, Nat.le_of_ble_eq_true rfl⟩ ⟨Nat.le_of_ble_eq_true rfl, Nat.le_of_ble_eq_true rfl⟩ dX4_readCommand_124) hZ (fun F124 H locs hp124_c_58 hZ => ?_)
                        obtain rfl := hp124_c_58
                        rw [zup_up] at hZ
                        have hf_59 : (zup (zup F a (.inr (8, [.ref cl, .int (iI ((zdg inp ((zdg inp ((zskip inp (zstr 1) p0).2)).2.1 + 1)).2.1))]))) q115 (.inr (7, [.ref (cs (20 + 1)), .int (iI r49), .int (iI r94)]))) b = some (.inr (6, [.ref sg, .int (iI (inp.length : Int))])) := zup_k (zF_ne hf_50 hq115.1) hf_50
                        have hf_60 : (zup (zup F a (.inr (8, [.ref cl, .int (iI ((zdg inp ((zdg inp ((zskip inp (zstr 1) p0).2)).2.1 + 1)).2.1))]))) q115 (.inr (7, [.ref (cs (20 + 1)), .int (iI r49), .int (iI r94)]))) sg = some (zA (cs 1) 60 fb_) := zup_k (zF_ne hf_51 hq115.1) hf_51
                        have hf_61 : (zup (zup F a (.inr (8, [.ref cl, .int (iI ((zdg inp ((zdg inp ((zskip inp (zstr 1) p0).2)).2.1 + 1)).2.1))]))) q115 (.inr (7, [.ref (cs (20 + 1)), .int (iI r49), .int (iI r94)]))) a = some (.inr (8, [.ref cl, .int (iI ((zdg inp ((zdg inp ((zskip inp (zstr 1) p0).2)).2.1 + 1)).2.1))])) := zup_k (zF_ne hf_52 hq115.1) hf_52
                        have hf_62 : (zup (zup F a (.inr (8, [.ref cl, .int (iI ((zdg inp ((zdg inp ((zskip inp (zstr 1) p0).2)).2.1 + 1)).2.1))]))) q115 (.inr (7, [.ref (cs (20 + 1)), .int (iI r49), .int (iI r94)]))) q115 = some (.inr (7, [.ref (cs (20 + 1)), .int (iI r49), .int (iI r94)])) := zup_s
                        replace hZ : zS D A s (zup (zup F a (.inr (8, [.ref cl, .int (iI ((zdg inp ((zdg inp ((zskip inp (zstr 1) p0).2)).2.1 + 1)).2.1))]))) q115 (.inr (7, [.ref (cs (20 + 1)), .int (iI r49), .int (iI r94)]))) _ _ := hZ
                        have hk3 : zko [a] F (zup (zup F a (.inr (8, [.ref cl, .int (iI ((zdg inp ((zdg inp ((zskip inp (zstr 1) p0).2)).2.1 + 1)).2.1))]))) q115 (.inr (7, [.ref (cs (20 + 1)), .int (iI r49), .int (iI r94)]))) := (((zko.refl : zko [a] F F).up (by simp)).new hq115.1)
                        have hcl3 := hcl.keepB hk3 (fun o ho => by rw [List.mem_singleton.mp ho]; exact ⟨8, _, h0, by decide⟩)
                        have h83 := z_c8 hC hZ
                        obtain ⟨fcl3, hcl3o⟩ := hcl3.o
                        have hx3 := hf_62
                        have ha3 := hf_61
                        have hn115 : F q115 = none := (zup_none hq115.1)
                        obtain ⟨fsho_63, ho_63⟩ := (hcl3).o
                        refine z_calli (z_runV (rest := []) (As := [.ref q115]) (n := 1) (ci := 4) hC hZ (met_Jx4a65c_add_9ea2d l D cs A (zup (zup F a (.inr (8, [.ref cl, .int (iI ((zdg inp ((zdg inp ((zskip inp (zstr 1) p0).2)).2.1 + 1)).2.1))]))) q115 (.inr (7, [.ref (cs (20 + 1)), .int (iI r49), .int (iI r94)]))) cl arr L q115 hcl3 (hL hpl) ⟨7, 3, RX3, TX3, _, hx3, rfl, q_2179⟩ (zneK hx3 hcl3o (by show 1000000 + 7 ≠ 1000000 + 4; decide))) gv_X4_69 hd_Jx4a65c_add_9ea2d rfl ho_63 rfl hl rfl (Nat.le_of_ble_eq_true rfl) ⟨Nat.le_of_ble_eq_true rfl, Nat.le_of_ble_eq_true rfl⟩ ⟨Nat.le_of_ble_eq_true rfl, Nat.le_of_ble_eq_true rfl⟩ dX4_readCommand_127) hZ (fun r127 F127 H locs hp127_c_64 hZ => ?_)
                        obtain ⟨hr127, arr1, ha127, hk127, hl127⟩ := hp127_c_64
                        subst hr127
                        refine lv_pop hx hb dX4_readCommand_130 rfl ?_
                        refine z_iconst hx hb dX4_readCommand_131 ?_
                        exact z_zret hC hr hlk hZ rfl (by decide) (by decide) ((Or.inr ⟨by rw [hres], rfl, arr1, q115, (hk3.sub (fun q hq => by rw [List.mem_singleton.mp hq]; simp)).tr hk127 (fun q hq => Or.inl (List.mem_cons_of_mem _ hq)), ha127.imp_right (fun z => hk3.nnk (fun o ho => by rw [List.mem_singleton.mp ho, ha3]; exact fun y => by cases y) z), by rw [hres]; exact hk127 _ _ ha3 (zni1 (zneK ha3 hcl3o (by show 1000000 + 8 ≠ 1000000 + 4; decide)) (zni1 (hcl3.ne ha3 h83) zni0)), hl127, hn115, 1, by decide, (by rw [hres] <;> rfl), by rw [hres]; exact hk127 _ _ hx3 (zni1 (zneK hx3 hcl3o (by show 1000000 + 7 ≠ 1000000 + 4; decide)) (zni1 (hcl3.ne hx3 h83) zni0))⟩)) dX4_readCommand_132
                      · skip
                        exfalso; omega
                · skip
                  exfalso; omega
    · skip
      have hz : zskip inp (zstr 1) p0 = (true, p0 + r12) := hc12.2.2.elim (fun z => z.2) (fun z => absurd z.1 (by omega))
      have hres : zcmd inp p0 = (true, (zskip inp (zstr 1) p0).2, (112, 0, 0)) := by rw [hzc, znum_t hz]; rfl
      refine z_iconst hx hb dX4_readCommand_37 ?_
      exact z_zret hC hr hlk hZ rfl (by decide) (by decide) ((Or.inl ⟨by rw [hres], rfl, ((zko.refl : zko [a] F F).up (by simp)), by rw [hres]; exact hf_31⟩)) dX4_readCommand_38
  · skip
    have hj5 : 2 < 5 := by decide
    have hj6 : 2 < 5 := by decide
    rw [hjk]
    have hzc := zcmd_2 hjk
    have hPb := zskip_ok (inp := inp) (zstr 2) p0 (zstr_ne 2) hp0.1 hp0.2
    have hzl : 5 ≤ (zstr 2).length ∧ (zstr 2).length ≤ 6 := by decide
    refine lv_astore_n (lv' := [(2, .ref (cs (20 + 2))), (0, .ref a), (1, .ref b)]) hx hb dX4_readCommand_5 rfl hl (by decide) rfl (fun ls hl => ?_)
    refine lv_aload_n hx hb dX4_readCommand_6 rfl (lv_at hl 0 rfl) ?_
    refine lv_aload_n hx hb dX4_readCommand_7 rfl (lv_at hl 2 rfl) ?_
    refine lv_aload_n hx hb dX4_readCommand_8 rfl (lv_at hl 1 rfl) ?_
    refine z_get (T := TX4) (N := 2) (ci := 8) (k := 1) (fs := [.ref cl, .int (iI p0)]) (v := .int (iI p0)) hC hZ in_X4 rfl (by decide) ql_X4_18 rfl h0 rfl dX4_readCommand_9 ?_
    refine z_calli (z_runO (rest := []) (As := [.ref b, .int (iI p0)]) (n := 2) hC hZ (met_X7_countShared l D cs A F 2 b sg inp p0 hj5 hb1 (by omega)) gv_X4_42 hd_X7_countShared (kw_o hj5) rfl hl rfl (Nat.le_of_ble_eq_true rfl) ⟨Nat.le_of_ble_eq_true rfl, Nat.le_of_ble_eq_true rfl⟩ ⟨Nat.le_of_ble_eq_true rfl, Nat.le_of_ble_eq_true rfl⟩ dX4_readCommand_12) hZ (fun r12 F12 H locs hp_65 hZ => ?_)
    obtain ⟨rfl, hp_65⟩ := hp_65
    have hc12 := hp_65
    refine lv_istore_n (lv' := [(3, .int (iI r12)), (2, .ref (cs (20 + 2))), (0, .ref a), (1, .ref b)]) hx hb dX4_readCommand_15 rfl hl (by decide) rfl (fun ls hl => ?_)
    refine lv_aload_n hx hb dX4_readCommand_16 rfl (lv_at hl 2 rfl) ?_
    refine lv_dup hx hb dX4_readCommand_17 rfl ?_
    refine z_get (T := TX4) (N := 2) (ci := 8) (k := 1) (fs := [.ref cl, .int (iI p0)]) (v := .int (iI p0)) hC hZ in_X4 rfl (by decide) ql_X4_18 rfl h0 rfl dX4_readCommand_18 ?_
    refine lv_iload_n hx hb dX4_readCommand_21 rfl (lv_at hl 0 rfl) ?_
    refine z_iadd hx hb dX4_readCommand_22 ?_
    refine z_top (y := (zskip inp (zstr 2) p0).2) (by have := hc12.1; unfold cnt at this; omega) ?_
    refine z_put (T := TX4) (N := 2) (ci := 8) (k := 1) (fs := [.ref cl, .int (iI p0)]) (v := .int (iI ((zskip inp (zstr 2) p0).2))) hC hZ tyX4 tyX4_ok nmX4 in_X4 rfl (by decide) ql_X4_18 rfl (Or.inl rfl) rfl h0 (by show 1 < 2; decide) rfl rfl dX4_readCommand_23 (fun H locs hZ => ?_)
    have hf_66 : (zup F a (.inr (8, [.ref cl, .int (iI ((zskip inp (zstr 2) p0).2))]))) b = some (.inr (6, [.ref sg, .int (iI (inp.length : Int))])) := zup_k (zne b0 h0 (fun q => by cases q)) b0
    have hf_67 : (zup F a (.inr (8, [.ref cl, .int (iI ((zskip inp (zstr 2) p0).2))]))) sg = some (zA (cs 1) 60 fb_) := zup_k (zne b1 h0 (fun q => by cases q)) b1
    have hf_68 : (zup F a (.inr (8, [.ref cl, .int (iI ((zskip inp (zstr 2) p0).2))]))) a = some (.inr (8, [.ref cl, .int (iI ((zskip inp (zstr 2) p0).2))])) := zup_s
    replace hZ : zS D A s (zup F a (.inr (8, [.ref cl, .int (iI ((zskip inp (zstr 2) p0).2))]))) _ _ := hZ
    refine lv_iload_n hx hb dX4_readCommand_26 rfl (lv_at hl 0 rfl) ?_
    refine lv_aload_n hx hb dX4_readCommand_27 rfl (lv_at hl 1 rfl) ?_
    refine z_getON (v := .ref (cs (30 + 2))) hC hZ (kw_l hj5) ql_X4_48 rfl dX4_readCommand_28 ?_
    refine z_calli (z_runO (rest := [.int (iI r12)]) (As := []) (n := 0) hC hZ (met_J0_length_8abf5 l D cs A (zup F a (.inr (8, [.ref cl, .int (iI ((zskip inp (zstr 2) p0).2))]))) 2 hj6) gv_X4_52 hd_J0_length_8abf5 (zstr_o hj6) rfl hl rfl (Nat.le_of_ble_eq_true rfl) ⟨Nat.le_of_ble_eq_true rfl, Nat.le_of_ble_eq_true rfl⟩ ⟨Nat.le_of_ble_eq_true rfl, Nat.le_of_ble_eq_true rfl⟩ dX4_readCommand_31) hZ (fun r31 _ H locs hp31 hZ => ?_)
    obtain ⟨rfl, rfl⟩ := hp31
    refine z_icmp_ge (tgt := 39) hx hb dX4_readCommand_34 (by decide) (by omega) (by omega) (fun c_69 => ?_) (fun c_69 => ?_)
    · skip
      have hz : zskip inp (zstr 2) p0 = (false, p0 + r12) := hc12.2.2.elim (fun z => absurd z.1 (by omega)) (fun z => z.2)
      have hzq : (zskip inp (zstr 2) p0).2 = p0 + r12 := by rw [hz]
      have hpl : p0 < inp.length := by omega
      have hres : zcmd inp p0 = (false, (zskip inp (zstr 2) p0).2, (114, 0, 0)) := by rw [hzc, hz]
      refine lv_aload_n hx hb dX4_readCommand_39 rfl (lv_at hl 1 rfl) ?_
      refine z_getON (v := .int (iI 0)) hC hZ (kw_n hj5) ql_X4_57 rfl dX4_readCommand_40 ?_
      refine z_iconst hx hb dX4_readCommand_43 ?_
      refine z_icmp_lt (tgt := 55) hx hb dX4_readCommand_44 (by decide) (by decide) (by decide) (fun c_70 => ?_) (fun c_70 => ?_)
      · skip
        refine z_iconst hx hb dX4_readCommand_55 ?_
        refine lv_istore (lv' := [(4, .int (iI 0)), (3, .int (iI r12)), (2, .ref (cs (20 + 2))), (0, .ref a), (1, .ref b)]) hx hb dX4_readCommand_56 hl (by decide) rfl (fun ls hl => ?_)
        refine lv_iload hx hb dX4_readCommand_58 (lv_at hl 0 rfl) ?_
        refine z_iconst hx hb dX4_readCommand_60 ?_
        refine z_icmp_eq (tgt := 82) hx hb dX4_readCommand_61 (by decide) (by decide) (by decide) (fun c_71 => ?_) (fun c_71 => ?_)
        · skip
          exfalso; omega
        · skip
          refine lv_aload_n hx hb dX4_readCommand_64 rfl (lv_at hl 2 rfl) ?_
          refine z_getON (v := .int (iI 0)) hC hZ (kw_n hj5) ql_X4_57 rfl dX4_readCommand_65 ?_
          refine z_iconst hx hb dX4_readCommand_68 ?_
          refine z_icmp_lt (tgt := 84) hx hb dX4_readCommand_69 (by decide) (by decide) (by decide) (fun c_72 => ?_) (fun c_72 => ?_)
          · skip
            refine lv_aload_n hx hb dX4_readCommand_84 rfl (lv_at hl 2 rfl) ?_
            refine z_getON (v := .int (iI 0)) hC hZ (kw_n hj5) ql_X4_57 rfl dX4_readCommand_85 ?_
            refine z_iconst hx hb dX4_readCommand_88 ?_
            refine z_icmp_lt (tgt := 100) hx hb dX4_readCommand_89 (by decide) (by decide) (by decide) (fun c_73 => ?_) (fun c_73 => ?_)
            · skip
              refine z_iconst hx hb dX4_readCommand_100 ?_
              refine lv_istore (lv' := [(5, .int (iI 0)), (4, .int (iI 0)), (3, .int (iI r12)), (2, .ref (cs (20 + 2))), (0, .ref a), (1, .ref b)]) hx hb dX4_readCommand_101 hl (by decide) rfl (fun ls hl => ?_)
              refine lv_iload hx hb dX4_readCommand_103 (lv_at hl 0 rfl) ?_
              refine z_iconst hx hb dX4_readCommand_105 ?_
              refine z_icmp_ne (tgt := 111) hx hb dX4_readCommand_106 (by decide) (by decide) (by decide) (fun c_74 => ?_) (fun c_74 => ?_)
              · skip
                refine lv_aload_n hx hb dX4_readCommand_111 rfl (lv_at hl 4 rfl) ?_
                refine z_get (T := TX4) (N := 2) (ci := 8) (k := 0) (fs := [.ref cl, .int (iI ((zskip inp (zstr 2) p0).2))]) (v := .ref cl) hC hZ in_X4 rfl (by decide) ql_X4_12 rfl hf_68 rfl dX4_readCommand_112 ?_
                refine z_new (T := TX3) (N := 3) (ci := 7) hC hZ tyX3 tyX3_ok in_X3 rfl qk_X4_64 qx_X3 qn_X3 [.null, .int (iI 0), .int (iI 0)] df_X3 (Nat.le_of_ble_eq_true rfl) (Nat.le_of_ble_eq_true rfl) dX4_readCommand_115 (fun q115 H hq115 hZ => ?_)
                have hf_75 : (zup (zup F a (.inr (8, [.ref cl, .int (iI ((zskip inp (zstr 2) p0).2))]))) q115 (.inr (7, [.null, .int (iI 0), .int (iI 0)]))) b = some (.inr (6, [.ref sg, .int (iI (inp.length : Int))])) := zup_k (zF_ne hf_66 hq115.1) hf_66
                have hf_76 : (zup (zup F a (.inr (8, [.ref cl, .int (iI ((zskip inp (zstr 2) p0).2))]))) q115 (.inr (7, [.null, .int (iI 0), .int (iI 0)]))) sg = some (zA (cs 1) 60 fb_) := zup_k (zF_ne hf_67 hq115.1) hf_67
                have hf_77 : (zup (zup F a (.inr (8, [.ref cl, .int (iI ((zskip inp (zstr 2) p0).2))]))) q115 (.inr (7, [.null, .int (iI 0), .int (iI 0)]))) a = some (.inr (8, [.ref cl, .int (iI ((zskip inp (zstr 2) p0).2))])) := zup_k (zF_ne hf_68 hq115.1) hf_68
                have hf_78 : (zup (zup F a (.inr (8, [.ref cl, .int (iI ((zskip inp (zstr 2) p0).2))]))) q115 (.inr (7, [.null, .int (iI 0), .int (iI 0)]))) q115 = some (.inr (7, [.null, .int (iI 0), .int (iI 0)])) := zup_s
                replace hZ : zS D A s (zup (zup F a (.inr (8, [.ref cl, .int (iI ((zskip inp (zstr 2) p0).2))]))) q115 (.inr (7, [.null, .int (iI 0), .int (iI 0)]))) _ _ := hZ
                refine lv_dup hx hb dX4_readCommand_118 rfl ?_
                refine lv_aload_n hx hb dX4_readCommand_119 rfl (lv_at hl 3 rfl) ?_
                refine lv_iload hx hb dX4_readCommand_120 (lv_at hl 1 rfl) ?_
                refine lv_iload hx hb dX4_readCommand_122 (lv_at hl 0 rfl) ?_
                refine z_callv (z_runI (rest := [.ref q115, .ref cl]) (As := [.ref (cs (20 + 2)), .int (iI 0), .int (iI 0)]) (n := 3) hC hZ (met_X3_init l D cs A (zup (zup F a (.inr (8, [.ref cl, .int (iI ((zskip inp (zstr 2) p0).2))]))) q115 (.inr (7, [.null, .int (iI 0), .int (iI 0)]))) q115 (cs (20 + 2)) 0 0 hf_78) qc_X3_init qn_X3 qm_X4_66 qi_X3_init rfl he_X3_init rfl hl rfl (Nat.le_of_ble_eq_true rfl) ⟨Nat.le_of_ble_eq_true rfl, Nat.le_of_ble_eq_true rfl⟩ ⟨Nat.le_of_ble_eq_true rfl, Nat.le_of_ble_eq_true rfl⟩ dX4_readCommand_124) hZ (fun F124 H locs hp124_c_79 hZ => ?_)
                obtain rfl := hp124_c_79
                rw [zup_up] at hZ
                have hf_80 : (zup (zup F a (.inr (8, [.ref cl, .int (iI ((zskip inp (zstr 2) p0).2))]))) q115 (.inr (7, [.ref (cs (20 + 2)), .int (iI 0), .int (iI 0)]))) b = some (.inr (6, [.ref sg, .int (iI (inp.length : Int))])) := zup_k (zF_ne hf_66 hq115.1) hf_66
                have hf_81 : (zup (zup F a (.inr (8, [.ref cl, .int (iI ((zskip inp (zstr 2) p0).2))]))) q115 (.inr (7, [.ref (cs (20 + 2)), .int (iI 0), .int (iI 0)]))) sg = some (zA (cs 1) 60 fb_) := zup_k (zF_ne hf_67 hq115.1) hf_67
                have hf_82 : (zup (zup F a (.inr (8, [.ref cl, .int (iI ((zskip inp (zstr 2) p0).2))]))) q115 (.inr (7, [.ref (cs (20 + 2)), .int (iI 0), .int (iI 0)]))) a = some (.inr (8, [.ref cl, .int (iI ((zskip inp (zstr 2) p0).2))])) := zup_k (zF_ne hf_68 hq115.1) hf_68
                have hf_83 : (zup (zup F a (.inr (8, [.ref cl, .int (iI ((zskip inp (zstr 2) p0).2))]))) q115 (.inr (7, [.ref (cs (20 + 2)), .int (iI 0), .int (iI 0)]))) q115 = some (.inr (7, [.ref (cs (20 + 2)), .int (iI 0), .int (iI 0)])) := zup_s
                replace hZ : zS D A s (zup (zup F a (.inr (8, [.ref cl, .int (iI ((zskip inp (zstr 2) p0).2))]))) q115 (.inr (7, [.ref (cs (20 + 2)), .int (iI 0), .int (iI 0)]))) _ _ := hZ
                have hk3 : zko [a] F (zup (zup F a (.inr (8, [.ref cl, .int (iI ((zskip inp (zstr 2) p0).2))]))) q115 (.inr (7, [.ref (cs (20 + 2)), .int (iI 0), .int (iI 0)]))) := (((zko.refl : zko [a] F F).up (by simp)).new hq115.1)
                have hcl3 := hcl.keepB hk3 (fun o ho => by rw [List.mem_singleton.mp ho]; exact ⟨8, _, h0, by decide⟩)
                have h83 := z_c8 hC hZ
                obtain ⟨fcl3, hcl3o⟩ := hcl3.o
                have hx3 := hf_83
                have ha3 := hf_82
                have hn115 : F q115 = none := (zup_none hq115.1)
                obtain ⟨fsho_84, ho_84⟩ := (hcl3).o
                refine z_calli (z_runV (rest := []) (As := [.ref q115]) (n := 1) (ci := 4) hC hZ (met_Jx4a65c_add_9ea2d l D cs A (zup (zup F a (.inr (8, [.ref cl, .int (iI ((zskip inp (zstr 2) p0).2))]))) q115 (.inr (7, [.ref (cs (20 + 2)), .int (iI 0), .int (iI 0)]))) cl arr L q115 hcl3 (hL hpl) ⟨7, 3, RX3, TX3, _, hx3, rfl, q_2179⟩ (zneK hx3 hcl3o (by show 1000000 + 7 ≠ 1000000 + 4; decide))) gv_X4_69 hd_Jx4a65c_add_9ea2d rfl ho_84 rfl hl rfl (Nat.le_of_ble_eq_true rfl) ⟨Nat.le_of_ble_eq_true rfl, Nat.le_of_ble_eq_true rfl⟩ ⟨Nat.le_of_ble_eq_true rfl, Nat.le_of_ble_eq_true rfl⟩ dX4_readCommand_127) hZ (fun r127 F127 H locs hp127_c_85 hZ => ?_)
                obtain ⟨hr127, arr1, ha127, hk127, hl127⟩ := hp127_c_85
                subst hr127
                refine lv_pop hx hb dX4_readCommand_130 rfl ?_
                refine z_iconst hx hb dX4_readCommand_131 ?_
                exact z_zret hC hr hlk hZ rfl (by decide) (by decide) ((Or.inr ⟨by rw [hres], rfl, arr1, q115, (hk3.sub (fun q hq => by rw [List.mem_singleton.mp hq]; simp)).tr hk127 (fun q hq => Or.inl (List.mem_cons_of_mem _ hq)), ha127.imp_right (fun z => hk3.nnk (fun o ho => by rw [List.mem_singleton.mp ho, ha3]; exact fun y => by cases y) z), by rw [hres]; exact hk127 _ _ ha3 (zni1 (zneK ha3 hcl3o (by show 1000000 + 8 ≠ 1000000 + 4; decide)) (zni1 (hcl3.ne ha3 h83) zni0)), hl127, hn115, 2, by decide, (by rw [hres] <;> rfl), by rw [hres]; exact hk127 _ _ hx3 (zni1 (zneK hx3 hcl3o (by show 1000000 + 7 ≠ 1000000 + 4; decide)) (zni1 (hcl3.ne hx3 h83) zni0))⟩)) dX4_readCommand_132
              · skip
                exfalso; omega
            · skip
              exfalso; omega
          · skip
            exfalso; omega
      · skip
        exfalso; omega
    · skip
      have hz : zskip inp (zstr 2) p0 = (true, p0 + r12) := hc12.2.2.elim (fun z => z.2) (fun z => absurd z.1 (by omega))
      have hres : zcmd inp p0 = (true, (zskip inp (zstr 2) p0).2, (114, 0, 0)) := by rw [hzc, hz]
      refine z_iconst hx hb dX4_readCommand_37 ?_
      exact z_zret hC hr hlk hZ rfl (by decide) (by decide) ((Or.inl ⟨by rw [hres], rfl, ((zko.refl : zko [a] F F).up (by simp)), by rw [hres]; exact hf_68⟩)) dX4_readCommand_38
  · skip
    have hj5 : 3 < 5 := by decide
    have hj6 : 3 < 5 := by decide
    rw [hjk]
    have hzc := zcmd_n hjk (by decide)
    have hPb := zskip_ok (inp := inp) (zstr 3) p0 (zstr_ne 3) hp0.1 hp0.2
    have hzl : 5 ≤ (zstr 3).length ∧ (zstr 3).length ≤ 6 := by decide
    refine lv_astore_n (lv' := [(2, .ref (cs (20 + 3))), (0, .ref a), (1, .ref b)]) hx hb dX4_readCommand_5 rfl hl (by decide) rfl (fun ls hl => ?_)
    refine lv_aload_n hx hb dX4_readCommand_6 rfl (lv_at hl 0 rfl) ?_
    refine lv_aload_n hx hb dX4_readCommand_7 rfl (lv_at hl 2 rfl) ?_
    refine lv_aload_n hx hb dX4_readCommand_8 rfl (lv_at hl 1 rfl) ?_
    refine z_get (T := TX4) (N := 2) (ci := 8) (k := 1) (fs := [.ref cl, .int (iI p0)]) (v := .int (iI p0)) hC hZ in_X4 rfl (by decide) ql_X4_18 rfl h0 rfl dX4_readCommand_9 ?_
    refine z_calli (z_runO (rest := []) (As := [.ref b, .int (iI p0)]) (n := 2) hC hZ (met_X7_countShared l D cs A F 3 b sg inp p0 hj5 hb1 (by omega)) gv_X4_42 hd_X7_countShared (kw_o hj5) rfl hl rfl (Nat.le_of_ble_eq_true rfl) ⟨Nat.le_of_ble_eq_true rfl, Nat.le_of_ble_eq_true rfl⟩ ⟨Nat.le_of_ble_eq_true rfl, Nat.le_of_ble_eq_true rfl⟩ dX4_readCommand_12) hZ (fun r12 F12 H locs hp_86 hZ => ?_)
    obtain ⟨rfl, hp_86⟩ := hp_86
    have hc12 := hp_86
    refine lv_istore_n (lv' := [(3, .int (iI r12)), (2, .ref (cs (20 + 3))), (0, .ref a), (1, .ref b)]) hx hb dX4_readCommand_15 rfl hl (by decide) rfl (fun ls hl => ?_)
    refine lv_aload_n hx hb dX4_readCommand_16 rfl (lv_at hl 2 rfl) ?_
    refine lv_dup hx hb dX4_readCommand_17 rfl ?_
    refine z_get (T := TX4) (N := 2) (ci := 8) (k := 1) (fs := [.ref cl, .int (iI p0)]) (v := .int (iI p0)) hC hZ in_X4 rfl (by decide) ql_X4_18 rfl h0 rfl dX4_readCommand_18 ?_
    refine lv_iload_n hx hb dX4_readCommand_21 rfl (lv_at hl 0 rfl) ?_
    refine z_iadd hx hb dX4_readCommand_22 ?_
    refine z_top (y := (zskip inp (zstr 3) p0).2) (by have := hc12.1; unfold cnt at this; omega) ?_
    refine z_put (T := TX4) (N := 2) (ci := 8) (k := 1) (fs := [.ref cl, .int (iI p0)]) (v := .int (iI ((zskip inp (zstr 3) p0).2))) hC hZ tyX4 tyX4_ok nmX4 in_X4 rfl (by decide) ql_X4_18 rfl (Or.inl rfl) rfl h0 (by show 1 < 2; decide) rfl rfl dX4_readCommand_23 (fun H locs hZ => ?_)
    have hf_87 : (zup F a (.inr (8, [.ref cl, .int (iI ((zskip inp (zstr 3) p0).2))]))) b = some (.inr (6, [.ref sg, .int (iI (inp.length : Int))])) := zup_k (zne b0 h0 (fun q => by cases q)) b0
    have hf_88 : (zup F a (.inr (8, [.ref cl, .int (iI ((zskip inp (zstr 3) p0).2))]))) sg = some (zA (cs 1) 60 fb_) := zup_k (zne b1 h0 (fun q => by cases q)) b1
    have hf_89 : (zup F a (.inr (8, [.ref cl, .int (iI ((zskip inp (zstr 3) p0).2))]))) a = some (.inr (8, [.ref cl, .int (iI ((zskip inp (zstr 3) p0).2))])) := zup_s
    replace hZ : zS D A s (zup F a (.inr (8, [.ref cl, .int (iI ((zskip inp (zstr 3) p0).2))]))) _ _ := hZ
    refine lv_iload_n hx hb dX4_readCommand_26 rfl (lv_at hl 0 rfl) ?_
    refine lv_aload_n hx hb dX4_readCommand_27 rfl (lv_at hl 1 rfl) ?_
    refine z_getON (v := .ref (cs (30 + 3))) hC hZ (kw_l hj5) ql_X4_48 rfl dX4_readCommand_28 ?_
    refine z_calli (z_runO (rest := [.int (iI r12)]) (As := []) (n := 0) hC hZ (met_J0_length_8abf5 l D cs A (zup F a (.inr (8, [.ref cl, .int (iI ((zskip inp (zstr 3) p0).2))]))) 3 hj6) gv_X4_52 hd_J0_length_8abf5 (zstr_o hj6) rfl hl rfl (Nat.le_of_ble_eq_true rfl) ⟨Nat.le_of_ble_eq_true rfl, Nat.le_of_ble_eq_true rfl⟩ ⟨Nat.le_of_ble_eq_true rfl, Nat.le_of_ble_eq_true rfl⟩ dX4_readCommand_31) hZ (fun r31 _ H locs hp31 hZ => ?_)
    obtain ⟨rfl, rfl⟩ := hp31
    refine z_icmp_ge (tgt := 39) hx hb dX4_readCommand_34 (by decide) (by omega) (by omega) (fun c_90 => ?_) (fun c_90 => ?_)
    · skip
      have hz : zskip inp (zstr 3) p0 = (false, p0 + r12) := hc12.2.2.elim (fun z => absurd z.1 (by omega)) (fun z => z.2)
      have hzq : (zskip inp (zstr 3) p0).2 = p0 + r12 := by rw [hz]
      have hpl : p0 < inp.length := by omega
      have hzn := znum_f hz
      refine lv_aload_n hx hb dX4_readCommand_39 rfl (lv_at hl 1 rfl) ?_
      refine z_getON (v := .int (iI 1)) hC hZ (kw_n hj5) ql_X4_57 rfl dX4_readCommand_40 ?_
      refine z_iconst hx hb dX4_readCommand_43 ?_
      refine z_icmp_lt (tgt := 55) hx hb dX4_readCommand_44 (by decide) (by decide) (by decide) (fun c_91 => ?_) (fun c_91 => ?_)
      · skip
        exfalso; omega
      · skip
        refine lv_aload_n hx hb dX4_readCommand_47 rfl (lv_at hl 2 rfl) ?_
        refine lv_aload_n hx hb dX4_readCommand_48 rfl (lv_at hl 3 rfl) ?_
        refine z_calli (z_runV (rest := []) (As := [.ref b]) (n := 1) (ci := 8) hC hZ (met_X4_readNumber l D cs A (zup F a (.inr (8, [.ref cl, .int (iI ((zskip inp (zstr 3) p0).2))]))) a cl b sg inp ((zskip inp (zstr 3) p0).2) hf_89 (hb1.keep (((zko.refl : zko [a] F F).up (by simp))) (zni1 nba zni0) (zni1 nsa zni0)) (by omega)) gv_X4_60 hd_X4_readNumber rfl hf_89 rfl hl rfl (Nat.le_of_ble_eq_true rfl) ⟨Nat.le_of_ble_eq_true rfl, Nat.le_of_ble_eq_true rfl⟩ ⟨Nat.le_of_ble_eq_true rfl, Nat.le_of_ble_eq_true rfl⟩ dX4_readCommand_49) hZ (fun r49 F49 H locs hp49_c_92 hZ => ?_)
        rcases hp49_c_92 with ⟨hzz49, rfl, rfl⟩ | ⟨z49, ⟨hza49, hzb49⟩, rfl, hzr49, rfl⟩
        · skip
          have hzt49 := zdg_t hzz49
          have hres : zcmd inp p0 = (true, (zskip inp (zstr 3) p0).2, (kwc 3, 0, 0)) := by rw [hzc, hzn, hzt49]
          refine lv_goto (tgt := 56) hx hb dX4_readCommand_52 (by decide) ?_
          refine lv_istore (lv' := [(4, .int (iI (-1))), (3, .int (iI r12)), (2, .ref (cs (20 + 3))), (0, .ref a), (1, .ref b)]) hx hb dX4_readCommand_56 hl (by decide) rfl (fun ls hl => ?_)
          refine lv_iload hx hb dX4_readCommand_58 (lv_at hl 0 rfl) ?_
          refine z_iconst hx hb dX4_readCommand_60 ?_
          refine z_icmp_eq (tgt := 82) hx hb dX4_readCommand_61 (by decide) (by decide) (by decide) (fun c_93 => ?_) (fun c_93 => ?_)
          · skip
            refine z_iconst hx hb dX4_readCommand_82 ?_
            exact z_zret hC hr hlk hZ rfl (by decide) (by decide) ((Or.inl ⟨by rw [hres], rfl, ((zko.refl : zko [a] F F).up (by simp)), by rw [hres]; exact hf_89⟩)) dX4_readCommand_83
          · skip
            exfalso; omega
        · skip
          rw [zup_up] at hZ
          have hf_94 : (zup F a (.inr (8, [.ref cl, .int (iI ((zdg inp ((zskip inp (zstr 3) p0).2)).2.1))]))) b = some (.inr (6, [.ref sg, .int (iI (inp.length : Int))])) := zup_k (zne b0 h0 (fun q => by cases q)) b0
          have hf_95 : (zup F a (.inr (8, [.ref cl, .int (iI ((zdg inp ((zskip inp (zstr 3) p0).2)).2.1))]))) sg = some (zA (cs 1) 60 fb_) := zup_k (zne b1 h0 (fun q => by cases q)) b1
          have hf_96 : (zup F a (.inr (8, [.ref cl, .int (iI ((zdg inp ((zskip inp (zstr 3) p0).2)).2.1))]))) a = some (.inr (8, [.ref cl, .int (iI ((zdg inp ((zskip inp (zstr 3) p0).2)).2.1))])) := zup_s
          replace hZ : zS D A s (zup F a (.inr (8, [.ref cl, .int (iI ((zdg inp ((zskip inp (zstr 3) p0).2)).2.1))]))) _ _ := hZ
          have hok49 := zdg_ok (inp := inp) (q := (zskip inp (zstr 3) p0).2) (by omega) (by omega)
          have hres : zcmd inp p0 = (false, (zdg inp ((zskip inp (zstr 3) p0).2)).2.1, (kwc 3, r49, 0)) := by rw [hzc, hzn, hza49, hzb49]
          refine lv_goto (tgt := 56) hx hb dX4_readCommand_52 (by decide) ?_
          refine lv_istore (lv' := [(4, .int (iI r49)), (3, .int (iI r12)), (2, .ref (cs (20 + 3))), (0, .ref a), (1, .ref b)]) hx hb dX4_readCommand_56 hl (by decide) rfl (fun ls hl => ?_)
          refine lv_iload hx hb dX4_readCommand_58 (lv_at hl 0 rfl) ?_
          refine z_iconst hx hb dX4_readCommand_60 ?_
          refine z_icmp_eq (tgt := 82) hx hb dX4_readCommand_61 (by decide) (by omega) (by decide) (fun c_97 => ?_) (fun c_97 => ?_)
          · skip
            exfalso; omega
          · skip
            refine lv_aload_n hx hb dX4_readCommand_64 rfl (lv_at hl 2 rfl) ?_
            refine z_getON (v := .int (iI 1)) hC hZ (kw_n hj5) ql_X4_57 rfl dX4_readCommand_65 ?_
            refine z_iconst hx hb dX4_readCommand_68 ?_
            refine z_icmp_lt (tgt := 84) hx hb dX4_readCommand_69 (by decide) (by decide) (by decide) (fun c_98 => ?_) (fun c_98 => ?_)
            · skip
              refine lv_aload_n hx hb dX4_readCommand_84 rfl (lv_at hl 2 rfl) ?_
              refine z_getON (v := .int (iI 1)) hC hZ (kw_n hj5) ql_X4_57 rfl dX4_readCommand_85 ?_
              refine z_iconst hx hb dX4_readCommand_88 ?_
              refine z_icmp_lt (tgt := 100) hx hb dX4_readCommand_89 (by decide) (by decide) (by decide) (fun c_99 => ?_) (fun c_99 => ?_)
              · skip
                refine z_iconst hx hb dX4_readCommand_100 ?_
                refine lv_istore (lv' := [(5, .int (iI 0)), (4, .int (iI r49)), (3, .int (iI r12)), (2, .ref (cs (20 + 3))), (0, .ref a), (1, .ref b)]) hx hb dX4_readCommand_101 hl (by decide) rfl (fun ls hl => ?_)
                refine lv_iload hx hb dX4_readCommand_103 (lv_at hl 0 rfl) ?_
                refine z_iconst hx hb dX4_readCommand_105 ?_
                refine z_icmp_ne (tgt := 111) hx hb dX4_readCommand_106 (by decide) (by decide) (by decide) (fun c_100 => ?_) (fun c_100 => ?_)
                · skip
                  refine lv_aload_n hx hb dX4_readCommand_111 rfl (lv_at hl 4 rfl) ?_
                  refine z_get (T := TX4) (N := 2) (ci := 8) (k := 0) (fs := [.ref cl, .int (iI ((zdg inp ((zskip inp (zstr 3) p0).2)).2.1))]) (v := .ref cl) hC hZ in_X4 rfl (by decide) ql_X4_12 rfl hf_96 rfl dX4_readCommand_112 ?_
                  refine z_new (T := TX3) (N := 3) (ci := 7) hC hZ tyX3 tyX3_ok in_X3 rfl qk_X4_64 qx_X3 qn_X3 [.null, .int (iI 0), .int (iI 0)] df_X3 (Nat.le_of_ble_eq_true rfl) (Nat.le_of_ble_eq_true rfl) dX4_readCommand_115 (fun q115 H hq115 hZ => ?_)
                  have hf_101 : (zup (zup F a (.inr (8, [.ref cl, .int (iI ((zdg inp ((zskip inp (zstr 3) p0).2)).2.1))]))) q115 (.inr (7, [.null, .int (iI 0), .int (iI 0)]))) b = some (.inr (6, [.ref sg, .int (iI (inp.length : Int))])) := zup_k (zF_ne hf_94 hq115.1) hf_94
                  have hf_102 : (zup (zup F a (.inr (8, [.ref cl, .int (iI ((zdg inp ((zskip inp (zstr 3) p0).2)).2.1))]))) q115 (.inr (7, [.null, .int (iI 0), .int (iI 0)]))) sg = some (zA (cs 1) 60 fb_) := zup_k (zF_ne hf_95 hq115.1) hf_95
                  have hf_103 : (zup (zup F a (.inr (8, [.ref cl, .int (iI ((zdg inp ((zskip inp (zstr 3) p0).2)).2.1))]))) q115 (.inr (7, [.null, .int (iI 0), .int (iI 0)]))) a = some (.inr (8, [.ref cl, .int (iI ((zdg inp ((zskip inp (zstr 3) p0).2)).2.1))])) := zup_k (zF_ne hf_96 hq115.1) hf_96
                  have hf_104 : (zup (zup F a (.inr (8, [.ref cl, .int (iI ((zdg inp ((zskip inp (zstr 3) p0).2)).2.1))]))) q115 (.inr (7, [.null, .int (iI 0), .int (iI 0)]))) q115 = some (.inr (7, [.null, .int (iI 0), .int (iI 0)])) := zup_s
                  replace hZ : zS D A s (zup (zup F a (.inr (8, [.ref cl, .int (iI ((zdg inp ((zskip inp (zstr 3) p0).2)).2.1))]))) q115 (.inr (7, [.null, .int (iI 0), .int (iI 0)]))) _ _ := hZ
                  refine lv_dup hx hb dX4_readCommand_118 rfl ?_
                  refine lv_aload_n hx hb dX4_readCommand_119 rfl (lv_at hl 3 rfl) ?_
                  refine lv_iload hx hb dX4_readCommand_120 (lv_at hl 1 rfl) ?_
                  refine lv_iload hx hb dX4_readCommand_122 (lv_at hl 0 rfl) ?_
                  refine z_callv (z_runI (rest := [.ref q115, .ref cl]) (As := [.ref (cs (20 + 3)), .int (iI r49), .int (iI 0)]) (n := 3) hC hZ (met_X3_init l D cs A (zup (zup F a (.inr (8, [.ref cl, .int (iI ((zdg inp ((zskip inp (zstr 3) p0).2)).2.1))]))) q115 (.inr (7, [.null, .int (iI 0), .int (iI 0)]))) q115 (cs (20 + 3)) r49 0 hf_104) qc_X3_init qn_X3 qm_X4_66 qi_X3_init rfl he_X3_init rfl hl rfl (Nat.le_of_ble_eq_true rfl) ⟨Nat.le_of_ble_eq_true rfl, Nat.le_of_ble_eq_true rfl⟩ ⟨Nat.le_of_ble_eq_true rfl, Nat.le_of_ble_eq_true rfl⟩ dX4_readCommand_124) hZ (fun F124 H locs hp124_c_105 hZ => ?_)
                  obtain rfl := hp124_c_105
                  rw [zup_up] at hZ
                  have hf_106 : (zup (zup F a (.inr (8, [.ref cl, .int (iI ((zdg inp ((zskip inp (zstr 3) p0).2)).2.1))]))) q115 (.inr (7, [.ref (cs (20 + 3)), .int (iI r49), .int (iI 0)]))) b = some (.inr (6, [.ref sg, .int (iI (inp.length : Int))])) := zup_k (zF_ne hf_94 hq115.1) hf_94
                  have hf_107 : (zup (zup F a (.inr (8, [.ref cl, .int (iI ((zdg inp ((zskip inp (zstr 3) p0).2)).2.1))]))) q115 (.inr (7, [.ref (cs (20 + 3)), .int (iI r49), .int (iI 0)]))) sg = some (zA (cs 1) 60 fb_) := zup_k (zF_ne hf_95 hq115.1) hf_95
                  have hf_108 : (zup (zup F a (.inr (8, [.ref cl, .int (iI ((zdg inp ((zskip inp (zstr 3) p0).2)).2.1))]))) q115 (.inr (7, [.ref (cs (20 + 3)), .int (iI r49), .int (iI 0)]))) a = some (.inr (8, [.ref cl, .int (iI ((zdg inp ((zskip inp (zstr 3) p0).2)).2.1))])) := zup_k (zF_ne hf_96 hq115.1) hf_96
                  have hf_109 : (zup (zup F a (.inr (8, [.ref cl, .int (iI ((zdg inp ((zskip inp (zstr 3) p0).2)).2.1))]))) q115 (.inr (7, [.ref (cs (20 + 3)), .int (iI r49), .int (iI 0)]))) q115 = some (.inr (7, [.ref (cs (20 + 3)), .int (iI r49), .int (iI 0)])) := zup_s
                  replace hZ : zS D A s (zup (zup F a (.inr (8, [.ref cl, .int (iI ((zdg inp ((zskip inp (zstr 3) p0).2)).2.1))]))) q115 (.inr (7, [.ref (cs (20 + 3)), .int (iI r49), .int (iI 0)]))) _ _ := hZ
                  have hk3 : zko [a] F (zup (zup F a (.inr (8, [.ref cl, .int (iI ((zdg inp ((zskip inp (zstr 3) p0).2)).2.1))]))) q115 (.inr (7, [.ref (cs (20 + 3)), .int (iI r49), .int (iI 0)]))) := (((zko.refl : zko [a] F F).up (by simp)).new hq115.1)
                  have hcl3 := hcl.keepB hk3 (fun o ho => by rw [List.mem_singleton.mp ho]; exact ⟨8, _, h0, by decide⟩)
                  have h83 := z_c8 hC hZ
                  obtain ⟨fcl3, hcl3o⟩ := hcl3.o
                  have hx3 := hf_109
                  have ha3 := hf_108
                  have hn115 : F q115 = none := (zup_none hq115.1)
                  obtain ⟨fsho_110, ho_110⟩ := (hcl3).o
                  refine z_calli (z_runV (rest := []) (As := [.ref q115]) (n := 1) (ci := 4) hC hZ (met_Jx4a65c_add_9ea2d l D cs A (zup (zup F a (.inr (8, [.ref cl, .int (iI ((zdg inp ((zskip inp (zstr 3) p0).2)).2.1))]))) q115 (.inr (7, [.ref (cs (20 + 3)), .int (iI r49), .int (iI 0)]))) cl arr L q115 hcl3 (hL hpl) ⟨7, 3, RX3, TX3, _, hx3, rfl, q_2179⟩ (zneK hx3 hcl3o (by show 1000000 + 7 ≠ 1000000 + 4; decide))) gv_X4_69 hd_Jx4a65c_add_9ea2d rfl ho_110 rfl hl rfl (Nat.le_of_ble_eq_true rfl) ⟨Nat.le_of_ble_eq_true rfl, Nat.le_of_ble_eq_true rfl⟩ ⟨Nat.le_of_ble_eq_true rfl, Nat.le_of_ble_eq_true rfl⟩ dX4_readCommand_127) hZ (fun r127 F127 H locs hp127_c_111 hZ => ?_)
                  obtain ⟨hr127, arr1, ha127, hk127, hl127⟩ := hp127_c_111
                  subst hr127
                  refine lv_pop hx hb dX4_readCommand_130 rfl ?_
                  refine z_iconst hx hb dX4_readCommand_131 ?_
                  exact z_zret hC hr hlk hZ rfl (by decide) (by decide) ((Or.inr ⟨by rw [hres], rfl, arr1, q115, (hk3.sub (fun q hq => by rw [List.mem_singleton.mp hq]; simp)).tr hk127 (fun q hq => Or.inl (List.mem_cons_of_mem _ hq)), ha127.imp_right (fun z => hk3.nnk (fun o ho => by rw [List.mem_singleton.mp ho, ha3]; exact fun y => by cases y) z), by rw [hres]; exact hk127 _ _ ha3 (zni1 (zneK ha3 hcl3o (by show 1000000 + 8 ≠ 1000000 + 4; decide)) (zni1 (hcl3.ne ha3 h83) zni0)), hl127, hn115, 3, by decide, (by rw [hres] <;> rfl), by rw [hres]; exact hk127 _ _ hx3 (zni1 (zneK hx3 hcl3o (by show 1000000 + 7 ≠ 1000000 + 4; decide)) (zni1 (hcl3.ne hx3 h83) zni0))⟩)) dX4_readCommand_132
                · skip
                  exfalso; omega
              · skip
                exfalso; omega
            · skip
              exfalso; omega
    · skip
      have hz : zskip inp (zstr 3) p0 = (true, p0 + r12) := hc12.2.2.elim (fun z => z.2) (fun z => absurd z.1 (by omega))
      have hres : zcmd inp p0 = (true, (zskip inp (zstr 3) p0).2, (kwc 3, 0, 0)) := by rw [hzc, znum_t hz]
      refine z_iconst hx hb dX4_readCommand_37 ?_
      exact z_zret hC hr hlk hZ rfl (by decide) (by decide) ((Or.inl ⟨by rw [hres], rfl, ((zko.refl : zko [a] F F).up (by simp)), by rw [hres]; exact hf_89⟩)) dX4_readCommand_38
  · skip
    have hj5 : 4 < 5 := by decide
    have hj6 : 4 < 5 := by decide
    rw [hjk]
    have hzc := zcmd_n hjk (by decide)
    have hPb := zskip_ok (inp := inp) (zstr 4) p0 (zstr_ne 4) hp0.1 hp0.2
    have hzl : 5 ≤ (zstr 4).length ∧ (zstr 4).length ≤ 6 := by decide
    refine lv_astore_n (lv' := [(2, .ref (cs (20 + 4))), (0, .ref a), (1, .ref b)]) hx hb dX4_readCommand_5 rfl hl (by decide) rfl (fun ls hl => ?_)
    refine lv_aload_n hx hb dX4_readCommand_6 rfl (lv_at hl 0 rfl) ?_
    refine lv_aload_n hx hb dX4_readCommand_7 rfl (lv_at hl 2 rfl) ?_
    refine lv_aload_n hx hb dX4_readCommand_8 rfl (lv_at hl 1 rfl) ?_
    refine z_get (T := TX4) (N := 2) (ci := 8) (k := 1) (fs := [.ref cl, .int (iI p0)]) (v := .int (iI p0)) hC hZ in_X4 rfl (by decide) ql_X4_18 rfl h0 rfl dX4_readCommand_9 ?_
    refine z_calli (z_runO (rest := []) (As := [.ref b, .int (iI p0)]) (n := 2) hC hZ (met_X7_countShared l D cs A F 4 b sg inp p0 hj5 hb1 (by omega)) gv_X4_42 hd_X7_countShared (kw_o hj5) rfl hl rfl (Nat.le_of_ble_eq_true rfl) ⟨Nat.le_of_ble_eq_true rfl, Nat.le_of_ble_eq_true rfl⟩ ⟨Nat.le_of_ble_eq_true rfl, Nat.le_of_ble_eq_true rfl⟩ dX4_readCommand_12) hZ (fun r12 F12 H locs hp_112 hZ => ?_)
    obtain ⟨rfl, hp_112⟩ := hp_112
    have hc12 := hp_112
    refine lv_istore_n (lv' := [(3, .int (iI r12)), (2, .ref (cs (20 + 4))), (0, .ref a), (1, .ref b)]) hx hb dX4_readCommand_15 rfl hl (by decide) rfl (fun ls hl => ?_)
    refine lv_aload_n hx hb dX4_readCommand_16 rfl (lv_at hl 2 rfl) ?_
    refine lv_dup hx hb dX4_readCommand_17 rfl ?_
    refine z_get (T := TX4) (N := 2) (ci := 8) (k := 1) (fs := [.ref cl, .int (iI p0)]) (v := .int (iI p0)) hC hZ in_X4 rfl (by decide) ql_X4_18 rfl h0 rfl dX4_readCommand_18 ?_
    refine lv_iload_n hx hb dX4_readCommand_21 rfl (lv_at hl 0 rfl) ?_
    refine z_iadd hx hb dX4_readCommand_22 ?_
    refine z_top (y := (zskip inp (zstr 4) p0).2) (by have := hc12.1; unfold cnt at this; omega) ?_
    refine z_put (T := TX4) (N := 2) (ci := 8) (k := 1) (fs := [.ref cl, .int (iI p0)]) (v := .int (iI ((zskip inp (zstr 4) p0).2))) hC hZ tyX4 tyX4_ok nmX4 in_X4 rfl (by decide) ql_X4_18 rfl (Or.inl rfl) rfl h0 (by show 1 < 2; decide) rfl rfl dX4_readCommand_23 (fun H locs hZ => ?_)
    have hf_113 : (zup F a (.inr (8, [.ref cl, .int (iI ((zskip inp (zstr 4) p0).2))]))) b = some (.inr (6, [.ref sg, .int (iI (inp.length : Int))])) := zup_k (zne b0 h0 (fun q => by cases q)) b0
    have hf_114 : (zup F a (.inr (8, [.ref cl, .int (iI ((zskip inp (zstr 4) p0).2))]))) sg = some (zA (cs 1) 60 fb_) := zup_k (zne b1 h0 (fun q => by cases q)) b1
    have hf_115 : (zup F a (.inr (8, [.ref cl, .int (iI ((zskip inp (zstr 4) p0).2))]))) a = some (.inr (8, [.ref cl, .int (iI ((zskip inp (zstr 4) p0).2))])) := zup_s
    replace hZ : zS D A s (zup F a (.inr (8, [.ref cl, .int (iI ((zskip inp (zstr 4) p0).2))]))) _ _ := hZ
    refine lv_iload_n hx hb dX4_readCommand_26 rfl (lv_at hl 0 rfl) ?_
    refine lv_aload_n hx hb dX4_readCommand_27 rfl (lv_at hl 1 rfl) ?_
    refine z_getON (v := .ref (cs (30 + 4))) hC hZ (kw_l hj5) ql_X4_48 rfl dX4_readCommand_28 ?_
    refine z_calli (z_runO (rest := [.int (iI r12)]) (As := []) (n := 0) hC hZ (met_J0_length_8abf5 l D cs A (zup F a (.inr (8, [.ref cl, .int (iI ((zskip inp (zstr 4) p0).2))]))) 4 hj6) gv_X4_52 hd_J0_length_8abf5 (zstr_o hj6) rfl hl rfl (Nat.le_of_ble_eq_true rfl) ⟨Nat.le_of_ble_eq_true rfl, Nat.le_of_ble_eq_true rfl⟩ ⟨Nat.le_of_ble_eq_true rfl, Nat.le_of_ble_eq_true rfl⟩ dX4_readCommand_31) hZ (fun r31 _ H locs hp31 hZ => ?_)
    obtain ⟨rfl, rfl⟩ := hp31
    refine z_icmp_ge (tgt := 39) hx hb dX4_readCommand_34 (by decide) (by omega) (by omega) (fun c_116 => ?_) (fun c_116 => ?_)
    · skip
      have hz : zskip inp (zstr 4) p0 = (false, p0 + r12) := hc12.2.2.elim (fun z => absurd z.1 (by omega)) (fun z => z.2)
      have hzq : (zskip inp (zstr 4) p0).2 = p0 + r12 := by rw [hz]
      have hpl : p0 < inp.length := by omega
      have hzn := znum_f hz
      refine lv_aload_n hx hb dX4_readCommand_39 rfl (lv_at hl 1 rfl) ?_
      refine z_getON (v := .int (iI 1)) hC hZ (kw_n hj5) ql_X4_57 rfl dX4_readCommand_40 ?_
      refine z_iconst hx hb dX4_readCommand_43 ?_
      refine z_icmp_lt (tgt := 55) hx hb dX4_readCommand_44 (by decide) (by decide) (by decide) (fun c_117 => ?_) (fun c_117 => ?_)
      · skip
        exfalso; omega
      · skip
        refine lv_aload_n hx hb dX4_readCommand_47 rfl (lv_at hl 2 rfl) ?_
        refine lv_aload_n hx hb dX4_readCommand_48 rfl (lv_at hl 3 rfl) ?_
        refine z_calli (z_runV (rest := []) (As := [.ref b]) (n := 1) (ci := 8) hC hZ (met_X4_readNumber l D cs A (zup F a (.inr (8, [.ref cl, .int (iI ((zskip inp (zstr 4) p0).2))]))) a cl b sg inp ((zskip inp (zstr 4) p0).2) hf_115 (hb1.keep (((zko.refl : zko [a] F F).up (by simp))) (zni1 nba zni0) (zni1 nsa zni0)) (by omega)) gv_X4_60 hd_X4_readNumber rfl hf_115 rfl hl rfl (Nat.le_of_ble_eq_true rfl) ⟨Nat.le_of_ble_eq_true rfl, Nat.le_of_ble_eq_true rfl⟩ ⟨Nat.le_of_ble_eq_true rfl, Nat.le_of_ble_eq_true rfl⟩ dX4_readCommand_49) hZ (fun r49 F49 H locs hp49_c_118 hZ => ?_)
        rcases hp49_c_118 with ⟨hzz49, rfl, rfl⟩ | ⟨z49, ⟨hza49, hzb49⟩, rfl, hzr49, rfl⟩
        · skip
          have hzt49 := zdg_t hzz49
          have hres : zcmd inp p0 = (true, (zskip inp (zstr 4) p0).2, (kwc 4, 0, 0)) := by rw [hzc, hzn, hzt49]
          refine lv_goto (tgt := 56) hx hb dX4_readCommand_52 (by decide) ?_
          refine lv_istore (lv' := [(4, .int (iI (-1))), (3, .int (iI r12)), (2, .ref (cs (20 + 4))), (0, .ref a), (1, .ref b)]) hx hb dX4_readCommand_56 hl (by decide) rfl (fun ls hl => ?_)
          refine lv_iload hx hb dX4_readCommand_58 (lv_at hl 0 rfl) ?_
          refine z_iconst hx hb dX4_readCommand_60 ?_
          refine z_icmp_eq (tgt := 82) hx hb dX4_readCommand_61 (by decide) (by decide) (by decide) (fun c_119 => ?_) (fun c_119 => ?_)
          · skip
            refine z_iconst hx hb dX4_readCommand_82 ?_
            exact z_zret hC hr hlk hZ rfl (by decide) (by decide) ((Or.inl ⟨by rw [hres], rfl, ((zko.refl : zko [a] F F).up (by simp)), by rw [hres]; exact hf_115⟩)) dX4_readCommand_83
          · skip
            exfalso; omega
        · skip
          rw [zup_up] at hZ
          have hf_120 : (zup F a (.inr (8, [.ref cl, .int (iI ((zdg inp ((zskip inp (zstr 4) p0).2)).2.1))]))) b = some (.inr (6, [.ref sg, .int (iI (inp.length : Int))])) := zup_k (zne b0 h0 (fun q => by cases q)) b0
          have hf_121 : (zup F a (.inr (8, [.ref cl, .int (iI ((zdg inp ((zskip inp (zstr 4) p0).2)).2.1))]))) sg = some (zA (cs 1) 60 fb_) := zup_k (zne b1 h0 (fun q => by cases q)) b1
          have hf_122 : (zup F a (.inr (8, [.ref cl, .int (iI ((zdg inp ((zskip inp (zstr 4) p0).2)).2.1))]))) a = some (.inr (8, [.ref cl, .int (iI ((zdg inp ((zskip inp (zstr 4) p0).2)).2.1))])) := zup_s
          replace hZ : zS D A s (zup F a (.inr (8, [.ref cl, .int (iI ((zdg inp ((zskip inp (zstr 4) p0).2)).2.1))]))) _ _ := hZ
          have hok49 := zdg_ok (inp := inp) (q := (zskip inp (zstr 4) p0).2) (by omega) (by omega)
          have hres : zcmd inp p0 = (false, (zdg inp ((zskip inp (zstr 4) p0).2)).2.1, (kwc 4, r49, 0)) := by rw [hzc, hzn, hza49, hzb49]
          refine lv_goto (tgt := 56) hx hb dX4_readCommand_52 (by decide) ?_
          refine lv_istore (lv' := [(4, .int (iI r49)), (3, .int (iI r12)), (2, .ref (cs (20 + 4))), (0, .ref a), (1, .ref b)]) hx hb dX4_readCommand_56 hl (by decide) rfl (fun ls hl => ?_)
          refine lv_iload hx hb dX4_readCommand_58 (lv_at hl 0 rfl) ?_
          refine z_iconst hx hb dX4_readCommand_60 ?_
          refine z_icmp_eq (tgt := 82) hx hb dX4_readCommand_61 (by decide) (by omega) (by decide) (fun c_123 => ?_) (fun c_123 => ?_)
          · skip
            exfalso; omega
          · skip
            refine lv_aload_n hx hb dX4_readCommand_64 rfl (lv_at hl 2 rfl) ?_
            refine z_getON (v := .int (iI 1)) hC hZ (kw_n hj5) ql_X4_57 rfl dX4_readCommand_65 ?_
            refine z_iconst hx hb dX4_readCommand_68 ?_
            refine z_icmp_lt (tgt := 84) hx hb dX4_readCommand_69 (by decide) (by decide) (by decide) (fun c_124 => ?_) (fun c_124 => ?_)
            · skip
              refine lv_aload_n hx hb dX4_readCommand_84 rfl (lv_at hl 2 rfl) ?_
              refine z_getON (v := .int (iI 1)) hC hZ (kw_n hj5) ql_X4_57 rfl dX4_readCommand_85 ?_
              refine z_iconst hx hb dX4_readCommand_88 ?_
              refine z_icmp_lt (tgt := 100) hx hb dX4_readCommand_89 (by decide) (by decide) (by decide) (fun c_125 => ?_) (fun c_125 => ?_)
              · skip
                refine z_iconst hx hb dX4_readCommand_100 ?_
                refine lv_istore (lv' := [(5, .int (iI 0)), (4, .int (iI r49)), (3, .int (iI r12)), (2, .ref (cs (20 + 4))), (0, .ref a), (1, .ref b)]) hx hb dX4_readCommand_101 hl (by decide) rfl (fun ls hl => ?_)
                refine lv_iload hx hb dX4_readCommand_103 (lv_at hl 0 rfl) ?_
                refine z_iconst hx hb dX4_readCommand_105 ?_
                refine z_icmp_ne (tgt := 111) hx hb dX4_readCommand_106 (by decide) (by decide) (by decide) (fun c_126 => ?_) (fun c_126 => ?_)
                · skip
                  refine lv_aload_n hx hb dX4_readCommand_111 rfl (lv_at hl 4 rfl) ?_
                  refine z_get (T := TX4) (N := 2) (ci := 8) (k := 0) (fs := [.ref cl, .int (iI ((zdg inp ((zskip inp (zstr 4) p0).2)).2.1))]) (v := .ref cl) hC hZ in_X4 rfl (by decide) ql_X4_12 rfl hf_122 rfl dX4_readCommand_112 ?_
                  refine z_new (T := TX3) (N := 3) (ci := 7) hC hZ tyX3 tyX3_ok in_X3 rfl qk_X4_64 qx_X3 qn_X3 [.null, .int (iI 0), .int (iI 0)] df_X3 (Nat.le_of_ble_eq_true rfl) (Nat.le_of_ble_eq_true rfl) dX4_readCommand_115 (fun q115 H hq115 hZ => ?_)
                  have hf_127 : (zup (zup F a (.inr (8, [.ref cl, .int (iI ((zdg inp ((zskip inp (zstr 4) p0).2)).2.1))]))) q115 (.inr (7, [.null, .int (iI 0), .int (iI 0)]))) b = some (.inr (6, [.ref sg, .int (iI (inp.length : Int))])) := zup_k (zF_ne hf_120 hq115.1) hf_120
                  have hf_128 : (zup (zup F a (.inr (8, [.ref cl, .int (iI ((zdg inp ((zskip inp (zstr 4) p0).2)).2.1))]))) q115 (.inr (7, [.null, .int (iI 0), .int (iI 0)]))) sg = some (zA (cs 1) 60 fb_) := zup_k (zF_ne hf_121 hq115.1) hf_121
                  have hf_129 : (zup (zup F a (.inr (8, [.ref cl, .int (iI ((zdg inp ((zskip inp (zstr 4) p0).2)).2.1))]))) q115 (.inr (7, [.null, .int (iI 0), .int (iI 0)]))) a = some (.inr (8, [.ref cl, .int (iI ((zdg inp ((zskip inp (zstr 4) p0).2)).2.1))])) := zup_k (zF_ne hf_122 hq115.1) hf_122
                  have hf_130 : (zup (zup F a (.inr (8, [.ref cl, .int (iI ((zdg inp ((zskip inp (zstr 4) p0).2)).2.1))]))) q115 (.inr (7, [.null, .int (iI 0), .int (iI 0)]))) q115 = some (.inr (7, [.null, .int (iI 0), .int (iI 0)])) := zup_s
                  replace hZ : zS D A s (zup (zup F a (.inr (8, [.ref cl, .int (iI ((zdg inp ((zskip inp (zstr 4) p0).2)).2.1))]))) q115 (.inr (7, [.null, .int (iI 0), .int (iI 0)]))) _ _ := hZ
                  refine lv_dup hx hb dX4_readCommand_118 rfl ?_
                  refine lv_aload_n hx hb dX4_readCommand_119 rfl (lv_at hl 3 rfl) ?_
                  refine lv_iload hx hb dX4_readCommand_120 (lv_at hl 1 rfl) ?_
                  refine lv_iload hx hb dX4_readCommand_122 (lv_at hl 0 rfl) ?_
                  refine z_callv (z_runI (rest := [.ref q115, .ref cl]) (As := [.ref (cs (20 + 4)), .int (iI r49), .int (iI 0)]) (n := 3) hC hZ (met_X3_init l D cs A (zup (zup F a (.inr (8, [.ref cl, .int (iI ((zdg inp ((zskip inp (zstr 4) p0).2)).2.1))]))) q115 (.inr (7, [.null, .int (iI 0), .int (iI 0)]))) q115 (cs (20 + 4)) r49 0 hf_130) qc_X3_init qn_X3 qm_X4_66 qi_X3_init rfl he_X3_init rfl hl rfl (Nat.le_of_ble_eq_true rfl) ⟨Nat.le_of_ble_eq_true rfl, Nat.le_of_ble_eq_true rfl⟩ ⟨Nat.le_of_ble_eq_true rfl, Nat.le_of_ble_eq_true rfl⟩ dX4_readCommand_124) hZ (fun F124 H locs hp124_c_131 hZ => ?_)
                  obtain rfl := hp124_c_131
                  rw [zup_up] at hZ
                  have hf_132 : (zup (zup F a (.inr (8, [.ref cl, .int (iI ((zdg inp ((zskip inp (zstr 4) p0).2)).2.1))]))) q115 (.inr (7, [.ref (cs (20 + 4)), .int (iI r49), .int (iI 0)]))) b = some (.inr (6, [.ref sg, .int (iI (inp.length : Int))])) := zup_k (zF_ne hf_120 hq115.1) hf_120
                  have hf_133 : (zup (zup F a (.inr (8, [.ref cl, .int (iI ((zdg inp ((zskip inp (zstr 4) p0).2)).2.1))]))) q115 (.inr (7, [.ref (cs (20 + 4)), .int (iI r49), .int (iI 0)]))) sg = some (zA (cs 1) 60 fb_) := zup_k (zF_ne hf_121 hq115.1) hf_121
                  have hf_134 : (zup (zup F a (.inr (8, [.ref cl, .int (iI ((zdg inp ((zskip inp (zstr 4) p0).2)).2.1))]))) q115 (.inr (7, [.ref (cs (20 + 4)), .int (iI r49), .int (iI 0)]))) a = some (.inr (8, [.ref cl, .int (iI ((zdg inp ((zskip inp (zstr 4) p0).2)).2.1))])) := zup_k (zF_ne hf_122 hq115.1) hf_122
                  have hf_135 : (zup (zup F a (.inr (8, [.ref cl, .int (iI ((zdg inp ((zskip inp (zstr 4) p0).2)).2.1))]))) q115 (.inr (7, [.ref (cs (20 + 4)), .int (iI r49), .int (iI 0)]))) q115 = some (.inr (7, [.ref (cs (20 + 4)), .int (iI r49), .int (iI 0)])) := zup_s
                  replace hZ : zS D A s (zup (zup F a (.inr (8, [.ref cl, .int (iI ((zdg inp ((zskip inp (zstr 4) p0).2)).2.1))]))) q115 (.inr (7, [.ref (cs (20 + 4)), .int (iI r49), .int (iI 0)]))) _ _ := hZ
                  have hk3 : zko [a] F (zup (zup F a (.inr (8, [.ref cl, .int (iI ((zdg inp ((zskip inp (zstr 4) p0).2)).2.1))]))) q115 (.inr (7, [.ref (cs (20 + 4)), .int (iI r49), .int (iI 0)]))) := (((zko.refl : zko [a] F F).up (by simp)).new hq115.1)
                  have hcl3 := hcl.keepB hk3 (fun o ho => by rw [List.mem_singleton.mp ho]; exact ⟨8, _, h0, by decide⟩)
                  have h83 := z_c8 hC hZ
                  obtain ⟨fcl3, hcl3o⟩ := hcl3.o
                  have hx3 := hf_135
                  have ha3 := hf_134
                  have hn115 : F q115 = none := (zup_none hq115.1)
                  obtain ⟨fsho_136, ho_136⟩ := (hcl3).o
                  refine z_calli (z_runV (rest := []) (As := [.ref q115]) (n := 1) (ci := 4) hC hZ (met_Jx4a65c_add_9ea2d l D cs A (zup (zup F a (.inr (8, [.ref cl, .int (iI ((zdg inp ((zskip inp (zstr 4) p0).2)).2.1))]))) q115 (.inr (7, [.ref (cs (20 + 4)), .int (iI r49), .int (iI 0)]))) cl arr L q115 hcl3 (hL hpl) ⟨7, 3, RX3, TX3, _, hx3, rfl, q_2179⟩ (zneK hx3 hcl3o (by show 1000000 + 7 ≠ 1000000 + 4; decide))) gv_X4_69 hd_Jx4a65c_add_9ea2d rfl ho_136 rfl hl rfl (Nat.le_of_ble_eq_true rfl) ⟨Nat.le_of_ble_eq_true rfl, Nat.le_of_ble_eq_true rfl⟩ ⟨Nat.le_of_ble_eq_true rfl, Nat.le_of_ble_eq_true rfl⟩ dX4_readCommand_127) hZ (fun r127 F127 H locs hp127_c_137 hZ => ?_)
                  obtain ⟨hr127, arr1, ha127, hk127, hl127⟩ := hp127_c_137
                  subst hr127
                  refine lv_pop hx hb dX4_readCommand_130 rfl ?_
                  refine z_iconst hx hb dX4_readCommand_131 ?_
                  exact z_zret hC hr hlk hZ rfl (by decide) (by decide) ((Or.inr ⟨by rw [hres], rfl, arr1, q115, (hk3.sub (fun q hq => by rw [List.mem_singleton.mp hq]; simp)).tr hk127 (fun q hq => Or.inl (List.mem_cons_of_mem _ hq)), ha127.imp_right (fun z => hk3.nnk (fun o ho => by rw [List.mem_singleton.mp ho, ha3]; exact fun y => by cases y) z), by rw [hres]; exact hk127 _ _ ha3 (zni1 (zneK ha3 hcl3o (by show 1000000 + 8 ≠ 1000000 + 4; decide)) (zni1 (hcl3.ne ha3 h83) zni0)), hl127, hn115, 4, by decide, (by rw [hres] <;> rfl), by rw [hres]; exact hk127 _ _ hx3 (zni1 (zneK hx3 hcl3o (by show 1000000 + 7 ≠ 1000000 + 4; decide)) (zni1 (hcl3.ne hx3 h83) zni0))⟩)) dX4_readCommand_132
                · skip
                  exfalso; omega
              · skip
                exfalso; omega
            · skip
              exfalso; omega
    · skip
      have hz : zskip inp (zstr 4) p0 = (true, p0 + r12) := hc12.2.2.elim (fun z => z.2) (fun z => absurd z.1 (by omega))
      have hres : zcmd inp p0 = (true, (zskip inp (zstr 4) p0).2, (kwc 4, 0, 0)) := by rw [hzc, znum_t hz]
      refine z_iconst hx hb dX4_readCommand_37 ?_
      exact z_zret hC hr hlk hZ rfl (by decide) (by decide) ((Or.inl ⟨by rw [hres], rfl, ((zko.refl : zko [a] F F).up (by simp)), by rw [hres]; exact hf_115⟩)) dX4_readCommand_38
