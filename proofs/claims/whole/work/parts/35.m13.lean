set_option maxHeartbeats 4000000 in
set_option maxRecDepth 100000 in
theorem met_X13_type (l : Launch) (D : va_G) (cs : Nat → ClassId) (A : Nat → Prop) (m0 : Nat) (ad : Nat → Nat) (v : Nat → Int) (g : Nat → Int → Int) (x : Int)  (hD : mD m0 ad) (hok : mOK v g) (hx0 : 0 ≤ x ∧ x ≤ 65535) (h8 : 0 ≤ v 8 ∧ v 8 ≤ 60) : zM l D cs A yX13_type cX13_type 3 (some FieldType.int) 2 0 0 [.ref m0, .int (iI x)] (mW cs m0 ad v g) (mP cs m0 ad (fun r v1 g1 => (¬ ((97 ≤ x ∧ x ≤ 122) ∨ x = 32) ∧ upN v 6 1 = v1 ∧ g = g1) ∨ (((97 ≤ x ∧ x ≤ 122) ∨ x = 32) ∧ v 8 = 60 ∧ upN v 6 2 = v1 ∧ g = g1) ∨ (((97 ≤ x ∧ x ≤ 122) ∨ x = 32) ∧ v 8 ≠ 60 ∧ upN (upN v 6 0) 8 (v 8 + 1) = v1 ∧ upG g 7 (upI (g 7) (v 8) x) = g1 ∧ v 8 + 1 = r))) := by
  refine zM_of (own := RX13) (by decide) rfl (Nat.le_of_ble_eq_true rfl) ?_
  intro p e s m below meth c hC hr hlk hnm hZ ls hl
  have hx := hC.x
  have hb := hC.b
  have hl : lv_has ls 3 [(0, .ref m0), (1, .int (iI x))] := hl
  refine lv_iload_n hx hb dX13_type_0 rfl (lv_at hl 1 rfl) ?_
  refine z_bipush hx hb dX13_type_1 (by decide) ?_
  refine z_bipush hx hb dX13_type_3 (by decide) ?_
  refine z_calli (z_runS (rest := []) (As := [.int (iI x), .int (iI 97), .int (iI 122)]) (n := 3) hC hZ (met_X13_in l D cs A (mW cs m0 ad v g) x 97 122 (by omega) (by decide) (by decide)) gs_X13_71 he_X13_in rfl hl rfl (Nat.le_of_ble_eq_true rfl) ⟨Nat.le_of_ble_eq_true rfl, Nat.le_of_ble_eq_true rfl⟩ ⟨Nat.le_of_ble_eq_true rfl, Nat.le_of_ble_eq_true rfl⟩ dX13_type_5) hZ (fun r5 _ H locs hp_1 hZ => ?_)
  obtain ⟨rfl, hp_1⟩ := hp_1
  have hin := hp_1
  refine z_if_ne (tgt := 17) hx hb dX13_type_8 (by decide) (by omega) (fun c_2 => ?_) (fun c_2 => ?_)
  · skip
    refine z_iconst hx hb dX13_type_17 ?_
    refine lv_goto (tgt := 22) hx hb dX13_type_18 (by decide) ?_
    refine lv_istore_n (lv' := [(2, .int (iI 1)), (0, .ref m0), (1, .int (iI x))]) hx hb dX13_type_22 rfl hl (by decide) rfl (fun ls hl => ?_)
    refine lv_aload_n hx hb dX13_type_23 rfl (lv_at hl 1 rfl) ?_
    refine lv_iload_n hx hb dX13_type_24 rfl (lv_at hl 0 rfl) ?_
    refine z_if_ne (tgt := 32) hx hb dX13_type_25 (by decide) (by decide) (fun c_3 => ?_) (fun c_3 => ?_)
    · skip
      refine lv_aload_n hx hb dX13_type_32 rfl (lv_at hl 1 rfl) ?_
      refine m_get hC hZ 8 (x := .int (iI (v 8))) rfl (by decide) ql_X13_75 rfl dX13_type_33 ?_
      have hr_4 : -2147483648 ≤ v 8 ∧ v 8 ≤ 2147483647 := hok.1 8
      refine z_bipush hx hb dX13_type_36 (by decide) ?_
      refine z_icmp_ne (tgt := 45) hx hb dX13_type_38 (by decide) (by omega) (by decide) (fun c_5 => ?_) (fun c_5 => ?_)
      · skip
        refine z_iconst hx hb dX13_type_45 ?_
        refine m_put hC hZ 6 (ty := .int) (by decide) ql_X13_55 rfl rfl rfl (Or.inl rfl) rfl dX13_type_46 (fun H locs hZ => ?_)
        have hok_6 := hok.v (k := 6) (x := 0) (by decide)
        refine lv_aload_n hx hb dX13_type_49 rfl (lv_at hl 1 rfl) ?_
        refine m_get hC hZ 6 (x := .int (iI 0)) rfl (by decide) ql_X13_55 rfl dX13_type_50 ?_
        refine z_if_le (tgt := 58) hx hb dX13_type_53 (by decide) (by decide) (fun c_7 => ?_) (fun c_7 => ?_)
        · skip
          refine lv_aload_n hx hb dX13_type_58 rfl (lv_at hl 1 rfl) ?_
          refine m_get hC hZ 7 (x := .ref (ad 7)) rfl (by decide) ql_X13_22 rfl dX13_type_59 ?_
          refine lv_aload_n hx hb dX13_type_62 rfl (lv_at hl 1 rfl) ?_
          refine m_get hC hZ 8 (x := .int (iI (v 8))) rfl (by decide) ql_X13_75 rfl dX13_type_63 ?_
          refine lv_iload_n hx hb dX13_type_66 rfl (lv_at hl 2 rfl) ?_
          refine m_cast hC hZ hD 7 (by decide) (f := g 7) rfl rfl (by show _ ∧ _ < (60 : Int); omega) (by decide) (by omega) dX13_type_67 (fun H locs hZ => ?_)
          have hok_8 := hok_6.g (k := 7) (i := (v 8)) (x := x) (f := g 7) rfl (by omega)
          refine lv_aload_n hx hb dX13_type_68 rfl (lv_at hl 1 rfl) ?_
          refine lv_dup hx hb dX13_type_69 rfl ?_
          refine m_get hC hZ 8 (x := .int (iI (v 8))) rfl (by decide) ql_X13_75 rfl dX13_type_70 ?_
          refine z_iconst hx hb dX13_type_73 ?_
          refine z_iadd hx hb dX13_type_74 ?_
          refine m_put hC hZ 8 (ty := .int) (by decide) ql_X13_75 rfl rfl rfl (Or.inl rfl) rfl dX13_type_75 (fun H locs hZ => ?_)
          have hok_9 := hok_8.v (k := 8) (x := (v 8) + 1) (by omega)
          refine lv_aload_n hx hb dX13_type_78 rfl (lv_at hl 1 rfl) ?_
          refine m_get hC hZ 8 (x := .int (iI ((v 8) + 1))) rfl (by decide) ql_X13_75 rfl dX13_type_79 ?_
          exact z_iret hC hr hlk hZ (by decide) (by decide) (⟨_, _, rfl, hok_9, Or.inr (Or.inr ⟨by omega, by omega, rfl, rfl, rfl⟩)⟩) dX13_type_82
        · skip
          exfalso; omega
      · skip
        refine z_iconst hx hb dX13_type_41 ?_
        refine lv_goto (tgt := 46) hx hb dX13_type_42 (by decide) ?_
        refine m_put hC hZ 6 (ty := .int) (by decide) ql_X13_55 rfl rfl rfl (Or.inl rfl) rfl dX13_type_46 (fun H locs hZ => ?_)
        have hok_10 := hok.v (k := 6) (x := 2) (by decide)
        refine lv_aload_n hx hb dX13_type_49 rfl (lv_at hl 1 rfl) ?_
        refine m_get hC hZ 6 (x := .int (iI 2)) rfl (by decide) ql_X13_55 rfl dX13_type_50 ?_
        refine z_if_le (tgt := 58) hx hb dX13_type_53 (by decide) (by decide) (fun c_11 => ?_) (fun c_11 => ?_)
        · skip
          exfalso; omega
        · skip
          refine z_iconst hx hb dX13_type_56 ?_
          exact z_iret hC hr hlk hZ (by decide) (by decide) (⟨_, _, rfl, hok_10, Or.inr (Or.inl ⟨by omega, by omega, rfl, rfl⟩)⟩) dX13_type_57
    · skip
      exfalso; omega
  · skip
    refine lv_iload_n hx hb dX13_type_11 rfl (lv_at hl 1 rfl) ?_
    refine z_bipush hx hb dX13_type_12 (by decide) ?_
    refine z_icmp_ne (tgt := 21) hx hb dX13_type_14 (by decide) (by omega) (by decide) (fun c_12 => ?_) (fun c_12 => ?_)
    · skip
      refine z_iconst hx hb dX13_type_21 ?_
      refine lv_istore_n (lv' := [(2, .int (iI 0)), (0, .ref m0), (1, .int (iI x))]) hx hb dX13_type_22 rfl hl (by decide) rfl (fun ls hl => ?_)
      refine lv_aload_n hx hb dX13_type_23 rfl (lv_at hl 1 rfl) ?_
      refine lv_iload_n hx hb dX13_type_24 rfl (lv_at hl 0 rfl) ?_
      refine z_if_ne (tgt := 32) hx hb dX13_type_25 (by decide) (by decide) (fun c_13 => ?_) (fun c_13 => ?_)
      · skip
        exfalso; omega
      · skip
        refine z_iconst hx hb dX13_type_28 ?_
        refine lv_goto (tgt := 46) hx hb dX13_type_29 (by decide) ?_
        refine m_put hC hZ 6 (ty := .int) (by decide) ql_X13_55 rfl rfl rfl (Or.inl rfl) rfl dX13_type_46 (fun H locs hZ => ?_)
        have hok_14 := hok.v (k := 6) (x := 1) (by decide)
        refine lv_aload_n hx hb dX13_type_49 rfl (lv_at hl 1 rfl) ?_
        refine m_get hC hZ 6 (x := .int (iI 1)) rfl (by decide) ql_X13_55 rfl dX13_type_50 ?_
        refine z_if_le (tgt := 58) hx hb dX13_type_53 (by decide) (by decide) (fun c_15 => ?_) (fun c_15 => ?_)
        · skip
          exfalso; omega
        · skip
          refine z_iconst hx hb dX13_type_56 ?_
          exact z_iret hC hr hlk hZ (by decide) (by decide) (⟨_, _, rfl, hok_14, Or.inl ⟨by omega, rfl, rfl⟩⟩) dX13_type_57
    · skip
      refine z_iconst hx hb dX13_type_17 ?_
      refine lv_goto (tgt := 22) hx hb dX13_type_18 (by decide) ?_
      refine lv_istore_n (lv' := [(2, .int (iI 1)), (0, .ref m0), (1, .int (iI x))]) hx hb dX13_type_22 rfl hl (by decide) rfl (fun ls hl => ?_)
      refine lv_aload_n hx hb dX13_type_23 rfl (lv_at hl 1 rfl) ?_
      refine lv_iload_n hx hb dX13_type_24 rfl (lv_at hl 0 rfl) ?_
      refine z_if_ne (tgt := 32) hx hb dX13_type_25 (by decide) (by decide) (fun c_16 => ?_) (fun c_16 => ?_)
      · skip
        refine lv_aload_n hx hb dX13_type_32 rfl (lv_at hl 1 rfl) ?_
        refine m_get hC hZ 8 (x := .int (iI (v 8))) rfl (by decide) ql_X13_75 rfl dX13_type_33 ?_
        have hr_17 : -2147483648 ≤ v 8 ∧ v 8 ≤ 2147483647 := hok.1 8
        refine z_bipush hx hb dX13_type_36 (by decide) ?_
        refine z_icmp_ne (tgt := 45) hx hb dX13_type_38 (by decide) (by omega) (by decide) (fun c_18 => ?_) (fun c_18 => ?_)
        · skip
          refine z_iconst hx hb dX13_type_45 ?_
          refine m_put hC hZ 6 (ty := .int) (by decide) ql_X13_55 rfl rfl rfl (Or.inl rfl) rfl dX13_type_46 (fun H locs hZ => ?_)
          have hok_19 := hok.v (k := 6) (x := 0) (by decide)
          refine lv_aload_n hx hb dX13_type_49 rfl (lv_at hl 1 rfl) ?_
          refine m_get hC hZ 6 (x := .int (iI 0)) rfl (by decide) ql_X13_55 rfl dX13_type_50 ?_
          refine z_if_le (tgt := 58) hx hb dX13_type_53 (by decide) (by decide) (fun c_20 => ?_) (fun c_20 => ?_)
          · skip
            refine lv_aload_n hx hb dX13_type_58 rfl (lv_at hl 1 rfl) ?_
            refine m_get hC hZ 7 (x := .ref (ad 7)) rfl (by decide) ql_X13_22 rfl dX13_type_59 ?_
            refine lv_aload_n hx hb dX13_type_62 rfl (lv_at hl 1 rfl) ?_
            refine m_get hC hZ 8 (x := .int (iI (v 8))) rfl (by decide) ql_X13_75 rfl dX13_type_63 ?_
            refine lv_iload_n hx hb dX13_type_66 rfl (lv_at hl 2 rfl) ?_
            refine m_cast hC hZ hD 7 (by decide) (f := g 7) rfl rfl (by show _ ∧ _ < (60 : Int); omega) (by decide) (by omega) dX13_type_67 (fun H locs hZ => ?_)
            have hok_21 := hok_19.g (k := 7) (i := (v 8)) (x := x) (f := g 7) rfl (by omega)
            refine lv_aload_n hx hb dX13_type_68 rfl (lv_at hl 1 rfl) ?_
            refine lv_dup hx hb dX13_type_69 rfl ?_
            refine m_get hC hZ 8 (x := .int (iI (v 8))) rfl (by decide) ql_X13_75 rfl dX13_type_70 ?_
            refine z_iconst hx hb dX13_type_73 ?_
            refine z_iadd hx hb dX13_type_74 ?_
            refine m_put hC hZ 8 (ty := .int) (by decide) ql_X13_75 rfl rfl rfl (Or.inl rfl) rfl dX13_type_75 (fun H locs hZ => ?_)
            have hok_22 := hok_21.v (k := 8) (x := (v 8) + 1) (by omega)
            refine lv_aload_n hx hb dX13_type_78 rfl (lv_at hl 1 rfl) ?_
            refine m_get hC hZ 8 (x := .int (iI ((v 8) + 1))) rfl (by decide) ql_X13_75 rfl dX13_type_79 ?_
            exact z_iret hC hr hlk hZ (by decide) (by decide) (⟨_, _, rfl, hok_22, Or.inr (Or.inr ⟨by omega, by omega, rfl, rfl, rfl⟩)⟩) dX13_type_82
          · skip
            exfalso; omega
        · skip
          refine z_iconst hx hb dX13_type_41 ?_
          refine lv_goto (tgt := 46) hx hb dX13_type_42 (by decide) ?_
          refine m_put hC hZ 6 (ty := .int) (by decide) ql_X13_55 rfl rfl rfl (Or.inl rfl) rfl dX13_type_46 (fun H locs hZ => ?_)
          have hok_23 := hok.v (k := 6) (x := 2) (by decide)
          refine lv_aload_n hx hb dX13_type_49 rfl (lv_at hl 1 rfl) ?_
          refine m_get hC hZ 6 (x := .int (iI 2)) rfl (by decide) ql_X13_55 rfl dX13_type_50 ?_
          refine z_if_le (tgt := 58) hx hb dX13_type_53 (by decide) (by decide) (fun c_24 => ?_) (fun c_24 => ?_)
          · skip
            exfalso; omega
          · skip
            refine z_iconst hx hb dX13_type_56 ?_
            exact z_iret hC hr hlk hZ (by decide) (by decide) (⟨_, _, rfl, hok_23, Or.inr (Or.inl ⟨by omega, by omega, rfl, rfl⟩)⟩) dX13_type_57
      · skip
        exfalso; omega

/-- a word that is not longer than the width can always be set -/
theorem zstep_fit {w : Int} {wd : zWd} {fr : Nat} {st : zLn} (h : (wd.length : Int) ≤ w) : zstep w wd fr st ≠ none := by
  unfold zstep
  split
  · simp
  · split
    · simp
    · split
      · rename_i h1 _ h3
        exfalso
        unfold zroom at h1
        rw [if_pos h3] at h1
        omega
      · simp
theorem zset_fit {w : Int} {wd : zWd} {j : Nat} (hw : wdOK wd) (h : (wd.length : Int) ≤ w) : ∀ (n fr : Nat) (st : zLn), fr < wd.length → lnOK w wd j fr st → zmu wd fr st ≤ n + 1 → zset w wd n fr st ≠ none
  | 0, fr, st, hf, hk, hm => by unfold zmu at hm; omega
  | n + 1, fr, st, hf, hk, hm => by
    unfold zset
    cases hs : zstep w wd fr st with
    | none => exact absurd hs (zstep_fit h)
    | some q =>
      obtain ⟨f, s2⟩ := q
      rcases zstep_ok hw hf hk hs with ⟨h1, -⟩ | ⟨h1, h2, h3, h4⟩
      · simp [h1]
      · simp only [Nat.ne_of_lt h1, if_false]
        refine zset_fit hw h n f s2 h1 h2 ?_
        unfold zmu at hm ⊢
        rw [if_pos h3]
        rcases h4 with q | ⟨q, z⟩
        · split at hm <;> omega
        · rw [if_neg z] at hm; omega
theorem zwords_fit {w : Int} (h : 12 ≤ w) : ∀ (ws : List zWd) (j : Nat) (st : zLn), (∀ x ∈ ws, wdOK x) → st.1.length ≤ 6 * j → (∀ x ∈ st.1, (x.length : Int) ≤ w) → (st.2.length : Int) ≤ w → zwords w ws st ≠ none
  | [], j, st, _, _, _, _ => by unfold zwords; simp
  | wd :: ws, j, st, ho, h1, h2, h3 => by
    have hw := ho wd List.mem_cons_self
    have hl := hw.1
    unfold zwords
    have hk : lnOK w wd j 0 st := ⟨by omega, fun _ => ⟨rfl, h1⟩, Or.inl rfl, h2, h3⟩
    have hs := zset_fit (j := j) hw (by omega) 24 0 st (by omega) hk (by unfold zmu; split <;> omega)
    cases hz : zset w wd 24 0 st with
    | none => exact absurd hz hs
    | some s1 =>
      obtain ⟨b1, b2, b3⟩ := zset_ok (j := j) hw 24 0 st s1 (by omega) hk hz
      exact zwords_fit h ws (j + 1) s1 (fun x hx => ho x (List.mem_cons_of_mem _ hx)) b1 b2 b3
theorem zlines_fit {w : Int} {ws : List zWd} (h : 12 ≤ w) (ho : ∀ x ∈ ws, wdOK x) : zlines w ws ≠ none := by
  unfold zlines
  intro q
  rw [Option.map_eq_none_iff] at q
  exact zwords_fit h ws 0 ([], []) ho (by simp) (fun x hx => by simp at hx) (by simp; omega) q
/-- the smallest width from w on -/
def zsm (ws : List zWd) : Nat → Int → Int
  | 0, w => w
  | n + 1, w => if (zlines w ws).isSome then w else zsm ws n (w + 1)
theorem zsm_n {ws : List zWd} {n : Nat} {w : Int} (h : zlines w ws = none) : zsm ws (n + 1) w = zsm ws n (w + 1) := by
  conv => lhs; unfold zsm
  rw [h]; rfl
theorem zsm_y {ws : List zWd} {n : Nat} {w : Int} {l : List zWd} (h : zlines w ws = some l) : zsm ws (n + 1) w = w := by
  unfold zsm; rw [h]; rfl
def sSm (c : zCo) (x : Int) : Int × Int := match zfa (cAr c) x with
  | none => (1, 0)
  | some a => (0, zsm a.2.2 16 4)
set_option maxHeartbeats 4000000 in
set_option maxRecDepth 100000 in
theorem met_X13_smallestWidth (l : Launch) (D : va_G) (cs : Nat → ClassId) (A : Nat → Prop) (m0 : Nat) (ad : Nat → Nat) (v : Nat → Int) (g : Nat → Int → Int) (x : Int)  (N : Nat) (c0 : zCo) (hD : mD m0 ad) (hok : mOK v g) (hR : mR (g 0) c0) (hK : cOK N c0) (hx0 : InR x) : zM l D cs A yX13_smallestWidth cX13_smallestWidth 5 (some FieldType.int) 6 0 0 [.ref m0, .int (iI x)] (mW cs m0 ad v g) (mP cs m0 ad (fun r v1 g1 => mB v g r v1 g1 (sSm c0 x))) := by
  refine zM_of (own := RX13) (by decide) rfl (Nat.le_of_ble_eq_true rfl) ?_
  intro p e s m below meth c hC hr hlk hnm hZ ls hl
  have hx := hC.x
  have hb := hC.b
  have hl : lv_has ls 5 [(0, .ref m0), (1, .int (iI x))] := hl
  have hn := mR_n hR hK
  refine lv_aload_n hx hb dX13_smallestWidth_0 rfl (lv_at hl 0 rfl) ?_
  refine lv_iload_n hx hb dX13_smallestWidth_1 rfl (lv_at hl 1 rfl) ?_
  refine z_calli (z_runV (rest := []) (As := [.int (iI x)]) (n := 1) (ci := 16) hC hZ (met_X13_placeOf l D cs A m0 ad v g x  hD hok (by omega) hn) gv_X13_103 hd_X13_placeOf rfl mW_o rfl hl rfl (Nat.le_of_ble_eq_true rfl) ⟨Nat.le_of_ble_eq_true rfl, Nat.le_of_ble_eq_true rfl⟩ ⟨Nat.le_of_ble_eq_true rfl, Nat.le_of_ble_eq_true rfl⟩ dX13_smallestWidth_2) hZ (fun r2 _ H locs hp_1 hZ => ?_)
  obtain ⟨_, _, rfl, _, rfl, rfl, hp_1⟩ := hp_1
  rcases mPl_fa hR hK hp_1 with ⟨hz, hzi, er⟩ | ⟨i0, a0, hz, hzi, er, hi, hid, hib, hra, hka⟩
  · skip
    subst er
    refine lv_istore_n (lv' := [(2, .int (iI (-1))), (0, .ref m0), (1, .int (iI x))]) hx hb dX13_smallestWidth_5 rfl hl (by decide) rfl (fun ls hl => ?_)
    refine z_iconst hx hb dX13_smallestWidth_6 ?_
    refine lv_istore_n (lv' := [(3, .int (iI 4)), (2, .int (iI (-1))), (0, .ref m0), (1, .int (iI x))]) hx hb dX13_smallestWidth_7 rfl hl (by decide) rfl (fun ls hl => ?_)
    refine lv_aload_n hx hb dX13_smallestWidth_8 rfl (lv_at hl 2 rfl) ?_
    refine lv_iload_n hx hb dX13_smallestWidth_9 rfl (lv_at hl 1 rfl) ?_
    refine z_if_lt (tgt := 17) hx hb dX13_smallestWidth_10 (by decide) (by decide) (fun c_2 => ?_) (fun c_2 => ?_)
    · skip
      refine z_iconst hx hb dX13_smallestWidth_17 ?_
      refine z_calli (z_runV (rest := []) (As := [.int (iI 0)]) (n := 1) (ci := 16) hC hZ (met_X13_isThere l D cs A m0 ad v g 0  hD hok (by decide)) gv_X13_126 hd_X13_isThere rfl mW_o rfl hl rfl (Nat.le_of_ble_eq_true rfl) ⟨Nat.le_of_ble_eq_true rfl, Nat.le_of_ble_eq_true rfl⟩ ⟨Nat.le_of_ble_eq_true rfl, Nat.le_of_ble_eq_true rfl⟩ dX13_smallestWidth_18) hZ (fun r18 _ H locs hp_3 hZ => ?_)
      obtain ⟨_, _, rfl, hok_4, rfl, rfl, rfl⟩ := hp_3
      refine lv_istore (lv' := [(4, .int (iI 0)), (3, .int (iI 4)), (2, .int (iI (-1))), (0, .ref m0), (1, .int (iI x))]) hx hb dX13_smallestWidth_21 hl (by decide) rfl (fun ls hl => ?_)
      refine lv_iload hx hb dX13_smallestWidth_23 (lv_at hl 0 rfl) ?_
      refine z_if_eq (tgt := 43) hx hb dX13_smallestWidth_25 (by decide) (by decide) (fun c_5 => ?_) (fun c_5 => ?_)
      · skip
        refine lv_iload hx hb dX13_smallestWidth_43 (lv_at hl 0 rfl) ?_
        refine z_if_eq (tgt := 52) hx hb dX13_smallestWidth_45 (by decide) (by decide) (fun c_6 => ?_) (fun c_6 => ?_)
        · skip
          refine z_iconst hx hb dX13_smallestWidth_52 ?_
          exact z_iret hC hr hlk hZ (by decide) (by decide) (⟨_, _, rfl, hok_4, by unfold sSm; rw [hz]; rfl, (fun k h1 h2 => upN_n h1), (fun _ _ _ _ => rfl), fun q => by unfold sSm at q; rw [hz] at q; exact absurd (show (1 : Int) = 0 from q) (by decide)⟩) dX13_smallestWidth_53
        · skip
          exfalso; omega
      · skip
        exfalso; omega
    · skip
      exfalso; omega
  · skip
    subst er
    refine lv_istore_n (lv' := [(2, .int (iI (i0 : Int))), (0, .ref m0), (1, .int (iI x))]) hx hb dX13_smallestWidth_5 rfl hl (by decide) rfl (fun ls hl => ?_)
    refine z_iconst hx hb dX13_smallestWidth_6 ?_
    refine lv_istore_n (lv' := [(3, .int (iI 4)), (2, .int (iI (i0 : Int))), (0, .ref m0), (1, .int (iI x))]) hx hb dX13_smallestWidth_7 rfl hl (by decide) rfl (fun ls hl => ?_)
    refine lv_aload_n hx hb dX13_smallestWidth_8 rfl (lv_at hl 2 rfl) ?_
    refine lv_iload_n hx hb dX13_smallestWidth_9 rfl (lv_at hl 1 rfl) ?_
    refine z_if_lt (tgt := 17) hx hb dX13_smallestWidth_10 (by decide) (by omega) (fun c_7 => ?_) (fun c_7 => ?_)
    · skip
      exfalso; omega
    · skip
      refine z_iconst hx hb dX13_smallestWidth_13 ?_
      refine lv_goto (tgt := 18) hx hb dX13_smallestWidth_14 (by decide) ?_
      refine z_calli (z_runV (rest := []) (As := [.int (iI 1)]) (n := 1) (ci := 16) hC hZ (met_X13_isThere l D cs A m0 ad v g 1  hD hok (by decide)) gv_X13_126 hd_X13_isThere rfl mW_o rfl hl rfl (Nat.le_of_ble_eq_true rfl) ⟨Nat.le_of_ble_eq_true rfl, Nat.le_of_ble_eq_true rfl⟩ ⟨Nat.le_of_ble_eq_true rfl, Nat.le_of_ble_eq_true rfl⟩ dX13_smallestWidth_18) hZ (fun r18 _ H locs hp_8 hZ => ?_)
      obtain ⟨_, _, rfl, hok_9, rfl, rfl, rfl⟩ := hp_8
      refine lv_istore (lv' := [(4, .int (iI 1)), (3, .int (iI 4)), (2, .int (iI (i0 : Int))), (0, .ref m0), (1, .int (iI x))]) hx hb dX13_smallestWidth_21 hl (by decide) rfl (fun ls hl => ?_)
      have L23_k_10 : ∀ (fu : Nat) (y : Int) (v2 : Nat → Int) (g2 : Nat → Int → Int) (hfu : (20 - y).toNat < fu) (hi23_0 : 4 ≤ y ∧ y ≤ 12) (hi23_1 : ∀ k, k ≠ 12 → v2 k = (upN v 6 0) k) (hi23_2 : ∀ j, j ≠ 9 → j ≠ 10 → j ≠ 11 → g2 j = g j) (hi23_3 : zsm a0.2.2 (20 - y).toNat y = zsm a0.2.2 16 4) (hw : mOK v2 g2) (H : Heap) (locs : List Loc) (hZ : zS D A s (mW cs m0 ad v2 g2) H locs) (ls : Array Slot) (hl : lv_has ls 5 [(4, .int (iI 1)), (3, .int (iI y)), (2, .int (iI (i0 : Int))), (0, .ref m0), (1, .int (iI x))]), W p l e (zR 6 0 0) s m [.ref m0, .int (iI x)].toArray below meth c H locs 0 0 (MQ below (zQ D A (mP cs m0 ad (fun r v1 g1 => mB v g r v1 g1 (sSm c0 x)))) [.ref m0, .int (iI x)].toArray s 0 0 A) (F0 m 23 ls []) := by
        intro fu
        induction fu with
        | zero =>
          intro y v2 g2 hfu
          exact absurd hfu (Nat.not_lt_zero _)
        | succ fu ih23 =>
          intro y v2 g2 hfu hi23_0 hi23_1 hi23_2 hi23_3 hw H locs hZ ls hl
          have e0 : g2 0 = g 0 := hi23_2 0 (by decide) (by decide) (by decide)
          have hra9 := hra
          rw [← e0] at hra9
          refine lv_iload hx hb dX13_smallestWidth_23 (lv_at hl 0 rfl) ?_
          refine z_if_eq (tgt := 43) hx hb dX13_smallestWidth_25 (by decide) (by decide) (fun c_11 => ?_) (fun c_11 => ?_)
          · skip
            exfalso; omega
          · skip
            refine lv_aload_n hx hb dX13_smallestWidth_28 rfl (lv_at hl 3 rfl) ?_
            refine lv_iload_n hx hb dX13_smallestWidth_29 rfl (lv_at hl 2 rfl) ?_
            refine lv_iload_n hx hb dX13_smallestWidth_30 rfl (lv_at hl 1 rfl) ?_
            refine z_calli (z_runV (rest := []) (As := [.int (iI (i0 : Int)), .int (iI y)]) (n := 2) (ci := 16) hC hZ (met_X13_setsArticle l D cs A m0 ad v2 g2 y i0 a0 (cNi c0) hD hw hra9 hka (by omega) ⟨by omega, by omega⟩) gv_X13_168 hd_X13_setsArticle rfl mW_o rfl hl rfl (Nat.le_of_ble_eq_true rfl) ⟨Nat.le_of_ble_eq_true rfl, Nat.le_of_ble_eq_true rfl⟩ ⟨Nat.le_of_ble_eq_true rfl, Nat.le_of_ble_eq_true rfl⟩ dX13_smallestWidth_31) hZ (fun r31 _ H locs hp_12 hZ => ?_)
            obtain ⟨v_14, g_15, rfl, hok_13, hsv, hsg, hp_12⟩ := hp_12
            rcases hp_12 with ⟨hzl, erl⟩ | ⟨ls0, hzl, erl, hlb, hll, hml⟩
            · skip
              subst erl
              have hy12 : y < 12 := by
                rcases Int.lt_or_le y 12 with q | q
                · exact q
                · exact absurd hzl (zlines_fit q hka.2.2.2)
              refine z_if_ge (tgt := 43) hx hb dX13_smallestWidth_34 (by decide) (by decide) (fun c_16 => ?_) (fun c_16 => ?_)
              · skip
                exfalso; omega
              · skip
                refine z_iinc (lv' := [(3, .int (iI (y + 1))), (4, .int (iI 1)), (2, .int (iI (i0 : Int))), (0, .ref m0), (1, .int (iI x))]) hx hb dX13_smallestWidth_37 hl (k := 1) rfl (by decide) rfl (fun ls hl => ?_)
                refine lv_goto (tgt := 23) hx hb dX13_smallestWidth_40 (by decide) ?_
                exact ih23 (y + 1) v_14 g_15 (by omega) (by omega) (fun k hk => (hsv k hk).trans (hi23_1 k hk)) (fun j h1 h2 h3 => (hsg j h1 h2 h3).trans (hi23_2 j h1 h2 h3)) (by rw [← hi23_3, show (20 - y).toNat = (20 - (y + 1)).toNat + 1 by omega, zsm_n hzl]) hok_13 _ _ hZ ls (lv_sub hl [1, 0, 2, 3, 4] rfl)
            · skip
              subst erl
              refine z_if_ge (tgt := 43) hx hb dX13_smallestWidth_34 (by decide) (by omega) (fun c_17 => ?_) (fun c_17 => ?_)
              · skip
                refine lv_iload hx hb dX13_smallestWidth_43 (lv_at hl 0 rfl) ?_
                refine z_if_eq (tgt := 52) hx hb dX13_smallestWidth_45 (by decide) (by decide) (fun c_18 => ?_) (fun c_18 => ?_)
                · skip
                  exfalso; omega
                · skip
                  refine lv_iload_n hx hb dX13_smallestWidth_48 rfl (lv_at hl 1 rfl) ?_
                  refine lv_goto (tgt := 53) hx hb dX13_smallestWidth_49 (by decide) ?_
                  exact z_iret hC hr hlk hZ (by decide) (by decide) (⟨_, _, rfl, hok_13, by unfold sSm; rw [hz, hsv 6 (by decide), hi23_1 6 (by decide)]; rfl, (fun k h1 h2 => (hsv k h2).trans ((hi23_1 k h2).trans (upN_n h1))), (fun j h1 h2 h3 => (hsg j h1 h2 h3).trans (hi23_2 j h1 h2 h3)), fun q => by unfold sSm; rw [hz]; show y = zsm a0.2.2 16 4; rw [← hi23_3, show (20 - y).toNat = (20 - y).toNat - 1 + 1 by omega, zsm_y hzl]⟩) dX13_smallestWidth_53
              · skip
                exfalso; omega
      exact L23_k_10 _ 4 (upN v 6 (1 - 1)) g (Nat.lt_succ_self _) (by omega) (fun k hk => rfl) (fun _ _ _ _ => rfl) rfl hok_9 _ _ hZ ls (lv_sub hl [0, 1, 2, 3, 4] rfl)

