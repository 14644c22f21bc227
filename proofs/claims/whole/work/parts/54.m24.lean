/-- the model's command buffer -/
def mI (v : Nat → Int) (g : Nat → Int → Int) (inp : List Int) : Prop := v 17 = inp.length ∧ lnAt (g 16) 0 inp ∧ inOK inp
def b2i (b : Bool) : Int := if b then 1 else 0
theorem bh_at {v : Nat → Int} {g : Nat → Int → Int} {inp : List Int} (hI : mI v g inp) {a : Int} (h0 : 0 ≤ a) (h1 : a < v 17) : g 16 a = bh inp a := by
  have h17 := hI.1
  unfold bh
  rw [if_pos (by omega)]
  have := lnAt_get hI.2.1 h0 (by omega)
  rw [Int.zero_add] at this
  exact this
theorem mI_of {v v2 : Nat → Int} {g g2 : Nat → Int → Int} {inp : List Int} (h : mI v g inp) (hv : v2 17 = v 17) (hg : g2 16 = g 16) : mI v2 g2 inp := ⟨hv.trans h.1, by rw [hg]; exact h.2.1, h.2.2⟩
theorem inp_rng {v : Nat → Int} {g : Nat → Int → Int} {inp : List Int} (hI : mI v g inp) {a : Int} (h0 : 0 ≤ a) (h1 : a < v 17) : 0 ≤ g 16 a ∧ g 16 a ≤ 65535 := by
  have h2 := bh_at hI h0 h1
  have h3 := bh_rng hI.2.2 a h0
  have h4 : bh inp a ≠ -1 := by
    unfold bh
    have h17 := hI.1
    rw [if_pos (by omega)]
    have hl : a.toNat < inp.length := by omega
    have := hI.2.2.2 _ (List.getElem_mem hl)
    rw [List.getD_eq_getElem?_getD, List.getElem?_eq_getElem hl]
    simp only [Option.getD_some]
    omega
  omega
set_option maxHeartbeats 4000000 in
set_option maxRecDepth 100000 in
theorem met_X13_feed (l : Launch) (D : va_G) (cs : Nat → ClassId) (A : Nat → Prop) (m0 : Nat) (ad : Nat → Nat) (v : Nat → Int) (g : Nat → Int → Int) (x : Int) (inp : List Int) (hD : mD m0 ad) (hok : mOK v g) (hx0 : 0 ≤ x ∧ x ≤ 65535) (hI : mI v g inp) : zM l D cs A yX13_feed cX13_feed 2 (some FieldType.int) 1 0 0 [.ref m0, .int (iI x)] (mW cs m0 ad v g) (mP cs m0 ad (fun r v1 g1 => (inp.length = 60 ∧ upN v 6 1 = v1 ∧ g = g1) ∨ (inp.length ≠ 60 ∧ upN (upN v 6 0) 17 (v 17 + 1) = v1 ∧ upG g 16 (upI (g 16) (v 17) x) = g1 ∧ r = v 17 + 1))) := by
  refine zM_of (own := RX13) (by decide) rfl (Nat.le_of_ble_eq_true rfl) ?_
  intro p e s m below meth c hC hr hlk hnm hZ ls hl
  have hx := hC.x
  have hb := hC.b
  have hl : lv_has ls 2 [(0, .ref m0), (1, .int (iI x))] := hl
  have h17 := hI.1
  have h60 := hI.2.2.1
  refine lv_aload_n hx hb dX13_feed_0 rfl (lv_at hl 0 rfl) ?_
  refine lv_aload_n hx hb dX13_feed_1 rfl (lv_at hl 0 rfl) ?_
  refine m_get hC hZ 17 (x := .int (iI (v 17))) rfl (by decide) ql_X13_232 rfl dX13_feed_2 ?_
  have hr_1 : -2147483648 ≤ v 17 ∧ v 17 ≤ 2147483647 := hok.1 17
  refine z_bipush hx hb dX13_feed_5 (by decide) ?_
  refine z_icmp_ne (tgt := 14) hx hb dX13_feed_7 (by decide) (by omega) (by decide) (fun c_2 => ?_) (fun c_2 => ?_)
  · skip
    refine z_iconst hx hb dX13_feed_14 ?_
    refine m_put hC hZ 6 (ty := .int) (by decide) ql_X13_55 rfl rfl rfl (Or.inl rfl) rfl dX13_feed_15 (fun H locs hZ => ?_)
    have hok_3 := hok.v (k := 6) (x := 0) (by decide)
    refine lv_aload_n hx hb dX13_feed_18 rfl (lv_at hl 0 rfl) ?_
    refine m_get hC hZ 6 (x := .int (iI 0)) rfl (by decide) ql_X13_55 rfl dX13_feed_19 ?_
    refine z_if_le (tgt := 27) hx hb dX13_feed_22 (by decide) (by decide) (fun c_4 => ?_) (fun c_4 => ?_)
    · skip
      refine lv_aload_n hx hb dX13_feed_27 rfl (lv_at hl 0 rfl) ?_
      refine m_get hC hZ 16 (x := .ref (ad 16)) rfl (by decide) ql_X13_42 rfl dX13_feed_28 ?_
      refine lv_aload_n hx hb dX13_feed_31 rfl (lv_at hl 0 rfl) ?_
      refine m_get hC hZ 17 (x := .int (iI (v 17))) rfl (by decide) ql_X13_232 rfl dX13_feed_32 ?_
      refine lv_iload_n hx hb dX13_feed_35 rfl (lv_at hl 1 rfl) ?_
      refine m_cast hC hZ hD 16 (by decide) (f := g 16) rfl rfl (by show _ ∧ _ < (60 : Int); omega) (by decide) (by omega) dX13_feed_36 (fun H locs hZ => ?_)
      have hok_5 := hok_3.g (k := 16) (i := (v 17)) (x := x) (f := g 16) rfl (by omega)
      refine lv_aload_n hx hb dX13_feed_37 rfl (lv_at hl 0 rfl) ?_
      refine lv_dup hx hb dX13_feed_38 rfl ?_
      refine m_get hC hZ 17 (x := .int (iI (v 17))) rfl (by decide) ql_X13_232 rfl dX13_feed_39 ?_
      refine z_iconst hx hb dX13_feed_42 ?_
      refine z_iadd hx hb dX13_feed_43 ?_
      refine m_put hC hZ 17 (ty := .int) (by decide) ql_X13_232 rfl rfl rfl (Or.inl rfl) rfl dX13_feed_44 (fun H locs hZ => ?_)
      have hok_6 := hok_5.v (k := 17) (x := (v 17) + 1) (by omega)
      refine lv_aload_n hx hb dX13_feed_47 rfl (lv_at hl 0 rfl) ?_
      refine m_get hC hZ 17 (x := .int (iI ((v 17) + 1))) rfl (by decide) ql_X13_232 rfl dX13_feed_48 ?_
      exact z_iret hC hr hlk hZ (by decide) (by decide) (⟨_, _, rfl, hok_6, Or.inr ⟨by omega, rfl, rfl, rfl⟩⟩) dX13_feed_51
    · skip
      exfalso; omega
  · skip
    refine z_iconst hx hb dX13_feed_10 ?_
    refine lv_goto (tgt := 15) hx hb dX13_feed_11 (by decide) ?_
    refine m_put hC hZ 6 (ty := .int) (by decide) ql_X13_55 rfl rfl rfl (Or.inl rfl) rfl dX13_feed_15 (fun H locs hZ => ?_)
    have hok_7 := hok.v (k := 6) (x := 1) (by decide)
    refine lv_aload_n hx hb dX13_feed_18 rfl (lv_at hl 0 rfl) ?_
    refine m_get hC hZ 6 (x := .int (iI 1)) rfl (by decide) ql_X13_55 rfl dX13_feed_19 ?_
    refine z_if_le (tgt := 27) hx hb dX13_feed_22 (by decide) (by decide) (fun c_8 => ?_) (fun c_8 => ?_)
    · skip
      exfalso; omega
    · skip
      refine z_iconst hx hb dX13_feed_25 ?_
      exact z_iret hC hr hlk hZ (by decide) (by decide) (⟨_, _, rfl, hok_7, Or.inl ⟨by omega, rfl, rfl⟩⟩) dX13_feed_26

set_option maxHeartbeats 4000000 in
set_option maxRecDepth 100000 in
theorem met_X13_behind (l : Launch) (D : va_G) (cs : Nat → ClassId) (A : Nat → Prop) (m0 : Nat) (ad : Nat → Nat) (v : Nat → Int) (g : Nat → Int → Int) (x : Int) (inp : List Int) (hD : mD m0 ad) (hok : mOK v g) (hI : mI v g inp) (h18 : 0 ≤ v 18 ∧ v 18 ≤ inp.length) (hx0 : 0 ≤ x ∧ x ≤ 1) : zM l D cs A yX13_behind cX13_behind 2 (some FieldType.int) 1 0 0 [.ref m0, .int (iI x)] (mW cs m0 ad v g) (mP cs m0 ad (fun r v1 g1 => v = v1 ∧ g = g1 ∧ r = bh inp (v 18 + x))) := by
  refine zM_of (own := RX13) (by decide) rfl (Nat.le_of_ble_eq_true rfl) ?_
  intro p e s m below meth c hC hr hlk hnm hZ ls hl
  have hx := hC.x
  have hb := hC.b
  have hl : lv_has ls 2 [(0, .ref m0), (1, .int (iI x))] := hl
  have h17 := hI.1
  have h60 := hI.2.2.1
  refine lv_aload_n hx hb dX13_behind_0 rfl (lv_at hl 0 rfl) ?_
  refine m_get hC hZ 18 (x := .int (iI (v 18))) rfl (by decide) ql_X13_235 rfl dX13_behind_1 ?_
  have hr_1 : -2147483648 ≤ v 18 ∧ v 18 ≤ 2147483647 := hok.1 18
  refine lv_iload_n hx hb dX13_behind_4 rfl (lv_at hl 1 rfl) ?_
  refine z_iadd hx hb dX13_behind_5 ?_
  refine lv_aload_n hx hb dX13_behind_6 rfl (lv_at hl 0 rfl) ?_
  refine m_get hC hZ 17 (x := .int (iI (v 17))) rfl (by decide) ql_X13_232 rfl dX13_behind_7 ?_
  have hr_2 : -2147483648 ≤ v 17 ∧ v 17 ≤ 2147483647 := hok.1 17
  refine z_icmp_ge (tgt := 27) hx hb dX13_behind_10 (by decide) (by omega) (by omega) (fun c_3 => ?_) (fun c_3 => ?_)
  · skip
    refine z_iconst hx hb dX13_behind_27 ?_
    exact z_iret hC hr hlk hZ (by decide) (by decide) (⟨_, _, rfl, ‹mOK v g›, rfl, rfl, by unfold bh; rw [if_neg (by omega)]⟩) dX13_behind_28
  · skip
    refine lv_aload_n hx hb dX13_behind_13 rfl (lv_at hl 0 rfl) ?_
    refine m_get hC hZ 16 (x := .ref (ad 16)) rfl (by decide) ql_X13_42 rfl dX13_behind_14 ?_
    refine lv_aload_n hx hb dX13_behind_17 rfl (lv_at hl 0 rfl) ?_
    refine m_get hC hZ 18 (x := .int (iI (v 18))) rfl (by decide) ql_X13_235 rfl dX13_behind_18 ?_
    have hr_4 : -2147483648 ≤ v 18 ∧ v 18 ≤ 2147483647 := hok.1 18
    refine lv_iload_n hx hb dX13_behind_21 rfl (lv_at hl 1 rfl) ?_
    refine z_iadd hx hb dX13_behind_22 ?_
    refine m_cald hC hZ hD 16 (by decide) (f := g 16) rfl rfl (by show _ ∧ _ < (60 : Int); omega) (by decide) dX13_behind_23 ?_
    have hr_5 : -2147483648 ≤ (g 16) ((v 18) + x) ∧ (g 16) ((v 18) + x) ≤ 2147483647 := hok.2 16 _
    refine lv_goto (tgt := 28) hx hb dX13_behind_24 (by decide) ?_
    exact z_iret hC hr hlk hZ (by decide) (by decide) (⟨_, _, rfl, ‹mOK v g›, rfl, rfl, bh_at hI (by omega) (by omega)⟩) dX13_behind_28

theorem zskip_s {inp : List Int} {j : Nat} {k a : Int} (h0 : 0 ≤ k) (h : k < (zstr j).length) : zskip inp ((zstr j).drop k.toNat) a = if bh inp a = (zstr j).getD k.toNat 0 then zskip inp ((zstr j).drop (k + 1).toNat) (a + 1) else (true, a) := by
  have hl : k.toNat < (zstr j).length := by omega
  rw [List.drop_eq_getElem_cons hl, show (k + 1).toNat = k.toNat + 1 by omega]
  conv => lhs; unfold zskip
  rw [List.getD_eq_getElem?_getD, List.getElem?_eq_getElem hl]
  rfl
theorem zskip_0 {inp : List Int} {j : Nat} {k a : Int} (h : (zstr j).length ≤ k) : zskip inp ((zstr j).drop k.toNat) a = (false, a) := by
  rw [List.drop_of_length_le (by omega)]
  rfl
set_option maxHeartbeats 4000000 in
set_option maxRecDepth 100000 in
theorem met_X13_skip (l : Launch) (D : va_G) (cs : Nat → ClassId) (A : Nat → Prop) (m0 : Nat) (ad : Nat → Nat) (v : Nat → Int) (g : Nat → Int → Int)  (inp : List Int) (j : Nat) (hD : mD m0 ad) (hok : mOK v g) (hI : mI v g inp) (h18 : 0 ≤ v 18 ∧ v 18 ≤ inp.length) (h19 : v 19 = 0 ∨ v 19 = 1) (hj : j < 6) : zM l D cs A yX13_skip cX13_skip 3 (none : Option Jvm.ClassFile.FieldType) 6 0 0 [.ref m0, .ref (cs (30 + j))] (mW cs m0 ad v g) (mPv cs m0 ad (fun v1 g1 => (∀ k, k ≠ 18 → k ≠ 19 → v1 k = v k) ∧ g = g1 ∧ ((v 19 = 1 ∧ v1 18 = v 18 ∧ v1 19 = 1) ∨ (v 19 = 0 ∧ v1 18 = (zskip inp (zstr j) (v 18)).2 ∧ v1 19 = b2i (zskip inp (zstr j) (v 18)).1)))) := by
  refine zM_of (own := RX13) (by decide) rfl (Nat.le_of_ble_eq_true rfl) ?_
  intro p e s m below meth c hC hr hlk hnm hZ ls hl
  have hx := hC.x
  have hb := hC.b
  have hl : lv_has ls 3 [(0, .ref m0), (1, .ref (cs (30 + j)))] := hl
  have h17 := hI.1
  have h60 := hI.2.2.1
  have hzl : (zstr j).length ≤ 6 := by unfold zstr; split <;> decide
  refine z_iconst hx hb dX13_skip_0 ?_
  refine lv_istore_n (lv' := [(2, .int (iI 0)), (0, .ref m0), (1, .ref (cs (30 + j)))]) hx hb dX13_skip_1 rfl hl (by decide) rfl (fun ls hl => ?_)
  have L2_k_1 : ∀ (fu : Nat) (k_ : Int) (v2 : Nat → Int) (hfu : (((zstr j).length : Int) - k_).toNat < fu) (hi2_0 : 0 ≤ k_ ∧ k_ ≤ (zstr j).length) (hi2_1 : ∀ k, k ≠ 18 → k ≠ 19 → v2 k = v k) (hi2_2 : 0 ≤ v2 18 ∧ v2 18 ≤ inp.length) (hi2_3 : (v 19 = 1 ∧ v2 18 = v 18 ∧ v2 19 = 1) ∨ (v 19 = 0 ∧ ((v2 19 = 0 ∧ zskip inp ((zstr j).drop k_.toNat) (v2 18) = zskip inp (zstr j) (v 18)) ∨ (v2 19 = 1 ∧ zskip inp (zstr j) (v 18) = (true, v2 18))))) (hw : mOK v2 g) (H : Heap) (locs : List Loc) (hZ : zS D A s (mW cs m0 ad v2 g) H locs) (ls : Array Slot) (hl : lv_has ls 3 [(2, .int (iI k_)), (0, .ref m0), (1, .ref (cs (30 + j)))]), W p l e (zR 6 0 0) s m [.ref m0, .ref (cs (30 + j))].toArray below meth c H locs 0 0 (MQ below (zQ D A (mPv cs m0 ad (fun v1 g1 => (∀ k, k ≠ 18 → k ≠ 19 → v1 k = v k) ∧ g = g1 ∧ ((v 19 = 1 ∧ v1 18 = v 18 ∧ v1 19 = 1) ∨ (v 19 = 0 ∧ v1 18 = (zskip inp (zstr j) (v 18)).2 ∧ v1 19 = b2i (zskip inp (zstr j) (v 18)).1))))) [.ref m0, .ref (cs (30 + j))].toArray s 0 0 A) (F0 m 2 ls []) := by
    intro fu
    induction fu with
    | zero =>
      intro k_ v2 hfu
      exact absurd hfu (Nat.not_lt_zero _)
    | succ fu ih2 =>
      intro k_ v2 hfu hi2_0 hi2_1 hi2_2 hi2_3 hw H locs hZ ls hl
      have hI2 : mI v2 g inp := mI_of hI (hi2_1 17 (by decide) (by decide)) rfl
      refine lv_iload_n hx hb dX13_skip_2 rfl (lv_at hl 0 rfl) ?_
      refine lv_aload_n hx hb dX13_skip_3 rfl (lv_at hl 2 rfl) ?_
      refine z_calli (z_runO (rest := [.int (iI k_)]) (As := []) (n := 0) hC hZ (met_J0_length_8abf5 l D cs A (mW cs m0 ad v2 g) j hj) gv_X13_238 hd_J0_length_8abf5 (zstr_o hj) rfl hl rfl (Nat.le_of_ble_eq_true rfl) ⟨Nat.le_of_ble_eq_true rfl, Nat.le_of_ble_eq_true rfl⟩ ⟨Nat.le_of_ble_eq_true rfl, Nat.le_of_ble_eq_true rfl⟩ dX13_skip_4) hZ (fun r4 _ H locs hp4 hZ => ?_)
      obtain ⟨rfl, rfl⟩ := hp4
      refine z_icmp_ge (tgt := 66) hx hb dX13_skip_7 (by decide) (by omega) (by omega) (fun c_2 => ?_) (fun c_2 => ?_)
      · skip
        have hfin : (v 19 = 1 ∧ v2 18 = v 18 ∧ v2 19 = 1) ∨ (v 19 = 0 ∧ v2 18 = (zskip inp (zstr j) (v 18)).2 ∧ v2 19 = b2i (zskip inp (zstr j) (v 18)).1) := by
          rcases hi2_3 with h | ⟨h1, ⟨h2, h3⟩ | ⟨h2, h3⟩⟩
          · exact Or.inl h
          · right
            rw [zskip_0 (by omega)] at h3
            rw [← h3]
            exact ⟨h1, rfl, h2⟩
          · right
            rw [h3]
            exact ⟨h1, rfl, h2⟩
        exact z_vret hC hr hlk hZ (by decide) (by decide) (⟨_, _, rfl, hw, hi2_1, rfl, hfin⟩) dX13_skip_66
      · skip
        have hzr := zstr_rng j k_.toNat
        refine lv_aload_n hx hb dX13_skip_10 rfl (lv_at hl 1 rfl) ?_
        refine m_get hC hZ 19 (x := .int (iI (v2 19))) rfl (by decide) ql_X13_242 rfl dX13_skip_11 ?_
        have hr_3 : -2147483648 ≤ v2 19 ∧ v2 19 ≤ 2147483647 := hw.1 19
        refine z_if_ne (tgt := 66) hx hb dX13_skip_14 (by decide) (by omega) (fun c_4 => ?_) (fun c_4 => ?_)
        · skip
          have hfin : (v 19 = 1 ∧ v2 18 = v 18 ∧ v2 19 = 1) ∨ (v 19 = 0 ∧ v2 18 = (zskip inp (zstr j) (v 18)).2 ∧ v2 19 = b2i (zskip inp (zstr j) (v 18)).1) := by
            rcases hi2_3 with h | ⟨h1, ⟨h2, h3⟩ | ⟨h2, h3⟩⟩
            · exact Or.inl h
            · exact absurd h2 (by omega)
            · right
              rw [h3]
              exact ⟨h1, rfl, h2⟩
          exact z_vret hC hr hlk hZ (by decide) (by decide) (⟨_, _, rfl, hw, hi2_1, rfl, hfin⟩) dX13_skip_66
        · skip
          have hgo : v 19 = 0 ∧ zskip inp ((zstr j).drop k_.toNat) (v2 18) = zskip inp (zstr j) (v 18) := by
            rcases hi2_3 with h | ⟨h1, ⟨h2, h3⟩ | ⟨h2, h3⟩⟩
            · exact absurd h.2.2 (by omega)
            · exact ⟨h1, h3⟩
            · exact absurd h2 (by omega)
          have hst := zskip_s (inp := inp) (a := v2 18) hi2_0.1 (by omega : k_ < ((zstr j).length : Int))
          rw [hgo.2] at hst
          refine lv_aload_n hx hb dX13_skip_17 rfl (lv_at hl 1 rfl) ?_
          refine lv_aload_n hx hb dX13_skip_18 rfl (lv_at hl 1 rfl) ?_
          refine z_iconst hx hb dX13_skip_19 ?_
          refine z_calli (z_runV (rest := [.ref m0]) (As := [.int (iI 0)]) (n := 1) (ci := 16) hC hZ (met_X13_behind l D cs A m0 ad v2 g 0 inp hD hw hI2 hi2_2 (by decide)) gv_X13_246 hd_X13_behind rfl mW_o rfl hl rfl (Nat.le_of_ble_eq_true rfl) ⟨Nat.le_of_ble_eq_true rfl, Nat.le_of_ble_eq_true rfl⟩ ⟨Nat.le_of_ble_eq_true rfl, Nat.le_of_ble_eq_true rfl⟩ dX13_skip_20) hZ (fun r20 _ H locs hp_5 hZ => ?_)
          obtain ⟨_, _, rfl, _, rfl, rfl, rfl⟩ := hp_5
          refine z_top (y := bh inp (v2 18)) (congrArg (bh inp) (Int.add_zero _)) ?_
          have hbr_6 := bh_rng hI.2.2 (v2 18) (by omega)
          refine lv_aload_n hx hb dX13_skip_23 rfl (lv_at hl 2 rfl) ?_
          refine lv_iload_n hx hb dX13_skip_24 rfl (lv_at hl 0 rfl) ?_
          refine z_calli (z_runO (rest := [.int (iI (bh inp (v2 18))), .ref m0]) (As := [.int (iI k_)]) (n := 1) hC hZ (met_J0_charAt_5068e l D cs A (mW cs m0 ad v2 g) j k_ hj (by omega)) gv_X13_249 hd_J0_charAt_5068e (zstr_o hj) rfl hl rfl (Nat.le_of_ble_eq_true rfl) ⟨Nat.le_of_ble_eq_true rfl, Nat.le_of_ble_eq_true rfl⟩ ⟨Nat.le_of_ble_eq_true rfl, Nat.le_of_ble_eq_true rfl⟩ dX13_skip_25) hZ (fun r25 _ H locs hp25 hZ => ?_)
          obtain ⟨rfl, rfl⟩ := hp25
          refine z_icmp_eq (tgt := 35) hx hb dX13_skip_28 (by decide) (by omega) (by omega) (fun c_7 => ?_) (fun c_7 => ?_)
          · skip
            have hlt := bh_in (inp := inp) (a := v2 18) (by omega) (by omega)
            rw [if_pos (by omega)] at hst
            refine z_iconst hx hb dX13_skip_35 ?_
            refine m_put hC hZ 19 (ty := .boolean) (by decide) ql_X13_242 rfl rfl rfl (Or.inr ⟨rfl, (by decide)⟩) rfl dX13_skip_36 (fun H locs hZ => ?_)
            have hok_8 := hw.v (k := 19) (x := 0) (by decide)
            refine lv_aload_n hx hb dX13_skip_39 rfl (lv_at hl 1 rfl) ?_
            refine lv_dup hx hb dX13_skip_40 rfl ?_
            refine m_get hC hZ 18 (x := .int (iI (v2 18))) rfl (by decide) ql_X13_235 rfl dX13_skip_41 ?_
            refine lv_aload_n hx hb dX13_skip_44 rfl (lv_at hl 1 rfl) ?_
            refine m_get hC hZ 19 (x := .int (iI 0)) rfl (by decide) ql_X13_242 rfl dX13_skip_45 ?_
            refine z_if_eq (tgt := 55) hx hb dX13_skip_48 (by decide) (by decide) (fun c_9 => ?_) (fun c_9 => ?_)
            · skip
              refine z_iconst hx hb dX13_skip_55 ?_
              refine z_iadd hx hb dX13_skip_56 ?_
              refine m_put hC hZ 18 (ty := .int) (by decide) ql_X13_235 rfl rfl rfl (Or.inl rfl) rfl dX13_skip_57 (fun H locs hZ => ?_)
              have hok_10 := hok_8.v (k := 18) (x := (v2 18) + 1) (by omega)
              have hnx : (v 19 = 1 ∧ (upN (upN v2 19 0) 18 ((v2 18) + 1)) 18 = v 18 ∧ (upN (upN v2 19 0) 18 ((v2 18) + 1)) 19 = 1) ∨ (v 19 = 0 ∧ (((upN (upN v2 19 0) 18 ((v2 18) + 1)) 19 = 0 ∧ zskip inp ((zstr j).drop (k_ + 1).toNat) ((upN (upN v2 19 0) 18 ((v2 18) + 1)) 18) = zskip inp (zstr j) (v 18)) ∨ ((upN (upN v2 19 0) 18 ((v2 18) + 1)) 19 = 1 ∧ zskip inp (zstr j) (v 18) = (true, (upN (upN v2 19 0) 18 ((v2 18) + 1)) 18)))) := Or.inr ⟨hgo.1, Or.inl ⟨rfl, hst.symm⟩⟩
              refine z_iinc (lv' := [(2, .int (iI (k_ + 1))), (0, .ref m0), (1, .ref (cs (30 + j)))]) hx hb dX13_skip_60 hl (k := 0) rfl (by decide) rfl (fun ls hl => ?_)
              refine lv_goto (tgt := 2) hx hb dX13_skip_63 (by decide) ?_
              exact ih2 (k_ + 1) (upN (upN v2 19 0) 18 ((v2 18) + 1)) (by omega) (by omega) (fun k h1 h2 => by rw [upN_n h1, upN_n h2]; exact hi2_1 k h1 h2) (by show 0 ≤ v2 18 + _ ∧ v2 18 + _ ≤ (inp.length : Int); omega) hnx hok_10 _ _ hZ ls (lv_sub hl [0, 1, 2] rfl)
            · skip
              exfalso; omega
          · skip
            rw [if_neg (by omega)] at hst
            refine z_iconst hx hb dX13_skip_31 ?_
            refine lv_goto (tgt := 36) hx hb dX13_skip_32 (by decide) ?_
            refine m_put hC hZ 19 (ty := .boolean) (by decide) ql_X13_242 rfl rfl rfl (Or.inr ⟨rfl, (by decide)⟩) rfl dX13_skip_36 (fun H locs hZ => ?_)
            have hok_11 := hw.v (k := 19) (x := 1) (by decide)
            refine lv_aload_n hx hb dX13_skip_39 rfl (lv_at hl 1 rfl) ?_
            refine lv_dup hx hb dX13_skip_40 rfl ?_
            refine m_get hC hZ 18 (x := .int (iI (v2 18))) rfl (by decide) ql_X13_235 rfl dX13_skip_41 ?_
            refine lv_aload_n hx hb dX13_skip_44 rfl (lv_at hl 1 rfl) ?_
            refine m_get hC hZ 19 (x := .int (iI 1)) rfl (by decide) ql_X13_242 rfl dX13_skip_45 ?_
            refine z_if_eq (tgt := 55) hx hb dX13_skip_48 (by decide) (by decide) (fun c_12 => ?_) (fun c_12 => ?_)
            · skip
              exfalso; omega
            · skip
              refine z_iconst hx hb dX13_skip_51 ?_
              refine lv_goto (tgt := 56) hx hb dX13_skip_52 (by decide) ?_
              refine z_iadd hx hb dX13_skip_56 ?_
              refine m_put hC hZ 18 (ty := .int) (by decide) ql_X13_235 rfl rfl rfl (Or.inl rfl) rfl dX13_skip_57 (fun H locs hZ => ?_)
              have hok_13 := hok_11.v (k := 18) (x := (v2 18) + 0) (by omega)
              have hnx : (v 19 = 1 ∧ (upN (upN v2 19 1) 18 ((v2 18) + 0)) 18 = v 18 ∧ (upN (upN v2 19 1) 18 ((v2 18) + 0)) 19 = 1) ∨ (v 19 = 0 ∧ (((upN (upN v2 19 1) 18 ((v2 18) + 0)) 19 = 0 ∧ zskip inp ((zstr j).drop (k_ + 1).toNat) ((upN (upN v2 19 1) 18 ((v2 18) + 0)) 18) = zskip inp (zstr j) (v 18)) ∨ ((upN (upN v2 19 1) 18 ((v2 18) + 0)) 19 = 1 ∧ zskip inp (zstr j) (v 18) = (true, (upN (upN v2 19 1) 18 ((v2 18) + 0)) 18)))) := Or.inr ⟨hgo.1, Or.inr ⟨rfl, by rw [hst]; show (true, v2 18) = (true, v2 18 + 0); rw [Int.add_zero]⟩⟩
              refine z_iinc (lv' := [(2, .int (iI (k_ + 1))), (0, .ref m0), (1, .ref (cs (30 + j)))]) hx hb dX13_skip_60 hl (k := 0) rfl (by decide) rfl (fun ls hl => ?_)
              refine lv_goto (tgt := 2) hx hb dX13_skip_63 (by decide) ?_
              exact ih2 (k_ + 1) (upN (upN v2 19 1) 18 ((v2 18) + 0)) (by omega) (by omega) (fun k h1 h2 => by rw [upN_n h1, upN_n h2]; exact hi2_1 k h1 h2) (by show 0 ≤ v2 18 + _ ∧ v2 18 + _ ≤ (inp.length : Int); omega) hnx hok_13 _ _ hZ ls (lv_sub hl [0, 1, 2] rfl)
  exact L2_k_1 _ 0 v (Nat.lt_succ_self _) (by omega) (fun _ _ _ => rfl) (by omega) (h19.elim (fun h => Or.inr ⟨h, Or.inl ⟨h, rfl⟩⟩) (fun h => Or.inl ⟨h, rfl, h⟩)) hok _ _ hZ ls (lv_sub hl [0, 1, 2] rfl)

