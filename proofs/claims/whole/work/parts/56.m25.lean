set_option maxHeartbeats 4000000 in
set_option maxRecDepth 100000 in
theorem met_X13_isDigit (l : Launch) (D : va_G) (cs : Nat → ClassId) (A : Nat → Prop) (m0 : Nat) (ad : Nat → Nat) (v : Nat → Int) (g : Nat → Int → Int)  (inp : List Int) (hD : mD m0 ad) (hok : mOK v g) (hI : mI v g inp) (h18 : 0 ≤ v 18 ∧ v 18 ≤ inp.length) (h19 : v 19 = 0 ∨ v 19 = 1) : zM l D cs A yX13_isDigit cX13_isDigit 1 (some FieldType.boolean) 2 0 0 [.ref m0] (mW cs m0 ad v g) (mP cs m0 ad (fun r v1 g1 => v = v1 ∧ g = g1 ∧ (((v 19 = 0 ∧ 48 ≤ bh inp (v 18) ∧ bh inp (v 18) ≤ 57) ∧ r = 1) ∨ (¬ (v 19 = 0 ∧ 48 ≤ bh inp (v 18) ∧ bh inp (v 18) ≤ 57) ∧ r = 0)))) := by
  refine zM_of (own := RX13) (by decide) rfl (Nat.le_of_ble_eq_true rfl) ?_
  intro p e s m below meth c hC hr hlk hnm hZ ls hl
  have hx := hC.x
  have hb := hC.b
  have hl : lv_has ls 1 [(0, .ref m0)] := hl
  have h17 := hI.1
  have h60 := hI.2.2.1
  refine lv_aload_n hx hb dX13_isDigit_0 rfl (lv_at hl 0 rfl) ?_
  refine m_get hC hZ 19 (x := .int (iI (v 19))) rfl (by decide) ql_X13_242 rfl dX13_isDigit_1 ?_
  have hr_1 : -2147483648 ≤ v 19 ∧ v 19 ≤ 2147483647 := hok.1 19
  refine z_if_ne (tgt := 26) hx hb dX13_isDigit_4 (by decide) (by omega) (fun c_2 => ?_) (fun c_2 => ?_)
  · skip
    refine z_iconst hx hb dX13_isDigit_26 ?_
    exact z_zret hC hr hlk hZ rfl (by decide) (by decide) (⟨_, _, rfl, ‹mOK v g›, rfl, rfl, by omega⟩) dX13_isDigit_27
  · skip
    refine lv_aload_n hx hb dX13_isDigit_7 rfl (lv_at hl 0 rfl) ?_
    refine z_iconst hx hb dX13_isDigit_8 ?_
    refine z_calli (z_runV (rest := []) (As := [.int (iI 0)]) (n := 1) (ci := 16) hC hZ (met_X13_behind l D cs A m0 ad v g 0 inp hD hok hI (by first | omega | exact ⟨by omega, by omega⟩) (by decide)) gv_X13_246 hd_X13_behind rfl mW_o rfl hl rfl (Nat.le_of_ble_eq_true rfl) ⟨Nat.le_of_ble_eq_true rfl, Nat.le_of_ble_eq_true rfl⟩ ⟨Nat.le_of_ble_eq_true rfl, Nat.le_of_ble_eq_true rfl⟩ dX13_isDigit_9) hZ (fun r9 _ H locs hp_3 hZ => ?_)
    obtain ⟨_, _, rfl, _, rfl, rfl, rfl⟩ := hp_3
    refine z_top (y := bh inp (v 18)) (congrArg (bh inp) (Int.add_zero _)) ?_
    have hbr_4 := bh_rng hI.2.2 (v 18) (by omega)
    refine z_bipush hx hb dX13_isDigit_12 (by decide) ?_
    refine z_bipush hx hb dX13_isDigit_14 (by decide) ?_
    refine z_calli (z_runS (rest := []) (As := [.int (iI (bh inp (v 18))), .int (iI 48), .int (iI 57)]) (n := 3) hC hZ (met_X13_in l D cs A (mW cs m0 ad v g) (bh inp (v 18)) 48 57 (by omega) (by decide) (by decide)) gs_X13_71 he_X13_in rfl hl rfl (Nat.le_of_ble_eq_true rfl) ⟨Nat.le_of_ble_eq_true rfl, Nat.le_of_ble_eq_true rfl⟩ ⟨Nat.le_of_ble_eq_true rfl, Nat.le_of_ble_eq_true rfl⟩ dX13_isDigit_16) hZ (fun r16 _ H locs hp_5 hZ => ?_)
    obtain ⟨rfl, hp_5⟩ := hp_5
    have hin := hp_5
    refine z_if_eq (tgt := 26) hx hb dX13_isDigit_19 (by decide) (by omega) (fun c_6 => ?_) (fun c_6 => ?_)
    · skip
      refine z_iconst hx hb dX13_isDigit_26 ?_
      exact z_zret hC hr hlk hZ rfl (by decide) (by decide) (⟨_, _, rfl, ‹mOK v g›, rfl, rfl, by omega⟩) dX13_isDigit_27
    · skip
      refine z_iconst hx hb dX13_isDigit_22 ?_
      refine lv_goto (tgt := 27) hx hb dX13_isDigit_23 (by decide) ?_
      exact z_zret hC hr hlk hZ rfl (by decide) (by decide) (⟨_, _, rfl, ‹mOK v g›, rfl, rfl, by omega⟩) dX13_isDigit_27

theorem znum_w {inp l : List Int} {a : Int} (h : (zskip inp l a).1 = true) : znum inp l a = (true, (zskip inp l a).2, 0) := by
  unfold znum; rw [if_pos h]
theorem znum_n {inp l : List Int} {a : Int} (h : (zskip inp l a).1 = false) (hd : ¬ (48 ≤ bh inp (zskip inp l a).2 ∧ bh inp (zskip inp l a).2 ≤ 57)) : znum inp l a = (true, (zskip inp l a).2, 0) := by
  unfold znum; rw [if_neg (by rw [h]; decide), if_neg hd]
theorem znum_1 {inp l : List Int} {a : Int} (h : (zskip inp l a).1 = false) (hd : 48 ≤ bh inp (zskip inp l a).2 ∧ bh inp (zskip inp l a).2 ≤ 57) (hd2 : ¬ (48 ≤ bh inp ((zskip inp l a).2 + 1) ∧ bh inp ((zskip inp l a).2 + 1) ≤ 57)) : znum inp l a = (false, (zskip inp l a).2 + 1, bh inp (zskip inp l a).2 - 48) := by
  unfold znum; rw [if_neg (by rw [h]; decide), if_pos hd, if_neg hd2]
theorem znum_2 {inp l : List Int} {a : Int} (h : (zskip inp l a).1 = false) (hd : 48 ≤ bh inp (zskip inp l a).2 ∧ bh inp (zskip inp l a).2 ≤ 57) (hd2 : 48 ≤ bh inp ((zskip inp l a).2 + 1) ∧ bh inp ((zskip inp l a).2 + 1) ≤ 57) : znum inp l a = (false, (zskip inp l a).2 + 2, 10 * (bh inp (zskip inp l a).2 - 48) + (bh inp ((zskip inp l a).2 + 1) - 48)) := by
  unfold znum; rw [if_neg (by rw [h]; decide), if_pos hd, if_pos hd2]
theorem b2i_1 {b : Bool} (h : b2i b = 1) : b = true := by
  cases b
  · exact absurd h (by decide)
  · rfl
theorem b2i_0 {b : Bool} (h : b2i b = 0) : b = false := by
  cases b
  · rfl
  · exact absurd h (by decide)
theorem b2i_01 (b : Bool) : b2i b = 0 ∨ b2i b = 1 := by
  cases b
  · exact Or.inl rfl
  · exact Or.inr rfl
set_option maxHeartbeats 4000000 in
set_option maxRecDepth 100000 in
theorem met_X13_readNumber (l : Launch) (D : va_G) (cs : Nat → ClassId) (A : Nat → Prop) (m0 : Nat) (ad : Nat → Nat) (v : Nat → Int) (g : Nat → Int → Int)  (inp : List Int) (j : Nat) (hD : mD m0 ad) (hok : mOK v g) (hI : mI v g inp) (h18 : 0 ≤ v 18 ∧ v 18 ≤ inp.length) (h19 : v 19 = 0 ∨ v 19 = 1) (hj : j < 6) : zM l D cs A yX13_readNumber cX13_readNumber 4 (some FieldType.int) 7 0 0 [.ref m0, .ref (cs (30 + j))] (mW cs m0 ad v g) (mP cs m0 ad (fun r v1 g1 => (∀ k, k ≠ 18 → k ≠ 19 → v1 k = v k) ∧ g = g1 ∧ ((v 19 = 1 ∧ v1 18 = v 18 ∧ v1 19 = 1 ∧ r = 0) ∨ (v 19 = 0 ∧ v1 18 = (znum inp (zstr j) (v 18)).2.1 ∧ v1 19 = b2i (znum inp (zstr j) (v 18)).1 ∧ r = (znum inp (zstr j) (v 18)).2.2)))) := by
  refine zM_of (own := RX13) (by decide) rfl (Nat.le_of_ble_eq_true rfl) ?_
  intro p e s m below meth c hC hr hlk hnm hZ ls hl
  have hx := hC.x
  have hb := hC.b
  have hl : lv_has ls 4 [(0, .ref m0), (1, .ref (cs (30 + j)))] := hl
  have h17 := hI.1
  have h60 := hI.2.2.1
  refine lv_aload_n hx hb dX13_readNumber_0 rfl (lv_at hl 0 rfl) ?_
  refine lv_aload_n hx hb dX13_readNumber_1 rfl (lv_at hl 1 rfl) ?_
  refine z_callv (z_runV (rest := []) (As := [.ref (cs (30 + j))]) (n := 1) (ci := 16) hC hZ (met_X13_skip l D cs A m0 ad v g inp j hD hok hI h18 h19 hj) gv_X13_253 hd_X13_skip rfl mW_o rfl hl rfl (Nat.le_of_ble_eq_true rfl) ⟨Nat.le_of_ble_eq_true rfl, Nat.le_of_ble_eq_true rfl⟩ ⟨Nat.le_of_ble_eq_true rfl, Nat.le_of_ble_eq_true rfl⟩ dX13_readNumber_2) hZ (fun _ H locs hp2 hZ => ?_)
  obtain ⟨v_2, _, rfl, hok_1, hsf, rfl, hsk⟩ := hp2
  have hsz := zskip_ok (inp := inp) (zstr j) (v 18) (zstr_ne j) (by omega) (by omega)
  have h19b : v_2 19 = 0 ∨ v_2 19 = 1 := by
    rcases hsk with ⟨-, -, z⟩ | ⟨-, -, z⟩
    · exact Or.inr z
    · rw [z]; exact b2i_01 _
  have h18b : 0 ≤ v_2 18 ∧ v_2 18 ≤ inp.length := by
    rcases hsk with ⟨-, z, -⟩ | ⟨-, z, -⟩
    · rw [z]; exact h18
    · rw [z]; exact ⟨by omega, hsz.2.1⟩
  have hI3 : mI v_2 g inp := mI_of hI (hsf 17 (by decide) (by decide)) rfl
  refine lv_aload_n hx hb dX13_readNumber_5 rfl (lv_at hl 0 rfl) ?_
  refine lv_aload_n hx hb dX13_readNumber_6 rfl (lv_at hl 0 rfl) ?_
  refine m_get hC hZ 19 (x := .int (iI (v_2 19))) rfl (by decide) ql_X13_242 rfl dX13_readNumber_7 ?_
  have hr_3 : -2147483648 ≤ v_2 19 ∧ v_2 19 ≤ 2147483647 := hok_1.1 19
  refine z_if_ne (tgt := 20) hx hb dX13_readNumber_10 (by decide) (by omega) (fun c_4 => ?_) (fun c_4 => ?_)
  · skip
    refine z_iconst hx hb dX13_readNumber_20 ?_
    refine lv_goto (tgt := 25) hx hb dX13_readNumber_21 (by decide) ?_
    refine m_put hC hZ 19 (ty := .boolean) (by decide) ql_X13_242 rfl rfl rfl (Or.inr ⟨rfl, (by decide)⟩) rfl dX13_readNumber_25 (fun H locs hZ => ?_)
    have hok_5 := hok_1.v (k := 19) (x := 1) (by decide)
    have hend1 : (v 19 = 1 ∧ v_2 18 = v 18 ∧ (1 : Int) = 1 ∧ (0 : Int) = 0) ∨ (v 19 = 0 ∧ v_2 18 = (znum inp (zstr j) (v 18)).2.1 ∧ 1 = b2i (znum inp (zstr j) (v 18)).1 ∧ 0 = (znum inp (zstr j) (v 18)).2.2) := by
      rcases hsk with ⟨z1, z2, z3⟩ | ⟨z1, z2, z3⟩
      · exact Or.inl ⟨z1, z2, rfl, rfl⟩
      · right
        have hw : znum inp (zstr j) (v 18) = (true, (zskip inp (zstr j) (v 18)).2, 0) := by
          rcases b2i_01 (zskip inp (zstr j) (v 18)).1 with y | y
          · exact znum_n (b2i_0 y) (fun z => by rw [← z2] at z; omega)
          · exact znum_w (b2i_1 y)
        rw [hw]
        exact ⟨z1, z2, rfl, rfl⟩
    refine z_iconst hx hb dX13_readNumber_28 ?_
    refine lv_istore_n (lv' := [(2, .int (iI 0)), (0, .ref m0), (1, .ref (cs (30 + j)))]) hx hb dX13_readNumber_29 rfl hl (by decide) rfl (fun ls hl => ?_)
    refine z_iconst hx hb dX13_readNumber_30 ?_
    refine lv_istore_n (lv' := [(3, .int (iI 0)), (2, .int (iI 0)), (0, .ref m0), (1, .ref (cs (30 + j)))]) hx hb dX13_readNumber_31 rfl hl (by decide) rfl (fun ls hl => ?_)
    refine lv_iload_n hx hb dX13_readNumber_32 rfl (lv_at hl 0 rfl) ?_
    refine z_iconst hx hb dX13_readNumber_33 ?_
    refine z_icmp_ge (tgt := 78) hx hb dX13_readNumber_34 (by decide) (by decide) (by decide) (fun c_6 => ?_) (fun c_6 => ?_)
    · skip
      exfalso; omega
    · skip
      refine lv_aload_n hx hb dX13_readNumber_37 rfl (lv_at hl 2 rfl) ?_
      refine z_calli (z_runV (rest := []) (As := []) (n := 0) (ci := 16) hC hZ (met_X13_isDigit l D cs A m0 ad (upN v_2 19 1) g inp hD hok_5 (mI_of hI3 rfl rfl) (by show 0 ≤ v_2 18 ∧ v_2 18 ≤ (inp.length : Int); omega) (by show (1 : Int) = 0 ∨ (1 : Int) = 1; decide)) gv_X13_257 hd_X13_isDigit rfl mW_o rfl hl rfl (Nat.le_of_ble_eq_true rfl) ⟨Nat.le_of_ble_eq_true rfl, Nat.le_of_ble_eq_true rfl⟩ ⟨Nat.le_of_ble_eq_true rfl, Nat.le_of_ble_eq_true rfl⟩ dX13_readNumber_38) hZ (fun r38 _ H locs hp38 hZ => ?_)
      obtain ⟨_, _, rfl, _, rfl, rfl, hd_7⟩ := hp38
      replace hd_7 : (((1 : Int) = 0 ∧ 48 ≤ bh inp (v_2 18) ∧ bh inp (v_2 18) ≤ 57) ∧ r38 = 1) ∨ (¬ ((1 : Int) = 0 ∧ 48 ≤ bh inp (v_2 18) ∧ bh inp (v_2 18) ≤ 57) ∧ r38 = 0) := hd_7
      refine z_if_eq (tgt := 78) hx hb dX13_readNumber_41 (by decide) (by omega) (fun c_8 => ?_) (fun c_8 => ?_)
      · skip
        refine lv_iload_n hx hb dX13_readNumber_78 rfl (lv_at hl 1 rfl) ?_
        exact z_iret hC hr hlk hZ (by decide) (by decide) (⟨_, _, rfl, hok_5, (fun k h1 h2 => by rw [upN_n h2]; exact hsf k h1 h2), rfl, hend1⟩) dX13_readNumber_79
      · skip
        exfalso; omega
  · skip
    refine lv_aload_n hx hb dX13_readNumber_13 rfl (lv_at hl 0 rfl) ?_
    refine z_calli (z_runV (rest := [.ref m0]) (As := []) (n := 0) (ci := 16) hC hZ (met_X13_isDigit l D cs A m0 ad v_2 g inp hD hok_1 hI3 h18b h19b) gv_X13_257 hd_X13_isDigit rfl mW_o rfl hl rfl (Nat.le_of_ble_eq_true rfl) ⟨Nat.le_of_ble_eq_true rfl, Nat.le_of_ble_eq_true rfl⟩ ⟨Nat.le_of_ble_eq_true rfl, Nat.le_of_ble_eq_true rfl⟩ dX13_readNumber_14) hZ (fun r14 _ H locs hp14 hZ => ?_)
    obtain ⟨_, _, rfl, _, rfl, rfl, hd_9⟩ := hp14
    refine z_if_ne (tgt := 24) hx hb dX13_readNumber_17 (by decide) (by omega) (fun c_10 => ?_) (fun c_10 => ?_)
    · skip
      refine z_iconst hx hb dX13_readNumber_24 ?_
      refine m_put hC hZ 19 (ty := .boolean) (by decide) ql_X13_242 rfl rfl rfl (Or.inr ⟨rfl, (by decide)⟩) rfl dX13_readNumber_25 (fun H locs hZ => ?_)
      have hok_11 := hok_1.v (k := 19) (x := 0) (by decide)
      have hgo : v 19 = 0 ∧ v_2 18 = (zskip inp (zstr j) (v 18)).2 ∧ (zskip inp (zstr j) (v 18)).1 = false := by
        rcases hsk with ⟨z1, z2, z3⟩ | ⟨z1, z2, z3⟩
        · omega
        · exact ⟨z1, z2, b2i_0 (by omega)⟩
      have hdg1 : 48 ≤ bh inp (v_2 18) ∧ bh inp (v_2 18) ≤ 57 := by omega
      have hlt1 := bh_in (inp := inp) (a := v_2 18) (by omega) (by omega)
      have hin1 := bh_at hI3 (a := v_2 18) (by omega) (by rw [hI3.1]; omega)
      have hgo2 := hgo.2.1
      refine z_iconst hx hb dX13_readNumber_28 ?_
      refine lv_istore_n (lv' := [(2, .int (iI 0)), (0, .ref m0), (1, .ref (cs (30 + j)))]) hx hb dX13_readNumber_29 rfl hl (by decide) rfl (fun ls hl => ?_)
      refine z_iconst hx hb dX13_readNumber_30 ?_
      refine lv_istore_n (lv' := [(3, .int (iI 0)), (2, .int (iI 0)), (0, .ref m0), (1, .ref (cs (30 + j)))]) hx hb dX13_readNumber_31 rfl hl (by decide) rfl (fun ls hl => ?_)
      refine lv_iload_n hx hb dX13_readNumber_32 rfl (lv_at hl 0 rfl) ?_
      refine z_iconst hx hb dX13_readNumber_33 ?_
      refine z_icmp_ge (tgt := 78) hx hb dX13_readNumber_34 (by decide) (by decide) (by decide) (fun c_12 => ?_) (fun c_12 => ?_)
      · skip
        exfalso; omega
      · skip
        refine lv_aload_n hx hb dX13_readNumber_37 rfl (lv_at hl 2 rfl) ?_
        refine z_calli (z_runV (rest := []) (As := []) (n := 0) (ci := 16) hC hZ (met_X13_isDigit l D cs A m0 ad (upN v_2 19 0) g inp hD hok_11 (mI_of hI3 rfl rfl) (by show 0 ≤ v_2 18 ∧ v_2 18 ≤ (inp.length : Int); omega) (by show (0 : Int) = 0 ∨ (0 : Int) = 1; decide)) gv_X13_257 hd_X13_isDigit rfl mW_o rfl hl rfl (Nat.le_of_ble_eq_true rfl) ⟨Nat.le_of_ble_eq_true rfl, Nat.le_of_ble_eq_true rfl⟩ ⟨Nat.le_of_ble_eq_true rfl, Nat.le_of_ble_eq_true rfl⟩ dX13_readNumber_38) hZ (fun r38 _ H locs hp38 hZ => ?_)
        obtain ⟨_, _, rfl, _, rfl, rfl, hd_13⟩ := hp38
        replace hd_13 : (((0 : Int) = 0 ∧ 48 ≤ bh inp (v_2 18) ∧ bh inp (v_2 18) ≤ 57) ∧ r38 = 1) ∨ (¬ ((0 : Int) = 0 ∧ 48 ≤ bh inp (v_2 18) ∧ bh inp (v_2 18) ≤ 57) ∧ r38 = 0) := hd_13
        refine z_if_eq (tgt := 78) hx hb dX13_readNumber_41 (by decide) (by omega) (fun c_14 => ?_) (fun c_14 => ?_)
        · skip
          exfalso; omega
        · skip
          refine z_bipush hx hb dX13_readNumber_44 (by decide) ?_
          refine lv_iload_n hx hb dX13_readNumber_46 rfl (lv_at hl 1 rfl) ?_
          refine z_imul hx hb dX13_readNumber_47 ?_
          refine z_top (y := 0) (by decide) ?_
          refine lv_aload_n hx hb dX13_readNumber_48 rfl (lv_at hl 2 rfl) ?_
          refine m_get hC hZ 16 (x := .ref (ad 16)) rfl (by decide) ql_X13_42 rfl dX13_readNumber_49 ?_
          refine lv_aload_n hx hb dX13_readNumber_52 rfl (lv_at hl 2 rfl) ?_
          refine m_get hC hZ 18 (x := .int (iI (v_2 18))) rfl (by decide) ql_X13_235 rfl dX13_readNumber_53 ?_
          refine m_cald hC hZ hD 16 (by decide) (f := g 16) rfl rfl (by show _ ∧ _ < (60 : Int); omega) (by decide) dX13_readNumber_56 ?_
          have hr_15 : -2147483648 ≤ (g 16) (v_2 18) ∧ (g 16) (v_2 18) ≤ 2147483647 := hok_11.2 16 _
          refine z_top (y := bh inp (v_2 18)) hin1 ?_
          refine z_iadd hx hb dX13_readNumber_57 ?_
          refine z_bipush hx hb dX13_readNumber_58 (by decide) ?_
          refine z_isub hx hb dX13_readNumber_60 ?_
          refine lv_istore_n (lv' := [(2, .int (iI ((0 + (bh inp (v_2 18))) - 48))), (3, .int (iI 0)), (0, .ref m0), (1, .ref (cs (30 + j)))]) hx hb dX13_readNumber_61 rfl hl (by decide) rfl (fun ls hl => ?_)
          refine lv_aload_n hx hb dX13_readNumber_62 rfl (lv_at hl 2 rfl) ?_
          refine lv_dup hx hb dX13_readNumber_63 rfl ?_
          refine m_get hC hZ 18 (x := .int (iI (v_2 18))) rfl (by decide) ql_X13_235 rfl dX13_readNumber_64 ?_
          refine z_iconst hx hb dX13_readNumber_67 ?_
          refine z_iadd hx hb dX13_readNumber_68 ?_
          refine m_put hC hZ 18 (ty := .int) (by decide) ql_X13_235 rfl rfl rfl (Or.inl rfl) rfl dX13_readNumber_69 (fun H locs hZ => ?_)
          have hok_16 := hok_11.v (k := 18) (x := (v_2 18) + 1) (by omega)
          refine z_iinc (lv' := [(3, .int (iI 1)), (2, .int (iI ((0 + (bh inp (v_2 18))) - 48))), (0, .ref m0), (1, .ref (cs (30 + j)))]) hx hb dX13_readNumber_72 hl (k := 1) rfl (by decide) rfl (fun ls hl => ?_)
          refine lv_goto (tgt := 32) hx hb dX13_readNumber_75 (by decide) ?_
          refine lv_iload_n hx hb dX13_readNumber_32 rfl (lv_at hl 0 rfl) ?_
          refine z_iconst hx hb dX13_readNumber_33 ?_
          refine z_icmp_ge (tgt := 78) hx hb dX13_readNumber_34 (by decide) (by decide) (by decide) (fun c_17 => ?_) (fun c_17 => ?_)
          · skip
            exfalso; omega
          · skip
            refine lv_aload_n hx hb dX13_readNumber_37 rfl (lv_at hl 2 rfl) ?_
            refine z_calli (z_runV (rest := []) (As := []) (n := 0) (ci := 16) hC hZ (met_X13_isDigit l D cs A m0 ad (upN (upN v_2 19 0) 18 ((v_2 18) + 1)) g inp hD hok_16 (mI_of hI3 rfl rfl) (by show 0 ≤ (v_2 18) + 1 ∧ (v_2 18) + 1 ≤ (inp.length : Int); omega) (by show (0 : Int) = 0 ∨ (0 : Int) = 1; decide)) gv_X13_257 hd_X13_isDigit rfl mW_o rfl hl rfl (Nat.le_of_ble_eq_true rfl) ⟨Nat.le_of_ble_eq_true rfl, Nat.le_of_ble_eq_true rfl⟩ ⟨Nat.le_of_ble_eq_true rfl, Nat.le_of_ble_eq_true rfl⟩ dX13_readNumber_38) hZ (fun r38 _ H locs hp38 hZ => ?_)
            obtain ⟨_, _, rfl, _, rfl, rfl, hd_18⟩ := hp38
            replace hd_18 : (((0 : Int) = 0 ∧ 48 ≤ bh inp ((v_2 18) + 1) ∧ bh inp ((v_2 18) + 1) ≤ 57) ∧ r38 = 1) ∨ (¬ ((0 : Int) = 0 ∧ 48 ≤ bh inp ((v_2 18) + 1) ∧ bh inp ((v_2 18) + 1) ≤ 57) ∧ r38 = 0) := hd_18
            refine z_if_eq (tgt := 78) hx hb dX13_readNumber_41 (by decide) (by omega) (fun c_19 => ?_) (fun c_19 => ?_)
            · skip
              have hzn := znum_1 hgo.2.2 (by rw [← hgo2]; exact hdg1) (by rw [← hgo2]; omega)
              refine lv_iload_n hx hb dX13_readNumber_78 rfl (lv_at hl 1 rfl) ?_
              exact z_iret hC hr hlk hZ (by decide) (by decide) (⟨_, _, rfl, hok_16, (fun k h1 h2 => by rw [upN_n h1, upN_n h2]; exact hsf k h1 h2), rfl, (Or.inr ⟨hgo.1, by rw [hzn]; show _ = (zskip inp (zstr j) (v 18)).2 + 1; rw [← hgo2]; rfl, by rw [hzn]; rfl, by rw [hzn]; show _ = bh inp (zskip inp (zstr j) (v 18)).2 - 48; rw [← hgo2]; omega⟩)⟩) dX13_readNumber_79
            · skip
              have hlt2 := bh_in (inp := inp) (a := v_2 18 + 1) (by omega) (by omega)
              have hin2 := bh_at hI3 (a := v_2 18 + 1) (by omega) (by rw [hI3.1]; omega)
              have hzn := znum_2 hgo.2.2 (by rw [← hgo2]; exact hdg1) (by rw [← hgo2]; omega)
              refine z_bipush hx hb dX13_readNumber_44 (by decide) ?_
              refine lv_iload_n hx hb dX13_readNumber_46 rfl (lv_at hl 1 rfl) ?_
              refine z_imul hx hb dX13_readNumber_47 ?_
              refine lv_aload_n hx hb dX13_readNumber_48 rfl (lv_at hl 2 rfl) ?_
              refine m_get hC hZ 16 (x := .ref (ad 16)) rfl (by decide) ql_X13_42 rfl dX13_readNumber_49 ?_
              refine lv_aload_n hx hb dX13_readNumber_52 rfl (lv_at hl 2 rfl) ?_
              refine m_get hC hZ 18 (x := .int (iI ((v_2 18) + 1))) rfl (by decide) ql_X13_235 rfl dX13_readNumber_53 ?_
              refine m_cald hC hZ hD 16 (by decide) (f := g 16) rfl rfl (by show _ ∧ _ < (60 : Int); omega) (by decide) dX13_readNumber_56 ?_
              have hr_20 : -2147483648 ≤ (g 16) ((v_2 18) + 1) ∧ (g 16) ((v_2 18) + 1) ≤ 2147483647 := hok_16.2 16 _
              refine z_top (y := bh inp ((v_2 18) + 1)) hin2 ?_
              refine z_iadd hx hb dX13_readNumber_57 ?_
              refine z_bipush hx hb dX13_readNumber_58 (by decide) ?_
              refine z_isub hx hb dX13_readNumber_60 ?_
              refine lv_istore_n (lv' := [(2, .int (iI (((10 * ((0 + (bh inp (v_2 18))) - 48)) + (bh inp ((v_2 18) + 1))) - 48))), (3, .int (iI 1)), (0, .ref m0), (1, .ref (cs (30 + j)))]) hx hb dX13_readNumber_61 rfl hl (by decide) rfl (fun ls hl => ?_)
              refine lv_aload_n hx hb dX13_readNumber_62 rfl (lv_at hl 2 rfl) ?_
              refine lv_dup hx hb dX13_readNumber_63 rfl ?_
              refine m_get hC hZ 18 (x := .int (iI ((v_2 18) + 1))) rfl (by decide) ql_X13_235 rfl dX13_readNumber_64 ?_
              refine z_iconst hx hb dX13_readNumber_67 ?_
              refine z_iadd hx hb dX13_readNumber_68 ?_
              refine m_put hC hZ 18 (ty := .int) (by decide) ql_X13_235 rfl rfl rfl (Or.inl rfl) rfl dX13_readNumber_69 (fun H locs hZ => ?_)
              have hok_21 := hok_16.v (k := 18) (x := ((v_2 18) + 1) + 1) (by omega)
              refine z_iinc (lv' := [(3, .int (iI 2)), (2, .int (iI (((10 * ((0 + (bh inp (v_2 18))) - 48)) + (bh inp ((v_2 18) + 1))) - 48))), (0, .ref m0), (1, .ref (cs (30 + j)))]) hx hb dX13_readNumber_72 hl (k := 1) rfl (by decide) rfl (fun ls hl => ?_)
              refine lv_goto (tgt := 32) hx hb dX13_readNumber_75 (by decide) ?_
              refine lv_iload_n hx hb dX13_readNumber_32 rfl (lv_at hl 0 rfl) ?_
              refine z_iconst hx hb dX13_readNumber_33 ?_
              refine z_icmp_ge (tgt := 78) hx hb dX13_readNumber_34 (by decide) (by decide) (by decide) (fun c_22 => ?_) (fun c_22 => ?_)
              · skip
                refine lv_iload_n hx hb dX13_readNumber_78 rfl (lv_at hl 1 rfl) ?_
                exact z_iret hC hr hlk hZ (by decide) (by decide) (⟨_, _, rfl, hok_21, (fun k h1 h2 => by rw [upN_n h1, upN_n h1, upN_n h2]; exact hsf k h1 h2), rfl, (Or.inr ⟨hgo.1, by rw [hzn]; show _ = (zskip inp (zstr j) (v 18)).2 + 2; rw [← hgo2]; show _ + 1 + 1 = _; omega, by rw [hzn]; rfl, by rw [hzn]; show _ = 10 * (bh inp (zskip inp (zstr j) (v 18)).2 - 48) + (bh inp ((zskip inp (zstr j) (v 18)).2 + 1) - 48); rw [← hgo2]; omega⟩)⟩) dX13_readNumber_79
              · skip
                exfalso; omega
    · skip
      refine z_iconst hx hb dX13_readNumber_20 ?_
      refine lv_goto (tgt := 25) hx hb dX13_readNumber_21 (by decide) ?_
      refine m_put hC hZ 19 (ty := .boolean) (by decide) ql_X13_242 rfl rfl rfl (Or.inr ⟨rfl, (by decide)⟩) rfl dX13_readNumber_25 (fun H locs hZ => ?_)
      have hok_23 := hok_1.v (k := 19) (x := 1) (by decide)
      have hend1 : (v 19 = 1 ∧ v_2 18 = v 18 ∧ (1 : Int) = 1 ∧ (0 : Int) = 0) ∨ (v 19 = 0 ∧ v_2 18 = (znum inp (zstr j) (v 18)).2.1 ∧ 1 = b2i (znum inp (zstr j) (v 18)).1 ∧ 0 = (znum inp (zstr j) (v 18)).2.2) := by
        rcases hsk with ⟨z1, z2, z3⟩ | ⟨z1, z2, z3⟩
        · exact Or.inl ⟨z1, z2, rfl, rfl⟩
        · right
          have hw : znum inp (zstr j) (v 18) = (true, (zskip inp (zstr j) (v 18)).2, 0) := by
            rcases b2i_01 (zskip inp (zstr j) (v 18)).1 with y | y
            · exact znum_n (b2i_0 y) (fun z => by rw [← z2] at z; omega)
            · exact znum_w (b2i_1 y)
          rw [hw]
          exact ⟨z1, z2, rfl, rfl⟩
      refine z_iconst hx hb dX13_readNumber_28 ?_
      refine lv_istore_n (lv' := [(2, .int (iI 0)), (0, .ref m0), (1, .ref (cs (30 + j)))]) hx hb dX13_readNumber_29 rfl hl (by decide) rfl (fun ls hl => ?_)
      refine z_iconst hx hb dX13_readNumber_30 ?_
      refine lv_istore_n (lv' := [(3, .int (iI 0)), (2, .int (iI 0)), (0, .ref m0), (1, .ref (cs (30 + j)))]) hx hb dX13_readNumber_31 rfl hl (by decide) rfl (fun ls hl => ?_)
      refine lv_iload_n hx hb dX13_readNumber_32 rfl (lv_at hl 0 rfl) ?_
      refine z_iconst hx hb dX13_readNumber_33 ?_
      refine z_icmp_ge (tgt := 78) hx hb dX13_readNumber_34 (by decide) (by decide) (by decide) (fun c_24 => ?_) (fun c_24 => ?_)
      · skip
        exfalso; omega
      · skip
        refine lv_aload_n hx hb dX13_readNumber_37 rfl (lv_at hl 2 rfl) ?_
        refine z_calli (z_runV (rest := []) (As := []) (n := 0) (ci := 16) hC hZ (met_X13_isDigit l D cs A m0 ad (upN v_2 19 1) g inp hD hok_23 (mI_of hI3 rfl rfl) (by show 0 ≤ v_2 18 ∧ v_2 18 ≤ (inp.length : Int); omega) (by show (1 : Int) = 0 ∨ (1 : Int) = 1; decide)) gv_X13_257 hd_X13_isDigit rfl mW_o rfl hl rfl (Nat.le_of_ble_eq_true rfl) ⟨Nat.le_of_ble_eq_true rfl, Nat.le_of_ble_eq_true rfl⟩ ⟨Nat.le_of_ble_eq_true rfl, Nat.le_of_ble_eq_true rfl⟩ dX13_readNumber_38) hZ (fun r38 _ H locs hp38 hZ => ?_)
        obtain ⟨_, _, rfl, _, rfl, rfl, hd_25⟩ := hp38
        replace hd_25 : (((1 : Int) = 0 ∧ 48 ≤ bh inp (v_2 18) ∧ bh inp (v_2 18) ≤ 57) ∧ r38 = 1) ∨ (¬ ((1 : Int) = 0 ∧ 48 ≤ bh inp (v_2 18) ∧ bh inp (v_2 18) ≤ 57) ∧ r38 = 0) := hd_25
        refine z_if_eq (tgt := 78) hx hb dX13_readNumber_41 (by decide) (by omega) (fun c_26 => ?_) (fun c_26 => ?_)
        · skip
          refine lv_iload_n hx hb dX13_readNumber_78 rfl (lv_at hl 1 rfl) ?_
          exact z_iret hC hr hlk hZ (by decide) (by decide) (⟨_, _, rfl, hok_23, (fun k h1 h2 => by rw [upN_n h2]; exact hsf k h1 h2), rfl, hend1⟩) dX13_readNumber_79
        · skip
          exfalso; omega

