theorem zcmd_r {inp : List Int} {a : Int} (h1 : bh inp a = 112) (h2 : bh inp (a + 1) = 114) : zcmd inp a = ((zskip inp (zstr 2) a).1, (zskip inp (zstr 2) a).2, (114, 0, 0)) := by
  unfold zcmd; rw [if_pos ⟨h1, h2⟩]
theorem zcmd_p {inp : List Int} {a : Int} (h1 : bh inp a = 112) (h2 : ¬ bh inp (a + 1) = 114) : zcmd inp a = if (znum inp (zstr 1) a).1 = true then (true, (znum inp (zstr 1) a).2.1, (112, 0, 0)) else ((znum inp (zstr 5) (znum inp (zstr 1) a).2.1).1, (znum inp (zstr 5) (znum inp (zstr 1) a).2.1).2.1, (112, (znum inp (zstr 1) a).2.2, (znum inp (zstr 5) (znum inp (zstr 1) a).2.1).2.2)) := by
  unfold zcmd; rw [if_neg (fun q => h2 q.2), if_pos h1]
theorem zcmd_x {inp : List Int} {a : Int} (h1 : bh inp a = 100) (h2 : bh inp (a + 1) = 114) : zcmd inp a = ((znum inp (zstr 4) a).1, (znum inp (zstr 4) a).2.1, (120, (znum inp (zstr 4) a).2.2, 0)) := by
  unfold zcmd; rw [if_neg (fun q => by omega), if_neg (by omega), if_pos ⟨h1, h2⟩]
theorem zcmd_d {inp : List Int} {a : Int} (h1 : bh inp a = 100) (h2 : ¬ bh inp (a + 1) = 114) : zcmd inp a = ((znum inp (zstr 3) a).1, (znum inp (zstr 3) a).2.1, (100, (znum inp (zstr 3) a).2.2, 0)) := by
  unfold zcmd; rw [if_neg (fun q => by omega), if_neg (by omega), if_neg (fun q => h2 q.2), if_pos h1]
theorem zcmd_w {inp : List Int} {a : Int} (h1 : ¬ bh inp a = 112) (h2 : ¬ bh inp a = 100) : zcmd inp a = ((znum inp (zstr 0) a).1, (znum inp (zstr 0) a).2.1, (119, (znum inp (zstr 0) a).2.2, 0)) := by
  unfold zcmd; rw [if_neg (fun q => h1 q.1), if_neg h1, if_neg (fun q => h2 q.1), if_neg h2]
set_option maxHeartbeats 4000000 in
set_option maxRecDepth 100000 in
theorem met_X13_readCommand (l : Launch) (D : va_G) (cs : Nat → ClassId) (A : Nat → Prop) (m0 : Nat) (ad : Nat → Nat) (v : Nat → Int) (g : Nat → Int → Int)  (inp : List Int) (hD : mD m0 ad) (hok : mOK v g) (hI : mI v g inp) (h18 : 0 ≤ v 18 ∧ v 18 ≤ inp.length) (h19 : v 19 = 0 ∨ v 19 = 1) (h23 : 0 ≤ v 23 ∧ v 23 ≤ 11) : zM l D cs A yX13_readCommand cX13_readCommand 4 (none : Option Jvm.ClassFile.FieldType) 8 0 0 [.ref m0] (mW cs m0 ad v g) (mPv cs m0 ad (fun v1 g1 => (v 19 = 1 ∧ v = v1 ∧ g = g1) ∨ (v 19 = 0 ∧ (∀ k, k ≠ 18 → k ≠ 19 → k ≠ 23 → v1 k = v k) ∧ (∀ j, j ≠ 22 → g1 j = g j) ∧ v1 18 = (zcmd inp (v 18)).2.1 ∧ v1 19 = b2i (zcmd inp (v 18)).1 ∧ v1 23 = v 23 + 1 ∧ (∀ k, 0 ≤ k → k < 3 * v 23 → g1 22 k = g 22 k) ∧ ((zcmd inp (v 18)).1 = false → zcrow (g1 22) (v 23) (zcmd inp (v 18)).2.2)))) := by
  refine zM_of (own := RX13) (by decide) rfl (Nat.le_of_ble_eq_true rfl) ?_
  intro p e s m below meth c hC hr hlk hnm hZ ls hl
  have hx := hC.x
  have hb := hC.b
  have hl : lv_has ls 4 [(0, .ref m0)] := hl
  have h17 := hI.1
  have h60 := hI.2.2.1
  refine lv_aload_n hx hb dX13_readCommand_0 rfl (lv_at hl 0 rfl) ?_
  refine m_get hC hZ 19 (x := .int (iI (v 19))) rfl (by decide) ql_X13_242 rfl dX13_readCommand_1 ?_
  have hr_1 : -2147483648 ≤ v 19 ∧ v 19 ≤ 2147483647 := hok.1 19
  refine z_if_eq (tgt := 8) hx hb dX13_readCommand_4 (by decide) (by omega) (fun c_2 => ?_) (fun c_2 => ?_)
  · skip
    refine lv_aload_n hx hb dX13_readCommand_8 rfl (lv_at hl 0 rfl) ?_
    refine z_iconst hx hb dX13_readCommand_9 ?_
    refine z_calli (z_runV (rest := []) (As := [.int (iI 0)]) (n := 1) (ci := 16) hC hZ (met_X13_behind l D cs A m0 ad v g 0 inp hD hok hI h18 (by decide)) gv_X13_246 hd_X13_behind rfl mW_o rfl hl rfl (Nat.le_of_ble_eq_true rfl) ⟨Nat.le_of_ble_eq_true rfl, Nat.le_of_ble_eq_true rfl⟩ ⟨Nat.le_of_ble_eq_true rfl, Nat.le_of_ble_eq_true rfl⟩ dX13_readCommand_10) hZ (fun r10 _ H locs hp_3 hZ => ?_)
    obtain ⟨_, _, rfl, _, rfl, rfl, rfl⟩ := hp_3
    refine z_top (y := bh inp (v 18)) (congrArg (bh inp) (Int.add_zero _)) ?_
    have hbr_4 := bh_rng hI.2.2 (v 18) (by omega)
    refine lv_istore_n (lv' := [(1, .int (iI (bh inp (v 18)))), (0, .ref m0)]) hx hb dX13_readCommand_13 rfl hl (by decide) rfl (fun ls hl => ?_)
    refine lv_aload_n hx hb dX13_readCommand_14 rfl (lv_at hl 1 rfl) ?_
    refine z_iconst hx hb dX13_readCommand_15 ?_
    refine z_calli (z_runV (rest := []) (As := [.int (iI 1)]) (n := 1) (ci := 16) hC hZ (met_X13_behind l D cs A m0 ad v g 1 inp hD hok hI h18 (by decide)) gv_X13_246 hd_X13_behind rfl mW_o rfl hl rfl (Nat.le_of_ble_eq_true rfl) ⟨Nat.le_of_ble_eq_true rfl, Nat.le_of_ble_eq_true rfl⟩ ⟨Nat.le_of_ble_eq_true rfl, Nat.le_of_ble_eq_true rfl⟩ dX13_readCommand_16) hZ (fun r16 _ H locs hp_5 hZ => ?_)
    obtain ⟨_, _, rfl, _, rfl, rfl, rfl⟩ := hp_5
    have hbr_6 := bh_rng hI.2.2 (v 18 + 1) (by omega)
    refine lv_istore_n (lv' := [(2, .int (iI (bh inp (v 18 + 1)))), (1, .int (iI (bh inp (v 18)))), (0, .ref m0)]) hx hb dX13_readCommand_19 rfl hl (by decide) rfl (fun ls hl => ?_)
    refine z_iconst hx hb dX13_readCommand_20 ?_
    refine lv_aload_n hx hb dX13_readCommand_21 rfl (lv_at hl 2 rfl) ?_
    refine m_get hC hZ 23 (x := .int (iI (v 23))) rfl (by decide) ql_X13_261 rfl dX13_readCommand_22 ?_
    have hr_7 : -2147483648 ≤ v 23 ∧ v 23 ≤ 2147483647 := hok.1 23
    refine z_imul hx hb dX13_readCommand_25 ?_
    refine lv_istore_n (lv' := [(3, .int (iI (3 * (v 23)))), (2, .int (iI (bh inp (v 18 + 1)))), (1, .int (iI (bh inp (v 18)))), (0, .ref m0)]) hx hb dX13_readCommand_26 rfl hl (by decide) rfl (fun ls hl => ?_)
    refine lv_aload_n hx hb dX13_readCommand_27 rfl (lv_at hl 3 rfl) ?_
    refine lv_dup hx hb dX13_readCommand_28 rfl ?_
    refine m_get hC hZ 23 (x := .int (iI (v 23))) rfl (by decide) ql_X13_261 rfl dX13_readCommand_29 ?_
    have hr_8 : -2147483648 ≤ v 23 ∧ v 23 ≤ 2147483647 := hok.1 23
    refine z_iconst hx hb dX13_readCommand_32 ?_
    refine z_iadd hx hb dX13_readCommand_33 ?_
    refine m_put hC hZ 23 (ty := .int) (by decide) ql_X13_261 rfl rfl rfl (Or.inl rfl) rfl dX13_readCommand_34 (fun H locs hZ => ?_)
    have hok_9 := hok.v (k := 23) (x := (v 23) + 1) (by omega)
    refine lv_iload_n hx hb dX13_readCommand_37 rfl (lv_at hl 2 rfl) ?_
    refine z_bipush hx hb dX13_readCommand_38 (by decide) ?_
    refine z_icmp_ne (tgt := 67) hx hb dX13_readCommand_40 (by decide) (by omega) (by decide) (fun c_10 => ?_) (fun c_10 => ?_)
    · skip
      refine lv_iload_n hx hb dX13_readCommand_67 rfl (lv_at hl 2 rfl) ?_
      refine z_bipush hx hb dX13_readCommand_68 (by decide) ?_
      refine z_icmp_ne (tgt := 114) hx hb dX13_readCommand_70 (by decide) (by omega) (by decide) (fun c_11 => ?_) (fun c_11 => ?_)
      · skip
        refine lv_iload_n hx hb dX13_readCommand_114 rfl (lv_at hl 2 rfl) ?_
        refine z_bipush hx hb dX13_readCommand_115 (by decide) ?_
        refine z_icmp_ne (tgt := 152) hx hb dX13_readCommand_117 (by decide) (by omega) (by decide) (fun c_12 => ?_) (fun c_12 => ?_)
        · skip
          refine lv_iload_n hx hb dX13_readCommand_152 rfl (lv_at hl 2 rfl) ?_
          refine z_bipush hx hb dX13_readCommand_153 (by decide) ?_
          refine z_icmp_ne (tgt := 184) hx hb dX13_readCommand_155 (by decide) (by omega) (by decide) (fun c_13 => ?_) (fun c_13 => ?_)
          · skip
            refine lv_aload_n hx hb dX13_readCommand_184 rfl (lv_at hl 3 rfl) ?_
            refine m_get hC hZ 22 (x := .ref (ad 22)) rfl (by decide) ql_X13_52 rfl dX13_readCommand_185 ?_
            refine lv_iload_n hx hb dX13_readCommand_188 rfl (lv_at hl 0 rfl) ?_
            refine z_bipush hx hb dX13_readCommand_189 (by decide) ?_
            refine m_iast hC hZ hD 22 (by decide) (f := g 22) rfl rfl (by show _ ∧ _ < (180 : Int); omega) (by decide) dX13_readCommand_191 (fun H locs hZ => ?_)
            have hok_14 := hok_9.g (k := 22) (i := (3 * (v 23))) (x := 119) (f := g 22) rfl (by decide)
            refine lv_aload_n hx hb dX13_readCommand_192 rfl (lv_at hl 3 rfl) ?_
            refine m_get hC hZ 22 (x := .ref (ad 22)) rfl (by decide) ql_X13_52 rfl dX13_readCommand_193 ?_
            refine lv_iload_n hx hb dX13_readCommand_196 rfl (lv_at hl 0 rfl) ?_
            refine z_iconst hx hb dX13_readCommand_197 ?_
            refine z_iadd hx hb dX13_readCommand_198 ?_
            refine lv_aload_n hx hb dX13_readCommand_199 rfl (lv_at hl 3 rfl) ?_
            refine z_ldcS hC (List.mem_of_getElem? (i := 0) rfl) dX13_readCommand_200 ?_
            refine z_calli (z_runV (rest := [.int (iI ((3 * (v 23)) + 1)), .ref (ad 22)]) (As := [.ref (cs (30 + 0))]) (n := 1) (ci := 16) hC hZ (met_X13_readNumber l D cs A m0 ad (upN v 23 ((v 23) + 1)) (upG g 22 (upI (g 22) (3 * (v 23)) 119)) inp 0 hD hok_14 (mI_of hI rfl rfl) h18 h19 (by decide)) gv_X13_268 hd_X13_readNumber rfl mW_o rfl hl rfl (Nat.le_of_ble_eq_true rfl) ⟨Nat.le_of_ble_eq_true rfl, Nat.le_of_ble_eq_true rfl⟩ ⟨Nat.le_of_ble_eq_true rfl, Nat.le_of_ble_eq_true rfl⟩ dX13_readCommand_203) hZ (fun r203 _ H locs hp203 hZ => ?_)
            obtain ⟨v_16, _, rfl, hok_15, hrf203, rfl, hrn203⟩ := hp203
            have hzo203 := znum_ok (inp := inp) (zstr_ne 0) (a := (v 18)) (by omega) (by omega)
            have hr203 : 0 ≤ r203 ∧ r203 ≤ 99 := by
              rcases hrn203 with ⟨-, -, -, z⟩ | ⟨-, -, -, z⟩
              · omega
              · rw [z]; exact hzo203.2.2.1
            refine m_iast hC hZ hD 22 (by decide) (f := upI (g 22) (3 * (v 23)) 119) rfl rfl (by show _ ∧ _ < (180 : Int); omega) (by decide) dX13_readCommand_206 (fun H locs hZ => ?_)
            have hok_17 := hok_15.g (k := 22) (i := ((3 * (v 23)) + 1)) (x := r203) (f := upI (g 22) (3 * (v 23)) 119) rfl (by omega)
            exact z_vret hC hr hlk hZ (by decide) (by decide) (⟨_, _, rfl, hok_17, by
                have hv0 : v 19 = 0 := by omega
                rw [zcmd_w (by omega) (by omega)]
                rcases hrn203 with ⟨z1, -, -, -⟩ | ⟨z1, z2, z3, z4⟩
                · exact absurd (show v 19 = 1 from z1) (by omega)
                · refine Or.inr ⟨hv0, fun k h1 h2 h3 => (hrf203 k h1 h2).trans (upN_n h3), fun j hj => by rw [upG_n hj, upG_n hj], z2, z3, (hrf203 23 (by decide) (by decide)).trans upN_s, fun k h1 h2 => by rw [upG_s, upI_n (by omega), upI_n (by omega)], fun _ => ⟨?_, fun _ => ?_, fun z => by cases z⟩⟩
                  · rw [upG_s, upI_n (by omega), upI_s]
                  · rw [upG_s, upI_s]; exact z4⟩) dX13_readCommand_207
          · skip
            exfalso; omega
        · skip
          refine lv_iload_n hx hb dX13_readCommand_120 rfl (lv_at hl 1 rfl) ?_
          refine z_bipush hx hb dX13_readCommand_121 (by decide) ?_
          refine z_icmp_ne (tgt := 152) hx hb dX13_readCommand_123 (by decide) (by omega) (by decide) (fun c_18 => ?_) (fun c_18 => ?_)
          · skip
            refine lv_iload_n hx hb dX13_readCommand_152 rfl (lv_at hl 2 rfl) ?_
            refine z_bipush hx hb dX13_readCommand_153 (by decide) ?_
            refine z_icmp_ne (tgt := 184) hx hb dX13_readCommand_155 (by decide) (by omega) (by decide) (fun c_19 => ?_) (fun c_19 => ?_)
            · skip
              exfalso; omega
            · skip
              refine lv_aload_n hx hb dX13_readCommand_158 rfl (lv_at hl 3 rfl) ?_
              refine m_get hC hZ 22 (x := .ref (ad 22)) rfl (by decide) ql_X13_52 rfl dX13_readCommand_159 ?_
              refine lv_iload_n hx hb dX13_readCommand_162 rfl (lv_at hl 0 rfl) ?_
              refine z_bipush hx hb dX13_readCommand_163 (by decide) ?_
              refine m_iast hC hZ hD 22 (by decide) (f := g 22) rfl rfl (by show _ ∧ _ < (180 : Int); omega) (by decide) dX13_readCommand_165 (fun H locs hZ => ?_)
              have hok_20 := hok_9.g (k := 22) (i := (3 * (v 23))) (x := 100) (f := g 22) rfl (by decide)
              refine lv_aload_n hx hb dX13_readCommand_166 rfl (lv_at hl 3 rfl) ?_
              refine m_get hC hZ 22 (x := .ref (ad 22)) rfl (by decide) ql_X13_52 rfl dX13_readCommand_167 ?_
              refine lv_iload_n hx hb dX13_readCommand_170 rfl (lv_at hl 0 rfl) ?_
              refine z_iconst hx hb dX13_readCommand_171 ?_
              refine z_iadd hx hb dX13_readCommand_172 ?_
              refine lv_aload_n hx hb dX13_readCommand_173 rfl (lv_at hl 3 rfl) ?_
              refine z_ldcS hC (List.mem_of_getElem? (i := 3) rfl) dX13_readCommand_174 ?_
              refine z_calli (z_runV (rest := [.int (iI ((3 * (v 23)) + 1)), .ref (ad 22)]) (As := [.ref (cs (30 + 3))]) (n := 1) (ci := 16) hC hZ (met_X13_readNumber l D cs A m0 ad (upN v 23 ((v 23) + 1)) (upG g 22 (upI (g 22) (3 * (v 23)) 100)) inp 3 hD hok_20 (mI_of hI rfl rfl) h18 h19 (by decide)) gv_X13_268 hd_X13_readNumber rfl mW_o rfl hl rfl (Nat.le_of_ble_eq_true rfl) ⟨Nat.le_of_ble_eq_true rfl, Nat.le_of_ble_eq_true rfl⟩ ⟨Nat.le_of_ble_eq_true rfl, Nat.le_of_ble_eq_true rfl⟩ dX13_readCommand_177) hZ (fun r177 _ H locs hp177 hZ => ?_)
              obtain ⟨v_22, _, rfl, hok_21, hrf177, rfl, hrn177⟩ := hp177
              have hzo177 := znum_ok (inp := inp) (zstr_ne 3) (a := (v 18)) (by omega) (by omega)
              have hr177 : 0 ≤ r177 ∧ r177 ≤ 99 := by
                rcases hrn177 with ⟨-, -, -, z⟩ | ⟨-, -, -, z⟩
                · omega
                · rw [z]; exact hzo177.2.2.1
              refine m_iast hC hZ hD 22 (by decide) (f := upI (g 22) (3 * (v 23)) 100) rfl rfl (by show _ ∧ _ < (180 : Int); omega) (by decide) dX13_readCommand_180 (fun H locs hZ => ?_)
              have hok_23 := hok_21.g (k := 22) (i := ((3 * (v 23)) + 1)) (x := r177) (f := upI (g 22) (3 * (v 23)) 100) rfl (by omega)
              refine lv_goto (tgt := 207) hx hb dX13_readCommand_181 (by decide) ?_
              exact z_vret hC hr hlk hZ (by decide) (by decide) (⟨_, _, rfl, hok_23, by
                  have hv0 : v 19 = 0 := by omega
                  rw [zcmd_d (by omega) (by omega)]
                  rcases hrn177 with ⟨z1, -, -, -⟩ | ⟨z1, z2, z3, z4⟩
                  · exact absurd (show v 19 = 1 from z1) (by omega)
                  · refine Or.inr ⟨hv0, fun k h1 h2 h3 => (hrf177 k h1 h2).trans (upN_n h3), fun j hj => by rw [upG_n hj, upG_n hj], z2, z3, (hrf177 23 (by decide) (by decide)).trans upN_s, fun k h1 h2 => by rw [upG_s, upI_n (by omega), upI_n (by omega)], fun _ => ⟨?_, fun _ => ?_, fun z => by cases z⟩⟩
                    · rw [upG_s, upI_n (by omega), upI_s]
                    · rw [upG_s, upI_s]; exact z4⟩) dX13_readCommand_207
          · skip
            refine lv_aload_n hx hb dX13_readCommand_126 rfl (lv_at hl 3 rfl) ?_
            refine m_get hC hZ 22 (x := .ref (ad 22)) rfl (by decide) ql_X13_52 rfl dX13_readCommand_127 ?_
            refine lv_iload_n hx hb dX13_readCommand_130 rfl (lv_at hl 0 rfl) ?_
            refine z_bipush hx hb dX13_readCommand_131 (by decide) ?_
            refine m_iast hC hZ hD 22 (by decide) (f := g 22) rfl rfl (by show _ ∧ _ < (180 : Int); omega) (by decide) dX13_readCommand_133 (fun H locs hZ => ?_)
            have hok_24 := hok_9.g (k := 22) (i := (3 * (v 23))) (x := 120) (f := g 22) rfl (by decide)
            refine lv_aload_n hx hb dX13_readCommand_134 rfl (lv_at hl 3 rfl) ?_
            refine m_get hC hZ 22 (x := .ref (ad 22)) rfl (by decide) ql_X13_52 rfl dX13_readCommand_135 ?_
            refine lv_iload_n hx hb dX13_readCommand_138 rfl (lv_at hl 0 rfl) ?_
            refine z_iconst hx hb dX13_readCommand_139 ?_
            refine z_iadd hx hb dX13_readCommand_140 ?_
            refine lv_aload_n hx hb dX13_readCommand_141 rfl (lv_at hl 3 rfl) ?_
            refine z_ldcS hC (List.mem_of_getElem? (i := 4) rfl) dX13_readCommand_142 ?_
            refine z_calli (z_runV (rest := [.int (iI ((3 * (v 23)) + 1)), .ref (ad 22)]) (As := [.ref (cs (30 + 4))]) (n := 1) (ci := 16) hC hZ (met_X13_readNumber l D cs A m0 ad (upN v 23 ((v 23) + 1)) (upG g 22 (upI (g 22) (3 * (v 23)) 120)) inp 4 hD hok_24 (mI_of hI rfl rfl) h18 h19 (by decide)) gv_X13_268 hd_X13_readNumber rfl mW_o rfl hl rfl (Nat.le_of_ble_eq_true rfl) ⟨Nat.le_of_ble_eq_true rfl, Nat.le_of_ble_eq_true rfl⟩ ⟨Nat.le_of_ble_eq_true rfl, Nat.le_of_ble_eq_true rfl⟩ dX13_readCommand_145) hZ (fun r145 _ H locs hp145 hZ => ?_)
            obtain ⟨v_26, _, rfl, hok_25, hrf145, rfl, hrn145⟩ := hp145
            have hzo145 := znum_ok (inp := inp) (zstr_ne 4) (a := (v 18)) (by omega) (by omega)
            have hr145 : 0 ≤ r145 ∧ r145 ≤ 99 := by
              rcases hrn145 with ⟨-, -, -, z⟩ | ⟨-, -, -, z⟩
              · omega
              · rw [z]; exact hzo145.2.2.1
            refine m_iast hC hZ hD 22 (by decide) (f := upI (g 22) (3 * (v 23)) 120) rfl rfl (by show _ ∧ _ < (180 : Int); omega) (by decide) dX13_readCommand_148 (fun H locs hZ => ?_)
            have hok_27 := hok_25.g (k := 22) (i := ((3 * (v 23)) + 1)) (x := r145) (f := upI (g 22) (3 * (v 23)) 120) rfl (by omega)
            refine lv_goto (tgt := 207) hx hb dX13_readCommand_149 (by decide) ?_
            exact z_vret hC hr hlk hZ (by decide) (by decide) (⟨_, _, rfl, hok_27, by
                have hv0 : v 19 = 0 := by omega
                rw [zcmd_x (by omega) (by omega)]
                rcases hrn145 with ⟨z1, -, -, -⟩ | ⟨z1, z2, z3, z4⟩
                · exact absurd (show v 19 = 1 from z1) (by omega)
                · refine Or.inr ⟨hv0, fun k h1 h2 h3 => (hrf145 k h1 h2).trans (upN_n h3), fun j hj => by rw [upG_n hj, upG_n hj], z2, z3, (hrf145 23 (by decide) (by decide)).trans upN_s, fun k h1 h2 => by rw [upG_s, upI_n (by omega), upI_n (by omega)], fun _ => ⟨?_, fun _ => ?_, fun z => by cases z⟩⟩
                  · rw [upG_s, upI_n (by omega), upI_s]
                  · rw [upG_s, upI_s]; exact z4⟩) dX13_readCommand_207
      · skip
        exfalso; omega
    · skip
      refine lv_iload_n hx hb dX13_readCommand_43 rfl (lv_at hl 1 rfl) ?_
      refine z_bipush hx hb dX13_readCommand_44 (by decide) ?_
      refine z_icmp_ne (tgt := 67) hx hb dX13_readCommand_46 (by decide) (by omega) (by decide) (fun c_28 => ?_) (fun c_28 => ?_)
      · skip
        refine lv_iload_n hx hb dX13_readCommand_67 rfl (lv_at hl 2 rfl) ?_
        refine z_bipush hx hb dX13_readCommand_68 (by decide) ?_
        refine z_icmp_ne (tgt := 114) hx hb dX13_readCommand_70 (by decide) (by omega) (by decide) (fun c_29 => ?_) (fun c_29 => ?_)
        · skip
          exfalso; omega
        · skip
          refine lv_aload_n hx hb dX13_readCommand_73 rfl (lv_at hl 3 rfl) ?_
          refine m_get hC hZ 22 (x := .ref (ad 22)) rfl (by decide) ql_X13_52 rfl dX13_readCommand_74 ?_
          refine lv_iload_n hx hb dX13_readCommand_77 rfl (lv_at hl 0 rfl) ?_
          refine z_bipush hx hb dX13_readCommand_78 (by decide) ?_
          refine m_iast hC hZ hD 22 (by decide) (f := g 22) rfl rfl (by show _ ∧ _ < (180 : Int); omega) (by decide) dX13_readCommand_80 (fun H locs hZ => ?_)
          have hok_30 := hok_9.g (k := 22) (i := (3 * (v 23))) (x := 112) (f := g 22) rfl (by decide)
          refine lv_aload_n hx hb dX13_readCommand_81 rfl (lv_at hl 3 rfl) ?_
          refine m_get hC hZ 22 (x := .ref (ad 22)) rfl (by decide) ql_X13_52 rfl dX13_readCommand_82 ?_
          refine lv_iload_n hx hb dX13_readCommand_85 rfl (lv_at hl 0 rfl) ?_
          refine z_iconst hx hb dX13_readCommand_86 ?_
          refine z_iadd hx hb dX13_readCommand_87 ?_
          refine lv_aload_n hx hb dX13_readCommand_88 rfl (lv_at hl 3 rfl) ?_
          refine z_ldcS hC (List.mem_of_getElem? (i := 1) rfl) dX13_readCommand_89 ?_
          refine z_calli (z_runV (rest := [.int (iI ((3 * (v 23)) + 1)), .ref (ad 22)]) (As := [.ref (cs (30 + 1))]) (n := 1) (ci := 16) hC hZ (met_X13_readNumber l D cs A m0 ad (upN v 23 ((v 23) + 1)) (upG g 22 (upI (g 22) (3 * (v 23)) 112)) inp 1 hD hok_30 (mI_of hI rfl rfl) h18 h19 (by decide)) gv_X13_268 hd_X13_readNumber rfl mW_o rfl hl rfl (Nat.le_of_ble_eq_true rfl) ⟨Nat.le_of_ble_eq_true rfl, Nat.le_of_ble_eq_true rfl⟩ ⟨Nat.le_of_ble_eq_true rfl, Nat.le_of_ble_eq_true rfl⟩ dX13_readCommand_92) hZ (fun r92 _ H locs hp92 hZ => ?_)
          obtain ⟨v_32, _, rfl, hok_31, hrf92, rfl, hrn92⟩ := hp92
          have hzo92 := znum_ok (inp := inp) (zstr_ne 1) (a := (v 18)) (by omega) (by omega)
          have hr92 : 0 ≤ r92 ∧ r92 ≤ 99 := by
            rcases hrn92 with ⟨-, -, -, z⟩ | ⟨-, -, -, z⟩
            · omega
            · rw [z]; exact hzo92.2.2.1
          have h18c : 0 ≤ v_32 18 ∧ v_32 18 ≤ inp.length := by
            rcases hrn92 with ⟨-, z, -, -⟩ | ⟨-, z, -, -⟩
            · rw [z]; exact h18
            · rw [z]; exact ⟨by have := hzo92.1; show 0 ≤ (znum inp (zstr 1) (v 18)).2.1; omega, hzo92.2.1⟩
          refine m_iast hC hZ hD 22 (by decide) (f := upI (g 22) (3 * (v 23)) 112) rfl rfl (by show _ ∧ _ < (180 : Int); omega) (by decide) dX13_readCommand_95 (fun H locs hZ => ?_)
          have hok_33 := hok_31.g (k := 22) (i := ((3 * (v 23)) + 1)) (x := r92) (f := upI (g 22) (3 * (v 23)) 112) rfl (by omega)
          refine lv_aload_n hx hb dX13_readCommand_96 rfl (lv_at hl 3 rfl) ?_
          refine m_get hC hZ 22 (x := .ref (ad 22)) rfl (by decide) ql_X13_52 rfl dX13_readCommand_97 ?_
          refine lv_iload_n hx hb dX13_readCommand_100 rfl (lv_at hl 0 rfl) ?_
          refine z_iconst hx hb dX13_readCommand_101 ?_
          refine z_iadd hx hb dX13_readCommand_102 ?_
          refine lv_aload_n hx hb dX13_readCommand_103 rfl (lv_at hl 3 rfl) ?_
          refine z_ldcS hC (List.mem_of_getElem? (i := 5) rfl) dX13_readCommand_104 ?_
          refine z_calli (z_runV (rest := [.int (iI ((3 * (v 23)) + 2)), .ref (ad 22)]) (As := [.ref (cs (30 + 5))]) (n := 1) (ci := 16) hC hZ (met_X13_readNumber l D cs A m0 ad v_32 (upG (upG g 22 (upI (g 22) (3 * (v 23)) 112)) 22 (upI (upI (g 22) (3 * (v 23)) 112) ((3 * (v 23)) + 1) r92)) inp 5 hD hok_33 (mI_of (mI_of hI rfl rfl) (hrf92 17 (by decide) (by decide)) rfl) h18c (by rcases hrn92 with ⟨-, -, z, -⟩ | ⟨-, -, z, -⟩; exact Or.inr z; rw [z]; exact b2i_01 _) (by decide)) gv_X13_268 hd_X13_readNumber rfl mW_o rfl hl rfl (Nat.le_of_ble_eq_true rfl) ⟨Nat.le_of_ble_eq_true rfl, Nat.le_of_ble_eq_true rfl⟩ ⟨Nat.le_of_ble_eq_true rfl, Nat.le_of_ble_eq_true rfl⟩ dX13_readCommand_107) hZ (fun r107 _ H locs hp107 hZ => ?_)
          obtain ⟨v_35, _, rfl, hok_34, hrf107, rfl, hrn107⟩ := hp107
          have hzo107 := znum_ok (inp := inp) (zstr_ne 5) (a := (v_32 18)) (by omega) (by omega)
          have hr107 : 0 ≤ r107 ∧ r107 ≤ 99 := by
            rcases hrn107 with ⟨-, -, -, z⟩ | ⟨-, -, -, z⟩
            · omega
            · rw [z]; exact hzo107.2.2.1
          refine m_iast hC hZ hD 22 (by decide) (f := upI (upI (g 22) (3 * (v 23)) 112) ((3 * (v 23)) + 1) r92) rfl rfl (by show _ ∧ _ < (180 : Int); omega) (by decide) dX13_readCommand_110 (fun H locs hZ => ?_)
          have hok_36 := hok_34.g (k := 22) (i := ((3 * (v 23)) + 2)) (x := r107) (f := upI (upI (g 22) (3 * (v 23)) 112) ((3 * (v 23)) + 1) r92) rfl (by omega)
          refine lv_goto (tgt := 207) hx hb dX13_readCommand_111 (by decide) ?_
          exact z_vret hC hr hlk hZ (by decide) (by decide) (⟨_, _, rfl, hok_36, by
              have hv0 : v 19 = 0 := by omega
              rw [zcmd_p (by omega) (by omega)]
              rcases hrn92 with ⟨z1, -, -, -⟩ | ⟨z1, z2, z3, z4⟩
              · exact absurd (show v 19 = 1 from z1) (by omega)
              · have fr : ∀ k, k ≠ 18 → k ≠ 19 → k ≠ 23 → v_35 k = v k := fun k h1 h2 h3 => (hrf107 k h1 h2).trans ((hrf92 k h1 h2).trans (upN_n h3))
                have f23 : v_35 23 = v 23 + 1 := (hrf107 23 (by decide) (by decide)).trans ((hrf92 23 (by decide) (by decide)).trans upN_s)
                by_cases y : (znum inp (zstr 1) (v 18)).1 = true
                · rw [if_pos y]
                  rcases hrn107 with ⟨y1, y2, y3, y4⟩ | ⟨y1, y2, y3, y4⟩
                  · refine Or.inr ⟨hv0, fr, fun j hj => by rw [upG_n hj, upG_n hj, upG_n hj], y2.trans z2, y3, f23, fun k h1 h2 => by rw [upG_s, upI_n (by omega), upI_n (by omega), upI_n (by omega)], fun z => by cases z⟩
                  · exfalso
                    have z3 : _ = b2i (znum inp (zstr 1) (v 18)).1 := z3
                    rw [y] at z3
                    have : b2i true = 1 := rfl
                    omega
                · rw [if_neg y]
                  have y := Bool.eq_false_iff.mpr y
                  rcases hrn107 with ⟨y1, y2, y3, y4⟩ | ⟨y1, y2, y3, y4⟩
                  · exfalso
                    have z3 : _ = b2i (znum inp (zstr 1) (v 18)).1 := z3
                    rw [y] at z3
                    have : b2i false = 0 := rfl
                    omega
                  · rw [show _ = (znum inp (zstr 1) (v 18)).2.1 from z2] at y2 y3 y4
                    refine Or.inr ⟨hv0, fr, fun j hj => by rw [upG_n hj, upG_n hj, upG_n hj], y2, y3, f23, fun k h1 h2 => by rw [upG_s, upI_n (by omega), upI_n (by omega), upI_n (by omega)], fun _ => ⟨?_, fun _ => ?_, fun _ => ?_⟩⟩
                    · rw [upG_s, upI_n (by omega), upI_n (by omega), upI_s]
                    · rw [upG_s, upI_n (by omega), upI_s]; exact z4
                    · rw [upG_s, upI_s]; exact y4⟩) dX13_readCommand_207
      · skip
        refine lv_aload_n hx hb dX13_readCommand_49 rfl (lv_at hl 3 rfl) ?_
        refine m_get hC hZ 22 (x := .ref (ad 22)) rfl (by decide) ql_X13_52 rfl dX13_readCommand_50 ?_
        refine lv_iload_n hx hb dX13_readCommand_53 rfl (lv_at hl 0 rfl) ?_
        refine z_bipush hx hb dX13_readCommand_54 (by decide) ?_
        refine m_iast hC hZ hD 22 (by decide) (f := g 22) rfl rfl (by show _ ∧ _ < (180 : Int); omega) (by decide) dX13_readCommand_56 (fun H locs hZ => ?_)
        have hok_37 := hok_9.g (k := 22) (i := (3 * (v 23))) (x := 114) (f := g 22) rfl (by decide)
        refine lv_aload_n hx hb dX13_readCommand_57 rfl (lv_at hl 3 rfl) ?_
        refine z_ldcS hC (List.mem_of_getElem? (i := 2) rfl) dX13_readCommand_58 ?_
        refine z_callv (z_runV (rest := []) (As := [.ref (cs (30 + 2))]) (n := 1) (ci := 16) hC hZ (met_X13_skip l D cs A m0 ad (upN v 23 ((v 23) + 1)) (upG g 22 (upI (g 22) (3 * (v 23)) 114)) inp 2 hD hok_37 (mI_of hI rfl rfl) h18 h19 (by decide)) gv_X13_253 hd_X13_skip rfl mW_o rfl hl rfl (Nat.le_of_ble_eq_true rfl) ⟨Nat.le_of_ble_eq_true rfl, Nat.le_of_ble_eq_true rfl⟩ ⟨Nat.le_of_ble_eq_true rfl, Nat.le_of_ble_eq_true rfl⟩ dX13_readCommand_61) hZ (fun _ H locs hp61 hZ => ?_)
        obtain ⟨v_39, _, rfl, hok_38, hsf, rfl, hsk⟩ := hp61
        refine lv_goto (tgt := 207) hx hb dX13_readCommand_64 (by decide) ?_
        exact z_vret hC hr hlk hZ (by decide) (by decide) (⟨_, _, rfl, hok_38, by
            have hv0 : v 19 = 0 := by omega
            rw [zcmd_r (by omega) (by omega)]
            have hsk2 := hsk
            rcases hsk2 with ⟨z1, -, -⟩ | ⟨z1, z2, z3⟩
            · exact absurd (show v 19 = 1 from z1) (by omega)
            · refine Or.inr ⟨hv0, fun k h1 h2 h3 => (hsf k h1 h2).trans (upN_n h3), fun j hj => upG_n hj, z2, z3, (hsf 23 (by decide) (by decide)).trans upN_s, fun k h1 h2 => by rw [upG_s, upI_n (by omega)], fun _ => ⟨by rw [upG_s, upI_s], fun z => absurd rfl z, fun z => by cases z⟩⟩⟩) dX13_readCommand_207
  · skip
    exact z_vret hC hr hlk hZ (by decide) (by decide) (⟨_, _, rfl, hok, Or.inl ⟨by omega, rfl, rfl⟩⟩) dX13_readCommand_7

set_option maxHeartbeats 4000000 in
set_option maxRecDepth 100000 in
theorem met_X13_does (l : Launch) (D : va_G) (cs : Nat → ClassId) (A : Nat → Prop) (m0 : Nat) (ad : Nat → Nat) (v : Nat → Int) (g : Nat → Int → Int) (k : Int) (q : zCm) (N : Nat) (c0 : zCo) (hD : mD m0 ad) (hok : mOK v g) (hR : mR (g 0) c0) (hK : cOK N c0) (hN : N ≤ 1000) (hk : 0 ≤ k ∧ k ≤ 50) (hcr : zcrow (g 22) k q) (hcm : cmOK q) : zM l D cs A yX13_does cX13_does 4 (none : Option Jvm.ClassFile.FieldType) 7 0 0 [.ref m0, .int (iI k)] (mW cs m0 ad v g) (mPv cs m0 ad (fun v1 g1 => ∃ r, mDo v g r v1 g1 (zdo c0 q) v)) := by
  refine zM_of (own := RX13) (by decide) rfl (Nat.le_of_ble_eq_true rfl) ?_
  intro p e s m below meth c hC hr hlk hnm hZ ls hl
  have hx := hC.x
  have hb := hC.b
  have hl : lv_has ls 4 [(0, .ref m0), (1, .int (iI k))] := hl
  have hq1 := hcm.2.1
  have hq2 := hcm.2.2
  have hcr0 := hcr.1
  refine lv_aload_n hx hb dX13_does_0 rfl (lv_at hl 0 rfl) ?_
  refine m_get hC hZ 22 (x := .ref (ad 22)) rfl (by decide) ql_X13_52 rfl dX13_does_1 ?_
  refine z_iconst hx hb dX13_does_4 ?_
  refine lv_iload_n hx hb dX13_does_5 rfl (lv_at hl 1 rfl) ?_
  refine z_imul hx hb dX13_does_6 ?_
  refine z_iconst hx hb dX13_does_7 ?_
  refine z_iadd hx hb dX13_does_8 ?_
  refine m_iald hC hZ hD 22 (by decide) (f := g 22) rfl rfl (by show _ ∧ _ < (180 : Int); omega) (by decide) dX13_does_9 ?_
  have hr_1 : -2147483648 ≤ (g 22) ((3 * k) + 1) ∧ (g 22) ((3 * k) + 1) ≤ 2147483647 := hok.2 22 _
  refine lv_istore_n (lv' := [(2, .int (iI ((g 22) ((3 * k) + 1)))), (0, .ref m0), (1, .int (iI k))]) hx hb dX13_does_10 rfl hl (by decide) rfl (fun ls hl => ?_)
  refine lv_aload_n hx hb dX13_does_11 rfl (lv_at hl 1 rfl) ?_
  refine m_get hC hZ 22 (x := .ref (ad 22)) rfl (by decide) ql_X13_52 rfl dX13_does_12 ?_
  refine z_iconst hx hb dX13_does_15 ?_
  refine lv_iload_n hx hb dX13_does_16 rfl (lv_at hl 2 rfl) ?_
  refine z_imul hx hb dX13_does_17 ?_
  refine m_iald hC hZ hD 22 (by decide) (f := g 22) rfl rfl (by show _ ∧ _ < (180 : Int); omega) (by decide) dX13_does_18 ?_
  have hr_2 : -2147483648 ≤ (g 22) (3 * k) ∧ (g 22) (3 * k) ≤ 2147483647 := hok.2 22 _
  refine z_top (y := q.1) hcr0 ?_
  rcases hcm.1 with ek | ek | ek | ek | ek
  · skip
    refine z_top (y := 114) (by omega) ?_
    refine lv_lookup (off := 41) (tgt := 60) hx hb dX13_does_19 rfl (by decide) (by decide) ?_
    refine lv_aload_n hx hb dX13_does_60 rfl (lv_at hl 1 rfl) ?_
    refine z_calli (z_runV (rest := []) (As := []) (n := 0) (ci := 16) hC hZ (met_X13_doPrint l D cs A m0 ad v g  N c0 hD hok hR hK hN) gv_X13_197 hd_X13_doPrint rfl mW_o rfl hl rfl (Nat.le_of_ble_eq_true rfl) ⟨Nat.le_of_ble_eq_true rfl, Nat.le_of_ble_eq_true rfl⟩ ⟨Nat.le_of_ble_eq_true rfl, Nat.le_of_ble_eq_true rfl⟩ dX13_does_61) hZ (fun r61 _ H locs hp_3 hZ => ?_)
    obtain ⟨v_5, g_6, rfl, hok_4, hdo⟩ := hp_3
    refine lv_istore_n (lv' := [(3, .int (iI r61)), (2, .int (iI ((g 22) ((3 * k) + 1)))), (0, .ref m0), (1, .int (iI k))]) hx hb dX13_does_64 rfl hl (by decide) rfl (fun ls hl => ?_)
    refine lv_goto (tgt := 111) hx hb dX13_does_65 (by decide) ?_
    exact z_vret hC hr hlk hZ (by decide) (by decide) (⟨_, _, rfl, hok_4, _, by unfold zdo; rw [if_pos ek]; exact hdo⟩) dX13_does_111
  · skip
    refine z_top (y := 112) (by omega) ?_
    have ha1 := hcr.2.1 (by omega)
    have ha2 := hcr.2.2 (by omega)
    refine lv_lookup (off := 49) (tgt := 68) hx hb dX13_does_19 rfl (by decide) (by decide) ?_
    refine lv_aload_n hx hb dX13_does_68 rfl (lv_at hl 1 rfl) ?_
    refine lv_iload_n hx hb dX13_does_69 rfl (lv_at hl 0 rfl) ?_
    refine lv_aload_n hx hb dX13_does_70 rfl (lv_at hl 1 rfl) ?_
    refine m_get hC hZ 22 (x := .ref (ad 22)) rfl (by decide) ql_X13_52 rfl dX13_does_71 ?_
    refine z_iconst hx hb dX13_does_74 ?_
    refine lv_iload_n hx hb dX13_does_75 rfl (lv_at hl 2 rfl) ?_
    refine z_imul hx hb dX13_does_76 ?_
    refine z_iconst hx hb dX13_does_77 ?_
    refine z_iadd hx hb dX13_does_78 ?_
    refine m_iald hC hZ hD 22 (by decide) (f := g 22) rfl rfl (by show _ ∧ _ < (180 : Int); omega) (by decide) dX13_does_79 ?_
    have hr_7 : -2147483648 ≤ (g 22) ((3 * k) + 2) ∧ (g 22) ((3 * k) + 2) ≤ 2147483647 := hok.2 22 _
    refine z_top (y := q.2.2) ha2 ?_
    refine z_calli (z_runV (rest := []) (As := [.int (iI ((g 22) ((3 * k) + 1))), .int (iI q.2.2)]) (n := 2) (ci := 16) hC hZ (met_X13_doSetPage l D cs A m0 ad v g ((g 22) ((3 * k) + 1)) q.2.2  hD hok (by omega) (by omega)) gv_X13_191 hd_X13_doSetPage rfl mW_o rfl hl rfl (Nat.le_of_ble_eq_true rfl) ⟨Nat.le_of_ble_eq_true rfl, Nat.le_of_ble_eq_true rfl⟩ ⟨Nat.le_of_ble_eq_true rfl, Nat.le_of_ble_eq_true rfl⟩ dX13_does_80) hZ (fun r80 _ H locs hp_8 hZ => ?_)
    obtain ⟨v_10, g_11, rfl, hok_9, hdo⟩ := hp_8
    replace hdo := mDo_pag hR hK hdo
    refine lv_istore_n (lv' := [(3, .int (iI r80)), (2, .int (iI ((g 22) ((3 * k) + 1)))), (0, .ref m0), (1, .int (iI k))]) hx hb dX13_does_83 rfl hl (by decide) rfl (fun ls hl => ?_)
    refine lv_goto (tgt := 111) hx hb dX13_does_84 (by decide) ?_
    exact z_vret hC hr hlk hZ (by decide) (by decide) (⟨_, _, rfl, hok_9, _, by unfold zdo; rw [if_neg (by omega), if_pos ek]; rw [ha1] at hdo; exact hdo⟩) dX13_does_111
  · skip
    refine z_top (y := 120) (by omega) ?_
    have ha1 := hcr.2.1 (by omega)
    refine lv_lookup (off := 68) (tgt := 87) hx hb dX13_does_19 rfl (by decide) (by decide) ?_
    refine lv_aload_n hx hb dX13_does_87 rfl (lv_at hl 1 rfl) ?_
    refine lv_iload_n hx hb dX13_does_88 rfl (lv_at hl 0 rfl) ?_
    refine z_calli (z_runV (rest := []) (As := [.int (iI ((g 22) ((3 * k) + 1)))]) (n := 1) (ci := 16) hC hZ (met_X13_doRemoveArticle l D cs A m0 ad v g ((g 22) ((3 * k) + 1)) N c0 hD hok hR hK (by omega)) gv_X13_106 hd_X13_doRemoveArticle rfl mW_o rfl hl rfl (Nat.le_of_ble_eq_true rfl) ⟨Nat.le_of_ble_eq_true rfl, Nat.le_of_ble_eq_true rfl⟩ ⟨Nat.le_of_ble_eq_true rfl, Nat.le_of_ble_eq_true rfl⟩ dX13_does_89) hZ (fun r89 _ H locs hp_12 hZ => ?_)
    obtain ⟨v_14, g_15, rfl, hok_13, hdo⟩ := hp_12
    refine lv_istore_n (lv' := [(3, .int (iI r89)), (2, .int (iI ((g 22) ((3 * k) + 1)))), (0, .ref m0), (1, .int (iI k))]) hx hb dX13_does_92 rfl hl (by decide) rfl (fun ls hl => ?_)
    refine lv_goto (tgt := 111) hx hb dX13_does_93 (by decide) ?_
    exact z_vret hC hr hlk hZ (by decide) (by decide) (⟨_, _, rfl, hok_13, _, by unfold zdo; rw [if_neg (by omega), if_neg (by omega), if_pos ek]; rw [ha1] at hdo; exact hdo⟩) dX13_does_111
  · skip
    refine z_top (y := 100) (by omega) ?_
    have ha1 := hcr.2.1 (by omega)
    refine lv_lookup (off := 77) (tgt := 96) hx hb dX13_does_19 rfl (by decide) (by decide) ?_
    refine lv_aload_n hx hb dX13_does_96 rfl (lv_at hl 1 rfl) ?_
    refine lv_iload_n hx hb dX13_does_97 rfl (lv_at hl 0 rfl) ?_
    refine z_calli (z_runV (rest := []) (As := [.int (iI ((g 22) ((3 * k) + 1)))]) (n := 1) (ci := 16) hC hZ (met_X13_doPassDays l D cs A m0 ad v g ((g 22) ((3 * k) + 1)) N c0 hD hok hR hK (by omega) hN) gv_X13_206 hd_X13_doPassDays rfl mW_o rfl hl rfl (Nat.le_of_ble_eq_true rfl) ⟨Nat.le_of_ble_eq_true rfl, Nat.le_of_ble_eq_true rfl⟩ ⟨Nat.le_of_ble_eq_true rfl, Nat.le_of_ble_eq_true rfl⟩ dX13_does_98) hZ (fun r98 _ H locs hp_16 hZ => ?_)
    obtain ⟨v_18, g_19, rfl, hok_17, hdo⟩ := hp_16
    refine lv_istore_n (lv' := [(3, .int (iI r98)), (2, .int (iI ((g 22) ((3 * k) + 1)))), (0, .ref m0), (1, .int (iI k))]) hx hb dX13_does_101 rfl hl (by decide) rfl (fun ls hl => ?_)
    refine lv_goto (tgt := 111) hx hb dX13_does_102 (by decide) ?_
    exact z_vret hC hr hlk hZ (by decide) (by decide) (⟨_, _, rfl, hok_17, _, by unfold zdo; rw [if_neg (by omega), if_neg (by omega), if_neg (by omega), if_pos ek]; rw [ha1] at hdo; exact hdo⟩) dX13_does_111
  · skip
    refine z_top (y := 119) (by omega) ?_
    have ha1 := hcr.2.1 (by omega)
    refine lv_lookup (off := 86) (tgt := 105) hx hb dX13_does_19 rfl (by decide) (by decide) ?_
    refine lv_aload_n hx hb dX13_does_105 rfl (lv_at hl 1 rfl) ?_
    refine lv_iload_n hx hb dX13_does_106 rfl (lv_at hl 0 rfl) ?_
    refine z_calli (z_runV (rest := []) (As := [.int (iI ((g 22) ((3 * k) + 1)))]) (n := 1) (ci := 16) hC hZ (met_X13_doSetWidth l D cs A m0 ad v g ((g 22) ((3 * k) + 1))  hD hok (by omega)) gv_X13_165 hd_X13_doSetWidth rfl mW_o rfl hl rfl (Nat.le_of_ble_eq_true rfl) ⟨Nat.le_of_ble_eq_true rfl, Nat.le_of_ble_eq_true rfl⟩ ⟨Nat.le_of_ble_eq_true rfl, Nat.le_of_ble_eq_true rfl⟩ dX13_does_107) hZ (fun r107 _ H locs hp_20 hZ => ?_)
    obtain ⟨v_22, g_23, rfl, hok_21, hdo⟩ := hp_20
    replace hdo := mDo_wid hR hK hdo
    refine lv_istore_n (lv' := [(3, .int (iI r107)), (2, .int (iI ((g 22) ((3 * k) + 1)))), (0, .ref m0), (1, .int (iI k))]) hx hb dX13_does_110 rfl hl (by decide) rfl (fun ls hl => ?_)
    exact z_vret hC hr hlk hZ (by decide) (by decide) (⟨_, _, rfl, hok_21, _, by unfold zdo; rw [if_neg (by omega), if_neg (by omega), if_neg (by omega), if_neg (by omega)]; rw [ha1] at hdo; exact hdo⟩) dX13_does_111

