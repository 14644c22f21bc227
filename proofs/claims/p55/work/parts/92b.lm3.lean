set_option maxHeartbeats 4000000 in
set_option maxRecDepth 100000 in
theorem lm_types (l : Launch) (D : va_G) (cs : Nat → ClassId) (A : Nat → Prop) (G X : zF) (ob : Nat) (N : Nat) (tx inp out : List Int) (c0 : zCo) (hs : List zCo) (b v : Nat) (t : List Int) (hd : zdj G X) (hlt : l.stackTraces = false) (hG : lG cs G ob N tx inp out c0 hs) (hs1 : oSt cs X b v t) (htl : t.length ≤ 60) (htc : zlt2 t) : zM l D cs A yL_types cL_types 5 (some FieldType.boolean) 8 60 360 [.ref ob, .ref b] (zun G X) (pGI (fun r G1 X1 => X = X1 ∧ lG cs G1 ob N t inp out c0 hs ∧ r = 1)) := by
  refine zM_of (own := RL) (by decide) rfl (Nat.le_of_ble_eq_true rfl) ?_
  intro p e s m below meth c hC hr hlk hnm hZ ls hl
  have hx := hC.x
  have hb := hC.b
  have hl : lv_has ls 5 [(0, .ref ob), (1, .ref b)] := hl
  have hW := zW3.of hZ hd
  refine lv_aload_n hx hb dL_types_0 rfl (lv_at hl 0 rfl) ?_
  obtain ⟨⟨g, sa, so, hL, sv, er, fa, hg⟩, hK, hh8, hhs, htz, ht60, hin, hN9⟩ := id hG
  obtain ⟨cap, hso⟩ := hg.2.2.2.2.1
  have hwi := hK.2.2.2.2.2.2.2.2.1
  refine z_cGi hC (z_frV (rest := []) (As := []) (n := 0) (ci := 15) hC hW.g (met_X12_clearText l D cs (zfA G _) G ob g sa so hL tx inp out c0 sv hs er fa hg) gv_L_155 hd_X12_clearText rfl hg.1 rfl hl rfl (Nat.le_of_ble_eq_true rfl) ⟨Nat.le_of_ble_eq_true rfl, Nat.le_of_ble_eq_true rfl⟩ ⟨Nat.le_of_ble_eq_true rfl, Nat.le_of_ble_eq_true rfl⟩ dL_types_1) hW (fun r1 G1 H locs hp1 hW => ?_)
  obtain ⟨rfl, hg1⟩ := hp1
  have hG : lG cs G1 ob N ([] : List Int) inp out c0 hs := ⟨⟨g, sa, so, hL, sv, er, fa, hg1⟩, hK, hh8, hhs, fun _ h => absurd h List.not_mem_nil, Nat.zero_le _, hin, hN9⟩
  refine lv_istore_n (lv' := [(2, .int (iI (tx.length : Int))), (0, .ref ob), (1, .ref b)]) hx hb dL_types_4 rfl hl (by decide) rfl (fun ls hl => ?_)
  refine lv_iload_n hx hb dL_types_5 rfl (lv_at hl 0 rfl) ?_
  refine z_if_lt (tgt := 13) hx hb dL_types_6 (by decide) (by omega) (fun c_1 => ?_) (fun c_1 => ?_)
  · skip
    exfalso; omega
  · skip
    refine z_iconst hx hb dL_types_9 ?_
    refine lv_goto (tgt := 14) hx hb dL_types_10 (by decide) ?_
    refine lv_istore_n (lv' := [(3, .int (iI 1)), (2, .int (iI (tx.length : Int))), (0, .ref ob), (1, .ref b)]) hx hb dL_types_14 rfl hl (by decide) rfl (fun ls hl => ?_)
    refine z_iconst hx hb dL_types_15 ?_
    refine lv_istore (lv' := [(4, .int (iI 0)), (3, .int (iI 1)), (2, .int (iI (tx.length : Int))), (0, .ref ob), (1, .ref b)]) hx hb dL_types_16 hl (by decide) rfl (fun ls hl => ?_)
    have L18_k_2 : ∀ (fu : Nat) (k : Int) (G1 : zF) (hfu : ((t.length : Int) - k).toNat < fu) (hi18_0 : 0 ≤ k ∧ k ≤ t.length) (hG : lG cs G1 ob N (t.take k.toNat) inp out c0 hs) (H : Heap) (locs : List Loc) (hW : zW3 D A s G1 zE X H locs) (ls : Array Slot) (hl : lv_has ls 5 [(4, .int (iI k)), (3, .int (iI 1)), (2, .int (iI (tx.length : Int))), (0, .ref ob), (1, .ref b)]), W p l e (zR 8 60 360) s m [.ref ob, .ref b].toArray below meth c H locs (1 * k.toNat) (6 * k.toNat) (MQ below (zQ D A (pGI (fun r G1 X1 => X = X1 ∧ lG cs G1 ob N t inp out c0 hs ∧ r = 1))) [.ref ob, .ref b].toArray s 60 360 A) (F0 m 18 ls []) := by
      intro fu
      induction fu with
      | zero =>
        intro k G1 hfu
        exact absurd hfu (Nat.not_lt_zero _)
      | succ fu ih18 =>
        intro k G1 hfu hi18_0 hG H locs hW ls hl
        refine lv_iload hx hb dL_types_18 (lv_at hl 0 rfl) ?_
        refine lv_aload_n hx hb dL_types_20 rfl (lv_at hl 4 rfl) ?_
        refine z_cXi hC (z_frSt (rest := [.int (iI k)]) (As := []) (n := 0) hC hW.x (mes_length l D cs (zfA X _) X b v t hs1) gv_L_138 hd_J0_length_8abf5 hs1 rfl hl rfl (Nat.le_of_ble_eq_true rfl) ⟨Nat.le_of_ble_eq_true rfl, Nat.le_of_ble_eq_true rfl⟩ ⟨(by show _ ≤ 60; omega), (by show _ ≤ 360; omega)⟩ dL_types_21) hW (fun r21 X21 H locs hp21 hW => ?_)
        obtain ⟨rfl, rfl⟩ := hp21
        refine z_icmp_ge (tgt := 60) hx hb dL_types_24 (by decide) (by omega) (by omega) (fun c_3 => ?_) (fun c_3 => ?_)
        · skip
          refine lv_iload_n hx hb dL_types_60 rfl (lv_at hl 1 rfl) ?_
          exact z_zretG hC hr hlk hW rfl (by omega) (by omega) (⟨rfl, by rw [show t = t.take k.toNat by rw [List.take_of_length_le (by omega)]]; exact hG, rfl⟩) dL_types_61
        · skip
          refine lv_iload_n hx hb dL_types_27 rfl (lv_at hl 1 rfl) ?_
          refine z_if_eq (tgt := 60) hx hb dL_types_28 (by decide) (by decide) (fun c_4 => ?_) (fun c_4 => ?_)
          · skip
            exfalso; omega
          · skip
            refine lv_aload_n hx hb dL_types_31 rfl (lv_at hl 3 rfl) ?_
            refine lv_aload_n hx hb dL_types_32 rfl (lv_at hl 4 rfl) ?_
            refine lv_iload hx hb dL_types_33 (lv_at hl 0 rfl) ?_
            refine z_cXi hC (z_frSt (rest := [.ref ob]) (As := [.int (iI k)]) (n := 1) hC hW.x (mes_charAt l D cs (zfA X _) X b v t k hs1 (by omega)) gv_L_143 hd_J0_charAt_5068e hs1 rfl hl rfl (Nat.le_of_ble_eq_true rfl) ⟨Nat.le_of_ble_eq_true rfl, Nat.le_of_ble_eq_true rfl⟩ ⟨(by show _ ≤ 60; omega), (by show _ ≤ 360; omega)⟩ dL_types_35) hW (fun r35 X35 H locs hp35 hW => ?_)
            obtain ⟨rfl, rfl⟩ := hp35
            have hxc := htc (t.getD k.toNat 0) (by rw [List.getD_eq_getElem?_getD, List.getElem?_eq_getElem (by omega)]; exact List.getElem_mem _)
            have hkl : (t.take k.toNat).length = k.toNat := by rw [List.length_take]; omega
            refine z_cGi hC (z_frSW (rest := []) (As := [.ref ob, .int (iI (t.getD k.toNat 0))]) (n := 2) hC hW.g (lw_type l D cs (zfA G1 _) G1 ob (t.getD k.toNat 0) N (t.take k.toNat) inp out c0 hs hlt hG (by omega)) (zgsW qm_L_158 qt_L_type qn_L qc_L_type) he_L_type rfl hl rfl (Nat.le_of_ble_eq_true rfl) ⟨Nat.le_of_ble_eq_true rfl, Nat.le_of_ble_eq_true rfl⟩ ⟨(by show _ ≤ 60; omega), (by show _ ≤ 360; omega)⟩ dL_types_38) hW (fun r38 G38 H locs hp38 hW => ?_)
            obtain ⟨hG, rfl⟩ := hp38
            refine z_top (y := k + 1) (by rw [wq_0 rfl]; show ((t.take k.toNat).length : Int) + 1 = k + 1; omega) ?_
            refine lv_iload hx hb dL_types_41 (lv_at hl 0 rfl) ?_
            refine z_iconst hx hb dL_types_43 ?_
            refine z_iadd hx hb dL_types_44 ?_
            refine z_icmp_ne (tgt := 52) hx hb dL_types_45 (by decide) (by omega) (by omega) (fun c_5 => ?_) (fun c_5 => ?_)
            · skip
              exfalso; omega
            · skip
              refine z_iconst hx hb dL_types_48 ?_
              refine lv_goto (tgt := 53) hx hb dL_types_49 (by decide) ?_
              refine lv_istore_n (lv' := [(3, .int (iI 1)), (4, .int (iI k)), (2, .int (iI (tx.length : Int))), (0, .ref ob), (1, .ref b)]) hx hb dL_types_53 rfl hl (by decide) rfl (fun ls hl => ?_)
              refine z_iinc (lv' := [(4, .int (iI (k + 1))), (3, .int (iI 1)), (2, .int (iI (tx.length : Int))), (0, .ref ob), (1, .ref b)]) hx hb dL_types_54 hl (k := 1) rfl (by decide) rfl (fun ls hl => ?_)
              refine lv_goto (tgt := 18) hx hb dL_types_57 (by decide) ?_
              refine W.widen (k := (1 * (k + 1).toNat)) (n := (6 * (k + 1).toNat)) (by omega) (by omega) ?_
              exact ih18 (k + 1) G38 (by omega) (by omega) (by rw [wd_take (by omega) (by omega)]; exact hG) _ _ hW ls (lv_sub hl [0, 1, 2, 3, 4] rfl)
    refine W.widen (k := (1 * (0 : Int).toNat)) (n := (6 * (0 : Int).toNat)) (by omega) (by omega) ?_
    exact L18_k_2 _ 0 G1 (Nat.lt_succ_self _) (by omega) hG _ _ hW ls (lv_sub hl [0, 1, 2, 3, 4] rfl)

theorem sOut_in {t : List Int} {k : Int} (h : 0 ≤ k ∧ k < t.length) : wq [-11] (sOut t k) = t.getD k.toNat 0 := by
  unfold sOut
  rw [if_pos h]
  exact wq_0 rfl
theorem sOut_no {t : List Int} {k : Int} (h : ¬ (0 ≤ k ∧ k < t.length)) : wq [-11] (sOut t k) = -11 := by
  unfold sOut
  rw [if_neg h]
  rfl
set_option maxHeartbeats 4000000 in
set_option maxRecDepth 100000 in
theorem lm_spells (l : Launch) (D : va_G) (cs : Nat → ClassId) (A : Nat → Prop) (G X : zF) (ob : Nat) (N : Nat) (tx inp out : List Int) (c0 : zCo) (hs : List zCo) (b v : Nat) (t : List Int) (n : Int) (hd : zdj G X) (hlt : l.stackTraces = false) (hG : lG cs G ob N tx inp out c0 hs) (hs1 : oSt cs X b v t) (hn : n = (t.length : Int)) (hto : out = t) : zM l D cs A yL_spells cL_spells 5 (some FieldType.boolean) 8 (t.length + 1) (6 * t.length + 6) [.ref ob, .int (iI n), .ref b] (zun G X) (pGI (fun r G1 X1 => X = X1 ∧ lG cs G1 ob N tx inp out c0 hs ∧ r = 1)) := by
  refine zM_of (own := RL) (by decide) rfl (Nat.le_of_ble_eq_true rfl) ?_
  intro p e s m below meth c hC hr hlk hnm hZ ls hl
  have hx := hC.x
  have hb := hC.b
  have hl : lv_has ls 5 [(0, .ref ob), (1, .int (iI n)), (2, .ref b)] := hl
  have hW := zW3.of hZ hd
  have hlen := hs1.2.1
  have hrg := hs1.2.2
  refine lv_iload_n hx hb dL_spells_0 rfl (lv_at hl 1 rfl) ?_
  refine lv_aload_n hx hb dL_spells_1 rfl (lv_at hl 2 rfl) ?_
  refine z_cXi hC (z_frSt (rest := [.int (iI n)]) (As := []) (n := 0) hC hW.x (mes_length l D cs (zfA X _) X b v t hs1) gv_L_138 hd_J0_length_8abf5 hs1 rfl hl rfl (Nat.le_of_ble_eq_true rfl) ⟨Nat.le_of_ble_eq_true rfl, Nat.le_of_ble_eq_true rfl⟩ ⟨(by show _ ≤ (t.length + 1); omega), (by show _ ≤ (6 * t.length + 6); omega)⟩ dL_spells_2) hW (fun r2 X2 H locs hp2 hW => ?_)
  obtain ⟨rfl, rfl⟩ := hp2
  refine z_icmp_ne (tgt := 12) hx hb dL_spells_5 (by decide) (by omega) (by omega) (fun c_1 => ?_) (fun c_1 => ?_)
  · skip
    exfalso; omega
  · skip
    refine z_iconst hx hb dL_spells_8 ?_
    refine lv_goto (tgt := 13) hx hb dL_spells_9 (by decide) ?_
    refine lv_istore_n (lv' := [(3, .int (iI 1)), (0, .ref ob), (1, .int (iI n)), (2, .ref b)]) hx hb dL_spells_13 rfl hl (by decide) rfl (fun ls hl => ?_)
    refine z_iconst hx hb dL_spells_14 ?_
    refine lv_istore (lv' := [(4, .int (iI 0)), (3, .int (iI 1)), (0, .ref ob), (1, .int (iI n)), (2, .ref b)]) hx hb dL_spells_15 hl (by decide) rfl (fun ls hl => ?_)
    have L17_k_2 : ∀ (fu : Nat) (k : Int) (G1 : zF) (hfu : ((t.length : Int) - k).toNat < fu) (hi17_0 : 0 ≤ k ∧ k ≤ t.length) (hG : lG cs G1 ob N tx inp out c0 hs) (H : Heap) (locs : List Loc) (hW : zW3 D A s G1 zE X H locs) (ls : Array Slot) (hl : lv_has ls 5 [(4, .int (iI k)), (3, .int (iI 1)), (0, .ref ob), (1, .int (iI n)), (2, .ref b)]), W p l e (zR 8 (t.length + 1) (6 * t.length + 6)) s m [.ref ob, .int (iI n), .ref b].toArray below meth c H locs (1 * k.toNat) (6 * k.toNat) (MQ below (zQ D A (pGI (fun r G1 X1 => X = X1 ∧ lG cs G1 ob N tx inp out c0 hs ∧ r = 1))) [.ref ob, .int (iI n), .ref b].toArray s (t.length + 1) (6 * t.length + 6) A) (F0 m 17 ls []) := by
      intro fu
      induction fu with
      | zero =>
        intro k G1 hfu
        exact absurd hfu (Nat.not_lt_zero _)
      | succ fu ih17 =>
        intro k G1 hfu hi17_0 hG H locs hW ls hl
        refine lv_iload hx hb dL_spells_17 (lv_at hl 0 rfl) ?_
        refine lv_aload_n hx hb dL_spells_19 rfl (lv_at hl 4 rfl) ?_
        refine z_cXi hC (z_frSt (rest := [.int (iI k)]) (As := []) (n := 0) hC hW.x (mes_length l D cs (zfA X _) X b v t hs1) gv_L_138 hd_J0_length_8abf5 hs1 rfl hl rfl (Nat.le_of_ble_eq_true rfl) ⟨Nat.le_of_ble_eq_true rfl, Nat.le_of_ble_eq_true rfl⟩ ⟨(by show _ ≤ (t.length + 1); omega), (by show _ ≤ (6 * t.length + 6); omega)⟩ dL_spells_20) hW (fun r20 X20 H locs hp20 hW => ?_)
        obtain ⟨rfl, rfl⟩ := hp20
        refine z_icmp_ge (tgt := 57) hx hb dL_spells_23 (by decide) (by omega) (by omega) (fun c_3 => ?_) (fun c_3 => ?_)
        · skip
          refine lv_iload_n hx hb dL_spells_57 rfl (lv_at hl 1 rfl) ?_
          refine z_if_eq (tgt := 75) hx hb dL_spells_58 (by decide) (by decide) (fun c_4 => ?_) (fun c_4 => ?_)
          · skip
            exfalso; omega
          · skip
            refine lv_aload_n hx hb dL_spells_61 rfl (lv_at hl 2 rfl) ?_
            refine lv_iload_n hx hb dL_spells_62 rfl (lv_at hl 3 rfl) ?_
            refine z_cGi hC (z_frSW (rest := []) (As := [.ref ob, .int (iI n)]) (n := 2) hC hW.g (lw_outputAt l D cs (zfA G1 _) G1 ob n N tx inp out c0 hs hlt hG (by omega)) (zgsW qm_L_212 qt_L_outputAt qn_L qc_L_outputAt) he_L_outputAt rfl hl rfl (Nat.le_of_ble_eq_true rfl) ⟨Nat.le_of_ble_eq_true rfl, Nat.le_of_ble_eq_true rfl⟩ ⟨(by show _ ≤ (t.length + 1); omega), (by show _ ≤ (6 * t.length + 6); omega)⟩ dL_spells_63) hW (fun r63 G63 H locs hp63 hW => ?_)
            obtain ⟨hG, rfl⟩ := hp63
            refine z_top (y := -11) (by rw [hto]; exact sOut_no (by omega)) ?_
            refine z_bipush hx hb dL_spells_66 (by decide) ?_
            refine z_icmp_ne (tgt := 75) hx hb dL_spells_68 (by decide) (by decide) (by decide) (fun c_5 => ?_) (fun c_5 => ?_)
            · skip
              exfalso; omega
            · skip
              refine z_iconst hx hb dL_spells_71 ?_
              refine lv_goto (tgt := 76) hx hb dL_spells_72 (by decide) ?_
              exact z_zretG hC hr hlk hW rfl (by omega) (by omega) (⟨rfl, hG, rfl⟩) dL_spells_76
        · skip
          refine lv_iload_n hx hb dL_spells_26 rfl (lv_at hl 1 rfl) ?_
          refine z_if_eq (tgt := 57) hx hb dL_spells_27 (by decide) (by decide) (fun c_6 => ?_) (fun c_6 => ?_)
          · skip
            exfalso; omega
          · skip
            refine lv_aload_n hx hb dL_spells_30 rfl (lv_at hl 2 rfl) ?_
            refine lv_iload hx hb dL_spells_31 (lv_at hl 0 rfl) ?_
            refine z_cGi hC (z_frSW (rest := []) (As := [.ref ob, .int (iI k)]) (n := 2) hC hW.g (lw_outputAt l D cs (zfA G1 _) G1 ob k N tx inp out c0 hs hlt hG (by omega)) (zgsW qm_L_212 qt_L_outputAt qn_L qc_L_outputAt) he_L_outputAt rfl hl rfl (Nat.le_of_ble_eq_true rfl) ⟨Nat.le_of_ble_eq_true rfl, Nat.le_of_ble_eq_true rfl⟩ ⟨(by show _ ≤ (t.length + 1); omega), (by show _ ≤ (6 * t.length + 6); omega)⟩ dL_spells_33) hW (fun r33 G33 H locs hp33 hW => ?_)
            obtain ⟨hG, rfl⟩ := hp33
            refine z_top (y := t.getD k.toNat 0) (by rw [hto]; exact sOut_in ⟨by omega, by omega⟩) ?_
            have hgr := gD_rng hrg k.toNat
            refine lv_aload_n hx hb dL_spells_36 rfl (lv_at hl 4 rfl) ?_
            refine lv_iload hx hb dL_spells_37 (lv_at hl 0 rfl) ?_
            refine z_cXi hC (z_frSt (rest := [.int (iI (t.getD k.toNat 0))]) (As := [.int (iI k)]) (n := 1) hC hW.x (mes_charAt l D cs (zfA X _) X b v t k hs1 (by omega)) gv_L_143 hd_J0_charAt_5068e hs1 rfl hl rfl (Nat.le_of_ble_eq_true rfl) ⟨Nat.le_of_ble_eq_true rfl, Nat.le_of_ble_eq_true rfl⟩ ⟨(by show _ ≤ (t.length + 1); omega), (by show _ ≤ (6 * t.length + 6); omega)⟩ dL_spells_39) hW (fun r39 X39 H locs hp39 hW => ?_)
            obtain ⟨rfl, rfl⟩ := hp39
            refine z_icmp_ne (tgt := 49) hx hb dL_spells_42 (by decide) (by omega) (by omega) (fun c_7 => ?_) (fun c_7 => ?_)
            · skip
              exfalso; omega
            · skip
              refine z_iconst hx hb dL_spells_45 ?_
              refine lv_goto (tgt := 50) hx hb dL_spells_46 (by decide) ?_
              refine lv_istore_n (lv' := [(3, .int (iI 1)), (4, .int (iI k)), (0, .ref ob), (1, .int (iI n)), (2, .ref b)]) hx hb dL_spells_50 rfl hl (by decide) rfl (fun ls hl => ?_)
              refine z_iinc (lv' := [(4, .int (iI (k + 1))), (3, .int (iI 1)), (0, .ref ob), (1, .int (iI n)), (2, .ref b)]) hx hb dL_spells_51 hl (k := 1) rfl (by decide) rfl (fun ls hl => ?_)
              refine lv_goto (tgt := 17) hx hb dL_spells_54 (by decide) ?_
              refine W.widen (k := (1 * (k + 1).toNat)) (n := (6 * (k + 1).toNat)) (by omega) (by omega) ?_
              exact ih17 (k + 1) G33 (by omega) (by omega) hG _ _ hW ls (lv_sub hl [0, 1, 2, 3, 4] rfl)
    refine W.widen (k := (1 * (0 : Int).toNat)) (n := (6 * (0 : Int).toNat)) (by omega) (by omega) ?_
    exact L17_k_2 _ 0 G (Nat.lt_succ_self _) (by omega) hG _ _ hW ls (lv_sub hl [0, 1, 2, 3, 4] rfl)

set_option maxHeartbeats 4000000 in
set_option maxRecDepth 100000 in
theorem lm_execute (l : Launch) (D : va_G) (cs : Nat → ClassId) (A : Nat → Prop) (G X : zF) (ob : Nat) (N : Nat) (tx out : List Int) (c0 : zCo) (hs : List zCo) (b v : Nat) (t : List Int) (hd : zdj G X) (hlt : l.stackTraces = false) (hG : lG cs G ob N tx [] out c0 hs) (hs1 : oSt cs X b v t) (htl : t.length ≤ 60) (hN8 : N ≤ 898) : zM l D cs A yL_execute cL_execute 3 (some FieldType.int) 12 160 1000 [.ref ob, .ref b] (zun G X) (pGI (fun r G1 X1 => X = X1 ∧ lG cs G1 ob (N + 1) tx [] out (sEx c0 t).2.1 (if (sEx c0 t).1 = 0 then pushH hs c0 else hs) ∧ r = wq [-1, -2] ((sEx c0 t).1, (sEx c0 t).2.2))) := by
  refine zM_of (own := RL) (by decide) rfl (Nat.le_of_ble_eq_true rfl) ?_
  intro p e s m below meth c hC hr hlk hnm hZ ls hl
  have hx := hC.x
  have hb := hC.b
  have hl : lv_has ls 3 [(0, .ref ob), (1, .ref b)] := hl
  have hW := zW3.of hZ hd
  have hrg := hs1.2.2
  refine z_iconst hx hb dL_execute_0 ?_
  refine lv_istore_n (lv' := [(2, .int (iI 0)), (0, .ref ob), (1, .ref b)]) hx hb dL_execute_1 rfl hl (by decide) rfl (fun ls hl => ?_)
  have L2_k_1 : ∀ (fu : Nat) (k : Int) (G1 : zF) (hfu : ((t.length : Int) - k).toNat < fu) (hi2_0 : 0 ≤ k ∧ k ≤ t.length) (hG : lG cs G1 ob N tx (t.take k.toNat) out c0 hs) (H : Heap) (locs : List Loc) (hW : zW3 D A s G1 zE X H locs) (ls : Array Slot) (hl : lv_has ls 3 [(2, .int (iI k)), (0, .ref ob), (1, .ref b)]), W p l e (zR 12 160 1000) s m [.ref ob, .ref b].toArray below meth c H locs (1 * k.toNat) (6 * k.toNat) (MQ below (zQ D A (pGI (fun r G1 X1 => X = X1 ∧ lG cs G1 ob (N + 1) tx [] out (sEx c0 t).2.1 (if (sEx c0 t).1 = 0 then pushH hs c0 else hs) ∧ r = wq [-1, -2] ((sEx c0 t).1, (sEx c0 t).2.2)))) [.ref ob, .ref b].toArray s 160 1000 A) (F0 m 2 ls []) := by
    intro fu
    induction fu with
    | zero =>
      intro k G1 hfu
      exact absurd hfu (Nat.not_lt_zero _)
    | succ fu ih2 =>
      intro k G1 hfu hi2_0 hG H locs hW ls hl
      refine lv_iload_n hx hb dL_execute_2 rfl (lv_at hl 0 rfl) ?_
      refine lv_aload_n hx hb dL_execute_3 rfl (lv_at hl 2 rfl) ?_
      refine z_cXi hC (z_frSt (rest := [.int (iI k)]) (As := []) (n := 0) hC hW.x (mes_length l D cs (zfA X _) X b v t hs1) gv_L_138 hd_J0_length_8abf5 hs1 rfl hl rfl (Nat.le_of_ble_eq_true rfl) ⟨Nat.le_of_ble_eq_true rfl, Nat.le_of_ble_eq_true rfl⟩ ⟨(by show _ ≤ 160; omega), (by show _ ≤ 1000; omega)⟩ dL_execute_4) hW (fun r4 X4 H locs hp4 hW => ?_)
      obtain ⟨rfl, rfl⟩ := hp4
      refine z_icmp_ge (tgt := 34) hx hb dL_execute_7 (by decide) (by omega) (by omega) (fun c_2 => ?_) (fun c_2 => ?_)
      · skip
        have hkt : t.take k.toNat = t := List.take_of_length_le (by omega)
        refine lv_aload_n hx hb dL_execute_34 rfl (lv_at hl 1 rfl) ?_
        refine z_cGi hC (z_frSW (rest := []) (As := [.ref ob]) (n := 1) hC hW.g (lw_executes l D cs (zfA G1 _) G1 ob  N tx (t.take k.toNat) out c0 hs hlt hG (by omega)) (zgsW qm_L_151 qt_L_executes qn_L qc_L_executes) he_L_executes rfl hl rfl (Nat.le_of_ble_eq_true rfl) ⟨Nat.le_of_ble_eq_true rfl, Nat.le_of_ble_eq_true rfl⟩ ⟨(by show _ ≤ 160; omega), (by show _ ≤ 1000; omega)⟩ dL_execute_35) hW (fun r35 G35 H locs hp35 hW => ?_)
        obtain ⟨hG, rfl⟩ := hp35
        exact z_iretG hC hr hlk hW (by omega) (by omega) ((by show _ ∧ _ ∧ _; rw [hkt] at hG ⊢; exact ⟨rfl, hG, rfl⟩)) dL_execute_38
      · skip
        refine lv_aload_n hx hb dL_execute_10 rfl (lv_at hl 1 rfl) ?_
        refine lv_aload_n hx hb dL_execute_11 rfl (lv_at hl 2 rfl) ?_
        refine lv_iload_n hx hb dL_execute_12 rfl (lv_at hl 0 rfl) ?_
        refine z_cXi hC (z_frSt (rest := [.ref ob]) (As := [.int (iI k)]) (n := 1) hC hW.x (mes_charAt l D cs (zfA X _) X b v t k hs1 (by omega)) gv_L_143 hd_J0_charAt_5068e hs1 rfl hl rfl (Nat.le_of_ble_eq_true rfl) ⟨Nat.le_of_ble_eq_true rfl, Nat.le_of_ble_eq_true rfl⟩ ⟨(by show _ ≤ 160; omega), (by show _ ≤ 1000; omega)⟩ dL_execute_13) hW (fun r13 X13 H locs hp13 hW => ?_)
        obtain ⟨rfl, rfl⟩ := hp13
        have hgr := gD_rng hrg k.toNat
        have hkl : (t.take k.toNat).length = k.toNat := by rw [List.length_take]; omega
        refine z_cGi hC (z_frSW (rest := []) (As := [.ref ob, .int (iI (t.getD k.toNat 0))]) (n := 2) hC hW.g (lw_feed l D cs (zfA G1 _) G1 ob (t.getD k.toNat 0) N tx (t.take k.toNat) out c0 hs hlt hG (by omega)) (zgsW qm_L_146 qt_L_feed qn_L qc_L_feed) he_L_feed rfl hl rfl (Nat.le_of_ble_eq_true rfl) ⟨Nat.le_of_ble_eq_true rfl, Nat.le_of_ble_eq_true rfl⟩ ⟨(by show _ ≤ 160; omega), (by show _ ≤ 1000; omega)⟩ dL_execute_16) hW (fun r16 G16 H locs hp16 hW => ?_)
        obtain ⟨hG, rfl⟩ := hp16
        refine z_top (y := k + 1) (by rw [wq_0 rfl]; show ((t.take k.toNat).length : Int) + 1 = k + 1; omega) ?_
        refine lv_iload_n hx hb dL_execute_19 rfl (lv_at hl 0 rfl) ?_
        refine z_iconst hx hb dL_execute_20 ?_
        refine z_iadd hx hb dL_execute_21 ?_
        refine z_icmp_eq (tgt := 28) hx hb dL_execute_22 (by decide) (by omega) (by omega) (fun c_3 => ?_) (fun c_3 => ?_)
        · skip
          refine z_iinc (lv' := [(2, .int (iI (k + 1))), (0, .ref ob), (1, .ref b)]) hx hb dL_execute_28 hl (k := 0) rfl (by decide) rfl (fun ls hl => ?_)
          refine lv_goto (tgt := 2) hx hb dL_execute_31 (by decide) ?_
          refine W.widen (k := (1 * (k + 1).toNat)) (n := (6 * (k + 1).toNat)) (by omega) (by omega) ?_
          exact ih2 (k + 1) G16 (by omega) (by omega) (by rw [wd_take (by omega) (by omega)]; exact hG) _ _ hW ls (lv_sub hl [0, 1, 2] rfl)
        · skip
          exfalso; omega
  refine W.widen (k := (1 * (0 : Int).toNat)) (n := (6 * (0 : Int).toNat)) (by omega) (by omega) ?_
  exact L2_k_1 _ 0 G (Nat.lt_succ_self _) (by omega) hG _ _ hW ls (lv_sub hl [0, 1, 2] rfl)

