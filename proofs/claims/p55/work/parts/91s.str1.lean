theorem df_J0 : ∀ j, j < 4 → defaultValue (tyJ0 j) = vp_V [.null, .int (iI 0), .int (iI 0), .int (iI 0)] j := by
  intro j hj
  match j, hj with
  | 0, _ => rfl
  | 1, _ => rfl
  | 2, _ => rfl
  | 3, _ => rfl
  | k + 4, h => exact absurd h (by omega)
theorem oSt.upn {cs : Nat → ClassId} {F : zF} {a v q : Nat} {e : va_E} {t : List Int} (h : oSt cs F a v t) (hq : F q = none) : oSt cs (zup F q e) a v t := h.mono (zle.fresh hq)
theorem oSt.ko {cs : Nat → ClassId} {F F1 : zF} {b v a : Nat} {t : List Int} {fs : List Value} (h : oSt cs F b v t) (hk : zko [a] F F1) (ha : F a = some (.inr (1, fs))) : oSt cs F1 b v t := by
  refine ⟨h.1.imp (fun ⟨f, h1, h2, h3⟩ => ⟨f, hk _ _ h1 ?_, hk _ _ h2 ?_, h3⟩) id, h.2⟩
  · exact zni1 (zne h1 ha (fun q => by cases q)) zni0
  · exact zni1 (zne h2 ha (fun q => by cases q)) zni0
/-- the capacity behind an append of any length -/
def grx (cap n : Nat) : Nat := if n ≤ cap then cap else if n ≤ 2 * cap + 2 then 2 * cap + 2 else n
def msX (cap n : Nat) : Nat := if n ≤ cap then 0 else grx cap n
theorem grx_le (cap n : Nat) : n ≤ grx cap n ∧ cap ≤ grx cap n ∧ (grx cap n = cap ∨ grx cap n ≤ 2 * n) ∧ msX cap n + 2 * cap ≤ 2 * grx cap n := by
  unfold msX grx
  by_cases h : n ≤ cap
  · rw [if_pos h, if_pos h]; omega
  · rw [if_neg h, if_neg h]
    by_cases h2 : n ≤ 2 * cap + 2
    · rw [if_pos h2]; omega
    · rw [if_neg h2]; omega
theorem grx_c {cap n : Nat} (h : cap < n ∧ n ≤ 4000) (hc : cap ≤ 10000) : (cap : Int) + (if (n : Int) - (cap : Int) ≤ (cap : Int) + 2 then (cap : Int) + 2 else (n : Int) - (cap : Int)) = (grx cap n : Int) ∧ grx cap n ≤ 20002 := by
  unfold grx
  rw [if_neg (show ¬ n ≤ cap by omega)]
  by_cases q : n ≤ 2 * cap + 2
  · rw [if_pos q, if_pos (by omega)]; omega
  · rw [if_neg q, if_neg (by omega)]; omega
/-- a text written into a row -/
theorem sb_txt {tx t : List Int} {f g : Int → Int} (h2 : ∀ k : Int, 0 ≤ k → k < tx.length → g k = tx.getD k.toNat 0) (hf : ∀ k : Int, 0 ≤ k → k < t.length → f k = t.getD k.toNat 0) : ∀ k : Int, 0 ≤ k → k < (tx ++ t).length → zcpy f g 0 tx.length t.length k = (tx ++ t).getD k.toNat 0 := by
  intro k k0 k1
  rw [List.length_append] at k1
  rw [List.getD_eq_getElem?_getD]
  unfold zcpy
  by_cases h : k < tx.length
  · rw [if_neg (by omega), h2 k k0 h, List.getElem?_append_left (by omega), List.getD_eq_getElem?_getD]
  · rw [if_pos (by omega), hf _ (by omega) (by omega), List.getElem?_append_right (by omega), List.getD_eq_getElem?_getD, show (0 + (k - (tx.length : Int))).toNat = k.toNat - tx.length by omega]
theorem sb_txr {t : List Int} {f g : Int → Int} {d : Int} (hg : ∀ k : Int, 0 ≤ g k ∧ g k ≤ 127) (ht : ∀ x ∈ t, 0 ≤ x ∧ x ≤ 127) (hf : ∀ k : Int, 0 ≤ k → k < t.length → f k = t.getD k.toNat 0) : ∀ k : Int, 0 ≤ zcpy f g 0 d t.length k ∧ zcpy f g 0 d t.length k ≤ 127 := by
  intro k
  unfold zcpy
  split
  · rw [hf _ (by omega) (by omega)]
    exact gD_rng ht _
  · exact hg k
theorem gD_dt {t : List Int} {i n k : Nat} (h : k < n) (h2 : i + n ≤ t.length) : ((t.drop i).take n).getD k 0 = t.getD (i + k) 0 := by
  rw [List.getD_eq_getElem?_getD, List.getD_eq_getElem?_getD, List.getElem?_take_of_lt h, List.getElem?_drop]
/-- indexOf -/
def zixo (c : Int) : List Int → Int → Int
  | [], _ => -1
  | x :: l, k => if x = c then k else zixo c l (k + 1)
def zidx (t : List Int) (c : Int) : Int := zixo c t 0
theorem zixo_rng (c : Int) : ∀ (l : List Int) (k : Int), 0 ≤ k → -1 ≤ zixo c l k ∧ zixo c l k < k + l.length + 1
  | [], k, h => by simp [zixo]; omega
  | x :: l, k, h => by
    unfold zixo
    split
    · simp; omega
    · have := zixo_rng c l (k + 1) (by omega)
      simp; omega
theorem zixo_d {t : List Int} {c i : Int} (h0 : 0 ≤ i) (h : i < t.length) : zixo c (t.drop i.toNat) i = if t.getD i.toNat 0 = c then i else zixo c (t.drop (i + 1).toNat) (i + 1) := by
  have hl : i.toNat < t.length := by omega
  rw [List.drop_eq_getElem_cons hl, show (i + 1).toNat = i.toNat + 1 by omega, List.getD_eq_getElem?_getD, List.getElem?_eq_getElem hl]
  rfl
theorem zixo_e {t : List Int} {c i : Int} (h : t.length ≤ i) : zixo c (t.drop i.toNat) i = -1 := by
  rw [List.drop_eq_nil_of_le (by omega)]
  rfl
set_option maxHeartbeats 4000000 in
set_option maxRecDepth 100000 in
theorem mes_coder (l : Launch) (D : va_G) (cs : Nat → ClassId) (A : Nat → Prop) (F : zF) (a v : Nat) (t : List Int)  (hs : oSt cs F a v t) : zM l D cs A yJ0_coder_7d493 cJ0_coder_7d493 1 (some FieldType.byte) 1 0 0 [.ref a] F (pI (fun r F1 => F = F1 ∧ 0 = r)) := by
  refine zM_of (own := RJ0) (by decide) rfl (Nat.le_of_ble_eq_true rfl) ?_
  intro p e s m below meth c hC hr hlk hnm hZ ls hl
  have hx := hC.x
  have hb := hC.b
  have hl : lv_has ls 1 [(0, .ref a)] := hl
  refine z_gets hC hZ (List.mem_of_getElem? (i := 1) rfl) ql_J0_38 dJ0_coder_7d493_0 ?_
  refine z_topi (y := 1) rfl ?_
  refine z_if_eq (tgt := 13) hx hb dJ0_coder_7d493_3 (by decide) (by decide) (fun c_1 => ?_) (fun c_1 => ?_)
  · skip
    exfalso; omega
  · skip
    refine lv_aload_n hx hb dJ0_coder_7d493_6 rfl (lv_at hl 0 rfl) ?_
    refine z_scod hC hZ hs ql_J0_15 dJ0_coder_7d493_7 ?_
    refine lv_goto (tgt := 14) hx hb dJ0_coder_7d493_10 (by decide) ?_
    exact z_zret hC hr hlk hZ rfl (by decide) (by decide) (⟨rfl, rfl⟩) dJ0_coder_7d493_14

set_option maxHeartbeats 4000000 in
set_option maxRecDepth 100000 in
theorem mes_isLatin1 (l : Launch) (D : va_G) (cs : Nat → ClassId) (A : Nat → Prop) (F : zF) (a v : Nat) (t : List Int)  (hs : oSt cs F a v t) : zM l D cs A yJ0_isLatin1_aae02 cJ0_isLatin1_aae02 1 (some FieldType.boolean) 1 0 0 [.ref a] F (pI (fun r F1 => F = F1 ∧ 1 = r)) := by
  refine zM_of (own := RJ0) (by decide) rfl (Nat.le_of_ble_eq_true rfl) ?_
  intro p e s m below meth c hC hr hlk hnm hZ ls hl
  have hx := hC.x
  have hb := hC.b
  have hl : lv_has ls 1 [(0, .ref a)] := hl
  refine z_gets hC hZ (List.mem_of_getElem? (i := 1) rfl) ql_J0_38 dJ0_isLatin1_aae02_0 ?_
  refine z_topi (y := 1) rfl ?_
  refine z_if_eq (tgt := 17) hx hb dJ0_isLatin1_aae02_3 (by decide) (by decide) (fun c_1 => ?_) (fun c_1 => ?_)
  · skip
    exfalso; omega
  · skip
    refine lv_aload_n hx hb dJ0_isLatin1_aae02_6 rfl (lv_at hl 0 rfl) ?_
    refine z_scod hC hZ hs ql_J0_15 dJ0_isLatin1_aae02_7 ?_
    refine z_if_ne (tgt := 17) hx hb dJ0_isLatin1_aae02_10 (by decide) (by decide) (fun c_2 => ?_) (fun c_2 => ?_)
    · skip
      exfalso; omega
    · skip
      refine z_iconst hx hb dJ0_isLatin1_aae02_13 ?_
      refine lv_goto (tgt := 18) hx hb dJ0_isLatin1_aae02_14 (by decide) ?_
      exact z_zret hC hr hlk hZ rfl (by decide) (by decide) (⟨rfl, rfl⟩) dJ0_isLatin1_aae02_18

set_option maxHeartbeats 4000000 in
set_option maxRecDepth 100000 in
theorem mes_length (l : Launch) (D : va_G) (cs : Nat → ClassId) (A : Nat → Prop) (F : zF) (a v : Nat) (t : List Int)  (hs : oSt cs F a v t) : zM l D cs A yJ0_length_8abf5 cJ0_length_8abf5 1 (some FieldType.int) 2 0 0 [.ref a] F (pI (fun r F1 => F = F1 ∧ (t.length : Int) = r)) := by
  refine zM_of (own := RJ0) (by decide) rfl (Nat.le_of_ble_eq_true rfl) ?_
  intro p e s m below meth c hC hr hlk hnm hZ ls hl
  have hx := hC.x
  have hb := hC.b
  have hl : lv_has ls 1 [(0, .ref a)] := hl
  have hlen := hs.2.1
  have hrg := hs.2.2
  refine lv_aload_n hx hb dJ0_length_8abf5_0 rfl (lv_at hl 0 rfl) ?_
  refine z_sval hC hZ hs ql_J0_9 dJ0_length_8abf5_1 ?_
  refine z_slen hC hZ hs dJ0_length_8abf5_4 ?_
  refine lv_aload_n hx hb dJ0_length_8abf5_5 rfl (lv_at hl 0 rfl) ?_
  refine z_calli (z_runSt (rest := [.int (iI (t.length : Int))]) (As := []) (n := 0) hC hZ (mes_coder l D cs A F a v t hs) gv_J0_335 hd_J0_coder_7d493 hs rfl hl rfl (Nat.le_of_ble_eq_true rfl) ⟨Nat.le_of_ble_eq_true rfl, Nat.le_of_ble_eq_true rfl⟩ ⟨Nat.le_of_ble_eq_true rfl, Nat.le_of_ble_eq_true rfl⟩ dJ0_length_8abf5_6) hZ (fun r6 F6 H locs hp6_c_1 hZ => ?_)
  obtain ⟨rfl, rfl⟩ := hp6_c_1
  refine lv_ishr hx hb dJ0_length_8abf5_9 ?_
  refine z_topi (y := (t.length : Int)) (ishr0 _) ?_
  exact z_iret hC hr hlk hZ (by decide) (by decide) (⟨rfl, rfl⟩) dJ0_length_8abf5_10

set_option maxHeartbeats 4000000 in
set_option maxRecDepth 100000 in
theorem mes_J1charAt (l : Launch) (D : va_G) (cs : Nat → ClassId) (A : Nat → Prop) (F : zF) (a v : Nat) (t : List Int) (k : Int)  (hs : oSt cs F a v t) (hk : 0 ≤ k ∧ k < (t.length : Int)) : zM l D cs A yJ1_charAt_3b067 cJ1_charAt_3b067 2 (some FieldType.char) 3 0 0 [.ref v, .int (iI k)] F (pI (fun r F1 => F = F1 ∧ (t.getD k.toNat 0) = r)) := by
  refine zM_of (own := RJ1) (by decide) rfl (Nat.le_of_ble_eq_true rfl) ?_
  intro p e s m below meth c hC hr hlk hnm hZ ls hl
  have hx := hC.x
  have hb := hC.b
  have hl : lv_has ls 2 [(0, .ref v), (1, .int (iI k))] := hl
  have hlen := hs.2.1
  have hrg := hs.2.2
  have hzr := gD_rng hrg k.toNat
  refine lv_iload_n hx hb dJ1_charAt_3b067_0 rfl (lv_at hl 1 rfl) ?_
  refine lv_aload_n hx hb dJ1_charAt_3b067_1 rfl (lv_at hl 0 rfl) ?_
  refine z_slen hC hZ hs dJ1_charAt_3b067_2 ?_
  refine z_callv (z_runS (rest := []) (As := [.int (iI k), .int (iI (t.length : Int))]) (n := 2) hC hZ (met_J0_checkIndex_df160 l D cs A F k (t.length : Int) (by omega) (by omega)) gs_J1_9 he_J0_checkIndex_df160 rfl hl rfl (Nat.le_of_ble_eq_true rfl) ⟨Nat.le_of_ble_eq_true rfl, Nat.le_of_ble_eq_true rfl⟩ ⟨Nat.le_of_ble_eq_true rfl, Nat.le_of_ble_eq_true rfl⟩ dJ1_charAt_3b067_3) hZ (fun _ H locs hp_1 hZ => ?_)
  obtain rfl := hp_1
  refine lv_aload_n hx hb dJ1_charAt_3b067_6 rfl (lv_at hl 0 rfl) ?_
  refine lv_iload_n hx hb dJ1_charAt_3b067_7 rfl (lv_at hl 1 rfl) ?_
  refine z_sbal hC hZ hs hk dJ1_charAt_3b067_8 ?_
  refine z_sipush hx hb dJ1_charAt_3b067_9 (by decide) ?_
  refine lv_iand hx hb dJ1_charAt_3b067_12 ?_
  refine z_topi (y := (t.getD k.toNat 0)) (iI_and255 (by omega)) ?_
  refine z_i2c hx hb dJ1_charAt_3b067_13 (by omega) ?_
  exact z_zret hC hr hlk hZ (iI_narC (by omega)).1 (by decide) (by decide) (⟨rfl, rfl⟩) dJ1_charAt_3b067_14

set_option maxHeartbeats 4000000 in
set_option maxRecDepth 100000 in
theorem mes_charAt (l : Launch) (D : va_G) (cs : Nat → ClassId) (A : Nat → Prop) (F : zF) (a v : Nat) (t : List Int) (k : Int)  (hs : oSt cs F a v t) (hk : 0 ≤ k ∧ k < (t.length : Int)) : zM l D cs A yJ0_charAt_5068e cJ0_charAt_5068e 2 (some FieldType.char) 5 0 0 [.ref a, .int (iI k)] F (pI (fun r F1 => F = F1 ∧ (t.getD k.toNat 0) = r)) := by
  refine zM_of (own := RJ0) (by decide) rfl (Nat.le_of_ble_eq_true rfl) ?_
  intro p e s m below meth c hC hr hlk hnm hZ ls hl
  have hx := hC.x
  have hb := hC.b
  have hl : lv_has ls 2 [(0, .ref a), (1, .int (iI k))] := hl
  have hlen := hs.2.1
  have hrg := hs.2.2
  have hzr := gD_rng hrg k.toNat
  refine lv_aload_n hx hb dJ0_charAt_5068e_0 rfl (lv_at hl 0 rfl) ?_
  refine z_calli (z_runSt (rest := []) (As := []) (n := 0) hC hZ (mes_isLatin1 l D cs A F a v t hs) gv_J0_492 hd_J0_isLatin1_aae02 hs rfl hl rfl (Nat.le_of_ble_eq_true rfl) ⟨Nat.le_of_ble_eq_true rfl, Nat.le_of_ble_eq_true rfl⟩ ⟨Nat.le_of_ble_eq_true rfl, Nat.le_of_ble_eq_true rfl⟩ dJ0_charAt_5068e_1) hZ (fun r1 F1 H locs hp1_c_1 hZ => ?_)
  obtain ⟨rfl, rfl⟩ := hp1_c_1
  refine z_if_eq (tgt := 16) hx hb dJ0_charAt_5068e_4 (by decide) (by decide) (fun c_2 => ?_) (fun c_2 => ?_)
  · skip
    exfalso; omega
  · skip
    refine lv_aload_n hx hb dJ0_charAt_5068e_7 rfl (lv_at hl 0 rfl) ?_
    refine z_sval hC hZ hs ql_J0_9 dJ0_charAt_5068e_8 ?_
    refine lv_iload_n hx hb dJ0_charAt_5068e_11 rfl (lv_at hl 1 rfl) ?_
    refine z_calli (z_runS (rest := []) (As := [.ref v, .int (iI k)]) (n := 2) hC hZ (mes_J1charAt l D cs A F a v t k hs hk) gs_J0_495 he_J1_charAt_3b067 rfl hl rfl (Nat.le_of_ble_eq_true rfl) ⟨Nat.le_of_ble_eq_true rfl, Nat.le_of_ble_eq_true rfl⟩ ⟨Nat.le_of_ble_eq_true rfl, Nat.le_of_ble_eq_true rfl⟩ dJ0_charAt_5068e_12) hZ (fun r12 F12 H locs hp12_c_3 hZ => ?_)
    obtain ⟨rfl, rfl⟩ := hp12_c_3
    exact z_zret hC hr hlk hZ (iI_narC (by omega)).1 (by decide) (by decide) (⟨rfl, rfl⟩) dJ0_charAt_5068e_15

set_option maxHeartbeats 4000000 in
set_option maxRecDepth 100000 in
theorem mes_newLength (l : Launch) (D : va_G) (cs : Nat → ClassId) (A : Nat → Prop) (F : zF) (x y z : Int)  (hx1 : 0 ≤ x ∧ x ≤ 10000) (hy1 : 0 ≤ y ∧ y ≤ 20002) (hz1 : 0 < z ∧ z ≤ 20002) : zM l D cs A yJ8_newLength_cabcc cJ8_newLength_cabcc 4 (some FieldType.int) 2 0 0 [.int (iI x), .int (iI y), .int (iI z)] F (pI (fun r F1 => F = F1 ∧ x + (if y ≤ z then z else y) = r)) := by
  refine zM_of (own := RJ8) (by decide) rfl (Nat.le_of_ble_eq_true rfl) ?_
  intro p e s m below meth c hC hr hlk hnm hZ ls hl
  have hx := hC.x
  have hb := hC.b
  have hl : lv_has ls 4 [(0, .int (iI x)), (1, .int (iI y)), (2, .int (iI z))] := hl
  refine lv_iload_n hx hb dJ8_newLength_cabcc_0 rfl (lv_at hl 0 rfl) ?_
  refine lv_iload_n hx hb dJ8_newLength_cabcc_1 rfl (lv_at hl 1 rfl) ?_
  refine lv_iload_n hx hb dJ8_newLength_cabcc_2 rfl (lv_at hl 2 rfl) ?_
  refine z_mmax (rest := [.int (iI x)]) hC hl qm_J8_194 (by omega) (by omega) ⟨Nat.le_of_ble_eq_true rfl, Nat.le_of_ble_eq_true rfl⟩ ⟨Nat.le_of_ble_eq_true rfl, Nat.le_of_ble_eq_true rfl⟩ dJ8_newLength_cabcc_3 (fun r3 hmx3 => ?_)
  refine z_top (y := (if y ≤ z then z else y)) (by split <;> omega) ?_
  have hmx : 0 < (if y ≤ z then z else y) ∧ (if y ≤ z then z else y) ≤ 20002 := by split <;> omega
  refine z_iadd hx hb dJ8_newLength_cabcc_6 ?_
  refine lv_istore_n (lv' := [(3, .int (iI (x + (if y ≤ z then z else y)))), (0, .int (iI x)), (1, .int (iI y)), (2, .int (iI z))]) hx hb dJ8_newLength_cabcc_7 rfl hl (by decide) rfl (fun ls hl => ?_)
  refine z_iconst hx hb dJ8_newLength_cabcc_8 ?_
  refine lv_iload_n hx hb dJ8_newLength_cabcc_9 rfl (lv_at hl 0 rfl) ?_
  refine z_icmp_ge (tgt := 21) hx hb dJ8_newLength_cabcc_10 (by decide) (by decide) (by omega) (fun c_1 => ?_) (fun c_1 => ?_)
  · skip
    exfalso; omega
  · skip
    refine lv_iload_n hx hb dJ8_newLength_cabcc_13 rfl (lv_at hl 0 rfl) ?_
    refine z_ldc (z := 2147483639) hC q_572 (by decide) dJ8_newLength_cabcc_14 ?_
    refine z_icmp_gt (tgt := 21) hx hb dJ8_newLength_cabcc_16 (by decide) (by omega) (by decide) (fun c_2 => ?_) (fun c_2 => ?_)
    · skip
      exfalso; omega
    · skip
      refine lv_iload_n hx hb dJ8_newLength_cabcc_19 rfl (lv_at hl 0 rfl) ?_
      exact z_iret hC hr hlk hZ (by decide) (by decide) (⟨rfl, rfl⟩) dJ8_newLength_cabcc_20

set_option maxHeartbeats 4000000 in
set_option maxRecDepth 100000 in
theorem mes_newCapacity (l : Launch) (D : va_G) (cs : Nat → ClassId) (A : Nat → Prop) (F : zF) (a va cap : Nat) (t : List Int) (n : Nat)  (hb1 : oSB cs F a va cap t) (hn : cap < n ∧ n ≤ 4000) : zM l D cs A yJ5_newCapacity_0f7a4 cJ5_newCapacity_0f7a4 6 (some FieldType.int) 3 0 0 [.ref a, .int (iI (n : Int))] F (pI (fun r F1 => F = F1 ∧ (grx cap n : Int) = r)) := by
  refine zM_of (own := RJ5) (by decide) rfl (Nat.le_of_ble_eq_true rfl) ?_
  intro p e s m below meth c hC hr hlk hnm hZ ls hl
  have hx := hC.x
  have hb := hC.b
  have hl : lv_has ls 6 [(0, .ref a), (1, .int (iI (n : Int)))] := hl
  obtain ⟨ml, f_, h0, h1, hcap, h2, h3⟩ := id hb1
  have hgx := grx_c hn hcap.2.2
  refine lv_aload_n hx hb dJ5_newCapacity_0f7a4_0 rfl (lv_at hl 0 rfl) ?_
  refine z_get (T := TJ4) (N := 4) (ci := 1) (k := 0) (fs := [.ref va, .int (iI 0), .int (iI ml), .int (iI (t.length : Int))]) (v := .ref va) hC hZ in_J4 rfl (by decide) ql_J5_15 rfl h0 rfl dJ5_newCapacity_0f7a4_1 ?_
  refine z_alen (t := 0) hC hZ h1 rfl dJ5_newCapacity_0f7a4_4 ?_
  refine lv_istore_n (lv' := [(2, .int (iI (cap : Int))), (0, .ref a), (1, .int (iI (n : Int)))]) hx hb dJ5_newCapacity_0f7a4_5 rfl hl (by decide) rfl (fun ls hl => ?_)
  refine lv_iload_n hx hb dJ5_newCapacity_0f7a4_6 rfl (lv_at hl 2 rfl) ?_
  refine lv_aload_n hx hb dJ5_newCapacity_0f7a4_7 rfl (lv_at hl 1 rfl) ?_
  refine z_get (T := TJ4) (N := 4) (ci := 1) (k := 1) (fs := [.ref va, .int (iI 0), .int (iI ml), .int (iI (t.length : Int))]) (v := .int (iI 0)) hC hZ in_J4 rfl (by decide) ql_J5_22 rfl h0 rfl dJ5_newCapacity_0f7a4_8 ?_
  refine lv_ishl hx hb dJ5_newCapacity_0f7a4_11 ?_
  refine z_topi (y := (n : Int)) (ishl0 _) ?_
  refine lv_istore_n (lv' := [(3, .int (iI (n : Int))), (2, .int (iI (cap : Int))), (0, .ref a), (1, .int (iI (n : Int)))]) hx hb dJ5_newCapacity_0f7a4_12 rfl hl (by decide) rfl (fun ls hl => ?_)
  refine lv_iload_n hx hb dJ5_newCapacity_0f7a4_13 rfl (lv_at hl 0 rfl) ?_
  refine lv_iload_n hx hb dJ5_newCapacity_0f7a4_14 rfl (lv_at hl 1 rfl) ?_
  refine z_isub hx hb dJ5_newCapacity_0f7a4_15 ?_
  refine lv_istore (lv' := [(4, .int (iI ((n : Int) - (cap : Int)))), (3, .int (iI (n : Int))), (2, .int (iI (cap : Int))), (0, .ref a), (1, .int (iI (n : Int)))]) hx hb dJ5_newCapacity_0f7a4_16 hl (by decide) rfl (fun ls hl => ?_)
  refine lv_iload_n hx hb dJ5_newCapacity_0f7a4_18 rfl (lv_at hl 2 rfl) ?_
  refine lv_iload hx hb dJ5_newCapacity_0f7a4_19 (lv_at hl 0 rfl) ?_
  refine lv_iload_n hx hb dJ5_newCapacity_0f7a4_21 rfl (lv_at hl 2 rfl) ?_
  refine z_iconst hx hb dJ5_newCapacity_0f7a4_22 ?_
  refine lv_aload_n hx hb dJ5_newCapacity_0f7a4_23 rfl (lv_at hl 3 rfl) ?_
  refine z_get (T := TJ4) (N := 4) (ci := 1) (k := 1) (fs := [.ref va, .int (iI 0), .int (iI ml), .int (iI (t.length : Int))]) (v := .int (iI 0)) hC hZ in_J4 rfl (by decide) ql_J5_22 rfl h0 rfl dJ5_newCapacity_0f7a4_24 ?_
  refine lv_ishl hx hb dJ5_newCapacity_0f7a4_27 ?_
  refine z_topi (y := 2) (ishl0 _) ?_
  refine z_iadd hx hb dJ5_newCapacity_0f7a4_28 ?_
  refine z_calli (z_runS (rest := []) (As := [.int (iI (cap : Int)), .int (iI ((n : Int) - (cap : Int))), .int (iI ((cap : Int) + 2))]) (n := 3) hC hZ (mes_newLength l D cs A F (cap : Int) ((n : Int) - (cap : Int)) ((cap : Int) + 2) (by omega) (by omega) (by omega)) gs_J5_114 he_J8_newLength_cabcc rfl hl rfl (Nat.le_of_ble_eq_true rfl) ⟨Nat.le_of_ble_eq_true rfl, Nat.le_of_ble_eq_true rfl⟩ ⟨Nat.le_of_ble_eq_true rfl, Nat.le_of_ble_eq_true rfl⟩ dJ5_newCapacity_0f7a4_29) hZ (fun r29 F29 H locs hp29_c_1 hZ => ?_)
  obtain ⟨rfl, rfl⟩ := hp29_c_1
  refine z_top (y := (grx cap n : Int)) (by rw [hgx.1]) ?_
  refine lv_istore (lv' := [(5, .int (iI (grx cap n : Int))), (4, .int (iI ((n : Int) - (cap : Int)))), (3, .int (iI (n : Int))), (2, .int (iI (cap : Int))), (0, .ref a), (1, .int (iI (n : Int)))]) hx hb dJ5_newCapacity_0f7a4_32 hl (by decide) rfl (fun ls hl => ?_)
  refine lv_iload hx hb dJ5_newCapacity_0f7a4_34 (lv_at hl 0 rfl) ?_
  refine z_ldc (z := 2147483647) hC q_982 (by decide) dJ5_newCapacity_0f7a4_36 ?_
  refine z_icmp_ne (tgt := 51) hx hb dJ5_newCapacity_0f7a4_38 (by decide) (by omega) (by decide) (fun c_2 => ?_) (fun c_2 => ?_)
  · skip
    refine lv_iload hx hb dJ5_newCapacity_0f7a4_51 (lv_at hl 0 rfl) ?_
    refine lv_aload_n hx hb dJ5_newCapacity_0f7a4_53 rfl (lv_at hl 4 rfl) ?_
    refine z_get (T := TJ4) (N := 4) (ci := 1) (k := 1) (fs := [.ref va, .int (iI 0), .int (iI ml), .int (iI (t.length : Int))]) (v := .int (iI 0)) hC hZ in_J4 rfl (by decide) ql_J5_22 rfl h0 rfl dJ5_newCapacity_0f7a4_54 ?_
    refine lv_ishr hx hb dJ5_newCapacity_0f7a4_57 ?_
    refine z_topi (y := (grx cap n : Int)) (ishr0 _) ?_
    exact z_iret hC hr hlk hZ (by decide) (by decide) (⟨rfl, rfl⟩) dJ5_newCapacity_0f7a4_58
  · skip
    exfalso; omega

set_option maxHeartbeats 4000000 in
set_option maxRecDepth 100000 in
theorem mes_ensure (l : Launch) (D : va_G) (cs : Nat → ClassId) (A : Nat → Prop) (F : zF) (a va cap : Nat) (t : List Int) (n : Nat)  (hb1 : oSB cs F a va cap t) (hn : n ≤ 4000) : zM l D cs A yJ5_ensureCapacityInternal_d00df cJ5_ensureCapacityInternal_d00df 3 (none : Option Jvm.ClassFile.FieldType) 4 (mcS cap n) (msX cap n) [.ref a, .int (iI (n : Int))] F (pV (fun F1 => ∃ va1 : Nat, (va1 = va ∨ F va1 = none) ∧ zko [a] F F1 ∧ oSB cs F1 a va1 (grx cap n) t)) := by
  refine zM_of (own := RJ5) (by decide) rfl (Nat.le_of_ble_eq_true rfl) ?_
  intro p e s m below meth c hC hr hlk hnm hZ ls hl
  have hx := hC.x
  have hb := hC.b
  have hl : lv_has ls 3 [(0, .ref a), (1, .int (iI (n : Int)))] := hl
  obtain ⟨ml, f_, h0, h1, hcap, h2, h3⟩ := id hb1
  have hgx := grx_le cap n
  refine lv_aload_n hx hb dJ5_ensureCapacityInternal_d00df_0 rfl (lv_at hl 0 rfl) ?_
  refine z_get (T := TJ4) (N := 4) (ci := 1) (k := 0) (fs := [.ref va, .int (iI 0), .int (iI ml), .int (iI (t.length : Int))]) (v := .ref va) hC hZ in_J4 rfl (by decide) ql_J5_15 rfl h0 rfl dJ5_ensureCapacityInternal_d00df_1 ?_
  refine z_alen (t := 0) hC hZ h1 rfl dJ5_ensureCapacityInternal_d00df_4 ?_
  refine lv_aload_n hx hb dJ5_ensureCapacityInternal_d00df_5 rfl (lv_at hl 0 rfl) ?_
  refine z_get (T := TJ4) (N := 4) (ci := 1) (k := 1) (fs := [.ref va, .int (iI 0), .int (iI ml), .int (iI (t.length : Int))]) (v := .int (iI 0)) hC hZ in_J4 rfl (by decide) ql_J5_22 rfl h0 rfl dJ5_ensureCapacityInternal_d00df_6 ?_
  refine lv_ishr hx hb dJ5_ensureCapacityInternal_d00df_9 ?_
  refine z_topi (y := (cap : Int)) (ishr0 _) ?_
  refine lv_istore_n (lv' := [(2, .int (iI (cap : Int))), (0, .ref a), (1, .int (iI (n : Int)))]) hx hb dJ5_ensureCapacityInternal_d00df_10 rfl hl (by decide) rfl (fun ls hl => ?_)
  refine lv_iload_n hx hb dJ5_ensureCapacityInternal_d00df_11 rfl (lv_at hl 2 rfl) ?_
  refine lv_iload_n hx hb dJ5_ensureCapacityInternal_d00df_12 rfl (lv_at hl 0 rfl) ?_
  refine z_isub hx hb dJ5_ensureCapacityInternal_d00df_13 ?_
  refine z_if_le (tgt := 38) hx hb dJ5_ensureCapacityInternal_d00df_14 (by decide) (by omega) (fun c_1 => ?_) (fun c_1 => ?_)
  · skip
    have hg1 : grx cap n = cap := if_pos (by omega)
    exact z_vret hC hr hlk hZ (by omega) (by omega) (⟨va, Or.inl rfl, zko.refl, by rw [hg1]; exact hb1⟩) dJ5_ensureCapacityInternal_d00df_38
  · skip
    have hmc : mcS cap n = 1 := if_neg (by omega)
    have hms : msX cap n = grx cap n := if_neg (by omega)
    refine lv_aload_n hx hb dJ5_ensureCapacityInternal_d00df_17 rfl (lv_at hl 1 rfl) ?_
    refine lv_aload_n hx hb dJ5_ensureCapacityInternal_d00df_18 rfl (lv_at hl 1 rfl) ?_
    refine z_get (T := TJ4) (N := 4) (ci := 1) (k := 0) (fs := [.ref va, .int (iI 0), .int (iI ml), .int (iI (t.length : Int))]) (v := .ref va) hC hZ in_J4 rfl (by decide) ql_J5_15 rfl h0 rfl dJ5_ensureCapacityInternal_d00df_19 ?_
    refine lv_aload_n hx hb dJ5_ensureCapacityInternal_d00df_22 rfl (lv_at hl 1 rfl) ?_
    refine lv_iload_n hx hb dJ5_ensureCapacityInternal_d00df_23 rfl (lv_at hl 2 rfl) ?_
    refine z_calli (z_runU (rest := [.ref va, .ref a]) (As := [.int (iI (n : Int))]) (n := 1) (ci := 1) hC hZ (mes_newCapacity l D cs A F a va cap t n hb1 (by omega)) qc_J5_newCapacity_0f7a4 qn_J5 qm_J5_104 q_2146 qi_J5_newCapacity_0f7a4 (z_selP hC qs_J5_isLatin1_aae02_J4 rfl qp_J5_newCapacity_0f7a4 qi_J5_newCapacity_0f7a4 (by decide)) (by decide +kernel) rfl h0 rfl hl rfl (Nat.le_of_ble_eq_true rfl) ⟨Nat.le_of_ble_eq_true rfl, Nat.le_of_ble_eq_true rfl⟩ ⟨(by show _ ≤ (mcS cap n); omega), (by show _ ≤ (msX cap n); omega)⟩ dJ5_ensureCapacityInternal_d00df_24) hZ (fun r24 F24 H locs hp24_c_2 hZ => ?_)
    obtain ⟨rfl, hp24_c_2⟩ := hp24_c_2
    refine z_top (y := ((grx cap n : Nat) : Int)) (by omega) ?_
    refine lv_aload_n hx hb dJ5_ensureCapacityInternal_d00df_27 rfl (lv_at hl 1 rfl) ?_
    refine z_get (T := TJ4) (N := 4) (ci := 1) (k := 1) (fs := [.ref va, .int (iI 0), .int (iI ml), .int (iI (t.length : Int))]) (v := .int (iI 0)) hC hZ in_J4 rfl (by decide) ql_J5_22 rfl h0 rfl dJ5_ensureCapacityInternal_d00df_28 ?_
    refine lv_ishl hx hb dJ5_ensureCapacityInternal_d00df_31 ?_
    refine z_topi (y := ((grx cap n : Nat) : Int)) (ishl0 _) ?_
    refine z_callr (z_runS (rest := [.ref a]) (As := [.ref va, .int (iI ((grx cap n : Nat) : Int))]) (n := 2) hC hZ (met_J7_copyOf_9075b l D cs A F va cap (grx cap n) f_ h1 ⟨by omega, by omega⟩ h3) gs_J5_108 he_J7_copyOf_9075b rfl hl rfl (Nat.le_of_ble_eq_true rfl) ⟨Nat.le_of_ble_eq_true rfl, Nat.le_of_ble_eq_true rfl⟩ ⟨(by show _ ≤ (mcS cap n); omega), (by show _ ≤ (msX cap n); omega)⟩ dJ5_ensureCapacityInternal_d00df_32) hZ (fun r32 F32 H locs hp32_c_3 hZ => ?_)
    obtain ⟨hn32, rfl⟩ := hp32_c_3
    have hrr32 : F r32 = none ∧ True := ⟨hn32, trivial⟩
    have hf_4 : (zup F r32 (zA (cs 0) (grx cap n) (zcpy f_ (fun _ => 0) 0 0 cap))) a = some (.inr (1, [.ref va, .int (iI 0), .int (iI ml), .int (iI (t.length : Int))])) := zup_k (zF_ne h0 hrr32.1) h0
    have hf_5 : (zup F r32 (zA (cs 0) (grx cap n) (zcpy f_ (fun _ => 0) 0 0 cap))) va = some (zA (cs 0) cap f_) := zup_k (zF_ne h1 hrr32.1) h1
    have hf_6 : (zup F r32 (zA (cs 0) (grx cap n) (zcpy f_ (fun _ => 0) 0 0 cap))) r32 = some (zA (cs 0) (grx cap n) (zcpy f_ (fun _ => 0) 0 0 cap)) := zup_s
    refine z_put (T := TJ4) (N := 4) (ci := 1) (k := 0) (fs := [.ref va, .int (iI 0), .int (iI ml), .int (iI (t.length : Int))]) (v := .ref r32) hC hZ tyJ4 tyJ4_ok nmJ4 in_J4 rfl (by decide) ql_J5_15 rfl (Or.inl rfl) rfl hf_4 (by show 0 < 4; decide) rfl rfl dJ5_ensureCapacityInternal_d00df_35 (fun H locs hZ => ?_)
    have hf_7 : (zup (zup F r32 (zA (cs 0) (grx cap n) (zcpy f_ (fun _ => 0) 0 0 cap))) a (.inr (1, [.ref r32, .int (iI 0), .int (iI ml), .int (iI (t.length : Int))]))) va = some (zA (cs 0) cap f_) := zup_k (zne hf_5 hf_4 (fun q => by cases q)) hf_5
    have hf_8 : (zup (zup F r32 (zA (cs 0) (grx cap n) (zcpy f_ (fun _ => 0) 0 0 cap))) a (.inr (1, [.ref r32, .int (iI 0), .int (iI ml), .int (iI (t.length : Int))]))) r32 = some (zA (cs 0) (grx cap n) (zcpy f_ (fun _ => 0) 0 0 cap)) := zup_k (zne hf_6 hf_4 (fun q => by cases q)) hf_6
    have hf_9 : (zup (zup F r32 (zA (cs 0) (grx cap n) (zcpy f_ (fun _ => 0) 0 0 cap))) a (.inr (1, [.ref r32, .int (iI 0), .int (iI ml), .int (iI (t.length : Int))]))) a = some (.inr (1, [.ref r32, .int (iI 0), .int (iI ml), .int (iI (t.length : Int))])) := zup_s
    replace hZ : zS D A s (zup (zup F r32 (zA (cs 0) (grx cap n) (zcpy f_ (fun _ => 0) 0 0 cap))) a (.inr (1, [.ref r32, .int (iI 0), .int (iI ml), .int (iI (t.length : Int))]))) _ _ := hZ
    exact z_vret hC hr hlk hZ (by omega) (by omega) (⟨r32, Or.inr hrr32.1, (((zko.refl : zko [a] F F).new hrr32.1).up (by simp)), ⟨ml, _, hf_9, hf_8, ⟨by omega, by omega, by omega⟩, fun k k0 k1 => by unfold zcpy; rw [if_pos (by omega), show (0 : Int) + (k - 0) = k by omega]; exact h2 k k0 k1, fun k => by unfold zcpy; split; exact h3 _; exact (show (0 : Int) ≤ 0 ∧ (0 : Int) ≤ 127 by decide)⟩⟩) dJ5_ensureCapacityInternal_d00df_38

set_option maxHeartbeats 4000000 in
set_option maxRecDepth 100000 in
theorem mes_getBytes (l : Launch) (D : va_G) (cs : Nat → ClassId) (A : Nat → Prop) (F : zF) (a v : Nat) (t : List Int) (d cap : Nat) (g_ : Int → Int) (off : Int)  (hs : oSt cs F a v t) (hd : F d = some (zA (cs 0) cap g_)) (ho : 0 ≤ off ∧ off + t.length ≤ cap) (hc : cap ≤ 20002) : zM l D cs A yJ0_getBytes_840e7 cJ0_getBytes_840e7 4 (none : Option Jvm.ClassFile.FieldType) 6 0 0 [.ref a, .ref d, .int (iI off), .int (iI 0)] F (pV (fun F1 => ∃ f : Int → Int, (∀ k : Int, 0 ≤ k → k < t.length → f k = t.getD k.toNat 0) ∧ F1 = zup F d (zA (cs 0) cap (zcpy f g_ 0 off t.length)))) := by
  refine zM_of (own := RJ0) (by decide) rfl (Nat.le_of_ble_eq_true rfl) ?_
  intro p e s m below meth c hC hr hlk hnm hZ ls hl
  have hx := hC.x
  have hb := hC.b
  have hl : lv_has ls 4 [(0, .ref a), (1, .ref d), (2, .int (iI off)), (3, .int (iI 0))] := hl
  have hlen := hs.2.1
  have hrg := hs.2.2
  refine lv_aload_n hx hb dJ0_getBytes_840e7_0 rfl (lv_at hl 0 rfl) ?_
  refine z_calli (z_runSt (rest := []) (As := []) (n := 0) hC hZ (mes_coder l D cs A F a v t hs) gv_J0_335 hd_J0_coder_7d493 hs rfl hl rfl (Nat.le_of_ble_eq_true rfl) ⟨Nat.le_of_ble_eq_true rfl, Nat.le_of_ble_eq_true rfl⟩ ⟨Nat.le_of_ble_eq_true rfl, Nat.le_of_ble_eq_true rfl⟩ dJ0_getBytes_840e7_1) hZ (fun r1 F1 H locs hp1_c_1 hZ => ?_)
  obtain ⟨rfl, rfl⟩ := hp1_c_1
  refine lv_iload_n hx hb dJ0_getBytes_840e7_4 rfl (lv_at hl 3 rfl) ?_
  refine z_icmp_ne (tgt := 28) hx hb dJ0_getBytes_840e7_5 (by decide) (by decide) (by decide) (fun c_2 => ?_) (fun c_2 => ?_)
  · skip
    exfalso; omega
  · skip
    refine lv_aload_n hx hb dJ0_getBytes_840e7_8 rfl (lv_at hl 0 rfl) ?_
    refine z_sval hC hZ hs ql_J0_9 dJ0_getBytes_840e7_9 ?_
    refine z_iconst hx hb dJ0_getBytes_840e7_12 ?_
    refine lv_aload_n hx hb dJ0_getBytes_840e7_13 rfl (lv_at hl 1 rfl) ?_
    refine lv_iload_n hx hb dJ0_getBytes_840e7_14 rfl (lv_at hl 2 rfl) ?_
    refine lv_iload_n hx hb dJ0_getBytes_840e7_15 rfl (lv_at hl 3 rfl) ?_
    refine lv_ishl hx hb dJ0_getBytes_840e7_16 ?_
    refine z_topi (y := off) (ishl0 _) ?_
    refine lv_aload_n hx hb dJ0_getBytes_840e7_17 rfl (lv_at hl 0 rfl) ?_
    refine z_sval hC hZ hs ql_J0_9 dJ0_getBytes_840e7_18 ?_
    refine z_slen hC hZ hs dJ0_getBytes_840e7_21 ?_
    refine z_copyS (rest := []) hC hZ qm_J0_212 qv_J10_arraycopy_1e247 qt_J10_arraycopy_1e247 qn_J10 (sp := 0) (dp := off) (n := (t.length : Int)) hs hd (by omega) (by omega) (by omega) (by omega) (by omega) (by omega) hl (Nat.le_of_ble_eq_true rfl) (Nat.le_of_ble_eq_true rfl) dJ0_getBytes_840e7_22 (fun fs_ H locs hfs hZ => ?_)
    have hf_3 : (zup F d (zA (cs 0) cap (zcpy fs_ g_ 0 off (t.length : Int)))) d = some (zA (cs 0) cap (zcpy fs_ g_ 0 off (t.length : Int))) := zup_s
    replace hZ : zS D A s (zup F d (zA (cs 0) cap (zcpy fs_ g_ 0 off (t.length : Int)))) _ _ := hZ
    refine lv_goto (tgt := 43) hx hb dJ0_getBytes_840e7_25 (by decide) ?_
    exact z_vret hC hr hlk hZ (by decide) (by decide) (⟨fs_, hfs, rfl⟩) dJ0_getBytes_840e7_43

set_option maxHeartbeats 4000000 in
set_option maxRecDepth 100000 in
theorem mes_infl (l : Launch) (D : va_G) (cs : Nat → ClassId) (A : Nat → Prop) (F : zF) (a va cap : Nat) (tx : List Int) (b v : Nat) (t : List Int)  (hb1 : oSB cs F a va cap tx) (hs : oSt cs F b v t) : zM l D cs A yJ5_inflateIfNeededFor_a7421 cJ5_inflateIfNeededFor_a7421 2 (none : Option Jvm.ClassFile.FieldType) 7 0 0 [.ref a, .ref b] F (pV (fun F1 => F = F1)) := by
  refine zM_of (own := RJ5) (by decide) rfl (Nat.le_of_ble_eq_true rfl) ?_
  intro p e s m below meth c hC hr hlk hnm hZ ls hl
  have hx := hC.x
  have hb := hC.b
  have hl : lv_has ls 2 [(0, .ref a), (1, .ref b)] := hl
  obtain ⟨ml, f_, h0, h1, hcap, h2, h3⟩ := id hb1
  have hlen := hs.2.1
  have hrg := hs.2.2
  refine z_gets hC hZ (List.mem_of_getElem? (i := 1) rfl) ql_J5_18 dJ5_inflateIfNeededFor_a7421_0 ?_
  refine z_topi (y := 1) rfl ?_
  refine z_if_eq (tgt := 21) hx hb dJ5_inflateIfNeededFor_a7421_3 (by decide) (by decide) (fun c_1 => ?_) (fun c_1 => ?_)
  · skip
    exfalso; omega
  · skip
    refine lv_aload_n hx hb dJ5_inflateIfNeededFor_a7421_6 rfl (lv_at hl 0 rfl) ?_
    refine z_get (T := TJ4) (N := 4) (ci := 1) (k := 1) (fs := [.ref va, .int (iI 0), .int (iI ml), .int (iI (tx.length : Int))]) (v := .int (iI 0)) hC hZ in_J4 rfl (by decide) ql_J5_22 rfl h0 rfl dJ5_inflateIfNeededFor_a7421_7 ?_
    refine lv_aload_n hx hb dJ5_inflateIfNeededFor_a7421_10 rfl (lv_at hl 1 rfl) ?_
    refine z_calli (z_runSt (rest := [.int (iI 0)]) (As := []) (n := 0) hC hZ (mes_coder l D cs A F b v t hs) gv_J5_40 hd_J0_coder_7d493 hs rfl hl rfl (Nat.le_of_ble_eq_true rfl) ⟨Nat.le_of_ble_eq_true rfl, Nat.le_of_ble_eq_true rfl⟩ ⟨Nat.le_of_ble_eq_true rfl, Nat.le_of_ble_eq_true rfl⟩ dJ5_inflateIfNeededFor_a7421_11) hZ (fun r11 F11 H locs hp11_c_2 hZ => ?_)
    obtain ⟨rfl, rfl⟩ := hp11_c_2
    refine z_icmp_eq (tgt := 21) hx hb dJ5_inflateIfNeededFor_a7421_14 (by decide) (by decide) (by decide) (fun c_3 => ?_) (fun c_3 => ?_)
    · skip
      exact z_vret hC hr hlk hZ (by decide) (by decide) (rfl) dJ5_inflateIfNeededFor_a7421_21
    · skip
      exfalso; omega

set_option maxHeartbeats 4000000 in
set_option maxRecDepth 100000 in
theorem mes_putStr (l : Launch) (D : va_G) (cs : Nat → ClassId) (A : Nat → Prop) (F : zF) (a va cap : Nat) (tx : List Int) (b v : Nat) (t : List Int)  (hb1 : oSB cs F a va cap tx) (hs : oSt cs F b v t) (hc : tx.length + t.length ≤ cap) : zM l D cs A yJ5_putStringAt_47b60 cJ5_putStringAt_47b60 3 (none : Option Jvm.ClassFile.FieldType) 8 0 0 [.ref a, .int (iI (tx.length : Int)), .ref b] F (pV (fun F1 => zko [va] F F1 ∧ ∃ (ml : Int) (f : Int → Int), F1 a = some (.inr (1, [.ref va, .int (iI 0), .int (iI ml), .int (iI tx.length)])) ∧ F1 va = some (zA (cs 0) cap f) ∧ (∀ k : Int, 0 ≤ k → k < (tx ++ t).length → f k = (tx ++ t).getD k.toNat 0) ∧ ∀ k : Int, 0 ≤ f k ∧ f k ≤ 127)) := by
  refine zM_of (own := RJ5) (by decide) rfl (Nat.le_of_ble_eq_true rfl) ?_
  intro p e s m below meth c hC hr hlk hnm hZ ls hl
  have hx := hC.x
  have hb := hC.b
  have hl : lv_has ls 3 [(0, .ref a), (1, .int (iI (tx.length : Int))), (2, .ref b)] := hl
  obtain ⟨ml, f_, h0, h1, hcap, h2, h3⟩ := id hb1
  have hlen := hs.2.1
  have hrg := hs.2.2
  refine lv_aload_n hx hb dJ5_putStringAt_47b60_0 rfl (lv_at hl 0 rfl) ?_
  refine lv_aload_n hx hb dJ5_putStringAt_47b60_1 rfl (lv_at hl 2 rfl) ?_
  refine z_callv (z_runU (rest := []) (As := [.ref b]) (n := 1) (ci := 1) hC hZ (mes_infl l D cs A F a va cap tx b v t hb1 hs) qc_J5_inflateIfNeededFor_a7421 qn_J5 qm_J5_397 q_2148 qi_J5_inflateIfNeededFor_a7421 (z_selP hC qs_J5_isLatin1_aae02_J4 rfl qp_J5_inflateIfNeededFor_a7421 qi_J5_inflateIfNeededFor_a7421 (by decide)) (by decide +kernel) rfl h0 rfl hl rfl (Nat.le_of_ble_eq_true rfl) ⟨Nat.le_of_ble_eq_true rfl, Nat.le_of_ble_eq_true rfl⟩ ⟨Nat.le_of_ble_eq_true rfl, Nat.le_of_ble_eq_true rfl⟩ dJ5_putStringAt_47b60_2) hZ (fun F2 H locs hp2_c_1 hZ => ?_)
  obtain rfl := hp2_c_1
  refine lv_aload_n hx hb dJ5_putStringAt_47b60_5 rfl (lv_at hl 2 rfl) ?_
  refine lv_aload_n hx hb dJ5_putStringAt_47b60_6 rfl (lv_at hl 0 rfl) ?_
  refine z_get (T := TJ4) (N := 4) (ci := 1) (k := 0) (fs := [.ref va, .int (iI 0), .int (iI ml), .int (iI (tx.length : Int))]) (v := .ref va) hC hZ in_J4 rfl (by decide) ql_J5_15 rfl h0 rfl dJ5_putStringAt_47b60_7 ?_
  refine lv_iload_n hx hb dJ5_putStringAt_47b60_10 rfl (lv_at hl 1 rfl) ?_
  refine lv_aload_n hx hb dJ5_putStringAt_47b60_11 rfl (lv_at hl 0 rfl) ?_
  refine z_get (T := TJ4) (N := 4) (ci := 1) (k := 1) (fs := [.ref va, .int (iI 0), .int (iI ml), .int (iI (tx.length : Int))]) (v := .int (iI 0)) hC hZ in_J4 rfl (by decide) ql_J5_22 rfl h0 rfl dJ5_putStringAt_47b60_12 ?_
  refine z_callv (z_runSt (rest := []) (As := [.ref va, .int (iI (tx.length : Int)), .int (iI 0)]) (n := 3) hC hZ (mes_getBytes l D cs A F b v t va cap f_ (tx.length : Int) hs h1 (by omega) (by omega)) gv_J5_399 hd_J0_getBytes_840e7 hs rfl hl rfl (Nat.le_of_ble_eq_true rfl) ⟨Nat.le_of_ble_eq_true rfl, Nat.le_of_ble_eq_true rfl⟩ ⟨Nat.le_of_ble_eq_true rfl, Nat.le_of_ble_eq_true rfl⟩ dJ5_putStringAt_47b60_15) hZ (fun F15 H locs hp15_c_2 hZ => ?_)
  obtain ⟨fs_, hfs, rfl⟩ := hp15_c_2
  have hf_3 : (zup F va (zA (cs 0) cap (zcpy fs_ f_ 0 (tx.length : Int) (t.length : Int)))) a = some (.inr (1, [.ref va, .int (iI 0), .int (iI ml), .int (iI (tx.length : Int))])) := zup_k (zne h0 h1 (fun q => by cases q)) h0
  have hf_4 : (zup F va (zA (cs 0) cap (zcpy fs_ f_ 0 (tx.length : Int) (t.length : Int)))) va = some (zA (cs 0) cap (zcpy fs_ f_ 0 (tx.length : Int) (t.length : Int))) := zup_s
  exact z_vret hC hr hlk hZ (by decide) (by decide) (⟨((zko.refl : zko [va] F F).up (by simp)), ml, _, hf_3, hf_4, sb_txt h2 hfs, sb_txr h3 hrg hfs⟩) dJ5_putStringAt_47b60_18

theorem zko_2 {F F1 F2 F3 : zF} {a va va1 : Nat} {e : va_E} (hk : zko [a] F F1) (h1 : va1 = va ∨ F va1 = none) (hk2 : zko [va1] F1 F2) (h3 : F3 = zup F2 a e) : zko [a, va] F F3 := by
  intro q e9 hq hn
  simp only [List.mem_cons, List.not_mem_nil, or_false, not_or] at hn
  have hq1 := hk q e9 hq (by simp [hn.1])
  have hne : q ≠ va1 := by
    rcases h1 with h1 | h1
    · rw [h1]; exact hn.2
    · exact zF_ne hq h1
  have hq2 := hk2 q e9 hq1 (by simp [hne])
  rw [h3]
  exact zup_k hn.1 hq2
set_option maxHeartbeats 4000000 in
set_option maxRecDepth 100000 in
theorem mes_J5append (l : Launch) (D : va_G) (cs : Nat → ClassId) (A : Nat → Prop) (F : zF) (a va cap : Nat) (tx : List Int) (b v : Nat) (t : List Int)  (hb1 : oSB cs F a va cap tx) (hs : oSt cs F b v t) (ht0 : tx.length + t.length ≤ 3000) : zM l D cs A yJ5_append_cf1ce cJ5_append_cf1ce 3 (some (FieldType.object "java/lang/AbstractStringBuilder")) 9 (mcS cap (tx.length + t.length)) (msX cap (tx.length + t.length)) [.ref a, .ref b] F (pR (fun r F1 => a = r ∧ ∃ va1 : Nat, (va1 = va ∨ F va1 = none) ∧ zko [a, va] F F1 ∧ oSB cs F1 a va1 (grx cap (tx.length + t.length)) (tx ++ t))) := by
  refine zM_of (own := RJ5) (by decide) rfl (Nat.le_of_ble_eq_true rfl) ?_
  intro p e s m below meth c hC hr hlk hnm hZ ls hl
  have hx := hC.x
  have hb := hC.b
  have hl : lv_has ls 3 [(0, .ref a), (1, .ref b)] := hl
  obtain ⟨ml, f_, h0, h1, hcap, h2, h3⟩ := id hb1
  have hlen := hs.2.1
  have hrg := hs.2.2
  have hgx := grx_le cap (tx.length + t.length)
  refine lv_aload_n hx hb dJ5_append_cf1ce_0 rfl (lv_at hl 1 rfl) ?_
  refine lv_ifnonnull (tgt := 9) hx hb dJ5_append_cf1ce_1 (by decide) ?_
  refine lv_aload_n hx hb dJ5_append_cf1ce_9 rfl (lv_at hl 1 rfl) ?_
  refine z_calli (z_runSt (rest := []) (As := []) (n := 0) hC hZ (mes_length l D cs A F b v t hs) gv_J5_32 hd_J0_length_8abf5 hs rfl hl rfl (Nat.le_of_ble_eq_true rfl) ⟨Nat.le_of_ble_eq_true rfl, Nat.le_of_ble_eq_true rfl⟩ ⟨(by show _ ≤ (mcS cap (tx.length + t.length)); omega), (by show _ ≤ (msX cap (tx.length + t.length)); omega)⟩ dJ5_append_cf1ce_10) hZ (fun r10 F10 H locs hp10_c_1 hZ => ?_)
  obtain ⟨rfl, rfl⟩ := hp10_c_1
  refine lv_istore_n (lv' := [(2, .int (iI (t.length : Int))), (0, .ref a), (1, .ref b)]) hx hb dJ5_append_cf1ce_13 rfl hl (by decide) rfl (fun ls hl => ?_)
  refine lv_aload_n hx hb dJ5_append_cf1ce_14 rfl (lv_at hl 1 rfl) ?_
  refine lv_aload_n hx hb dJ5_append_cf1ce_15 rfl (lv_at hl 1 rfl) ?_
  refine z_get (T := TJ4) (N := 4) (ci := 1) (k := 3) (fs := [.ref va, .int (iI 0), .int (iI ml), .int (iI (tx.length : Int))]) (v := .int (iI (tx.length : Int))) hC hZ in_J4 rfl (by decide) ql_J5_79 rfl h0 rfl dJ5_append_cf1ce_16 ?_
  refine lv_iload_n hx hb dJ5_append_cf1ce_19 rfl (lv_at hl 0 rfl) ?_
  refine z_iadd hx hb dJ5_append_cf1ce_20 ?_
  refine z_top (y := (((tx.length + t.length) : Nat) : Int)) (by omega) ?_
  refine z_callv (z_runU (rest := []) (As := [.int (iI (((tx.length + t.length) : Nat) : Int))]) (n := 1) (ci := 1) hC hZ (mes_ensure l D cs A F a va cap tx (tx.length + t.length) hb1 (by omega)) qc_J5_ensureCapacityInternal_d00df qn_J5 qm_J5_100 q_2145 qi_J5_ensureCapacityInternal_d00df (z_selP hC qs_J5_isLatin1_aae02_J4 rfl qp_J5_ensureCapacityInternal_d00df qi_J5_ensureCapacityInternal_d00df (by decide)) (by decide +kernel) rfl h0 rfl hl rfl (Nat.le_of_ble_eq_true rfl) ⟨Nat.le_of_ble_eq_true rfl, Nat.le_of_ble_eq_true rfl⟩ ⟨(by show _ ≤ (mcS cap (tx.length + t.length)); omega), (by show _ ≤ (msX cap (tx.length + t.length)); omega)⟩ dJ5_append_cf1ce_21) hZ (fun F21 H locs hp21_c_2 hZ => ?_)
  obtain ⟨va1, ha1, hk1, hb2⟩ := hp21_c_2
  obtain ⟨ml1, f1_, j0, j1, hcap1, j2, j3⟩ := id hb2
  have hs2 := hs.ko hk1 h0
  refine lv_aload_n hx hb dJ5_append_cf1ce_24 rfl (lv_at hl 1 rfl) ?_
  refine lv_aload_n hx hb dJ5_append_cf1ce_25 rfl (lv_at hl 1 rfl) ?_
  refine z_get (T := TJ4) (N := 4) (ci := 1) (k := 3) (fs := [.ref va1, .int (iI 0), .int (iI ml1), .int (iI (tx.length : Int))]) (v := .int (iI (tx.length : Int))) hC hZ in_J4 rfl (by decide) ql_J5_79 rfl j0 rfl dJ5_append_cf1ce_26 ?_
  refine lv_aload_n hx hb dJ5_append_cf1ce_29 rfl (lv_at hl 2 rfl) ?_
  refine z_callv (z_runU (rest := []) (As := [.int (iI (tx.length : Int)), .ref b]) (n := 2) (ci := 1) hC hZ (mes_putStr l D cs A F21 a va1 (grx cap (tx.length + t.length)) tx b v t hb2 hs2 (by omega)) qc_J5_putStringAt_47b60 qn_J5 qm_J5_208 q_2147 qi_J5_putStringAt_47b60 (z_selP hC qs_J5_isLatin1_aae02_J4 rfl qp_J5_putStringAt_47b60 qi_J5_putStringAt_47b60 (by decide)) (by decide +kernel) rfl j0 rfl hl rfl (Nat.le_of_ble_eq_true rfl) ⟨Nat.le_of_ble_eq_true rfl, Nat.le_of_ble_eq_true rfl⟩ ⟨(by show _ ≤ (mcS cap (tx.length + t.length)); omega), (by show _ ≤ (msX cap (tx.length + t.length)); omega)⟩ dJ5_append_cf1ce_30) hZ (fun F30 H locs hp30_c_3 hZ => ?_)
  obtain ⟨hk9, ml9, f9_, j90, j91, j92, j93⟩ := hp30_c_3
  refine lv_aload_n hx hb dJ5_append_cf1ce_33 rfl (lv_at hl 1 rfl) ?_
  refine lv_dup hx hb dJ5_append_cf1ce_34 rfl ?_
  refine z_get (T := TJ4) (N := 4) (ci := 1) (k := 3) (fs := [.ref va1, .int (iI 0), .int (iI ml9), .int (iI (tx.length : Int))]) (v := .int (iI (tx.length : Int))) hC hZ in_J4 rfl (by decide) ql_J5_79 rfl j90 rfl dJ5_append_cf1ce_35 ?_
  refine lv_iload_n hx hb dJ5_append_cf1ce_38 rfl (lv_at hl 0 rfl) ?_
  refine z_iadd hx hb dJ5_append_cf1ce_39 ?_
  refine z_top (y := (((tx.length + t.length) : Nat) : Int)) (by omega) ?_
  refine z_put (T := TJ4) (N := 4) (ci := 1) (k := 3) (fs := [.ref va1, .int (iI 0), .int (iI ml9), .int (iI (tx.length : Int))]) (v := .int (iI (((tx.length + t.length) : Nat) : Int))) hC hZ tyJ4 tyJ4_ok nmJ4 in_J4 rfl (by decide) ql_J5_79 rfl (Or.inl rfl) rfl j90 (by show 3 < 4; decide) rfl rfl dJ5_append_cf1ce_40 (fun H locs hZ => ?_)
  have hf_4 : (zup F30 a (.inr (1, [.ref va1, .int (iI 0), .int (iI ml9), .int (iI (((tx.length + t.length) : Nat) : Int))]))) va1 = some (zA (cs 0) (grx cap (tx.length + t.length)) f9_) := zup_k (zne j91 j90 (fun q => by cases q)) j91
  have hf_5 : (zup F30 a (.inr (1, [.ref va1, .int (iI 0), .int (iI ml9), .int (iI (((tx.length + t.length) : Nat) : Int))]))) a = some (.inr (1, [.ref va1, .int (iI 0), .int (iI ml9), .int (iI (((tx.length + t.length) : Nat) : Int))])) := zup_s
  replace hZ : zS D A s (zup F30 a (.inr (1, [.ref va1, .int (iI 0), .int (iI ml9), .int (iI (((tx.length + t.length) : Nat) : Int))]))) _ _ := hZ
  refine lv_aload_n hx hb dJ5_append_cf1ce_43 rfl (lv_at hl 1 rfl) ?_
  exact z_aret hC hr (Or.inl ⟨_, rfl⟩) hlk hZ (by omega) (by omega) (⟨rfl, va1, ha1, zko_2 hk1 ha1 hk9 rfl, ml9, f9_, by rw [List.length_append]; exact hf_5, hf_4, by rw [List.length_append]; omega, j92, j93⟩) dJ5_append_cf1ce_44

set_option maxHeartbeats 4000000 in
set_option maxRecDepth 100000 in
theorem mes_append (l : Launch) (D : va_G) (cs : Nat → ClassId) (A : Nat → Prop) (F : zF) (a va cap : Nat) (tx : List Int) (b v : Nat) (t : List Int)  (hb1 : oSB cs F a va cap tx) (hs : oSt cs F b v t) (ht0 : tx.length + t.length ≤ 3000) : zM l D cs A yJ4_append_15ec4 cJ4_append_15ec4 2 (some (FieldType.object "java/lang/StringBuilder")) 10 (mcS cap (tx.length + t.length)) (msX cap (tx.length + t.length)) [.ref a, .ref b] F (pR (fun r F1 => a = r ∧ ∃ va1 : Nat, (va1 = va ∨ F va1 = none) ∧ zko [a, va] F F1 ∧ oSB cs F1 a va1 (grx cap (tx.length + t.length)) (tx ++ t))) := by
  refine zM_of (own := RJ4) (by decide) rfl (Nat.le_of_ble_eq_true rfl) ?_
  intro p e s m below meth c hC hr hlk hnm hZ ls hl
  have hx := hC.x
  have hb := hC.b
  have hl : lv_has ls 2 [(0, .ref a), (1, .ref b)] := hl
  obtain ⟨ml, f_, h0, h1, hcap, h2, h3⟩ := id hb1
  refine lv_aload_n hx hb dJ4_append_15ec4_0 rfl (lv_at hl 0 rfl) ?_
  refine lv_aload_n hx hb dJ4_append_15ec4_1 rfl (lv_at hl 1 rfl) ?_
  refine z_callr (z_runSU (rest := []) (As := [.ref b]) (n := 1) (ci := 1) hC hZ (mes_J5append l D cs A F a va cap tx b v t hb1 hs ht0) qc_J5_append_cf1ce qn_J5 qm_J4_29 q_2143 qi_J5_append_cf1ce q_102 (by decide) (he_J5_append_cf1ce).2.2 rfl h0 rfl hl rfl (Nat.le_of_ble_eq_true rfl) ⟨Nat.le_of_ble_eq_true rfl, Nat.le_of_ble_eq_true rfl⟩ ⟨(by show _ ≤ (mcS cap (tx.length + t.length)); omega), (by show _ ≤ (msX cap (tx.length + t.length)); omega)⟩ dJ4_append_15ec4_2) hZ (fun r2 F2 H locs hp2_c_1 hZ => ?_)
  refine lv_pop hx hb dJ4_append_15ec4_5 rfl ?_
  refine lv_aload_n hx hb dJ4_append_15ec4_6 rfl (lv_at hl 0 rfl) ?_
  exact z_aret hC hr (Or.inl ⟨_, rfl⟩) hlk hZ (by omega) (by omega) (⟨rfl, hp2_c_1.2⟩) dJ4_append_15ec4_7

