/-- a StringBuilder of ASCII characters: its array at va, of cap bytes -/
def oSB (cs : Nat → ClassId) (F : zF) (a va cap : Nat) (t : List Int) : Prop := ∃ (ml : Int) (f : Int → Int), F a = some (.inr (1, [.ref va, .int (iI 0), .int (iI ml), .int (iI t.length)])) ∧ F va = some (zA (cs 0) cap f) ∧ (t.length ≤ cap ∧ 16 ≤ cap ∧ cap ≤ 10000) ∧ (∀ k : Int, 0 ≤ k → k < t.length → f k = t.getD k.toNat 0) ∧ ∀ k : Int, 0 ≤ f k ∧ f k ≤ 127
def grw (cap n : Nat) : Nat := if n ≤ cap then cap else 2 * cap + 2
def mcS (cap n : Nat) : Nat := if n ≤ cap then 0 else 1
def msS (cap n : Nat) : Nat := if n ≤ cap then 0 else 2 * cap + 2
theorem ishl0 (x : Int32) : x <<< (iI 0 &&& 31) = x := by
  have : (iI 0 &&& 31 : Int32) = 0 := by decide
  rw [this]
  exact Int32.shiftLeft_zero
theorem iI_fitB {z : Int} (h : 0 ≤ z ∧ z ≤ 127) : fits .byte (.int (iI z)) = true := by
  show (decide ((-128 : Int32) ≤ iI z) && decide (iI z ≤ (127 : Int32))) = true
  rw [Bool.and_eq_true]
  exact ⟨decide_eq_true (show iI (-128) ≤ iI z from (iI_le (by decide) (by omega)).mpr (by omega)), decide_eq_true (show iI z ≤ iI 127 from (iI_le (by omega) (by decide)).mpr h.2)⟩
theorem oSB.o {cs : Nat → ClassId} {F : zF} {a va cap : Nat} {t : List Int} (h : oSB cs F a va cap t) : ∃ fs, F a = some (.inr (1, fs)) := by
  obtain ⟨ml, f, h1, -⟩ := h
  exact ⟨_, h1⟩
theorem gD_appI {l : List Int} {k : Int} {x : Int} (h0 : 0 ≤ k) (h1 : k < (l.length : Int) + 1) : (l ++ [x]).getD k.toNat 0 = if k = l.length then x else l.getD k.toNat 0 := by
  rw [List.getD_eq_getElem?_getD, List.getD_eq_getElem?_getD]
  by_cases h : k = l.length
  · rw [if_pos h, List.getElem?_append_right (by omega), show k.toNat - l.length = 0 by omega]
    rfl
  · rw [if_neg h, List.getElem?_append_left (by omega)]
set_option maxHeartbeats 4000000 in
set_option maxRecDepth 100000 in
theorem met_J7_copyOf_9075b (l : Launch) (D : va_G) (cs : Nat → ClassId) (A : Nat → Prop) (F : zF) (va cap n : Nat) (f_ : Int → Int)  (h1 : F va = some (zA (cs 0) cap f_)) (hn : cap < n ∧ n ≤ 20002) (h3 : ∀ k : Int, 0 ≤ f_ k ∧ f_ k ≤ 127) : zM l D cs A yJ7_copyOf_9075b cJ7_copyOf_9075b 3 (some (FieldType.array FieldType.byte)) 2 1 n [.ref va, .int (iI (n : Int))] F (pR (fun r F1 => F r = none ∧ F1 = zup F r (zA (cs 0) n (zcpy f_ (fun _ => 0) 0 0 cap)))) := by
  refine zM_of (own := RJ7) (by decide) rfl (Nat.le_of_ble_eq_true rfl) ?_
  intro p e s m below meth c hC hr hlk hnm hZ ls hl
  have hx := hC.x
  have hb := hC.b
  have hl : lv_has ls 3 [(0, .ref va), (1, .int (iI (n : Int)))] := hl
  refine lv_iload_n hx hb dJ7_copyOf_9075b_0 rfl (lv_at hl 1 rfl) ?_
  refine lv_aload_n hx hb dJ7_copyOf_9075b_1 rfl (lv_at hl 0 rfl) ?_
  refine z_alen (t := 0) hC hZ h1 rfl dJ7_copyOf_9075b_2 ?_
  refine z_icmp_ne (tgt := 14) hx hb dJ7_copyOf_9075b_3 (by decide) (by omega) (by omega) (fun c_1 => ?_) (fun c_1 => ?_)
  · skip
    refine lv_iload_n hx hb dJ7_copyOf_9075b_14 rfl (lv_at hl 1 rfl) ?_
    refine z_newp (atype := .byte) (ty := .byte) (n := (n : Int)) 0 (hC := hC) (hZ := hZ) q_103 rfl rfl (fun h => va_nm_byte h) rfl (by decide) (by omega) (Nat.le_of_ble_eq_true rfl) (by show _ ≤ n; omega) dJ7_copyOf_9075b_15 (fun q15 H hq15 hZ => ?_)
    have hnt15 : ((n : Int)).toNat = n := (Int.toNat_natCast n)
    rw [hnt15] at hZ
    rw [hnt15]
    have hf_2 : (zup F q15 (zA (cs 0) n (fun _ => 0))) va = some (zA (cs 0) cap f_) := zup_k (zF_ne h1 hq15.1) h1
    have hf_3 : (zup F q15 (zA (cs 0) n (fun _ => 0))) q15 = some (zA (cs 0) n (fun _ => 0)) := zup_s
    replace hZ : zS D A s (zup F q15 (zA (cs 0) n (fun _ => 0))) _ _ := hZ
    refine lv_astore_n (lv' := [(2, .ref q15), (0, .ref va), (1, .int (iI (n : Int)))]) hx hb dJ7_copyOf_9075b_17 rfl hl (by decide) rfl (fun ls hl => ?_)
    refine lv_aload_n hx hb dJ7_copyOf_9075b_18 rfl (lv_at hl 1 rfl) ?_
    refine z_iconst hx hb dJ7_copyOf_9075b_19 ?_
    refine lv_aload_n hx hb dJ7_copyOf_9075b_20 rfl (lv_at hl 0 rfl) ?_
    refine z_iconst hx hb dJ7_copyOf_9075b_21 ?_
    refine lv_aload_n hx hb dJ7_copyOf_9075b_22 rfl (lv_at hl 1 rfl) ?_
    refine z_alen (t := 0) hC hZ hf_2 rfl dJ7_copyOf_9075b_23 ?_
    refine lv_iload_n hx hb dJ7_copyOf_9075b_24 rfl (lv_at hl 2 rfl) ?_
    refine z_mmin (rest := [.int (iI 0), .ref q15, .int (iI 0), .ref va]) hC hl qm_J7_304 (by omega) (by omega) ⟨Nat.le_of_ble_eq_true rfl, Nat.le_of_ble_eq_true rfl⟩ ⟨(by show _ ≤ 1; omega), (by show _ ≤ n; omega)⟩ dJ7_copyOf_9075b_25 (fun r25 hmx25 => ?_)
    refine z_top (y := (cap : Int)) (by omega) ?_
    refine z_copyI (rest := []) hC hZ qm_J7_150 qv_J10_arraycopy_1e247 qt_J10_arraycopy_1e247 qn_J10 0 (ty := .byte) (sp := 0) (dp := 0) (n := (cap : Int)) hf_2 hf_3 rfl rfl (by decide) (by decide) (by omega) (by omega) (by omega) ⟨by omega, by omega⟩ (fun i _ _ => iI_fitB (h3 i)) hl (Nat.le_of_ble_eq_true rfl) (Nat.le_of_ble_eq_true rfl) dJ7_copyOf_9075b_28 (fun H locs hZ => ?_)
    rw [zup_up] at hZ
    have hf_4 : (zup F q15 (zA (cs 0) n (zcpy f_ (fun _ => 0) 0 0 (cap : Int)))) va = some (zA (cs 0) cap f_) := zup_k (zF_ne h1 hq15.1) h1
    have hf_5 : (zup F q15 (zA (cs 0) n (zcpy f_ (fun _ => 0) 0 0 (cap : Int)))) q15 = some (zA (cs 0) n (zcpy f_ (fun _ => 0) 0 0 (cap : Int))) := zup_s
    replace hZ : zS D A s (zup F q15 (zA (cs 0) n (zcpy f_ (fun _ => 0) 0 0 (cap : Int)))) _ _ := hZ
    refine lv_aload_n hx hb dJ7_copyOf_9075b_31 rfl (lv_at hl 0 rfl) ?_
    exact z_aret hC hr (Or.inr ⟨_, rfl⟩) hlk hZ (by omega) (by omega) (⟨hq15.1, rfl⟩) dJ7_copyOf_9075b_32
  · skip
    exfalso; omega

set_option maxHeartbeats 4000000 in
set_option maxRecDepth 100000 in
theorem met_J8_newLength_cabcc (l : Launch) (D : va_G) (cs : Nat → ClassId) (A : Nat → Prop) (F : zF) (x y z : Int)  (hx1 : 0 ≤ x ∧ x ≤ 10000) (hy1 : 0 ≤ y ∧ y ≤ z) (hz1 : 0 < z ∧ z ≤ 20002) : zM l D cs A yJ8_newLength_cabcc cJ8_newLength_cabcc 4 (some FieldType.int) 2 0 0 [.int (iI x), .int (iI y), .int (iI z)] F (pI (fun r F1 => F = F1 ∧ x + z = r)) := by
  refine zM_of (own := RJ8) (by decide) rfl (Nat.le_of_ble_eq_true rfl) ?_
  intro p e s m below meth c hC hr hlk hnm hZ ls hl
  have hx := hC.x
  have hb := hC.b
  have hl : lv_has ls 4 [(0, .int (iI x)), (1, .int (iI y)), (2, .int (iI z))] := hl
  refine lv_iload_n hx hb dJ8_newLength_cabcc_0 rfl (lv_at hl 0 rfl) ?_
  refine lv_iload_n hx hb dJ8_newLength_cabcc_1 rfl (lv_at hl 1 rfl) ?_
  refine lv_iload_n hx hb dJ8_newLength_cabcc_2 rfl (lv_at hl 2 rfl) ?_
  refine z_mmax (rest := [.int (iI x)]) hC hl qm_J8_194 (by omega) (by omega) ⟨Nat.le_of_ble_eq_true rfl, Nat.le_of_ble_eq_true rfl⟩ ⟨Nat.le_of_ble_eq_true rfl, Nat.le_of_ble_eq_true rfl⟩ dJ8_newLength_cabcc_3 (fun r3 hmx3 => ?_)
  refine z_top (y := z) (by omega) ?_
  refine z_iadd hx hb dJ8_newLength_cabcc_6 ?_
  refine lv_istore_n (lv' := [(3, .int (iI (x + z))), (0, .int (iI x)), (1, .int (iI y)), (2, .int (iI z))]) hx hb dJ8_newLength_cabcc_7 rfl hl (by decide) rfl (fun ls hl => ?_)
  refine z_iconst hx hb dJ8_newLength_cabcc_8 ?_
  refine lv_iload_n hx hb dJ8_newLength_cabcc_9 rfl (lv_at hl 0 rfl) ?_
  refine z_icmp_ge (tgt := 21) hx hb dJ8_newLength_cabcc_10 (by decide) (by decide) (by omega) (fun c_1 => ?_) (fun c_1 => ?_)
  · skip
    exfalso; omega
  · skip
    refine lv_iload_n hx hb dJ8_newLength_cabcc_13 rfl (lv_at hl 0 rfl) ?_
    refine z_ldc (z := 2147483639) hC q_572 (by decide) dJ8_newLength_cabcc_14 ?_
    refine z_icmp_gt (tgt := 21) hx hb dJ8_newLength_cabcc_16 (by decide) (by omega) (by decide) (fun c_2 => ?_) (fun c_2 => ?_)
    · skip
      exfalso; omega
    · skip
      refine lv_iload_n hx hb dJ8_newLength_cabcc_19 rfl (lv_at hl 0 rfl) ?_
      exact z_iret hC hr hlk hZ (by decide) (by decide) (⟨rfl, rfl⟩) dJ8_newLength_cabcc_20

set_option maxHeartbeats 4000000 in
set_option maxRecDepth 100000 in
theorem met_J5_isLatin1_aae02 (l : Launch) (D : va_G) (cs : Nat → ClassId) (A : Nat → Prop) (F : zF) (a va cap : Nat) (t : List Int)  (hb1 : oSB cs F a va cap t) : zM l D cs A yJ5_isLatin1_aae02 cJ5_isLatin1_aae02 1 (some FieldType.boolean) 1 0 0 [.ref a] F (pI (fun r F1 => F = F1 ∧ 1 = r)) := by
  refine zM_of (own := RJ5) (by decide) rfl (Nat.le_of_ble_eq_true rfl) ?_
  intro p e s m below meth c hC hr hlk hnm hZ ls hl
  have hx := hC.x
  have hb := hC.b
  have hl : lv_has ls 1 [(0, .ref a)] := hl
  obtain ⟨ml, f_, h0, h1, hcap, h2, h3⟩ := id hb1
  refine z_gets hC hZ (List.mem_of_getElem? (i := 1) rfl) ql_J5_18 dJ5_isLatin1_aae02_0 ?_
  refine z_topi (y := 1) rfl ?_
  refine z_if_eq (tgt := 17) hx hb dJ5_isLatin1_aae02_3 (by decide) (by decide) (fun c_1 => ?_) (fun c_1 => ?_)
  · skip
    exfalso; omega
  · skip
    refine lv_aload_n hx hb dJ5_isLatin1_aae02_6 rfl (lv_at hl 0 rfl) ?_
    refine z_get (T := TJ4) (N := 4) (ci := 1) (k := 1) (fs := [.ref va, .int (iI 0), .int (iI ml), .int (iI (t.length : Int))]) (v := .int (iI 0)) hC hZ in_J4 rfl (by decide) ql_J5_22 rfl h0 rfl dJ5_isLatin1_aae02_7 ?_
    refine z_if_ne (tgt := 17) hx hb dJ5_isLatin1_aae02_10 (by decide) (by decide) (fun c_2 => ?_) (fun c_2 => ?_)
    · skip
      exfalso; omega
    · skip
      refine z_iconst hx hb dJ5_isLatin1_aae02_13 ?_
      refine lv_goto (tgt := 18) hx hb dJ5_isLatin1_aae02_14 (by decide) ?_
      exact z_zret hC hr hlk hZ rfl (by decide) (by decide) (⟨rfl, rfl⟩) dJ5_isLatin1_aae02_18

set_option maxHeartbeats 4000000 in
set_option maxRecDepth 100000 in
theorem met_J5_newCapacity_0f7a4 (l : Launch) (D : va_G) (cs : Nat → ClassId) (A : Nat → Prop) (F : zF) (a va cap : Nat) (t : List Int) (n : Nat)  (hb1 : oSB cs F a va cap t) (hn : cap < n ∧ n ≤ 2 * cap + 2) : zM l D cs A yJ5_newCapacity_0f7a4 cJ5_newCapacity_0f7a4 6 (some FieldType.int) 3 0 0 [.ref a, .int (iI (n : Int))] F (pI (fun r F1 => F = F1 ∧ (2 * cap + 2 : Int) = r)) := by
  refine zM_of (own := RJ5) (by decide) rfl (Nat.le_of_ble_eq_true rfl) ?_
  intro p e s m below meth c hC hr hlk hnm hZ ls hl
  have hx := hC.x
  have hb := hC.b
  have hl : lv_has ls 6 [(0, .ref a), (1, .int (iI (n : Int)))] := hl
  obtain ⟨ml, f_, h0, h1, hcap, h2, h3⟩ := id hb1
  refine lv_aload_n hx hb dJ5_newCapacity_0f7a4_0 rfl (lv_at hl 0 rfl) ?_
  refine z_get (T := TJ4) (N := 4) (ci := 1) (k := 0) (fs := [.ref va, .int (iI 0), .int (iI ml), .int (iI (t.length : Int))]) (v := .ref va) hC hZ in_J4 rfl (by decide) ql_J5_15 rfl h0 rfl dJ5_newCapacity_0f7a4_1 ?_
  refine z_alen (t := 0) hC hZ h1 rfl dJ5_newCapacity_0f7a4_4 ?_
  refine lv_istore_n (lv' := [(2, .int (iI (cap : Int))), (0, .ref a), (1, .int (iI (n : Int)))]) hx hb dJ5_newCapacity_0f7a4_5 rfl hl (by decide) rfl (fun ls hl => ?_)
  refine lv_iload_n hx hb dJ5_newCapacity_0f7a4_6 rfl (lv_at hl 2 rfl) ?_
  refine lv_aload_n hx hb dJ5_newCapacity_0f7a4_7 rfl (lv_at hl 1 rfl) ?_
  refine z_get (T := TJ4) (N := 4) (ci := 1) (k := 1) (fs := [.ref va, .int (iI 0), .int (iI ml), .int (iI (t.length : Int))]) (v := .int (iI 0)) hC hZ in_J4 rfl (by decide) ql_J5_22 rfl h0 rfl dJ5_newCapacity_0f7a4_8 ?_
  refine lv_ishl hx hb dJ5_newCapacity_0f7a4_11 ?_
  refine z_topi (y := (n : Int)) (ishl0 _) ?_
  refine lv_istore_n (lv' := [(3, .int (iI (n : Int))), (2, .int (iI (cap : Int))), (0, .ref a), (1, .int (iI (n : Int)))]) hx hb dJ5_newCapacity_0f7a4_12 rfl hl (by decide) rfl (fun ls hl => ?_)
  refine lv_iload_n hx hb dJ5_newCapacity_0f7a4_13 rfl (lv_at hl 0 rfl) ?_
  refine lv_iload_n hx hb dJ5_newCapacity_0f7a4_14 rfl (lv_at hl 1 rfl) ?_
  refine z_isub hx hb dJ5_newCapacity_0f7a4_15 ?_
  refine lv_istore (lv' := [(4, .int (iI ((n : Int) - (cap : Int)))), (3, .int (iI (n : Int))), (2, .int (iI (cap : Int))), (0, .ref a), (1, .int (iI (n : Int)))]) hx hb dJ5_newCapacity_0f7a4_16 hl (by decide) rfl (fun ls hl => ?_)
  refine lv_iload_n hx hb dJ5_newCapacity_0f7a4_18 rfl (lv_at hl 2 rfl) ?_
  refine lv_iload hx hb dJ5_newCapacity_0f7a4_19 (lv_at hl 0 rfl) ?_
  refine lv_iload_n hx hb dJ5_newCapacity_0f7a4_21 rfl (lv_at hl 2 rfl) ?_
  refine z_iconst hx hb dJ5_newCapacity_0f7a4_22 ?_
  refine lv_aload_n hx hb dJ5_newCapacity_0f7a4_23 rfl (lv_at hl 3 rfl) ?_
  refine z_get (T := TJ4) (N := 4) (ci := 1) (k := 1) (fs := [.ref va, .int (iI 0), .int (iI ml), .int (iI (t.length : Int))]) (v := .int (iI 0)) hC hZ in_J4 rfl (by decide) ql_J5_22 rfl h0 rfl dJ5_newCapacity_0f7a4_24 ?_
  refine lv_ishl hx hb dJ5_newCapacity_0f7a4_27 ?_
  refine z_topi (y := 2) (ishl0 _) ?_
  refine z_iadd hx hb dJ5_newCapacity_0f7a4_28 ?_
  refine z_calli (z_runS (rest := []) (As := [.int (iI (cap : Int)), .int (iI ((n : Int) - (cap : Int))), .int (iI ((cap : Int) + 2))]) (n := 3) hC hZ (met_J8_newLength_cabcc l D cs A F (cap : Int) ((n : Int) - (cap : Int)) ((cap : Int) + 2) (by omega) (by omega) (by omega)) gs_J5_114 he_J8_newLength_cabcc rfl hl rfl (Nat.le_of_ble_eq_true rfl) ⟨Nat.le_of_ble_eq_true rfl, Nat.le_of_ble_eq_true rfl⟩ ⟨Nat.le_of_ble_eq_true rfl, Nat.le_of_ble_eq_true rfl⟩ dJ5_newCapacity_0f7a4_29) hZ (fun r29 F29 H locs hp29_c_1 hZ => ?_)
  obtain ⟨rfl, rfl⟩ := hp29_c_1
  refine lv_istore (lv' := [(5, .int (iI ((cap : Int) + ((cap : Int) + 2)))), (4, .int (iI ((n : Int) - (cap : Int)))), (3, .int (iI (n : Int))), (2, .int (iI (cap : Int))), (0, .ref a), (1, .int (iI (n : Int)))]) hx hb dJ5_newCapacity_0f7a4_32 hl (by decide) rfl (fun ls hl => ?_)
  refine lv_iload hx hb dJ5_newCapacity_0f7a4_34 (lv_at hl 0 rfl) ?_
  refine z_ldc (z := 2147483647) hC q_982 (by decide) dJ5_newCapacity_0f7a4_36 ?_
  refine z_icmp_ne (tgt := 51) hx hb dJ5_newCapacity_0f7a4_38 (by decide) (by omega) (by decide) (fun c_2 => ?_) (fun c_2 => ?_)
  · skip
    refine lv_iload hx hb dJ5_newCapacity_0f7a4_51 (lv_at hl 0 rfl) ?_
    refine lv_aload_n hx hb dJ5_newCapacity_0f7a4_53 rfl (lv_at hl 4 rfl) ?_
    refine z_get (T := TJ4) (N := 4) (ci := 1) (k := 1) (fs := [.ref va, .int (iI 0), .int (iI ml), .int (iI (t.length : Int))]) (v := .int (iI 0)) hC hZ in_J4 rfl (by decide) ql_J5_22 rfl h0 rfl dJ5_newCapacity_0f7a4_54 ?_
    refine lv_ishr hx hb dJ5_newCapacity_0f7a4_57 ?_
    refine z_topi (y := (cap : Int) + ((cap : Int) + 2)) (ishr0 _) ?_
    exact z_iret hC hr hlk hZ (by decide) (by decide) (⟨rfl, by omega⟩) dJ5_newCapacity_0f7a4_58
  · skip
    exfalso; omega

set_option maxHeartbeats 4000000 in
set_option maxRecDepth 100000 in
theorem met_J5_ensureCapacityInternal_d00df (l : Launch) (D : va_G) (cs : Nat → ClassId) (A : Nat → Prop) (F : zF) (a va cap : Nat) (t : List Int) (n : Nat)  (hb1 : oSB cs F a va cap t) (hn : n ≤ 2 * cap + 2 ∧ n ≤ 4000) : zM l D cs A yJ5_ensureCapacityInternal_d00df cJ5_ensureCapacityInternal_d00df 3 (none : Option Jvm.ClassFile.FieldType) 4 (mcS cap n) (msS cap n) [.ref a, .int (iI (n : Int))] F (pV (fun F1 => ∃ va1 : Nat, (va1 = va ∨ F va1 = none) ∧ zko [a] F F1 ∧ oSB cs F1 a va1 (grw cap n) t)) := by
  refine zM_of (own := RJ5) (by decide) rfl (Nat.le_of_ble_eq_true rfl) ?_
  intro p e s m below meth c hC hr hlk hnm hZ ls hl
  have hx := hC.x
  have hb := hC.b
  have hl : lv_has ls 3 [(0, .ref a), (1, .int (iI (n : Int)))] := hl
  obtain ⟨ml, f_, h0, h1, hcap, h2, h3⟩ := id hb1
  refine lv_aload_n hx hb dJ5_ensureCapacityInternal_d00df_0 rfl (lv_at hl 0 rfl) ?_
  refine z_get (T := TJ4) (N := 4) (ci := 1) (k := 0) (fs := [.ref va, .int (iI 0), .int (iI ml), .int (iI (t.length : Int))]) (v := .ref va) hC hZ in_J4 rfl (by decide) ql_J5_15 rfl h0 rfl dJ5_ensureCapacityInternal_d00df_1 ?_
  refine z_alen (t := 0) hC hZ h1 rfl dJ5_ensureCapacityInternal_d00df_4 ?_
  refine lv_aload_n hx hb dJ5_ensureCapacityInternal_d00df_5 rfl (lv_at hl 0 rfl) ?_
  refine z_get (T := TJ4) (N := 4) (ci := 1) (k := 1) (fs := [.ref va, .int (iI 0), .int (iI ml), .int (iI (t.length : Int))]) (v := .int (iI 0)) hC hZ in_J4 rfl (by decide) ql_J5_22 rfl h0 rfl dJ5_ensureCapacityInternal_d00df_6 ?_
  refine lv_ishr hx hb dJ5_ensureCapacityInternal_d00df_9 ?_
  refine z_topi (y := (cap : Int)) (ishr0 _) ?_
  refine lv_istore_n (lv' := [(2, .int (iI (cap : Int))), (0, .ref a), (1, .int (iI (n : Int)))]) hx hb dJ5_ensureCapacityInternal_d00df_10 rfl hl (by decide) rfl (fun ls hl => ?_)
  refine lv_iload_n hx hb dJ5_ensureCapacityInternal_d00df_11 rfl (lv_at hl 2 rfl) ?_
  refine lv_iload_n hx hb dJ5_ensureCapacityInternal_d00df_12 rfl (lv_at hl 0 rfl) ?_
  refine z_isub hx hb dJ5_ensureCapacityInternal_d00df_13 ?_
  refine z_if_le (tgt := 38) hx hb dJ5_ensureCapacityInternal_d00df_14 (by decide) (by omega) (fun c_1 => ?_) (fun c_1 => ?_)
  · skip
    have hg1 : grw cap n = cap := if_pos (by omega)
    exact z_vret hC hr hlk hZ (by omega) (by omega) (⟨va, Or.inl rfl, zko.refl, by rw [hg1]; exact hb1⟩) dJ5_ensureCapacityInternal_d00df_38
  · skip
    have hg1 : grw cap n = 2 * cap + 2 := if_neg (by omega)
    have hmc : mcS cap n = 1 := if_neg (by omega)
    have hms : msS cap n = 2 * cap + 2 := if_neg (by omega)
    refine lv_aload_n hx hb dJ5_ensureCapacityInternal_d00df_17 rfl (lv_at hl 1 rfl) ?_
    refine lv_aload_n hx hb dJ5_ensureCapacityInternal_d00df_18 rfl (lv_at hl 1 rfl) ?_
    refine z_get (T := TJ4) (N := 4) (ci := 1) (k := 0) (fs := [.ref va, .int (iI 0), .int (iI ml), .int (iI (t.length : Int))]) (v := .ref va) hC hZ in_J4 rfl (by decide) ql_J5_15 rfl h0 rfl dJ5_ensureCapacityInternal_d00df_19 ?_
    refine lv_aload_n hx hb dJ5_ensureCapacityInternal_d00df_22 rfl (lv_at hl 1 rfl) ?_
    refine lv_iload_n hx hb dJ5_ensureCapacityInternal_d00df_23 rfl (lv_at hl 2 rfl) ?_
    refine z_calli (z_runU (rest := [.ref va, .ref a]) (As := [.int (iI (n : Int))]) (n := 1) (ci := 1) hC hZ (met_J5_newCapacity_0f7a4 l D cs A F a va cap t n hb1 (by omega)) qc_J5_newCapacity_0f7a4 qn_J5 qm_J5_104 q_2146 qi_J5_newCapacity_0f7a4 (z_selP hC qs_J5_isLatin1_aae02_J4 rfl qp_J5_newCapacity_0f7a4 qi_J5_newCapacity_0f7a4 (by decide)) (by decide +kernel) rfl h0 rfl hl rfl (Nat.le_of_ble_eq_true rfl) ⟨Nat.le_of_ble_eq_true rfl, Nat.le_of_ble_eq_true rfl⟩ ⟨(by show _ ≤ (mcS cap n); omega), (by show _ ≤ (msS cap n); omega)⟩ dJ5_ensureCapacityInternal_d00df_24) hZ (fun r24 F24 H locs hp24_c_2 hZ => ?_)
    obtain ⟨rfl, hp24_c_2⟩ := hp24_c_2
    refine z_top (y := ((2 * cap + 2 : Nat) : Int)) (by omega) ?_
    refine lv_aload_n hx hb dJ5_ensureCapacityInternal_d00df_27 rfl (lv_at hl 1 rfl) ?_
    refine z_get (T := TJ4) (N := 4) (ci := 1) (k := 1) (fs := [.ref va, .int (iI 0), .int (iI ml), .int (iI (t.length : Int))]) (v := .int (iI 0)) hC hZ in_J4 rfl (by decide) ql_J5_22 rfl h0 rfl dJ5_ensureCapacityInternal_d00df_28 ?_
    refine lv_ishl hx hb dJ5_ensureCapacityInternal_d00df_31 ?_
    refine z_topi (y := ((2 * cap + 2 : Nat) : Int)) (ishl0 _) ?_
    refine z_callr (z_runS (rest := [.ref a]) (As := [.ref va, .int (iI ((2 * cap + 2 : Nat) : Int))]) (n := 2) hC hZ (met_J7_copyOf_9075b l D cs A F va cap (2 * cap + 2) f_ h1 ⟨by omega, by omega⟩ h3) gs_J5_108 he_J7_copyOf_9075b rfl hl rfl (Nat.le_of_ble_eq_true rfl) ⟨Nat.le_of_ble_eq_true rfl, Nat.le_of_ble_eq_true rfl⟩ ⟨(by show _ ≤ (mcS cap n); omega), (by show _ ≤ (msS cap n); omega)⟩ dJ5_ensureCapacityInternal_d00df_32) hZ (fun r32 F32 H locs hp32_c_3 hZ => ?_)
    obtain ⟨hn32, rfl⟩ := hp32_c_3
    have hrr32 : F r32 = none ∧ True := ⟨hn32, trivial⟩
    have hf_4 : (zup F r32 (zA (cs 0) (2 * cap + 2) (zcpy f_ (fun _ => 0) 0 0 cap))) a = some (.inr (1, [.ref va, .int (iI 0), .int (iI ml), .int (iI (t.length : Int))])) := zup_k (zF_ne h0 hrr32.1) h0
    have hf_5 : (zup F r32 (zA (cs 0) (2 * cap + 2) (zcpy f_ (fun _ => 0) 0 0 cap))) va = some (zA (cs 0) cap f_) := zup_k (zF_ne h1 hrr32.1) h1
    have hf_6 : (zup F r32 (zA (cs 0) (2 * cap + 2) (zcpy f_ (fun _ => 0) 0 0 cap))) r32 = some (zA (cs 0) (2 * cap + 2) (zcpy f_ (fun _ => 0) 0 0 cap)) := zup_s
    refine z_put (T := TJ4) (N := 4) (ci := 1) (k := 0) (fs := [.ref va, .int (iI 0), .int (iI ml), .int (iI (t.length : Int))]) (v := .ref r32) hC hZ tyJ4 tyJ4_ok nmJ4 in_J4 rfl (by decide) ql_J5_15 rfl (Or.inl rfl) rfl hf_4 (by show 0 < 4; decide) rfl rfl dJ5_ensureCapacityInternal_d00df_35 (fun H locs hZ => ?_)
    have hf_7 : (zup (zup F r32 (zA (cs 0) (2 * cap + 2) (zcpy f_ (fun _ => 0) 0 0 cap))) a (.inr (1, [.ref r32, .int (iI 0), .int (iI ml), .int (iI (t.length : Int))]))) va = some (zA (cs 0) cap f_) := zup_k (zne hf_5 hf_4 (fun q => by cases q)) hf_5
    have hf_8 : (zup (zup F r32 (zA (cs 0) (2 * cap + 2) (zcpy f_ (fun _ => 0) 0 0 cap))) a (.inr (1, [.ref r32, .int (iI 0), .int (iI ml), .int (iI (t.length : Int))]))) r32 = some (zA (cs 0) (2 * cap + 2) (zcpy f_ (fun _ => 0) 0 0 cap)) := zup_k (zne hf_6 hf_4 (fun q => by cases q)) hf_6
    have hf_9 : (zup (zup F r32 (zA (cs 0) (2 * cap + 2) (zcpy f_ (fun _ => 0) 0 0 cap))) a (.inr (1, [.ref r32, .int (iI 0), .int (iI ml), .int (iI (t.length : Int))]))) a = some (.inr (1, [.ref r32, .int (iI 0), .int (iI ml), .int (iI (t.length : Int))])) := zup_s
    replace hZ : zS D A s (zup (zup F r32 (zA (cs 0) (2 * cap + 2) (zcpy f_ (fun _ => 0) 0 0 cap))) a (.inr (1, [.ref r32, .int (iI 0), .int (iI ml), .int (iI (t.length : Int))]))) _ _ := hZ
    exact z_vret hC hr hlk hZ (by omega) (by omega) (⟨r32, Or.inr hrr32.1, (((zko.refl).new hrr32.1).up (by simp)), by rw [hg1]; exact ⟨ml, _, hf_9, hf_8, ⟨by omega, by omega, by omega⟩, fun k k0 k1 => by unfold zcpy; rw [if_pos (by omega), show (0 : Int) + (k - 0) = k by omega]; exact h2 k k0 k1, fun k => by unfold zcpy; split; exact h3 _; exact (show (0 : Int) ≤ 0 ∧ (0 : Int) ≤ 127 by decide)⟩⟩) dJ5_ensureCapacityInternal_d00df_38
