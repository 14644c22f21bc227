set_option maxHeartbeats 4000000 in
set_option maxRecDepth 100000 in
theorem mes_checkLength (l : Launch) (D : va_G) (cs : Nat → ClassId) (A : Nat → Prop) (F : zF) (i j : Int)  (hi : 0 ≤ i ∧ i ≤ j ∧ j ≤ 2147483647) : zM l D cs A yJ7_checkLength_df160 cJ7_checkLength_df160 2 (none : Option Jvm.ClassFile.FieldType) 11 0 0 [.int (iI i), .int (iI j)] F (pV (fun F1 => F = F1)) := by
  refine zM_of (own := RJ7) (by decide) rfl (Nat.le_of_ble_eq_true rfl) ?_
  intro p e s m below meth c hC hr hlk hnm hZ ls hl
  have hx := hC.x
  have hb := hC.b
  have hl : lv_has ls 2 [(0, .int (iI i)), (1, .int (iI j))] := hl
  refine lv_iload_n hx hb dJ7_checkLength_df160_0 rfl (lv_at hl 1 rfl) ?_
  refine lv_iload_n hx hb dJ7_checkLength_df160_1 rfl (lv_at hl 0 rfl) ?_
  refine z_icmp_ge (tgt := 37) hx hb dJ7_checkLength_df160_2 (by decide) (by omega) (by omega) (fun c_1 => ?_) (fun c_1 => ?_)
  · skip
    exact z_vret hC hr hlk hZ (by decide) (by decide) (rfl) dJ7_checkLength_df160_37
  · skip
    exfalso; omega

set_option maxHeartbeats 4000000 in
set_option maxRecDepth 100000 in
theorem mes_cprB (l : Launch) (D : va_G) (cs : Nat → ClassId) (A : Nat → Prop) (F : zF) (a v : Nat) (t : List Int) (i j : Int) (n : Nat)  (hs : oSt cs F a v t) (hi : 0 ≤ i ∧ i + n = j ∧ j ≤ t.length) : zM l D cs A yJ7_copyOfRangeByte_39247 cJ7_copyOfRangeByte_39247 5 (some (FieldType.array FieldType.byte)) 12 1 n [.ref v, .int (iI i), .int (iI j)] F (pR (fun r F1 => F r = none ∧ ∃ h : Int → Int, F1 = zup F r (zA (cs 0) n h) ∧ ∀ k : Int, 0 ≤ k → k < n → h k = t.getD (i + k).toNat 0)) := by
  refine zM_of (own := RJ7) (by decide) rfl (Nat.le_of_ble_eq_true rfl) ?_
  intro p e s m below meth c hC hr hlk hnm hZ ls hl
  have hx := hC.x
  have hb := hC.b
  have hl : lv_has ls 5 [(0, .ref v), (1, .int (iI i)), (2, .int (iI j))] := hl
  have hlen := hs.2.1
  have hrg := hs.2.2
  refine lv_iload_n hx hb dJ7_copyOfRangeByte_39247_0 rfl (lv_at hl 1 rfl) ?_
  refine lv_iload_n hx hb dJ7_copyOfRangeByte_39247_1 rfl (lv_at hl 2 rfl) ?_
  refine z_callv (z_runS (rest := []) (As := [.int (iI i), .int (iI j)]) (n := 2) hC hZ (mes_checkLength l D cs A F i j (by omega)) gs_J7_343 he_J7_checkLength_df160 rfl hl rfl (Nat.le_of_ble_eq_true rfl) ⟨Nat.le_of_ble_eq_true rfl, Nat.le_of_ble_eq_true rfl⟩ ⟨(by show _ ≤ 1; omega), (by show _ ≤ n; omega)⟩ dJ7_copyOfRangeByte_39247_2) hZ (fun F2 H locs hp2_c_1 hZ => ?_)
  obtain rfl := hp2_c_1
  refine lv_iload_n hx hb dJ7_copyOfRangeByte_39247_5 rfl (lv_at hl 2 rfl) ?_
  refine lv_iload_n hx hb dJ7_copyOfRangeByte_39247_6 rfl (lv_at hl 1 rfl) ?_
  refine z_isub hx hb dJ7_copyOfRangeByte_39247_7 ?_
  refine lv_istore_n (lv' := [(3, .int (iI (j - i))), (0, .ref v), (1, .int (iI i)), (2, .int (iI j))]) hx hb dJ7_copyOfRangeByte_39247_8 rfl hl (by decide) rfl (fun ls hl => ?_)
  refine lv_iload_n hx hb dJ7_copyOfRangeByte_39247_9 rfl (lv_at hl 0 rfl) ?_
  refine z_newp (atype := .byte) (ty := .byte) (n := j - i) 0 (hC := hC) (hZ := hZ) q_103 rfl rfl (fun h => va_nm_byte h) rfl (by decide) (by omega) (Nat.le_of_ble_eq_true rfl) (by show _ ≤ n; omega) dJ7_copyOfRangeByte_39247_10 (fun q10 H hq10 hZ => ?_)
  have hnt10 : (j - i).toNat = n := (by omega)
  rw [hnt10] at hZ
  rw [hnt10]
  have hf_2 : (zup F q10 (zA (cs 0) n (fun _ => 0))) q10 = some (zA (cs 0) n (fun _ => 0)) := zup_s
  replace hZ : zS D A s (zup F q10 (zA (cs 0) n (fun _ => 0))) _ _ := hZ
  refine lv_astore (lv' := [(4, .ref q10), (3, .int (iI (j - i))), (0, .ref v), (1, .int (iI i)), (2, .int (iI j))]) hx hb dJ7_copyOfRangeByte_39247_12 hl (by decide) rfl (fun ls hl => ?_)
  refine lv_aload_n hx hb dJ7_copyOfRangeByte_39247_14 rfl (lv_at hl 2 rfl) ?_
  refine lv_iload_n hx hb dJ7_copyOfRangeByte_39247_15 rfl (lv_at hl 3 rfl) ?_
  refine lv_aload hx hb dJ7_copyOfRangeByte_39247_16 (lv_at hl 0 rfl) ?_
  refine z_iconst hx hb dJ7_copyOfRangeByte_39247_18 ?_
  refine lv_aload_n hx hb dJ7_copyOfRangeByte_39247_19 rfl (lv_at hl 2 rfl) ?_
  refine z_slen hC hZ (hs.upn hq10.1) dJ7_copyOfRangeByte_39247_20 ?_
  refine lv_iload_n hx hb dJ7_copyOfRangeByte_39247_21 rfl (lv_at hl 3 rfl) ?_
  refine z_isub hx hb dJ7_copyOfRangeByte_39247_22 ?_
  refine lv_iload_n hx hb dJ7_copyOfRangeByte_39247_23 rfl (lv_at hl 1 rfl) ?_
  refine z_mmin (rest := [.int (iI 0), .ref q10, .int (iI i), .ref v]) hC hl qm_J7_304 (by omega) (by omega) ⟨Nat.le_of_ble_eq_true rfl, Nat.le_of_ble_eq_true rfl⟩ ⟨(by show _ ≤ 1; omega), (by show _ ≤ n; omega)⟩ dJ7_copyOfRangeByte_39247_24 (fun r24 hmx24 => ?_)
  refine z_top (y := (n : Int)) (by omega) ?_
  refine z_copyS (rest := []) hC hZ qm_J7_150 qv_J10_arraycopy_1e247 qt_J10_arraycopy_1e247 qn_J10 (sp := i) (dp := 0) (n := (n : Int)) (hs.upn hq10.1) hf_2 (by omega) (by omega) (by omega) (by omega) (by omega) (by omega) hl (Nat.le_of_ble_eq_true rfl) (Nat.le_of_ble_eq_true rfl) dJ7_copyOfRangeByte_39247_27 (fun fs_ H locs hfs hZ => ?_)
  rw [zup_up] at hZ
  have hf_3 : (zup F q10 (zA (cs 0) n (zcpy fs_ (fun _ => 0) i 0 (n : Int)))) q10 = some (zA (cs 0) n (zcpy fs_ (fun _ => 0) i 0 (n : Int))) := zup_s
  replace hZ : zS D A s (zup F q10 (zA (cs 0) n (zcpy fs_ (fun _ => 0) i 0 (n : Int)))) _ _ := hZ
  refine lv_aload hx hb dJ7_copyOfRangeByte_39247_30 (lv_at hl 0 rfl) ?_
  exact z_aret hC hr (Or.inr ⟨_, rfl⟩) hlk hZ (by omega) (by omega) (⟨hq10.1, _, rfl, fun k k0 k1 => by unfold zcpy; rw [if_pos (by omega)]; rw [hfs _ (by omega) (by omega), show i + (k - 0) = i + k by omega]⟩) dJ7_copyOfRangeByte_39247_32

set_option maxHeartbeats 4000000 in
set_option maxRecDepth 100000 in
theorem mes_cprBA (l : Launch) (D : va_G) (cs : Nat → ClassId) (A : Nat → Prop) (F : zF) (v cap : Nat) (f_ : Int → Int) (i j : Int) (n : Nat)  (h1 : F v = some (zA (cs 0) cap f_)) (h3 : ∀ k : Int, 0 ≤ f_ k ∧ f_ k ≤ 127) (hi : 0 ≤ i ∧ i + n = j ∧ j ≤ cap) (hc : cap ≤ 20002) : zM l D cs A yJ7_copyOfRangeByte_39247 cJ7_copyOfRangeByte_39247 5 (some (FieldType.array FieldType.byte)) 12 1 n [.ref v, .int (iI i), .int (iI j)] F (pR (fun r F1 => F r = none ∧ ∃ h : Int → Int, F1 = zup F r (zA (cs 0) n h) ∧ ∀ k : Int, 0 ≤ k → k < n → h k = f_ (i + k))) := by
  refine zM_of (own := RJ7) (by decide) rfl (Nat.le_of_ble_eq_true rfl) ?_
  intro p e s m below meth c hC hr hlk hnm hZ ls hl
  have hx := hC.x
  have hb := hC.b
  have hl : lv_has ls 5 [(0, .ref v), (1, .int (iI i)), (2, .int (iI j))] := hl
  refine lv_iload_n hx hb dJ7_copyOfRangeByte_39247_0 rfl (lv_at hl 1 rfl) ?_
  refine lv_iload_n hx hb dJ7_copyOfRangeByte_39247_1 rfl (lv_at hl 2 rfl) ?_
  refine z_callv (z_runS (rest := []) (As := [.int (iI i), .int (iI j)]) (n := 2) hC hZ (mes_checkLength l D cs A F i j (by omega)) gs_J7_343 he_J7_checkLength_df160 rfl hl rfl (Nat.le_of_ble_eq_true rfl) ⟨Nat.le_of_ble_eq_true rfl, Nat.le_of_ble_eq_true rfl⟩ ⟨(by show _ ≤ 1; omega), (by show _ ≤ n; omega)⟩ dJ7_copyOfRangeByte_39247_2) hZ (fun F2 H locs hp2_c_1 hZ => ?_)
  obtain rfl := hp2_c_1
  refine lv_iload_n hx hb dJ7_copyOfRangeByte_39247_5 rfl (lv_at hl 2 rfl) ?_
  refine lv_iload_n hx hb dJ7_copyOfRangeByte_39247_6 rfl (lv_at hl 1 rfl) ?_
  refine z_isub hx hb dJ7_copyOfRangeByte_39247_7 ?_
  refine lv_istore_n (lv' := [(3, .int (iI (j - i))), (0, .ref v), (1, .int (iI i)), (2, .int (iI j))]) hx hb dJ7_copyOfRangeByte_39247_8 rfl hl (by decide) rfl (fun ls hl => ?_)
  refine lv_iload_n hx hb dJ7_copyOfRangeByte_39247_9 rfl (lv_at hl 0 rfl) ?_
  refine z_newp (atype := .byte) (ty := .byte) (n := j - i) 0 (hC := hC) (hZ := hZ) q_103 rfl rfl (fun h => va_nm_byte h) rfl (by decide) (by omega) (Nat.le_of_ble_eq_true rfl) (by show _ ≤ n; omega) dJ7_copyOfRangeByte_39247_10 (fun q10 H hq10 hZ => ?_)
  have hnt10 : (j - i).toNat = n := (by omega)
  rw [hnt10] at hZ
  rw [hnt10]
  have hf_2 : (zup F q10 (zA (cs 0) n (fun _ => 0))) v = some (zA (cs 0) cap f_) := zup_k (zF_ne h1 hq10.1) h1
  have hf_3 : (zup F q10 (zA (cs 0) n (fun _ => 0))) q10 = some (zA (cs 0) n (fun _ => 0)) := zup_s
  replace hZ : zS D A s (zup F q10 (zA (cs 0) n (fun _ => 0))) _ _ := hZ
  refine lv_astore (lv' := [(4, .ref q10), (3, .int (iI (j - i))), (0, .ref v), (1, .int (iI i)), (2, .int (iI j))]) hx hb dJ7_copyOfRangeByte_39247_12 hl (by decide) rfl (fun ls hl => ?_)
  refine lv_aload_n hx hb dJ7_copyOfRangeByte_39247_14 rfl (lv_at hl 2 rfl) ?_
  refine lv_iload_n hx hb dJ7_copyOfRangeByte_39247_15 rfl (lv_at hl 3 rfl) ?_
  refine lv_aload hx hb dJ7_copyOfRangeByte_39247_16 (lv_at hl 0 rfl) ?_
  refine z_iconst hx hb dJ7_copyOfRangeByte_39247_18 ?_
  refine lv_aload_n hx hb dJ7_copyOfRangeByte_39247_19 rfl (lv_at hl 2 rfl) ?_
  refine z_alen (t := 0) hC hZ hf_2 rfl dJ7_copyOfRangeByte_39247_20 ?_
  refine lv_iload_n hx hb dJ7_copyOfRangeByte_39247_21 rfl (lv_at hl 3 rfl) ?_
  refine z_isub hx hb dJ7_copyOfRangeByte_39247_22 ?_
  refine lv_iload_n hx hb dJ7_copyOfRangeByte_39247_23 rfl (lv_at hl 1 rfl) ?_
  refine z_mmin (rest := [.int (iI 0), .ref q10, .int (iI i), .ref v]) hC hl qm_J7_304 (by omega) (by omega) ⟨Nat.le_of_ble_eq_true rfl, Nat.le_of_ble_eq_true rfl⟩ ⟨(by show _ ≤ 1; omega), (by show _ ≤ n; omega)⟩ dJ7_copyOfRangeByte_39247_24 (fun r24 hmx24 => ?_)
  refine z_top (y := (n : Int)) (by omega) ?_
  refine z_copyI (rest := []) hC hZ qm_J7_150 qv_J10_arraycopy_1e247 qt_J10_arraycopy_1e247 qn_J10 0 (ty := .byte) (sp := i) (dp := 0) (n := (n : Int)) hf_2 hf_3 rfl rfl (by omega) (by omega) (by omega) (by omega) (by omega) ⟨by omega, by omega⟩ (fun i _ _ => iI_fitB (h3 i)) hl (Nat.le_of_ble_eq_true rfl) (Nat.le_of_ble_eq_true rfl) dJ7_copyOfRangeByte_39247_27 (fun H locs hZ => ?_)
  rw [zup_up] at hZ
  have hf_4 : (zup F q10 (zA (cs 0) n (zcpy f_ (fun _ => 0) i 0 (n : Int)))) v = some (zA (cs 0) cap f_) := zup_k (zF_ne h1 hq10.1) h1
  have hf_5 : (zup F q10 (zA (cs 0) n (zcpy f_ (fun _ => 0) i 0 (n : Int)))) q10 = some (zA (cs 0) n (zcpy f_ (fun _ => 0) i 0 (n : Int))) := zup_s
  replace hZ : zS D A s (zup F q10 (zA (cs 0) n (zcpy f_ (fun _ => 0) i 0 (n : Int)))) _ _ := hZ
  refine lv_aload hx hb dJ7_copyOfRangeByte_39247_30 (lv_at hl 0 rfl) ?_
  exact z_aret hC hr (Or.inr ⟨_, rfl⟩) hlk hZ (by omega) (by omega) (⟨hq10.1, _, rfl, fun k k0 k1 => by unfold zcpy; rw [if_pos (by omega)]; rw [show i + (k - 0) = i + k by omega]⟩) dJ7_copyOfRangeByte_39247_32

set_option maxHeartbeats 4000000 in
set_option maxRecDepth 100000 in
theorem mes_cpr (l : Launch) (D : va_G) (cs : Nat → ClassId) (A : Nat → Prop) (F : zF) (a v : Nat) (t : List Int) (i j : Int) (n : Nat)  (hs : oSt cs F a v t) (hi : 0 ≤ i ∧ i + n = j ∧ j ≤ t.length) (hw : ¬ (i = 0 ∧ j = t.length)) : zM l D cs A yJ7_copyOfRange_39247 cJ7_copyOfRange_39247 3 (some (FieldType.array FieldType.byte)) 13 1 n [.ref v, .int (iI i), .int (iI j)] F (pR (fun r F1 => F r = none ∧ ∃ h : Int → Int, F1 = zup F r (zA (cs 0) n h) ∧ ∀ k : Int, 0 ≤ k → k < n → h k = t.getD (i + k).toNat 0)) := by
  refine zM_of (own := RJ7) (by decide) rfl (Nat.le_of_ble_eq_true rfl) ?_
  intro p e s m below meth c hC hr hlk hnm hZ ls hl
  have hx := hC.x
  have hb := hC.b
  have hl : lv_has ls 3 [(0, .ref v), (1, .int (iI i)), (2, .int (iI j))] := hl
  have hlen := hs.2.1
  have hrg := hs.2.2
  refine lv_iload_n hx hb dJ7_copyOfRange_39247_0 rfl (lv_at hl 1 rfl) ?_
  refine z_if_ne (tgt := 10) hx hb dJ7_copyOfRange_39247_1 (by decide) (by omega) (fun c_1 => ?_) (fun c_1 => ?_)
  · skip
    refine lv_aload_n hx hb dJ7_copyOfRange_39247_10 rfl (lv_at hl 0 rfl) ?_
    refine lv_iload_n hx hb dJ7_copyOfRange_39247_11 rfl (lv_at hl 1 rfl) ?_
    refine lv_iload_n hx hb dJ7_copyOfRange_39247_12 rfl (lv_at hl 2 rfl) ?_
    refine z_callr (z_runS (rest := []) (As := [.ref v, .int (iI i), .int (iI j)]) (n := 3) hC hZ (mes_cprB l D cs A F a v t i j n hs (by omega)) gs_J7_339 he_J7_copyOfRangeByte_39247 rfl hl rfl (Nat.le_of_ble_eq_true rfl) ⟨Nat.le_of_ble_eq_true rfl, Nat.le_of_ble_eq_true rfl⟩ ⟨(by show _ ≤ 1; omega), (by show _ ≤ n; omega)⟩ dJ7_copyOfRange_39247_13) hZ (fun r13 F13 H locs hp13_c_2 hZ => ?_)
    exact z_aret hC hr (Or.inr ⟨_, rfl⟩) hlk hZ (by omega) (by omega) (hp13_c_2) dJ7_copyOfRange_39247_16
  · skip
    refine lv_iload_n hx hb dJ7_copyOfRange_39247_4 rfl (lv_at hl 2 rfl) ?_
    refine lv_aload_n hx hb dJ7_copyOfRange_39247_5 rfl (lv_at hl 0 rfl) ?_
    refine z_slen hC hZ hs dJ7_copyOfRange_39247_6 ?_
    refine z_icmp_eq (tgt := 17) hx hb dJ7_copyOfRange_39247_7 (by decide) (by omega) (by omega) (fun c_3 => ?_) (fun c_3 => ?_)
    · skip
      exfalso; omega
    · skip
      refine lv_aload_n hx hb dJ7_copyOfRange_39247_10 rfl (lv_at hl 0 rfl) ?_
      refine lv_iload_n hx hb dJ7_copyOfRange_39247_11 rfl (lv_at hl 1 rfl) ?_
      refine lv_iload_n hx hb dJ7_copyOfRange_39247_12 rfl (lv_at hl 2 rfl) ?_
      refine z_callr (z_runS (rest := []) (As := [.ref v, .int (iI i), .int (iI j)]) (n := 3) hC hZ (mes_cprB l D cs A F a v t i j n hs (by omega)) gs_J7_339 he_J7_copyOfRangeByte_39247 rfl hl rfl (Nat.le_of_ble_eq_true rfl) ⟨Nat.le_of_ble_eq_true rfl, Nat.le_of_ble_eq_true rfl⟩ ⟨(by show _ ≤ 1; omega), (by show _ ≤ n; omega)⟩ dJ7_copyOfRange_39247_13) hZ (fun r13 F13 H locs hp13_c_4 hZ => ?_)
      exact z_aret hC hr (Or.inr ⟨_, rfl⟩) hlk hZ (by omega) (by omega) (hp13_c_4) dJ7_copyOfRange_39247_16

theorem zA_fitB {c : ClassId} {n : Nat} {f : Int → Int} (h : ∀ k : Int, 0 ≤ f k ∧ f k ≤ 127) : ∀ (i : Nat) (v : Value), (vp_cell c (n, .inl (aI f))).slots[i]? = some v → fits .byte v = true := by
  intro i v hv
  have hv2 : (arrV c n (fun j => .int (aI f j))).slots[i]? = some v := hv
  have hi : i < n := by
    have h1 := (Array.getElem?_eq_some_iff.mp hv2).1
    rw [arrV_size] at h1
    exact h1
  rw [arrV_read _ _ hi] at hv2
  cases hv2
  exact iI_fitB (h _)
set_option maxHeartbeats 4000000 in
set_option maxRecDepth 100000 in
theorem mes_cprA (l : Launch) (D : va_G) (cs : Nat → ClassId) (A : Nat → Prop) (F : zF) (v cap : Nat) (f_ : Int → Int) (n : Nat)  (h1 : F v = some (zA (cs 0) cap f_)) (h3 : ∀ k : Int, 0 ≤ f_ k ∧ f_ k ≤ 127) (hn : n ≤ cap) (hc : cap ≤ 20002) : zM l D cs A yJ7_copyOfRange_39247 cJ7_copyOfRange_39247 3 (some (FieldType.array FieldType.byte)) 13 1 n [.ref v, .int (iI 0), .int (iI (n : Int))] F (pR (fun r F1 => F r = none ∧ ∃ h : Int → Int, F1 = zup F r (zA (cs 0) n h) ∧ ∀ k : Int, 0 ≤ k → k < n → h k = f_ (0 + k))) := by
  refine zM_of (own := RJ7) (by decide) rfl (Nat.le_of_ble_eq_true rfl) ?_
  intro p e s m below meth c hC hr hlk hnm hZ ls hl
  have hx := hC.x
  have hb := hC.b
  have hl : lv_has ls 3 [(0, .ref v), (1, .int (iI 0)), (2, .int (iI (n : Int)))] := hl
  refine lv_iload_n hx hb dJ7_copyOfRange_39247_0 rfl (lv_at hl 1 rfl) ?_
  refine z_if_ne (tgt := 10) hx hb dJ7_copyOfRange_39247_1 (by decide) (by decide) (fun c_1 => ?_) (fun c_1 => ?_)
  · skip
    exfalso; omega
  · skip
    refine lv_iload_n hx hb dJ7_copyOfRange_39247_4 rfl (lv_at hl 2 rfl) ?_
    refine lv_aload_n hx hb dJ7_copyOfRange_39247_5 rfl (lv_at hl 0 rfl) ?_
    refine z_alen (t := 0) hC hZ h1 rfl dJ7_copyOfRange_39247_6 ?_
    refine z_icmp_eq (tgt := 17) hx hb dJ7_copyOfRange_39247_7 (by decide) (by omega) (by omega) (fun c_2 => ?_) (fun c_2 => ?_)
    · skip
      have hnc : n = cap := by omega
      refine lv_aload_n hx hb dJ7_copyOfRange_39247_17 rfl (lv_at hl 0 rfl) ?_
      refine z_clone (rest := []) (ad := "[B") (index := 310) (ty := .byte) (x := (cap, .inl (aI f_))) hC hZ 0 qm_J7_310 q_987 qv_java_lang_Object_clone_0502b qi_java_lang_Object_clone_0502b qs_java_lang_Object_clone_0502b__B q_989 h1 rfl hC.nm0 (zA_fitB h3) hl (Nat.le_of_ble_eq_true rfl) (Nat.le_of_ble_eq_true rfl) (Nat.le_of_ble_eq_true rfl) (by show _ ≤ n; omega) dJ7_copyOfRange_39247_18 (fun q18 H hq18 hZ => ?_)
      have hf_3 : (zup F q18 (zA (cs 0) cap f_)) v = some (zA (cs 0) cap f_) := zup_k (zF_ne h1 hq18.1) h1
      have hf_4 : (zup F q18 (zA (cs 0) cap f_)) q18 = some (zA (cs 0) cap f_) := zup_s
      replace hZ : zS D A s (zup F q18 (zA (cs 0) cap f_)) _ _ := hZ
      refine z_castA (t := 0) hC hZ qk_J7_311 hf_4 (zC.nm0 hC) dJ7_copyOfRange_39247_21 ?_
      exact z_aret hC hr (Or.inr ⟨_, rfl⟩) hlk hZ (by omega) (by omega) (⟨hq18.1, f_, by rw [hnc], fun k k0 k1 => by rw [show (0 : Int) + k = k by omega]⟩) dJ7_copyOfRange_39247_24
    · skip
      refine lv_aload_n hx hb dJ7_copyOfRange_39247_10 rfl (lv_at hl 0 rfl) ?_
      refine lv_iload_n hx hb dJ7_copyOfRange_39247_11 rfl (lv_at hl 1 rfl) ?_
      refine lv_iload_n hx hb dJ7_copyOfRange_39247_12 rfl (lv_at hl 2 rfl) ?_
      refine z_callr (z_runS (rest := []) (As := [.ref v, .int (iI 0), .int (iI (n : Int))]) (n := 3) hC hZ (mes_cprBA l D cs A F v cap f_ 0 (n : Int) n h1 h3 (by omega) (by omega)) gs_J7_339 he_J7_copyOfRangeByte_39247 rfl hl rfl (Nat.le_of_ble_eq_true rfl) ⟨Nat.le_of_ble_eq_true rfl, Nat.le_of_ble_eq_true rfl⟩ ⟨(by show _ ≤ 1; omega), (by show _ ≤ n; omega)⟩ dJ7_copyOfRange_39247_13) hZ (fun r13 F13 H locs hp13_c_5 hZ => ?_)
      exact z_aret hC hr (Or.inr ⟨_, rfl⟩) hlk hZ (by omega) (by omega) (hp13_c_5) dJ7_copyOfRange_39247_16

set_option maxHeartbeats 4000000 in
set_option maxRecDepth 100000 in
theorem mes_getValue (l : Launch) (D : va_G) (cs : Nat → ClassId) (A : Nat → Prop) (F : zF) (a va cap : Nat) (t : List Int)  (hb1 : oSB cs F a va cap t) : zM l D cs A yJ5_getValue_6d5f1 cJ5_getValue_6d5f1 1 (some (FieldType.array FieldType.byte)) 1 0 0 [.ref a] F (pR (fun r F1 => F = F1 ∧ va = r)) := by
  refine zM_of (own := RJ5) (by decide) rfl (Nat.le_of_ble_eq_true rfl) ?_
  intro p e s m below meth c hC hr hlk hnm hZ ls hl
  have hx := hC.x
  have hb := hC.b
  have hl : lv_has ls 1 [(0, .ref a)] := hl
  obtain ⟨ml, f_, h0, h1, hcap, h2, h3⟩ := id hb1
  refine lv_aload_n hx hb dJ5_getValue_6d5f1_0 rfl (lv_at hl 0 rfl) ?_
  refine z_get (T := TJ4) (N := 4) (ci := 1) (k := 0) (fs := [.ref va, .int (iI 0), .int (iI ml), .int (iI (t.length : Int))]) (v := .ref va) hC hZ in_J4 rfl (by decide) ql_J5_15 rfl h0 rfl dJ5_getValue_6d5f1_1 ?_
  exact z_aret hC hr (Or.inr ⟨_, rfl⟩) hlk hZ (by decide) (by decide) (⟨rfl, rfl⟩) dJ5_getValue_6d5f1_4

set_option maxHeartbeats 4000000 in
set_option maxRecDepth 100000 in
theorem mes_strInit0 (l : Launch) (D : va_G) (cs : Nat → ClassId) (A : Nat → Prop) (F : zF) (b a va cap : Nat) (t : List Int)  (hn0 : F b = some (.inr (0, [.null, .int (iI 0), .int (iI 0), .int (iI 0)]))) (hb1 : oSB cs F a va cap t) : zM l D cs A yJ0_init_db425 cJ0_init_db425 5 (none : Option Jvm.ClassFile.FieldType) 15 1 t.length [.ref b, .ref a, .null] F (pV (fun F1 => ∃ (v : Nat) (h : Int → Int), F v = none ∧ zko [b] F F1 ∧ F1 b = some (.inr (0, [.ref v, .int (iI 0), .int (iI 0), .int (iI 0)])) ∧ F1 v = some (zA (cs 0) t.length h) ∧ ∀ k : Int, 0 ≤ k → k < t.length → h k = t.getD k.toNat 0)) := by
  refine zM_of (own := RJ0) (by decide) rfl (Nat.le_of_ble_eq_true rfl) ?_
  intro p e s m below meth c hC hr hlk hnm hZ ls hl
  have hx := hC.x
  have hb := hC.b
  have hl : lv_has ls 5 [(0, .ref b), (1, .ref a), (2, .null)] := hl
  obtain ⟨ml, f_, h0, h1, hcap, h2, h3⟩ := id hb1
  refine lv_aload_n hx hb dJ0_init_db425_0 rfl (lv_at hl 0 rfl) ?_
  refine z_oinit (rest := []) hC hl qm_J0_1 ⟨Nat.le_of_ble_eq_true rfl, Nat.le_of_ble_eq_true rfl⟩ dJ0_init_db425_1 ?_
  refine lv_aload_n hx hb dJ0_init_db425_4 rfl (lv_at hl 1 rfl) ?_
  refine z_callr (z_runU (rest := []) (As := []) (n := 0) (ci := 1) hC hZ (mes_getValue l D cs A F a va cap t hb1) qc_J5_getValue_6d5f1 qn_J5 qm_J0_552 q_1104 qi_J5_getValue_6d5f1 (hC.ts qs_J5_getValue_6d5f1_J4) (by decide +kernel) rfl h0 rfl hl rfl (Nat.le_of_ble_eq_true rfl) ⟨Nat.le_of_ble_eq_true rfl, Nat.le_of_ble_eq_true rfl⟩ ⟨(by show _ ≤ 1; omega), (by show _ ≤ t.length; omega)⟩ dJ0_init_db425_5) hZ (fun r5 F5 H locs hp5_c_1 hZ => ?_)
  obtain ⟨rfl, rfl⟩ := hp5_c_1
  refine lv_astore_n (lv' := [(3, .ref va), (0, .ref b), (1, .ref a), (2, .null)]) hx hb dJ0_init_db425_8 rfl hl (by decide) rfl (fun ls hl => ?_)
  refine lv_aload_n hx hb dJ0_init_db425_9 rfl (lv_at hl 2 rfl) ?_
  refine z_calli (z_runOv (rest := []) (As := []) (n := 0) (ci := 1) hC hZ (met_J4_length_8abf5 l D cs A F a va cap t hb1) qc_J4_length_8abf5 qn_J4 qm_J0_549 q_1109 qi_J4_length_8abf5 qi_J5_length_8abf5 qc_J5_length_8abf5 qs_J4_length_8abf5_J4 (by decide +kernel) rfl h0 rfl hl rfl (Nat.le_of_ble_eq_true rfl) ⟨Nat.le_of_ble_eq_true rfl, Nat.le_of_ble_eq_true rfl⟩ ⟨(by show _ ≤ 1; omega), (by show _ ≤ t.length; omega)⟩ dJ0_init_db425_10) hZ (fun r10 _ H locs hp10 hZ => ?_)
  obtain ⟨rfl, rfl⟩ := hp10
  refine lv_istore (lv' := [(4, .int (iI (t.length : Int))), (3, .ref va), (0, .ref b), (1, .ref a), (2, .null)]) hx hb dJ0_init_db425_13 hl (by decide) rfl (fun ls hl => ?_)
  refine lv_aload_n hx hb dJ0_init_db425_15 rfl (lv_at hl 3 rfl) ?_
  refine z_calli (z_runU (rest := []) (As := []) (n := 0) (ci := 1) hC hZ (met_J5_isLatin1_aae02 l D cs A F a va cap t hb1) qc_J5_isLatin1_aae02 qn_J5 qm_J0_1047 q_993 qi_J5_isLatin1_aae02 (hC.ts qs_J5_isLatin1_aae02_J4) (by decide +kernel) rfl h0 rfl hl rfl (Nat.le_of_ble_eq_true rfl) ⟨Nat.le_of_ble_eq_true rfl, Nat.le_of_ble_eq_true rfl⟩ ⟨(by show _ ≤ 1; omega), (by show _ ≤ t.length; omega)⟩ dJ0_init_db425_16) hZ (fun r16 F16 H locs hp16_c_2 hZ => ?_)
  obtain ⟨rfl, rfl⟩ := hp16_c_2
  refine z_if_eq (tgt := 41) hx hb dJ0_init_db425_19 (by decide) (by decide) (fun c_3 => ?_) (fun c_3 => ?_)
  · skip
    exfalso; omega
  · skip
    refine lv_aload_n hx hb dJ0_init_db425_22 rfl (lv_at hl 2 rfl) ?_
    refine z_iconst hx hb dJ0_init_db425_23 ?_
    refine z_put (T := TJ0) (N := 4) (ci := 0) (k := 1) (fs := [.null, .int (iI 0), .int (iI 0), .int (iI 0)]) (v := .int (iI 0)) hC hZ tyJ0 tyJ0_ok nmJ0 in_J0 rfl (by decide) ql_J0_15 rfl (Or.inr ⟨rfl, hnm, rfl⟩) rfl hn0 (by show 1 < 4; decide) rfl rfl dJ0_init_db425_24 (fun H locs hZ => ?_)
    have hf_4 : (zup F b (.inr (0, [.null, .int (iI 0), .int (iI 0), .int (iI 0)]))) a = some (.inr (1, [.ref va, .int (iI 0), .int (iI ml), .int (iI (t.length : Int))])) := zup_k (zne h0 hn0 (fun q => by cases q)) h0
    have hf_5 : (zup F b (.inr (0, [.null, .int (iI 0), .int (iI 0), .int (iI 0)]))) va = some (zA (cs 0) cap f_) := zup_k (zne h1 hn0 (fun q => by cases q)) h1
    have hf_6 : (zup F b (.inr (0, [.null, .int (iI 0), .int (iI 0), .int (iI 0)]))) b = some (.inr (0, [.null, .int (iI 0), .int (iI 0), .int (iI 0)])) := zup_s
    replace hZ : zS D A s (zup F b (.inr (0, [.null, .int (iI 0), .int (iI 0), .int (iI 0)]))) _ _ := hZ
    refine lv_aload_n hx hb dJ0_init_db425_27 rfl (lv_at hl 2 rfl) ?_
    refine lv_aload_n hx hb dJ0_init_db425_28 rfl (lv_at hl 1 rfl) ?_
    refine z_iconst hx hb dJ0_init_db425_29 ?_
    refine lv_iload hx hb dJ0_init_db425_30 (lv_at hl 0 rfl) ?_
    refine z_callr (z_runS (rest := [.ref b]) (As := [.ref va, .int (iI 0), .int (iI (t.length : Int))]) (n := 3) hC hZ (mes_cprA l D cs A (zup F b (.inr (0, [.null, .int (iI 0), .int (iI 0), .int (iI 0)]))) va cap f_ t.length hf_5 h3 (by omega) (by omega)) gs_J0_54 he_J7_copyOfRange_39247 rfl hl rfl (Nat.le_of_ble_eq_true rfl) ⟨Nat.le_of_ble_eq_true rfl, Nat.le_of_ble_eq_true rfl⟩ ⟨(by show _ ≤ 1; omega), (by show _ ≤ t.length; omega)⟩ dJ0_init_db425_32) hZ (fun r32 F32 H locs hp32_c_7 hZ => ?_)
    obtain ⟨hn32, hc_, rfl, hcv⟩ := hp32_c_7
    have hrr32 : (zup F b (.inr (0, [.null, .int (iI 0), .int (iI 0), .int (iI 0)]))) r32 = none ∧ True := ⟨hn32, trivial⟩
    have hf_8 : (zup (zup F b (.inr (0, [.null, .int (iI 0), .int (iI 0), .int (iI 0)]))) r32 (zA (cs 0) t.length hc_)) a = some (.inr (1, [.ref va, .int (iI 0), .int (iI ml), .int (iI (t.length : Int))])) := zup_k (zF_ne hf_4 hrr32.1) hf_4
    have hf_9 : (zup (zup F b (.inr (0, [.null, .int (iI 0), .int (iI 0), .int (iI 0)]))) r32 (zA (cs 0) t.length hc_)) va = some (zA (cs 0) cap f_) := zup_k (zF_ne hf_5 hrr32.1) hf_5
    have hf_10 : (zup (zup F b (.inr (0, [.null, .int (iI 0), .int (iI 0), .int (iI 0)]))) r32 (zA (cs 0) t.length hc_)) b = some (.inr (0, [.null, .int (iI 0), .int (iI 0), .int (iI 0)])) := zup_k (zF_ne hf_6 hrr32.1) hf_6
    have hf_11 : (zup (zup F b (.inr (0, [.null, .int (iI 0), .int (iI 0), .int (iI 0)]))) r32 (zA (cs 0) t.length hc_)) r32 = some (zA (cs 0) t.length hc_) := zup_s
    refine z_put (T := TJ0) (N := 4) (ci := 0) (k := 0) (fs := [.null, .int (iI 0), .int (iI 0), .int (iI 0)]) (v := .ref r32) hC hZ tyJ0 tyJ0_ok nmJ0 in_J0 rfl (by decide) ql_J0_9 rfl (Or.inr ⟨rfl, hnm, rfl⟩) rfl hf_10 (by show 0 < 4; decide) rfl rfl dJ0_init_db425_35 (fun H locs hZ => ?_)
    have hf_12 : (zup (zup (zup F b (.inr (0, [.null, .int (iI 0), .int (iI 0), .int (iI 0)]))) r32 (zA (cs 0) t.length hc_)) b (.inr (0, [.ref r32, .int (iI 0), .int (iI 0), .int (iI 0)]))) a = some (.inr (1, [.ref va, .int (iI 0), .int (iI ml), .int (iI (t.length : Int))])) := zup_k (zne hf_8 hf_10 (fun q => by cases q)) hf_8
    have hf_13 : (zup (zup (zup F b (.inr (0, [.null, .int (iI 0), .int (iI 0), .int (iI 0)]))) r32 (zA (cs 0) t.length hc_)) b (.inr (0, [.ref r32, .int (iI 0), .int (iI 0), .int (iI 0)]))) va = some (zA (cs 0) cap f_) := zup_k (zne hf_9 hf_10 (fun q => by cases q)) hf_9
    have hf_14 : (zup (zup (zup F b (.inr (0, [.null, .int (iI 0), .int (iI 0), .int (iI 0)]))) r32 (zA (cs 0) t.length hc_)) b (.inr (0, [.ref r32, .int (iI 0), .int (iI 0), .int (iI 0)]))) r32 = some (zA (cs 0) t.length hc_) := zup_k (zne hf_11 hf_10 (fun q => by cases q)) hf_11
    have hf_15 : (zup (zup (zup F b (.inr (0, [.null, .int (iI 0), .int (iI 0), .int (iI 0)]))) r32 (zA (cs 0) t.length hc_)) b (.inr (0, [.ref r32, .int (iI 0), .int (iI 0), .int (iI 0)]))) b = some (.inr (0, [.ref r32, .int (iI 0), .int (iI 0), .int (iI 0)])) := zup_s
    replace hZ : zS D A s (zup (zup (zup F b (.inr (0, [.null, .int (iI 0), .int (iI 0), .int (iI 0)]))) r32 (zA (cs 0) t.length hc_)) b (.inr (0, [.ref r32, .int (iI 0), .int (iI 0), .int (iI 0)]))) _ _ := hZ
    refine lv_goto (tgt := 97) hx hb dJ0_init_db425_38 (by decide) ?_
    exact z_vret hC hr hlk hZ (by omega) (by omega) (⟨r32, hc_, zup_none hn32, ((((zko.refl : zko [b] F F).up (by simp)).new hrr32.1).up (by simp)), hf_15, hf_14, fun k k0 k1 => by rw [hcv k k0 k1, show (0 : Int) + k = k by omega]; exact h2 k k0 k1⟩) dJ0_init_db425_97

set_option maxHeartbeats 4000000 in
set_option maxRecDepth 100000 in
theorem mes_strInit1 (l : Launch) (D : va_G) (cs : Nat → ClassId) (A : Nat → Prop) (F : zF) (b a va cap : Nat) (t : List Int)  (hn0 : F b = some (.inr (0, [.null, .int (iI 0), .int (iI 0), .int (iI 0)]))) (hb1 : oSB cs F a va cap t) : zM l D cs A yJ0_init_81219 cJ0_init_81219 2 (none : Option Jvm.ClassFile.FieldType) 16 1 t.length [.ref b, .ref a] F (pV (fun F1 => ∃ (v : Nat) (h : Int → Int), F v = none ∧ zko [b] F F1 ∧ F1 b = some (.inr (0, [.ref v, .int (iI 0), .int (iI 0), .int (iI 0)])) ∧ F1 v = some (zA (cs 0) t.length h) ∧ ∀ k : Int, 0 ≤ k → k < t.length → h k = t.getD k.toNat 0)) := by
  refine zM_of (own := RJ0) (by decide) rfl (Nat.le_of_ble_eq_true rfl) ?_
  intro p e s m below meth c hC hr hlk hnm hZ ls hl
  have hx := hC.x
  have hb := hC.b
  have hl : lv_has ls 2 [(0, .ref b), (1, .ref a)] := hl
  obtain ⟨ml, f_, h0, h1, hcap, h2, h3⟩ := id hb1
  refine lv_aload_n hx hb dJ0_init_81219_0 rfl (lv_at hl 0 rfl) ?_
  refine lv_aload_n hx hb dJ0_init_81219_1 rfl (lv_at hl 1 rfl) ?_
  refine lv_null hx hb dJ0_init_81219_2 ?_
  refine z_callv (z_runI (rest := []) (As := [.ref a, .null]) (n := 2) hC hZ (mes_strInit0 l D cs A F b a va cap t hn0 hb1) qc_J0_init_db425 qn_J0 qm_J0_489 qi_J0_init_db425 rfl he_J0_init_db425 rfl hl rfl (Nat.le_of_ble_eq_true rfl) ⟨Nat.le_of_ble_eq_true rfl, Nat.le_of_ble_eq_true rfl⟩ ⟨(by show _ ≤ 1; omega), (by show _ ≤ t.length; omega)⟩ dJ0_init_81219_3) hZ (fun F3 H locs hp3_c_1 hZ => ?_)
  exact z_vret hC hr hlk hZ (by omega) (by omega) (hp3_c_1) dJ0_init_81219_6

theorem oSB.up {cs : Nat → ClassId} {F : zF} {a va cap q : Nat} {e : va_E} {t : List Int} (h : oSB cs F a va cap t) (hq : F q = none) : oSB cs (zup F q e) a va cap t := by
  obtain ⟨ml, f, h1, h2, h3⟩ := h
  exact ⟨ml, f, zup_k (zF_ne h1 hq) h1, zup_k (zF_ne h2 hq) h2, h3⟩
theorem oSB.rng {cs : Nat → ClassId} {F : zF} {a va cap : Nat} {t : List Int} (h : oSB cs F a va cap t) : ∀ x ∈ t, 0 ≤ x ∧ x ≤ 127 := by
  obtain ⟨ml, f, -, -, -, h2, h3⟩ := h
  intro x hx
  obtain ⟨k, hk⟩ := List.getElem?_of_mem hx
  have hl := (List.getElem?_eq_some_iff.mp hk).1
  have := h2 (k : Int) (by omega) (by omega)
  rw [Int.toNat_natCast, List.getD_eq_getElem?_getD, hk] at this
  have h4 := h3 (k : Int)
  rw [this] at h4
  exact h4
/-- a new string -/
theorem st_new {cs : Nat → ClassId} {F F1 : zF} {b v : Nat} {t : List Int} {h : Int → Int} {e : va_E} (hb : F b = none) (hv : zup F b e v = none) (hk : zko [b] (zup F b e) F1) (h1 : F1 b = some (.inr (0, [.ref v, .int (iI 0), .int (iI 0), .int (iI 0)]))) (h2 : F1 v = some (zA (cs 0) t.length h)) (h3 : ∀ k : Int, 0 ≤ k → k < t.length → h k = t.getD k.toNat 0) (h4 : t.length ≤ 3000) (h5 : ∀ x ∈ t, 0 ≤ x ∧ x ≤ 127) : F b = none ∧ (∃ v : Nat, F v = none ∧ oSt cs F1 b v t ∧ F1 b = some (.inr (0, [.ref v, .int (iI 0), .int (iI 0), .int (iI 0)]))) ∧ zle F F1 :=
  ⟨hb, ⟨v, zup_none hv, ⟨Or.inl ⟨h, h1, h2, h3⟩, h4, h5⟩, h1⟩, fun q e9 hq => hk q e9 (zup_k (zF_ne hq hb) hq) (zni1 (zF_ne hq hb) zni0)⟩
set_option maxHeartbeats 4000000 in
set_option maxRecDepth 100000 in
theorem mes_toString (l : Launch) (D : va_G) (cs : Nat → ClassId) (A : Nat → Prop) (F : zF) (a va cap : Nat) (t : List Int)  (hb1 : oSB cs F a va cap t) (ht0 : t.length ≤ 3000) : zM l D cs A yJ4_toString_0e30d cJ4_toString_0e30d 1 (some (FieldType.object "java/lang/String")) 17 2 (4 + t.length) [.ref a] F (pR (fun r F1 => F r = none ∧ (∃ v : Nat, F v = none ∧ oSt cs F1 r v t ∧ F1 r = some (.inr (0, [.ref v, .int (iI 0), .int (iI 0), .int (iI 0)]))) ∧ zle F F1)) := by
  refine zM_of (own := RJ4) (by decide) rfl (Nat.le_of_ble_eq_true rfl) ?_
  intro p e s m below meth c hC hr hlk hnm hZ ls hl
  have hx := hC.x
  have hb := hC.b
  have hl : lv_has ls 1 [(0, .ref a)] := hl
  obtain ⟨ml, f_, h0, h1, hcap, h2, h3⟩ := id hb1
  refine z_new (T := TJ0) (N := 4) (ci := 0) hC hZ tyJ0 tyJ0_ok in_J0 rfl qk_J4_18 qx_J0 qn_J0 [.null, .int (iI 0), .int (iI 0), .int (iI 0)] df_J0 (Nat.le_of_ble_eq_true rfl) (by show _ ≤ (4 + t.length); omega) dJ4_toString_0e30d_0 (fun q0 H hq0 hZ => ?_)
  have hf_1 : (zup F q0 (.inr (0, [.null, .int (iI 0), .int (iI 0), .int (iI 0)]))) a = some (.inr (1, [.ref va, .int (iI 0), .int (iI ml), .int (iI (t.length : Int))])) := zup_k (zF_ne h0 hq0.1) h0
  have hf_2 : (zup F q0 (.inr (0, [.null, .int (iI 0), .int (iI 0), .int (iI 0)]))) va = some (zA (cs 0) cap f_) := zup_k (zF_ne h1 hq0.1) h1
  have hf_3 : (zup F q0 (.inr (0, [.null, .int (iI 0), .int (iI 0), .int (iI 0)]))) q0 = some (.inr (0, [.null, .int (iI 0), .int (iI 0), .int (iI 0)])) := zup_s
  replace hZ : zS D A s (zup F q0 (.inr (0, [.null, .int (iI 0), .int (iI 0), .int (iI 0)]))) _ _ := hZ
  refine lv_dup hx hb dJ4_toString_0e30d_3 rfl ?_
  refine lv_aload_n hx hb dJ4_toString_0e30d_4 rfl (lv_at hl 0 rfl) ?_
  refine z_callv (z_runI (rest := [.ref q0]) (As := [.ref a]) (n := 1) hC hZ (mes_strInit1 l D cs A (zup F q0 (.inr (0, [.null, .int (iI 0), .int (iI 0), .int (iI 0)]))) q0 a va cap t hf_3 (hb1.up hq0.1)) qc_J0_init_81219 qn_J0 qm_J4_137 qi_J0_init_81219 rfl he_J0_init_81219 rfl hl rfl (Nat.le_of_ble_eq_true rfl) ⟨Nat.le_of_ble_eq_true rfl, Nat.le_of_ble_eq_true rfl⟩ ⟨(by show _ ≤ 2; omega), (by show _ ≤ (4 + t.length); omega)⟩ dJ4_toString_0e30d_5) hZ (fun F5 H locs hp5_c_4 hZ => ?_)
  exact z_aret hC hr (Or.inl ⟨_, rfl⟩) hlk hZ (by omega) (by omega) ((by obtain ⟨v9, g9, k1, k2, k3, k4, k5⟩ := hp5_c_4; exact st_new hq0.1 k1 k2 k3 k4 k5 ht0 hb1.rng)) dJ4_toString_0e30d_8

set_option maxHeartbeats 4000000 in
set_option maxRecDepth 100000 in
theorem mes_cftn (l : Launch) (D : va_G) (cs : Nat → ClassId) (A : Nat → Prop) (F : zF) (i j n : Int)  (hi : 0 ≤ i ∧ i ≤ j ∧ j ≤ n) (hn : n ≤ 2147483647) : zM l D cs A yJ3_checkFromToIndex_8c36e cJ3_checkFromToIndex_8c36e 4 (some FieldType.int) 1 0 0 [.int (iI i), .int (iI j), .int (iI n), .null] F (pI (fun r F1 => F = F1 ∧ i = r)) := by
  refine zM_of (own := RJ3) (by decide) rfl (Nat.le_of_ble_eq_true rfl) ?_
  intro p e s m below meth c hC hr hlk hnm hZ ls hl
  have hx := hC.x
  have hb := hC.b
  have hl : lv_has ls 4 [(0, .int (iI i)), (1, .int (iI j)), (2, .int (iI n)), (3, .null)] := hl
  refine lv_iload_n hx hb dJ3_checkFromToIndex_8c36e_0 rfl (lv_at hl 0 rfl) ?_
  refine z_if_lt (tgt := 14) hx hb dJ3_checkFromToIndex_8c36e_1 (by decide) (by omega) (fun c_1 => ?_) (fun c_1 => ?_)
  · skip
    exfalso; omega
  · skip
    refine lv_iload_n hx hb dJ3_checkFromToIndex_8c36e_4 rfl (lv_at hl 0 rfl) ?_
    refine lv_iload_n hx hb dJ3_checkFromToIndex_8c36e_5 rfl (lv_at hl 1 rfl) ?_
    refine z_icmp_gt (tgt := 14) hx hb dJ3_checkFromToIndex_8c36e_6 (by decide) (by omega) (by omega) (fun c_2 => ?_) (fun c_2 => ?_)
    · skip
      exfalso; omega
    · skip
      refine lv_iload_n hx hb dJ3_checkFromToIndex_8c36e_9 rfl (lv_at hl 1 rfl) ?_
      refine lv_iload_n hx hb dJ3_checkFromToIndex_8c36e_10 rfl (lv_at hl 2 rfl) ?_
      refine z_icmp_le (tgt := 22) hx hb dJ3_checkFromToIndex_8c36e_11 (by decide) (by omega) (by omega) (fun c_3 => ?_) (fun c_3 => ?_)
      · skip
        refine lv_iload_n hx hb dJ3_checkFromToIndex_8c36e_22 rfl (lv_at hl 0 rfl) ?_
        exact z_iret hC hr hlk hZ (by decide) (by decide) (⟨rfl, rfl⟩) dJ3_checkFromToIndex_8c36e_23
      · skip
        exfalso; omega

set_option maxHeartbeats 4000000 in
set_option maxRecDepth 100000 in
theorem mes_cftr (l : Launch) (D : va_G) (cs : Nat → ClassId) (A : Nat → Prop) (F : zF) (i j n : Int) (t0 : Nat)  (hi : 0 ≤ i ∧ i ≤ j ∧ j ≤ n) (hn : n ≤ 2147483647) : zM l D cs A yJ3_checkFromToIndex_8c36e cJ3_checkFromToIndex_8c36e 4 (some FieldType.int) 1 0 0 [.int (iI i), .int (iI j), .int (iI n), .ref t0] F (pI (fun r F1 => F = F1 ∧ i = r)) := by
  refine zM_of (own := RJ3) (by decide) rfl (Nat.le_of_ble_eq_true rfl) ?_
  intro p e s m below meth c hC hr hlk hnm hZ ls hl
  have hx := hC.x
  have hb := hC.b
  have hl : lv_has ls 4 [(0, .int (iI i)), (1, .int (iI j)), (2, .int (iI n)), (3, .ref t0)] := hl
  refine lv_iload_n hx hb dJ3_checkFromToIndex_8c36e_0 rfl (lv_at hl 0 rfl) ?_
  refine z_if_lt (tgt := 14) hx hb dJ3_checkFromToIndex_8c36e_1 (by decide) (by omega) (fun c_1 => ?_) (fun c_1 => ?_)
  · skip
    exfalso; omega
  · skip
    refine lv_iload_n hx hb dJ3_checkFromToIndex_8c36e_4 rfl (lv_at hl 0 rfl) ?_
    refine lv_iload_n hx hb dJ3_checkFromToIndex_8c36e_5 rfl (lv_at hl 1 rfl) ?_
    refine z_icmp_gt (tgt := 14) hx hb dJ3_checkFromToIndex_8c36e_6 (by decide) (by omega) (by omega) (fun c_2 => ?_) (fun c_2 => ?_)
    · skip
      exfalso; omega
    · skip
      refine lv_iload_n hx hb dJ3_checkFromToIndex_8c36e_9 rfl (lv_at hl 1 rfl) ?_
      refine lv_iload_n hx hb dJ3_checkFromToIndex_8c36e_10 rfl (lv_at hl 2 rfl) ?_
      refine z_icmp_le (tgt := 22) hx hb dJ3_checkFromToIndex_8c36e_11 (by decide) (by omega) (by omega) (fun c_3 => ?_) (fun c_3 => ?_)
      · skip
        refine lv_iload_n hx hb dJ3_checkFromToIndex_8c36e_22 rfl (lv_at hl 0 rfl) ?_
        exact z_iret hC hr hlk hZ (by decide) (by decide) (⟨rfl, rfl⟩) dJ3_checkFromToIndex_8c36e_23
      · skip
        exfalso; omega

set_option maxHeartbeats 4000000 in
set_option maxRecDepth 100000 in
theorem mes_cbe (l : Launch) (D : va_G) (cs : Nat → ClassId) (A : Nat → Prop) (F : zF) (i j n : Int)  (hi : 0 ≤ i ∧ i ≤ j ∧ j ≤ n) (hn : n ≤ 2147483647) : zM l D cs A yJ0_checkBoundsBeginEnd_23922 cJ0_checkBoundsBeginEnd_23922 3 (none : Option Jvm.ClassFile.FieldType) 2 0 0 [.int (iI i), .int (iI j), .int (iI n)] F (pV (fun F1 => F = F1)) := by
  refine zM_of (own := RJ0) (by decide) rfl (Nat.le_of_ble_eq_true rfl) ?_
  intro p e s m below meth c hC hr hlk hnm hZ ls hl
  have hx := hC.x
  have hb := hC.b
  have hl : lv_has ls 3 [(0, .int (iI i)), (1, .int (iI j)), (2, .int (iI n))] := hl
  refine lv_iload_n hx hb dJ0_checkBoundsBeginEnd_23922_0 rfl (lv_at hl 0 rfl) ?_
  refine lv_iload_n hx hb dJ0_checkBoundsBeginEnd_23922_1 rfl (lv_at hl 1 rfl) ?_
  refine lv_iload_n hx hb dJ0_checkBoundsBeginEnd_23922_2 rfl (lv_at hl 2 rfl) ?_
  refine z_getsF hC hZ ql_J0_1053 dJ0_checkBoundsBeginEnd_23922_3 ?_ (fun fm_1 => ?_)
  · skip
    refine z_calli (z_runS (rest := []) (As := [.int (iI i), .int (iI j), .int (iI n), .null]) (n := 4) hC hZ (mes_cftn l D cs A F i j n  (by omega) (by omega)) gs_J0_1062 he_J3_checkFromToIndex_8c36e rfl hl rfl (Nat.le_of_ble_eq_true rfl) ⟨Nat.le_of_ble_eq_true rfl, Nat.le_of_ble_eq_true rfl⟩ ⟨Nat.le_of_ble_eq_true rfl, Nat.le_of_ble_eq_true rfl⟩ dJ0_checkBoundsBeginEnd_23922_6) hZ (fun r6 _ H locs hp6 hZ => ?_)
    obtain ⟨rfl, rfl⟩ := hp6
    refine lv_pop hx hb dJ0_checkBoundsBeginEnd_23922_9 rfl ?_
    exact z_vret hC hr hlk hZ (by decide) (by decide) (rfl) dJ0_checkBoundsBeginEnd_23922_10
  · skip
    refine z_calli (z_runS (rest := []) (As := [.int (iI i), .int (iI j), .int (iI n), .ref fm_1]) (n := 4) hC hZ (mes_cftr l D cs A F i j n fm_1 (by omega) (by omega)) gs_J0_1062 he_J3_checkFromToIndex_8c36e rfl hl rfl (Nat.le_of_ble_eq_true rfl) ⟨Nat.le_of_ble_eq_true rfl, Nat.le_of_ble_eq_true rfl⟩ ⟨Nat.le_of_ble_eq_true rfl, Nat.le_of_ble_eq_true rfl⟩ dJ0_checkBoundsBeginEnd_23922_6) hZ (fun r6 _ H locs hp6 hZ => ?_)
    obtain ⟨rfl, rfl⟩ := hp6
    refine lv_pop hx hb dJ0_checkBoundsBeginEnd_23922_9 rfl ?_
    exact z_vret hC hr hlk hZ (by decide) (by decide) (rfl) dJ0_checkBoundsBeginEnd_23922_10

set_option maxHeartbeats 4000000 in
set_option maxRecDepth 100000 in
theorem mes_strInit2 (l : Launch) (D : va_G) (cs : Nat → ClassId) (A : Nat → Prop) (F : zF) (b v : Nat)  (hn0 : F b = some (.inr (0, [.null, .int (iI 0), .int (iI 0), .int (iI 0)]))) : zM l D cs A yJ0_init_031fb cJ0_init_031fb 3 (none : Option Jvm.ClassFile.FieldType) 1 0 0 [.ref b, .ref v, .int (iI 0)] F (pV (fun F1 => F1 = zup F b (.inr (0, [.ref v, .int (iI 0), .int (iI 0), .int (iI 0)])))) := by
  refine zM_of (own := RJ0) (by decide) rfl (Nat.le_of_ble_eq_true rfl) ?_
  intro p e s m below meth c hC hr hlk hnm hZ ls hl
  have hx := hC.x
  have hb := hC.b
  have hl : lv_has ls 3 [(0, .ref b), (1, .ref v), (2, .int (iI 0))] := hl
  refine lv_aload_n hx hb dJ0_init_031fb_0 rfl (lv_at hl 0 rfl) ?_
  refine z_oinit (rest := []) hC hl qm_J0_1 ⟨Nat.le_of_ble_eq_true rfl, Nat.le_of_ble_eq_true rfl⟩ dJ0_init_031fb_1 ?_
  refine lv_aload_n hx hb dJ0_init_031fb_4 rfl (lv_at hl 0 rfl) ?_
  refine lv_aload_n hx hb dJ0_init_031fb_5 rfl (lv_at hl 1 rfl) ?_
  refine z_put (T := TJ0) (N := 4) (ci := 0) (k := 0) (fs := [.null, .int (iI 0), .int (iI 0), .int (iI 0)]) (v := .ref v) hC hZ tyJ0 tyJ0_ok nmJ0 in_J0 rfl (by decide) ql_J0_9 rfl (Or.inr ⟨rfl, hnm, rfl⟩) rfl hn0 (by show 0 < 4; decide) rfl rfl dJ0_init_031fb_6 (fun H locs hZ => ?_)
  have hf_1 : (zup F b (.inr (0, [.ref v, .int (iI 0), .int (iI 0), .int (iI 0)]))) b = some (.inr (0, [.ref v, .int (iI 0), .int (iI 0), .int (iI 0)])) := zup_s
  replace hZ : zS D A s (zup F b (.inr (0, [.ref v, .int (iI 0), .int (iI 0), .int (iI 0)]))) _ _ := hZ
  refine lv_aload_n hx hb dJ0_init_031fb_9 rfl (lv_at hl 0 rfl) ?_
  refine lv_iload_n hx hb dJ0_init_031fb_10 rfl (lv_at hl 2 rfl) ?_
  refine z_put (T := TJ0) (N := 4) (ci := 0) (k := 1) (fs := [.ref v, .int (iI 0), .int (iI 0), .int (iI 0)]) (v := .int (iI 0)) hC hZ tyJ0 tyJ0_ok nmJ0 in_J0 rfl (by decide) ql_J0_15 rfl (Or.inr ⟨rfl, hnm, rfl⟩) rfl hf_1 (by show 1 < 4; decide) rfl rfl dJ0_init_031fb_11 (fun H locs hZ => ?_)
  rw [zup_up] at hZ
  have hf_2 : (zup F b (.inr (0, [.ref v, .int (iI 0), .int (iI 0), .int (iI 0)]))) b = some (.inr (0, [.ref v, .int (iI 0), .int (iI 0), .int (iI 0)])) := zup_s
  replace hZ : zS D A s (zup F b (.inr (0, [.ref v, .int (iI 0), .int (iI 0), .int (iI 0)]))) _ _ := hZ
  exact z_vret hC hr hlk hZ (by decide) (by decide) (rfl) dJ0_init_031fb_14

theorem sub_0 {t : List Int} {i : Nat} {n : Nat} (h : n = 0) : (t.drop i).take n = [] := by rw [h]; rfl
theorem sub_l {t : List Int} {i n : Nat} (h : i + n ≤ t.length) : ((t.drop i).take n).length = n := by rw [List.length_take, List.length_drop]; omega
theorem sub_r {t : List Int} {i n : Nat} (h : ∀ x ∈ t, 0 ≤ x ∧ x ≤ 127) : ∀ x ∈ (t.drop i).take n, 0 ≤ x ∧ x ≤ 127 := fun x hx => h x (List.mem_of_mem_drop (List.mem_of_mem_take hx))
theorem sub_all {t : List Int} {i n : Nat} (h : i = 0) (h2 : n = t.length) : (t.drop i).take n = t := by rw [h, h2, List.drop_zero, List.take_length]
/-- a new string over bytes that are new -/
theorem st_new2 {cs : Nat → ClassId} {F : zF} {b v : Nat} {t : List Int} {i : Int} {n : Nat} {h : Int → Int} {e : va_E} (hb : F b = none) (hv : zup F b e v = none) (hi : 0 ≤ i ∧ i + n ≤ t.length) (h3 : ∀ k : Int, 0 ≤ k → k < n → h k = t.getD (i + k).toNat 0) (h4 : t.length ≤ 3000) (h5 : ∀ x ∈ t, 0 ≤ x ∧ x ≤ 127) : zle F (zup (zup (zup F b e) v (zA (cs 0) n h)) b (.inr (0, [.ref v, .int (iI 0), .int (iI 0), .int (iI 0)]))) ∧ oStr cs (zup (zup (zup F b e) v (zA (cs 0) n h)) b (.inr (0, [.ref v, .int (iI 0), .int (iI 0), .int (iI 0)]))) b ((t.drop i.toNat).take n) := by
  have hvb : v ≠ b := by
    intro q
    rw [q, zup_s] at hv
    cases hv
  have hl : ((t.drop i.toNat).take n).length = n := sub_l (by omega)
  refine ⟨fun q e9 hq => ?_, v, Or.inl ⟨h, zup_s, ?_, fun k k0 k1 => ?_⟩, by omega, sub_r h5⟩
  · rw [zup_n (zF_ne hq hb), zup_n (zF_ne (zup_k (zF_ne hq hb) hq) hv), zup_n (zF_ne hq hb)]
    exact hq
  · rw [zup_n hvb, zup_s, hl]
  · rw [hl] at k1
    rw [h3 k k0 k1, gD_dt (by omega) (by omega)]
    congr 1
    omega
set_option maxHeartbeats 4000000 in
set_option maxRecDepth 100000 in
theorem mes_newString (l : Launch) (D : va_G) (cs : Nat → ClassId) (A : Nat → Prop) (F : zF) (a v : Nat) (t : List Int) (i : Int) (n : Nat)  (hs : oSt cs F a v t) (hi : 0 ≤ i ∧ i + n ≤ t.length) (hw : ¬ (i = 0 ∧ n = t.length)) : zM l D cs A yJ1_newString_b4f7a cJ1_newString_b4f7a 3 (some (FieldType.object "java/lang/String")) 14 2 (4 + n) [.ref v, .int (iI i), .int (iI (n : Int))] F (pR (fun r F1 => zle F F1 ∧ oStr cs F1 r ((t.drop i.toNat).take n))) := by
  refine zM_of (own := RJ1) (by decide) rfl (Nat.le_of_ble_eq_true rfl) ?_
  intro p e s m below meth c hC hr hlk hnm hZ ls hl
  have hx := hC.x
  have hb := hC.b
  have hl : lv_has ls 3 [(0, .ref v), (1, .int (iI i)), (2, .int (iI (n : Int)))] := hl
  have hlen := hs.2.1
  have hrg := hs.2.2
  refine lv_iload_n hx hb dJ1_newString_b4f7a_0 rfl (lv_at hl 2 rfl) ?_
  refine z_if_ne (tgt := 7) hx hb dJ1_newString_b4f7a_1 (by decide) (by omega) (fun c_1 => ?_) (fun c_1 => ?_)
  · skip
    refine z_new (T := TJ0) (N := 4) (ci := 0) hC hZ tyJ0 tyJ0_ok in_J0 rfl qk_J1_1 qx_J0 qn_J0 [.null, .int (iI 0), .int (iI 0), .int (iI 0)] df_J0 (Nat.le_of_ble_eq_true rfl) (by show _ ≤ (4 + n); omega) dJ1_newString_b4f7a_7 (fun q7 H hq7 hZ => ?_)
    have hf_2 : (zup F q7 (.inr (0, [.null, .int (iI 0), .int (iI 0), .int (iI 0)]))) q7 = some (.inr (0, [.null, .int (iI 0), .int (iI 0), .int (iI 0)])) := zup_s
    replace hZ : zS D A s (zup F q7 (.inr (0, [.null, .int (iI 0), .int (iI 0), .int (iI 0)]))) _ _ := hZ
    have hs2 := hs.upn (e := .inr (0, [.null, .int (iI 0), .int (iI 0), .int (iI 0)])) hq7.1
    refine lv_dup hx hb dJ1_newString_b4f7a_10 rfl ?_
    refine lv_aload_n hx hb dJ1_newString_b4f7a_11 rfl (lv_at hl 0 rfl) ?_
    refine lv_iload_n hx hb dJ1_newString_b4f7a_12 rfl (lv_at hl 1 rfl) ?_
    refine lv_iload_n hx hb dJ1_newString_b4f7a_13 rfl (lv_at hl 1 rfl) ?_
    refine lv_iload_n hx hb dJ1_newString_b4f7a_14 rfl (lv_at hl 2 rfl) ?_
    refine z_iadd hx hb dJ1_newString_b4f7a_15 ?_
    refine z_callr (z_runS (rest := [.ref q7, .ref q7]) (As := [.ref v, .int (iI i), .int (iI (i + (n : Int)))]) (n := 3) hC hZ (mes_cpr l D cs A (zup F q7 (.inr (0, [.null, .int (iI 0), .int (iI 0), .int (iI 0)]))) a v t i (i + (n : Int)) n hs2 (by omega) (by omega)) gs_J1_232 he_J7_copyOfRange_39247 rfl hl rfl (Nat.le_of_ble_eq_true rfl) ⟨Nat.le_of_ble_eq_true rfl, Nat.le_of_ble_eq_true rfl⟩ ⟨(by show _ ≤ 2; omega), (by show _ ≤ (4 + n); omega)⟩ dJ1_newString_b4f7a_16) hZ (fun r16 F16 H locs hp16_c_3 hZ => ?_)
    obtain ⟨hn16, hc_, rfl, hcv⟩ := hp16_c_3
    have hrr16 : (zup F q7 (.inr (0, [.null, .int (iI 0), .int (iI 0), .int (iI 0)]))) r16 = none ∧ True := ⟨hn16, trivial⟩
    have hf_4 : (zup (zup F q7 (.inr (0, [.null, .int (iI 0), .int (iI 0), .int (iI 0)]))) r16 (zA (cs 0) n hc_)) q7 = some (.inr (0, [.null, .int (iI 0), .int (iI 0), .int (iI 0)])) := zup_k (zF_ne hf_2 hrr16.1) hf_2
    have hf_5 : (zup (zup F q7 (.inr (0, [.null, .int (iI 0), .int (iI 0), .int (iI 0)]))) r16 (zA (cs 0) n hc_)) r16 = some (zA (cs 0) n hc_) := zup_s
    refine z_iconst hx hb dJ1_newString_b4f7a_19 ?_
    refine z_callv (z_runI (rest := [.ref q7]) (As := [.ref r16, .int (iI 0)]) (n := 2) hC hZ (mes_strInit2 l D cs A (zup (zup F q7 (.inr (0, [.null, .int (iI 0), .int (iI 0), .int (iI 0)]))) r16 (zA (cs 0) n hc_)) q7 r16 hf_4) qc_J0_init_031fb qn_J0 qm_J1_112 qi_J0_init_031fb rfl he_J0_init_031fb rfl hl rfl (Nat.le_of_ble_eq_true rfl) ⟨Nat.le_of_ble_eq_true rfl, Nat.le_of_ble_eq_true rfl⟩ ⟨(by show _ ≤ 2; omega), (by show _ ≤ (4 + n); omega)⟩ dJ1_newString_b4f7a_20) hZ (fun F20 H locs hp20_c_6 hZ => ?_)
    obtain rfl := hp20_c_6
    have hf_7 : (zup (zup (zup F q7 (.inr (0, [.null, .int (iI 0), .int (iI 0), .int (iI 0)]))) r16 (zA (cs 0) n hc_)) q7 (.inr (0, [.ref r16, .int (iI 0), .int (iI 0), .int (iI 0)]))) r16 = some (zA (cs 0) n hc_) := zup_k (zne hf_5 hf_4 (fun q => by cases q)) hf_5
    have hf_8 : (zup (zup (zup F q7 (.inr (0, [.null, .int (iI 0), .int (iI 0), .int (iI 0)]))) r16 (zA (cs 0) n hc_)) q7 (.inr (0, [.ref r16, .int (iI 0), .int (iI 0), .int (iI 0)]))) q7 = some (.inr (0, [.ref r16, .int (iI 0), .int (iI 0), .int (iI 0)])) := zup_s
    exact z_aret hC hr (Or.inl ⟨_, rfl⟩) hlk hZ (by omega) (by omega) ((st_new2 hq7.1 hn16 (by omega) hcv hlen hrg)) dJ1_newString_b4f7a_23
  · skip
    have hn0 : n = 0 := by omega
    refine z_ldcS1 hC (List.mem_of_getElem? (i := 10) rfl) dJ1_newString_b4f7a_4 ?_
    exact z_aret hC hr (Or.inl ⟨_, rfl⟩) hlk hZ (by omega) (by omega) (⟨zle.refl, by rw [sub_0 hn0]; exact ⟨_, zLw_st (j := 10) (by decide)⟩⟩) dJ1_newString_b4f7a_6

set_option maxHeartbeats 4000000 in
set_option maxRecDepth 100000 in
theorem mes_substring2 (l : Launch) (D : va_G) (cs : Nat → ClassId) (A : Nat → Prop) (F : zF) (a v : Nat) (t : List Int) (i j : Int) (n : Nat)  (hs : oSt cs F a v t) (hi : 0 ≤ i ∧ i + n = j ∧ j ≤ t.length) : zM l D cs A yJ0_substring_37a41 cJ0_substring_37a41 5 (some (FieldType.object "java/lang/String")) 16 2 (4 + n) [.ref a, .int (iI i), .int (iI j)] F (pR (fun r F1 => zle F F1 ∧ oStr cs F1 r ((t.drop i.toNat).take n))) := by
  refine zM_of (own := RJ0) (by decide) rfl (Nat.le_of_ble_eq_true rfl) ?_
  intro p e s m below meth c hC hr hlk hnm hZ ls hl
  have hx := hC.x
  have hb := hC.b
  have hl : lv_has ls 5 [(0, .ref a), (1, .int (iI i)), (2, .int (iI j))] := hl
  have hlen := hs.2.1
  have hrg := hs.2.2
  refine lv_aload_n hx hb dJ0_substring_37a41_0 rfl (lv_at hl 0 rfl) ?_
  refine z_calli (z_runSt (rest := []) (As := []) (n := 0) hC hZ (mes_length l D cs A F a v t hs) gv_J0_505 hd_J0_length_8abf5 hs rfl hl rfl (Nat.le_of_ble_eq_true rfl) ⟨Nat.le_of_ble_eq_true rfl, Nat.le_of_ble_eq_true rfl⟩ ⟨(by show _ ≤ 2; omega), (by show _ ≤ (4 + n); omega)⟩ dJ0_substring_37a41_1) hZ (fun r1 F1 H locs hp1_c_1 hZ => ?_)
  obtain ⟨rfl, rfl⟩ := hp1_c_1
  refine lv_istore_n (lv' := [(3, .int (iI (t.length : Int))), (0, .ref a), (1, .int (iI i)), (2, .int (iI j))]) hx hb dJ0_substring_37a41_4 rfl hl (by decide) rfl (fun ls hl => ?_)
  refine lv_iload_n hx hb dJ0_substring_37a41_5 rfl (lv_at hl 2 rfl) ?_
  refine lv_iload_n hx hb dJ0_substring_37a41_6 rfl (lv_at hl 3 rfl) ?_
  refine lv_iload_n hx hb dJ0_substring_37a41_7 rfl (lv_at hl 0 rfl) ?_
  refine z_callv (z_runS (rest := []) (As := [.int (iI i), .int (iI j), .int (iI (t.length : Int))]) (n := 3) hC hZ (mes_cbe l D cs A F i j (t.length : Int) (by omega) (by omega)) gs_J0_521 he_J0_checkBoundsBeginEnd_23922 rfl hl rfl (Nat.le_of_ble_eq_true rfl) ⟨Nat.le_of_ble_eq_true rfl, Nat.le_of_ble_eq_true rfl⟩ ⟨(by show _ ≤ 2; omega), (by show _ ≤ (4 + n); omega)⟩ dJ0_substring_37a41_8) hZ (fun F8 H locs hp8_c_2 hZ => ?_)
  obtain rfl := hp8_c_2
  refine lv_iload_n hx hb dJ0_substring_37a41_11 rfl (lv_at hl 2 rfl) ?_
  refine z_if_ne (tgt := 22) hx hb dJ0_substring_37a41_12 (by decide) (by omega) (fun c_3 => ?_) (fun c_3 => ?_)
  · skip
    refine lv_iload_n hx hb dJ0_substring_37a41_22 rfl (lv_at hl 3 rfl) ?_
    refine lv_iload_n hx hb dJ0_substring_37a41_23 rfl (lv_at hl 2 rfl) ?_
    refine z_isub hx hb dJ0_substring_37a41_24 ?_
    refine z_top (y := (n : Int)) (by omega) ?_
    refine lv_istore (lv' := [(4, .int (iI (n : Int))), (3, .int (iI (t.length : Int))), (0, .ref a), (1, .int (iI i)), (2, .int (iI j))]) hx hb dJ0_substring_37a41_25 hl (by decide) rfl (fun ls hl => ?_)
    refine lv_aload_n hx hb dJ0_substring_37a41_27 rfl (lv_at hl 2 rfl) ?_
    refine z_calli (z_runSt (rest := []) (As := []) (n := 0) hC hZ (mes_isLatin1 l D cs A F a v t hs) gv_J0_492 hd_J0_isLatin1_aae02 hs rfl hl rfl (Nat.le_of_ble_eq_true rfl) ⟨Nat.le_of_ble_eq_true rfl, Nat.le_of_ble_eq_true rfl⟩ ⟨(by show _ ≤ 2; omega), (by show _ ≤ (4 + n); omega)⟩ dJ0_substring_37a41_28) hZ (fun r28 F28 H locs hp28_c_4 hZ => ?_)
    obtain ⟨rfl, rfl⟩ := hp28_c_4
    refine z_if_eq (tgt := 47) hx hb dJ0_substring_37a41_31 (by decide) (by decide) (fun c_5 => ?_) (fun c_5 => ?_)
    · skip
      exfalso; omega
    · skip
      refine lv_aload_n hx hb dJ0_substring_37a41_34 rfl (lv_at hl 2 rfl) ?_
      refine z_sval hC hZ hs ql_J0_9 dJ0_substring_37a41_35 ?_
      refine lv_iload_n hx hb dJ0_substring_37a41_38 rfl (lv_at hl 3 rfl) ?_
      refine lv_iload hx hb dJ0_substring_37a41_39 (lv_at hl 0 rfl) ?_
      refine z_callr (z_runS (rest := []) (As := [.ref v, .int (iI i), .int (iI (n : Int))]) (n := 3) hC hZ (mes_newString l D cs A F a v t i n hs (by omega) (by omega)) gs_J0_685 he_J1_newString_b4f7a rfl hl rfl (Nat.le_of_ble_eq_true rfl) ⟨Nat.le_of_ble_eq_true rfl, Nat.le_of_ble_eq_true rfl⟩ ⟨(by show _ ≤ 2; omega), (by show _ ≤ (4 + n); omega)⟩ dJ0_substring_37a41_41) hZ (fun r41 F41 H locs hp41_c_6 hZ => ?_)
      refine lv_goto (tgt := 57) hx hb dJ0_substring_37a41_44 (by decide) ?_
      exact z_aret hC hr (Or.inl ⟨_, rfl⟩) hlk hZ (by omega) (by omega) (hp41_c_6) dJ0_substring_37a41_57
  · skip
    refine lv_iload_n hx hb dJ0_substring_37a41_15 rfl (lv_at hl 3 rfl) ?_
    refine lv_iload_n hx hb dJ0_substring_37a41_16 rfl (lv_at hl 0 rfl) ?_
    refine z_icmp_ne (tgt := 22) hx hb dJ0_substring_37a41_17 (by decide) (by omega) (by omega) (fun c_7 => ?_) (fun c_7 => ?_)
    · skip
      refine lv_iload_n hx hb dJ0_substring_37a41_22 rfl (lv_at hl 3 rfl) ?_
      refine lv_iload_n hx hb dJ0_substring_37a41_23 rfl (lv_at hl 2 rfl) ?_
      refine z_isub hx hb dJ0_substring_37a41_24 ?_
      refine z_top (y := (n : Int)) (by omega) ?_
      refine lv_istore (lv' := [(4, .int (iI (n : Int))), (3, .int (iI (t.length : Int))), (0, .ref a), (1, .int (iI i)), (2, .int (iI j))]) hx hb dJ0_substring_37a41_25 hl (by decide) rfl (fun ls hl => ?_)
      refine lv_aload_n hx hb dJ0_substring_37a41_27 rfl (lv_at hl 2 rfl) ?_
      refine z_calli (z_runSt (rest := []) (As := []) (n := 0) hC hZ (mes_isLatin1 l D cs A F a v t hs) gv_J0_492 hd_J0_isLatin1_aae02 hs rfl hl rfl (Nat.le_of_ble_eq_true rfl) ⟨Nat.le_of_ble_eq_true rfl, Nat.le_of_ble_eq_true rfl⟩ ⟨(by show _ ≤ 2; omega), (by show _ ≤ (4 + n); omega)⟩ dJ0_substring_37a41_28) hZ (fun r28 F28 H locs hp28_c_8 hZ => ?_)
      obtain ⟨rfl, rfl⟩ := hp28_c_8
      refine z_if_eq (tgt := 47) hx hb dJ0_substring_37a41_31 (by decide) (by decide) (fun c_9 => ?_) (fun c_9 => ?_)
      · skip
        exfalso; omega
      · skip
        refine lv_aload_n hx hb dJ0_substring_37a41_34 rfl (lv_at hl 2 rfl) ?_
        refine z_sval hC hZ hs ql_J0_9 dJ0_substring_37a41_35 ?_
        refine lv_iload_n hx hb dJ0_substring_37a41_38 rfl (lv_at hl 3 rfl) ?_
        refine lv_iload hx hb dJ0_substring_37a41_39 (lv_at hl 0 rfl) ?_
        refine z_callr (z_runS (rest := []) (As := [.ref v, .int (iI i), .int (iI (n : Int))]) (n := 3) hC hZ (mes_newString l D cs A F a v t i n hs (by omega) (by omega)) gs_J0_685 he_J1_newString_b4f7a rfl hl rfl (Nat.le_of_ble_eq_true rfl) ⟨Nat.le_of_ble_eq_true rfl, Nat.le_of_ble_eq_true rfl⟩ ⟨(by show _ ≤ 2; omega), (by show _ ≤ (4 + n); omega)⟩ dJ0_substring_37a41_41) hZ (fun r41 F41 H locs hp41_c_10 hZ => ?_)
        refine lv_goto (tgt := 57) hx hb dJ0_substring_37a41_44 (by decide) ?_
        exact z_aret hC hr (Or.inl ⟨_, rfl⟩) hlk hZ (by omega) (by omega) (hp41_c_10) dJ0_substring_37a41_57
    · skip
      refine lv_aload_n hx hb dJ0_substring_37a41_20 rfl (lv_at hl 1 rfl) ?_
      exact z_aret hC hr (Or.inl ⟨_, rfl⟩) hlk hZ (by omega) (by omega) (⟨zle.refl, by rw [sub_all (by omega) (by omega)]; exact ⟨v, hs⟩⟩) dJ0_substring_37a41_21

set_option maxHeartbeats 4000000 in
set_option maxRecDepth 100000 in
theorem mes_substring1 (l : Launch) (D : va_G) (cs : Nat → ClassId) (A : Nat → Prop) (F : zF) (a v : Nat) (t : List Int) (i : Int) (n : Nat)  (hs : oSt cs F a v t) (hi : 0 ≤ i ∧ i + n = t.length) : zM l D cs A yJ0_substring_b52d3 cJ0_substring_b52d3 2 (some (FieldType.object "java/lang/String")) 17 2 (4 + n) [.ref a, .int (iI i)] F (pR (fun r F1 => zle F F1 ∧ oStr cs F1 r ((t.drop i.toNat).take n))) := by
  refine zM_of (own := RJ0) (by decide) rfl (Nat.le_of_ble_eq_true rfl) ?_
  intro p e s m below meth c hC hr hlk hnm hZ ls hl
  have hx := hC.x
  have hb := hC.b
  have hl : lv_has ls 2 [(0, .ref a), (1, .int (iI i))] := hl
  have hlen := hs.2.1
  have hrg := hs.2.2
  refine lv_aload_n hx hb dJ0_substring_b52d3_0 rfl (lv_at hl 0 rfl) ?_
  refine lv_iload_n hx hb dJ0_substring_b52d3_1 rfl (lv_at hl 1 rfl) ?_
  refine lv_aload_n hx hb dJ0_substring_b52d3_2 rfl (lv_at hl 0 rfl) ?_
  refine z_calli (z_runSt (rest := [.int (iI i), .ref a]) (As := []) (n := 0) hC hZ (mes_length l D cs A F a v t hs) gv_J0_505 hd_J0_length_8abf5 hs rfl hl rfl (Nat.le_of_ble_eq_true rfl) ⟨Nat.le_of_ble_eq_true rfl, Nat.le_of_ble_eq_true rfl⟩ ⟨(by show _ ≤ 2; omega), (by show _ ≤ (4 + n); omega)⟩ dJ0_substring_b52d3_3) hZ (fun r3 F3 H locs hp3_c_1 hZ => ?_)
  obtain ⟨rfl, rfl⟩ := hp3_c_1
  refine z_callr (z_runSt (rest := []) (As := [.int (iI i), .int (iI (t.length : Int))]) (n := 2) hC hZ (mes_substring2 l D cs A F a v t i (t.length : Int) n hs (by omega)) gv_J0_681 hd_J0_substring_37a41 hs rfl hl rfl (Nat.le_of_ble_eq_true rfl) ⟨Nat.le_of_ble_eq_true rfl, Nat.le_of_ble_eq_true rfl⟩ ⟨(by show _ ≤ 2; omega), (by show _ ≤ (4 + n); omega)⟩ dJ0_substring_b52d3_6) hZ (fun r6 F6 H locs hp6_c_2 hZ => ?_)
  exact z_aret hC hr (Or.inl ⟨_, rfl⟩) hlk hZ (by omega) (by omega) (hp6_c_2) dJ0_substring_b52d3_9

set_option maxHeartbeats 4000000 in
set_option maxRecDepth 100000 in
theorem mes_canEncode (l : Launch) (D : va_G) (cs : Nat → ClassId) (A : Nat → Prop) (F : zF) (x : Int)  (hx0 : 0 ≤ x ∧ x ≤ 127) : zM l D cs A yJ1_canEncode_9a6ad cJ1_canEncode_9a6ad 1 (some FieldType.boolean) 1 0 0 [.int (iI x)] F (pI (fun r F1 => F = F1 ∧ 1 = r)) := by
  refine zM_of (own := RJ1) (by decide) rfl (Nat.le_of_ble_eq_true rfl) ?_
  intro p e s m below meth c hC hr hlk hnm hZ ls hl
  have hx := hC.x
  have hb := hC.b
  have hl : lv_has ls 1 [(0, .int (iI x))] := hl
  refine lv_iload_n hx hb dJ1_canEncode_9a6ad_0 rfl (lv_at hl 0 rfl) ?_
  refine z_if_lt (tgt := 15) hx hb dJ1_canEncode_9a6ad_1 (by decide) (by omega) (fun c_1 => ?_) (fun c_1 => ?_)
  · skip
    exfalso; omega
  · skip
    refine lv_iload_n hx hb dJ1_canEncode_9a6ad_4 rfl (lv_at hl 0 rfl) ?_
    refine z_sipush hx hb dJ1_canEncode_9a6ad_5 (by decide) ?_
    refine z_icmp_gt (tgt := 15) hx hb dJ1_canEncode_9a6ad_8 (by decide) (by omega) (by decide) (fun c_2 => ?_) (fun c_2 => ?_)
    · skip
      exfalso; omega
    · skip
      refine z_iconst hx hb dJ1_canEncode_9a6ad_11 ?_
      refine lv_goto (tgt := 16) hx hb dJ1_canEncode_9a6ad_12 (by decide) ?_
      exact z_zret hC hr hlk hZ rfl (by decide) (by decide) (⟨rfl, rfl⟩) dJ1_canEncode_9a6ad_16

set_option maxHeartbeats 4000000 in
set_option maxRecDepth 100000 in
theorem mes_indexOfChar (l : Launch) (D : va_G) (cs : Nat → ClassId) (A : Nat → Prop) (F : zF) (a v : Nat) (t : List Int) (c_ : Int)  (hs : oSt cs F a v t) (hc0 : 0 ≤ c_ ∧ c_ ≤ 127) : zM l D cs A yJ1_indexOfChar_4cfef cJ1_indexOfChar_4cfef 6 (some FieldType.int) 1 0 0 [.ref v, .int (iI c_), .int (iI 0), .int (iI (t.length : Int))] F (pI (fun r F1 => F = F1 ∧ zidx t c_ = r)) := by
  refine zM_of (own := RJ1) (by decide) rfl (Nat.le_of_ble_eq_true rfl) ?_
  intro p e s m below meth c hC hr hlk hnm hZ ls hl
  have hx := hC.x
  have hb := hC.b
  have hl : lv_has ls 6 [(0, .ref v), (1, .int (iI c_)), (2, .int (iI 0)), (3, .int (iI (t.length : Int)))] := hl
  have hlen := hs.2.1
  have hrg := hs.2.2
  refine lv_iload_n hx hb dJ1_indexOfChar_4cfef_0 rfl (lv_at hl 1 rfl) ?_
  refine lv_i2b hx hb dJ1_indexOfChar_4cfef_1 (iI_narB (by omega)) ?_
  refine lv_istore (lv' := [(4, .int (iI c_)), (0, .ref v), (1, .int (iI c_)), (2, .int (iI 0)), (3, .int (iI (t.length : Int)))]) hx hb dJ1_indexOfChar_4cfef_2 hl (by decide) rfl (fun ls hl => ?_)
  refine lv_iload_n hx hb dJ1_indexOfChar_4cfef_4 rfl (lv_at hl 3 rfl) ?_
  refine lv_istore (lv' := [(5, .int (iI 0)), (4, .int (iI c_)), (0, .ref v), (1, .int (iI c_)), (2, .int (iI 0)), (3, .int (iI (t.length : Int)))]) hx hb dJ1_indexOfChar_4cfef_5 hl (by decide) rfl (fun ls hl => ?_)
  have L7_k_1 : ∀ (fu : Nat) (k_ : Int)  (hfu : ((t.length : Int) - k_).toNat < fu) (hi7_0 : 0 ≤ k_ ∧ k_ ≤ t.length) (hi7_1 : zidx t c_ = zixo c_ (t.drop k_.toNat) k_) (H : Heap) (locs : List Loc) (hZ : zS D A s F H locs) (ls : Array Slot) (hl : lv_has ls 6 [(5, .int (iI k_)), (4, .int (iI c_)), (0, .ref v), (1, .int (iI c_)), (2, .int (iI 0)), (3, .int (iI (t.length : Int)))]), W p l e (zR 1 0 0) s m [.ref v, .int (iI c_), .int (iI 0), .int (iI (t.length : Int))].toArray below meth c H locs 0 0 (MQ below (zQ D A (pI (fun r F1 => F = F1 ∧ zidx t c_ = r))) [.ref v, .int (iI c_), .int (iI 0), .int (iI (t.length : Int))].toArray s 0 0 A) (F0 m 7 ls []) := by
    intro fu
    induction fu with
    | zero =>
      intro k_  hfu
      exact absurd hfu (Nat.not_lt_zero _)
    | succ fu ih7 =>
      intro k_  hfu hi7_0 hi7_1  H locs hZ ls hl
      refine lv_iload hx hb dJ1_indexOfChar_4cfef_7 (lv_at hl 0 rfl) ?_
      refine lv_iload_n hx hb dJ1_indexOfChar_4cfef_9 rfl (lv_at hl 5 rfl) ?_
      refine z_icmp_ge (tgt := 31) hx hb dJ1_indexOfChar_4cfef_10 (by decide) (by omega) (by omega) (fun c_2 => ?_) (fun c_2 => ?_)
      · skip
        refine z_iconst hx hb dJ1_indexOfChar_4cfef_31 ?_
        exact z_iret hC hr hlk hZ (by decide) (by decide) (⟨rfl, by rw [hi7_1, zixo_e (by omega)]⟩) dJ1_indexOfChar_4cfef_32
      · skip
        refine lv_aload_n hx hb dJ1_indexOfChar_4cfef_13 rfl (lv_at hl 2 rfl) ?_
        refine lv_iload hx hb dJ1_indexOfChar_4cfef_14 (lv_at hl 0 rfl) ?_
        refine z_sbal hC hZ hs (by omega) dJ1_indexOfChar_4cfef_16 ?_
        have hgr := gD_rng hrg k_.toNat
        refine lv_iload hx hb dJ1_indexOfChar_4cfef_17 (lv_at hl 1 rfl) ?_
        refine z_icmp_ne (tgt := 25) hx hb dJ1_indexOfChar_4cfef_19 (by decide) (by omega) (by omega) (fun c_3 => ?_) (fun c_3 => ?_)
        · skip
          refine z_iinc (lv' := [(5, .int (iI (k_ + 1))), (4, .int (iI c_)), (0, .ref v), (1, .int (iI c_)), (2, .int (iI 0)), (3, .int (iI (t.length : Int)))]) hx hb dJ1_indexOfChar_4cfef_25 hl (k := 0) rfl (by decide) rfl (fun ls hl => ?_)
          refine lv_goto (tgt := 7) hx hb dJ1_indexOfChar_4cfef_28 (by decide) ?_
          exact ih7 (k_ + 1)  (by omega) (by omega) (by rw [hi7_1, zixo_d (by omega) (by omega), if_neg (by omega)])  _ _ hZ ls (lv_sub hl [0, 1, 2, 3, 4, 5] rfl)
        · skip
          refine lv_iload hx hb dJ1_indexOfChar_4cfef_22 (lv_at hl 0 rfl) ?_
          exact z_iret hC hr hlk hZ (by decide) (by decide) (⟨rfl, by rw [hi7_1, zixo_d (by omega) (by omega), if_pos (by omega)]⟩) dJ1_indexOfChar_4cfef_24
  exact L7_k_1 _ 0  (Nat.lt_succ_self _) ⟨by decide, by omega⟩ rfl  _ _ hZ ls (lv_sub hl [0, 1, 2, 3, 4, 5] rfl)

set_option maxHeartbeats 4000000 in
set_option maxRecDepth 100000 in
theorem mes_J1indexOf (l : Launch) (D : va_G) (cs : Nat → ClassId) (A : Nat → Prop) (F : zF) (a v : Nat) (t : List Int) (c_ : Int)  (hs : oSt cs F a v t) (hc0 : 0 ≤ c_ ∧ c_ ≤ 127) : zM l D cs A yJ1_indexOf_4cfef cJ1_indexOf_4cfef 4 (some FieldType.int) 2 0 0 [.ref v, .int (iI c_), .int (iI 0), .int (iI (t.length : Int))] F (pI (fun r F1 => F = F1 ∧ zidx t c_ = r)) := by
  refine zM_of (own := RJ1) (by decide) rfl (Nat.le_of_ble_eq_true rfl) ?_
  intro p e s m below meth c hC hr hlk hnm hZ ls hl
  have hx := hC.x
  have hb := hC.b
  have hl : lv_has ls 4 [(0, .ref v), (1, .int (iI c_)), (2, .int (iI 0)), (3, .int (iI (t.length : Int)))] := hl
  have hlen := hs.2.1
  have hrg := hs.2.2
  have hzr := zixo_rng c_ t 0 (by decide)
  have hzr2 : zidx t c_ = zixo c_ t 0 := rfl
  refine lv_iload_n hx hb dJ1_indexOf_4cfef_0 rfl (lv_at hl 1 rfl) ?_
  refine z_calli (z_runS (rest := []) (As := [.int (iI c_)]) (n := 1) hC hZ (mes_canEncode l D cs A F c_ (by omega)) gs_J1_88 he_J1_canEncode_9a6ad rfl hl rfl (Nat.le_of_ble_eq_true rfl) ⟨Nat.le_of_ble_eq_true rfl, Nat.le_of_ble_eq_true rfl⟩ ⟨Nat.le_of_ble_eq_true rfl, Nat.le_of_ble_eq_true rfl⟩ dJ1_indexOf_4cfef_1) hZ (fun r1 F1 H locs hp1_c_1 hZ => ?_)
  obtain ⟨rfl, rfl⟩ := hp1_c_1
  refine z_if_ne (tgt := 9) hx hb dJ1_indexOf_4cfef_4 (by decide) (by decide) (fun c_2 => ?_) (fun c_2 => ?_)
  · skip
    refine lv_iload_n hx hb dJ1_indexOf_4cfef_9 rfl (lv_at hl 2 rfl) ?_
    refine z_iconst hx hb dJ1_indexOf_4cfef_10 ?_
    refine z_mmax (rest := []) hC hl qm_J1_92 (by decide) (by decide) ⟨Nat.le_of_ble_eq_true rfl, Nat.le_of_ble_eq_true rfl⟩ ⟨Nat.le_of_ble_eq_true rfl, Nat.le_of_ble_eq_true rfl⟩ dJ1_indexOf_4cfef_11 (fun r11 hmx11 => ?_)
    refine z_top (y := 0) (by omega) ?_
    refine lv_istore_n (lv' := [(2, .int (iI 0)), (0, .ref v), (1, .int (iI c_)), (3, .int (iI (t.length : Int)))]) hx hb dJ1_indexOf_4cfef_14 rfl hl (by decide) rfl (fun ls hl => ?_)
    refine lv_iload_n hx hb dJ1_indexOf_4cfef_15 rfl (lv_at hl 3 rfl) ?_
    refine lv_aload_n hx hb dJ1_indexOf_4cfef_16 rfl (lv_at hl 1 rfl) ?_
    refine z_slen hC hZ hs dJ1_indexOf_4cfef_17 ?_
    refine z_mmin (rest := []) hC hl qm_J1_38 (by omega) (by omega) ⟨Nat.le_of_ble_eq_true rfl, Nat.le_of_ble_eq_true rfl⟩ ⟨Nat.le_of_ble_eq_true rfl, Nat.le_of_ble_eq_true rfl⟩ dJ1_indexOf_4cfef_18 (fun r18 hmx18 => ?_)
    refine z_top (y := (t.length : Int)) (by omega) ?_
    refine lv_istore_n (lv' := [(3, .int (iI (t.length : Int))), (2, .int (iI 0)), (0, .ref v), (1, .int (iI c_))]) hx hb dJ1_indexOf_4cfef_21 rfl hl (by decide) rfl (fun ls hl => ?_)
    refine lv_iload_n hx hb dJ1_indexOf_4cfef_22 rfl (lv_at hl 1 rfl) ?_
    refine lv_iload_n hx hb dJ1_indexOf_4cfef_23 rfl (lv_at hl 0 rfl) ?_
    refine z_icmp_lt (tgt := 29) hx hb dJ1_indexOf_4cfef_24 (by decide) (by decide) (by omega) (fun c_3 => ?_) (fun c_3 => ?_)
    · skip
      refine lv_aload_n hx hb dJ1_indexOf_4cfef_29 rfl (lv_at hl 2 rfl) ?_
      refine lv_iload_n hx hb dJ1_indexOf_4cfef_30 rfl (lv_at hl 3 rfl) ?_
      refine lv_iload_n hx hb dJ1_indexOf_4cfef_31 rfl (lv_at hl 1 rfl) ?_
      refine lv_iload_n hx hb dJ1_indexOf_4cfef_32 rfl (lv_at hl 0 rfl) ?_
      refine z_calli (z_runS (rest := []) (As := [.ref v, .int (iI c_), .int (iI 0), .int (iI (t.length : Int))]) (n := 4) hC hZ (mes_indexOfChar l D cs A F a v t c_ hs hc0) gs_J1_95 he_J1_indexOfChar_4cfef rfl hl rfl (Nat.le_of_ble_eq_true rfl) ⟨Nat.le_of_ble_eq_true rfl, Nat.le_of_ble_eq_true rfl⟩ ⟨Nat.le_of_ble_eq_true rfl, Nat.le_of_ble_eq_true rfl⟩ dJ1_indexOf_4cfef_33) hZ (fun r33 F33 H locs hp33_c_4 hZ => ?_)
      obtain ⟨rfl, rfl⟩ := hp33_c_4
      exact z_iret hC hr hlk hZ (by decide) (by decide) (⟨rfl, rfl⟩) dJ1_indexOf_4cfef_36
    · skip
      refine z_iconst hx hb dJ1_indexOf_4cfef_27 ?_
      exact z_iret hC hr hlk hZ (by decide) (by decide) (⟨rfl, zixo_e (t := t) (c := c_) (i := 0) (by omega)⟩) dJ1_indexOf_4cfef_28
  · skip
    exfalso; omega

set_option maxHeartbeats 4000000 in
set_option maxRecDepth 100000 in
theorem mes_indexOf2 (l : Launch) (D : va_G) (cs : Nat → ClassId) (A : Nat → Prop) (F : zF) (a v : Nat) (t : List Int) (c_ : Int)  (hs : oSt cs F a v t) (hc0 : 0 ≤ c_ ∧ c_ ≤ 127) : zM l D cs A yJ0_indexOf_7cf53 cJ0_indexOf_7cf53 3 (some FieldType.int) 6 0 0 [.ref a, .int (iI c_), .int (iI 0)] F (pI (fun r F1 => F = F1 ∧ zidx t c_ = r)) := by
  refine zM_of (own := RJ0) (by decide) rfl (Nat.le_of_ble_eq_true rfl) ?_
  intro p e s m below meth c hC hr hlk hnm hZ ls hl
  have hx := hC.x
  have hb := hC.b
  have hl : lv_has ls 3 [(0, .ref a), (1, .int (iI c_)), (2, .int (iI 0))] := hl
  have hlen := hs.2.1
  have hrg := hs.2.2
  have hzr := zixo_rng c_ t 0 (by decide)
  have hzr2 : zidx t c_ = zixo c_ t 0 := rfl
  refine lv_aload_n hx hb dJ0_indexOf_7cf53_0 rfl (lv_at hl 0 rfl) ?_
  refine z_calli (z_runSt (rest := []) (As := []) (n := 0) hC hZ (mes_isLatin1 l D cs A F a v t hs) gv_J0_492 hd_J0_isLatin1_aae02 hs rfl hl rfl (Nat.le_of_ble_eq_true rfl) ⟨Nat.le_of_ble_eq_true rfl, Nat.le_of_ble_eq_true rfl⟩ ⟨Nat.le_of_ble_eq_true rfl, Nat.le_of_ble_eq_true rfl⟩ dJ0_indexOf_7cf53_1) hZ (fun r1 F1 H locs hp1_c_1 hZ => ?_)
  obtain ⟨rfl, rfl⟩ := hp1_c_1
  refine z_if_eq (tgt := 23) hx hb dJ0_indexOf_7cf53_4 (by decide) (by decide) (fun c_2 => ?_) (fun c_2 => ?_)
  · skip
    exfalso; omega
  · skip
    refine lv_aload_n hx hb dJ0_indexOf_7cf53_7 rfl (lv_at hl 0 rfl) ?_
    refine z_sval hC hZ hs ql_J0_9 dJ0_indexOf_7cf53_8 ?_
    refine lv_iload_n hx hb dJ0_indexOf_7cf53_11 rfl (lv_at hl 1 rfl) ?_
    refine lv_iload_n hx hb dJ0_indexOf_7cf53_12 rfl (lv_at hl 2 rfl) ?_
    refine lv_aload_n hx hb dJ0_indexOf_7cf53_13 rfl (lv_at hl 0 rfl) ?_
    refine z_calli (z_runSt (rest := [.int (iI 0), .int (iI c_), .ref v]) (As := []) (n := 0) hC hZ (mes_length l D cs A F a v t hs) gv_J0_505 hd_J0_length_8abf5 hs rfl hl rfl (Nat.le_of_ble_eq_true rfl) ⟨Nat.le_of_ble_eq_true rfl, Nat.le_of_ble_eq_true rfl⟩ ⟨Nat.le_of_ble_eq_true rfl, Nat.le_of_ble_eq_true rfl⟩ dJ0_indexOf_7cf53_14) hZ (fun r14 F14 H locs hp14_c_3 hZ => ?_)
    obtain ⟨rfl, rfl⟩ := hp14_c_3
    refine z_calli (z_runS (rest := []) (As := [.ref v, .int (iI c_), .int (iI 0), .int (iI (t.length : Int))]) (n := 4) hC hZ (mes_J1indexOf l D cs A F a v t c_ hs hc0) gs_J0_637 he_J1_indexOf_4cfef rfl hl rfl (Nat.le_of_ble_eq_true rfl) ⟨Nat.le_of_ble_eq_true rfl, Nat.le_of_ble_eq_true rfl⟩ ⟨Nat.le_of_ble_eq_true rfl, Nat.le_of_ble_eq_true rfl⟩ dJ0_indexOf_7cf53_17) hZ (fun r17 F17 H locs hp17_c_4 hZ => ?_)
    obtain ⟨rfl, rfl⟩ := hp17_c_4
    refine lv_goto (tgt := 36) hx hb dJ0_indexOf_7cf53_20 (by decide) ?_
    exact z_iret hC hr hlk hZ (by decide) (by decide) (⟨rfl, rfl⟩) dJ0_indexOf_7cf53_36

set_option maxHeartbeats 4000000 in
set_option maxRecDepth 100000 in
theorem mes_indexOf (l : Launch) (D : va_G) (cs : Nat → ClassId) (A : Nat → Prop) (F : zF) (a v : Nat) (t : List Int) (c_ : Int)  (hs : oSt cs F a v t) (hc0 : 0 ≤ c_ ∧ c_ ≤ 127) : zM l D cs A yJ0_indexOf_0f7a4 cJ0_indexOf_0f7a4 2 (some FieldType.int) 7 0 0 [.ref a, .int (iI c_)] F (pI (fun r F1 => F = F1 ∧ zidx t c_ = r)) := by
  refine zM_of (own := RJ0) (by decide) rfl (Nat.le_of_ble_eq_true rfl) ?_
  intro p e s m below meth c hC hr hlk hnm hZ ls hl
  have hx := hC.x
  have hb := hC.b
  have hl : lv_has ls 2 [(0, .ref a), (1, .int (iI c_))] := hl
  have hlen := hs.2.1
  have hrg := hs.2.2
  have hzr := zixo_rng c_ t 0 (by decide)
  have hzr2 : zidx t c_ = zixo c_ t 0 := rfl
  refine lv_aload_n hx hb dJ0_indexOf_0f7a4_0 rfl (lv_at hl 0 rfl) ?_
  refine lv_iload_n hx hb dJ0_indexOf_0f7a4_1 rfl (lv_at hl 1 rfl) ?_
  refine z_iconst hx hb dJ0_indexOf_0f7a4_2 ?_
  refine z_calli (z_runSt (rest := []) (As := [.int (iI c_), .int (iI 0)]) (n := 2) hC hZ (mes_indexOf2 l D cs A F a v t c_ hs hc0) gv_J0_633 hd_J0_indexOf_7cf53 hs rfl hl rfl (Nat.le_of_ble_eq_true rfl) ⟨Nat.le_of_ble_eq_true rfl, Nat.le_of_ble_eq_true rfl⟩ ⟨Nat.le_of_ble_eq_true rfl, Nat.le_of_ble_eq_true rfl⟩ dJ0_indexOf_0f7a4_3) hZ (fun r3 F3 H locs hp3_c_1 hZ => ?_)
  obtain ⟨rfl, rfl⟩ := hp3_c_1
  exact z_iret hC hr hlk hZ (by decide) (by decide) (⟨rfl, rfl⟩) dJ0_indexOf_0f7a4_6

