theorem drop_nil {x : zAr} {k : Int} (h0 : 0 ≤ k) : (zlens x).drop (k + 1).toNat = [] ↔ (x.2.2.length : Int) ≤ k + 1 := by
  rw [List.drop_eq_nil_iff, zlens_l]
  omega
theorem oWd.keepI {cs : Nat → ClassId} {F F1 : zF} {q la : Nat} {w : zWd} {e : Int → Int} (h : oWd cs F q w) (hk : zko [la] F F1) (h1 : F la = some (zA (cs 2) 31 e)) : oWd cs F1 q w := by
  obtain ⟨a1, a2, f, g, w1, w2, w3, w4, w5, w6⟩ := h
  have hl := w6.1
  exact ⟨a1, a2, f, g, hk _ _ w1 (zni1 (zne w1 h1 (fun z => by cases z)) zni0), hk _ _ w2 (zni1 (zneL w2 h1 (by omega)) zni0), hk _ _ w3 (zni1 (zneL w3 h1 (by omega)) zni0), w4, w5, w6⟩
theorem oAr.keepI {cs : Nat → ClassId} {F F1 : zF} {q la : Nat} {x : zAr} {e : Int → Int} (h : oAr cs F q x) (hk : zko [la] F F1) (h1 : F la = some (zA (cs 2) 31 e)) : oAr cs F1 q x := by
  obtain ⟨wa, y0, ⟨h_, y1, y2⟩, hxo⟩ := h
  exact ⟨wa, hk _ _ y0 (zni1 (zne y0 h1 (fun z => by cases z)) zni0), ⟨h_, hk _ _ y1 (zni1 (zneR y1 h1) zni0), fun k k0 k1 => by
    obtain ⟨q, e1, o1⟩ := y2 k k0 k1
    exact ⟨q, e1, o1.keepI hk h1⟩⟩, hxo⟩
theorem zlb_r {w : Int} (hw : w ≤ 20) {x : zAr} (hf : zfit w (zlens x)) (h30 : x.2.2.length ≤ 30) (k : Nat) : 0 ≤ zlb w ((zlens x).drop k) ∧ zlb w ((zlens x).drop k) ≤ 12000 := by
  refine ⟨(zlb_nn w _).1, Int.le_trans (zlb_bd hw _ (zfit_d hf k)) ?_⟩
  rw [List.length_drop, zlens_l]
  omega
set_option maxHeartbeats 4000000 in
set_option maxRecDepth 100000 in
theorem met_X5_square (l : Launch) (D : va_G) (cs : Nat → ClassId) (A : Nat → Prop) (F : zF) (x : Int)  (hx0 : -20 ≤ x ∧ x ≤ 20) : zM l D cs A yX5_square cX5_square 1 (some FieldType.int) 1 0 0 [.int (iI x)] F (pI (fun r F1 => F = F1 ∧ x * x = r)) := by
  refine zM_of (own := RX5) (by decide) rfl (Nat.le_of_ble_eq_true rfl) ?_
  intro p e s m below meth c hC hr hlk hnm hZ ls hl
  have hx := hC.x
  have hb := hC.b
  have hl : lv_has ls 1 [(0, .int (iI x))] := hl
  refine lv_iload_n hx hb dX5_square_0 rfl (lv_at hl 0 rfl) ?_
  refine lv_iload_n hx hb dX5_square_1 rfl (lv_at hl 0 rfl) ?_
  refine z_imul hx hb dX5_square_2 ?_
  exact z_iret hC hr hlk hZ (by decide) (by decide) (⟨rfl, rfl⟩) dX5_square_3

set_option maxHeartbeats 4000000 in
set_option maxRecDepth 100000 in
theorem met_X5_init (l : Launch) (D : va_G) (cs : Nat → ClassId) (A : Nat → Prop) (F : zF) (a : Nat)  (h0 : F a = some (.inr (9, [.null]))) : zM l D cs A yX5_init cX5_init 1 (none : Option Jvm.ClassFile.FieldType) 1 1 31 [.ref a] F (pV (fun F1 => ∃ la : Nat, F la = none ∧ zko [a] F F1 ∧ F1 a = some (.inr (9, [.ref la])) ∧ F1 la = some (zA (cs 2) 31 (fun _ => 0)))) := by
  refine zM_of (own := RX5) (by decide) rfl (Nat.le_of_ble_eq_true rfl) ?_
  intro p e s m below meth c hC hr hlk hnm hZ ls hl
  have hx := hC.x
  have hb := hC.b
  have hl : lv_has ls 1 [(0, .ref a)] := hl
  refine lv_aload_n hx hb dX5_init_0 rfl (lv_at hl 0 rfl) ?_
  refine z_oinit (rest := []) hC hl qm_X5_3 ⟨Nat.le_of_ble_eq_true rfl, Nat.le_of_ble_eq_true rfl⟩ dX5_init_1 ?_
  refine lv_aload_n hx hb dX5_init_4 rfl (lv_at hl 0 rfl) ?_
  refine z_bipush hx hb dX5_init_5 (by decide) ?_
  refine z_newp (atype := .int) (ty := .int) (n := 31) 2 (hC := hC) (hZ := hZ) q_128 rfl rfl (fun h => va_nm_int h) rfl (by decide) (by decide) (Nat.le_of_ble_eq_true rfl) (Nat.le_of_ble_eq_true rfl) dX5_init_7 (fun q7 H hq7 hZ => ?_)
  have hf_1 : (zup F q7 (zA (cs 2) 31 (fun _ => 0))) a = some (.inr (9, [.null])) := zup_k (zF_ne h0 hq7.1) h0
  have hf_2 : (zup F q7 (zA (cs 2) 31 (fun _ => 0))) q7 = some (zA (cs 2) 31 (fun _ => 0)) := zup_s
  replace hZ : zS D A s (zup F q7 (zA (cs 2) 31 (fun _ => 0))) _ _ := hZ
  refine z_put (T := TX5) (N := 1) (ci := 9) (k := 0) (fs := [.null]) (v := .ref q7) hC hZ tyX5 tyX5_ok nmX5 in_X5 rfl (by decide) ql_X5_9 rfl (Or.inr ⟨rfl, hnm, rfl⟩) rfl hf_1 (by show 0 < 1; decide) rfl rfl dX5_init_9 (fun H locs hZ => ?_)
  have hf_3 : (zup (zup F q7 (zA (cs 2) 31 (fun _ => 0))) a (.inr (9, [.ref q7]))) q7 = some (zA (cs 2) 31 (fun _ => 0)) := zup_k (zne hf_2 hf_1 (fun q => by cases q)) hf_2
  have hf_4 : (zup (zup F q7 (zA (cs 2) 31 (fun _ => 0))) a (.inr (9, [.ref q7]))) a = some (.inr (9, [.ref q7])) := zup_s
  replace hZ : zS D A s (zup (zup F q7 (zA (cs 2) 31 (fun _ => 0))) a (.inr (9, [.ref q7]))) _ _ := hZ
  exact z_vret hC hr hlk hZ (by decide) (by decide) (⟨q7, hq7.1, (((zko.refl).new hq7.1).up (by simp)), hf_4, hf_3⟩) dX5_init_12

set_option maxHeartbeats 4000000 in
set_option maxRecDepth 100000 in
theorem met_X5_leastBehind (l : Launch) (D : va_G) (cs : Nat → ClassId) (A : Nat → Prop) (F : zF) (a la b : Nat) (x : zAr) (wd : Int) (e_ : Int → Int) (i : Int)  (h0 : F a = some (.inr (9, [.ref la]))) (h1 : F la = some (zA (cs 2) 31 e_)) (hx1 : oAr cs F b x) (hwd : 4 ≤ wd ∧ wd ≤ 20) (hft : zfit wd (zlens x)) (hi0 : 0 ≤ i ∧ i < x.2.2.length) (he : ∀ j : Int, i < j → j ≤ x.2.2.length → e_ j = zlb wd ((zlens x).drop j.toNat)) : zM l D cs A yX5_leastBehind cX5_leastBehind 9 (some FieldType.int) 2 0 0 [.ref a, .ref b, .int (iI wd), .int (iI i)] F (pI (fun r F1 => F = F1 ∧ zlb wd ((zlens x).drop i.toNat) = r)) := by
  refine zM_of (own := RX5) (by decide) rfl (Nat.le_of_ble_eq_true rfl) ?_
  intro p e s m below meth c hC hr hlk hnm hZ ls hl
  have hx := hC.x
  have hb := hC.b
  have hl : lv_has ls 9 [(0, .ref a), (1, .ref b), (2, .int (iI wd)), (3, .int (iI i))] := hl
  obtain ⟨wa, y0, hws0, hxo⟩ := id hx1
  obtain ⟨h_, y1, y2⟩ := id hws0
  have hx6 := hxo.2.2.1
  refine lv_aload_n hx hb dX5_leastBehind_0 rfl (lv_at hl 1 rfl) ?_
  refine z_getN (T := TX1) (N := 3) (ci := 5) (k := 2) (fs := [.int (iI x.1), .int (iI x.2.1), .ref wa]) (v := .ref wa) hC hZ in_X1 rfl (by decide) ql_X5_15 rfl y0 rfl dX5_leastBehind_1 ?_
  refine z_alen (t := 4) hC hZ y1 rfl dX5_leastBehind_4 ?_
  refine z_bipush hx hb dX5_leastBehind_5 (by decide) ?_
  refine z_mmin (rest := []) hC hl qm_X5_21 (by omega) (by decide) ⟨Nat.le_of_ble_eq_true rfl, Nat.le_of_ble_eq_true rfl⟩ ⟨Nat.le_of_ble_eq_true rfl, Nat.le_of_ble_eq_true rfl⟩ dX5_leastBehind_7 (fun r7 hmx7 => ?_)
  refine z_top (y := (x.2.2.length : Int)) (by omega) ?_
  refine lv_istore (lv' := [(4, .int (iI (x.2.2.length : Int))), (0, .ref a), (1, .ref b), (2, .int (iI wd)), (3, .int (iI i))]) hx hb dX5_leastBehind_10 hl (by decide) rfl (fun ls hl => ?_)
  refine z_ldc (z := 1000000) hC q_389 (by decide) dX5_leastBehind_12 ?_
  refine lv_istore (lv' := [(5, .int (iI 1000000)), (4, .int (iI (x.2.2.length : Int))), (0, .ref a), (1, .ref b), (2, .int (iI wd)), (3, .int (iI i))]) hx hb dX5_leastBehind_14 hl (by decide) rfl (fun ls hl => ?_)
  refine z_iconst hx hb dX5_leastBehind_16 ?_
  refine lv_istore (lv' := [(6, .int (iI (-1))), (5, .int (iI 1000000)), (4, .int (iI (x.2.2.length : Int))), (0, .ref a), (1, .ref b), (2, .int (iI wd)), (3, .int (iI i))]) hx hb dX5_leastBehind_17 hl (by decide) rfl (fun ls hl => ?_)
  have hwi : x.2.2[i.toNat]? = some (x.2.2.getD i.toNat []) := by rw [List.getD_eq_getElem?_getD, List.getElem?_eq_getElem (by omega)]; rfl
  have hst : zsc wd (-1) 1000000 ((zlens x).drop i.toNat) = zlb wd ((zlens x).drop i.toNat) := by rw [zlens_d hwi, zlb_cons]
  refine lv_iload_n hx hb dX5_leastBehind_19 rfl (lv_at hl 6 rfl) ?_
  refine lv_istore (lv' := [(7, .int (iI i)), (6, .int (iI (-1))), (5, .int (iI 1000000)), (4, .int (iI (x.2.2.length : Int))), (0, .ref a), (1, .ref b), (2, .int (iI wd)), (3, .int (iI i))]) hx hb dX5_leastBehind_20 hl (by decide) rfl (fun ls hl => ?_)
  have L22_k_1 : ∀ (fu : Nat) (bs ln k : Int)  (hfu : ((x.2.2.length : Int) - k).toNat < fu) (hi22_0 : i ≤ k ∧ k ≤ (x.2.2.length : Int)) (hi22_1 : -1 ≤ ln ∧ ln ≤ wd) (hi22_2 : 0 ≤ bs ∧ bs ≤ 1000000) (hi22_3 : zsc wd ln bs ((zlens x).drop k.toNat) = zlb wd ((zlens x).drop i.toNat)) (H : Heap) (locs : List Loc) (hZ : zS D A s F H locs) (ls : Array Slot) (hl : lv_has ls 9 [(7, .int (iI k)), (6, .int (iI ln)), (5, .int (iI bs)), (4, .int (iI (x.2.2.length : Int))), (0, .ref a), (1, .ref b), (2, .int (iI wd)), (3, .int (iI i))]), W p l e (zR 2 0 0) s m [.ref a, .ref b, .int (iI wd), .int (iI i)].toArray below meth c H locs 0 0 (MQ below (zQ D A (pI (fun r F1 => F = F1 ∧ zlb wd ((zlens x).drop i.toNat) = r))) [.ref a, .ref b, .int (iI wd), .int (iI i)].toArray s 0 0 A) (F0 m 22 ls []) := by
    intro fu
    induction fu with
    | zero =>
      intro bs ln k  hfu
      exact absurd hfu (Nat.not_lt_zero _)
    | succ fu ih22 =>
      intro bs ln k  hfu hi22_0 hi22_1 hi22_2 hi22_3  H locs hZ ls hl
      refine lv_iload hx hb dX5_leastBehind_22 (lv_at hl 0 rfl) ?_
      refine lv_iload hx hb dX5_leastBehind_24 (lv_at hl 3 rfl) ?_
      refine z_icmp_ge (tgt := 102) hx hb dX5_leastBehind_26 (by decide) (by omega) (by omega) (fun c_2 => ?_) (fun c_2 => ?_)
      · skip
        have hfin : zlb wd ((zlens x).drop i.toNat) = bs := by rw [← hi22_3, List.drop_of_length_le (by rw [zlens_l]; omega)]; rfl
        refine lv_iload hx hb dX5_leastBehind_102 (lv_at hl 2 rfl) ?_
        exact z_iret hC hr hlk hZ (by decide) (by decide) (⟨rfl, hfin⟩) dX5_leastBehind_104
      · skip
        refine lv_iload hx hb dX5_leastBehind_29 (lv_at hl 1 rfl) ?_
        refine z_iconst hx hb dX5_leastBehind_31 ?_
        refine lv_aload_n hx hb dX5_leastBehind_32 rfl (lv_at hl 5 rfl) ?_
        refine z_getN (T := TX1) (N := 3) (ci := 5) (k := 2) (fs := [.int (iI x.1), .int (iI x.2.1), .ref wa]) (v := .ref wa) hC hZ in_X1 rfl (by decide) ql_X5_15 rfl y0 rfl dX5_leastBehind_33 ?_
        refine lv_iload hx hb dX5_leastBehind_36 (lv_at hl 0 rfl) ?_
        obtain ⟨q38, hq38, hwd38⟩ := y2 k (by omega) (by omega)
        have hwo38 := ar_w hxo (k := k) (by omega) (by omega)
        have hwl38 := hwo38.1
        refine z_aald (t := 4) (C := "StoneGazette$Word") (v := (some q38)) hC hZ y1 rfl (by omega) (by omega) hq38 dX5_leastBehind_38 ?_
        obtain ⟨fsho_3, ho_3⟩ := (hwd38).o
        refine z_calli (z_runV (rest := [.int (iI 1), .int (iI ln)]) (As := []) (n := 0) (ci := 14) hC hZ (met_X11_letterCount l D cs A F q38 (x.2.2.getD k.toNat []) hwd38) gv_X5_32 hd_X11_letterCount rfl ho_3 rfl hl rfl (Nat.le_of_ble_eq_true rfl) ⟨Nat.le_of_ble_eq_true rfl, Nat.le_of_ble_eq_true rfl⟩ ⟨Nat.le_of_ble_eq_true rfl, Nat.le_of_ble_eq_true rfl⟩ dX5_leastBehind_39) hZ (fun r39 F39 H locs hp39_c_4 hZ => ?_)
        obtain ⟨rfl, rfl⟩ := hp39_c_4
        refine z_iadd hx hb dX5_leastBehind_42 ?_
        refine z_iadd hx hb dX5_leastBehind_43 ?_
        refine z_top (y := ln + ((x.2.2.getD k.toNat []).length : Int) + 1) (by omega) ?_
        have hwk : x.2.2[k.toNat]? = some (x.2.2.getD k.toNat []) := by rw [List.getD_eq_getElem?_getD, List.getElem?_eq_getElem (by omega)]; rfl
        have hz := hi22_3
        rw [zlens_d hwk] at hz
        unfold zsc at hz
        have hkp : (k + 1).toNat = k.toNat + 1 := by omega
        rw [← hkp] at hz
        have hdn := drop_nil (x := x) (k := k) (by omega)
        have hbd := zlb_r hwd.2 hft hx6.2 (k + 1).toNat
        refine lv_istore (lv' := [(6, .int (iI (ln + ((x.2.2.getD k.toNat []).length : Int) + 1))), (7, .int (iI k)), (5, .int (iI bs)), (4, .int (iI (x.2.2.length : Int))), (0, .ref a), (1, .ref b), (2, .int (iI wd)), (3, .int (iI i))]) hx hb dX5_leastBehind_44 hl (by decide) rfl (fun ls hl => ?_)
        refine lv_iload hx hb dX5_leastBehind_46 (lv_at hl 0 rfl) ?_
        refine lv_iload_n hx hb dX5_leastBehind_48 rfl (lv_at hl 6 rfl) ?_
        refine z_icmp_le (tgt := 55) hx hb dX5_leastBehind_49 (by decide) (by omega) (by omega) (fun c_5 => ?_) (fun c_5 => ?_)
        · skip
          rw [if_pos (by assumption)] at hz
          have hsq := sq_bd (z := wd - (ln + ((x.2.2.getD k.toNat []).length : Int) + 1)) (n := 20) (by omega)
          have hsn := sq_nn (wd - (ln + ((x.2.2.getD k.toNat []).length : Int) + 1))
          refine lv_iload hx hb dX5_leastBehind_55 (lv_at hl 1 rfl) ?_
          refine lv_iload hx hb dX5_leastBehind_57 (lv_at hl 3 rfl) ?_
          refine z_iconst hx hb dX5_leastBehind_59 ?_
          refine z_isub hx hb dX5_leastBehind_60 ?_
          refine z_icmp_ne (tgt := 68) hx hb dX5_leastBehind_61 (by decide) (by omega) (by omega) (fun c_6 => ?_) (fun c_6 => ?_)
          · skip
            rw [if_neg (fun q => by have := hdn.mp q; omega)] at hz
            refine lv_iload_n hx hb dX5_leastBehind_68 rfl (lv_at hl 6 rfl) ?_
            refine lv_iload hx hb dX5_leastBehind_69 (lv_at hl 0 rfl) ?_
            refine z_isub hx hb dX5_leastBehind_71 ?_
            refine z_calli (z_runS (rest := []) (As := [.int (iI (wd - (ln + ((x.2.2.getD k.toNat []).length : Int) + 1)))]) (n := 1) hC hZ (met_X5_square l D cs A F (wd - (ln + ((x.2.2.getD k.toNat []).length : Int) + 1)) (by omega)) gs_X5_38 he_X5_square rfl hl rfl (Nat.le_of_ble_eq_true rfl) ⟨Nat.le_of_ble_eq_true rfl, Nat.le_of_ble_eq_true rfl⟩ ⟨Nat.le_of_ble_eq_true rfl, Nat.le_of_ble_eq_true rfl⟩ dX5_leastBehind_72) hZ (fun r72 F72 H locs hp72_c_7 hZ => ?_)
            obtain ⟨rfl, rfl⟩ := hp72_c_7
            refine lv_istore (lv' := [(8, .int (iI ((wd - (ln + ((x.2.2.getD k.toNat []).length : Int) + 1)) * (wd - (ln + ((x.2.2.getD k.toNat []).length : Int) + 1))))), (6, .int (iI (ln + ((x.2.2.getD k.toNat []).length : Int) + 1))), (7, .int (iI k)), (5, .int (iI bs)), (4, .int (iI (x.2.2.length : Int))), (0, .ref a), (1, .ref b), (2, .int (iI wd)), (3, .int (iI i))]) hx hb dX5_leastBehind_75 hl (by decide) rfl (fun ls hl => ?_)
            refine lv_iload hx hb dX5_leastBehind_77 (lv_at hl 3 rfl) ?_
            refine lv_iload hx hb dX5_leastBehind_79 (lv_at hl 0 rfl) ?_
            refine lv_aload_n hx hb dX5_leastBehind_81 rfl (lv_at hl 5 rfl) ?_
            refine z_get (T := TX5) (N := 1) (ci := 9) (k := 0) (fs := [.ref la]) (v := .ref la) hC hZ in_X5 rfl (by decide) ql_X5_9 rfl h0 rfl dX5_leastBehind_82 ?_
            refine lv_iload hx hb dX5_leastBehind_85 (lv_at hl 2 rfl) ?_
            refine z_iconst hx hb dX5_leastBehind_87 ?_
            refine z_iadd hx hb dX5_leastBehind_88 ?_
            refine z_iald hC hZ h1 (by show _ ∧ _ < (31 : Int); omega) (by decide) dX5_leastBehind_89 ?_
            refine z_top (y := zlb wd ((zlens x).drop (k + 1).toNat)) (he (k + 1) (by omega) (by omega)) ?_
            refine z_iadd hx hb dX5_leastBehind_90 ?_
            generalize hzB : zlb wd ((zlens x).drop (k + 1).toNat) = zB at *
            refine z_mmin (rest := []) hC hl qm_X5_21 (by omega) (by omega) ⟨Nat.le_of_ble_eq_true rfl, Nat.le_of_ble_eq_true rfl⟩ ⟨Nat.le_of_ble_eq_true rfl, Nat.le_of_ble_eq_true rfl⟩ dX5_leastBehind_91 (fun r91 hmx91 => ?_)
            have hmn : min bs ((wd - (ln + ((x.2.2.getD k.toNat []).length : Int) + 1)) * (wd - (ln + ((x.2.2.getD k.toNat []).length : Int) + 1)) + zB) = r91 := by omega
            have hnx : zsc wd (ln + ((x.2.2.getD k.toNat []).length : Int) + 1) r91 ((zlens x).drop (k + 1).toNat) = zlb wd ((zlens x).drop i.toNat) := by rw [← hmn]; exact hz
            refine lv_istore (lv' := [(5, .int (iI r91)), (8, .int (iI ((wd - (ln + ((x.2.2.getD k.toNat []).length : Int) + 1)) * (wd - (ln + ((x.2.2.getD k.toNat []).length : Int) + 1))))), (6, .int (iI (ln + ((x.2.2.getD k.toNat []).length : Int) + 1))), (7, .int (iI k)), (4, .int (iI (x.2.2.length : Int))), (0, .ref a), (1, .ref b), (2, .int (iI wd)), (3, .int (iI i))]) hx hb dX5_leastBehind_94 hl (by decide) rfl (fun ls hl => ?_)
            refine z_iinc (lv' := [(7, .int (iI (k + 1))), (5, .int (iI r91)), (8, .int (iI ((wd - (ln + ((x.2.2.getD k.toNat []).length : Int) + 1)) * (wd - (ln + ((x.2.2.getD k.toNat []).length : Int) + 1))))), (6, .int (iI (ln + ((x.2.2.getD k.toNat []).length : Int) + 1))), (4, .int (iI (x.2.2.length : Int))), (0, .ref a), (1, .ref b), (2, .int (iI wd)), (3, .int (iI i))]) hx hb dX5_leastBehind_96 hl (k := 3) rfl (by decide) rfl (fun ls hl => ?_)
            refine lv_goto (tgt := 22) hx hb dX5_leastBehind_99 (by decide) ?_
            exact ih22 r91 (ln + ((x.2.2.getD k.toNat []).length : Int) + 1) (k + 1)  (by omega) (by omega) (by omega) (by omega) hnx  _ _ hZ ls (lv_sub hl [0, 3, 1, 4, 5, 6, 7, 8] rfl)
          · skip
            rw [if_pos (hdn.mpr (by omega))] at hz
            refine z_iconst hx hb dX5_leastBehind_64 ?_
            refine lv_goto (tgt := 75) hx hb dX5_leastBehind_65 (by decide) ?_
            refine lv_istore (lv' := [(8, .int (iI 0)), (6, .int (iI (ln + ((x.2.2.getD k.toNat []).length : Int) + 1))), (7, .int (iI k)), (5, .int (iI bs)), (4, .int (iI (x.2.2.length : Int))), (0, .ref a), (1, .ref b), (2, .int (iI wd)), (3, .int (iI i))]) hx hb dX5_leastBehind_75 hl (by decide) rfl (fun ls hl => ?_)
            refine lv_iload hx hb dX5_leastBehind_77 (lv_at hl 3 rfl) ?_
            refine lv_iload hx hb dX5_leastBehind_79 (lv_at hl 0 rfl) ?_
            refine lv_aload_n hx hb dX5_leastBehind_81 rfl (lv_at hl 5 rfl) ?_
            refine z_get (T := TX5) (N := 1) (ci := 9) (k := 0) (fs := [.ref la]) (v := .ref la) hC hZ in_X5 rfl (by decide) ql_X5_9 rfl h0 rfl dX5_leastBehind_82 ?_
            refine lv_iload hx hb dX5_leastBehind_85 (lv_at hl 2 rfl) ?_
            refine z_iconst hx hb dX5_leastBehind_87 ?_
            refine z_iadd hx hb dX5_leastBehind_88 ?_
            refine z_iald hC hZ h1 (by show _ ∧ _ < (31 : Int); omega) (by decide) dX5_leastBehind_89 ?_
            refine z_top (y := zlb wd ((zlens x).drop (k + 1).toNat)) (he (k + 1) (by omega) (by omega)) ?_
            refine z_iadd hx hb dX5_leastBehind_90 ?_
            generalize hzB : zlb wd ((zlens x).drop (k + 1).toNat) = zB at *
            refine z_mmin (rest := []) hC hl qm_X5_21 (by omega) (by omega) ⟨Nat.le_of_ble_eq_true rfl, Nat.le_of_ble_eq_true rfl⟩ ⟨Nat.le_of_ble_eq_true rfl, Nat.le_of_ble_eq_true rfl⟩ dX5_leastBehind_91 (fun r91 hmx91 => ?_)
            have hmn : min bs (0 + zB) = r91 := by omega
            have hnx : zsc wd (ln + ((x.2.2.getD k.toNat []).length : Int) + 1) r91 ((zlens x).drop (k + 1).toNat) = zlb wd ((zlens x).drop i.toNat) := by rw [← hmn]; exact hz
            refine lv_istore (lv' := [(5, .int (iI r91)), (8, .int (iI 0)), (6, .int (iI (ln + ((x.2.2.getD k.toNat []).length : Int) + 1))), (7, .int (iI k)), (4, .int (iI (x.2.2.length : Int))), (0, .ref a), (1, .ref b), (2, .int (iI wd)), (3, .int (iI i))]) hx hb dX5_leastBehind_94 hl (by decide) rfl (fun ls hl => ?_)
            refine z_iinc (lv' := [(7, .int (iI (k + 1))), (5, .int (iI r91)), (8, .int (iI 0)), (6, .int (iI (ln + ((x.2.2.getD k.toNat []).length : Int) + 1))), (4, .int (iI (x.2.2.length : Int))), (0, .ref a), (1, .ref b), (2, .int (iI wd)), (3, .int (iI i))]) hx hb dX5_leastBehind_96 hl (k := 3) rfl (by decide) rfl (fun ls hl => ?_)
            refine lv_goto (tgt := 22) hx hb dX5_leastBehind_99 (by decide) ?_
            exact ih22 r91 (ln + ((x.2.2.getD k.toNat []).length : Int) + 1) (k + 1)  (by omega) (by omega) (by omega) (by omega) hnx  _ _ hZ ls (lv_sub hl [0, 3, 1, 4, 5, 6, 7, 8] rfl)
        · skip
          have hfin : zlb wd ((zlens x).drop i.toNat) = bs := by rw [if_neg (by omega)] at hz; exact hz.symm
          refine lv_goto (tgt := 102) hx hb dX5_leastBehind_52 (by decide) ?_
          refine lv_iload hx hb dX5_leastBehind_102 (lv_at hl 2 rfl) ?_
          exact z_iret hC hr hlk hZ (by decide) (by decide) (⟨rfl, hfin⟩) dX5_leastBehind_104
  exact L22_k_1 _ 1000000 (-1) i  (Nat.lt_succ_self _) (by omega) (by omega) (by omega) hst  _ _ hZ ls (lv_sub hl [0, 1, 2, 3, 4, 5, 6, 7] rfl)

set_option maxHeartbeats 4000000 in
set_option maxRecDepth 100000 in
theorem met_X5_fromLastWord (l : Launch) (D : va_G) (cs : Nat → ClassId) (A : Nat → Prop) (F : zF) (a la b : Nat) (x : zAr) (wd : Int) (e_ : Int → Int)  (h0 : F a = some (.inr (9, [.ref la]))) (h1 : F la = some (zA (cs 2) 31 e_)) (hx1 : oAr cs F b x) (hwd : 4 ≤ wd ∧ wd ≤ 20) (hft : zfit wd (zlens x)) : zM l D cs A yX5_fromLastWord cX5_fromLastWord 5 (some FieldType.int) 3 0 0 [.ref a, .ref b, .int (iI wd)] F (pI (fun r F1 => zko [la] F F1 ∧ (∃ e1 : Int → Int, F1 la = some (zA (cs 2) 31 e1)) ∧ zlb wd (zlens x) = r)) := by
  refine zM_of (own := RX5) (by decide) rfl (Nat.le_of_ble_eq_true rfl) ?_
  intro p e s m below meth c hC hr hlk hnm hZ ls hl
  have hx := hC.x
  have hb := hC.b
  have hl : lv_has ls 5 [(0, .ref a), (1, .ref b), (2, .int (iI wd))] := hl
  obtain ⟨wa, y0, hws0, hxo⟩ := id hx1
  obtain ⟨h_, y1, y2⟩ := id hws0
  have hx6 := hxo.2.2.1
  have nba : a ≠ la := zne h0 h1 (fun z => by cases z)
  have nbb : b ≠ la := zne y0 h1 (fun z => by cases z)
  have nbw : wa ≠ la := zneR y1 h1
  refine lv_aload_n hx hb dX5_fromLastWord_0 rfl (lv_at hl 1 rfl) ?_
  refine z_getN (T := TX1) (N := 3) (ci := 5) (k := 2) (fs := [.int (iI x.1), .int (iI x.2.1), .ref wa]) (v := .ref wa) hC hZ in_X1 rfl (by decide) ql_X5_15 rfl y0 rfl dX5_fromLastWord_1 ?_
  refine z_alen (t := 4) hC hZ y1 rfl dX5_fromLastWord_4 ?_
  refine z_bipush hx hb dX5_fromLastWord_5 (by decide) ?_
  refine z_mmin (rest := []) hC hl qm_X5_21 (by omega) (by decide) ⟨Nat.le_of_ble_eq_true rfl, Nat.le_of_ble_eq_true rfl⟩ ⟨Nat.le_of_ble_eq_true rfl, Nat.le_of_ble_eq_true rfl⟩ dX5_fromLastWord_7 (fun r7 hmx7 => ?_)
  refine z_top (y := (x.2.2.length : Int)) (by omega) ?_
  refine lv_istore_n (lv' := [(3, .int (iI (x.2.2.length : Int))), (0, .ref a), (1, .ref b), (2, .int (iI wd))]) hx hb dX5_fromLastWord_10 rfl hl (by decide) rfl (fun ls hl => ?_)
  refine lv_aload_n hx hb dX5_fromLastWord_11 rfl (lv_at hl 1 rfl) ?_
  refine z_get (T := TX5) (N := 1) (ci := 9) (k := 0) (fs := [.ref la]) (v := .ref la) hC hZ in_X5 rfl (by decide) ql_X5_9 rfl h0 rfl dX5_fromLastWord_12 ?_
  refine lv_iload_n hx hb dX5_fromLastWord_15 rfl (lv_at hl 0 rfl) ?_
  refine z_iconst hx hb dX5_fromLastWord_16 ?_
  refine z_iast hC hZ h1 (by show _ ∧ _ < (31 : Int); omega) (by decide) dX5_fromLastWord_17 (fun H locs hZ => ?_)
  have hf_1 : (zup F la (zA (cs 2) 31 (upI e_ (x.2.2.length : Int) 0))) a = some (.inr (9, [.ref la])) := zup_k (zne h0 h1 (fun q => by cases q)) h0
  have hf_2 : (zup F la (zA (cs 2) 31 (upI e_ (x.2.2.length : Int) 0))) b = some (.inr (5, [.int (iI x.1), .int (iI x.2.1), .ref wa])) := zup_k (zne y0 h1 (fun q => by cases q)) y0
  have hf_3 : (zup F la (zA (cs 2) 31 (upI e_ (x.2.2.length : Int) 0))) wa = some (zO (cs 4) x.2.2.length h_) := zup_k (zneR y1 h1) y1
  have hf_4 : (zup F la (zA (cs 2) 31 (upI e_ (x.2.2.length : Int) 0))) la = some (zA (cs 2) 31 (upI e_ (x.2.2.length : Int) 0)) := zup_s
  replace hZ : zS D A s (zup F la (zA (cs 2) 31 (upI e_ (x.2.2.length : Int) 0))) _ _ := hZ
  refine lv_iload_n hx hb dX5_fromLastWord_18 rfl (lv_at hl 0 rfl) ?_
  refine z_iconst hx hb dX5_fromLastWord_19 ?_
  refine z_isub hx hb dX5_fromLastWord_20 ?_
  refine lv_istore (lv' := [(4, .int (iI ((x.2.2.length : Int) - 1))), (3, .int (iI (x.2.2.length : Int))), (0, .ref a), (1, .ref b), (2, .int (iI wd))]) hx hb dX5_fromLastWord_21 hl (by decide) rfl (fun ls hl => ?_)
  have L23_k_5 : ∀ (fu : Nat) (k : Int) (F2 : zF) (e2 : Int → Int) (hfu : (k + 1).toNat < fu) (hi23_0 : -1 ≤ k ∧ k < x.2.2.length) (hi23_1 : zko [la] F F2) (hi23_2 : F2 la = some (zA (cs 2) 31 e2)) (hi23_3 : ∀ j : Int, k < j → j ≤ x.2.2.length → e2 j = zlb wd ((zlens x).drop j.toNat)) (H : Heap) (locs : List Loc) (hZ : zS D A s F2 H locs) (ls : Array Slot) (hl : lv_has ls 5 [(4, .int (iI k)), (3, .int (iI (x.2.2.length : Int))), (0, .ref a), (1, .ref b), (2, .int (iI wd))]), W p l e (zR 3 0 0) s m [.ref a, .ref b, .int (iI wd)].toArray below meth c H locs 0 0 (MQ below (zQ D A (pI (fun r F1 => zko [la] F F1 ∧ (∃ e1 : Int → Int, F1 la = some (zA (cs 2) 31 e1)) ∧ zlb wd (zlens x) = r))) [.ref a, .ref b, .int (iI wd)].toArray s 0 0 A) (F0 m 23 ls []) := by
    intro fu
    induction fu with
    | zero =>
      intro k F2 e2 hfu
      exact absurd hfu (Nat.not_lt_zero _)
    | succ fu ih23 =>
      intro k F2 e2 hfu hi23_0 hi23_1 hi23_2 hi23_3  H locs hZ ls hl
      have g0 : F2 a = _ := hi23_1 _ _ h0 (zni1 nba zni0)
      have g1 : F2 b = _ := hi23_1 _ _ y0 (zni1 nbb zni0)
      have g2 : F2 wa = _ := hi23_1 _ _ y1 (zni1 nbw zni0)
      refine lv_iload hx hb dX5_fromLastWord_23 (lv_at hl 0 rfl) ?_
      refine z_if_lt (tgt := 49) hx hb dX5_fromLastWord_25 (by decide) (by omega) (fun c_6 => ?_) (fun c_6 => ?_)
      · skip
        have hfin : zlb wd (zlens x) = e2 0 := (hi23_3 0 (by omega) (by omega)).symm
        refine lv_aload_n hx hb dX5_fromLastWord_49 rfl (lv_at hl 2 rfl) ?_
        refine z_get (T := TX5) (N := 1) (ci := 9) (k := 0) (fs := [.ref la]) (v := .ref la) hC hZ in_X5 rfl (by decide) ql_X5_9 rfl g0 rfl dX5_fromLastWord_50 ?_
        refine z_iconst hx hb dX5_fromLastWord_53 ?_
        refine z_iald hC hZ hi23_2 (by decide) (by decide) dX5_fromLastWord_54 ?_
        exact z_iret hC hr hlk hZ (by decide) (by decide) (⟨hi23_1, ⟨e2, hi23_2⟩, hfin⟩) dX5_fromLastWord_55
      · skip
        refine lv_aload_n hx hb dX5_fromLastWord_28 rfl (lv_at hl 2 rfl) ?_
        refine z_get (T := TX5) (N := 1) (ci := 9) (k := 0) (fs := [.ref la]) (v := .ref la) hC hZ in_X5 rfl (by decide) ql_X5_9 rfl g0 rfl dX5_fromLastWord_29 ?_
        refine lv_iload hx hb dX5_fromLastWord_32 (lv_at hl 0 rfl) ?_
        refine lv_aload_n hx hb dX5_fromLastWord_34 rfl (lv_at hl 2 rfl) ?_
        refine lv_aload_n hx hb dX5_fromLastWord_35 rfl (lv_at hl 3 rfl) ?_
        refine lv_iload_n hx hb dX5_fromLastWord_36 rfl (lv_at hl 4 rfl) ?_
        refine lv_iload hx hb dX5_fromLastWord_37 (lv_at hl 0 rfl) ?_
        refine z_calli (z_runV (rest := [.int (iI k), .ref la]) (As := [.ref b, .int (iI wd), .int (iI k)]) (n := 3) (ci := 9) hC hZ (met_X5_leastBehind l D cs A F2 a la b x wd e2 k g0 hi23_2 (show oAr cs F2 b x from hx1.keepI hi23_1 h1) hwd hft ⟨by omega, by omega⟩ (fun j j0 j1 => hi23_3 j j0 j1)) gv_X5_27 hd_X5_leastBehind rfl g0 rfl hl rfl (Nat.le_of_ble_eq_true rfl) ⟨Nat.le_of_ble_eq_true rfl, Nat.le_of_ble_eq_true rfl⟩ ⟨Nat.le_of_ble_eq_true rfl, Nat.le_of_ble_eq_true rfl⟩ dX5_fromLastWord_39) hZ (fun r39 F39 H locs hp39_c_7 hZ => ?_)
        obtain ⟨rfl, rfl⟩ := hp39_c_7
        refine z_iast hC hZ hi23_2 (by show _ ∧ _ < (31 : Int); omega) (by decide) dX5_fromLastWord_42 (fun H locs hZ => ?_)
        have hf_8 : (zup F2 la (zA (cs 2) 31 (upI e2 k (zlb wd ((zlens x).drop k.toNat))))) a = some (.inr (9, [.ref la])) := zup_k (zne g0 hi23_2 (fun q => by cases q)) g0
        have hf_9 : (zup F2 la (zA (cs 2) 31 (upI e2 k (zlb wd ((zlens x).drop k.toNat))))) b = some (.inr (5, [.int (iI x.1), .int (iI x.2.1), .ref wa])) := zup_k (zne g1 hi23_2 (fun q => by cases q)) g1
        have hf_10 : (zup F2 la (zA (cs 2) 31 (upI e2 k (zlb wd ((zlens x).drop k.toNat))))) wa = some (zO (cs 4) x.2.2.length h_) := zup_k (zneR g2 hi23_2) g2
        have hf_11 : (zup F2 la (zA (cs 2) 31 (upI e2 k (zlb wd ((zlens x).drop k.toNat))))) la = some (zA (cs 2) 31 (upI e2 k (zlb wd ((zlens x).drop k.toNat)))) := zup_s
        replace hZ : zS D A s (zup F2 la (zA (cs 2) 31 (upI e2 k (zlb wd ((zlens x).drop k.toNat))))) _ _ := hZ
        refine z_iinc (lv' := [(4, .int (iI (k + (-1)))), (3, .int (iI (x.2.2.length : Int))), (0, .ref a), (1, .ref b), (2, .int (iI wd))]) hx hb dX5_fromLastWord_43 hl (k := 0) rfl (by decide) rfl (fun ls hl => ?_)
        refine lv_goto (tgt := 23) hx hb dX5_fromLastWord_46 (by decide) ?_
        exact ih23 (k + (-1)) (zup F2 la (zA (cs 2) 31 (upI e2 k (zlb wd ((zlens x).drop k.toNat))))) (upI e2 k (zlb wd ((zlens x).drop k.toNat))) (by omega) (by omega) (hi23_1.up (by simp)) hf_11 (fun j j0 j1 => by unfold upI; by_cases q : j = k; (rw [if_pos q, q]); rw [if_neg q]; exact hi23_3 j (by omega) j1)  _ _ hZ ls (lv_sub hl [0, 1, 2, 3, 4] rfl)
  exact L23_k_5 _ ((x.2.2.length : Int) - 1) (zup F la (zA (cs 2) 31 (upI e_ (x.2.2.length : Int) 0))) (upI e_ (x.2.2.length : Int) 0) (Nat.lt_succ_self _) (by omega) ((zko.refl).up (by simp)) hf_4 (fun j j0 j1 => by have e : j = x.2.2.length := (by omega); unfold upI; rw [if_pos e, List.drop_of_length_le (by rw [zlens_l]; omega)]; rfl)  _ _ hZ ls (lv_sub hl [0, 1, 2, 3, 4] rfl)
