theorem zfl_at {st : zLn} {i : Nat} (hi : i < st.1.length) (h1 : 1 ≤ (st.1.getD i []).length) : (zfl st).getD (zcum st.1 (i + 1) - 1).toNat 0 = (st.1.getD i []).getD ((st.1.getD i []).length - 1) 0 := by
  have hs := zcum_s hi
  have hg : st.1.getD i [] = st.1[i] := by rw [List.getD_eq_getElem?_getD, List.getElem?_eq_getElem hi]; rfl
  have e : st.1 = st.1.take i ++ (st.1[i] :: st.1.drop (i + 1)) := by rw [← List.drop_eq_getElem_cons hi, List.take_append_drop]
  have hc : zcum st.1 i = ((st.1.take i).flatten.length : Nat) := rfl
  have e2 : zfl st = (st.1.take i).flatten ++ (st.1[i] ++ ((st.1.drop (i + 1)).flatten ++ st.2)) := by
    unfold zfl
    conv => lhs; rw [e]
    rw [List.flatten_append, List.flatten_cons, List.append_assoc, List.append_assoc]
  rw [hg] at h1 hs ⊢
  rw [e2, List.getD_eq_getElem?_getD, List.getElem?_append_right (by omega), List.getElem?_append_left (by omega), List.getD_eq_getElem?_getD]
  congr 2
  omega
theorem zfl_p {l : List zWd} {cur part : zWd} : (zfl (l, cur ++ part)).length = l.flatten.length + (cur.length + part.length) := by
  unfold zfl
  rw [List.length_append]
  show _ + (cur ++ part).length = _
  rw [List.length_append]
/-- lines that end with a hyphen -/
def zhyn (l : List zWd) : Nat → Int
  | 0 => 0
  | n + 1 => zhyn l n + (if 1 ≤ (l.getD n []).length ∧ (l.getD n []).getD ((l.getD n []).length - 1) 0 = 45 then 1 else 0)
theorem wd_dt {w : zWd} {b k : Int} (h0 : 0 ≤ b ∧ b ≤ k) (h1 : k < w.length) : (w.drop b.toNat).take (k + 1 - b).toNat = (w.drop b.toNat).take (k - b).toNat ++ [w.getD k.toNat 0] := by
  have hl : (k - b).toNat < (w.drop b.toNat).length := by rw [List.length_drop]; omega
  rw [show (k + 1 - b).toNat = (k - b).toNat + 1 by omega, List.take_add_one, List.getElem?_eq_getElem hl, List.getD_eq_getElem?_getD, List.getElem?_eq_getElem (show k.toNat < w.length by omega)]
  congr 1
  show [_] = [_]
  rw [List.getElem_drop]
  congr 2
  omega
set_option maxHeartbeats 4000000 in
set_option maxRecDepth 100000 in
theorem met_X8_putPart (l : Launch) (D : va_G) (cs : Nat → ClassId) (A : Nat → Prop) (F : zF) (a sg en : Nat) (wd : Int) (st : zLn) (q : Nat) (w : zWd) (b z : Int)  (hs1 : rLs cs F a sg en wd st) (hw : oWd cs F q w) (hbz : 0 ≤ b ∧ b ≤ z ∧ z ≤ w.length) (hrm : (zfl st).length + 20 ≤ 750) : zM l D cs A yX8_putPart cX8_putPart 5 (none : Option Jvm.ClassFile.FieldType) 2 0 0 [.ref a, .ref q, .int (iI b), .int (iI z)] F (pV (fun F1 => zko [a, sg, en] F F1 ∧ rLs cs F1 a sg en wd (st.1, lnPut st.2 ((w.drop b.toNat).take (z - b).toNat)))) := by
  refine zM_of (own := RX8) (by decide) rfl (Nat.le_of_ble_eq_true rfl) ?_
  intro p e s m below meth c hC hr hlk hnm hZ ls hl
  have hx := hC.x
  have hb := hC.b
  have hl : lv_has ls 5 [(0, .ref a), (1, .ref q), (2, .int (iI b)), (3, .int (iI z))] := hl
  obtain ⟨f_, e_, h0, h1, h2, h3, h4, h5, h6⟩ := id hs1
  have hzl := zfl_l st
  obtain ⟨la, ca, g_, g2_, w0, w1, w2, w3, w4, w5⟩ := id hw
  have w51 := w5.1
  have hqa : q ≠ a := zne w0 h0 (fun z => by cases z)
  have hqs : q ≠ sg := zne w0 h1 (fun z => by cases z)
  have hqe : q ≠ en := zne w0 h2 (fun z => by cases z)
  have hla : la ≠ a := zne w1 h0 (fun z => by cases z)
  have hls : la ≠ sg := zneL w1 h1 (by omega)
  have hle : la ≠ en := zneL w1 h2 (by omega)
  have hca := zcum_all (l := st.1) (n := ((st.1.length : Int)).toNat) (by omega)
  refine lv_aload_n hx hb dX8_putPart_0 rfl (lv_at hl 0 rfl) ?_
  refine z_get (T := TX8) (N := 5) (ci := 11) (k := 2) (fs := [.ref sg, .ref en, .int (iI ((zfl st).length : Int)), .int (iI (st.1.length : Int)), .int (iI wd)]) (v := .int (iI ((zfl st).length : Int))) hC hZ in_X8 rfl (by decide) ql_X8_19 rfl h0 rfl dX8_putPart_1 ?_
  refine lv_aload_n hx hb dX8_putPart_4 rfl (lv_at hl 0 rfl) ?_
  refine lv_aload_n hx hb dX8_putPart_5 rfl (lv_at hl 0 rfl) ?_
  refine z_get (T := TX8) (N := 5) (ci := 11) (k := 3) (fs := [.ref sg, .ref en, .int (iI ((zfl st).length : Int)), .int (iI (st.1.length : Int)), .int (iI wd)]) (v := .int (iI (st.1.length : Int))) hC hZ in_X8 rfl (by decide) ql_X8_23 rfl h0 rfl dX8_putPart_6 ?_
  refine z_calli (z_runV (rest := [.int (iI ((zfl st).length : Int))]) (As := [.int (iI (st.1.length : Int))]) (n := 1) (ci := 11) hC hZ (met_X8_startOf l D cs A F a sg en wd st (st.1.length : Int) hs1 (by omega)) gv_X8_42 hd_X8_startOf rfl h0 rfl hl rfl (Nat.le_of_ble_eq_true rfl) ⟨Nat.le_of_ble_eq_true rfl, Nat.le_of_ble_eq_true rfl⟩ ⟨Nat.le_of_ble_eq_true rfl, Nat.le_of_ble_eq_true rfl⟩ dX8_putPart_9) hZ (fun r9 F9 H locs hp9_c_1 hZ => ?_)
  obtain ⟨rfl, rfl⟩ := hp9_c_1
  refine z_icmp_le (tgt := 21) hx hb dX8_putPart_12 (by decide) (by omega) (by omega) (fun c_2 => ?_) (fun c_2 => ?_)
  · skip
    have hcur : st.2 = [] := List.eq_nil_of_length_eq_zero (by omega)
    have hcl : st.2.length = 0 := by omega
    refine lv_iload_n hx hb dX8_putPart_21 rfl (lv_at hl 2 rfl) ?_
    refine lv_istore (lv' := [(4, .int (iI b)), (0, .ref a), (1, .ref q), (2, .int (iI b)), (3, .int (iI z))]) hx hb dX8_putPart_22 hl (by decide) rfl (fun ls hl => ?_)
    have L24_k_3 : ∀ (fu : Nat) (k : Int) (F2 : zF) (hfu : (z - k).toNat < fu) (hi24_0 : b ≤ k ∧ k ≤ z) (hi24_1 : zko [a, sg, en] F F2) (hi24_2 : rLs cs F2 a sg en wd (st.1, st.2 ++ (w.drop b.toNat).take (k - b).toNat)) (H : Heap) (locs : List Loc) (hZ : zS D A s F2 H locs) (ls : Array Slot) (hl : lv_has ls 5 [(4, .int (iI k)), (0, .ref a), (1, .ref q), (2, .int (iI b)), (3, .int (iI z))]), W p l e (zR 2 0 0) s m [.ref a, .ref q, .int (iI b), .int (iI z)].toArray below meth c H locs 0 0 (MQ below (zQ D A (pV (fun F1 => zko [a, sg, en] F F1 ∧ rLs cs F1 a sg en wd (st.1, lnPut st.2 ((w.drop b.toNat).take (z - b).toNat))))) [.ref a, .ref q, .int (iI b), .int (iI z)].toArray s 0 0 A) (F0 m 24 ls []) := by
      intro fu
      induction fu with
      | zero =>
        intro k F2 hfu
        exact absurd hfu (Nat.not_lt_zero _)
      | succ fu ih24 =>
        intro k F2 hfu hi24_0 hi24_1 hi24_2  H locs hZ ls hl
        have v0 : F2 q = _ := hi24_1 _ _ w0 (zni1 hqa (zni1 hqs (zni1 hqe zni0)))
        have v1 : F2 la = _ := hi24_1 _ _ w1 (zni1 hla (zni1 hls (zni1 hle zni0)))
        have hpl : (zfl (st.1, st.2 ++ (w.drop b.toNat).take (k - b).toNat)).length = st.1.flatten.length + (st.2.length + (k - b).toNat) := by rw [zfl_p, List.length_take, List.length_drop]; omega
        refine lv_iload hx hb dX8_putPart_24 (lv_at hl 0 rfl) ?_
        refine lv_iload_n hx hb dX8_putPart_26 rfl (lv_at hl 4 rfl) ?_
        refine z_icmp_ge (tgt := 57) hx hb dX8_putPart_27 (by decide) (by omega) (by omega) (fun c_4 => ?_) (fun c_4 => ?_)
        · skip
          have hkz : k = z := by omega
          have hfin : rLs cs F2 a sg en wd (st.1, lnPut st.2 ((w.drop b.toNat).take (z - b).toNat)) := by
            rw [← hkz]
            unfold lnPut
            rw [if_pos hcur]
            rw [hcur] at hi24_2
            exact hi24_2
          exact z_vret hC hr hlk hZ (by decide) (by decide) (⟨hi24_1, hfin⟩) dX8_putPart_57
        · skip
          refine lv_iload hx hb dX8_putPart_30 (lv_at hl 0 rfl) ?_
          refine lv_aload_n hx hb dX8_putPart_32 rfl (lv_at hl 2 rfl) ?_
          refine z_getN (T := TX11) (N := 2) (ci := 14) (k := 0) (fs := [.ref la, .ref ca]) (v := .ref la) hC hZ in_X11 rfl (by decide) ql_X8_64 rfl v0 rfl dX8_putPart_33 ?_
          refine z_alen (t := 1) hC hZ v1 rfl dX8_putPart_36 ?_
          refine z_icmp_ge (tgt := 57) hx hb dX8_putPart_37 (by decide) (by omega) (by omega) (fun c_5 => ?_) (fun c_5 => ?_)
          · skip
            exfalso; omega
          · skip
            refine lv_aload_n hx hb dX8_putPart_40 rfl (lv_at hl 1 rfl) ?_
            refine lv_aload_n hx hb dX8_putPart_41 rfl (lv_at hl 2 rfl) ?_
            refine z_getN (T := TX11) (N := 2) (ci := 14) (k := 0) (fs := [.ref la, .ref ca]) (v := .ref la) hC hZ in_X11 rfl (by decide) ql_X8_64 rfl v0 rfl dX8_putPart_42 ?_
            refine lv_iload hx hb dX8_putPart_45 (lv_at hl 0 rfl) ?_
            refine z_cald hC hZ v1 (by omega) (by omega) dX8_putPart_47 ?_
            refine z_top (y := w.getD k.toNat 0) (w3 k (by omega) (by omega)) ?_
            have hgr := wd_g w5 (k := k) (by omega) (by omega)
            obtain ⟨fsho_6, ho_6⟩ := (hi24_2).o
            refine z_callv (z_runV (rest := []) (As := [.int (iI (w.getD k.toNat 0))]) (n := 1) (ci := 11) hC hZ (met_X8_putSign l D cs A F2 a sg en wd (st.1, st.2 ++ (w.drop b.toNat).take (k - b).toNat) (w.getD k.toNat 0) hi24_2 (by omega) (by rw [hpl]; omega)) gv_X8_60 hd_X8_putSign rfl ho_6 rfl hl rfl (Nat.le_of_ble_eq_true rfl) ⟨Nat.le_of_ble_eq_true rfl, Nat.le_of_ble_eq_true rfl⟩ ⟨Nat.le_of_ble_eq_true rfl, Nat.le_of_ble_eq_true rfl⟩ dX8_putPart_48) hZ (fun F48 H locs hp48_c_7 hZ => ?_)
            obtain ⟨hky_8, hsy_8⟩ := hp48_c_7
            have hKy_8 : zko [a, sg, en] F F48 := hi24_1.trans hky_8
            have hqy_8 : (((st.1, st.2 ++ (w.drop b.toNat).take (k - b).toNat).1, (st.1, st.2 ++ (w.drop b.toNat).take (k - b).toNat).2 ++ [w.getD k.toNat 0]) : zLn) = (st.1, st.2 ++ (w.drop b.toNat).take (k + 1 - b).toNat) := (by rw [wd_dt (by omega) (by omega)]; show (st.1, _ ++ _ ++ [_]) = _; rw [List.append_assoc])
            rw [hqy_8] at hsy_8
            obtain ⟨fy_8, ey_8, i0y_8, i1y_8, i2y_8, i3y_8, i4y_8, i5y_8, i6y_8⟩ := id hsy_8
            have hzly_8 := zfl_l (st.1, st.2 ++ (w.drop b.toNat).take (k + 1 - b).toNat)
            have hf_9 : F48 q = some (.inr (14, [.ref la, .ref ca])) := hKy_8 _ _ w0 (zni1 hqa (zni1 hqs (zni1 hqe zni0)))
            have hf_10 : F48 la = some (zA (cs 1) w.length g_) := hKy_8 _ _ w1 (zni1 hla (zni1 hls (zni1 hle zni0)))
            refine z_iinc (lv' := [(4, .int (iI (k + 1))), (0, .ref a), (1, .ref q), (2, .int (iI b)), (3, .int (iI z))]) hx hb dX8_putPart_51 hl (k := 0) rfl (by decide) rfl (fun ls hl => ?_)
            refine lv_goto (tgt := 24) hx hb dX8_putPart_54 (by decide) ?_
            exact ih24 (k + 1) F48 (by omega) (by omega) hKy_8 hsy_8  _ _ hZ ls (lv_sub hl [0, 1, 2, 3, 4] rfl)
    exact L24_k_3 _ b F (Nat.lt_succ_self _) (by omega) (zko.refl : zko [a, sg, en] F F) (by rw [show (b - b).toNat = 0 by omega, List.take_zero, List.append_nil]; exact hs1)  _ _ hZ ls (lv_sub hl [0, 1, 2, 3, 4] rfl)
  · skip
    have hcur : st.2 ≠ [] := fun z9 => by have z8 : st.2.length = 0 := (by rw [z9]; rfl); omega
    have hcl : (st.2 ++ [32]).length = st.2.length + 1 := by rw [List.length_append]; rfl
    refine lv_aload_n hx hb dX8_putPart_15 rfl (lv_at hl 0 rfl) ?_
    refine z_bipush hx hb dX8_putPart_16 (by decide) ?_
    refine z_callv (z_runV (rest := []) (As := [.int (iI 32)]) (n := 1) (ci := 11) hC hZ (met_X8_putSign l D cs A F a sg en wd st 32 hs1 (by omega) (by omega)) gv_X8_60 hd_X8_putSign rfl h0 rfl hl rfl (Nat.le_of_ble_eq_true rfl) ⟨Nat.le_of_ble_eq_true rfl, Nat.le_of_ble_eq_true rfl⟩ ⟨Nat.le_of_ble_eq_true rfl, Nat.le_of_ble_eq_true rfl⟩ dX8_putPart_18) hZ (fun F18 H locs hp18_c_11 hZ => ?_)
    obtain ⟨hky_12, hsy_12⟩ := hp18_c_11
    have hKy_12 : zko [a, sg, en] F F18 := (zko.refl : zko [a, sg, en] F F).trans hky_12
    obtain ⟨fy_12, ey_12, i0y_12, i1y_12, i2y_12, i3y_12, i4y_12, i5y_12, i6y_12⟩ := id hsy_12
    have hzly_12 := zfl_l (st.1, st.2 ++ [32])
    have hf_13 : F18 q = some (.inr (14, [.ref la, .ref ca])) := hKy_12 _ _ w0 (zni1 hqa (zni1 hqs (zni1 hqe zni0)))
    have hf_14 : F18 la = some (zA (cs 1) w.length g_) := hKy_12 _ _ w1 (zni1 hla (zni1 hls (zni1 hle zni0)))
    refine lv_iload_n hx hb dX8_putPart_21 rfl (lv_at hl 2 rfl) ?_
    refine lv_istore (lv' := [(4, .int (iI b)), (0, .ref a), (1, .ref q), (2, .int (iI b)), (3, .int (iI z))]) hx hb dX8_putPart_22 hl (by decide) rfl (fun ls hl => ?_)
    have L24_k_15 : ∀ (fu : Nat) (k : Int) (F2 : zF) (hfu : (z - k).toNat < fu) (hi24_0 : b ≤ k ∧ k ≤ z) (hi24_1 : zko [a, sg, en] F F2) (hi24_2 : rLs cs F2 a sg en wd (st.1, (st.2 ++ [32]) ++ (w.drop b.toNat).take (k - b).toNat)) (H : Heap) (locs : List Loc) (hZ : zS D A s F2 H locs) (ls : Array Slot) (hl : lv_has ls 5 [(4, .int (iI k)), (0, .ref a), (1, .ref q), (2, .int (iI b)), (3, .int (iI z))]), W p l e (zR 2 0 0) s m [.ref a, .ref q, .int (iI b), .int (iI z)].toArray below meth c H locs 0 0 (MQ below (zQ D A (pV (fun F1 => zko [a, sg, en] F F1 ∧ rLs cs F1 a sg en wd (st.1, lnPut st.2 ((w.drop b.toNat).take (z - b).toNat))))) [.ref a, .ref q, .int (iI b), .int (iI z)].toArray s 0 0 A) (F0 m 24 ls []) := by
      intro fu
      induction fu with
      | zero =>
        intro k F2 hfu
        exact absurd hfu (Nat.not_lt_zero _)
      | succ fu ih24 =>
        intro k F2 hfu hi24_0 hi24_1 hi24_2  H locs hZ ls hl
        have v0 : F2 q = _ := hi24_1 _ _ w0 (zni1 hqa (zni1 hqs (zni1 hqe zni0)))
        have v1 : F2 la = _ := hi24_1 _ _ w1 (zni1 hla (zni1 hls (zni1 hle zni0)))
        have hpl : (zfl (st.1, (st.2 ++ [32]) ++ (w.drop b.toNat).take (k - b).toNat)).length = st.1.flatten.length + ((st.2 ++ [32]).length + (k - b).toNat) := by rw [zfl_p, List.length_take, List.length_drop]; omega
        refine lv_iload hx hb dX8_putPart_24 (lv_at hl 0 rfl) ?_
        refine lv_iload_n hx hb dX8_putPart_26 rfl (lv_at hl 4 rfl) ?_
        refine z_icmp_ge (tgt := 57) hx hb dX8_putPart_27 (by decide) (by omega) (by omega) (fun c_16 => ?_) (fun c_16 => ?_)
        · skip
          have hkz : k = z := by omega
          have hfin : rLs cs F2 a sg en wd (st.1, lnPut st.2 ((w.drop b.toNat).take (z - b).toNat)) := by
            rw [← hkz]
            unfold lnPut
            rw [if_neg hcur]
            rw [List.append_assoc] at hi24_2
            exact hi24_2
          exact z_vret hC hr hlk hZ (by decide) (by decide) (⟨hi24_1, hfin⟩) dX8_putPart_57
        · skip
          refine lv_iload hx hb dX8_putPart_30 (lv_at hl 0 rfl) ?_
          refine lv_aload_n hx hb dX8_putPart_32 rfl (lv_at hl 2 rfl) ?_
          refine z_getN (T := TX11) (N := 2) (ci := 14) (k := 0) (fs := [.ref la, .ref ca]) (v := .ref la) hC hZ in_X11 rfl (by decide) ql_X8_64 rfl v0 rfl dX8_putPart_33 ?_
          refine z_alen (t := 1) hC hZ v1 rfl dX8_putPart_36 ?_
          refine z_icmp_ge (tgt := 57) hx hb dX8_putPart_37 (by decide) (by omega) (by omega) (fun c_17 => ?_) (fun c_17 => ?_)
          · skip
            exfalso; omega
          · skip
            refine lv_aload_n hx hb dX8_putPart_40 rfl (lv_at hl 1 rfl) ?_
            refine lv_aload_n hx hb dX8_putPart_41 rfl (lv_at hl 2 rfl) ?_
            refine z_getN (T := TX11) (N := 2) (ci := 14) (k := 0) (fs := [.ref la, .ref ca]) (v := .ref la) hC hZ in_X11 rfl (by decide) ql_X8_64 rfl v0 rfl dX8_putPart_42 ?_
            refine lv_iload hx hb dX8_putPart_45 (lv_at hl 0 rfl) ?_
            refine z_cald hC hZ v1 (by omega) (by omega) dX8_putPart_47 ?_
            refine z_top (y := w.getD k.toNat 0) (w3 k (by omega) (by omega)) ?_
            have hgr := wd_g w5 (k := k) (by omega) (by omega)
            obtain ⟨fsho_18, ho_18⟩ := (hi24_2).o
            refine z_callv (z_runV (rest := []) (As := [.int (iI (w.getD k.toNat 0))]) (n := 1) (ci := 11) hC hZ (met_X8_putSign l D cs A F2 a sg en wd (st.1, (st.2 ++ [32]) ++ (w.drop b.toNat).take (k - b).toNat) (w.getD k.toNat 0) hi24_2 (by omega) (by rw [hpl]; omega)) gv_X8_60 hd_X8_putSign rfl ho_18 rfl hl rfl (Nat.le_of_ble_eq_true rfl) ⟨Nat.le_of_ble_eq_true rfl, Nat.le_of_ble_eq_true rfl⟩ ⟨Nat.le_of_ble_eq_true rfl, Nat.le_of_ble_eq_true rfl⟩ dX8_putPart_48) hZ (fun F48 H locs hp48_c_19 hZ => ?_)
            obtain ⟨hky_20, hsy_20⟩ := hp48_c_19
            have hKy_20 : zko [a, sg, en] F F48 := hi24_1.trans hky_20
            have hqy_20 : (((st.1, (st.2 ++ [32]) ++ (w.drop b.toNat).take (k - b).toNat).1, (st.1, (st.2 ++ [32]) ++ (w.drop b.toNat).take (k - b).toNat).2 ++ [w.getD k.toNat 0]) : zLn) = (st.1, (st.2 ++ [32]) ++ (w.drop b.toNat).take (k + 1 - b).toNat) := (by rw [wd_dt (by omega) (by omega)]; show (st.1, _ ++ _ ++ [_]) = _; rw [List.append_assoc])
            rw [hqy_20] at hsy_20
            obtain ⟨fy_20, ey_20, i0y_20, i1y_20, i2y_20, i3y_20, i4y_20, i5y_20, i6y_20⟩ := id hsy_20
            have hzly_20 := zfl_l (st.1, (st.2 ++ [32]) ++ (w.drop b.toNat).take (k + 1 - b).toNat)
            have hf_21 : F48 q = some (.inr (14, [.ref la, .ref ca])) := hKy_20 _ _ w0 (zni1 hqa (zni1 hqs (zni1 hqe zni0)))
            have hf_22 : F48 la = some (zA (cs 1) w.length g_) := hKy_20 _ _ w1 (zni1 hla (zni1 hls (zni1 hle zni0)))
            refine z_iinc (lv' := [(4, .int (iI (k + 1))), (0, .ref a), (1, .ref q), (2, .int (iI b)), (3, .int (iI z))]) hx hb dX8_putPart_51 hl (k := 0) rfl (by decide) rfl (fun ls hl => ?_)
            refine lv_goto (tgt := 24) hx hb dX8_putPart_54 (by decide) ?_
            exact ih24 (k + 1) F48 (by omega) (by omega) hKy_20 hsy_20  _ _ hZ ls (lv_sub hl [0, 1, 2, 3, 4] rfl)
    exact L24_k_15 _ b F18 (Nat.lt_succ_self _) (by omega) hKy_12 (by rw [show (b - b).toNat = 0 by omega, List.take_zero, List.append_nil]; exact hsy_12)  _ _ hZ ls (lv_sub hl [0, 1, 2, 3, 4] rfl)
