theorem oWd.keep3 {cs : Nat → ClassId} {F F1 : zF} {q a sg en : Nat} {w : zWd} {fs : List Value} {f e : Int → Int} (h : oWd cs F q w) (hk : zko [a, sg, en] F F1) (h0 : F a = some (.inr (11, fs))) (h1 : F sg = some (zA (cs 1) 750 f)) (h2 : F en = some (zA (cs 2) 360 e)) : oWd cs F1 q w := by
  obtain ⟨la, ca, f, g, w1, w2, w3, w4, w5, w6⟩ := h
  have hl := w6.1
  refine ⟨la, ca, f, g, hk _ _ w1 ?_, hk _ _ w2 ?_, hk _ _ w3 ?_, w4, w5, w6⟩
  · exact zni1 (zne w1 h0 (fun z => by cases z)) (zni1 (zne w1 h1 (fun z => by cases z)) (zni1 (zne w1 h2 (fun z => by cases z)) zni0))
  · exact zni1 (zne w2 h0 (fun z => by cases z)) (zni1 (zneL w2 h1 (by omega)) (zni1 (zneL w2 h2 (by omega)) zni0))
  · exact zni1 (zne w3 h0 (fun z => by cases z)) (zni1 (zneL w3 h1 (by omega)) (zni1 (zneL w3 h2 (by omega)) zni0))
theorem lc_zcut {w : zWd} {fr : Nat} {room r : Int} (hl : 1 ≤ w.length) (h : (r = -1 ∧ ∀ p : Int, (fr : Int) < p → p ≤ fr + (room - 1) → ¬ cutOK w p) ∨ ((fr : Int) < r ∧ r ≤ fr + (room - 1) ∧ cutOK w r ∧ ∀ p : Int, r < p → p ≤ fr + (room - 1) → ¬ cutOK w p)) : (r = -1 ∧ zcut w fr room (w.length - 1) = 0) ∨ (0 ≤ r ∧ r ≠ -1 ∧ zcut w fr room (w.length - 1) = r.toNat ∧ r.toNat ≠ 0) := by
  obtain ⟨z1, z2⟩ := zcut_spec w fr room (w.length - 1)
  rcases h with ⟨h1, h2⟩ | ⟨h1, h2, h3, h4⟩
  · left
    refine ⟨h1, ?_⟩
    rcases z1 with q | ⟨q1, q2, q3, q4⟩
    · exact q
    · exact absurd ((cutB_iff (x := (zcut w fr room (w.length - 1) : Nat)) (by omega)).mp (by rw [Int.toNat_natCast]; exact q4)) (h2 _ (by omega) (by omega))
  · right
    have hr0 : 0 ≤ r := by omega
    have hb := (cutB_iff (w := w) hr0).mpr h3
    have hle := cutB_le hb
    refine ⟨hr0, by omega, ?_, by omega⟩
    rcases Nat.lt_trichotomy (zcut w fr room (w.length - 1)) r.toNat with q | q | q
    · have := z2 r.toNat q (by omega) (by omega) (by omega)
      rw [this] at hb; cases hb
    · exact q
    · rcases z1 with y | ⟨q1, q2, q3, q4⟩
      · omega
      · exact absurd ((cutB_iff (x := (zcut w fr room (w.length - 1) : Nat)) (by omega)).mp (by rw [Int.toNat_natCast]; exact q4)) (h4 _ (by omega) (by omega))
theorem zst_fit {wd : Int} {w : zWd} {fr : Nat} {st : zLn} (h : (w.length : Int) - fr ≤ zroom wd st.2) : zstep wd w fr st = some (w.length, st.1, lnPut st.2 (w.drop fr)) := if_pos h
theorem zst_cut {wd : Int} {w : zWd} {fr c : Nat} {st : zLn} (h : ¬ (w.length : Int) - fr ≤ zroom wd st.2) (hc : zcut w fr (zroom wd st.2) (w.length - 1) = c) (h0 : c ≠ 0) : zstep wd w fr st = some (c, st.1 ++ [lnPut st.2 ((w.drop fr).take (c - fr)) ++ [45]], []) := by
  subst hc
  unfold zstep
  rw [if_neg h, if_pos h0]
theorem zst_no {wd : Int} {w : zWd} {fr : Nat} {st : zLn} (h : ¬ (w.length : Int) - fr ≤ zroom wd st.2) (hc : zcut w fr (zroom wd st.2) (w.length - 1) = 0) (h0 : st.2 = []) : zstep wd w fr st = none := by
  unfold zstep
  rw [if_neg h, if_neg (fun q => q hc), if_pos h0]
theorem zst_cls {wd : Int} {w : zWd} {fr : Nat} {st : zLn} (h : ¬ (w.length : Int) - fr ≤ zroom wd st.2) (hc : zcut w fr (zroom wd st.2) (w.length - 1) = 0) (h0 : st.2 ≠ []) : zstep wd w fr st = some (fr, st.1 ++ [st.2], []) := by
  unfold zstep
  rw [if_neg h, if_neg (fun q => q hc), if_neg h0]
theorem zset_n {wd : Int} {w : zWd} {n fr : Nat} {st : zLn} (h : zstep wd w fr st = none) : zset wd w (n + 1) fr st = none := by
  unfold zset; rw [h]
theorem zset_d {wd : Int} {w : zWd} {n fr : Nat} {st st' : zLn} (h : zstep wd w fr st = some (w.length, st')) : zset wd w (n + 1) fr st = some st' := by
  conv => lhs; unfold zset
  rw [h]
  exact if_pos rfl
theorem zset_g {wd : Int} {w : zWd} {n fr c : Nat} {st st' : zLn} (h : zstep wd w fr st = some (c, st')) (hc : c ≠ w.length) : zset wd w (n + 1) fr st = zset wd w n c st' := by
  conv => lhs; unfold zset
  rw [h]
  exact if_neg hc
/-- how much is written, in the midst of word number j -/
def lsB (j fr : Nat) (st : zLn) : Prop := (zfl st).length ≤ 13 * j + fr + min fr 1 + st.1.length
theorem lnP_len (cur part : zWd) : (lnPut cur part).length ≤ cur.length + part.length + (if cur = [] then 0 else 1) := by
  have := lnPut_len cur part
  by_cases h : cur = []
  · rw [if_pos h] at this ⊢; omega
  · rw [if_neg h] at this ⊢; omega
theorem zfl_cl (st : zLn) (x : zWd) : (zfl (st.1 ++ [x], ([] : zWd))).length = st.1.flatten.length + x.length := by
  unfold zfl; rw [List.append_nil, List.flatten_append, List.flatten_cons, List.flatten_nil, List.append_nil, List.length_append]
theorem lsB_cut {wd : Int} {w : zWd} {j fr c : Nat} {st : zLn} (hl : lnOK wd w j fr st) (h : lsB j fr st) (hc : fr < c ∧ c < w.length) : lsB j c (st.1 ++ [lnPut st.2 ((w.drop fr).take (c - fr)) ++ [45]], []) := by
  unfold lsB at h ⊢
  rw [zfl_cl, List.length_append, List.length_append]
  have h1 := lnP_len st.2 ((w.drop fr).take (c - fr))
  rw [List.length_take, List.length_drop] at h1
  have h2 := zfl_l st
  show _ ≤ 13 * j + c + min c 1 + (st.1.length + 1)
  have h3 := hl.2.1
  simp only [List.length_singleton]
  split at h1
  · omega
  · have := h3 (by assumption); omega
theorem lsB_cls {j fr : Nat} {st : zLn} (h : lsB j fr st) : lsB j fr (st.1 ++ [st.2], []) := by
  unfold lsB at h ⊢
  rw [zfl_cl, List.length_append]
  have h2 := zfl_l st
  simp only [List.length_singleton]
  omega
theorem lsB_fit {wd : Int} {w : zWd} {j fr : Nat} {st : zLn} (hl : lnOK wd w j fr st) (h : lsB j fr st) (hf : fr < w.length) (hw : w.length ≤ 12) : lsB (j + 1) 0 (st.1, lnPut st.2 (w.drop fr)) := by
  unfold lsB at h ⊢
  have h1 := lnP_len st.2 (w.drop fr)
  rw [List.length_drop] at h1
  have h2 := zfl_l st
  have h4 := zfl_l (st.1, lnPut st.2 (w.drop fr))
  have h3 := hl.2.1
  show _ ≤ 13 * (j + 1) + 0 + min 0 1 + st.1.length
  have h5 : ((st.1, lnPut st.2 (w.drop fr)) : zLn).1.flatten.length = st.1.flatten.length := rfl
  have h6 : ((st.1, lnPut st.2 (w.drop fr)) : zLn).2.length = (lnPut st.2 (w.drop fr)).length := rfl
  split at h1
  · omega
  · have := h3 (by assumption); omega
theorem ls_room {wd : Int} {w : zWd} {j fr : Nat} {st : zLn} (hl : lnOK wd w j fr st) (h : lsB j fr st) (hj : j ≤ 29) (hf : fr ≤ 12) : (zfl st).length ≤ 580 ∧ st.1.length ≤ 190 := by
  have h1 := hl.1
  unfold lsB at h
  omega
set_option maxHeartbeats 4000000 in
set_option maxRecDepth 100000 in
theorem met_X8_place (l : Launch) (D : va_G) (cs : Nat → ClassId) (A : Nat → Prop) (F : zF) (a sg en : Nat) (wd : Int) (st : zLn) (q : Nat) (w : zWd) (j : Nat)  (hs1 : rLs cs F a sg en wd st) (hw : oWd cs F q w) (hwo : wdOK w) (hwd : 4 ≤ wd ∧ wd ≤ 20) (hj : j ≤ 29) (hln : lnOK wd w j 0 st) (hlb : lsB j 0 st) : zM l D cs A yX8_place cX8_place 7 (some FieldType.boolean) 3 0 0 [.ref a, .ref q] F (pI (fun r F1 => zko [a, sg, en] F F1 ∧ ((∃ st1 : zLn, zset wd w 24 0 st = some st1 ∧ r = 1 ∧ rLs cs F1 a sg en wd st1 ∧ st1.1.length ≤ 6 * (j + 1) ∧ (∀ x ∈ st1.1, (x.length : Int) ≤ wd) ∧ (st1.2.length : Int) ≤ wd ∧ st1.2 ≠ [] ∧ lsB (j + 1) 0 st1) ∨ (zset wd w 24 0 st = none ∧ r = 0 ∧ ∃ st1 : zLn, rLs cs F1 a sg en wd st1)))) := by
  refine zM_of (own := RX8) (by decide) rfl (Nat.le_of_ble_eq_true rfl) ?_
  intro p e s m below meth c hC hr hlk hnm hZ ls hl
  have hx := hC.x
  have hb := hC.b
  have hl : lv_has ls 7 [(0, .ref a), (1, .ref q)] := hl
  obtain ⟨f_, e_, h0, h1, h2, h3, h4, h5, h6⟩ := id hs1
  have hzl := zfl_l st
  have hwl := hwo.1
  refine z_iconst hx hb dX8_place_0 ?_
  refine lv_istore_n (lv' := [(2, .int (iI 0)), (0, .ref a), (1, .ref q)]) hx hb dX8_place_1 rfl hl (by decide) rfl (fun ls hl => ?_)
  refine z_iconst hx hb dX8_place_2 ?_
  refine lv_istore_n (lv' := [(3, .int (iI 0)), (2, .int (iI 0)), (0, .ref a), (1, .ref q)]) hx hb dX8_place_3 rfl hl (by decide) rfl (fun ls hl => ?_)
  have L4_k_1 : ∀ (fu : Nat) (n fr : Int) (F2 : zF) (s2 : zLn) (hfu : (24 - n).toNat < fu) (hi4_0 : (0 ≤ n ∧ n ≤ 24) ∧ 0 ≤ fr ∧ fr < w.length) (hi4_1 : zset wd w (24 - n).toNat fr.toNat s2 = zset wd w 24 0 st) (hi4_2 : lnOK wd w j fr.toNat s2) (hi4_3 : lsB j fr.toNat s2) (hi4_4 : zko [a, sg, en] F F2) (hi4_5 : rLs cs F2 a sg en wd s2) (H : Heap) (locs : List Loc) (hZ : zS D A s F2 H locs) (ls : Array Slot) (hl : lv_has ls 7 [(3, .int (iI n)), (2, .int (iI fr)), (0, .ref a), (1, .ref q)]), W p l e (zR 3 0 0) s m [.ref a, .ref q].toArray below meth c H locs 0 0 (MQ below (zQ D A (pI (fun r F1 => zko [a, sg, en] F F1 ∧ ((∃ st1 : zLn, zset wd w 24 0 st = some st1 ∧ r = 1 ∧ rLs cs F1 a sg en wd st1 ∧ st1.1.length ≤ 6 * (j + 1) ∧ (∀ x ∈ st1.1, (x.length : Int) ≤ wd) ∧ (st1.2.length : Int) ≤ wd ∧ st1.2 ≠ [] ∧ lsB (j + 1) 0 st1) ∨ (zset wd w 24 0 st = none ∧ r = 0 ∧ ∃ st1 : zLn, rLs cs F1 a sg en wd st1))))) [.ref a, .ref q].toArray s 0 0 A) (F0 m 4 ls []) := by
    intro fu
    induction fu with
    | zero =>
      intro n fr F2 s2 hfu
      exact absurd hfu (Nat.not_lt_zero _)
    | succ fu ih4 =>
      intro n fr F2 s2 hfu hi4_0 hi4_1 hi4_2 hi4_3 hi4_4 hi4_5  H locs hZ ls hl
      obtain ⟨f2, e2, v0, v1, v2, v3, v4, v5, v6⟩ := id hi4_5
      have hzl2 := zfl_l s2
      have hw2 : oWd cs F2 q w := hw.keep3 hi4_4 h0 h1 h2
      have hca := zcum_all (l := s2.1) (n := ((s2.1.length : Int)).toNat) (by omega)
      have hrm := ls_room hi4_2 hi4_3 hj (by omega)
      have hlw := hi4_2.2.2.2.2
      refine lv_iload_n hx hb dX8_place_4 rfl (lv_at hl 0 rfl) ?_
      refine z_bipush hx hb dX8_place_5 (by decide) ?_
      refine z_icmp_ge (tgt := 140) hx hb dX8_place_7 (by decide) (by omega) (by decide) (fun c_2 => ?_) (fun c_2 => ?_)
      · skip
        have hzs : zset wd w 24 0 st = none := by rw [← hi4_1, show (24 - n).toNat = 0 by omega]; rfl
        refine z_iconst hx hb dX8_place_140 ?_
        exact z_zret hC hr hlk hZ rfl (by decide) (by decide) (⟨hi4_4, Or.inr ⟨hzs, rfl, s2, hi4_5⟩⟩) dX8_place_141
      · skip
        have hn1 : (24 - n).toNat = (24 - (n + 1)).toNat + 1 := by omega
        rw [hn1] at hi4_1
        refine lv_aload_n hx hb dX8_place_10 rfl (lv_at hl 2 rfl) ?_
        refine z_get (T := TX8) (N := 5) (ci := 11) (k := 2) (fs := [.ref sg, .ref en, .int (iI ((zfl s2).length : Int)), .int (iI (s2.1.length : Int)), .int (iI wd)]) (v := .int (iI ((zfl s2).length : Int))) hC hZ in_X8 rfl (by decide) ql_X8_19 rfl v0 rfl dX8_place_11 ?_
        refine lv_aload_n hx hb dX8_place_14 rfl (lv_at hl 2 rfl) ?_
        refine lv_aload_n hx hb dX8_place_15 rfl (lv_at hl 2 rfl) ?_
        refine z_get (T := TX8) (N := 5) (ci := 11) (k := 3) (fs := [.ref sg, .ref en, .int (iI ((zfl s2).length : Int)), .int (iI (s2.1.length : Int)), .int (iI wd)]) (v := .int (iI (s2.1.length : Int))) hC hZ in_X8 rfl (by decide) ql_X8_23 rfl v0 rfl dX8_place_16 ?_
        refine z_calli (z_runV (rest := [.int (iI ((zfl s2).length : Int))]) (As := [.int (iI (s2.1.length : Int))]) (n := 1) (ci := 11) hC hZ (met_X8_startOf l D cs A F2 a sg en wd s2 (s2.1.length : Int) hi4_5 (by omega)) gv_X8_42 hd_X8_startOf rfl v0 rfl hl rfl (Nat.le_of_ble_eq_true rfl) ⟨Nat.le_of_ble_eq_true rfl, Nat.le_of_ble_eq_true rfl⟩ ⟨Nat.le_of_ble_eq_true rfl, Nat.le_of_ble_eq_true rfl⟩ dX8_place_19) hZ (fun r19 F19 H locs hp19_c_3 hZ => ?_)
        obtain ⟨rfl, rfl⟩ := hp19_c_3
        refine z_icmp_ne (tgt := 29) hx hb dX8_place_22 (by decide) (by omega) (by omega) (fun c_4 => ?_) (fun c_4 => ?_)
        · skip
          have hcur : s2.2 ≠ [] := fun z9 => by have z8 : s2.2.length = 0 := (by rw [z9]; rfl); omega
          refine z_iconst hx hb dX8_place_29 ?_
          refine lv_istore (lv' := [(4, .int (iI 0)), (3, .int (iI n)), (2, .int (iI fr)), (0, .ref a), (1, .ref q)]) hx hb dX8_place_30 hl (by decide) rfl (fun ls hl => ?_)
          refine lv_aload_n hx hb dX8_place_32 rfl (lv_at hl 3 rfl) ?_
          refine z_get (T := TX8) (N := 5) (ci := 11) (k := 4) (fs := [.ref sg, .ref en, .int (iI ((zfl s2).length : Int)), .int (iI (s2.1.length : Int)), .int (iI wd)]) (v := .int (iI wd)) hC hZ in_X8 rfl (by decide) ql_X8_26 rfl v0 rfl dX8_place_33 ?_
          refine lv_aload_n hx hb dX8_place_36 rfl (lv_at hl 3 rfl) ?_
          refine z_get (T := TX8) (N := 5) (ci := 11) (k := 2) (fs := [.ref sg, .ref en, .int (iI ((zfl s2).length : Int)), .int (iI (s2.1.length : Int)), .int (iI wd)]) (v := .int (iI ((zfl s2).length : Int))) hC hZ in_X8 rfl (by decide) ql_X8_19 rfl v0 rfl dX8_place_37 ?_
          refine lv_aload_n hx hb dX8_place_40 rfl (lv_at hl 3 rfl) ?_
          refine lv_aload_n hx hb dX8_place_41 rfl (lv_at hl 3 rfl) ?_
          refine z_get (T := TX8) (N := 5) (ci := 11) (k := 3) (fs := [.ref sg, .ref en, .int (iI ((zfl s2).length : Int)), .int (iI (s2.1.length : Int)), .int (iI wd)]) (v := .int (iI (s2.1.length : Int))) hC hZ in_X8 rfl (by decide) ql_X8_23 rfl v0 rfl dX8_place_42 ?_
          refine z_calli (z_runV (rest := [.int (iI ((zfl s2).length : Int)), .int (iI wd)]) (As := [.int (iI (s2.1.length : Int))]) (n := 1) (ci := 11) hC hZ (met_X8_startOf l D cs A F2 a sg en wd s2 (s2.1.length : Int) hi4_5 (by omega)) gv_X8_42 hd_X8_startOf rfl v0 rfl hl rfl (Nat.le_of_ble_eq_true rfl) ⟨Nat.le_of_ble_eq_true rfl, Nat.le_of_ble_eq_true rfl⟩ ⟨Nat.le_of_ble_eq_true rfl, Nat.le_of_ble_eq_true rfl⟩ dX8_place_45) hZ (fun r45 F45 H locs hp45_c_5 hZ => ?_)
          obtain ⟨rfl, rfl⟩ := hp45_c_5
          refine z_isub hx hb dX8_place_48 ?_
          refine z_isub hx hb dX8_place_49 ?_
          refine lv_iload hx hb dX8_place_50 (lv_at hl 0 rfl) ?_
          refine z_if_eq (tgt := 59) hx hb dX8_place_52 (by decide) (by decide) (fun c_6 => ?_) (fun c_6 => ?_)
          · skip
            refine z_iconst hx hb dX8_place_59 ?_
            refine z_isub hx hb dX8_place_60 ?_
            refine z_top (y := zroom wd s2.2) (by unfold zroom; rw [if_neg hcur]; omega) ?_
            have hzr : zroom wd s2.2 ≤ 20 ∧ -20 ≤ zroom wd s2.2 := by unfold zroom; split <;> omega
            generalize hZR : zroom wd s2.2 = rm at *
            refine lv_istore (lv' := [(5, .int (iI rm)), (4, .int (iI 0)), (3, .int (iI n)), (2, .int (iI fr)), (0, .ref a), (1, .ref q)]) hx hb dX8_place_61 hl (by decide) rfl (fun ls hl => ?_)
            refine lv_aload_n hx hb dX8_place_63 rfl (lv_at hl 5 rfl) ?_
            obtain ⟨fsho_7, ho_7⟩ := (hw2).o
            refine z_calli (z_runV (rest := []) (As := []) (n := 0) (ci := 14) hC hZ (met_X11_letterCount l D cs A F2 q w hw2) gv_X8_46 hd_X11_letterCount rfl ho_7 rfl hl rfl (Nat.le_of_ble_eq_true rfl) ⟨Nat.le_of_ble_eq_true rfl, Nat.le_of_ble_eq_true rfl⟩ ⟨Nat.le_of_ble_eq_true rfl, Nat.le_of_ble_eq_true rfl⟩ dX8_place_64) hZ (fun r64 F64 H locs hp64_c_8 hZ => ?_)
            obtain ⟨rfl, rfl⟩ := hp64_c_8
            refine lv_iload_n hx hb dX8_place_67 rfl (lv_at hl 3 rfl) ?_
            refine z_isub hx hb dX8_place_68 ?_
            refine lv_iload hx hb dX8_place_69 (lv_at hl 0 rfl) ?_
            refine z_icmp_gt (tgt := 86) hx hb dX8_place_71 (by decide) (by omega) (by omega) (fun c_9 => ?_) (fun c_9 => ?_)
            · skip
              have hnf : ¬ (w.length : Int) - fr.toNat ≤ zroom wd s2.2 := by rw [hZR]; omega
              refine lv_aload_n hx hb dX8_place_86 rfl (lv_at hl 5 rfl) ?_
              refine lv_iload_n hx hb dX8_place_87 rfl (lv_at hl 3 rfl) ?_
              refine lv_iload hx hb dX8_place_88 (lv_at hl 0 rfl) ?_
              refine z_iconst hx hb dX8_place_90 ?_
              refine z_isub hx hb dX8_place_91 ?_
              obtain ⟨fsho_10, ho_10⟩ := (hw2).o
              refine z_calli (z_runV (rest := []) (As := [.int (iI fr), .int (iI (rm - 1))]) (n := 2) (ci := 14) hC hZ (met_X11_lastCut l D cs A F2 q w fr (rm - 1) hw2 ⟨by omega, by omega⟩ ⟨by omega, by omega⟩) gv_X8_56 hd_X11_lastCut rfl ho_10 rfl hl rfl (Nat.le_of_ble_eq_true rfl) ⟨Nat.le_of_ble_eq_true rfl, Nat.le_of_ble_eq_true rfl⟩ ⟨Nat.le_of_ble_eq_true rfl, Nat.le_of_ble_eq_true rfl⟩ dX8_place_92) hZ (fun r92 F92 H locs hp92_c_11 hZ => ?_)
              obtain ⟨rfl, hp92_c_11⟩ := hp92_c_11
              have hlc := lc_zcut (w := w) (fr := fr.toNat) (room := rm) (r := r92) (by omega) (by rw [Int.toNat_of_nonneg (by omega)]; exact hp92_c_11)
              have hrr : -1 ≤ r92 ∧ r92 ≤ 40 := by rcases hp92_c_11 with z | z <;> omega
              refine lv_istore (lv' := [(6, .int (iI r92)), (5, .int (iI rm)), (4, .int (iI 0)), (3, .int (iI n)), (2, .int (iI fr)), (0, .ref a), (1, .ref q)]) hx hb dX8_place_95 hl (by decide) rfl (fun ls hl => ?_)
              refine lv_iload hx hb dX8_place_97 (lv_at hl 0 rfl) ?_
              refine z_iconst hx hb dX8_place_99 ?_
              refine z_icmp_eq (tgt := 123) hx hb dX8_place_100 (by decide) (by omega) (by decide) (fun c_12 => ?_) (fun c_12 => ?_)
              · skip
                have hc0 : zcut w fr.toNat (zroom wd s2.2) (w.length - 1) = 0 := by rw [hZR]; rcases hlc with z | z; exact z.2; omega
                refine lv_iload hx hb dX8_place_123 (lv_at hl 2 rfl) ?_
                refine z_if_eq (tgt := 130) hx hb dX8_place_125 (by decide) (by decide) (fun c_13 => ?_) (fun c_13 => ?_)
                · skip
                  refine lv_aload_n hx hb dX8_place_130 rfl (lv_at hl 5 rfl) ?_
                  refine z_callv (z_runV (rest := []) (As := []) (n := 0) (ci := 11) hC hZ (met_X8_closeLine l D cs A F2 a sg en wd s2 hi4_5 (show s2.1.length < 360 by omega)) gv_X8_39 hd_X8_closeLine rfl v0 rfl hl rfl (Nat.le_of_ble_eq_true rfl) ⟨Nat.le_of_ble_eq_true rfl, Nat.le_of_ble_eq_true rfl⟩ ⟨Nat.le_of_ble_eq_true rfl, Nat.le_of_ble_eq_true rfl⟩ dX8_place_131) hZ (fun F131 H locs hp131_c_14 hZ => ?_)
                  obtain ⟨hky_15, hsy_15⟩ := hp131_c_14
                  have hKy_15 : zko [a, sg, en] F F131 := hi4_4.trans hky_15
                  obtain ⟨fy_15, ey_15, i0y_15, i1y_15, i2y_15, i3y_15, i4y_15, i5y_15, i6y_15⟩ := id hsy_15
                  have hzly_15 := zfl_l (s2.1 ++ [s2.2], [])
                  have hww_16 : oWd cs F131 q w := hw.keep3 hKy_15 h0 h1 h2
                  have hst := zst_cls hnf hc0 hcur
                  have hok := (zstep_ok hwo (by omega) hi4_2 hst).elim (fun z => absurd z.1 (by omega)) (fun z => z)
                  have hnz : zset wd w (24 - (n + 1)).toNat fr.toNat (s2.1 ++ [s2.2], []) = zset wd w 24 0 st := by rw [← hi4_1, zset_g hst (by omega)]
                  have hnl := hok.2.1
                  have hnb := lsB_cls hi4_3
                  refine z_iinc (lv' := [(3, .int (iI (n + 1))), (6, .int (iI r92)), (5, .int (iI rm)), (4, .int (iI 0)), (2, .int (iI fr)), (0, .ref a), (1, .ref q)]) hx hb dX8_place_134 hl (k := 3) rfl (by decide) rfl (fun ls hl => ?_)
                  refine lv_goto (tgt := 4) hx hb dX8_place_137 (by decide) ?_
                  exact ih4 (n + 1) fr F131 (s2.1 ++ [s2.2], []) (by omega) (by omega) hnz hnl hnb hKy_15 hsy_15  _ _ hZ ls (lv_sub hl [0, 4, 5, 6] rfl)
                · skip
                  exfalso; omega
              · skip
                have hcc : zcut w fr.toNat (zroom wd s2.2) (w.length - 1) = r92.toNat := by rw [hZR]; rcases hlc with z | z; omega; exact z.2.2.1
                have hc9 : r92.toNat ≠ 0 := by rcases hlc with z | z; omega; exact z.2.2.2
                have hzp := zcut_p w fr.toNat (zroom wd s2.2) (by rw [hcc]; exact hc9)
                rw [hcc] at hzp
                have hst := zst_cut hnf hcc hc9
                have hok := (zstep_ok hwo (by omega) hi4_2 hst).elim (fun z => absurd z.1 (by omega)) (fun z => z)
                have hpl := lnP_len s2.2 ((w.drop fr.toNat).take (r92 - fr).toNat)
                have hpl2 : ((w.drop fr.toNat).take (r92 - fr).toNat).length = (r92 - fr).toNat := by rw [List.length_take, List.length_drop]; omega
                have hpl3 := zfl_l (s2.1, lnPut s2.2 ((w.drop fr.toNat).take (r92 - fr).toNat))
                have hpl4 : (lnPut s2.2 ((w.drop fr.toNat).take (r92 - fr).toNat)).length ≤ s2.2.length + (r92 - fr).toNat + 1 := by split at hpl <;> omega
                have hpl5 : ((s2.1, lnPut s2.2 ((w.drop fr.toNat).take (r92 - fr).toNat)) : zLn).2.length = (lnPut s2.2 ((w.drop fr.toNat).take (r92 - fr).toNat)).length := rfl
                have hpl6 : ((s2.1, lnPut s2.2 ((w.drop fr.toNat).take (r92 - fr).toNat)) : zLn).1.flatten.length = s2.1.flatten.length := rfl
                refine lv_aload_n hx hb dX8_place_103 rfl (lv_at hl 5 rfl) ?_
                refine lv_aload_n hx hb dX8_place_104 rfl (lv_at hl 6 rfl) ?_
                refine lv_iload_n hx hb dX8_place_105 rfl (lv_at hl 4 rfl) ?_
                refine lv_iload hx hb dX8_place_106 (lv_at hl 0 rfl) ?_
                refine z_callv (z_runV (rest := []) (As := [.ref q, .int (iI fr), .int (iI r92)]) (n := 3) (ci := 11) hC hZ (met_X8_putPart l D cs A F2 a sg en wd s2 q w fr r92 hi4_5 hw2 ⟨by omega, by omega, by omega⟩ (by omega)) gv_X8_52 hd_X8_putPart rfl v0 rfl hl rfl (Nat.le_of_ble_eq_true rfl) ⟨Nat.le_of_ble_eq_true rfl, Nat.le_of_ble_eq_true rfl⟩ ⟨Nat.le_of_ble_eq_true rfl, Nat.le_of_ble_eq_true rfl⟩ dX8_place_108) hZ (fun F108 H locs hp108_c_17 hZ => ?_)
                obtain ⟨hky_18, hsy_18⟩ := hp108_c_17
                have hKy_18 : zko [a, sg, en] F F108 := hi4_4.trans hky_18
                obtain ⟨fy_18, ey_18, i0y_18, i1y_18, i2y_18, i3y_18, i4y_18, i5y_18, i6y_18⟩ := id hsy_18
                have hzly_18 := zfl_l (s2.1, lnPut s2.2 ((w.drop fr.toNat).take (r92 - fr).toNat))
                have hww_19 : oWd cs F108 q w := hw.keep3 hKy_18 h0 h1 h2
                refine lv_aload_n hx hb dX8_place_111 rfl (lv_at hl 5 rfl) ?_
                refine z_bipush hx hb dX8_place_112 (by decide) ?_
                refine z_callv (z_runV (rest := []) (As := [.int (iI 45)]) (n := 1) (ci := 11) hC hZ (met_X8_putSign l D cs A F108 a sg en wd (s2.1, lnPut s2.2 ((w.drop fr.toNat).take (r92 - fr).toNat)) 45 hsy_18 (by omega) (by omega)) gv_X8_60 hd_X8_putSign rfl i0y_18 rfl hl rfl (Nat.le_of_ble_eq_true rfl) ⟨Nat.le_of_ble_eq_true rfl, Nat.le_of_ble_eq_true rfl⟩ ⟨Nat.le_of_ble_eq_true rfl, Nat.le_of_ble_eq_true rfl⟩ dX8_place_114) hZ (fun F114 H locs hp114_c_20 hZ => ?_)
                obtain ⟨hky_21, hsy_21⟩ := hp114_c_20
                have hKy_21 : zko [a, sg, en] F F114 := hKy_18.trans hky_21
                obtain ⟨fy_21, ey_21, i0y_21, i1y_21, i2y_21, i3y_21, i4y_21, i5y_21, i6y_21⟩ := id hsy_21
                have hzly_21 := zfl_l ((s2.1, lnPut s2.2 ((w.drop fr.toNat).take (r92 - fr).toNat)).1, (s2.1, lnPut s2.2 ((w.drop fr.toNat).take (r92 - fr).toNat)).2 ++ [45])
                have hww_22 : oWd cs F114 q w := hw.keep3 hKy_21 h0 h1 h2
                refine lv_iload hx hb dX8_place_117 (lv_at hl 0 rfl) ?_
                refine lv_istore_n (lv' := [(2, .int (iI r92)), (6, .int (iI r92)), (5, .int (iI rm)), (4, .int (iI 0)), (3, .int (iI n)), (0, .ref a), (1, .ref q)]) hx hb dX8_place_119 rfl hl (by decide) rfl (fun ls hl => ?_)
                refine lv_goto (tgt := 130) hx hb dX8_place_120 (by decide) ?_
                refine lv_aload_n hx hb dX8_place_130 rfl (lv_at hl 5 rfl) ?_
                refine z_callv (z_runV (rest := []) (As := []) (n := 0) (ci := 11) hC hZ (met_X8_closeLine l D cs A F114 a sg en wd ((s2.1, lnPut s2.2 ((w.drop fr.toNat).take (r92 - fr).toNat)).1, (s2.1, lnPut s2.2 ((w.drop fr.toNat).take (r92 - fr).toNat)).2 ++ [45]) hsy_21 (show s2.1.length < 360 by omega)) gv_X8_39 hd_X8_closeLine rfl i0y_21 rfl hl rfl (Nat.le_of_ble_eq_true rfl) ⟨Nat.le_of_ble_eq_true rfl, Nat.le_of_ble_eq_true rfl⟩ ⟨Nat.le_of_ble_eq_true rfl, Nat.le_of_ble_eq_true rfl⟩ dX8_place_131) hZ (fun F131 H locs hp131_c_23 hZ => ?_)
                obtain ⟨hky_24, hsy_24⟩ := hp131_c_23
                have hKy_24 : zko [a, sg, en] F F131 := hKy_21.trans hky_24
                have hqy_24 : ((((s2.1, lnPut s2.2 ((w.drop fr.toNat).take (r92 - fr).toNat)).1, (s2.1, lnPut s2.2 ((w.drop fr.toNat).take (r92 - fr).toNat)).2 ++ [45]).1 ++ [((s2.1, lnPut s2.2 ((w.drop fr.toNat).take (r92 - fr).toNat)).1, (s2.1, lnPut s2.2 ((w.drop fr.toNat).take (r92 - fr).toNat)).2 ++ [45]).2], []) : zLn) = (s2.1 ++ [lnPut s2.2 ((w.drop fr.toNat).take (r92.toNat - fr.toNat)) ++ [45]], []) := (by rw [show (r92 - fr).toNat = r92.toNat - fr.toNat by omega])
                rw [hqy_24] at hsy_24
                obtain ⟨fy_24, ey_24, i0y_24, i1y_24, i2y_24, i3y_24, i4y_24, i5y_24, i6y_24⟩ := id hsy_24
                have hzly_24 := zfl_l (s2.1 ++ [lnPut s2.2 ((w.drop fr.toNat).take (r92.toNat - fr.toNat)) ++ [45]], [])
                have hww_25 : oWd cs F131 q w := hw.keep3 hKy_24 h0 h1 h2
                have hnz : zset wd w (24 - (n + 1)).toNat r92.toNat (s2.1 ++ [lnPut s2.2 ((w.drop fr.toNat).take (r92.toNat - fr.toNat)) ++ [45]], []) = zset wd w 24 0 st := by rw [← hi4_1, zset_g hst (by omega)]
                have hnl := hok.2.1
                have hnb := lsB_cut hi4_2 hi4_3 (c := r92.toNat) ⟨by omega, by omega⟩
                refine z_iinc (lv' := [(3, .int (iI (n + 1))), (2, .int (iI r92)), (6, .int (iI r92)), (5, .int (iI rm)), (4, .int (iI 0)), (0, .ref a), (1, .ref q)]) hx hb dX8_place_134 hl (k := 4) rfl (by decide) rfl (fun ls hl => ?_)
                refine lv_goto (tgt := 4) hx hb dX8_place_137 (by decide) ?_
                exact ih4 (n + 1) r92 F131 (s2.1 ++ [lnPut s2.2 ((w.drop fr.toNat).take (r92.toNat - fr.toNat)) ++ [45]], []) (by omega) (by omega) hnz hnl hnb hKy_24 hsy_24  _ _ hZ ls (lv_sub hl [0, 1, 5, 6] rfl)
            · skip
              have hst := zst_fit (wd := wd) (w := w) (fr := fr.toNat) (st := s2) (by rw [hZR]; omega)
              have hzs : zset wd w 24 0 st = some (s2.1, lnPut s2.2 (w.drop fr.toNat)) := by rw [← hi4_1]; exact zset_d hst
              have hok := (zstep_ok hwo (by omega) hi4_2 hst).elim (fun z => z) (fun z => absurd z.1 (Nat.lt_irrefl _))
              refine lv_aload_n hx hb dX8_place_74 rfl (lv_at hl 4 rfl) ?_
              refine lv_aload_n hx hb dX8_place_75 rfl (lv_at hl 5 rfl) ?_
              refine lv_iload_n hx hb dX8_place_76 rfl (lv_at hl 3 rfl) ?_
              refine lv_aload_n hx hb dX8_place_77 rfl (lv_at hl 5 rfl) ?_
              obtain ⟨fsho_26, ho_26⟩ := (hw2).o
              refine z_calli (z_runV (rest := [.int (iI fr), .ref q, .ref a]) (As := []) (n := 0) (ci := 14) hC hZ (met_X11_letterCount l D cs A F2 q w hw2) gv_X8_46 hd_X11_letterCount rfl ho_26 rfl hl rfl (Nat.le_of_ble_eq_true rfl) ⟨Nat.le_of_ble_eq_true rfl, Nat.le_of_ble_eq_true rfl⟩ ⟨Nat.le_of_ble_eq_true rfl, Nat.le_of_ble_eq_true rfl⟩ dX8_place_78) hZ (fun r78 F78 H locs hp78_c_27 hZ => ?_)
              obtain ⟨rfl, rfl⟩ := hp78_c_27
              refine z_callv (z_runV (rest := []) (As := [.ref q, .int (iI fr), .int (iI ((w).length : Int))]) (n := 3) (ci := 11) hC hZ (met_X8_putPart l D cs A F2 a sg en wd s2 q w fr ((w).length : Int) hi4_5 hw2 ⟨by omega, by omega, by omega⟩ (by omega)) gv_X8_52 hd_X8_putPart rfl v0 rfl hl rfl (Nat.le_of_ble_eq_true rfl) ⟨Nat.le_of_ble_eq_true rfl, Nat.le_of_ble_eq_true rfl⟩ ⟨Nat.le_of_ble_eq_true rfl, Nat.le_of_ble_eq_true rfl⟩ dX8_place_81) hZ (fun F81 H locs hp81_c_28 hZ => ?_)
              obtain ⟨hky_29, hsy_29⟩ := hp81_c_28
              have hKy_29 : zko [a, sg, en] F F81 := hi4_4.trans hky_29
              have hqy_29 : ((s2.1, lnPut s2.2 ((w.drop fr.toNat).take (((w).length : Int) - fr).toNat)) : zLn) = (s2.1, lnPut s2.2 (w.drop fr.toNat)) := (by rw [List.take_of_length_le (by rw [List.length_drop]; omega)])
              rw [hqy_29] at hsy_29
              obtain ⟨fy_29, ey_29, i0y_29, i1y_29, i2y_29, i3y_29, i4y_29, i5y_29, i6y_29⟩ := id hsy_29
              have hzly_29 := zfl_l (s2.1, lnPut s2.2 (w.drop fr.toNat))
              have hww_30 : oWd cs F81 q w := hw.keep3 hKy_29 h0 h1 h2
              refine z_iconst hx hb dX8_place_84 ?_
              exact z_zret hC hr hlk hZ rfl (by decide) (by decide) (⟨hKy_29, Or.inl ⟨_, hzs, rfl, hsy_29, hok.2.2.1, hok.2.2.2.1, hok.2.2.2.2.1, hok.2.2.2.2.2, lsB_fit hi4_2 hi4_3 (by omega) (by omega)⟩⟩) dX8_place_85
          · skip
            exfalso; omega
        · skip
          have hcur : s2.2 = [] := List.eq_nil_of_length_eq_zero (by omega)
          refine z_iconst hx hb dX8_place_25 ?_
          refine lv_goto (tgt := 30) hx hb dX8_place_26 (by decide) ?_
          refine lv_istore (lv' := [(4, .int (iI 1)), (3, .int (iI n)), (2, .int (iI fr)), (0, .ref a), (1, .ref q)]) hx hb dX8_place_30 hl (by decide) rfl (fun ls hl => ?_)
          refine lv_aload_n hx hb dX8_place_32 rfl (lv_at hl 3 rfl) ?_
          refine z_get (T := TX8) (N := 5) (ci := 11) (k := 4) (fs := [.ref sg, .ref en, .int (iI ((zfl s2).length : Int)), .int (iI (s2.1.length : Int)), .int (iI wd)]) (v := .int (iI wd)) hC hZ in_X8 rfl (by decide) ql_X8_26 rfl v0 rfl dX8_place_33 ?_
          refine lv_aload_n hx hb dX8_place_36 rfl (lv_at hl 3 rfl) ?_
          refine z_get (T := TX8) (N := 5) (ci := 11) (k := 2) (fs := [.ref sg, .ref en, .int (iI ((zfl s2).length : Int)), .int (iI (s2.1.length : Int)), .int (iI wd)]) (v := .int (iI ((zfl s2).length : Int))) hC hZ in_X8 rfl (by decide) ql_X8_19 rfl v0 rfl dX8_place_37 ?_
          refine lv_aload_n hx hb dX8_place_40 rfl (lv_at hl 3 rfl) ?_
          refine lv_aload_n hx hb dX8_place_41 rfl (lv_at hl 3 rfl) ?_
          refine z_get (T := TX8) (N := 5) (ci := 11) (k := 3) (fs := [.ref sg, .ref en, .int (iI ((zfl s2).length : Int)), .int (iI (s2.1.length : Int)), .int (iI wd)]) (v := .int (iI (s2.1.length : Int))) hC hZ in_X8 rfl (by decide) ql_X8_23 rfl v0 rfl dX8_place_42 ?_
          refine z_calli (z_runV (rest := [.int (iI ((zfl s2).length : Int)), .int (iI wd)]) (As := [.int (iI (s2.1.length : Int))]) (n := 1) (ci := 11) hC hZ (met_X8_startOf l D cs A F2 a sg en wd s2 (s2.1.length : Int) hi4_5 (by omega)) gv_X8_42 hd_X8_startOf rfl v0 rfl hl rfl (Nat.le_of_ble_eq_true rfl) ⟨Nat.le_of_ble_eq_true rfl, Nat.le_of_ble_eq_true rfl⟩ ⟨Nat.le_of_ble_eq_true rfl, Nat.le_of_ble_eq_true rfl⟩ dX8_place_45) hZ (fun r45 F45 H locs hp45_c_31 hZ => ?_)
          obtain ⟨rfl, rfl⟩ := hp45_c_31
          refine z_isub hx hb dX8_place_48 ?_
          refine z_isub hx hb dX8_place_49 ?_
          refine lv_iload hx hb dX8_place_50 (lv_at hl 0 rfl) ?_
          refine z_if_eq (tgt := 59) hx hb dX8_place_52 (by decide) (by decide) (fun c_32 => ?_) (fun c_32 => ?_)
          · skip
            exfalso; omega
          · skip
            refine z_iconst hx hb dX8_place_55 ?_
            refine lv_goto (tgt := 60) hx hb dX8_place_56 (by decide) ?_
            refine z_isub hx hb dX8_place_60 ?_
            refine z_top (y := zroom wd s2.2) (by unfold zroom; rw [if_pos hcur]; omega) ?_
            have hzr : zroom wd s2.2 ≤ 20 ∧ -20 ≤ zroom wd s2.2 := by unfold zroom; split <;> omega
            generalize hZR : zroom wd s2.2 = rm at *
            refine lv_istore (lv' := [(5, .int (iI rm)), (4, .int (iI 1)), (3, .int (iI n)), (2, .int (iI fr)), (0, .ref a), (1, .ref q)]) hx hb dX8_place_61 hl (by decide) rfl (fun ls hl => ?_)
            refine lv_aload_n hx hb dX8_place_63 rfl (lv_at hl 5 rfl) ?_
            obtain ⟨fsho_33, ho_33⟩ := (hw2).o
            refine z_calli (z_runV (rest := []) (As := []) (n := 0) (ci := 14) hC hZ (met_X11_letterCount l D cs A F2 q w hw2) gv_X8_46 hd_X11_letterCount rfl ho_33 rfl hl rfl (Nat.le_of_ble_eq_true rfl) ⟨Nat.le_of_ble_eq_true rfl, Nat.le_of_ble_eq_true rfl⟩ ⟨Nat.le_of_ble_eq_true rfl, Nat.le_of_ble_eq_true rfl⟩ dX8_place_64) hZ (fun r64 F64 H locs hp64_c_34 hZ => ?_)
            obtain ⟨rfl, rfl⟩ := hp64_c_34
            refine lv_iload_n hx hb dX8_place_67 rfl (lv_at hl 3 rfl) ?_
            refine z_isub hx hb dX8_place_68 ?_
            refine lv_iload hx hb dX8_place_69 (lv_at hl 0 rfl) ?_
            refine z_icmp_gt (tgt := 86) hx hb dX8_place_71 (by decide) (by omega) (by omega) (fun c_35 => ?_) (fun c_35 => ?_)
            · skip
              have hnf : ¬ (w.length : Int) - fr.toNat ≤ zroom wd s2.2 := by rw [hZR]; omega
              refine lv_aload_n hx hb dX8_place_86 rfl (lv_at hl 5 rfl) ?_
              refine lv_iload_n hx hb dX8_place_87 rfl (lv_at hl 3 rfl) ?_
              refine lv_iload hx hb dX8_place_88 (lv_at hl 0 rfl) ?_
              refine z_iconst hx hb dX8_place_90 ?_
              refine z_isub hx hb dX8_place_91 ?_
              obtain ⟨fsho_36, ho_36⟩ := (hw2).o
              refine z_calli (z_runV (rest := []) (As := [.int (iI fr), .int (iI (rm - 1))]) (n := 2) (ci := 14) hC hZ (met_X11_lastCut l D cs A F2 q w fr (rm - 1) hw2 ⟨by omega, by omega⟩ ⟨by omega, by omega⟩) gv_X8_56 hd_X11_lastCut rfl ho_36 rfl hl rfl (Nat.le_of_ble_eq_true rfl) ⟨Nat.le_of_ble_eq_true rfl, Nat.le_of_ble_eq_true rfl⟩ ⟨Nat.le_of_ble_eq_true rfl, Nat.le_of_ble_eq_true rfl⟩ dX8_place_92) hZ (fun r92 F92 H locs hp92_c_37 hZ => ?_)
              obtain ⟨rfl, hp92_c_37⟩ := hp92_c_37
              have hlc := lc_zcut (w := w) (fr := fr.toNat) (room := rm) (r := r92) (by omega) (by rw [Int.toNat_of_nonneg (by omega)]; exact hp92_c_37)
              have hrr : -1 ≤ r92 ∧ r92 ≤ 40 := by rcases hp92_c_37 with z | z <;> omega
              refine lv_istore (lv' := [(6, .int (iI r92)), (5, .int (iI rm)), (4, .int (iI 1)), (3, .int (iI n)), (2, .int (iI fr)), (0, .ref a), (1, .ref q)]) hx hb dX8_place_95 hl (by decide) rfl (fun ls hl => ?_)
              refine lv_iload hx hb dX8_place_97 (lv_at hl 0 rfl) ?_
              refine z_iconst hx hb dX8_place_99 ?_
              refine z_icmp_eq (tgt := 123) hx hb dX8_place_100 (by decide) (by omega) (by decide) (fun c_38 => ?_) (fun c_38 => ?_)
              · skip
                have hc0 : zcut w fr.toNat (zroom wd s2.2) (w.length - 1) = 0 := by rw [hZR]; rcases hlc with z | z; exact z.2; omega
                refine lv_iload hx hb dX8_place_123 (lv_at hl 2 rfl) ?_
                refine z_if_eq (tgt := 130) hx hb dX8_place_125 (by decide) (by decide) (fun c_39 => ?_) (fun c_39 => ?_)
                · skip
                  exfalso; omega
                · skip
                  have hzs : zset wd w 24 0 st = none := by rw [← hi4_1]; exact zset_n (zst_no hnf hc0 hcur)
                  refine z_iconst hx hb dX8_place_128 ?_
                  exact z_zret hC hr hlk hZ rfl (by decide) (by decide) (⟨hi4_4, Or.inr ⟨hzs, rfl, s2, hi4_5⟩⟩) dX8_place_129
              · skip
                have hcc : zcut w fr.toNat (zroom wd s2.2) (w.length - 1) = r92.toNat := by rw [hZR]; rcases hlc with z | z; omega; exact z.2.2.1
                have hc9 : r92.toNat ≠ 0 := by rcases hlc with z | z; omega; exact z.2.2.2
                have hzp := zcut_p w fr.toNat (zroom wd s2.2) (by rw [hcc]; exact hc9)
                rw [hcc] at hzp
                have hst := zst_cut hnf hcc hc9
                have hok := (zstep_ok hwo (by omega) hi4_2 hst).elim (fun z => absurd z.1 (by omega)) (fun z => z)
                have hpl := lnP_len s2.2 ((w.drop fr.toNat).take (r92 - fr).toNat)
                have hpl2 : ((w.drop fr.toNat).take (r92 - fr).toNat).length = (r92 - fr).toNat := by rw [List.length_take, List.length_drop]; omega
                have hpl3 := zfl_l (s2.1, lnPut s2.2 ((w.drop fr.toNat).take (r92 - fr).toNat))
                have hpl4 : (lnPut s2.2 ((w.drop fr.toNat).take (r92 - fr).toNat)).length ≤ s2.2.length + (r92 - fr).toNat + 1 := by split at hpl <;> omega
                have hpl5 : ((s2.1, lnPut s2.2 ((w.drop fr.toNat).take (r92 - fr).toNat)) : zLn).2.length = (lnPut s2.2 ((w.drop fr.toNat).take (r92 - fr).toNat)).length := rfl
                have hpl6 : ((s2.1, lnPut s2.2 ((w.drop fr.toNat).take (r92 - fr).toNat)) : zLn).1.flatten.length = s2.1.flatten.length := rfl
                refine lv_aload_n hx hb dX8_place_103 rfl (lv_at hl 5 rfl) ?_
                refine lv_aload_n hx hb dX8_place_104 rfl (lv_at hl 6 rfl) ?_
                refine lv_iload_n hx hb dX8_place_105 rfl (lv_at hl 4 rfl) ?_
                refine lv_iload hx hb dX8_place_106 (lv_at hl 0 rfl) ?_
                refine z_callv (z_runV (rest := []) (As := [.ref q, .int (iI fr), .int (iI r92)]) (n := 3) (ci := 11) hC hZ (met_X8_putPart l D cs A F2 a sg en wd s2 q w fr r92 hi4_5 hw2 ⟨by omega, by omega, by omega⟩ (by omega)) gv_X8_52 hd_X8_putPart rfl v0 rfl hl rfl (Nat.le_of_ble_eq_true rfl) ⟨Nat.le_of_ble_eq_true rfl, Nat.le_of_ble_eq_true rfl⟩ ⟨Nat.le_of_ble_eq_true rfl, Nat.le_of_ble_eq_true rfl⟩ dX8_place_108) hZ (fun F108 H locs hp108_c_40 hZ => ?_)
                obtain ⟨hky_41, hsy_41⟩ := hp108_c_40
                have hKy_41 : zko [a, sg, en] F F108 := hi4_4.trans hky_41
                obtain ⟨fy_41, ey_41, i0y_41, i1y_41, i2y_41, i3y_41, i4y_41, i5y_41, i6y_41⟩ := id hsy_41
                have hzly_41 := zfl_l (s2.1, lnPut s2.2 ((w.drop fr.toNat).take (r92 - fr).toNat))
                have hww_42 : oWd cs F108 q w := hw.keep3 hKy_41 h0 h1 h2
                refine lv_aload_n hx hb dX8_place_111 rfl (lv_at hl 5 rfl) ?_
                refine z_bipush hx hb dX8_place_112 (by decide) ?_
                refine z_callv (z_runV (rest := []) (As := [.int (iI 45)]) (n := 1) (ci := 11) hC hZ (met_X8_putSign l D cs A F108 a sg en wd (s2.1, lnPut s2.2 ((w.drop fr.toNat).take (r92 - fr).toNat)) 45 hsy_41 (by omega) (by omega)) gv_X8_60 hd_X8_putSign rfl i0y_41 rfl hl rfl (Nat.le_of_ble_eq_true rfl) ⟨Nat.le_of_ble_eq_true rfl, Nat.le_of_ble_eq_true rfl⟩ ⟨Nat.le_of_ble_eq_true rfl, Nat.le_of_ble_eq_true rfl⟩ dX8_place_114) hZ (fun F114 H locs hp114_c_43 hZ => ?_)
                obtain ⟨hky_44, hsy_44⟩ := hp114_c_43
                have hKy_44 : zko [a, sg, en] F F114 := hKy_41.trans hky_44
                obtain ⟨fy_44, ey_44, i0y_44, i1y_44, i2y_44, i3y_44, i4y_44, i5y_44, i6y_44⟩ := id hsy_44
                have hzly_44 := zfl_l ((s2.1, lnPut s2.2 ((w.drop fr.toNat).take (r92 - fr).toNat)).1, (s2.1, lnPut s2.2 ((w.drop fr.toNat).take (r92 - fr).toNat)).2 ++ [45])
                have hww_45 : oWd cs F114 q w := hw.keep3 hKy_44 h0 h1 h2
                refine lv_iload hx hb dX8_place_117 (lv_at hl 0 rfl) ?_
                refine lv_istore_n (lv' := [(2, .int (iI r92)), (6, .int (iI r92)), (5, .int (iI rm)), (4, .int (iI 1)), (3, .int (iI n)), (0, .ref a), (1, .ref q)]) hx hb dX8_place_119 rfl hl (by decide) rfl (fun ls hl => ?_)
                refine lv_goto (tgt := 130) hx hb dX8_place_120 (by decide) ?_
                refine lv_aload_n hx hb dX8_place_130 rfl (lv_at hl 5 rfl) ?_
                refine z_callv (z_runV (rest := []) (As := []) (n := 0) (ci := 11) hC hZ (met_X8_closeLine l D cs A F114 a sg en wd ((s2.1, lnPut s2.2 ((w.drop fr.toNat).take (r92 - fr).toNat)).1, (s2.1, lnPut s2.2 ((w.drop fr.toNat).take (r92 - fr).toNat)).2 ++ [45]) hsy_44 (show s2.1.length < 360 by omega)) gv_X8_39 hd_X8_closeLine rfl i0y_44 rfl hl rfl (Nat.le_of_ble_eq_true rfl) ⟨Nat.le_of_ble_eq_true rfl, Nat.le_of_ble_eq_true rfl⟩ ⟨Nat.le_of_ble_eq_true rfl, Nat.le_of_ble_eq_true rfl⟩ dX8_place_131) hZ (fun F131 H locs hp131_c_46 hZ => ?_)
                obtain ⟨hky_47, hsy_47⟩ := hp131_c_46
                have hKy_47 : zko [a, sg, en] F F131 := hKy_44.trans hky_47
                have hqy_47 : ((((s2.1, lnPut s2.2 ((w.drop fr.toNat).take (r92 - fr).toNat)).1, (s2.1, lnPut s2.2 ((w.drop fr.toNat).take (r92 - fr).toNat)).2 ++ [45]).1 ++ [((s2.1, lnPut s2.2 ((w.drop fr.toNat).take (r92 - fr).toNat)).1, (s2.1, lnPut s2.2 ((w.drop fr.toNat).take (r92 - fr).toNat)).2 ++ [45]).2], []) : zLn) = (s2.1 ++ [lnPut s2.2 ((w.drop fr.toNat).take (r92.toNat - fr.toNat)) ++ [45]], []) := (by rw [show (r92 - fr).toNat = r92.toNat - fr.toNat by omega])
                rw [hqy_47] at hsy_47
                obtain ⟨fy_47, ey_47, i0y_47, i1y_47, i2y_47, i3y_47, i4y_47, i5y_47, i6y_47⟩ := id hsy_47
                have hzly_47 := zfl_l (s2.1 ++ [lnPut s2.2 ((w.drop fr.toNat).take (r92.toNat - fr.toNat)) ++ [45]], [])
                have hww_48 : oWd cs F131 q w := hw.keep3 hKy_47 h0 h1 h2
                have hnz : zset wd w (24 - (n + 1)).toNat r92.toNat (s2.1 ++ [lnPut s2.2 ((w.drop fr.toNat).take (r92.toNat - fr.toNat)) ++ [45]], []) = zset wd w 24 0 st := by rw [← hi4_1, zset_g hst (by omega)]
                have hnl := hok.2.1
                have hnb := lsB_cut hi4_2 hi4_3 (c := r92.toNat) ⟨by omega, by omega⟩
                refine z_iinc (lv' := [(3, .int (iI (n + 1))), (2, .int (iI r92)), (6, .int (iI r92)), (5, .int (iI rm)), (4, .int (iI 1)), (0, .ref a), (1, .ref q)]) hx hb dX8_place_134 hl (k := 4) rfl (by decide) rfl (fun ls hl => ?_)
                refine lv_goto (tgt := 4) hx hb dX8_place_137 (by decide) ?_
                exact ih4 (n + 1) r92 F131 (s2.1 ++ [lnPut s2.2 ((w.drop fr.toNat).take (r92.toNat - fr.toNat)) ++ [45]], []) (by omega) (by omega) hnz hnl hnb hKy_47 hsy_47  _ _ hZ ls (lv_sub hl [0, 1, 5, 6] rfl)
            · skip
              have hst := zst_fit (wd := wd) (w := w) (fr := fr.toNat) (st := s2) (by rw [hZR]; omega)
              have hzs : zset wd w 24 0 st = some (s2.1, lnPut s2.2 (w.drop fr.toNat)) := by rw [← hi4_1]; exact zset_d hst
              have hok := (zstep_ok hwo (by omega) hi4_2 hst).elim (fun z => z) (fun z => absurd z.1 (Nat.lt_irrefl _))
              refine lv_aload_n hx hb dX8_place_74 rfl (lv_at hl 4 rfl) ?_
              refine lv_aload_n hx hb dX8_place_75 rfl (lv_at hl 5 rfl) ?_
              refine lv_iload_n hx hb dX8_place_76 rfl (lv_at hl 3 rfl) ?_
              refine lv_aload_n hx hb dX8_place_77 rfl (lv_at hl 5 rfl) ?_
              obtain ⟨fsho_49, ho_49⟩ := (hw2).o
              refine z_calli (z_runV (rest := [.int (iI fr), .ref q, .ref a]) (As := []) (n := 0) (ci := 14) hC hZ (met_X11_letterCount l D cs A F2 q w hw2) gv_X8_46 hd_X11_letterCount rfl ho_49 rfl hl rfl (Nat.le_of_ble_eq_true rfl) ⟨Nat.le_of_ble_eq_true rfl, Nat.le_of_ble_eq_true rfl⟩ ⟨Nat.le_of_ble_eq_true rfl, Nat.le_of_ble_eq_true rfl⟩ dX8_place_78) hZ (fun r78 F78 H locs hp78_c_50 hZ => ?_)
              obtain ⟨rfl, rfl⟩ := hp78_c_50
              refine z_callv (z_runV (rest := []) (As := [.ref q, .int (iI fr), .int (iI ((w).length : Int))]) (n := 3) (ci := 11) hC hZ (met_X8_putPart l D cs A F2 a sg en wd s2 q w fr ((w).length : Int) hi4_5 hw2 ⟨by omega, by omega, by omega⟩ (by omega)) gv_X8_52 hd_X8_putPart rfl v0 rfl hl rfl (Nat.le_of_ble_eq_true rfl) ⟨Nat.le_of_ble_eq_true rfl, Nat.le_of_ble_eq_true rfl⟩ ⟨Nat.le_of_ble_eq_true rfl, Nat.le_of_ble_eq_true rfl⟩ dX8_place_81) hZ (fun F81 H locs hp81_c_51 hZ => ?_)
              obtain ⟨hky_52, hsy_52⟩ := hp81_c_51
              have hKy_52 : zko [a, sg, en] F F81 := hi4_4.trans hky_52
              have hqy_52 : ((s2.1, lnPut s2.2 ((w.drop fr.toNat).take (((w).length : Int) - fr).toNat)) : zLn) = (s2.1, lnPut s2.2 (w.drop fr.toNat)) := (by rw [List.take_of_length_le (by rw [List.length_drop]; omega)])
              rw [hqy_52] at hsy_52
              obtain ⟨fy_52, ey_52, i0y_52, i1y_52, i2y_52, i3y_52, i4y_52, i5y_52, i6y_52⟩ := id hsy_52
              have hzly_52 := zfl_l (s2.1, lnPut s2.2 (w.drop fr.toNat))
              have hww_53 : oWd cs F81 q w := hw.keep3 hKy_52 h0 h1 h2
              refine z_iconst hx hb dX8_place_84 ?_
              exact z_zret hC hr hlk hZ rfl (by decide) (by decide) (⟨hKy_52, Or.inl ⟨_, hzs, rfl, hsy_52, hok.2.2.1, hok.2.2.2.1, hok.2.2.2.2.1, hok.2.2.2.2.2, lsB_fit hi4_2 hi4_3 (by omega) (by omega)⟩⟩) dX8_place_85
  exact L4_k_1 _ 0 0 F st (Nat.lt_succ_self _) (by omega) rfl hln hlb zko.refl hs1  _ _ hZ ls (lv_sub hl [0, 1, 2, 3] rfl)
