theorem mTt (t : List Int) : mT (fun _ => (t.length : Int)) (fun _ k => t.getD k.toNat 0) t := by
  refine ⟨rfl, fun k x h => ?_⟩
  show t.getD ((0 : Int) + k).toNat 0 = x
  rw [Int.zero_add, Int.toNat_natCast, List.getD_eq_getElem?_getD, h]
  rfl
theorem zbl_zsf (t : List Int) : (((zsf t).1.length : Nat) : Int) = zbl t := by
  refine snoc_ind (P := fun t => (((zsf t).1.length : Nat) : Int) = zbl t) rfl (fun l x ih => ?_) t
  rw [zsf_snoc]
  unfold zbl at ih ⊢
  rw [List.countP_append]
  by_cases q : x = 32
  · rw [if_pos q]
    simp [q]
    omega
  · rw [if_neg q]
    simp [q]
    omega
theorem zsp_bl (t : List Int) : (((zsp t).length : Nat) : Int) = zbl t + 1 := by
  unfold zsp
  rw [List.length_append, List.length_singleton, ← zbl_zsf]
  omega
theorem oWd.upr {cs : Nat → ClassId} {F : zF} {q q2 n : Nat} {c : ClassId} {w : zWd} {h : Int → Option Nat} {e : va_E} (ho : oWd cs F q w) (h2 : F q2 = some (zO c n h)) : oWd cs (zup F q2 e) q w := by
  obtain ⟨la, ca, f, g, w1, w2, w3, w4⟩ := ho
  exact ⟨la, ca, f, g, zup_k (zne w1 h2 (fun z => by cases z)) w1, zup_k (Ne.symm (zneR h2 w2)) w2, zup_k (Ne.symm (zneR h2 w3)) w3, w4⟩
/-- the letters of the words of a text -/
def zlt2 (t : List Int) : Prop := ∀ x ∈ t, x = 32 ∨ (97 ≤ x ∧ x ≤ 122)
theorem zsp_wdOK {t : List Int} (hz : zat t) (ht : zlt2 t) {i : Nat} {wd : zWd} (hw : (zsp t)[i]? = some wd) : wdOK wd := by
  refine ⟨hz wd (List.mem_of_getElem? hw), fun x hx => ?_⟩
  obtain ⟨k, hk⟩ := List.getElem?_of_mem hx
  have h1 := zsp_in (mTt t) hw hk
  have hl := (List.getElem?_eq_some_iff.mp hk).1
  have h2 := zsp_le (mTt t) hw
  have hlt : zpos (zsp t) i + k < t.length := by
    have h2 : (zpos (zsp t) i : Int) + wd.length ≤ (t.length : Int) := h2
    omega
  have h3 : t.getD (zpos (zsp t) i + k) 0 = x := by
    have : t.getD ((zpos (zsp t) i : Int) + k).toNat 0 = x := h1
    rwa [show ((zpos (zsp t) i : Int) + k).toNat = zpos (zsp t) i + k by omega] at this
  rw [List.getD_eq_getElem?_getD, List.getElem?_eq_getElem hlt] at h3
  have h4 : x ∈ t := by rw [← h3]; exact List.getElem_mem hlt
  rcases ht x h4 with q | q
  · exact absurd q (((zsp_ok t).2 i wd hw).2.1 x hx)
  · exact q
set_option maxHeartbeats 4000000 in
set_option maxRecDepth 100000 in
theorem met_X2_cutIntoWords (l : Launch) (D : va_G) (cs : Nat → ClassId) (A : Nat → Prop) (F : zF) (a sg : Nat) (t : List Int)  (hb1 : oBf cs F a sg t) (hz : zat t) (ht : zlt2 t) : zM l D cs A yX2_cutIntoWords cX2_cutIntoWords 5 (some (FieldType.array (FieldType.object "StoneGazette$Word"))) 4 91 840 [.ref a] F (pR (fun r F1 => zle F F1 ∧ F r = none ∧ oWs cs F1 r (zsp t))) := by
  refine zM_of (own := RX2) (by decide) rfl (Nat.le_of_ble_eq_true rfl) ?_
  intro p e s m below meth c hC hr hlk hnm hZ ls hl
  have hx := hC.x
  have hb := hC.b
  have hl : lv_has ls 5 [(0, .ref a)] := hl
  obtain ⟨f_, h0, h1, h2, h3, h4⟩ := id hb1
  have hzb := zsp_bl t
  have h30 := zat_30 hz h2
  refine lv_aload_n hx hb dX2_cutIntoWords_0 rfl (lv_at hl 0 rfl) ?_
  refine z_calli (z_runV (rest := []) (As := []) (n := 0) (ci := 6) hC hZ (met_X2_countBlanks l D cs A F a sg t hb1) gv_X2_25 hd_X2_countBlanks rfl h0 rfl hl rfl (Nat.le_of_ble_eq_true rfl) ⟨Nat.le_of_ble_eq_true rfl, Nat.le_of_ble_eq_true rfl⟩ ⟨Nat.le_of_ble_eq_true rfl, Nat.le_of_ble_eq_true rfl⟩ dX2_cutIntoWords_1) hZ (fun r1 F1 H locs hp1_c_1 hZ => ?_)
  obtain ⟨rfl, rfl⟩ := hp1_c_1
  refine z_iconst hx hb dX2_cutIntoWords_4 ?_
  refine z_iadd hx hb dX2_cutIntoWords_5 ?_
  refine z_top (y := (((zsp t).length : Nat) : Int)) (by omega) ?_
  refine z_newr (C := "StoneGazette$Word") (n := (((zsp t).length : Nat) : Int)) 4 (hC := hC) (hZ := hZ) rfl qk_X2_33 hC.G.2.2.1.1 (by omega) (Nat.le_of_ble_eq_true rfl) (by show _ ≤ 840; omega) dX2_cutIntoWords_6 (fun q6 H hq6 hZ => ?_)
  have hnt6 : ((((zsp t).length : Nat) : Int)).toNat = (zsp t).length := (Int.toNat_natCast _)
  rw [hnt6] at hZ
  rw [hnt6]
  have hf_2 : (zup F q6 (zO (cs 4) ((zsp t).length) (fun _ => none))) a = some (.inr (6, [.ref sg, .int (iI (t.length : Int))])) := zup_k (zF_ne h0 hq6.1) h0
  have hf_3 : (zup F q6 (zO (cs 4) ((zsp t).length) (fun _ => none))) sg = some (zA (cs 1) 60 f_) := zup_k (zF_ne h1 hq6.1) h1
  have hf_4 : (zup F q6 (zO (cs 4) ((zsp t).length) (fun _ => none))) q6 = some (zO (cs 4) ((zsp t).length) (fun _ => none)) := zup_s
  replace hZ : zS D A s (zup F q6 (zO (cs 4) ((zsp t).length) (fun _ => none))) _ _ := hZ
  refine lv_astore_n (lv' := [(1, .ref q6), (0, .ref a)]) hx hb dX2_cutIntoWords_9 rfl hl (by decide) rfl (fun ls hl => ?_)
  refine z_iconst hx hb dX2_cutIntoWords_10 ?_
  refine lv_istore_n (lv' := [(2, .int (iI 0)), (1, .ref q6), (0, .ref a)]) hx hb dX2_cutIntoWords_11 rfl hl (by decide) rfl (fun ls hl => ?_)
  refine z_iconst hx hb dX2_cutIntoWords_12 ?_
  refine lv_istore_n (lv' := [(3, .int (iI 0)), (2, .int (iI 0)), (1, .ref q6), (0, .ref a)]) hx hb dX2_cutIntoWords_13 rfl hl (by decide) rfl (fun ls hl => ?_)
  have L14_k_5 : ∀ (fu : Nat) (k : Int) (F2 : zF) (q2 : Nat) (g2 : Int → Option Nat) (hfu : (((zsp t).length : Int) - k).toNat < fu) (hi14_0 : 0 ≤ k ∧ k ≤ ((zsp t).length : Int)) (hi14_1 : zle F F2) (hi14_2 : F2 q2 = some (zO (cs 4) (zsp t).length g2)) (hi14_3 : ∀ j : Int, 0 ≤ j → j < k → ∃ q : Nat, g2 j = some q ∧ oWd cs F2 q ((zsp t).getD j.toNat [])) (hi14_4 : F q2 = none) (H : Heap) (locs : List Loc) (hZ : zS D A s F2 H locs) (ls : Array Slot) (hl : lv_has ls 5 [(3, .int (iI k)), (2, .int (iI (zpos (zsp t) k.toNat : Int))), (1, .ref q2), (0, .ref a)]), W p l e (zR 4 91 840) s m [.ref a].toArray below meth c H locs (1 + 3 * k.toNat) ((zsp t).length + 26 * k.toNat) (MQ below (zQ D A (pR (fun r F1 => zle F F1 ∧ F r = none ∧ oWs cs F1 r (zsp t)))) [.ref a].toArray s 91 840 A) (F0 m 14 ls []) := by
    intro fu
    induction fu with
    | zero =>
      intro k F2 q2 g2 hfu
      exact absurd hfu (Nat.not_lt_zero _)
    | succ fu ih14 =>
      intro k F2 q2 g2 hfu hi14_0 hi14_1 hi14_2 hi14_3 hi14_4  H locs hZ ls hl
      have g0 : F2 a = _ := hi14_1 _ _ h0
      have hb2 : oBf cs F2 a sg t := hb1.mono hi14_1
      refine lv_iload_n hx hb dX2_cutIntoWords_14 rfl (lv_at hl 0 rfl) ?_
      refine lv_aload_n hx hb dX2_cutIntoWords_15 rfl (lv_at hl 2 rfl) ?_
      refine z_alen (t := 4) hC hZ hi14_2 rfl dX2_cutIntoWords_16 ?_
      refine z_icmp_ge (tgt := 48) hx hb dX2_cutIntoWords_17 (by decide) (by omega) (by omega) (fun c_6 => ?_) (fun c_6 => ?_)
      · skip
        have hkn : k = (zsp t).length := by omega
        refine lv_aload_n hx hb dX2_cutIntoWords_48 rfl (lv_at hl 2 rfl) ?_
        exact z_aret hC hr (Or.inr ⟨_, rfl⟩) hlk hZ (by omega) (by omega) (⟨hi14_1, hi14_4, g2, hi14_2, fun j j0 j1 => hi14_3 j j0 (by omega)⟩) dX2_cutIntoWords_49
      · skip
        have hkl : k.toNat < (zsp t).length := by omega
        have hwk : (zsp t)[k.toNat]? = some ((zsp t).getD k.toNat []) := by rw [List.getD_eq_getElem?_getD, List.getElem?_eq_getElem hkl]; rfl
        have hwo := zsp_wdOK hz ht hwk
        have hwl := hwo.1
        have hle := zsp_le (mTt t) hwk
        have hle : (zpos (zsp t) k.toNat : Int) + ((zsp t).getD k.toNat []).length ≤ (t.length : Int) := hle
        have hps := zpos_s hwk
        refine lv_aload_n hx hb dX2_cutIntoWords_20 rfl (lv_at hl 3 rfl) ?_
        refine lv_iload_n hx hb dX2_cutIntoWords_21 rfl (lv_at hl 1 rfl) ?_
        refine z_calli (z_runV (rest := []) (As := [.int (iI (zpos (zsp t) k.toNat : Int))]) (n := 1) (ci := 6) hC hZ (met_X2_endOfWord l D cs A F2 a sg t (zpos (zsp t) k.toNat : Int) hb2 (by omega)) gv_X2_35 hd_X2_endOfWord rfl g0 rfl hl rfl (Nat.le_of_ble_eq_true rfl) ⟨Nat.le_of_ble_eq_true rfl, Nat.le_of_ble_eq_true rfl⟩ ⟨(by show _ ≤ 91; omega), (by show _ ≤ 840; omega)⟩ dX2_cutIntoWords_22) hZ (fun r22 F22 H locs hp22_c_7 hZ => ?_)
        obtain ⟨rfl, hp22_c_7⟩ := hp22_c_7
        obtain ⟨hr1, hr2, hr3, hr4⟩ := hp22_c_7
        have hre : r22 = zpos (zsp t) k.toNat + ((zsp t).getD k.toNat []).length := zsp_end (mTt t) hwk hr1 hr2 hr3 (by
          by_cases q : r22 < t.length
          · exact Or.inr (hr4 q)
          · exact Or.inl (show r22 = (t.length : Int) by omega))
        refine lv_istore (lv' := [(4, .int (iI r22)), (3, .int (iI k)), (2, .int (iI (zpos (zsp t) k.toNat : Int))), (1, .ref q2), (0, .ref a)]) hx hb dX2_cutIntoWords_25 hl (by decide) rfl (fun ls hl => ?_)
        refine lv_aload_n hx hb dX2_cutIntoWords_27 rfl (lv_at hl 3 rfl) ?_
        refine lv_iload_n hx hb dX2_cutIntoWords_28 rfl (lv_at hl 1 rfl) ?_
        refine lv_aload_n hx hb dX2_cutIntoWords_29 rfl (lv_at hl 4 rfl) ?_
        refine lv_iload_n hx hb dX2_cutIntoWords_30 rfl (lv_at hl 2 rfl) ?_
        refine lv_iload hx hb dX2_cutIntoWords_31 (lv_at hl 0 rfl) ?_
        refine z_callr (z_runV (rest := [.int (iI k), .ref q2]) (As := [.int (iI (zpos (zsp t) k.toNat : Int)), .int (iI r22)]) (n := 2) (ci := 6) hC hZ (met_X2_wordBetween l D cs A F2 a sg t (zpos (zsp t) k.toNat : Int) r22 ((zsp t).getD k.toNat []) hb2 ⟨by omega, by omega, by omega⟩ (by omega) (fun j j0 j1 => by have hj : j.toNat < ((zsp t).getD k.toNat []).length := (by omega); have hz9 := zsp_in (mTt t) hwk (k := j.toNat) (List.getElem?_eq_getElem hj); rw [List.getD_eq_getElem?_getD, List.getElem?_eq_getElem hj]; rw [show (j.toNat : Int) = j by omega] at hz9; exact hz9.symm) hwo) gv_X2_39 hd_X2_wordBetween rfl g0 rfl hl rfl (Nat.le_of_ble_eq_true rfl) ⟨Nat.le_of_ble_eq_true rfl, Nat.le_of_ble_eq_true rfl⟩ ⟨(by show _ ≤ 91; omega), (by show _ ≤ 840; omega)⟩ dX2_cutIntoWords_33) hZ (fun r33 F33 H locs hp33_c_8 hZ => ?_)
        obtain ⟨hle33, hnn33, how33⟩ := hp33_c_8
        have hf_9 : F33 a = some (.inr (6, [.ref sg, .int (iI (t.length : Int))])) := hle33.ko _ _ g0 zni0
        have hf_10 : F33 q2 = some (zO (cs 4) ((zsp t).length) g2) := hle33.ko _ _ hi14_2 zni0
        obtain ⟨fsv33, hov33⟩ := how33.o
        refine z_aast (ci := 14) (E := "StoneGazette$Word") hC hZ 4 hf_10 rfl hov33 rfl (Or.inl rfl) (by omega) (by omega) dX2_cutIntoWords_36 (fun H locs hZ => ?_)
        have hf_11 : (zup F33 q2 (zO (cs 4) ((zsp t).length) (upI g2 k (some r33)))) a = some (.inr (6, [.ref sg, .int (iI (t.length : Int))])) := zup_k (zne hf_9 hf_10 (fun q => by cases q)) hf_9
        have hf_12 : (zup F33 q2 (zO (cs 4) ((zsp t).length) (upI g2 k (some r33)))) q2 = some (zO (cs 4) ((zsp t).length) (upI g2 k (some r33))) := zup_s
        replace hZ : zS D A s (zup F33 q2 (zO (cs 4) ((zsp t).length) (upI g2 k (some r33)))) _ _ := hZ
        refine lv_iload hx hb dX2_cutIntoWords_37 (lv_at hl 0 rfl) ?_
        refine z_iconst hx hb dX2_cutIntoWords_39 ?_
        refine z_iadd hx hb dX2_cutIntoWords_40 ?_
        refine z_top (y := ((zpos (zsp t) (k + 1).toNat : Nat) : Int)) (by rw [show (k + 1).toNat = k.toNat + 1 by omega, hps]; omega) ?_
        refine lv_istore_n (lv' := [(2, .int (iI ((zpos (zsp t) (k + 1).toNat : Nat) : Int))), (4, .int (iI r22)), (3, .int (iI k)), (1, .ref q2), (0, .ref a)]) hx hb dX2_cutIntoWords_41 rfl hl (by decide) rfl (fun ls hl => ?_)
        refine z_iinc (lv' := [(3, .int (iI (k + 1))), (2, .int (iI ((zpos (zsp t) (k + 1).toNat : Nat) : Int))), (4, .int (iI r22)), (1, .ref q2), (0, .ref a)]) hx hb dX2_cutIntoWords_42 hl (k := 2) rfl (by decide) rfl (fun ls hl => ?_)
        refine lv_goto (tgt := 14) hx hb dX2_cutIntoWords_45 (by decide) ?_
        refine W.widen (k := (1 + 3 * (k + 1).toNat)) (n := ((zsp t).length + 26 * (k + 1).toNat)) (by omega) (by omega) ?_
        exact ih14 (k + 1) (zup F33 q2 (zO (cs 4) ((zsp t).length) (upI g2 k (some r33)))) q2 (upI g2 k (some r33)) (by omega) (by omega) ((hi14_1.trans hle33).up hi14_4) hf_12 (fun j j0 j1 => by unfold upI; by_cases q : j = k; (rw [if_pos q, q]; exact ⟨r33, rfl, how33.upr (hle33 _ _ hi14_2)⟩); rw [if_neg q]; obtain ⟨q9, e9, o9⟩ := hi14_3 j j0 (by omega); exact ⟨q9, e9, (o9.mono hle33).upr (hle33 _ _ hi14_2)⟩) hi14_4  _ _ hZ ls (lv_sub hl [0, 1, 3, 4] rfl)
  refine W.widen (k := (1 + 3 * (0 : Int).toNat)) (n := ((zsp t).length + 26 * (0 : Int).toNat)) (by omega) (by omega) ?_
  exact L14_k_5 _ (0 : Int) (zup F q6 (zO (cs 4) ((zsp t).length) (fun _ => none))) q6 (fun _ => none) (Nat.lt_succ_self _) (by omega) (zle.fresh hq6.1) hf_4 (fun j j0 j1 => absurd j0 (by omega)) hq6.1  _ _ hZ ls (lv_sub hl [0, 1, 2, 3] rfl)
