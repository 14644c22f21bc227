section NLD
variable {p : Program} {l : Launch} {e : Env} {R : Room} {s : State} {m : MethodId} {args : Array Value} {below : List Frame} {meth : Method} {c : Code} {H : Heap} {locs : List Loc} {cells slots : Nat} {Q : State → Prop}
variable {cc : ByteArray} {pc nL : Nat} {ls : Array Slot} {rest : List Value} {own : String} {D : va_G} {cs : Nat → ClassId} {A : Nat → Prop}
theorem z_ldcwi (hC : zC p s m args c cc nL own D cs A) {index : Nat} {v : Int32} {z : Int} (hk : Cond.constant own index v ∈ ZALL) (hv : v = iI z) (d : decode cc pc = .ok (.ldc_w index, 3)) (k : W p l e R s m args below meth c H locs cells slots Q (F0 m (pc + 3) ls (.int (iI z) :: rest))) : W p l e R s m args below meth c H locs cells slots Q (F0 m pc ls rest) :=
  lv_ldcw hC.x hC.b hC.ow (hC.ts hk) d (by rw [hv]; exact k)
end NLD
def zlW (ws : List zWd) : List Int := ws.map (fun w => (w.length : Int))
theorem zlW_d {ws : List zWd} {i : Int} (h0 : 0 ≤ i) (h1 : i < ws.length) : (zlW ws).drop i.toNat = ((ws.getD i.toNat []).length : Int) :: (zlW ws).drop (i + 1).toNat := by
  have hl : i.toNat < ws.length := by omega
  have hl2 : i.toNat < (zlW ws).length := by unfold zlW; rw [List.length_map]; exact hl
  rw [List.drop_eq_getElem_cons hl2, show (i + 1).toNat = i.toNat + 1 by omega, List.getD_eq_getElem?_getD, List.getElem?_eq_getElem hl]
  congr 1
  exact List.getElem_map (fun w : zWd => (w.length : Int))
theorem zlW_l (ws : List zWd) : (zlW ws).length = ws.length := by unfold zlW; rw [List.length_map]
theorem zsc_1b {w : Int} {ls : List Int} (hw : w ≤ 20) (hf : zfit w ls) (hn : ls.length ≤ 30) (hne : ls ≠ []) : zlb w ls = zsc w (-1) 999999 ls := by
  cases ls with
  | nil => exact absurd rfl hne
  | cons l ls =>
    have hl := hf l List.mem_cons_self
    have h1 := zlb_bd hw ls (fun x hx => hf x (List.mem_cons_of_mem _ hx))
    have h2 := sq_bd (z := w - (-1 + l + 1)) (n := 20) (by omega)
    have hn2 : ls.length ≤ 30 := by rw [List.length_cons] at hn; omega
    have h3 : (if ls = [] then 0 else (w - (-1 + l + 1)) * (w - (-1 + l + 1))) + zlb w ls ≤ 999999 := by
      split <;> omega
    rw [zlb_cons]
    unfold zsc
    rw [if_pos (show -1 + l + 1 ≤ w by omega), if_pos (show -1 + l + 1 ≤ w by omega), Int.min_eq_right (Int.le_trans h3 (by decide)), Int.min_eq_right h3]
/-- a step of the scan -/
theorem zsc_in {w s b m : Int} {ws : List zWd} {i : Int} (h0 : 0 ≤ i) (h1 : i < ws.length) (hs : s + (ws.getD i.toNat []).length + 1 ≤ w) (hm : m = min b ((if i + 1 = ws.length then 0 else (w - (s + (ws.getD i.toNat []).length + 1)) * (w - (s + (ws.getD i.toNat []).length + 1))) + zlb w ((zlW ws).drop (i + 1).toNat))) : zsc w s b ((zlW ws).drop i.toNat) = zsc w (s + (ws.getD i.toNat []).length + 1) m ((zlW ws).drop (i + 1).toNat) := by
  rw [zlW_d h0 h1]
  conv => lhs; unfold zsc
  rw [if_pos hs, hm]
  congr 3
  by_cases q : i + 1 = ws.length
  · rw [if_pos q, if_pos (List.drop_eq_nil_of_le (by rw [zlW_l]; omega))]
  · rw [if_neg q, if_neg (fun z => by have := congrArg List.length z; rw [List.length_drop, zlW_l] at this; simp at this; omega)]
theorem zsc_out {w s b : Int} {ws : List zWd} {i : Int} (h0 : 0 ≤ i) (h1 : i < ws.length) (hs : w < s + (ws.getD i.toNat []).length + 1) : zsc w s b ((zlW ws).drop i.toNat) = zsc w (s + (ws.getD i.toNat []).length + 1) b ((zlW ws).drop (i + 1).toNat) := by
  rw [zsc_over (w := w) (s := s + (ws.getD i.toNat []).length + 1) _ (fun l hl => by
    have := List.mem_of_mem_drop hl
    unfold zlW at this
    obtain ⟨y, -, rfl⟩ := List.mem_map.mp this
    exact Int.natCast_nonneg _) (by omega), zlW_d h0 h1]
  unfold zsc
  rw [if_neg (by omega)]
theorem zlW_fit {w : Int} {ws : List zWd} (h : zfit w (zlW ws)) {i : Int} (h0 : 0 ≤ i) (h1 : i < ws.length) : 1 ≤ ((ws.getD i.toNat []).length : Int) ∧ ((ws.getD i.toNat []).length : Int) ≤ w := by
  refine h _ ?_
  unfold zlW
  have hl : i.toNat < ws.length := by omega
  rw [List.getD_eq_getElem?_getD, List.getElem?_eq_getElem hl]
  exact List.mem_map.mpr ⟨_, List.getElem_mem hl, rfl⟩
set_option maxHeartbeats 4000000 in
set_option maxRecDepth 100000 in
theorem lm_least1 (l : Launch) (D : va_G) (cs : Nat → ClassId) (A : Nat → Prop) (X : zF) (a : Nat) (ws : List zWd) (w first : Int)  (hA : oSs7 cs X a ws) (hfit : zfit w (zlW ws)) (hwi : 4 ≤ w ∧ w ≤ 20) (hf0 : 0 ≤ first ∧ first < ws.length) (hf1 : (ws.length : Int) - first ≤ 1) (hw9 : ws.length ≤ 9) : zM l D cs A yL_leastOf cL_leastOf 7 (some FieldType.int) 4 0 0 [.ref a, .int (iI w), .int (iI first)] X (pI (fun r X1 => X = X1 ∧ zlb w ((zlW ws).drop first.toNat) = r)) := by
  refine zM_of (own := RL) (by decide) rfl (Nat.le_of_ble_eq_true rfl) ?_
  intro p e s m below meth c hC hr hlk hnm hZ ls hl
  have hx := hC.x
  have hb := hC.b
  have hl : lv_has ls 7 [(0, .ref a), (1, .int (iI w)), (2, .int (iI first))] := hl
  have hW := zW3.ofX hZ
  refine z_ldcwi (z := 999999) hC qz_1418 rfl dL_leastOf_0 ?_
  refine lv_istore_n (lv' := [(3, .int (iI 999999)), (0, .ref a), (1, .int (iI w)), (2, .int (iI first))]) hx hb dL_leastOf_3 rfl hl (by decide) rfl (fun ls hl => ?_)
  refine z_iconst hx hb dL_leastOf_4 ?_
  refine lv_istore (lv' := [(4, .int (iI (-1))), (3, .int (iI 999999)), (0, .ref a), (1, .int (iI w)), (2, .int (iI first))]) hx hb dL_leastOf_5 hl (by decide) rfl (fun ls hl => ?_)
  refine lv_iload_n hx hb dL_leastOf_7 rfl (lv_at hl 4 rfl) ?_
  refine lv_istore (lv' := [(5, .int (iI first)), (4, .int (iI (-1))), (3, .int (iI 999999)), (0, .ref a), (1, .int (iI w)), (2, .int (iI first))]) hx hb dL_leastOf_8 hl (by decide) rfl (fun ls hl => ?_)
  have L10_k_1 : ∀ (fu : Nat) (i sm b : Int)  (hfu : ((ws.length : Int) - i).toNat < fu) (hi10_0 : first ≤ i ∧ i ≤ ws.length) (hi10_1 : -1 ≤ sm ∧ sm ≤ 30 * (i - first)) (hi10_2 : 0 ≤ b ∧ b ≤ 999999) (hi10_3 : zlb w ((zlW ws).drop first.toNat) = zsc w sm b ((zlW ws).drop i.toNat)) (H : Heap) (locs : List Loc) (hW : zW3 D A s zE zE X H locs) (ls : Array Slot) (hl : lv_has ls 7 [(5, .int (iI i)), (4, .int (iI sm)), (3, .int (iI b)), (0, .ref a), (1, .int (iI w)), (2, .int (iI first))]), W p l e (zR 4 0 0) s m [.ref a, .int (iI w), .int (iI first)].toArray below meth c H locs 0 0 (MQ below (zQ D A (pI (fun r X1 => X = X1 ∧ zlb w ((zlW ws).drop first.toNat) = r))) [.ref a, .int (iI w), .int (iI first)].toArray s 0 0 A) (F0 m 10 ls []) := by
    intro fu
    induction fu with
    | zero =>
      intro i sm b  hfu
      exact absurd hfu (Nat.not_lt_zero _)
    | succ fu ih10 =>
      intro i sm b  hfu hi10_0 hi10_1 hi10_2 hi10_3  H locs hW ls hl
      refine lv_iload hx hb dL_leastOf_10 (lv_at hl 0 rfl) ?_
      refine lv_aload_n hx hb dL_leastOf_12 rfl (lv_at hl 3 rfl) ?_
      obtain ⟨fa_2, hfa_2, h2fa_2⟩ := id hA
      refine z_alen (t := 7) hC hW.x hfa_2 rfl dL_leastOf_13 ?_
      refine z_icmp_ge (tgt := 84) hx hb dL_leastOf_14 (by decide) (by omega) (by omega) (fun c_3 => ?_) (fun c_3 => ?_)
      · skip
        refine lv_iload_n hx hb dL_leastOf_84 rfl (lv_at hl 2 rfl) ?_
        exact z_iret hC hr hlk hW.x (by decide) (by decide) (⟨rfl, by rw [hi10_3, show (zlW ws).drop i.toNat = [] from List.drop_eq_nil_of_le (by rw [zlW_l]; omega)]; rfl⟩) dL_leastOf_85
      · skip
        refine lv_iload hx hb dL_leastOf_17 (lv_at hl 1 rfl) ?_
        refine lv_aload_n hx hb dL_leastOf_19 rfl (lv_at hl 3 rfl) ?_
        refine lv_iload hx hb dL_leastOf_20 (lv_at hl 0 rfl) ?_
        have hwf := zlW_fit hfit (i := i) (by omega) (by omega)
        obtain ⟨fa_4, hfa_4, h2fa_4⟩ := id hA
        obtain ⟨q22, vq22, h3fa_4, hsq22⟩ := h2fa_4 i (by omega) (by omega)
        refine z_aald (t := 7) (C := "java/lang/String") (v := some q22) hC hW.x hfa_4 rfl (by omega) (by omega) h3fa_4 dL_leastOf_22 ?_
        refine z_cXi hC (z_frSt (rest := [.int (iI sm)]) (As := []) (n := 0) hC hW.x (mes_length l D cs (zfA X _) X q22 vq22 (ws.getD i.toNat []) hsq22) gv_L_138 hd_J0_length_8abf5 hsq22 rfl hl rfl (Nat.le_of_ble_eq_true rfl) ⟨Nat.le_of_ble_eq_true rfl, Nat.le_of_ble_eq_true rfl⟩ ⟨Nat.le_of_ble_eq_true rfl, Nat.le_of_ble_eq_true rfl⟩ dL_leastOf_23) hW (fun r23 X23 H locs hp23 hW => ?_)
        obtain ⟨rfl, rfl⟩ := hp23
        refine z_iconst hx hb dL_leastOf_26 ?_
        refine z_iadd hx hb dL_leastOf_27 ?_
        refine z_iadd hx hb dL_leastOf_28 ?_
        refine z_top (y := sm + ((ws.getD i.toNat []).length : Int) + 1) (by omega) ?_
        refine lv_istore (lv' := [(4, .int (iI (sm + ((ws.getD i.toNat []).length : Int) + 1))), (5, .int (iI i)), (3, .int (iI b)), (0, .ref a), (1, .int (iI w)), (2, .int (iI first))]) hx hb dL_leastOf_29 hl (by decide) rfl (fun ls hl => ?_)
        refine lv_iload hx hb dL_leastOf_31 (lv_at hl 0 rfl) ?_
        refine lv_iload_n hx hb dL_leastOf_33 rfl (lv_at hl 4 rfl) ?_
        refine z_icmp_gt (tgt := 78) hx hb dL_leastOf_34 (by decide) (by omega) (by omega) (fun c_5 => ?_) (fun c_5 => ?_)
        · skip
          refine z_iinc (lv' := [(5, .int (iI (i + 1))), (4, .int (iI (sm + ((ws.getD i.toNat []).length : Int) + 1))), (3, .int (iI b)), (0, .ref a), (1, .int (iI w)), (2, .int (iI first))]) hx hb dL_leastOf_78 hl (k := 1) rfl (by decide) rfl (fun ls hl => ?_)
          refine lv_goto (tgt := 10) hx hb dL_leastOf_81 (by decide) ?_
          exact ih10 (i + 1) (sm + ((ws.getD i.toNat []).length : Int) + 1) b  (by omega) (by omega) (by omega) (by omega) (by rw [hi10_3]; exact zsc_out (by omega) (by omega) (by omega))  _ _ hW ls (lv_sub hl [0, 1, 2, 3, 4, 5] rfl)
        · skip
          refine lv_iload hx hb dL_leastOf_37 (lv_at hl 1 rfl) ?_
          refine lv_aload_n hx hb dL_leastOf_39 rfl (lv_at hl 3 rfl) ?_
          obtain ⟨fa_6, hfa_6, h2fa_6⟩ := id hA
          refine z_alen (t := 7) hC hW.x hfa_6 rfl dL_leastOf_40 ?_
          refine z_iconst hx hb dL_leastOf_41 ?_
          refine z_isub hx hb dL_leastOf_42 ?_
          refine z_icmp_ne (tgt := 50) hx hb dL_leastOf_43 (by decide) (by omega) (by omega) (fun c_7 => ?_) (fun c_7 => ?_)
          · skip
            exfalso; omega
          · skip
            refine z_iconst hx hb dL_leastOf_46 ?_
            refine lv_goto (tgt := 69) hx hb dL_leastOf_47 (by decide) ?_
            refine lv_istore (lv' := [(6, .int (iI 0)), (4, .int (iI (sm + ((ws.getD i.toNat []).length : Int) + 1))), (5, .int (iI i)), (3, .int (iI b)), (0, .ref a), (1, .int (iI w)), (2, .int (iI first))]) hx hb dL_leastOf_69 hl (by decide) rfl (fun ls hl => ?_)
            refine lv_iload_n hx hb dL_leastOf_71 rfl (lv_at hl 3 rfl) ?_
            refine lv_iload hx hb dL_leastOf_72 (lv_at hl 0 rfl) ?_
            refine z_mmin (rest := []) hC hl qm_L_302 (by omega) (by omega) ⟨Nat.le_of_ble_eq_true rfl, Nat.le_of_ble_eq_true rfl⟩ ⟨Nat.le_of_ble_eq_true rfl, Nat.le_of_ble_eq_true rfl⟩ dL_leastOf_74 (fun r74 hmx74 => ?_)
            refine lv_istore_n (lv' := [(3, .int (iI r74)), (6, .int (iI 0)), (4, .int (iI (sm + ((ws.getD i.toNat []).length : Int) + 1))), (5, .int (iI i)), (0, .ref a), (1, .int (iI w)), (2, .int (iI first))]) hx hb dL_leastOf_77 rfl hl (by decide) rfl (fun ls hl => ?_)
            refine z_iinc (lv' := [(5, .int (iI (i + 1))), (3, .int (iI r74)), (6, .int (iI 0)), (4, .int (iI (sm + ((ws.getD i.toNat []).length : Int) + 1))), (0, .ref a), (1, .int (iI w)), (2, .int (iI first))]) hx hb dL_leastOf_78 hl (k := 3) rfl (by decide) rfl (fun ls hl => ?_)
            refine lv_goto (tgt := 10) hx hb dL_leastOf_81 (by decide) ?_
            exact ih10 (i + 1) (sm + ((ws.getD i.toNat []).length : Int) + 1) r74  (by omega) (by omega) (by omega) (by omega) (by rw [hi10_3]; exact zsc_in (by omega) (by omega) (by omega) (by first | (rw [if_pos (by omega), show (zlW ws).drop (i + 1).toNat = [] from List.drop_eq_nil_of_le (by rw [zlW_l]; omega), zlb_nil]; omega) | (rw [if_neg (by omega)]; omega)))  _ _ hW ls (lv_sub hl [0, 3, 1, 4, 5, 6] rfl)
  exact L10_k_1 _ first (-1) 999999  (Nat.lt_succ_self _) ⟨by omega, by omega⟩ ⟨by decide, by omega⟩ ⟨by decide, by decide⟩ (zsc_1b (by omega) (fun x hx => hfit x (List.mem_of_mem_drop hx)) (by rw [List.length_drop, zlW_l]; omega) (fun z => by have := congrArg List.length z; rw [List.length_drop, zlW_l] at this; simp at this; omega))  _ _ hW ls (lv_sub hl [0, 1, 2, 3, 4, 5] rfl)

set_option maxHeartbeats 4000000 in
set_option maxRecDepth 100000 in
theorem lm_least2 (l : Launch) (D : va_G) (cs : Nat → ClassId) (A : Nat → Prop) (X : zF) (a : Nat) (ws : List zWd) (w first : Int)  (hA : oSs7 cs X a ws) (hfit : zfit w (zlW ws)) (hwi : 4 ≤ w ∧ w ≤ 20) (hf0 : 0 ≤ first ∧ first < ws.length) (hf1 : (ws.length : Int) - first ≤ 2) (hw9 : ws.length ≤ 9) : zM l D cs A yL_leastOf cL_leastOf 7 (some FieldType.int) 5 0 0 [.ref a, .int (iI w), .int (iI first)] X (pI (fun r X1 => X = X1 ∧ zlb w ((zlW ws).drop first.toNat) = r)) := by
  refine zM_of (own := RL) (by decide) rfl (Nat.le_of_ble_eq_true rfl) ?_
  intro p e s m below meth c hC hr hlk hnm hZ ls hl
  have hx := hC.x
  have hb := hC.b
  have hl : lv_has ls 7 [(0, .ref a), (1, .int (iI w)), (2, .int (iI first))] := hl
  have hW := zW3.ofX hZ
  refine z_ldcwi (z := 999999) hC qz_1418 rfl dL_leastOf_0 ?_
  refine lv_istore_n (lv' := [(3, .int (iI 999999)), (0, .ref a), (1, .int (iI w)), (2, .int (iI first))]) hx hb dL_leastOf_3 rfl hl (by decide) rfl (fun ls hl => ?_)
  refine z_iconst hx hb dL_leastOf_4 ?_
  refine lv_istore (lv' := [(4, .int (iI (-1))), (3, .int (iI 999999)), (0, .ref a), (1, .int (iI w)), (2, .int (iI first))]) hx hb dL_leastOf_5 hl (by decide) rfl (fun ls hl => ?_)
  refine lv_iload_n hx hb dL_leastOf_7 rfl (lv_at hl 4 rfl) ?_
  refine lv_istore (lv' := [(5, .int (iI first)), (4, .int (iI (-1))), (3, .int (iI 999999)), (0, .ref a), (1, .int (iI w)), (2, .int (iI first))]) hx hb dL_leastOf_8 hl (by decide) rfl (fun ls hl => ?_)
  have L10_k_1 : ∀ (fu : Nat) (i sm b : Int)  (hfu : ((ws.length : Int) - i).toNat < fu) (hi10_0 : first ≤ i ∧ i ≤ ws.length) (hi10_1 : -1 ≤ sm ∧ sm ≤ 30 * (i - first)) (hi10_2 : 0 ≤ b ∧ b ≤ 999999) (hi10_3 : zlb w ((zlW ws).drop first.toNat) = zsc w sm b ((zlW ws).drop i.toNat)) (H : Heap) (locs : List Loc) (hW : zW3 D A s zE zE X H locs) (ls : Array Slot) (hl : lv_has ls 7 [(5, .int (iI i)), (4, .int (iI sm)), (3, .int (iI b)), (0, .ref a), (1, .int (iI w)), (2, .int (iI first))]), W p l e (zR 5 0 0) s m [.ref a, .int (iI w), .int (iI first)].toArray below meth c H locs 0 0 (MQ below (zQ D A (pI (fun r X1 => X = X1 ∧ zlb w ((zlW ws).drop first.toNat) = r))) [.ref a, .int (iI w), .int (iI first)].toArray s 0 0 A) (F0 m 10 ls []) := by
    intro fu
    induction fu with
    | zero =>
      intro i sm b  hfu
      exact absurd hfu (Nat.not_lt_zero _)
    | succ fu ih10 =>
      intro i sm b  hfu hi10_0 hi10_1 hi10_2 hi10_3  H locs hW ls hl
      refine lv_iload hx hb dL_leastOf_10 (lv_at hl 0 rfl) ?_
      refine lv_aload_n hx hb dL_leastOf_12 rfl (lv_at hl 3 rfl) ?_
      obtain ⟨fa_2, hfa_2, h2fa_2⟩ := id hA
      refine z_alen (t := 7) hC hW.x hfa_2 rfl dL_leastOf_13 ?_
      refine z_icmp_ge (tgt := 84) hx hb dL_leastOf_14 (by decide) (by omega) (by omega) (fun c_3 => ?_) (fun c_3 => ?_)
      · skip
        refine lv_iload_n hx hb dL_leastOf_84 rfl (lv_at hl 2 rfl) ?_
        exact z_iret hC hr hlk hW.x (by decide) (by decide) (⟨rfl, by rw [hi10_3, show (zlW ws).drop i.toNat = [] from List.drop_eq_nil_of_le (by rw [zlW_l]; omega)]; rfl⟩) dL_leastOf_85
      · skip
        refine lv_iload hx hb dL_leastOf_17 (lv_at hl 1 rfl) ?_
        refine lv_aload_n hx hb dL_leastOf_19 rfl (lv_at hl 3 rfl) ?_
        refine lv_iload hx hb dL_leastOf_20 (lv_at hl 0 rfl) ?_
        have hwf := zlW_fit hfit (i := i) (by omega) (by omega)
        obtain ⟨fa_4, hfa_4, h2fa_4⟩ := id hA
        obtain ⟨q22, vq22, h3fa_4, hsq22⟩ := h2fa_4 i (by omega) (by omega)
        refine z_aald (t := 7) (C := "java/lang/String") (v := some q22) hC hW.x hfa_4 rfl (by omega) (by omega) h3fa_4 dL_leastOf_22 ?_
        refine z_cXi hC (z_frSt (rest := [.int (iI sm)]) (As := []) (n := 0) hC hW.x (mes_length l D cs (zfA X _) X q22 vq22 (ws.getD i.toNat []) hsq22) gv_L_138 hd_J0_length_8abf5 hsq22 rfl hl rfl (Nat.le_of_ble_eq_true rfl) ⟨Nat.le_of_ble_eq_true rfl, Nat.le_of_ble_eq_true rfl⟩ ⟨Nat.le_of_ble_eq_true rfl, Nat.le_of_ble_eq_true rfl⟩ dL_leastOf_23) hW (fun r23 X23 H locs hp23 hW => ?_)
        obtain ⟨rfl, rfl⟩ := hp23
        refine z_iconst hx hb dL_leastOf_26 ?_
        refine z_iadd hx hb dL_leastOf_27 ?_
        refine z_iadd hx hb dL_leastOf_28 ?_
        refine z_top (y := sm + ((ws.getD i.toNat []).length : Int) + 1) (by omega) ?_
        refine lv_istore (lv' := [(4, .int (iI (sm + ((ws.getD i.toNat []).length : Int) + 1))), (5, .int (iI i)), (3, .int (iI b)), (0, .ref a), (1, .int (iI w)), (2, .int (iI first))]) hx hb dL_leastOf_29 hl (by decide) rfl (fun ls hl => ?_)
        refine lv_iload hx hb dL_leastOf_31 (lv_at hl 0 rfl) ?_
        refine lv_iload_n hx hb dL_leastOf_33 rfl (lv_at hl 4 rfl) ?_
        refine z_icmp_gt (tgt := 78) hx hb dL_leastOf_34 (by decide) (by omega) (by omega) (fun c_5 => ?_) (fun c_5 => ?_)
        · skip
          refine z_iinc (lv' := [(5, .int (iI (i + 1))), (4, .int (iI (sm + ((ws.getD i.toNat []).length : Int) + 1))), (3, .int (iI b)), (0, .ref a), (1, .int (iI w)), (2, .int (iI first))]) hx hb dL_leastOf_78 hl (k := 1) rfl (by decide) rfl (fun ls hl => ?_)
          refine lv_goto (tgt := 10) hx hb dL_leastOf_81 (by decide) ?_
          exact ih10 (i + 1) (sm + ((ws.getD i.toNat []).length : Int) + 1) b  (by omega) (by omega) (by omega) (by omega) (by rw [hi10_3]; exact zsc_out (by omega) (by omega) (by omega))  _ _ hW ls (lv_sub hl [0, 1, 2, 3, 4, 5] rfl)
        · skip
          refine lv_iload hx hb dL_leastOf_37 (lv_at hl 1 rfl) ?_
          refine lv_aload_n hx hb dL_leastOf_39 rfl (lv_at hl 3 rfl) ?_
          obtain ⟨fa_6, hfa_6, h2fa_6⟩ := id hA
          refine z_alen (t := 7) hC hW.x hfa_6 rfl dL_leastOf_40 ?_
          refine z_iconst hx hb dL_leastOf_41 ?_
          refine z_isub hx hb dL_leastOf_42 ?_
          refine z_icmp_ne (tgt := 50) hx hb dL_leastOf_43 (by decide) (by omega) (by omega) (fun c_7 => ?_) (fun c_7 => ?_)
          · skip
            have hsq := sq_bd (z := w - (sm + ((ws.getD i.toNat []).length : Int) + 1)) (n := 20) (by omega)
            have hsn := sq_nn (w - (sm + ((ws.getD i.toNat []).length : Int) + 1))
            have hlb := zlb_bd hwi.2 ((zlW ws).drop (i + 1).toNat) (fun x hx => hfit x (List.mem_of_mem_drop hx))
            have hln := (zlb_nn w ((zlW ws).drop (i + 1).toNat)).1
            have hld : ((zlW ws).drop (i + 1).toNat).length ≤ 9 := by rw [List.length_drop, zlW_l]; omega
            refine lv_iload_n hx hb dL_leastOf_50 rfl (lv_at hl 4 rfl) ?_
            refine lv_iload hx hb dL_leastOf_51 (lv_at hl 0 rfl) ?_
            refine z_isub hx hb dL_leastOf_53 ?_
            refine lv_iload_n hx hb dL_leastOf_54 rfl (lv_at hl 4 rfl) ?_
            refine lv_iload hx hb dL_leastOf_55 (lv_at hl 0 rfl) ?_
            refine z_isub hx hb dL_leastOf_57 ?_
            refine z_imul hx hb dL_leastOf_58 ?_
            refine lv_aload_n hx hb dL_leastOf_59 rfl (lv_at hl 3 rfl) ?_
            refine lv_iload_n hx hb dL_leastOf_60 rfl (lv_at hl 4 rfl) ?_
            refine lv_iload hx hb dL_leastOf_61 (lv_at hl 1 rfl) ?_
            refine z_iconst hx hb dL_leastOf_63 ?_
            refine z_iadd hx hb dL_leastOf_64 ?_
            refine z_cXi hC (z_frS (rest := [.int (iI ((w - (sm + ((ws.getD i.toNat []).length : Int) + 1)) * (w - (sm + ((ws.getD i.toNat []).length : Int) + 1))))]) (As := [.ref a, .int (iI w), .int (iI (i + 1))]) (n := 3) hC hW.x (lm_least1 l D cs (zfA X _) X a ws w (i + 1) hA hfit hwi (by omega) (by omega) hw9) gs_L_298 he_L_leastOf rfl hl rfl (Nat.le_of_ble_eq_true rfl) ⟨Nat.le_of_ble_eq_true rfl, Nat.le_of_ble_eq_true rfl⟩ ⟨Nat.le_of_ble_eq_true rfl, Nat.le_of_ble_eq_true rfl⟩ dL_leastOf_65) hW (fun r65 X65 H locs hp65 hW => ?_)
            obtain ⟨rfl, rfl⟩ := hp65
            refine z_iadd hx hb dL_leastOf_68 ?_
            refine lv_istore (lv' := [(6, .int (iI (((w - (sm + ((ws.getD i.toNat []).length : Int) + 1)) * (w - (sm + ((ws.getD i.toNat []).length : Int) + 1))) + (zlb w ((zlW ws).drop (i + 1).toNat))))), (4, .int (iI (sm + ((ws.getD i.toNat []).length : Int) + 1))), (5, .int (iI i)), (3, .int (iI b)), (0, .ref a), (1, .int (iI w)), (2, .int (iI first))]) hx hb dL_leastOf_69 hl (by decide) rfl (fun ls hl => ?_)
            refine lv_iload_n hx hb dL_leastOf_71 rfl (lv_at hl 3 rfl) ?_
            refine lv_iload hx hb dL_leastOf_72 (lv_at hl 0 rfl) ?_
            refine z_mmin (rest := []) hC hl qm_L_302 (by omega) (by omega) ⟨Nat.le_of_ble_eq_true rfl, Nat.le_of_ble_eq_true rfl⟩ ⟨Nat.le_of_ble_eq_true rfl, Nat.le_of_ble_eq_true rfl⟩ dL_leastOf_74 (fun r74 hmx74 => ?_)
            refine lv_istore_n (lv' := [(3, .int (iI r74)), (6, .int (iI (((w - (sm + ((ws.getD i.toNat []).length : Int) + 1)) * (w - (sm + ((ws.getD i.toNat []).length : Int) + 1))) + (zlb w ((zlW ws).drop (i + 1).toNat))))), (4, .int (iI (sm + ((ws.getD i.toNat []).length : Int) + 1))), (5, .int (iI i)), (0, .ref a), (1, .int (iI w)), (2, .int (iI first))]) hx hb dL_leastOf_77 rfl hl (by decide) rfl (fun ls hl => ?_)
            refine z_iinc (lv' := [(5, .int (iI (i + 1))), (3, .int (iI r74)), (6, .int (iI (((w - (sm + ((ws.getD i.toNat []).length : Int) + 1)) * (w - (sm + ((ws.getD i.toNat []).length : Int) + 1))) + (zlb w ((zlW ws).drop (i + 1).toNat))))), (4, .int (iI (sm + ((ws.getD i.toNat []).length : Int) + 1))), (0, .ref a), (1, .int (iI w)), (2, .int (iI first))]) hx hb dL_leastOf_78 hl (k := 3) rfl (by decide) rfl (fun ls hl => ?_)
            refine lv_goto (tgt := 10) hx hb dL_leastOf_81 (by decide) ?_
            exact ih10 (i + 1) (sm + ((ws.getD i.toNat []).length : Int) + 1) r74  (by omega) (by omega) (by omega) (by omega) (by rw [hi10_3]; exact zsc_in (by omega) (by omega) (by omega) (by first | (rw [if_pos (by omega), show (zlW ws).drop (i + 1).toNat = [] from List.drop_eq_nil_of_le (by rw [zlW_l]; omega), zlb_nil]; omega) | (rw [if_neg (by omega)]; omega)))  _ _ hW ls (lv_sub hl [0, 3, 1, 4, 5, 6] rfl)
          · skip
            refine z_iconst hx hb dL_leastOf_46 ?_
            refine lv_goto (tgt := 69) hx hb dL_leastOf_47 (by decide) ?_
            refine lv_istore (lv' := [(6, .int (iI 0)), (4, .int (iI (sm + ((ws.getD i.toNat []).length : Int) + 1))), (5, .int (iI i)), (3, .int (iI b)), (0, .ref a), (1, .int (iI w)), (2, .int (iI first))]) hx hb dL_leastOf_69 hl (by decide) rfl (fun ls hl => ?_)
            refine lv_iload_n hx hb dL_leastOf_71 rfl (lv_at hl 3 rfl) ?_
            refine lv_iload hx hb dL_leastOf_72 (lv_at hl 0 rfl) ?_
            refine z_mmin (rest := []) hC hl qm_L_302 (by omega) (by omega) ⟨Nat.le_of_ble_eq_true rfl, Nat.le_of_ble_eq_true rfl⟩ ⟨Nat.le_of_ble_eq_true rfl, Nat.le_of_ble_eq_true rfl⟩ dL_leastOf_74 (fun r74 hmx74 => ?_)
            refine lv_istore_n (lv' := [(3, .int (iI r74)), (6, .int (iI 0)), (4, .int (iI (sm + ((ws.getD i.toNat []).length : Int) + 1))), (5, .int (iI i)), (0, .ref a), (1, .int (iI w)), (2, .int (iI first))]) hx hb dL_leastOf_77 rfl hl (by decide) rfl (fun ls hl => ?_)
            refine z_iinc (lv' := [(5, .int (iI (i + 1))), (3, .int (iI r74)), (6, .int (iI 0)), (4, .int (iI (sm + ((ws.getD i.toNat []).length : Int) + 1))), (0, .ref a), (1, .int (iI w)), (2, .int (iI first))]) hx hb dL_leastOf_78 hl (k := 3) rfl (by decide) rfl (fun ls hl => ?_)
            refine lv_goto (tgt := 10) hx hb dL_leastOf_81 (by decide) ?_
            exact ih10 (i + 1) (sm + ((ws.getD i.toNat []).length : Int) + 1) r74  (by omega) (by omega) (by omega) (by omega) (by rw [hi10_3]; exact zsc_in (by omega) (by omega) (by omega) (by first | (rw [if_pos (by omega), show (zlW ws).drop (i + 1).toNat = [] from List.drop_eq_nil_of_le (by rw [zlW_l]; omega), zlb_nil]; omega) | (rw [if_neg (by omega)]; omega)))  _ _ hW ls (lv_sub hl [0, 3, 1, 4, 5, 6] rfl)
  exact L10_k_1 _ first (-1) 999999  (Nat.lt_succ_self _) ⟨by omega, by omega⟩ ⟨by decide, by omega⟩ ⟨by decide, by decide⟩ (zsc_1b (by omega) (fun x hx => hfit x (List.mem_of_mem_drop hx)) (by rw [List.length_drop, zlW_l]; omega) (fun z => by have := congrArg List.length z; rw [List.length_drop, zlW_l] at this; simp at this; omega))  _ _ hW ls (lv_sub hl [0, 1, 2, 3, 4, 5] rfl)

set_option maxHeartbeats 4000000 in
set_option maxRecDepth 100000 in
theorem lm_least3 (l : Launch) (D : va_G) (cs : Nat → ClassId) (A : Nat → Prop) (X : zF) (a : Nat) (ws : List zWd) (w first : Int)  (hA : oSs7 cs X a ws) (hfit : zfit w (zlW ws)) (hwi : 4 ≤ w ∧ w ≤ 20) (hf0 : 0 ≤ first ∧ first < ws.length) (hf1 : (ws.length : Int) - first ≤ 3) (hw9 : ws.length ≤ 9) : zM l D cs A yL_leastOf cL_leastOf 7 (some FieldType.int) 6 0 0 [.ref a, .int (iI w), .int (iI first)] X (pI (fun r X1 => X = X1 ∧ zlb w ((zlW ws).drop first.toNat) = r)) := by
  refine zM_of (own := RL) (by decide) rfl (Nat.le_of_ble_eq_true rfl) ?_
  intro p e s m below meth c hC hr hlk hnm hZ ls hl
  have hx := hC.x
  have hb := hC.b
  have hl : lv_has ls 7 [(0, .ref a), (1, .int (iI w)), (2, .int (iI first))] := hl
  have hW := zW3.ofX hZ
  refine z_ldcwi (z := 999999) hC qz_1418 rfl dL_leastOf_0 ?_
  refine lv_istore_n (lv' := [(3, .int (iI 999999)), (0, .ref a), (1, .int (iI w)), (2, .int (iI first))]) hx hb dL_leastOf_3 rfl hl (by decide) rfl (fun ls hl => ?_)
  refine z_iconst hx hb dL_leastOf_4 ?_
  refine lv_istore (lv' := [(4, .int (iI (-1))), (3, .int (iI 999999)), (0, .ref a), (1, .int (iI w)), (2, .int (iI first))]) hx hb dL_leastOf_5 hl (by decide) rfl (fun ls hl => ?_)
  refine lv_iload_n hx hb dL_leastOf_7 rfl (lv_at hl 4 rfl) ?_
  refine lv_istore (lv' := [(5, .int (iI first)), (4, .int (iI (-1))), (3, .int (iI 999999)), (0, .ref a), (1, .int (iI w)), (2, .int (iI first))]) hx hb dL_leastOf_8 hl (by decide) rfl (fun ls hl => ?_)
  have L10_k_1 : ∀ (fu : Nat) (i sm b : Int)  (hfu : ((ws.length : Int) - i).toNat < fu) (hi10_0 : first ≤ i ∧ i ≤ ws.length) (hi10_1 : -1 ≤ sm ∧ sm ≤ 30 * (i - first)) (hi10_2 : 0 ≤ b ∧ b ≤ 999999) (hi10_3 : zlb w ((zlW ws).drop first.toNat) = zsc w sm b ((zlW ws).drop i.toNat)) (H : Heap) (locs : List Loc) (hW : zW3 D A s zE zE X H locs) (ls : Array Slot) (hl : lv_has ls 7 [(5, .int (iI i)), (4, .int (iI sm)), (3, .int (iI b)), (0, .ref a), (1, .int (iI w)), (2, .int (iI first))]), W p l e (zR 6 0 0) s m [.ref a, .int (iI w), .int (iI first)].toArray below meth c H locs 0 0 (MQ below (zQ D A (pI (fun r X1 => X = X1 ∧ zlb w ((zlW ws).drop first.toNat) = r))) [.ref a, .int (iI w), .int (iI first)].toArray s 0 0 A) (F0 m 10 ls []) := by
    intro fu
    induction fu with
    | zero =>
      intro i sm b  hfu
      exact absurd hfu (Nat.not_lt_zero _)
    | succ fu ih10 =>
      intro i sm b  hfu hi10_0 hi10_1 hi10_2 hi10_3  H locs hW ls hl
      refine lv_iload hx hb dL_leastOf_10 (lv_at hl 0 rfl) ?_
      refine lv_aload_n hx hb dL_leastOf_12 rfl (lv_at hl 3 rfl) ?_
      obtain ⟨fa_2, hfa_2, h2fa_2⟩ := id hA
      refine z_alen (t := 7) hC hW.x hfa_2 rfl dL_leastOf_13 ?_
      refine z_icmp_ge (tgt := 84) hx hb dL_leastOf_14 (by decide) (by omega) (by omega) (fun c_3 => ?_) (fun c_3 => ?_)
      · skip
        refine lv_iload_n hx hb dL_leastOf_84 rfl (lv_at hl 2 rfl) ?_
        exact z_iret hC hr hlk hW.x (by decide) (by decide) (⟨rfl, by rw [hi10_3, show (zlW ws).drop i.toNat = [] from List.drop_eq_nil_of_le (by rw [zlW_l]; omega)]; rfl⟩) dL_leastOf_85
      · skip
        refine lv_iload hx hb dL_leastOf_17 (lv_at hl 1 rfl) ?_
        refine lv_aload_n hx hb dL_leastOf_19 rfl (lv_at hl 3 rfl) ?_
        refine lv_iload hx hb dL_leastOf_20 (lv_at hl 0 rfl) ?_
        have hwf := zlW_fit hfit (i := i) (by omega) (by omega)
        obtain ⟨fa_4, hfa_4, h2fa_4⟩ := id hA
        obtain ⟨q22, vq22, h3fa_4, hsq22⟩ := h2fa_4 i (by omega) (by omega)
        refine z_aald (t := 7) (C := "java/lang/String") (v := some q22) hC hW.x hfa_4 rfl (by omega) (by omega) h3fa_4 dL_leastOf_22 ?_
        refine z_cXi hC (z_frSt (rest := [.int (iI sm)]) (As := []) (n := 0) hC hW.x (mes_length l D cs (zfA X _) X q22 vq22 (ws.getD i.toNat []) hsq22) gv_L_138 hd_J0_length_8abf5 hsq22 rfl hl rfl (Nat.le_of_ble_eq_true rfl) ⟨Nat.le_of_ble_eq_true rfl, Nat.le_of_ble_eq_true rfl⟩ ⟨Nat.le_of_ble_eq_true rfl, Nat.le_of_ble_eq_true rfl⟩ dL_leastOf_23) hW (fun r23 X23 H locs hp23 hW => ?_)
        obtain ⟨rfl, rfl⟩ := hp23
        refine z_iconst hx hb dL_leastOf_26 ?_
        refine z_iadd hx hb dL_leastOf_27 ?_
        refine z_iadd hx hb dL_leastOf_28 ?_
        refine z_top (y := sm + ((ws.getD i.toNat []).length : Int) + 1) (by omega) ?_
        refine lv_istore (lv' := [(4, .int (iI (sm + ((ws.getD i.toNat []).length : Int) + 1))), (5, .int (iI i)), (3, .int (iI b)), (0, .ref a), (1, .int (iI w)), (2, .int (iI first))]) hx hb dL_leastOf_29 hl (by decide) rfl (fun ls hl => ?_)
        refine lv_iload hx hb dL_leastOf_31 (lv_at hl 0 rfl) ?_
        refine lv_iload_n hx hb dL_leastOf_33 rfl (lv_at hl 4 rfl) ?_
        refine z_icmp_gt (tgt := 78) hx hb dL_leastOf_34 (by decide) (by omega) (by omega) (fun c_5 => ?_) (fun c_5 => ?_)
        · skip
          refine z_iinc (lv' := [(5, .int (iI (i + 1))), (4, .int (iI (sm + ((ws.getD i.toNat []).length : Int) + 1))), (3, .int (iI b)), (0, .ref a), (1, .int (iI w)), (2, .int (iI first))]) hx hb dL_leastOf_78 hl (k := 1) rfl (by decide) rfl (fun ls hl => ?_)
          refine lv_goto (tgt := 10) hx hb dL_leastOf_81 (by decide) ?_
          exact ih10 (i + 1) (sm + ((ws.getD i.toNat []).length : Int) + 1) b  (by omega) (by omega) (by omega) (by omega) (by rw [hi10_3]; exact zsc_out (by omega) (by omega) (by omega))  _ _ hW ls (lv_sub hl [0, 1, 2, 3, 4, 5] rfl)
        · skip
          refine lv_iload hx hb dL_leastOf_37 (lv_at hl 1 rfl) ?_
          refine lv_aload_n hx hb dL_leastOf_39 rfl (lv_at hl 3 rfl) ?_
          obtain ⟨fa_6, hfa_6, h2fa_6⟩ := id hA
          refine z_alen (t := 7) hC hW.x hfa_6 rfl dL_leastOf_40 ?_
          refine z_iconst hx hb dL_leastOf_41 ?_
          refine z_isub hx hb dL_leastOf_42 ?_
          refine z_icmp_ne (tgt := 50) hx hb dL_leastOf_43 (by decide) (by omega) (by omega) (fun c_7 => ?_) (fun c_7 => ?_)
          · skip
            have hsq := sq_bd (z := w - (sm + ((ws.getD i.toNat []).length : Int) + 1)) (n := 20) (by omega)
            have hsn := sq_nn (w - (sm + ((ws.getD i.toNat []).length : Int) + 1))
            have hlb := zlb_bd hwi.2 ((zlW ws).drop (i + 1).toNat) (fun x hx => hfit x (List.mem_of_mem_drop hx))
            have hln := (zlb_nn w ((zlW ws).drop (i + 1).toNat)).1
            have hld : ((zlW ws).drop (i + 1).toNat).length ≤ 9 := by rw [List.length_drop, zlW_l]; omega
            refine lv_iload_n hx hb dL_leastOf_50 rfl (lv_at hl 4 rfl) ?_
            refine lv_iload hx hb dL_leastOf_51 (lv_at hl 0 rfl) ?_
            refine z_isub hx hb dL_leastOf_53 ?_
            refine lv_iload_n hx hb dL_leastOf_54 rfl (lv_at hl 4 rfl) ?_
            refine lv_iload hx hb dL_leastOf_55 (lv_at hl 0 rfl) ?_
            refine z_isub hx hb dL_leastOf_57 ?_
            refine z_imul hx hb dL_leastOf_58 ?_
            refine lv_aload_n hx hb dL_leastOf_59 rfl (lv_at hl 3 rfl) ?_
            refine lv_iload_n hx hb dL_leastOf_60 rfl (lv_at hl 4 rfl) ?_
            refine lv_iload hx hb dL_leastOf_61 (lv_at hl 1 rfl) ?_
            refine z_iconst hx hb dL_leastOf_63 ?_
            refine z_iadd hx hb dL_leastOf_64 ?_
            refine z_cXi hC (z_frS (rest := [.int (iI ((w - (sm + ((ws.getD i.toNat []).length : Int) + 1)) * (w - (sm + ((ws.getD i.toNat []).length : Int) + 1))))]) (As := [.ref a, .int (iI w), .int (iI (i + 1))]) (n := 3) hC hW.x (lm_least2 l D cs (zfA X _) X a ws w (i + 1) hA hfit hwi (by omega) (by omega) hw9) gs_L_298 he_L_leastOf rfl hl rfl (Nat.le_of_ble_eq_true rfl) ⟨Nat.le_of_ble_eq_true rfl, Nat.le_of_ble_eq_true rfl⟩ ⟨Nat.le_of_ble_eq_true rfl, Nat.le_of_ble_eq_true rfl⟩ dL_leastOf_65) hW (fun r65 X65 H locs hp65 hW => ?_)
            obtain ⟨rfl, rfl⟩ := hp65
            refine z_iadd hx hb dL_leastOf_68 ?_
            refine lv_istore (lv' := [(6, .int (iI (((w - (sm + ((ws.getD i.toNat []).length : Int) + 1)) * (w - (sm + ((ws.getD i.toNat []).length : Int) + 1))) + (zlb w ((zlW ws).drop (i + 1).toNat))))), (4, .int (iI (sm + ((ws.getD i.toNat []).length : Int) + 1))), (5, .int (iI i)), (3, .int (iI b)), (0, .ref a), (1, .int (iI w)), (2, .int (iI first))]) hx hb dL_leastOf_69 hl (by decide) rfl (fun ls hl => ?_)
            refine lv_iload_n hx hb dL_leastOf_71 rfl (lv_at hl 3 rfl) ?_
            refine lv_iload hx hb dL_leastOf_72 (lv_at hl 0 rfl) ?_
            refine z_mmin (rest := []) hC hl qm_L_302 (by omega) (by omega) ⟨Nat.le_of_ble_eq_true rfl, Nat.le_of_ble_eq_true rfl⟩ ⟨Nat.le_of_ble_eq_true rfl, Nat.le_of_ble_eq_true rfl⟩ dL_leastOf_74 (fun r74 hmx74 => ?_)
            refine lv_istore_n (lv' := [(3, .int (iI r74)), (6, .int (iI (((w - (sm + ((ws.getD i.toNat []).length : Int) + 1)) * (w - (sm + ((ws.getD i.toNat []).length : Int) + 1))) + (zlb w ((zlW ws).drop (i + 1).toNat))))), (4, .int (iI (sm + ((ws.getD i.toNat []).length : Int) + 1))), (5, .int (iI i)), (0, .ref a), (1, .int (iI w)), (2, .int (iI first))]) hx hb dL_leastOf_77 rfl hl (by decide) rfl (fun ls hl => ?_)
            refine z_iinc (lv' := [(5, .int (iI (i + 1))), (3, .int (iI r74)), (6, .int (iI (((w - (sm + ((ws.getD i.toNat []).length : Int) + 1)) * (w - (sm + ((ws.getD i.toNat []).length : Int) + 1))) + (zlb w ((zlW ws).drop (i + 1).toNat))))), (4, .int (iI (sm + ((ws.getD i.toNat []).length : Int) + 1))), (0, .ref a), (1, .int (iI w)), (2, .int (iI first))]) hx hb dL_leastOf_78 hl (k := 3) rfl (by decide) rfl (fun ls hl => ?_)
            refine lv_goto (tgt := 10) hx hb dL_leastOf_81 (by decide) ?_
            exact ih10 (i + 1) (sm + ((ws.getD i.toNat []).length : Int) + 1) r74  (by omega) (by omega) (by omega) (by omega) (by rw [hi10_3]; exact zsc_in (by omega) (by omega) (by omega) (by first | (rw [if_pos (by omega), show (zlW ws).drop (i + 1).toNat = [] from List.drop_eq_nil_of_le (by rw [zlW_l]; omega), zlb_nil]; omega) | (rw [if_neg (by omega)]; omega)))  _ _ hW ls (lv_sub hl [0, 3, 1, 4, 5, 6] rfl)
          · skip
            refine z_iconst hx hb dL_leastOf_46 ?_
            refine lv_goto (tgt := 69) hx hb dL_leastOf_47 (by decide) ?_
            refine lv_istore (lv' := [(6, .int (iI 0)), (4, .int (iI (sm + ((ws.getD i.toNat []).length : Int) + 1))), (5, .int (iI i)), (3, .int (iI b)), (0, .ref a), (1, .int (iI w)), (2, .int (iI first))]) hx hb dL_leastOf_69 hl (by decide) rfl (fun ls hl => ?_)
            refine lv_iload_n hx hb dL_leastOf_71 rfl (lv_at hl 3 rfl) ?_
            refine lv_iload hx hb dL_leastOf_72 (lv_at hl 0 rfl) ?_
            refine z_mmin (rest := []) hC hl qm_L_302 (by omega) (by omega) ⟨Nat.le_of_ble_eq_true rfl, Nat.le_of_ble_eq_true rfl⟩ ⟨Nat.le_of_ble_eq_true rfl, Nat.le_of_ble_eq_true rfl⟩ dL_leastOf_74 (fun r74 hmx74 => ?_)
            refine lv_istore_n (lv' := [(3, .int (iI r74)), (6, .int (iI 0)), (4, .int (iI (sm + ((ws.getD i.toNat []).length : Int) + 1))), (5, .int (iI i)), (0, .ref a), (1, .int (iI w)), (2, .int (iI first))]) hx hb dL_leastOf_77 rfl hl (by decide) rfl (fun ls hl => ?_)
            refine z_iinc (lv' := [(5, .int (iI (i + 1))), (3, .int (iI r74)), (6, .int (iI 0)), (4, .int (iI (sm + ((ws.getD i.toNat []).length : Int) + 1))), (0, .ref a), (1, .int (iI w)), (2, .int (iI first))]) hx hb dL_leastOf_78 hl (k := 3) rfl (by decide) rfl (fun ls hl => ?_)
            refine lv_goto (tgt := 10) hx hb dL_leastOf_81 (by decide) ?_
            exact ih10 (i + 1) (sm + ((ws.getD i.toNat []).length : Int) + 1) r74  (by omega) (by omega) (by omega) (by omega) (by rw [hi10_3]; exact zsc_in (by omega) (by omega) (by omega) (by first | (rw [if_pos (by omega), show (zlW ws).drop (i + 1).toNat = [] from List.drop_eq_nil_of_le (by rw [zlW_l]; omega), zlb_nil]; omega) | (rw [if_neg (by omega)]; omega)))  _ _ hW ls (lv_sub hl [0, 3, 1, 4, 5, 6] rfl)
  exact L10_k_1 _ first (-1) 999999  (Nat.lt_succ_self _) ⟨by omega, by omega⟩ ⟨by decide, by omega⟩ ⟨by decide, by decide⟩ (zsc_1b (by omega) (fun x hx => hfit x (List.mem_of_mem_drop hx)) (by rw [List.length_drop, zlW_l]; omega) (fun z => by have := congrArg List.length z; rw [List.length_drop, zlW_l] at this; simp at this; omega))  _ _ hW ls (lv_sub hl [0, 1, 2, 3, 4, 5] rfl)

set_option maxHeartbeats 4000000 in
set_option maxRecDepth 100000 in
theorem lm_least4 (l : Launch) (D : va_G) (cs : Nat → ClassId) (A : Nat → Prop) (X : zF) (a : Nat) (ws : List zWd) (w first : Int)  (hA : oSs7 cs X a ws) (hfit : zfit w (zlW ws)) (hwi : 4 ≤ w ∧ w ≤ 20) (hf0 : 0 ≤ first ∧ first < ws.length) (hf1 : (ws.length : Int) - first ≤ 4) (hw9 : ws.length ≤ 9) : zM l D cs A yL_leastOf cL_leastOf 7 (some FieldType.int) 7 0 0 [.ref a, .int (iI w), .int (iI first)] X (pI (fun r X1 => X = X1 ∧ zlb w ((zlW ws).drop first.toNat) = r)) := by
  refine zM_of (own := RL) (by decide) rfl (Nat.le_of_ble_eq_true rfl) ?_
  intro p e s m below meth c hC hr hlk hnm hZ ls hl
  have hx := hC.x
  have hb := hC.b
  have hl : lv_has ls 7 [(0, .ref a), (1, .int (iI w)), (2, .int (iI first))] := hl
  have hW := zW3.ofX hZ
  refine z_ldcwi (z := 999999) hC qz_1418 rfl dL_leastOf_0 ?_
  refine lv_istore_n (lv' := [(3, .int (iI 999999)), (0, .ref a), (1, .int (iI w)), (2, .int (iI first))]) hx hb dL_leastOf_3 rfl hl (by decide) rfl (fun ls hl => ?_)
  refine z_iconst hx hb dL_leastOf_4 ?_
  refine lv_istore (lv' := [(4, .int (iI (-1))), (3, .int (iI 999999)), (0, .ref a), (1, .int (iI w)), (2, .int (iI first))]) hx hb dL_leastOf_5 hl (by decide) rfl (fun ls hl => ?_)
  refine lv_iload_n hx hb dL_leastOf_7 rfl (lv_at hl 4 rfl) ?_
  refine lv_istore (lv' := [(5, .int (iI first)), (4, .int (iI (-1))), (3, .int (iI 999999)), (0, .ref a), (1, .int (iI w)), (2, .int (iI first))]) hx hb dL_leastOf_8 hl (by decide) rfl (fun ls hl => ?_)
  have L10_k_1 : ∀ (fu : Nat) (i sm b : Int)  (hfu : ((ws.length : Int) - i).toNat < fu) (hi10_0 : first ≤ i ∧ i ≤ ws.length) (hi10_1 : -1 ≤ sm ∧ sm ≤ 30 * (i - first)) (hi10_2 : 0 ≤ b ∧ b ≤ 999999) (hi10_3 : zlb w ((zlW ws).drop first.toNat) = zsc w sm b ((zlW ws).drop i.toNat)) (H : Heap) (locs : List Loc) (hW : zW3 D A s zE zE X H locs) (ls : Array Slot) (hl : lv_has ls 7 [(5, .int (iI i)), (4, .int (iI sm)), (3, .int (iI b)), (0, .ref a), (1, .int (iI w)), (2, .int (iI first))]), W p l e (zR 7 0 0) s m [.ref a, .int (iI w), .int (iI first)].toArray below meth c H locs 0 0 (MQ below (zQ D A (pI (fun r X1 => X = X1 ∧ zlb w ((zlW ws).drop first.toNat) = r))) [.ref a, .int (iI w), .int (iI first)].toArray s 0 0 A) (F0 m 10 ls []) := by
    intro fu
    induction fu with
    | zero =>
      intro i sm b  hfu
      exact absurd hfu (Nat.not_lt_zero _)
    | succ fu ih10 =>
      intro i sm b  hfu hi10_0 hi10_1 hi10_2 hi10_3  H locs hW ls hl
      refine lv_iload hx hb dL_leastOf_10 (lv_at hl 0 rfl) ?_
      refine lv_aload_n hx hb dL_leastOf_12 rfl (lv_at hl 3 rfl) ?_
      obtain ⟨fa_2, hfa_2, h2fa_2⟩ := id hA
      refine z_alen (t := 7) hC hW.x hfa_2 rfl dL_leastOf_13 ?_
      refine z_icmp_ge (tgt := 84) hx hb dL_leastOf_14 (by decide) (by omega) (by omega) (fun c_3 => ?_) (fun c_3 => ?_)
      · skip
        refine lv_iload_n hx hb dL_leastOf_84 rfl (lv_at hl 2 rfl) ?_
        exact z_iret hC hr hlk hW.x (by decide) (by decide) (⟨rfl, by rw [hi10_3, show (zlW ws).drop i.toNat = [] from List.drop_eq_nil_of_le (by rw [zlW_l]; omega)]; rfl⟩) dL_leastOf_85
      · skip
        refine lv_iload hx hb dL_leastOf_17 (lv_at hl 1 rfl) ?_
        refine lv_aload_n hx hb dL_leastOf_19 rfl (lv_at hl 3 rfl) ?_
        refine lv_iload hx hb dL_leastOf_20 (lv_at hl 0 rfl) ?_
        have hwf := zlW_fit hfit (i := i) (by omega) (by omega)
        obtain ⟨fa_4, hfa_4, h2fa_4⟩ := id hA
        obtain ⟨q22, vq22, h3fa_4, hsq22⟩ := h2fa_4 i (by omega) (by omega)
        refine z_aald (t := 7) (C := "java/lang/String") (v := some q22) hC hW.x hfa_4 rfl (by omega) (by omega) h3fa_4 dL_leastOf_22 ?_
        refine z_cXi hC (z_frSt (rest := [.int (iI sm)]) (As := []) (n := 0) hC hW.x (mes_length l D cs (zfA X _) X q22 vq22 (ws.getD i.toNat []) hsq22) gv_L_138 hd_J0_length_8abf5 hsq22 rfl hl rfl (Nat.le_of_ble_eq_true rfl) ⟨Nat.le_of_ble_eq_true rfl, Nat.le_of_ble_eq_true rfl⟩ ⟨Nat.le_of_ble_eq_true rfl, Nat.le_of_ble_eq_true rfl⟩ dL_leastOf_23) hW (fun r23 X23 H locs hp23 hW => ?_)
        obtain ⟨rfl, rfl⟩ := hp23
        refine z_iconst hx hb dL_leastOf_26 ?_
        refine z_iadd hx hb dL_leastOf_27 ?_
        refine z_iadd hx hb dL_leastOf_28 ?_
        refine z_top (y := sm + ((ws.getD i.toNat []).length : Int) + 1) (by omega) ?_
        refine lv_istore (lv' := [(4, .int (iI (sm + ((ws.getD i.toNat []).length : Int) + 1))), (5, .int (iI i)), (3, .int (iI b)), (0, .ref a), (1, .int (iI w)), (2, .int (iI first))]) hx hb dL_leastOf_29 hl (by decide) rfl (fun ls hl => ?_)
        refine lv_iload hx hb dL_leastOf_31 (lv_at hl 0 rfl) ?_
        refine lv_iload_n hx hb dL_leastOf_33 rfl (lv_at hl 4 rfl) ?_
        refine z_icmp_gt (tgt := 78) hx hb dL_leastOf_34 (by decide) (by omega) (by omega) (fun c_5 => ?_) (fun c_5 => ?_)
        · skip
          refine z_iinc (lv' := [(5, .int (iI (i + 1))), (4, .int (iI (sm + ((ws.getD i.toNat []).length : Int) + 1))), (3, .int (iI b)), (0, .ref a), (1, .int (iI w)), (2, .int (iI first))]) hx hb dL_leastOf_78 hl (k := 1) rfl (by decide) rfl (fun ls hl => ?_)
          refine lv_goto (tgt := 10) hx hb dL_leastOf_81 (by decide) ?_
          exact ih10 (i + 1) (sm + ((ws.getD i.toNat []).length : Int) + 1) b  (by omega) (by omega) (by omega) (by omega) (by rw [hi10_3]; exact zsc_out (by omega) (by omega) (by omega))  _ _ hW ls (lv_sub hl [0, 1, 2, 3, 4, 5] rfl)
        · skip
          refine lv_iload hx hb dL_leastOf_37 (lv_at hl 1 rfl) ?_
          refine lv_aload_n hx hb dL_leastOf_39 rfl (lv_at hl 3 rfl) ?_
          obtain ⟨fa_6, hfa_6, h2fa_6⟩ := id hA
          refine z_alen (t := 7) hC hW.x hfa_6 rfl dL_leastOf_40 ?_
          refine z_iconst hx hb dL_leastOf_41 ?_
          refine z_isub hx hb dL_leastOf_42 ?_
          refine z_icmp_ne (tgt := 50) hx hb dL_leastOf_43 (by decide) (by omega) (by omega) (fun c_7 => ?_) (fun c_7 => ?_)
          · skip
            have hsq := sq_bd (z := w - (sm + ((ws.getD i.toNat []).length : Int) + 1)) (n := 20) (by omega)
            have hsn := sq_nn (w - (sm + ((ws.getD i.toNat []).length : Int) + 1))
            have hlb := zlb_bd hwi.2 ((zlW ws).drop (i + 1).toNat) (fun x hx => hfit x (List.mem_of_mem_drop hx))
            have hln := (zlb_nn w ((zlW ws).drop (i + 1).toNat)).1
            have hld : ((zlW ws).drop (i + 1).toNat).length ≤ 9 := by rw [List.length_drop, zlW_l]; omega
            refine lv_iload_n hx hb dL_leastOf_50 rfl (lv_at hl 4 rfl) ?_
            refine lv_iload hx hb dL_leastOf_51 (lv_at hl 0 rfl) ?_
            refine z_isub hx hb dL_leastOf_53 ?_
            refine lv_iload_n hx hb dL_leastOf_54 rfl (lv_at hl 4 rfl) ?_
            refine lv_iload hx hb dL_leastOf_55 (lv_at hl 0 rfl) ?_
            refine z_isub hx hb dL_leastOf_57 ?_
            refine z_imul hx hb dL_leastOf_58 ?_
            refine lv_aload_n hx hb dL_leastOf_59 rfl (lv_at hl 3 rfl) ?_
            refine lv_iload_n hx hb dL_leastOf_60 rfl (lv_at hl 4 rfl) ?_
            refine lv_iload hx hb dL_leastOf_61 (lv_at hl 1 rfl) ?_
            refine z_iconst hx hb dL_leastOf_63 ?_
            refine z_iadd hx hb dL_leastOf_64 ?_
            refine z_cXi hC (z_frS (rest := [.int (iI ((w - (sm + ((ws.getD i.toNat []).length : Int) + 1)) * (w - (sm + ((ws.getD i.toNat []).length : Int) + 1))))]) (As := [.ref a, .int (iI w), .int (iI (i + 1))]) (n := 3) hC hW.x (lm_least3 l D cs (zfA X _) X a ws w (i + 1) hA hfit hwi (by omega) (by omega) hw9) gs_L_298 he_L_leastOf rfl hl rfl (Nat.le_of_ble_eq_true rfl) ⟨Nat.le_of_ble_eq_true rfl, Nat.le_of_ble_eq_true rfl⟩ ⟨Nat.le_of_ble_eq_true rfl, Nat.le_of_ble_eq_true rfl⟩ dL_leastOf_65) hW (fun r65 X65 H locs hp65 hW => ?_)
            obtain ⟨rfl, rfl⟩ := hp65
            refine z_iadd hx hb dL_leastOf_68 ?_
            refine lv_istore (lv' := [(6, .int (iI (((w - (sm + ((ws.getD i.toNat []).length : Int) + 1)) * (w - (sm + ((ws.getD i.toNat []).length : Int) + 1))) + (zlb w ((zlW ws).drop (i + 1).toNat))))), (4, .int (iI (sm + ((ws.getD i.toNat []).length : Int) + 1))), (5, .int (iI i)), (3, .int (iI b)), (0, .ref a), (1, .int (iI w)), (2, .int (iI first))]) hx hb dL_leastOf_69 hl (by decide) rfl (fun ls hl => ?_)
            refine lv_iload_n hx hb dL_leastOf_71 rfl (lv_at hl 3 rfl) ?_
            refine lv_iload hx hb dL_leastOf_72 (lv_at hl 0 rfl) ?_
            refine z_mmin (rest := []) hC hl qm_L_302 (by omega) (by omega) ⟨Nat.le_of_ble_eq_true rfl, Nat.le_of_ble_eq_true rfl⟩ ⟨Nat.le_of_ble_eq_true rfl, Nat.le_of_ble_eq_true rfl⟩ dL_leastOf_74 (fun r74 hmx74 => ?_)
            refine lv_istore_n (lv' := [(3, .int (iI r74)), (6, .int (iI (((w - (sm + ((ws.getD i.toNat []).length : Int) + 1)) * (w - (sm + ((ws.getD i.toNat []).length : Int) + 1))) + (zlb w ((zlW ws).drop (i + 1).toNat))))), (4, .int (iI (sm + ((ws.getD i.toNat []).length : Int) + 1))), (5, .int (iI i)), (0, .ref a), (1, .int (iI w)), (2, .int (iI first))]) hx hb dL_leastOf_77 rfl hl (by decide) rfl (fun ls hl => ?_)
            refine z_iinc (lv' := [(5, .int (iI (i + 1))), (3, .int (iI r74)), (6, .int (iI (((w - (sm + ((ws.getD i.toNat []).length : Int) + 1)) * (w - (sm + ((ws.getD i.toNat []).length : Int) + 1))) + (zlb w ((zlW ws).drop (i + 1).toNat))))), (4, .int (iI (sm + ((ws.getD i.toNat []).length : Int) + 1))), (0, .ref a), (1, .int (iI w)), (2, .int (iI first))]) hx hb dL_leastOf_78 hl (k := 3) rfl (by decide) rfl (fun ls hl => ?_)
            refine lv_goto (tgt := 10) hx hb dL_leastOf_81 (by decide) ?_
            exact ih10 (i + 1) (sm + ((ws.getD i.toNat []).length : Int) + 1) r74  (by omega) (by omega) (by omega) (by omega) (by rw [hi10_3]; exact zsc_in (by omega) (by omega) (by omega) (by first | (rw [if_pos (by omega), show (zlW ws).drop (i + 1).toNat = [] from List.drop_eq_nil_of_le (by rw [zlW_l]; omega), zlb_nil]; omega) | (rw [if_neg (by omega)]; omega)))  _ _ hW ls (lv_sub hl [0, 3, 1, 4, 5, 6] rfl)
          · skip
            refine z_iconst hx hb dL_leastOf_46 ?_
            refine lv_goto (tgt := 69) hx hb dL_leastOf_47 (by decide) ?_
            refine lv_istore (lv' := [(6, .int (iI 0)), (4, .int (iI (sm + ((ws.getD i.toNat []).length : Int) + 1))), (5, .int (iI i)), (3, .int (iI b)), (0, .ref a), (1, .int (iI w)), (2, .int (iI first))]) hx hb dL_leastOf_69 hl (by decide) rfl (fun ls hl => ?_)
            refine lv_iload_n hx hb dL_leastOf_71 rfl (lv_at hl 3 rfl) ?_
            refine lv_iload hx hb dL_leastOf_72 (lv_at hl 0 rfl) ?_
            refine z_mmin (rest := []) hC hl qm_L_302 (by omega) (by omega) ⟨Nat.le_of_ble_eq_true rfl, Nat.le_of_ble_eq_true rfl⟩ ⟨Nat.le_of_ble_eq_true rfl, Nat.le_of_ble_eq_true rfl⟩ dL_leastOf_74 (fun r74 hmx74 => ?_)
            refine lv_istore_n (lv' := [(3, .int (iI r74)), (6, .int (iI 0)), (4, .int (iI (sm + ((ws.getD i.toNat []).length : Int) + 1))), (5, .int (iI i)), (0, .ref a), (1, .int (iI w)), (2, .int (iI first))]) hx hb dL_leastOf_77 rfl hl (by decide) rfl (fun ls hl => ?_)
            refine z_iinc (lv' := [(5, .int (iI (i + 1))), (3, .int (iI r74)), (6, .int (iI 0)), (4, .int (iI (sm + ((ws.getD i.toNat []).length : Int) + 1))), (0, .ref a), (1, .int (iI w)), (2, .int (iI first))]) hx hb dL_leastOf_78 hl (k := 3) rfl (by decide) rfl (fun ls hl => ?_)
            refine lv_goto (tgt := 10) hx hb dL_leastOf_81 (by decide) ?_
            exact ih10 (i + 1) (sm + ((ws.getD i.toNat []).length : Int) + 1) r74  (by omega) (by omega) (by omega) (by omega) (by rw [hi10_3]; exact zsc_in (by omega) (by omega) (by omega) (by first | (rw [if_pos (by omega), show (zlW ws).drop (i + 1).toNat = [] from List.drop_eq_nil_of_le (by rw [zlW_l]; omega), zlb_nil]; omega) | (rw [if_neg (by omega)]; omega)))  _ _ hW ls (lv_sub hl [0, 3, 1, 4, 5, 6] rfl)
  exact L10_k_1 _ first (-1) 999999  (Nat.lt_succ_self _) ⟨by omega, by omega⟩ ⟨by decide, by omega⟩ ⟨by decide, by decide⟩ (zsc_1b (by omega) (fun x hx => hfit x (List.mem_of_mem_drop hx)) (by rw [List.length_drop, zlW_l]; omega) (fun z => by have := congrArg List.length z; rw [List.length_drop, zlW_l] at this; simp at this; omega))  _ _ hW ls (lv_sub hl [0, 1, 2, 3, 4, 5] rfl)

set_option maxHeartbeats 4000000 in
set_option maxRecDepth 100000 in
theorem lm_least5 (l : Launch) (D : va_G) (cs : Nat → ClassId) (A : Nat → Prop) (X : zF) (a : Nat) (ws : List zWd) (w first : Int)  (hA : oSs7 cs X a ws) (hfit : zfit w (zlW ws)) (hwi : 4 ≤ w ∧ w ≤ 20) (hf0 : 0 ≤ first ∧ first < ws.length) (hf1 : (ws.length : Int) - first ≤ 5) (hw9 : ws.length ≤ 9) : zM l D cs A yL_leastOf cL_leastOf 7 (some FieldType.int) 8 0 0 [.ref a, .int (iI w), .int (iI first)] X (pI (fun r X1 => X = X1 ∧ zlb w ((zlW ws).drop first.toNat) = r)) := by
  refine zM_of (own := RL) (by decide) rfl (Nat.le_of_ble_eq_true rfl) ?_
  intro p e s m below meth c hC hr hlk hnm hZ ls hl
  have hx := hC.x
  have hb := hC.b
  have hl : lv_has ls 7 [(0, .ref a), (1, .int (iI w)), (2, .int (iI first))] := hl
  have hW := zW3.ofX hZ
  refine z_ldcwi (z := 999999) hC qz_1418 rfl dL_leastOf_0 ?_
  refine lv_istore_n (lv' := [(3, .int (iI 999999)), (0, .ref a), (1, .int (iI w)), (2, .int (iI first))]) hx hb dL_leastOf_3 rfl hl (by decide) rfl (fun ls hl => ?_)
  refine z_iconst hx hb dL_leastOf_4 ?_
  refine lv_istore (lv' := [(4, .int (iI (-1))), (3, .int (iI 999999)), (0, .ref a), (1, .int (iI w)), (2, .int (iI first))]) hx hb dL_leastOf_5 hl (by decide) rfl (fun ls hl => ?_)
  refine lv_iload_n hx hb dL_leastOf_7 rfl (lv_at hl 4 rfl) ?_
  refine lv_istore (lv' := [(5, .int (iI first)), (4, .int (iI (-1))), (3, .int (iI 999999)), (0, .ref a), (1, .int (iI w)), (2, .int (iI first))]) hx hb dL_leastOf_8 hl (by decide) rfl (fun ls hl => ?_)
  have L10_k_1 : ∀ (fu : Nat) (i sm b : Int)  (hfu : ((ws.length : Int) - i).toNat < fu) (hi10_0 : first ≤ i ∧ i ≤ ws.length) (hi10_1 : -1 ≤ sm ∧ sm ≤ 30 * (i - first)) (hi10_2 : 0 ≤ b ∧ b ≤ 999999) (hi10_3 : zlb w ((zlW ws).drop first.toNat) = zsc w sm b ((zlW ws).drop i.toNat)) (H : Heap) (locs : List Loc) (hW : zW3 D A s zE zE X H locs) (ls : Array Slot) (hl : lv_has ls 7 [(5, .int (iI i)), (4, .int (iI sm)), (3, .int (iI b)), (0, .ref a), (1, .int (iI w)), (2, .int (iI first))]), W p l e (zR 8 0 0) s m [.ref a, .int (iI w), .int (iI first)].toArray below meth c H locs 0 0 (MQ below (zQ D A (pI (fun r X1 => X = X1 ∧ zlb w ((zlW ws).drop first.toNat) = r))) [.ref a, .int (iI w), .int (iI first)].toArray s 0 0 A) (F0 m 10 ls []) := by
    intro fu
    induction fu with
    | zero =>
      intro i sm b  hfu
      exact absurd hfu (Nat.not_lt_zero _)
    | succ fu ih10 =>
      intro i sm b  hfu hi10_0 hi10_1 hi10_2 hi10_3  H locs hW ls hl
      refine lv_iload hx hb dL_leastOf_10 (lv_at hl 0 rfl) ?_
      refine lv_aload_n hx hb dL_leastOf_12 rfl (lv_at hl 3 rfl) ?_
      obtain ⟨fa_2, hfa_2, h2fa_2⟩ := id hA
      refine z_alen (t := 7) hC hW.x hfa_2 rfl dL_leastOf_13 ?_
      refine z_icmp_ge (tgt := 84) hx hb dL_leastOf_14 (by decide) (by omega) (by omega) (fun c_3 => ?_) (fun c_3 => ?_)
      · skip
        refine lv_iload_n hx hb dL_leastOf_84 rfl (lv_at hl 2 rfl) ?_
        exact z_iret hC hr hlk hW.x (by decide) (by decide) (⟨rfl, by rw [hi10_3, show (zlW ws).drop i.toNat = [] from List.drop_eq_nil_of_le (by rw [zlW_l]; omega)]; rfl⟩) dL_leastOf_85
      · skip
        refine lv_iload hx hb dL_leastOf_17 (lv_at hl 1 rfl) ?_
        refine lv_aload_n hx hb dL_leastOf_19 rfl (lv_at hl 3 rfl) ?_
        refine lv_iload hx hb dL_leastOf_20 (lv_at hl 0 rfl) ?_
        have hwf := zlW_fit hfit (i := i) (by omega) (by omega)
        obtain ⟨fa_4, hfa_4, h2fa_4⟩ := id hA
        obtain ⟨q22, vq22, h3fa_4, hsq22⟩ := h2fa_4 i (by omega) (by omega)
        refine z_aald (t := 7) (C := "java/lang/String") (v := some q22) hC hW.x hfa_4 rfl (by omega) (by omega) h3fa_4 dL_leastOf_22 ?_
        refine z_cXi hC (z_frSt (rest := [.int (iI sm)]) (As := []) (n := 0) hC hW.x (mes_length l D cs (zfA X _) X q22 vq22 (ws.getD i.toNat []) hsq22) gv_L_138 hd_J0_length_8abf5 hsq22 rfl hl rfl (Nat.le_of_ble_eq_true rfl) ⟨Nat.le_of_ble_eq_true rfl, Nat.le_of_ble_eq_true rfl⟩ ⟨Nat.le_of_ble_eq_true rfl, Nat.le_of_ble_eq_true rfl⟩ dL_leastOf_23) hW (fun r23 X23 H locs hp23 hW => ?_)
        obtain ⟨rfl, rfl⟩ := hp23
        refine z_iconst hx hb dL_leastOf_26 ?_
        refine z_iadd hx hb dL_leastOf_27 ?_
        refine z_iadd hx hb dL_leastOf_28 ?_
        refine z_top (y := sm + ((ws.getD i.toNat []).length : Int) + 1) (by omega) ?_
        refine lv_istore (lv' := [(4, .int (iI (sm + ((ws.getD i.toNat []).length : Int) + 1))), (5, .int (iI i)), (3, .int (iI b)), (0, .ref a), (1, .int (iI w)), (2, .int (iI first))]) hx hb dL_leastOf_29 hl (by decide) rfl (fun ls hl => ?_)
        refine lv_iload hx hb dL_leastOf_31 (lv_at hl 0 rfl) ?_
        refine lv_iload_n hx hb dL_leastOf_33 rfl (lv_at hl 4 rfl) ?_
        refine z_icmp_gt (tgt := 78) hx hb dL_leastOf_34 (by decide) (by omega) (by omega) (fun c_5 => ?_) (fun c_5 => ?_)
        · skip
          refine z_iinc (lv' := [(5, .int (iI (i + 1))), (4, .int (iI (sm + ((ws.getD i.toNat []).length : Int) + 1))), (3, .int (iI b)), (0, .ref a), (1, .int (iI w)), (2, .int (iI first))]) hx hb dL_leastOf_78 hl (k := 1) rfl (by decide) rfl (fun ls hl => ?_)
          refine lv_goto (tgt := 10) hx hb dL_leastOf_81 (by decide) ?_
          exact ih10 (i + 1) (sm + ((ws.getD i.toNat []).length : Int) + 1) b  (by omega) (by omega) (by omega) (by omega) (by rw [hi10_3]; exact zsc_out (by omega) (by omega) (by omega))  _ _ hW ls (lv_sub hl [0, 1, 2, 3, 4, 5] rfl)
        · skip
          refine lv_iload hx hb dL_leastOf_37 (lv_at hl 1 rfl) ?_
          refine lv_aload_n hx hb dL_leastOf_39 rfl (lv_at hl 3 rfl) ?_
          obtain ⟨fa_6, hfa_6, h2fa_6⟩ := id hA
          refine z_alen (t := 7) hC hW.x hfa_6 rfl dL_leastOf_40 ?_
          refine z_iconst hx hb dL_leastOf_41 ?_
          refine z_isub hx hb dL_leastOf_42 ?_
          refine z_icmp_ne (tgt := 50) hx hb dL_leastOf_43 (by decide) (by omega) (by omega) (fun c_7 => ?_) (fun c_7 => ?_)
          · skip
            have hsq := sq_bd (z := w - (sm + ((ws.getD i.toNat []).length : Int) + 1)) (n := 20) (by omega)
            have hsn := sq_nn (w - (sm + ((ws.getD i.toNat []).length : Int) + 1))
            have hlb := zlb_bd hwi.2 ((zlW ws).drop (i + 1).toNat) (fun x hx => hfit x (List.mem_of_mem_drop hx))
            have hln := (zlb_nn w ((zlW ws).drop (i + 1).toNat)).1
            have hld : ((zlW ws).drop (i + 1).toNat).length ≤ 9 := by rw [List.length_drop, zlW_l]; omega
            refine lv_iload_n hx hb dL_leastOf_50 rfl (lv_at hl 4 rfl) ?_
            refine lv_iload hx hb dL_leastOf_51 (lv_at hl 0 rfl) ?_
            refine z_isub hx hb dL_leastOf_53 ?_
            refine lv_iload_n hx hb dL_leastOf_54 rfl (lv_at hl 4 rfl) ?_
            refine lv_iload hx hb dL_leastOf_55 (lv_at hl 0 rfl) ?_
            refine z_isub hx hb dL_leastOf_57 ?_
            refine z_imul hx hb dL_leastOf_58 ?_
            refine lv_aload_n hx hb dL_leastOf_59 rfl (lv_at hl 3 rfl) ?_
            refine lv_iload_n hx hb dL_leastOf_60 rfl (lv_at hl 4 rfl) ?_
            refine lv_iload hx hb dL_leastOf_61 (lv_at hl 1 rfl) ?_
            refine z_iconst hx hb dL_leastOf_63 ?_
            refine z_iadd hx hb dL_leastOf_64 ?_
            refine z_cXi hC (z_frS (rest := [.int (iI ((w - (sm + ((ws.getD i.toNat []).length : Int) + 1)) * (w - (sm + ((ws.getD i.toNat []).length : Int) + 1))))]) (As := [.ref a, .int (iI w), .int (iI (i + 1))]) (n := 3) hC hW.x (lm_least4 l D cs (zfA X _) X a ws w (i + 1) hA hfit hwi (by omega) (by omega) hw9) gs_L_298 he_L_leastOf rfl hl rfl (Nat.le_of_ble_eq_true rfl) ⟨Nat.le_of_ble_eq_true rfl, Nat.le_of_ble_eq_true rfl⟩ ⟨Nat.le_of_ble_eq_true rfl, Nat.le_of_ble_eq_true rfl⟩ dL_leastOf_65) hW (fun r65 X65 H locs hp65 hW => ?_)
            obtain ⟨rfl, rfl⟩ := hp65
            refine z_iadd hx hb dL_leastOf_68 ?_
            refine lv_istore (lv' := [(6, .int (iI (((w - (sm + ((ws.getD i.toNat []).length : Int) + 1)) * (w - (sm + ((ws.getD i.toNat []).length : Int) + 1))) + (zlb w ((zlW ws).drop (i + 1).toNat))))), (4, .int (iI (sm + ((ws.getD i.toNat []).length : Int) + 1))), (5, .int (iI i)), (3, .int (iI b)), (0, .ref a), (1, .int (iI w)), (2, .int (iI first))]) hx hb dL_leastOf_69 hl (by decide) rfl (fun ls hl => ?_)
            refine lv_iload_n hx hb dL_leastOf_71 rfl (lv_at hl 3 rfl) ?_
            refine lv_iload hx hb dL_leastOf_72 (lv_at hl 0 rfl) ?_
            refine z_mmin (rest := []) hC hl qm_L_302 (by omega) (by omega) ⟨Nat.le_of_ble_eq_true rfl, Nat.le_of_ble_eq_true rfl⟩ ⟨Nat.le_of_ble_eq_true rfl, Nat.le_of_ble_eq_true rfl⟩ dL_leastOf_74 (fun r74 hmx74 => ?_)
            refine lv_istore_n (lv' := [(3, .int (iI r74)), (6, .int (iI (((w - (sm + ((ws.getD i.toNat []).length : Int) + 1)) * (w - (sm + ((ws.getD i.toNat []).length : Int) + 1))) + (zlb w ((zlW ws).drop (i + 1).toNat))))), (4, .int (iI (sm + ((ws.getD i.toNat []).length : Int) + 1))), (5, .int (iI i)), (0, .ref a), (1, .int (iI w)), (2, .int (iI first))]) hx hb dL_leastOf_77 rfl hl (by decide) rfl (fun ls hl => ?_)
            refine z_iinc (lv' := [(5, .int (iI (i + 1))), (3, .int (iI r74)), (6, .int (iI (((w - (sm + ((ws.getD i.toNat []).length : Int) + 1)) * (w - (sm + ((ws.getD i.toNat []).length : Int) + 1))) + (zlb w ((zlW ws).drop (i + 1).toNat))))), (4, .int (iI (sm + ((ws.getD i.toNat []).length : Int) + 1))), (0, .ref a), (1, .int (iI w)), (2, .int (iI first))]) hx hb dL_leastOf_78 hl (k := 3) rfl (by decide) rfl (fun ls hl => ?_)
            refine lv_goto (tgt := 10) hx hb dL_leastOf_81 (by decide) ?_
            exact ih10 (i + 1) (sm + ((ws.getD i.toNat []).length : Int) + 1) r74  (by omega) (by omega) (by omega) (by omega) (by rw [hi10_3]; exact zsc_in (by omega) (by omega) (by omega) (by first | (rw [if_pos (by omega), show (zlW ws).drop (i + 1).toNat = [] from List.drop_eq_nil_of_le (by rw [zlW_l]; omega), zlb_nil]; omega) | (rw [if_neg (by omega)]; omega)))  _ _ hW ls (lv_sub hl [0, 3, 1, 4, 5, 6] rfl)
          · skip
            refine z_iconst hx hb dL_leastOf_46 ?_
            refine lv_goto (tgt := 69) hx hb dL_leastOf_47 (by decide) ?_
            refine lv_istore (lv' := [(6, .int (iI 0)), (4, .int (iI (sm + ((ws.getD i.toNat []).length : Int) + 1))), (5, .int (iI i)), (3, .int (iI b)), (0, .ref a), (1, .int (iI w)), (2, .int (iI first))]) hx hb dL_leastOf_69 hl (by decide) rfl (fun ls hl => ?_)
            refine lv_iload_n hx hb dL_leastOf_71 rfl (lv_at hl 3 rfl) ?_
            refine lv_iload hx hb dL_leastOf_72 (lv_at hl 0 rfl) ?_
            refine z_mmin (rest := []) hC hl qm_L_302 (by omega) (by omega) ⟨Nat.le_of_ble_eq_true rfl, Nat.le_of_ble_eq_true rfl⟩ ⟨Nat.le_of_ble_eq_true rfl, Nat.le_of_ble_eq_true rfl⟩ dL_leastOf_74 (fun r74 hmx74 => ?_)
            refine lv_istore_n (lv' := [(3, .int (iI r74)), (6, .int (iI 0)), (4, .int (iI (sm + ((ws.getD i.toNat []).length : Int) + 1))), (5, .int (iI i)), (0, .ref a), (1, .int (iI w)), (2, .int (iI first))]) hx hb dL_leastOf_77 rfl hl (by decide) rfl (fun ls hl => ?_)
            refine z_iinc (lv' := [(5, .int (iI (i + 1))), (3, .int (iI r74)), (6, .int (iI 0)), (4, .int (iI (sm + ((ws.getD i.toNat []).length : Int) + 1))), (0, .ref a), (1, .int (iI w)), (2, .int (iI first))]) hx hb dL_leastOf_78 hl (k := 3) rfl (by decide) rfl (fun ls hl => ?_)
            refine lv_goto (tgt := 10) hx hb dL_leastOf_81 (by decide) ?_
            exact ih10 (i + 1) (sm + ((ws.getD i.toNat []).length : Int) + 1) r74  (by omega) (by omega) (by omega) (by omega) (by rw [hi10_3]; exact zsc_in (by omega) (by omega) (by omega) (by first | (rw [if_pos (by omega), show (zlW ws).drop (i + 1).toNat = [] from List.drop_eq_nil_of_le (by rw [zlW_l]; omega), zlb_nil]; omega) | (rw [if_neg (by omega)]; omega)))  _ _ hW ls (lv_sub hl [0, 3, 1, 4, 5, 6] rfl)
  exact L10_k_1 _ first (-1) 999999  (Nat.lt_succ_self _) ⟨by omega, by omega⟩ ⟨by decide, by omega⟩ ⟨by decide, by decide⟩ (zsc_1b (by omega) (fun x hx => hfit x (List.mem_of_mem_drop hx)) (by rw [List.length_drop, zlW_l]; omega) (fun z => by have := congrArg List.length z; rw [List.length_drop, zlW_l] at this; simp at this; omega))  _ _ hW ls (lv_sub hl [0, 1, 2, 3, 4, 5] rfl)

set_option maxHeartbeats 4000000 in
set_option maxRecDepth 100000 in
theorem lm_least6 (l : Launch) (D : va_G) (cs : Nat → ClassId) (A : Nat → Prop) (X : zF) (a : Nat) (ws : List zWd) (w first : Int)  (hA : oSs7 cs X a ws) (hfit : zfit w (zlW ws)) (hwi : 4 ≤ w ∧ w ≤ 20) (hf0 : 0 ≤ first ∧ first < ws.length) (hf1 : (ws.length : Int) - first ≤ 6) (hw9 : ws.length ≤ 9) : zM l D cs A yL_leastOf cL_leastOf 7 (some FieldType.int) 9 0 0 [.ref a, .int (iI w), .int (iI first)] X (pI (fun r X1 => X = X1 ∧ zlb w ((zlW ws).drop first.toNat) = r)) := by
  refine zM_of (own := RL) (by decide) rfl (Nat.le_of_ble_eq_true rfl) ?_
  intro p e s m below meth c hC hr hlk hnm hZ ls hl
  have hx := hC.x
  have hb := hC.b
  have hl : lv_has ls 7 [(0, .ref a), (1, .int (iI w)), (2, .int (iI first))] := hl
  have hW := zW3.ofX hZ
  refine z_ldcwi (z := 999999) hC qz_1418 rfl dL_leastOf_0 ?_
  refine lv_istore_n (lv' := [(3, .int (iI 999999)), (0, .ref a), (1, .int (iI w)), (2, .int (iI first))]) hx hb dL_leastOf_3 rfl hl (by decide) rfl (fun ls hl => ?_)
  refine z_iconst hx hb dL_leastOf_4 ?_
  refine lv_istore (lv' := [(4, .int (iI (-1))), (3, .int (iI 999999)), (0, .ref a), (1, .int (iI w)), (2, .int (iI first))]) hx hb dL_leastOf_5 hl (by decide) rfl (fun ls hl => ?_)
  refine lv_iload_n hx hb dL_leastOf_7 rfl (lv_at hl 4 rfl) ?_
  refine lv_istore (lv' := [(5, .int (iI first)), (4, .int (iI (-1))), (3, .int (iI 999999)), (0, .ref a), (1, .int (iI w)), (2, .int (iI first))]) hx hb dL_leastOf_8 hl (by decide) rfl (fun ls hl => ?_)
  have L10_k_1 : ∀ (fu : Nat) (i sm b : Int)  (hfu : ((ws.length : Int) - i).toNat < fu) (hi10_0 : first ≤ i ∧ i ≤ ws.length) (hi10_1 : -1 ≤ sm ∧ sm ≤ 30 * (i - first)) (hi10_2 : 0 ≤ b ∧ b ≤ 999999) (hi10_3 : zlb w ((zlW ws).drop first.toNat) = zsc w sm b ((zlW ws).drop i.toNat)) (H : Heap) (locs : List Loc) (hW : zW3 D A s zE zE X H locs) (ls : Array Slot) (hl : lv_has ls 7 [(5, .int (iI i)), (4, .int (iI sm)), (3, .int (iI b)), (0, .ref a), (1, .int (iI w)), (2, .int (iI first))]), W p l e (zR 9 0 0) s m [.ref a, .int (iI w), .int (iI first)].toArray below meth c H locs 0 0 (MQ below (zQ D A (pI (fun r X1 => X = X1 ∧ zlb w ((zlW ws).drop first.toNat) = r))) [.ref a, .int (iI w), .int (iI first)].toArray s 0 0 A) (F0 m 10 ls []) := by
    intro fu
    induction fu with
    | zero =>
      intro i sm b  hfu
      exact absurd hfu (Nat.not_lt_zero _)
    | succ fu ih10 =>
      intro i sm b  hfu hi10_0 hi10_1 hi10_2 hi10_3  H locs hW ls hl
      refine lv_iload hx hb dL_leastOf_10 (lv_at hl 0 rfl) ?_
      refine lv_aload_n hx hb dL_leastOf_12 rfl (lv_at hl 3 rfl) ?_
      obtain ⟨fa_2, hfa_2, h2fa_2⟩ := id hA
      refine z_alen (t := 7) hC hW.x hfa_2 rfl dL_leastOf_13 ?_
      refine z_icmp_ge (tgt := 84) hx hb dL_leastOf_14 (by decide) (by omega) (by omega) (fun c_3 => ?_) (fun c_3 => ?_)
      · skip
        refine lv_iload_n hx hb dL_leastOf_84 rfl (lv_at hl 2 rfl) ?_
        exact z_iret hC hr hlk hW.x (by decide) (by decide) (⟨rfl, by rw [hi10_3, show (zlW ws).drop i.toNat = [] from List.drop_eq_nil_of_le (by rw [zlW_l]; omega)]; rfl⟩) dL_leastOf_85
      · skip
        refine lv_iload hx hb dL_leastOf_17 (lv_at hl 1 rfl) ?_
        refine lv_aload_n hx hb dL_leastOf_19 rfl (lv_at hl 3 rfl) ?_
        refine lv_iload hx hb dL_leastOf_20 (lv_at hl 0 rfl) ?_
        have hwf := zlW_fit hfit (i := i) (by omega) (by omega)
        obtain ⟨fa_4, hfa_4, h2fa_4⟩ := id hA
        obtain ⟨q22, vq22, h3fa_4, hsq22⟩ := h2fa_4 i (by omega) (by omega)
        refine z_aald (t := 7) (C := "java/lang/String") (v := some q22) hC hW.x hfa_4 rfl (by omega) (by omega) h3fa_4 dL_leastOf_22 ?_
        refine z_cXi hC (z_frSt (rest := [.int (iI sm)]) (As := []) (n := 0) hC hW.x (mes_length l D cs (zfA X _) X q22 vq22 (ws.getD i.toNat []) hsq22) gv_L_138 hd_J0_length_8abf5 hsq22 rfl hl rfl (Nat.le_of_ble_eq_true rfl) ⟨Nat.le_of_ble_eq_true rfl, Nat.le_of_ble_eq_true rfl⟩ ⟨Nat.le_of_ble_eq_true rfl, Nat.le_of_ble_eq_true rfl⟩ dL_leastOf_23) hW (fun r23 X23 H locs hp23 hW => ?_)
        obtain ⟨rfl, rfl⟩ := hp23
        refine z_iconst hx hb dL_leastOf_26 ?_
        refine z_iadd hx hb dL_leastOf_27 ?_
        refine z_iadd hx hb dL_leastOf_28 ?_
        refine z_top (y := sm + ((ws.getD i.toNat []).length : Int) + 1) (by omega) ?_
        refine lv_istore (lv' := [(4, .int (iI (sm + ((ws.getD i.toNat []).length : Int) + 1))), (5, .int (iI i)), (3, .int (iI b)), (0, .ref a), (1, .int (iI w)), (2, .int (iI first))]) hx hb dL_leastOf_29 hl (by decide) rfl (fun ls hl => ?_)
        refine lv_iload hx hb dL_leastOf_31 (lv_at hl 0 rfl) ?_
        refine lv_iload_n hx hb dL_leastOf_33 rfl (lv_at hl 4 rfl) ?_
        refine z_icmp_gt (tgt := 78) hx hb dL_leastOf_34 (by decide) (by omega) (by omega) (fun c_5 => ?_) (fun c_5 => ?_)
        · skip
          refine z_iinc (lv' := [(5, .int (iI (i + 1))), (4, .int (iI (sm + ((ws.getD i.toNat []).length : Int) + 1))), (3, .int (iI b)), (0, .ref a), (1, .int (iI w)), (2, .int (iI first))]) hx hb dL_leastOf_78 hl (k := 1) rfl (by decide) rfl (fun ls hl => ?_)
          refine lv_goto (tgt := 10) hx hb dL_leastOf_81 (by decide) ?_
          exact ih10 (i + 1) (sm + ((ws.getD i.toNat []).length : Int) + 1) b  (by omega) (by omega) (by omega) (by omega) (by rw [hi10_3]; exact zsc_out (by omega) (by omega) (by omega))  _ _ hW ls (lv_sub hl [0, 1, 2, 3, 4, 5] rfl)
        · skip
          refine lv_iload hx hb dL_leastOf_37 (lv_at hl 1 rfl) ?_
          refine lv_aload_n hx hb dL_leastOf_39 rfl (lv_at hl 3 rfl) ?_
          obtain ⟨fa_6, hfa_6, h2fa_6⟩ := id hA
          refine z_alen (t := 7) hC hW.x hfa_6 rfl dL_leastOf_40 ?_
          refine z_iconst hx hb dL_leastOf_41 ?_
          refine z_isub hx hb dL_leastOf_42 ?_
          refine z_icmp_ne (tgt := 50) hx hb dL_leastOf_43 (by decide) (by omega) (by omega) (fun c_7 => ?_) (fun c_7 => ?_)
          · skip
            have hsq := sq_bd (z := w - (sm + ((ws.getD i.toNat []).length : Int) + 1)) (n := 20) (by omega)
            have hsn := sq_nn (w - (sm + ((ws.getD i.toNat []).length : Int) + 1))
            have hlb := zlb_bd hwi.2 ((zlW ws).drop (i + 1).toNat) (fun x hx => hfit x (List.mem_of_mem_drop hx))
            have hln := (zlb_nn w ((zlW ws).drop (i + 1).toNat)).1
            have hld : ((zlW ws).drop (i + 1).toNat).length ≤ 9 := by rw [List.length_drop, zlW_l]; omega
            refine lv_iload_n hx hb dL_leastOf_50 rfl (lv_at hl 4 rfl) ?_
            refine lv_iload hx hb dL_leastOf_51 (lv_at hl 0 rfl) ?_
            refine z_isub hx hb dL_leastOf_53 ?_
            refine lv_iload_n hx hb dL_leastOf_54 rfl (lv_at hl 4 rfl) ?_
            refine lv_iload hx hb dL_leastOf_55 (lv_at hl 0 rfl) ?_
            refine z_isub hx hb dL_leastOf_57 ?_
            refine z_imul hx hb dL_leastOf_58 ?_
            refine lv_aload_n hx hb dL_leastOf_59 rfl (lv_at hl 3 rfl) ?_
            refine lv_iload_n hx hb dL_leastOf_60 rfl (lv_at hl 4 rfl) ?_
            refine lv_iload hx hb dL_leastOf_61 (lv_at hl 1 rfl) ?_
            refine z_iconst hx hb dL_leastOf_63 ?_
            refine z_iadd hx hb dL_leastOf_64 ?_
            refine z_cXi hC (z_frS (rest := [.int (iI ((w - (sm + ((ws.getD i.toNat []).length : Int) + 1)) * (w - (sm + ((ws.getD i.toNat []).length : Int) + 1))))]) (As := [.ref a, .int (iI w), .int (iI (i + 1))]) (n := 3) hC hW.x (lm_least5 l D cs (zfA X _) X a ws w (i + 1) hA hfit hwi (by omega) (by omega) hw9) gs_L_298 he_L_leastOf rfl hl rfl (Nat.le_of_ble_eq_true rfl) ⟨Nat.le_of_ble_eq_true rfl, Nat.le_of_ble_eq_true rfl⟩ ⟨Nat.le_of_ble_eq_true rfl, Nat.le_of_ble_eq_true rfl⟩ dL_leastOf_65) hW (fun r65 X65 H locs hp65 hW => ?_)
            obtain ⟨rfl, rfl⟩ := hp65
            refine z_iadd hx hb dL_leastOf_68 ?_
            refine lv_istore (lv' := [(6, .int (iI (((w - (sm + ((ws.getD i.toNat []).length : Int) + 1)) * (w - (sm + ((ws.getD i.toNat []).length : Int) + 1))) + (zlb w ((zlW ws).drop (i + 1).toNat))))), (4, .int (iI (sm + ((ws.getD i.toNat []).length : Int) + 1))), (5, .int (iI i)), (3, .int (iI b)), (0, .ref a), (1, .int (iI w)), (2, .int (iI first))]) hx hb dL_leastOf_69 hl (by decide) rfl (fun ls hl => ?_)
            refine lv_iload_n hx hb dL_leastOf_71 rfl (lv_at hl 3 rfl) ?_
            refine lv_iload hx hb dL_leastOf_72 (lv_at hl 0 rfl) ?_
            refine z_mmin (rest := []) hC hl qm_L_302 (by omega) (by omega) ⟨Nat.le_of_ble_eq_true rfl, Nat.le_of_ble_eq_true rfl⟩ ⟨Nat.le_of_ble_eq_true rfl, Nat.le_of_ble_eq_true rfl⟩ dL_leastOf_74 (fun r74 hmx74 => ?_)
            refine lv_istore_n (lv' := [(3, .int (iI r74)), (6, .int (iI (((w - (sm + ((ws.getD i.toNat []).length : Int) + 1)) * (w - (sm + ((ws.getD i.toNat []).length : Int) + 1))) + (zlb w ((zlW ws).drop (i + 1).toNat))))), (4, .int (iI (sm + ((ws.getD i.toNat []).length : Int) + 1))), (5, .int (iI i)), (0, .ref a), (1, .int (iI w)), (2, .int (iI first))]) hx hb dL_leastOf_77 rfl hl (by decide) rfl (fun ls hl => ?_)
            refine z_iinc (lv' := [(5, .int (iI (i + 1))), (3, .int (iI r74)), (6, .int (iI (((w - (sm + ((ws.getD i.toNat []).length : Int) + 1)) * (w - (sm + ((ws.getD i.toNat []).length : Int) + 1))) + (zlb w ((zlW ws).drop (i + 1).toNat))))), (4, .int (iI (sm + ((ws.getD i.toNat []).length : Int) + 1))), (0, .ref a), (1, .int (iI w)), (2, .int (iI first))]) hx hb dL_leastOf_78 hl (k := 3) rfl (by decide) rfl (fun ls hl => ?_)
            refine lv_goto (tgt := 10) hx hb dL_leastOf_81 (by decide) ?_
            exact ih10 (i + 1) (sm + ((ws.getD i.toNat []).length : Int) + 1) r74  (by omega) (by omega) (by omega) (by omega) (by rw [hi10_3]; exact zsc_in (by omega) (by omega) (by omega) (by first | (rw [if_pos (by omega), show (zlW ws).drop (i + 1).toNat = [] from List.drop_eq_nil_of_le (by rw [zlW_l]; omega), zlb_nil]; omega) | (rw [if_neg (by omega)]; omega)))  _ _ hW ls (lv_sub hl [0, 3, 1, 4, 5, 6] rfl)
          · skip
            refine z_iconst hx hb dL_leastOf_46 ?_
            refine lv_goto (tgt := 69) hx hb dL_leastOf_47 (by decide) ?_
            refine lv_istore (lv' := [(6, .int (iI 0)), (4, .int (iI (sm + ((ws.getD i.toNat []).length : Int) + 1))), (5, .int (iI i)), (3, .int (iI b)), (0, .ref a), (1, .int (iI w)), (2, .int (iI first))]) hx hb dL_leastOf_69 hl (by decide) rfl (fun ls hl => ?_)
            refine lv_iload_n hx hb dL_leastOf_71 rfl (lv_at hl 3 rfl) ?_
            refine lv_iload hx hb dL_leastOf_72 (lv_at hl 0 rfl) ?_
            refine z_mmin (rest := []) hC hl qm_L_302 (by omega) (by omega) ⟨Nat.le_of_ble_eq_true rfl, Nat.le_of_ble_eq_true rfl⟩ ⟨Nat.le_of_ble_eq_true rfl, Nat.le_of_ble_eq_true rfl⟩ dL_leastOf_74 (fun r74 hmx74 => ?_)
            refine lv_istore_n (lv' := [(3, .int (iI r74)), (6, .int (iI 0)), (4, .int (iI (sm + ((ws.getD i.toNat []).length : Int) + 1))), (5, .int (iI i)), (0, .ref a), (1, .int (iI w)), (2, .int (iI first))]) hx hb dL_leastOf_77 rfl hl (by decide) rfl (fun ls hl => ?_)
            refine z_iinc (lv' := [(5, .int (iI (i + 1))), (3, .int (iI r74)), (6, .int (iI 0)), (4, .int (iI (sm + ((ws.getD i.toNat []).length : Int) + 1))), (0, .ref a), (1, .int (iI w)), (2, .int (iI first))]) hx hb dL_leastOf_78 hl (k := 3) rfl (by decide) rfl (fun ls hl => ?_)
            refine lv_goto (tgt := 10) hx hb dL_leastOf_81 (by decide) ?_
            exact ih10 (i + 1) (sm + ((ws.getD i.toNat []).length : Int) + 1) r74  (by omega) (by omega) (by omega) (by omega) (by rw [hi10_3]; exact zsc_in (by omega) (by omega) (by omega) (by first | (rw [if_pos (by omega), show (zlW ws).drop (i + 1).toNat = [] from List.drop_eq_nil_of_le (by rw [zlW_l]; omega), zlb_nil]; omega) | (rw [if_neg (by omega)]; omega)))  _ _ hW ls (lv_sub hl [0, 3, 1, 4, 5, 6] rfl)
  exact L10_k_1 _ first (-1) 999999  (Nat.lt_succ_self _) ⟨by omega, by omega⟩ ⟨by decide, by omega⟩ ⟨by decide, by decide⟩ (zsc_1b (by omega) (fun x hx => hfit x (List.mem_of_mem_drop hx)) (by rw [List.length_drop, zlW_l]; omega) (fun z => by have := congrArg List.length z; rw [List.length_drop, zlW_l] at this; simp at this; omega))  _ _ hW ls (lv_sub hl [0, 1, 2, 3, 4, 5] rfl)

set_option maxHeartbeats 4000000 in
set_option maxRecDepth 100000 in
theorem lm_least7 (l : Launch) (D : va_G) (cs : Nat → ClassId) (A : Nat → Prop) (X : zF) (a : Nat) (ws : List zWd) (w first : Int)  (hA : oSs7 cs X a ws) (hfit : zfit w (zlW ws)) (hwi : 4 ≤ w ∧ w ≤ 20) (hf0 : 0 ≤ first ∧ first < ws.length) (hf1 : (ws.length : Int) - first ≤ 7) (hw9 : ws.length ≤ 9) : zM l D cs A yL_leastOf cL_leastOf 7 (some FieldType.int) 10 0 0 [.ref a, .int (iI w), .int (iI first)] X (pI (fun r X1 => X = X1 ∧ zlb w ((zlW ws).drop first.toNat) = r)) := by
  refine zM_of (own := RL) (by decide) rfl (Nat.le_of_ble_eq_true rfl) ?_
  intro p e s m below meth c hC hr hlk hnm hZ ls hl
  have hx := hC.x
  have hb := hC.b
  have hl : lv_has ls 7 [(0, .ref a), (1, .int (iI w)), (2, .int (iI first))] := hl
  have hW := zW3.ofX hZ
  refine z_ldcwi (z := 999999) hC qz_1418 rfl dL_leastOf_0 ?_
  refine lv_istore_n (lv' := [(3, .int (iI 999999)), (0, .ref a), (1, .int (iI w)), (2, .int (iI first))]) hx hb dL_leastOf_3 rfl hl (by decide) rfl (fun ls hl => ?_)
  refine z_iconst hx hb dL_leastOf_4 ?_
  refine lv_istore (lv' := [(4, .int (iI (-1))), (3, .int (iI 999999)), (0, .ref a), (1, .int (iI w)), (2, .int (iI first))]) hx hb dL_leastOf_5 hl (by decide) rfl (fun ls hl => ?_)
  refine lv_iload_n hx hb dL_leastOf_7 rfl (lv_at hl 4 rfl) ?_
  refine lv_istore (lv' := [(5, .int (iI first)), (4, .int (iI (-1))), (3, .int (iI 999999)), (0, .ref a), (1, .int (iI w)), (2, .int (iI first))]) hx hb dL_leastOf_8 hl (by decide) rfl (fun ls hl => ?_)
  have L10_k_1 : ∀ (fu : Nat) (i sm b : Int)  (hfu : ((ws.length : Int) - i).toNat < fu) (hi10_0 : first ≤ i ∧ i ≤ ws.length) (hi10_1 : -1 ≤ sm ∧ sm ≤ 30 * (i - first)) (hi10_2 : 0 ≤ b ∧ b ≤ 999999) (hi10_3 : zlb w ((zlW ws).drop first.toNat) = zsc w sm b ((zlW ws).drop i.toNat)) (H : Heap) (locs : List Loc) (hW : zW3 D A s zE zE X H locs) (ls : Array Slot) (hl : lv_has ls 7 [(5, .int (iI i)), (4, .int (iI sm)), (3, .int (iI b)), (0, .ref a), (1, .int (iI w)), (2, .int (iI first))]), W p l e (zR 10 0 0) s m [.ref a, .int (iI w), .int (iI first)].toArray below meth c H locs 0 0 (MQ below (zQ D A (pI (fun r X1 => X = X1 ∧ zlb w ((zlW ws).drop first.toNat) = r))) [.ref a, .int (iI w), .int (iI first)].toArray s 0 0 A) (F0 m 10 ls []) := by
    intro fu
    induction fu with
    | zero =>
      intro i sm b  hfu
      exact absurd hfu (Nat.not_lt_zero _)
    | succ fu ih10 =>
      intro i sm b  hfu hi10_0 hi10_1 hi10_2 hi10_3  H locs hW ls hl
      refine lv_iload hx hb dL_leastOf_10 (lv_at hl 0 rfl) ?_
      refine lv_aload_n hx hb dL_leastOf_12 rfl (lv_at hl 3 rfl) ?_
      obtain ⟨fa_2, hfa_2, h2fa_2⟩ := id hA
      refine z_alen (t := 7) hC hW.x hfa_2 rfl dL_leastOf_13 ?_
      refine z_icmp_ge (tgt := 84) hx hb dL_leastOf_14 (by decide) (by omega) (by omega) (fun c_3 => ?_) (fun c_3 => ?_)
      · skip
        refine lv_iload_n hx hb dL_leastOf_84 rfl (lv_at hl 2 rfl) ?_
        exact z_iret hC hr hlk hW.x (by decide) (by decide) (⟨rfl, by rw [hi10_3, show (zlW ws).drop i.toNat = [] from List.drop_eq_nil_of_le (by rw [zlW_l]; omega)]; rfl⟩) dL_leastOf_85
      · skip
        refine lv_iload hx hb dL_leastOf_17 (lv_at hl 1 rfl) ?_
        refine lv_aload_n hx hb dL_leastOf_19 rfl (lv_at hl 3 rfl) ?_
        refine lv_iload hx hb dL_leastOf_20 (lv_at hl 0 rfl) ?_
        have hwf := zlW_fit hfit (i := i) (by omega) (by omega)
        obtain ⟨fa_4, hfa_4, h2fa_4⟩ := id hA
        obtain ⟨q22, vq22, h3fa_4, hsq22⟩ := h2fa_4 i (by omega) (by omega)
        refine z_aald (t := 7) (C := "java/lang/String") (v := some q22) hC hW.x hfa_4 rfl (by omega) (by omega) h3fa_4 dL_leastOf_22 ?_
        refine z_cXi hC (z_frSt (rest := [.int (iI sm)]) (As := []) (n := 0) hC hW.x (mes_length l D cs (zfA X _) X q22 vq22 (ws.getD i.toNat []) hsq22) gv_L_138 hd_J0_length_8abf5 hsq22 rfl hl rfl (Nat.le_of_ble_eq_true rfl) ⟨Nat.le_of_ble_eq_true rfl, Nat.le_of_ble_eq_true rfl⟩ ⟨Nat.le_of_ble_eq_true rfl, Nat.le_of_ble_eq_true rfl⟩ dL_leastOf_23) hW (fun r23 X23 H locs hp23 hW => ?_)
        obtain ⟨rfl, rfl⟩ := hp23
        refine z_iconst hx hb dL_leastOf_26 ?_
        refine z_iadd hx hb dL_leastOf_27 ?_
        refine z_iadd hx hb dL_leastOf_28 ?_
        refine z_top (y := sm + ((ws.getD i.toNat []).length : Int) + 1) (by omega) ?_
        refine lv_istore (lv' := [(4, .int (iI (sm + ((ws.getD i.toNat []).length : Int) + 1))), (5, .int (iI i)), (3, .int (iI b)), (0, .ref a), (1, .int (iI w)), (2, .int (iI first))]) hx hb dL_leastOf_29 hl (by decide) rfl (fun ls hl => ?_)
        refine lv_iload hx hb dL_leastOf_31 (lv_at hl 0 rfl) ?_
        refine lv_iload_n hx hb dL_leastOf_33 rfl (lv_at hl 4 rfl) ?_
        refine z_icmp_gt (tgt := 78) hx hb dL_leastOf_34 (by decide) (by omega) (by omega) (fun c_5 => ?_) (fun c_5 => ?_)
        · skip
          refine z_iinc (lv' := [(5, .int (iI (i + 1))), (4, .int (iI (sm + ((ws.getD i.toNat []).length : Int) + 1))), (3, .int (iI b)), (0, .ref a), (1, .int (iI w)), (2, .int (iI first))]) hx hb dL_leastOf_78 hl (k := 1) rfl (by decide) rfl (fun ls hl => ?_)
          refine lv_goto (tgt := 10) hx hb dL_leastOf_81 (by decide) ?_
          exact ih10 (i + 1) (sm + ((ws.getD i.toNat []).length : Int) + 1) b  (by omega) (by omega) (by omega) (by omega) (by rw [hi10_3]; exact zsc_out (by omega) (by omega) (by omega))  _ _ hW ls (lv_sub hl [0, 1, 2, 3, 4, 5] rfl)
        · skip
          refine lv_iload hx hb dL_leastOf_37 (lv_at hl 1 rfl) ?_
          refine lv_aload_n hx hb dL_leastOf_39 rfl (lv_at hl 3 rfl) ?_
          obtain ⟨fa_6, hfa_6, h2fa_6⟩ := id hA
          refine z_alen (t := 7) hC hW.x hfa_6 rfl dL_leastOf_40 ?_
          refine z_iconst hx hb dL_leastOf_41 ?_
          refine z_isub hx hb dL_leastOf_42 ?_
          refine z_icmp_ne (tgt := 50) hx hb dL_leastOf_43 (by decide) (by omega) (by omega) (fun c_7 => ?_) (fun c_7 => ?_)
          · skip
            have hsq := sq_bd (z := w - (sm + ((ws.getD i.toNat []).length : Int) + 1)) (n := 20) (by omega)
            have hsn := sq_nn (w - (sm + ((ws.getD i.toNat []).length : Int) + 1))
            have hlb := zlb_bd hwi.2 ((zlW ws).drop (i + 1).toNat) (fun x hx => hfit x (List.mem_of_mem_drop hx))
            have hln := (zlb_nn w ((zlW ws).drop (i + 1).toNat)).1
            have hld : ((zlW ws).drop (i + 1).toNat).length ≤ 9 := by rw [List.length_drop, zlW_l]; omega
            refine lv_iload_n hx hb dL_leastOf_50 rfl (lv_at hl 4 rfl) ?_
            refine lv_iload hx hb dL_leastOf_51 (lv_at hl 0 rfl) ?_
            refine z_isub hx hb dL_leastOf_53 ?_
            refine lv_iload_n hx hb dL_leastOf_54 rfl (lv_at hl 4 rfl) ?_
            refine lv_iload hx hb dL_leastOf_55 (lv_at hl 0 rfl) ?_
            refine z_isub hx hb dL_leastOf_57 ?_
            refine z_imul hx hb dL_leastOf_58 ?_
            refine lv_aload_n hx hb dL_leastOf_59 rfl (lv_at hl 3 rfl) ?_
            refine lv_iload_n hx hb dL_leastOf_60 rfl (lv_at hl 4 rfl) ?_
            refine lv_iload hx hb dL_leastOf_61 (lv_at hl 1 rfl) ?_
            refine z_iconst hx hb dL_leastOf_63 ?_
            refine z_iadd hx hb dL_leastOf_64 ?_
            refine z_cXi hC (z_frS (rest := [.int (iI ((w - (sm + ((ws.getD i.toNat []).length : Int) + 1)) * (w - (sm + ((ws.getD i.toNat []).length : Int) + 1))))]) (As := [.ref a, .int (iI w), .int (iI (i + 1))]) (n := 3) hC hW.x (lm_least6 l D cs (zfA X _) X a ws w (i + 1) hA hfit hwi (by omega) (by omega) hw9) gs_L_298 he_L_leastOf rfl hl rfl (Nat.le_of_ble_eq_true rfl) ⟨Nat.le_of_ble_eq_true rfl, Nat.le_of_ble_eq_true rfl⟩ ⟨Nat.le_of_ble_eq_true rfl, Nat.le_of_ble_eq_true rfl⟩ dL_leastOf_65) hW (fun r65 X65 H locs hp65 hW => ?_)
            obtain ⟨rfl, rfl⟩ := hp65
            refine z_iadd hx hb dL_leastOf_68 ?_
            refine lv_istore (lv' := [(6, .int (iI (((w - (sm + ((ws.getD i.toNat []).length : Int) + 1)) * (w - (sm + ((ws.getD i.toNat []).length : Int) + 1))) + (zlb w ((zlW ws).drop (i + 1).toNat))))), (4, .int (iI (sm + ((ws.getD i.toNat []).length : Int) + 1))), (5, .int (iI i)), (3, .int (iI b)), (0, .ref a), (1, .int (iI w)), (2, .int (iI first))]) hx hb dL_leastOf_69 hl (by decide) rfl (fun ls hl => ?_)
            refine lv_iload_n hx hb dL_leastOf_71 rfl (lv_at hl 3 rfl) ?_
            refine lv_iload hx hb dL_leastOf_72 (lv_at hl 0 rfl) ?_
            refine z_mmin (rest := []) hC hl qm_L_302 (by omega) (by omega) ⟨Nat.le_of_ble_eq_true rfl, Nat.le_of_ble_eq_true rfl⟩ ⟨Nat.le_of_ble_eq_true rfl, Nat.le_of_ble_eq_true rfl⟩ dL_leastOf_74 (fun r74 hmx74 => ?_)
            refine lv_istore_n (lv' := [(3, .int (iI r74)), (6, .int (iI (((w - (sm + ((ws.getD i.toNat []).length : Int) + 1)) * (w - (sm + ((ws.getD i.toNat []).length : Int) + 1))) + (zlb w ((zlW ws).drop (i + 1).toNat))))), (4, .int (iI (sm + ((ws.getD i.toNat []).length : Int) + 1))), (5, .int (iI i)), (0, .ref a), (1, .int (iI w)), (2, .int (iI first))]) hx hb dL_leastOf_77 rfl hl (by decide) rfl (fun ls hl => ?_)
            refine z_iinc (lv' := [(5, .int (iI (i + 1))), (3, .int (iI r74)), (6, .int (iI (((w - (sm + ((ws.getD i.toNat []).length : Int) + 1)) * (w - (sm + ((ws.getD i.toNat []).length : Int) + 1))) + (zlb w ((zlW ws).drop (i + 1).toNat))))), (4, .int (iI (sm + ((ws.getD i.toNat []).length : Int) + 1))), (0, .ref a), (1, .int (iI w)), (2, .int (iI first))]) hx hb dL_leastOf_78 hl (k := 3) rfl (by decide) rfl (fun ls hl => ?_)
            refine lv_goto (tgt := 10) hx hb dL_leastOf_81 (by decide) ?_
            exact ih10 (i + 1) (sm + ((ws.getD i.toNat []).length : Int) + 1) r74  (by omega) (by omega) (by omega) (by omega) (by rw [hi10_3]; exact zsc_in (by omega) (by omega) (by omega) (by first | (rw [if_pos (by omega), show (zlW ws).drop (i + 1).toNat = [] from List.drop_eq_nil_of_le (by rw [zlW_l]; omega), zlb_nil]; omega) | (rw [if_neg (by omega)]; omega)))  _ _ hW ls (lv_sub hl [0, 3, 1, 4, 5, 6] rfl)
          · skip
            refine z_iconst hx hb dL_leastOf_46 ?_
            refine lv_goto (tgt := 69) hx hb dL_leastOf_47 (by decide) ?_
            refine lv_istore (lv' := [(6, .int (iI 0)), (4, .int (iI (sm + ((ws.getD i.toNat []).length : Int) + 1))), (5, .int (iI i)), (3, .int (iI b)), (0, .ref a), (1, .int (iI w)), (2, .int (iI first))]) hx hb dL_leastOf_69 hl (by decide) rfl (fun ls hl => ?_)
            refine lv_iload_n hx hb dL_leastOf_71 rfl (lv_at hl 3 rfl) ?_
            refine lv_iload hx hb dL_leastOf_72 (lv_at hl 0 rfl) ?_
            refine z_mmin (rest := []) hC hl qm_L_302 (by omega) (by omega) ⟨Nat.le_of_ble_eq_true rfl, Nat.le_of_ble_eq_true rfl⟩ ⟨Nat.le_of_ble_eq_true rfl, Nat.le_of_ble_eq_true rfl⟩ dL_leastOf_74 (fun r74 hmx74 => ?_)
            refine lv_istore_n (lv' := [(3, .int (iI r74)), (6, .int (iI 0)), (4, .int (iI (sm + ((ws.getD i.toNat []).length : Int) + 1))), (5, .int (iI i)), (0, .ref a), (1, .int (iI w)), (2, .int (iI first))]) hx hb dL_leastOf_77 rfl hl (by decide) rfl (fun ls hl => ?_)
            refine z_iinc (lv' := [(5, .int (iI (i + 1))), (3, .int (iI r74)), (6, .int (iI 0)), (4, .int (iI (sm + ((ws.getD i.toNat []).length : Int) + 1))), (0, .ref a), (1, .int (iI w)), (2, .int (iI first))]) hx hb dL_leastOf_78 hl (k := 3) rfl (by decide) rfl (fun ls hl => ?_)
            refine lv_goto (tgt := 10) hx hb dL_leastOf_81 (by decide) ?_
            exact ih10 (i + 1) (sm + ((ws.getD i.toNat []).length : Int) + 1) r74  (by omega) (by omega) (by omega) (by omega) (by rw [hi10_3]; exact zsc_in (by omega) (by omega) (by omega) (by first | (rw [if_pos (by omega), show (zlW ws).drop (i + 1).toNat = [] from List.drop_eq_nil_of_le (by rw [zlW_l]; omega), zlb_nil]; omega) | (rw [if_neg (by omega)]; omega)))  _ _ hW ls (lv_sub hl [0, 3, 1, 4, 5, 6] rfl)
  exact L10_k_1 _ first (-1) 999999  (Nat.lt_succ_self _) ⟨by omega, by omega⟩ ⟨by decide, by omega⟩ ⟨by decide, by decide⟩ (zsc_1b (by omega) (fun x hx => hfit x (List.mem_of_mem_drop hx)) (by rw [List.length_drop, zlW_l]; omega) (fun z => by have := congrArg List.length z; rw [List.length_drop, zlW_l] at this; simp at this; omega))  _ _ hW ls (lv_sub hl [0, 1, 2, 3, 4, 5] rfl)

set_option maxHeartbeats 4000000 in
set_option maxRecDepth 100000 in
theorem lm_least8 (l : Launch) (D : va_G) (cs : Nat → ClassId) (A : Nat → Prop) (X : zF) (a : Nat) (ws : List zWd) (w first : Int)  (hA : oSs7 cs X a ws) (hfit : zfit w (zlW ws)) (hwi : 4 ≤ w ∧ w ≤ 20) (hf0 : 0 ≤ first ∧ first < ws.length) (hf1 : (ws.length : Int) - first ≤ 8) (hw9 : ws.length ≤ 9) : zM l D cs A yL_leastOf cL_leastOf 7 (some FieldType.int) 11 0 0 [.ref a, .int (iI w), .int (iI first)] X (pI (fun r X1 => X = X1 ∧ zlb w ((zlW ws).drop first.toNat) = r)) := by
  refine zM_of (own := RL) (by decide) rfl (Nat.le_of_ble_eq_true rfl) ?_
  intro p e s m below meth c hC hr hlk hnm hZ ls hl
  have hx := hC.x
  have hb := hC.b
  have hl : lv_has ls 7 [(0, .ref a), (1, .int (iI w)), (2, .int (iI first))] := hl
  have hW := zW3.ofX hZ
  refine z_ldcwi (z := 999999) hC qz_1418 rfl dL_leastOf_0 ?_
  refine lv_istore_n (lv' := [(3, .int (iI 999999)), (0, .ref a), (1, .int (iI w)), (2, .int (iI first))]) hx hb dL_leastOf_3 rfl hl (by decide) rfl (fun ls hl => ?_)
  refine z_iconst hx hb dL_leastOf_4 ?_
  refine lv_istore (lv' := [(4, .int (iI (-1))), (3, .int (iI 999999)), (0, .ref a), (1, .int (iI w)), (2, .int (iI first))]) hx hb dL_leastOf_5 hl (by decide) rfl (fun ls hl => ?_)
  refine lv_iload_n hx hb dL_leastOf_7 rfl (lv_at hl 4 rfl) ?_
  refine lv_istore (lv' := [(5, .int (iI first)), (4, .int (iI (-1))), (3, .int (iI 999999)), (0, .ref a), (1, .int (iI w)), (2, .int (iI first))]) hx hb dL_leastOf_8 hl (by decide) rfl (fun ls hl => ?_)
  have L10_k_1 : ∀ (fu : Nat) (i sm b : Int)  (hfu : ((ws.length : Int) - i).toNat < fu) (hi10_0 : first ≤ i ∧ i ≤ ws.length) (hi10_1 : -1 ≤ sm ∧ sm ≤ 30 * (i - first)) (hi10_2 : 0 ≤ b ∧ b ≤ 999999) (hi10_3 : zlb w ((zlW ws).drop first.toNat) = zsc w sm b ((zlW ws).drop i.toNat)) (H : Heap) (locs : List Loc) (hW : zW3 D A s zE zE X H locs) (ls : Array Slot) (hl : lv_has ls 7 [(5, .int (iI i)), (4, .int (iI sm)), (3, .int (iI b)), (0, .ref a), (1, .int (iI w)), (2, .int (iI first))]), W p l e (zR 11 0 0) s m [.ref a, .int (iI w), .int (iI first)].toArray below meth c H locs 0 0 (MQ below (zQ D A (pI (fun r X1 => X = X1 ∧ zlb w ((zlW ws).drop first.toNat) = r))) [.ref a, .int (iI w), .int (iI first)].toArray s 0 0 A) (F0 m 10 ls []) := by
    intro fu
    induction fu with
    | zero =>
      intro i sm b  hfu
      exact absurd hfu (Nat.not_lt_zero _)
    | succ fu ih10 =>
      intro i sm b  hfu hi10_0 hi10_1 hi10_2 hi10_3  H locs hW ls hl
      refine lv_iload hx hb dL_leastOf_10 (lv_at hl 0 rfl) ?_
      refine lv_aload_n hx hb dL_leastOf_12 rfl (lv_at hl 3 rfl) ?_
      obtain ⟨fa_2, hfa_2, h2fa_2⟩ := id hA
      refine z_alen (t := 7) hC hW.x hfa_2 rfl dL_leastOf_13 ?_
      refine z_icmp_ge (tgt := 84) hx hb dL_leastOf_14 (by decide) (by omega) (by omega) (fun c_3 => ?_) (fun c_3 => ?_)
      · skip
        refine lv_iload_n hx hb dL_leastOf_84 rfl (lv_at hl 2 rfl) ?_
        exact z_iret hC hr hlk hW.x (by decide) (by decide) (⟨rfl, by rw [hi10_3, show (zlW ws).drop i.toNat = [] from List.drop_eq_nil_of_le (by rw [zlW_l]; omega)]; rfl⟩) dL_leastOf_85
      · skip
        refine lv_iload hx hb dL_leastOf_17 (lv_at hl 1 rfl) ?_
        refine lv_aload_n hx hb dL_leastOf_19 rfl (lv_at hl 3 rfl) ?_
        refine lv_iload hx hb dL_leastOf_20 (lv_at hl 0 rfl) ?_
        have hwf := zlW_fit hfit (i := i) (by omega) (by omega)
        obtain ⟨fa_4, hfa_4, h2fa_4⟩ := id hA
        obtain ⟨q22, vq22, h3fa_4, hsq22⟩ := h2fa_4 i (by omega) (by omega)
        refine z_aald (t := 7) (C := "java/lang/String") (v := some q22) hC hW.x hfa_4 rfl (by omega) (by omega) h3fa_4 dL_leastOf_22 ?_
        refine z_cXi hC (z_frSt (rest := [.int (iI sm)]) (As := []) (n := 0) hC hW.x (mes_length l D cs (zfA X _) X q22 vq22 (ws.getD i.toNat []) hsq22) gv_L_138 hd_J0_length_8abf5 hsq22 rfl hl rfl (Nat.le_of_ble_eq_true rfl) ⟨Nat.le_of_ble_eq_true rfl, Nat.le_of_ble_eq_true rfl⟩ ⟨Nat.le_of_ble_eq_true rfl, Nat.le_of_ble_eq_true rfl⟩ dL_leastOf_23) hW (fun r23 X23 H locs hp23 hW => ?_)
        obtain ⟨rfl, rfl⟩ := hp23
        refine z_iconst hx hb dL_leastOf_26 ?_
        refine z_iadd hx hb dL_leastOf_27 ?_
        refine z_iadd hx hb dL_leastOf_28 ?_
        refine z_top (y := sm + ((ws.getD i.toNat []).length : Int) + 1) (by omega) ?_
        refine lv_istore (lv' := [(4, .int (iI (sm + ((ws.getD i.toNat []).length : Int) + 1))), (5, .int (iI i)), (3, .int (iI b)), (0, .ref a), (1, .int (iI w)), (2, .int (iI first))]) hx hb dL_leastOf_29 hl (by decide) rfl (fun ls hl => ?_)
        refine lv_iload hx hb dL_leastOf_31 (lv_at hl 0 rfl) ?_
        refine lv_iload_n hx hb dL_leastOf_33 rfl (lv_at hl 4 rfl) ?_
        refine z_icmp_gt (tgt := 78) hx hb dL_leastOf_34 (by decide) (by omega) (by omega) (fun c_5 => ?_) (fun c_5 => ?_)
        · skip
          refine z_iinc (lv' := [(5, .int (iI (i + 1))), (4, .int (iI (sm + ((ws.getD i.toNat []).length : Int) + 1))), (3, .int (iI b)), (0, .ref a), (1, .int (iI w)), (2, .int (iI first))]) hx hb dL_leastOf_78 hl (k := 1) rfl (by decide) rfl (fun ls hl => ?_)
          refine lv_goto (tgt := 10) hx hb dL_leastOf_81 (by decide) ?_
          exact ih10 (i + 1) (sm + ((ws.getD i.toNat []).length : Int) + 1) b  (by omega) (by omega) (by omega) (by omega) (by rw [hi10_3]; exact zsc_out (by omega) (by omega) (by omega))  _ _ hW ls (lv_sub hl [0, 1, 2, 3, 4, 5] rfl)
        · skip
          refine lv_iload hx hb dL_leastOf_37 (lv_at hl 1 rfl) ?_
          refine lv_aload_n hx hb dL_leastOf_39 rfl (lv_at hl 3 rfl) ?_
          obtain ⟨fa_6, hfa_6, h2fa_6⟩ := id hA
          refine z_alen (t := 7) hC hW.x hfa_6 rfl dL_leastOf_40 ?_
          refine z_iconst hx hb dL_leastOf_41 ?_
          refine z_isub hx hb dL_leastOf_42 ?_
          refine z_icmp_ne (tgt := 50) hx hb dL_leastOf_43 (by decide) (by omega) (by omega) (fun c_7 => ?_) (fun c_7 => ?_)
          · skip
            have hsq := sq_bd (z := w - (sm + ((ws.getD i.toNat []).length : Int) + 1)) (n := 20) (by omega)
            have hsn := sq_nn (w - (sm + ((ws.getD i.toNat []).length : Int) + 1))
            have hlb := zlb_bd hwi.2 ((zlW ws).drop (i + 1).toNat) (fun x hx => hfit x (List.mem_of_mem_drop hx))
            have hln := (zlb_nn w ((zlW ws).drop (i + 1).toNat)).1
            have hld : ((zlW ws).drop (i + 1).toNat).length ≤ 9 := by rw [List.length_drop, zlW_l]; omega
            refine lv_iload_n hx hb dL_leastOf_50 rfl (lv_at hl 4 rfl) ?_
            refine lv_iload hx hb dL_leastOf_51 (lv_at hl 0 rfl) ?_
            refine z_isub hx hb dL_leastOf_53 ?_
            refine lv_iload_n hx hb dL_leastOf_54 rfl (lv_at hl 4 rfl) ?_
            refine lv_iload hx hb dL_leastOf_55 (lv_at hl 0 rfl) ?_
            refine z_isub hx hb dL_leastOf_57 ?_
            refine z_imul hx hb dL_leastOf_58 ?_
            refine lv_aload_n hx hb dL_leastOf_59 rfl (lv_at hl 3 rfl) ?_
            refine lv_iload_n hx hb dL_leastOf_60 rfl (lv_at hl 4 rfl) ?_
            refine lv_iload hx hb dL_leastOf_61 (lv_at hl 1 rfl) ?_
            refine z_iconst hx hb dL_leastOf_63 ?_
            refine z_iadd hx hb dL_leastOf_64 ?_
            refine z_cXi hC (z_frS (rest := [.int (iI ((w - (sm + ((ws.getD i.toNat []).length : Int) + 1)) * (w - (sm + ((ws.getD i.toNat []).length : Int) + 1))))]) (As := [.ref a, .int (iI w), .int (iI (i + 1))]) (n := 3) hC hW.x (lm_least7 l D cs (zfA X _) X a ws w (i + 1) hA hfit hwi (by omega) (by omega) hw9) gs_L_298 he_L_leastOf rfl hl rfl (Nat.le_of_ble_eq_true rfl) ⟨Nat.le_of_ble_eq_true rfl, Nat.le_of_ble_eq_true rfl⟩ ⟨Nat.le_of_ble_eq_true rfl, Nat.le_of_ble_eq_true rfl⟩ dL_leastOf_65) hW (fun r65 X65 H locs hp65 hW => ?_)
            obtain ⟨rfl, rfl⟩ := hp65
            refine z_iadd hx hb dL_leastOf_68 ?_
            refine lv_istore (lv' := [(6, .int (iI (((w - (sm + ((ws.getD i.toNat []).length : Int) + 1)) * (w - (sm + ((ws.getD i.toNat []).length : Int) + 1))) + (zlb w ((zlW ws).drop (i + 1).toNat))))), (4, .int (iI (sm + ((ws.getD i.toNat []).length : Int) + 1))), (5, .int (iI i)), (3, .int (iI b)), (0, .ref a), (1, .int (iI w)), (2, .int (iI first))]) hx hb dL_leastOf_69 hl (by decide) rfl (fun ls hl => ?_)
            refine lv_iload_n hx hb dL_leastOf_71 rfl (lv_at hl 3 rfl) ?_
            refine lv_iload hx hb dL_leastOf_72 (lv_at hl 0 rfl) ?_
            refine z_mmin (rest := []) hC hl qm_L_302 (by omega) (by omega) ⟨Nat.le_of_ble_eq_true rfl, Nat.le_of_ble_eq_true rfl⟩ ⟨Nat.le_of_ble_eq_true rfl, Nat.le_of_ble_eq_true rfl⟩ dL_leastOf_74 (fun r74 hmx74 => ?_)
            refine lv_istore_n (lv' := [(3, .int (iI r74)), (6, .int (iI (((w - (sm + ((ws.getD i.toNat []).length : Int) + 1)) * (w - (sm + ((ws.getD i.toNat []).length : Int) + 1))) + (zlb w ((zlW ws).drop (i + 1).toNat))))), (4, .int (iI (sm + ((ws.getD i.toNat []).length : Int) + 1))), (5, .int (iI i)), (0, .ref a), (1, .int (iI w)), (2, .int (iI first))]) hx hb dL_leastOf_77 rfl hl (by decide) rfl (fun ls hl => ?_)
            refine z_iinc (lv' := [(5, .int (iI (i + 1))), (3, .int (iI r74)), (6, .int (iI (((w - (sm + ((ws.getD i.toNat []).length : Int) + 1)) * (w - (sm + ((ws.getD i.toNat []).length : Int) + 1))) + (zlb w ((zlW ws).drop (i + 1).toNat))))), (4, .int (iI (sm + ((ws.getD i.toNat []).length : Int) + 1))), (0, .ref a), (1, .int (iI w)), (2, .int (iI first))]) hx hb dL_leastOf_78 hl (k := 3) rfl (by decide) rfl (fun ls hl => ?_)
            refine lv_goto (tgt := 10) hx hb dL_leastOf_81 (by decide) ?_
            exact ih10 (i + 1) (sm + ((ws.getD i.toNat []).length : Int) + 1) r74  (by omega) (by omega) (by omega) (by omega) (by rw [hi10_3]; exact zsc_in (by omega) (by omega) (by omega) (by first | (rw [if_pos (by omega), show (zlW ws).drop (i + 1).toNat = [] from List.drop_eq_nil_of_le (by rw [zlW_l]; omega), zlb_nil]; omega) | (rw [if_neg (by omega)]; omega)))  _ _ hW ls (lv_sub hl [0, 3, 1, 4, 5, 6] rfl)
          · skip
            refine z_iconst hx hb dL_leastOf_46 ?_
            refine lv_goto (tgt := 69) hx hb dL_leastOf_47 (by decide) ?_
            refine lv_istore (lv' := [(6, .int (iI 0)), (4, .int (iI (sm + ((ws.getD i.toNat []).length : Int) + 1))), (5, .int (iI i)), (3, .int (iI b)), (0, .ref a), (1, .int (iI w)), (2, .int (iI first))]) hx hb dL_leastOf_69 hl (by decide) rfl (fun ls hl => ?_)
            refine lv_iload_n hx hb dL_leastOf_71 rfl (lv_at hl 3 rfl) ?_
            refine lv_iload hx hb dL_leastOf_72 (lv_at hl 0 rfl) ?_
            refine z_mmin (rest := []) hC hl qm_L_302 (by omega) (by omega) ⟨Nat.le_of_ble_eq_true rfl, Nat.le_of_ble_eq_true rfl⟩ ⟨Nat.le_of_ble_eq_true rfl, Nat.le_of_ble_eq_true rfl⟩ dL_leastOf_74 (fun r74 hmx74 => ?_)
            refine lv_istore_n (lv' := [(3, .int (iI r74)), (6, .int (iI 0)), (4, .int (iI (sm + ((ws.getD i.toNat []).length : Int) + 1))), (5, .int (iI i)), (0, .ref a), (1, .int (iI w)), (2, .int (iI first))]) hx hb dL_leastOf_77 rfl hl (by decide) rfl (fun ls hl => ?_)
            refine z_iinc (lv' := [(5, .int (iI (i + 1))), (3, .int (iI r74)), (6, .int (iI 0)), (4, .int (iI (sm + ((ws.getD i.toNat []).length : Int) + 1))), (0, .ref a), (1, .int (iI w)), (2, .int (iI first))]) hx hb dL_leastOf_78 hl (k := 3) rfl (by decide) rfl (fun ls hl => ?_)
            refine lv_goto (tgt := 10) hx hb dL_leastOf_81 (by decide) ?_
            exact ih10 (i + 1) (sm + ((ws.getD i.toNat []).length : Int) + 1) r74  (by omega) (by omega) (by omega) (by omega) (by rw [hi10_3]; exact zsc_in (by omega) (by omega) (by omega) (by first | (rw [if_pos (by omega), show (zlW ws).drop (i + 1).toNat = [] from List.drop_eq_nil_of_le (by rw [zlW_l]; omega), zlb_nil]; omega) | (rw [if_neg (by omega)]; omega)))  _ _ hW ls (lv_sub hl [0, 3, 1, 4, 5, 6] rfl)
  exact L10_k_1 _ first (-1) 999999  (Nat.lt_succ_self _) ⟨by omega, by omega⟩ ⟨by decide, by omega⟩ ⟨by decide, by decide⟩ (zsc_1b (by omega) (fun x hx => hfit x (List.mem_of_mem_drop hx)) (by rw [List.length_drop, zlW_l]; omega) (fun z => by have := congrArg List.length z; rw [List.length_drop, zlW_l] at this; simp at this; omega))  _ _ hW ls (lv_sub hl [0, 1, 2, 3, 4, 5] rfl)

set_option maxHeartbeats 4000000 in
set_option maxRecDepth 100000 in
theorem lm_least9 (l : Launch) (D : va_G) (cs : Nat → ClassId) (A : Nat → Prop) (X : zF) (a : Nat) (ws : List zWd) (w first : Int)  (hA : oSs7 cs X a ws) (hfit : zfit w (zlW ws)) (hwi : 4 ≤ w ∧ w ≤ 20) (hf0 : 0 ≤ first ∧ first < ws.length) (hf1 : (ws.length : Int) - first ≤ 9) (hw9 : ws.length ≤ 9) : zM l D cs A yL_leastOf cL_leastOf 7 (some FieldType.int) 12 0 0 [.ref a, .int (iI w), .int (iI first)] X (pI (fun r X1 => X = X1 ∧ zlb w ((zlW ws).drop first.toNat) = r)) := by
  refine zM_of (own := RL) (by decide) rfl (Nat.le_of_ble_eq_true rfl) ?_
  intro p e s m below meth c hC hr hlk hnm hZ ls hl
  have hx := hC.x
  have hb := hC.b
  have hl : lv_has ls 7 [(0, .ref a), (1, .int (iI w)), (2, .int (iI first))] := hl
  have hW := zW3.ofX hZ
  refine z_ldcwi (z := 999999) hC qz_1418 rfl dL_leastOf_0 ?_
  refine lv_istore_n (lv' := [(3, .int (iI 999999)), (0, .ref a), (1, .int (iI w)), (2, .int (iI first))]) hx hb dL_leastOf_3 rfl hl (by decide) rfl (fun ls hl => ?_)
  refine z_iconst hx hb dL_leastOf_4 ?_
  refine lv_istore (lv' := [(4, .int (iI (-1))), (3, .int (iI 999999)), (0, .ref a), (1, .int (iI w)), (2, .int (iI first))]) hx hb dL_leastOf_5 hl (by decide) rfl (fun ls hl => ?_)
  refine lv_iload_n hx hb dL_leastOf_7 rfl (lv_at hl 4 rfl) ?_
  refine lv_istore (lv' := [(5, .int (iI first)), (4, .int (iI (-1))), (3, .int (iI 999999)), (0, .ref a), (1, .int (iI w)), (2, .int (iI first))]) hx hb dL_leastOf_8 hl (by decide) rfl (fun ls hl => ?_)
  have L10_k_1 : ∀ (fu : Nat) (i sm b : Int)  (hfu : ((ws.length : Int) - i).toNat < fu) (hi10_0 : first ≤ i ∧ i ≤ ws.length) (hi10_1 : -1 ≤ sm ∧ sm ≤ 30 * (i - first)) (hi10_2 : 0 ≤ b ∧ b ≤ 999999) (hi10_3 : zlb w ((zlW ws).drop first.toNat) = zsc w sm b ((zlW ws).drop i.toNat)) (H : Heap) (locs : List Loc) (hW : zW3 D A s zE zE X H locs) (ls : Array Slot) (hl : lv_has ls 7 [(5, .int (iI i)), (4, .int (iI sm)), (3, .int (iI b)), (0, .ref a), (1, .int (iI w)), (2, .int (iI first))]), W p l e (zR 12 0 0) s m [.ref a, .int (iI w), .int (iI first)].toArray below meth c H locs 0 0 (MQ below (zQ D A (pI (fun r X1 => X = X1 ∧ zlb w ((zlW ws).drop first.toNat) = r))) [.ref a, .int (iI w), .int (iI first)].toArray s 0 0 A) (F0 m 10 ls []) := by
    intro fu
    induction fu with
    | zero =>
      intro i sm b  hfu
      exact absurd hfu (Nat.not_lt_zero _)
    | succ fu ih10 =>
      intro i sm b  hfu hi10_0 hi10_1 hi10_2 hi10_3  H locs hW ls hl
      refine lv_iload hx hb dL_leastOf_10 (lv_at hl 0 rfl) ?_
      refine lv_aload_n hx hb dL_leastOf_12 rfl (lv_at hl 3 rfl) ?_
      obtain ⟨fa_2, hfa_2, h2fa_2⟩ := id hA
      refine z_alen (t := 7) hC hW.x hfa_2 rfl dL_leastOf_13 ?_
      refine z_icmp_ge (tgt := 84) hx hb dL_leastOf_14 (by decide) (by omega) (by omega) (fun c_3 => ?_) (fun c_3 => ?_)
      · skip
        refine lv_iload_n hx hb dL_leastOf_84 rfl (lv_at hl 2 rfl) ?_
        exact z_iret hC hr hlk hW.x (by decide) (by decide) (⟨rfl, by rw [hi10_3, show (zlW ws).drop i.toNat = [] from List.drop_eq_nil_of_le (by rw [zlW_l]; omega)]; rfl⟩) dL_leastOf_85
      · skip
        refine lv_iload hx hb dL_leastOf_17 (lv_at hl 1 rfl) ?_
        refine lv_aload_n hx hb dL_leastOf_19 rfl (lv_at hl 3 rfl) ?_
        refine lv_iload hx hb dL_leastOf_20 (lv_at hl 0 rfl) ?_
        have hwf := zlW_fit hfit (i := i) (by omega) (by omega)
        obtain ⟨fa_4, hfa_4, h2fa_4⟩ := id hA
        obtain ⟨q22, vq22, h3fa_4, hsq22⟩ := h2fa_4 i (by omega) (by omega)
        refine z_aald (t := 7) (C := "java/lang/String") (v := some q22) hC hW.x hfa_4 rfl (by omega) (by omega) h3fa_4 dL_leastOf_22 ?_
        refine z_cXi hC (z_frSt (rest := [.int (iI sm)]) (As := []) (n := 0) hC hW.x (mes_length l D cs (zfA X _) X q22 vq22 (ws.getD i.toNat []) hsq22) gv_L_138 hd_J0_length_8abf5 hsq22 rfl hl rfl (Nat.le_of_ble_eq_true rfl) ⟨Nat.le_of_ble_eq_true rfl, Nat.le_of_ble_eq_true rfl⟩ ⟨Nat.le_of_ble_eq_true rfl, Nat.le_of_ble_eq_true rfl⟩ dL_leastOf_23) hW (fun r23 X23 H locs hp23 hW => ?_)
        obtain ⟨rfl, rfl⟩ := hp23
        refine z_iconst hx hb dL_leastOf_26 ?_
        refine z_iadd hx hb dL_leastOf_27 ?_
        refine z_iadd hx hb dL_leastOf_28 ?_
        refine z_top (y := sm + ((ws.getD i.toNat []).length : Int) + 1) (by omega) ?_
        refine lv_istore (lv' := [(4, .int (iI (sm + ((ws.getD i.toNat []).length : Int) + 1))), (5, .int (iI i)), (3, .int (iI b)), (0, .ref a), (1, .int (iI w)), (2, .int (iI first))]) hx hb dL_leastOf_29 hl (by decide) rfl (fun ls hl => ?_)
        refine lv_iload hx hb dL_leastOf_31 (lv_at hl 0 rfl) ?_
        refine lv_iload_n hx hb dL_leastOf_33 rfl (lv_at hl 4 rfl) ?_
        refine z_icmp_gt (tgt := 78) hx hb dL_leastOf_34 (by decide) (by omega) (by omega) (fun c_5 => ?_) (fun c_5 => ?_)
        · skip
          refine z_iinc (lv' := [(5, .int (iI (i + 1))), (4, .int (iI (sm + ((ws.getD i.toNat []).length : Int) + 1))), (3, .int (iI b)), (0, .ref a), (1, .int (iI w)), (2, .int (iI first))]) hx hb dL_leastOf_78 hl (k := 1) rfl (by decide) rfl (fun ls hl => ?_)
          refine lv_goto (tgt := 10) hx hb dL_leastOf_81 (by decide) ?_
          exact ih10 (i + 1) (sm + ((ws.getD i.toNat []).length : Int) + 1) b  (by omega) (by omega) (by omega) (by omega) (by rw [hi10_3]; exact zsc_out (by omega) (by omega) (by omega))  _ _ hW ls (lv_sub hl [0, 1, 2, 3, 4, 5] rfl)
        · skip
          refine lv_iload hx hb dL_leastOf_37 (lv_at hl 1 rfl) ?_
          refine lv_aload_n hx hb dL_leastOf_39 rfl (lv_at hl 3 rfl) ?_
          obtain ⟨fa_6, hfa_6, h2fa_6⟩ := id hA
          refine z_alen (t := 7) hC hW.x hfa_6 rfl dL_leastOf_40 ?_
          refine z_iconst hx hb dL_leastOf_41 ?_
          refine z_isub hx hb dL_leastOf_42 ?_
          refine z_icmp_ne (tgt := 50) hx hb dL_leastOf_43 (by decide) (by omega) (by omega) (fun c_7 => ?_) (fun c_7 => ?_)
          · skip
            have hsq := sq_bd (z := w - (sm + ((ws.getD i.toNat []).length : Int) + 1)) (n := 20) (by omega)
            have hsn := sq_nn (w - (sm + ((ws.getD i.toNat []).length : Int) + 1))
            have hlb := zlb_bd hwi.2 ((zlW ws).drop (i + 1).toNat) (fun x hx => hfit x (List.mem_of_mem_drop hx))
            have hln := (zlb_nn w ((zlW ws).drop (i + 1).toNat)).1
            have hld : ((zlW ws).drop (i + 1).toNat).length ≤ 9 := by rw [List.length_drop, zlW_l]; omega
            refine lv_iload_n hx hb dL_leastOf_50 rfl (lv_at hl 4 rfl) ?_
            refine lv_iload hx hb dL_leastOf_51 (lv_at hl 0 rfl) ?_
            refine z_isub hx hb dL_leastOf_53 ?_
            refine lv_iload_n hx hb dL_leastOf_54 rfl (lv_at hl 4 rfl) ?_
            refine lv_iload hx hb dL_leastOf_55 (lv_at hl 0 rfl) ?_
            refine z_isub hx hb dL_leastOf_57 ?_
            refine z_imul hx hb dL_leastOf_58 ?_
            refine lv_aload_n hx hb dL_leastOf_59 rfl (lv_at hl 3 rfl) ?_
            refine lv_iload_n hx hb dL_leastOf_60 rfl (lv_at hl 4 rfl) ?_
            refine lv_iload hx hb dL_leastOf_61 (lv_at hl 1 rfl) ?_
            refine z_iconst hx hb dL_leastOf_63 ?_
            refine z_iadd hx hb dL_leastOf_64 ?_
            refine z_cXi hC (z_frS (rest := [.int (iI ((w - (sm + ((ws.getD i.toNat []).length : Int) + 1)) * (w - (sm + ((ws.getD i.toNat []).length : Int) + 1))))]) (As := [.ref a, .int (iI w), .int (iI (i + 1))]) (n := 3) hC hW.x (lm_least8 l D cs (zfA X _) X a ws w (i + 1) hA hfit hwi (by omega) (by omega) hw9) gs_L_298 he_L_leastOf rfl hl rfl (Nat.le_of_ble_eq_true rfl) ⟨Nat.le_of_ble_eq_true rfl, Nat.le_of_ble_eq_true rfl⟩ ⟨Nat.le_of_ble_eq_true rfl, Nat.le_of_ble_eq_true rfl⟩ dL_leastOf_65) hW (fun r65 X65 H locs hp65 hW => ?_)
            obtain ⟨rfl, rfl⟩ := hp65
            refine z_iadd hx hb dL_leastOf_68 ?_
            refine lv_istore (lv' := [(6, .int (iI (((w - (sm + ((ws.getD i.toNat []).length : Int) + 1)) * (w - (sm + ((ws.getD i.toNat []).length : Int) + 1))) + (zlb w ((zlW ws).drop (i + 1).toNat))))), (4, .int (iI (sm + ((ws.getD i.toNat []).length : Int) + 1))), (5, .int (iI i)), (3, .int (iI b)), (0, .ref a), (1, .int (iI w)), (2, .int (iI first))]) hx hb dL_leastOf_69 hl (by decide) rfl (fun ls hl => ?_)
            refine lv_iload_n hx hb dL_leastOf_71 rfl (lv_at hl 3 rfl) ?_
            refine lv_iload hx hb dL_leastOf_72 (lv_at hl 0 rfl) ?_
            refine z_mmin (rest := []) hC hl qm_L_302 (by omega) (by omega) ⟨Nat.le_of_ble_eq_true rfl, Nat.le_of_ble_eq_true rfl⟩ ⟨Nat.le_of_ble_eq_true rfl, Nat.le_of_ble_eq_true rfl⟩ dL_leastOf_74 (fun r74 hmx74 => ?_)
            refine lv_istore_n (lv' := [(3, .int (iI r74)), (6, .int (iI (((w - (sm + ((ws.getD i.toNat []).length : Int) + 1)) * (w - (sm + ((ws.getD i.toNat []).length : Int) + 1))) + (zlb w ((zlW ws).drop (i + 1).toNat))))), (4, .int (iI (sm + ((ws.getD i.toNat []).length : Int) + 1))), (5, .int (iI i)), (0, .ref a), (1, .int (iI w)), (2, .int (iI first))]) hx hb dL_leastOf_77 rfl hl (by decide) rfl (fun ls hl => ?_)
            refine z_iinc (lv' := [(5, .int (iI (i + 1))), (3, .int (iI r74)), (6, .int (iI (((w - (sm + ((ws.getD i.toNat []).length : Int) + 1)) * (w - (sm + ((ws.getD i.toNat []).length : Int) + 1))) + (zlb w ((zlW ws).drop (i + 1).toNat))))), (4, .int (iI (sm + ((ws.getD i.toNat []).length : Int) + 1))), (0, .ref a), (1, .int (iI w)), (2, .int (iI first))]) hx hb dL_leastOf_78 hl (k := 3) rfl (by decide) rfl (fun ls hl => ?_)
            refine lv_goto (tgt := 10) hx hb dL_leastOf_81 (by decide) ?_
            exact ih10 (i + 1) (sm + ((ws.getD i.toNat []).length : Int) + 1) r74  (by omega) (by omega) (by omega) (by omega) (by rw [hi10_3]; exact zsc_in (by omega) (by omega) (by omega) (by first | (rw [if_pos (by omega), show (zlW ws).drop (i + 1).toNat = [] from List.drop_eq_nil_of_le (by rw [zlW_l]; omega), zlb_nil]; omega) | (rw [if_neg (by omega)]; omega)))  _ _ hW ls (lv_sub hl [0, 3, 1, 4, 5, 6] rfl)
          · skip
            refine z_iconst hx hb dL_leastOf_46 ?_
            refine lv_goto (tgt := 69) hx hb dL_leastOf_47 (by decide) ?_
            refine lv_istore (lv' := [(6, .int (iI 0)), (4, .int (iI (sm + ((ws.getD i.toNat []).length : Int) + 1))), (5, .int (iI i)), (3, .int (iI b)), (0, .ref a), (1, .int (iI w)), (2, .int (iI first))]) hx hb dL_leastOf_69 hl (by decide) rfl (fun ls hl => ?_)
            refine lv_iload_n hx hb dL_leastOf_71 rfl (lv_at hl 3 rfl) ?_
            refine lv_iload hx hb dL_leastOf_72 (lv_at hl 0 rfl) ?_
            refine z_mmin (rest := []) hC hl qm_L_302 (by omega) (by omega) ⟨Nat.le_of_ble_eq_true rfl, Nat.le_of_ble_eq_true rfl⟩ ⟨Nat.le_of_ble_eq_true rfl, Nat.le_of_ble_eq_true rfl⟩ dL_leastOf_74 (fun r74 hmx74 => ?_)
            refine lv_istore_n (lv' := [(3, .int (iI r74)), (6, .int (iI 0)), (4, .int (iI (sm + ((ws.getD i.toNat []).length : Int) + 1))), (5, .int (iI i)), (0, .ref a), (1, .int (iI w)), (2, .int (iI first))]) hx hb dL_leastOf_77 rfl hl (by decide) rfl (fun ls hl => ?_)
            refine z_iinc (lv' := [(5, .int (iI (i + 1))), (3, .int (iI r74)), (6, .int (iI 0)), (4, .int (iI (sm + ((ws.getD i.toNat []).length : Int) + 1))), (0, .ref a), (1, .int (iI w)), (2, .int (iI first))]) hx hb dL_leastOf_78 hl (k := 3) rfl (by decide) rfl (fun ls hl => ?_)
            refine lv_goto (tgt := 10) hx hb dL_leastOf_81 (by decide) ?_
            exact ih10 (i + 1) (sm + ((ws.getD i.toNat []).length : Int) + 1) r74  (by omega) (by omega) (by omega) (by omega) (by rw [hi10_3]; exact zsc_in (by omega) (by omega) (by omega) (by first | (rw [if_pos (by omega), show (zlW ws).drop (i + 1).toNat = [] from List.drop_eq_nil_of_le (by rw [zlW_l]; omega), zlb_nil]; omega) | (rw [if_neg (by omega)]; omega)))  _ _ hW ls (lv_sub hl [0, 3, 1, 4, 5, 6] rfl)
  exact L10_k_1 _ first (-1) 999999  (Nat.lt_succ_self _) ⟨by omega, by omega⟩ ⟨by decide, by omega⟩ ⟨by decide, by decide⟩ (zsc_1b (by omega) (fun x hx => hfit x (List.mem_of_mem_drop hx)) (by rw [List.length_drop, zlW_l]; omega) (fun z => by have := congrArg List.length z; rw [List.length_drop, zlW_l] at this; simp at this; omega))  _ _ hW ls (lv_sub hl [0, 1, 2, 3, 4, 5] rfl)

