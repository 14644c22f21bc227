/-- how many of the issues can be read -/
def zrd (da : Int) (l : List zIs) : Int := (l.countP (fun i => decide (da - iPr i < 5)) : Nat)
theorem zrd_s {da : Int} {l : List zIs} {k : Nat} {s : zIs} (h : l[k]? = some s) : (da - iPr s < 5 ∧ zrd da (l.take (k + 1)) = zrd da (l.take k) + 1) ∨ (¬ da - iPr s < 5 ∧ zrd da (l.take (k + 1)) = zrd da (l.take k)) := by
  unfold zrd
  rw [List.take_add_one, h, List.countP_append]
  by_cases q : da - iPr s < 5
  · left; exact ⟨q, by simp [q]⟩
  · right; exact ⟨q, by simp [q]⟩
theorem zrk_n {l : List zAr} {x : Int} (h : ∀ j : Int, 0 ≤ j → j < l.length → (zah l (l.getD j.toNat (0, 0, [])) : Int) ≠ x) : zrk l x = none := by
  unfold zrk
  rw [List.find?_eq_none]
  intro a hA
  obtain ⟨i, hi⟩ := List.getElem?_of_mem hA
  have hil := (List.getElem?_eq_some_iff.mp hi).1
  have h5 := h i (by omega) (by omega)
  rw [Int.toNat_natCast, List.getD_eq_getElem?_getD, hi] at h5
  simpa using h5
theorem zrk_y {l : List zAr} {x k : Int} (h0 : 0 ≤ k) (h1 : k < l.length) (hx : (zah l (l.getD k.toNat (0, 0, [])) : Int) = x) (h : ∀ j : Int, 0 ≤ j → j < k → (zah l (l.getD j.toNat (0, 0, [])) : Int) ≠ x) : zrk l x = some (l.getD k.toNat (0, 0, [])) := by
  unfold zrk
  obtain ⟨hl, hv⟩ := List.getElem?_eq_some_iff.mp (gDA h0 h1)
  refine List.find?_eq_some_iff_getElem.mpr ⟨decide_eq_true hx, k.toNat, hl, hv, fun j hj => ?_⟩
  have h5 := h j (by omega) (by omega)
  rw [Int.toNat_natCast, List.getD_eq_getElem?_getD, List.getElem?_eq_getElem (by omega)] at h5
  simpa using h5
theorem zap_all (l : List zAr) (a : zAr) {n : Nat} (h : l.length ≤ n) : zap l a n = zah l a := by
  unfold zap zah
  rw [List.take_of_length_le h]
set_option maxHeartbeats 4000000 in
set_option maxRecDepth 100000 in
theorem met_X10_countReadable (l : Launch) (D : va_G) (cs : Nat → ClassId) (A : Nat → Prop) (F : zF) (a : Nat) (c0 : zCo)  (hs1 : rSt cs F a c0) (hag : ∀ s ∈ cIs c0, 0 ≤ cDa c0 - iPr s ∧ cDa c0 - iPr s ≤ 2000000) : zM l D cs A yX10_countReadable cX10_countReadable 3 (some FieldType.int) 4 0 0 [.ref a] F (pI (fun r F1 => F = F1 ∧ zrd (cDa c0) (cIs c0) = r)) := by
  refine zM_of (own := RX10) (by decide) rfl (Nat.le_of_ble_eq_true rfl) ?_
  intro p e s m below meth c hC hr hlk hnm hZ ls hl
  have hx := hC.x
  have hb := hC.b
  have hl : lv_has ls 3 [(0, .ref a)] := hl
  obtain ⟨la, li, aL, iL, h0, ⟨ra, hla⟩, ⟨ri, hli⟩, has, his⟩ := id hs1
  have haL := has.1
  have hiL := his.1
  have ha10 := oL_10 hla
  have hi10 := oL_10 hli
  refine z_iconst hx hb dX10_countReadable_0 ?_
  refine lv_istore_n (lv' := [(1, .int (iI 0)), (0, .ref a)]) hx hb dX10_countReadable_1 rfl hl (by decide) rfl (fun ls hl => ?_)
  refine z_iconst hx hb dX10_countReadable_2 ?_
  refine lv_istore_n (lv' := [(2, .int (iI 0)), (1, .int (iI 0)), (0, .ref a)]) hx hb dX10_countReadable_3 rfl hl (by decide) rfl (fun ls hl => ?_)
  have L4_k_1 : ∀ (fu : Nat) (n k : Int)  (hfu : (((cIs c0).length : Int) - k).toNat < fu) (hi4_0 : 0 ≤ k ∧ k ≤ ((cIs c0).length : Int)) (hi4_1 : n = zrd (cDa c0) ((cIs c0).take k.toNat) ∧ 0 ≤ n ∧ n ≤ k) (H : Heap) (locs : List Loc) (hZ : zS D A s F H locs) (ls : Array Slot) (hl : lv_has ls 3 [(2, .int (iI k)), (1, .int (iI n)), (0, .ref a)]), W p l e (zR 4 0 0) s m [.ref a].toArray below meth c H locs 0 0 (MQ below (zQ D A (pI (fun r F1 => F = F1 ∧ zrd (cDa c0) (cIs c0) = r))) [.ref a].toArray s 0 0 A) (F0 m 4 ls []) := by
    intro fu
    induction fu with
    | zero =>
      intro n k  hfu
      exact absurd hfu (Nat.not_lt_zero _)
    | succ fu ih4 =>
      intro n k  hfu hi4_0 hi4_1  H locs hZ ls hl
      refine lv_iload_n hx hb dX10_countReadable_4 rfl (lv_at hl 0 rfl) ?_
      refine lv_aload_n hx hb dX10_countReadable_5 rfl (lv_at hl 2 rfl) ?_
      refine z_get (T := TX10) (N := 9) (ci := 13) (k := 1) (fs := [.ref la, .ref li, .int (iI (cNi c0)), .int (iI (cNn c0)), .int (iI (cWi c0)), .int (iI (cCo c0)), .int (iI (cHe c0)), .int (iI (cDa c0)), .int (iI (cLa c0))]) (v := .ref li) hC hZ in_X10 rfl (by decide) ql_X10_18 rfl h0 rfl dX10_countReadable_6 ?_
      obtain ⟨fsho_2, ho_2⟩ := (hli).o
      refine z_calli (z_runV (rest := [.int (iI k)]) (As := []) (n := 0) (ci := 4) hC hZ (met_Jx4a65c_size_8abf5 l D cs A F li ri iL hli) gv_X10_44 hd_Jx4a65c_size_8abf5 rfl ho_2 rfl hl rfl (Nat.le_of_ble_eq_true rfl) ⟨Nat.le_of_ble_eq_true rfl, Nat.le_of_ble_eq_true rfl⟩ ⟨Nat.le_of_ble_eq_true rfl, Nat.le_of_ble_eq_true rfl⟩ dX10_countReadable_9) hZ (fun r9 F9 H locs hp9_c_3 hZ => ?_)
      obtain ⟨rfl, rfl⟩ := hp9_c_3
      refine z_icmp_ge (tgt := 41) hx hb dX10_countReadable_12 (by decide) (by omega) (by omega) (fun c_4 => ?_) (fun c_4 => ?_)
      · skip
        have hfin : zrd (cDa c0) (cIs c0) = n := by rw [hi4_1.1, List.take_of_length_le (by omega)]
        refine lv_iload_n hx hb dX10_countReadable_41 rfl (lv_at hl 1 rfl) ?_
        exact z_iret hC hr hlk hZ (by decide) (by decide) (⟨rfl, hfin⟩) dX10_countReadable_42
      · skip
        have hgd := gDI (l := cIs c0) (k := k) (by omega) (by omega)
        have hzs := zrd_s (da := cDa c0) hgd
        have hak := hag _ (List.mem_of_getElem? hgd)
        refine lv_aload_n hx hb dX10_countReadable_15 rfl (lv_at hl 2 rfl) ?_
        refine z_get (T := TX10) (N := 9) (ci := 13) (k := 1) (fs := [.ref la, .ref li, .int (iI (cNi c0)), .int (iI (cNn c0)), .int (iI (cWi c0)), .int (iI (cCo c0)), .int (iI (cHe c0)), .int (iI (cDa c0)), .int (iI (cLa c0))]) (v := .ref li) hC hZ in_X10 rfl (by decide) ql_X10_18 rfl h0 rfl dX10_countReadable_16 ?_
        refine lv_iload_n hx hb dX10_countReadable_19 rfl (lv_at hl 0 rfl) ?_
        obtain ⟨fsho_5, ho_5⟩ := (hli).o
        refine z_callr (z_runV (rest := []) (As := [.int (iI k)]) (n := 1) (ci := 4) hC hZ (met_Jx4a65c_get_915e3 l D cs A F li ri iL k hli (by omega)) gv_X10_48 hd_Jx4a65c_get_915e3 rfl ho_5 rfl hl rfl (Nat.le_of_ble_eq_true rfl) ⟨Nat.le_of_ble_eq_true rfl, Nat.le_of_ble_eq_true rfl⟩ ⟨Nat.le_of_ble_eq_true rfl, Nat.le_of_ble_eq_true rfl⟩ dX10_countReadable_20) hZ (fun r20 F20 H locs hp20_c_6 hZ => ?_)
        obtain ⟨rfl, rfl⟩ := hp20_c_6
        have hoi20 := his.2 k (by omega) (by omega)
        obtain ⟨pa20, y020, hop20⟩ := id hoi20
        have hok20 : isOK 1000000 1000000 1000000 ((cIs c0).getD k.toNat (0, 0, 0, 0, [], 0)) := by obtain ⟨_, _, _, _, _, _, _, _, z⟩ := hop20; exact z
        have hno20 := hok20.1
        refine z_castS (ci := 10) (N := 3) (T := TX6) hC hZ qk_X10_58 y020 rfl dX10_countReadable_23 ?_
        refine z_calli (z_runV (rest := []) (As := []) (n := 0) (ci := 10) hC hZ (met_X6_canBeRead l D cs A F (iL.getD k.toNat 0) (cDa c0) ((cIs c0).getD k.toNat (0, 0, 0, 0, [], 0)) hoi20 hak) gv_X10_87 hd_X6_canBeRead rfl y020 rfl hl rfl (Nat.le_of_ble_eq_true rfl) ⟨Nat.le_of_ble_eq_true rfl, Nat.le_of_ble_eq_true rfl⟩ ⟨Nat.le_of_ble_eq_true rfl, Nat.le_of_ble_eq_true rfl⟩ dX10_countReadable_26) hZ (fun r26 F26 H locs hp26_c_7 hZ => ?_)
        obtain ⟨rfl, hp26_c_7⟩ := hp26_c_7
        refine z_if_eq (tgt := 35) hx hb dX10_countReadable_29 (by decide) (by omega) (fun c_8 => ?_) (fun c_8 => ?_)
        · skip
          refine z_iinc (lv' := [(2, .int (iI (k + 1))), (1, .int (iI n)), (0, .ref a)]) hx hb dX10_countReadable_35 hl (k := 0) rfl (by decide) rfl (fun ls hl => ?_)
          refine lv_goto (tgt := 4) hx hb dX10_countReadable_38 (by decide) ?_
          exact ih4 n (k + 1)  (by omega) (by omega) (by rw [show (k + 1).toNat = k.toNat + 1 by omega]; omega)  _ _ hZ ls (lv_sub hl [0, 1, 2] rfl)
        · skip
          refine z_iinc (lv' := [(1, .int (iI (n + 1))), (2, .int (iI k)), (0, .ref a)]) hx hb dX10_countReadable_32 hl (k := 1) rfl (by decide) rfl (fun ls hl => ?_)
          refine z_iinc (lv' := [(2, .int (iI (k + 1))), (1, .int (iI (n + 1))), (0, .ref a)]) hx hb dX10_countReadable_35 hl (k := 1) rfl (by decide) rfl (fun ls hl => ?_)
          refine lv_goto (tgt := 4) hx hb dX10_countReadable_38 (by decide) ?_
          exact ih4 (n + 1) (k + 1)  (by omega) (by omega) (by rw [show (k + 1).toNat = k.toNat + 1 by omega]; omega)  _ _ hZ ls (lv_sub hl [0, 1, 2] rfl)
  exact L4_k_1 _ 0 0  (Nat.lt_succ_self _) (by omega) ⟨rfl, by decide, by decide⟩  _ _ hZ ls (lv_sub hl [0, 1, 2] rfl)

set_option maxHeartbeats 4000000 in
set_option maxRecDepth 100000 in
theorem met_X10_isInKeptIssue (l : Launch) (D : va_G) (cs : Nat → ClassId) (A : Nat → Prop) (F : zF) (a : Nat) (c0 : zCo) (x : Int)  (hs1 : rSt cs F a c0) (hx0 : InR x) : zM l D cs A yX10_isInKeptIssue cX10_isInKeptIssue 3 (some FieldType.boolean) 4 0 0 [.ref a, .int (iI x)] F (pI (fun r F1 => F = F1 ∧ ((zlate c0 x = true ∧ r = 1) ∨ (zlate c0 x = false ∧ r = 0)))) := by
  refine zM_of (own := RX10) (by decide) rfl (Nat.le_of_ble_eq_true rfl) ?_
  intro p e s m below meth c hC hr hlk hnm hZ ls hl
  have hx := hC.x
  have hb := hC.b
  have hl : lv_has ls 3 [(0, .ref a), (1, .int (iI x))] := hl
  obtain ⟨la, li, aL, iL, h0, ⟨ra, hla⟩, ⟨ri, hli⟩, has, his⟩ := id hs1
  have haL := has.1
  have hiL := his.1
  have ha10 := oL_10 hla
  have hi10 := oL_10 hli
  refine z_iconst hx hb dX10_isInKeptIssue_0 ?_
  refine lv_istore_n (lv' := [(2, .int (iI 0)), (0, .ref a), (1, .int (iI x))]) hx hb dX10_isInKeptIssue_1 rfl hl (by decide) rfl (fun ls hl => ?_)
  have L2_k_1 : ∀ (fu : Nat) (k : Int)  (hfu : (((cIs c0).length : Int) - k).toNat < fu) (hi2_0 : 0 ≤ k ∧ k ≤ ((cIs c0).length : Int)) (hi2_1 : ∀ j : Int, 0 ≤ j → j < k → zft ((cIs c0).getD j.toNat (0, 0, 0, 0, [], 0)) x = none) (H : Heap) (locs : List Loc) (hZ : zS D A s F H locs) (ls : Array Slot) (hl : lv_has ls 3 [(2, .int (iI k)), (0, .ref a), (1, .int (iI x))]), W p l e (zR 4 0 0) s m [.ref a, .int (iI x)].toArray below meth c H locs 0 0 (MQ below (zQ D A (pI (fun r F1 => F = F1 ∧ ((zlate c0 x = true ∧ r = 1) ∨ (zlate c0 x = false ∧ r = 0))))) [.ref a, .int (iI x)].toArray s 0 0 A) (F0 m 2 ls []) := by
    intro fu
    induction fu with
    | zero =>
      intro k  hfu
      exact absurd hfu (Nat.not_lt_zero _)
    | succ fu ih2 =>
      intro k  hfu hi2_0 hi2_1  H locs hZ ls hl
      refine lv_iload_n hx hb dX10_isInKeptIssue_2 rfl (lv_at hl 0 rfl) ?_
      refine lv_aload_n hx hb dX10_isInKeptIssue_3 rfl (lv_at hl 1 rfl) ?_
      refine z_get (T := TX10) (N := 9) (ci := 13) (k := 1) (fs := [.ref la, .ref li, .int (iI (cNi c0)), .int (iI (cNn c0)), .int (iI (cWi c0)), .int (iI (cCo c0)), .int (iI (cHe c0)), .int (iI (cDa c0)), .int (iI (cLa c0))]) (v := .ref li) hC hZ in_X10 rfl (by decide) ql_X10_18 rfl h0 rfl dX10_isInKeptIssue_4 ?_
      obtain ⟨fsho_2, ho_2⟩ := (hli).o
      refine z_calli (z_runV (rest := [.int (iI k)]) (As := []) (n := 0) (ci := 4) hC hZ (met_Jx4a65c_size_8abf5 l D cs A F li ri iL hli) gv_X10_44 hd_Jx4a65c_size_8abf5 rfl ho_2 rfl hl rfl (Nat.le_of_ble_eq_true rfl) ⟨Nat.le_of_ble_eq_true rfl, Nat.le_of_ble_eq_true rfl⟩ ⟨Nat.le_of_ble_eq_true rfl, Nat.le_of_ble_eq_true rfl⟩ dX10_isInKeptIssue_7) hZ (fun r7 F7 H locs hp7_c_3 hZ => ?_)
      obtain ⟨rfl, rfl⟩ := hp7_c_3
      refine z_icmp_ge (tgt := 43) hx hb dX10_isInKeptIssue_10 (by decide) (by omega) (by omega) (fun c_4 => ?_) (fun c_4 => ?_)
      · skip
        have hfin : zlate c0 x = false := by
          unfold zlate
          rw [List.any_eq_false]
          intro s hs
          obtain ⟨i, hi⟩ := List.getElem?_of_mem hs
          have hil := (List.getElem?_eq_some_iff.mp hi).1
          have h5 := hi2_1 i (by omega) (by omega)
          rw [Int.toNat_natCast, List.getD_eq_getElem?_getD, hi] at h5
          have h5 : zft s x = none := h5
          rw [h5]
          decide
        refine z_iconst hx hb dX10_isInKeptIssue_43 ?_
        exact z_zret hC hr hlk hZ rfl (by decide) (by decide) (⟨rfl, Or.inr ⟨hfin, rfl⟩⟩) dX10_isInKeptIssue_44
      · skip
        refine lv_aload_n hx hb dX10_isInKeptIssue_13 rfl (lv_at hl 1 rfl) ?_
        refine z_get (T := TX10) (N := 9) (ci := 13) (k := 1) (fs := [.ref la, .ref li, .int (iI (cNi c0)), .int (iI (cNn c0)), .int (iI (cWi c0)), .int (iI (cCo c0)), .int (iI (cHe c0)), .int (iI (cDa c0)), .int (iI (cLa c0))]) (v := .ref li) hC hZ in_X10 rfl (by decide) ql_X10_18 rfl h0 rfl dX10_isInKeptIssue_14 ?_
        refine lv_iload_n hx hb dX10_isInKeptIssue_17 rfl (lv_at hl 0 rfl) ?_
        obtain ⟨fsho_5, ho_5⟩ := (hli).o
        refine z_callr (z_runV (rest := []) (As := [.int (iI k)]) (n := 1) (ci := 4) hC hZ (met_Jx4a65c_get_915e3 l D cs A F li ri iL k hli (by omega)) gv_X10_48 hd_Jx4a65c_get_915e3 rfl ho_5 rfl hl rfl (Nat.le_of_ble_eq_true rfl) ⟨Nat.le_of_ble_eq_true rfl, Nat.le_of_ble_eq_true rfl⟩ ⟨Nat.le_of_ble_eq_true rfl, Nat.le_of_ble_eq_true rfl⟩ dX10_isInKeptIssue_18) hZ (fun r18 F18 H locs hp18_c_6 hZ => ?_)
        obtain ⟨rfl, rfl⟩ := hp18_c_6
        have hoi18 := his.2 k (by omega) (by omega)
        obtain ⟨pa18, y018, hop18⟩ := id hoi18
        have hok18 : isOK 1000000 1000000 1000000 ((cIs c0).getD k.toNat (0, 0, 0, 0, [], 0)) := by obtain ⟨_, _, _, _, _, _, _, _, z⟩ := hop18; exact z
        have hno18 := hok18.1
        refine z_castS (ci := 10) (N := 3) (T := TX6) hC hZ qk_X10_58 y018 rfl dX10_isInKeptIssue_21 ?_
        refine z_getN (T := TX6) (N := 3) (ci := 10) (k := 1) (fs := [.int (iI (iNo ((cIs c0).getD k.toNat (0, 0, 0, 0, [], 0)))), .ref pa18, .float (zfr (cDa c0 - iPr ((cIs c0).getD k.toNat (0, 0, 0, 0, [], 0))).toNat)]) (v := .ref pa18) hC hZ in_X6 rfl (by decide) ql_X10_78 rfl y018 rfl dX10_isInKeptIssue_24 ?_
        refine lv_iload_n hx hb dX10_isInKeptIssue_27 rfl (lv_at hl 2 rfl) ?_
        obtain ⟨fsho_7, ho_7⟩ := (hop18).o
        refine z_calli (z_runV (rest := []) (As := [.int (iI x)]) (n := 1) (ci := 12) hC hZ (met_X9_firstLineOf l D cs A F pa18 ((cIs c0).getD k.toNat (0, 0, 0, 0, [], 0)) x hop18 (by omega)) gv_X10_82 hd_X9_firstLineOf rfl ho_7 rfl hl rfl (Nat.le_of_ble_eq_true rfl) ⟨Nat.le_of_ble_eq_true rfl, Nat.le_of_ble_eq_true rfl⟩ ⟨Nat.le_of_ble_eq_true rfl, Nat.le_of_ble_eq_true rfl⟩ dX10_isInKeptIssue_28) hZ (fun r28 F28 H locs hp28_c_8 hZ => ?_)
        obtain ⟨rfl, hp28_c_8⟩ := hp28_c_8
        have hpg := isOK_pg hok18
        have hlb := hok18.2.2.2.1
        refine z_iconst hx hb dX10_isInKeptIssue_31 ?_
        refine z_icmp_eq (tgt := 37) hx hb dX10_isInKeptIssue_32 (by decide) (by omega) (by decide) (fun c_9 => ?_) (fun c_9 => ?_)
        · skip
          have hnn : zft ((cIs c0).getD k.toNat (0, 0, 0, 0, [], 0)) x = none := hp28_c_8.elim (fun z => z.1) (fun z => absurd z.2.1 (by omega))
          refine z_iinc (lv' := [(2, .int (iI (k + 1))), (0, .ref a), (1, .int (iI x))]) hx hb dX10_isInKeptIssue_37 hl (k := 0) rfl (by decide) rfl (fun ls hl => ?_)
          refine lv_goto (tgt := 2) hx hb dX10_isInKeptIssue_40 (by decide) ?_
          exact ih2 (k + 1)  (by omega) (by omega) (fun j j0 j1 => by by_cases q : j = k; (rw [q]; exact hnn); exact hi2_1 j j0 (by omega))  _ _ hZ ls (lv_sub hl [0, 1, 2] rfl)
        · skip
          have hsm : zft ((cIs c0).getD k.toNat (0, 0, 0, 0, [], 0)) x ≠ none := hp28_c_8.elim (fun z => absurd z.2 (by assumption)) (fun z => by rw [z.1]; exact fun q => by cases q)
          have hfin : zlate c0 x = true := by
            unfold zlate
            rw [List.any_eq_true]
            exact ⟨_, List.mem_of_getElem? (gDI (l := cIs c0) (k := k) (by omega) (by omega)), Option.isSome_iff_ne_none.mpr hsm⟩
          refine z_iconst hx hb dX10_isInKeptIssue_35 ?_
          exact z_zret hC hr hlk hZ rfl (by decide) (by decide) (⟨rfl, Or.inl ⟨hfin, rfl⟩⟩) dX10_isInKeptIssue_36
  exact L2_k_1 _ 0  (Nat.lt_succ_self _) (by omega) (fun j j0 j1 => absurd j0 (by omega))  _ _ hZ ls (lv_sub hl [0, 1, 2] rfl)

set_option maxHeartbeats 4000000 in
set_option maxRecDepth 100000 in
theorem met_X10_countBefore (l : Launch) (D : va_G) (cs : Nat → ClassId) (A : Nat → Prop) (F : zF) (a : Nat) (c0 : zCo) (b : Nat) (y : zAr)  (hs1 : rSt cs F a c0) (hy1 : oAr cs F b y) : zM l D cs A yX10_countBefore cX10_countBefore 4 (some FieldType.int) 4 0 0 [.ref a, .ref b] F (pI (fun r F1 => F = F1 ∧ ((zah (cAr c0) y : Nat) : Int) = r)) := by
  refine zM_of (own := RX10) (by decide) rfl (Nat.le_of_ble_eq_true rfl) ?_
  intro p e s m below meth c hC hr hlk hnm hZ ls hl
  have hx := hC.x
  have hb := hC.b
  have hl : lv_has ls 4 [(0, .ref a), (1, .ref b)] := hl
  obtain ⟨la, li, aL, iL, h0, ⟨ra, hla⟩, ⟨ri, hli⟩, has, his⟩ := id hs1
  have haL := has.1
  have hiL := his.1
  have ha10 := oL_10 hla
  have hi10 := oL_10 hli
  refine z_iconst hx hb dX10_countBefore_0 ?_
  refine lv_istore_n (lv' := [(2, .int (iI 0)), (0, .ref a), (1, .ref b)]) hx hb dX10_countBefore_1 rfl hl (by decide) rfl (fun ls hl => ?_)
  refine z_iconst hx hb dX10_countBefore_2 ?_
  refine lv_istore_n (lv' := [(3, .int (iI 0)), (2, .int (iI 0)), (0, .ref a), (1, .ref b)]) hx hb dX10_countBefore_3 rfl hl (by decide) rfl (fun ls hl => ?_)
  have L4_k_1 : ∀ (fu : Nat) (n k : Int)  (hfu : (((cAr c0).length : Int) - k).toNat < fu) (hi4_0 : 0 ≤ k ∧ k ≤ ((cAr c0).length : Int)) (hi4_1 : n = (zap (cAr c0) y k.toNat : Nat) ∧ 0 ≤ n ∧ n ≤ k) (H : Heap) (locs : List Loc) (hZ : zS D A s F H locs) (ls : Array Slot) (hl : lv_has ls 4 [(3, .int (iI k)), (2, .int (iI n)), (0, .ref a), (1, .ref b)]), W p l e (zR 4 0 0) s m [.ref a, .ref b].toArray below meth c H locs 0 0 (MQ below (zQ D A (pI (fun r F1 => F = F1 ∧ ((zah (cAr c0) y : Nat) : Int) = r))) [.ref a, .ref b].toArray s 0 0 A) (F0 m 4 ls []) := by
    intro fu
    induction fu with
    | zero =>
      intro n k  hfu
      exact absurd hfu (Nat.not_lt_zero _)
    | succ fu ih4 =>
      intro n k  hfu hi4_0 hi4_1  H locs hZ ls hl
      refine lv_iload_n hx hb dX10_countBefore_4 rfl (lv_at hl 0 rfl) ?_
      refine lv_aload_n hx hb dX10_countBefore_5 rfl (lv_at hl 2 rfl) ?_
      refine z_get (T := TX10) (N := 9) (ci := 13) (k := 0) (fs := [.ref la, .ref li, .int (iI (cNi c0)), .int (iI (cNn c0)), .int (iI (cWi c0)), .int (iI (cCo c0)), .int (iI (cHe c0)), .int (iI (cDa c0)), .int (iI (cLa c0))]) (v := .ref la) hC hZ in_X10 rfl (by decide) ql_X10_12 rfl h0 rfl dX10_countBefore_6 ?_
      obtain ⟨fsho_2, ho_2⟩ := (hla).o
      refine z_calli (z_runV (rest := [.int (iI k)]) (As := []) (n := 0) (ci := 4) hC hZ (met_Jx4a65c_size_8abf5 l D cs A F la ra aL hla) gv_X10_44 hd_Jx4a65c_size_8abf5 rfl ho_2 rfl hl rfl (Nat.le_of_ble_eq_true rfl) ⟨Nat.le_of_ble_eq_true rfl, Nat.le_of_ble_eq_true rfl⟩ ⟨Nat.le_of_ble_eq_true rfl, Nat.le_of_ble_eq_true rfl⟩ dX10_countBefore_9) hZ (fun r9 F9 H locs hp9_c_3 hZ => ?_)
      obtain ⟨rfl, rfl⟩ := hp9_c_3
      refine z_icmp_ge (tgt := 42) hx hb dX10_countBefore_12 (by decide) (by omega) (by omega) (fun c_4 => ?_) (fun c_4 => ?_)
      · skip
        have hfin : ((zah (cAr c0) y : Nat) : Int) = n := by rw [hi4_1.1, zap_all _ _ (by omega)]
        refine lv_iload_n hx hb dX10_countBefore_42 rfl (lv_at hl 1 rfl) ?_
        exact z_iret hC hr hlk hZ (by decide) (by decide) (⟨rfl, hfin⟩) dX10_countBefore_43
      · skip
        have hgd := gDA (l := cAr c0) (k := k) (by omega) (by omega)
        have hzs := zap_s (a := y) hgd
        have hbi := zbf_iff (o := ((cAr c0).getD k.toNat (0, 0, []))) (a := y)
        refine lv_aload_n hx hb dX10_countBefore_15 rfl (lv_at hl 2 rfl) ?_
        refine z_get (T := TX10) (N := 9) (ci := 13) (k := 0) (fs := [.ref la, .ref li, .int (iI (cNi c0)), .int (iI (cNn c0)), .int (iI (cWi c0)), .int (iI (cCo c0)), .int (iI (cHe c0)), .int (iI (cDa c0)), .int (iI (cLa c0))]) (v := .ref la) hC hZ in_X10 rfl (by decide) ql_X10_12 rfl h0 rfl dX10_countBefore_16 ?_
        refine lv_iload_n hx hb dX10_countBefore_19 rfl (lv_at hl 0 rfl) ?_
        obtain ⟨fsho_5, ho_5⟩ := (hla).o
        refine z_callr (z_runV (rest := []) (As := [.int (iI k)]) (n := 1) (ci := 4) hC hZ (met_Jx4a65c_get_915e3 l D cs A F la ra aL k hla (by omega)) gv_X10_48 hd_Jx4a65c_get_915e3 rfl ho_5 rfl hl rfl (Nat.le_of_ble_eq_true rfl) ⟨Nat.le_of_ble_eq_true rfl, Nat.le_of_ble_eq_true rfl⟩ ⟨Nat.le_of_ble_eq_true rfl, Nat.le_of_ble_eq_true rfl⟩ dX10_countBefore_20) hZ (fun r20 F20 H locs hp20_c_6 hZ => ?_)
        obtain ⟨rfl, rfl⟩ := hp20_c_6
        have hoa20 := has.2 k (by omega) (by omega)
        obtain ⟨wa20, y020, -, hyo20⟩ := id hoa20
        have hyi20 := hyo20.1
        have hyp20 := hyo20.2.1
        refine z_castS (ci := 5) (N := 3) (T := TX1) hC hZ qk_X10_52 y020 rfl dX10_countBefore_23 ?_
        refine lv_aload_n hx hb dX10_countBefore_26 rfl (lv_at hl 3 rfl) ?_
        refine z_calli (z_runV (rest := []) (As := [.ref b]) (n := 1) (ci := 5) hC hZ (met_X1_comesBefore l D cs A F (aL.getD k.toNat 0) b ((cAr c0).getD k.toNat (0, 0, [])) y hoa20 hy1) gv_X10_74 hd_X1_comesBefore rfl y020 rfl hl rfl (Nat.le_of_ble_eq_true rfl) ⟨Nat.le_of_ble_eq_true rfl, Nat.le_of_ble_eq_true rfl⟩ ⟨Nat.le_of_ble_eq_true rfl, Nat.le_of_ble_eq_true rfl⟩ dX10_countBefore_27) hZ (fun r27 F27 H locs hp27_c_7 hZ => ?_)
        obtain ⟨rfl, hp27_c_7⟩ := hp27_c_7
        refine z_if_eq (tgt := 36) hx hb dX10_countBefore_30 (by decide) (by omega) (fun c_8 => ?_) (fun c_8 => ?_)
        · skip
          have hzz : zap (cAr c0) y (k.toNat + 1) = zap (cAr c0) y k.toNat := hzs.elim (fun z => by have z1 := hbi.mp z.1; rcases hp27_c_7 with ⟨q1, q2⟩ | ⟨q1, q2⟩; omega; exact absurd z1 q1) (fun z => z.2)
          refine z_iinc (lv' := [(3, .int (iI (k + 1))), (2, .int (iI n)), (0, .ref a), (1, .ref b)]) hx hb dX10_countBefore_36 hl (k := 0) rfl (by decide) rfl (fun ls hl => ?_)
          refine lv_goto (tgt := 4) hx hb dX10_countBefore_39 (by decide) ?_
          exact ih4 n (k + 1)  (by omega) (by omega) (by rw [show (k + 1).toNat = k.toNat + 1 by omega]; omega)  _ _ hZ ls (lv_sub hl [0, 1, 2, 3] rfl)
        · skip
          have hzz : zap (cAr c0) y (k.toNat + 1) = zap (cAr c0) y k.toNat + 1 := hzs.elim (fun z => z.2) (fun z => by rcases hp27_c_7 with ⟨q1, q2⟩ | ⟨q1, q2⟩; (rw [hbi.mpr q1] at z; cases z.1); omega)
          refine z_iinc (lv' := [(2, .int (iI (n + 1))), (3, .int (iI k)), (0, .ref a), (1, .ref b)]) hx hb dX10_countBefore_33 hl (k := 1) rfl (by decide) rfl (fun ls hl => ?_)
          refine z_iinc (lv' := [(3, .int (iI (k + 1))), (2, .int (iI (n + 1))), (0, .ref a), (1, .ref b)]) hx hb dX10_countBefore_36 hl (k := 1) rfl (by decide) rfl (fun ls hl => ?_)
          refine lv_goto (tgt := 4) hx hb dX10_countBefore_39 (by decide) ?_
          exact ih4 (n + 1) (k + 1)  (by omega) (by omega) (by rw [show (k + 1).toNat = k.toNat + 1 by omega]; omega)  _ _ hZ ls (lv_sub hl [0, 1, 2, 3] rfl)
  exact L4_k_1 _ 0 0  (Nat.lt_succ_self _) (by omega) ⟨rfl, by decide, by decide⟩  _ _ hZ ls (lv_sub hl [0, 1, 2, 3] rfl)

set_option maxHeartbeats 4000000 in
set_option maxRecDepth 100000 in
theorem met_X10_ranked (l : Launch) (D : va_G) (cs : Nat → ClassId) (A : Nat → Prop) (F : zF) (a : Nat) (c0 : zCo) (x : Int)  (hs1 : rSt cs F a c0) (hx0 : InR x) : zM l D cs A yX10_ranked cX10_ranked 4 (some (FieldType.object "StoneGazette$Article")) 5 0 0 [.ref a, .int (iI x)] F (pQ (fun r F1 => F = F1 ∧ ((zrk (cAr c0) x = none ∧ r = none) ∨ ∃ (y : zAr) (q : Nat), zrk (cAr c0) x = some y ∧ y ∈ cAr c0 ∧ r = some q ∧ oAr cs F q y))) := by
  refine zM_of (own := RX10) (by decide) rfl (Nat.le_of_ble_eq_true rfl) ?_
  intro p e s m below meth c hC hr hlk hnm hZ ls hl
  have hx := hC.x
  have hb := hC.b
  have hl : lv_has ls 4 [(0, .ref a), (1, .int (iI x))] := hl
  obtain ⟨la, li, aL, iL, h0, ⟨ra, hla⟩, ⟨ri, hli⟩, has, his⟩ := id hs1
  have haL := has.1
  have hiL := his.1
  have ha10 := oL_10 hla
  have hi10 := oL_10 hli
  refine z_iconst hx hb dX10_ranked_0 ?_
  refine lv_istore_n (lv' := [(2, .int (iI 0)), (0, .ref a), (1, .int (iI x))]) hx hb dX10_ranked_1 rfl hl (by decide) rfl (fun ls hl => ?_)
  have L2_k_1 : ∀ (fu : Nat) (k : Int)  (hfu : (((cAr c0).length : Int) - k).toNat < fu) (hi2_0 : 0 ≤ k ∧ k ≤ ((cAr c0).length : Int)) (hi2_1 : ∀ j : Int, 0 ≤ j → j < k → (zah (cAr c0) ((cAr c0).getD j.toNat (0, 0, [])) : Int) ≠ x) (H : Heap) (locs : List Loc) (hZ : zS D A s F H locs) (ls : Array Slot) (hl : lv_has ls 4 [(2, .int (iI k)), (0, .ref a), (1, .int (iI x))]), W p l e (zR 5 0 0) s m [.ref a, .int (iI x)].toArray below meth c H locs 0 0 (MQ below (zQ D A (pQ (fun r F1 => F = F1 ∧ ((zrk (cAr c0) x = none ∧ r = none) ∨ ∃ (y : zAr) (q : Nat), zrk (cAr c0) x = some y ∧ y ∈ cAr c0 ∧ r = some q ∧ oAr cs F q y)))) [.ref a, .int (iI x)].toArray s 0 0 A) (F0 m 2 ls []) := by
    intro fu
    induction fu with
    | zero =>
      intro k  hfu
      exact absurd hfu (Nat.not_lt_zero _)
    | succ fu ih2 =>
      intro k  hfu hi2_0 hi2_1  H locs hZ ls hl
      refine lv_iload_n hx hb dX10_ranked_2 rfl (lv_at hl 0 rfl) ?_
      refine lv_aload_n hx hb dX10_ranked_3 rfl (lv_at hl 1 rfl) ?_
      refine z_get (T := TX10) (N := 9) (ci := 13) (k := 0) (fs := [.ref la, .ref li, .int (iI (cNi c0)), .int (iI (cNn c0)), .int (iI (cWi c0)), .int (iI (cCo c0)), .int (iI (cHe c0)), .int (iI (cDa c0)), .int (iI (cLa c0))]) (v := .ref la) hC hZ in_X10 rfl (by decide) ql_X10_12 rfl h0 rfl dX10_ranked_4 ?_
      obtain ⟨fsho_2, ho_2⟩ := (hla).o
      refine z_calli (z_runV (rest := [.int (iI k)]) (As := []) (n := 0) (ci := 4) hC hZ (met_Jx4a65c_size_8abf5 l D cs A F la ra aL hla) gv_X10_44 hd_Jx4a65c_size_8abf5 rfl ho_2 rfl hl rfl (Nat.le_of_ble_eq_true rfl) ⟨Nat.le_of_ble_eq_true rfl, Nat.le_of_ble_eq_true rfl⟩ ⟨Nat.le_of_ble_eq_true rfl, Nat.le_of_ble_eq_true rfl⟩ dX10_ranked_7) hZ (fun r7 F7 H locs hp7_c_3 hZ => ?_)
      obtain ⟨rfl, rfl⟩ := hp7_c_3
      refine z_icmp_ge (tgt := 42) hx hb dX10_ranked_10 (by decide) (by omega) (by omega) (fun c_4 => ?_) (fun c_4 => ?_)
      · skip
        have hfin : zrk (cAr c0) x = none := zrk_n (fun j j0 j1 => hi2_1 j j0 (by omega))
        refine lv_null hx hb dX10_ranked_42 ?_
        exact z_aretq hC hr (Or.inl ⟨_, rfl⟩) hlk hZ none rfl (by decide) (by decide) (⟨rfl, Or.inl ⟨hfin, rfl⟩⟩) dX10_ranked_43
      · skip
        refine lv_aload_n hx hb dX10_ranked_13 rfl (lv_at hl 1 rfl) ?_
        refine z_get (T := TX10) (N := 9) (ci := 13) (k := 0) (fs := [.ref la, .ref li, .int (iI (cNi c0)), .int (iI (cNn c0)), .int (iI (cWi c0)), .int (iI (cCo c0)), .int (iI (cHe c0)), .int (iI (cDa c0)), .int (iI (cLa c0))]) (v := .ref la) hC hZ in_X10 rfl (by decide) ql_X10_12 rfl h0 rfl dX10_ranked_14 ?_
        refine lv_iload_n hx hb dX10_ranked_17 rfl (lv_at hl 0 rfl) ?_
        obtain ⟨fsho_5, ho_5⟩ := (hla).o
        refine z_callr (z_runV (rest := []) (As := [.int (iI k)]) (n := 1) (ci := 4) hC hZ (met_Jx4a65c_get_915e3 l D cs A F la ra aL k hla (by omega)) gv_X10_48 hd_Jx4a65c_get_915e3 rfl ho_5 rfl hl rfl (Nat.le_of_ble_eq_true rfl) ⟨Nat.le_of_ble_eq_true rfl, Nat.le_of_ble_eq_true rfl⟩ ⟨Nat.le_of_ble_eq_true rfl, Nat.le_of_ble_eq_true rfl⟩ dX10_ranked_18) hZ (fun r18 F18 H locs hp18_c_6 hZ => ?_)
        obtain ⟨rfl, rfl⟩ := hp18_c_6
        have hoa18 := has.2 k (by omega) (by omega)
        obtain ⟨wa18, y018, -, hyo18⟩ := id hoa18
        have hyi18 := hyo18.1
        have hyp18 := hyo18.2.1
        refine z_castS (ci := 5) (N := 3) (T := TX1) hC hZ qk_X10_52 y018 rfl dX10_ranked_21 ?_
        refine lv_astore_n (lv' := [(3, .ref (aL.getD k.toNat 0)), (2, .int (iI k)), (0, .ref a), (1, .int (iI x))]) hx hb dX10_ranked_24 rfl hl (by decide) rfl (fun ls hl => ?_)
        refine lv_aload_n hx hb dX10_ranked_25 rfl (lv_at hl 2 rfl) ?_
        refine lv_aload_n hx hb dX10_ranked_26 rfl (lv_at hl 0 rfl) ?_
        refine z_calli (z_runV (rest := []) (As := [.ref (aL.getD k.toNat 0)]) (n := 1) (ci := 13) hC hZ (met_X10_countBefore l D cs A F a c0 (aL.getD k.toNat 0) ((cAr c0).getD k.toNat (0, 0, [])) hs1 hoa18) gv_X10_70 hd_X10_countBefore rfl h0 rfl hl rfl (Nat.le_of_ble_eq_true rfl) ⟨Nat.le_of_ble_eq_true rfl, Nat.le_of_ble_eq_true rfl⟩ ⟨Nat.le_of_ble_eq_true rfl, Nat.le_of_ble_eq_true rfl⟩ dX10_ranked_27) hZ (fun r27 F27 H locs hp27_c_7 hZ => ?_)
        obtain ⟨rfl, rfl⟩ := hp27_c_7
        have hzl := zah_bd (List.mem_of_getElem? (gDA (l := cAr c0) (k := k) (by omega) (by omega)))
        refine lv_iload_n hx hb dX10_ranked_30 rfl (lv_at hl 3 rfl) ?_
        refine z_icmp_ne (tgt := 36) hx hb dX10_ranked_31 (by decide) (by omega) (by omega) (fun c_8 => ?_) (fun c_8 => ?_)
        · skip
          refine z_iinc (lv' := [(2, .int (iI (k + 1))), (3, .ref (aL.getD k.toNat 0)), (0, .ref a), (1, .int (iI x))]) hx hb dX10_ranked_36 hl (k := 1) rfl (by decide) rfl (fun ls hl => ?_)
          refine lv_goto (tgt := 2) hx hb dX10_ranked_39 (by decide) ?_
          exact ih2 (k + 1)  (by omega) (by omega) (fun j j0 j1 => by by_cases q : j = k; (rw [q]; assumption); exact hi2_1 j j0 (by omega))  _ _ hZ ls (lv_sub hl [0, 2, 3] rfl)
        · skip
          have hyy := zrk_y (l := cAr c0) (x := x) (k := k) (by omega) (by omega) (by assumption) hi2_1
          refine lv_aload_n hx hb dX10_ranked_34 rfl (lv_at hl 0 rfl) ?_
          exact z_aretq hC hr (Or.inl ⟨_, rfl⟩) hlk hZ (some (aL.getD k.toNat 0)) rfl (by decide) (by decide) (⟨rfl, Or.inr ⟨_, _, hyy, List.mem_of_getElem? (gDA (by omega) (by omega)), rfl, hoa18⟩⟩) dX10_ranked_35
  exact L2_k_1 _ 0  (Nat.lt_succ_self _) (by omega) (fun j j0 j1 => absurd j0 (by omega))  _ _ hZ ls (lv_sub hl [0, 1, 2] rfl)
