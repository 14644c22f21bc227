theorem gDA {l : List zAr} {k : Int} (h0 : 0 ≤ k) (h1 : k < l.length) : l[k.toNat]? = some (l.getD k.toNat (0, 0, [])) := by
  have hl : k.toNat < l.length := by omega
  rw [List.getD_eq_getElem?_getD, List.getElem?_eq_getElem hl]
  rfl
theorem gDI {l : List zIs} {k : Int} (h0 : 0 ≤ k) (h1 : k < l.length) : l[k.toNat]? = some (l.getD k.toNat (0, 0, 0, 0, [], 0)) := by
  have hl : k.toNat < l.length := by omega
  rw [List.getD_eq_getElem?_getD, List.getElem?_eq_getElem hl]
  rfl
theorem zix_n {l : List zAr} {x : Int} (h : ∀ j : Int, 0 ≤ j → j < l.length → (l.getD j.toNat (0, 0, [])).1 ≠ x) : zix l x = none := by
  unfold zix
  rw [List.findIdx?_eq_none_iff]
  intro a hA
  obtain ⟨i, hi⟩ := List.getElem?_of_mem hA
  have hil := (List.getElem?_eq_some_iff.mp hi).1
  have h5 := h i (by omega) (by omega)
  rw [Int.toNat_natCast, List.getD_eq_getElem?_getD, hi] at h5
  simpa using h5
theorem zix_y {l : List zAr} {x k : Int} (h0 : 0 ≤ k) (h1 : k < l.length) (hx : (l.getD k.toNat (0, 0, [])).1 = x) (h : ∀ j : Int, 0 ≤ j → j < k → (l.getD j.toNat (0, 0, [])).1 ≠ x) : zix l x = some k.toNat := by
  unfold zix
  rw [List.findIdx?_eq_some_iff_getElem]
  obtain ⟨hl, hv⟩ := List.getElem?_eq_some_iff.mp (gDA h0 h1)
  refine ⟨hl, by rw [hv, hx]; exact beq_self_eq_true x, fun j hj => ?_⟩
  have h5 := h j (by omega) (by omega)
  rw [Int.toNat_natCast, List.getD_eq_getElem?_getD, List.getElem?_eq_getElem (by omega)] at h5
  simpa using h5
theorem zfi_n {l : List zIs} {x : Int} (h : ∀ j : Int, 0 ≤ j → j < l.length → iNo (l.getD j.toNat (0, 0, 0, 0, [], 0)) ≠ x) : zfi l x = none := by
  unfold zfi
  rw [List.find?_eq_none]
  intro a hA
  obtain ⟨i, hi⟩ := List.getElem?_of_mem hA
  have hil := (List.getElem?_eq_some_iff.mp hi).1
  have h5 := h i (by omega) (by omega)
  rw [Int.toNat_natCast, List.getD_eq_getElem?_getD, hi] at h5
  simpa using h5
theorem zfi_y {l : List zIs} {x k : Int} (h0 : 0 ≤ k) (h1 : k < l.length) (hx : iNo (l.getD k.toNat (0, 0, 0, 0, [], 0)) = x) (h : ∀ j : Int, 0 ≤ j → j < k → iNo (l.getD j.toNat (0, 0, 0, 0, [], 0)) ≠ x) : zfi l x = some (l.getD k.toNat (0, 0, 0, 0, [], 0)) := by
  unfold zfi
  obtain ⟨hl, hv⟩ := List.getElem?_eq_some_iff.mp (gDI h0 h1)
  refine List.find?_eq_some_iff_getElem.mpr ⟨by rw [hx]; exact beq_self_eq_true x, k.toNat, hl, hv, fun j hj => ?_⟩
  have h5 := h j (by omega) (by omega)
  rw [Int.toNat_natCast, List.getD_eq_getElem?_getD, List.getElem?_eq_getElem (by omega)] at h5
  simpa using h5
theorem oL_10 {cs : Nat → ClassId} {F : zF} {a arr : Nat} {l : List Nat} (h : oLx cs F a arr l) : l.length ≤ 10 := by
  obtain ⟨mc, -, h1⟩ := h
  rcases h1 with ⟨-, rfl⟩ | ⟨h_, -, h2, -⟩
  · exact Nat.zero_le _
  · exact h2
theorem rSt.o {cs : Nat → ClassId} {F : zF} {a : Nat} {c : zCo} (h : rSt cs F a c) : ∃ fs, F a = some (.inr (13, fs)) := by
  obtain ⟨_, _, _, _, h1, -⟩ := h
  exact ⟨_, h1⟩
set_option maxHeartbeats 4000000 in
set_option maxRecDepth 100000 in
theorem met_X10_indexOf (l : Launch) (D : va_G) (cs : Nat → ClassId) (A : Nat → Prop) (F : zF) (a : Nat) (c0 : zCo) (x : Int)  (hs1 : rSt cs F a c0) (hx0 : InR x) : zM l D cs A yX10_indexOf cX10_indexOf 3 (some FieldType.int) 4 0 0 [.ref a, .int (iI x)] F (pI (fun r F1 => F = F1 ∧ ((zix (cAr c0) x = none ∧ r = -1) ∨ (zix (cAr c0) x = some r.toNat ∧ 0 ≤ r ∧ r < (cAr c0).length)))) := by
  refine zM_of (own := RX10) (by decide) rfl (Nat.le_of_ble_eq_true rfl) ?_
  intro p e s m below meth c hC hr hlk hnm hZ ls hl
  have hx := hC.x
  have hb := hC.b
  have hl : lv_has ls 3 [(0, .ref a), (1, .int (iI x))] := hl
  obtain ⟨la, li, aL, iL, h0, ⟨ra, hla⟩, ⟨ri, hli⟩, has, his⟩ := id hs1
  have haL := has.1
  have hiL := his.1
  have ha10 := oL_10 hla
  have hi10 := oL_10 hli
  refine z_iconst hx hb dX10_indexOf_0 ?_
  refine lv_istore_n (lv' := [(2, .int (iI 0)), (0, .ref a), (1, .int (iI x))]) hx hb dX10_indexOf_1 rfl hl (by decide) rfl (fun ls hl => ?_)
  have L2_k_1 : ∀ (fu : Nat) (k : Int)  (hfu : (((cAr c0).length : Int) - k).toNat < fu) (hi2_0 : 0 ≤ k ∧ k ≤ ((cAr c0).length : Int)) (hi2_1 : ∀ j : Int, 0 ≤ j → j < k → ((cAr c0).getD j.toNat (0, 0, [])).1 ≠ x) (H : Heap) (locs : List Loc) (hZ : zS D A s F H locs) (ls : Array Slot) (hl : lv_has ls 3 [(2, .int (iI k)), (0, .ref a), (1, .int (iI x))]), W p l e (zR 4 0 0) s m [.ref a, .int (iI x)].toArray below meth c H locs 0 0 (MQ below (zQ D A (pI (fun r F1 => F = F1 ∧ ((zix (cAr c0) x = none ∧ r = -1) ∨ (zix (cAr c0) x = some r.toNat ∧ 0 ≤ r ∧ r < (cAr c0).length))))) [.ref a, .int (iI x)].toArray s 0 0 A) (F0 m 2 ls []) := by
    intro fu
    induction fu with
    | zero =>
      intro k  hfu
      exact absurd hfu (Nat.not_lt_zero _)
    | succ fu ih2 =>
      intro k  hfu hi2_0 hi2_1  H locs hZ ls hl
      refine lv_iload_n hx hb dX10_indexOf_2 rfl (lv_at hl 0 rfl) ?_
      refine lv_aload_n hx hb dX10_indexOf_3 rfl (lv_at hl 1 rfl) ?_
      refine z_get (T := TX10) (N := 9) (ci := 13) (k := 0) (fs := [.ref la, .ref li, .int (iI (cNi c0)), .int (iI (cNn c0)), .int (iI (cWi c0)), .int (iI (cCo c0)), .int (iI (cHe c0)), .int (iI (cDa c0)), .int (iI (cLa c0))]) (v := .ref la) hC hZ in_X10 rfl (by decide) ql_X10_12 rfl h0 rfl dX10_indexOf_4 ?_
      obtain ⟨fsho_2, ho_2⟩ := (hla).o
      refine z_calli (z_runV (rest := [.int (iI k)]) (As := []) (n := 0) (ci := 4) hC hZ (met_Jx4a65c_size_8abf5 l D cs A F la ra aL hla) gv_X10_44 hd_Jx4a65c_size_8abf5 rfl ho_2 rfl hl rfl (Nat.le_of_ble_eq_true rfl) ⟨Nat.le_of_ble_eq_true rfl, Nat.le_of_ble_eq_true rfl⟩ ⟨Nat.le_of_ble_eq_true rfl, Nat.le_of_ble_eq_true rfl⟩ dX10_indexOf_7) hZ (fun r7 F7 H locs hp7_c_3 hZ => ?_)
      obtain ⟨rfl, rfl⟩ := hp7_c_3
      refine z_icmp_ge (tgt := 39) hx hb dX10_indexOf_10 (by decide) (by omega) (by omega) (fun c_4 => ?_) (fun c_4 => ?_)
      · skip
        have hfin : zix (cAr c0) x = none := zix_n (fun j j0 j1 => hi2_1 j j0 (by omega))
        refine z_iconst hx hb dX10_indexOf_39 ?_
        exact z_iret hC hr hlk hZ (by decide) (by decide) (⟨rfl, Or.inl ⟨hfin, rfl⟩⟩) dX10_indexOf_40
      · skip
        refine lv_aload_n hx hb dX10_indexOf_13 rfl (lv_at hl 1 rfl) ?_
        refine z_get (T := TX10) (N := 9) (ci := 13) (k := 0) (fs := [.ref la, .ref li, .int (iI (cNi c0)), .int (iI (cNn c0)), .int (iI (cWi c0)), .int (iI (cCo c0)), .int (iI (cHe c0)), .int (iI (cDa c0)), .int (iI (cLa c0))]) (v := .ref la) hC hZ in_X10 rfl (by decide) ql_X10_12 rfl h0 rfl dX10_indexOf_14 ?_
        refine lv_iload_n hx hb dX10_indexOf_17 rfl (lv_at hl 0 rfl) ?_
        obtain ⟨fsho_5, ho_5⟩ := (hla).o
        refine z_callr (z_runV (rest := []) (As := [.int (iI k)]) (n := 1) (ci := 4) hC hZ (met_Jx4a65c_get_915e3 l D cs A F la ra aL k hla (by omega)) gv_X10_48 hd_Jx4a65c_get_915e3 rfl ho_5 rfl hl rfl (Nat.le_of_ble_eq_true rfl) ⟨Nat.le_of_ble_eq_true rfl, Nat.le_of_ble_eq_true rfl⟩ ⟨Nat.le_of_ble_eq_true rfl, Nat.le_of_ble_eq_true rfl⟩ dX10_indexOf_18) hZ (fun r18 F18 H locs hp18_c_6 hZ => ?_)
        obtain ⟨rfl, rfl⟩ := hp18_c_6
        have hoa18 := has.2 k (by omega) (by omega)
        obtain ⟨wa18, y018, -, hyo18⟩ := id hoa18
        have hyi18 := hyo18.1
        have hyp18 := hyo18.2.1
        refine z_castS (ci := 5) (N := 3) (T := TX1) hC hZ qk_X10_52 y018 rfl dX10_indexOf_21 ?_
        refine z_getN (T := TX1) (N := 3) (ci := 5) (k := 0) (fs := [.int (iI (((cAr c0).getD k.toNat (0, 0, [])).1)), .int (iI (((cAr c0).getD k.toNat (0, 0, [])).2.1)), .ref wa18]) (v := .int (iI (((cAr c0).getD k.toNat (0, 0, [])).1))) hC hZ in_X1 rfl (by decide) ql_X10_60 rfl y018 rfl dX10_indexOf_24 ?_
        refine lv_iload_n hx hb dX10_indexOf_27 rfl (lv_at hl 2 rfl) ?_
        refine z_icmp_ne (tgt := 33) hx hb dX10_indexOf_28 (by decide) (by omega) (by omega) (fun c_7 => ?_) (fun c_7 => ?_)
        · skip
          refine z_iinc (lv' := [(2, .int (iI (k + 1))), (0, .ref a), (1, .int (iI x))]) hx hb dX10_indexOf_33 hl (k := 0) rfl (by decide) rfl (fun ls hl => ?_)
          refine lv_goto (tgt := 2) hx hb dX10_indexOf_36 (by decide) ?_
          exact ih2 (k + 1)  (by omega) (by omega) (fun j j0 j1 => by by_cases q : j = k; (rw [q]; assumption); exact hi2_1 j j0 (by omega))  _ _ hZ ls (lv_sub hl [0, 1, 2] rfl)
        · skip
          have hyy := zix_y (l := cAr c0) (x := x) (k := k) (by omega) (by omega) (by assumption) hi2_1
          refine lv_iload_n hx hb dX10_indexOf_31 rfl (lv_at hl 0 rfl) ?_
          exact z_iret hC hr hlk hZ (by decide) (by decide) (⟨rfl, Or.inr ⟨hyy, by omega, by omega⟩⟩) dX10_indexOf_32
  exact L2_k_1 _ 0  (Nat.lt_succ_self _) (by omega) (fun j j0 j1 => absurd j0 (by omega))  _ _ hZ ls (lv_sub hl [0, 1, 2] rfl)

set_option maxHeartbeats 4000000 in
set_option maxRecDepth 100000 in
theorem met_X10_findArticle (l : Launch) (D : va_G) (cs : Nat → ClassId) (A : Nat → Prop) (F : zF) (a : Nat) (c0 : zCo) (x : Int)  (hs1 : rSt cs F a c0) (hx0 : InR x) : zM l D cs A yX10_findArticle cX10_findArticle 3 (some (FieldType.object "StoneGazette$Article")) 5 0 0 [.ref a, .int (iI x)] F (pQ (fun r F1 => F = F1 ∧ ((zix (cAr c0) x = none ∧ r = none) ∨ ∃ (i q : Nat), zix (cAr c0) x = some i ∧ i < (cAr c0).length ∧ r = some q ∧ oAr cs F q ((cAr c0).getD i (0, 0, []))))) := by
  refine zM_of (own := RX10) (by decide) rfl (Nat.le_of_ble_eq_true rfl) ?_
  intro p e s m below meth c hC hr hlk hnm hZ ls hl
  have hx := hC.x
  have hb := hC.b
  have hl : lv_has ls 3 [(0, .ref a), (1, .int (iI x))] := hl
  obtain ⟨la, li, aL, iL, h0, ⟨ra, hla⟩, ⟨ri, hli⟩, has, his⟩ := id hs1
  have haL := has.1
  have hiL := his.1
  have ha10 := oL_10 hla
  have hi10 := oL_10 hli
  refine lv_aload_n hx hb dX10_findArticle_0 rfl (lv_at hl 0 rfl) ?_
  refine lv_iload_n hx hb dX10_findArticle_1 rfl (lv_at hl 1 rfl) ?_
  refine z_calli (z_runV (rest := []) (As := [.int (iI x)]) (n := 1) (ci := 13) hC hZ (met_X10_indexOf l D cs A F a c0 x hs1 (by omega)) gv_X10_63 hd_X10_indexOf rfl h0 rfl hl rfl (Nat.le_of_ble_eq_true rfl) ⟨Nat.le_of_ble_eq_true rfl, Nat.le_of_ble_eq_true rfl⟩ ⟨Nat.le_of_ble_eq_true rfl, Nat.le_of_ble_eq_true rfl⟩ dX10_findArticle_2) hZ (fun r2 F2 H locs hp2_c_1 hZ => ?_)
  obtain ⟨rfl, hp2_c_1⟩ := hp2_c_1
  have hix := hp2_c_1
  refine lv_istore_n (lv' := [(2, .int (iI r2)), (0, .ref a), (1, .int (iI x))]) hx hb dX10_findArticle_5 rfl hl (by decide) rfl (fun ls hl => ?_)
  refine lv_iload_n hx hb dX10_findArticle_6 rfl (lv_at hl 0 rfl) ?_
  refine z_if_lt (tgt := 35) hx hb dX10_findArticle_7 (by decide) (by omega) (fun c_2 => ?_) (fun c_2 => ?_)
  · skip
    have hno : zix (cAr c0) x = none := hix.elim (fun z => z.1) (fun z => absurd z.2.1 (by omega))
    refine lv_null hx hb dX10_findArticle_35 ?_
    exact z_aretq hC hr (Or.inl ⟨_, rfl⟩) hlk hZ none rfl (by decide) (by decide) (⟨rfl, Or.inl ⟨hno, rfl⟩⟩) dX10_findArticle_36
  · skip
    have hyes := hix.elim (fun z => absurd z.2 (by omega)) (fun z => z)
    refine lv_iload_n hx hb dX10_findArticle_10 rfl (lv_at hl 0 rfl) ?_
    refine lv_aload_n hx hb dX10_findArticle_11 rfl (lv_at hl 1 rfl) ?_
    refine z_get (T := TX10) (N := 9) (ci := 13) (k := 0) (fs := [.ref la, .ref li, .int (iI (cNi c0)), .int (iI (cNn c0)), .int (iI (cWi c0)), .int (iI (cCo c0)), .int (iI (cHe c0)), .int (iI (cDa c0)), .int (iI (cLa c0))]) (v := .ref la) hC hZ in_X10 rfl (by decide) ql_X10_12 rfl h0 rfl dX10_findArticle_12 ?_
    obtain ⟨fsho_3, ho_3⟩ := (hla).o
    refine z_calli (z_runV (rest := [.int (iI r2)]) (As := []) (n := 0) (ci := 4) hC hZ (met_Jx4a65c_size_8abf5 l D cs A F la ra aL hla) gv_X10_44 hd_Jx4a65c_size_8abf5 rfl ho_3 rfl hl rfl (Nat.le_of_ble_eq_true rfl) ⟨Nat.le_of_ble_eq_true rfl, Nat.le_of_ble_eq_true rfl⟩ ⟨Nat.le_of_ble_eq_true rfl, Nat.le_of_ble_eq_true rfl⟩ dX10_findArticle_15) hZ (fun r15 F15 H locs hp15_c_4 hZ => ?_)
    obtain ⟨rfl, rfl⟩ := hp15_c_4
    refine z_icmp_ge (tgt := 35) hx hb dX10_findArticle_18 (by decide) (by omega) (by omega) (fun c_5 => ?_) (fun c_5 => ?_)
    · skip
      exfalso; omega
    · skip
      refine lv_aload_n hx hb dX10_findArticle_21 rfl (lv_at hl 1 rfl) ?_
      refine z_get (T := TX10) (N := 9) (ci := 13) (k := 0) (fs := [.ref la, .ref li, .int (iI (cNi c0)), .int (iI (cNn c0)), .int (iI (cWi c0)), .int (iI (cCo c0)), .int (iI (cHe c0)), .int (iI (cDa c0)), .int (iI (cLa c0))]) (v := .ref la) hC hZ in_X10 rfl (by decide) ql_X10_12 rfl h0 rfl dX10_findArticle_22 ?_
      refine lv_iload_n hx hb dX10_findArticle_25 rfl (lv_at hl 0 rfl) ?_
      obtain ⟨fsho_6, ho_6⟩ := (hla).o
      refine z_callr (z_runV (rest := []) (As := [.int (iI r2)]) (n := 1) (ci := 4) hC hZ (met_Jx4a65c_get_915e3 l D cs A F la ra aL r2 hla (by omega)) gv_X10_48 hd_Jx4a65c_get_915e3 rfl ho_6 rfl hl rfl (Nat.le_of_ble_eq_true rfl) ⟨Nat.le_of_ble_eq_true rfl, Nat.le_of_ble_eq_true rfl⟩ ⟨Nat.le_of_ble_eq_true rfl, Nat.le_of_ble_eq_true rfl⟩ dX10_findArticle_26) hZ (fun r26 F26 H locs hp26_c_7 hZ => ?_)
      obtain ⟨rfl, rfl⟩ := hp26_c_7
      have hoa26 := has.2 r2 (by omega) (by omega)
      obtain ⟨wa26, y026, -, hyo26⟩ := id hoa26
      have hyi26 := hyo26.1
      have hyp26 := hyo26.2.1
      refine z_castS (ci := 5) (N := 3) (T := TX1) hC hZ qk_X10_52 y026 rfl dX10_findArticle_29 ?_
      refine lv_goto (tgt := 36) hx hb dX10_findArticle_32 (by decide) ?_
      exact z_aretq hC hr (Or.inl ⟨_, rfl⟩) hlk hZ (some (aL.getD r2.toNat 0)) rfl (by decide) (by decide) (⟨rfl, Or.inr ⟨_, _, hyes.1, by omega, rfl, hoa26⟩⟩) dX10_findArticle_36

set_option maxHeartbeats 4000000 in
set_option maxRecDepth 100000 in
theorem met_X10_findIssue (l : Launch) (D : va_G) (cs : Nat → ClassId) (A : Nat → Prop) (F : zF) (a : Nat) (c0 : zCo) (x : Int)  (hs1 : rSt cs F a c0) (hx0 : InR x) : zM l D cs A yX10_findIssue cX10_findIssue 4 (some (FieldType.object "StoneGazette$Issue")) 4 0 0 [.ref a, .int (iI x)] F (pQ (fun r F1 => F = F1 ∧ ((zfi (cIs c0) x = none ∧ r = none) ∨ ∃ (s1 : zIs) (q : Nat), zfi (cIs c0) x = some s1 ∧ r = some q ∧ oIs cs F q (cDa c0) s1))) := by
  refine zM_of (own := RX10) (by decide) rfl (Nat.le_of_ble_eq_true rfl) ?_
  intro p e s m below meth c hC hr hlk hnm hZ ls hl
  have hx := hC.x
  have hb := hC.b
  have hl : lv_has ls 4 [(0, .ref a), (1, .int (iI x))] := hl
  obtain ⟨la, li, aL, iL, h0, ⟨ra, hla⟩, ⟨ri, hli⟩, has, his⟩ := id hs1
  have haL := has.1
  have hiL := his.1
  have ha10 := oL_10 hla
  have hi10 := oL_10 hli
  refine z_iconst hx hb dX10_findIssue_0 ?_
  refine lv_istore_n (lv' := [(2, .int (iI 0)), (0, .ref a), (1, .int (iI x))]) hx hb dX10_findIssue_1 rfl hl (by decide) rfl (fun ls hl => ?_)
  have L2_k_1 : ∀ (fu : Nat) (k : Int)  (hfu : (((cIs c0).length : Int) - k).toNat < fu) (hi2_0 : 0 ≤ k ∧ k ≤ ((cIs c0).length : Int)) (hi2_1 : ∀ j : Int, 0 ≤ j → j < k → iNo ((cIs c0).getD j.toNat (0, 0, 0, 0, [], 0)) ≠ x) (H : Heap) (locs : List Loc) (hZ : zS D A s F H locs) (ls : Array Slot) (hl : lv_has ls 4 [(2, .int (iI k)), (0, .ref a), (1, .int (iI x))]), W p l e (zR 4 0 0) s m [.ref a, .int (iI x)].toArray below meth c H locs 0 0 (MQ below (zQ D A (pQ (fun r F1 => F = F1 ∧ ((zfi (cIs c0) x = none ∧ r = none) ∨ ∃ (s1 : zIs) (q : Nat), zfi (cIs c0) x = some s1 ∧ r = some q ∧ oIs cs F q (cDa c0) s1)))) [.ref a, .int (iI x)].toArray s 0 0 A) (F0 m 2 ls []) := by
    intro fu
    induction fu with
    | zero =>
      intro k  hfu
      exact absurd hfu (Nat.not_lt_zero _)
    | succ fu ih2 =>
      intro k  hfu hi2_0 hi2_1  H locs hZ ls hl
      refine lv_iload_n hx hb dX10_findIssue_2 rfl (lv_at hl 0 rfl) ?_
      refine lv_aload_n hx hb dX10_findIssue_3 rfl (lv_at hl 1 rfl) ?_
      refine z_get (T := TX10) (N := 9) (ci := 13) (k := 1) (fs := [.ref la, .ref li, .int (iI (cNi c0)), .int (iI (cNn c0)), .int (iI (cWi c0)), .int (iI (cCo c0)), .int (iI (cHe c0)), .int (iI (cDa c0)), .int (iI (cLa c0))]) (v := .ref li) hC hZ in_X10 rfl (by decide) ql_X10_18 rfl h0 rfl dX10_findIssue_4 ?_
      obtain ⟨fsho_2, ho_2⟩ := (hli).o
      refine z_calli (z_runV (rest := [.int (iI k)]) (As := []) (n := 0) (ci := 4) hC hZ (met_Jx4a65c_size_8abf5 l D cs A F li ri iL hli) gv_X10_44 hd_Jx4a65c_size_8abf5 rfl ho_2 rfl hl rfl (Nat.le_of_ble_eq_true rfl) ⟨Nat.le_of_ble_eq_true rfl, Nat.le_of_ble_eq_true rfl⟩ ⟨Nat.le_of_ble_eq_true rfl, Nat.le_of_ble_eq_true rfl⟩ dX10_findIssue_7) hZ (fun r7 F7 H locs hp7_c_3 hZ => ?_)
      obtain ⟨rfl, rfl⟩ := hp7_c_3
      refine z_icmp_ge (tgt := 41) hx hb dX10_findIssue_10 (by decide) (by omega) (by omega) (fun c_4 => ?_) (fun c_4 => ?_)
      · skip
        have hfin : zfi (cIs c0) x = none := zfi_n (fun j j0 j1 => hi2_1 j j0 (by omega))
        refine lv_null hx hb dX10_findIssue_41 ?_
        exact z_aretq hC hr (Or.inl ⟨_, rfl⟩) hlk hZ none rfl (by decide) (by decide) (⟨rfl, Or.inl ⟨hfin, rfl⟩⟩) dX10_findIssue_42
      · skip
        refine lv_aload_n hx hb dX10_findIssue_13 rfl (lv_at hl 1 rfl) ?_
        refine z_get (T := TX10) (N := 9) (ci := 13) (k := 1) (fs := [.ref la, .ref li, .int (iI (cNi c0)), .int (iI (cNn c0)), .int (iI (cWi c0)), .int (iI (cCo c0)), .int (iI (cHe c0)), .int (iI (cDa c0)), .int (iI (cLa c0))]) (v := .ref li) hC hZ in_X10 rfl (by decide) ql_X10_18 rfl h0 rfl dX10_findIssue_14 ?_
        refine lv_iload_n hx hb dX10_findIssue_17 rfl (lv_at hl 0 rfl) ?_
        obtain ⟨fsho_5, ho_5⟩ := (hli).o
        refine z_callr (z_runV (rest := []) (As := [.int (iI k)]) (n := 1) (ci := 4) hC hZ (met_Jx4a65c_get_915e3 l D cs A F li ri iL k hli (by omega)) gv_X10_48 hd_Jx4a65c_get_915e3 rfl ho_5 rfl hl rfl (Nat.le_of_ble_eq_true rfl) ⟨Nat.le_of_ble_eq_true rfl, Nat.le_of_ble_eq_true rfl⟩ ⟨Nat.le_of_ble_eq_true rfl, Nat.le_of_ble_eq_true rfl⟩ dX10_findIssue_18) hZ (fun r18 F18 H locs hp18_c_6 hZ => ?_)
        obtain ⟨rfl, rfl⟩ := hp18_c_6
        have hoi18 := his.2 k (by omega) (by omega)
        obtain ⟨pa18, y018, hop18⟩ := id hoi18
        have hok18 : isOK 1000000 1000000 1000000 ((cIs c0).getD k.toNat (0, 0, 0, 0, [], 0)) := by obtain ⟨_, _, _, _, _, _, _, _, z⟩ := hop18; exact z
        have hno18 := hok18.1
        refine z_castS (ci := 10) (N := 3) (T := TX6) hC hZ qk_X10_58 y018 rfl dX10_findIssue_21 ?_
        refine lv_astore_n (lv' := [(3, .ref (iL.getD k.toNat 0)), (2, .int (iI k)), (0, .ref a), (1, .int (iI x))]) hx hb dX10_findIssue_24 rfl hl (by decide) rfl (fun ls hl => ?_)
        refine lv_aload_n hx hb dX10_findIssue_25 rfl (lv_at hl 0 rfl) ?_
        refine z_getN (T := TX6) (N := 3) (ci := 10) (k := 0) (fs := [.int (iI (iNo ((cIs c0).getD k.toNat (0, 0, 0, 0, [], 0)))), .ref pa18, .float (zfr (cDa c0 - iPr ((cIs c0).getD k.toNat (0, 0, 0, 0, [], 0))).toNat)]) (v := .int (iI (iNo ((cIs c0).getD k.toNat (0, 0, 0, 0, [], 0))))) hC hZ in_X6 rfl (by decide) ql_X10_67 rfl y018 rfl dX10_findIssue_26 ?_
        refine lv_iload_n hx hb dX10_findIssue_29 rfl (lv_at hl 3 rfl) ?_
        refine z_icmp_ne (tgt := 35) hx hb dX10_findIssue_30 (by decide) (by omega) (by omega) (fun c_7 => ?_) (fun c_7 => ?_)
        · skip
          refine z_iinc (lv' := [(2, .int (iI (k + 1))), (3, .ref (iL.getD k.toNat 0)), (0, .ref a), (1, .int (iI x))]) hx hb dX10_findIssue_35 hl (k := 1) rfl (by decide) rfl (fun ls hl => ?_)
          refine lv_goto (tgt := 2) hx hb dX10_findIssue_38 (by decide) ?_
          exact ih2 (k + 1)  (by omega) (by omega) (fun j j0 j1 => by by_cases q : j = k; (rw [q]; assumption); exact hi2_1 j j0 (by omega))  _ _ hZ ls (lv_sub hl [0, 2, 3] rfl)
        · skip
          have hyy := zfi_y (l := cIs c0) (x := x) (k := k) (by omega) (by omega) (by assumption) hi2_1
          refine lv_aload_n hx hb dX10_findIssue_33 rfl (lv_at hl 0 rfl) ?_
          exact z_aretq hC hr (Or.inl ⟨_, rfl⟩) hlk hZ (some (iL.getD k.toNat 0)) rfl (by decide) (by decide) (⟨rfl, Or.inr ⟨_, _, hyy, rfl, hoi18⟩⟩) dX10_findIssue_34
  exact L2_k_1 _ 0  (Nat.lt_succ_self _) (by omega) (fun j j0 j1 => absurd j0 (by omega))  _ _ hZ ls (lv_sub hl [0, 1, 2] rfl)
