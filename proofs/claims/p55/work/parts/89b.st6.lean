theorem gA_app {l : List zAr} {k : Int} {x : zAr} (h0 : 0 ≤ k) (h1 : k < (l.length : Int) + 1) : (l ++ [x]).getD k.toNat (0, 0, []) = if k = l.length then x else l.getD k.toNat (0, 0, []) := by
  rw [List.getD_eq_getElem?_getD, List.getD_eq_getElem?_getD]
  by_cases h : k = l.length
  · rw [if_pos h, List.getElem?_append_right (by omega), show k.toNat - l.length = 0 by omega]
    rfl
  · rw [if_neg h, List.getElem?_append_left (by omega)]
theorem oAs.app {cs : Nat → ClassId} {F : zF} {l : List Nat} {as : List zAr} {q : Nat} {x : zAr} (h : oAs cs F l as) (hq : oAr cs F q x) : oAs cs F (l ++ [q]) (as ++ [x]) := by
  have hl := h.1
  refine ⟨by rw [List.length_append, List.length_append, hl]; rfl, fun k k0 k1 => ?_⟩
  rw [List.length_append, List.length_singleton] at k1
  rw [gD_app k0 (by omega), gA_app k0 (by omega)]
  by_cases c : k = l.length
  · rw [if_pos c, if_pos (by omega)]
    exact hq
  · rw [if_neg c, if_neg (by omega)]
    exact h.2 k k0 (by omega)
theorem arr_ne {cs : Nat → ClassId} {F : zF} {li ri ra1 : Nat} {l : List Nat} (h : oLx cs F li ri l) (hn : F ra1 = none) : ra1 = ri → ra1 = cs 8 := by
  intro e
  obtain ⟨mc, -, h1⟩ := h
  rcases h1 with ⟨h1, -⟩ | ⟨f, h2, -⟩
  · rw [e, h1]
  · rw [← e, hn] at h2; cases h2
set_option maxHeartbeats 4000000 in
set_option maxRecDepth 100000 in
theorem met_X10_takeArticle (l : Launch) (D : va_G) (cs : Nat → ClassId) (A : Nat → Prop) (F : zF) (a la ra li ri : Nat) (c0 : zCo) (x : Int) (wa : Nat) (ws : List zWd)  (hs1 : bSt cs F a la ra li ri c0) (hws : oWs cs F wa ws) (hni : 0 ≤ cNi c0 ∧ cNi c0 < 999999) (hxo : arOK 1000000 (cNi c0, x, ws)) (h6 : (cAr c0).length < 6) : zM l D cs A yX10_takeArticle cX10_takeArticle 4 (some FieldType.int) 8 2 13 [.ref a, .int (iI x), .ref wa] F (pI (fun r F1 => cNi c0 = r ∧ ∃ ra1 : Nat, zko [a, la, ra] F F1 ∧ (ra1 = ra ∨ F ra1 = none) ∧ bSt cs F1 a la ra1 li ri (cAdd c0 x ws))) := by
  refine zM_of (own := RX10) (by decide) rfl (Nat.le_of_ble_eq_true rfl) ?_
  intro p e s m below meth c hC hr hlk hnm hZ ls hl
  have hx := hC.x
  have hb := hC.b
  have hl : lv_has ls 4 [(0, .ref a), (1, .int (iI x)), (2, .ref wa)] := hl
  obtain ⟨aL, iL, h0, hla, hli, has, his, hne1, hne2⟩ := id hs1
  have hO1 : ∀ o, o ∈ [a] → zNi cs F o := fun o ho => by rw [List.mem_singleton.mp ho]; exact zNi.o h0 (by decide)
  have hO2 : ∀ o, o ∈ [a] → ∃ (ci : Nat) (fs : List Value), F o = some (.inr (ci, fs)) ∧ ci ≠ 4 := fun o ho => by rw [List.mem_singleton.mp ho]; exact ⟨13, _, h0, by decide⟩
  have haL := has.1
  have h54 := hC.c54
  have hc8 := z_c8 hC hZ
  obtain ⟨fsa, hoa⟩ := hla.o
  obtain ⟨fsi, hoi⟩ := hli.o
  have hal : a ≠ la := zneK h0 hoa (by show 1000000 + 13 ≠ 1000000 + 4; decide)
  have hra : zNi cs F ra ∧ a ≠ ra ∧ li ≠ ra := by
    obtain ⟨mc9, -, hc9⟩ := id hla
    rcases hc9 with ⟨z, -⟩ | ⟨f9, h9, -⟩
    · rw [z]
      exact ⟨zNi.n hc8, (fun y => by rw [y, hc8] at h0; cases h0), (fun y => by rw [y, hc8] at hoi; cases hoi)⟩
    · exact ⟨zNi.r h9 h54, zne h0 h9 (fun z => by cases z), zne hoi h9 (fun z => by cases z)⟩
  have har := hra.2.1
  refine lv_aload_n hx hb dX10_takeArticle_0 rfl (lv_at hl 0 rfl) ?_
  refine z_get (T := TX10) (N := 9) (ci := 13) (k := 2) (fs := [.ref la, .ref li, .int (iI (cNi c0)), .int (iI (cNn c0)), .int (iI (cWi c0)), .int (iI (cCo c0)), .int (iI (cHe c0)), .int (iI (cDa c0)), .int (iI (cLa c0))]) (v := .int (iI (cNi c0))) hC hZ in_X10 rfl (by decide) ql_X10_21 rfl h0 rfl dX10_takeArticle_1 ?_
  refine lv_istore_n (lv' := [(3, .int (iI (cNi c0))), (0, .ref a), (1, .int (iI x)), (2, .ref wa)]) hx hb dX10_takeArticle_4 rfl hl (by decide) rfl (fun ls hl => ?_)
  refine lv_aload_n hx hb dX10_takeArticle_5 rfl (lv_at hl 1 rfl) ?_
  refine z_get (T := TX10) (N := 9) (ci := 13) (k := 0) (fs := [.ref la, .ref li, .int (iI (cNi c0)), .int (iI (cNn c0)), .int (iI (cWi c0)), .int (iI (cCo c0)), .int (iI (cHe c0)), .int (iI (cDa c0)), .int (iI (cLa c0))]) (v := .ref la) hC hZ in_X10 rfl (by decide) ql_X10_12 rfl h0 rfl dX10_takeArticle_6 ?_
  refine z_new (T := TX1) (N := 3) (ci := 5) hC hZ tyX1 tyX1_ok in_X1 rfl qk_X10_52 qx_X1 qn_X1 [.int (iI 0), .int (iI 0), .null] df_X1 (Nat.le_of_ble_eq_true rfl) (Nat.le_of_ble_eq_true rfl) dX10_takeArticle_9 (fun q9 H hq9 hZ => ?_)
  have hf_1 : (zup F q9 (.inr (5, [.int (iI 0), .int (iI 0), .null]))) a = some (.inr (13, [.ref la, .ref li, .int (iI (cNi c0)), .int (iI (cNn c0)), .int (iI (cWi c0)), .int (iI (cCo c0)), .int (iI (cHe c0)), .int (iI (cDa c0)), .int (iI (cLa c0))])) := zup_k (zF_ne h0 hq9.1) h0
  have hf_2 : (zup F q9 (.inr (5, [.int (iI 0), .int (iI 0), .null]))) q9 = some (.inr (5, [.int (iI 0), .int (iI 0), .null])) := zup_s
  replace hZ : zS D A s (zup F q9 (.inr (5, [.int (iI 0), .int (iI 0), .null]))) _ _ := hZ
  refine lv_dup hx hb dX10_takeArticle_12 rfl ?_
  refine lv_iload_n hx hb dX10_takeArticle_13 rfl (lv_at hl 0 rfl) ?_
  refine lv_iload_n hx hb dX10_takeArticle_14 rfl (lv_at hl 2 rfl) ?_
  refine lv_aload_n hx hb dX10_takeArticle_15 rfl (lv_at hl 3 rfl) ?_
  refine z_callv (z_runI (rest := [.ref q9, .ref la]) (As := [.int (iI (cNi c0)), .int (iI x), .ref wa]) (n := 3) hC hZ (met_X1_init l D cs A (zup F q9 (.inr (5, [.int (iI 0), .int (iI 0), .null]))) q9 (cNi c0) x wa hf_2) qc_X1_init qn_X1 qm_X10_91 qi_X1_init rfl he_X1_init rfl hl rfl (Nat.le_of_ble_eq_true rfl) ⟨Nat.le_of_ble_eq_true rfl, Nat.le_of_ble_eq_true rfl⟩ ⟨Nat.le_of_ble_eq_true rfl, Nat.le_of_ble_eq_true rfl⟩ dX10_takeArticle_16) hZ (fun F16 H locs hp16_c_3 hZ => ?_)
  obtain rfl := hp16_c_3
  rw [zup_up] at hZ
  have hf_4 : (zup F q9 (.inr (5, [.int (iI (cNi c0)), .int (iI x), .ref wa]))) a = some (.inr (13, [.ref la, .ref li, .int (iI (cNi c0)), .int (iI (cNn c0)), .int (iI (cWi c0)), .int (iI (cCo c0)), .int (iI (cHe c0)), .int (iI (cDa c0)), .int (iI (cLa c0))])) := zup_k (zF_ne h0 hq9.1) h0
  have hf_5 : (zup F q9 (.inr (5, [.int (iI (cNi c0)), .int (iI x), .ref wa]))) q9 = some (.inr (5, [.int (iI (cNi c0)), .int (iI x), .ref wa])) := zup_s
  replace hZ : zS D A s (zup F q9 (.inr (5, [.int (iI (cNi c0)), .int (iI x), .ref wa]))) _ _ := hZ
  have hla9 := hla.mono (zle.fresh (e := .inr (5, [.int (iI (cNi c0)), .int (iI x), .ref wa])) hq9.1)
  have hart : oAr cs _ q9 (cNi c0, x, ws) := ⟨wa, hf_5, hws.mono (zle.fresh hq9.1), hxo⟩
  have hqla : q9 ≠ la := Ne.symm (zF_ne hoa hq9.1)
  have hO5 : ∀ o, o ∈ [la, ra] → zNi cs (zup F q9 (.inr (5, [.int (iI (cNi c0)), .int (iI x), .ref wa]))) o := fun o ho => by
    rcases List.mem_cons.mp ho with q | q
    · rw [q]; exact zNi.o (zup_k (Ne.symm hqla) hoa) (by decide)
    · rw [List.mem_singleton.mp q]
      intro e9 he9
      by_cases q9e : ra = q9
      · obtain ⟨mc9, -, hc9⟩ := id hla
        rcases hc9 with ⟨z, -⟩ | ⟨f9, h9, -⟩
        · exact absurd (hZ.2.1 _ _ (by rw [← z]; exact he9)) (hC.ar (List.mem_of_getElem? (i := 0) rfl)).out
        · rw [q9e, hq9.1] at h9; cases h9
      · rw [zup_n q9e] at he9; exact hra.1 e9 he9
  have hlm : li ∉ [la, ra] := zni1 (Ne.symm hne1) (zni1 hra.2.2 zni0)
  have hrm : ∀ f : Int → Option Nat, (zup F q9 (.inr (5, [.int (iI (cNi c0)), .int (iI x), .ref wa]))) ri = some (zO (cs 5) 10 f) → ri ∉ [la, ra] := fun f hf => zni1 (Ne.symm (zne (zup_k (Ne.symm hqla) hoa) hf (fun z => by cases z))) (zni1 (fun q => by rw [hne2 q.symm] at q; rw [q] at hf; exact absurd (hZ.2.1 _ _ hf) (hC.ar (List.mem_of_getElem? (i := 0) rfl)).out) zni0)
  obtain ⟨fsho_6, ho_6⟩ := (hla9).o
  refine z_calli (z_runV (rest := []) (As := [.ref q9]) (n := 1) (ci := 4) hC hZ (met_Jx4a65c_add_9ea2d l D cs A (zup F q9 (.inr (5, [.int (iI (cNi c0)), .int (iI x), .ref wa]))) la ra aL q9 hla9 (by omega) ⟨5, 3, RX1, TX1, _, hf_5, rfl, q_2170⟩ hqla) gv_X10_54 hd_Jx4a65c_add_9ea2d rfl ho_6 rfl hl rfl (Nat.le_of_ble_eq_true rfl) ⟨Nat.le_of_ble_eq_true rfl, Nat.le_of_ble_eq_true rfl⟩ ⟨Nat.le_of_ble_eq_true rfl, Nat.le_of_ble_eq_true rfl⟩ dX10_takeArticle_19) hZ (fun r19 F19 H locs hp19_c_7 hZ => ?_)
  obtain ⟨hr19, ra1, ha19, hk19, hl19⟩ := hp19_c_7
  subst hr19
  have hfa : F19 a = _ := hk19 _ _ hf_4 (zni1 hal (zni1 har zni0))
  have hO6 : ∀ o, o ∈ [a] → zNi cs F19 o := fun o ho => by rw [List.mem_singleton.mp ho]; exact zNi.o hfa (by decide)
  have hO3 : ∀ o, o ∈ [a] → ∃ (ci : Nat) (fs : List Value), F19 o = some (.inr (ci, fs)) ∧ ci ≠ 4 := fun o ho => by rw [List.mem_singleton.mp ho]; exact ⟨13, _, hfa, by decide⟩
  refine lv_pop hx hb dX10_takeArticle_22 rfl ?_
  refine lv_aload_n hx hb dX10_takeArticle_23 rfl (lv_at hl 1 rfl) ?_
  refine lv_dup hx hb dX10_takeArticle_24 rfl ?_
  refine z_get (T := TX10) (N := 9) (ci := 13) (k := 2) (fs := [.ref la, .ref li, .int (iI (cNi c0)), .int (iI (cNn c0)), .int (iI (cWi c0)), .int (iI (cCo c0)), .int (iI (cHe c0)), .int (iI (cDa c0)), .int (iI (cLa c0))]) (v := .int (iI (cNi c0))) hC hZ in_X10 rfl (by decide) ql_X10_21 rfl hfa rfl dX10_takeArticle_25 ?_
  refine z_iconst hx hb dX10_takeArticle_28 ?_
  refine z_iadd hx hb dX10_takeArticle_29 ?_
  refine z_put (T := TX10) (N := 9) (ci := 13) (k := 2) (fs := [.ref la, .ref li, .int (iI (cNi c0)), .int (iI (cNn c0)), .int (iI (cWi c0)), .int (iI (cCo c0)), .int (iI (cHe c0)), .int (iI (cDa c0)), .int (iI (cLa c0))]) (v := .int (iI ((cNi c0) + 1))) hC hZ tyX10 tyX10_ok nmX10 in_X10 rfl (by decide) ql_X10_21 rfl (Or.inl rfl) rfl hfa (by show 2 < 9; decide) rfl rfl dX10_takeArticle_30 (fun H locs hZ => ?_)
  have hf_8 : (zup F19 a (.inr (13, [.ref la, .ref li, .int (iI ((cNi c0) + 1)), .int (iI (cNn c0)), .int (iI (cWi c0)), .int (iI (cCo c0)), .int (iI (cHe c0)), .int (iI (cDa c0)), .int (iI (cLa c0))]))) a = some (.inr (13, [.ref la, .ref li, .int (iI ((cNi c0) + 1)), .int (iI (cNn c0)), .int (iI (cWi c0)), .int (iI (cCo c0)), .int (iI (cHe c0)), .int (iI (cDa c0)), .int (iI (cLa c0))])) := zup_s
  replace hZ : zS D A s (zup F19 a (.inr (13, [.ref la, .ref li, .int (iI ((cNi c0) + 1)), .int (iI (cNn c0)), .int (iI (cWi c0)), .int (iI (cCo c0)), .int (iI (cHe c0)), .int (iI (cDa c0)), .int (iI (cLa c0))]))) _ _ := hZ
  refine lv_iload_n hx hb dX10_takeArticle_33 rfl (lv_at hl 0 rfl) ?_
  exact z_iret hC hr hlk hZ (by decide) (by decide) (⟨rfl, ra1, ((((zko.refl : zko [a, la, ra] F F).new hq9.1).trans (hk19.sub (fun q hq => List.mem_cons_of_mem _ hq))).up (by simp)), ha19.imp_right zup_none, aL ++ [q9], iL, hf_8, hl19.keepB ((zko.refl : zko [a] F19 F19).up (by simp)) hO3, ((hli.mono (zle.fresh hq9.1)).keepC hk19 hlm hrm).keepB ((zko.refl : zko [a] F19 F19).up (by simp)) hO3, ((has.mono (zle.fresh hq9.1)).keepO hk19 hO5 |>.app (hart.keepO hk19 hO5)).keepO ((zko.refl : zko [a] F19 F19).up (by simp)) hO6, ((his.mono (zle.fresh hq9.1)).keepO hk19 hO5).keepO ((zko.refl : zko [a] F19 F19).up (by simp)) hO6, hne1, ha19.elim (fun z => by rw [z]; exact hne2) (fun z => arr_ne hli (zup_none z))⟩) dX10_takeArticle_34
