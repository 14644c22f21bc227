theorem oLx.ne {cs : Nat → ClassId} {F : zF} {a arr q ci : Nat} {fs : List Value} {l : List Nat} (h : oLx cs F a arr l) (hq : F q = some (.inr (ci, fs))) (h8 : F (cs 8) = none) : q ≠ arr := by
  obtain ⟨mc, -, h1⟩ := h
  rcases h1 with ⟨z, -⟩ | ⟨f, h2, -⟩
  · intro c; rw [c, z, h8] at hq; cases hq
  · exact zne hq h2 (fun z => by cases z)
theorem oLx.niR {cs : Nat → ClassId} {F : zF} {a arr : Nat} {l : List Nat} (h : oLx cs F a arr l) (h54 : cs 5 ≠ cs 4) (h8 : F (cs 8) = none) : zNi cs F arr := by
  obtain ⟨mc, -, h1⟩ := h
  rcases h1 with ⟨z, -⟩ | ⟨f, h2, -⟩
  · rw [z]; exact zNi.n h8
  · exact zNi.r h2 h54
theorem takeD {l : List Nat} {k : Int} (h0 : 0 ≤ k) (h1 : k < l.length) : l.take (k + 1).toNat = l.take k.toNat ++ [l.getD k.toNat 0] := by
  have hl : k.toNat < l.length := by omega
  rw [show (k + 1).toNat = k.toNat + 1 by omega, List.take_add_one, List.getD_eq_getElem?_getD, List.getElem?_eq_getElem hl]
  rfl
/-- a list is kept when another list is changed -/
theorem oLx.sep {cs : Nat → ClassId} {F F1 : zF} {li ri a arr : Nat} {l l2 : List Nat} (h : oLx cs F li ri l) (h2 : oLx cs F a arr l2) (hl : li ≠ a) (hr : ri = arr → ri = cs 8) (h8 : F (cs 8) = none) (hk : zko [a, arr] F F1) : oLx cs F1 li ri l := by
  obtain ⟨fi, hi⟩ := h.o
  obtain ⟨fa, ha⟩ := h2.o
  refine h.keepC hk (zni1 hl (zni1 (h2.ne hi h8) zni0)) (fun f hf => zni1 (Ne.symm (zne ha hf (fun z => by cases z))) (zni1 (fun c => ?_) zni0))
  rw [hr c, h8] at hf; cases hf
set_option maxHeartbeats 4000000 in
set_option maxRecDepth 100000 in
theorem met_X10_copied (l : Launch) (D : va_G) (cs : Nat → ClassId) (A : Nat → Prop) (F : zF) (a : Nat) (c0 : zCo)  (hs1 : rSt cs F a c0) (hn1 : (cAr c0).length ≤ 6) (hn2 : (cIs c0).length ≤ 4) : zM l D cs A yX10_copied cX10_copied 3 (some (FieldType.object "StoneGazette$State")) 8 13 115 [.ref a] F (pR (fun r F1 => zle F F1 ∧ ∃ lb rb lj rj : Nat, F r = none ∧ F lb = none ∧ F rb = none ∧ F lj = none ∧ F rj = none ∧ bSt cs F1 r lb rb lj rj c0)) := by
  refine zM_of (own := RX10) (by decide) rfl (Nat.le_of_ble_eq_true rfl) ?_
  intro p e s m below meth c hC hr hlk hnm hZ ls hl
  have hx := hC.x
  have hb := hC.b
  have hl : lv_has ls 3 [(0, .ref a)] := hl
  obtain ⟨la, li, aL, iL, h0, ⟨ra, hla⟩, ⟨ri, hli⟩, has, his⟩ := id hs1
  have haL := has.1
  have hiL := his.1
  have ha10 := oL_10 hla
  have hi10 := oL_10 hli
  have h8 := z_c8 hC hZ
  refine z_new (T := TX10) (N := 9) (ci := 13) hC hZ tyX10 tyX10_ok in_X10 rfl qk_X10_13 qx_X10 qn_X10 [.null, .null, .int (iI 0), .int (iI 0), .int (iI 0), .int (iI 0), .int (iI 0), .int (iI 0), .int (iI 0)] df_X10 (Nat.le_of_ble_eq_true rfl) (Nat.le_of_ble_eq_true rfl) dX10_copied_0 (fun q0 H hq0 hZ => ?_)
  have hf_1 : (zup F q0 (.inr (13, [.null, .null, .int (iI 0), .int (iI 0), .int (iI 0), .int (iI 0), .int (iI 0), .int (iI 0), .int (iI 0)]))) a = some (.inr (13, [.ref la, .ref li, .int (iI (cNi c0)), .int (iI (cNn c0)), .int (iI (cWi c0)), .int (iI (cCo c0)), .int (iI (cHe c0)), .int (iI (cDa c0)), .int (iI (cLa c0))])) := zup_k (zF_ne h0 hq0.1) h0
  have hf_2 : (zup F q0 (.inr (13, [.null, .null, .int (iI 0), .int (iI 0), .int (iI 0), .int (iI 0), .int (iI 0), .int (iI 0), .int (iI 0)]))) q0 = some (.inr (13, [.null, .null, .int (iI 0), .int (iI 0), .int (iI 0), .int (iI 0), .int (iI 0), .int (iI 0), .int (iI 0)])) := zup_s
  replace hZ : zS D A s (zup F q0 (.inr (13, [.null, .null, .int (iI 0), .int (iI 0), .int (iI 0), .int (iI 0), .int (iI 0), .int (iI 0), .int (iI 0)]))) _ _ := hZ
  refine lv_dup hx hb dX10_copied_3 rfl ?_
  refine z_callv (z_runI (rest := [.ref q0]) (As := []) (n := 0) hC hZ (met_X10_init l D cs A (zup F q0 (.inr (13, [.null, .null, .int (iI 0), .int (iI 0), .int (iI 0), .int (iI 0), .int (iI 0), .int (iI 0), .int (iI 0)]))) q0 hf_2) qc_X10_init qn_X10 qm_X10_43 qi_X10_init rfl he_X10_init rfl hl rfl (Nat.le_of_ble_eq_true rfl) ⟨Nat.le_of_ble_eq_true rfl, Nat.le_of_ble_eq_true rfl⟩ ⟨Nat.le_of_ble_eq_true rfl, Nat.le_of_ble_eq_true rfl⟩ dX10_copied_4) hZ (fun F4 H locs hp4_c_3 hZ => ?_)
  obtain ⟨lb, lj, hk4, hb4, hj4, aN, iN, i0, il, ij, iha, ihs, hnl, -⟩ := hp4_c_3
  have hlb : F lb = none := zup_none hb4
  have hlj : F lj = none := zup_none hj4
  have eN : aN = [] := List.length_eq_zero_iff.mp iha.1
  have eI : iN = [] := List.length_eq_zero_iff.mp ihs.1
  subst eN eI
  have i0 : F4 q0 = some (.inr (13, [.ref lb, .ref lj, .int (iI 0), .int (iI 0), .int (iI 12), .int (iI 2), .int (iI 8), .int (iI 0), .int (iI 0)])) := i0
  have hle4 : zle F F4 := (zle.refl (F := F)).kod (((zko.refl : zko [q0] F F).new hq0.1).trans hk4) (fun q hq => by rw [List.mem_singleton.mp hq]; exact hq0.1)
  have haq : a ≠ q0 := zF_ne h0 hq0.1
  refine lv_astore_n (lv' := [(1, .ref q0), (0, .ref a)]) hx hb dX10_copied_7 rfl hl (by decide) rfl (fun ls hl => ?_)
  refine z_iconst hx hb dX10_copied_8 ?_
  refine lv_istore_n (lv' := [(2, .int (iI 0)), (1, .ref q0), (0, .ref a)]) hx hb dX10_copied_9 rfl hl (by decide) rfl (fun ls hl => ?_)
  have L10_k_4 : ∀ (fu : Nat) (k : Int) (F2 : zF) (rb : Nat) (hfu : (((cAr c0).length : Int) - k).toNat < fu) (hi10_0 : 0 ≤ k ∧ k ≤ ((cAr c0).length : Int)) (hi10_1 : zle F F2) (hi10_2 : F2 q0 = some (.inr (13, [.ref lb, .ref lj, .int (iI 0), .int (iI 0), .int (iI 12), .int (iI 2), .int (iI 8), .int (iI 0), .int (iI 0)]))) (hi10_3 : oLx cs F2 lb rb (aL.take k.toNat)) (hi10_4 : oLx cs F2 lj (cs 8) []) (hi10_5 : F rb = none) (H : Heap) (locs : List Loc) (hZ : zS D A s F2 H locs) (ls : Array Slot) (hl : lv_has ls 3 [(2, .int (iI k)), (1, .ref q0), (0, .ref a)]), W p l e (zR 8 13 115) s m [.ref a].toArray below meth c H locs (3 + k.toNat) (15 + 10 * k.toNat) (MQ below (zQ D A (pR (fun r F1 => zle F F1 ∧ ∃ lb rb lj rj : Nat, F r = none ∧ F lb = none ∧ F rb = none ∧ F lj = none ∧ F rj = none ∧ bSt cs F1 r lb rb lj rj c0))) [.ref a].toArray s 13 115 A) (F0 m 10 ls []) := by
    intro fu
    induction fu with
    | zero =>
      intro k F2 rb hfu
      exact absurd hfu (Nat.not_lt_zero _)
    | succ fu ih10 =>
      intro k F2 rb hfu hi10_0 hi10_1 hi10_2 hi10_3 hi10_4 hi10_5  H locs hZ ls hl
      have gla := hla.mono hi10_1
      have gli := hli.mono hi10_1
      have g0 : F2 a = _ := hi10_1 _ _ h0
      have has2 := has.mono hi10_1
      have his2 := his.mono hi10_1
      have h82 := z_c8 hC hZ
      obtain ⟨fbb, hbb⟩ := hi10_3.o
      have hqlb : q0 ≠ lb := zneK hi10_2 hbb (by show 1000000 + 13 ≠ 1000000 + 4; decide)
      have hqrb := hi10_3.ne hi10_2 h82
      have htl : (aL.take k.toNat).length = k.toNat := by rw [List.length_take]; omega
      refine lv_iload_n hx hb dX10_copied_10 rfl (lv_at hl 0 rfl) ?_
      refine lv_aload_n hx hb dX10_copied_11 rfl (lv_at hl 2 rfl) ?_
      refine z_get (T := TX10) (N := 9) (ci := 13) (k := 0) (fs := [.ref la, .ref li, .int (iI (cNi c0)), .int (iI (cNn c0)), .int (iI (cWi c0)), .int (iI (cCo c0)), .int (iI (cHe c0)), .int (iI (cDa c0)), .int (iI (cLa c0))]) (v := .ref la) hC hZ in_X10 rfl (by decide) ql_X10_12 rfl g0 rfl dX10_copied_12 ?_
      obtain ⟨fsho_5, ho_5⟩ := (gla).o
      refine z_calli (z_runV (rest := [.int (iI k)]) (As := []) (n := 0) (ci := 4) hC hZ (met_Jx4a65c_size_8abf5 l D cs A F2 la ra aL gla) gv_X10_44 hd_Jx4a65c_size_8abf5 rfl ho_5 rfl hl rfl (Nat.le_of_ble_eq_true rfl) ⟨Nat.le_of_ble_eq_true rfl, Nat.le_of_ble_eq_true rfl⟩ ⟨(by show _ ≤ 13; omega), (by show _ ≤ 115; omega)⟩ dX10_copied_15) hZ (fun r15 F15 H locs hp15_c_6 hZ => ?_)
      obtain ⟨rfl, rfl⟩ := hp15_c_6
      refine z_icmp_ge (tgt := 46) hx hb dX10_copied_18 (by decide) (by omega) (by omega) (fun c_7 => ?_) (fun c_7 => ?_)
      · skip
        have hA10 : oLx cs F2 lb rb aL := by have e := hi10_3; rw [List.take_of_length_le (by omega)] at e; exact e
        obtain ⟨rb1, F3, erb, eF3⟩ : ∃ (x : Nat) (y : zF), x = rb ∧ y = F2 := ⟨_, _, rfl, rfl⟩
        rw [← erb] at hA10 hi10_5
        rw [← eF3] at hA10 hi10_1 hi10_2 hi10_4 hZ
        have hrb1 := hi10_5
        refine z_iconst hx hb dX10_copied_46 ?_
        refine lv_istore_n (lv' := [(2, .int (iI 0)), (1, .ref q0), (0, .ref a)]) hx hb dX10_copied_47 rfl hl (by decide) rfl (fun ls hl => ?_)
        have L48_k_8 : ∀ (fu : Nat) (k : Int) (F2 : zF) (rj : Nat) (hfu : (((cIs c0).length : Int) - k).toNat < fu) (hi48_0 : 0 ≤ k ∧ k ≤ ((cIs c0).length : Int)) (hi48_1 : zle F F2) (hi48_2 : F2 q0 = some (.inr (13, [.ref lb, .ref lj, .int (iI 0), .int (iI 0), .int (iI 12), .int (iI 2), .int (iI 8), .int (iI 0), .int (iI 0)]))) (hi48_3 : oLx cs F2 lb rb1 aL) (hi48_4 : oLx cs F2 lj rj (iL.take k.toNat)) (hi48_5 : F rj = none) (hi48_6 : rb1 = rj → rb1 = cs 8) (H : Heap) (locs : List Loc) (hZ : zS D A s F2 H locs) (ls : Array Slot) (hl : lv_has ls 3 [(2, .int (iI k)), (1, .ref q0), (0, .ref a)]), W p l e (zR 8 13 115) s m [.ref a].toArray below meth c H locs (9 + k.toNat) (75 + 10 * k.toNat) (MQ below (zQ D A (pR (fun r F1 => zle F F1 ∧ ∃ lb rb lj rj : Nat, F r = none ∧ F lb = none ∧ F rb = none ∧ F lj = none ∧ F rj = none ∧ bSt cs F1 r lb rb lj rj c0))) [.ref a].toArray s 13 115 A) (F0 m 48 ls []) := by
          intro fu
          induction fu with
          | zero =>
            intro k F2 rj hfu
            exact absurd hfu (Nat.not_lt_zero _)
          | succ fu ih48 =>
            intro k F2 rj hfu hi48_0 hi48_1 hi48_2 hi48_3 hi48_4 hi48_5 hi48_6  H locs hZ ls hl
            have gla := hla.mono hi48_1
            have gli := hli.mono hi48_1
            have g0 : F2 a = _ := hi48_1 _ _ h0
            have has2 := has.mono hi48_1
            have his2 := his.mono hi48_1
            have h82 := z_c8 hC hZ
            obtain ⟨fjj, hjj⟩ := hi48_4.o
            have hqlj : q0 ≠ lj := zneK hi48_2 hjj (by show 1000000 + 13 ≠ 1000000 + 4; decide)
            have hqrj := hi48_4.ne hi48_2 h82
            have htl : (iL.take k.toNat).length = k.toNat := by rw [List.length_take]; omega
            refine lv_iload_n hx hb dX10_copied_48 rfl (lv_at hl 0 rfl) ?_
            refine lv_aload_n hx hb dX10_copied_49 rfl (lv_at hl 2 rfl) ?_
            refine z_get (T := TX10) (N := 9) (ci := 13) (k := 1) (fs := [.ref la, .ref li, .int (iI (cNi c0)), .int (iI (cNn c0)), .int (iI (cWi c0)), .int (iI (cCo c0)), .int (iI (cHe c0)), .int (iI (cDa c0)), .int (iI (cLa c0))]) (v := .ref li) hC hZ in_X10 rfl (by decide) ql_X10_18 rfl g0 rfl dX10_copied_50 ?_
            obtain ⟨fsho_9, ho_9⟩ := (gli).o
            refine z_calli (z_runV (rest := [.int (iI k)]) (As := []) (n := 0) (ci := 4) hC hZ (met_Jx4a65c_size_8abf5 l D cs A F2 li ri iL gli) gv_X10_44 hd_Jx4a65c_size_8abf5 rfl ho_9 rfl hl rfl (Nat.le_of_ble_eq_true rfl) ⟨Nat.le_of_ble_eq_true rfl, Nat.le_of_ble_eq_true rfl⟩ ⟨(by show _ ≤ 13; omega), (by show _ ≤ 115; omega)⟩ dX10_copied_53) hZ (fun r53 F53 H locs hp53_c_10 hZ => ?_)
            obtain ⟨rfl, rfl⟩ := hp53_c_10
            refine z_icmp_ge (tgt := 84) hx hb dX10_copied_56 (by decide) (by omega) (by omega) (fun c_11 => ?_) (fun c_11 => ?_)
            · skip
              have hI48 : oLx cs F2 lj rj iL := by have e := hi48_4; rw [List.take_of_length_le (by omega)] at e; exact e
              have hO1 : ∀ o, o ∈ [q0] → zNi cs F2 o := fun o ho => by rw [List.mem_singleton.mp ho]; exact zNi.o hi48_2 (by decide)
              have hO2 : ∀ o, o ∈ [q0] → ∃ (ci : Nat) (fs : List Value), F2 o = some (.inr (ci, fs)) ∧ ci ≠ 4 := fun o ho => by rw [List.mem_singleton.mp ho]; exact ⟨13, _, hi48_2, by decide⟩
              refine lv_aload_n hx hb dX10_copied_84 rfl (lv_at hl 1 rfl) ?_
              refine lv_aload_n hx hb dX10_copied_85 rfl (lv_at hl 2 rfl) ?_
              refine z_get (T := TX10) (N := 9) (ci := 13) (k := 2) (fs := [.ref la, .ref li, .int (iI (cNi c0)), .int (iI (cNn c0)), .int (iI (cWi c0)), .int (iI (cCo c0)), .int (iI (cHe c0)), .int (iI (cDa c0)), .int (iI (cLa c0))]) (v := .int (iI (cNi c0))) hC hZ in_X10 rfl (by decide) ql_X10_21 rfl g0 rfl dX10_copied_86 ?_
              refine z_put (T := TX10) (N := 9) (ci := 13) (k := 2) (fs := [.ref lb, .ref lj, .int (iI 0), .int (iI 0), .int (iI 12), .int (iI 2), .int (iI 8), .int (iI 0), .int (iI 0)]) (v := .int (iI (cNi c0))) hC hZ tyX10 tyX10_ok nmX10 in_X10 rfl (by decide) ql_X10_21 rfl (Or.inl rfl) rfl hi48_2 (by show 2 < 9; decide) rfl rfl dX10_copied_89 (fun H locs hZ => ?_)
              have hf_12 : (zup F2 q0 (.inr (13, [.ref lb, .ref lj, .int (iI (cNi c0)), .int (iI 0), .int (iI 12), .int (iI 2), .int (iI 8), .int (iI 0), .int (iI 0)]))) a = some (.inr (13, [.ref la, .ref li, .int (iI (cNi c0)), .int (iI (cNn c0)), .int (iI (cWi c0)), .int (iI (cCo c0)), .int (iI (cHe c0)), .int (iI (cDa c0)), .int (iI (cLa c0))])) := zup_k haq g0
              have hf_13 : (zup F2 q0 (.inr (13, [.ref lb, .ref lj, .int (iI (cNi c0)), .int (iI 0), .int (iI 12), .int (iI 2), .int (iI 8), .int (iI 0), .int (iI 0)]))) q0 = some (.inr (13, [.ref lb, .ref lj, .int (iI (cNi c0)), .int (iI 0), .int (iI 12), .int (iI 2), .int (iI 8), .int (iI 0), .int (iI 0)])) := zup_s
              replace hZ : zS D A s (zup F2 q0 (.inr (13, [.ref lb, .ref lj, .int (iI (cNi c0)), .int (iI 0), .int (iI 12), .int (iI 2), .int (iI 8), .int (iI 0), .int (iI 0)]))) _ _ := hZ
              refine lv_aload_n hx hb dX10_copied_92 rfl (lv_at hl 1 rfl) ?_
              refine lv_aload_n hx hb dX10_copied_93 rfl (lv_at hl 2 rfl) ?_
              refine z_get (T := TX10) (N := 9) (ci := 13) (k := 3) (fs := [.ref la, .ref li, .int (iI (cNi c0)), .int (iI (cNn c0)), .int (iI (cWi c0)), .int (iI (cCo c0)), .int (iI (cHe c0)), .int (iI (cDa c0)), .int (iI (cLa c0))]) (v := .int (iI (cNn c0))) hC hZ in_X10 rfl (by decide) ql_X10_25 rfl hf_12 rfl dX10_copied_94 ?_
              refine z_put (T := TX10) (N := 9) (ci := 13) (k := 3) (fs := [.ref lb, .ref lj, .int (iI (cNi c0)), .int (iI 0), .int (iI 12), .int (iI 2), .int (iI 8), .int (iI 0), .int (iI 0)]) (v := .int (iI (cNn c0))) hC hZ tyX10 tyX10_ok nmX10 in_X10 rfl (by decide) ql_X10_25 rfl (Or.inl rfl) rfl hf_13 (by show 3 < 9; decide) rfl rfl dX10_copied_97 (fun H locs hZ => ?_)
              rw [zup_up] at hZ
              have hf_14 : (zup F2 q0 (.inr (13, [.ref lb, .ref lj, .int (iI (cNi c0)), .int (iI (cNn c0)), .int (iI 12), .int (iI 2), .int (iI 8), .int (iI 0), .int (iI 0)]))) a = some (.inr (13, [.ref la, .ref li, .int (iI (cNi c0)), .int (iI (cNn c0)), .int (iI (cWi c0)), .int (iI (cCo c0)), .int (iI (cHe c0)), .int (iI (cDa c0)), .int (iI (cLa c0))])) := zup_k haq g0
              have hf_15 : (zup F2 q0 (.inr (13, [.ref lb, .ref lj, .int (iI (cNi c0)), .int (iI (cNn c0)), .int (iI 12), .int (iI 2), .int (iI 8), .int (iI 0), .int (iI 0)]))) q0 = some (.inr (13, [.ref lb, .ref lj, .int (iI (cNi c0)), .int (iI (cNn c0)), .int (iI 12), .int (iI 2), .int (iI 8), .int (iI 0), .int (iI 0)])) := zup_s
              replace hZ : zS D A s (zup F2 q0 (.inr (13, [.ref lb, .ref lj, .int (iI (cNi c0)), .int (iI (cNn c0)), .int (iI 12), .int (iI 2), .int (iI 8), .int (iI 0), .int (iI 0)]))) _ _ := hZ
              refine lv_aload_n hx hb dX10_copied_100 rfl (lv_at hl 1 rfl) ?_
              refine lv_aload_n hx hb dX10_copied_101 rfl (lv_at hl 2 rfl) ?_
              refine z_get (T := TX10) (N := 9) (ci := 13) (k := 4) (fs := [.ref la, .ref li, .int (iI (cNi c0)), .int (iI (cNn c0)), .int (iI (cWi c0)), .int (iI (cCo c0)), .int (iI (cHe c0)), .int (iI (cDa c0)), .int (iI (cLa c0))]) (v := .int (iI (cWi c0))) hC hZ in_X10 rfl (by decide) ql_X10_28 rfl hf_14 rfl dX10_copied_102 ?_
              refine z_put (T := TX10) (N := 9) (ci := 13) (k := 4) (fs := [.ref lb, .ref lj, .int (iI (cNi c0)), .int (iI (cNn c0)), .int (iI 12), .int (iI 2), .int (iI 8), .int (iI 0), .int (iI 0)]) (v := .int (iI (cWi c0))) hC hZ tyX10 tyX10_ok nmX10 in_X10 rfl (by decide) ql_X10_28 rfl (Or.inl rfl) rfl hf_15 (by show 4 < 9; decide) rfl rfl dX10_copied_105 (fun H locs hZ => ?_)
              rw [zup_up] at hZ
              have hf_16 : (zup F2 q0 (.inr (13, [.ref lb, .ref lj, .int (iI (cNi c0)), .int (iI (cNn c0)), .int (iI (cWi c0)), .int (iI 2), .int (iI 8), .int (iI 0), .int (iI 0)]))) a = some (.inr (13, [.ref la, .ref li, .int (iI (cNi c0)), .int (iI (cNn c0)), .int (iI (cWi c0)), .int (iI (cCo c0)), .int (iI (cHe c0)), .int (iI (cDa c0)), .int (iI (cLa c0))])) := zup_k haq g0
              have hf_17 : (zup F2 q0 (.inr (13, [.ref lb, .ref lj, .int (iI (cNi c0)), .int (iI (cNn c0)), .int (iI (cWi c0)), .int (iI 2), .int (iI 8), .int (iI 0), .int (iI 0)]))) q0 = some (.inr (13, [.ref lb, .ref lj, .int (iI (cNi c0)), .int (iI (cNn c0)), .int (iI (cWi c0)), .int (iI 2), .int (iI 8), .int (iI 0), .int (iI 0)])) := zup_s
              replace hZ : zS D A s (zup F2 q0 (.inr (13, [.ref lb, .ref lj, .int (iI (cNi c0)), .int (iI (cNn c0)), .int (iI (cWi c0)), .int (iI 2), .int (iI 8), .int (iI 0), .int (iI 0)]))) _ _ := hZ
              refine lv_aload_n hx hb dX10_copied_108 rfl (lv_at hl 1 rfl) ?_
              refine lv_aload_n hx hb dX10_copied_109 rfl (lv_at hl 2 rfl) ?_
              refine z_get (T := TX10) (N := 9) (ci := 13) (k := 5) (fs := [.ref la, .ref li, .int (iI (cNi c0)), .int (iI (cNn c0)), .int (iI (cWi c0)), .int (iI (cCo c0)), .int (iI (cHe c0)), .int (iI (cDa c0)), .int (iI (cLa c0))]) (v := .int (iI (cCo c0))) hC hZ in_X10 rfl (by decide) ql_X10_31 rfl hf_16 rfl dX10_copied_110 ?_
              refine z_put (T := TX10) (N := 9) (ci := 13) (k := 5) (fs := [.ref lb, .ref lj, .int (iI (cNi c0)), .int (iI (cNn c0)), .int (iI (cWi c0)), .int (iI 2), .int (iI 8), .int (iI 0), .int (iI 0)]) (v := .int (iI (cCo c0))) hC hZ tyX10 tyX10_ok nmX10 in_X10 rfl (by decide) ql_X10_31 rfl (Or.inl rfl) rfl hf_17 (by show 5 < 9; decide) rfl rfl dX10_copied_113 (fun H locs hZ => ?_)
              rw [zup_up] at hZ
              have hf_18 : (zup F2 q0 (.inr (13, [.ref lb, .ref lj, .int (iI (cNi c0)), .int (iI (cNn c0)), .int (iI (cWi c0)), .int (iI (cCo c0)), .int (iI 8), .int (iI 0), .int (iI 0)]))) a = some (.inr (13, [.ref la, .ref li, .int (iI (cNi c0)), .int (iI (cNn c0)), .int (iI (cWi c0)), .int (iI (cCo c0)), .int (iI (cHe c0)), .int (iI (cDa c0)), .int (iI (cLa c0))])) := zup_k haq g0
              have hf_19 : (zup F2 q0 (.inr (13, [.ref lb, .ref lj, .int (iI (cNi c0)), .int (iI (cNn c0)), .int (iI (cWi c0)), .int (iI (cCo c0)), .int (iI 8), .int (iI 0), .int (iI 0)]))) q0 = some (.inr (13, [.ref lb, .ref lj, .int (iI (cNi c0)), .int (iI (cNn c0)), .int (iI (cWi c0)), .int (iI (cCo c0)), .int (iI 8), .int (iI 0), .int (iI 0)])) := zup_s
              replace hZ : zS D A s (zup F2 q0 (.inr (13, [.ref lb, .ref lj, .int (iI (cNi c0)), .int (iI (cNn c0)), .int (iI (cWi c0)), .int (iI (cCo c0)), .int (iI 8), .int (iI 0), .int (iI 0)]))) _ _ := hZ
              refine lv_aload_n hx hb dX10_copied_116 rfl (lv_at hl 1 rfl) ?_
              refine lv_aload_n hx hb dX10_copied_117 rfl (lv_at hl 2 rfl) ?_
              refine z_get (T := TX10) (N := 9) (ci := 13) (k := 6) (fs := [.ref la, .ref li, .int (iI (cNi c0)), .int (iI (cNn c0)), .int (iI (cWi c0)), .int (iI (cCo c0)), .int (iI (cHe c0)), .int (iI (cDa c0)), .int (iI (cLa c0))]) (v := .int (iI (cHe c0))) hC hZ in_X10 rfl (by decide) ql_X10_34 rfl hf_18 rfl dX10_copied_118 ?_
              refine z_put (T := TX10) (N := 9) (ci := 13) (k := 6) (fs := [.ref lb, .ref lj, .int (iI (cNi c0)), .int (iI (cNn c0)), .int (iI (cWi c0)), .int (iI (cCo c0)), .int (iI 8), .int (iI 0), .int (iI 0)]) (v := .int (iI (cHe c0))) hC hZ tyX10 tyX10_ok nmX10 in_X10 rfl (by decide) ql_X10_34 rfl (Or.inl rfl) rfl hf_19 (by show 6 < 9; decide) rfl rfl dX10_copied_121 (fun H locs hZ => ?_)
              rw [zup_up] at hZ
              have hf_20 : (zup F2 q0 (.inr (13, [.ref lb, .ref lj, .int (iI (cNi c0)), .int (iI (cNn c0)), .int (iI (cWi c0)), .int (iI (cCo c0)), .int (iI (cHe c0)), .int (iI 0), .int (iI 0)]))) a = some (.inr (13, [.ref la, .ref li, .int (iI (cNi c0)), .int (iI (cNn c0)), .int (iI (cWi c0)), .int (iI (cCo c0)), .int (iI (cHe c0)), .int (iI (cDa c0)), .int (iI (cLa c0))])) := zup_k haq g0
              have hf_21 : (zup F2 q0 (.inr (13, [.ref lb, .ref lj, .int (iI (cNi c0)), .int (iI (cNn c0)), .int (iI (cWi c0)), .int (iI (cCo c0)), .int (iI (cHe c0)), .int (iI 0), .int (iI 0)]))) q0 = some (.inr (13, [.ref lb, .ref lj, .int (iI (cNi c0)), .int (iI (cNn c0)), .int (iI (cWi c0)), .int (iI (cCo c0)), .int (iI (cHe c0)), .int (iI 0), .int (iI 0)])) := zup_s
              replace hZ : zS D A s (zup F2 q0 (.inr (13, [.ref lb, .ref lj, .int (iI (cNi c0)), .int (iI (cNn c0)), .int (iI (cWi c0)), .int (iI (cCo c0)), .int (iI (cHe c0)), .int (iI 0), .int (iI 0)]))) _ _ := hZ
              refine lv_aload_n hx hb dX10_copied_124 rfl (lv_at hl 1 rfl) ?_
              refine lv_aload_n hx hb dX10_copied_125 rfl (lv_at hl 2 rfl) ?_
              refine z_get (T := TX10) (N := 9) (ci := 13) (k := 7) (fs := [.ref la, .ref li, .int (iI (cNi c0)), .int (iI (cNn c0)), .int (iI (cWi c0)), .int (iI (cCo c0)), .int (iI (cHe c0)), .int (iI (cDa c0)), .int (iI (cLa c0))]) (v := .int (iI (cDa c0))) hC hZ in_X10 rfl (by decide) ql_X10_37 rfl hf_20 rfl dX10_copied_126 ?_
              refine z_put (T := TX10) (N := 9) (ci := 13) (k := 7) (fs := [.ref lb, .ref lj, .int (iI (cNi c0)), .int (iI (cNn c0)), .int (iI (cWi c0)), .int (iI (cCo c0)), .int (iI (cHe c0)), .int (iI 0), .int (iI 0)]) (v := .int (iI (cDa c0))) hC hZ tyX10 tyX10_ok nmX10 in_X10 rfl (by decide) ql_X10_37 rfl (Or.inl rfl) rfl hf_21 (by show 7 < 9; decide) rfl rfl dX10_copied_129 (fun H locs hZ => ?_)
              rw [zup_up] at hZ
              have hf_22 : (zup F2 q0 (.inr (13, [.ref lb, .ref lj, .int (iI (cNi c0)), .int (iI (cNn c0)), .int (iI (cWi c0)), .int (iI (cCo c0)), .int (iI (cHe c0)), .int (iI (cDa c0)), .int (iI 0)]))) a = some (.inr (13, [.ref la, .ref li, .int (iI (cNi c0)), .int (iI (cNn c0)), .int (iI (cWi c0)), .int (iI (cCo c0)), .int (iI (cHe c0)), .int (iI (cDa c0)), .int (iI (cLa c0))])) := zup_k haq g0
              have hf_23 : (zup F2 q0 (.inr (13, [.ref lb, .ref lj, .int (iI (cNi c0)), .int (iI (cNn c0)), .int (iI (cWi c0)), .int (iI (cCo c0)), .int (iI (cHe c0)), .int (iI (cDa c0)), .int (iI 0)]))) q0 = some (.inr (13, [.ref lb, .ref lj, .int (iI (cNi c0)), .int (iI (cNn c0)), .int (iI (cWi c0)), .int (iI (cCo c0)), .int (iI (cHe c0)), .int (iI (cDa c0)), .int (iI 0)])) := zup_s
              replace hZ : zS D A s (zup F2 q0 (.inr (13, [.ref lb, .ref lj, .int (iI (cNi c0)), .int (iI (cNn c0)), .int (iI (cWi c0)), .int (iI (cCo c0)), .int (iI (cHe c0)), .int (iI (cDa c0)), .int (iI 0)]))) _ _ := hZ
              refine lv_aload_n hx hb dX10_copied_132 rfl (lv_at hl 1 rfl) ?_
              refine lv_aload_n hx hb dX10_copied_133 rfl (lv_at hl 2 rfl) ?_
              refine z_get (T := TX10) (N := 9) (ci := 13) (k := 8) (fs := [.ref la, .ref li, .int (iI (cNi c0)), .int (iI (cNn c0)), .int (iI (cWi c0)), .int (iI (cCo c0)), .int (iI (cHe c0)), .int (iI (cDa c0)), .int (iI (cLa c0))]) (v := .int (iI (cLa c0))) hC hZ in_X10 rfl (by decide) ql_X10_40 rfl hf_22 rfl dX10_copied_134 ?_
              refine z_put (T := TX10) (N := 9) (ci := 13) (k := 8) (fs := [.ref lb, .ref lj, .int (iI (cNi c0)), .int (iI (cNn c0)), .int (iI (cWi c0)), .int (iI (cCo c0)), .int (iI (cHe c0)), .int (iI (cDa c0)), .int (iI 0)]) (v := .int (iI (cLa c0))) hC hZ tyX10 tyX10_ok nmX10 in_X10 rfl (by decide) ql_X10_40 rfl (Or.inl rfl) rfl hf_23 (by show 8 < 9; decide) rfl rfl dX10_copied_137 (fun H locs hZ => ?_)
              rw [zup_up] at hZ
              have hf_24 : (zup F2 q0 (.inr (13, [.ref lb, .ref lj, .int (iI (cNi c0)), .int (iI (cNn c0)), .int (iI (cWi c0)), .int (iI (cCo c0)), .int (iI (cHe c0)), .int (iI (cDa c0)), .int (iI (cLa c0))]))) a = some (.inr (13, [.ref la, .ref li, .int (iI (cNi c0)), .int (iI (cNn c0)), .int (iI (cWi c0)), .int (iI (cCo c0)), .int (iI (cHe c0)), .int (iI (cDa c0)), .int (iI (cLa c0))])) := zup_k haq g0
              have hf_25 : (zup F2 q0 (.inr (13, [.ref lb, .ref lj, .int (iI (cNi c0)), .int (iI (cNn c0)), .int (iI (cWi c0)), .int (iI (cCo c0)), .int (iI (cHe c0)), .int (iI (cDa c0)), .int (iI (cLa c0))]))) q0 = some (.inr (13, [.ref lb, .ref lj, .int (iI (cNi c0)), .int (iI (cNn c0)), .int (iI (cWi c0)), .int (iI (cCo c0)), .int (iI (cHe c0)), .int (iI (cDa c0)), .int (iI (cLa c0))])) := zup_s
              replace hZ : zS D A s (zup F2 q0 (.inr (13, [.ref lb, .ref lj, .int (iI (cNi c0)), .int (iI (cNn c0)), .int (iI (cWi c0)), .int (iI (cCo c0)), .int (iI (cHe c0)), .int (iI (cDa c0)), .int (iI (cLa c0))]))) _ _ := hZ
              refine lv_aload_n hx hb dX10_copied_140 rfl (lv_at hl 1 rfl) ?_
              exact z_aret hC hr (Or.inl ⟨_, rfl⟩) hlk hZ (by omega) (by omega) (⟨hi48_1.kod ((zko.refl : zko [q0] F2 F2).up (by simp)) (fun q hq => by rw [List.mem_singleton.mp hq]; exact hq0.1), lb, rb1, lj, rj, hq0.1, hlb, hrb1, hlj, hi48_5, aL, iL, hf_25, hi48_3.keepB ((zko.refl : zko [q0] F2 F2).up (by simp)) hO2, hI48.keepB ((zko.refl : zko [q0] F2 F2).up (by simp)) hO2, (has.mono hi48_1).keepO ((zko.refl : zko [q0] F2 F2).up (by simp)) hO1, (his.mono hi48_1).keepO ((zko.refl : zko [q0] F2 F2).up (by simp)) hO1, hnl, hi48_6⟩) dX10_copied_141
            · skip
              refine lv_aload_n hx hb dX10_copied_59 rfl (lv_at hl 1 rfl) ?_
              refine z_get (T := TX10) (N := 9) (ci := 13) (k := 1) (fs := [.ref lb, .ref lj, .int (iI 0), .int (iI 0), .int (iI 12), .int (iI 2), .int (iI 8), .int (iI 0), .int (iI 0)]) (v := .ref lj) hC hZ in_X10 rfl (by decide) ql_X10_18 rfl hi48_2 rfl dX10_copied_60 ?_
              refine lv_aload_n hx hb dX10_copied_63 rfl (lv_at hl 2 rfl) ?_
              refine z_get (T := TX10) (N := 9) (ci := 13) (k := 1) (fs := [.ref la, .ref li, .int (iI (cNi c0)), .int (iI (cNn c0)), .int (iI (cWi c0)), .int (iI (cCo c0)), .int (iI (cHe c0)), .int (iI (cDa c0)), .int (iI (cLa c0))]) (v := .ref li) hC hZ in_X10 rfl (by decide) ql_X10_18 rfl g0 rfl dX10_copied_64 ?_
              refine lv_iload_n hx hb dX10_copied_67 rfl (lv_at hl 0 rfl) ?_
              obtain ⟨fsho_26, ho_26⟩ := (gli).o
              refine z_callr (z_runV (rest := [.ref lj]) (As := [.int (iI k)]) (n := 1) (ci := 4) hC hZ (met_Jx4a65c_get_915e3 l D cs A F2 li ri iL k gli (by omega)) gv_X10_48 hd_Jx4a65c_get_915e3 rfl ho_26 rfl hl rfl (Nat.le_of_ble_eq_true rfl) ⟨Nat.le_of_ble_eq_true rfl, Nat.le_of_ble_eq_true rfl⟩ ⟨(by show _ ≤ 13; omega), (by show _ ≤ 115; omega)⟩ dX10_copied_68) hZ (fun r68 F68 H locs hp68_c_27 hZ => ?_)
              obtain ⟨rfl, rfl⟩ := hp68_c_27
              have hoi68 := his2.2 k (by omega) (by omega)
              obtain ⟨pa68, y068, hop68⟩ := id hoi68
              refine z_castS (ci := 10) (N := 3) (T := TX6) hC hZ qk_X10_58 y068 rfl dX10_copied_71 ?_
              obtain ⟨fsho_28, ho_28⟩ := (hi48_4).o
              refine z_calli (z_runV (rest := []) (As := [.ref (iL.getD k.toNat 0)]) (n := 1) (ci := 4) hC hZ (met_Jx4a65c_add_9ea2d l D cs A F2 lj rj (iL.take k.toNat) (iL.getD k.toNat 0) hi48_4 (by omega) ⟨10, 3, RX6, TX6, _, y068, rfl, q_2177⟩ (zneK y068 hjj (by show 1000000 + 10 ≠ 1000000 + 4; decide))) gv_X10_54 hd_Jx4a65c_add_9ea2d rfl ho_28 rfl hl rfl (Nat.le_of_ble_eq_true rfl) ⟨Nat.le_of_ble_eq_true rfl, Nat.le_of_ble_eq_true rfl⟩ ⟨(by show _ ≤ 13; omega), (by show _ ≤ 115; omega)⟩ dX10_copied_74) hZ (fun r74 F74 H locs hp74_c_29 hZ => ?_)
              obtain ⟨hr74, rj1, ha74, hk74, hl74⟩ := hp74_c_29
              subst hr74
              have hle74 : zle F F74 := hi48_1.kod hk74 (fun q hq => (List.mem_cons.mp hq).elim (fun z => by rw [z]; exact hlj) (fun z => by rw [List.mem_singleton.mp z]; exact hi48_5))
              have hq74 : F74 q0 = _ := hk74 _ _ hi48_2 (zni1 hqlj (zni1 hqrj zni0))
              have hb74 := hi48_3.sep hi48_4 hnl hi48_6 h82 hk74
              have hn74 : F rj1 = none := ha74.elim (fun z => by rw [z]; exact hi48_5) (fun z => hi48_1.nn z)
              have hs74 : rb1 = rj1 → rb1 = cs 8 := ha74.elim (fun z => by rw [z]; exact hi48_6) (fun z c => (arr_ne hi48_3 z c.symm) ▸ c)
              refine lv_pop hx hb dX10_copied_77 rfl ?_
              refine z_iinc (lv' := [(2, .int (iI (k + 1))), (1, .ref q0), (0, .ref a)]) hx hb dX10_copied_78 hl (k := 0) rfl (by decide) rfl (fun ls hl => ?_)
              refine lv_goto (tgt := 48) hx hb dX10_copied_81 (by decide) ?_
              refine W.widen (k := (9 + (k + 1).toNat)) (n := (75 + 10 * (k + 1).toNat)) (by omega) (by omega) ?_
              exact ih48 (k + 1) F74 rj1 (by omega) (by omega) hle74 hq74 hb74 (by rw [takeD (by omega) (by omega)]; exact hl74) hn74 hs74  _ _ hZ ls (lv_sub hl [0, 1, 2] rfl)
        refine W.widen (k := (9 + (0 : Int).toNat)) (n := (75 + 10 * (0 : Int).toNat)) (by omega) (by omega) ?_
        exact L48_k_8 _ (0 : Int) F3 (cs 8) (Nat.lt_succ_self _) (by omega) hi10_1 hi10_2 hA10 hi10_4 h8 (fun c => c)  _ _ hZ ls (lv_sub hl [0, 1, 2] rfl)
      · skip
        refine lv_aload_n hx hb dX10_copied_21 rfl (lv_at hl 1 rfl) ?_
        refine z_get (T := TX10) (N := 9) (ci := 13) (k := 0) (fs := [.ref lb, .ref lj, .int (iI 0), .int (iI 0), .int (iI 12), .int (iI 2), .int (iI 8), .int (iI 0), .int (iI 0)]) (v := .ref lb) hC hZ in_X10 rfl (by decide) ql_X10_12 rfl hi10_2 rfl dX10_copied_22 ?_
        refine lv_aload_n hx hb dX10_copied_25 rfl (lv_at hl 2 rfl) ?_
        refine z_get (T := TX10) (N := 9) (ci := 13) (k := 0) (fs := [.ref la, .ref li, .int (iI (cNi c0)), .int (iI (cNn c0)), .int (iI (cWi c0)), .int (iI (cCo c0)), .int (iI (cHe c0)), .int (iI (cDa c0)), .int (iI (cLa c0))]) (v := .ref la) hC hZ in_X10 rfl (by decide) ql_X10_12 rfl g0 rfl dX10_copied_26 ?_
        refine lv_iload_n hx hb dX10_copied_29 rfl (lv_at hl 0 rfl) ?_
        obtain ⟨fsho_30, ho_30⟩ := (gla).o
        refine z_callr (z_runV (rest := [.ref lb]) (As := [.int (iI k)]) (n := 1) (ci := 4) hC hZ (met_Jx4a65c_get_915e3 l D cs A F2 la ra aL k gla (by omega)) gv_X10_48 hd_Jx4a65c_get_915e3 rfl ho_30 rfl hl rfl (Nat.le_of_ble_eq_true rfl) ⟨Nat.le_of_ble_eq_true rfl, Nat.le_of_ble_eq_true rfl⟩ ⟨(by show _ ≤ 13; omega), (by show _ ≤ 115; omega)⟩ dX10_copied_30) hZ (fun r30 F30 H locs hp30_c_31 hZ => ?_)
        obtain ⟨rfl, rfl⟩ := hp30_c_31
        have hoa30 := has2.2 k (by omega) (by omega)
        obtain ⟨wa30, y030, -, hyo30⟩ := id hoa30
        refine z_castS (ci := 5) (N := 3) (T := TX1) hC hZ qk_X10_52 y030 rfl dX10_copied_33 ?_
        obtain ⟨fsho_32, ho_32⟩ := (hi10_3).o
        refine z_calli (z_runV (rest := []) (As := [.ref (aL.getD k.toNat 0)]) (n := 1) (ci := 4) hC hZ (met_Jx4a65c_add_9ea2d l D cs A F2 lb rb (aL.take k.toNat) (aL.getD k.toNat 0) hi10_3 (by omega) ⟨5, 3, RX1, TX1, _, y030, rfl, q_2170⟩ (zneK y030 hbb (by show 1000000 + 5 ≠ 1000000 + 4; decide))) gv_X10_54 hd_Jx4a65c_add_9ea2d rfl ho_32 rfl hl rfl (Nat.le_of_ble_eq_true rfl) ⟨Nat.le_of_ble_eq_true rfl, Nat.le_of_ble_eq_true rfl⟩ ⟨(by show _ ≤ 13; omega), (by show _ ≤ 115; omega)⟩ dX10_copied_36) hZ (fun r36 F36 H locs hp36_c_33 hZ => ?_)
        obtain ⟨hr36, ra1, ha36, hk36, hl36⟩ := hp36_c_33
        subst hr36
        have hle36 : zle F F36 := hi10_1.kod hk36 (fun q hq => (List.mem_cons.mp hq).elim (fun z => by rw [z]; exact hlb) (fun z => by rw [List.mem_singleton.mp z]; exact hi10_5))
        have hq36 : F36 q0 = _ := hk36 _ _ hi10_2 (zni1 hqlb (zni1 hqrb zni0))
        have hj36 := hi10_4.sep hi10_3 (Ne.symm hnl) (fun _ => rfl) h82 hk36
        have hn36 : F ra1 = none := ha36.elim (fun z => by rw [z]; exact hi10_5) (fun z => hi10_1.nn z)
        refine lv_pop hx hb dX10_copied_39 rfl ?_
        refine z_iinc (lv' := [(2, .int (iI (k + 1))), (1, .ref q0), (0, .ref a)]) hx hb dX10_copied_40 hl (k := 0) rfl (by decide) rfl (fun ls hl => ?_)
        refine lv_goto (tgt := 10) hx hb dX10_copied_43 (by decide) ?_
        refine W.widen (k := (3 + (k + 1).toNat)) (n := (15 + 10 * (k + 1).toNat)) (by omega) (by omega) ?_
        exact ih10 (k + 1) F36 ra1 (by omega) (by omega) hle36 hq36 (by rw [takeD (by omega) (by omega)]; exact hl36) hj36 hn36  _ _ hZ ls (lv_sub hl [0, 1, 2] rfl)
  refine W.widen (k := (3 + (0 : Int).toNat)) (n := (15 + 10 * (0 : Int).toNat)) (by omega) (by omega) ?_
  exact L10_k_4 _ (0 : Int) F4 (cs 8) (Nat.lt_succ_self _) (by omega) hle4 i0 il ij h8  _ _ hZ ls (lv_sub hl [0, 1, 2] rfl)
