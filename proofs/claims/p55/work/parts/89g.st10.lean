/-- no cell of a state's own: neither a state nor a list nor a row of references -/
def zSk (e : va_E) : Prop := match e with
  | .inr y => y.1 = 13 ∨ y.1 = 4
  | .inl (_, _, .inl _) => False
  | .inl (_, _, .inr _) => True
def zNs (F : zF) (o : Nat) : Prop := ∀ e : va_E, F o = some e → ¬ zSk e
theorem zNs.o {F : zF} {o ci : Nat} {fs : List Value} (h : F o = some (.inr (ci, fs))) (hc : ¬ (ci = 13 ∨ ci = 4)) : zNs F o := fun e he => by
  rw [h] at he; cases he; exact hc
theorem zNs.i {F : zF} {o n : Nat} {c : ClassId} {f : Int → Int} (h : F o = some (zA c n f)) : zNs F o := fun e he => by
  rw [h] at he; cases he; exact fun z => z
theorem zNs.n {F : zF} {o : Nat} (h : F o = none) : zNs F o := fun e he => by rw [h] at he; cases he
theorem zko.sk {O : List Nat} {F F1 : zF} {q : Nat} {e : va_E} (hk : zko O F F1) (hO : ∀ o, o ∈ O → zNs F o) (h : F q = some e) (hs : zSk e) : F1 q = some e := hk q e h (fun c => hO q c e h hs)
theorem oLx.keepN {cs : Nat → ClassId} {F F1 : zF} {a arr : Nat} {l O : List Nat} (h : oLx cs F a arr l) (hk : zko O F F1) (hO : ∀ o, o ∈ O → zNs F o) : oLx cs F1 a arr l := by
  obtain ⟨mc, h1, h2⟩ := h
  refine ⟨mc, hk.sk hO h1 (Or.inr rfl), ?_⟩
  rcases h2 with h2 | ⟨f, h3, h4⟩
  · exact Or.inl h2
  · exact Or.inr ⟨f, hk.sk hO h3 True.intro, h4⟩
theorem zko.tr {O O1 : List Nat} {F F1 F2 : zF} (h : zko O F F1) (h1 : zko O1 F1 F2) (hn : ∀ q, q ∈ O1 → q ∈ O ∨ F q = none) : zko O F F2 := fun q e hq hO => h1 q e (h q e hq hO) (fun c => (hn q c).elim hO (fun z => by rw [z] at hq; cases hq))
theorem rLs.keep {cs : Nat → ClassId} {F F1 : zF} {a sg en : Nat} {wd : Int} {st : zLn} {O : List Nat} (h : rLs cs F a sg en wd st) (hk : zko O F F1) (ha : a ∉ O) (hs : sg ∉ O) (he : en ∉ O) : rLs cs F1 a sg en wd st := by
  obtain ⟨f, e, h1, h2, h3, h4⟩ := h
  exact ⟨f, e, hk _ _ h1 ha, hk _ _ h2 hs, hk _ _ h3 he, h4⟩
theorem bPg.keep {cs : Nat → ClassId} {F F1 : zF} {a ia la : Nat} {co he us : Int} {tk : List (Int × Int)} {O : List Nat} (h : bPg cs F a ia la co he tk us) (hk : zko O F F1) (ha : a ∉ O) (hi : ia ∉ O) (hl : la ∉ O) : bPg cs F1 a ia la co he tk us := by
  obtain ⟨f, g, h1, h2, h3, h4⟩ := h
  exact ⟨f, g, hk _ _ h1 ha, hk _ _ h2 hi, hk _ _ h3 hl, h4⟩
/-- a page and the line setter lie apart -/
theorem pg_ls {cs : Nat → ClassId} {F : zF} {a ia la b sg en : Nat} {co he us wd : Int} {tk : List (Int × Int)} {st : zLn} (h : bPg cs F a ia la co he tk us) (h1 : rLs cs F b sg en wd st) : (b ∉ [a, ia, la] ∧ sg ∉ [a, ia, la] ∧ en ∉ [a, ia, la]) ∧ a ∉ [b, sg, en] ∧ ia ∉ [b, sg, en] ∧ la ∉ [b, sg, en] := by
  obtain ⟨f, g, p1, p2, p3, -⟩ := h
  obtain ⟨f2, e2, s1, s2, s3, -⟩ := h1
  have x1 : b ≠ a := zneK s1 p1 (by show 1000000 + 11 ≠ 1000000 + 12; decide)
  have x2 : b ≠ ia := zne s1 p2 (fun z => by cases z)
  have x3 : b ≠ la := zne s1 p3 (fun z => by cases z)
  have y1 : sg ≠ a := zne s2 p1 (fun z => by cases z)
  have y2 : sg ≠ ia := zneL s2 p2 (by decide)
  have y3 : sg ≠ la := zneL s2 p3 (by decide)
  have w1 : en ≠ a := zne s3 p1 (fun z => by cases z)
  have w2 : en ≠ ia := zneL s3 p2 (by decide)
  have w3 : en ≠ la := zneL s3 p3 (by decide)
  exact ⟨⟨zni1 x1 (zni1 x2 (zni1 x3 zni0)), zni1 y1 (zni1 y2 (zni1 y3 zni0)), zni1 w1 (zni1 w2 (zni1 w3 zni0))⟩, zni1 (Ne.symm x1) (zni1 (Ne.symm y1) (zni1 (Ne.symm w1) zni0)), zni1 (Ne.symm x2) (zni1 (Ne.symm y2) (zni1 (Ne.symm w2) zni0)), zni1 (Ne.symm x3) (zni1 (Ne.symm y3) (zni1 (Ne.symm w3) zni0))⟩
theorem rLs.ni {cs : Nat → ClassId} {F : zF} {a sg en : Nat} {wd : Int} {st : zLn} (h : rLs cs F a sg en wd st) : (∀ o, o ∈ [a, sg, en] → zNi cs F o) ∧ ∀ o, o ∈ [a, sg, en] → zNs F o := by
  obtain ⟨f, e, h1, h2, h3, -⟩ := h
  refine ⟨fun o ho => ?_, fun o ho => ?_⟩
  · rcases List.mem_cons.mp ho with q | ho
    · rw [q]; exact zNi.o h1 (by decide)
    · rcases List.mem_cons.mp ho with q | ho
      · rw [q]; exact zNi.i h2 (by decide)
      · rw [List.mem_singleton.mp ho]; exact zNi.i h3 (by decide)
  · rcases List.mem_cons.mp ho with q | ho
    · rw [q]; exact zNs.o h1 (by decide)
    · rcases List.mem_cons.mp ho with q | ho
      · rw [q]; exact zNs.i h2
      · rw [List.mem_singleton.mp ho]; exact zNs.i h3
theorem rLs.offL {cs : Nat → ClassId} {F : zF} {a sg en li ri : Nat} {wd : Int} {st : zLn} {l : List Nat} (h : rLs cs F a sg en wd st) (hl : oLx cs F li ri l) (h8 : F (cs 8) = none) : a ∉ [li, ri] ∧ sg ∉ [li, ri] ∧ en ∉ [li, ri] := by
  obtain ⟨f, e, h1, h2, h3, -⟩ := h
  obtain ⟨fl, hlo⟩ := hl.o
  have key : ∀ {q : Nat} {c : ClassId} {n : Nat} {g : Int → Int}, F q = some (zA c n g) → q ≠ ri := fun {q c n g} hq => by
    obtain ⟨mc, -, z⟩ := hl
    rcases z with ⟨z, -⟩ | ⟨f9, z, -⟩
    · intro y; rw [y, z, h8] at hq; cases hq
    · exact Ne.symm (zneR z hq)
  exact ⟨zni1 (zneK h1 hlo (by show 1000000 + 11 ≠ 1000000 + 4; decide)) (zni1 (hl.ne h1 h8) zni0), zni1 (zne h2 hlo (fun z => by cases z)) (zni1 (key h2) zni0), zni1 (zne h3 hlo (fun z => by cases z)) (zni1 (key h3) zni0)⟩
theorem zko.nnk {O : List Nat} {F F1 : zF} {q : Nat} (h : zko O F F1) (hO : ∀ o, o ∈ O → F1 o ≠ none) (hn : F1 q = none) : F q = none := by
  cases hF : F q with
  | none => rfl
  | some e =>
    by_cases c : q ∈ O
    · exact absurd hn (hO q c)
    · rw [h q e hF c] at hn; cases hn
theorem rLs.some {cs : Nat → ClassId} {F : zF} {a sg en : Nat} {wd : Int} {st : zLn} (h : rLs cs F a sg en wd st) : ∀ o, o ∈ [a, sg, en] → F o ≠ none := fun o ho => by
  obtain ⟨f, e, h1, h2, h3, -⟩ := h
  rcases List.mem_cons.mp ho with z | ho
  · rw [z, h1]; exact fun z => by cases z
  · rcases List.mem_cons.mp ho with z | ho
    · rw [z, h2]; exact fun z => by cases z
    · rw [List.mem_singleton.mp ho, h3]; exact fun z => by cases z
theorem gI_app {l : List zIs} {k : Int} {x : zIs} (h0 : 0 ≤ k) (h1 : k < (l.length : Int) + 1) : (l ++ [x]).getD k.toNat (0, 0, 0, 0, [], 0) = if k = l.length then x else l.getD k.toNat (0, 0, 0, 0, [], 0) := by
  rw [List.getD_eq_getElem?_getD, List.getD_eq_getElem?_getD]
  by_cases h : k = l.length
  · rw [if_pos h, List.getElem?_append_right (by omega), show k.toNat - l.length = 0 by omega]
    rfl
  · rw [if_neg h, List.getElem?_append_left (by omega)]
theorem oSs.app {cs : Nat → ClassId} {F : zF} {l : List Nat} {da : Int} {as : List zIs} {q : Nat} {x : zIs} (h : oSs cs F l da as) (hq : oIs cs F q da x) : oSs cs F (l ++ [q]) da (as ++ [x]) := by
  have hl := h.1
  refine ⟨by rw [List.length_append, List.length_append, hl]; rfl, fun k k0 k1 => ?_⟩
  rw [List.length_append, List.length_singleton] at k1
  rw [gD_app k0 (by omega), gI_app k0 (by omega)]
  by_cases c : k = l.length
  · rw [if_pos c, if_pos (by omega)]
    exact hq
  · rw [if_neg c, if_neg (by omega)]
    exact h.2 k k0 (by omega)
theorem gI_era {l : List zIs} {i k : Int} (hi : 0 ≤ i ∧ i < l.length) (h0 : 0 ≤ k) : (l.eraseIdx i.toNat).getD k.toNat (0, 0, 0, 0, [], 0) = if k < i then l.getD k.toNat (0, 0, 0, 0, [], 0) else l.getD (k + 1).toNat (0, 0, 0, 0, [], 0) := by
  rw [List.getD_eq_getElem?_getD, List.getElem?_eraseIdx]
  by_cases h : k < i
  · rw [if_pos (by omega), if_pos h, List.getD_eq_getElem?_getD]
  · rw [if_neg (by omega), if_neg h, List.getD_eq_getElem?_getD, show (k + 1).toNat = k.toNat + 1 by omega]
theorem oSs.era {cs : Nat → ClassId} {F : zF} {l : List Nat} {da : Int} {as : List zIs} {i : Int} (h : oSs cs F l da as) (hi : 0 ≤ i ∧ i < as.length) : oSs cs F (l.eraseIdx i.toNat) da (as.eraseIdx i.toNat) := by
  have hl := h.1
  refine ⟨by rw [List.length_eraseIdx, List.length_eraseIdx, hl], fun k k0 k1 => ?_⟩
  have h1 : (((as.eraseIdx i.toNat).length : Nat) : Int) = (as.length : Int) - 1 := by
    rw [List.length_eraseIdx, if_pos (by omega)]
    omega
  rw [gD_era (by omega) k0, gI_era hi k0]
  by_cases q : k < i
  · rw [if_pos q, if_pos q]; exact h.2 k k0 (by omega)
  · rw [if_neg q, if_neg q]; exact h.2 (k + 1) (by omega) (by omega)
theorem oSs.el {cs : Nat → ClassId} {F : zF} {l : List Nat} {da : Int} {as : List zIs} (h : oSs cs F l da as) : ∀ k : Int, 0 ≤ k → k < l.length → zEl F (l.getD k.toNat 0) := fun k k0 k1 => by
  obtain ⟨wa, y0, -⟩ := h.2 k k0 (by rw [← h.1]; exact k1)
  exact ⟨10, 3, RX6, TX6, _, y0, rfl, q_2177⟩
theorem dropI_4 {l : List zIs} {x : zIs} (h : l.length = 4) : (l ++ [x]).eraseIdx (0 : Int).toNat = dropI l ++ [x] := by
  unfold dropI
  rw [if_pos h]
  cases l with
  | nil => cases h
  | cons a t => rfl
theorem dropI_n {l : List zIs} (h : l.length ≠ 4) : dropI l = l := if_neg h
theorem zfill_none {c : zCo} {k : Nat} (h : zrk (cAr c) k = none) : zfill c (k + 1) = zfill c k := by
  show zplc c (zfill c k) (zrk (cAr c) k) = _
  rw [h]
  rfl
theorem isOK_mil {N : Nat} {c : zCo} (hK : cOK N c) (hN : N ≤ 1001) : isOK 1000000 1000000 1000000 (zissue c) := by
  have h := cOK_prt hK (N + 1) (by omega) (by have := hK.2.2.2.2.2.2.2.1.2; omega)
  have h5 := h.2.2.2.2.1 (zissue c) (List.mem_append_right _ (List.mem_singleton.mpr rfl))
  have e1 : cNi (cPrt c) = cNi c := rfl
  have e2 : cNn (cPrt c) = cNn c + 1 := rfl
  have e3 : cDa (cPrt c) = cDa c := rfl
  rw [e1, e2, e3] at h5
  obtain ⟨n1, n2⟩ := hK.2.2.2.2.2.2.1
  obtain ⟨m1, m2⟩ := hK.2.2.2.2.2.2.2.1
  obtain ⟨d1, d2⟩ := hK.2.2.2.2.2.2.2.2.2.2.2.1
  exact isOK_da (isOK_nn (isOK_ni h5 (by omega)) (by omega)) (by omega)
set_option maxHeartbeats 4000000 in
set_option maxRecDepth 100000 in
theorem met_X10_printIssue (l : Launch) (D : va_G) (cs : Nat → ClassId) (A : Nat → Prop) (F : zF) (a la ra li ri : Nat) (c0 : zCo) (sa sg en : Nat) (wd : Int) (st : zLn) (N : Nat)  (hs1 : bSt cs F a la ra li ri c0) (hs2 : rLs cs F sa sg en wd st) (hK : cOK N c0) (hN : N ≤ 1001) : zM l D cs A yX10_printIssue cX10_printIssue 5 (some FieldType.boolean) 8 5 31 [.ref a, .ref sa] F (pI (fun r F1 => ((cAr c0).length = 0 ∧ r = 0 ∧ F = F1) ∨ (¬ (cAr c0).length = 0 ∧ r = 1 ∧ ∃ (ri1 : Nat) (wd2 : Int) (st2 : zLn), zko [a, li, ri, sa, sg, en] F F1 ∧ (ri1 = ri ∨ F ri1 = none) ∧ rLs cs F1 sa sg en wd2 st2 ∧ bSt cs F1 a la ra li ri1 (cPrt c0)))) := by
  refine zM_of (own := RX10) (by decide) rfl (Nat.le_of_ble_eq_true rfl) ?_
  intro p e s m below meth c hC hr hlk hnm hZ ls hl
  have hx := hC.x
  have hb := hC.b
  have hl : lv_has ls 5 [(0, .ref a), (1, .ref sa)] := hl
  obtain ⟨aL, iL, h0, hla, hli, has, his, hne1, hne2⟩ := id hs1
  have hO1 : ∀ o, o ∈ [a] → zNi cs F o := fun o ho => by rw [List.mem_singleton.mp ho]; exact zNi.o h0 (by decide)
  have hO2 : ∀ o, o ∈ [a] → ∃ (ci : Nat) (fs : List Value), F o = some (.inr (ci, fs)) ∧ ci ≠ 4 := fun o ho => by rw [List.mem_singleton.mp ho]; exact ⟨13, _, h0, by decide⟩
  have haL := has.1
  have hiL := his.1
  have ha10 := oL_10 hla
  have hi10 := oL_10 hli
  have h54 := hC.c54
  have h8 := z_c8 hC hZ
  have hk6 := hK.1
  have hk4 := hK.2.1
  have hkw := hK.2.2.2.2.2.2.2.2.1
  have hkc := hK.2.2.2.2.2.2.2.2.2.1
  have hkh := hK.2.2.2.2.2.2.2.2.2.2.1
  have hkn := hK.2.2.2.2.2.2.2.1
  obtain ⟨fsa, hoa⟩ := hla.o
  obtain ⟨fsi, hoi⟩ := hli.o
  have hali : a ≠ li := zneK h0 hoi (by show 1000000 + 13 ≠ 1000000 + 4; decide)
  have hOs := hs2.ni
  obtain ⟨fS, eS, hS1, hS2, hS3, -⟩ := id hs2
  have hasa2 : a ≠ sa := zneK h0 hS1 (by show 1000000 + 13 ≠ 1000000 + 11; decide)
  have hasg2 : a ≠ sg := zne h0 hS2 (fun z => by cases z)
  have hasn2 : a ≠ en := zne h0 hS3 (fun z => by cases z)
  have hsub1 : ∀ q, q ∈ [sa, sg, en] → q ∈ [a, li, ri, sa, sg, en] := fun q hq => List.mem_cons_of_mem _ (List.mem_cons_of_mem _ (List.mem_cons_of_mem _ hq))
  have hsub2 : ∀ q, q ∈ [li, ri] → q ∈ [a, li, ri, sa, sg, en] := fun q hq => (List.mem_cons.mp hq).elim (fun z => by rw [z]; simp) (fun z => by rw [List.mem_singleton.mp z]; simp)
  refine lv_aload_n hx hb dX10_printIssue_0 rfl (lv_at hl 0 rfl) ?_
  refine z_get (T := TX10) (N := 9) (ci := 13) (k := 0) (fs := [.ref la, .ref li, .int (iI (cNi c0)), .int (iI (cNn c0)), .int (iI (cWi c0)), .int (iI (cCo c0)), .int (iI (cHe c0)), .int (iI (cDa c0)), .int (iI (cLa c0))]) (v := .ref la) hC hZ in_X10 rfl (by decide) ql_X10_12 rfl h0 rfl dX10_printIssue_1 ?_
  obtain ⟨fsho_1, ho_1⟩ := (hla).o
  refine z_calli (z_runV (rest := []) (As := []) (n := 0) (ci := 4) hC hZ (met_Jx4a65c_isEmpty_aae02 l D cs A F la ra aL hla) gv_X10_109 hd_Jx4a65c_isEmpty_aae02 rfl ho_1 rfl hl rfl (Nat.le_of_ble_eq_true rfl) ⟨Nat.le_of_ble_eq_true rfl, Nat.le_of_ble_eq_true rfl⟩ ⟨Nat.le_of_ble_eq_true rfl, Nat.le_of_ble_eq_true rfl⟩ dX10_printIssue_4) hZ (fun r4 F4 H locs hp4_c_2 hZ => ?_)
  obtain ⟨rfl, hp4_c_2⟩ := hp4_c_2
  have hem0 := hp4_c_2
  refine z_if_eq (tgt := 12) hx hb dX10_printIssue_7 (by decide) (by omega) (fun c_3 => ?_) (fun c_3 => ?_)
  · skip
    have hnem : ¬ (cAr c0).length = 0 := hem0.elim (fun z => absurd z.2 (by omega)) (fun z => by rw [← haL]; exact z.1)
    refine z_new (T := TX9) (N := 6) (ci := 12) hC hZ tyX9 tyX9_ok in_X9 rfl qk_X10_83 qx_X9 qn_X9 [.int (iI 0), .int (iI 0), .null, .null, .int (iI 0), .int (iI 0)] df_X9 (Nat.le_of_ble_eq_true rfl) (Nat.le_of_ble_eq_true rfl) dX10_printIssue_12 (fun q12 H hq12 hZ => ?_)
    have hf_4 : (zup F q12 (.inr (12, [.int (iI 0), .int (iI 0), .null, .null, .int (iI 0), .int (iI 0)]))) a = some (.inr (13, [.ref la, .ref li, .int (iI (cNi c0)), .int (iI (cNn c0)), .int (iI (cWi c0)), .int (iI (cCo c0)), .int (iI (cHe c0)), .int (iI (cDa c0)), .int (iI (cLa c0))])) := zup_k (zF_ne h0 hq12.1) h0
    have hf_5 : (zup F q12 (.inr (12, [.int (iI 0), .int (iI 0), .null, .null, .int (iI 0), .int (iI 0)]))) q12 = some (.inr (12, [.int (iI 0), .int (iI 0), .null, .null, .int (iI 0), .int (iI 0)])) := zup_s
    replace hZ : zS D A s (zup F q12 (.inr (12, [.int (iI 0), .int (iI 0), .null, .null, .int (iI 0), .int (iI 0)]))) _ _ := hZ
    refine lv_dup hx hb dX10_printIssue_15 rfl ?_
    refine lv_aload_n hx hb dX10_printIssue_16 rfl (lv_at hl 0 rfl) ?_
    refine z_get (T := TX10) (N := 9) (ci := 13) (k := 5) (fs := [.ref la, .ref li, .int (iI (cNi c0)), .int (iI (cNn c0)), .int (iI (cWi c0)), .int (iI (cCo c0)), .int (iI (cHe c0)), .int (iI (cDa c0)), .int (iI (cLa c0))]) (v := .int (iI (cCo c0))) hC hZ in_X10 rfl (by decide) ql_X10_31 rfl hf_4 rfl dX10_printIssue_17 ?_
    refine lv_aload_n hx hb dX10_printIssue_20 rfl (lv_at hl 0 rfl) ?_
    refine z_get (T := TX10) (N := 9) (ci := 13) (k := 6) (fs := [.ref la, .ref li, .int (iI (cNi c0)), .int (iI (cNn c0)), .int (iI (cWi c0)), .int (iI (cCo c0)), .int (iI (cHe c0)), .int (iI (cDa c0)), .int (iI (cLa c0))]) (v := .int (iI (cHe c0))) hC hZ in_X10 rfl (by decide) ql_X10_34 rfl hf_4 rfl dX10_printIssue_21 ?_
    refine z_callv (z_runI (rest := [.ref q12]) (As := [.int (iI (cCo c0)), .int (iI (cHe c0))]) (n := 2) hC hZ (met_X9_init l D cs A (zup F q12 (.inr (12, [.int (iI 0), .int (iI 0), .null, .null, .int (iI 0), .int (iI 0)]))) q12 (cCo c0) (cHe c0) hf_5) qc_X9_init qn_X9 qm_X10_112 qi_X9_init rfl he_X9_init rfl hl rfl (Nat.le_of_ble_eq_true rfl) ⟨Nat.le_of_ble_eq_true rfl, Nat.le_of_ble_eq_true rfl⟩ ⟨Nat.le_of_ble_eq_true rfl, Nat.le_of_ble_eq_true rfl⟩ dX10_printIssue_24) hZ (fun F24 H locs hp24_c_6 hZ => ?_)
    obtain ⟨pia, pla, hk24, hi24, hl24, hp24⟩ := hp24_c_6
    have hpi : F pia = none := zup_none hi24
    have hpl : F pla = none := zup_none hl24
    have hk24 : zko [q12] F F24 := ((zko.refl : zko [q12] F F).new hq12.1).trans hk24
    have hle24 : zle F F24 := zle.refl.kod hk24 (fun q hq => by rw [List.mem_singleton.mp hq]; exact hq12.1)
    refine lv_astore_n (lv' := [(2, .ref q12), (0, .ref a), (1, .ref sa)]) hx hb dX10_printIssue_27 rfl hl (by decide) rfl (fun ls hl => ?_)
    refine z_iconst hx hb dX10_printIssue_28 ?_
    refine lv_istore_n (lv' := [(3, .int (iI 0)), (2, .ref q12), (0, .ref a), (1, .ref sa)]) hx hb dX10_printIssue_29 rfl hl (by decide) rfl (fun ls hl => ?_)
    have L30_k_7 : ∀ (fu : Nat) (k : Int) (F2 : zF) (wd2 : Int) (st2 : zLn) (hfu : (((cAr c0).length : Int) - k).toNat < fu) (hi30_0 : 0 ≤ k ∧ k ≤ ((cAr c0).length : Int)) (hi30_1 : zko [sa, sg, en] F F2) (hi30_2 : bPg cs F2 q12 pia pla (cCo c0) (cHe c0) (zfill c0 k.toNat).1 (zfill c0 k.toNat).2) (hi30_3 : rLs cs F2 sa sg en wd2 st2) (H : Heap) (locs : List Loc) (hZ : zS D A s F2 H locs) (ls : Array Slot) (hl : lv_has ls 5 [(3, .int (iI k)), (2, .ref q12), (0, .ref a), (1, .ref sa)]), W p l e (zR 8 5 31) s m [.ref a, .ref sa].toArray below meth c H locs 3 18 (MQ below (zQ D A (pI (fun r F1 => ((cAr c0).length = 0 ∧ r = 0 ∧ F = F1) ∨ (¬ (cAr c0).length = 0 ∧ r = 1 ∧ ∃ (ri1 : Nat) (wd2 : Int) (st2 : zLn), zko [a, li, ri, sa, sg, en] F F1 ∧ (ri1 = ri ∨ F ri1 = none) ∧ rLs cs F1 sa sg en wd2 st2 ∧ bSt cs F1 a la ra li ri1 (cPrt c0))))) [.ref a, .ref sa].toArray s 5 31 A) (F0 m 30 ls []) := by
      intro fu
      induction fu with
      | zero =>
        intro k F2 wd2 st2 hfu
        exact absurd hfu (Nat.not_lt_zero _)
      | succ fu ih30 =>
        intro k F2 wd2 st2 hfu hi30_0 hi30_1 hi30_2 hi30_3  H locs hZ ls hl
        have hb2 : bSt cs F2 a la ra li ri c0 := ⟨aL, iL, hi30_1.sk hOs.2 h0 (Or.inl rfl), hla.keepN hi30_1 hOs.2, hli.keepN hi30_1 hOs.2, has.keepO hi30_1 hOs.1, his.keepO hi30_1 hOs.1, hne1, hne2⟩
        have g0 : F2 a = _ := hi30_1.sk hOs.2 h0 (Or.inl rfl)
        have hla2 := hla.keepN hi30_1 hOs.2
        have hli2 := hli.keepN hi30_1 hOs.2
        have has2 := has.keepO hi30_1 hOs.1
        have his2 := his.keepO hi30_1 hOs.1
        have h82 := z_c8 hC hZ
        obtain ⟨fss2, hss2⟩ := hi30_3.o
        refine lv_iload_n hx hb dX10_printIssue_30 rfl (lv_at hl 0 rfl) ?_
        refine lv_aload_n hx hb dX10_printIssue_31 rfl (lv_at hl 2 rfl) ?_
        refine z_get (T := TX10) (N := 9) (ci := 13) (k := 0) (fs := [.ref la, .ref li, .int (iI (cNi c0)), .int (iI (cNn c0)), .int (iI (cWi c0)), .int (iI (cCo c0)), .int (iI (cHe c0)), .int (iI (cDa c0)), .int (iI (cLa c0))]) (v := .ref la) hC hZ in_X10 rfl (by decide) ql_X10_12 rfl g0 rfl dX10_printIssue_32 ?_
        obtain ⟨fsho_8, ho_8⟩ := (hla2).o
        refine z_calli (z_runV (rest := [.int (iI k)]) (As := []) (n := 0) (ci := 4) hC hZ (met_Jx4a65c_size_8abf5 l D cs A F2 la ra aL hla2) gv_X10_44 hd_Jx4a65c_size_8abf5 rfl ho_8 rfl hl rfl (Nat.le_of_ble_eq_true rfl) ⟨Nat.le_of_ble_eq_true rfl, Nat.le_of_ble_eq_true rfl⟩ ⟨Nat.le_of_ble_eq_true rfl, Nat.le_of_ble_eq_true rfl⟩ dX10_printIssue_35) hZ (fun r35 F35 H locs hp35_c_9 hZ => ?_)
        obtain ⟨rfl, rfl⟩ := hp35_c_9
        refine z_icmp_ge (tgt := 85) hx hb dX10_printIssue_38 (by decide) (by omega) (by omega) (fun c_10 => ?_) (fun c_10 => ?_)
        · skip
          have hkl : k.toNat = (cAr c0).length := by omega
          have hpE := hi30_2
          rw [hkl] at hpE
          obtain ⟨fP, gP, hP1, hP2, hP3, -, hP4⟩ := id hpE
          refine lv_aload_n hx hb dX10_printIssue_85 rfl (lv_at hl 2 rfl) ?_
          refine z_get (T := TX10) (N := 9) (ci := 13) (k := 1) (fs := [.ref la, .ref li, .int (iI (cNi c0)), .int (iI (cNn c0)), .int (iI (cWi c0)), .int (iI (cCo c0)), .int (iI (cHe c0)), .int (iI (cDa c0)), .int (iI (cLa c0))]) (v := .ref li) hC hZ in_X10 rfl (by decide) ql_X10_18 rfl g0 rfl dX10_printIssue_86 ?_
          refine z_new (T := TX6) (N := 3) (ci := 10) hC hZ tyX6 tyX6_ok in_X6 rfl qk_X10_58 qx_X6 qn_X6 [.int (iI 0), .null, .float 0] df_X6 (Nat.le_of_ble_eq_true rfl) (Nat.le_of_ble_eq_true rfl) dX10_printIssue_89 (fun q89 H hq89 hZ => ?_)
          have hf_11 : (zup F2 q89 (.inr (10, [.int (iI 0), .null, .float 0]))) a = some (.inr (13, [.ref la, .ref li, .int (iI (cNi c0)), .int (iI (cNn c0)), .int (iI (cWi c0)), .int (iI (cCo c0)), .int (iI (cHe c0)), .int (iI (cDa c0)), .int (iI (cLa c0))])) := zup_k (zF_ne g0 hq89.1) g0
          have hf_12 : (zup F2 q89 (.inr (10, [.int (iI 0), .null, .float 0]))) q89 = some (.inr (10, [.int (iI 0), .null, .float 0])) := zup_s
          replace hZ : zS D A s (zup F2 q89 (.inr (10, [.int (iI 0), .null, .float 0]))) _ _ := hZ
          refine lv_dup hx hb dX10_printIssue_92 rfl ?_
          refine lv_aload_n hx hb dX10_printIssue_93 rfl (lv_at hl 2 rfl) ?_
          refine z_get (T := TX10) (N := 9) (ci := 13) (k := 3) (fs := [.ref la, .ref li, .int (iI (cNi c0)), .int (iI (cNn c0)), .int (iI (cWi c0)), .int (iI (cCo c0)), .int (iI (cHe c0)), .int (iI (cDa c0)), .int (iI (cLa c0))]) (v := .int (iI (cNn c0))) hC hZ in_X10 rfl (by decide) ql_X10_25 rfl hf_11 rfl dX10_printIssue_94 ?_
          refine lv_aload_n hx hb dX10_printIssue_97 rfl (lv_at hl 1 rfl) ?_
          refine lv_fconst1 hx hb dX10_printIssue_98 ?_
          refine z_callv (z_runI (rest := [.ref q89, .ref li]) (As := [.int (iI (cNn c0)), .ref q12, .float FP.fconst1]) (n := 3) hC hZ (met_X6_init l D cs A (zup F2 q89 (.inr (10, [.int (iI 0), .null, .float 0]))) q89 (cNn c0) q12 FP.fconst1 hf_12) qc_X6_init qn_X6 qm_X10_131 qi_X6_init rfl he_X6_init rfl hl rfl (Nat.le_of_ble_eq_true rfl) ⟨Nat.le_of_ble_eq_true rfl, Nat.le_of_ble_eq_true rfl⟩ ⟨Nat.le_of_ble_eq_true rfl, Nat.le_of_ble_eq_true rfl⟩ dX10_printIssue_99) hZ (fun F99 H locs hp99_c_13 hZ => ?_)
          obtain rfl := hp99_c_13
          rw [zup_up] at hZ
          have hf_14 : (zup F2 q89 (.inr (10, [.int (iI (cNn c0)), .ref q12, .float FP.fconst1]))) a = some (.inr (13, [.ref la, .ref li, .int (iI (cNi c0)), .int (iI (cNn c0)), .int (iI (cWi c0)), .int (iI (cCo c0)), .int (iI (cHe c0)), .int (iI (cDa c0)), .int (iI (cLa c0))])) := zup_k (zF_ne g0 hq89.1) g0
          have hf_15 : (zup F2 q89 (.inr (10, [.int (iI (cNn c0)), .ref q12, .float FP.fconst1]))) q89 = some (.inr (10, [.int (iI (cNn c0)), .ref q12, .float FP.fconst1])) := zup_s
          replace hZ : zS D A s (zup F2 q89 (.inr (10, [.int (iI (cNn c0)), .ref q12, .float FP.fconst1]))) _ _ := hZ
          have hqi := hf_15
          have hliv := hi30_3.keep (O := []) (zle.fresh (e := .inr (10, [.int (iI (cNn c0)), .ref q12, .float FP.fconst1])) hq89.1).ko zni0 zni0 zni0
          have hs3 := hliv
          have hpp3 := hpE.keep (O := []) (zle.fresh (e := .inr (10, [.int (iI (cNn c0)), .ref q12, .float FP.fconst1])) hq89.1).ko zni0 zni0 zni0
          have hla3 := hla2.mono (zle.fresh (e := .inr (10, [.int (iI (cNn c0)), .ref q12, .float FP.fconst1])) hq89.1)
          have hli3 := hli2.mono (zle.fresh (e := .inr (10, [.int (iI (cNn c0)), .ref q12, .float FP.fconst1])) hq89.1)
          have has3 := has2.mono (zle.fresh (e := .inr (10, [.int (iI (cNn c0)), .ref q12, .float FP.fconst1])) hq89.1)
          have his3 := his2.mono (zle.fresh (e := .inr (10, [.int (iI (cNn c0)), .ref q12, .float FP.fconst1])) hq89.1)
          have h83 := z_c8 hC hZ
          obtain ⟨fPz, gPz, hPz1, hPz2, hPz3, -, hPz4⟩ := id hpp3
          have hPg3 : oPg cs _ q12 (zissue c0) := ⟨pia, pla, fPz, gPz, hPz1, hPz2, hPz3, hPz4, isOK_mil hK hN⟩
          have hIs3 : oIs cs _ q89 (cDa c0) (zissue c0) := ⟨q12, by rw [show (cDa c0 - iPr (zissue c0)).toNat = 0 by show (cDa c0 - cDa c0).toNat = 0; omega]; exact hqi, hPg3⟩
          obtain ⟨fli3, hli3o⟩ := hli3.o
          have hqli : q89 ≠ li := zneK hqi hli3o (by show 1000000 + 10 ≠ 1000000 + 4; decide)
          have hari2 := hli3.ne hf_14 h83
          have hNiI : ∀ o, o ∈ [li, ri] → zNi cs _ o := fun o ho => by
            rcases List.mem_cons.mp ho with q | q
            · rw [q]; exact zNi.o hli3o (by decide)
            · rw [List.mem_singleton.mp q]; exact hli3.niR h54 h83
          have hlsO := rLs.offL hs3 hli3 h83
          obtain ⟨fsho_16, ho_16⟩ := (hli3).o
          refine z_calli (z_runV (rest := []) (As := [.ref q89]) (n := 1) (ci := 4) hC hZ (met_Jx4a65c_add_9ea2d l D cs A (zup F2 q89 (.inr (10, [.int (iI (cNn c0)), .ref q12, .float FP.fconst1]))) li ri iL q89 hli3 (by omega) ⟨10, 3, RX6, TX6, _, hqi, rfl, q_2177⟩ hqli) gv_X10_54 hd_Jx4a65c_add_9ea2d rfl ho_16 rfl hl rfl (Nat.le_of_ble_eq_true rfl) ⟨Nat.le_of_ble_eq_true rfl, Nat.le_of_ble_eq_true rfl⟩ ⟨Nat.le_of_ble_eq_true rfl, Nat.le_of_ble_eq_true rfl⟩ dX10_printIssue_102) hZ (fun r102 F102 H locs hp102_c_17 hZ => ?_)
          obtain ⟨hr102, ri1, ha102, hk102, hl102⟩ := hp102_c_17
          subst hr102
          have hfa : F102 a = _ := hk102 _ _ hf_14 (zni1 hali (zni1 hari2 zni0))
          have hN102 : ∀ o, o ∈ [li, ri] → zNi cs _ o := hNiI
          have hla102 := hla3.sep hli3 hne1 hne2 h83 hk102
          have has102 := has3.keepO hk102 hN102
          have his102 := (his3.app hIs3).keepO hk102 hN102
          have hs102 := hs3.keep hk102 hlsO.1 hlsO.2.1 hlsO.2.2
          have hne102 : ra = ri1 → ra = cs 8 := ha102.elim (fun z => by rw [z]; exact hne2) (fun z c => c.trans (arr_ne hla3 z c.symm))
          have hK102 : zko [a, li, ri, sa, sg, en] F F102 := ((hi30_1.sub hsub1).new hq89.1).trans (hk102.sub hsub2)
          have hri102 : ri1 = ri ∨ F ri1 = none := ha102.imp_right (fun z => hi30_1.nnk hi30_3.some (zup_none z))
          have hlen : ((iL ++ [q89]).length : Int) = (iL.length : Int) + 1 := by rw [List.length_append, List.length_singleton]; omega
          refine lv_pop hx hb dX10_printIssue_105 rfl ?_
          refine lv_aload_n hx hb dX10_printIssue_106 rfl (lv_at hl 2 rfl) ?_
          refine lv_dup hx hb dX10_printIssue_107 rfl ?_
          refine z_get (T := TX10) (N := 9) (ci := 13) (k := 3) (fs := [.ref la, .ref li, .int (iI (cNi c0)), .int (iI (cNn c0)), .int (iI (cWi c0)), .int (iI (cCo c0)), .int (iI (cHe c0)), .int (iI (cDa c0)), .int (iI (cLa c0))]) (v := .int (iI (cNn c0))) hC hZ in_X10 rfl (by decide) ql_X10_25 rfl hfa rfl dX10_printIssue_108 ?_
          refine z_iconst hx hb dX10_printIssue_111 ?_
          refine z_iadd hx hb dX10_printIssue_112 ?_
          refine z_put (T := TX10) (N := 9) (ci := 13) (k := 3) (fs := [.ref la, .ref li, .int (iI (cNi c0)), .int (iI (cNn c0)), .int (iI (cWi c0)), .int (iI (cCo c0)), .int (iI (cHe c0)), .int (iI (cDa c0)), .int (iI (cLa c0))]) (v := .int (iI ((cNn c0) + 1))) hC hZ tyX10 tyX10_ok nmX10 in_X10 rfl (by decide) ql_X10_25 rfl (Or.inl rfl) rfl hfa (by show 3 < 9; decide) rfl rfl dX10_printIssue_113 (fun H locs hZ => ?_)
          have hf_18 : (zup F102 a (.inr (13, [.ref la, .ref li, .int (iI (cNi c0)), .int (iI ((cNn c0) + 1)), .int (iI (cWi c0)), .int (iI (cCo c0)), .int (iI (cHe c0)), .int (iI (cDa c0)), .int (iI (cLa c0))]))) a = some (.inr (13, [.ref la, .ref li, .int (iI (cNi c0)), .int (iI ((cNn c0) + 1)), .int (iI (cWi c0)), .int (iI (cCo c0)), .int (iI (cHe c0)), .int (iI (cDa c0)), .int (iI (cLa c0))])) := zup_s
          replace hZ : zS D A s (zup F102 a (.inr (13, [.ref la, .ref li, .int (iI (cNi c0)), .int (iI ((cNn c0) + 1)), .int (iI (cWi c0)), .int (iI (cCo c0)), .int (iI (cHe c0)), .int (iI (cDa c0)), .int (iI (cLa c0))]))) _ _ := hZ
          have hO1 : ∀ o, o ∈ [a] → zNi cs F102 o := fun o ho => by rw [List.mem_singleton.mp ho]; exact zNi.o hfa (by decide)
          have hO2 : ∀ o, o ∈ [a] → ∃ (ci : Nat) (fs : List Value), F102 o = some (.inr (ci, fs)) ∧ ci ≠ 4 := fun o ho => by rw [List.mem_singleton.mp ho]; exact ⟨13, _, hfa, by decide⟩
          have hO3 : ∀ o, o ∈ [a] → ∃ (ci : Nat) (fs : List Value), F102 o = some (.inr (ci, fs)) ∧ ci ≠ 11 := fun o ho => by rw [List.mem_singleton.mp ho]; exact ⟨13, _, hfa, by decide⟩
          have hkA : zko [a] F102 (zup F102 a (.inr (13, [.ref la, .ref li, .int (iI (cNi c0)), .int (iI ((cNn c0) + 1)), .int (iI (cWi c0)), .int (iI (cCo c0)), .int (iI (cHe c0)), .int (iI (cDa c0)), .int (iI (cLa c0))]))) := ((zko.refl : zko [a] F102 F102).up (by simp))
          have hlA := hl102.keepB hkA hO2
          have hlaA := hla102.keepB hkA hO2
          have hasA := has102.keepO hkA hO1
          have hisA := his102.keepO hkA hO1
          have hsA := hs102.keep hkA (zni1 (Ne.symm hasa2) zni0) (zni1 (Ne.symm hasg2) zni0) (zni1 (Ne.symm hasn2) zni0)
          have hKA : zko [a, li, ri, sa, sg, en] F _ := hK102.trans (hkA.sub (fun q hq => by rw [List.mem_singleton.mp hq]; simp))
          have h8A := z_c8 hC hZ
          have hfA := hf_18
          refine lv_aload_n hx hb dX10_printIssue_116 rfl (lv_at hl 2 rfl) ?_
          refine z_get (T := TX10) (N := 9) (ci := 13) (k := 1) (fs := [.ref la, .ref li, .int (iI (cNi c0)), .int (iI ((cNn c0) + 1)), .int (iI (cWi c0)), .int (iI (cCo c0)), .int (iI (cHe c0)), .int (iI (cDa c0)), .int (iI (cLa c0))]) (v := .ref li) hC hZ in_X10 rfl (by decide) ql_X10_18 rfl hf_18 rfl dX10_printIssue_117 ?_
          obtain ⟨fsho_19, ho_19⟩ := (hlA).o
          refine z_calli (z_runV (rest := []) (As := []) (n := 0) (ci := 4) hC hZ (met_Jx4a65c_size_8abf5 l D cs A (zup F102 a (.inr (13, [.ref la, .ref li, .int (iI (cNi c0)), .int (iI ((cNn c0) + 1)), .int (iI (cWi c0)), .int (iI (cCo c0)), .int (iI (cHe c0)), .int (iI (cDa c0)), .int (iI (cLa c0))]))) li ri1 (iL ++ [q89]) hlA) gv_X10_44 hd_Jx4a65c_size_8abf5 rfl ho_19 rfl hl rfl (Nat.le_of_ble_eq_true rfl) ⟨Nat.le_of_ble_eq_true rfl, Nat.le_of_ble_eq_true rfl⟩ ⟨Nat.le_of_ble_eq_true rfl, Nat.le_of_ble_eq_true rfl⟩ dX10_printIssue_120) hZ (fun r120 F120 H locs hp120_c_20 hZ => ?_)
          obtain ⟨rfl, rfl⟩ := hp120_c_20
          refine z_iconst hx hb dX10_printIssue_123 ?_
          refine z_icmp_le (tgt := 136) hx hb dX10_printIssue_124 (by decide) (by omega) (by decide) (fun c_21 => ?_) (fun c_21 => ?_)
          · skip
            have hn4 : (cIs c0).length ≠ 4 := by omega
            refine z_iconst hx hb dX10_printIssue_136 ?_
            exact z_zret hC hr hlk hZ rfl (by decide) (by decide) ((Or.inr ⟨hnem, rfl, ri1, wd2, st2, hKA, hri102, hsA, aL, iL ++ [q89], hfA, hlaA, hlA, hasA, (by show oSs cs _ _ _ (dropI (cIs c0) ++ [zissue c0]); rw [dropI_n hn4]; exact hisA), hne1, hne102⟩)) dX10_printIssue_137
          · skip
            have hn4 : (cIs c0).length = 4 := by omega
            have hariA := hlA.ne hfA h8A
            obtain ⟨fliA, hliAo⟩ := hlA.o
            have hlsP := rLs.offL hsA hlA h8A
            have hNiA : ∀ o, o ∈ [li, ri1] → zNi cs _ o := fun o ho => by
              rcases List.mem_cons.mp ho with q | q
              · rw [q]; exact zNi.o hliAo (by decide)
              · rw [List.mem_singleton.mp q]; exact hlA.niR h54 h8A
            refine lv_aload_n hx hb dX10_printIssue_127 rfl (lv_at hl 2 rfl) ?_
            refine z_get (T := TX10) (N := 9) (ci := 13) (k := 1) (fs := [.ref la, .ref li, .int (iI (cNi c0)), .int (iI ((cNn c0) + 1)), .int (iI (cWi c0)), .int (iI (cCo c0)), .int (iI (cHe c0)), .int (iI (cDa c0)), .int (iI (cLa c0))]) (v := .ref li) hC hZ in_X10 rfl (by decide) ql_X10_18 rfl hf_18 rfl dX10_printIssue_128 ?_
            refine z_iconst hx hb dX10_printIssue_131 ?_
            obtain ⟨fsho_22, ho_22⟩ := (hlA).o
            refine z_callr (z_runV (rest := []) (As := [.int (iI 0)]) (n := 1) (ci := 4) hC hZ (met_Jx4a65c_remove_915e3 l D cs A (zup F102 a (.inr (13, [.ref la, .ref li, .int (iI (cNi c0)), .int (iI ((cNn c0) + 1)), .int (iI (cWi c0)), .int (iI (cCo c0)), .int (iI (cHe c0)), .int (iI (cDa c0)), .int (iI (cLa c0))]))) li ri1 (iL ++ [q89]) 0 hlA ⟨by decide, by omega⟩ hisA.el) gv_X10_94 hd_Jx4a65c_remove_915e3 rfl ho_22 rfl hl rfl (Nat.le_of_ble_eq_true rfl) ⟨Nat.le_of_ble_eq_true rfl, Nat.le_of_ble_eq_true rfl⟩ ⟨Nat.le_of_ble_eq_true rfl, Nat.le_of_ble_eq_true rfl⟩ dX10_printIssue_132) hZ (fun r132 F132 H locs hp132_c_23 hZ => ?_)
            obtain ⟨hk132, hl132, hr132⟩ := hp132_c_23
            refine lv_pop hx hb dX10_printIssue_135 rfl ?_
            refine z_iconst hx hb dX10_printIssue_136 ?_
            exact z_zret hC hr hlk hZ rfl (by decide) (by decide) ((Or.inr ⟨hnem, rfl, ri1, wd2, st2, hKA.tr hk132 (fun q hq => (List.mem_cons.mp hq).elim (fun z => Or.inl (by rw [z]; simp)) (fun z => by rw [List.mem_singleton.mp z]; exact hri102.imp_left (fun y => by rw [y]; simp))), hri102, hsA.keep hk132 hlsP.1 hlsP.2.1 hlsP.2.2, aL, (iL ++ [q89]).eraseIdx (0 : Int).toNat, hk132 _ _ hfA (zni1 hali (zni1 hariA zni0)), hlaA.sep hlA hne1 hne102 h8A hk132, hl132, hasA.keepO hk132 hNiA, (by show oSs cs _ _ _ (dropI (cIs c0) ++ [zissue c0]); rw [← dropI_4 hn4]; exact (hisA.era ⟨by decide, by rw [List.length_append, List.length_singleton]; omega⟩).keepO hk132 hNiA), hne1, hne102⟩)) dX10_printIssue_137
        · skip
          refine lv_aload_n hx hb dX10_printIssue_41 rfl (lv_at hl 2 rfl) ?_
          refine lv_iload_n hx hb dX10_printIssue_42 rfl (lv_at hl 0 rfl) ?_
          refine z_callq (z_runV (rest := []) (As := [.int (iI k)]) (n := 1) (ci := 13) hC hZ (met_X10_ranked l D cs A F2 a c0 k hb2.r (by omega)) gv_X10_115 hd_X10_ranked rfl g0 rfl hl rfl (Nat.le_of_ble_eq_true rfl) ⟨Nat.le_of_ble_eq_true rfl, Nat.le_of_ble_eq_true rfl⟩ ⟨Nat.le_of_ble_eq_true rfl, Nat.le_of_ble_eq_true rfl⟩ dX10_printIssue_43) hZ (fun r43 F43 H locs hp43_c_24 hZ => ?_)
          obtain ⟨rfl, hp43_c_24⟩ := hp43_c_24
          rcases hp43_c_24 with ⟨hz43, rfl⟩ | ⟨y43, q43, hz43, hm43, rfl, ho43⟩
          · skip
            have hzf : zfill c0 (k.toNat + 1) = zfill c0 k.toNat := zfill_none (by rw [show ((k.toNat : Nat) : Int) = k by omega]; exact hz43)
            refine lv_astoreN (lv' := [(4, .null), (3, .int (iI k)), (2, .ref q12), (0, .ref a), (1, .ref sa)]) hx hb dX10_printIssue_46 hl (by decide) rfl (fun ls hl => ?_)
            refine lv_aloadN hx hb dX10_printIssue_48 (lv_at hl 0 rfl) ?_
            refine lv_ifnullN (tgt := 79) hx hb dX10_printIssue_50 (by decide) ?_
            refine z_iinc (lv' := [(3, .int (iI (k + 1))), (4, .null), (2, .ref q12), (0, .ref a), (1, .ref sa)]) hx hb dX10_printIssue_79 hl (k := 1) rfl (by decide) rfl (fun ls hl => ?_)
            refine lv_goto (tgt := 30) hx hb dX10_printIssue_82 (by decide) ?_
            exact ih30 (k + 1) F2 wd2 st2 (by omega) (by omega) hi30_1 (by rw [show (k + 1).toNat = k.toNat + 1 by omega, hzf]; exact hi30_2) hi30_3  _ _ hZ ls (lv_sub hl [0, 2, 3, 4] rfl)
          · skip
            have hzk43 : zrk (cAr c0) ((k.toNat : Nat) : Int) = some y43 := by rw [show ((k.toNat : Nat) : Int) = k by omega]; exact hz43
            refine lv_astore (lv' := [(4, .ref q43), (3, .int (iI k)), (2, .ref q12), (0, .ref a), (1, .ref sa)]) hx hb dX10_printIssue_46 hl (by decide) rfl (fun ls hl => ?_)
            refine lv_aload hx hb dX10_printIssue_48 (lv_at hl 0 rfl) ?_
            refine lv_ifnull hx hb dX10_printIssue_50 ?_
            refine lv_aload_n hx hb dX10_printIssue_53 rfl (lv_at hl 4 rfl) ?_
            refine lv_aload hx hb dX10_printIssue_54 (lv_at hl 0 rfl) ?_
            refine lv_aload_n hx hb dX10_printIssue_56 rfl (lv_at hl 3 rfl) ?_
            refine z_get (T := TX10) (N := 9) (ci := 13) (k := 4) (fs := [.ref la, .ref li, .int (iI (cNi c0)), .int (iI (cNn c0)), .int (iI (cWi c0)), .int (iI (cCo c0)), .int (iI (cHe c0)), .int (iI (cDa c0)), .int (iI (cLa c0))]) (v := .int (iI (cWi c0))) hC hZ in_X10 rfl (by decide) ql_X10_28 rfl g0 rfl dX10_printIssue_57 ?_
            refine z_calli (z_runV (rest := []) (As := [.ref q43, .int (iI (cWi c0))]) (n := 2) (ci := 11) hC hZ (met_X8_arrange l D cs A F2 sa sg en wd2 (cWi c0) st2 q43 y43 hi30_3 ho43 hkw) gv_X10_119 hd_X8_arrange rfl hss2 rfl hl rfl (Nat.le_of_ble_eq_true rfl) ⟨Nat.le_of_ble_eq_true rfl, Nat.le_of_ble_eq_true rfl⟩ ⟨Nat.le_of_ble_eq_true rfl, Nat.le_of_ble_eq_true rfl⟩ dX10_printIssue_60) hZ (fun r60 F60 H locs hp60_c_25 hZ => ?_)
            obtain ⟨hk60, hc60⟩ := hp60_c_25
            obtain ⟨hpl1, hpl2⟩ := pg_ls hi30_2 hi30_3
            have hp60 := hi30_2.keep hk60 hpl2.1 hpl2.2.1 hpl2.2.2
            have hO60 := hi30_3.ni
            have hK60 : zko [sa, sg, en] F F60 := hi30_1.trans hk60
            have ho60 := ho43.keepO hk60 hO60.1
            have g60 : F60 a = _ := hk60 _ _ g0 (fun c => hO60.2 a c _ g0 (Or.inl rfl))
            obtain ⟨wa60, y60, -, hyo60⟩ := id ho60
            have hyid := hyo60.1
            obtain ⟨fss60, hss60⟩ : ∃ fs, F60 sa = some (.inr (11, fs)) := hc60.elim (fun z => by obtain ⟨_, _, _, z, _⟩ := z; exact z.o) (fun z => by obtain ⟨_, _, _, z⟩ := z; exact z.o)
            rcases hc60 with ⟨ls60, hz60, rfl, hs60, hb60, -⟩ | ⟨hz60, rfl, st60, hs60⟩
            · skip
              obtain ⟨f60, e60, s60, -⟩ := id hs60
              have hfk := zfill_ok hK k.toNat
              have hcp := cpg hK
              obtain ⟨fpp60, gpp60, hpp60, -⟩ := id hp60
              refine z_if_eq (tgt := 79) hx hb dX10_printIssue_63 (by decide) (by decide) (fun c_26 => ?_) (fun c_26 => ?_)
              · skip
                exfalso; omega
              · skip
                refine lv_aload_n hx hb dX10_printIssue_66 rfl (lv_at hl 2 rfl) ?_
                refine lv_aload hx hb dX10_printIssue_67 (lv_at hl 0 rfl) ?_
                refine z_getN (T := TX1) (N := 3) (ci := 5) (k := 0) (fs := [.int (iI y43.1), .int (iI y43.2.1), .ref wa60]) (v := .int (iI y43.1)) hC hZ in_X1 rfl (by decide) ql_X10_60 rfl y60 rfl dX10_printIssue_69 ?_
                refine lv_aload_n hx hb dX10_printIssue_72 rfl (lv_at hl 4 rfl) ?_
                refine z_getN (T := TX8) (N := 5) (ci := 11) (k := 3) (fs := [.ref sg, .ref en, .int (iI ((zfl (ls60, [])).length : Int)), .int (iI (ls60.length : Int)), .int (iI (cWi c0))]) (v := .int (iI (ls60.length : Int))) hC hZ in_X8 rfl (by decide) ql_X10_125 rfl s60 rfl dX10_printIssue_73 ?_
                refine z_callv (z_runV (rest := []) (As := [.int (iI y43.1), .int (iI (ls60.length : Int))]) (n := 2) (ci := 12) hC hZ (met_X9_offer l D cs A F60 q12 pia pla (cCo c0) (cHe c0) (zfill c0 k.toNat).1 (zfill c0 k.toNat).2 y43.1 (ls60.length : Int) hp60 (by omega) (by omega) ⟨by omega, by omega⟩ ⟨by omega, by omega⟩ hcp) gv_X10_128 hd_X9_offer rfl hpp60 rfl hl rfl (Nat.le_of_ble_eq_true rfl) ⟨Nat.le_of_ble_eq_true rfl, Nat.le_of_ble_eq_true rfl⟩ ⟨Nat.le_of_ble_eq_true rfl, Nat.le_of_ble_eq_true rfl⟩ dX10_printIssue_76) hZ (fun F76 H locs hp76_c_27 hZ => ?_)
                obtain ⟨hk76, hc76⟩ := hp76_c_27
                obtain ⟨hpm1, hpm2⟩ := pg_ls hp60 hs60
                have hs76 := hs60.keep hk76 hpm1.1 hpm1.2.1 hpm1.2.2
                have hK76 : zko [sa, sg, en] F F76 := hK60.tr hk76 (fun q hq => Or.inr (by
                  rcases List.mem_cons.mp hq with z | hq
                  · rw [z]; exact hq12.1
                  · rcases List.mem_cons.mp hq with z | hq
                    · rw [z]; exact hpi
                    · rw [List.mem_singleton.mp hq]; exact hpl))
                have hp76 : bPg cs F76 q12 pia pla (cCo c0) (cHe c0) (zfill c0 (k.toNat + 1)).1 (zfill c0 (k.toNat + 1)).2 := by
                  by_cases q : (zfill c0 k.toNat).2 + (ls60.length : Int) ≤ cCo c0 * cHe c0
                  · rw [if_pos q] at hc76; rw [zfill_yes hzk43 hz60 q]; exact hc76
                  · rw [if_neg q] at hc76; rw [zfill_no2 hzk43 hz60 q]; exact hc76
                refine z_iinc (lv' := [(3, .int (iI (k + 1))), (4, .ref q43), (2, .ref q12), (0, .ref a), (1, .ref sa)]) hx hb dX10_printIssue_79 hl (k := 1) rfl (by decide) rfl (fun ls hl => ?_)
                refine lv_goto (tgt := 30) hx hb dX10_printIssue_82 (by decide) ?_
                exact ih30 (k + 1) F76 (cWi c0) (ls60, []) (by omega) (by omega) hK76 (by rw [show (k + 1).toNat = k.toNat + 1 by omega]; exact hp76) hs76  _ _ hZ ls (lv_sub hl [0, 2, 3, 4] rfl)
            · skip
              have hzf : zfill c0 (k.toNat + 1) = zfill c0 k.toNat := zfill_no hzk43 hz60
              refine z_if_eq (tgt := 79) hx hb dX10_printIssue_63 (by decide) (by decide) (fun c_28 => ?_) (fun c_28 => ?_)
              · skip
                refine z_iinc (lv' := [(3, .int (iI (k + 1))), (4, .ref q43), (2, .ref q12), (0, .ref a), (1, .ref sa)]) hx hb dX10_printIssue_79 hl (k := 1) rfl (by decide) rfl (fun ls hl => ?_)
                refine lv_goto (tgt := 30) hx hb dX10_printIssue_82 (by decide) ?_
                exact ih30 (k + 1) F60 (cWi c0) st60 (by omega) (by omega) hK60 (by rw [show (k + 1).toNat = k.toNat + 1 by omega, hzf]; exact hp60) hs60  _ _ hZ ls (lv_sub hl [0, 2, 3, 4] rfl)
              · skip
                exfalso; omega
    exact L30_k_7 _ (0 : Int) F24 wd st (Nat.lt_succ_self _) (by omega) hle24.ko hp24 (hs2.keep (O := []) hle24.ko zni0 zni0 zni0)  _ _ hZ ls (lv_sub hl [0, 1, 2, 3] rfl)
  · skip
    have hem : (cAr c0).length = 0 := hem0.elim (fun z => by rw [← haL]; exact z.1) (fun z => absurd z.2 (by omega))
    refine z_iconst hx hb dX10_printIssue_10 ?_
    exact z_zret hC hr hlk hZ rfl (by decide) (by decide) ((Or.inl ⟨hem, rfl, rfl⟩)) dX10_printIssue_11
