theorem fP_int {x : UInt32} (h : fP x) : 0 ≤ x.toInt32.toInt ∧ x.toInt32.toInt ≤ 2147483647 := by
  have e : x.toInt32.toInt = (x.toNat : Int) := by
    show x.toBitVec.toInt = _
    exact BitVec.toInt_eq_toNat_of_lt (by unfold fP at h; show 2 * x.toNat < 2 ^ 32; omega)
  unfold fP at h
  omega
/-- how many articles of an issue have ids below m -/
def zcn (s : zIs) (m : Int) : Int := ((iTk s).countP (fun q => decide (q.1 < m)) : Nat)
theorem cnt_s (m : Int) : ∀ l : List (Int × Int), l.Pairwise (fun p q => p.1 ≠ q.1) → l.countP (fun q => decide (q.1 < m + 1)) = l.countP (fun q => decide (q.1 < m)) + (if (l.find? (fun q => q.1 == m)).isSome = true then 1 else 0)
  | [], _ => rfl
  | q :: l, h => by
    have h2 := List.pairwise_cons.mp h
    have ih := cnt_s m l h2.2
    rw [List.countP_cons, List.countP_cons, ih, List.find?_cons]
    by_cases c1 : q.1 = m
    · have hn : (l.find? (fun q => q.1 == m)).isSome = false := by
        cases hf : l.find? (fun q => q.1 == m) with
        | none => rfl
        | some r =>
          have hr := List.find?_some hf
          have hm := h2.1 r (List.mem_of_find?_eq_some hf)
          have : r.1 = m := by simpa using hr
          exact absurd (c1.trans this.symm) hm
      rw [hn, if_neg (by decide), if_pos (by simp; omega), if_neg (by simp; omega)]
      have : (q.1 == m) = true := by simpa using c1
      rw [this]
      rfl
    · have : (q.1 == m) = false := by simpa using c1
      rw [this]
      by_cases c2 : q.1 < m
      · rw [decide_eq_true (show q.1 < m + 1 by omega), decide_eq_true c2]
        show _ + 1 = (_ + 1) + (if (l.find? (fun q => q.1 == m)).isSome = true then 1 else 0)
        omega
      · rw [decide_eq_false (show ¬ q.1 < m + 1 by omega), decide_eq_false c2]
        show _ + 0 = (_ + 0) + (if (l.find? (fun q => q.1 == m)).isSome = true then 1 else 0)
        omega
theorem zcn_s {ni nn da m : Int} {s : zIs} (hs : isOK ni nn da s) : ((zft s m).isSome = true ∧ zcn s (m + 1) = zcn s m + 1) ∨ ((zft s m).isSome = false ∧ zcn s (m + 1) = zcn s m) := by
  have h := cnt_s m (iTk s) hs.2.2.2.2.2.2.1
  have e : (zft s m).isSome = ((iTk s).find? (fun q => q.1 == m)).isSome := by unfold zft; rw [Option.isSome_map]
  unfold zcn
  rw [e]
  cases hc : ((iTk s).find? (fun q => q.1 == m)).isSome with
  | true => rw [hc, if_pos rfl] at h; left; exact ⟨rfl, by omega⟩
  | false => rw [hc, if_neg (by decide)] at h; right; exact ⟨rfl, by omega⟩
theorem zcn_0 {ni nn da : Int} {s : zIs} (hs : isOK ni nn da s) : zcn s 0 = 0 := by
  unfold zcn
  rw [List.countP_eq_zero.mpr (fun q hq => by have := (hs.2.2.2.2.2.1 q hq).1; simp; omega)]
  rfl
theorem zcn_9 {ni nn da : Int} {s : zIs} (hs : isOK ni nn da s) (hn : ni ≤ 9) : zcn s 9 = (iTk s).length := by
  unfold zcn
  rw [List.countP_eq_length.mpr (fun q hq => by have := (hs.2.2.2.2.2.1 q hq).1; simp; omega)]
theorem zcn_b (s : zIs) (m : Int) : 0 ≤ zcn s m ∧ zcn s m ≤ (iTk s).length := ⟨Int.natCast_nonneg _, Int.ofNat_le.mpr List.countP_le_length⟩
theorem cov_tab : (List.range 81).all (fun b => b == 0 || (List.range (b + 1)).all (fun a => decide ((Op.cmpValue (FP.fcmp (FP.fdiv (FP.i2f (Int32.ofNat a)) (FP.i2f (Int32.ofNat b))) FP.fconst1) .l).toInt ≤ 0))) = true := by decide +kernel
theorem cov_ok {a b : Int} (h : 0 ≤ a ∧ a ≤ b) (hb : 1 ≤ b ∧ b ≤ 80) : (Op.cmpValue (FP.fcmp (FP.fdiv (FP.i2f (iI a)) (FP.i2f (iI b))) FP.fconst1) .l).toInt ≤ 0 := by
  have h1 := List.all_eq_true.mp cov_tab b.toNat (List.mem_range.mpr (by omega))
  have e : ∀ z : Int, 0 ≤ z → Int32.ofNat z.toNat = iI z := fun z hz => by
    have := iI_nat z.toNat
    rw [Int.toNat_of_nonneg hz] at this
    exact this
  rw [Bool.or_eq_true] at h1
  rcases h1 with q | q
  · have := eq_of_beq q; omega
  · have h2 := List.all_eq_true.mp q a.toNat (List.mem_range.mpr (by omega))
    rw [e a h.1, e b (by omega)] at h2
    exact of_decide_eq_true h2
/-- the first f of the issues are those with numbers below x -/
def zpa (l : List zIs) (f x : Int) : Prop := ∀ (i : Nat) (s : zIs), l[i]? = some s → ((i : Int) < f ↔ iNo s < x)
theorem zpa_0 {l : List zIs} (h : ∀ s ∈ l, 0 ≤ iNo s) : zpa l 0 0 := fun i s hs => by
  have := h s (List.mem_of_getElem? hs)
  omega
theorem zpa_y {l : List zIs} {f x : Int} {s : zIs} (hs : l.Pairwise (fun a b => iNo a < iNo b)) (h : zpa l f x) (h0 : 0 ≤ f) (hz : zfi l x = some s) : l[f.toNat]? = some s ∧ zpa l (f + 1) (x + 1) ∧ f < l.length := by
  have hno : iNo s = x := by have := List.find?_some hz; simpa using this
  obtain ⟨i, hi⟩ := List.getElem?_of_mem (zfi_mem hz)
  obtain ⟨hil, hie⟩ := List.getElem?_eq_some_iff.mp hi
  have h1 := h i s hi
  have hlt : ∀ (j k : Nat) (hj : j < l.length) (hk : k < l.length), j < k → iNo l[j] < iNo l[k] := fun j k hj hk hjk => List.pairwise_iff_getElem.mp hs j k hj hk hjk
  have hif : i = f.toNat := by
    refine Decidable.byContradiction (fun q => ?_)
    have hlf : f.toNat < l.length := by omega
    have h2 := h f.toNat l[f.toNat] (List.getElem?_eq_getElem hlf)
    have h3 := hlt f.toNat i hlf hil (by omega)
    rw [hie] at h3
    omega
  refine ⟨by rw [← hif]; exact hi, fun j t hj => ?_, by omega⟩
  obtain ⟨hjl, hje⟩ := List.getElem?_eq_some_iff.mp hj
  have h4 := h j t hj
  rcases Nat.lt_trichotomy j i with q | q | q
  · omega
  · subst q
    rw [hie] at hje
    subst hje
    omega
  · have h5 := hlt i j hil hjl q
    rw [hie, hje] at h5
    omega
theorem zpa_n {l : List zIs} {f x : Int} (h : zpa l f x) (hz : zfi l x = none) : zpa l f (x + 1) := fun j t hj => by
  have h4 := h j t hj
  have h5 : iNo t ≠ x := fun q => by
    unfold zfi at hz
    rw [List.find?_eq_none] at hz
    exact hz t (List.mem_of_getElem? hj) (by simpa using q)
  omega
theorem zpa_e {l : List zIs} {f x : Int} (h : zpa l f x) (hx : ∀ s ∈ l, iNo s < x) (h0 : 0 ≤ f ∧ f ≤ l.length) : f = l.length := by
  refine Decidable.byContradiction (fun q => ?_)
  have hlf : f.toNat < l.length := by omega
  have h2 := h f.toNat l[f.toNat] (List.getElem?_eq_getElem hlf)
  have h3 := hx _ (List.getElem_mem hlf)
  omega
theorem nois {N : Nat} {c : zCo} {n : Nat} {d x : Int} (hK : cOK N c) (h : dJ n d c) (hx : x < 0 ∨ d ≤ x) : zfi (cIs c) x = none := by
  unfold zfi
  rw [List.find?_eq_none]
  intro s hs
  have h1 := (hK.2.2.2.2.1 s hs).1
  have h2 := h.2.2.2.2
  simp
  omega
theorem no_i {c : zCo} {x : Int} (h : zfi (cIs c) x = none) : (∀ f, sIss c x f = (1, 0)) ∧ (∀ y f, sPos c x y f = (1, 0)) ∧ sFB c x = (1, 0) := by
  refine ⟨fun f => ?_, fun y f => ?_, ?_⟩
  · unfold sIss; rw [h]
  · unfold sPos; rw [h]
  · unfold sFB; rw [h]
theorem yes_i {c : zCo} {x : Int} {s : zIs} (h : zfi (cIs c) x = some s) : (∀ f, sIss c x f = (0, f s)) ∧ sFB c x = (0, (zfr (cDa c - iPr s).toNat).toInt32.toInt) ∧ sFr c x = (0, zfr (cDa c - iPr s).toNat) ∧ sCv c x = (0, FP.fdiv (FP.i2f (iI (iLi s))) (FP.i2f (iI (iCo s * iHe s)))) := by
  refine ⟨fun f => ?_, ?_, ?_, ?_⟩
  · unfold sIss; rw [h]
  · unfold sFB; rw [h]
  · unfold sFr; rw [h]
  · unfold sCv; rw [h]
/-- the column and the row of an article of an issue -/
theorem pos_i {ni nn da : Int} {c : zCo} {x a : Int} {s : zIs} (hs : isOK ni nn da s) (h : zfi (cIs c) x = some s) : ∃ cv rv : Int, wq [-13] (sPos c x a (fun s l => l / iHe s)) = cv ∧ wq [-13] (sPos c x a (fun s l => l % iHe s)) = rv ∧ (((zft s a).isSome = true ∧ (0 ≤ cv ∧ cv ≤ 80) ∧ 0 ≤ rv ∧ rv ≤ 80) ∨ ((zft s a).isSome = false ∧ cv = -13 ∧ rv = -13)) := by
  unfold sPos
  rw [h]
  dsimp only
  cases hz : zft s a with
  | none => exact ⟨-13, -13, rfl, rfl, Or.inr ⟨rfl, rfl, rfl⟩⟩
  | some l =>
    have hl : 0 ≤ l ∧ l ≤ 80 := by
      unfold zft at hz
      cases hf : (iTk s).find? (fun q => q.1 == a) with
      | none => rw [hf] at hz; cases hz
      | some q =>
        rw [hf] at hz
        have hq : q.2 = l := Option.some.inj hz
        have h1 := (hs.2.2.2.2.2.1 q (List.mem_of_find?_eq_some hf)).2
        have h2 := hs.2.2.2.1
        have h3 := mul_b hs.2.1 hs.2.2.1
        omega
    have hh := hs.2.2.1
    refine ⟨l / iHe s, l % iHe s, wq_0 rfl, wq_0 rfl, Or.inl ⟨rfl, ⟨Int.ediv_nonneg hl.1 (by omega), Int.le_trans (Int.ediv_le_self _ hl.1) hl.2⟩, Int.emod_nonneg _ (by omega), ?_⟩⟩
    have := Int.emod_lt_of_pos l (show 0 < iHe s by omega)
    omega
set_option maxHeartbeats 4000000 in
set_option maxRecDepth 100000 in
theorem lm_issues (l : Launch) (D : va_G) (cs : Nat → ClassId) (A : Nat → Prop) (G X : zF) (ob : Nat) (N : Nat) (tx inp out : List Int) (c0 : zCo) (hs : List zCo) (n : Nat) (hd : zdj G X) (hlt : l.stackTraces = false) (hG : lG cs G ob N tx inp out c0 hs) (hn5 : 1 ≤ n ∧ n ≤ 5) (hdj : dJ n 5 c0) : zM l D cs A yL_issues cL_issues 9 (some FieldType.boolean) 10 3000 14000 [.ref ob] (zun G X) (pGI (fun r G1 X1 => zle X X1 ∧ (∃ out1, lG cs G1 ob N tx inp out1 c0 hs) ∧ r = 1)) := by
  refine zM_of (own := RL) (by decide) rfl (Nat.le_of_ble_eq_true rfl) ?_
  intro p e s m below meth c hC hr hlk hnm hZ ls hl
  have hx := hC.x
  have hb := hC.b
  have hl : lv_has ls 9 [(0, .ref ob)] := hl
  have hW := zW3.of hZ hd
  have hK := hG.k
  have hcn := hdj.2.2.2
  have hi4 := hK.2.1
  refine z_iconst hx hb dL_issues_0 ?_
  refine lv_istore_n (lv' := [(1, .int (iI 0)), (0, .ref ob)]) hx hb dL_issues_1 rfl hl (by decide) rfl (fun ls hl => ?_)
  refine lv_fconst0 hx hb dL_issues_2 ?_
  refine lv_fstore_n (lv' := [(2, .float FP.fconst0), (1, .int (iI 0)), (0, .ref ob)]) hx hb dL_issues_3 rfl hl (by decide) rfl (fun ls hl => ?_)
  refine z_iconst hx hb dL_issues_4 ?_
  refine lv_istore_n (lv' := [(3, .int (iI 0)), (2, .float FP.fconst0), (1, .int (iI 0)), (0, .ref ob)]) hx hb dL_issues_5 rfl hl (by decide) rfl (fun ls hl => ?_)
  have L6_k_1 : ∀ (fu : Nat) (x fo : Int) (G1 : zF) (hfu : (20 - x).toNat < fu) (hi6_0 : 0 ≤ x ∧ x ≤ 20) (hi6_1 : 0 ≤ fo ∧ fo ≤ (cIs c0).length) (hG : lG cs G1 ob N tx inp out c0 hs) (hzp : zpa (cIs c0) fo x) (hfs : fP (zsf2 (cDa c0) ((cIs c0).take fo.toNat))) (H : Heap) (locs : List Loc) (hW : zW3 D A s G1 zE X H locs) (ls : Array Slot) (hl : lv_has ls 9 [(3, .int (iI x)), (2, .float (zsf2 (cDa c0) ((cIs c0).take fo.toNat))), (1, .int (iI fo)), (0, .ref ob)]), W p l e (zR 10 3000 14000) s m [.ref ob].toArray below meth c H locs (140 * x.toNat) (650 * x.toNat) (MQ below (zQ D A (pGI (fun r G1 X1 => zle X X1 ∧ (∃ out1, lG cs G1 ob N tx inp out1 c0 hs) ∧ r = 1))) [.ref ob].toArray s 3000 14000 A) (F0 m 6 ls []) := by
    intro fu
    induction fu with
    | zero =>
      intro x fo G1 hfu
      exact absurd hfu (Nat.not_lt_zero _)
    | succ fu ih6 =>
      intro x fo G1 hfu hi6_0 hi6_1 hG hzp hfs H locs hW ls hl
      refine lv_iload_n hx hb dL_issues_6 rfl (lv_at hl 0 rfl) ?_
      refine z_bipush hx hb dL_issues_7 (by decide) ?_
      refine z_icmp_ge (tgt := 312) hx hb dL_issues_9 (by decide) (by omega) (by decide) (fun c_2 => ?_) (fun c_2 => ?_)
      · skip
        have hfe : fo = (cIs c0).length := zpa_e hzp (fun s hs => by have z8 := (hK.2.2.2.2.1 s hs).1; omega) hi6_1
        have hta : (cIs c0).take fo.toNat = cIs c0 := List.take_of_length_le (by omega)
        have h99 := no_i (nois (x := 99) hK hdj (by omega))
        have h1m := no_i (nois (x := (-1)) hK hdj (by omega))
        refine lv_iload_n hx hb dL_issues_312 rfl (lv_at hl 2 rfl) ?_
        refine z_if_eq (tgt := 328) hx hb dL_issues_313 (by decide) (by omega) (fun c_3 => ?_) (fun c_3 => ?_)
        · skip
          refine z_iconst hx hb dL_issues_328 ?_
          refine lv_goto (tgt := 333) hx hb dL_issues_329 (by decide) ?_
          refine lv_istore_n (lv' := [(3, .int (iI 1)), (2, .float (zsf2 (cDa c0) ((cIs c0).take fo.toNat))), (1, .int (iI fo)), (0, .ref ob)]) hx hb dL_issues_333 rfl hl (by decide) rfl (fun ls hl => ?_)
          refine lv_iload_n hx hb dL_issues_334 rfl (lv_at hl 0 rfl) ?_
          refine z_if_eq (tgt := 433) hx hb dL_issues_335 (by decide) (by decide) (fun c_4 => ?_) (fun c_4 => ?_)
          · skip
            exfalso; omega
          · skip
            refine lv_aload_n hx hb dL_issues_338 rfl (lv_at hl 3 rfl) ?_
            obtain ⟨⟨g, sa, so, hL, sv, er, fa, hg⟩, hK, hh8, hhs, htz, ht60, hin, hN9⟩ := id hG
            obtain ⟨cap, hso⟩ := hg.2.2.2.2.1
            have hwi := hK.2.2.2.2.2.2.2.2.1
            refine z_cGi hC (z_frV (rest := []) (As := []) (n := 0) (ci := 15) hC hW.g (met_X12_issueCount l D cs (zfA G1 _) G1 ob g sa so er fa c0 hg.1 (hg.2.2.2.2.2.2.2.2.2.1.mono zrm_le)) gv_L_383 hd_X12_issueCount rfl hg.1 rfl hl rfl (Nat.le_of_ble_eq_true rfl) ⟨Nat.le_of_ble_eq_true rfl, Nat.le_of_ble_eq_true rfl⟩ ⟨(by show _ ≤ 3000; omega), (by show _ ≤ 14000; omega)⟩ dL_issues_339) hW (fun r339 G339 H locs hp339 hW => ?_)
            obtain ⟨rfl, rfl⟩ := hp339
            refine lv_iload_n hx hb dL_issues_342 rfl (lv_at hl 2 rfl) ?_
            refine z_icmp_ne (tgt := 433) hx hb dL_issues_343 (by decide) (by omega) (by omega) (fun c_5 => ?_) (fun c_5 => ?_)
            · skip
              exfalso; omega
            · skip
              refine lv_iload_n hx hb dL_issues_346 rfl (lv_at hl 2 rfl) ?_
              refine z_iconst hx hb dL_issues_347 ?_
              refine z_icmp_gt (tgt := 433) hx hb dL_issues_348 (by decide) (by omega) (by decide) (fun c_6 => ?_) (fun c_6 => ?_)
              · skip
                exfalso; omega
              · skip
                refine lv_aload_n hx hb dL_issues_351 rfl (lv_at hl 3 rfl) ?_
                refine z_bipush hx hb dL_issues_352 (by decide) ?_
                refine z_cGi hC (z_frSW (rest := []) (As := [.ref ob, .int (iI 99)]) (n := 2) hC hW.g (lw_articlesIn l D cs (zfA G1 _) G1 ob 99 N tx inp out c0 hs hlt hG (by decide)) (zgsW qm_L_348 qt_L_articlesIn qn_L qc_L_articlesIn) he_L_articlesIn rfl hl rfl (Nat.le_of_ble_eq_true rfl) ⟨Nat.le_of_ble_eq_true rfl, Nat.le_of_ble_eq_true rfl⟩ ⟨(by show _ ≤ 3000; omega), (by show _ ≤ 14000; omega)⟩ dL_issues_354) hW (fun r354 G354 H locs hp354 hW => ?_)
                obtain ⟨hG, rfl⟩ := hp354
                refine z_top (y := -13) (by rw [h99.1]; rfl) ?_
                refine z_bipush hx hb dL_issues_357 (by decide) ?_
                refine z_icmp_ne (tgt := 433) hx hb dL_issues_359 (by decide) (by decide) (by decide) (fun c_7 => ?_) (fun c_7 => ?_)
                · skip
                  exfalso; omega
                · skip
                  refine lv_aload_n hx hb dL_issues_362 rfl (lv_at hl 3 rfl) ?_
                  refine z_iconst hx hb dL_issues_363 ?_
                  refine z_cGi hC (z_frSW (rest := []) (As := [.ref ob, .int (iI (-1))]) (n := 2) hC hW.g (lw_linesIn l D cs (zfA G354 _) G354 ob (-1) N tx inp out c0 hs hlt hG (by decide)) (zgsW qm_L_350 qt_L_linesIn qn_L qc_L_linesIn) he_L_linesIn rfl hl rfl (Nat.le_of_ble_eq_true rfl) ⟨Nat.le_of_ble_eq_true rfl, Nat.le_of_ble_eq_true rfl⟩ ⟨(by show _ ≤ 3000; omega), (by show _ ≤ 14000; omega)⟩ dL_issues_364) hW (fun r364 G364 H locs hp364 hW => ?_)
                  obtain ⟨hG, rfl⟩ := hp364
                  refine z_top (y := -13) (by rw [h1m.1]; rfl) ?_
                  refine z_bipush hx hb dL_issues_367 (by decide) ?_
                  refine z_icmp_ne (tgt := 433) hx hb dL_issues_369 (by decide) (by decide) (by decide) (fun c_8 => ?_) (fun c_8 => ?_)
                  · skip
                    exfalso; omega
                  · skip
                    refine lv_aload_n hx hb dL_issues_372 rfl (lv_at hl 3 rfl) ?_
                    refine z_bipush hx hb dL_issues_373 (by decide) ?_
                    refine z_iconst hx hb dL_issues_375 ?_
                    refine z_cGi hC (z_frSW (rest := []) (As := [.ref ob, .int (iI 99), .int (iI 0)]) (n := 3) hC hW.g (lw_columnOf l D cs (zfA G364 _) G364 ob 99 0 N tx inp out c0 hs hlt hG (by decide) (by decide)) (zgsW qm_L_363 qt_L_columnOf qn_L qc_L_columnOf) he_L_columnOf rfl hl rfl (Nat.le_of_ble_eq_true rfl) ⟨Nat.le_of_ble_eq_true rfl, Nat.le_of_ble_eq_true rfl⟩ ⟨(by show _ ≤ 3000; omega), (by show _ ≤ 14000; omega)⟩ dL_issues_376) hW (fun r376 G376 H locs hp376 hW => ?_)
                    obtain ⟨hG, rfl⟩ := hp376
                    refine z_top (y := -13) (by rw [h99.2.1]; rfl) ?_
                    refine z_bipush hx hb dL_issues_379 (by decide) ?_
                    refine z_icmp_ne (tgt := 433) hx hb dL_issues_381 (by decide) (by decide) (by decide) (fun c_9 => ?_) (fun c_9 => ?_)
                    · skip
                      exfalso; omega
                    · skip
                      refine lv_aload_n hx hb dL_issues_384 rfl (lv_at hl 3 rfl) ?_
                      refine z_bipush hx hb dL_issues_385 (by decide) ?_
                      refine z_iconst hx hb dL_issues_387 ?_
                      refine z_cGi hC (z_frSW (rest := []) (As := [.ref ob, .int (iI 99), .int (iI 0)]) (n := 3) hC hW.g (lw_rowOf l D cs (zfA G376 _) G376 ob 99 0 N tx inp out c0 hs hlt hG (by decide) (by decide)) (zgsW qm_L_365 qt_L_rowOf qn_L qc_L_rowOf) he_L_rowOf rfl hl rfl (Nat.le_of_ble_eq_true rfl) ⟨Nat.le_of_ble_eq_true rfl, Nat.le_of_ble_eq_true rfl⟩ ⟨(by show _ ≤ 3000; omega), (by show _ ≤ 14000; omega)⟩ dL_issues_388) hW (fun r388 G388 H locs hp388 hW => ?_)
                      obtain ⟨hG, rfl⟩ := hp388
                      refine z_top (y := -13) (by rw [h99.2.1]; rfl) ?_
                      refine z_bipush hx hb dL_issues_391 (by decide) ?_
                      refine z_icmp_ne (tgt := 433) hx hb dL_issues_393 (by decide) (by decide) (by decide) (fun c_10 => ?_) (fun c_10 => ?_)
                      · skip
                        exfalso; omega
                      · skip
                        refine lv_aload_n hx hb dL_issues_396 rfl (lv_at hl 3 rfl) ?_
                        refine z_bipush hx hb dL_issues_397 (by decide) ?_
                        refine z_cGi hC (z_frSW (rest := []) (As := [.ref ob, .int (iI 99)]) (n := 2) hC hW.g (lw_freshBits l D cs (zfA G388 _) G388 ob 99 N tx inp out c0 hs hlt hG (by decide)) (zgsW qm_L_354 qt_L_freshBits qn_L qc_L_freshBits) he_L_freshBits rfl hl rfl (Nat.le_of_ble_eq_true rfl) ⟨Nat.le_of_ble_eq_true rfl, Nat.le_of_ble_eq_true rfl⟩ ⟨(by show _ ≤ 3000; omega), (by show _ ≤ 14000; omega)⟩ dL_issues_399) hW (fun r399 G399 H locs hp399 hW => ?_)
                        obtain ⟨hG, rfl⟩ := hp399
                        refine z_top (y := -13) (by rw [h99.2.2]; rfl) ?_
                        refine z_bipush hx hb dL_issues_402 (by decide) ?_
                        refine z_icmp_ne (tgt := 433) hx hb dL_issues_404 (by decide) (by decide) (by decide) (fun c_11 => ?_) (fun c_11 => ?_)
                        · skip
                          exfalso; omega
                        · skip
                          refine lv_aload_n hx hb dL_issues_407 rfl (lv_at hl 3 rfl) ?_
                          refine z_bipush hx hb dL_issues_408 (by decide) ?_
                          refine z_cGi hC (z_frSW (rest := []) (As := [.ref ob, .int (iI 99)]) (n := 2) hC hW.g (lw_isReadable l D cs (zfA G399 _) G399 ob 99 N tx inp out c0 hs hlt hG (by decide)) (zgsW qm_L_352 qt_L_isReadable qn_L qc_L_isReadable) he_L_isReadable rfl hl rfl (Nat.le_of_ble_eq_true rfl) ⟨Nat.le_of_ble_eq_true rfl, Nat.le_of_ble_eq_true rfl⟩ ⟨(by show _ ≤ 3000; omega), (by show _ ≤ 14000; omega)⟩ dL_issues_410) hW (fun r410 G410 H locs hp410 hW => ?_)
                          obtain ⟨hG, rfl⟩ := hp410
                          refine z_top (y := -13) (by rw [h99.1]; rfl) ?_
                          refine z_bipush hx hb dL_issues_413 (by decide) ?_
                          refine z_icmp_ne (tgt := 433) hx hb dL_issues_415 (by decide) (by decide) (by decide) (fun c_12 => ?_) (fun c_12 => ?_)
                          · skip
                            exfalso; omega
                          · skip
                            refine lv_aload_n hx hb dL_issues_418 rfl (lv_at hl 3 rfl) ?_
                            refine z_bipush hx hb dL_issues_419 (by decide) ?_
                            refine z_cGi hC (z_frSW (rest := []) (As := [.ref ob, .int (iI 99)]) (n := 2) hC hW.g (lw_daysUntil l D cs (zfA G410 _) G410 ob 99 N tx inp out c0 hs hlt hG (by decide)) (zgsW qm_L_367 qt_L_daysUntil qn_L qc_L_daysUntil) he_L_daysUntil rfl hl rfl (Nat.le_of_ble_eq_true rfl) ⟨Nat.le_of_ble_eq_true rfl, Nat.le_of_ble_eq_true rfl⟩ ⟨(by show _ ≤ 3000; omega), (by show _ ≤ 14000; omega)⟩ dL_issues_421) hW (fun r421 G421 H locs hp421 hW => ?_)
                            obtain ⟨hG, rfl⟩ := hp421
                            refine z_top (y := -13) (by rw [h99.1]; rfl) ?_
                            refine z_bipush hx hb dL_issues_424 (by decide) ?_
                            refine z_icmp_ne (tgt := 433) hx hb dL_issues_426 (by decide) (by decide) (by decide) (fun c_13 => ?_) (fun c_13 => ?_)
                            · skip
                              exfalso; omega
                            · skip
                              refine z_iconst hx hb dL_issues_429 ?_
                              refine lv_goto (tgt := 434) hx hb dL_issues_430 (by decide) ?_
                              exact z_zretG hC hr hlk hW rfl (by omega) (by omega) (⟨zle.refl, ⟨_, hG⟩, rfl⟩) dL_issues_434
        · skip
          have hne : cIs c0 ≠ [] := fun z => absurd (congrArg List.length z) (by show ¬ (cIs c0).length = 0; omega)
          have hmf : sMF c0 = (0, FP.fdiv (zsf2 (cDa c0) ((cIs c0).take fo.toNat)) (FP.i2f (iI fo))) := by unfold sMF; rw [if_neg hne, hta, hfe]
          have hfb := i2f_ok (z := fo) (by omega)
          have hfq : fP (FP.fdiv (zsf2 (cDa c0) ((cIs c0).take fo.toNat)) (FP.i2f (iI fo))) := fP_div hfs (hfb.2 (by omega))
          refine lv_aload_n hx hb dL_issues_316 rfl (lv_at hl 3 rfl) ?_
          obtain ⟨⟨g, sa, so, hL, sv, er, fa, hg⟩, hK, hh8, hhs, htz, ht60, hin, hN9⟩ := id hG
          obtain ⟨cap, hso⟩ := hg.2.2.2.2.1
          have hwi := hK.2.2.2.2.2.2.2.2.1
          refine z_cGf hC (z_xno (z_frX (rest := []) (As := []) (n := 0) (ci := 15) hC hW.g (met_X12_meanFreshness l D cs (zfA G1 _) G1 ob g sa so er fa c0 N hlt hg.1 (hg.2.2.2.2.2.2.2.2.2.1.mono zrm_le) hK) gv_L_379 hd_X12_meanFreshness rfl hg.1 rfl hl rfl (Nat.le_of_ble_eq_true rfl) ⟨Nat.le_of_ble_eq_true rfl, Nat.le_of_ble_eq_true rfl⟩ ⟨(by show _ ≤ 3000; omega), (by show _ ≤ 14000; omega)⟩ dL_issues_317) (fun E F1 hz => absurd (show (0 : Int) = 1 from (congrArg Prod.fst hmf).symm.trans hz.2.1) (by decide))) hW (fun r317 G317 H locs hp317 hW => ?_)
          obtain ⟨rfl, -, rfl⟩ := hp317
          refine z_topf (y := (FP.fdiv (zsf2 (cDa c0) ((cIs c0).take fo.toNat)) (FP.i2f (iI fo)))) (by first | rfl | rw [hmf]) ?_
          refine z_topf (y := (FP.fdiv (zsf2 (cDa c0) ((cIs c0).take fo.toNat)) (FP.i2f (iI fo)))) (by first | rfl | rw [hmf]) ?_
          refine lv_fload_n hx hb dL_issues_320 rfl (lv_at hl 1 rfl) ?_
          refine lv_iload_n hx hb dL_issues_321 rfl (lv_at hl 2 rfl) ?_
          refine lv_i2f hx hb dL_issues_322 ?_
          refine lv_fdiv hx hb dL_issues_323 (vf_of hfq) ?_
          refine lv_fcmp hx hb dL_issues_324 ?_
          refine z_topi (y := 0) (by rw [fcmp_self hfq]; rfl) ?_
          refine z_if_ne (tgt := 332) hx hb dL_issues_325 (by decide) (by decide) (fun c_14 => ?_) (fun c_14 => ?_)
          · skip
            exfalso; omega
          · skip
            refine z_iconst hx hb dL_issues_328 ?_
            refine lv_goto (tgt := 333) hx hb dL_issues_329 (by decide) ?_
            refine lv_istore_n (lv' := [(3, .int (iI 1)), (2, .float (zsf2 (cDa c0) ((cIs c0).take fo.toNat))), (1, .int (iI fo)), (0, .ref ob)]) hx hb dL_issues_333 rfl hl (by decide) rfl (fun ls hl => ?_)
            refine lv_iload_n hx hb dL_issues_334 rfl (lv_at hl 0 rfl) ?_
            refine z_if_eq (tgt := 433) hx hb dL_issues_335 (by decide) (by decide) (fun c_15 => ?_) (fun c_15 => ?_)
            · skip
              exfalso; omega
            · skip
              refine lv_aload_n hx hb dL_issues_338 rfl (lv_at hl 3 rfl) ?_
              obtain ⟨⟨g, sa, so, hL, sv, er, fa, hg⟩, hK, hh8, hhs, htz, ht60, hin, hN9⟩ := id hG
              obtain ⟨cap, hso⟩ := hg.2.2.2.2.1
              have hwi := hK.2.2.2.2.2.2.2.2.1
              refine z_cGi hC (z_frV (rest := []) (As := []) (n := 0) (ci := 15) hC hW.g (met_X12_issueCount l D cs (zfA G1 _) G1 ob g sa so er fa c0 hg.1 (hg.2.2.2.2.2.2.2.2.2.1.mono zrm_le)) gv_L_383 hd_X12_issueCount rfl hg.1 rfl hl rfl (Nat.le_of_ble_eq_true rfl) ⟨Nat.le_of_ble_eq_true rfl, Nat.le_of_ble_eq_true rfl⟩ ⟨(by show _ ≤ 3000; omega), (by show _ ≤ 14000; omega)⟩ dL_issues_339) hW (fun r339 G339 H locs hp339 hW => ?_)
              obtain ⟨rfl, rfl⟩ := hp339
              refine lv_iload_n hx hb dL_issues_342 rfl (lv_at hl 2 rfl) ?_
              refine z_icmp_ne (tgt := 433) hx hb dL_issues_343 (by decide) (by omega) (by omega) (fun c_16 => ?_) (fun c_16 => ?_)
              · skip
                exfalso; omega
              · skip
                refine lv_iload_n hx hb dL_issues_346 rfl (lv_at hl 2 rfl) ?_
                refine z_iconst hx hb dL_issues_347 ?_
                refine z_icmp_gt (tgt := 433) hx hb dL_issues_348 (by decide) (by omega) (by decide) (fun c_17 => ?_) (fun c_17 => ?_)
                · skip
                  exfalso; omega
                · skip
                  refine lv_aload_n hx hb dL_issues_351 rfl (lv_at hl 3 rfl) ?_
                  refine z_bipush hx hb dL_issues_352 (by decide) ?_
                  refine z_cGi hC (z_frSW (rest := []) (As := [.ref ob, .int (iI 99)]) (n := 2) hC hW.g (lw_articlesIn l D cs (zfA G1 _) G1 ob 99 N tx inp out c0 hs hlt hG (by decide)) (zgsW qm_L_348 qt_L_articlesIn qn_L qc_L_articlesIn) he_L_articlesIn rfl hl rfl (Nat.le_of_ble_eq_true rfl) ⟨Nat.le_of_ble_eq_true rfl, Nat.le_of_ble_eq_true rfl⟩ ⟨(by show _ ≤ 3000; omega), (by show _ ≤ 14000; omega)⟩ dL_issues_354) hW (fun r354 G354 H locs hp354 hW => ?_)
                  obtain ⟨hG, rfl⟩ := hp354
                  refine z_top (y := -13) (by rw [h99.1]; rfl) ?_
                  refine z_bipush hx hb dL_issues_357 (by decide) ?_
                  refine z_icmp_ne (tgt := 433) hx hb dL_issues_359 (by decide) (by decide) (by decide) (fun c_18 => ?_) (fun c_18 => ?_)
                  · skip
                    exfalso; omega
                  · skip
                    refine lv_aload_n hx hb dL_issues_362 rfl (lv_at hl 3 rfl) ?_
                    refine z_iconst hx hb dL_issues_363 ?_
                    refine z_cGi hC (z_frSW (rest := []) (As := [.ref ob, .int (iI (-1))]) (n := 2) hC hW.g (lw_linesIn l D cs (zfA G354 _) G354 ob (-1) N tx inp out c0 hs hlt hG (by decide)) (zgsW qm_L_350 qt_L_linesIn qn_L qc_L_linesIn) he_L_linesIn rfl hl rfl (Nat.le_of_ble_eq_true rfl) ⟨Nat.le_of_ble_eq_true rfl, Nat.le_of_ble_eq_true rfl⟩ ⟨(by show _ ≤ 3000; omega), (by show _ ≤ 14000; omega)⟩ dL_issues_364) hW (fun r364 G364 H locs hp364 hW => ?_)
                    obtain ⟨hG, rfl⟩ := hp364
                    refine z_top (y := -13) (by rw [h1m.1]; rfl) ?_
                    refine z_bipush hx hb dL_issues_367 (by decide) ?_
                    refine z_icmp_ne (tgt := 433) hx hb dL_issues_369 (by decide) (by decide) (by decide) (fun c_19 => ?_) (fun c_19 => ?_)
                    · skip
                      exfalso; omega
                    · skip
                      refine lv_aload_n hx hb dL_issues_372 rfl (lv_at hl 3 rfl) ?_
                      refine z_bipush hx hb dL_issues_373 (by decide) ?_
                      refine z_iconst hx hb dL_issues_375 ?_
                      refine z_cGi hC (z_frSW (rest := []) (As := [.ref ob, .int (iI 99), .int (iI 0)]) (n := 3) hC hW.g (lw_columnOf l D cs (zfA G364 _) G364 ob 99 0 N tx inp out c0 hs hlt hG (by decide) (by decide)) (zgsW qm_L_363 qt_L_columnOf qn_L qc_L_columnOf) he_L_columnOf rfl hl rfl (Nat.le_of_ble_eq_true rfl) ⟨Nat.le_of_ble_eq_true rfl, Nat.le_of_ble_eq_true rfl⟩ ⟨(by show _ ≤ 3000; omega), (by show _ ≤ 14000; omega)⟩ dL_issues_376) hW (fun r376 G376 H locs hp376 hW => ?_)
                      obtain ⟨hG, rfl⟩ := hp376
                      refine z_top (y := -13) (by rw [h99.2.1]; rfl) ?_
                      refine z_bipush hx hb dL_issues_379 (by decide) ?_
                      refine z_icmp_ne (tgt := 433) hx hb dL_issues_381 (by decide) (by decide) (by decide) (fun c_20 => ?_) (fun c_20 => ?_)
                      · skip
                        exfalso; omega
                      · skip
                        refine lv_aload_n hx hb dL_issues_384 rfl (lv_at hl 3 rfl) ?_
                        refine z_bipush hx hb dL_issues_385 (by decide) ?_
                        refine z_iconst hx hb dL_issues_387 ?_
                        refine z_cGi hC (z_frSW (rest := []) (As := [.ref ob, .int (iI 99), .int (iI 0)]) (n := 3) hC hW.g (lw_rowOf l D cs (zfA G376 _) G376 ob 99 0 N tx inp out c0 hs hlt hG (by decide) (by decide)) (zgsW qm_L_365 qt_L_rowOf qn_L qc_L_rowOf) he_L_rowOf rfl hl rfl (Nat.le_of_ble_eq_true rfl) ⟨Nat.le_of_ble_eq_true rfl, Nat.le_of_ble_eq_true rfl⟩ ⟨(by show _ ≤ 3000; omega), (by show _ ≤ 14000; omega)⟩ dL_issues_388) hW (fun r388 G388 H locs hp388 hW => ?_)
                        obtain ⟨hG, rfl⟩ := hp388
                        refine z_top (y := -13) (by rw [h99.2.1]; rfl) ?_
                        refine z_bipush hx hb dL_issues_391 (by decide) ?_
                        refine z_icmp_ne (tgt := 433) hx hb dL_issues_393 (by decide) (by decide) (by decide) (fun c_21 => ?_) (fun c_21 => ?_)
                        · skip
                          exfalso; omega
                        · skip
                          refine lv_aload_n hx hb dL_issues_396 rfl (lv_at hl 3 rfl) ?_
                          refine z_bipush hx hb dL_issues_397 (by decide) ?_
                          refine z_cGi hC (z_frSW (rest := []) (As := [.ref ob, .int (iI 99)]) (n := 2) hC hW.g (lw_freshBits l D cs (zfA G388 _) G388 ob 99 N tx inp out c0 hs hlt hG (by decide)) (zgsW qm_L_354 qt_L_freshBits qn_L qc_L_freshBits) he_L_freshBits rfl hl rfl (Nat.le_of_ble_eq_true rfl) ⟨Nat.le_of_ble_eq_true rfl, Nat.le_of_ble_eq_true rfl⟩ ⟨(by show _ ≤ 3000; omega), (by show _ ≤ 14000; omega)⟩ dL_issues_399) hW (fun r399 G399 H locs hp399 hW => ?_)
                          obtain ⟨hG, rfl⟩ := hp399
                          refine z_top (y := -13) (by rw [h99.2.2]; rfl) ?_
                          refine z_bipush hx hb dL_issues_402 (by decide) ?_
                          refine z_icmp_ne (tgt := 433) hx hb dL_issues_404 (by decide) (by decide) (by decide) (fun c_22 => ?_) (fun c_22 => ?_)
                          · skip
                            exfalso; omega
                          · skip
                            refine lv_aload_n hx hb dL_issues_407 rfl (lv_at hl 3 rfl) ?_
                            refine z_bipush hx hb dL_issues_408 (by decide) ?_
                            refine z_cGi hC (z_frSW (rest := []) (As := [.ref ob, .int (iI 99)]) (n := 2) hC hW.g (lw_isReadable l D cs (zfA G399 _) G399 ob 99 N tx inp out c0 hs hlt hG (by decide)) (zgsW qm_L_352 qt_L_isReadable qn_L qc_L_isReadable) he_L_isReadable rfl hl rfl (Nat.le_of_ble_eq_true rfl) ⟨Nat.le_of_ble_eq_true rfl, Nat.le_of_ble_eq_true rfl⟩ ⟨(by show _ ≤ 3000; omega), (by show _ ≤ 14000; omega)⟩ dL_issues_410) hW (fun r410 G410 H locs hp410 hW => ?_)
                            obtain ⟨hG, rfl⟩ := hp410
                            refine z_top (y := -13) (by rw [h99.1]; rfl) ?_
                            refine z_bipush hx hb dL_issues_413 (by decide) ?_
                            refine z_icmp_ne (tgt := 433) hx hb dL_issues_415 (by decide) (by decide) (by decide) (fun c_23 => ?_) (fun c_23 => ?_)
                            · skip
                              exfalso; omega
                            · skip
                              refine lv_aload_n hx hb dL_issues_418 rfl (lv_at hl 3 rfl) ?_
                              refine z_bipush hx hb dL_issues_419 (by decide) ?_
                              refine z_cGi hC (z_frSW (rest := []) (As := [.ref ob, .int (iI 99)]) (n := 2) hC hW.g (lw_daysUntil l D cs (zfA G410 _) G410 ob 99 N tx inp out c0 hs hlt hG (by decide)) (zgsW qm_L_367 qt_L_daysUntil qn_L qc_L_daysUntil) he_L_daysUntil rfl hl rfl (Nat.le_of_ble_eq_true rfl) ⟨Nat.le_of_ble_eq_true rfl, Nat.le_of_ble_eq_true rfl⟩ ⟨(by show _ ≤ 3000; omega), (by show _ ≤ 14000; omega)⟩ dL_issues_421) hW (fun r421 G421 H locs hp421 hW => ?_)
                              obtain ⟨hG, rfl⟩ := hp421
                              refine z_top (y := -13) (by rw [h99.1]; rfl) ?_
                              refine z_bipush hx hb dL_issues_424 (by decide) ?_
                              refine z_icmp_ne (tgt := 433) hx hb dL_issues_426 (by decide) (by decide) (by decide) (fun c_24 => ?_) (fun c_24 => ?_)
                              · skip
                                exfalso; omega
                              · skip
                                refine z_iconst hx hb dL_issues_429 ?_
                                refine lv_goto (tgt := 434) hx hb dL_issues_430 (by decide) ?_
                                exact z_zretG hC hr hlk hW rfl (by omega) (by omega) (⟨zle.refl, ⟨_, hG⟩, rfl⟩) dL_issues_434
      · skip
        rcases hz2 : zfi (cIs c0) x with _ | s2
        · skip
          have hni := no_i hz2
          refine lv_aload_n hx hb dL_issues_12 rfl (lv_at hl 3 rfl) ?_
          refine lv_iload_n hx hb dL_issues_13 rfl (lv_at hl 0 rfl) ?_
          obtain ⟨⟨g, sa, so, hL, sv, er, fa, hg⟩, hK, hh8, hhs, htz, ht60, hin, hN9⟩ := id hG
          obtain ⟨cap, hso⟩ := hg.2.2.2.2.1
          have hwi := hK.2.2.2.2.2.2.2.2.1
          refine z_cGi hC (z_frV (rest := []) (As := [.int (iI x)]) (n := 1) (ci := 15) hC hW.g (met_X12_isKept l D cs (zfA G1 _) G1 ob g sa so er fa c0 x hg.1 (hg.2.2.2.2.2.2.2.2.2.1.mono zrm_le) (by omega)) gv_L_345 hd_X12_isKept rfl hg.1 rfl hl rfl (Nat.le_of_ble_eq_true rfl) ⟨Nat.le_of_ble_eq_true rfl, Nat.le_of_ble_eq_true rfl⟩ ⟨(by show _ ≤ 3000; omega), (by show _ ≤ 14000; omega)⟩ dL_issues_14) hW (fun r14 G14 H locs hp14 hW => ?_)
          obtain ⟨rfl, hp14⟩ := hp14
          refine z_top (y := 0) (by rcases hp14 with z | z; exact absurd z.1 (by rw [hz2]; simp); exact z.2) ?_
          refine lv_istore (lv' := [(4, .int (iI 0)), (3, .int (iI x)), (2, .float (zsf2 (cDa c0) ((cIs c0).take fo.toNat))), (1, .int (iI fo)), (0, .ref ob)]) hx hb dL_issues_17 hl (by decide) rfl (fun ls hl => ?_)
          refine lv_iload hx hb dL_issues_19 (lv_at hl 0 rfl) ?_
          refine lv_aload_n hx hb dL_issues_21 rfl (lv_at hl 4 rfl) ?_
          refine lv_iload_n hx hb dL_issues_22 rfl (lv_at hl 1 rfl) ?_
          refine z_cGi hC (z_frSW (rest := [.int (iI 0)]) (As := [.ref ob, .int (iI x)]) (n := 2) hC hW.g (lw_articlesIn l D cs (zfA G1 _) G1 ob x N tx inp out c0 hs hlt hG (by omega)) (zgsW qm_L_348 qt_L_articlesIn qn_L qc_L_articlesIn) he_L_articlesIn rfl hl rfl (Nat.le_of_ble_eq_true rfl) ⟨Nat.le_of_ble_eq_true rfl, Nat.le_of_ble_eq_true rfl⟩ ⟨(by show _ ≤ 3000; omega), (by show _ ≤ 14000; omega)⟩ dL_issues_23) hW (fun r23 G23 H locs hp23 hW => ?_)
          obtain ⟨hG, rfl⟩ := hp23
          refine z_top (y := -13) (by rw [hni.1]; rfl) ?_
          refine z_if_lt (tgt := 33) hx hb dL_issues_26 (by decide) (by decide) (fun c_25 => ?_) (fun c_25 => ?_)
          · skip
            refine z_iconst hx hb dL_issues_33 ?_
            refine z_icmp_ne (tgt := 91) hx hb dL_issues_34 (by decide) (by decide) (by decide) (fun c_26 => ?_) (fun c_26 => ?_)
            · skip
              exfalso; omega
            · skip
              refine lv_iload hx hb dL_issues_37 (lv_at hl 0 rfl) ?_
              refine lv_aload_n hx hb dL_issues_39 rfl (lv_at hl 4 rfl) ?_
              refine lv_iload_n hx hb dL_issues_40 rfl (lv_at hl 1 rfl) ?_
              refine z_cGi hC (z_frSW (rest := [.int (iI 0)]) (As := [.ref ob, .int (iI x)]) (n := 2) hC hW.g (lw_linesIn l D cs (zfA G23 _) G23 ob x N tx inp out c0 hs hlt hG (by omega)) (zgsW qm_L_350 qt_L_linesIn qn_L qc_L_linesIn) he_L_linesIn rfl hl rfl (Nat.le_of_ble_eq_true rfl) ⟨Nat.le_of_ble_eq_true rfl, Nat.le_of_ble_eq_true rfl⟩ ⟨(by show _ ≤ 3000; omega), (by show _ ≤ 14000; omega)⟩ dL_issues_41) hW (fun r41 G41 H locs hp41 hW => ?_)
              obtain ⟨hG, rfl⟩ := hp41
              refine z_top (y := -13) (by rw [hni.1]; rfl) ?_
              refine z_if_lt (tgt := 51) hx hb dL_issues_44 (by decide) (by decide) (fun c_27 => ?_) (fun c_27 => ?_)
              · skip
                refine z_iconst hx hb dL_issues_51 ?_
                refine z_icmp_ne (tgt := 91) hx hb dL_issues_52 (by decide) (by decide) (by decide) (fun c_28 => ?_) (fun c_28 => ?_)
                · skip
                  exfalso; omega
                · skip
                  refine lv_iload hx hb dL_issues_55 (lv_at hl 0 rfl) ?_
                  refine lv_aload_n hx hb dL_issues_57 rfl (lv_at hl 4 rfl) ?_
                  refine lv_iload_n hx hb dL_issues_58 rfl (lv_at hl 1 rfl) ?_
                  refine z_cGi hC (z_frSW (rest := [.int (iI 0)]) (As := [.ref ob, .int (iI x)]) (n := 2) hC hW.g (lw_isReadable l D cs (zfA G41 _) G41 ob x N tx inp out c0 hs hlt hG (by omega)) (zgsW qm_L_352 qt_L_isReadable qn_L qc_L_isReadable) he_L_isReadable rfl hl rfl (Nat.le_of_ble_eq_true rfl) ⟨Nat.le_of_ble_eq_true rfl, Nat.le_of_ble_eq_true rfl⟩ ⟨(by show _ ≤ 3000; omega), (by show _ ≤ 14000; omega)⟩ dL_issues_59) hW (fun r59 G59 H locs hp59 hW => ?_)
                  obtain ⟨hG, rfl⟩ := hp59
                  refine z_top (y := -13) (by rw [hni.1]; rfl) ?_
                  refine z_if_lt (tgt := 69) hx hb dL_issues_62 (by decide) (by decide) (fun c_29 => ?_) (fun c_29 => ?_)
                  · skip
                    refine z_iconst hx hb dL_issues_69 ?_
                    refine z_icmp_ne (tgt := 91) hx hb dL_issues_70 (by decide) (by decide) (by decide) (fun c_30 => ?_) (fun c_30 => ?_)
                    · skip
                      exfalso; omega
                    · skip
                      refine lv_iload hx hb dL_issues_73 (lv_at hl 0 rfl) ?_
                      refine lv_aload_n hx hb dL_issues_75 rfl (lv_at hl 4 rfl) ?_
                      refine lv_iload_n hx hb dL_issues_76 rfl (lv_at hl 1 rfl) ?_
                      refine z_cGi hC (z_frSW (rest := [.int (iI 0)]) (As := [.ref ob, .int (iI x)]) (n := 2) hC hW.g (lw_freshBits l D cs (zfA G59 _) G59 ob x N tx inp out c0 hs hlt hG (by omega)) (zgsW qm_L_354 qt_L_freshBits qn_L qc_L_freshBits) he_L_freshBits rfl hl rfl (Nat.le_of_ble_eq_true rfl) ⟨Nat.le_of_ble_eq_true rfl, Nat.le_of_ble_eq_true rfl⟩ ⟨(by show _ ≤ 3000; omega), (by show _ ≤ 14000; omega)⟩ dL_issues_77) hW (fun r77 G77 H locs hp77 hW => ?_)
                      obtain ⟨hG, rfl⟩ := hp77
                      refine z_top (y := -13) (by rw [hni.2.2]; rfl) ?_
                      refine z_if_lt (tgt := 87) hx hb dL_issues_80 (by decide) (by decide) (fun c_31 => ?_) (fun c_31 => ?_)
                      · skip
                        refine z_iconst hx hb dL_issues_87 ?_
                        refine z_icmp_eq (tgt := 93) hx hb dL_issues_88 (by decide) (by decide) (by decide) (fun c_32 => ?_) (fun c_32 => ?_)
                        · skip
                          refine lv_iload hx hb dL_issues_93 (lv_at hl 0 rfl) ?_
                          refine z_if_eq (tgt := 306) hx hb dL_issues_95 (by decide) (by decide) (fun c_33 => ?_) (fun c_33 => ?_)
                          · skip
                            refine z_iinc (lv' := [(3, .int (iI (x + 1))), (4, .int (iI 0)), (2, .float (zsf2 (cDa c0) ((cIs c0).take fo.toNat))), (1, .int (iI fo)), (0, .ref ob)]) hx hb dL_issues_306 hl (k := 1) rfl (by decide) rfl (fun ls hl => ?_)
                            refine lv_goto (tgt := 6) hx hb dL_issues_309 (by decide) ?_
                            refine W.widen (k := (140 * (x + 1).toNat)) (n := (650 * (x + 1).toNat)) (by omega) (by omega) ?_
                            exact ih6 (x + 1) fo G77 (by omega) (by omega) (by omega) hG (zpa_n hzp hz2) hfs _ _ hW ls (lv_sub hl [0, 2, 3, 4] rfl)
                          · skip
                            exfalso; omega
                        · skip
                          exfalso; omega
                      · skip
                        exfalso; omega
                  · skip
                    exfalso; omega
              · skip
                exfalso; omega
          · skip
            exfalso; omega
        · skip
          obtain ⟨hy1, hy2, hy3, hy4⟩ := yes_i hz2
          have hiso := hK.2.2.2.2.1 s2 (zfi_mem hz2)
          have hfp := fP_int (zfr_P (cDa c0 - iPr s2).toNat)
          obtain ⟨rd, hrd⟩ : ∃ rd : Int, rd = (if cDa c0 - iPr s2 < 5 then 1 else 0) := ⟨_, rfl⟩
          have hrd2 : (cDa c0 - iPr s2 < 5 ∧ rd = 1) ∨ (¬ cDa c0 - iPr s2 < 5 ∧ rd = 0) := by rw [hrd]; split <;> omega
          obtain ⟨dv, hdv⟩ : ∃ dv : Int, dv = (if cDa c0 - iPr s2 < 5 then 5 - (cDa c0 - iPr s2) else 0) := ⟨_, rfl⟩
          have hdv2 : (cDa c0 - iPr s2 < 5 ∧ dv = 5 - (cDa c0 - iPr s2)) ∨ (¬ cDa c0 - iPr s2 < 5 ∧ dv = 0) := by rw [hdv]; split <;> omega
          have hda := hiso.2.2.2.2.2.2.2
          have hmb := mul_b hiso.2.1 hiso.2.2.1
          have hli := hiso.2.2.2.1
          have htl := hiso.2.2.2.2.1
          have hzy := zpa_y hK.2.2.2.2.2.1 hzp hi6_1.1 hz2
          refine lv_aload_n hx hb dL_issues_12 rfl (lv_at hl 3 rfl) ?_
          refine lv_iload_n hx hb dL_issues_13 rfl (lv_at hl 0 rfl) ?_
          obtain ⟨⟨g, sa, so, hL, sv, er, fa, hg⟩, hK, hh8, hhs, htz, ht60, hin, hN9⟩ := id hG
          obtain ⟨cap, hso⟩ := hg.2.2.2.2.1
          have hwi := hK.2.2.2.2.2.2.2.2.1
          refine z_cGi hC (z_frV (rest := []) (As := [.int (iI x)]) (n := 1) (ci := 15) hC hW.g (met_X12_isKept l D cs (zfA G1 _) G1 ob g sa so er fa c0 x hg.1 (hg.2.2.2.2.2.2.2.2.2.1.mono zrm_le) (by omega)) gv_L_345 hd_X12_isKept rfl hg.1 rfl hl rfl (Nat.le_of_ble_eq_true rfl) ⟨Nat.le_of_ble_eq_true rfl, Nat.le_of_ble_eq_true rfl⟩ ⟨(by show _ ≤ 3000; omega), (by show _ ≤ 14000; omega)⟩ dL_issues_14) hW (fun r14 G14 H locs hp14 hW => ?_)
          obtain ⟨rfl, hp14⟩ := hp14
          refine z_top (y := 1) (by rcases hp14 with z | z; exact z.2; exact absurd z.1 (by rw [hz2]; simp)) ?_
          refine lv_istore (lv' := [(4, .int (iI 1)), (3, .int (iI x)), (2, .float (zsf2 (cDa c0) ((cIs c0).take fo.toNat))), (1, .int (iI fo)), (0, .ref ob)]) hx hb dL_issues_17 hl (by decide) rfl (fun ls hl => ?_)
          refine lv_iload hx hb dL_issues_19 (lv_at hl 0 rfl) ?_
          refine lv_aload_n hx hb dL_issues_21 rfl (lv_at hl 4 rfl) ?_
          refine lv_iload_n hx hb dL_issues_22 rfl (lv_at hl 1 rfl) ?_
          refine z_cGi hC (z_frSW (rest := [.int (iI 1)]) (As := [.ref ob, .int (iI x)]) (n := 2) hC hW.g (lw_articlesIn l D cs (zfA G1 _) G1 ob x N tx inp out c0 hs hlt hG (by omega)) (zgsW qm_L_348 qt_L_articlesIn qn_L qc_L_articlesIn) he_L_articlesIn rfl hl rfl (Nat.le_of_ble_eq_true rfl) ⟨Nat.le_of_ble_eq_true rfl, Nat.le_of_ble_eq_true rfl⟩ ⟨(by show _ ≤ 3000; omega), (by show _ ≤ 14000; omega)⟩ dL_issues_23) hW (fun r23 G23 H locs hp23 hW => ?_)
          obtain ⟨hG, rfl⟩ := hp23
          refine z_top (y := ((iTk s2).length : Int)) (by rw [hy1]; rfl) ?_
          refine z_if_lt (tgt := 33) hx hb dL_issues_26 (by decide) (by omega) (fun c_34 => ?_) (fun c_34 => ?_)
          · skip
            exfalso; omega
          · skip
            refine z_iconst hx hb dL_issues_29 ?_
            refine lv_goto (tgt := 34) hx hb dL_issues_30 (by decide) ?_
            refine z_icmp_ne (tgt := 91) hx hb dL_issues_34 (by decide) (by decide) (by decide) (fun c_35 => ?_) (fun c_35 => ?_)
            · skip
              exfalso; omega
            · skip
              refine lv_iload hx hb dL_issues_37 (lv_at hl 0 rfl) ?_
              refine lv_aload_n hx hb dL_issues_39 rfl (lv_at hl 4 rfl) ?_
              refine lv_iload_n hx hb dL_issues_40 rfl (lv_at hl 1 rfl) ?_
              refine z_cGi hC (z_frSW (rest := [.int (iI 1)]) (As := [.ref ob, .int (iI x)]) (n := 2) hC hW.g (lw_linesIn l D cs (zfA G23 _) G23 ob x N tx inp out c0 hs hlt hG (by omega)) (zgsW qm_L_350 qt_L_linesIn qn_L qc_L_linesIn) he_L_linesIn rfl hl rfl (Nat.le_of_ble_eq_true rfl) ⟨Nat.le_of_ble_eq_true rfl, Nat.le_of_ble_eq_true rfl⟩ ⟨(by show _ ≤ 3000; omega), (by show _ ≤ 14000; omega)⟩ dL_issues_41) hW (fun r41 G41 H locs hp41 hW => ?_)
              obtain ⟨hG, rfl⟩ := hp41
              refine z_top (y := (iLi s2)) (by rw [hy1]; rfl) ?_
              refine z_if_lt (tgt := 51) hx hb dL_issues_44 (by decide) (by omega) (fun c_36 => ?_) (fun c_36 => ?_)
              · skip
                exfalso; omega
              · skip
                refine z_iconst hx hb dL_issues_47 ?_
                refine lv_goto (tgt := 52) hx hb dL_issues_48 (by decide) ?_
                refine z_icmp_ne (tgt := 91) hx hb dL_issues_52 (by decide) (by decide) (by decide) (fun c_37 => ?_) (fun c_37 => ?_)
                · skip
                  exfalso; omega
                · skip
                  refine lv_iload hx hb dL_issues_55 (lv_at hl 0 rfl) ?_
                  refine lv_aload_n hx hb dL_issues_57 rfl (lv_at hl 4 rfl) ?_
                  refine lv_iload_n hx hb dL_issues_58 rfl (lv_at hl 1 rfl) ?_
                  refine z_cGi hC (z_frSW (rest := [.int (iI 1)]) (As := [.ref ob, .int (iI x)]) (n := 2) hC hW.g (lw_isReadable l D cs (zfA G41 _) G41 ob x N tx inp out c0 hs hlt hG (by omega)) (zgsW qm_L_352 qt_L_isReadable qn_L qc_L_isReadable) he_L_isReadable rfl hl rfl (Nat.le_of_ble_eq_true rfl) ⟨Nat.le_of_ble_eq_true rfl, Nat.le_of_ble_eq_true rfl⟩ ⟨(by show _ ≤ 3000; omega), (by show _ ≤ 14000; omega)⟩ dL_issues_59) hW (fun r59 G59 H locs hp59 hW => ?_)
                  obtain ⟨hG, rfl⟩ := hp59
                  refine z_top (y := rd) (by rw [hy1]; exact (wq_0 rfl).trans hrd.symm) ?_
                  refine z_if_lt (tgt := 69) hx hb dL_issues_62 (by decide) (by omega) (fun c_38 => ?_) (fun c_38 => ?_)
                  · skip
                    exfalso; omega
                  · skip
                    refine z_iconst hx hb dL_issues_65 ?_
                    refine lv_goto (tgt := 70) hx hb dL_issues_66 (by decide) ?_
                    refine z_icmp_ne (tgt := 91) hx hb dL_issues_70 (by decide) (by decide) (by decide) (fun c_39 => ?_) (fun c_39 => ?_)
                    · skip
                      exfalso; omega
                    · skip
                      refine lv_iload hx hb dL_issues_73 (lv_at hl 0 rfl) ?_
                      refine lv_aload_n hx hb dL_issues_75 rfl (lv_at hl 4 rfl) ?_
                      refine lv_iload_n hx hb dL_issues_76 rfl (lv_at hl 1 rfl) ?_
                      refine z_cGi hC (z_frSW (rest := [.int (iI 1)]) (As := [.ref ob, .int (iI x)]) (n := 2) hC hW.g (lw_freshBits l D cs (zfA G59 _) G59 ob x N tx inp out c0 hs hlt hG (by omega)) (zgsW qm_L_354 qt_L_freshBits qn_L qc_L_freshBits) he_L_freshBits rfl hl rfl (Nat.le_of_ble_eq_true rfl) ⟨Nat.le_of_ble_eq_true rfl, Nat.le_of_ble_eq_true rfl⟩ ⟨(by show _ ≤ 3000; omega), (by show _ ≤ 14000; omega)⟩ dL_issues_77) hW (fun r77 G77 H locs hp77 hW => ?_)
                      obtain ⟨hG, rfl⟩ := hp77
                      refine z_top (y := ((zfr (cDa c0 - iPr s2).toNat).toInt32.toInt)) (by rw [hy2]; rfl) ?_
                      refine z_if_lt (tgt := 87) hx hb dL_issues_80 (by decide) (by omega) (fun c_40 => ?_) (fun c_40 => ?_)
                      · skip
                        exfalso; omega
                      · skip
                        refine z_iconst hx hb dL_issues_83 ?_
                        refine lv_goto (tgt := 88) hx hb dL_issues_84 (by decide) ?_
                        refine z_icmp_eq (tgt := 93) hx hb dL_issues_88 (by decide) (by decide) (by decide) (fun c_41 => ?_) (fun c_41 => ?_)
                        · skip
                          refine lv_iload hx hb dL_issues_93 (lv_at hl 0 rfl) ?_
                          refine z_if_eq (tgt := 306) hx hb dL_issues_95 (by decide) (by decide) (fun c_42 => ?_) (fun c_42 => ?_)
                          · skip
                            exfalso; omega
                          · skip
                            refine lv_aload_n hx hb dL_issues_98 rfl (lv_at hl 4 rfl) ?_
                            refine lv_iload_n hx hb dL_issues_99 rfl (lv_at hl 1 rfl) ?_
                            obtain ⟨⟨g, sa, so, hL, sv, er, fa, hg⟩, hK, hh8, hhs, htz, ht60, hin, hN9⟩ := id hG
                            obtain ⟨cap, hso⟩ := hg.2.2.2.2.1
                            have hwi := hK.2.2.2.2.2.2.2.2.1
                            refine z_cGf hC (z_xno (z_frX (rest := []) (As := [.int (iI x)]) (n := 1) (ci := 15) hC hW.g (met_X12_freshness l D cs (zfA G77 _) G77 ob g sa so er fa c0 x hlt hg.1 (hg.2.2.2.2.2.2.2.2.2.1.mono zrm_le) (by omega)) gv_L_357 hd_X12_freshness rfl hg.1 rfl hl rfl (Nat.le_of_ble_eq_true rfl) ⟨Nat.le_of_ble_eq_true rfl, Nat.le_of_ble_eq_true rfl⟩ ⟨(by show _ ≤ 3000; omega), (by show _ ≤ 14000; omega)⟩ dL_issues_100) (fun E F1 hz => absurd (show (0 : Int) = 1 from (congrArg Prod.fst hy3).symm.trans hz.2.1) (by decide))) hW (fun r100 G100 H locs hp100 hW => ?_)
                            obtain ⟨rfl, -, rfl⟩ := hp100
                            refine z_topf (y := (zfr (cDa c0 - iPr s2).toNat)) (by first | rfl | rw [hy3]) ?_
                            refine z_topf (y := (zfr (cDa c0 - iPr s2).toNat)) (by first | rfl | rw [hy3]) ?_
                            refine lv_fstore (lv' := [(5, .float (zfr (cDa c0 - iPr s2).toNat)), (4, .int (iI 1)), (3, .int (iI x)), (2, .float (zsf2 (cDa c0) ((cIs c0).take fo.toNat))), (1, .int (iI fo)), (0, .ref ob)]) hx hb dL_issues_103 hl (by decide) rfl (fun ls hl => ?_)
                            refine z_iconst hx hb dL_issues_105 ?_
                            refine lv_istore (lv' := [(6, .int (iI 0)), (5, .float (zfr (cDa c0 - iPr s2).toNat)), (4, .int (iI 1)), (3, .int (iI x)), (2, .float (zsf2 (cDa c0) ((cIs c0).take fo.toNat))), (1, .int (iI fo)), (0, .ref ob)]) hx hb dL_issues_106 hl (by decide) rfl (fun ls hl => ?_)
                            refine lv_fload hx hb dL_issues_108 (lv_at hl 1 rfl) ?_
                            refine lv_fstore (lv' := [(7, .float (zfr (cDa c0 - iPr s2).toNat)), (6, .int (iI 0)), (5, .float (zfr (cDa c0 - iPr s2).toNat)), (4, .int (iI 1)), (3, .int (iI x)), (2, .float (zsf2 (cDa c0) ((cIs c0).take fo.toNat))), (1, .int (iI fo)), (0, .ref ob)]) hx hb dL_issues_110 hl (by decide) rfl (fun ls hl => ?_)
                            have L112_k_43 : ∀ (fu : Nat) (lf : Int)  (hfu : (5 - lf).toNat < fu) (hi112_0 : 0 ≤ lf ∧ lf ≤ 5) (hi112_1 : lf = 0 ∨ ((cDa c0 - iPr s2).toNat : Int) + lf ≤ 5) (H : Heap) (locs : List Loc) (hW : zW3 D A s G77 zE X H locs) (ls : Array Slot) (hl : lv_has ls 9 [(7, .float (zfr ((cDa c0 - iPr s2).toNat + lf.toNat))), (6, .int (iI lf)), (5, .float (zfr (cDa c0 - iPr s2).toNat)), (4, .int (iI 1)), (3, .int (iI x)), (2, .float (zsf2 (cDa c0) ((cIs c0).take fo.toNat))), (1, .int (iI fo)), (0, .ref ob)]), W p l e (zR 10 3000 14000) s m [.ref ob].toArray below meth c H locs ((140 * x.toNat) + 1 + 1 + 1 + 1 + 1) ((650 * x.toNat) + 6 + 6 + 6 + 6 + 6) (MQ below (zQ D A (pGI (fun r G1 X1 => zle X X1 ∧ (∃ out1, lG cs G1 ob N tx inp out1 c0 hs) ∧ r = 1))) [.ref ob].toArray s 3000 14000 A) (F0 m 112 ls []) := by
                              intro fu
                              induction fu with
                              | zero =>
                                intro lf  hfu
                                exact absurd hfu (Nat.not_lt_zero _)
                              | succ fu ih112 =>
                                intro lf  hfu hi112_0 hi112_1  H locs hW ls hl
                                refine lv_fload hx hb dL_issues_112 (lv_at hl 0 rfl) ?_
                                refine z_ldcfw (v := 1048576000) hC qz_1570 dL_issues_114 ?_
                                refine lv_fcmp hx hb dL_issues_117 ?_
                                refine z_topi (y := (Op.cmpValue (FP.fcmp (zfr ((cDa c0 - iPr s2).toNat + lf.toNat)) (1048576000 : UInt32)) .l).toInt) (iI_of _) ?_
                                have hrr := iI_rng (Op.cmpValue (FP.fcmp (zfr ((cDa c0 - iPr s2).toNat + lf.toNat)) (1048576000 : UInt32)) .l)
                                have hrdz := zfr_read ((cDa c0 - iPr s2).toNat + lf.toNat)
                                refine z_if_lt (tgt := 135) hx hb dL_issues_118 (by decide) hrr (fun c_44 => ?_) (fun c_44 => ?_)
                                · skip
                                  refine z_iconst hx hb dL_issues_135 ?_
                                  refine lv_istore (lv' := [(7, .int (iI 0)), (6, .int (iI lf)), (5, .float (zfr (cDa c0 - iPr s2).toNat)), (4, .int (iI 1)), (3, .int (iI x)), (2, .float (zsf2 (cDa c0) ((cIs c0).take fo.toNat))), (1, .int (iI fo)), (0, .ref ob)]) hx hb dL_issues_136 hl (by decide) rfl (fun ls hl => ?_)
                                  refine z_iconst hx hb dL_issues_138 ?_
                                  refine lv_istore (lv' := [(8, .int (iI 0)), (7, .int (iI 0)), (6, .int (iI lf)), (5, .float (zfr (cDa c0 - iPr s2).toNat)), (4, .int (iI 1)), (3, .int (iI x)), (2, .float (zsf2 (cDa c0) ((cIs c0).take fo.toNat))), (1, .int (iI fo)), (0, .ref ob)]) hx hb dL_issues_139 hl (by decide) rfl (fun ls hl => ?_)
                                  have L141_k_45 : ∀ (fu : Nat) (a mm : Int) (G1 : zF) (hfu : (9 - a).toNat < fu) (hi141_0 : 0 ≤ a ∧ a ≤ 9) (hi141_1 : mm = zcn s2 a) (hG : lG cs G1 ob N tx inp out c0 hs) (H : Heap) (locs : List Loc) (hW : zW3 D A s G1 zE X H locs) (ls : Array Slot) (hl : lv_has ls 9 [(8, .int (iI a)), (7, .int (iI mm)), (6, .int (iI lf)), (5, .float (zfr (cDa c0 - iPr s2).toNat)), (4, .int (iI 1)), (3, .int (iI x)), (2, .float (zsf2 (cDa c0) ((cIs c0).take fo.toNat))), (1, .int (iI fo)), (0, .ref ob)]), W p l e (zR 10 3000 14000) s m [.ref ob].toArray below meth c H locs (140 * x.toNat + 10 + 6 * a.toNat) (650 * x.toNat + 40 + 36 * a.toNat) (MQ below (zQ D A (pGI (fun r G1 X1 => zle X X1 ∧ (∃ out1, lG cs G1 ob N tx inp out1 c0 hs) ∧ r = 1))) [.ref ob].toArray s 3000 14000 A) (F0 m 141 ls []) := by
                                    intro fu
                                    induction fu with
                                    | zero =>
                                      intro a mm G1 hfu
                                      exact absurd hfu (Nat.not_lt_zero _)
                                    | succ fu ih141 =>
                                      intro a mm G1 hfu hi141_0 hi141_1 hG H locs hW ls hl
                                      refine lv_iload hx hb dL_issues_141 (lv_at hl 0 rfl) ?_
                                      refine z_bipush hx hb dL_issues_143 (by decide) ?_
                                      refine z_icmp_ge (tgt := 209) hx hb dL_issues_145 (by decide) (by omega) (by decide) (fun c_46 => ?_) (fun c_46 => ?_)
                                      · skip
                                        refine lv_aload_n hx hb dL_issues_209 rfl (lv_at hl 8 rfl) ?_
                                        refine lv_iload_n hx hb dL_issues_210 rfl (lv_at hl 5 rfl) ?_
                                        refine z_cGi hC (z_frSW (rest := []) (As := [.ref ob, .int (iI x)]) (n := 2) hC hW.g (lw_daysUntil l D cs (zfA G1 _) G1 ob x N tx inp out c0 hs hlt hG (by omega)) (zgsW qm_L_367 qt_L_daysUntil qn_L qc_L_daysUntil) he_L_daysUntil rfl hl rfl (Nat.le_of_ble_eq_true rfl) ⟨Nat.le_of_ble_eq_true rfl, Nat.le_of_ble_eq_true rfl⟩ ⟨(by show _ ≤ 3000; omega), (by show _ ≤ 14000; omega)⟩ dL_issues_211) hW (fun r211 G211 H locs hp211 hW => ?_)
                                        obtain ⟨hG, rfl⟩ := hp211
                                        refine z_top (y := dv) (by rw [hy1]; exact (wq_0 rfl).trans hdv.symm) ?_
                                        refine lv_iload hx hb dL_issues_214 (lv_at hl 2 rfl) ?_
                                        refine z_icmp_ne (tgt := 258) hx hb dL_issues_216 (by decide) (by omega) (by omega) (fun c_47 => ?_) (fun c_47 => ?_)
                                        · skip
                                          exfalso; omega
                                        · skip
                                          refine lv_aload_n hx hb dL_issues_219 rfl (lv_at hl 8 rfl) ?_
                                          refine lv_iload_n hx hb dL_issues_220 rfl (lv_at hl 5 rfl) ?_
                                          refine z_cGi hC (z_frSW (rest := []) (As := [.ref ob, .int (iI x)]) (n := 2) hC hW.g (lw_isReadable l D cs (zfA G211 _) G211 ob x N tx inp out c0 hs hlt hG (by omega)) (zgsW qm_L_352 qt_L_isReadable qn_L qc_L_isReadable) he_L_isReadable rfl hl rfl (Nat.le_of_ble_eq_true rfl) ⟨Nat.le_of_ble_eq_true rfl, Nat.le_of_ble_eq_true rfl⟩ ⟨(by show _ ≤ 3000; omega), (by show _ ≤ 14000; omega)⟩ dL_issues_221) hW (fun r221 G221 H locs hp221 hW => ?_)
                                          obtain ⟨hG, rfl⟩ := hp221
                                          refine z_top (y := rd) (by rw [hy1]; exact (wq_0 rfl).trans hrd.symm) ?_
                                          refine lv_fload hx hb dL_issues_224 (lv_at hl 3 rfl) ?_
                                          refine z_ldcfw (v := 1048576000) hC qz_1570 dL_issues_226 ?_
                                          refine lv_fcmp hx hb dL_issues_229 ?_
                                          refine z_topi (y := (Op.cmpValue (FP.fcmp (zfr (cDa c0 - iPr s2).toNat) (1048576000 : UInt32)) .l).toInt) (iI_of _) ?_
                                          have hrq := iI_rng (Op.cmpValue (FP.fcmp (zfr (cDa c0 - iPr s2).toNat) (1048576000 : UInt32)) .l)
                                          have hrdq := zfr_read (cDa c0 - iPr s2).toNat
                                          refine z_if_lt (tgt := 237) hx hb dL_issues_230 (by decide) hrq (fun c_48 => ?_) (fun c_48 => ?_)
                                          · skip
                                            refine z_iconst hx hb dL_issues_237 ?_
                                            refine z_icmp_ne (tgt := 258) hx hb dL_issues_238 (by decide) (by omega) (by decide) (fun c_49 => ?_) (fun c_49 => ?_)
                                            · skip
                                              exfalso; omega
                                            · skip
                                              refine lv_aload_n hx hb dL_issues_241 rfl (lv_at hl 8 rfl) ?_
                                              refine lv_iload_n hx hb dL_issues_242 rfl (lv_at hl 5 rfl) ?_
                                              refine z_cGi hC (z_frSW (rest := []) (As := [.ref ob, .int (iI x)]) (n := 2) hC hW.g (lw_freshBits l D cs (zfA G221 _) G221 ob x N tx inp out c0 hs hlt hG (by omega)) (zgsW qm_L_354 qt_L_freshBits qn_L qc_L_freshBits) he_L_freshBits rfl hl rfl (Nat.le_of_ble_eq_true rfl) ⟨Nat.le_of_ble_eq_true rfl, Nat.le_of_ble_eq_true rfl⟩ ⟨(by show _ ≤ 3000; omega), (by show _ ≤ 14000; omega)⟩ dL_issues_243) hW (fun r243 G243 H locs hp243 hW => ?_)
                                              obtain ⟨hG, rfl⟩ := hp243
                                              refine z_top (y := ((zfr (cDa c0 - iPr s2).toNat).toInt32.toInt)) (by rw [hy2]; rfl) ?_
                                              refine lv_fload hx hb dL_issues_246 (lv_at hl 3 rfl) ?_
                                              refine z_cXi hC (z_frS (rest := [.int (iI ((zfr (cDa c0 - iPr s2).toNat).toInt32.toInt))]) (As := [.float (zfr (cDa c0 - iPr s2).toNat)]) (n := 1) hC hW.x (met_Jxf58ca_floatToIntBits_5c35a l D cs (zfA X _) X (zfr (cDa c0 - iPr s2).toNat) (zfr_P (cDa c0 - iPr s2).toNat)) gs_L_370 he_Jxf58ca_floatToIntBits_5c35a rfl hl rfl (Nat.le_of_ble_eq_true rfl) ⟨Nat.le_of_ble_eq_true rfl, Nat.le_of_ble_eq_true rfl⟩ ⟨(by show _ ≤ 3000; omega), (by show _ ≤ 14000; omega)⟩ dL_issues_248) hW (fun r248 X248 H locs hp248 hW => ?_)
                                              obtain ⟨rfl, rfl⟩ := hp248
                                              refine z_icmp_ne (tgt := 258) hx hb dL_issues_251 (by decide) (by omega) (by omega) (fun c_50 => ?_) (fun c_50 => ?_)
                                              · skip
                                                exfalso; omega
                                              · skip
                                                refine z_iconst hx hb dL_issues_254 ?_
                                                refine lv_goto (tgt := 259) hx hb dL_issues_255 (by decide) ?_
                                                refine lv_istore (lv' := [(8, .int (iI 1)), (7, .int (iI mm)), (6, .int (iI lf)), (5, .float (zfr (cDa c0 - iPr s2).toNat)), (4, .int (iI 1)), (3, .int (iI x)), (2, .float (zsf2 (cDa c0) ((cIs c0).take fo.toNat))), (1, .int (iI fo)), (0, .ref ob)]) hx hb dL_issues_259 hl (by decide) rfl (fun ls hl => ?_)
                                                refine lv_iload hx hb dL_issues_261 (lv_at hl 0 rfl) ?_
                                                refine z_if_eq (tgt := 296) hx hb dL_issues_263 (by decide) (by decide) (fun c_51 => ?_) (fun c_51 => ?_)
                                                · skip
                                                  exfalso; omega
                                                · skip
                                                  refine lv_aload_n hx hb dL_issues_266 rfl (lv_at hl 8 rfl) ?_
                                                  refine lv_iload_n hx hb dL_issues_267 rfl (lv_at hl 5 rfl) ?_
                                                  refine z_cGi hC (z_frSW (rest := []) (As := [.ref ob, .int (iI x)]) (n := 2) hC hW.g (lw_articlesIn l D cs (zfA G243 _) G243 ob x N tx inp out c0 hs hlt hG (by omega)) (zgsW qm_L_348 qt_L_articlesIn qn_L qc_L_articlesIn) he_L_articlesIn rfl hl rfl (Nat.le_of_ble_eq_true rfl) ⟨Nat.le_of_ble_eq_true rfl, Nat.le_of_ble_eq_true rfl⟩ ⟨(by show _ ≤ 3000; omega), (by show _ ≤ 14000; omega)⟩ dL_issues_268) hW (fun r268 G268 H locs hp268 hW => ?_)
                                                  obtain ⟨hG, rfl⟩ := hp268
                                                  refine z_top (y := ((iTk s2).length : Int)) (by rw [hy1]; rfl) ?_
                                                  have hz9 : zcn s2 a = (iTk s2).length := by rw [show a = 9 by omega]; exact zcn_9 hiso (by omega)
                                                  refine lv_iload hx hb dL_issues_271 (lv_at hl 1 rfl) ?_
                                                  refine z_icmp_ne (tgt := 296) hx hb dL_issues_273 (by decide) (by omega) (by omega) (fun c_52 => ?_) (fun c_52 => ?_)
                                                  · skip
                                                    exfalso; omega
                                                  · skip
                                                    refine lv_aload_n hx hb dL_issues_276 rfl (lv_at hl 8 rfl) ?_
                                                    refine lv_iload_n hx hb dL_issues_277 rfl (lv_at hl 5 rfl) ?_
                                                    obtain ⟨⟨g, sa, so, hL, sv, er, fa, hg⟩, hK, hh8, hhs, htz, ht60, hin, hN9⟩ := id hG
                                                    obtain ⟨cap, hso⟩ := hg.2.2.2.2.1
                                                    have hwi := hK.2.2.2.2.2.2.2.2.1
                                                    refine z_cGf hC (z_xno (z_frX (rest := []) (As := [.int (iI x)]) (n := 1) (ci := 15) hC hW.g (met_X12_coverage l D cs (zfA G268 _) G268 ob g sa so er fa c0 x hlt hg.1 (hg.2.2.2.2.2.2.2.2.2.1.mono zrm_le) (by omega)) gv_L_376 hd_X12_coverage rfl hg.1 rfl hl rfl (Nat.le_of_ble_eq_true rfl) ⟨Nat.le_of_ble_eq_true rfl, Nat.le_of_ble_eq_true rfl⟩ ⟨(by show _ ≤ 3000; omega), (by show _ ≤ 14000; omega)⟩ dL_issues_278) (fun E F1 hz => absurd (show (0 : Int) = 1 from (congrArg Prod.fst hy4).symm.trans hz.2.1) (by decide))) hW (fun r278 G278 H locs hp278 hW => ?_)
                                                    obtain ⟨rfl, -, rfl⟩ := hp278
                                                    refine z_topf (y := (FP.fdiv (FP.i2f (iI (iLi s2))) (FP.i2f (iI (iCo s2 * iHe s2))))) (by first | rfl | rw [hy4]) ?_
                                                    refine z_topf (y := (FP.fdiv (FP.i2f (iI (iLi s2))) (FP.i2f (iI (iCo s2 * iHe s2))))) (by first | rfl | rw [hy4]) ?_
                                                    refine lv_fconst1 hx hb dL_issues_281 ?_
                                                    refine lv_fcmp hx hb dL_issues_282 ?_
                                                    refine z_topi (y := (Op.cmpValue (FP.fcmp (FP.fdiv (FP.i2f (iI (iLi s2))) (FP.i2f (iI (iCo s2 * iHe s2)))) FP.fconst1) .l).toInt) (iI_of _) ?_
                                                    have hrc := iI_rng (Op.cmpValue (FP.fcmp (FP.fdiv (FP.i2f (iI (iLi s2))) (FP.i2f (iI (iCo s2 * iHe s2)))) FP.fconst1) .l)
                                                    have hcc := cov_ok (a := iLi s2) (b := iCo s2 * iHe s2) hli hmb
                                                    refine z_if_gt (tgt := 296) hx hb dL_issues_283 (by decide) hrc (fun c_53 => ?_) (fun c_53 => ?_)
                                                    · skip
                                                      exfalso; omega
                                                    · skip
                                                      refine lv_aload_n hx hb dL_issues_286 rfl (lv_at hl 8 rfl) ?_
                                                      refine lv_iload_n hx hb dL_issues_287 rfl (lv_at hl 5 rfl) ?_
                                                      refine z_cGi hC (z_frSW (rest := []) (As := [.ref ob, .int (iI x)]) (n := 2) hC hW.g (lw_linesIn l D cs (zfA G268 _) G268 ob x N tx inp out c0 hs hlt hG (by omega)) (zgsW qm_L_350 qt_L_linesIn qn_L qc_L_linesIn) he_L_linesIn rfl hl rfl (Nat.le_of_ble_eq_true rfl) ⟨Nat.le_of_ble_eq_true rfl, Nat.le_of_ble_eq_true rfl⟩ ⟨(by show _ ≤ 3000; omega), (by show _ ≤ 14000; omega)⟩ dL_issues_288) hW (fun r288 G288 H locs hp288 hW => ?_)
                                                      obtain ⟨hG, rfl⟩ := hp288
                                                      refine z_top (y := (iLi s2)) (by rw [hy1]; rfl) ?_
                                                      refine z_bipush hx hb dL_issues_291 (by decide) ?_
                                                      refine z_icmp_le (tgt := 298) hx hb dL_issues_293 (by decide) (by omega) (by decide) (fun c_54 => ?_) (fun c_54 => ?_)
                                                      · skip
                                                        refine lv_fload_n hx hb dL_issues_298 rfl (lv_at hl 6 rfl) ?_
                                                        refine lv_fload hx hb dL_issues_299 (lv_at hl 3 rfl) ?_
                                                        refine lv_fadd hx hb dL_issues_301 (vf_of (fP_add hfs (zfr_P _))) ?_
                                                        refine z_topf (y := (zsf2 (cDa c0) ((cIs c0).take (fo + 1).toNat))) (by rw [show (fo + 1).toNat = fo.toNat + 1 by omega, zsf2_s hzy.1]) ?_
                                                        refine lv_fstore_n (lv' := [(2, .float (zsf2 (cDa c0) ((cIs c0).take (fo + 1).toNat))), (8, .int (iI 1)), (7, .int (iI mm)), (6, .int (iI lf)), (5, .float (zfr (cDa c0 - iPr s2).toNat)), (4, .int (iI 1)), (3, .int (iI x)), (1, .int (iI fo)), (0, .ref ob)]) hx hb dL_issues_302 rfl hl (by decide) rfl (fun ls hl => ?_)
                                                        refine z_iinc (lv' := [(1, .int (iI (fo + 1))), (2, .float (zsf2 (cDa c0) ((cIs c0).take (fo + 1).toNat))), (8, .int (iI 1)), (7, .int (iI mm)), (6, .int (iI lf)), (5, .float (zfr (cDa c0 - iPr s2).toNat)), (4, .int (iI 1)), (3, .int (iI x)), (0, .ref ob)]) hx hb dL_issues_303 hl (k := 7) rfl (by decide) rfl (fun ls hl => ?_)
                                                        refine z_iinc (lv' := [(3, .int (iI (x + 1))), (1, .int (iI (fo + 1))), (2, .float (zsf2 (cDa c0) ((cIs c0).take (fo + 1).toNat))), (8, .int (iI 1)), (7, .int (iI mm)), (6, .int (iI lf)), (5, .float (zfr (cDa c0 - iPr s2).toNat)), (4, .int (iI 1)), (0, .ref ob)]) hx hb dL_issues_306 hl (k := 7) rfl (by decide) rfl (fun ls hl => ?_)
                                                        refine lv_goto (tgt := 6) hx hb dL_issues_309 (by decide) ?_
                                                        refine W.widen (k := (140 * (x + 1).toNat)) (n := (650 * (x + 1).toNat)) (by omega) (by omega) ?_
                                                        exact ih6 (x + 1) (fo + 1) G288 (by omega) (by omega) (by omega) hG hzy.2.1 (by rw [show (fo + 1).toNat = fo.toNat + 1 by omega, zsf2_s hzy.1]; exact fP_add hfs (zfr_P _)) _ _ hW ls (lv_sub hl [0, 2, 1, 8] rfl)
                                                      · skip
                                                        exfalso; omega
                                          · skip
                                            refine z_iconst hx hb dL_issues_233 ?_
                                            refine lv_goto (tgt := 238) hx hb dL_issues_234 (by decide) ?_
                                            refine z_icmp_ne (tgt := 258) hx hb dL_issues_238 (by decide) (by omega) (by decide) (fun c_55 => ?_) (fun c_55 => ?_)
                                            · skip
                                              exfalso; omega
                                            · skip
                                              refine lv_aload_n hx hb dL_issues_241 rfl (lv_at hl 8 rfl) ?_
                                              refine lv_iload_n hx hb dL_issues_242 rfl (lv_at hl 5 rfl) ?_
                                              refine z_cGi hC (z_frSW (rest := []) (As := [.ref ob, .int (iI x)]) (n := 2) hC hW.g (lw_freshBits l D cs (zfA G221 _) G221 ob x N tx inp out c0 hs hlt hG (by omega)) (zgsW qm_L_354 qt_L_freshBits qn_L qc_L_freshBits) he_L_freshBits rfl hl rfl (Nat.le_of_ble_eq_true rfl) ⟨Nat.le_of_ble_eq_true rfl, Nat.le_of_ble_eq_true rfl⟩ ⟨(by show _ ≤ 3000; omega), (by show _ ≤ 14000; omega)⟩ dL_issues_243) hW (fun r243 G243 H locs hp243 hW => ?_)
                                              obtain ⟨hG, rfl⟩ := hp243
                                              refine z_top (y := ((zfr (cDa c0 - iPr s2).toNat).toInt32.toInt)) (by rw [hy2]; rfl) ?_
                                              refine lv_fload hx hb dL_issues_246 (lv_at hl 3 rfl) ?_
                                              refine z_cXi hC (z_frS (rest := [.int (iI ((zfr (cDa c0 - iPr s2).toNat).toInt32.toInt))]) (As := [.float (zfr (cDa c0 - iPr s2).toNat)]) (n := 1) hC hW.x (met_Jxf58ca_floatToIntBits_5c35a l D cs (zfA X _) X (zfr (cDa c0 - iPr s2).toNat) (zfr_P (cDa c0 - iPr s2).toNat)) gs_L_370 he_Jxf58ca_floatToIntBits_5c35a rfl hl rfl (Nat.le_of_ble_eq_true rfl) ⟨Nat.le_of_ble_eq_true rfl, Nat.le_of_ble_eq_true rfl⟩ ⟨(by show _ ≤ 3000; omega), (by show _ ≤ 14000; omega)⟩ dL_issues_248) hW (fun r248 X248 H locs hp248 hW => ?_)
                                              obtain ⟨rfl, rfl⟩ := hp248
                                              refine z_icmp_ne (tgt := 258) hx hb dL_issues_251 (by decide) (by omega) (by omega) (fun c_56 => ?_) (fun c_56 => ?_)
                                              · skip
                                                exfalso; omega
                                              · skip
                                                refine z_iconst hx hb dL_issues_254 ?_
                                                refine lv_goto (tgt := 259) hx hb dL_issues_255 (by decide) ?_
                                                refine lv_istore (lv' := [(8, .int (iI 1)), (7, .int (iI mm)), (6, .int (iI lf)), (5, .float (zfr (cDa c0 - iPr s2).toNat)), (4, .int (iI 1)), (3, .int (iI x)), (2, .float (zsf2 (cDa c0) ((cIs c0).take fo.toNat))), (1, .int (iI fo)), (0, .ref ob)]) hx hb dL_issues_259 hl (by decide) rfl (fun ls hl => ?_)
                                                refine lv_iload hx hb dL_issues_261 (lv_at hl 0 rfl) ?_
                                                refine z_if_eq (tgt := 296) hx hb dL_issues_263 (by decide) (by decide) (fun c_57 => ?_) (fun c_57 => ?_)
                                                · skip
                                                  exfalso; omega
                                                · skip
                                                  refine lv_aload_n hx hb dL_issues_266 rfl (lv_at hl 8 rfl) ?_
                                                  refine lv_iload_n hx hb dL_issues_267 rfl (lv_at hl 5 rfl) ?_
                                                  refine z_cGi hC (z_frSW (rest := []) (As := [.ref ob, .int (iI x)]) (n := 2) hC hW.g (lw_articlesIn l D cs (zfA G243 _) G243 ob x N tx inp out c0 hs hlt hG (by omega)) (zgsW qm_L_348 qt_L_articlesIn qn_L qc_L_articlesIn) he_L_articlesIn rfl hl rfl (Nat.le_of_ble_eq_true rfl) ⟨Nat.le_of_ble_eq_true rfl, Nat.le_of_ble_eq_true rfl⟩ ⟨(by show _ ≤ 3000; omega), (by show _ ≤ 14000; omega)⟩ dL_issues_268) hW (fun r268 G268 H locs hp268 hW => ?_)
                                                  obtain ⟨hG, rfl⟩ := hp268
                                                  refine z_top (y := ((iTk s2).length : Int)) (by rw [hy1]; rfl) ?_
                                                  have hz9 : zcn s2 a = (iTk s2).length := by rw [show a = 9 by omega]; exact zcn_9 hiso (by omega)
                                                  refine lv_iload hx hb dL_issues_271 (lv_at hl 1 rfl) ?_
                                                  refine z_icmp_ne (tgt := 296) hx hb dL_issues_273 (by decide) (by omega) (by omega) (fun c_58 => ?_) (fun c_58 => ?_)
                                                  · skip
                                                    exfalso; omega
                                                  · skip
                                                    refine lv_aload_n hx hb dL_issues_276 rfl (lv_at hl 8 rfl) ?_
                                                    refine lv_iload_n hx hb dL_issues_277 rfl (lv_at hl 5 rfl) ?_
                                                    obtain ⟨⟨g, sa, so, hL, sv, er, fa, hg⟩, hK, hh8, hhs, htz, ht60, hin, hN9⟩ := id hG
                                                    obtain ⟨cap, hso⟩ := hg.2.2.2.2.1
                                                    have hwi := hK.2.2.2.2.2.2.2.2.1
                                                    refine z_cGf hC (z_xno (z_frX (rest := []) (As := [.int (iI x)]) (n := 1) (ci := 15) hC hW.g (met_X12_coverage l D cs (zfA G268 _) G268 ob g sa so er fa c0 x hlt hg.1 (hg.2.2.2.2.2.2.2.2.2.1.mono zrm_le) (by omega)) gv_L_376 hd_X12_coverage rfl hg.1 rfl hl rfl (Nat.le_of_ble_eq_true rfl) ⟨Nat.le_of_ble_eq_true rfl, Nat.le_of_ble_eq_true rfl⟩ ⟨(by show _ ≤ 3000; omega), (by show _ ≤ 14000; omega)⟩ dL_issues_278) (fun E F1 hz => absurd (show (0 : Int) = 1 from (congrArg Prod.fst hy4).symm.trans hz.2.1) (by decide))) hW (fun r278 G278 H locs hp278 hW => ?_)
                                                    obtain ⟨rfl, -, rfl⟩ := hp278
                                                    refine z_topf (y := (FP.fdiv (FP.i2f (iI (iLi s2))) (FP.i2f (iI (iCo s2 * iHe s2))))) (by first | rfl | rw [hy4]) ?_
                                                    refine z_topf (y := (FP.fdiv (FP.i2f (iI (iLi s2))) (FP.i2f (iI (iCo s2 * iHe s2))))) (by first | rfl | rw [hy4]) ?_
                                                    refine lv_fconst1 hx hb dL_issues_281 ?_
                                                    refine lv_fcmp hx hb dL_issues_282 ?_
                                                    refine z_topi (y := (Op.cmpValue (FP.fcmp (FP.fdiv (FP.i2f (iI (iLi s2))) (FP.i2f (iI (iCo s2 * iHe s2)))) FP.fconst1) .l).toInt) (iI_of _) ?_
                                                    have hrc := iI_rng (Op.cmpValue (FP.fcmp (FP.fdiv (FP.i2f (iI (iLi s2))) (FP.i2f (iI (iCo s2 * iHe s2)))) FP.fconst1) .l)
                                                    have hcc := cov_ok (a := iLi s2) (b := iCo s2 * iHe s2) hli hmb
                                                    refine z_if_gt (tgt := 296) hx hb dL_issues_283 (by decide) hrc (fun c_59 => ?_) (fun c_59 => ?_)
                                                    · skip
                                                      exfalso; omega
                                                    · skip
                                                      refine lv_aload_n hx hb dL_issues_286 rfl (lv_at hl 8 rfl) ?_
                                                      refine lv_iload_n hx hb dL_issues_287 rfl (lv_at hl 5 rfl) ?_
                                                      refine z_cGi hC (z_frSW (rest := []) (As := [.ref ob, .int (iI x)]) (n := 2) hC hW.g (lw_linesIn l D cs (zfA G268 _) G268 ob x N tx inp out c0 hs hlt hG (by omega)) (zgsW qm_L_350 qt_L_linesIn qn_L qc_L_linesIn) he_L_linesIn rfl hl rfl (Nat.le_of_ble_eq_true rfl) ⟨Nat.le_of_ble_eq_true rfl, Nat.le_of_ble_eq_true rfl⟩ ⟨(by show _ ≤ 3000; omega), (by show _ ≤ 14000; omega)⟩ dL_issues_288) hW (fun r288 G288 H locs hp288 hW => ?_)
                                                      obtain ⟨hG, rfl⟩ := hp288
                                                      refine z_top (y := (iLi s2)) (by rw [hy1]; rfl) ?_
                                                      refine z_bipush hx hb dL_issues_291 (by decide) ?_
                                                      refine z_icmp_le (tgt := 298) hx hb dL_issues_293 (by decide) (by omega) (by decide) (fun c_60 => ?_) (fun c_60 => ?_)
                                                      · skip
                                                        refine lv_fload_n hx hb dL_issues_298 rfl (lv_at hl 6 rfl) ?_
                                                        refine lv_fload hx hb dL_issues_299 (lv_at hl 3 rfl) ?_
                                                        refine lv_fadd hx hb dL_issues_301 (vf_of (fP_add hfs (zfr_P _))) ?_
                                                        refine z_topf (y := (zsf2 (cDa c0) ((cIs c0).take (fo + 1).toNat))) (by rw [show (fo + 1).toNat = fo.toNat + 1 by omega, zsf2_s hzy.1]) ?_
                                                        refine lv_fstore_n (lv' := [(2, .float (zsf2 (cDa c0) ((cIs c0).take (fo + 1).toNat))), (8, .int (iI 1)), (7, .int (iI mm)), (6, .int (iI lf)), (5, .float (zfr (cDa c0 - iPr s2).toNat)), (4, .int (iI 1)), (3, .int (iI x)), (1, .int (iI fo)), (0, .ref ob)]) hx hb dL_issues_302 rfl hl (by decide) rfl (fun ls hl => ?_)
                                                        refine z_iinc (lv' := [(1, .int (iI (fo + 1))), (2, .float (zsf2 (cDa c0) ((cIs c0).take (fo + 1).toNat))), (8, .int (iI 1)), (7, .int (iI mm)), (6, .int (iI lf)), (5, .float (zfr (cDa c0 - iPr s2).toNat)), (4, .int (iI 1)), (3, .int (iI x)), (0, .ref ob)]) hx hb dL_issues_303 hl (k := 7) rfl (by decide) rfl (fun ls hl => ?_)
                                                        refine z_iinc (lv' := [(3, .int (iI (x + 1))), (1, .int (iI (fo + 1))), (2, .float (zsf2 (cDa c0) ((cIs c0).take (fo + 1).toNat))), (8, .int (iI 1)), (7, .int (iI mm)), (6, .int (iI lf)), (5, .float (zfr (cDa c0 - iPr s2).toNat)), (4, .int (iI 1)), (0, .ref ob)]) hx hb dL_issues_306 hl (k := 7) rfl (by decide) rfl (fun ls hl => ?_)
                                                        refine lv_goto (tgt := 6) hx hb dL_issues_309 (by decide) ?_
                                                        refine W.widen (k := (140 * (x + 1).toNat)) (n := (650 * (x + 1).toNat)) (by omega) (by omega) ?_
                                                        exact ih6 (x + 1) (fo + 1) G288 (by omega) (by omega) (by omega) hG hzy.2.1 (by rw [show (fo + 1).toNat = fo.toNat + 1 by omega, zsf2_s hzy.1]; exact fP_add hfs (zfr_P _)) _ _ hW ls (lv_sub hl [0, 2, 1, 8] rfl)
                                                      · skip
                                                        exfalso; omega
                                      · skip
                                        obtain ⟨cv, rv, hcv, hrv, hcr⟩ := pos_i (a := a) hiso hz2
                                        have hzc := zcn_s (m := a) hiso
                                        have hsg : (0 ≤ cv ∧ cv ≤ 80 ∧ 0 ≤ rv ∧ rv ≤ 80 ∧ zcn s2 (a + 1) = zcn s2 a + 1) ∨ (cv = -13 ∧ rv = -13 ∧ zcn s2 (a + 1) = zcn s2 a) := by
                                          rcases hcr with ⟨z, z1⟩ | ⟨z, z1⟩
                                          · rcases hzc with y | y
                                            · left; omega
                                            · rw [z] at y; exact absurd y.1 (by decide)
                                          · rcases hzc with y | y
                                            · rw [z] at y; exact absurd y.1 (by decide)
                                            · right; omega
                                        have hzb := zcn_b s2 a
                                        refine lv_iload hx hb dL_issues_148 (lv_at hl 1 rfl) ?_
                                        refine lv_aload_n hx hb dL_issues_150 rfl (lv_at hl 8 rfl) ?_
                                        refine lv_iload_n hx hb dL_issues_151 rfl (lv_at hl 5 rfl) ?_
                                        refine lv_iload hx hb dL_issues_152 (lv_at hl 0 rfl) ?_
                                        refine z_cGi hC (z_frSW (rest := [.int (iI mm)]) (As := [.ref ob, .int (iI x), .int (iI a)]) (n := 3) hC hW.g (lw_columnOf l D cs (zfA G1 _) G1 ob x a N tx inp out c0 hs hlt hG (by omega) (by omega)) (zgsW qm_L_363 qt_L_columnOf qn_L qc_L_columnOf) he_L_columnOf rfl hl rfl (Nat.le_of_ble_eq_true rfl) ⟨Nat.le_of_ble_eq_true rfl, Nat.le_of_ble_eq_true rfl⟩ ⟨(by show _ ≤ 3000; omega), (by show _ ≤ 14000; omega)⟩ dL_issues_154) hW (fun r154 G154 H locs hp154 hW => ?_)
                                        obtain ⟨hG, rfl⟩ := hp154
                                        refine z_top (y := cv) hcv ?_
                                        refine z_if_lt (tgt := 164) hx hb dL_issues_157 (by decide) (by omega) (fun c_61 => ?_) (fun c_61 => ?_)
                                        · skip
                                          refine z_iconst hx hb dL_issues_164 ?_
                                          refine z_iadd hx hb dL_issues_165 ?_
                                          refine lv_istore (lv' := [(7, .int (iI (mm + 0))), (8, .int (iI a)), (6, .int (iI lf)), (5, .float (zfr (cDa c0 - iPr s2).toNat)), (4, .int (iI 1)), (3, .int (iI x)), (2, .float (zsf2 (cDa c0) ((cIs c0).take fo.toNat))), (1, .int (iI fo)), (0, .ref ob)]) hx hb dL_issues_166 hl (by decide) rfl (fun ls hl => ?_)
                                          refine lv_aload_n hx hb dL_issues_168 rfl (lv_at hl 8 rfl) ?_
                                          refine lv_iload_n hx hb dL_issues_169 rfl (lv_at hl 5 rfl) ?_
                                          refine lv_iload hx hb dL_issues_170 (lv_at hl 1 rfl) ?_
                                          refine z_cGi hC (z_frSW (rest := []) (As := [.ref ob, .int (iI x), .int (iI a)]) (n := 3) hC hW.g (lw_columnOf l D cs (zfA G154 _) G154 ob x a N tx inp out c0 hs hlt hG (by omega) (by omega)) (zgsW qm_L_363 qt_L_columnOf qn_L qc_L_columnOf) he_L_columnOf rfl hl rfl (Nat.le_of_ble_eq_true rfl) ⟨Nat.le_of_ble_eq_true rfl, Nat.le_of_ble_eq_true rfl⟩ ⟨(by show _ ≤ 3000; omega), (by show _ ≤ 14000; omega)⟩ dL_issues_172) hW (fun r172 G172 H locs hp172 hW => ?_)
                                          obtain ⟨hG, rfl⟩ := hp172
                                          refine z_top (y := cv) hcv ?_
                                          refine z_if_lt (tgt := 182) hx hb dL_issues_175 (by decide) (by omega) (fun c_62 => ?_) (fun c_62 => ?_)
                                          · skip
                                            refine z_iconst hx hb dL_issues_182 ?_
                                            refine lv_aload_n hx hb dL_issues_183 rfl (lv_at hl 8 rfl) ?_
                                            refine lv_iload_n hx hb dL_issues_184 rfl (lv_at hl 5 rfl) ?_
                                            refine lv_iload hx hb dL_issues_185 (lv_at hl 1 rfl) ?_
                                            refine z_cGi hC (z_frSW (rest := [.int (iI 0)]) (As := [.ref ob, .int (iI x), .int (iI a)]) (n := 3) hC hW.g (lw_rowOf l D cs (zfA G172 _) G172 ob x a N tx inp out c0 hs hlt hG (by omega) (by omega)) (zgsW qm_L_365 qt_L_rowOf qn_L qc_L_rowOf) he_L_rowOf rfl hl rfl (Nat.le_of_ble_eq_true rfl) ⟨Nat.le_of_ble_eq_true rfl, Nat.le_of_ble_eq_true rfl⟩ ⟨(by show _ ≤ 3000; omega), (by show _ ≤ 14000; omega)⟩ dL_issues_187) hW (fun r187 G187 H locs hp187 hW => ?_)
                                            obtain ⟨hG, rfl⟩ := hp187
                                            refine z_top (y := rv) hrv ?_
                                            refine z_if_lt (tgt := 197) hx hb dL_issues_190 (by decide) (by omega) (fun c_63 => ?_) (fun c_63 => ?_)
                                            · skip
                                              refine z_iconst hx hb dL_issues_197 ?_
                                              refine z_icmp_eq (tgt := 203) hx hb dL_issues_198 (by decide) (by decide) (by decide) (fun c_64 => ?_) (fun c_64 => ?_)
                                              · skip
                                                refine z_iinc (lv' := [(8, .int (iI (a + 1))), (7, .int (iI (mm + 0))), (6, .int (iI lf)), (5, .float (zfr (cDa c0 - iPr s2).toNat)), (4, .int (iI 1)), (3, .int (iI x)), (2, .float (zsf2 (cDa c0) ((cIs c0).take fo.toNat))), (1, .int (iI fo)), (0, .ref ob)]) hx hb dL_issues_203 hl (k := 1) rfl (by decide) rfl (fun ls hl => ?_)
                                                refine lv_goto (tgt := 141) hx hb dL_issues_206 (by decide) ?_
                                                refine W.widen (k := (140 * x.toNat + 10 + 6 * (a + 1).toNat)) (n := (650 * x.toNat + 40 + 36 * (a + 1).toNat)) (by omega) (by omega) ?_
                                                exact ih141 (a + 1) (mm + 0) G187 (by omega) (by omega) (by omega) hG _ _ hW ls (lv_sub hl [0, 1, 2, 3, 4, 5, 6, 7, 8] rfl)
                                              · skip
                                                exfalso; omega
                                            · skip
                                              exfalso; omega
                                          · skip
                                            exfalso; omega
                                        · skip
                                          refine z_iconst hx hb dL_issues_160 ?_
                                          refine lv_goto (tgt := 165) hx hb dL_issues_161 (by decide) ?_
                                          refine z_iadd hx hb dL_issues_165 ?_
                                          refine lv_istore (lv' := [(7, .int (iI (mm + 1))), (8, .int (iI a)), (6, .int (iI lf)), (5, .float (zfr (cDa c0 - iPr s2).toNat)), (4, .int (iI 1)), (3, .int (iI x)), (2, .float (zsf2 (cDa c0) ((cIs c0).take fo.toNat))), (1, .int (iI fo)), (0, .ref ob)]) hx hb dL_issues_166 hl (by decide) rfl (fun ls hl => ?_)
                                          refine lv_aload_n hx hb dL_issues_168 rfl (lv_at hl 8 rfl) ?_
                                          refine lv_iload_n hx hb dL_issues_169 rfl (lv_at hl 5 rfl) ?_
                                          refine lv_iload hx hb dL_issues_170 (lv_at hl 1 rfl) ?_
                                          refine z_cGi hC (z_frSW (rest := []) (As := [.ref ob, .int (iI x), .int (iI a)]) (n := 3) hC hW.g (lw_columnOf l D cs (zfA G154 _) G154 ob x a N tx inp out c0 hs hlt hG (by omega) (by omega)) (zgsW qm_L_363 qt_L_columnOf qn_L qc_L_columnOf) he_L_columnOf rfl hl rfl (Nat.le_of_ble_eq_true rfl) ⟨Nat.le_of_ble_eq_true rfl, Nat.le_of_ble_eq_true rfl⟩ ⟨(by show _ ≤ 3000; omega), (by show _ ≤ 14000; omega)⟩ dL_issues_172) hW (fun r172 G172 H locs hp172 hW => ?_)
                                          obtain ⟨hG, rfl⟩ := hp172
                                          refine z_top (y := cv) hcv ?_
                                          refine z_if_lt (tgt := 182) hx hb dL_issues_175 (by decide) (by omega) (fun c_65 => ?_) (fun c_65 => ?_)
                                          · skip
                                            exfalso; omega
                                          · skip
                                            refine z_iconst hx hb dL_issues_178 ?_
                                            refine lv_goto (tgt := 183) hx hb dL_issues_179 (by decide) ?_
                                            refine lv_aload_n hx hb dL_issues_183 rfl (lv_at hl 8 rfl) ?_
                                            refine lv_iload_n hx hb dL_issues_184 rfl (lv_at hl 5 rfl) ?_
                                            refine lv_iload hx hb dL_issues_185 (lv_at hl 1 rfl) ?_
                                            refine z_cGi hC (z_frSW (rest := [.int (iI 1)]) (As := [.ref ob, .int (iI x), .int (iI a)]) (n := 3) hC hW.g (lw_rowOf l D cs (zfA G172 _) G172 ob x a N tx inp out c0 hs hlt hG (by omega) (by omega)) (zgsW qm_L_365 qt_L_rowOf qn_L qc_L_rowOf) he_L_rowOf rfl hl rfl (Nat.le_of_ble_eq_true rfl) ⟨Nat.le_of_ble_eq_true rfl, Nat.le_of_ble_eq_true rfl⟩ ⟨(by show _ ≤ 3000; omega), (by show _ ≤ 14000; omega)⟩ dL_issues_187) hW (fun r187 G187 H locs hp187 hW => ?_)
                                            obtain ⟨hG, rfl⟩ := hp187
                                            refine z_top (y := rv) hrv ?_
                                            refine z_if_lt (tgt := 197) hx hb dL_issues_190 (by decide) (by omega) (fun c_66 => ?_) (fun c_66 => ?_)
                                            · skip
                                              exfalso; omega
                                            · skip
                                              refine z_iconst hx hb dL_issues_193 ?_
                                              refine lv_goto (tgt := 198) hx hb dL_issues_194 (by decide) ?_
                                              refine z_icmp_eq (tgt := 203) hx hb dL_issues_198 (by decide) (by decide) (by decide) (fun c_67 => ?_) (fun c_67 => ?_)
                                              · skip
                                                refine z_iinc (lv' := [(8, .int (iI (a + 1))), (7, .int (iI (mm + 1))), (6, .int (iI lf)), (5, .float (zfr (cDa c0 - iPr s2).toNat)), (4, .int (iI 1)), (3, .int (iI x)), (2, .float (zsf2 (cDa c0) ((cIs c0).take fo.toNat))), (1, .int (iI fo)), (0, .ref ob)]) hx hb dL_issues_203 hl (k := 1) rfl (by decide) rfl (fun ls hl => ?_)
                                                refine lv_goto (tgt := 141) hx hb dL_issues_206 (by decide) ?_
                                                refine W.widen (k := (140 * x.toNat + 10 + 6 * (a + 1).toNat)) (n := (650 * x.toNat + 40 + 36 * (a + 1).toNat)) (by omega) (by omega) ?_
                                                exact ih141 (a + 1) (mm + 1) G187 (by omega) (by omega) (by omega) hG _ _ hW ls (lv_sub hl [0, 1, 2, 3, 4, 5, 6, 7, 8] rfl)
                                              · skip
                                                exfalso; omega
                                  refine W.widen (k := (140 * x.toNat + 10 + 6 * (0 : Int).toNat)) (n := (650 * x.toNat + 40 + 36 * (0 : Int).toNat)) (by omega) (by omega) ?_
                                  exact L141_k_45 _ 0 0 G77 (Nat.lt_succ_self _) (by omega) (zcn_0 hiso).symm hG _ _ hW ls (lv_sub hl [0, 1, 2, 3, 4, 5, 6, 7, 8] rfl)
                                · skip
                                  refine z_iinc (lv' := [(6, .int (iI (lf + 1))), (7, .float (zfr ((cDa c0 - iPr s2).toNat + lf.toNat))), (5, .float (zfr (cDa c0 - iPr s2).toNat)), (4, .int (iI 1)), (3, .int (iI x)), (2, .float (zsf2 (cDa c0) ((cIs c0).take fo.toNat))), (1, .int (iI fo)), (0, .ref ob)]) hx hb dL_issues_121 hl (k := 1) rfl (by decide) rfl (fun ls hl => ?_)
                                  refine lv_fload hx hb dL_issues_124 (lv_at hl 1 rfl) ?_
                                  refine z_ldcfw (v := 1061158912) hC qz_1571 dL_issues_126 ?_
                                  refine lv_fmul hx hb dL_issues_129 (vf_of (zfr_P ((cDa c0 - iPr s2).toNat + lf.toNat + 1))) ?_
                                  refine z_topf (y := (zfr ((cDa c0 - iPr s2).toNat + (lf + 1).toNat))) (by rw [show (lf + 1).toNat = lf.toNat + 1 by omega]; rfl) ?_
                                  refine lv_fstore (lv' := [(7, .float (zfr ((cDa c0 - iPr s2).toNat + (lf + 1).toNat))), (6, .int (iI (lf + 1))), (5, .float (zfr (cDa c0 - iPr s2).toNat)), (4, .int (iI 1)), (3, .int (iI x)), (2, .float (zsf2 (cDa c0) ((cIs c0).take fo.toNat))), (1, .int (iI fo)), (0, .ref ob)]) hx hb dL_issues_130 hl (by decide) rfl (fun ls hl => ?_)
                                  refine lv_goto (tgt := 112) hx hb dL_issues_132 (by decide) ?_
                                  exact ih112 (lf + 1)  (by omega) (by omega) (by omega)  _ _ hW ls (lv_sub hl [0, 1, 2, 3, 4, 5, 6, 7] rfl)
                            exact L112_k_43 _ 0  (Nat.lt_succ_self _) (by omega) (by omega)  _ _ hW ls (lv_sub hl [0, 1, 2, 3, 4, 5, 6, 7] rfl)
                        · skip
                          exfalso; omega
  refine W.widen (k := (140 * (0 : Int).toNat)) (n := (650 * (0 : Int).toNat)) (by omega) (by omega) ?_
  exact L6_k_1 _ 0 0 G (Nat.lt_succ_self _) (by omega) (by omega) hG (zpa_0 (fun s hs => (hK.2.2.2.2.1 s hs).1.1)) (by show (FP.fconst0).toNat ≤ 2139095040; decide) _ _ hW ls (lv_sub hl [0, 1, 2, 3] rfl)

