theorem zLw1_at (k : Nat) (h : k < 12) : 97 ≤ (zLw 1).getD k 0 ∧ (zLw 1).getD k 0 ≤ 122 := by
  have t : ∀ k : Nat, k < 12 → 97 ≤ (zLw 1).getD k 0 ∧ (zLw 1).getD k 0 ≤ 122 := by decide
  exact t k h
/-- letters alone -/
def zlet (t : List Int) : Prop := ∀ x ∈ t, 97 ≤ x ∧ x ≤ 122
theorem zlet_snoc {t : List Int} {x : Int} (h : zlet t) (hx : 97 ≤ x ∧ x ≤ 122) : zlet (t ++ [x]) := fun y hy => by
  rcases List.mem_append.mp hy with z | z
  · exact h y z
  · rw [List.mem_singleton.mp z]; exact hx
/-- a string that is an object of ours, or empty -/
def oHp (X : zF) (a : Nat) (t : List Int) : Prop := t = [] ∨ ∃ fs, X a = some (.inr (0, fs))
theorem oHp.mono {X X1 : zF} {a : Nat} {t : List Int} (h : oHp X a t) (hl : zle X X1) : oHp X1 a t := h.imp id (fun ⟨fs, hf⟩ => ⟨fs, hl _ _ hf⟩)
/-- a word drawn -/
def oDw (cs : Nat → ClassId) (X : zF) (r : Nat) (d : Int) : Prop := ∃ (v : Nat) (t : List Int), oSt cs X r v t ∧ oHp X r t ∧ (t.length : Int) = 1 + d % 12 ∧ zlet t
set_option maxHeartbeats 4000000 in
set_option maxRecDepth 100000 in
theorem lm_drawnWord (l : Launch) (D : va_G) (cs : Nat → ClassId) (A : Nat → Prop) (X : zF) (d : Int)  (hd0 : 0 ≤ d ∧ d ≤ 2147483647) : zM l D cs A yL_drawnWord cL_drawnWord 4 (some (FieldType.object "java/lang/String")) 18 72 720 [.int (iI d)] X (pR (fun r X1 => zle X X1 ∧ oDw cs X1 r d)) := by
  refine zM_of (own := RL) (by decide) rfl (Nat.le_of_ble_eq_true rfl) ?_
  intro p e s m below meth c hC hr hlk hnm hZ ls hl
  have hx := hC.x
  have hb := hC.b
  have hl : lv_has ls 4 [(0, .int (iI d))] := hl
  have hW := zW3.ofX hZ
  have hll : (zLw 1).length = 12 := rfl
  have hl0 : (zLw 0).length = 0 := rfl
  refine z_ldcS1 hC (List.mem_of_getElem? (i := 0) rfl) dL_drawnWord_0 ?_
  refine lv_astore_n (lv' := [(1, .ref (cs (50 + 0))), (0, .int (iI d))]) hx hb dL_drawnWord_2 rfl hl (by decide) rfl (fun ls hl => ?_)
  refine z_iconst hx hb dL_drawnWord_3 ?_
  refine lv_iload_n hx hb dL_drawnWord_4 rfl (lv_at hl 1 rfl) ?_
  refine z_bipush hx hb dL_drawnWord_5 (by decide) ?_
  refine z_irem hx hb dL_drawnWord_7 (by omega) (by omega) ?_
  refine z_iadd hx hb dL_drawnWord_8 ?_
  refine lv_istore_n (lv' := [(2, .int (iI (1 + (d % 12)))), (1, .ref (cs (50 + 0))), (0, .int (iI d))]) hx hb dL_drawnWord_9 rfl hl (by decide) rfl (fun ls hl => ?_)
  refine z_iconst hx hb dL_drawnWord_10 ?_
  refine lv_istore_n (lv' := [(3, .int (iI 0)), (2, .int (iI (1 + (d % 12)))), (1, .ref (cs (50 + 0))), (0, .int (iI d))]) hx hb dL_drawnWord_11 rfl hl (by decide) rfl (fun ls hl => ?_)
  have L12_k_1 : ∀ (fu : Nat) (k : Int) (X1 : zF) (w wv : Nat) (t : List Int) (hfu : (1 + d % 12 - k).toNat < fu) (hi12_0 : 0 ≤ k ∧ k ≤ 1 + d % 12) (hle1 : zle X X1) (hsw : oSt cs X1 w wv t) (hhp : oHp X1 w t) (htl : (t.length : Int) = k) (htr : zlet t) (H : Heap) (locs : List Loc) (hW : zW3 D A s zE zE X1 H locs) (ls : Array Slot) (hl : lv_has ls 4 [(3, .int (iI k)), (2, .int (iI (1 + (d % 12)))), (1, .ref w), (0, .int (iI d))]), W p l e (zR 18 72 720) s m [.int (iI d)].toArray below meth c H locs (6 * k.toNat) (60 * k.toNat) (MQ below (zQ D A (pR (fun r X1 => zle X X1 ∧ oDw cs X1 r d))) [.int (iI d)].toArray s 72 720 A) (F0 m 12 ls []) := by
    intro fu
    induction fu with
    | zero =>
      intro k X1 w wv t hfu
      exact absurd hfu (Nat.not_lt_zero _)
    | succ fu ih12 =>
      intro k X1 w wv t hfu hi12_0 hle1 hsw hhp htl htr H locs hW ls hl
      refine lv_iload_n hx hb dL_drawnWord_12 rfl (lv_at hl 0 rfl) ?_
      refine lv_iload_n hx hb dL_drawnWord_13 rfl (lv_at hl 1 rfl) ?_
      refine z_icmp_ge (tgt := 59) hx hb dL_drawnWord_14 (by decide) (by omega) (by omega) (fun c_2 => ?_) (fun c_2 => ?_)
      · skip
        refine lv_aload_n hx hb dL_drawnWord_59 rfl (lv_at hl 2 rfl) ?_
        exact z_aret hC hr (Or.inl ⟨_, rfl⟩) hlk hW.x (by omega) (by omega) (⟨hle1, wv, t, hsw, hhp, by omega, htr⟩) dL_drawnWord_60
      · skip
        refine z_new (T := TJ4) (N := 4) (ci := 1) hC hW.all tyJ4 tyJ4_ok in_J4 rfl qk_L_162 qx_J4 qn_J4 [.null, .int (iI 0), .int (iI 0), .int (iI 0)] df_J4 (by show _ ≤ 72; omega) (by show _ ≤ 720; omega) dL_drawnWord_17 (fun b17 H hb17 hZ => ?_)
        have hW := hW.nB hb17.1 hZ
        refine lv_dup hx hb dL_drawnWord_20 rfl ?_
        refine z_cBv hC (z_frI (rest := [.ref b17]) (As := []) (n := 0) hC hW.b (met_J4_init_da8c8 l D cs (zfA (zup zE b17 (.inr (1, [.null, .int (iI 0), .int (iI 0), .int (iI 0)]))) _) (zup zE b17 (.inr (1, [.null, .int (iI 0), .int (iI 0), .int (iI 0)]))) b17 zup_s) qc_J4_init_da8c8 qn_J4 qm_L_164 qi_J4_init_da8c8 rfl he_J4_init_da8c8 rfl hl rfl (Nat.le_of_ble_eq_true rfl) ⟨Nat.le_of_ble_eq_true rfl, Nat.le_of_ble_eq_true rfl⟩ ⟨(by show _ ≤ 72; omega), (by show _ ≤ 720; omega)⟩ dL_drawnWord_21) hW (fun B21 H locs hp21 hW => ?_)
        obtain ⟨va21, -, -, hb21⟩ := hp21
        have hnil : ([] : List Int).length = 0 := rfl
        refine W.widen (k := (6 * k.toNat) + 2) (n := (60 * k.toNat) + 20) (by omega) (by omega) ?_
        refine lv_aload_n hx hb dL_drawnWord_24 rfl (lv_at hl 2 rfl) ?_
        have hcc25 := oSB.c hb21
        have hgx25 := grx_le 16 (([] : List Int).length + t.length)
        have hmc25 := mcS_le (cap := 16) (n := (([] : List Int).length + t.length))
        obtain ⟨fs25, ho25⟩ := (oSB.mono hb21 zun_le1).o
        refine z_cAp hC (z_frV (rest := []) (As := [.ref w]) (n := 1) (ci := 1) hC hW.bx (mes_append l D cs (zfA (zun B21 X1) _) (zun B21 X1) b17 va21 16 ([] : List Int) w wv t (oSB.mono hb21 zun_le1) (oSt.mono hsw (zun_le2 hW.dbx)) (by omega)) gv_L_165 hd_J4_append_15ec4 rfl ho25 rfl hl rfl (Nat.le_of_ble_eq_true rfl) ⟨Nat.le_of_ble_eq_true rfl, Nat.le_of_ble_eq_true rfl⟩ ⟨(by show _ ≤ 72; omega), (by show _ ≤ 720; omega)⟩ dL_drawnWord_25) hW hb21 (fun B25 va25 H locs hb25 hW => ?_)
        obtain ⟨ca25, hca25⟩ : ∃ c_ : Nat, c_ = grx 16 (([] : List Int).length + t.length) := ⟨_, rfl⟩
        rw [← hca25] at hb25 hgx25
        refine W.widen (k := (6 * k.toNat) + 3) (n := (60 * k.toNat) + (20 + 2 * (ca25 - 16))) (by omega) (by omega) ?_
        have hb25 : oSB cs B25 b17 va25 ca25 t := hb25
        refine z_ldcS1 hC (List.mem_of_getElem? (i := 1) rfl) dL_drawnWord_28 ?_
        refine lv_iload_n hx hb dL_drawnWord_30 rfl (lv_at hl 3 rfl) ?_
        refine z_iconst hx hb dL_drawnWord_31 ?_
        refine z_iconst hx hb dL_drawnWord_32 ?_
        refine lv_iload_n hx hb dL_drawnWord_33 rfl (lv_at hl 0 rfl) ?_
        refine z_imul hx hb dL_drawnWord_34 ?_
        refine z_bipush hx hb dL_drawnWord_35 (by decide) ?_
        refine z_irem hx hb dL_drawnWord_37 (by omega) (by omega) ?_
        refine z_iadd hx hb dL_drawnWord_38 ?_
        refine lv_iushr (v := iI (d / ((2 ^ (4 + 2 * k % 25).toNat : Nat) : Int))) hx hb dL_drawnWord_39 (by rw [show iI (4 + 2 * k % 25) = iI (((4 + 2 * k % 25).toNat : Nat) : Int) by rw [Int.toNat_of_nonneg (by omega)]]; exact iI_ushrN _ (by omega) hd0) ?_
        have hdq : 0 ≤ d / ((2 ^ (4 + 2 * k % 25).toNat : Nat) : Int) ∧ d / ((2 ^ (4 + 2 * k % 25).toNat : Nat) : Int) ≤ 2147483647 := ⟨Int.ediv_nonneg hd0.1 (Int.natCast_nonneg _), Int.le_trans (Int.ediv_le_self _ hd0.1) hd0.2⟩
        refine z_bipush hx hb dL_drawnWord_40 (by decide) ?_
        refine z_irem hx hb dL_drawnWord_42 (by omega) (by omega) ?_
        refine z_cXi hC (z_frSt (rest := [.ref b17]) (As := [.int (iI ((d / ((2 ^ (4 + 2 * k % 25).toNat : Nat) : Int)) % 12))]) (n := 1) hC hW.x (mes_charAt l D cs (zfA X1 _) X1 (cs (50 + 1)) (cs (70 + 1)) (zLw 1) ((d / ((2 ^ (4 + 2 * k % 25).toNat : Nat) : Int)) % 12) (zLw_st (j := 1) (by decide)) ⟨by omega, by rw [hll]; omega⟩) gv_L_143 hd_J0_charAt_5068e (zLw_st (j := 1) (by decide)) rfl hl rfl (Nat.le_of_ble_eq_true rfl) ⟨Nat.le_of_ble_eq_true rfl, Nat.le_of_ble_eq_true rfl⟩ ⟨(by show _ ≤ 72; omega), (by show _ ≤ 720; omega)⟩ dL_drawnWord_43) hW (fun r43 X43 H locs hp43 hW => ?_)
        obtain ⟨rfl, rfl⟩ := hp43
        have hrc := zLw1_at (d / ((2 ^ (4 + 2 * k % 25).toNat : Nat) : Int) % 12).toNat (by omega)
        have hcc46 := oSB.c hb25
        have hgx46 := grw_f (cap := ca25) (n := (t.length + 1)) (by omega)
        have hmc46 := mcS_le (cap := ca25) (n := (t.length + 1))
        obtain ⟨fs46, ho46⟩ := (oSB.mono hb25 zun_le1).o
        refine z_cAp hC (z_frV (rest := []) (As := [.int (iI ((zLw 1).getD ((d / ((2 ^ (4 + 2 * k % 25).toNat : Nat) : Int)) % 12).toNat 0))]) (n := 1) (ci := 1) hC hW.bx (met_J4_append_cf468 l D cs (zfA (zun B25 X1) _) (zun B25 X1) b17 va25 ca25 t ((zLw 1).getD ((d / ((2 ^ (4 + 2 * k % 25).toNat : Nat) : Int)) % 12).toNat 0) (oSB.mono hb25 zun_le1) (by omega) (by omega)) gv_L_171 hd_J4_append_cf468 rfl ho46 rfl hl rfl (Nat.le_of_ble_eq_true rfl) ⟨Nat.le_of_ble_eq_true rfl, Nat.le_of_ble_eq_true rfl⟩ ⟨(by show _ ≤ 72; omega), (by show _ ≤ 720; omega)⟩ dL_drawnWord_46) hW hb25 (fun B46 va46 H locs hb46 hW => ?_)
        obtain ⟨ca46, hca46⟩ : ∃ c_ : Nat, c_ = grw ca25 (t.length + 1) := ⟨_, rfl⟩
        rw [← hca46] at hb46 hgx46
        refine W.widen (k := (6 * k.toNat) + 4) (n := (60 * k.toNat) + (20 + 2 * (ca46 - 16))) (by omega) (by omega) ?_
        have hlen46 : (t ++ [(zLw 1).getD ((d / ((2 ^ (4 + 2 * k % 25).toNat : Nat) : Int)) % 12).toNat 0]).length = (t.length + 1) := by rw [List.length_append]; rfl
        obtain ⟨fs49, ho49⟩ := (oSB.mono hb46 zun_le1).o
        refine z_cTs hC (z_frV (rest := []) (As := []) (n := 0) (ci := 1) hC hW.bx (mes_toString l D cs (zfA (zun B46 X1) _) (zun B46 X1) b17 va46 ca46 (t ++ [(zLw 1).getD ((d / ((2 ^ (4 + 2 * k % 25).toNat : Nat) : Int)) % 12).toNat 0]) (oSB.mono hb46 zun_le1) (by omega)) gv_L_174 hd_J4_toString_0e30d rfl ho49 rfl hl rfl (Nat.le_of_ble_eq_true rfl) ⟨Nat.le_of_ble_eq_true rfl, Nat.le_of_ble_eq_true rfl⟩ ⟨(by show _ ≤ 72; omega), (by show _ ≤ 720; omega)⟩ dL_drawnWord_49) hW hb46 (fun r49 v49 X49 H locs hl49 hq49 hh49 hW => ?_)
        have hs_3 : oSt cs X49 w wv t := hsw.mono hl49
        have hle_4 : zle X X49 := hle1.trans hl49
        refine W.widen (k := (6 * k.toNat + 6)) (n := (60 * k.toNat + 60)) (by omega) (by omega) ?_
        refine lv_astore_n (lv' := [(1, .ref r49), (3, .int (iI k)), (2, .int (iI (1 + (d % 12)))), (0, .int (iI d))]) hx hb dL_drawnWord_52 rfl hl (by decide) rfl (fun ls hl => ?_)
        refine z_iinc (lv' := [(3, .int (iI (k + 1))), (1, .ref r49), (2, .int (iI (1 + (d % 12)))), (0, .int (iI d))]) hx hb dL_drawnWord_53 hl (k := 1) rfl (by decide) rfl (fun ls hl => ?_)
        refine lv_goto (tgt := 12) hx hb dL_drawnWord_56 (by decide) ?_
        refine W.widen (k := (6 * (k + 1).toNat)) (n := (60 * (k + 1).toNat)) (by omega) (by omega) ?_
        exact ih12 (k + 1) X49 r49 v49 (t ++ [(zLw 1).getD ((d / ((2 ^ (4 + 2 * k % 25).toNat : Nat) : Int)) % 12).toNat 0]) (by omega) (by omega) hle_4 hq49 (Or.inr ⟨_, hh49⟩) (by rw [List.length_append, List.length_singleton]; omega) (zlet_snoc htr hrc) _ _ hW ls (lv_sub hl [0, 2, 1, 3] rfl)
  refine W.widen (k := (6 * (0 : Int).toNat)) (n := (60 * (0 : Int).toNat)) (by omega) (by omega) ?_
  exact L12_k_1 _ 0 X (cs (50 + 0)) (cs (70 + 0)) [] (Nat.lt_succ_self _) (by omega) zle.refl (zLw_st (j := 0) (by decide)) (Or.inl rfl) rfl (fun x hx => absurd hx List.not_mem_nil) _ _ hW ls (lv_sub hl [0, 1, 2, 3] rfl)

