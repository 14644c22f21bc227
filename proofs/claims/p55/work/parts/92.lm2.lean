/-- the number that word k of a text is drawn from -/
def dKn (d k : Int) : Int := (d * (2 * k + 1) + 77 * k) % 4294967296 / 2
/-- how long a text is when n words behind the first were considered -/
def tLs (d : Int) : Nat → Int
  | 0 => 1 + d % 12
  | n + 1 => if tLs d n + (1 + dKn d (n + 1) % 12) < 60 then tLs d n + 1 + (1 + dKn d (n + 1) % 12) else tLs d n
theorem zsf_let : ∀ (w t : List Int), zlet w → zsf (t ++ w) = ((zsf t).1, (zsf t).2 ++ w)
  | [], t, _ => by simp
  | x :: w, t, h => by
    have hx := h x List.mem_cons_self
    rw [show t ++ x :: w = (t ++ [x]) ++ w by simp, zsf_let w (t ++ [x]) (fun y hy => h y (List.mem_cons_of_mem _ hy)), zsf_snoc, if_neg (by omega)]
    simp
theorem zsp_let {w : List Int} (h : zlet w) : zsp w = [w] := by
  have := zsf_let w [] h
  unfold zsp
  rw [List.nil_append] at this
  rw [this]
  rfl
theorem zsp_add {t w : List Int} (h : zlet w) : zsp (t ++ [32] ++ w) = zsp t ++ [w] := by
  unfold zsp
  rw [zsf_let w _ h, zsf_snoc, if_pos rfl]
  simp
theorem zlet_2 {t : List Int} (h : zlet t) : zlt2 t := fun x hx => Or.inr (h x hx)
theorem zlt2_add {t w : List Int} (h : zlt2 t) (hw : zlet w) : zlt2 (t ++ [32] ++ w) := fun x hx => by
  rcases List.mem_append.mp hx with z | z
  · rcases List.mem_append.mp z with y | y
    · exact h x y
    · exact Or.inl (List.mem_singleton.mp y)
  · exact Or.inr (hw x z)
/-- a text drawn: n words considered behind the first -/
def txOK (d : Int) (n : Nat) (t : List Int) : Prop := (t.length : Int) = tLs d n ∧ t.length ≤ 60 ∧ zlt2 t ∧ zat t ∧ (zsp t).length ≤ n + 1
theorem txOK_0 {d : Int} {t : List Int} (hl : (t.length : Int) = 1 + d % 12) (h : zlet t) (hd : 0 ≤ d) : txOK d 0 t := by
  refine ⟨hl, by omega, zlet_2 h, fun w hw => ?_, by rw [zsp_let h]; exact Nat.le_refl _⟩
  rw [zsp_let h] at hw
  rw [List.mem_singleton.mp hw]
  exact ⟨by omega, by omega⟩
theorem txOK_no {d k : Int} {t : List Int} (hk : 1 ≤ k) (h : txOK d (k - 1).toNat t) (hl : 60 ≤ (t.length : Int) + (1 + dKn d k % 12)) : txOK d (k + 1 - 1).toNat t := by
  obtain ⟨h1, h2, h3, h4, h5⟩ := h
  rw [show (k + 1 - 1).toNat = (k - 1).toNat + 1 by omega]
  refine ⟨?_, h2, h3, h4, by omega⟩
  unfold tLs
  rw [show (((k - 1).toNat : Nat) : Int) + 1 = k by omega, ← h1, if_neg (by omega)]
theorem txOK_yes {d k : Int} {t w : List Int} (hk : 1 ≤ k) (h : txOK d (k - 1).toNat t) (hw : (w.length : Int) = 1 + dKn d k % 12) (hwl : zlet w) (hl : (t.length : Int) + w.length < 60) : txOK d (k + 1 - 1).toNat (t ++ [32] ++ w) := by
  obtain ⟨h1, h2, h3, h4, h5⟩ := h
  rw [show (k + 1 - 1).toNat = (k - 1).toNat + 1 by omega]
  have hlen : ((t ++ [32] ++ w).length : Int) = t.length + 1 + w.length := by simp; omega
  refine ⟨?_, by omega, zlt2_add h3 hwl, fun x hx => ?_, by rw [zsp_add hwl, List.length_append, List.length_singleton]; omega⟩
  · unfold tLs
    rw [show (((k - 1).toNat : Nat) : Int) + 1 = k by omega, ← h1, if_pos (by omega)]
    omega
  · rw [zsp_add hwl] at hx
    rcases List.mem_append.mp hx with z | z
    · exact h4 x z
    · rw [List.mem_singleton.mp z]; exact ⟨by omega, by omega⟩
def oTx (cs : Nat → ClassId) (X : zF) (r : Nat) (d : Int) : Prop := ∃ (v : Nat) (t : List Int), oSt cs X r v t ∧ txOK d (d % 9).toNat t
set_option maxHeartbeats 4000000 in
set_option maxRecDepth 100000 in
theorem lm_drawnText (l : Launch) (D : va_G) (cs : Nat → ClassId) (A : Nat → Prop) (X : zF) (d : Int)  (hd0 : 0 ≤ d ∧ d ≤ 2147483647) : zM l D cs A yL_drawnText cL_drawnText 4 (some (FieldType.object "java/lang/String")) 19 704 9520 [.int (iI d)] X (pR (fun r X1 => zle X X1 ∧ oTx cs X1 r d)) := by
  refine zM_of (own := RL) (by decide) rfl (Nat.le_of_ble_eq_true rfl) ?_
  intro p e s m below meth c hC hr hlk hnm hZ ls hl
  have hx := hC.x
  have hb := hC.b
  have hl : lv_has ls 4 [(0, .int (iI d))] := hl
  have hW := zW3.ofX hZ
  have hl2 : (zLw 2).length = 1 := rfl
  have hd9 : 0 ≤ d % 9 ∧ d % 9 ≤ 8 := by omega
  refine lv_iload_n hx hb dL_drawnText_0 rfl (lv_at hl 0 rfl) ?_
  refine z_cXr hC (z_frS (rest := []) (As := [.int (iI d)]) (n := 1) hC hW.x (lm_drawnWord l D cs (zfA X _) X d (by omega)) gs_L_178 he_L_drawnWord rfl hl rfl (Nat.le_of_ble_eq_true rfl) ⟨Nat.le_of_ble_eq_true rfl, Nat.le_of_ble_eq_true rfl⟩ ⟨Nat.le_of_ble_eq_true rfl, Nat.le_of_ble_eq_true rfl⟩ dL_drawnText_1) hW (fun r1 X1 H locs hp1 hW => ?_)
  obtain ⟨hl1, hd1⟩ := hp1
  obtain ⟨v1, t1, hq1, hh1, hn1, hw1⟩ := hd1
  have hle_1 : zle X X1 := zle.refl.trans hl1
  refine lv_astore_n (lv' := [(1, .ref r1), (0, .int (iI d))]) hx hb dL_drawnText_4 rfl hl (by decide) rfl (fun ls hl => ?_)
  refine z_iconst hx hb dL_drawnText_5 ?_
  refine lv_istore_n (lv' := [(2, .int (iI 1)), (1, .ref r1), (0, .int (iI d))]) hx hb dL_drawnText_6 rfl hl (by decide) rfl (fun ls hl => ?_)
  have L7_k_2 : ∀ (fu : Nat) (k : Int) (X1 : zF) (w wv : Nat) (t : List Int) (hfu : (1 + d % 9 - k).toNat < fu) (hi7_0 : 1 ≤ k ∧ k ≤ 1 + d % 9) (hle1 : zle X X1) (hsw : oSt cs X1 w wv t) (htx : txOK d (k - 1).toNat t) (H : Heap) (locs : List Loc) (hW : zW3 D A s zE zE X1 H locs) (ls : Array Slot) (hl : lv_has ls 4 [(0, .int (iI d)), (1, .ref w), (2, .int (iI k))]), W p l e (zR 19 704 9520) s m [.int (iI d)].toArray below meth c H locs (72 + 79 * (k - 1).toNat) (720 + 1100 * (k - 1).toNat) (MQ below (zQ D A (pR (fun r X1 => zle X X1 ∧ oTx cs X1 r d))) [.int (iI d)].toArray s 704 9520 A) (F0 m 7 ls []) := by
    intro fu
    induction fu with
    | zero =>
      intro k X1 w wv t hfu
      exact absurd hfu (Nat.not_lt_zero _)
    | succ fu ih7 =>
      intro k X1 w wv t hfu hi7_0 hle1 hsw htx H locs hW ls hl
      have ht60 := htx.2.1
      refine lv_iload_n hx hb dL_drawnText_7 rfl (lv_at hl 2 rfl) ?_
      refine z_iconst hx hb dL_drawnText_8 ?_
      refine lv_iload_n hx hb dL_drawnText_9 rfl (lv_at hl 0 rfl) ?_
      refine z_bipush hx hb dL_drawnText_10 (by decide) ?_
      refine z_irem hx hb dL_drawnText_12 (by omega) (by omega) ?_
      refine z_iadd hx hb dL_drawnText_13 ?_
      refine z_icmp_ge (tgt := 83) hx hb dL_drawnText_14 (by decide) (by omega) (by omega) (fun c_3 => ?_) (fun c_3 => ?_)
      · skip
        refine lv_aload_n hx hb dL_drawnText_83 rfl (lv_at hl 1 rfl) ?_
        exact z_aret hC hr (Or.inl ⟨_, rfl⟩) hlk hW.x (by omega) (by omega) (⟨hle1, wv, t, hsw, by rw [show (d % 9).toNat = (k - 1).toNat by omega]; exact htx⟩) dL_drawnText_84
      · skip
        refine lv_iload_n hx hb dL_drawnText_17 rfl (lv_at hl 0 rfl) ?_
        refine z_iconst hx hb dL_drawnText_18 ?_
        refine lv_iload_n hx hb dL_drawnText_19 rfl (lv_at hl 2 rfl) ?_
        refine z_imul hx hb dL_drawnText_20 ?_
        refine z_iconst hx hb dL_drawnText_21 ?_
        refine z_iadd hx hb dL_drawnText_22 ?_
        refine z_imul hx hb dL_drawnText_23 ?_
        refine z_bipush hx hb dL_drawnText_24 (by decide) ?_
        refine lv_iload_n hx hb dL_drawnText_26 rfl (lv_at hl 2 rfl) ?_
        refine z_imul hx hb dL_drawnText_27 ?_
        refine z_iadd hx hb dL_drawnText_28 ?_
        refine z_iconst hx hb dL_drawnText_29 ?_
        refine lv_iushr (v := iI (dKn d k)) hx hb dL_drawnText_30 (iI_ushr _ 1 (by decide)) ?_
        have hdk : 0 ≤ dKn d k ∧ dKn d k ≤ 2147483647 := by unfold dKn; omega
        refine z_cXr hC (z_frS (rest := []) (As := [.int (iI (dKn d k))]) (n := 1) hC hW.x (lm_drawnWord l D cs (zfA X1 _) X1 (dKn d k) (by omega)) gs_L_178 he_L_drawnWord rfl hl rfl (Nat.le_of_ble_eq_true rfl) ⟨Nat.le_of_ble_eq_true rfl, Nat.le_of_ble_eq_true rfl⟩ ⟨(by show _ ≤ 704; omega), (by show _ ≤ 9520; omega)⟩ dL_drawnText_31) hW (fun r31 X31 H locs hp31 hW => ?_)
        obtain ⟨hl31, hd31⟩ := hp31
        obtain ⟨v31, t31, hq31, hh31, hn31, hw31⟩ := hd31
        have hs_4 : oSt cs X31 w wv t := hsw.mono hl31
        have hle_5 : zle X X31 := hle1.trans hl31
        refine lv_astore_n (lv' := [(3, .ref r31), (0, .int (iI d)), (1, .ref w), (2, .int (iI k))]) hx hb dL_drawnText_34 rfl hl (by decide) rfl (fun ls hl => ?_)
        refine lv_aload_n hx hb dL_drawnText_35 rfl (lv_at hl 2 rfl) ?_
        refine z_cXi hC (z_frSt (rest := []) (As := []) (n := 0) hC hW.x (mes_length l D cs (zfA X31 _) X31 w wv t hs_4) gv_L_138 hd_J0_length_8abf5 hs_4 rfl hl rfl (Nat.le_of_ble_eq_true rfl) ⟨Nat.le_of_ble_eq_true rfl, Nat.le_of_ble_eq_true rfl⟩ ⟨(by show _ ≤ 704; omega), (by show _ ≤ 9520; omega)⟩ dL_drawnText_36) hW (fun r36 X36 H locs hp36 hW => ?_)
        obtain ⟨rfl, rfl⟩ := hp36
        refine lv_aload_n hx hb dL_drawnText_39 rfl (lv_at hl 0 rfl) ?_
        refine z_cXi hC (z_frSt (rest := [.int (iI (t.length : Int))]) (As := []) (n := 0) hC hW.x (mes_length l D cs (zfA X31 _) X31 r31 v31 t31 hq31) gv_L_138 hd_J0_length_8abf5 hq31 rfl hl rfl (Nat.le_of_ble_eq_true rfl) ⟨Nat.le_of_ble_eq_true rfl, Nat.le_of_ble_eq_true rfl⟩ ⟨(by show _ ≤ 704; omega), (by show _ ≤ 9520; omega)⟩ dL_drawnText_40) hW (fun r40 X40 H locs hp40 hW => ?_)
        obtain ⟨rfl, rfl⟩ := hp40
        refine z_iadd hx hb dL_drawnText_43 ?_
        refine z_bipush hx hb dL_drawnText_44 (by decide) ?_
        refine z_icmp_ge (tgt := 75) hx hb dL_drawnText_46 (by decide) (by omega) (by decide) (fun c_6 => ?_) (fun c_6 => ?_)
        · skip
          refine lv_aload_n hx hb dL_drawnText_75 rfl (lv_at hl 2 rfl) ?_
          refine lv_astore_n (lv' := [(1, .ref w), (3, .ref r31), (0, .int (iI d)), (2, .int (iI k))]) hx hb dL_drawnText_76 rfl hl (by decide) rfl (fun ls hl => ?_)
          refine z_iinc (lv' := [(2, .int (iI (k + 1))), (1, .ref w), (3, .ref r31), (0, .int (iI d))]) hx hb dL_drawnText_77 hl (k := 3) rfl (by decide) rfl (fun ls hl => ?_)
          refine lv_goto (tgt := 7) hx hb dL_drawnText_80 (by decide) ?_
          refine W.widen (k := (72 + 79 * ((k + 1) - 1).toNat)) (n := (720 + 1100 * ((k + 1) - 1).toNat)) (by omega) (by omega) ?_
          exact ih7 (k + 1) X31 w wv t (by omega) (by omega) hle_5 hs_4 (txOK_no hi7_0.1 htx (by omega)) _ _ hW ls (lv_sub hl [3, 1, 0] rfl)
        · skip
          refine z_new (T := TJ4) (N := 4) (ci := 1) hC hW.all tyJ4 tyJ4_ok in_J4 rfl qk_L_162 qx_J4 qn_J4 [.null, .int (iI 0), .int (iI 0), .int (iI 0)] df_J4 (by show _ ≤ 704; omega) (by show _ ≤ 9520; omega) dL_drawnText_49 (fun b49 H hb49 hZ => ?_)
          have hW := hW.nB hb49.1 hZ
          refine lv_dup hx hb dL_drawnText_52 rfl ?_
          refine z_cBv hC (z_frI (rest := [.ref b49]) (As := []) (n := 0) hC hW.b (met_J4_init_da8c8 l D cs (zfA (zup zE b49 (.inr (1, [.null, .int (iI 0), .int (iI 0), .int (iI 0)]))) _) (zup zE b49 (.inr (1, [.null, .int (iI 0), .int (iI 0), .int (iI 0)]))) b49 zup_s) qc_J4_init_da8c8 qn_J4 qm_L_164 qi_J4_init_da8c8 rfl he_J4_init_da8c8 rfl hl rfl (Nat.le_of_ble_eq_true rfl) ⟨Nat.le_of_ble_eq_true rfl, Nat.le_of_ble_eq_true rfl⟩ ⟨(by show _ ≤ 704; omega), (by show _ ≤ 9520; omega)⟩ dL_drawnText_53) hW (fun B53 H locs hp53 hW => ?_)
          obtain ⟨va53, -, -, hb53⟩ := hp53
          have hnil : ([] : List Int).length = 0 := rfl
          refine W.widen (k := (72 + 79 * (k - 1).toNat) + 72 + 2) (n := (720 + 1100 * (k - 1).toNat) + 720 + 20) (by omega) (by omega) ?_
          refine lv_aload_n hx hb dL_drawnText_56 rfl (lv_at hl 2 rfl) ?_
          have hcc57 := oSB.c hb53
          have hgx57 := grx_le 16 (([] : List Int).length + t.length)
          have hmc57 := mcS_le (cap := 16) (n := (([] : List Int).length + t.length))
          obtain ⟨fs57, ho57⟩ := (oSB.mono hb53 zun_le1).o
          refine z_cAp hC (z_frV (rest := []) (As := [.ref w]) (n := 1) (ci := 1) hC hW.bx (mes_append l D cs (zfA (zun B53 X31) _) (zun B53 X31) b49 va53 16 ([] : List Int) w wv t (oSB.mono hb53 zun_le1) (oSt.mono hs_4 (zun_le2 hW.dbx)) (by omega)) gv_L_165 hd_J4_append_15ec4 rfl ho57 rfl hl rfl (Nat.le_of_ble_eq_true rfl) ⟨Nat.le_of_ble_eq_true rfl, Nat.le_of_ble_eq_true rfl⟩ ⟨(by show _ ≤ 704; omega), (by show _ ≤ 9520; omega)⟩ dL_drawnText_57) hW hb53 (fun B57 va57 H locs hb57 hW => ?_)
          obtain ⟨ca57, hca57⟩ : ∃ c_ : Nat, c_ = grx 16 (([] : List Int).length + t.length) := ⟨_, rfl⟩
          rw [← hca57] at hb57 hgx57
          refine W.widen (k := (72 + 79 * (k - 1).toNat) + 72 + 3) (n := (720 + 1100 * (k - 1).toNat) + 720 + (20 + 2 * (ca57 - 16))) (by omega) (by omega) ?_
          have hb57 : oSB cs B57 b49 va57 ca57 t := hb57
          refine z_ldcS1 hC (List.mem_of_getElem? (i := 2) rfl) dL_drawnText_60 ?_
          have hcc62 := oSB.c hb57
          have hgx62 := grx_le ca57 (t.length + (zLw 2).length)
          have hmc62 := mcS_le (cap := ca57) (n := (t.length + (zLw 2).length))
          obtain ⟨fs62, ho62⟩ := (oSB.mono hb57 zun_le1).o
          refine z_cAp hC (z_frV (rest := []) (As := [.ref (cs (50 + 2))]) (n := 1) (ci := 1) hC hW.bx (mes_append l D cs (zfA (zun B57 X31) _) (zun B57 X31) b49 va57 ca57 t (cs (50 + 2)) (cs (70 + 2)) (zLw 2) (oSB.mono hb57 zun_le1) (oSt.mono (zLw_st (j := 2) (by decide)) (zun_le2 hW.dbx)) (by omega)) gv_L_165 hd_J4_append_15ec4 rfl ho62 rfl hl rfl (Nat.le_of_ble_eq_true rfl) ⟨Nat.le_of_ble_eq_true rfl, Nat.le_of_ble_eq_true rfl⟩ ⟨(by show _ ≤ 704; omega), (by show _ ≤ 9520; omega)⟩ dL_drawnText_62) hW hb57 (fun B62 va62 H locs hb62 hW => ?_)
          obtain ⟨ca62, hca62⟩ : ∃ c_ : Nat, c_ = grx ca57 (t.length + (zLw 2).length) := ⟨_, rfl⟩
          rw [← hca62] at hb62 hgx62
          refine W.widen (k := (72 + 79 * (k - 1).toNat) + 72 + 4) (n := (720 + 1100 * (k - 1).toNat) + 720 + (20 + 2 * (ca62 - 16))) (by omega) (by omega) ?_
          have hlen62 : (t ++ (zLw 2)).length = (t.length + (zLw 2).length) := List.length_append
          refine lv_aload_n hx hb dL_drawnText_65 rfl (lv_at hl 0 rfl) ?_
          have hcc66 := oSB.c hb62
          have hgx66 := grx_le ca62 ((t ++ (zLw 2)).length + t31.length)
          have hmc66 := mcS_le (cap := ca62) (n := ((t ++ (zLw 2)).length + t31.length))
          obtain ⟨fs66, ho66⟩ := (oSB.mono hb62 zun_le1).o
          refine z_cAp hC (z_frV (rest := []) (As := [.ref r31]) (n := 1) (ci := 1) hC hW.bx (mes_append l D cs (zfA (zun B62 X31) _) (zun B62 X31) b49 va62 ca62 (t ++ (zLw 2)) r31 v31 t31 (oSB.mono hb62 zun_le1) (oSt.mono hq31 (zun_le2 hW.dbx)) (by omega)) gv_L_165 hd_J4_append_15ec4 rfl ho66 rfl hl rfl (Nat.le_of_ble_eq_true rfl) ⟨Nat.le_of_ble_eq_true rfl, Nat.le_of_ble_eq_true rfl⟩ ⟨(by show _ ≤ 704; omega), (by show _ ≤ 9520; omega)⟩ dL_drawnText_66) hW hb62 (fun B66 va66 H locs hb66 hW => ?_)
          obtain ⟨ca66, hca66⟩ : ∃ c_ : Nat, c_ = grx ca62 ((t ++ (zLw 2)).length + t31.length) := ⟨_, rfl⟩
          rw [← hca66] at hb66 hgx66
          refine W.widen (k := (72 + 79 * (k - 1).toNat) + 72 + 5) (n := (720 + 1100 * (k - 1).toNat) + 720 + (20 + 2 * (ca66 - 16))) (by omega) (by omega) ?_
          have hlen66 : ((t ++ (zLw 2)) ++ t31).length = ((t ++ (zLw 2)).length + t31.length) := List.length_append
          obtain ⟨fs69, ho69⟩ := (oSB.mono hb66 zun_le1).o
          refine z_cTs hC (z_frV (rest := []) (As := []) (n := 0) (ci := 1) hC hW.bx (mes_toString l D cs (zfA (zun B66 X31) _) (zun B66 X31) b49 va66 ca66 ((t ++ (zLw 2)) ++ t31) (oSB.mono hb66 zun_le1) (by omega)) gv_L_174 hd_J4_toString_0e30d rfl ho69 rfl hl rfl (Nat.le_of_ble_eq_true rfl) ⟨Nat.le_of_ble_eq_true rfl, Nat.le_of_ble_eq_true rfl⟩ ⟨(by show _ ≤ 704; omega), (by show _ ≤ 9520; omega)⟩ dL_drawnText_69) hW hb66 (fun r69 v69 X69 H locs hl69 hq69 hh69 hW => ?_)
          have hs_7 : oSt cs X69 w wv t := hs_4.mono hl69
          have hs_8 : oSt cs X69 r31 v31 t31 := hq31.mono hl69
          have hle_9 : zle X X69 := hle_5.trans hl69
          refine W.widen (k := (72 + 79 * (k - 1).toNat + 79)) (n := (720 + 1100 * (k - 1).toNat + 1100)) (by omega) (by omega) ?_
          refine lv_goto (tgt := 76) hx hb dL_drawnText_72 (by decide) ?_
          refine lv_astore_n (lv' := [(1, .ref r69), (3, .ref r31), (0, .int (iI d)), (2, .int (iI k))]) hx hb dL_drawnText_76 rfl hl (by decide) rfl (fun ls hl => ?_)
          refine z_iinc (lv' := [(2, .int (iI (k + 1))), (1, .ref r69), (3, .ref r31), (0, .int (iI d))]) hx hb dL_drawnText_77 hl (k := 3) rfl (by decide) rfl (fun ls hl => ?_)
          refine lv_goto (tgt := 7) hx hb dL_drawnText_80 (by decide) ?_
          refine W.widen (k := (72 + 79 * ((k + 1) - 1).toNat)) (n := (720 + 1100 * ((k + 1) - 1).toNat)) (by omega) (by omega) ?_
          exact ih7 (k + 1) X69 r69 v69 ((t ++ (zLw 2)) ++ t31) (by omega) (by omega) hle_9 hq69 (txOK_yes hi7_0.1 htx hn31 hw31 (by omega)) _ _ hW ls (lv_sub hl [3, 1, 0] rfl)
  refine W.widen (k := (72 + 79 * ((1 : Int) - 1).toNat)) (n := (720 + 1100 * ((1 : Int) - 1).toNat)) (by omega) (by omega) ?_
  exact L7_k_2 _ 1 X1 r1 v1 t1 (Nat.lt_succ_self _) (by omega) hle_1 hq1 (txOK_0 hn1 hw1 hd0.1) _ _ hW ls (lv_sub hl [2, 1, 0] rfl)

