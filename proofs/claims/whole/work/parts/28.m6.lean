def lnAt (f : Int → Int) (b : Int) (l : List Int) : Prop := ∀ (k : Nat) (x : Int), l[k]? = some x → f (b + k) = x
theorem lnAt_nil {f : Int → Int} {b : Int} : lnAt f b [] := fun k x h => by simp at h
theorem lnAt_snoc {f : Int → Int} {b : Int} {l : List Int} {n x : Int} (h : lnAt f b l) (hn : n = l.length) : lnAt (upI f (b + n) x) b (l ++ [x]) := by
  intro k y hk
  by_cases q : k < l.length
  · rw [List.getElem?_append_left q] at hk
    rw [upI_n (by omega)]
    exact h k y hk
  · have hl : k < (l ++ [x]).length := (List.getElem?_eq_some_iff.mp hk).1
    rw [List.length_append, List.length_singleton] at hl
    have e : k = l.length := by omega
    subst e
    rw [List.getElem?_append_right (by omega)] at hk
    simp at hk
    rw [← hn, upI_s, hk]
theorem lnAt_cong {f f' : Int → Int} {b : Int} {l : List Int} {n : Int} (h : lnAt f b l) (hn : (l.length : Int) ≤ n) (hf : ∀ k, b ≤ k → k < b + n → f' k = f k) : lnAt f' b l := by
  intro k x hk
  have hl := (List.getElem?_eq_some_iff.mp hk).1
  rw [hf _ (by omega) (by omega)]
  exact h k x hk
set_option maxHeartbeats 4000000 in
set_option maxRecDepth 100000 in
theorem met_X13_puts (l : Launch) (D : va_G) (cs : Nat → ClassId) (A : Nat → Prop) (m0 : Nat) (ad : Nat → Nat) (v : Nat → Int) (g : Nat → Int → Int) (x : Int)  (hD : mD m0 ad) (hok : mOK v g) (hx0 : 0 ≤ x ∧ x ≤ 65535) (h12 : 0 ≤ v 12 ∧ v 12 < 200) (hl1 : 0 ≤ g 10 (v 12) ∧ g 10 (v 12) < 20) : zM l D cs A yX13_puts cX13_puts 2 (none : Option Jvm.ClassFile.FieldType) 1 0 0 [.ref m0, .int (iI x)] (mW cs m0 ad v g) (mPv cs m0 ad (fun v1 g1 => v = v1 ∧ upG (upG g 9 (upI (g 9) (20 * v 12 + g 10 (v 12)) x)) 10 (upI (g 10) (v 12) (g 10 (v 12) + 1)) = g1)) := by
  refine zM_of (own := RX13) (by decide) rfl (Nat.le_of_ble_eq_true rfl) ?_
  intro p e s m below meth c hC hr hlk hnm hZ ls hl
  have hx := hC.x
  have hb := hC.b
  have hl : lv_has ls 2 [(0, .ref m0), (1, .int (iI x))] := hl
  refine lv_aload_n hx hb dX13_puts_0 rfl (lv_at hl 0 rfl) ?_
  refine m_get hC hZ 9 (x := .ref (ad 9)) rfl (by decide) ql_X13_26 rfl dX13_puts_1 ?_
  refine z_bipush hx hb dX13_puts_4 (by decide) ?_
  refine lv_aload_n hx hb dX13_puts_6 rfl (lv_at hl 0 rfl) ?_
  refine m_get hC hZ 12 (x := .int (iI (v 12))) rfl (by decide) ql_X13_147 rfl dX13_puts_7 ?_
  have hr_1 : -2147483648 ≤ v 12 ∧ v 12 ≤ 2147483647 := hok.1 12
  refine z_imul hx hb dX13_puts_10 ?_
  refine lv_aload_n hx hb dX13_puts_11 rfl (lv_at hl 0 rfl) ?_
  refine m_get hC hZ 10 (x := .ref (ad 10)) rfl (by decide) ql_X13_29 rfl dX13_puts_12 ?_
  refine lv_aload_n hx hb dX13_puts_15 rfl (lv_at hl 0 rfl) ?_
  refine m_get hC hZ 12 (x := .int (iI (v 12))) rfl (by decide) ql_X13_147 rfl dX13_puts_16 ?_
  have hr_2 : -2147483648 ≤ v 12 ∧ v 12 ≤ 2147483647 := hok.1 12
  refine m_iald hC hZ hD 10 (by decide) (f := g 10) rfl rfl (by show _ ∧ _ < (200 : Int); omega) (by decide) dX13_puts_19 ?_
  have hr_3 : -2147483648 ≤ (g 10) (v 12) ∧ (g 10) (v 12) ≤ 2147483647 := hok.2 10 _
  refine z_iadd hx hb dX13_puts_20 ?_
  refine lv_iload_n hx hb dX13_puts_21 rfl (lv_at hl 1 rfl) ?_
  refine m_cast hC hZ hD 9 (by decide) (f := g 9) rfl rfl (by show _ ∧ _ < (4000 : Int); omega) (by decide) (by omega) dX13_puts_22 (fun H locs hZ => ?_)
  have hok_4 := hok.g (k := 9) (i := ((20 * (v 12)) + ((g 10) (v 12)))) (x := x) (f := g 9) rfl (by omega)
  refine lv_aload_n hx hb dX13_puts_23 rfl (lv_at hl 0 rfl) ?_
  refine m_get hC hZ 10 (x := .ref (ad 10)) rfl (by decide) ql_X13_29 rfl dX13_puts_24 ?_
  refine lv_aload_n hx hb dX13_puts_27 rfl (lv_at hl 0 rfl) ?_
  refine m_get hC hZ 12 (x := .int (iI (v 12))) rfl (by decide) ql_X13_147 rfl dX13_puts_28 ?_
  have hr_5 : -2147483648 ≤ v 12 ∧ v 12 ≤ 2147483647 := hok_4.1 12
  refine lv_dup2_11 hx hb dX13_puts_31 rfl rfl ?_
  refine m_iald hC hZ hD 10 (by decide) (f := g 10) rfl rfl (by show _ ∧ _ < (200 : Int); omega) (by decide) dX13_puts_32 ?_
  have hr_6 : -2147483648 ≤ (g 10) (v 12) ∧ (g 10) (v 12) ≤ 2147483647 := (hok_4.2 10 (v 12))
  refine z_iconst hx hb dX13_puts_33 ?_
  refine z_iadd hx hb dX13_puts_34 ?_
  refine m_iast hC hZ hD 10 (by decide) (f := g 10) rfl rfl (by show _ ∧ _ < (200 : Int); omega) (by decide) dX13_puts_35 (fun H locs hZ => ?_)
  have hok_7 := hok_4.g (k := 10) (i := (v 12)) (x := (((g 10) (v 12)) + 1)) (f := g 10) rfl (by omega)
  exact z_vret hC hr hlk hZ (by decide) (by decide) (⟨_, _, rfl, hok_7, rfl, rfl⟩) dX13_puts_36

set_option maxHeartbeats 4000000 in
set_option maxRecDepth 100000 in
theorem met_X13_begins (l : Launch) (D : va_G) (cs : Nat → ClassId) (A : Nat → Prop) (m0 : Nat) (ad : Nat → Nat) (v : Nat → Int) (g : Nat → Int → Int) (x : Int)  (hD : mD m0 ad) (hok : mOK v g) (hx0 : 0 ≤ x ∧ x < 200) : zM l D cs A yX13_begins cX13_begins 2 (none : Option Jvm.ClassFile.FieldType) 1 0 0 [.ref m0, .int (iI x)] (mW cs m0 ad v g) (mPv cs m0 ad (fun v1 g1 => upN v 12 x = v1 ∧ upG (upG g 10 (upI (g 10) x 0)) 11 (upI (g 11) x 0) = g1)) := by
  refine zM_of (own := RX13) (by decide) rfl (Nat.le_of_ble_eq_true rfl) ?_
  intro p e s m below meth c hC hr hlk hnm hZ ls hl
  have hx := hC.x
  have hb := hC.b
  have hl : lv_has ls 2 [(0, .ref m0), (1, .int (iI x))] := hl
  refine lv_aload_n hx hb dX13_begins_0 rfl (lv_at hl 0 rfl) ?_
  refine lv_iload_n hx hb dX13_begins_1 rfl (lv_at hl 1 rfl) ?_
  refine m_put hC hZ 12 (ty := .int) (by decide) ql_X13_147 rfl rfl rfl (Or.inl rfl) rfl dX13_begins_2 (fun H locs hZ => ?_)
  have hok_1 := hok.v (k := 12) (x := x) (by omega)
  refine lv_aload_n hx hb dX13_begins_5 rfl (lv_at hl 0 rfl) ?_
  refine m_get hC hZ 10 (x := .ref (ad 10)) rfl (by decide) ql_X13_29 rfl dX13_begins_6 ?_
  refine lv_iload_n hx hb dX13_begins_9 rfl (lv_at hl 1 rfl) ?_
  refine z_iconst hx hb dX13_begins_10 ?_
  refine m_iast hC hZ hD 10 (by decide) (f := g 10) rfl rfl (by show _ ∧ _ < (200 : Int); omega) (by decide) dX13_begins_11 (fun H locs hZ => ?_)
  have hok_2 := hok_1.g (k := 10) (i := x) (x := 0) (f := g 10) rfl (by decide)
  refine lv_aload_n hx hb dX13_begins_12 rfl (lv_at hl 0 rfl) ?_
  refine m_get hC hZ 11 (x := .ref (ad 11)) rfl (by decide) ql_X13_32 rfl dX13_begins_13 ?_
  refine lv_iload_n hx hb dX13_begins_16 rfl (lv_at hl 1 rfl) ?_
  refine z_iconst hx hb dX13_begins_17 ?_
  refine m_zast hC hZ hD 11 (by decide) (f := g 11) rfl rfl (by show _ ∧ _ < (200 : Int); omega) (by decide) (by decide) dX13_begins_18 (fun H locs hZ => ?_)
  have hok_3 := hok_2.g (k := 11) (i := x) (x := 0) (f := g 11) rfl (by decide)
  exact z_vret hC hr hlk hZ (by decide) (by decide) (⟨_, _, rfl, hok_3, rfl, rfl⟩) dX13_begins_19

theorem lnPut_0 {part : zWd} : lnPut [] part = part := if_pos rfl
theorem lnPut_c {cur part : zWd} (h : cur ≠ []) : lnPut cur part = cur ++ [32] ++ part := by
  unfold lnPut; rw [if_neg h]; simp
theorem take_snoc {wd : zWd} {x k : Int} (h : 0 ≤ x ∧ x ≤ k ∧ k < wd.length) : (wd.drop x.toNat).take ((k + 1) - x).toNat = (wd.drop x.toNat).take (k - x).toNat ++ [wd.getD k.toNat 0] := by
  have e : ((k + 1) - x).toNat = (k - x).toNat + 1 := by omega
  rw [e, List.take_add_one, List.getElem?_drop]
  have e2 : x.toNat + (k - x).toNat = k.toNat := by omega
  rw [e2, List.getD_eq_getElem?_getD]
  have hl : k.toNat < wd.length := by omega
  rw [List.getElem?_eq_getElem hl]; rfl
set_option maxHeartbeats 4000000 in
set_option maxRecDepth 100000 in
theorem met_X13_putsPart (l : Launch) (D : va_G) (cs : Nat → ClassId) (A : Nat → Prop) (m0 : Nat) (ad : Nat → Nat) (v : Nat → Int) (g : Nat → Int → Int) (a b x y : Int) (wd cur : zWd) (hD : mD m0 ad) (hok : mOK v g) (ha0 : 0 ≤ a ∧ a ≤ 5) (hb0 : 0 ≤ b ∧ b ≤ 29) (hwd : wdOK wd) (hln : mof (g 0) a (3 + 13 * b) = wd.length) (hlt : ∀ k : Int, 0 ≤ k → k < wd.length → mof (g 0) a (3 + 13 * b + 1 + k) = wd.getD k.toNat 0 ∧ 97 ≤ wd.getD k.toNat 0 ∧ wd.getD k.toNat 0 ≤ 122) (hxy : 0 ≤ x ∧ x ≤ y ∧ y ≤ wd.length) (h12 : 0 ≤ v 12 ∧ v 12 < 200) (hcu : lnAt (g 9) (20 * v 12) cur) (hcl : g 10 (v 12) = cur.length) (hfit : ((lnPut cur ((wd.drop x.toNat).take (y - x).toNat)).length : Int) ≤ 20) : zM l D cs A yX13_putsPart cX13_putsPart 6 (none : Option Jvm.ClassFile.FieldType) 3 0 0 [.ref m0, .int (iI a), .int (iI b), .int (iI x), .int (iI y)] (mW cs m0 ad v g) (mPv cs m0 ad (fun v1 g1 => v = v1 ∧ (∀ j, j ≠ 9 → j ≠ 10 → g1 j = g j) ∧ lnAt (g1 9) (20 * v 12) (lnPut cur ((wd.drop x.toNat).take (y - x).toNat)) ∧ (∀ k, k < 20 * v 12 → g1 9 k = g 9 k) ∧ g1 10 = upI (g 10) (v 12) (lnPut cur ((wd.drop x.toNat).take (y - x).toNat)).length)) := by
  refine zM_of (own := RX13) (by decide) rfl (Nat.le_of_ble_eq_true rfl) ?_
  intro p e s m below meth c hC hr hlk hnm hZ ls hl
  have hx := hC.x
  have hb := hC.b
  have hl : lv_has ls 6 [(0, .ref m0), (1, .int (iI a)), (2, .int (iI b)), (3, .int (iI x)), (4, .int (iI y))] := hl
  have hwl := hwd.1
  have hfl := lnPut_len cur ((wd.drop x.toNat).take (y - x).toNat)
  have htl : (((wd.drop x.toNat).take (y - x).toNat).length : Int) = y - x := by rw [List.length_take, List.length_drop]; omega
  refine lv_aload_n hx hb dX13_putsPart_0 rfl (lv_at hl 0 rfl) ?_
  refine m_get hC hZ 10 (x := .ref (ad 10)) rfl (by decide) ql_X13_29 rfl dX13_putsPart_1 ?_
  refine lv_aload_n hx hb dX13_putsPart_4 rfl (lv_at hl 0 rfl) ?_
  refine m_get hC hZ 12 (x := .int (iI (v 12))) rfl (by decide) ql_X13_147 rfl dX13_putsPart_5 ?_
  have hr_1 : -2147483648 ≤ v 12 ∧ v 12 ≤ 2147483647 := hok.1 12
  refine m_iald hC hZ hD 10 (by decide) (f := g 10) rfl rfl (by show _ ∧ _ < (200 : Int); omega) (by decide) dX13_putsPart_8 ?_
  have hr_2 : -2147483648 ≤ (g 10) (v 12) ∧ (g 10) (v 12) ≤ 2147483647 := hok.2 10 _
  refine z_if_le (tgt := 18) hx hb dX13_putsPart_9 (by decide) (by omega) (fun c_3 => ?_) (fun c_3 => ?_)
  · skip
    have hce : cur = [] := List.eq_nil_of_length_eq_zero (by omega)
    refine lv_iload_n hx hb dX13_putsPart_18 rfl (lv_at hl 3 rfl) ?_
    refine lv_istore (lv' := [(5, .int (iI x)), (0, .ref m0), (1, .int (iI a)), (2, .int (iI b)), (3, .int (iI x)), (4, .int (iI y))]) hx hb dX13_putsPart_19 hl (by decide) rfl (fun ls hl => ?_)
    have L21_k_4 : ∀ (fu : Nat) (i : Int) (g2 : Nat → Int → Int) (pre : zWd) (hfu : (y - i).toNat < fu) (hi21_0 : x ≤ i ∧ i ≤ y) (hi21_1 : ∀ j, j ≠ 9 → j ≠ 10 → g2 j = g j) (hi21_2 : lnAt (g2 9) (20 * v 12) (pre ++ (wd.drop x.toNat).take (i - x).toNat)) (hi21_3 : ∀ k, k < 20 * v 12 → g2 9 k = g 9 k) (hi21_4 : g2 10 = upI (g 10) (v 12) ((pre.length : Int) + (i - x))) (hi21_5 : lnPut cur ((wd.drop x.toNat).take (y - x).toNat) = pre ++ (wd.drop x.toNat).take (y - x).toNat) (hw : mOK v g2) (H : Heap) (locs : List Loc) (hZ : zS D A s (mW cs m0 ad v g2) H locs) (ls : Array Slot) (hl : lv_has ls 6 [(5, .int (iI i)), (0, .ref m0), (1, .int (iI a)), (2, .int (iI b)), (3, .int (iI x)), (4, .int (iI y))]), W p l e (zR 3 0 0) s m [.ref m0, .int (iI a), .int (iI b), .int (iI x), .int (iI y)].toArray below meth c H locs 0 0 (MQ below (zQ D A (mPv cs m0 ad (fun v1 g1 => v = v1 ∧ (∀ j, j ≠ 9 → j ≠ 10 → g1 j = g j) ∧ lnAt (g1 9) (20 * v 12) (lnPut cur ((wd.drop x.toNat).take (y - x).toNat)) ∧ (∀ k, k < 20 * v 12 → g1 9 k = g 9 k) ∧ g1 10 = upI (g 10) (v 12) (lnPut cur ((wd.drop x.toNat).take (y - x).toNat)).length))) [.ref m0, .int (iI a), .int (iI b), .int (iI x), .int (iI y)].toArray s 0 0 A) (F0 m 21 ls []) := by
      intro fu
      induction fu with
      | zero =>
        intro i g2 pre hfu
        exact absurd hfu (Nat.not_lt_zero _)
      | succ fu ih21 =>
        intro i g2 pre hfu hi21_0 hi21_1 hi21_2 hi21_3 hi21_4 hi21_5 hw H locs hZ ls hl
        have e0 : g2 0 = g 0 := hi21_1 0 (by decide) (by decide)
        have e10 : g2 10 (v 12) = pre.length + (i - x) := by rw [hi21_4, upI_s]
        have epl := congrArg List.length hi21_5
        rw [List.length_append] at epl
        refine lv_iload hx hb dX13_putsPart_21 (lv_at hl 0 rfl) ?_
        refine lv_iload hx hb dX13_putsPart_23 (lv_at hl 5 rfl) ?_
        refine z_icmp_ge (tgt := 46) hx hb dX13_putsPart_25 (by decide) (by omega) (by omega) (fun c_5 => ?_) (fun c_5 => ?_)
        · skip
          exact z_vret hC hr hlk hZ (by decide) (by decide) (⟨_, _, rfl, hw, rfl, hi21_1, by rw [hi21_5, ← show i = y by omega]; exact hi21_2, hi21_3, by rw [hi21_4, hi21_5, List.length_append, show i = y by omega]; congr 1; push_cast; omega⟩) dX13_putsPart_46
        · skip
          refine lv_aload_n hx hb dX13_putsPart_28 rfl (lv_at hl 1 rfl) ?_
          refine lv_aload_n hx hb dX13_putsPart_29 rfl (lv_at hl 1 rfl) ?_
          refine lv_iload_n hx hb dX13_putsPart_30 rfl (lv_at hl 2 rfl) ?_
          refine lv_iload_n hx hb dX13_putsPart_31 rfl (lv_at hl 3 rfl) ?_
          refine lv_iload hx hb dX13_putsPart_32 (lv_at hl 0 rfl) ?_
          have hl1 := hlt i (by omega) (by omega)
          rw [← e0] at hl1
          refine z_calli (z_runV (rest := [.ref m0]) (As := [.int (iI a), .int (iI b), .int (iI i)]) (n := 3) (ci := 16) hC hZ (met_X13_letter l D cs A m0 ad v g2 a b i  hD hw (by omega) (by omega) (by omega) (by omega)) gv_X13_136 hd_X13_letter rfl mW_o rfl hl rfl (Nat.le_of_ble_eq_true rfl) ⟨Nat.le_of_ble_eq_true rfl, Nat.le_of_ble_eq_true rfl⟩ ⟨Nat.le_of_ble_eq_true rfl, Nat.le_of_ble_eq_true rfl⟩ dX13_putsPart_34) hZ (fun r34 _ H locs hp_6 hZ => ?_)
          obtain ⟨_, _, rfl, _, rfl, rfl, rfl⟩ := hp_6
          have hr_7 : -2147483648 ≤ mof (g2 0) a (3 + 13 * b + 1 + i) ∧ mof (g2 0) a (3 + 13 * b + 1 + i) ≤ 2147483647 := hw.2 0 _
          refine z_callv (z_runV (rest := []) (As := [.int (iI (mof (g2 0) a (3 + 13 * b + 1 + i)))]) (n := 1) (ci := 16) hC hZ (met_X13_puts l D cs A m0 ad v g2 (mof (g2 0) a (3 + 13 * b + 1 + i))  hD hw (by omega) (by omega) (by omega)) gv_X13_150 hd_X13_puts rfl mW_o rfl hl rfl (Nat.le_of_ble_eq_true rfl) ⟨Nat.le_of_ble_eq_true rfl, Nat.le_of_ble_eq_true rfl⟩ ⟨Nat.le_of_ble_eq_true rfl, Nat.le_of_ble_eq_true rfl⟩ dX13_putsPart_37) hZ (fun _ H locs hp_8 hZ => ?_)
          obtain ⟨_, _, rfl, hok_9, rfl, rfl⟩ := hp_8
          refine z_iinc (lv' := [(5, .int (iI (i + 1))), (0, .ref m0), (1, .int (iI a)), (2, .int (iI b)), (3, .int (iI x)), (4, .int (iI y))]) hx hb dX13_putsPart_40 hl (k := 0) rfl (by decide) rfl (fun ls hl => ?_)
          refine lv_goto (tgt := 21) hx hb dX13_putsPart_43 (by decide) ?_
          exact ih21 (i + 1) (upG (upG g2 9 (upI (g2 9) (20 * (v 12) + (g2 10) (v 12)) (mof (g2 0) a (3 + 13 * b + 1 + i)))) 10 (upI (g2 10) (v 12) ((g2 10) (v 12) + 1))) pre (by omega) (by omega) (fun j h1 h2 => by rw [upG_n h2, upG_n h1]; exact hi21_1 j h1 h2) (by show lnAt (upI (g2 9) _ _) _ _; rw [take_snoc ⟨by omega, by omega, by omega⟩, ← List.append_assoc, ← (hlt i (by omega) (by omega)).1, ← e0]; exact lnAt_snoc hi21_2 (by rw [e10, List.length_append, List.length_take, List.length_drop]; omega)) (fun k hk => by show upI (g2 9) _ _ k = _; rw [upI_n (by omega)]; exact hi21_3 k hk) (by show upI (g2 10) _ _ = _; rw [e10, hi21_4]; funext k; unfold upI; split <;> omega) hi21_5 hok_9 _ _ hZ ls (lv_sub hl [0, 1, 2, 3, 4, 5] rfl)
    exact L21_k_4 _ x g [] (Nat.lt_succ_self _) (by omega) (fun _ _ _ => rfl) (by rw [Int.sub_self]; simpa using (lnAt_nil)) (fun _ _ => rfl) (by rw [Int.sub_self]; funext k; unfold upI; split <;> simp_all) (by rw [hce, lnPut_0]; rfl) hok _ _ hZ ls (lv_sub hl [0, 1, 2, 3, 4, 5] rfl)
  · skip
    have hce : cur ≠ [] := fun q => by rw [q] at hcl; simp at hcl; omega
    rw [if_neg hce] at hfl
    refine lv_aload_n hx hb dX13_putsPart_12 rfl (lv_at hl 0 rfl) ?_
    refine z_bipush hx hb dX13_putsPart_13 (by decide) ?_
    refine z_callv (z_runV (rest := []) (As := [.int (iI 32)]) (n := 1) (ci := 16) hC hZ (met_X13_puts l D cs A m0 ad v g 32  hD hok (by decide) (by omega) (by omega)) gv_X13_150 hd_X13_puts rfl mW_o rfl hl rfl (Nat.le_of_ble_eq_true rfl) ⟨Nat.le_of_ble_eq_true rfl, Nat.le_of_ble_eq_true rfl⟩ ⟨Nat.le_of_ble_eq_true rfl, Nat.le_of_ble_eq_true rfl⟩ dX13_putsPart_15) hZ (fun _ H locs hp_10 hZ => ?_)
    obtain ⟨_, _, rfl, hok_11, rfl, rfl⟩ := hp_10
    refine lv_iload_n hx hb dX13_putsPart_18 rfl (lv_at hl 3 rfl) ?_
    refine lv_istore (lv' := [(5, .int (iI x)), (0, .ref m0), (1, .int (iI a)), (2, .int (iI b)), (3, .int (iI x)), (4, .int (iI y))]) hx hb dX13_putsPart_19 hl (by decide) rfl (fun ls hl => ?_)
    have L21_k_12 : ∀ (fu : Nat) (i : Int) (g2 : Nat → Int → Int) (pre : zWd) (hfu : (y - i).toNat < fu) (hi21_0 : x ≤ i ∧ i ≤ y) (hi21_1 : ∀ j, j ≠ 9 → j ≠ 10 → g2 j = g j) (hi21_2 : lnAt (g2 9) (20 * v 12) (pre ++ (wd.drop x.toNat).take (i - x).toNat)) (hi21_3 : ∀ k, k < 20 * v 12 → g2 9 k = g 9 k) (hi21_4 : g2 10 = upI (g 10) (v 12) ((pre.length : Int) + (i - x))) (hi21_5 : lnPut cur ((wd.drop x.toNat).take (y - x).toNat) = pre ++ (wd.drop x.toNat).take (y - x).toNat) (hw : mOK v g2) (H : Heap) (locs : List Loc) (hZ : zS D A s (mW cs m0 ad v g2) H locs) (ls : Array Slot) (hl : lv_has ls 6 [(5, .int (iI i)), (0, .ref m0), (1, .int (iI a)), (2, .int (iI b)), (3, .int (iI x)), (4, .int (iI y))]), W p l e (zR 3 0 0) s m [.ref m0, .int (iI a), .int (iI b), .int (iI x), .int (iI y)].toArray below meth c H locs 0 0 (MQ below (zQ D A (mPv cs m0 ad (fun v1 g1 => v = v1 ∧ (∀ j, j ≠ 9 → j ≠ 10 → g1 j = g j) ∧ lnAt (g1 9) (20 * v 12) (lnPut cur ((wd.drop x.toNat).take (y - x).toNat)) ∧ (∀ k, k < 20 * v 12 → g1 9 k = g 9 k) ∧ g1 10 = upI (g 10) (v 12) (lnPut cur ((wd.drop x.toNat).take (y - x).toNat)).length))) [.ref m0, .int (iI a), .int (iI b), .int (iI x), .int (iI y)].toArray s 0 0 A) (F0 m 21 ls []) := by
      intro fu
      induction fu with
      | zero =>
        intro i g2 pre hfu
        exact absurd hfu (Nat.not_lt_zero _)
      | succ fu ih21 =>
        intro i g2 pre hfu hi21_0 hi21_1 hi21_2 hi21_3 hi21_4 hi21_5 hw H locs hZ ls hl
        have e0 : g2 0 = g 0 := hi21_1 0 (by decide) (by decide)
        have e10 : g2 10 (v 12) = pre.length + (i - x) := by rw [hi21_4, upI_s]
        have epl := congrArg List.length hi21_5
        rw [List.length_append] at epl
        refine lv_iload hx hb dX13_putsPart_21 (lv_at hl 0 rfl) ?_
        refine lv_iload hx hb dX13_putsPart_23 (lv_at hl 5 rfl) ?_
        refine z_icmp_ge (tgt := 46) hx hb dX13_putsPart_25 (by decide) (by omega) (by omega) (fun c_13 => ?_) (fun c_13 => ?_)
        · skip
          exact z_vret hC hr hlk hZ (by decide) (by decide) (⟨_, _, rfl, hw, rfl, hi21_1, by rw [hi21_5, ← show i = y by omega]; exact hi21_2, hi21_3, by rw [hi21_4, hi21_5, List.length_append, show i = y by omega]; congr 1; push_cast; omega⟩) dX13_putsPart_46
        · skip
          refine lv_aload_n hx hb dX13_putsPart_28 rfl (lv_at hl 1 rfl) ?_
          refine lv_aload_n hx hb dX13_putsPart_29 rfl (lv_at hl 1 rfl) ?_
          refine lv_iload_n hx hb dX13_putsPart_30 rfl (lv_at hl 2 rfl) ?_
          refine lv_iload_n hx hb dX13_putsPart_31 rfl (lv_at hl 3 rfl) ?_
          refine lv_iload hx hb dX13_putsPart_32 (lv_at hl 0 rfl) ?_
          have hl1 := hlt i (by omega) (by omega)
          rw [← e0] at hl1
          refine z_calli (z_runV (rest := [.ref m0]) (As := [.int (iI a), .int (iI b), .int (iI i)]) (n := 3) (ci := 16) hC hZ (met_X13_letter l D cs A m0 ad v g2 a b i  hD hw (by omega) (by omega) (by omega) (by omega)) gv_X13_136 hd_X13_letter rfl mW_o rfl hl rfl (Nat.le_of_ble_eq_true rfl) ⟨Nat.le_of_ble_eq_true rfl, Nat.le_of_ble_eq_true rfl⟩ ⟨Nat.le_of_ble_eq_true rfl, Nat.le_of_ble_eq_true rfl⟩ dX13_putsPart_34) hZ (fun r34 _ H locs hp_14 hZ => ?_)
          obtain ⟨_, _, rfl, _, rfl, rfl, rfl⟩ := hp_14
          have hr_15 : -2147483648 ≤ mof (g2 0) a (3 + 13 * b + 1 + i) ∧ mof (g2 0) a (3 + 13 * b + 1 + i) ≤ 2147483647 := hw.2 0 _
          refine z_callv (z_runV (rest := []) (As := [.int (iI (mof (g2 0) a (3 + 13 * b + 1 + i)))]) (n := 1) (ci := 16) hC hZ (met_X13_puts l D cs A m0 ad v g2 (mof (g2 0) a (3 + 13 * b + 1 + i))  hD hw (by omega) (by omega) (by omega)) gv_X13_150 hd_X13_puts rfl mW_o rfl hl rfl (Nat.le_of_ble_eq_true rfl) ⟨Nat.le_of_ble_eq_true rfl, Nat.le_of_ble_eq_true rfl⟩ ⟨Nat.le_of_ble_eq_true rfl, Nat.le_of_ble_eq_true rfl⟩ dX13_putsPart_37) hZ (fun _ H locs hp_16 hZ => ?_)
          obtain ⟨_, _, rfl, hok_17, rfl, rfl⟩ := hp_16
          refine z_iinc (lv' := [(5, .int (iI (i + 1))), (0, .ref m0), (1, .int (iI a)), (2, .int (iI b)), (3, .int (iI x)), (4, .int (iI y))]) hx hb dX13_putsPart_40 hl (k := 0) rfl (by decide) rfl (fun ls hl => ?_)
          refine lv_goto (tgt := 21) hx hb dX13_putsPart_43 (by decide) ?_
          exact ih21 (i + 1) (upG (upG g2 9 (upI (g2 9) (20 * (v 12) + (g2 10) (v 12)) (mof (g2 0) a (3 + 13 * b + 1 + i)))) 10 (upI (g2 10) (v 12) ((g2 10) (v 12) + 1))) pre (by omega) (by omega) (fun j h1 h2 => by rw [upG_n h2, upG_n h1]; exact hi21_1 j h1 h2) (by show lnAt (upI (g2 9) _ _) _ _; rw [take_snoc ⟨by omega, by omega, by omega⟩, ← List.append_assoc, ← (hlt i (by omega) (by omega)).1, ← e0]; exact lnAt_snoc hi21_2 (by rw [e10, List.length_append, List.length_take, List.length_drop]; omega)) (fun k hk => by show upI (g2 9) _ _ k = _; rw [upI_n (by omega)]; exact hi21_3 k hk) (by show upI (g2 10) _ _ = _; rw [e10, hi21_4]; funext k; unfold upI; split <;> omega) hi21_5 hok_17 _ _ hZ ls (lv_sub hl [0, 1, 2, 3, 4, 5] rfl)
    exact L21_k_12 _ x (upG (upG g 9 (upI (g 9) (20 * (v 12) + (g 10) (v 12)) 32)) 10 (upI (g 10) (v 12) ((g 10) (v 12) + 1))) (cur ++ [32]) (Nat.lt_succ_self _) (by omega) (fun j h1 h2 => by rw [upG_n h2, upG_n h1]) (by rw [Int.sub_self]; show lnAt (upI (g 9) _ _) _ _; have := lnAt_snoc (x := 32) hcu hcl; simpa using this) (fun k hk => upI_n (by omega)) (by show upI _ _ _ = _; rw [hcl]; congr 1; simp) (lnPut_c hce) hok_11 _ _ hZ ls (lv_sub hl [0, 1, 2, 3, 4, 5] rfl)

def hyI (l : zWd) : Int := if l.getLast? = some 45 then 1 else 0
/-- the model's rows hold the lines -/
def mLn (v : Nat → Int) (g : Nat → Int → Int) (st : zLn) : Prop := v 12 = st.1.length ∧ (∀ (i : Nat) (l : zWd), st.1[i]? = some l → lnAt (g 9) (20 * i) l ∧ g 10 i = l.length ∧ g 11 i = hyI l) ∧ lnAt (g 9) (20 * v 12) st.2 ∧ g 10 (v 12) = st.2.length ∧ g 11 (v 12) = 0 ∧ ∀ x ∈ st.2, x ≠ 45
theorem mLn_put {v : Nat → Int} {g g2 : Nat → Int → Int} {st : zLn} {l : zWd} (h : mLn v g st) (h20 : ∀ x ∈ st.1, (x.length : Int) ≤ 20) (h9 : lnAt (g2 9) (20 * v 12) l) (hk : ∀ k, k < 20 * v 12 → g2 9 k = g 9 k) (h10 : g2 10 = upI (g 10) (v 12) l.length) (ho : ∀ j, j ≠ 9 → j ≠ 10 → g2 j = g j) (h45 : ∀ x ∈ l, x ≠ 45) : mLn v g2 (st.1, l) := by
  obtain ⟨a1, a2, a3, a4, a5, a6⟩ := h
  refine ⟨a1, fun i x hx => ?_, h9, by rw [h10, upI_s], by rw [ho 11 (by decide) (by decide)]; exact a5, h45⟩
  have hx : st.1[i]? = some x := hx
  obtain ⟨b1, b2, b3⟩ := a2 i x hx
  have hl := (List.getElem?_eq_some_iff.mp hx).1
  have h2 := h20 x (List.mem_of_getElem? hx)
  exact ⟨lnAt_cong b1 h2 (fun k k1 k2 => hk k (by omega)), by rw [h10, upI_n (by omega)]; exact b2, by rw [ho 11 (by decide) (by decide)]; exact b3⟩
theorem mLn_new {v : Nat → Int} {g : Nat → Int → Int} {st : zLn} (h : mLn v g st) : mLn (upN v 12 (v 12 + 1)) (upG (upG g 10 (upI (g 10) (v 12 + 1) 0)) 11 (upI (g 11) (v 12 + 1) 0)) (st.1 ++ [st.2], []) := by
  obtain ⟨a1, a2, a3, a4, a5, a6⟩ := h
  refine ⟨by rw [upN_s]; simp; omega, fun i x hx => ?_, lnAt_nil, ?_, ?_, fun x hx => by simp at hx⟩
  · have hx : (st.1 ++ [st.2])[i]? = some x := hx
    show lnAt (g 9) _ _ ∧ upI (g 10) _ _ _ = _ ∧ upI (g 11) _ _ _ = _
    by_cases q : i < st.1.length
    · rw [List.getElem?_append_left q] at hx
      obtain ⟨b1, b2, b3⟩ := a2 i x hx
      exact ⟨b1, by rw [upI_n (by omega)]; exact b2, by rw [upI_n (by omega)]; exact b3⟩
    · have hl := (List.getElem?_eq_some_iff.mp hx).1
      rw [List.length_append, List.length_singleton] at hl
      have e : i = st.1.length := by omega
      subst e
      rw [List.getElem?_append_right (by omega)] at hx
      simp at hx
      subst hx
      rw [← a1, upI_n (by omega), upI_n (by omega)]
      refine ⟨a3, a4, ?_⟩
      rw [a5]
      unfold hyI
      rw [if_neg]
      intro q
      exact a6 45 (List.mem_of_getLast? q) rfl
  · show upI (g 10) _ _ (upN v 12 (v 12 + 1) 12) = _
    rw [upN_s, upI_s]; rfl
  · show upI (g 11) _ _ (upN v 12 (v 12 + 1) 12) = _
    rw [upN_s, upI_s]
theorem mLn_cut {v : Nat → Int} {g : Nat → Int → Int} {st : zLn} (h : mLn v g st) (h20 : ∀ x ∈ st.1, (x.length : Int) ≤ 20) : mLn (upN v 12 (v 12 + 1)) (upG (upG (upG (upG (upG g 9 (upI (g 9) (20 * v 12 + g 10 (v 12)) 45)) 10 (upI (g 10) (v 12) (g 10 (v 12) + 1))) 11 (upI (g 11) (v 12) 1)) 10 (upI (upI (g 10) (v 12) (g 10 (v 12) + 1)) (v 12 + 1) 0)) 11 (upI (upI (g 11) (v 12) 1) (v 12 + 1) 0)) (st.1 ++ [st.2 ++ [45]], []) := by
  obtain ⟨a1, a2, a3, a4, a5, a6⟩ := h
  refine ⟨by rw [upN_s]; simp; omega, fun i x hx => ?_, lnAt_nil, ?_, ?_, fun x hx => by simp at hx⟩
  · have hx : (st.1 ++ [st.2 ++ [45]])[i]? = some x := hx
    show lnAt (upI (g 9) _ _) _ _ ∧ upI (upI (g 10) _ _) _ _ _ = _ ∧ upI (upI (g 11) _ _) _ _ _ = _
    by_cases q : i < st.1.length
    · rw [List.getElem?_append_left q] at hx
      obtain ⟨b1, b2, b3⟩ := a2 i x hx
      refine ⟨?_, by rw [upI_n (by omega), upI_n (by omega)]; exact b2, by rw [upI_n (by omega), upI_n (by omega)]; exact b3⟩
      intro k y hk
      by_cases e : (20 * (i : Int) + k) = 20 * v 12 + g 10 (v 12)
      · exfalso
        have h2 := h20 x (List.mem_of_getElem? hx)
        have h3 := (List.getElem?_eq_some_iff.mp hk).1
        omega
      · rw [upI_n e]; exact b1 k y hk
    · have hl := (List.getElem?_eq_some_iff.mp hx).1
      rw [List.length_append, List.length_singleton] at hl
      have e : i = st.1.length := by omega
      subst e
      rw [List.getElem?_append_right (by omega)] at hx
      simp at hx
      subst hx
      rw [← a1, upI_n (by omega), upI_s, upI_n (by omega), upI_s, a4]
      refine ⟨lnAt_snoc a3 rfl, by simp, ?_⟩
      unfold hyI
      rw [if_pos (by simp)]
  · show upI _ _ _ (upN v 12 (v 12 + 1) 12) = _
    rw [upN_s, upI_s]; rfl
  · show upI _ _ _ (upN v 12 (v 12 + 1) 12) = _
    rw [upN_s, upI_s]
