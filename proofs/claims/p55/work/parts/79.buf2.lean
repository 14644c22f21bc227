theorem tk_split {t : List Int} {k : Int} (h0 : 0 ≤ k) (h1 : k < t.length) : t = t.take k.toNat ++ [t.getD k.toNat 0] ++ t.drop (k.toNat + 1) := by
  have hl : k.toNat < t.length := by omega
  rw [List.getD_eq_getElem?_getD, List.getElem?_eq_getElem hl]
  show t = t.take k.toNat ++ [t[k.toNat]] ++ t.drop (k.toNat + 1)
  rw [List.append_assoc, List.singleton_append, ← List.drop_eq_getElem_cons hl, List.take_append_drop]
theorem zat_lg {t : List Int} {k : Int} (h : 12 < (zsf (t.take k.toNat)).2.length) : ¬ zat t := by
  have := zat_bad1 (s := t.drop k.toNat) h
  rwa [List.take_append_drop] at this
theorem zat_bl {t : List Int} {k : Int} (h0 : 0 ≤ k) (h1 : k < t.length) (hb : t.getD k.toNat 0 = 32) (h : (zsf (t.take k.toNat)).2.length = 0) : ¬ zat t := by
  have := zat_bad2 (t := t.take k.toNat) (s := t.drop (k.toNat + 1)) (List.eq_nil_of_length_eq_zero h)
  rw [← hb, ← tk_split h0 h1] at this
  exact this
theorem gd_snoc {l : List zWd} {x : zWd} (h : ∀ w ∈ l, zwl w) (hx : zwl x) : ∀ w ∈ l ++ [x], zwl w := fun w hw => (List.mem_append.mp hw).elim (h w) (fun z => by rw [List.mem_singleton.mp z]; exact hx)
set_option maxHeartbeats 4000000 in
set_option maxRecDepth 100000 in
theorem met_X2_holdsWords (l : Launch) (D : va_G) (cs : Nat → ClassId) (A : Nat → Prop) (F : zF) (a sg : Nat) (t : List Int)  (hb1 : oBf cs F a sg t) : zM l D cs A yX2_holdsWords cX2_holdsWords 3 (some FieldType.boolean) 2 0 0 [.ref a] F (pI (fun r F1 => F = F1 ∧ ((zat t ∧ r = 1) ∨ (¬ zat t ∧ r = 0)))) := by
  refine zM_of (own := RX2) (by decide) rfl (Nat.le_of_ble_eq_true rfl) ?_
  intro p e s m below meth c hC hr hlk hnm hZ ls hl
  have hx := hC.x
  have hb := hC.b
  have hl : lv_has ls 3 [(0, .ref a)] := hl
  obtain ⟨f_, h0, h1, h2, h3, h4⟩ := id hb1
  refine z_iconst hx hb dX2_holdsWords_0 ?_
  refine lv_istore_n (lv' := [(1, .int (iI 0)), (0, .ref a)]) hx hb dX2_holdsWords_1 rfl hl (by decide) rfl (fun ls hl => ?_)
  refine z_iconst hx hb dX2_holdsWords_2 ?_
  refine lv_istore_n (lv' := [(2, .int (iI 0)), (1, .int (iI 0)), (0, .ref a)]) hx hb dX2_holdsWords_3 rfl hl (by decide) rfl (fun ls hl => ?_)
  have L4_k_1 : ∀ (fu : Nat) (n k : Int)  (hfu : ((t.length : Int) - k).toNat < fu) (hi4_0 : 0 ≤ k ∧ k ≤ (t.length : Int)) (hi4_1 : n = (zsf (t.take k.toNat)).2.length ∧ 0 ≤ n ∧ n ≤ 12) (hi4_2 : ∀ w ∈ (zsf (t.take k.toNat)).1, zwl w) (H : Heap) (locs : List Loc) (hZ : zS D A s F H locs) (ls : Array Slot) (hl : lv_has ls 3 [(2, .int (iI k)), (1, .int (iI n)), (0, .ref a)]), W p l e (zR 2 0 0) s m [.ref a].toArray below meth c H locs 0 0 (MQ below (zQ D A (pI (fun r F1 => F = F1 ∧ ((zat t ∧ r = 1) ∨ (¬ zat t ∧ r = 0))))) [.ref a].toArray s 0 0 A) (F0 m 4 ls []) := by
    intro fu
    induction fu with
    | zero =>
      intro n k  hfu
      exact absurd hfu (Nat.not_lt_zero _)
    | succ fu ih4 =>
      intro n k  hfu hi4_0 hi4_1 hi4_2  H locs hZ ls hl
      refine lv_iload_n hx hb dX2_holdsWords_4 rfl (lv_at hl 0 rfl) ?_
      refine lv_aload_n hx hb dX2_holdsWords_5 rfl (lv_at hl 2 rfl) ?_
      refine z_get (T := TX2) (N := 2) (ci := 6) (k := 1) (fs := [.ref sg, .int (iI (t.length : Int))]) (v := .int (iI (t.length : Int))) hC hZ in_X2 rfl (by decide) ql_X2_9 rfl h0 rfl dX2_holdsWords_6 ?_
      refine z_icmp_ge (tgt := 50) hx hb dX2_holdsWords_9 (by decide) (by omega) (by omega) (fun c_2 => ?_) (fun c_2 => ?_)
      · skip
        have hfin : t.take k.toNat = t := List.take_of_length_le (by omega)
        rw [hfin] at hi4_1 hi4_2
        refine lv_iload_n hx hb dX2_holdsWords_50 rfl (lv_at hl 1 rfl) ?_
        refine z_if_le (tgt := 58) hx hb dX2_holdsWords_51 (by decide) (by omega) (fun c_3 => ?_) (fun c_3 => ?_)
        · skip
          have hno : ¬ zat t := fun z => by have z2 := (zat_of.mp z).2.1; omega
          refine z_iconst hx hb dX2_holdsWords_58 ?_
          exact z_zret hC hr hlk hZ rfl (by decide) (by decide) (⟨rfl, Or.inr ⟨hno, rfl⟩⟩) dX2_holdsWords_59
        · skip
          have hyes : zat t := zat_of.mpr ⟨hi4_2, by omega, by omega⟩
          refine z_iconst hx hb dX2_holdsWords_54 ?_
          refine lv_goto (tgt := 59) hx hb dX2_holdsWords_55 (by decide) ?_
          exact z_zret hC hr hlk hZ rfl (by decide) (by decide) (⟨rfl, Or.inl ⟨hyes, rfl⟩⟩) dX2_holdsWords_59
      · skip
        have hgs := zgd_s (tx := t) (k := k) (by omega) (by omega)
        have hkr := tI_mem h4 (k := k) (by omega) (by omega)
        refine lv_aload_n hx hb dX2_holdsWords_12 rfl (lv_at hl 2 rfl) ?_
        refine lv_iload_n hx hb dX2_holdsWords_13 rfl (lv_at hl 0 rfl) ?_
        refine z_calli (z_runV (rest := []) (As := [.int (iI k)]) (n := 1) (ci := 6) hC hZ (met_X2_signAt l D cs A F a sg t k hb1 (by omega)) gv_X2_29 hd_X2_signAt rfl h0 rfl hl rfl (Nat.le_of_ble_eq_true rfl) ⟨Nat.le_of_ble_eq_true rfl, Nat.le_of_ble_eq_true rfl⟩ ⟨Nat.le_of_ble_eq_true rfl, Nat.le_of_ble_eq_true rfl⟩ dX2_holdsWords_14) hZ (fun r14 F14 H locs hp14_c_4 hZ => ?_)
        obtain ⟨rfl, hp14_c_4⟩ := hp14_c_4
        refine z_top (y := t.getD k.toNat 0) (hp14_c_4.1.elim (fun z => z.2.2) (fun z => absurd (show 0 ≤ k ∧ k < (t.length : Int) by omega) z.1)) ?_
        refine z_bipush hx hb dX2_holdsWords_17 (by decide) ?_
        refine z_icmp_eq (tgt := 28) hx hb dX2_holdsWords_19 (by decide) (by omega) (by decide) (fun c_5 => ?_) (fun c_5 => ?_)
        · skip
          have hz2 := (hgs.elim (fun z => z) (fun z => absurd (by assumption) z.1)).2
          refine lv_iload_n hx hb dX2_holdsWords_28 rfl (lv_at hl 1 rfl) ?_
          refine z_if_ne (tgt := 34) hx hb dX2_holdsWords_29 (by decide) (by omega) (fun c_6 => ?_) (fun c_6 => ?_)
          · skip
            refine z_iconst hx hb dX2_holdsWords_34 ?_
            refine lv_istore_n (lv' := [(1, .int (iI 0)), (2, .int (iI k)), (0, .ref a)]) hx hb dX2_holdsWords_35 rfl hl (by decide) rfl (fun ls hl => ?_)
            refine lv_iload_n hx hb dX2_holdsWords_36 rfl (lv_at hl 0 rfl) ?_
            refine z_bipush hx hb dX2_holdsWords_37 (by decide) ?_
            refine z_icmp_le (tgt := 44) hx hb dX2_holdsWords_39 (by decide) (by decide) (by decide) (fun c_7 => ?_) (fun c_7 => ?_)
            · skip
              refine z_iinc (lv' := [(2, .int (iI (k + 1))), (1, .int (iI 0)), (0, .ref a)]) hx hb dX2_holdsWords_44 hl (k := 1) rfl (by decide) rfl (fun ls hl => ?_)
              refine lv_goto (tgt := 4) hx hb dX2_holdsWords_47 (by decide) ?_
              exact ih4 0 (k + 1)  (by omega) (by omega) (by rw [hz2]; first | exact ⟨rfl, by decide, by decide⟩ | (rw [List.length_append, List.length_singleton]; omega)) (by rw [hz2]; first | exact hi4_2 | exact gd_snoc hi4_2 ⟨by omega, by omega⟩)  _ _ hZ ls (lv_sub hl [0, 1, 2] rfl)
            · skip
              exfalso; omega
          · skip
            have hno : ¬ zat t := zat_bl (k := k) (by omega) (by omega) (by assumption) (by omega)
            refine z_iconst hx hb dX2_holdsWords_32 ?_
            exact z_zret hC hr hlk hZ rfl (by decide) (by decide) (⟨rfl, Or.inr ⟨hno, rfl⟩⟩) dX2_holdsWords_33
        · skip
          have hz2 := (hgs.elim (fun z => absurd z.1 (by assumption)) (fun z => z)).2
          refine z_iinc (lv' := [(1, .int (iI (n + 1))), (2, .int (iI k)), (0, .ref a)]) hx hb dX2_holdsWords_22 hl (k := 1) rfl (by decide) rfl (fun ls hl => ?_)
          refine lv_goto (tgt := 36) hx hb dX2_holdsWords_25 (by decide) ?_
          refine lv_iload_n hx hb dX2_holdsWords_36 rfl (lv_at hl 0 rfl) ?_
          refine z_bipush hx hb dX2_holdsWords_37 (by decide) ?_
          refine z_icmp_le (tgt := 44) hx hb dX2_holdsWords_39 (by decide) (by omega) (by decide) (fun c_8 => ?_) (fun c_8 => ?_)
          · skip
            refine z_iinc (lv' := [(2, .int (iI (k + 1))), (1, .int (iI (n + 1))), (0, .ref a)]) hx hb dX2_holdsWords_44 hl (k := 1) rfl (by decide) rfl (fun ls hl => ?_)
            refine lv_goto (tgt := 4) hx hb dX2_holdsWords_47 (by decide) ?_
            exact ih4 (n + 1) (k + 1)  (by omega) (by omega) (by rw [hz2]; first | exact ⟨rfl, by decide, by decide⟩ | (rw [List.length_append, List.length_singleton]; omega)) (by rw [hz2]; first | exact hi4_2 | exact gd_snoc hi4_2 ⟨by omega, by omega⟩)  _ _ hZ ls (lv_sub hl [0, 1, 2] rfl)
          · skip
            have hno : ¬ zat t := zat_lg (k := k + 1) (by rw [hz2]; show 12 < (_ ++ [_]).length; rw [List.length_append, List.length_singleton]; omega)
            refine z_iconst hx hb dX2_holdsWords_42 ?_
            exact z_zret hC hr hlk hZ rfl (by decide) (by decide) (⟨rfl, Or.inr ⟨hno, rfl⟩⟩) dX2_holdsWords_43
  exact L4_k_1 _ 0 0  (Nat.lt_succ_self _) (by omega) ⟨rfl, by decide, by decide⟩ (fun w hw => by cases hw)  _ _ hZ ls (lv_sub hl [0, 1, 2] rfl)

set_option maxHeartbeats 4000000 in
set_option maxRecDepth 100000 in
theorem met_X2_endOfWord (l : Launch) (D : va_G) (cs : Nat → ClassId) (A : Nat → Prop) (F : zF) (a sg : Nat) (t : List Int) (b : Int)  (hb1 : oBf cs F a sg t) (hx0 : 0 ≤ b ∧ b ≤ t.length) : zM l D cs A yX2_endOfWord cX2_endOfWord 3 (some FieldType.int) 2 0 0 [.ref a, .int (iI b)] F (pI (fun r F1 => F = F1 ∧ b ≤ r ∧ r ≤ t.length ∧ (∀ j : Int, b ≤ j → j < r → t.getD j.toNat 0 ≠ 32) ∧ (r < t.length → t.getD (r).toNat 0 = 32))) := by
  refine zM_of (own := RX2) (by decide) rfl (Nat.le_of_ble_eq_true rfl) ?_
  intro p e s m below meth c hC hr hlk hnm hZ ls hl
  have hx := hC.x
  have hb := hC.b
  have hl : lv_has ls 3 [(0, .ref a), (1, .int (iI b))] := hl
  obtain ⟨f_, h0, h1, h2, h3, h4⟩ := id hb1
  refine lv_iload_n hx hb dX2_endOfWord_0 rfl (lv_at hl 1 rfl) ?_
  refine lv_istore_n (lv' := [(2, .int (iI b)), (0, .ref a), (1, .int (iI b))]) hx hb dX2_endOfWord_1 rfl hl (by decide) rfl (fun ls hl => ?_)
  have L2_k_1 : ∀ (fu : Nat) (k : Int)  (hfu : ((t.length : Int) - k).toNat < fu) (hi2_0 : b ≤ k ∧ k ≤ (t.length : Int)) (hi2_1 : ∀ j : Int, b ≤ j → j < k → t.getD j.toNat 0 ≠ 32) (H : Heap) (locs : List Loc) (hZ : zS D A s F H locs) (ls : Array Slot) (hl : lv_has ls 3 [(2, .int (iI k)), (0, .ref a), (1, .int (iI b))]), W p l e (zR 2 0 0) s m [.ref a, .int (iI b)].toArray below meth c H locs 0 0 (MQ below (zQ D A (pI (fun r F1 => F = F1 ∧ b ≤ r ∧ r ≤ t.length ∧ (∀ j : Int, b ≤ j → j < r → t.getD j.toNat 0 ≠ 32) ∧ (r < t.length → t.getD (r).toNat 0 = 32)))) [.ref a, .int (iI b)].toArray s 0 0 A) (F0 m 2 ls []) := by
    intro fu
    induction fu with
    | zero =>
      intro k  hfu
      exact absurd hfu (Nat.not_lt_zero _)
    | succ fu ih2 =>
      intro k  hfu hi2_0 hi2_1  H locs hZ ls hl
      refine lv_iload_n hx hb dX2_endOfWord_2 rfl (lv_at hl 0 rfl) ?_
      refine lv_aload_n hx hb dX2_endOfWord_3 rfl (lv_at hl 1 rfl) ?_
      refine z_get (T := TX2) (N := 2) (ci := 6) (k := 1) (fs := [.ref sg, .int (iI (t.length : Int))]) (v := .int (iI (t.length : Int))) hC hZ in_X2 rfl (by decide) ql_X2_9 rfl h0 rfl dX2_endOfWord_4 ?_
      refine z_icmp_ge (tgt := 26) hx hb dX2_endOfWord_7 (by decide) (by omega) (by omega) (fun c_2 => ?_) (fun c_2 => ?_)
      · skip
        refine lv_iload_n hx hb dX2_endOfWord_26 rfl (lv_at hl 0 rfl) ?_
        exact z_iret hC hr hlk hZ (by decide) (by decide) (⟨rfl, by omega, by omega, hi2_1, fun z => by first | assumption | omega⟩) dX2_endOfWord_27
      · skip
        have hkr := tI_mem h4 (k := k) (by omega) (by omega)
        refine lv_aload_n hx hb dX2_endOfWord_10 rfl (lv_at hl 1 rfl) ?_
        refine lv_iload_n hx hb dX2_endOfWord_11 rfl (lv_at hl 0 rfl) ?_
        refine z_calli (z_runV (rest := []) (As := [.int (iI k)]) (n := 1) (ci := 6) hC hZ (met_X2_signAt l D cs A F a sg t k hb1 (by omega)) gv_X2_29 hd_X2_signAt rfl h0 rfl hl rfl (Nat.le_of_ble_eq_true rfl) ⟨Nat.le_of_ble_eq_true rfl, Nat.le_of_ble_eq_true rfl⟩ ⟨Nat.le_of_ble_eq_true rfl, Nat.le_of_ble_eq_true rfl⟩ dX2_endOfWord_12) hZ (fun r12 F12 H locs hp12_c_3 hZ => ?_)
        obtain ⟨rfl, hp12_c_3⟩ := hp12_c_3
        refine z_top (y := t.getD k.toNat 0) (hp12_c_3.1.elim (fun z => z.2.2) (fun z => absurd (show 0 ≤ k ∧ k < (t.length : Int) by omega) z.1)) ?_
        refine z_bipush hx hb dX2_endOfWord_15 (by decide) ?_
        refine z_icmp_eq (tgt := 26) hx hb dX2_endOfWord_17 (by decide) (by omega) (by decide) (fun c_4 => ?_) (fun c_4 => ?_)
        · skip
          refine lv_iload_n hx hb dX2_endOfWord_26 rfl (lv_at hl 0 rfl) ?_
          exact z_iret hC hr hlk hZ (by decide) (by decide) (⟨rfl, by omega, by omega, hi2_1, fun z => by first | assumption | omega⟩) dX2_endOfWord_27
        · skip
          refine z_iinc (lv' := [(2, .int (iI (k + 1))), (0, .ref a), (1, .int (iI b))]) hx hb dX2_endOfWord_20 hl (k := 0) rfl (by decide) rfl (fun ls hl => ?_)
          refine lv_goto (tgt := 2) hx hb dX2_endOfWord_23 (by decide) ?_
          exact ih2 (k + 1)  (by omega) (by omega) (fun j j1 j2 => by by_cases q : j = k; (rw [q]; assumption); exact hi2_1 j j1 (by omega))  _ _ hZ ls (lv_sub hl [0, 1, 2] rfl)
  exact L2_k_1 _ b  (Nat.lt_succ_self _) (by omega) (fun j h1 h2 => absurd h1 (by omega))  _ _ hZ ls (lv_sub hl [0, 1, 2] rfl)
