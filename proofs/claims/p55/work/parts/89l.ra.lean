theorem gC_app {l : List zCm} {k : Int} {x : zCm} (h0 : 0 ≤ k) (h1 : k < (l.length : Int) + 1) : (l ++ [x]).getD k.toNat (0, 0, 0) = if k = l.length then x else l.getD k.toNat (0, 0, 0) := by
  rw [List.getD_eq_getElem?_getD, List.getD_eq_getElem?_getD]
  by_cases h : k = l.length
  · rw [if_pos h, List.getElem?_append_right (by omega), show k.toNat - l.length = 0 by omega]
    rfl
  · rw [if_neg h, List.getElem?_append_left (by omega)]
theorem oCm.off3 {cs : Nat → ClassId} {F : zF} {x a cl arr : Nat} {q : zCm} {fs : List Value} {l : List Nat} (h : oCm cs F x q) (ha : F a = some (.inr (8, fs))) (hl : oLx cs F cl arr l) (h8 : F (cs 8) = none) : x ∉ [a, cl, arr] := by
  obtain ⟨fx, h1⟩ := h.o
  obtain ⟨fl, hlo⟩ := hl.o
  exact zni1 (zneK h1 ha (by show 1000000 + 7 ≠ 1000000 + 8; decide)) (zni1 (zneK h1 hlo (by show 1000000 + 7 ≠ 1000000 + 4; decide)) (zni1 (hl.ne h1 h8) zni0))
set_option maxHeartbeats 4000000 in
set_option maxRecDepth 100000 in
theorem met_X4_readAll (l : Launch) (D : va_G) (cs : Nat → ClassId) (A : Nat → Prop) (F : zF) (a cl b sg : Nat) (inp : List Int) (p0 : Int) (arr : Nat) (L : List Nat)  (h0 : F a = some (.inr (8, [.ref cl, .int (iI p0)]))) (hb1 : oBf cs F b sg inp) (hcl : oLx cs F cl arr L) : zM l D cs A yX4_readAll cX4_readAll 3 (some FieldType.boolean) 9 22 143 [.ref a, .ref b] F (pI (fun r F1 => ∃ (arr1 : Nat) (L1 : List Nat) (p1 : Int), zko [a, cl, arr] F F1 ∧ (arr1 = arr ∨ F arr1 = none) ∧ F1 a = some (.inr (8, [.ref cl, .int (iI p1)])) ∧ oLx cs F1 cl arr1 L1 ∧ (0 ≤ p1 ∧ p1 ≤ inp.length) ∧ ((zparse inp = .inl p1 ∧ r = 0) ∨ ∃ cs2 : List zCm, zparse inp = .inr cs2 ∧ r = 1 ∧ L1.length = cs2.length ∧ ∀ k : Int, 0 ≤ k → k < cs2.length → oCm cs F1 (L1.getD k.toNat 0) (cs2.getD k.toNat (0, 0, 0))))) := by
  refine zM_of (own := RX4) (by decide) rfl (Nat.le_of_ble_eq_true rfl) ?_
  intro p e s m below meth c hC hr hlk hnm hZ ls hl
  have hx := hC.x
  have hb := hC.b
  have hl : lv_has ls 3 [(0, .ref a), (1, .ref b)] := hl
  obtain ⟨fb_, b0, b1, b2, b3, b4⟩ := id hb1
  have h8 := z_c8 hC hZ
  obtain ⟨fcl, hclo⟩ := hcl.o
  have hacl : a ≠ cl := zneK h0 hclo (by show 1000000 + 8 ≠ 1000000 + 4; decide)
  have haar := hcl.ne h0 h8
  have hof := hb1.offR h0 hcl h8
  refine lv_aload_n hx hb dX4_readAll_0 rfl (lv_at hl 0 rfl) ?_
  refine z_get (T := TX4) (N := 2) (ci := 8) (k := 0) (fs := [.ref cl, .int (iI p0)]) (v := .ref cl) hC hZ in_X4 rfl (by decide) ql_X4_12 rfl h0 rfl dX4_readAll_1 ?_
  obtain ⟨fsho_1, ho_1⟩ := (hcl).o
  refine z_callv (z_runV (rest := []) (As := []) (n := 0) (ci := 4) hC hZ (met_Jx4a65c_clear_da8c8 l D cs A F cl arr L hcl) gv_X4_22 hd_Jx4a65c_clear_da8c8 rfl ho_1 rfl hl rfl (Nat.le_of_ble_eq_true rfl) ⟨Nat.le_of_ble_eq_true rfl, Nat.le_of_ble_eq_true rfl⟩ ⟨Nat.le_of_ble_eq_true rfl, Nat.le_of_ble_eq_true rfl⟩ dX4_readAll_4) hZ (fun F4 H locs hp4_c_2 hZ => ?_)
  obtain ⟨hk4, hl4⟩ := hp4_c_2
  have ha4 : F4 a = _ := hk4 _ _ h0 (zni1 hacl (zni1 haar zni0))
  refine lv_aload_n hx hb dX4_readAll_7 rfl (lv_at hl 0 rfl) ?_
  refine z_iconst hx hb dX4_readAll_8 ?_
  refine z_put (T := TX4) (N := 2) (ci := 8) (k := 1) (fs := [.ref cl, .int (iI p0)]) (v := .int (iI 0)) hC hZ tyX4 tyX4_ok nmX4 in_X4 rfl (by decide) ql_X4_18 rfl (Or.inl rfl) rfl ha4 (by show 1 < 2; decide) rfl rfl dX4_readAll_9 (fun H locs hZ => ?_)
  have hf_3 : (zup F4 a (.inr (8, [.ref cl, .int (iI 0)]))) a = some (.inr (8, [.ref cl, .int (iI 0)])) := zup_s
  replace hZ : zS D A s (zup F4 a (.inr (8, [.ref cl, .int (iI 0)]))) _ _ := hZ
  refine z_iconst hx hb dX4_readAll_12 ?_
  refine lv_istore_n (lv' := [(2, .int (iI 0)), (0, .ref a), (1, .ref b)]) hx hb dX4_readAll_13 rfl hl (by decide) rfl (fun ls hl => ?_)
  have L14_k_4 : ∀ (fu : Nat) (k pp : Int) (F2 : zF) (arr2 : Nat) (L2 : List Nat) (cs2 : List zCm) (hfu : (61 - k).toNat < fu) (hi14_0 : 0 ≤ k ∧ 6 * k ≤ pp ∧ pp ≤ (inp.length : Int)) (hi14_1 : zko [a, cl, arr] F F2) (hi14_2 : arr2 = arr ∨ F arr2 = none) (hi14_3 : F2 a = some (.inr (8, [.ref cl, .int (iI pp)]))) (hi14_4 : oLx cs F2 cl arr2 L2) (hi14_5 : (L2.length : Int) = k ∧ (cs2.length : Int) = k) (hi14_6 : ∀ j : Int, 0 ≤ j → j < k → oCm cs F2 (L2.getD j.toNat 0) (cs2.getD j.toNat (0, 0, 0))) (hi14_7 : zread inp 61 0 = ((zread inp (61 - k.toNat) pp).1, (zread inp (61 - k.toNat) pp).2.1, cs2 ++ (zread inp (61 - k.toNat) pp).2.2)) (H : Heap) (locs : List Loc) (hZ : zS D A s F2 H locs) (ls : Array Slot) (hl : lv_has ls 3 [(2, .int (iI k)), (0, .ref a), (1, .ref b)]), W p l e (zR 9 22 143) s m [.ref a, .ref b].toArray below meth c H locs (2 * k.toNat) (13 * k.toNat) (MQ below (zQ D A (pI (fun r F1 => ∃ (arr1 : Nat) (L1 : List Nat) (p1 : Int), zko [a, cl, arr] F F1 ∧ (arr1 = arr ∨ F arr1 = none) ∧ F1 a = some (.inr (8, [.ref cl, .int (iI p1)])) ∧ oLx cs F1 cl arr1 L1 ∧ (0 ≤ p1 ∧ p1 ≤ inp.length) ∧ ((zparse inp = .inl p1 ∧ r = 0) ∨ ∃ cs2 : List zCm, zparse inp = .inr cs2 ∧ r = 1 ∧ L1.length = cs2.length ∧ ∀ k : Int, 0 ≤ k → k < cs2.length → oCm cs F1 (L1.getD k.toNat 0) (cs2.getD k.toNat (0, 0, 0)))))) [.ref a, .ref b].toArray s 22 143 A) (F0 m 14 ls []) := by
    intro fu
    induction fu with
    | zero =>
      intro k pp F2 arr2 L2 cs2 hfu
      exact absurd hfu (Nat.not_lt_zero _)
    | succ fu ih14 =>
      intro k pp F2 arr2 L2 cs2 hfu hi14_0 hi14_1 hi14_2 hi14_3 hi14_4 hi14_5 hi14_6 hi14_7  H locs hZ ls hl
      have hb2 := hb1.keep hi14_1 hof.1 hof.2
      obtain ⟨fb2, hbo2, hbs2, -⟩ := id hb2
      have h82 := z_c8 hC hZ
      have hof2 := hb2.offR hi14_3 hi14_4 h82
      have hzo := zcmd_ok (inp := inp) (a := pp) (by omega) (by omega)
      have h61 : 61 - k.toNat = (60 - k.toNat) + 1 := by omega
      have hsome2 : ∀ o, o ∈ [a, cl, arr] → o ≠ arr → F2 o ≠ none := fun o ho hn => by
        rcases List.mem_cons.mp ho with z | ho
        · rw [z, hi14_3]; exact fun y => by cases y
        · rcases List.mem_cons.mp ho with z | ho
          · obtain ⟨fz, hz9⟩ := hi14_4.o
            rw [z, hz9]; exact fun y => by cases y
          · exact absurd (List.mem_singleton.mp ho) hn
      have hsub24 : ∀ q, q ∈ [a, cl, arr2] → q ∈ [a, cl, arr] ∨ F q = none := fun q hq => by
        rcases List.mem_cons.mp hq with z | hq
        · left; rw [z]; simp
        · rcases List.mem_cons.mp hq with z | hq
          · left; rw [z]; simp
          · rw [List.mem_singleton.mp hq]
            exact hi14_2.imp_left (fun z => by rw [z]; simp)
      refine lv_iload_n hx hb dX4_readAll_14 rfl (lv_at hl 0 rfl) ?_
      refine lv_aload_n hx hb dX4_readAll_15 rfl (lv_at hl 2 rfl) ?_
      refine z_getN (T := TX2) (N := 2) (ci := 6) (k := 1) (fs := [.ref sg, .int (iI (inp.length : Int))]) (v := .int (iI (inp.length : Int))) hC hZ in_X2 rfl (by decide) ql_X4_25 rfl hbo2 rfl dX4_readAll_16 ?_
      refine z_icmp_gt (tgt := 63) hx hb dX4_readAll_19 (by decide) (by omega) (by omega) (fun c_5 => ?_) (fun c_5 => ?_)
      · skip
        exfalso; omega
      · skip
        refine lv_aload_n hx hb dX4_readAll_22 rfl (lv_at hl 1 rfl) ?_
        refine lv_aload_n hx hb dX4_readAll_23 rfl (lv_at hl 2 rfl) ?_
        refine z_calli (z_runV (rest := []) (As := [.ref b]) (n := 1) (ci := 8) hC hZ (met_X4_readCommand l D cs A F2 a cl b sg inp pp arr2 L2 hi14_3 hb2 ⟨by omega, by omega⟩ hi14_4 (fun z => by omega)) gv_X4_30 hd_X4_readCommand rfl hi14_3 rfl hl rfl (Nat.le_of_ble_eq_true rfl) ⟨Nat.le_of_ble_eq_true rfl, Nat.le_of_ble_eq_true rfl⟩ ⟨(by show _ ≤ 22; omega), (by show _ ≤ 143; omega)⟩ dX4_readAll_24) hZ (fun r24 F24 H locs hp24_c_6 hZ => ?_)
        rcases hp24_c_6 with ⟨hz24, rfl, hk24, ha24⟩ | ⟨hz24, rfl, arr3, x24, hk24, harr24, ha24, hl24, hx24, hcm24⟩
        · skip
          have hrd : zread inp 61 0 = (true, (zcmd inp pp).2.1, cs2 ++ []) := by rw [hi14_7, h61, zread_s, if_pos hz24]
          have hzp := zp_t hrd
          have hK24 : zko [a, cl, arr] F F24 := hi14_1.trans (hk24.sub (fun q hq => by rw [List.mem_singleton.mp hq]; simp))
          have hl24 := hi14_4.keepB hk24 (fun o ho => by rw [List.mem_singleton.mp ho]; exact ⟨8, _, hi14_3, by decide⟩)
          refine z_if_ne (tgt := 32) hx hb dX4_readAll_27 (by decide) (by decide) (fun c_7 => ?_) (fun c_7 => ?_)
          · skip
            exfalso; omega
          · skip
            refine z_iconst hx hb dX4_readAll_30 ?_
            exact z_zret hC hr hlk hZ rfl (by omega) (by omega) (⟨arr2, L2, (zcmd inp pp).2.1, hK24, hi14_2, ha24, hl24, ⟨by omega, by omega⟩, Or.inl ⟨hzp, rfl⟩⟩) dX4_readAll_31
        · skip
          have hzz := hzo.2.2.1 hz24
          have h824 := z_c8 hC hZ
          have hK24 : zko [a, cl, arr] F F24 := hi14_1.tr hk24 hsub24
          have harr3 : arr3 = arr ∨ F arr3 = none := harr24.elim (fun z => by rw [z]; exact hi14_2) (fun z => (Classical.em (arr3 = arr)).imp_right (fun y => by
            cases hFx : F arr3 with
            | none => rfl
            | some e9 =>
              by_cases c9 : arr3 ∈ [a, cl, arr]
              · exact absurd z (hsome2 _ c9 y)
              · rw [hi14_1 _ _ hFx c9] at z; cases z))
          have hb24 := hb2.keep hk24 hof2.1 hof2.2
          obtain ⟨fb24, hbo24, -⟩ := id hb24
          obtain ⟨fsx24, hxo24⟩ := hcm24.o
          have hcms : ∀ j : Int, 0 ≤ j → j < k + 1 → oCm cs F24 ((L2 ++ [x24]).getD j.toNat 0) ((cs2 ++ [(zcmd inp pp).2.2]).getD j.toNat (0, 0, 0)) := fun j j0 j1 => by
            rw [gD_app j0 (by omega), gC_app j0 (by omega)]
            by_cases q : j = k
            · rw [if_pos (by omega), if_pos (by omega)]; exact hcm24
            · rw [if_neg (by omega), if_neg (by omega)]
              have z := hi14_6 j j0 (by omega)
              exact z.keep hk24 (z.off3 hi14_3 hi14_4 h82)
          refine z_if_ne (tgt := 32) hx hb dX4_readAll_27 (by decide) (by decide) (fun c_8 => ?_) (fun c_8 => ?_)
          · skip
            refine lv_aload_n hx hb dX4_readAll_32 rfl (lv_at hl 1 rfl) ?_
            refine z_get (T := TX4) (N := 2) (ci := 8) (k := 1) (fs := [.ref cl, .int (iI ((zcmd inp pp).2.1))]) (v := .int (iI ((zcmd inp pp).2.1))) hC hZ in_X4 rfl (by decide) ql_X4_18 rfl ha24 rfl dX4_readAll_33 ?_
            refine lv_aload_n hx hb dX4_readAll_36 rfl (lv_at hl 2 rfl) ?_
            refine z_getN (T := TX2) (N := 2) (ci := 6) (k := 1) (fs := [.ref sg, .int (iI (inp.length : Int))]) (v := .int (iI (inp.length : Int))) hC hZ in_X2 rfl (by decide) ql_X4_25 rfl hbo24 rfl dX4_readAll_37 ?_
            refine z_icmp_ne (tgt := 45) hx hb dX4_readAll_40 (by decide) (by omega) (by omega) (fun c_9 => ?_) (fun c_9 => ?_)
            · skip
              refine lv_aload_n hx hb dX4_readAll_45 rfl (lv_at hl 1 rfl) ?_
              refine lv_aload_n hx hb dX4_readAll_46 rfl (lv_at hl 2 rfl) ?_
              refine z_bipush hx hb dX4_readAll_47 (by decide) ?_
              refine z_calli (z_runV (rest := []) (As := [.ref b, .int (iI 59)]) (n := 2) (ci := 8) hC hZ (met_X4_readSign l D cs A F24 a cl b sg inp ((zcmd inp pp).2.1) 59 ha24 hb24 ⟨by omega, by omega⟩ (by decide)) gv_X4_34 hd_X4_readSign rfl ha24 rfl hl rfl (Nat.le_of_ble_eq_true rfl) ⟨Nat.le_of_ble_eq_true rfl, Nat.le_of_ble_eq_true rfl⟩ ⟨(by show _ ≤ 22; omega), (by show _ ≤ 143; omega)⟩ dX4_readAll_49) hZ (fun r49 F49 H locs hp49_c_10 hZ => ?_)
              rcases hp49_c_10 with ⟨hs49, rfl, rfl⟩ | ⟨hs49, rfl, hsl49, rfl⟩
              · skip
                have hrd : zread inp 61 0 = (false, (zcmd inp pp).2.1, cs2 ++ [(zcmd inp pp).2.2]) := by rw [hi14_7, h61, zread_s, if_neg (by rw [hz24]; exact fun z => by cases z), if_neg hs49]
                have hzp := zp_l hrd (by omega)
                refine z_if_ne (tgt := 57) hx hb dX4_readAll_52 (by decide) (by decide) (fun c_11 => ?_) (fun c_11 => ?_)
                · skip
                  exfalso; omega
                · skip
                  refine z_iconst hx hb dX4_readAll_55 ?_
                  exact z_zret hC hr hlk hZ rfl (by omega) (by omega) (⟨arr3, L2 ++ [x24], (zcmd inp pp).2.1, hK24, harr3, ha24, hl24, ⟨by omega, by omega⟩, Or.inl ⟨hzp, rfl⟩⟩) dX4_readAll_56
              · skip
                have hf_12 : (zup F24 a (.inr (8, [.ref cl, .int (iI ((zcmd inp pp).2.1 + 1))]))) b = some (.inr (6, [.ref sg, .int (iI (inp.length : Int))])) := zup_k (zne hbo24 ha24 (fun q => by cases q)) hbo24
                have hf_13 : (zup F24 a (.inr (8, [.ref cl, .int (iI ((zcmd inp pp).2.1 + 1))]))) a = some (.inr (8, [.ref cl, .int (iI ((zcmd inp pp).2.1 + 1))])) := zup_s
                replace hZ : zS D A s (zup F24 a (.inr (8, [.ref cl, .int (iI ((zcmd inp pp).2.1 + 1))]))) _ _ := hZ
                have hk49 : zko [a] F24 (zup F24 a (.inr (8, [.ref cl, .int (iI ((zcmd inp pp).2.1 + 1))]))) := ((zko.refl : zko [a] F24 F24).up (by simp))
                have hl49 := hl24.keepB hk49 (fun o ho => by rw [List.mem_singleton.mp ho]; exact ⟨8, _, ha24, by decide⟩)
                have hK49 : zko [a, cl, arr] F (zup F24 a (.inr (8, [.ref cl, .int (iI ((zcmd inp pp).2.1 + 1))]))) := hK24.trans (hk49.sub (fun q hq => by rw [List.mem_singleton.mp hq]; simp))
                have hcm49 : ∀ j : Int, 0 ≤ j → j < k + 1 → oCm cs (zup F24 a (.inr (8, [.ref cl, .int (iI ((zcmd inp pp).2.1 + 1))]))) ((L2 ++ [x24]).getD j.toNat 0) ((cs2 ++ [(zcmd inp pp).2.2]).getD j.toNat (0, 0, 0)) := fun j j0 j1 => by
                  have z := hcms j j0 j1
                  obtain ⟨fz, hz9⟩ := z.o
                  exact z.keep hk49 (zni1 (zneK hz9 ha24 (by show 1000000 + 7 ≠ 1000000 + 8; decide)) zni0)
                have hrd : zread inp 61 0 = ((zread inp (61 - (k + 1).toNat) ((zcmd inp pp).2.1 + 1)).1, (zread inp (61 - (k + 1).toNat) ((zcmd inp pp).2.1 + 1)).2.1, (cs2 ++ [(zcmd inp pp).2.2]) ++ (zread inp (61 - (k + 1).toNat) ((zcmd inp pp).2.1 + 1)).2.2) := by
                  rw [hi14_7, h61, zread_s, if_neg (by rw [hz24]; exact fun z => by cases z), if_pos hs49, show 61 - (k + 1).toNat = 60 - k.toNat by omega, List.append_assoc]
                  rfl
                refine z_if_ne (tgt := 57) hx hb dX4_readAll_52 (by decide) (by decide) (fun c_14 => ?_) (fun c_14 => ?_)
                · skip
                  refine z_iinc (lv' := [(2, .int (iI (k + 1))), (0, .ref a), (1, .ref b)]) hx hb dX4_readAll_57 hl (k := 0) rfl (by decide) rfl (fun ls hl => ?_)
                  refine lv_goto (tgt := 14) hx hb dX4_readAll_60 (by decide) ?_
                  refine W.widen (k := (2 * (k + 1).toNat)) (n := (13 * (k + 1).toNat)) (by omega) (by omega) ?_
                  exact ih14 (k + 1) ((zcmd inp pp).2.1 + 1) (zup F24 a (.inr (8, [.ref cl, .int (iI ((zcmd inp pp).2.1 + 1))]))) arr3 (L2 ++ [x24]) (cs2 ++ [(zcmd inp pp).2.2]) (by omega) (by omega) hK49 harr3 hf_13 hl49 ⟨by rw [List.length_append, List.length_singleton]; omega, by rw [List.length_append, List.length_singleton]; omega⟩ hcm49 hrd  _ _ hZ ls (lv_sub hl [0, 1, 2] rfl)
                · skip
                  exfalso; omega
            · skip
              have hrd : zread inp 61 0 = (false, (zcmd inp pp).2.1, cs2 ++ [(zcmd inp pp).2.2]) := by rw [hi14_7, h61, zread_s, if_neg (by rw [hz24]; exact fun z => by cases z), if_neg (fun z => by have := bh_in (inp := inp) (a := (zcmd inp pp).2.1) (by omega) (by rw [z]; decide); omega)]
              have hzp := zp_r hrd (by omega)
              refine z_iconst hx hb dX4_readAll_43 ?_
              exact z_zret hC hr hlk hZ rfl (by omega) (by omega) (⟨arr3, L2 ++ [x24], (zcmd inp pp).2.1, hK24, harr3, ha24, hl24, ⟨by omega, by omega⟩, Or.inr ⟨cs2 ++ [(zcmd inp pp).2.2], hzp, rfl, by rw [List.length_append, List.length_append, List.length_singleton, List.length_singleton]; omega, fun j j0 j1 => by rw [List.length_append, List.length_singleton] at j1; exact hcms j j0 (by omega)⟩⟩) dX4_readAll_44
          · skip
            exfalso; omega
  refine W.widen (k := (2 * (0 : Int).toNat)) (n := (13 * (0 : Int).toNat)) (by omega) (by omega) ?_
  exact L14_k_4 _ (0 : Int) (0 : Int) (zup F4 a (.inr (8, [.ref cl, .int (iI 0)]))) arr [] [] (Nat.lt_succ_self _) (by omega) (hk4.sub (fun q hq => List.mem_cons_of_mem _ hq) |>.trans ((zko.refl : zko [a, cl, arr] F4 F4).up (by simp))) (Or.inl rfl) hf_3 (hl4.keepB ((zko.refl : zko [a] F4 F4).up (by simp)) (fun o ho => by rw [List.mem_singleton.mp ho]; exact ⟨8, _, ha4, by decide⟩)) ⟨rfl, rfl⟩ (fun j j0 j1 => absurd j1 (by omega)) (by rw [show 61 - (0 : Int).toNat = 61 from rfl, List.nil_append])  _ _ hZ ls (lv_sub hl [0, 1, 2] rfl)
