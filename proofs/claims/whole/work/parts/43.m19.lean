set_option maxHeartbeats 4000000 in
set_option maxRecDepth 100000 in
theorem met_X13_ranked (l : Launch) (D : va_G) (cs : Nat → ClassId) (A : Nat → Prop) (m0 : Nat) (ad : Nat → Nat) (v : Nat → Int) (g : Nat → Int → Int) (x : Int)  (N : Nat) (c0 : zCo) (hD : mD m0 ad) (hok : mOK v g) (hR : mR (g 0) c0) (hK : cOK N c0) (hx0 : InR x) : zM l D cs A yX13_ranked cX13_ranked 7 (some FieldType.int) 2 0 0 [.ref m0, .int (iI x)] (mW cs m0 ad v g) (mP cs m0 ad (fun r v1 g1 => v = v1 ∧ g = g1 ∧ mRk c0 x r)) := by
  refine zM_of (own := RX13) (by decide) rfl (Nat.le_of_ble_eq_true rfl) ?_
  intro p e s m below meth c hC hr hlk hnm hZ ls hl
  have hx := hC.x
  have hb := hC.b
  have hl : lv_has ls 7 [(0, .ref m0), (1, .int (iI x))] := hl
  have hn := mR_n hR hK
  have hn0 := hR.1
  have hsrt := hK.2.2.2.1
  refine z_iconst hx hb dX13_ranked_0 ?_
  refine lv_istore_n (lv' := [(2, .int (iI (-1))), (0, .ref m0), (1, .int (iI x))]) hx hb dX13_ranked_1 rfl hl (by decide) rfl (fun ls hl => ?_)
  refine z_iconst hx hb dX13_ranked_2 ?_
  refine lv_istore_n (lv' := [(3, .int (iI 0)), (2, .int (iI (-1))), (0, .ref m0), (1, .int (iI x))]) hx hb dX13_ranked_3 rfl hl (by decide) rfl (fun ls hl => ?_)
  have L4_k_1 : ∀ (fu : Nat) (f p_ : Int)  (hfu : (g 0 0 - p_).toNat < fu) (hi4_0 : 0 ≤ p_ ∧ p_ ≤ g 0 0) (hi4_1 : (f = -1 ∧ ∀ (j : Nat) (a : zAr), (j : Int) < p_ → (cAr c0)[j]? = some a → (zah (cAr c0) a : Int) ≠ x) ∨ ∃ (j : Nat) (a : zAr), f = j ∧ (cAr c0)[j]? = some a ∧ (zah (cAr c0) a : Int) = x) (hi4_2 : -1 ≤ f ∧ f ≤ 6) (H : Heap) (locs : List Loc) (hZ : zS D A s (mW cs m0 ad v g) H locs) (ls : Array Slot) (hl : lv_has ls 7 [(3, .int (iI p_)), (2, .int (iI f)), (0, .ref m0), (1, .int (iI x))]), W p l e (zR 2 0 0) s m [.ref m0, .int (iI x)].toArray below meth c H locs 0 0 (MQ below (zQ D A (mP cs m0 ad (fun r v1 g1 => v = v1 ∧ g = g1 ∧ mRk c0 x r))) [.ref m0, .int (iI x)].toArray s 0 0 A) (F0 m 4 ls []) := by
    intro fu
    induction fu with
    | zero =>
      intro f p_  hfu
      exact absurd hfu (Nat.not_lt_zero _)
    | succ fu ih4 =>
      intro f p_  hfu hi4_0 hi4_1 hi4_2  H locs hZ ls hl
      refine lv_iload_n hx hb dX13_ranked_4 rfl (lv_at hl 0 rfl) ?_
      refine lv_aload_n hx hb dX13_ranked_5 rfl (lv_at hl 2 rfl) ?_
      refine m_get hC hZ 0 (x := .ref (ad 0)) rfl (by decide) ql_X13_9 rfl dX13_ranked_6 ?_
      refine z_iconst hx hb dX13_ranked_9 ?_
      refine m_iald hC hZ hD 0 (by decide) (f := g 0) rfl rfl (by decide) (by decide) dX13_ranked_10 ?_
      have hr_2 : -2147483648 ≤ (g 0) 0 ∧ (g 0) 0 ≤ 2147483647 := hok.2 0 _
      refine z_icmp_ge (tgt := 97) hx hb dX13_ranked_11 (by decide) (by omega) (by omega) (fun c_3 => ?_) (fun c_3 => ?_)
      · skip
        refine lv_iload_n hx hb dX13_ranked_97 rfl (lv_at hl 1 rfl) ?_
        exact z_iret hC hr hlk hZ (by decide) (by decide) (⟨_, _, rfl, ‹mOK v g›, rfl, rfl, (by rcases hi4_1 with ⟨z1, z2⟩ | z; exact Or.inl ⟨z1, fun a ha => by obtain ⟨j, hj⟩ := List.getElem?_of_mem ha; exact z2 j a (by have := (List.getElem?_eq_some_iff.mp hj).1; omega) hj⟩; exact Or.inr z)⟩) dX13_ranked_98
      · skip
        obtain ⟨ap, hap⟩ : ∃ a, (cAr c0)[p_.toNat]? = some a := ⟨_, List.getElem?_eq_getElem (by omega)⟩
        have hp1 := (hR.2.2.2.2.2.2.2.2.2.1 _ _ hap).2.1
        rw [Int.toNat_of_nonneg (by omega)] at hp1
        have hpb := (hK.2.2.1 ap (List.mem_of_getElem? hap)).2.1
        refine z_iconst hx hb dX13_ranked_14 ?_
        refine lv_istore (lv' := [(4, .int (iI 0)), (3, .int (iI p_)), (2, .int (iI f)), (0, .ref m0), (1, .int (iI x))]) hx hb dX13_ranked_15 hl (by decide) rfl (fun ls hl => ?_)
        refine z_iconst hx hb dX13_ranked_17 ?_
        refine lv_istore (lv' := [(5, .int (iI 0)), (4, .int (iI 0)), (3, .int (iI p_)), (2, .int (iI f)), (0, .ref m0), (1, .int (iI x))]) hx hb dX13_ranked_18 hl (by decide) rfl (fun ls hl => ?_)
        have L20_k_4 : ∀ (fu : Nat) (k o_ : Int)  (hfu : (g 0 0 - o_).toNat < fu) (hi20_0 : 0 ≤ o_ ∧ o_ ≤ g 0 0) (hi20_1 : k = zap (cAr c0) ap o_.toNat) (hi20_2 : 0 ≤ k ∧ k ≤ o_) (H : Heap) (locs : List Loc) (hZ : zS D A s (mW cs m0 ad v g) H locs) (ls : Array Slot) (hl : lv_has ls 7 [(5, .int (iI o_)), (4, .int (iI k)), (3, .int (iI p_)), (2, .int (iI f)), (0, .ref m0), (1, .int (iI x))]), W p l e (zR 2 0 0) s m [.ref m0, .int (iI x)].toArray below meth c H locs 0 0 (MQ below (zQ D A (mP cs m0 ad (fun r v1 g1 => v = v1 ∧ g = g1 ∧ mRk c0 x r))) [.ref m0, .int (iI x)].toArray s 0 0 A) (F0 m 20 ls []) := by
          intro fu
          induction fu with
          | zero =>
            intro k o_  hfu
            exact absurd hfu (Nat.not_lt_zero _)
          | succ fu ih20 =>
            intro k o_  hfu hi20_0 hi20_1 hi20_2  H locs hZ ls hl
            refine lv_iload hx hb dX13_ranked_20 (lv_at hl 0 rfl) ?_
            refine lv_aload_n hx hb dX13_ranked_22 rfl (lv_at hl 4 rfl) ?_
            refine m_get hC hZ 0 (x := .ref (ad 0)) rfl (by decide) ql_X13_9 rfl dX13_ranked_23 ?_
            refine z_iconst hx hb dX13_ranked_26 ?_
            refine m_iald hC hZ hD 0 (by decide) (f := g 0) rfl rfl (by decide) (by decide) dX13_ranked_27 ?_
            have hr_5 : -2147483648 ≤ (g 0) 0 ∧ (g 0) 0 ≤ 2147483647 := hok.2 0 _
            refine z_icmp_ge (tgt := 79) hx hb dX13_ranked_28 (by decide) (by omega) (by omega) (fun c_6 => ?_) (fun c_6 => ?_)
            · skip
              have hkz : k = zah (cAr c0) ap := by
                rw [hi20_1]
                unfold zap zah
                rw [List.take_of_length_le (by omega)]
              refine lv_iload hx hb dX13_ranked_79 (lv_at hl 1 rfl) ?_
              refine lv_iload_n hx hb dX13_ranked_81 rfl (lv_at hl 5 rfl) ?_
              refine z_icmp_ne (tgt := 89) hx hb dX13_ranked_82 (by decide) (by omega) (by omega) (fun c_7 => ?_) (fun c_7 => ?_)
              · skip
                refine lv_iload_n hx hb dX13_ranked_89 rfl (lv_at hl 3 rfl) ?_
                refine lv_istore_n (lv' := [(2, .int (iI f)), (5, .int (iI o_)), (4, .int (iI k)), (3, .int (iI p_)), (0, .ref m0), (1, .int (iI x))]) hx hb dX13_ranked_90 rfl hl (by decide) rfl (fun ls hl => ?_)
                refine z_iinc (lv' := [(3, .int (iI (p_ + 1))), (2, .int (iI f)), (5, .int (iI o_)), (4, .int (iI k)), (0, .ref m0), (1, .int (iI x))]) hx hb dX13_ranked_91 hl (k := 3) rfl (by decide) rfl (fun ls hl => ?_)
                refine lv_goto (tgt := 4) hx hb dX13_ranked_94 (by decide) ?_
                exact ih4 f (p_ + 1)  (by clear hi4_1; omega) (by omega) (by
                                  rcases hi4_1 with ⟨z1, z2⟩ | z
                                  · refine Or.inl ⟨z1, fun j a h1 h2 => ?_⟩
                                    by_cases q : (j : Int) < p_
                                    · exact z2 j a q h2
                                    · have e : j = p_.toNat := by omega
                                      subst e
                                      rw [hap] at h2
                                      cases h2
                                      omega
                                  · exact Or.inr z) (by omega)  _ _ hZ ls (lv_sub hl [0, 1, 4, 5] rfl)
              · skip
                refine lv_iload_n hx hb dX13_ranked_85 rfl (lv_at hl 2 rfl) ?_
                refine lv_goto (tgt := 90) hx hb dX13_ranked_86 (by decide) ?_
                refine lv_istore_n (lv' := [(2, .int (iI p_)), (5, .int (iI o_)), (4, .int (iI k)), (3, .int (iI p_)), (0, .ref m0), (1, .int (iI x))]) hx hb dX13_ranked_90 rfl hl (by decide) rfl (fun ls hl => ?_)
                refine z_iinc (lv' := [(3, .int (iI (p_ + 1))), (2, .int (iI p_)), (5, .int (iI o_)), (4, .int (iI k)), (0, .ref m0), (1, .int (iI x))]) hx hb dX13_ranked_91 hl (k := 3) rfl (by decide) rfl (fun ls hl => ?_)
                refine lv_goto (tgt := 4) hx hb dX13_ranked_94 (by decide) ?_
                exact ih4 p_ (p_ + 1)  (by clear hi4_1; omega) (by omega) (Or.inr ⟨p_.toNat, ap, by omega, hap, by omega⟩) (by omega)  _ _ hZ ls (lv_sub hl [0, 1, 4, 5] rfl)
            · skip
              obtain ⟨ao, hao⟩ : ∃ a, (cAr c0)[o_.toNat]? = some a := ⟨_, List.getElem?_eq_getElem (by omega)⟩
              have ho1 := (hR.2.2.2.2.2.2.2.2.2.1 _ _ hao).2.1
              rw [Int.toNat_of_nonneg (by omega)] at ho1
              have hob := (hK.2.2.1 ao (List.mem_of_getElem? hao)).2.1
              have hids := ids_lt hsrt hao hap
              refine lv_aload_n hx hb dX13_ranked_31 rfl (lv_at hl 4 rfl) ?_
              refine lv_iload hx hb dX13_ranked_32 (lv_at hl 0 rfl) ?_
              refine z_iconst hx hb dX13_ranked_34 ?_
              refine z_calli (z_runV (rest := []) (As := [.int (iI o_), .int (iI 1)]) (n := 2) (ci := 16) hC hZ (met_X13_of l D cs A m0 ad v g o_ 1  hD hok (by omega) (by omega)) gv_X13_67 hd_X13_of rfl mW_o rfl hl rfl (Nat.le_of_ble_eq_true rfl) ⟨Nat.le_of_ble_eq_true rfl, Nat.le_of_ble_eq_true rfl⟩ ⟨Nat.le_of_ble_eq_true rfl, Nat.le_of_ble_eq_true rfl⟩ dX13_ranked_35) hZ (fun r35 _ H locs hp_8 hZ => ?_)
              obtain ⟨_, _, rfl, _, rfl, rfl, rfl⟩ := hp_8
              have hr_9 : -2147483648 ≤ mof (g 0) o_ 1 ∧ mof (g 0) o_ 1 ≤ 2147483647 := hok.2 0 _
              refine z_top (y := ao.2.1) ho1 ?_
              refine lv_aload_n hx hb dX13_ranked_38 rfl (lv_at hl 4 rfl) ?_
              refine lv_iload_n hx hb dX13_ranked_39 rfl (lv_at hl 2 rfl) ?_
              refine z_iconst hx hb dX13_ranked_40 ?_
              refine z_calli (z_runV (rest := [.int (iI ao.2.1)]) (As := [.int (iI p_), .int (iI 1)]) (n := 2) (ci := 16) hC hZ (met_X13_of l D cs A m0 ad v g p_ 1  hD hok (by omega) (by omega)) gv_X13_67 hd_X13_of rfl mW_o rfl hl rfl (Nat.le_of_ble_eq_true rfl) ⟨Nat.le_of_ble_eq_true rfl, Nat.le_of_ble_eq_true rfl⟩ ⟨Nat.le_of_ble_eq_true rfl, Nat.le_of_ble_eq_true rfl⟩ dX13_ranked_41) hZ (fun r41 _ H locs hp_10 hZ => ?_)
              obtain ⟨_, _, rfl, _, rfl, rfl, rfl⟩ := hp_10
              have hr_11 : -2147483648 ≤ mof (g 0) p_ 1 ∧ mof (g 0) p_ 1 ≤ 2147483647 := hok.2 0 _
              refine z_top (y := ap.2.1) hp1 ?_
              refine z_isub hx hb dX13_ranked_44 ?_
              refine lv_istore (lv' := [(6, .int (iI (ao.2.1 - ap.2.1))), (5, .int (iI o_)), (4, .int (iI k)), (3, .int (iI p_)), (2, .int (iI f)), (0, .ref m0), (1, .int (iI x))]) hx hb dX13_ranked_45 hl (by decide) rfl (fun ls hl => ?_)
              refine lv_iload hx hb dX13_ranked_47 (lv_at hl 2 rfl) ?_
              refine lv_iload hx hb dX13_ranked_49 (lv_at hl 0 rfl) ?_
              refine z_if_gt (tgt := 65) hx hb dX13_ranked_51 (by decide) (by omega) (fun c_12 => ?_) (fun c_12 => ?_)
              · skip
                refine z_iconst hx hb dX13_ranked_65 ?_
                refine lv_goto (tgt := 70) hx hb dX13_ranked_66 (by decide) ?_
                refine z_iadd hx hb dX13_ranked_70 ?_
                refine lv_istore (lv' := [(4, .int (iI (k + 1))), (6, .int (iI (ao.2.1 - ap.2.1))), (5, .int (iI o_)), (3, .int (iI p_)), (2, .int (iI f)), (0, .ref m0), (1, .int (iI x))]) hx hb dX13_ranked_71 hl (by decide) rfl (fun ls hl => ?_)
                refine z_iinc (lv' := [(5, .int (iI (o_ + 1))), (4, .int (iI (k + 1))), (6, .int (iI (ao.2.1 - ap.2.1))), (3, .int (iI p_)), (2, .int (iI f)), (0, .ref m0), (1, .int (iI x))]) hx hb dX13_ranked_73 hl (k := 2) rfl (by decide) rfl (fun ls hl => ?_)
                refine lv_goto (tgt := 20) hx hb dX13_ranked_76 (by decide) ?_
                exact ih20 (k + 1) (o_ + 1)  (by omega) (by omega) (by rw [show (o_ + 1).toNat = o_.toNat + 1 by omega]; rcases zap_s (a := ap) hao with ⟨z1, z2⟩ | ⟨z1, z2⟩ <;> rw [z2] <;> first | (rw [zbf_iff] at z1; omega) | (have z3 : ¬ (ap.2.1 < ao.2.1 ∨ (ao.2.1 = ap.2.1 ∧ ao.1 < ap.1)) := fun q => Bool.false_ne_true (z1.symm.trans (zbf_iff.mpr q)); omega)) (by omega)  _ _ hZ ls (lv_sub hl [0, 1, 3, 4, 5, 6] rfl)
              · skip
                refine lv_iload hx hb dX13_ranked_54 (lv_at hl 0 rfl) ?_
                refine z_if_ne (tgt := 69) hx hb dX13_ranked_56 (by decide) (by omega) (fun c_13 => ?_) (fun c_13 => ?_)
                · skip
                  refine z_iconst hx hb dX13_ranked_69 ?_
                  refine z_iadd hx hb dX13_ranked_70 ?_
                  refine lv_istore (lv' := [(4, .int (iI (k + 0))), (6, .int (iI (ao.2.1 - ap.2.1))), (5, .int (iI o_)), (3, .int (iI p_)), (2, .int (iI f)), (0, .ref m0), (1, .int (iI x))]) hx hb dX13_ranked_71 hl (by decide) rfl (fun ls hl => ?_)
                  refine z_iinc (lv' := [(5, .int (iI (o_ + 1))), (4, .int (iI (k + 0))), (6, .int (iI (ao.2.1 - ap.2.1))), (3, .int (iI p_)), (2, .int (iI f)), (0, .ref m0), (1, .int (iI x))]) hx hb dX13_ranked_73 hl (k := 2) rfl (by decide) rfl (fun ls hl => ?_)
                  refine lv_goto (tgt := 20) hx hb dX13_ranked_76 (by decide) ?_
                  exact ih20 (k + 0) (o_ + 1)  (by omega) (by omega) (by rw [show (o_ + 1).toNat = o_.toNat + 1 by omega]; rcases zap_s (a := ap) hao with ⟨z1, z2⟩ | ⟨z1, z2⟩ <;> rw [z2] <;> first | (rw [zbf_iff] at z1; omega) | (have z3 : ¬ (ap.2.1 < ao.2.1 ∨ (ao.2.1 = ap.2.1 ∧ ao.1 < ap.1)) := fun q => Bool.false_ne_true (z1.symm.trans (zbf_iff.mpr q)); omega)) (by omega)  _ _ hZ ls (lv_sub hl [0, 1, 3, 4, 5, 6] rfl)
                · skip
                  refine lv_iload hx hb dX13_ranked_59 (lv_at hl 1 rfl) ?_
                  refine lv_iload_n hx hb dX13_ranked_61 rfl (lv_at hl 3 rfl) ?_
                  refine z_icmp_ge (tgt := 69) hx hb dX13_ranked_62 (by decide) (by omega) (by omega) (fun c_14 => ?_) (fun c_14 => ?_)
                  · skip
                    refine z_iconst hx hb dX13_ranked_69 ?_
                    refine z_iadd hx hb dX13_ranked_70 ?_
                    refine lv_istore (lv' := [(4, .int (iI (k + 0))), (6, .int (iI (ao.2.1 - ap.2.1))), (5, .int (iI o_)), (3, .int (iI p_)), (2, .int (iI f)), (0, .ref m0), (1, .int (iI x))]) hx hb dX13_ranked_71 hl (by decide) rfl (fun ls hl => ?_)
                    refine z_iinc (lv' := [(5, .int (iI (o_ + 1))), (4, .int (iI (k + 0))), (6, .int (iI (ao.2.1 - ap.2.1))), (3, .int (iI p_)), (2, .int (iI f)), (0, .ref m0), (1, .int (iI x))]) hx hb dX13_ranked_73 hl (k := 2) rfl (by decide) rfl (fun ls hl => ?_)
                    refine lv_goto (tgt := 20) hx hb dX13_ranked_76 (by decide) ?_
                    exact ih20 (k + 0) (o_ + 1)  (by omega) (by omega) (by rw [show (o_ + 1).toNat = o_.toNat + 1 by omega]; rcases zap_s (a := ap) hao with ⟨z1, z2⟩ | ⟨z1, z2⟩ <;> rw [z2] <;> first | (rw [zbf_iff] at z1; omega) | (have z3 : ¬ (ap.2.1 < ao.2.1 ∨ (ao.2.1 = ap.2.1 ∧ ao.1 < ap.1)) := fun q => Bool.false_ne_true (z1.symm.trans (zbf_iff.mpr q)); omega)) (by omega)  _ _ hZ ls (lv_sub hl [0, 1, 3, 4, 5, 6] rfl)
                  · skip
                    refine z_iconst hx hb dX13_ranked_65 ?_
                    refine lv_goto (tgt := 70) hx hb dX13_ranked_66 (by decide) ?_
                    refine z_iadd hx hb dX13_ranked_70 ?_
                    refine lv_istore (lv' := [(4, .int (iI (k + 1))), (6, .int (iI (ao.2.1 - ap.2.1))), (5, .int (iI o_)), (3, .int (iI p_)), (2, .int (iI f)), (0, .ref m0), (1, .int (iI x))]) hx hb dX13_ranked_71 hl (by decide) rfl (fun ls hl => ?_)
                    refine z_iinc (lv' := [(5, .int (iI (o_ + 1))), (4, .int (iI (k + 1))), (6, .int (iI (ao.2.1 - ap.2.1))), (3, .int (iI p_)), (2, .int (iI f)), (0, .ref m0), (1, .int (iI x))]) hx hb dX13_ranked_73 hl (k := 2) rfl (by decide) rfl (fun ls hl => ?_)
                    refine lv_goto (tgt := 20) hx hb dX13_ranked_76 (by decide) ?_
                    exact ih20 (k + 1) (o_ + 1)  (by omega) (by omega) (by rw [show (o_ + 1).toNat = o_.toNat + 1 by omega]; rcases zap_s (a := ap) hao with ⟨z1, z2⟩ | ⟨z1, z2⟩ <;> rw [z2] <;> first | (rw [zbf_iff] at z1; omega) | (have z3 : ¬ (ap.2.1 < ao.2.1 ∨ (ao.2.1 = ap.2.1 ∧ ao.1 < ap.1)) := fun q => Bool.false_ne_true (z1.symm.trans (zbf_iff.mpr q)); omega)) (by omega)  _ _ hZ ls (lv_sub hl [0, 1, 3, 4, 5, 6] rfl)
        exact L20_k_4 _ 0 0  (Nat.lt_succ_self _) (by omega) rfl (by omega)  _ _ hZ ls (lv_sub hl [0, 1, 2, 3, 4, 5] rfl)
  exact L4_k_1 _ (-1) 0  (Nat.lt_succ_self _) (by omega) (Or.inl ⟨rfl, fun j a h => absurd h (by omega)⟩) (by omega)  _ _ hZ ls (lv_sub hl [0, 1, 2, 3] rfl)

set_option maxHeartbeats 4000000 in
set_option maxRecDepth 100000 in
theorem met_X13_articleByPriority (l : Launch) (D : va_G) (cs : Nat → ClassId) (A : Nat → Prop) (m0 : Nat) (ad : Nat → Nat) (v : Nat → Int) (g : Nat → Int → Int) (x : Int)  (N : Nat) (c0 : zCo) (hD : mD m0 ad) (hok : mOK v g) (hR : mR (g 0) c0) (hK : cOK N c0) (hx0 : InR x) : zM l D cs A yX13_articleByPriority cX13_articleByPriority 2 (some FieldType.int) 3 0 0 [.ref m0, .int (iI x)] (mW cs m0 ad v g) (mP cs m0 ad (fun r v1 g1 => mA v g r v1 g1 (sArP c0 x))) := by
  refine zM_of (own := RX13) (by decide) rfl (Nat.le_of_ble_eq_true rfl) ?_
  intro p e s m below meth c hC hr hlk hnm hZ ls hl
  have hx := hC.x
  have hb := hC.b
  have hl : lv_has ls 2 [(0, .ref m0), (1, .int (iI x))] := hl
  have hn := mR_n hR hK
  have hsrt := hK.2.2.2.1
  refine lv_aload_n hx hb dX13_articleByPriority_0 rfl (lv_at hl 0 rfl) ?_
  refine lv_aload_n hx hb dX13_articleByPriority_1 rfl (lv_at hl 0 rfl) ?_
  refine lv_iload_n hx hb dX13_articleByPriority_2 rfl (lv_at hl 1 rfl) ?_
  refine z_calli (z_runV (rest := [.ref m0]) (As := [.int (iI x)]) (n := 1) (ci := 16) hC hZ (met_X13_isPosition l D cs A m0 ad v g x  hD hok (by omega) hn) gv_X13_122 hd_X13_isPosition rfl mW_o rfl hl rfl (Nat.le_of_ble_eq_true rfl) ⟨Nat.le_of_ble_eq_true rfl, Nat.le_of_ble_eq_true rfl⟩ ⟨Nat.le_of_ble_eq_true rfl, Nat.le_of_ble_eq_true rfl⟩ dX13_articleByPriority_3) hZ (fun r3 _ H locs hp_1 hZ => ?_)
  obtain ⟨_, _, rfl, _, rfl, rfl, hp_1⟩ := hp_1
  have hin := hp_1
  have hn1 := hR.1
  refine z_calli (z_runV (rest := []) (As := [.int (iI r3)]) (n := 1) (ci := 16) hC hZ (met_X13_isThere l D cs A m0 ad v g r3  hD hok (by omega)) gv_X13_126 hd_X13_isThere rfl mW_o rfl hl rfl (Nat.le_of_ble_eq_true rfl) ⟨Nat.le_of_ble_eq_true rfl, Nat.le_of_ble_eq_true rfl⟩ ⟨Nat.le_of_ble_eq_true rfl, Nat.le_of_ble_eq_true rfl⟩ dX13_articleByPriority_6) hZ (fun r6 _ H locs hp_2 hZ => ?_)
  obtain ⟨_, _, rfl, hok_3, rfl, rfl, rfl⟩ := hp_2
  refine z_if_eq (tgt := 25) hx hb dX13_articleByPriority_9 (by decide) (by omega) (fun c_4 => ?_) (fun c_4 => ?_)
  · skip
    refine z_iconst hx hb dX13_articleByPriority_25 ?_
    exact z_iret hC hr hlk hZ (by decide) (by decide) (⟨_, _, rfl, hok_3, mA_of (t := 1) (y := 0) (by unfold sArP; rw [zrk_no (by omega)]) (by rw [show (1 : Int) - r3 = 1 by omega]) rfl (fun q => absurd q (by decide))⟩) dX13_articleByPriority_26
  · skip
    refine lv_aload_n hx hb dX13_articleByPriority_12 rfl (lv_at hl 0 rfl) ?_
    refine lv_aload_n hx hb dX13_articleByPriority_13 rfl (lv_at hl 0 rfl) ?_
    refine lv_iload_n hx hb dX13_articleByPriority_14 rfl (lv_at hl 1 rfl) ?_
    refine z_calli (z_runV (rest := [.ref m0]) (As := [.int (iI x)]) (n := 1) (ci := 16) hC hZ (met_X13_ranked l D cs A m0 ad (upN v 6 (1 - r3)) g x N c0 hD hok_3 hR hK (by omega)) gv_X13_130 hd_X13_ranked rfl mW_o rfl hl rfl (Nat.le_of_ble_eq_true rfl) ⟨Nat.le_of_ble_eq_true rfl, Nat.le_of_ble_eq_true rfl⟩ ⟨Nat.le_of_ble_eq_true rfl, Nat.le_of_ble_eq_true rfl⟩ dX13_articleByPriority_15) hZ (fun r15 _ H locs hp_5 hZ => ?_)
    obtain ⟨_, _, rfl, _, rfl, rfl, hp_5⟩ := hp_5
    obtain ⟨jr, ar, hjr, har, hzr, hjl⟩ := mRk_in hsrt hp_5 (by omega)
    have h3 := (hR.2.2.2.2.2.2.2.2.2.1 _ _ har).1
    rw [← hjr] at h3
    refine z_iconst hx hb dX13_articleByPriority_18 ?_
    refine z_calli (z_runV (rest := []) (As := [.int (iI r15), .int (iI 0)]) (n := 2) (ci := 16) hC hZ (met_X13_of l D cs A m0 ad (upN v 6 (1 - r3)) g r15 0  hD hok_3 (by omega) (by omega)) gv_X13_67 hd_X13_of rfl mW_o rfl hl rfl (Nat.le_of_ble_eq_true rfl) ⟨Nat.le_of_ble_eq_true rfl, Nat.le_of_ble_eq_true rfl⟩ ⟨Nat.le_of_ble_eq_true rfl, Nat.le_of_ble_eq_true rfl⟩ dX13_articleByPriority_19) hZ (fun r19 _ H locs hp_6 hZ => ?_)
    obtain ⟨_, _, rfl, _, rfl, rfl, rfl⟩ := hp_6
    have hr_7 : -2147483648 ≤ mof (g 0) r15 0 ∧ mof (g 0) r15 0 ≤ 2147483647 := hok_3.2 0 _
    refine lv_goto (tgt := 26) hx hb dX13_articleByPriority_22 (by decide) ?_
    exact z_iret hC hr hlk hZ (by decide) (by decide) (⟨_, _, rfl, hok_3, mA_of (t := 0) (y := ar.1) (by unfold sArP; rw [hzr]) (by rw [show (1 : Int) - r3 = 0 by omega]) rfl (fun _ => h3)⟩) dX13_articleByPriority_26

