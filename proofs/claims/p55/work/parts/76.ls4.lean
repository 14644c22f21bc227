theorem zwords_n {w : Int} {ws : List zWd} {k : Nat} {wd : zWd} {st : zLn} (h : ws[k]? = some wd) (hz : zset w wd 24 0 st = none) : zwords w (ws.drop k) st = none := by
  obtain ⟨hl, rfl⟩ := List.getElem?_eq_some_iff.mp h
  rw [List.drop_eq_getElem_cons hl]
  unfold zwords
  rw [hz]
theorem zwords_s {w : Int} {ws : List zWd} {k : Nat} {wd : zWd} {st st1 : zLn} (h : ws[k]? = some wd) (hz : zset w wd 24 0 st = some st1) : zwords w (ws.drop k) st = zwords w (ws.drop (k + 1)) st1 := by
  obtain ⟨hl, rfl⟩ := List.getElem?_eq_some_iff.mp h
  rw [List.drop_eq_getElem_cons hl]
  conv => lhs; unfold zwords
  rw [hz]
set_option maxHeartbeats 4000000 in
set_option maxRecDepth 100000 in
theorem met_X8_arrange (l : Launch) (D : va_G) (cs : Nat → ClassId) (A : Nat → Prop) (F : zF) (a sg en : Nat) (wd0 wd : Int) (st : zLn) (b : Nat) (x : zAr)  (hs1 : rLs cs F a sg en wd0 st) (hx1 : oAr cs F b x) (hwd : 4 ≤ wd ∧ wd ≤ 20) : zM l D cs A yX8_arrange cX8_arrange 7 (some FieldType.boolean) 4 0 0 [.ref a, .ref b, .int (iI wd)] F (pI (fun r F1 => zko [a, sg, en] F F1 ∧ ((∃ ls : List zWd, zlines wd x.2.2 = some ls ∧ r = 1 ∧ rLs cs F1 a sg en wd (ls, []) ∧ (1 ≤ ls.length ∧ ls.length ≤ 181) ∧ ∀ l ∈ ls, (l.length : Int) ≤ wd) ∨ (zlines wd x.2.2 = none ∧ r = 0 ∧ ∃ st1 : zLn, rLs cs F1 a sg en wd st1)))) := by
  refine zM_of (own := RX8) (by decide) rfl (Nat.le_of_ble_eq_true rfl) ?_
  intro p e s m below meth c hC hr hlk hnm hZ ls hl
  have hx := hC.x
  have hb := hC.b
  have hl : lv_has ls 7 [(0, .ref a), (1, .ref b), (2, .int (iI wd))] := hl
  obtain ⟨f_, e_, h0, h1, h2, h3, h4, h5, h6⟩ := id hs1
  obtain ⟨wa, y0, hws0, hxo⟩ := id hx1
  obtain ⟨h_, y1, y2⟩ := id hws0
  have hx6 := hxo.2.2.1
  have nba : b ≠ a := zne y0 h0 (fun z => by cases z)
  have nbs : b ≠ sg := zne y0 h1 (fun z => by cases z)
  have nbe : b ≠ en := zne y0 h2 (fun z => by cases z)
  have nwa : wa ≠ a := zne y1 h0 (fun z => by cases z)
  have nws : wa ≠ sg := zneR y1 h1
  have nwe : wa ≠ en := zneR y1 h2
  refine lv_aload_n hx hb dX8_arrange_0 rfl (lv_at hl 0 rfl) ?_
  refine z_iconst hx hb dX8_arrange_1 ?_
  refine z_put (T := TX8) (N := 5) (ci := 11) (k := 2) (fs := [.ref sg, .ref en, .int (iI ((zfl st).length : Int)), .int (iI (st.1.length : Int)), .int (iI wd0)]) (v := .int (iI 0)) hC hZ tyX8 tyX8_ok nmX8 in_X8 rfl (by decide) ql_X8_19 rfl (Or.inl rfl) rfl h0 (by show 2 < 5; decide) rfl rfl dX8_arrange_2 (fun H locs hZ => ?_)
  have hf_1 : (zup F a (.inr (11, [.ref sg, .ref en, .int (iI 0), .int (iI (st.1.length : Int)), .int (iI wd0)]))) sg = some (zA (cs 1) 750 f_) := zup_k (zne h1 h0 (fun q => by cases q)) h1
  have hf_2 : (zup F a (.inr (11, [.ref sg, .ref en, .int (iI 0), .int (iI (st.1.length : Int)), .int (iI wd0)]))) en = some (zA (cs 2) 360 e_) := zup_k (zne h2 h0 (fun q => by cases q)) h2
  have hf_3 : (zup F a (.inr (11, [.ref sg, .ref en, .int (iI 0), .int (iI (st.1.length : Int)), .int (iI wd0)]))) b = some (.inr (5, [.int (iI x.1), .int (iI x.2.1), .ref wa])) := zup_k (zne y0 h0 (fun q => by cases q)) y0
  have hf_4 : (zup F a (.inr (11, [.ref sg, .ref en, .int (iI 0), .int (iI (st.1.length : Int)), .int (iI wd0)]))) wa = some (zO (cs 4) x.2.2.length h_) := zup_k (zne y1 h0 (fun q => by cases q)) y1
  have hf_5 : (zup F a (.inr (11, [.ref sg, .ref en, .int (iI 0), .int (iI (st.1.length : Int)), .int (iI wd0)]))) a = some (.inr (11, [.ref sg, .ref en, .int (iI 0), .int (iI (st.1.length : Int)), .int (iI wd0)])) := zup_s
  replace hZ : zS D A s (zup F a (.inr (11, [.ref sg, .ref en, .int (iI 0), .int (iI (st.1.length : Int)), .int (iI wd0)]))) _ _ := hZ
  refine lv_aload_n hx hb dX8_arrange_5 rfl (lv_at hl 0 rfl) ?_
  refine z_iconst hx hb dX8_arrange_6 ?_
  refine z_put (T := TX8) (N := 5) (ci := 11) (k := 3) (fs := [.ref sg, .ref en, .int (iI 0), .int (iI (st.1.length : Int)), .int (iI wd0)]) (v := .int (iI 0)) hC hZ tyX8 tyX8_ok nmX8 in_X8 rfl (by decide) ql_X8_23 rfl (Or.inl rfl) rfl hf_5 (by show 3 < 5; decide) rfl rfl dX8_arrange_7 (fun H locs hZ => ?_)
  rw [zup_up] at hZ
  have hf_6 : (zup F a (.inr (11, [.ref sg, .ref en, .int (iI 0), .int (iI 0), .int (iI wd0)]))) sg = some (zA (cs 1) 750 f_) := zup_k (zne h1 h0 (fun q => by cases q)) h1
  have hf_7 : (zup F a (.inr (11, [.ref sg, .ref en, .int (iI 0), .int (iI 0), .int (iI wd0)]))) en = some (zA (cs 2) 360 e_) := zup_k (zne h2 h0 (fun q => by cases q)) h2
  have hf_8 : (zup F a (.inr (11, [.ref sg, .ref en, .int (iI 0), .int (iI 0), .int (iI wd0)]))) b = some (.inr (5, [.int (iI x.1), .int (iI x.2.1), .ref wa])) := zup_k (zne y0 h0 (fun q => by cases q)) y0
  have hf_9 : (zup F a (.inr (11, [.ref sg, .ref en, .int (iI 0), .int (iI 0), .int (iI wd0)]))) wa = some (zO (cs 4) x.2.2.length h_) := zup_k (zne y1 h0 (fun q => by cases q)) y1
  have hf_10 : (zup F a (.inr (11, [.ref sg, .ref en, .int (iI 0), .int (iI 0), .int (iI wd0)]))) a = some (.inr (11, [.ref sg, .ref en, .int (iI 0), .int (iI 0), .int (iI wd0)])) := zup_s
  replace hZ : zS D A s (zup F a (.inr (11, [.ref sg, .ref en, .int (iI 0), .int (iI 0), .int (iI wd0)]))) _ _ := hZ
  refine lv_aload_n hx hb dX8_arrange_10 rfl (lv_at hl 0 rfl) ?_
  refine lv_iload_n hx hb dX8_arrange_11 rfl (lv_at hl 2 rfl) ?_
  refine z_put (T := TX8) (N := 5) (ci := 11) (k := 4) (fs := [.ref sg, .ref en, .int (iI 0), .int (iI 0), .int (iI wd0)]) (v := .int (iI wd)) hC hZ tyX8 tyX8_ok nmX8 in_X8 rfl (by decide) ql_X8_26 rfl (Or.inl rfl) rfl hf_10 (by show 4 < 5; decide) rfl rfl dX8_arrange_12 (fun H locs hZ => ?_)
  rw [zup_up] at hZ
  have hf_11 : (zup F a (.inr (11, [.ref sg, .ref en, .int (iI 0), .int (iI 0), .int (iI wd)]))) sg = some (zA (cs 1) 750 f_) := zup_k (zne h1 h0 (fun q => by cases q)) h1
  have hf_12 : (zup F a (.inr (11, [.ref sg, .ref en, .int (iI 0), .int (iI 0), .int (iI wd)]))) en = some (zA (cs 2) 360 e_) := zup_k (zne h2 h0 (fun q => by cases q)) h2
  have hf_13 : (zup F a (.inr (11, [.ref sg, .ref en, .int (iI 0), .int (iI 0), .int (iI wd)]))) b = some (.inr (5, [.int (iI x.1), .int (iI x.2.1), .ref wa])) := zup_k (zne y0 h0 (fun q => by cases q)) y0
  have hf_14 : (zup F a (.inr (11, [.ref sg, .ref en, .int (iI 0), .int (iI 0), .int (iI wd)]))) wa = some (zO (cs 4) x.2.2.length h_) := zup_k (zne y1 h0 (fun q => by cases q)) y1
  have hf_15 : (zup F a (.inr (11, [.ref sg, .ref en, .int (iI 0), .int (iI 0), .int (iI wd)]))) a = some (.inr (11, [.ref sg, .ref en, .int (iI 0), .int (iI 0), .int (iI wd)])) := zup_s
  replace hZ : zS D A s (zup F a (.inr (11, [.ref sg, .ref en, .int (iI 0), .int (iI 0), .int (iI wd)]))) _ _ := hZ
  refine lv_aload_n hx hb dX8_arrange_15 rfl (lv_at hl 1 rfl) ?_
  refine z_getN (T := TX1) (N := 3) (ci := 5) (k := 2) (fs := [.int (iI x.1), .int (iI x.2.1), .ref wa]) (v := .ref wa) hC hZ in_X1 rfl (by decide) ql_X8_29 rfl hf_13 rfl dX8_arrange_16 ?_
  refine lv_astore_n (lv' := [(3, .ref wa), (0, .ref a), (1, .ref b), (2, .int (iI wd))]) hx hb dX8_arrange_19 rfl hl (by decide) rfl (fun ls hl => ?_)
  refine lv_aload_n hx hb dX8_arrange_20 rfl (lv_at hl 0 rfl) ?_
  refine z_alen (t := 4) hC hZ hf_14 rfl dX8_arrange_21 ?_
  refine lv_istore (lv' := [(4, .int (iI (x.2.2.length : Int))), (3, .ref wa), (0, .ref a), (1, .ref b), (2, .int (iI wd))]) hx hb dX8_arrange_22 hl (by decide) rfl (fun ls hl => ?_)
  refine z_iconst hx hb dX8_arrange_24 ?_
  refine lv_istore (lv' := [(5, .int (iI 0)), (4, .int (iI (x.2.2.length : Int))), (3, .ref wa), (0, .ref a), (1, .ref b), (2, .int (iI wd))]) hx hb dX8_arrange_25 hl (by decide) rfl (fun ls hl => ?_)
  have L27_k_16 : ∀ (fu : Nat) (k : Int) (F2 : zF) (s2 : zLn) (hfu : ((x.2.2.length : Int) - k).toNat < fu) (hi27_0 : 0 ≤ k ∧ k ≤ (x.2.2.length : Int)) (hi27_1 : zwords wd (x.2.2.drop k.toNat) s2 = zwords wd x.2.2 ([], [])) (hi27_2 : lsB k.toNat 0 s2) (hi27_3 : zko [a, sg, en] F F2) (hi27_4 : rLs cs F2 a sg en wd s2) (hi27_5 : s2.1.length ≤ 6 * k.toNat) (hi27_6 : ∀ l ∈ s2.1, (l.length : Int) ≤ wd) (hi27_7 : (s2.2.length : Int) ≤ wd) (H : Heap) (locs : List Loc) (hZ : zS D A s F2 H locs) (ls : Array Slot) (hl : lv_has ls 7 [(5, .int (iI k)), (4, .int (iI (x.2.2.length : Int))), (3, .ref wa), (0, .ref a), (1, .ref b), (2, .int (iI wd))]), W p l e (zR 4 0 0) s m [.ref a, .ref b, .int (iI wd)].toArray below meth c H locs 0 0 (MQ below (zQ D A (pI (fun r F1 => zko [a, sg, en] F F1 ∧ ((∃ ls : List zWd, zlines wd x.2.2 = some ls ∧ r = 1 ∧ rLs cs F1 a sg en wd (ls, []) ∧ (1 ≤ ls.length ∧ ls.length ≤ 181) ∧ ∀ l ∈ ls, (l.length : Int) ≤ wd) ∨ (zlines wd x.2.2 = none ∧ r = 0 ∧ ∃ st1 : zLn, rLs cs F1 a sg en wd st1))))) [.ref a, .ref b, .int (iI wd)].toArray s 0 0 A) (F0 m 27 ls []) := by
    intro fu
    induction fu with
    | zero =>
      intro k F2 s2 hfu
      exact absurd hfu (Nat.not_lt_zero _)
    | succ fu ih27 =>
      intro k F2 s2 hfu hi27_0 hi27_1 hi27_2 hi27_3 hi27_4 hi27_5 hi27_6 hi27_7  H locs hZ ls hl
      have u1 : F2 wa = _ := hi27_3 _ _ y1 (zni1 nwa (zni1 nws (zni1 nwe zni0)))
      refine lv_iload hx hb dX8_arrange_27 (lv_at hl 0 rfl) ?_
      refine lv_iload hx hb dX8_arrange_29 (lv_at hl 1 rfl) ?_
      refine z_icmp_ge (tgt := 57) hx hb dX8_arrange_31 (by decide) (by omega) (by omega) (fun c_17 => ?_) (fun c_17 => ?_)
      · skip
        have hkn : k.toNat = x.2.2.length := by omega
        have hzl : zlines wd x.2.2 = some (s2.1 ++ [s2.2]) := by
          unfold zlines
          rw [← hi27_1, hkn, List.drop_length]
          rfl
        refine lv_aload_n hx hb dX8_arrange_57 rfl (lv_at hl 3 rfl) ?_
        obtain ⟨fsho_18, ho_18⟩ := (hi27_4).o
        refine z_callv (z_runV (rest := []) (As := []) (n := 0) (ci := 11) hC hZ (met_X8_closeLine l D cs A F2 a sg en wd s2 hi27_4 (by omega)) gv_X8_39 hd_X8_closeLine rfl ho_18 rfl hl rfl (Nat.le_of_ble_eq_true rfl) ⟨Nat.le_of_ble_eq_true rfl, Nat.le_of_ble_eq_true rfl⟩ ⟨Nat.le_of_ble_eq_true rfl, Nat.le_of_ble_eq_true rfl⟩ dX8_arrange_58) hZ (fun F58 H locs hp58_c_19 hZ => ?_)
        obtain ⟨hky_20, hsy_20⟩ := hp58_c_19
        have hKy_20 : zko [a, sg, en] F F58 := hi27_3.trans hky_20
        obtain ⟨fy_20, ey_20, i0y_20, i1y_20, i2y_20, i3y_20, i4y_20, i5y_20, i6y_20⟩ := id hsy_20
        have hzly_20 := zfl_l (s2.1 ++ [s2.2], [])
        have hf_21 : F58 b = some (.inr (5, [.int (iI x.1), .int (iI x.2.1), .ref wa])) := hKy_20 _ _ y0 (zni1 nba (zni1 nbs (zni1 nbe zni0)))
        have hf_22 : F58 wa = some (zO (cs 4) x.2.2.length h_) := hKy_20 _ _ y1 (zni1 nwa (zni1 nws (zni1 nwe zni0)))
        refine z_iconst hx hb dX8_arrange_61 ?_
        exact z_zret hC hr hlk hZ rfl (by decide) (by decide) (⟨hKy_20, Or.inl ⟨_, hzl, rfl, hsy_20, ⟨by rw [List.length_append]; simp, by rw [List.length_append]; simp; omega⟩, fun l9 hl9 => (List.mem_append.mp hl9).elim (hi27_6 l9) (fun z9 => by rw [List.mem_singleton.mp z9]; exact hi27_7)⟩⟩) dX8_arrange_62
      · skip
        refine lv_aload_n hx hb dX8_arrange_34 rfl (lv_at hl 2 rfl) ?_
        refine lv_iload hx hb dX8_arrange_35 (lv_at hl 0 rfl) ?_
        obtain ⟨q37, hq37, hwd37⟩ := y2 k (by omega) (by omega)
        have hwo37 := ar_w hxo (k := k) (by omega) (by omega)
        have hww37 : oWd cs F2 q37 (x.2.2.getD k.toNat []) := hwd37.keep3 hi27_3 h0 h1 h2
        have hwat : x.2.2[k.toNat]? = some (x.2.2.getD k.toNat []) := by rw [List.getD_eq_getElem?_getD, List.getElem?_eq_getElem (by omega)]; rfl
        have hkp : (k + 1).toNat = k.toNat + 1 := by omega
        refine z_aald (t := 4) (C := "StoneGazette$Word") (v := (some q37)) hC hZ u1 rfl (by omega) (by omega) hq37 dX8_arrange_37 ?_
        refine lv_astore (lv' := [(6, .ref q37), (5, .int (iI k)), (4, .int (iI (x.2.2.length : Int))), (3, .ref wa), (0, .ref a), (1, .ref b), (2, .int (iI wd))]) hx hb dX8_arrange_38 hl (by decide) rfl (fun ls hl => ?_)
        refine lv_aload_n hx hb dX8_arrange_40 rfl (lv_at hl 4 rfl) ?_
        refine lv_aload hx hb dX8_arrange_41 (lv_at hl 0 rfl) ?_
        obtain ⟨fsho_23, ho_23⟩ := (hi27_4).o
        refine z_calli (z_runV (rest := []) (As := [.ref q37]) (n := 1) (ci := 11) hC hZ (met_X8_place l D cs A F2 a sg en wd s2 q37 (x.2.2.getD k.toNat []) k.toNat hi27_4 hww37 hwo37 hwd (by omega) ⟨by omega, fun _ => ⟨rfl, hi27_5⟩, Or.inl rfl, hi27_6, hi27_7⟩ hi27_2) gv_X8_35 hd_X8_place rfl ho_23 rfl hl rfl (Nat.le_of_ble_eq_true rfl) ⟨Nat.le_of_ble_eq_true rfl, Nat.le_of_ble_eq_true rfl⟩ ⟨Nat.le_of_ble_eq_true rfl, Nat.le_of_ble_eq_true rfl⟩ dX8_arrange_43) hZ (fun r43 F43 H locs hp43_c_24 hZ => ?_)
        obtain ⟨hk43, hcs43⟩ := hp43_c_24
        have hK43 : zko [a, sg, en] F F43 := hi27_3.trans hk43
        rcases hcs43 with ⟨st1, hz43, rfl, hs43, hb1, hb2, hb3, hb4, hb5⟩ | ⟨hz43, rfl, st1, hs43⟩
        · skip
          refine z_if_ne (tgt := 51) hx hb dX8_arrange_46 (by decide) (by decide) (fun c_25 => ?_) (fun c_25 => ?_)
          · skip
            refine z_iinc (lv' := [(5, .int (iI (k + 1))), (6, .ref q37), (4, .int (iI (x.2.2.length : Int))), (3, .ref wa), (0, .ref a), (1, .ref b), (2, .int (iI wd))]) hx hb dX8_arrange_51 hl (k := 1) rfl (by decide) rfl (fun ls hl => ?_)
            refine lv_goto (tgt := 27) hx hb dX8_arrange_54 (by decide) ?_
            exact ih27 (k + 1) F43 st1 (by omega) (by omega) (by rw [hkp, ← zwords_s hwat hz43]; exact hi27_1) (by rw [hkp]; exact hb5) hK43 hs43 (by omega) hb2 hb3  _ _ hZ ls (lv_sub hl [0, 2, 3, 4, 5, 6] rfl)
          · skip
            exfalso; omega
        · skip
          have hzl : zlines wd x.2.2 = none := by unfold zlines; rw [← hi27_1, zwords_n hwat hz43]; rfl
          refine z_if_ne (tgt := 51) hx hb dX8_arrange_46 (by decide) (by decide) (fun c_26 => ?_) (fun c_26 => ?_)
          · skip
            exfalso; omega
          · skip
            refine z_iconst hx hb dX8_arrange_49 ?_
            exact z_zret hC hr hlk hZ rfl (by decide) (by decide) (⟨hK43, Or.inr ⟨hzl, rfl, st1, hs43⟩⟩) dX8_arrange_50
  exact L27_k_16 _ (0 : Int) (zup F a (.inr (11, [.ref sg, .ref en, .int (iI 0), .int (iI 0), .int (iI wd)]))) ([], []) (Nat.lt_succ_self _) (by omega) rfl (Nat.zero_le _) ((zko.refl).up (by simp)) ⟨f_, e_, hf_15, hf_11, hf_12, fun k k0 k1 => absurd k1 (by show ¬ _ < ((0 : Nat) : Int); omega), fun k k0 k1 => absurd k1 (by show ¬ _ < ((0 : Nat) : Int); omega), ⟨by show 0 ≤ 750; decide, by show 0 ≤ 360; decide⟩, fun k k0 k1 => absurd k1 (by show ¬ _ < ((0 : Nat) : Int); omega)⟩ (Nat.zero_le _) (fun _ h9 => by cases h9) (by show ((0 : Nat) : Int) ≤ wd; omega)  _ _ hZ ls (lv_sub hl [0, 1, 2, 3, 4, 5] rfl)
