/-- the model's rows hold all lines -/
def mLs (g : Nat → Int → Int) (ls : List zWd) : Prop := ∀ (k : Nat) (l : zWd), ls[k]? = some l → lnAt (g 9) (20 * k) l ∧ g 10 k = l.length ∧ g 11 k = hyI l
theorem mLn_all {v : Nat → Int} {g : Nat → Int → Int} {st : zLn} (h : mLn v g st) : mLs g (st.1 ++ [st.2]) := by
  obtain ⟨a1, a2, a3, a4, a5, a6⟩ := h
  intro i x hx
  by_cases q : i < st.1.length
  · rw [List.getElem?_append_left q] at hx
    exact a2 i x hx
  · have hl := (List.getElem?_eq_some_iff.mp hx).1
    rw [List.length_append, List.length_singleton] at hl
    have e : i = st.1.length := by omega
    subst e
    rw [List.getElem?_append_right (by omega)] at hx
    simp at hx
    subst hx
    rw [← a1]
    refine ⟨a3, a4, ?_⟩
    rw [a5]
    unfold hyI
    rw [if_neg]
    intro q
    exact a6 45 (List.mem_of_getLast? q) rfl
/-- between two words, w of them set -/
def zbt (y : Int) (ws : List zWd) (w : Nat) (st : zLn) : Prop := zwords y (ws.drop w) st = zwords y ws ([], []) ∧ st.1.length ≤ 6 * w ∧ (∀ x ∈ st.1, (x.length : Int) ≤ y) ∧ (st.2.length : Int) ≤ y
theorem zset_ok {y : Int} {wd : zWd} {j : Nat} (hw : wdOK wd) : ∀ (n fr : Nat) (st st1 : zLn), fr < wd.length → lnOK y wd j fr st → zset y wd n fr st = some st1 → st1.1.length ≤ 6 * (j + 1) ∧ (∀ x ∈ st1.1, (x.length : Int) ≤ y) ∧ (st1.2.length : Int) ≤ y
  | 0, _, _, _, _, _, h => by unfold zset at h; cases h
  | n + 1, fr, st, st1, hf, hk, h => by
    unfold zset at h
    cases hs : zstep y wd fr st with
    | none => rw [hs] at h; cases h
    | some q =>
      obtain ⟨f, s2⟩ := q
      rw [hs] at h
      rcases zstep_ok hw hf hk hs with ⟨h1, h2, h3, h4, h5, -⟩ | ⟨h1, h2, -, -⟩
      · simp [h1] at h
        subst h
        exact ⟨h3, h4, h5⟩
      · simp [Nat.ne_of_lt h1] at h
        exact zset_ok hw n f s2 st1 h1 h2 h
theorem zbt_next {y : Int} {ws : List zWd} {w : Nat} {st : zLn} {wd : zWd} (h : zbt y ws w st) (hw : ws[w]? = some wd) (hk : wdOK wd) : (zset y wd 24 0 st = none → zwords y ws ([], []) = none) ∧ ∀ st1, zset y wd 24 0 st = some st1 → zbt y ws (w + 1) st1 := by
  obtain ⟨h1, h2, h3, h4⟩ := h
  obtain ⟨hl, hv⟩ := List.getElem?_eq_some_iff.mp hw
  rw [List.drop_eq_getElem_cons hl, hv] at h1
  constructor
  · intro hn
    rw [← h1]
    show (match zset y wd 24 0 st with | none => none | some st' => _) = none
    rw [hn]
  · intro st1 hs
    have h5 := hk.1
    obtain ⟨b1, b2, b3⟩ := zset_ok (j := w) hk 24 0 st st1 (by omega) ⟨by omega, fun _ => ⟨rfl, h2⟩, Or.inl rfl, h3, h4⟩ hs
    refine ⟨?_, b1, b2, b3⟩
    rw [← h1]
    show _ = (match zset y wd 24 0 st with | none => none | some st' => _)
    rw [hs]
theorem zbt_end {y : Int} {ws : List zWd} {w : Nat} {st : zLn} (h : zbt y ws w st) (hw : ws.length ≤ w) : zlines y ws = some (st.1 ++ [st.2]) := by
  have h1 := h.1
  rw [List.drop_of_length_le hw] at h1
  unfold zlines
  rw [← h1]
  rfl
set_option maxHeartbeats 4000000 in
set_option maxRecDepth 100000 in
theorem met_X13_setsArticle (l : Launch) (D : va_G) (cs : Nat → ClassId) (A : Nat → Prop) (m0 : Nat) (ad : Nat → Nat) (v : Nat → Int) (g : Nat → Int → Int) (y : Int) (i : Nat) (a0 : zAr) (ni : Int) (hD : mD m0 ad) (hok : mOK v g) (hra : rAr (g 0) i a0) (hka : arOK ni a0) (hi : (i : Int) ≤ 5) (hy0 : 4 ≤ y ∧ y ≤ 20) : zM l D cs A yX13_setsArticle cX13_setsArticle 5 (some FieldType.int) 5 0 0 [.ref m0, .int (iI (i : Int)), .int (iI y)] (mW cs m0 ad v g) (mP cs m0 ad (fun r v1 g1 => (∀ k, k ≠ 12 → v1 k = v k) ∧ (∀ j, j ≠ 9 → j ≠ 10 → j ≠ 11 → g1 j = g j) ∧ ((zlines y a0.2.2 = none ∧ r = -1) ∨ ∃ ls, zlines y a0.2.2 = some ls ∧ r = ls.length ∧ (ls.length ≤ 181 ∧ 1 ≤ ls.length) ∧ (∀ l ∈ ls, (l.length : Int) ≤ y) ∧ mLs g1 ls))) := by
  refine zM_of (own := RX13) (by decide) rfl (Nat.le_of_ble_eq_true rfl) ?_
  intro p e s m below meth c hC hr hlk hnm hZ ls hl
  have hx := hC.x
  have hb := hC.b
  have hl : lv_has ls 5 [(0, .ref m0), (1, .int (iI (i : Int))), (2, .int (iI y))] := hl
  have hra2 := hra.2.2.1
  have hk30 := hka.2.2.1
  refine lv_aload_n hx hb dX13_setsArticle_0 rfl (lv_at hl 0 rfl) ?_
  refine z_iconst hx hb dX13_setsArticle_1 ?_
  refine z_callv (z_runV (rest := []) (As := [.int (iI 0)]) (n := 1) (ci := 16) hC hZ (met_X13_begins l D cs A m0 ad v g 0  hD hok (by decide)) gv_X13_158 hd_X13_begins rfl mW_o rfl hl rfl (Nat.le_of_ble_eq_true rfl) ⟨Nat.le_of_ble_eq_true rfl, Nat.le_of_ble_eq_true rfl⟩ ⟨Nat.le_of_ble_eq_true rfl, Nat.le_of_ble_eq_true rfl⟩ dX13_setsArticle_2) hZ (fun _ H locs hp_1 hZ => ?_)
  obtain ⟨_, _, rfl, hok_2, rfl, rfl⟩ := hp_1
  refine z_iconst hx hb dX13_setsArticle_5 ?_
  refine lv_istore_n (lv' := [(3, .int (iI 1)), (0, .ref m0), (1, .int (iI (i : Int))), (2, .int (iI y))]) hx hb dX13_setsArticle_6 rfl hl (by decide) rfl (fun ls hl => ?_)
  refine z_iconst hx hb dX13_setsArticle_7 ?_
  refine lv_istore (lv' := [(4, .int (iI 0)), (3, .int (iI 1)), (0, .ref m0), (1, .int (iI (i : Int))), (2, .int (iI y))]) hx hb dX13_setsArticle_8 hl (by decide) rfl (fun ls hl => ?_)
  have L10_k_3 : ∀ (fu : Nat) (q w : Int) (v2 : Nat → Int) (g2 : Nat → Int → Int) (hfu : ((a0.2.2.length : Int) - w).toNat < fu) (hi10_0 : 0 ≤ w ∧ w ≤ a0.2.2.length) (hi10_1 : ∀ k, k ≠ 12 → v2 k = v k) (hi10_2 : ∀ j, j ≠ 9 → j ≠ 10 → j ≠ 11 → g2 j = g j) (hi10_3 : (q = 0 ∧ zwords y a0.2.2 ([], []) = none) ∨ (q = 1 ∧ ∃ st, zbt y a0.2.2 w.toNat st ∧ mLn v2 g2 st)) (hw : mOK v2 g2) (H : Heap) (locs : List Loc) (hZ : zS D A s (mW cs m0 ad v2 g2) H locs) (ls : Array Slot) (hl : lv_has ls 5 [(4, .int (iI w)), (3, .int (iI q)), (0, .ref m0), (1, .int (iI (i : Int))), (2, .int (iI y))]), W p l e (zR 5 0 0) s m [.ref m0, .int (iI (i : Int)), .int (iI y)].toArray below meth c H locs 0 0 (MQ below (zQ D A (mP cs m0 ad (fun r v1 g1 => (∀ k, k ≠ 12 → v1 k = v k) ∧ (∀ j, j ≠ 9 → j ≠ 10 → j ≠ 11 → g1 j = g j) ∧ ((zlines y a0.2.2 = none ∧ r = -1) ∨ ∃ ls, zlines y a0.2.2 = some ls ∧ r = ls.length ∧ (ls.length ≤ 181 ∧ 1 ≤ ls.length) ∧ (∀ l ∈ ls, (l.length : Int) ≤ y) ∧ mLs g1 ls)))) [.ref m0, .int (iI (i : Int)), .int (iI y)].toArray s 0 0 A) (F0 m 10 ls []) := by
    intro fu
    induction fu with
    | zero =>
      intro q w v2 g2 hfu
      exact absurd hfu (Nat.not_lt_zero _)
    | succ fu ih10 =>
      intro q w v2 g2 hfu hi10_0 hi10_1 hi10_2 hi10_3 hw H locs hZ ls hl
      have e0 : g2 0 = g 0 := hi10_2 0 (by decide) (by decide) (by decide)
      have hq01 : q = 0 ∨ q = 1 := by rcases hi10_3 with h | h <;> omega
      refine lv_iload hx hb dX13_setsArticle_10 (lv_at hl 0 rfl) ?_
      refine lv_aload_n hx hb dX13_setsArticle_12 rfl (lv_at hl 2 rfl) ?_
      refine lv_iload_n hx hb dX13_setsArticle_13 rfl (lv_at hl 3 rfl) ?_
      refine z_iconst hx hb dX13_setsArticle_14 ?_
      refine z_calli (z_runV (rest := [.int (iI w)]) (As := [.int (iI (i : Int)), .int (iI 2)]) (n := 2) (ci := 16) hC hZ (met_X13_of l D cs A m0 ad v2 g2 (i : Int) 2  hD hw (by omega) (by omega)) gv_X13_67 hd_X13_of rfl mW_o rfl hl rfl (Nat.le_of_ble_eq_true rfl) ⟨Nat.le_of_ble_eq_true rfl, Nat.le_of_ble_eq_true rfl⟩ ⟨Nat.le_of_ble_eq_true rfl, Nat.le_of_ble_eq_true rfl⟩ dX13_setsArticle_15) hZ (fun r15 _ H locs hp_4 hZ => ?_)
      obtain ⟨_, _, rfl, _, rfl, rfl, rfl⟩ := hp_4
      have hr_5 : -2147483648 ≤ mof (g2 0) (i : Int) 2 ∧ mof (g2 0) (i : Int) 2 ≤ 2147483647 := hw.2 0 _
      refine z_top (y := (a0.2.2.length : Int)) (by rw [e0]; exact hra2) ?_
      refine z_icmp_ge (tgt := 40) hx hb dX13_setsArticle_18 (by decide) (by omega) (by omega) (fun c_6 => ?_) (fun c_6 => ?_)
      · skip
        refine lv_iload_n hx hb dX13_setsArticle_40 rfl (lv_at hl 1 rfl) ?_
        refine z_if_eq (tgt := 53) hx hb dX13_setsArticle_41 (by decide) (by omega) (fun c_7 => ?_) (fun c_7 => ?_)
        · skip
          have hnone : zwords y a0.2.2 ([], []) = none := by
            rcases hi10_3 with h | h
            · exact h.2
            · omega
          refine z_iconst hx hb dX13_setsArticle_53 ?_
          exact z_iret hC hr hlk hZ (by decide) (by decide) (⟨_, _, rfl, hw, hi10_1, hi10_2, Or.inl ⟨by unfold zlines; rw [hnone]; rfl, rfl⟩⟩) dX13_setsArticle_54
        · skip
          obtain ⟨st, hbt, hmln⟩ : ∃ st, zbt y a0.2.2 w.toNat st ∧ mLn v2 g2 st := by
            rcases hi10_3 with h | h
            · omega
            · exact h.2
          have h12 := hmln.1
          have hb6 := hbt.2.1
          refine lv_aload_n hx hb dX13_setsArticle_44 rfl (lv_at hl 2 rfl) ?_
          refine m_get hC hZ 12 (x := .int (iI (v2 12))) rfl (by decide) ql_X13_147 rfl dX13_setsArticle_45 ?_
          have hr_8 : -2147483648 ≤ v2 12 ∧ v2 12 ≤ 2147483647 := hw.1 12
          refine z_iconst hx hb dX13_setsArticle_48 ?_
          refine z_iadd hx hb dX13_setsArticle_49 ?_
          refine lv_goto (tgt := 54) hx hb dX13_setsArticle_50 (by decide) ?_
          exact z_iret hC hr hlk hZ (by decide) (by decide) (⟨_, _, rfl, hw, hi10_1, hi10_2, Or.inr ⟨st.1 ++ [st.2], zbt_end hbt (by omega), by rw [h12]; simp, by simp; omega, fun l hl => by rcases List.mem_append.mp hl with z | z; exact hbt.2.2.1 l z; rw [List.mem_singleton.mp z]; exact hbt.2.2.2, mLn_all hmln⟩⟩) dX13_setsArticle_54
      · skip
        refine lv_iload_n hx hb dX13_setsArticle_21 rfl (lv_at hl 1 rfl) ?_
        refine z_if_eq (tgt := 40) hx hb dX13_setsArticle_22 (by decide) (by omega) (fun c_9 => ?_) (fun c_9 => ?_)
        · skip
          refine lv_iload_n hx hb dX13_setsArticle_40 rfl (lv_at hl 1 rfl) ?_
          refine z_if_eq (tgt := 53) hx hb dX13_setsArticle_41 (by decide) (by omega) (fun c_10 => ?_) (fun c_10 => ?_)
          · skip
            have hnone : zwords y a0.2.2 ([], []) = none := by
              rcases hi10_3 with h | h
              · exact h.2
              · omega
            refine z_iconst hx hb dX13_setsArticle_53 ?_
            exact z_iret hC hr hlk hZ (by decide) (by decide) (⟨_, _, rfl, hw, hi10_1, hi10_2, Or.inl ⟨by unfold zlines; rw [hnone]; rfl, rfl⟩⟩) dX13_setsArticle_54
          · skip
            obtain ⟨st, hbt, hmln⟩ : ∃ st, zbt y a0.2.2 w.toNat st ∧ mLn v2 g2 st := by
              rcases hi10_3 with h | h
              · omega
              · exact h.2
            have h12 := hmln.1
            have hb6 := hbt.2.1
            refine lv_aload_n hx hb dX13_setsArticle_44 rfl (lv_at hl 2 rfl) ?_
            refine m_get hC hZ 12 (x := .int (iI (v2 12))) rfl (by decide) ql_X13_147 rfl dX13_setsArticle_45 ?_
            have hr_11 : -2147483648 ≤ v2 12 ∧ v2 12 ≤ 2147483647 := hw.1 12
            refine z_iconst hx hb dX13_setsArticle_48 ?_
            refine z_iadd hx hb dX13_setsArticle_49 ?_
            refine lv_goto (tgt := 54) hx hb dX13_setsArticle_50 (by decide) ?_
            exact z_iret hC hr hlk hZ (by decide) (by decide) (⟨_, _, rfl, hw, hi10_1, hi10_2, Or.inr ⟨st.1 ++ [st.2], zbt_end hbt (by omega), by rw [h12]; simp, by simp; omega, fun l hl => by rcases List.mem_append.mp hl with z | z; exact hbt.2.2.1 l z; rw [List.mem_singleton.mp z]; exact hbt.2.2.2, mLn_all hmln⟩⟩) dX13_setsArticle_54
        · skip
          obtain ⟨st, hbt, hmln⟩ : ∃ st, zbt y a0.2.2 w.toNat st ∧ mLn v2 g2 st := by
            rcases hi10_3 with h | h
            · omega
            · exact h.2
          obtain ⟨wd, hzw, hwd, hln, hw29, hlt⟩ := rAr_wd hra hka (w := w) (by omega) (by omega)
          have hwt : a0.2.2[w.toNat]? = some wd := by unfold zwd at hzw; rw [if_pos (by omega)] at hzw; exact hzw
          have hzn := zbt_next hbt hwt hwd
          refine lv_aload_n hx hb dX13_setsArticle_25 rfl (lv_at hl 2 rfl) ?_
          refine lv_iload_n hx hb dX13_setsArticle_26 rfl (lv_at hl 3 rfl) ?_
          refine lv_iload hx hb dX13_setsArticle_27 (lv_at hl 0 rfl) ?_
          refine lv_iload_n hx hb dX13_setsArticle_29 rfl (lv_at hl 4 rfl) ?_
          refine z_calli (z_runV (rest := []) (As := [.int (iI (i : Int)), .int (iI w), .int (iI y)]) (n := 3) (ci := 16) hC hZ (met_X13_setsWord l D cs A m0 ad v2 g2 (i : Int) w y wd w.toNat st hD hw (by omega) (by omega) hwd (by rw [e0]; exact hln) (by rw [e0]; exact hlt) hy0 hmln hbt.2.1 (by omega) hbt.2.2.1 hbt.2.2.2) gv_X13_162 hd_X13_setsWord rfl mW_o rfl hl rfl (Nat.le_of_ble_eq_true rfl) ⟨Nat.le_of_ble_eq_true rfl, Nat.le_of_ble_eq_true rfl⟩ ⟨Nat.le_of_ble_eq_true rfl, Nat.le_of_ble_eq_true rfl⟩ dX13_setsArticle_30) hZ (fun r30 _ H locs hp_12 hZ => ?_)
          obtain ⟨v_14, g_15, rfl, hok_13, hsv, hsg, hp_12⟩ := hp_12
          have hnx : (r30 = 0 ∧ zwords y a0.2.2 ([], []) = none) ∨ (r30 = 1 ∧ ∃ st, zbt y a0.2.2 (w + 1).toNat st ∧ mLn v_14 g_15 st) := by
            rcases hp_12 with ⟨h1, h2⟩ | ⟨s1, h1, h2, h3⟩
            · exact Or.inl ⟨h2, hzn.1 h1⟩
            · exact Or.inr ⟨h2, s1, by rw [show (w + 1).toNat = w.toNat + 1 by omega]; exact hzn.2 s1 h1, h3⟩
          have hr01 : r30 = 0 ∨ r30 = 1 := by rcases hnx with h | h <;> omega
          refine lv_istore_n (lv' := [(3, .int (iI r30)), (4, .int (iI w)), (0, .ref m0), (1, .int (iI (i : Int))), (2, .int (iI y))]) hx hb dX13_setsArticle_33 rfl hl (by decide) rfl (fun ls hl => ?_)
          refine z_iinc (lv' := [(4, .int (iI (w + 1))), (3, .int (iI r30)), (0, .ref m0), (1, .int (iI (i : Int))), (2, .int (iI y))]) hx hb dX13_setsArticle_34 hl (k := 1) rfl (by decide) rfl (fun ls hl => ?_)
          refine lv_goto (tgt := 10) hx hb dX13_setsArticle_37 (by decide) ?_
          exact ih10 r30 (w + 1) v_14 g_15 (by omega) (by omega) (fun k hk => (hsv k hk).trans (hi10_1 k hk)) (fun j h1 h2 h3 => (hsg j h1 h2 h3).trans (hi10_2 j h1 h2 h3)) hnx hok_13 _ _ hZ ls (lv_sub hl [0, 1, 2, 3, 4] rfl)
  exact L10_k_3 _ 1 0 (upN v 12 0) (upG (upG g 10 (upI (g 10) 0 0)) 11 (upI (g 11) 0 0)) (Nat.lt_succ_self _) (by omega) (fun k hk => upN_n hk) (fun j h1 h2 h3 => by rw [upG_n h3, upG_n h2]) (Or.inr ⟨rfl, ([], []), ⟨rfl, by simp, fun x hx => by simp at hx, by simp; omega⟩, ⟨rfl, fun i l h => by simp at h, lnAt_nil, rfl, rfl, fun x hx => by simp at hx⟩⟩) hok_2 _ _ hZ ls (lv_sub hl [0, 1, 2, 3, 4] rfl)

