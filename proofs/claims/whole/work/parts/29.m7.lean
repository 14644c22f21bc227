def zmu (wd : zWd) (fr : Nat) (st : zLn) : Nat := 2 * (wd.length - fr) + (if st.2 = [] then 0 else 1)
/-- the walk through a word stands at fr: what is still to come is T -/
def zgo (w : Int) (wd : zWd) (T : Option zLn) (fr : Nat) (st : zLn) : Prop := fr ≤ wd.length ∧ (fr < wd.length → ∃ n, zset w wd n fr st = T ∧ zmu wd fr st ≤ n + 1) ∧ (fr = wd.length → T = some st)
theorem zgo_step {w : Int} {wd : zWd} {T : Option zLn} {j fr : Nat} {st : zLn} (hw : wdOK wd) (h : zgo w wd T fr st) (hf : fr < wd.length) (hk : lnOK w wd j fr st) : (zstep w wd fr st = none ∧ T = none) ∨ ∃ f st', zstep w wd fr st = some (f, st') ∧ zgo w wd T f st' ∧ zmu wd f st' < zmu wd fr st := by
  obtain ⟨n, hn, hm⟩ := h.2.1 hf
  have hn0 : n ≠ 0 := by
    intro q; subst q
    unfold zmu at hm
    omega
  obtain ⟨n, rfl⟩ : ∃ k, n = k + 1 := ⟨n - 1, by omega⟩
  cases hs : zstep w wd fr st with
  | none => left; refine ⟨rfl, ?_⟩; rw [← hn]; unfold zset; rw [hs]
  | some q =>
    obtain ⟨f, st'⟩ := q
    right
    refine ⟨f, st', rfl, ?_, ?_⟩
    · rcases zstep_ok hw hf hk hs with ⟨h1, -⟩ | ⟨h1, h2, h3, h4⟩
      · refine ⟨by omega, fun q => absurd q (by omega), fun _ => ?_⟩
        rw [← hn]; unfold zset; rw [hs]; simp [h1]
      · refine ⟨by omega, fun _ => ⟨n, ?_, ?_⟩, fun q => absurd q (by omega)⟩
        · rw [← hn]; conv => rhs; unfold zset
          rw [hs]; simp [Nat.ne_of_lt h1]
        · unfold zmu at hm ⊢
          rw [if_pos h3]
          rcases h4 with q | ⟨q, z⟩
          · split at hm <;> omega
          · rw [if_neg z] at hm; omega
    · rcases zstep_ok hw hf hk hs with ⟨h1, -⟩ | ⟨h1, h2, h3, h4⟩
      · unfold zmu
        split <;> split <;> omega
      · unfold zmu
        rw [if_pos h3]
        rcases h4 with q | ⟨q, z⟩
        · split <;> omega
        · rw [if_neg z]; omega
theorem zgo_next {w : Int} {wd : zWd} {T : Option zLn} {j fr f : Nat} {st st' : zLn} (hw : wdOK wd) (h : zgo w wd T fr st) (hf : fr < wd.length) (hk : lnOK w wd j fr st) (hs : zstep w wd fr st = some (f, st')) : zgo w wd T f st' ∧ zmu wd f st' < zmu wd fr st ∧ (f < wd.length → lnOK w wd j f st') := by
  rcases zgo_step hw h hf hk with ⟨h1, -⟩ | ⟨f2, s2, h1, h2, h3⟩
  · rw [hs] at h1; cases h1
  · rw [hs] at h1
    cases h1
    refine ⟨h2, h3, fun hl => ?_⟩
    rcases zstep_ok hw hf hk hs with ⟨q, -⟩ | ⟨-, q, -⟩
    · omega
    · exact q
theorem zcut_s {wd : zWd} {fr : Nat} {room at_ : Int} (h : (fr : Int) + 1 ≤ at_) (ha : 0 < at_) : ((at_ - fr + 1 ≤ room ∧ cutOK wd at_) ∧ (zcut wd fr room at_.toNat : Int) = at_) ∨ (¬ (at_ - fr + 1 ≤ room ∧ cutOK wd at_) ∧ zcut wd fr room at_.toNat = zcut wd fr room (at_ - 1).toNat) := by
  obtain ⟨p, rfl⟩ : ∃ p : Nat, at_ = (p : Int) + 1 := ⟨(at_ - 1).toNat, by omega⟩
  have e1 : ((p : Int) + 1).toNat = p + 1 := by omega
  have e2 : ((p : Int) + 1 - 1).toNat = p := by omega
  have hc := cutB_iff (w := wd) (x := (p : Int) + 1) (by omega)
  rw [e1] at hc ⊢
  rw [e2]
  by_cases q : (p : Int) + 1 - fr + 1 ≤ room ∧ cutOK wd ((p : Int) + 1)
  · left
    refine ⟨q, ?_⟩
    unfold zcut
    rw [if_pos ⟨by omega, q.1, hc.mpr q.2⟩]
    push_cast; rfl
  · right
    refine ⟨q, ?_⟩
    conv => lhs; unfold zcut
    rw [if_neg]
    rintro ⟨z1, z2, z3⟩
    exact q ⟨z2, hc.mp z3⟩
theorem zcut_lt (wd : zWd) (fr : Nat) (room : Int) (p : Nat) (hl : 1 ≤ wd.length) : zcut wd fr room p < wd.length := by
  rcases (zcut_spec wd fr room p).1 with h | ⟨h1, h2, h3, h4⟩
  · omega
  · have := cutB_le h4; omega
theorem zcut_start (wd : zWd) (fr : Nat) (room : Int) : ∀ p, p ≤ fr → zcut wd fr room p = 0
  | 0, _ => rfl
  | p + 1, h => by
    unfold zcut
    rw [if_neg (by omega)]
    exact zcut_start wd fr room p (by omega)
theorem wd45 {wd : zWd} (h : wdOK wd) : ∀ x ∈ wd, x ≠ 45 := fun x hx => by have := h.2 x hx; omega
theorem put45 {cur wd : zWd} {n k : Nat} (hw : wdOK wd) (hc : ∀ x ∈ cur, x ≠ 45) : ∀ x ∈ lnPut cur ((wd.drop n).take k), x ≠ 45 := by
  intro x hx
  have hp : ∀ y ∈ (wd.drop n).take k, y ≠ 45 := fun y hy => wd45 hw y (List.mem_of_mem_drop (List.mem_of_mem_take hy))
  unfold lnPut at hx
  split at hx
  · exact hp x hx
  · rcases List.mem_append.mp hx with q | q
    · exact hc x q
    · rcases List.mem_cons.mp q with z | z
      · omega
      · exact hp x z
set_option maxHeartbeats 4000000 in
set_option maxRecDepth 100000 in
theorem met_X13_setsWord (l : Launch) (D : va_G) (cs : Nat → ClassId) (A : Nat → Prop) (m0 : Nat) (ad : Nat → Nat) (v : Nat → Int) (g : Nat → Int → Int) (a b y : Int) (wd : zWd) (j : Nat) (st0 : zLn) (hD : mD m0 ad) (hok : mOK v g) (ha0 : 0 ≤ a ∧ a ≤ 5) (hb0 : 0 ≤ b ∧ b ≤ 29) (hwd : wdOK wd) (hln : mof (g 0) a (3 + 13 * b) = wd.length) (hlt : ∀ k : Int, 0 ≤ k → k < wd.length → mof (g 0) a (3 + 13 * b + 1 + k) = wd.getD k.toNat 0 ∧ 97 ≤ wd.getD k.toNat 0 ∧ wd.getD k.toNat 0 ≤ 122) (hy0 : 4 ≤ y ∧ y ≤ 20) (hm : mLn v g st0) (hl0 : st0.1.length ≤ 6 * j) (hj : j ≤ 29) (hl1 : ∀ x ∈ st0.1, (x.length : Int) ≤ y) (hl2 : (st0.2.length : Int) ≤ y) : zM l D cs A yX13_setsWord cX13_setsWord 10 (some FieldType.boolean) 4 0 0 [.ref m0, .int (iI a), .int (iI b), .int (iI y)] (mW cs m0 ad v g) (mP cs m0 ad (fun r v1 g1 => (∀ k, k ≠ 12 → v1 k = v k) ∧ (∀ j, j ≠ 9 → j ≠ 10 → j ≠ 11 → g1 j = g j) ∧ ((zset y wd 24 0 st0 = none ∧ r = 0) ∨ ∃ st1, zset y wd 24 0 st0 = some st1 ∧ r = 1 ∧ mLn v1 g1 st1))) := by
  refine zM_of (own := RX13) (by decide) rfl (Nat.le_of_ble_eq_true rfl) ?_
  intro p e s m below meth c hC hr hlk hnm hZ ls hl
  have hx := hC.x
  have hb := hC.b
  have hl : lv_has ls 10 [(0, .ref m0), (1, .int (iI a)), (2, .int (iI b)), (3, .int (iI y))] := hl
  have hwl := hwd.1
  refine lv_aload_n hx hb dX13_setsWord_0 rfl (lv_at hl 0 rfl) ?_
  refine lv_iload_n hx hb dX13_setsWord_1 rfl (lv_at hl 1 rfl) ?_
  refine lv_iload_n hx hb dX13_setsWord_2 rfl (lv_at hl 2 rfl) ?_
  refine z_calli (z_runV (rest := []) (As := [.int (iI a), .int (iI b)]) (n := 2) (ci := 16) hC hZ (met_X13_long1 l D cs A m0 ad v g a b  hD hok (by omega) (by omega)) gv_X13_113 hd_X13_long1 rfl mW_o rfl hl rfl (Nat.le_of_ble_eq_true rfl) ⟨Nat.le_of_ble_eq_true rfl, Nat.le_of_ble_eq_true rfl⟩ ⟨Nat.le_of_ble_eq_true rfl, Nat.le_of_ble_eq_true rfl⟩ dX13_setsWord_3) hZ (fun r3 _ H locs hp_1 hZ => ?_)
  obtain ⟨_, _, rfl, _, rfl, rfl, rfl⟩ := hp_1
  have hr_2 : -2147483648 ≤ mof (g 0) a (3 + 13 * b) ∧ mof (g 0) a (3 + 13 * b) ≤ 2147483647 := hok.2 0 _
  refine z_top (y := (wd.length : Int)) hln ?_
  refine lv_istore (lv' := [(4, .int (iI (wd.length : Int))), (0, .ref m0), (1, .int (iI a)), (2, .int (iI b)), (3, .int (iI y))]) hx hb dX13_setsWord_6 hl (by decide) rfl (fun ls hl => ?_)
  refine z_iconst hx hb dX13_setsWord_8 ?_
  refine lv_istore (lv' := [(5, .int (iI 0)), (4, .int (iI (wd.length : Int))), (0, .ref m0), (1, .int (iI a)), (2, .int (iI b)), (3, .int (iI y))]) hx hb dX13_setsWord_9 hl (by decide) rfl (fun ls hl => ?_)
  have L11_k_3 : ∀ (fu : Nat)  (v2 : Nat → Int) (g2 : Nat → Int → Int) (st : zLn) (fr : Nat) (hfu : zmu wd fr st < fu) (hi11_0 : ∀ k, k ≠ 12 → v2 k = v k) (hi11_1 : ∀ j, j ≠ 9 → j ≠ 10 → j ≠ 11 → g2 j = g j) (hi11_2 : zgo y wd (zset y wd 24 0 st0) fr st) (hi11_3 : fr < wd.length → lnOK y wd j fr st) (hi11_4 : mLn v2 g2 st) (hw : mOK v2 g2) (H : Heap) (locs : List Loc) (hZ : zS D A s (mW cs m0 ad v2 g2) H locs) (ls : Array Slot) (hl : lv_has ls 10 [(5, .int (iI (fr : Int))), (4, .int (iI (wd.length : Int))), (0, .ref m0), (1, .int (iI a)), (2, .int (iI b)), (3, .int (iI y))]), W p l e (zR 4 0 0) s m [.ref m0, .int (iI a), .int (iI b), .int (iI y)].toArray below meth c H locs 0 0 (MQ below (zQ D A (mP cs m0 ad (fun r v1 g1 => (∀ k, k ≠ 12 → v1 k = v k) ∧ (∀ j, j ≠ 9 → j ≠ 10 → j ≠ 11 → g1 j = g j) ∧ ((zset y wd 24 0 st0 = none ∧ r = 0) ∨ ∃ st1, zset y wd 24 0 st0 = some st1 ∧ r = 1 ∧ mLn v1 g1 st1)))) [.ref m0, .int (iI a), .int (iI b), .int (iI y)].toArray s 0 0 A) (F0 m 11 ls []) := by
    intro fu
    induction fu with
    | zero =>
      intro  v2 g2 st fr hfu
      exact absurd hfu (Nat.not_lt_zero _)
    | succ fu ih11 =>
      intro  v2 g2 st fr hfu hi11_0 hi11_1 hi11_2 hi11_3 hi11_4 hw H locs hZ ls hl
      have hfu11 := hfu
      have e0 : g2 0 = g 0 := hi11_1 0 (by decide) (by decide) (by decide)
      have hfl := hi11_2.1
      have hl12 := hi11_4.1
      have hl10 := hi11_4.2.2.2.1
      refine lv_iload hx hb dX13_setsWord_11 (lv_at hl 0 rfl) ?_
      refine lv_iload hx hb dX13_setsWord_13 (lv_at hl 1 rfl) ?_
      refine z_icmp_ge (tgt := 201) hx hb dX13_setsWord_15 (by decide) (by omega) (by omega) (fun c_4 => ?_) (fun c_4 => ?_)
      · skip
        refine z_iconst hx hb dX13_setsWord_201 ?_
        exact z_zret hC hr hlk hZ rfl (by decide) (by decide) (⟨_, _, rfl, hw, hi11_0, hi11_1, Or.inr ⟨st, hi11_2.2.2 (by omega), rfl, hi11_4⟩⟩) dX13_setsWord_202
      · skip
        have hfr : fr < wd.length := by omega
        have hlo := hi11_3 hfr
        have hcl : st.1.length ≤ 180 := by obtain ⟨q1, q2, q3, -⟩ := hlo; rcases q3 with q | q <;> first | omega | (have := cutB_le q; omega)
        have hz20 := hlo.2.2.2.2
        have hstp := zgo_step hwd hi11_2 hfr hlo
        refine lv_aload_n hx hb dX13_setsWord_18 rfl (lv_at hl 2 rfl) ?_
        refine m_get hC hZ 10 (x := .ref (ad 10)) rfl (by decide) ql_X13_29 rfl dX13_setsWord_19 ?_
        refine lv_aload_n hx hb dX13_setsWord_22 rfl (lv_at hl 2 rfl) ?_
        refine m_get hC hZ 12 (x := .int (iI (v2 12))) rfl (by decide) ql_X13_147 rfl dX13_setsWord_23 ?_
        have hr_5 : -2147483648 ≤ v2 12 ∧ v2 12 ≤ 2147483647 := hw.1 12
        refine m_iald hC hZ hD 10 (by decide) (f := g2 10) rfl rfl (by show _ ∧ _ < (200 : Int); omega) (by decide) dX13_setsWord_26 ?_
        have hr_6 : -2147483648 ≤ (g2 10) (v2 12) ∧ (g2 10) (v2 12) ≤ 2147483647 := hw.2 10 _
        refine z_top (y := (st.2.length : Int)) hl10 ?_
        refine lv_istore (lv' := [(6, .int (iI (st.2.length : Int))), (5, .int (iI (fr : Int))), (4, .int (iI (wd.length : Int))), (0, .ref m0), (1, .int (iI a)), (2, .int (iI b)), (3, .int (iI y))]) hx hb dX13_setsWord_27 hl (by decide) rfl (fun ls hl => ?_)
        have J44_k_7 : ∀   (H : Heap) (locs : List Loc) (hZ : zS D A s (mW cs m0 ad v2 g2) H locs) (ls : Array Slot) (hl : lv_has ls 10 [(6, .int (iI (st.2.length : Int))), (5, .int (iI (fr : Int))), (4, .int (iI (wd.length : Int))), (0, .ref m0), (1, .int (iI a)), (2, .int (iI b)), (3, .int (iI y))]), W p l e (zR 4 0 0) s m [.ref m0, .int (iI a), .int (iI b), .int (iI y)].toArray below meth c H locs 0 0 (MQ below (zQ D A (mP cs m0 ad (fun r v1 g1 => (∀ k, k ≠ 12 → v1 k = v k) ∧ (∀ j, j ≠ 9 → j ≠ 10 → j ≠ 11 → g1 j = g j) ∧ ((zset y wd 24 0 st0 = none ∧ r = 0) ∨ ∃ st1, zset y wd 24 0 st0 = some st1 ∧ r = 1 ∧ mLn v1 g1 st1)))) [.ref m0, .int (iI a), .int (iI b), .int (iI y)].toArray s 0 0 A) (F0 m 44 ls [.int (iI (zroom y st.2))]) := by
          intro     H locs hZ ls hl
          refine lv_istore (lv' := [(7, .int (iI (zroom y st.2))), (6, .int (iI (st.2.length : Int))), (5, .int (iI (fr : Int))), (4, .int (iI (wd.length : Int))), (0, .ref m0), (1, .int (iI a)), (2, .int (iI b)), (3, .int (iI y))]) hx hb dX13_setsWord_44 hl (by decide) rfl (fun ls hl => ?_)
          refine lv_iload hx hb dX13_setsWord_46 (lv_at hl 3 rfl) ?_
          refine lv_iload hx hb dX13_setsWord_48 (lv_at hl 2 rfl) ?_
          refine z_isub hx hb dX13_setsWord_50 ?_
          refine lv_iload hx hb dX13_setsWord_51 (lv_at hl 0 rfl) ?_
          have hrm : zroom y st.2 ≤ 20 ∧ -2 ≤ zroom y st.2 := by unfold zroom; split <;> omega
          refine z_icmp_gt (tgt := 61) hx hb dX13_setsWord_53 (by decide) (by omega) (by omega) (fun c_8 => ?_) (fun c_8 => ?_)
          · skip
            have hnof : ¬ (wd.length : Int) - fr ≤ zroom y st.2 := by omega
            refine z_iconst hx hb dX13_setsWord_61 ?_
            refine lv_istore (lv' := [(8, .int (iI 0)), (7, .int (iI (zroom y st.2))), (6, .int (iI (st.2.length : Int))), (5, .int (iI (fr : Int))), (4, .int (iI (wd.length : Int))), (0, .ref m0), (1, .int (iI a)), (2, .int (iI b)), (3, .int (iI y))]) hx hb dX13_setsWord_62 hl (by decide) rfl (fun ls hl => ?_)
            refine lv_iload hx hb dX13_setsWord_64 (lv_at hl 3 rfl) ?_
            refine z_iconst hx hb dX13_setsWord_66 ?_
            refine z_iadd hx hb dX13_setsWord_67 ?_
            refine lv_istore (lv' := [(9, .int (iI ((fr : Int) + 1))), (8, .int (iI 0)), (7, .int (iI (zroom y st.2))), (6, .int (iI (st.2.length : Int))), (5, .int (iI (fr : Int))), (4, .int (iI (wd.length : Int))), (0, .ref m0), (1, .int (iI a)), (2, .int (iI b)), (3, .int (iI y))]) hx hb dX13_setsWord_68 hl (by decide) rfl (fun ls hl => ?_)
            have L70_k_9 : ∀ (fu : Nat) (t k : Int)  (hfu : ((wd.length : Int) - k).toNat < fu) (hi70_0 : (fr : Int) + 1 ≤ k ∧ k ≤ wd.length) (hi70_1 : 0 ≤ t ∧ t < wd.length) (hi70_2 : t = zcut wd fr (zroom y st.2) (k - 1).toNat) (H : Heap) (locs : List Loc) (hZ : zS D A s (mW cs m0 ad v2 g2) H locs) (ls : Array Slot) (hl : lv_has ls 10 [(9, .int (iI k)), (8, .int (iI t)), (7, .int (iI (zroom y st.2))), (6, .int (iI (st.2.length : Int))), (5, .int (iI (fr : Int))), (4, .int (iI (wd.length : Int))), (0, .ref m0), (1, .int (iI a)), (2, .int (iI b)), (3, .int (iI y))]), W p l e (zR 4 0 0) s m [.ref m0, .int (iI a), .int (iI b), .int (iI y)].toArray below meth c H locs 0 0 (MQ below (zQ D A (mP cs m0 ad (fun r v1 g1 => (∀ k, k ≠ 12 → v1 k = v k) ∧ (∀ j, j ≠ 9 → j ≠ 10 → j ≠ 11 → g1 j = g j) ∧ ((zset y wd 24 0 st0 = none ∧ r = 0) ∨ ∃ st1, zset y wd 24 0 st0 = some st1 ∧ r = 1 ∧ mLn v1 g1 st1)))) [.ref m0, .int (iI a), .int (iI b), .int (iI y)].toArray s 0 0 A) (F0 m 70 ls []) := by
              intro fu
              induction fu with
              | zero =>
                intro t k  hfu
                exact absurd hfu (Nat.not_lt_zero _)
              | succ fu ih70 =>
                intro t k  hfu hi70_0 hi70_1 hi70_2  H locs hZ ls hl
                refine lv_iload hx hb dX13_setsWord_70 (lv_at hl 1 rfl) ?_
                refine lv_iload hx hb dX13_setsWord_72 (lv_at hl 5 rfl) ?_
                refine z_icmp_ge (tgt := 122) hx hb dX13_setsWord_74 (by decide) (by omega) (by omega) (fun c_10 => ?_) (fun c_10 => ?_)
                · skip
                  have hzc : t = zcut wd fr (zroom y st.2) (wd.length - 1) := by rw [hi70_2]; congr 2; omega
                  have hcs : (t = 0 ∧ st.2 = []) ∨ (t = 0 ∧ st.2 ≠ []) ∨ t ≠ 0 := by by_cases q : t = 0 <;> by_cases z : st.2 = [] <;> simp [q, z]
                  rcases hcs with ⟨ht0, he⟩ | ⟨ht0, he⟩ | ht0
                  · skip
                    have hst : zstep y wd fr st = none := by unfold zstep; rw [if_neg hnof, if_neg (by omega), if_pos he]
                    have hT : zset y wd 24 0 st0 = none := by
                      rcases hstp with ⟨_, h⟩ | ⟨f, s', h, _⟩
                      · exact h
                      · rw [hst] at h; cases h
                    have hle : (st.2.length : Int) = 0 := by rw [he]; rfl
                    subst ht0
                    refine lv_iload hx hb dX13_setsWord_122 (lv_at hl 1 rfl) ?_
                    refine z_if_ne (tgt := 134) hx hb dX13_setsWord_124 (by decide) (by decide) (fun c_11 => ?_) (fun c_11 => ?_)
                    · skip
                      exfalso; omega
                    · skip
                      refine lv_iload hx hb dX13_setsWord_127 (lv_at hl 3 rfl) ?_
                      refine z_if_ne (tgt := 134) hx hb dX13_setsWord_129 (by decide) (by omega) (fun c_12 => ?_) (fun c_12 => ?_)
                      · skip
                        exfalso; omega
                      · skip
                        refine z_iconst hx hb dX13_setsWord_132 ?_
                        exact z_zret hC hr hlk hZ rfl (by decide) (by decide) (⟨_, _, rfl, hw, hi11_0, hi11_1, Or.inl ⟨hT, rfl⟩⟩) dX13_setsWord_133
                  · skip
                    have hst : zstep y wd fr st = some (fr, st.1 ++ [st.2], []) := by unfold zstep; rw [if_neg hnof, if_neg (by omega), if_neg he]
                    obtain ⟨hgo, hmu0, hlk⟩ := zgo_next hwd hi11_2 hfr hlo hst
                    have hmu := Nat.lt_of_lt_of_le hmu0 (Nat.le_of_lt_succ hfu11)
                    have hmm := mLn_new hi11_4
                    have hne : (st.2.length : Int) ≠ 0 := fun q => he (List.eq_nil_of_length_eq_zero (by omega))
                    subst ht0
                    refine lv_iload hx hb dX13_setsWord_122 (lv_at hl 1 rfl) ?_
                    refine z_if_ne (tgt := 134) hx hb dX13_setsWord_124 (by decide) (by decide) (fun c_13 => ?_) (fun c_13 => ?_)
                    · skip
                      exfalso; omega
                    · skip
                      refine lv_iload hx hb dX13_setsWord_127 (lv_at hl 3 rfl) ?_
                      refine z_if_ne (tgt := 134) hx hb dX13_setsWord_129 (by decide) (by omega) (fun c_14 => ?_) (fun c_14 => ?_)
                      · skip
                        refine lv_iload hx hb dX13_setsWord_134 (lv_at hl 1 rfl) ?_
                        refine z_if_le (tgt := 153) hx hb dX13_setsWord_136 (by decide) (by decide) (fun c_15 => ?_) (fun c_15 => ?_)
                        · skip
                          refine lv_iload hx hb dX13_setsWord_153 (lv_at hl 1 rfl) ?_
                          refine z_if_le (tgt := 181) hx hb dX13_setsWord_155 (by decide) (by decide) (fun c_16 => ?_) (fun c_16 => ?_)
                          · skip
                            refine lv_iload hx hb dX13_setsWord_181 (lv_at hl 1 rfl) ?_
                            refine lv_iload hx hb dX13_setsWord_183 (lv_at hl 5 rfl) ?_
                            refine z_icmp_ge (tgt := 198) hx hb dX13_setsWord_185 (by decide) (by decide) (by omega) (fun c_17 => ?_) (fun c_17 => ?_)
                            · skip
                              exfalso; omega
                            · skip
                              refine lv_aload_n hx hb dX13_setsWord_188 rfl (lv_at hl 6 rfl) ?_
                              refine lv_aload_n hx hb dX13_setsWord_189 rfl (lv_at hl 6 rfl) ?_
                              refine m_get hC hZ 12 (x := .int (iI (v2 12))) rfl (by decide) ql_X13_147 rfl dX13_setsWord_190 ?_
                              have hr_18 : -2147483648 ≤ v2 12 ∧ v2 12 ≤ 2147483647 := hw.1 12
                              refine z_iconst hx hb dX13_setsWord_193 ?_
                              refine z_iadd hx hb dX13_setsWord_194 ?_
                              refine z_callv (z_runV (rest := []) (As := [.int (iI ((v2 12) + 1))]) (n := 1) (ci := 16) hC hZ (met_X13_begins l D cs A m0 ad v2 g2 ((v2 12) + 1)  hD hw (by omega)) gv_X13_158 hd_X13_begins rfl mW_o rfl hl rfl (Nat.le_of_ble_eq_true rfl) ⟨Nat.le_of_ble_eq_true rfl, Nat.le_of_ble_eq_true rfl⟩ ⟨Nat.le_of_ble_eq_true rfl, Nat.le_of_ble_eq_true rfl⟩ dX13_setsWord_195) hZ (fun _ H locs hp_19 hZ => ?_)
                              obtain ⟨_, _, rfl, hok_20, rfl, rfl⟩ := hp_19
                              refine lv_goto (tgt := 11) hx hb dX13_setsWord_198 (by decide) ?_
                              exact ih11  (upN v2 12 ((v2 12) + 1)) (upG (upG g2 10 (upI (g2 10) ((v2 12) + 1) 0)) 11 (upI (g2 11) ((v2 12) + 1) 0)) (st.1 ++ [st.2], []) fr hmu (fun k hk => by rw [upN_n hk]; exact hi11_0 k hk) (fun j h1 h2 h3 => by rw [upG_n h3, upG_n h2]; exact hi11_1 j h1 h2 h3) hgo hlk hmm hok_20 _ _ hZ ls (lv_sub hl [4, 5, 6, 7, 8, 9] rfl)
                          · skip
                            exfalso; omega
                        · skip
                          exfalso; omega
                      · skip
                        exfalso; omega
                  · skip
                    have hc0 : zcut wd fr (zroom y st.2) (wd.length - 1) ≠ 0 := by omega
                    have hst : zstep y wd fr st = some (zcut wd fr (zroom y st.2) (wd.length - 1), st.1 ++ [lnPut st.2 ((wd.drop fr).take (zcut wd fr (zroom y st.2) (wd.length - 1) - fr)) ++ [45]], []) := by unfold zstep; rw [if_neg hnof, if_pos hc0]
                    have hcp := zcut_p wd fr (zroom y st.2) hc0
                    generalize zcut wd fr (zroom y st.2) (wd.length - 1) = zc at hst hcp hc0 hzc
                    obtain rfl : t = (zc : Int) := hzc
                    obtain ⟨hgo, hmu0, hlk⟩ := zgo_next hwd hi11_2 hfr hlo hst
                    have hmu := Nat.lt_of_lt_of_le hmu0 (Nat.le_of_lt_succ hfu11)
                    refine lv_iload hx hb dX13_setsWord_122 (lv_at hl 1 rfl) ?_
                    refine z_if_ne (tgt := 134) hx hb dX13_setsWord_124 (by decide) (by omega) (fun c_21 => ?_) (fun c_21 => ?_)
                    · skip
                      refine lv_iload hx hb dX13_setsWord_134 (lv_at hl 1 rfl) ?_
                      refine z_if_le (tgt := 153) hx hb dX13_setsWord_136 (by decide) (by omega) (fun c_22 => ?_) (fun c_22 => ?_)
                      · skip
                        exfalso; omega
                      · skip
                        refine lv_aload_n hx hb dX13_setsWord_139 rfl (lv_at hl 6 rfl) ?_
                        refine lv_iload_n hx hb dX13_setsWord_140 rfl (lv_at hl 7 rfl) ?_
                        refine lv_iload_n hx hb dX13_setsWord_141 rfl (lv_at hl 8 rfl) ?_
                        refine lv_iload hx hb dX13_setsWord_142 (lv_at hl 4 rfl) ?_
                        refine lv_iload hx hb dX13_setsWord_144 (lv_at hl 1 rfl) ?_
                        have hpp : (wd.drop (fr : Int).toNat).take ((zc : Int) - (fr : Int)).toNat = (wd.drop fr).take (zc - fr) := by
                          rw [Int.toNat_natCast, show ((zc : Int) - (fr : Int)).toNat = zc - fr by omega]
                        refine z_callv (z_runV (rest := []) (As := [.int (iI a), .int (iI b), .int (iI (fr : Int)), .int (iI (zc : Int))]) (n := 4) (ci := 16) hC hZ (met_X13_putsPart l D cs A m0 ad v2 g2 a b (fr : Int) (zc : Int) wd st.2 hD hw (by omega) (by omega) hwd (by rw [e0]; exact hln) (by rw [e0]; exact hlt) (by omega) (by omega) hi11_4.2.2.1 hl10 (by rw [hpp]; exact Int.le_trans (zroom_le (by rw [List.length_take, List.length_drop]; omega)) hy0.2)) gv_X13_154 hd_X13_putsPart rfl mW_o rfl hl rfl (Nat.le_of_ble_eq_true rfl) ⟨Nat.le_of_ble_eq_true rfl, Nat.le_of_ble_eq_true rfl⟩ ⟨Nat.le_of_ble_eq_true rfl, Nat.le_of_ble_eq_true rfl⟩ dX13_setsWord_146) hZ (fun _ H locs hp_23 hZ => ?_)
                        obtain ⟨_, g_25, rfl, hok_24, rfl, hpo, hpl, hpk, hp10⟩ := hp_23
                        rw [hpp] at hpl hp10
                        have h20 : ∀ x ∈ st.1, (x.length : Int) ≤ 20 := fun x hx => Int.le_trans (hlo.2.2.2.1 x hx) hy0.2
                        have hm1 := mLn_put hi11_4 h20 hpl hpk hp10 hpo (put45 (n := fr) (k := zc - fr) hwd hi11_4.2.2.2.2.2)
                        have hmm := mLn_cut hm1 h20
                        have hg10 := hm1.2.2.2.1
                        dsimp only at hg10
                        have hzl : ((lnPut st.2 ((wd.drop fr).take (zc - fr))).length : Int) ≤ 19 := by
                          have := lnPut_len st.2 ((wd.drop fr).take (zc - fr))
                          have h3 : ((wd.drop fr).take (zc - fr)).length = zc - fr := by rw [List.length_take, List.length_drop]; omega
                          rw [h3] at this
                          have h4 := hcp.2.2.1
                          unfold zroom at h4
                          split at this <;> simp_all <;> omega
                        refine lv_iload hx hb dX13_setsWord_149 (lv_at hl 1 rfl) ?_
                        refine lv_istore (lv' := [(5, .int (iI (zc : Int))), (9, .int (iI k)), (8, .int (iI (zc : Int))), (7, .int (iI (zroom y st.2))), (6, .int (iI (st.2.length : Int))), (4, .int (iI (wd.length : Int))), (0, .ref m0), (1, .int (iI a)), (2, .int (iI b)), (3, .int (iI y))]) hx hb dX13_setsWord_151 hl (by decide) rfl (fun ls hl => ?_)
                        refine lv_iload hx hb dX13_setsWord_153 (lv_at hl 2 rfl) ?_
                        refine z_if_le (tgt := 181) hx hb dX13_setsWord_155 (by decide) (by omega) (fun c_26 => ?_) (fun c_26 => ?_)
                        · skip
                          exfalso; omega
                        · skip
                          refine lv_iload hx hb dX13_setsWord_158 (lv_at hl 2 rfl) ?_
                          refine lv_iload hx hb dX13_setsWord_160 (lv_at hl 5 rfl) ?_
                          refine z_icmp_ge (tgt := 181) hx hb dX13_setsWord_162 (by decide) (by omega) (by omega) (fun c_27 => ?_) (fun c_27 => ?_)
                          · skip
                            exfalso; omega
                          · skip
                            refine lv_aload_n hx hb dX13_setsWord_165 rfl (lv_at hl 6 rfl) ?_
                            refine z_bipush hx hb dX13_setsWord_166 (by decide) ?_
                            refine z_callv (z_runV (rest := []) (As := [.int (iI 45)]) (n := 1) (ci := 16) hC hZ (met_X13_puts l D cs A m0 ad v2 g_25 45  hD hok_24 (by decide) (by omega) (by omega)) gv_X13_150 hd_X13_puts rfl mW_o rfl hl rfl (Nat.le_of_ble_eq_true rfl) ⟨Nat.le_of_ble_eq_true rfl, Nat.le_of_ble_eq_true rfl⟩ ⟨Nat.le_of_ble_eq_true rfl, Nat.le_of_ble_eq_true rfl⟩ dX13_setsWord_168) hZ (fun _ H locs hp_28 hZ => ?_)
                            obtain ⟨_, _, rfl, hok_29, rfl, rfl⟩ := hp_28
                            refine lv_aload_n hx hb dX13_setsWord_171 rfl (lv_at hl 6 rfl) ?_
                            refine m_get hC hZ 11 (x := .ref (ad 11)) rfl (by decide) ql_X13_32 rfl dX13_setsWord_172 ?_
                            refine lv_aload_n hx hb dX13_setsWord_175 rfl (lv_at hl 6 rfl) ?_
                            refine m_get hC hZ 12 (x := .int (iI (v2 12))) rfl (by decide) ql_X13_147 rfl dX13_setsWord_176 ?_
                            have hr_30 : -2147483648 ≤ v2 12 ∧ v2 12 ≤ 2147483647 := hok_29.1 12
                            refine z_iconst hx hb dX13_setsWord_179 ?_
                            refine m_zast hC hZ hD 11 (by decide) (f := g_25 11) rfl rfl (by show _ ∧ _ < (200 : Int); omega) (by decide) (by decide) dX13_setsWord_180 (fun H locs hZ => ?_)
                            have hok_31 := hok_29.g (k := 11) (i := (v2 12)) (x := 1) (f := g_25 11) rfl (by decide)
                            refine lv_iload hx hb dX13_setsWord_181 (lv_at hl 2 rfl) ?_
                            refine lv_iload hx hb dX13_setsWord_183 (lv_at hl 5 rfl) ?_
                            refine z_icmp_ge (tgt := 198) hx hb dX13_setsWord_185 (by decide) (by omega) (by omega) (fun c_32 => ?_) (fun c_32 => ?_)
                            · skip
                              exfalso; omega
                            · skip
                              refine lv_aload_n hx hb dX13_setsWord_188 rfl (lv_at hl 6 rfl) ?_
                              refine lv_aload_n hx hb dX13_setsWord_189 rfl (lv_at hl 6 rfl) ?_
                              refine m_get hC hZ 12 (x := .int (iI (v2 12))) rfl (by decide) ql_X13_147 rfl dX13_setsWord_190 ?_
                              have hr_33 : -2147483648 ≤ v2 12 ∧ v2 12 ≤ 2147483647 := hok_31.1 12
                              refine z_iconst hx hb dX13_setsWord_193 ?_
                              refine z_iadd hx hb dX13_setsWord_194 ?_
                              refine z_callv (z_runV (rest := []) (As := [.int (iI ((v2 12) + 1))]) (n := 1) (ci := 16) hC hZ (met_X13_begins l D cs A m0 ad v2 (upG (upG (upG g_25 9 (upI (g_25 9) (20 * (v2 12) + (g_25 10) (v2 12)) 45)) 10 (upI (g_25 10) (v2 12) ((g_25 10) (v2 12) + 1))) 11 (upI (g_25 11) (v2 12) 1)) ((v2 12) + 1)  hD hok_31 (by omega)) gv_X13_158 hd_X13_begins rfl mW_o rfl hl rfl (Nat.le_of_ble_eq_true rfl) ⟨Nat.le_of_ble_eq_true rfl, Nat.le_of_ble_eq_true rfl⟩ ⟨Nat.le_of_ble_eq_true rfl, Nat.le_of_ble_eq_true rfl⟩ dX13_setsWord_195) hZ (fun _ H locs hp_34 hZ => ?_)
                              obtain ⟨_, _, rfl, hok_35, rfl, rfl⟩ := hp_34
                              refine lv_goto (tgt := 11) hx hb dX13_setsWord_198 (by decide) ?_
                              exact ih11  (upN v2 12 ((v2 12) + 1)) (upG (upG (upG (upG (upG g_25 9 (upI (g_25 9) (20 * (v2 12) + (g_25 10) (v2 12)) 45)) 10 (upI (g_25 10) (v2 12) ((g_25 10) (v2 12) + 1))) 11 (upI (g_25 11) (v2 12) 1)) 10 (upI (upI (g_25 10) (v2 12) ((g_25 10) (v2 12) + 1)) ((v2 12) + 1) 0)) 11 (upI (upI (g_25 11) (v2 12) 1) ((v2 12) + 1) 0)) (st.1 ++ [lnPut st.2 ((wd.drop fr).take (zc - fr)) ++ [45]], []) zc hmu (fun k hk => by rw [upN_n hk]; exact hi11_0 k hk) (fun j h1 h2 h3 => by rw [upG_n h3, upG_n h2, upG_n h3, upG_n h2, upG_n h1]; exact (hpo j h1 h2).trans (hi11_1 j h1 h2 h3)) hgo hlk hmm hok_35 _ _ hZ ls (lv_sub hl [0, 5, 6, 7, 8, 9] rfl)
                    · skip
                      exfalso; omega
                · skip
                  refine lv_iload hx hb dX13_setsWord_77 (lv_at hl 0 rfl) ?_
                  refine lv_iload hx hb dX13_setsWord_79 (lv_at hl 5 rfl) ?_
                  refine z_icmp_ge (tgt := 122) hx hb dX13_setsWord_81 (by decide) (by omega) (by omega) (fun c_36 => ?_) (fun c_36 => ?_)
                  · skip
                    have hzc : t = zcut wd fr (zroom y st.2) (wd.length - 1) := by rw [hi70_2]; congr 2; omega
                    have hcs : (t = 0 ∧ st.2 = []) ∨ (t = 0 ∧ st.2 ≠ []) ∨ t ≠ 0 := by by_cases q : t = 0 <;> by_cases z : st.2 = [] <;> simp [q, z]
                    rcases hcs with ⟨ht0, he⟩ | ⟨ht0, he⟩ | ht0
                    · skip
                      have hst : zstep y wd fr st = none := by unfold zstep; rw [if_neg hnof, if_neg (by omega), if_pos he]
                      have hT : zset y wd 24 0 st0 = none := by
                        rcases hstp with ⟨_, h⟩ | ⟨f, s', h, _⟩
                        · exact h
                        · rw [hst] at h; cases h
                      have hle : (st.2.length : Int) = 0 := by rw [he]; rfl
                      subst ht0
                      refine lv_iload hx hb dX13_setsWord_122 (lv_at hl 1 rfl) ?_
                      refine z_if_ne (tgt := 134) hx hb dX13_setsWord_124 (by decide) (by decide) (fun c_37 => ?_) (fun c_37 => ?_)
                      · skip
                        exfalso; omega
                      · skip
                        refine lv_iload hx hb dX13_setsWord_127 (lv_at hl 3 rfl) ?_
                        refine z_if_ne (tgt := 134) hx hb dX13_setsWord_129 (by decide) (by omega) (fun c_38 => ?_) (fun c_38 => ?_)
                        · skip
                          exfalso; omega
                        · skip
                          refine z_iconst hx hb dX13_setsWord_132 ?_
                          exact z_zret hC hr hlk hZ rfl (by decide) (by decide) (⟨_, _, rfl, hw, hi11_0, hi11_1, Or.inl ⟨hT, rfl⟩⟩) dX13_setsWord_133
                    · skip
                      have hst : zstep y wd fr st = some (fr, st.1 ++ [st.2], []) := by unfold zstep; rw [if_neg hnof, if_neg (by omega), if_neg he]
                      obtain ⟨hgo, hmu0, hlk⟩ := zgo_next hwd hi11_2 hfr hlo hst
                      have hmu := Nat.lt_of_lt_of_le hmu0 (Nat.le_of_lt_succ hfu11)
                      have hmm := mLn_new hi11_4
                      have hne : (st.2.length : Int) ≠ 0 := fun q => he (List.eq_nil_of_length_eq_zero (by omega))
                      subst ht0
                      refine lv_iload hx hb dX13_setsWord_122 (lv_at hl 1 rfl) ?_
                      refine z_if_ne (tgt := 134) hx hb dX13_setsWord_124 (by decide) (by decide) (fun c_39 => ?_) (fun c_39 => ?_)
                      · skip
                        exfalso; omega
                      · skip
                        refine lv_iload hx hb dX13_setsWord_127 (lv_at hl 3 rfl) ?_
                        refine z_if_ne (tgt := 134) hx hb dX13_setsWord_129 (by decide) (by omega) (fun c_40 => ?_) (fun c_40 => ?_)
                        · skip
                          refine lv_iload hx hb dX13_setsWord_134 (lv_at hl 1 rfl) ?_
                          refine z_if_le (tgt := 153) hx hb dX13_setsWord_136 (by decide) (by decide) (fun c_41 => ?_) (fun c_41 => ?_)
                          · skip
                            refine lv_iload hx hb dX13_setsWord_153 (lv_at hl 1 rfl) ?_
                            refine z_if_le (tgt := 181) hx hb dX13_setsWord_155 (by decide) (by decide) (fun c_42 => ?_) (fun c_42 => ?_)
                            · skip
                              refine lv_iload hx hb dX13_setsWord_181 (lv_at hl 1 rfl) ?_
                              refine lv_iload hx hb dX13_setsWord_183 (lv_at hl 5 rfl) ?_
                              refine z_icmp_ge (tgt := 198) hx hb dX13_setsWord_185 (by decide) (by decide) (by omega) (fun c_43 => ?_) (fun c_43 => ?_)
                              · skip
                                exfalso; omega
                              · skip
                                refine lv_aload_n hx hb dX13_setsWord_188 rfl (lv_at hl 6 rfl) ?_
                                refine lv_aload_n hx hb dX13_setsWord_189 rfl (lv_at hl 6 rfl) ?_
                                refine m_get hC hZ 12 (x := .int (iI (v2 12))) rfl (by decide) ql_X13_147 rfl dX13_setsWord_190 ?_
                                have hr_44 : -2147483648 ≤ v2 12 ∧ v2 12 ≤ 2147483647 := hw.1 12
                                refine z_iconst hx hb dX13_setsWord_193 ?_
                                refine z_iadd hx hb dX13_setsWord_194 ?_
                                refine z_callv (z_runV (rest := []) (As := [.int (iI ((v2 12) + 1))]) (n := 1) (ci := 16) hC hZ (met_X13_begins l D cs A m0 ad v2 g2 ((v2 12) + 1)  hD hw (by omega)) gv_X13_158 hd_X13_begins rfl mW_o rfl hl rfl (Nat.le_of_ble_eq_true rfl) ⟨Nat.le_of_ble_eq_true rfl, Nat.le_of_ble_eq_true rfl⟩ ⟨Nat.le_of_ble_eq_true rfl, Nat.le_of_ble_eq_true rfl⟩ dX13_setsWord_195) hZ (fun _ H locs hp_45 hZ => ?_)
                                obtain ⟨_, _, rfl, hok_46, rfl, rfl⟩ := hp_45
                                refine lv_goto (tgt := 11) hx hb dX13_setsWord_198 (by decide) ?_
                                exact ih11  (upN v2 12 ((v2 12) + 1)) (upG (upG g2 10 (upI (g2 10) ((v2 12) + 1) 0)) 11 (upI (g2 11) ((v2 12) + 1) 0)) (st.1 ++ [st.2], []) fr hmu (fun k hk => by rw [upN_n hk]; exact hi11_0 k hk) (fun j h1 h2 h3 => by rw [upG_n h3, upG_n h2]; exact hi11_1 j h1 h2 h3) hgo hlk hmm hok_46 _ _ hZ ls (lv_sub hl [4, 5, 6, 7, 8, 9] rfl)
                            · skip
                              exfalso; omega
                          · skip
                            exfalso; omega
                        · skip
                          exfalso; omega
                    · skip
                      have hc0 : zcut wd fr (zroom y st.2) (wd.length - 1) ≠ 0 := by omega
                      have hst : zstep y wd fr st = some (zcut wd fr (zroom y st.2) (wd.length - 1), st.1 ++ [lnPut st.2 ((wd.drop fr).take (zcut wd fr (zroom y st.2) (wd.length - 1) - fr)) ++ [45]], []) := by unfold zstep; rw [if_neg hnof, if_pos hc0]
                      have hcp := zcut_p wd fr (zroom y st.2) hc0
                      generalize zcut wd fr (zroom y st.2) (wd.length - 1) = zc at hst hcp hc0 hzc
                      obtain rfl : t = (zc : Int) := hzc
                      obtain ⟨hgo, hmu0, hlk⟩ := zgo_next hwd hi11_2 hfr hlo hst
                      have hmu := Nat.lt_of_lt_of_le hmu0 (Nat.le_of_lt_succ hfu11)
                      refine lv_iload hx hb dX13_setsWord_122 (lv_at hl 1 rfl) ?_
                      refine z_if_ne (tgt := 134) hx hb dX13_setsWord_124 (by decide) (by omega) (fun c_47 => ?_) (fun c_47 => ?_)
                      · skip
                        refine lv_iload hx hb dX13_setsWord_134 (lv_at hl 1 rfl) ?_
                        refine z_if_le (tgt := 153) hx hb dX13_setsWord_136 (by decide) (by omega) (fun c_48 => ?_) (fun c_48 => ?_)
                        · skip
                          exfalso; omega
                        · skip
                          refine lv_aload_n hx hb dX13_setsWord_139 rfl (lv_at hl 6 rfl) ?_
                          refine lv_iload_n hx hb dX13_setsWord_140 rfl (lv_at hl 7 rfl) ?_
                          refine lv_iload_n hx hb dX13_setsWord_141 rfl (lv_at hl 8 rfl) ?_
                          refine lv_iload hx hb dX13_setsWord_142 (lv_at hl 4 rfl) ?_
                          refine lv_iload hx hb dX13_setsWord_144 (lv_at hl 1 rfl) ?_
                          have hpp : (wd.drop (fr : Int).toNat).take ((zc : Int) - (fr : Int)).toNat = (wd.drop fr).take (zc - fr) := by
                            rw [Int.toNat_natCast, show ((zc : Int) - (fr : Int)).toNat = zc - fr by omega]
                          refine z_callv (z_runV (rest := []) (As := [.int (iI a), .int (iI b), .int (iI (fr : Int)), .int (iI (zc : Int))]) (n := 4) (ci := 16) hC hZ (met_X13_putsPart l D cs A m0 ad v2 g2 a b (fr : Int) (zc : Int) wd st.2 hD hw (by omega) (by omega) hwd (by rw [e0]; exact hln) (by rw [e0]; exact hlt) (by omega) (by omega) hi11_4.2.2.1 hl10 (by rw [hpp]; exact Int.le_trans (zroom_le (by rw [List.length_take, List.length_drop]; omega)) hy0.2)) gv_X13_154 hd_X13_putsPart rfl mW_o rfl hl rfl (Nat.le_of_ble_eq_true rfl) ⟨Nat.le_of_ble_eq_true rfl, Nat.le_of_ble_eq_true rfl⟩ ⟨Nat.le_of_ble_eq_true rfl, Nat.le_of_ble_eq_true rfl⟩ dX13_setsWord_146) hZ (fun _ H locs hp_49 hZ => ?_)
                          obtain ⟨_, g_51, rfl, hok_50, rfl, hpo, hpl, hpk, hp10⟩ := hp_49
                          rw [hpp] at hpl hp10
                          have h20 : ∀ x ∈ st.1, (x.length : Int) ≤ 20 := fun x hx => Int.le_trans (hlo.2.2.2.1 x hx) hy0.2
                          have hm1 := mLn_put hi11_4 h20 hpl hpk hp10 hpo (put45 (n := fr) (k := zc - fr) hwd hi11_4.2.2.2.2.2)
                          have hmm := mLn_cut hm1 h20
                          have hg10 := hm1.2.2.2.1
                          dsimp only at hg10
                          have hzl : ((lnPut st.2 ((wd.drop fr).take (zc - fr))).length : Int) ≤ 19 := by
                            have := lnPut_len st.2 ((wd.drop fr).take (zc - fr))
                            have h3 : ((wd.drop fr).take (zc - fr)).length = zc - fr := by rw [List.length_take, List.length_drop]; omega
                            rw [h3] at this
                            have h4 := hcp.2.2.1
                            unfold zroom at h4
                            split at this <;> simp_all <;> omega
                          refine lv_iload hx hb dX13_setsWord_149 (lv_at hl 1 rfl) ?_
                          refine lv_istore (lv' := [(5, .int (iI (zc : Int))), (9, .int (iI k)), (8, .int (iI (zc : Int))), (7, .int (iI (zroom y st.2))), (6, .int (iI (st.2.length : Int))), (4, .int (iI (wd.length : Int))), (0, .ref m0), (1, .int (iI a)), (2, .int (iI b)), (3, .int (iI y))]) hx hb dX13_setsWord_151 hl (by decide) rfl (fun ls hl => ?_)
                          refine lv_iload hx hb dX13_setsWord_153 (lv_at hl 2 rfl) ?_
                          refine z_if_le (tgt := 181) hx hb dX13_setsWord_155 (by decide) (by omega) (fun c_52 => ?_) (fun c_52 => ?_)
                          · skip
                            exfalso; omega
                          · skip
                            refine lv_iload hx hb dX13_setsWord_158 (lv_at hl 2 rfl) ?_
                            refine lv_iload hx hb dX13_setsWord_160 (lv_at hl 5 rfl) ?_
                            refine z_icmp_ge (tgt := 181) hx hb dX13_setsWord_162 (by decide) (by omega) (by omega) (fun c_53 => ?_) (fun c_53 => ?_)
                            · skip
                              exfalso; omega
                            · skip
                              refine lv_aload_n hx hb dX13_setsWord_165 rfl (lv_at hl 6 rfl) ?_
                              refine z_bipush hx hb dX13_setsWord_166 (by decide) ?_
                              refine z_callv (z_runV (rest := []) (As := [.int (iI 45)]) (n := 1) (ci := 16) hC hZ (met_X13_puts l D cs A m0 ad v2 g_51 45  hD hok_50 (by decide) (by omega) (by omega)) gv_X13_150 hd_X13_puts rfl mW_o rfl hl rfl (Nat.le_of_ble_eq_true rfl) ⟨Nat.le_of_ble_eq_true rfl, Nat.le_of_ble_eq_true rfl⟩ ⟨Nat.le_of_ble_eq_true rfl, Nat.le_of_ble_eq_true rfl⟩ dX13_setsWord_168) hZ (fun _ H locs hp_54 hZ => ?_)
                              obtain ⟨_, _, rfl, hok_55, rfl, rfl⟩ := hp_54
                              refine lv_aload_n hx hb dX13_setsWord_171 rfl (lv_at hl 6 rfl) ?_
                              refine m_get hC hZ 11 (x := .ref (ad 11)) rfl (by decide) ql_X13_32 rfl dX13_setsWord_172 ?_
                              refine lv_aload_n hx hb dX13_setsWord_175 rfl (lv_at hl 6 rfl) ?_
                              refine m_get hC hZ 12 (x := .int (iI (v2 12))) rfl (by decide) ql_X13_147 rfl dX13_setsWord_176 ?_
                              have hr_56 : -2147483648 ≤ v2 12 ∧ v2 12 ≤ 2147483647 := hok_55.1 12
                              refine z_iconst hx hb dX13_setsWord_179 ?_
                              refine m_zast hC hZ hD 11 (by decide) (f := g_51 11) rfl rfl (by show _ ∧ _ < (200 : Int); omega) (by decide) (by decide) dX13_setsWord_180 (fun H locs hZ => ?_)
                              have hok_57 := hok_55.g (k := 11) (i := (v2 12)) (x := 1) (f := g_51 11) rfl (by decide)
                              refine lv_iload hx hb dX13_setsWord_181 (lv_at hl 2 rfl) ?_
                              refine lv_iload hx hb dX13_setsWord_183 (lv_at hl 5 rfl) ?_
                              refine z_icmp_ge (tgt := 198) hx hb dX13_setsWord_185 (by decide) (by omega) (by omega) (fun c_58 => ?_) (fun c_58 => ?_)
                              · skip
                                exfalso; omega
                              · skip
                                refine lv_aload_n hx hb dX13_setsWord_188 rfl (lv_at hl 6 rfl) ?_
                                refine lv_aload_n hx hb dX13_setsWord_189 rfl (lv_at hl 6 rfl) ?_
                                refine m_get hC hZ 12 (x := .int (iI (v2 12))) rfl (by decide) ql_X13_147 rfl dX13_setsWord_190 ?_
                                have hr_59 : -2147483648 ≤ v2 12 ∧ v2 12 ≤ 2147483647 := hok_57.1 12
                                refine z_iconst hx hb dX13_setsWord_193 ?_
                                refine z_iadd hx hb dX13_setsWord_194 ?_
                                refine z_callv (z_runV (rest := []) (As := [.int (iI ((v2 12) + 1))]) (n := 1) (ci := 16) hC hZ (met_X13_begins l D cs A m0 ad v2 (upG (upG (upG g_51 9 (upI (g_51 9) (20 * (v2 12) + (g_51 10) (v2 12)) 45)) 10 (upI (g_51 10) (v2 12) ((g_51 10) (v2 12) + 1))) 11 (upI (g_51 11) (v2 12) 1)) ((v2 12) + 1)  hD hok_57 (by omega)) gv_X13_158 hd_X13_begins rfl mW_o rfl hl rfl (Nat.le_of_ble_eq_true rfl) ⟨Nat.le_of_ble_eq_true rfl, Nat.le_of_ble_eq_true rfl⟩ ⟨Nat.le_of_ble_eq_true rfl, Nat.le_of_ble_eq_true rfl⟩ dX13_setsWord_195) hZ (fun _ H locs hp_60 hZ => ?_)
                                obtain ⟨_, _, rfl, hok_61, rfl, rfl⟩ := hp_60
                                refine lv_goto (tgt := 11) hx hb dX13_setsWord_198 (by decide) ?_
                                exact ih11  (upN v2 12 ((v2 12) + 1)) (upG (upG (upG (upG (upG g_51 9 (upI (g_51 9) (20 * (v2 12) + (g_51 10) (v2 12)) 45)) 10 (upI (g_51 10) (v2 12) ((g_51 10) (v2 12) + 1))) 11 (upI (g_51 11) (v2 12) 1)) 10 (upI (upI (g_51 10) (v2 12) ((g_51 10) (v2 12) + 1)) ((v2 12) + 1) 0)) 11 (upI (upI (g_51 11) (v2 12) 1) ((v2 12) + 1) 0)) (st.1 ++ [lnPut st.2 ((wd.drop fr).take (zc - fr)) ++ [45]], []) zc hmu (fun k hk => by rw [upN_n hk]; exact hi11_0 k hk) (fun j h1 h2 h3 => by rw [upG_n h3, upG_n h2, upG_n h3, upG_n h2, upG_n h1]; exact (hpo j h1 h2).trans (hi11_1 j h1 h2 h3)) hgo hlk hmm hok_61 _ _ hZ ls (lv_sub hl [0, 5, 6, 7, 8, 9] rfl)
                      · skip
                        exfalso; omega
                  · skip
                    refine lv_aload_n hx hb dX13_setsWord_84 rfl (lv_at hl 6 rfl) ?_
                    refine lv_iload_n hx hb dX13_setsWord_85 rfl (lv_at hl 7 rfl) ?_
                    refine lv_iload_n hx hb dX13_setsWord_86 rfl (lv_at hl 8 rfl) ?_
                    refine lv_iload hx hb dX13_setsWord_87 (lv_at hl 0 rfl) ?_
                    refine z_calli (z_runV (rest := []) (As := [.int (iI a), .int (iI b), .int (iI k)]) (n := 3) (ci := 16) hC hZ (met_X13_divides l D cs A m0 ad v2 g2 a b k wd hD hw (by omega) (by omega) (by omega) hwd (by rw [e0]; exact hln) (by rw [e0]; exact hlt)) gv_X13_144 hd_X13_divides rfl mW_o rfl hl rfl (Nat.le_of_ble_eq_true rfl) ⟨Nat.le_of_ble_eq_true rfl, Nat.le_of_ble_eq_true rfl⟩ ⟨Nat.le_of_ble_eq_true rfl, Nat.le_of_ble_eq_true rfl⟩ dX13_setsWord_89) hZ (fun r89 _ H locs hp_62 hZ => ?_)
                    obtain ⟨_, _, rfl, _, rfl, rfl, hp_62⟩ := hp_62
                    have hdv := hp_62
                    refine z_if_eq (tgt := 112) hx hb dX13_setsWord_92 (by decide) (by omega) (fun c_63 => ?_) (fun c_63 => ?_)
                    · skip
                      refine lv_iload hx hb dX13_setsWord_112 (lv_at hl 1 rfl) ?_
                      refine lv_istore (lv' := [(8, .int (iI t)), (9, .int (iI k)), (7, .int (iI (zroom y st.2))), (6, .int (iI (st.2.length : Int))), (5, .int (iI (fr : Int))), (4, .int (iI (wd.length : Int))), (0, .ref m0), (1, .int (iI a)), (2, .int (iI b)), (3, .int (iI y))]) hx hb dX13_setsWord_114 hl (by decide) rfl (fun ls hl => ?_)
                      refine z_iinc (lv' := [(9, .int (iI (k + 1))), (8, .int (iI t)), (7, .int (iI (zroom y st.2))), (6, .int (iI (st.2.length : Int))), (5, .int (iI (fr : Int))), (4, .int (iI (wd.length : Int))), (0, .ref m0), (1, .int (iI a)), (2, .int (iI b)), (3, .int (iI y))]) hx hb dX13_setsWord_116 hl (k := 1) rfl (by decide) rfl (fun ls hl => ?_)
                      refine lv_goto (tgt := 70) hx hb dX13_setsWord_119 (by decide) ?_
                      exact ih70 t (k + 1)  (by omega) (by omega) (by omega) (by have hzs := zcut_s (wd := wd) (fr := fr) (room := zroom y st.2) (at_ := k) (by omega) (by omega); rw [show k + 1 - 1 = k by omega]; rcases hzs with ⟨z1, z2⟩ | ⟨z1, z2⟩ <;> first | (rw [z2]; done) | (rw [z2]; omega) | (exfalso; rcases hdv with ⟨y1, y2⟩ | ⟨y1, y2⟩ <;> first | omega | exact z1 ⟨by omega, y1⟩ | exact y1 z1.2))  _ _ hZ ls (lv_sub hl [0, 1, 2, 3, 4, 5, 6, 7, 8, 9] rfl)
                    · skip
                      refine lv_iload hx hb dX13_setsWord_95 (lv_at hl 0 rfl) ?_
                      refine lv_iload hx hb dX13_setsWord_97 (lv_at hl 4 rfl) ?_
                      refine z_isub hx hb dX13_setsWord_99 ?_
                      refine z_iconst hx hb dX13_setsWord_100 ?_
                      refine z_iadd hx hb dX13_setsWord_101 ?_
                      refine lv_iload hx hb dX13_setsWord_102 (lv_at hl 2 rfl) ?_
                      refine z_icmp_gt (tgt := 112) hx hb dX13_setsWord_104 (by decide) (by omega) (by omega) (fun c_64 => ?_) (fun c_64 => ?_)
                      · skip
                        refine lv_iload hx hb dX13_setsWord_112 (lv_at hl 1 rfl) ?_
                        refine lv_istore (lv' := [(8, .int (iI t)), (9, .int (iI k)), (7, .int (iI (zroom y st.2))), (6, .int (iI (st.2.length : Int))), (5, .int (iI (fr : Int))), (4, .int (iI (wd.length : Int))), (0, .ref m0), (1, .int (iI a)), (2, .int (iI b)), (3, .int (iI y))]) hx hb dX13_setsWord_114 hl (by decide) rfl (fun ls hl => ?_)
                        refine z_iinc (lv' := [(9, .int (iI (k + 1))), (8, .int (iI t)), (7, .int (iI (zroom y st.2))), (6, .int (iI (st.2.length : Int))), (5, .int (iI (fr : Int))), (4, .int (iI (wd.length : Int))), (0, .ref m0), (1, .int (iI a)), (2, .int (iI b)), (3, .int (iI y))]) hx hb dX13_setsWord_116 hl (k := 1) rfl (by decide) rfl (fun ls hl => ?_)
                        refine lv_goto (tgt := 70) hx hb dX13_setsWord_119 (by decide) ?_
                        exact ih70 t (k + 1)  (by omega) (by omega) (by omega) (by have hzs := zcut_s (wd := wd) (fr := fr) (room := zroom y st.2) (at_ := k) (by omega) (by omega); rw [show k + 1 - 1 = k by omega]; rcases hzs with ⟨z1, z2⟩ | ⟨z1, z2⟩ <;> first | (rw [z2]; done) | (rw [z2]; omega) | (exfalso; rcases hdv with ⟨y1, y2⟩ | ⟨y1, y2⟩ <;> first | omega | exact z1 ⟨by omega, y1⟩ | exact y1 z1.2))  _ _ hZ ls (lv_sub hl [0, 1, 2, 3, 4, 5, 6, 7, 8, 9] rfl)
                      · skip
                        refine lv_iload hx hb dX13_setsWord_107 (lv_at hl 0 rfl) ?_
                        refine lv_goto (tgt := 114) hx hb dX13_setsWord_109 (by decide) ?_
                        refine lv_istore (lv' := [(8, .int (iI k)), (9, .int (iI k)), (7, .int (iI (zroom y st.2))), (6, .int (iI (st.2.length : Int))), (5, .int (iI (fr : Int))), (4, .int (iI (wd.length : Int))), (0, .ref m0), (1, .int (iI a)), (2, .int (iI b)), (3, .int (iI y))]) hx hb dX13_setsWord_114 hl (by decide) rfl (fun ls hl => ?_)
                        refine z_iinc (lv' := [(9, .int (iI (k + 1))), (8, .int (iI k)), (7, .int (iI (zroom y st.2))), (6, .int (iI (st.2.length : Int))), (5, .int (iI (fr : Int))), (4, .int (iI (wd.length : Int))), (0, .ref m0), (1, .int (iI a)), (2, .int (iI b)), (3, .int (iI y))]) hx hb dX13_setsWord_116 hl (k := 1) rfl (by decide) rfl (fun ls hl => ?_)
                        refine lv_goto (tgt := 70) hx hb dX13_setsWord_119 (by decide) ?_
                        exact ih70 k (k + 1)  (by omega) (by omega) (by omega) (by have hzs := zcut_s (wd := wd) (fr := fr) (room := zroom y st.2) (at_ := k) (by omega) (by omega); rw [show k + 1 - 1 = k by omega]; rcases hzs with ⟨z1, z2⟩ | ⟨z1, z2⟩ <;> first | (rw [z2]; done) | (rw [z2]; omega) | (exfalso; rcases hdv with ⟨y1, y2⟩ | ⟨y1, y2⟩ <;> first | omega | exact z1 ⟨by omega, y1⟩ | exact y1 z1.2))  _ _ hZ ls (lv_sub hl [0, 1, 2, 3, 4, 5, 6, 7, 8, 9] rfl)
            exact L70_k_9 _ 0 ((fr : Int) + 1)  (Nat.lt_succ_self _) (by omega) (by omega) (by rw [zcut_start _ _ _ _ (by omega)]; rfl)  _ _ hZ ls (lv_sub hl [0, 1, 2, 3, 4, 5, 6, 7, 8, 9] rfl)
          · skip
            have hfits : (wd.length : Int) - fr ≤ zroom y st.2 := by omega
            refine lv_iload hx hb dX13_setsWord_56 (lv_at hl 3 rfl) ?_
            refine lv_goto (tgt := 62) hx hb dX13_setsWord_58 (by decide) ?_
            refine lv_istore (lv' := [(8, .int (iI (wd.length : Int))), (7, .int (iI (zroom y st.2))), (6, .int (iI (st.2.length : Int))), (5, .int (iI (fr : Int))), (4, .int (iI (wd.length : Int))), (0, .ref m0), (1, .int (iI a)), (2, .int (iI b)), (3, .int (iI y))]) hx hb dX13_setsWord_62 hl (by decide) rfl (fun ls hl => ?_)
            refine lv_iload hx hb dX13_setsWord_64 (lv_at hl 3 rfl) ?_
            refine z_iconst hx hb dX13_setsWord_66 ?_
            refine z_iadd hx hb dX13_setsWord_67 ?_
            refine lv_istore (lv' := [(9, .int (iI ((fr : Int) + 1))), (8, .int (iI (wd.length : Int))), (7, .int (iI (zroom y st.2))), (6, .int (iI (st.2.length : Int))), (5, .int (iI (fr : Int))), (4, .int (iI (wd.length : Int))), (0, .ref m0), (1, .int (iI a)), (2, .int (iI b)), (3, .int (iI y))]) hx hb dX13_setsWord_68 hl (by decide) rfl (fun ls hl => ?_)
            refine lv_iload hx hb dX13_setsWord_70 (lv_at hl 1 rfl) ?_
            refine lv_iload hx hb dX13_setsWord_72 (lv_at hl 5 rfl) ?_
            refine z_icmp_ge (tgt := 122) hx hb dX13_setsWord_74 (by decide) (by omega) (by omega) (fun c_65 => ?_) (fun c_65 => ?_)
            · skip
              refine lv_iload hx hb dX13_setsWord_122 (lv_at hl 1 rfl) ?_
              refine z_if_ne (tgt := 134) hx hb dX13_setsWord_124 (by decide) (by omega) (fun c_66 => ?_) (fun c_66 => ?_)
              · skip
                refine lv_iload hx hb dX13_setsWord_134 (lv_at hl 1 rfl) ?_
                refine z_if_le (tgt := 153) hx hb dX13_setsWord_136 (by decide) (by omega) (fun c_67 => ?_) (fun c_67 => ?_)
                · skip
                  exfalso; omega
                · skip
                  refine lv_aload_n hx hb dX13_setsWord_139 rfl (lv_at hl 6 rfl) ?_
                  refine lv_iload_n hx hb dX13_setsWord_140 rfl (lv_at hl 7 rfl) ?_
                  refine lv_iload_n hx hb dX13_setsWord_141 rfl (lv_at hl 8 rfl) ?_
                  refine lv_iload hx hb dX13_setsWord_142 (lv_at hl 4 rfl) ?_
                  refine lv_iload hx hb dX13_setsWord_144 (lv_at hl 1 rfl) ?_
                  have hpp : (wd.drop (fr : Int).toNat).take ((wd.length : Int) - (fr : Int)).toNat = wd.drop fr := by
                    rw [Int.toNat_natCast, List.take_of_length_le (by rw [List.length_drop]; omega)]
                  refine z_callv (z_runV (rest := []) (As := [.int (iI a), .int (iI b), .int (iI (fr : Int)), .int (iI (wd.length : Int))]) (n := 4) (ci := 16) hC hZ (met_X13_putsPart l D cs A m0 ad v2 g2 a b (fr : Int) (wd.length : Int) wd st.2 hD hw (by omega) (by omega) hwd (by rw [e0]; exact hln) (by rw [e0]; exact hlt) (by omega) (by omega) hi11_4.2.2.1 hl10 (by rw [hpp]; exact Int.le_trans (zroom_le (by rw [List.length_drop]; omega)) hy0.2)) gv_X13_154 hd_X13_putsPart rfl mW_o rfl hl rfl (Nat.le_of_ble_eq_true rfl) ⟨Nat.le_of_ble_eq_true rfl, Nat.le_of_ble_eq_true rfl⟩ ⟨Nat.le_of_ble_eq_true rfl, Nat.le_of_ble_eq_true rfl⟩ dX13_setsWord_146) hZ (fun _ H locs hp_68 hZ => ?_)
                  obtain ⟨_, g_70, rfl, hok_69, rfl, hpo, hpl, hpk, hp10⟩ := hp_68
                  rw [hpp] at hpl hp10
                  have hst : zstep y wd fr st = some (wd.length, st.1, lnPut st.2 (wd.drop fr)) := by unfold zstep; rw [if_pos hfits]
                  obtain ⟨hgo, hmu0, hlk⟩ := zgo_next hwd hi11_2 hfr hlo hst
                  have hmu := Nat.lt_of_lt_of_le hmu0 (Nat.le_of_lt_succ hfu11)
                  have h20 : ∀ x ∈ st.1, (x.length : Int) ≤ 20 := fun x hx => Int.le_trans (hlo.2.2.2.1 x hx) hy0.2
                  have hmm := mLn_put hi11_4 h20 hpl hpk hp10 hpo (by have := put45 (n := fr) (k := wd.length - fr) hwd hi11_4.2.2.2.2.2; rw [List.take_of_length_le (by rw [List.length_drop]; omega)] at this; exact this)
                  refine lv_iload hx hb dX13_setsWord_149 (lv_at hl 1 rfl) ?_
                  refine lv_istore (lv' := [(5, .int (iI (wd.length : Int))), (9, .int (iI ((fr : Int) + 1))), (8, .int (iI (wd.length : Int))), (7, .int (iI (zroom y st.2))), (6, .int (iI (st.2.length : Int))), (4, .int (iI (wd.length : Int))), (0, .ref m0), (1, .int (iI a)), (2, .int (iI b)), (3, .int (iI y))]) hx hb dX13_setsWord_151 hl (by decide) rfl (fun ls hl => ?_)
                  refine lv_iload hx hb dX13_setsWord_153 (lv_at hl 2 rfl) ?_
                  refine z_if_le (tgt := 181) hx hb dX13_setsWord_155 (by decide) (by omega) (fun c_71 => ?_) (fun c_71 => ?_)
                  · skip
                    exfalso; omega
                  · skip
                    refine lv_iload hx hb dX13_setsWord_158 (lv_at hl 2 rfl) ?_
                    refine lv_iload hx hb dX13_setsWord_160 (lv_at hl 5 rfl) ?_
                    refine z_icmp_ge (tgt := 181) hx hb dX13_setsWord_162 (by decide) (by omega) (by omega) (fun c_72 => ?_) (fun c_72 => ?_)
                    · skip
                      refine lv_iload hx hb dX13_setsWord_181 (lv_at hl 2 rfl) ?_
                      refine lv_iload hx hb dX13_setsWord_183 (lv_at hl 5 rfl) ?_
                      refine z_icmp_ge (tgt := 198) hx hb dX13_setsWord_185 (by decide) (by omega) (by omega) (fun c_73 => ?_) (fun c_73 => ?_)
                      · skip
                        refine lv_goto (tgt := 11) hx hb dX13_setsWord_198 (by decide) ?_
                        exact ih11  v2 g_70 (st.1, lnPut st.2 (wd.drop fr)) wd.length hmu hi11_0 (fun j h1 h2 h3 => (hpo j h1 h2).trans (hi11_1 j h1 h2 h3)) hgo hlk hmm hok_69 _ _ hZ ls (lv_sub hl [0, 5, 6, 7, 8, 9] rfl)
                      · skip
                        exfalso; omega
                    · skip
                      exfalso; omega
              · skip
                exfalso; omega
            · skip
              exfalso; omega
        refine lv_iload hx hb dX13_setsWord_29 (lv_at hl 0 rfl) ?_
        refine z_if_ne (tgt := 38) hx hb dX13_setsWord_31 (by decide) (by omega) (fun c_74 => ?_) (fun c_74 => ?_)
        · skip
          refine lv_iload_n hx hb dX13_setsWord_38 rfl (lv_at hl 6 rfl) ?_
          refine lv_iload hx hb dX13_setsWord_39 (lv_at hl 0 rfl) ?_
          refine z_isub hx hb dX13_setsWord_41 ?_
          refine z_iconst hx hb dX13_setsWord_42 ?_
          refine z_isub hx hb dX13_setsWord_43 ?_
          refine z_top (y := zroom y st.2) (by unfold zroom; rw [if_neg (fun q => by have h0 : st.2.length = 0 := (by rw [q]; rfl); omega)]) ?_
          exact J44_k_7      _ _ hZ ls (lv_sub hl [0, 1, 2, 3, 4, 5, 6] rfl)
        · skip
          refine lv_iload_n hx hb dX13_setsWord_34 rfl (lv_at hl 6 rfl) ?_
          refine lv_goto (tgt := 44) hx hb dX13_setsWord_35 (by decide) ?_
          refine z_top (y := zroom y st.2) (by unfold zroom; rw [if_pos (List.eq_nil_of_length_eq_zero (by omega))]) ?_
          exact J44_k_7      _ _ hZ ls (lv_sub hl [0, 1, 2, 3, 4, 5, 6] rfl)
  exact L11_k_3 _  v g st0 0 (Nat.lt_succ_self _) (fun _ _ => rfl) (fun _ _ _ _ => rfl) ⟨by omega, fun _ => ⟨24, rfl, by unfold zmu; split <;> omega⟩, fun q => absurd q (by omega)⟩ (fun _ => ⟨by omega, fun _ => ⟨rfl, hl0⟩, Or.inl rfl, hl1, hl2⟩) hm hok _ _ hZ ls (lv_sub hl [0, 1, 2, 3, 4, 5] rfl)

