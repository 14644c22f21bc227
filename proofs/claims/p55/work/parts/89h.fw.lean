/-! even breaking from the first word: the least of all ways is the same -/
def pfs (ls : List Int) (k : Nat) : Int := (ls.take k).sum
theorem pfs_s {ls : List Int} {k : Nat} (h : k < ls.length) : pfs ls (k + 1) = pfs ls k + ls.getD k 0 := by
  unfold pfs
  rw [List.take_add_one, List.getElem?_eq_getElem h, List.getD_eq_getElem?_getD, List.getElem?_eq_getElem h, List.sum_append]
  simp only [Option.toList_some, List.sum_cons, List.sum_nil, Int.add_zero, Option.getD_some]
theorem pfs_mono {ls : List Int} (hn : ∀ l ∈ ls, 0 ≤ l) {a : Nat} : ∀ d : Nat, pfs ls a ≤ pfs ls (a + d)
  | 0 => Int.le_refl _
  | d + 1 => by
    refine Int.le_trans (pfs_mono hn d) ?_
    by_cases h : a + d < ls.length
    · rw [show a + (d + 1) = (a + d) + 1 by omega, pfs_s h]
      have := hn _ (List.getElem_mem h)
      rw [List.getD_eq_getElem?_getD, List.getElem?_eq_getElem h]
      simp only [Option.getD_some]
      omega
    · unfold pfs
      rw [List.take_of_length_le (by omega), List.take_of_length_le (by omega)]
      exact Int.le_refl _
/-- the line of the words i to before j -/
def lnL (ls : List Int) (i j : Nat) : Int := pfs ls j - pfs ls i + (j : Int) - (i : Int) - 1
def lnC (w : Int) (ls : List Int) (i j : Nat) : Int := if j = ls.length then 0 else (w - lnL ls i j) * (w - lnL ls i j)
theorem lnL_r {ls : List Int} {i k : Nat} (h : k < ls.length) : lnL ls i (k + 1) = lnL ls i k + ls.getD k 0 + 1 := by
  unfold lnL
  rw [pfs_s h]
  omega
theorem lnL_l {ls : List Int} {k j : Nat} (h : k < ls.length) : lnL ls k j = lnL ls (k + 1) j + ls.getD k 0 + 1 := by
  unfold lnL
  rw [pfs_s h]
  omega
theorem lnL_i (ls : List Int) (i : Nat) : lnL ls i i = -1 := by unfold lnL; omega
theorem lnL_mj {ls : List Int} (hn : ∀ l ∈ ls, 0 ≤ l) {i a b : Nat} (h : a ≤ b) : lnL ls i a ≤ lnL ls i b := by
  have := pfs_mono hn (a := a) (b - a)
  rw [show a + (b - a) = b by omega] at this
  unfold lnL
  omega
theorem lnL_mi {ls : List Int} (hn : ∀ l ∈ ls, 0 ≤ l) {j a b : Nat} (h : a ≤ b) : lnL ls b j ≤ lnL ls a j := by
  have := pfs_mono hn (a := a) (b - a)
  rw [show a + (b - a) = b by omega] at this
  unfold lnL
  omega
theorem drop_c {ls : List Int} {k : Nat} (h : k < ls.length) : ls.drop k = ls.getD k 0 :: ls.drop (k + 1) := by
  rw [List.drop_eq_getElem_cons h, List.getD_eq_getElem?_getD, List.getElem?_eq_getElem h]
  rfl
theorem lnC_e {w : Int} {ls : List Int} {i k : Nat} (h : k < ls.length) : (if ls.drop (k + 1) = [] then 0 else (w - (lnL ls i k + ls.getD k 0 + 1)) * (w - (lnL ls i k + ls.getD k 0 + 1))) = lnC w ls i (k + 1) := by
  unfold lnC
  rw [lnL_r h]
  by_cases q : k + 1 = ls.length
  · rw [if_pos (List.drop_eq_nil_iff.mpr (by omega)), if_pos q]
  · rw [if_neg (fun z => by have := List.drop_eq_nil_iff.mp z; omega), if_neg q]
theorem zsc_lo {w : Int} {ls : List Int} (hn : ∀ l ∈ ls, 0 ≤ l) {i : Nat} : ∀ (m k : Nat) (b : Int), m + k = ls.length → ∀ j, k < j → j ≤ ls.length → lnL ls i j ≤ w → zsc w (lnL ls i k) b (ls.drop k) ≤ lnC w ls i j + zlb w (ls.drop j)
  | 0, k, b, hm, j, h1, h2, _ => by omega
  | m + 1, k, b, hm, j, h1, h2, h3 => by
    have hk : k < ls.length := by omega
    have hl := lnL_mj hn (i := i) (a := k + 1) (b := j) (by omega)
    rw [drop_c hk]
    unfold zsc
    rw [lnC_e hk, ← lnL_r (i := i) hk, if_pos (by omega)]
    by_cases q : j = k + 1
    · subst q
      exact Int.le_trans (zsc_le _ _ _ _) (Int.min_le_right _ _)
    · exact zsc_lo hn m (k + 1) _ (by omega) j (by omega) h2 h3
theorem zsc_at {w : Int} {ls : List Int} {i : Nat} : ∀ (m k : Nat) (b : Int), m + k = ls.length → zsc w (lnL ls i k) b (ls.drop k) = b ∨ ∃ j, k < j ∧ j ≤ ls.length ∧ lnL ls i j ≤ w ∧ zsc w (lnL ls i k) b (ls.drop k) = lnC w ls i j + zlb w (ls.drop j)
  | 0, k, b, hm => by
    left
    rw [List.drop_of_length_le (by omega)]
    rfl
  | m + 1, k, b, hm => by
    have hk : k < ls.length := by omega
    rw [drop_c hk]
    unfold zsc
    rw [lnC_e hk, ← lnL_r (i := i) hk]
    by_cases q : lnL ls i (k + 1) ≤ w
    · rw [if_pos q]
      rcases zsc_at (w := w) (ls := ls) (i := i) m (k + 1) (min b (lnC w ls i (k + 1) + zlb w (ls.drop (k + 1)))) (by omega) with h | ⟨j, h1, h2, h3, h4⟩
      · rw [h]
        by_cases c : b ≤ lnC w ls i (k + 1) + zlb w (ls.drop (k + 1))
        · left; exact Int.min_eq_left c
        · right; exact ⟨k + 1, by omega, by omega, q, Int.min_eq_right (by omega)⟩
      · right; exact ⟨j, by omega, h2, h3, h4⟩
    · rw [if_neg q]
      exact Or.inl rfl
/-- r is the least of the ways to j by one more line, behind the least of each place before -/
def fwO (w : Int) (ls : List Int) (e : Nat → Int) (j : Nat) (r : Int) : Prop := (∀ i, i < j → lnL ls i j ≤ w → r ≤ lnC w ls i j + e i) ∧ ∃ i, i < j ∧ lnL ls i j ≤ w ∧ r = lnC w ls i j + e i
def fwP (w : Int) (ls : List Int) (e : Nat → Int) (k j : Nat) (b : Int) : Prop := (∀ i, k ≤ i → i < j → b ≤ lnC w ls i j + e i) ∧ ((k = j ∧ b = 1000000) ∨ ∃ i, k ≤ i ∧ i < j ∧ lnL ls i j ≤ w ∧ b = lnC w ls i j + e i)
theorem fwO_cong {w : Int} {ls : List Int} {e e' : Nat → Int} {j : Nat} {r : Int} (h : fwO w ls e j r) (he : ∀ i, i < j → e' i = e i) : fwO w ls e' j r := by
  obtain ⟨h1, i, h2, h3, h4⟩ := h
  exact ⟨fun i hi hl => by rw [he i hi]; exact h1 i hi hl, i, h2, h3, by rw [he i h2]; exact h4⟩
theorem fwP_s {w : Int} {ls : List Int} {e : Nat → Int} {k j : Nat} {b r : Int} (h : fwP w ls e (k + 1) j b) (hk : k < j) (hl : lnL ls k j ≤ w) (hr : (b < lnC w ls k j + e k ∧ r = b) ∨ (¬ b < lnC w ls k j + e k ∧ r = lnC w ls k j + e k)) (hm : lnC w ls k j + e k < 1000000) : fwP w ls e k j r := by
  obtain ⟨h1, h2⟩ := h
  refine ⟨fun i hi hj => ?_, ?_⟩
  · by_cases q : i = k
    · subst q; omega
    · have := h1 i (by omega) hj
      omega
  · right
    rcases hr with ⟨q, e1⟩ | ⟨q, e1⟩
    · rcases h2 with ⟨-, z⟩ | ⟨i, z1, z2, z3, z4⟩
      · omega
      · exact ⟨i, by omega, z2, z3, by rw [e1]; exact z4⟩
    · exact ⟨k, Nat.le_refl _, hk, hl, e1⟩
theorem fwP_e {w : Int} {ls : List Int} {e : Nat → Int} {k j : Nat} {b : Int} (h : fwP w ls e k j b) (hk : k < j) (hx : ∀ i, i < k → ¬ lnL ls i j ≤ w) : fwO w ls e j b := by
  obtain ⟨h1, h2⟩ := h
  refine ⟨fun i hi hl => ?_, ?_⟩
  · by_cases q : i < k
    · exact absurd hl (hx i q)
    · exact h1 i (by omega) hi
  · rcases h2 with ⟨z, -⟩ | ⟨i, z1, z2, z3, z4⟩
    · omega
    · exact ⟨i, z2, z3, z4⟩
theorem zfit_nn {w : Int} {ls : List Int} (hf : zfit w ls) : ∀ l ∈ ls, 0 ≤ l := fun l hl => by have := hf l hl; omega
theorem fw_eq {w : Int} {ls : List Int} (hw : w ≤ 20) (hf : zfit w ls) (h30 : ls.length ≤ 30) {e : Nat → Int} (e0 : e 0 = 0) (he : ∀ j, 1 ≤ j → j ≤ ls.length → fwO w ls e j (e j)) : zlb w ls = e ls.length := by
  have hn := zfit_nn hf
  have blo : ∀ i j, i < j → j ≤ ls.length → lnL ls i j ≤ w → zlb w (ls.drop i) ≤ lnC w ls i j + zlb w (ls.drop j) := fun i j h1 h2 h3 => by
    have z := zsc_lo (w := w) hn (i := i) (ls.length - i) i 1000000 (by omega) j h1 h2 h3
    rw [lnL_i] at z
    have z2 : zlb w (ls.drop i) = zsc w (-1) 1000000 (ls.drop i) := by rw [drop_c (k := i) (by omega), zlb_cons]
    rw [z2]; exact z
  have bat : ∀ i, i < ls.length → ∃ j, i < j ∧ j ≤ ls.length ∧ lnL ls i j ≤ w ∧ zlb w (ls.drop i) = lnC w ls i j + zlb w (ls.drop j) := fun i h1 => by
    have z := zsc_at (w := w) (ls := ls) (i := i) (ls.length - i) i 1000000 (by omega)
    rw [lnL_i] at z
    have z2 : zlb w (ls.drop i) = zsc w (-1) 1000000 (ls.drop i) := by rw [drop_c (k := i) (by omega), zlb_cons]
    rw [← z2] at z
    rcases z with z | z
    · have hb := zlb_bd hw (ls.drop i) (fun x hx => hf x (List.mem_of_mem_drop hx))
      have hl : (ls.drop i).length ≤ 30 := by rw [List.length_drop]; omega
      omega
    · exact z
  have h1 : ∀ n j, j ≤ n → j ≤ ls.length → zlb w ls ≤ e j + zlb w (ls.drop j) := by
    intro n
    induction n with
    | zero =>
      intro j hj _
      have e9 : j = 0 := by omega
      subst e9
      rw [e0, List.drop_zero]
      omega
    | succ n ih =>
      intro j hj hl
      by_cases q : j = 0
      · subst q
        rw [e0, List.drop_zero]
        omega
      · obtain ⟨-, i, z1, z2, z3⟩ := he j (by omega) hl
        have y1 := ih i (by omega) (by omega)
        have y2 := blo i j z1 hl z2
        omega
  have h2 : ∀ m i, m + i = ls.length → e ls.length ≤ e i + zlb w (ls.drop i) := by
    intro m
    induction m using Nat.strongRecOn with
    | _ m ih =>
      intro i hm
      by_cases q : i = ls.length
      · rw [q, List.drop_length, zlb_nil]
        omega
      · obtain ⟨j, z1, z2, z3, z4⟩ := bat i (by omega)
        have y1 := ih (ls.length - j) (by omega) j (by omega)
        have y2 := (he j (by omega) z2).1 i z1 z3
        omega
  have a1 := h1 ls.length ls.length (Nat.le_refl _) (Nat.le_refl _)
  have a2 := h2 ls.length 0 (by omega)
  rw [List.drop_length, zlb_nil] at a1
  rw [e0, List.drop_zero] at a2
  omega
theorem zlens_g {x : zAr} {k : Int} (h0 : 0 ≤ k) (h1 : k < x.2.2.length) : (zlens x).getD k.toNat 0 = ((x.2.2.getD k.toNat []).length : Int) := by
  have hl : k.toNat < x.2.2.length := by omega
  rw [List.getD_eq_getElem?_getD, zlens_at (List.getElem?_eq_getElem hl), List.getD_eq_getElem?_getD, List.getElem?_eq_getElem hl]
  rfl
theorem fwO_bd {wd : Int} (hw : wd ≤ 20) {x : zAr} {e_ : Int → Int} {i r : Int} (hft : zfit wd (zlens x)) (hnn : ∀ l ∈ zlens x, 0 ≤ l) (hi : 1 ≤ i ∧ i ≤ x.2.2.length) (h : fwO wd (zlens x) (fun n => e_ (n : Int)) i.toNat r) (he : ∀ j : Int, 0 ≤ j → j < i → 0 ≤ e_ j ∧ e_ j ≤ 400 * j) : r ≤ 400 * i := by
  have hzl := zlens_l x
  have hk : i.toNat - 1 < (zlens x).length := by omega
  have hl := lnL_l (ls := zlens x) (k := i.toNat - 1) (j := i.toNat) hk
  rw [show i.toNat - 1 + 1 = i.toNat by omega, lnL_i, List.getD_eq_getElem?_getD, List.getElem?_eq_getElem hk] at hl
  simp only [Option.getD_some] at hl
  have hf := hft _ (List.getElem_mem hk)
  have h1 := h.1 (i.toNat - 1) (by omega) (by omega)
  have h2 : r ≤ lnC wd (zlens x) (i.toNat - 1) i.toNat + e_ ((i.toNat - 1 : Nat) : Int) := h1
  have h3 := (he ((i.toNat - 1 : Nat) : Int) (by omega) (by omega)).2
  have h4 := sq_bd (z := wd - lnL (zlens x) (i.toNat - 1) i.toNat) (n := 20) (by omega)
  have h5 : lnC wd (zlens x) (i.toNat - 1) i.toNat ≤ 400 := by
    unfold lnC
    split
    · decide
    · exact h4
  omega
set_option maxHeartbeats 4000000 in
set_option maxRecDepth 100000 in
theorem met_X5_leastBefore (l : Launch) (D : va_G) (cs : Nat → ClassId) (A : Nat → Prop) (F : zF) (a la b : Nat) (x : zAr) (wd : Int) (e_ : Int → Int) (i : Int)  (h0 : F a = some (.inr (9, [.ref la]))) (h1 : F la = some (zA (cs 2) 31 e_)) (hx1 : oAr cs F b x) (hwd : 4 ≤ wd ∧ wd ≤ 20) (hft : zfit wd (zlens x)) (hi0 : 1 ≤ i ∧ i ≤ x.2.2.length) (he : ∀ j : Int, 0 ≤ j → j < i → 0 ≤ e_ j ∧ e_ j ≤ 400 * j) : zM l D cs A yX5_leastBefore cX5_leastBefore 9 (some FieldType.int) 2 0 0 [.ref a, .ref b, .int (iI wd), .int (iI i)] F (pI (fun r F1 => F = F1 ∧ fwO wd (zlens x) (fun n => e_ (n : Int)) i.toNat r ∧ 0 ≤ r ∧ r ≤ 400 * i)) := by
  refine zM_of (own := RX5) (by decide) rfl (Nat.le_of_ble_eq_true rfl) ?_
  intro p e s m below meth c hC hr hlk hnm hZ ls hl
  have hx := hC.x
  have hb := hC.b
  have hl : lv_has ls 9 [(0, .ref a), (1, .ref b), (2, .int (iI wd)), (3, .int (iI i))] := hl
  obtain ⟨wa, y0, hws0, hxo⟩ := id hx1
  obtain ⟨h_, y1, y2⟩ := id hws0
  have hx6 := hxo.2.2.1
  have hnn := zfit_nn hft
  have hzl := zlens_l x
  refine lv_aload_n hx hb dX5_leastBefore_0 rfl (lv_at hl 1 rfl) ?_
  refine z_getN (T := TX1) (N := 3) (ci := 5) (k := 2) (fs := [.int (iI x.1), .int (iI x.2.1), .ref wa]) (v := .ref wa) hC hZ in_X1 rfl (by decide) ql_X5_15 rfl y0 rfl dX5_leastBefore_1 ?_
  refine z_alen (t := 4) hC hZ y1 rfl dX5_leastBefore_4 ?_
  refine z_bipush hx hb dX5_leastBefore_5 (by decide) ?_
  refine z_mmin (rest := []) hC hl qm_X5_21 (by omega) (by decide) ⟨Nat.le_of_ble_eq_true rfl, Nat.le_of_ble_eq_true rfl⟩ ⟨Nat.le_of_ble_eq_true rfl, Nat.le_of_ble_eq_true rfl⟩ dX5_leastBefore_7 (fun r7 hmx7 => ?_)
  refine z_top (y := (x.2.2.length : Int)) (by omega) ?_
  refine lv_istore (lv' := [(4, .int (iI (x.2.2.length : Int))), (0, .ref a), (1, .ref b), (2, .int (iI wd)), (3, .int (iI i))]) hx hb dX5_leastBefore_10 hl (by decide) rfl (fun ls hl => ?_)
  refine z_ldc (z := 1000000) hC q_389 (by decide) dX5_leastBefore_12 ?_
  refine lv_istore (lv' := [(5, .int (iI 1000000)), (4, .int (iI (x.2.2.length : Int))), (0, .ref a), (1, .ref b), (2, .int (iI wd)), (3, .int (iI i))]) hx hb dX5_leastBefore_14 hl (by decide) rfl (fun ls hl => ?_)
  refine z_iconst hx hb dX5_leastBefore_16 ?_
  refine lv_istore (lv' := [(6, .int (iI (-1))), (5, .int (iI 1000000)), (4, .int (iI (x.2.2.length : Int))), (0, .ref a), (1, .ref b), (2, .int (iI wd)), (3, .int (iI i))]) hx hb dX5_leastBefore_17 hl (by decide) rfl (fun ls hl => ?_)
  refine lv_iload_n hx hb dX5_leastBefore_19 rfl (lv_at hl 6 rfl) ?_
  refine z_iconst hx hb dX5_leastBefore_20 ?_
  refine z_isub hx hb dX5_leastBefore_21 ?_
  refine lv_istore (lv' := [(7, .int (iI (i - 1))), (6, .int (iI (-1))), (5, .int (iI 1000000)), (4, .int (iI (x.2.2.length : Int))), (0, .ref a), (1, .ref b), (2, .int (iI wd)), (3, .int (iI i))]) hx hb dX5_leastBefore_22 hl (by decide) rfl (fun ls hl => ?_)
  have L24_k_1 : ∀ (fu : Nat) (bs ln k : Int)  (hfu : (k + 1).toNat < fu) (hi24_0 : -1 ≤ k ∧ k < i) (hi24_1 : -1 ≤ ln ∧ ln ≤ wd) (hi24_2 : 0 ≤ bs ∧ bs ≤ 1000000) (hi24_3 : ln = lnL (zlens x) (k + 1).toNat i.toNat) (hi24_4 : fwP wd (zlens x) (fun n => e_ (n : Int)) (k + 1).toNat i.toNat bs) (H : Heap) (locs : List Loc) (hZ : zS D A s F H locs) (ls : Array Slot) (hl : lv_has ls 9 [(7, .int (iI k)), (6, .int (iI ln)), (5, .int (iI bs)), (4, .int (iI (x.2.2.length : Int))), (0, .ref a), (1, .ref b), (2, .int (iI wd)), (3, .int (iI i))]), W p l e (zR 2 0 0) s m [.ref a, .ref b, .int (iI wd), .int (iI i)].toArray below meth c H locs 0 0 (MQ below (zQ D A (pI (fun r F1 => F = F1 ∧ fwO wd (zlens x) (fun n => e_ (n : Int)) i.toNat r ∧ 0 ≤ r ∧ r ≤ 400 * i))) [.ref a, .ref b, .int (iI wd), .int (iI i)].toArray s 0 0 A) (F0 m 24 ls []) := by
    intro fu
    induction fu with
    | zero =>
      intro bs ln k  hfu
      exact absurd hfu (Nat.not_lt_zero _)
    | succ fu ih24 =>
      intro bs ln k  hfu hi24_0 hi24_1 hi24_2 hi24_3 hi24_4  H locs hZ ls hl
      refine lv_iload hx hb dX5_leastBefore_24 (lv_at hl 0 rfl) ?_
      refine z_if_lt (tgt := 97) hx hb dX5_leastBefore_26 (by decide) (by omega) (fun c_2 => ?_) (fun c_2 => ?_)
      · skip
        have hk9 : (k + 1).toNat = 0 := by omega
        have hfin : fwO wd (zlens x) (fun n => e_ (n : Int)) i.toNat bs := fwP_e hi24_4 (by omega) (fun i9 h9 => by omega)
        refine lv_iload hx hb dX5_leastBefore_97 (lv_at hl 2 rfl) ?_
        exact z_iret hC hr hlk hZ (by decide) (by decide) (⟨rfl, hfin, by omega, fwO_bd hwd.2 hft hnn hi0 hfin he⟩) dX5_leastBefore_99
      · skip
        have hkp : (k + 1).toNat = k.toNat + 1 := by omega
        have hgk := zlens_g (x := x) (k := k) (by omega) (by omega)
        have hlL := lnL_l (ls := zlens x) (k := k.toNat) (j := i.toNat) (by omega)
        rw [hgk, ← hkp, ← hi24_3] at hlL
        have hfl := hft _ (List.getElem_mem (l := zlens x) (n := k.toNat) (by omega))
        refine lv_iload hx hb dX5_leastBefore_29 (lv_at hl 1 rfl) ?_
        refine z_iconst hx hb dX5_leastBefore_31 ?_
        refine lv_aload_n hx hb dX5_leastBefore_32 rfl (lv_at hl 5 rfl) ?_
        refine z_getN (T := TX1) (N := 3) (ci := 5) (k := 2) (fs := [.int (iI x.1), .int (iI x.2.1), .ref wa]) (v := .ref wa) hC hZ in_X1 rfl (by decide) ql_X5_15 rfl y0 rfl dX5_leastBefore_33 ?_
        refine lv_iload hx hb dX5_leastBefore_36 (lv_at hl 0 rfl) ?_
        obtain ⟨q38, hq38, hwd38⟩ := y2 k (by omega) (by omega)
        have hwo38 := ar_w hxo (k := k) (by omega) (by omega)
        have hwl38 := hwo38.1
        refine z_aald (t := 4) (C := "StoneGazette$Word") (v := (some q38)) hC hZ y1 rfl (by omega) (by omega) hq38 dX5_leastBefore_38 ?_
        obtain ⟨fsho_3, ho_3⟩ := (hwd38).o
        refine z_calli (z_runV (rest := [.int (iI 1), .int (iI ln)]) (As := []) (n := 0) (ci := 14) hC hZ (met_X11_letterCount l D cs A F q38 (x.2.2.getD k.toNat []) hwd38) gv_X5_32 hd_X11_letterCount rfl ho_3 rfl hl rfl (Nat.le_of_ble_eq_true rfl) ⟨Nat.le_of_ble_eq_true rfl, Nat.le_of_ble_eq_true rfl⟩ ⟨Nat.le_of_ble_eq_true rfl, Nat.le_of_ble_eq_true rfl⟩ dX5_leastBefore_39) hZ (fun r39 F39 H locs hp39_c_4 hZ => ?_)
        obtain ⟨rfl, rfl⟩ := hp39_c_4
        refine z_iadd hx hb dX5_leastBefore_42 ?_
        refine z_iadd hx hb dX5_leastBefore_43 ?_
        refine z_top (y := ln + ((x.2.2.getD k.toNat []).length : Int) + 1) (by omega) ?_
        refine lv_istore (lv' := [(6, .int (iI (ln + ((x.2.2.getD k.toNat []).length : Int) + 1))), (7, .int (iI k)), (5, .int (iI bs)), (4, .int (iI (x.2.2.length : Int))), (0, .ref a), (1, .ref b), (2, .int (iI wd)), (3, .int (iI i))]) hx hb dX5_leastBefore_44 hl (by decide) rfl (fun ls hl => ?_)
        refine lv_iload hx hb dX5_leastBefore_46 (lv_at hl 0 rfl) ?_
        refine lv_iload_n hx hb dX5_leastBefore_48 rfl (lv_at hl 6 rfl) ?_
        refine z_icmp_le (tgt := 55) hx hb dX5_leastBefore_49 (by decide) (by omega) (by omega) (fun c_5 => ?_) (fun c_5 => ?_)
        · skip
          have hkm : (k + -1 + 1).toNat = k.toNat := by omega
          have hsq := sq_bd (z := wd - (ln + ((x.2.2.getD k.toNat []).length : Int) + 1)) (n := 20) (by omega)
          have hsn := sq_nn (wd - (ln + ((x.2.2.getD k.toNat []).length : Int) + 1))
          have hek := he k (by omega) (by omega)
          have hlk2 : ln + ((x.2.2.getD k.toNat []).length : Int) + 1 = lnL (zlens x) k.toNat i.toNat := hlL.symm
          refine lv_iload_n hx hb dX5_leastBefore_55 rfl (lv_at hl 7 rfl) ?_
          refine lv_iload hx hb dX5_leastBefore_56 (lv_at hl 3 rfl) ?_
          refine z_icmp_ne (tgt := 65) hx hb dX5_leastBefore_58 (by decide) (by omega) (by omega) (fun c_6 => ?_) (fun c_6 => ?_)
          · skip
            have hown : lnC wd (zlens x) k.toNat i.toNat = (wd - (ln + ((x.2.2.getD k.toNat []).length : Int) + 1)) * (wd - (ln + ((x.2.2.getD k.toNat []).length : Int) + 1)) := by rw [hlk2]; exact if_neg (by omega)
            refine lv_iload_n hx hb dX5_leastBefore_65 rfl (lv_at hl 6 rfl) ?_
            refine lv_iload hx hb dX5_leastBefore_66 (lv_at hl 0 rfl) ?_
            refine z_isub hx hb dX5_leastBefore_68 ?_
            refine z_calli (z_runS (rest := []) (As := [.int (iI (wd - (ln + ((x.2.2.getD k.toNat []).length : Int) + 1)))]) (n := 1) hC hZ (met_X5_square l D cs A F (wd - (ln + ((x.2.2.getD k.toNat []).length : Int) + 1)) (by omega)) gs_X5_38 he_X5_square rfl hl rfl (Nat.le_of_ble_eq_true rfl) ⟨Nat.le_of_ble_eq_true rfl, Nat.le_of_ble_eq_true rfl⟩ ⟨Nat.le_of_ble_eq_true rfl, Nat.le_of_ble_eq_true rfl⟩ dX5_leastBefore_69) hZ (fun r69 F69 H locs hp69_c_7 hZ => ?_)
            obtain ⟨rfl, rfl⟩ := hp69_c_7
            refine lv_istore (lv' := [(8, .int (iI ((wd - (ln + ((x.2.2.getD k.toNat []).length : Int) + 1)) * (wd - (ln + ((x.2.2.getD k.toNat []).length : Int) + 1))))), (6, .int (iI (ln + ((x.2.2.getD k.toNat []).length : Int) + 1))), (7, .int (iI k)), (5, .int (iI bs)), (4, .int (iI (x.2.2.length : Int))), (0, .ref a), (1, .ref b), (2, .int (iI wd)), (3, .int (iI i))]) hx hb dX5_leastBefore_72 hl (by decide) rfl (fun ls hl => ?_)
            refine lv_iload hx hb dX5_leastBefore_74 (lv_at hl 3 rfl) ?_
            refine lv_iload hx hb dX5_leastBefore_76 (lv_at hl 0 rfl) ?_
            refine lv_aload_n hx hb dX5_leastBefore_78 rfl (lv_at hl 5 rfl) ?_
            refine z_get (T := TX5) (N := 1) (ci := 9) (k := 0) (fs := [.ref la]) (v := .ref la) hC hZ in_X5 rfl (by decide) ql_X5_9 rfl h0 rfl dX5_leastBefore_79 ?_
            refine lv_iload hx hb dX5_leastBefore_82 (lv_at hl 2 rfl) ?_
            refine z_iald hC hZ h1 (by show _ ∧ _ < (31 : Int); omega) (by decide) dX5_leastBefore_84 ?_
            refine z_iadd hx hb dX5_leastBefore_85 ?_
            refine z_mmin (rest := []) hC hl qm_X5_21 (by omega) (by omega) ⟨Nat.le_of_ble_eq_true rfl, Nat.le_of_ble_eq_true rfl⟩ ⟨Nat.le_of_ble_eq_true rfl, Nat.le_of_ble_eq_true rfl⟩ dX5_leastBefore_86 (fun r86 hmx86 => ?_)
            have hkk9 : ((k.toNat : Nat) : Int) = k := by omega
            have hP9 : fwP wd (zlens x) (fun n => e_ (n : Int)) (k.toNat + 1) i.toNat bs := by rw [← hkp]; exact hi24_4
            have hnx : fwP wd (zlens x) (fun n => e_ (n : Int)) k.toNat i.toNat r86 := fwP_s hP9 (by omega) (by omega) (by show (bs < lnC wd (zlens x) k.toNat i.toNat + e_ ((k.toNat : Nat) : Int) ∧ r86 = bs) ∨ (¬ bs < lnC wd (zlens x) k.toNat i.toNat + e_ ((k.toNat : Nat) : Int) ∧ r86 = lnC wd (zlens x) k.toNat i.toNat + e_ ((k.toNat : Nat) : Int)); rw [hkk9, hown]; omega) (by show lnC wd (zlens x) k.toNat i.toNat + e_ ((k.toNat : Nat) : Int) < 1000000; rw [hkk9, hown]; omega)
            refine lv_istore (lv' := [(5, .int (iI r86)), (8, .int (iI ((wd - (ln + ((x.2.2.getD k.toNat []).length : Int) + 1)) * (wd - (ln + ((x.2.2.getD k.toNat []).length : Int) + 1))))), (6, .int (iI (ln + ((x.2.2.getD k.toNat []).length : Int) + 1))), (7, .int (iI k)), (4, .int (iI (x.2.2.length : Int))), (0, .ref a), (1, .ref b), (2, .int (iI wd)), (3, .int (iI i))]) hx hb dX5_leastBefore_89 hl (by decide) rfl (fun ls hl => ?_)
            refine z_iinc (lv' := [(7, .int (iI (k + (-1)))), (5, .int (iI r86)), (8, .int (iI ((wd - (ln + ((x.2.2.getD k.toNat []).length : Int) + 1)) * (wd - (ln + ((x.2.2.getD k.toNat []).length : Int) + 1))))), (6, .int (iI (ln + ((x.2.2.getD k.toNat []).length : Int) + 1))), (4, .int (iI (x.2.2.length : Int))), (0, .ref a), (1, .ref b), (2, .int (iI wd)), (3, .int (iI i))]) hx hb dX5_leastBefore_91 hl (k := 3) rfl (by decide) rfl (fun ls hl => ?_)
            refine lv_goto (tgt := 24) hx hb dX5_leastBefore_94 (by decide) ?_
            exact ih24 r86 (ln + ((x.2.2.getD k.toNat []).length : Int) + 1) (k + (-1))  (by omega) (by omega) (by omega) (by omega) (by rw [hkm]; exact hlk2) (by rw [hkm]; exact hnx)  _ _ hZ ls (lv_sub hl [0, 3, 1, 4, 5, 6, 7, 8] rfl)
          · skip
            have hown : lnC wd (zlens x) k.toNat i.toNat = 0 := if_pos (by omega)
            refine z_iconst hx hb dX5_leastBefore_61 ?_
            refine lv_goto (tgt := 72) hx hb dX5_leastBefore_62 (by decide) ?_
            refine lv_istore (lv' := [(8, .int (iI 0)), (6, .int (iI (ln + ((x.2.2.getD k.toNat []).length : Int) + 1))), (7, .int (iI k)), (5, .int (iI bs)), (4, .int (iI (x.2.2.length : Int))), (0, .ref a), (1, .ref b), (2, .int (iI wd)), (3, .int (iI i))]) hx hb dX5_leastBefore_72 hl (by decide) rfl (fun ls hl => ?_)
            refine lv_iload hx hb dX5_leastBefore_74 (lv_at hl 3 rfl) ?_
            refine lv_iload hx hb dX5_leastBefore_76 (lv_at hl 0 rfl) ?_
            refine lv_aload_n hx hb dX5_leastBefore_78 rfl (lv_at hl 5 rfl) ?_
            refine z_get (T := TX5) (N := 1) (ci := 9) (k := 0) (fs := [.ref la]) (v := .ref la) hC hZ in_X5 rfl (by decide) ql_X5_9 rfl h0 rfl dX5_leastBefore_79 ?_
            refine lv_iload hx hb dX5_leastBefore_82 (lv_at hl 2 rfl) ?_
            refine z_iald hC hZ h1 (by show _ ∧ _ < (31 : Int); omega) (by decide) dX5_leastBefore_84 ?_
            refine z_iadd hx hb dX5_leastBefore_85 ?_
            refine z_mmin (rest := []) hC hl qm_X5_21 (by omega) (by omega) ⟨Nat.le_of_ble_eq_true rfl, Nat.le_of_ble_eq_true rfl⟩ ⟨Nat.le_of_ble_eq_true rfl, Nat.le_of_ble_eq_true rfl⟩ dX5_leastBefore_86 (fun r86 hmx86 => ?_)
            have hkk9 : ((k.toNat : Nat) : Int) = k := by omega
            have hP9 : fwP wd (zlens x) (fun n => e_ (n : Int)) (k.toNat + 1) i.toNat bs := by rw [← hkp]; exact hi24_4
            have hnx : fwP wd (zlens x) (fun n => e_ (n : Int)) k.toNat i.toNat r86 := fwP_s hP9 (by omega) (by omega) (by show (bs < lnC wd (zlens x) k.toNat i.toNat + e_ ((k.toNat : Nat) : Int) ∧ r86 = bs) ∨ (¬ bs < lnC wd (zlens x) k.toNat i.toNat + e_ ((k.toNat : Nat) : Int) ∧ r86 = lnC wd (zlens x) k.toNat i.toNat + e_ ((k.toNat : Nat) : Int)); rw [hkk9, hown]; omega) (by show lnC wd (zlens x) k.toNat i.toNat + e_ ((k.toNat : Nat) : Int) < 1000000; rw [hkk9, hown]; omega)
            refine lv_istore (lv' := [(5, .int (iI r86)), (8, .int (iI 0)), (6, .int (iI (ln + ((x.2.2.getD k.toNat []).length : Int) + 1))), (7, .int (iI k)), (4, .int (iI (x.2.2.length : Int))), (0, .ref a), (1, .ref b), (2, .int (iI wd)), (3, .int (iI i))]) hx hb dX5_leastBefore_89 hl (by decide) rfl (fun ls hl => ?_)
            refine z_iinc (lv' := [(7, .int (iI (k + (-1)))), (5, .int (iI r86)), (8, .int (iI 0)), (6, .int (iI (ln + ((x.2.2.getD k.toNat []).length : Int) + 1))), (4, .int (iI (x.2.2.length : Int))), (0, .ref a), (1, .ref b), (2, .int (iI wd)), (3, .int (iI i))]) hx hb dX5_leastBefore_91 hl (k := 3) rfl (by decide) rfl (fun ls hl => ?_)
            refine lv_goto (tgt := 24) hx hb dX5_leastBefore_94 (by decide) ?_
            exact ih24 r86 (ln + ((x.2.2.getD k.toNat []).length : Int) + 1) (k + (-1))  (by omega) (by omega) (by omega) (by omega) (by rw [hkm]; exact hlk2) (by rw [hkm]; exact hnx)  _ _ hZ ls (lv_sub hl [0, 3, 1, 4, 5, 6, 7, 8] rfl)
        · skip
          have hkj : (k + 1).toNat < i.toNat := by
            refine Classical.byContradiction fun c9 => ?_
            have e9 : (k + 1).toNat = i.toNat := by omega
            rw [e9, lnL_i] at hi24_3
            have hg9 : (zlens x)[k.toNat]'(by omega) = ((x.2.2.getD k.toNat []).length : Int) := by rw [← hgk, List.getD_eq_getElem?_getD, List.getElem?_eq_getElem (by omega)]; rfl
            rw [hg9] at hfl
            omega
          have hfin : fwO wd (zlens x) (fun n => e_ (n : Int)) i.toNat bs := fwP_e hi24_4 hkj (fun i9 h9 => by have := lnL_mi hnn (j := i.toNat) (a := i9) (b := k.toNat) (by omega); omega)
          refine lv_goto (tgt := 97) hx hb dX5_leastBefore_52 (by decide) ?_
          refine lv_iload hx hb dX5_leastBefore_97 (lv_at hl 2 rfl) ?_
          exact z_iret hC hr hlk hZ (by decide) (by decide) (⟨rfl, hfin, by omega, fwO_bd hwd.2 hft hnn hi0 hfin he⟩) dX5_leastBefore_99
  exact L24_k_1 _ 1000000 (-1) (i - 1)  (Nat.lt_succ_self _) (by omega) (by omega) (by omega) (by rw [show (i - 1 + 1).toNat = i.toNat by omega, lnL_i]) ⟨fun i9 h8 h9 => absurd h9 (by omega), Or.inl ⟨by omega, rfl⟩⟩  _ _ hZ ls (lv_sub hl [0, 1, 2, 3, 4, 5, 6, 7] rfl)

set_option maxHeartbeats 4000000 in
set_option maxRecDepth 100000 in
theorem met_X5_fromFirstWord (l : Launch) (D : va_G) (cs : Nat → ClassId) (A : Nat → Prop) (F : zF) (a la b : Nat) (x : zAr) (wd : Int) (e_ : Int → Int)  (h0 : F a = some (.inr (9, [.ref la]))) (h1 : F la = some (zA (cs 2) 31 e_)) (hx1 : oAr cs F b x) (hwd : 4 ≤ wd ∧ wd ≤ 20) (hft : zfit wd (zlens x)) : zM l D cs A yX5_fromFirstWord cX5_fromFirstWord 5 (some FieldType.int) 3 0 0 [.ref a, .ref b, .int (iI wd)] F (pI (fun r F1 => zko [la] F F1 ∧ (∃ e1 : Int → Int, F1 la = some (zA (cs 2) 31 e1)) ∧ zlb wd (zlens x) = r)) := by
  refine zM_of (own := RX5) (by decide) rfl (Nat.le_of_ble_eq_true rfl) ?_
  intro p e s m below meth c hC hr hlk hnm hZ ls hl
  have hx := hC.x
  have hb := hC.b
  have hl : lv_has ls 5 [(0, .ref a), (1, .ref b), (2, .int (iI wd))] := hl
  obtain ⟨wa, y0, hws0, hxo⟩ := id hx1
  obtain ⟨h_, y1, y2⟩ := id hws0
  have hx6 := hxo.2.2.1
  have hzl := zlens_l x
  have nba : a ≠ la := zne h0 h1 (fun z => by cases z)
  have nbb : b ≠ la := zne y0 h1 (fun z => by cases z)
  have nbw : wa ≠ la := zneR y1 h1
  refine lv_aload_n hx hb dX5_fromFirstWord_0 rfl (lv_at hl 1 rfl) ?_
  refine z_getN (T := TX1) (N := 3) (ci := 5) (k := 2) (fs := [.int (iI x.1), .int (iI x.2.1), .ref wa]) (v := .ref wa) hC hZ in_X1 rfl (by decide) ql_X5_15 rfl y0 rfl dX5_fromFirstWord_1 ?_
  refine z_alen (t := 4) hC hZ y1 rfl dX5_fromFirstWord_4 ?_
  refine z_bipush hx hb dX5_fromFirstWord_5 (by decide) ?_
  refine z_mmin (rest := []) hC hl qm_X5_21 (by omega) (by decide) ⟨Nat.le_of_ble_eq_true rfl, Nat.le_of_ble_eq_true rfl⟩ ⟨Nat.le_of_ble_eq_true rfl, Nat.le_of_ble_eq_true rfl⟩ dX5_fromFirstWord_7 (fun r7 hmx7 => ?_)
  refine z_top (y := (x.2.2.length : Int)) (by omega) ?_
  refine lv_istore_n (lv' := [(3, .int (iI (x.2.2.length : Int))), (0, .ref a), (1, .ref b), (2, .int (iI wd))]) hx hb dX5_fromFirstWord_10 rfl hl (by decide) rfl (fun ls hl => ?_)
  refine lv_aload_n hx hb dX5_fromFirstWord_11 rfl (lv_at hl 1 rfl) ?_
  refine z_get (T := TX5) (N := 1) (ci := 9) (k := 0) (fs := [.ref la]) (v := .ref la) hC hZ in_X5 rfl (by decide) ql_X5_9 rfl h0 rfl dX5_fromFirstWord_12 ?_
  refine z_iconst hx hb dX5_fromFirstWord_15 ?_
  refine z_iconst hx hb dX5_fromFirstWord_16 ?_
  refine z_iast hC hZ h1 (by show _ ∧ _ < (31 : Int); omega) (by decide) dX5_fromFirstWord_17 (fun H locs hZ => ?_)
  have hf_1 : (zup F la (zA (cs 2) 31 (upI e_ 0 0))) a = some (.inr (9, [.ref la])) := zup_k (zne h0 h1 (fun q => by cases q)) h0
  have hf_2 : (zup F la (zA (cs 2) 31 (upI e_ 0 0))) b = some (.inr (5, [.int (iI x.1), .int (iI x.2.1), .ref wa])) := zup_k (zne y0 h1 (fun q => by cases q)) y0
  have hf_3 : (zup F la (zA (cs 2) 31 (upI e_ 0 0))) wa = some (zO (cs 4) x.2.2.length h_) := zup_k (zneR y1 h1) y1
  have hf_4 : (zup F la (zA (cs 2) 31 (upI e_ 0 0))) la = some (zA (cs 2) 31 (upI e_ 0 0)) := zup_s
  replace hZ : zS D A s (zup F la (zA (cs 2) 31 (upI e_ 0 0))) _ _ := hZ
  refine z_iconst hx hb dX5_fromFirstWord_18 ?_
  refine lv_istore (lv' := [(4, .int (iI 1)), (3, .int (iI (x.2.2.length : Int))), (0, .ref a), (1, .ref b), (2, .int (iI wd))]) hx hb dX5_fromFirstWord_19 hl (by decide) rfl (fun ls hl => ?_)
  have L21_k_5 : ∀ (fu : Nat) (k : Int) (F2 : zF) (e2 : Int → Int) (hfu : ((x.2.2.length : Int) + 1 - k).toNat < fu) (hi21_0 : 1 ≤ k ∧ k ≤ (x.2.2.length : Int) + 1) (hi21_1 : zko [la] F F2) (hi21_2 : F2 la = some (zA (cs 2) 31 e2)) (hi21_3 : e2 0 = 0) (hi21_4 : ∀ j : Int, 1 ≤ j → j < k → fwO wd (zlens x) (fun n => e2 (n : Int)) j.toNat (e2 j) ∧ 0 ≤ e2 j ∧ e2 j ≤ 400 * j) (H : Heap) (locs : List Loc) (hZ : zS D A s F2 H locs) (ls : Array Slot) (hl : lv_has ls 5 [(4, .int (iI k)), (3, .int (iI (x.2.2.length : Int))), (0, .ref a), (1, .ref b), (2, .int (iI wd))]), W p l e (zR 3 0 0) s m [.ref a, .ref b, .int (iI wd)].toArray below meth c H locs 0 0 (MQ below (zQ D A (pI (fun r F1 => zko [la] F F1 ∧ (∃ e1 : Int → Int, F1 la = some (zA (cs 2) 31 e1)) ∧ zlb wd (zlens x) = r))) [.ref a, .ref b, .int (iI wd)].toArray s 0 0 A) (F0 m 21 ls []) := by
    intro fu
    induction fu with
    | zero =>
      intro k F2 e2 hfu
      exact absurd hfu (Nat.not_lt_zero _)
    | succ fu ih21 =>
      intro k F2 e2 hfu hi21_0 hi21_1 hi21_2 hi21_3 hi21_4  H locs hZ ls hl
      have g0 : F2 a = _ := hi21_1 _ _ h0 (zni1 nba zni0)
      have g1 : F2 b = _ := hi21_1 _ _ y0 (zni1 nbb zni0)
      have g2 : F2 wa = _ := hi21_1 _ _ y1 (zni1 nbw zni0)
      refine lv_iload hx hb dX5_fromFirstWord_21 (lv_at hl 0 rfl) ?_
      refine lv_iload_n hx hb dX5_fromFirstWord_23 rfl (lv_at hl 1 rfl) ?_
      refine z_icmp_gt (tgt := 48) hx hb dX5_fromFirstWord_24 (by decide) (by omega) (by omega) (fun c_6 => ?_) (fun c_6 => ?_)
      · skip
        have hfin : zlb wd (zlens x) = e2 (x.2.2.length : Int) := by
          have z := fw_eq hwd.2 hft (by omega) (e := fun n => e2 (n : Int)) hi21_3 (fun j j0 j1 => by have := (hi21_4 (j : Int) (by omega) (by omega)).1; rw [Int.toNat_natCast] at this; exact this)
          rw [hzl] at z
          exact z
        refine lv_aload_n hx hb dX5_fromFirstWord_48 rfl (lv_at hl 2 rfl) ?_
        refine z_get (T := TX5) (N := 1) (ci := 9) (k := 0) (fs := [.ref la]) (v := .ref la) hC hZ in_X5 rfl (by decide) ql_X5_9 rfl g0 rfl dX5_fromFirstWord_49 ?_
        refine lv_iload_n hx hb dX5_fromFirstWord_52 rfl (lv_at hl 1 rfl) ?_
        refine z_iald hC hZ hi21_2 (by show _ ∧ _ < (31 : Int); omega) (by decide) dX5_fromFirstWord_53 ?_
        exact z_iret hC hr hlk hZ (by decide) (by decide) (⟨hi21_1, ⟨e2, hi21_2⟩, hfin⟩) dX5_fromFirstWord_54
      · skip
        refine lv_aload_n hx hb dX5_fromFirstWord_27 rfl (lv_at hl 2 rfl) ?_
        refine z_get (T := TX5) (N := 1) (ci := 9) (k := 0) (fs := [.ref la]) (v := .ref la) hC hZ in_X5 rfl (by decide) ql_X5_9 rfl g0 rfl dX5_fromFirstWord_28 ?_
        refine lv_iload hx hb dX5_fromFirstWord_31 (lv_at hl 0 rfl) ?_
        refine lv_aload_n hx hb dX5_fromFirstWord_33 rfl (lv_at hl 2 rfl) ?_
        refine lv_aload_n hx hb dX5_fromFirstWord_34 rfl (lv_at hl 3 rfl) ?_
        refine lv_iload_n hx hb dX5_fromFirstWord_35 rfl (lv_at hl 4 rfl) ?_
        refine lv_iload hx hb dX5_fromFirstWord_36 (lv_at hl 0 rfl) ?_
        refine z_calli (z_runV (rest := [.int (iI k), .ref la]) (As := [.ref b, .int (iI wd), .int (iI k)]) (n := 3) (ci := 9) hC hZ (met_X5_leastBefore l D cs A F2 a la b x wd e2 k g0 hi21_2 (show oAr cs F2 b x from hx1.keepI hi21_1 h1) hwd hft ⟨by omega, by omega⟩ (fun j j0 j1 => by by_cases q : j = 0; (rw [q, hi21_3]; decide); exact (hi21_4 j (by omega) j1).2)) gv_X5_42 hd_X5_leastBefore rfl g0 rfl hl rfl (Nat.le_of_ble_eq_true rfl) ⟨Nat.le_of_ble_eq_true rfl, Nat.le_of_ble_eq_true rfl⟩ ⟨Nat.le_of_ble_eq_true rfl, Nat.le_of_ble_eq_true rfl⟩ dX5_fromFirstWord_38) hZ (fun r38 F38 H locs hp38_c_7 hZ => ?_)
        obtain ⟨rfl, hp38_c_7⟩ := hp38_c_7
        have hr38 := hp38_c_7
        refine z_iast hC hZ hi21_2 (by show _ ∧ _ < (31 : Int); omega) (by decide) dX5_fromFirstWord_41 (fun H locs hZ => ?_)
        have hf_8 : (zup F2 la (zA (cs 2) 31 (upI e2 k r38))) a = some (.inr (9, [.ref la])) := zup_k (zne g0 hi21_2 (fun q => by cases q)) g0
        have hf_9 : (zup F2 la (zA (cs 2) 31 (upI e2 k r38))) b = some (.inr (5, [.int (iI x.1), .int (iI x.2.1), .ref wa])) := zup_k (zne g1 hi21_2 (fun q => by cases q)) g1
        have hf_10 : (zup F2 la (zA (cs 2) 31 (upI e2 k r38))) wa = some (zO (cs 4) x.2.2.length h_) := zup_k (zneR g2 hi21_2) g2
        have hf_11 : (zup F2 la (zA (cs 2) 31 (upI e2 k r38))) la = some (zA (cs 2) 31 (upI e2 k r38)) := zup_s
        replace hZ : zS D A s (zup F2 la (zA (cs 2) 31 (upI e2 k r38))) _ _ := hZ
        have hnx21 : ∀ j : Int, 1 ≤ j → j < k + 1 → fwO wd (zlens x) (fun n => upI e2 k r38 (n : Int)) j.toNat (upI e2 k r38 j) ∧ 0 ≤ upI e2 k r38 j ∧ upI e2 k r38 j ≤ 400 * j := fun j j0 j1 => by
          have hcg : ∀ i9 : Nat, i9 < j.toNat → upI e2 k r38 (i9 : Int) = e2 (i9 : Int) := fun i9 h9 => by unfold upI; exact if_neg (by omega)
          by_cases q : j = k
          · have e9 : upI e2 k r38 j = r38 := if_pos q
            rw [e9, q]
            rw [q] at hcg
            exact ⟨fwO_cong hr38.1 hcg, hr38.2⟩
          · have e9 : upI e2 k r38 j = e2 j := if_neg q
            rw [e9]
            exact ⟨fwO_cong (hi21_4 j j0 (by omega)).1 hcg, (hi21_4 j j0 (by omega)).2⟩
        refine z_iinc (lv' := [(4, .int (iI (k + 1))), (3, .int (iI (x.2.2.length : Int))), (0, .ref a), (1, .ref b), (2, .int (iI wd))]) hx hb dX5_fromFirstWord_42 hl (k := 0) rfl (by decide) rfl (fun ls hl => ?_)
        refine lv_goto (tgt := 21) hx hb dX5_fromFirstWord_45 (by decide) ?_
        exact ih21 (k + 1) (zup F2 la (zA (cs 2) 31 (upI e2 k r38))) (upI e2 k r38) (by omega) (by omega) (hi21_1.up (by simp)) hf_11 (by unfold upI; rw [if_neg (by omega)]; exact hi21_3) hnx21  _ _ hZ ls (lv_sub hl [0, 1, 2, 3, 4] rfl)
  exact L21_k_5 _ 1 (zup F la (zA (cs 2) 31 (upI e_ 0 0))) (upI e_ 0 0) (Nat.lt_succ_self _) (by omega) ((zko.refl : zko [la] F F).up (by simp)) hf_4 (by unfold upI; exact if_pos rfl) (fun j j0 j1 => absurd j0 (by omega))  _ _ hZ ls (lv_sub hl [0, 1, 2, 3, 4] rfl)
