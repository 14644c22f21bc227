/-- the sums of the last d states of the history -/
def hist (f : Int → Int64) (hs : List zCo) (d : Int) : Prop := 0 ≤ d ∧ d ≤ hs.length ∧ ∀ j : Int, 0 ≤ j → j < d → f j = zSum (hs.getD ((hs.length : Int) - d + j).toNat cNew)
theorem hist_0 {f : Int → Int64} {hs : List zCo} : hist f hs 0 := ⟨by decide, by omega, fun j h0 h1 => absurd h1 (by omega)⟩
theorem hist_y {f : Int → Int64} {hs : List zCo} {d : Int} {c : zCo} (h : hist f hs d) (h8 : hs.length ≤ 8) (h7 : d ≤ 7) : hist (upI f d (zSum c)) (pushH hs c) (d + 1) := by
  obtain ⟨h1, h2, h3⟩ := h
  have key : ∀ j : Int, 0 ≤ j → j < d → upI f d (zSum c) j = zSum (hs.getD ((hs.length : Int) - d + j).toNat cNew) := fun j j0 j1 => by
    unfold upI; rw [if_neg (by omega)]; exact h3 j j0 j1
  have last : upI f d (zSum c) d = zSum c := by unfold upI; exact if_pos rfl
  unfold pushH
  by_cases q : hs.length = 8
  · rw [if_pos q]
    have hl : (hs.drop 1 ++ [c]).length = 8 := by rw [List.length_append, List.length_drop]; simp; omega
    refine ⟨by omega, by omega, fun j j0 j1 => ?_⟩
    rw [hl]
    by_cases z : j = d
    · subst z
      rw [last, List.getD_eq_getElem?_getD, List.getElem?_append_right (by rw [List.length_drop]; omega), List.length_drop, show (((8 : Nat) : Int) - (j + 1) + j).toNat - (hs.length - 1) = 0 by omega]
      rfl
    · rw [key j j0 (by omega), List.getD_eq_getElem?_getD, List.getD_eq_getElem?_getD, List.getElem?_append_left (by rw [List.length_drop]; omega), List.getElem?_drop, show 1 + (((8 : Nat) : Int) - (d + 1) + j).toNat = ((hs.length : Int) - d + j).toNat by omega]
  · rw [if_neg q]
    have hl : (hs ++ [c]).length = hs.length + 1 := by simp
    refine ⟨by omega, by omega, fun j j0 j1 => ?_⟩
    rw [hl]
    by_cases z : j = d
    · subst z
      rw [last, List.getD_eq_getElem?_getD, List.getElem?_append_right (by omega), show (((hs.length + 1 : Nat) : Int) - (j + 1) + j).toNat - hs.length = 0 by omega]
      rfl
    · rw [key j j0 (by omega), List.getD_eq_getElem?_getD, List.getD_eq_getElem?_getD, List.getElem?_append_left (by omega), show (((hs.length + 1 : Nat) : Int) - (d + 1) + j).toNat = ((hs.length : Int) - d + j).toNat by omega]
theorem hist_n {f : Int → Int64} {hs : List zCo} {d : Int} {v : Int64} (h : hist f hs d) : hist (upI f d v) hs (d + 0) := by
  obtain ⟨h1, h2, h3⟩ := h
  refine ⟨by omega, by omega, fun j j0 j1 => ?_⟩
  unfold upI
  rw [if_neg (by omega), h3 j j0 (by omega), Int.add_zero]
theorem hist_top {f : Int → Int64} {hs : List zCo} {d : Int} (h : hist f hs d) (h1 : 1 ≤ d) : f (d - 1) = zSum (hs.getD (hs.length - 1) cNew) := by
  have := h.2.2 (d - 1) (by omega) (by omega)
  have hl := h.2.1
  rw [this, show ((hs.length : Int) - d + (d - 1)).toNat = hs.length - 1 by omega]
theorem hist_u {f : Int → Int64} {hs : List zCo} {d : Int} (h : hist f hs d) (h1 : 1 ≤ d) : hist f (hs.eraseIdx (hs.length - 1)) (d - 1) ∧ (hs.eraseIdx (hs.length - 1)).length = hs.length - 1 := by
  obtain ⟨a1, a2, a3⟩ := h
  have hl : (hs.eraseIdx (hs.length - 1)).length = hs.length - 1 := List.length_eraseIdx_of_lt (by omega)
  refine ⟨⟨by omega, by omega, fun j j0 j1 => ?_⟩, hl⟩
  rw [hl, a3 j j0 (by omega), List.getD_eq_getElem?_getD, List.getD_eq_getElem?_getD, List.getElem?_eraseIdx_of_lt (by omega), show (((hs.length - 1 : Nat) : Int) - (d - 1) + j).toNat = ((hs.length : Int) - d + j).toNat by omega]
/-- a change and its answer -/
def opOK (codes : List Int) (c : zCo) (q : Int × zCo × Int) : Prop := (q.1 = 0 ∧ 0 ≤ q.2.2 ∧ q.2.2 ≤ 2000) ∨ (q.1 ≠ 0 ∧ q.2.1 = c ∧ -20 ≤ wq codes (q.1, q.2.2) ∧ wq codes (q.1, q.2.2) < 0)
theorem op_st {codes : List Int} {c : zCo} {q : Int × zCo × Int} {hs : List zCo} (h : opOK codes c q) : (0 ≤ wq codes (q.1, q.2.2) ∧ wq codes (q.1, q.2.2) ≤ 2000 ∧ (if q.1 = 0 then pushH hs c else hs) = pushH hs c) ∨ (-20 ≤ wq codes (q.1, q.2.2) ∧ wq codes (q.1, q.2.2) < 0 ∧ q.2.1 = c ∧ (if q.1 = 0 then pushH hs c else hs) = hs) := by
  rcases h with ⟨h1, h2, h3⟩ | ⟨h1, h2, h3, h4⟩
  · left; rw [if_pos h1, wq_0 h1]; exact ⟨h2, h3, rfl⟩
  · right; rw [if_neg h1]; exact ⟨h3, h4, h2, rfl⟩
theorem op_bad {codes : List Int} {c : zCo} {k : Int} (h : k ≠ 0) (h1 : -20 ≤ wq codes (k, 0)) (h2 : wq codes (k, 0) < 0) : opOK codes c (k, c, 0) := Or.inr ⟨h, rfl, h1, h2⟩
theorem sAdd_o {N : Nat} {c : zCo} {x : Int} {tx : List Int} (hK : cOK N c) (hN : N ≤ 900) : opOK [-1, -2, -3] c (sAdd c x tx) := by
  have h7 := hK.2.2.2.2.2.2.1
  unfold sAdd
  split
  · split
    · exact op_bad (by decide) (by decide) (by decide)
    · split
      · exact Or.inl ⟨rfl, by show 0 ≤ cNi c; omega, by show cNi c ≤ 2000; omega⟩
      · exact op_bad (by decide) (by decide) (by decide)
  · exact op_bad (by decide) (by decide) (by decide)
theorem sRem_o {N : Nat} {c : zCo} {x : Int} (hK : cOK N c) : opOK [-1] c (sRem c x) := by
  have h7 := hK.1
  unfold sRem
  cases hz : zix (cAr c) x with
  | none => exact op_bad (by decide) (by decide) (by decide)
  | some i =>
    obtain ⟨hi, -⟩ := List.findIdx?_eq_some_iff_getElem.mp hz
    exact Or.inl ⟨rfl, by show 0 ≤ ((cAr c).length : Int) - 1; omega, by show ((cAr c).length : Int) - 1 ≤ 2000; omega⟩
theorem sCor_o {N : Nat} {c : zCo} {x z : Int} {tx : List Int} (hK : cOK N c) : opOK [-1, -2, -3] c (sCor c x z tx) := by
  unfold sCor
  cases hz : zix (cAr c) x with
  | none => exact op_bad (by decide) (by decide) (by decide)
  | some i =>
    dsimp only
    cases ha : (cAr c)[i]? with
    | none => exact op_bad (by decide) (by decide) (by decide)
    | some a =>
      dsimp only
      cases hw : zwd a z with
      | none => exact op_bad (by decide) (by decide) (by decide)
      | some wd =>
        dsimp only
        split
        · have := (zwd_OK (hK.2.2.1 a (List.mem_of_getElem? ha)) hw).1
          exact Or.inl ⟨rfl, Int.natCast_nonneg _, by show (wd.length : Int) ≤ 2000; omega⟩
        · exact op_bad (by decide) (by decide) (by decide)
theorem sWid_o {N : Nat} {c : zCo} {x : Int} (hK : cOK N c) : opOK [-1] c (sWid c x) := by
  have h := hK.2.2.2.2.2.2.2.2.1
  unfold sWid
  split
  · exact Or.inl ⟨rfl, by show 0 ≤ cWi c; omega, by show cWi c ≤ 2000; omega⟩
  · exact op_bad (by decide) (by decide) (by decide)
theorem sPag_o {c : zCo} {x y : Int} : opOK [-1] c (sPag c x y) := by
  unfold sPag
  split
  · rename_i h
    have := mul_b h.1 h.2
    exact Or.inl ⟨rfl, by show 0 ≤ x * y; omega, by show x * y ≤ 2000; omega⟩
  · exact op_bad (by decide) (by decide) (by decide)
theorem sPrt_o {N : Nat} {c : zCo} (hK : cOK N c) (hN : N ≤ 100) : opOK [-1] c (sPrt c) := by
  have h := hK.2.2.2.2.2.2.2.1
  unfold sPrt
  split
  · exact op_bad (by decide) (by decide) (by decide)
  · exact Or.inl ⟨rfl, by show 0 ≤ cNn c; omega, by show cNn c ≤ 2000; omega⟩
theorem sDay_o {N : Nat} {c : zCo} {x : Int} (hK : cOK N c) : opOK [-1] c (sDay c x) := by
  have h := hK.2.1
  unfold sDay
  split
  · have h2 : zlost (cDa c) x (cIs c) ≤ (cIs c).length := Int.ofNat_le.mpr List.countP_le_length
    exact Or.inl ⟨rfl, Int.natCast_nonneg _, by show zlost (cDa c) x (cIs c) ≤ 2000; omega⟩
  · exact op_bad (by decide) (by decide) (by decide)
theorem sEx_o {c : zCo} {inp : List Int} (hl : inp.length ≤ 60) : opOK [-1, -2] c (sEx c inp) := by
  unfold sEx sExe
  cases h1 : zparse inp with
  | inl p => exact op_bad (by decide) (by decide) (by decide)
  | inr l =>
    dsimp only
    cases h2 : zrun l c 0 with
    | inl k => exact op_bad (by decide) (by decide) (by decide)
    | inr c2 =>
      have := (zparse_ok hl h1).2
      exact Or.inl ⟨rfl, Int.natCast_nonneg _, by show (l.length : Int) ≤ 2000; omega⟩
/-- a text to which a blank is written is not the longest -/
theorem dKn_m {d k : Int} (hd : 0 ≤ d ∧ d < 134217728) (hk : 1 ≤ k ∧ k ≤ 8) : dKn d k % 12 = dKn (d % 72) k % 12 := by
  have hk2 : k = 1 ∨ k = 2 ∨ k = 3 ∨ k = 4 ∨ k = 5 ∨ k = 6 ∨ k = 7 ∨ k = 8 := by omega
  obtain ⟨q, r, hq, hr⟩ : ∃ q r : Int, d = 72 * q + r ∧ d % 72 = r := ⟨d / 72, d % 72, by omega, rfl⟩
  have hr2 : 0 ≤ r ∧ r < 72 := by omega
  rw [hr]
  unfold dKn
  rcases hk2 with e | e | e | e | e | e | e | e
  · rw [e, show (d * (2 * 1 + 1) + 77 * 1) % 4294967296 = d * 3 + 77 by omega, show (r * (2 * 1 + 1) + 77 * 1) % 4294967296 = r * 3 + 77 by omega, show (d * 3 + 77) / 2 = 12 * (9 * q) + (r * 3 + 77) / 2 by omega]
    omega
  · rw [e, show (d * (2 * 2 + 1) + 77 * 2) % 4294967296 = d * 5 + 154 by omega, show (r * (2 * 2 + 1) + 77 * 2) % 4294967296 = r * 5 + 154 by omega, show (d * 5 + 154) / 2 = 12 * (15 * q) + (r * 5 + 154) / 2 by omega]
    omega
  · rw [e, show (d * (2 * 3 + 1) + 77 * 3) % 4294967296 = d * 7 + 231 by omega, show (r * (2 * 3 + 1) + 77 * 3) % 4294967296 = r * 7 + 231 by omega, show (d * 7 + 231) / 2 = 12 * (21 * q) + (r * 7 + 231) / 2 by omega]
    omega
  · rw [e, show (d * (2 * 4 + 1) + 77 * 4) % 4294967296 = d * 9 + 308 by omega, show (r * (2 * 4 + 1) + 77 * 4) % 4294967296 = r * 9 + 308 by omega, show (d * 9 + 308) / 2 = 12 * (27 * q) + (r * 9 + 308) / 2 by omega]
    omega
  · rw [e, show (d * (2 * 5 + 1) + 77 * 5) % 4294967296 = d * 11 + 385 by omega, show (r * (2 * 5 + 1) + 77 * 5) % 4294967296 = r * 11 + 385 by omega, show (d * 11 + 385) / 2 = 12 * (33 * q) + (r * 11 + 385) / 2 by omega]
    omega
  · rw [e, show (d * (2 * 6 + 1) + 77 * 6) % 4294967296 = d * 13 + 462 by omega, show (r * (2 * 6 + 1) + 77 * 6) % 4294967296 = r * 13 + 462 by omega, show (d * 13 + 462) / 2 = 12 * (39 * q) + (r * 13 + 462) / 2 by omega]
    omega
  · rw [e, show (d * (2 * 7 + 1) + 77 * 7) % 4294967296 = d * 15 + 539 by omega, show (r * (2 * 7 + 1) + 77 * 7) % 4294967296 = r * 15 + 539 by omega, show (d * 15 + 539) / 2 = 12 * (45 * q) + (r * 15 + 539) / 2 by omega]
    omega
  · rw [e, show (d * (2 * 8 + 1) + 77 * 8) % 4294967296 = d * 17 + 616 by omega, show (r * (2 * 8 + 1) + 77 * 8) % 4294967296 = r * 17 + 616 by omega, show (d * 17 + 616) / 2 = 12 * (51 * q) + (r * 17 + 616) / 2 by omega]
    omega
theorem tLs_m {d : Int} (hd : 0 ≤ d ∧ d < 134217728) : ∀ n : Nat, n ≤ 8 → tLs d n = tLs (d % 72) n
  | 0, _ => by unfold tLs; omega
  | n + 1, h => by
    have ih := tLs_m hd n (by omega)
    have e := dKn_m (k := (n : Int) + 1) hd (by omega)
    unfold tLs
    rw [ih, e]
theorem tLs_tab : (List.range 72).all (fun r => (7 * r % 9 != 0 && 7 * r % 9 != 5 && 7 * r % 9 != 1 && 7 * r % 9 != 6) || decide (tLs (r : Int) (r % 9) ≤ 59)) = true := by decide +kernel
theorem tLs_59 {c e : Int} (hc : 0 ≤ c ∧ c ≤ 2147483647) (he : e = c / 16) (h9 : c % 9 = 0) (h4 : c % 4 = 0) : tLs e (e % 9).toNat ≤ 59 := by
  have hr := List.all_eq_true.mp tLs_tab (e % 72).toNat (List.mem_range.mpr (by omega))
  rw [tLs_m (by omega) _ (by omega)]
  rw [Bool.or_eq_true] at hr
  rcases hr with q | q
  · simp only [Bool.and_eq_true, bne_iff_ne] at q
    have hl : c % 16 = 0 ∨ c % 16 = 4 ∨ c % 16 = 8 ∨ c % 16 = 12 := by omega
    have h7 : (7 * (e % 72) + c % 16) % 9 = 0 := by omega
    have hn : ((e % 72).toNat : Int) = e % 72 := by omega
    generalize e % 72 = r at *
    rcases hl with z | z | z | z <;> rw [z] at h7 <;> omega
  · have := of_decide_eq_true q
    rw [Int.toNat_of_nonneg (by omega), show (e % 72).toNat % 9 = (e % 9).toNat by omega] at this
    exact this
theorem zlt2_sp {t : List Int} (h : zlt2 t) : zlt2 (t ++ [32]) := fun x hx => by
  rcases List.mem_append.mp hx with z | z
  · exact h x z
  · exact Or.inl (List.mem_singleton.mp z)
theorem lg_self (x : Int64) : lg_cmp x x = iI 0 := by
  have : ¬ x > x := fun h => by have := Int64.lt_iff_toInt_lt.mp h; omega
  unfold lg_cmp
  rw [if_neg this, if_pos rfl]
  rfl
