theorem zfa_ix {l : List zAr} {x : Int} {i : Nat} {a : zAr} (h : zix l x = some i) (hi : l[i]? = some a) : zfa l x = some a := by
  unfold zix at h
  unfold zfa
  rw [List.findIdx?_eq_some_iff_getElem] at h
  obtain ⟨hl, h1, h2⟩ := h
  rw [List.getElem?_eq_getElem hl] at hi
  rw [← Option.some.inj hi]
  exact List.find?_eq_some_iff_getElem.mpr ⟨h1, i, hl, rfl, fun j hj => by simpa using h2 j hj⟩
theorem zfa_none {l : List zAr} {x : Int} (h : zix l x = none) : zfa l x = none := by
  unfold zix at h
  unfold zfa
  rw [List.findIdx?_eq_none_iff] at h
  rw [List.find?_eq_none]
  intro a ha
  simpa using h a ha
theorem zfi_ix {l : List zIs} {x : Int} {i : Nat} {a : zIs} (h : zii l x = some i) (hi : l[i]? = some a) : zfi l x = some a := by
  unfold zii at h
  unfold zfi
  rw [List.findIdx?_eq_some_iff_getElem] at h
  obtain ⟨hl, h1, h2⟩ := h
  rw [List.getElem?_eq_getElem hl] at hi
  rw [← Option.some.inj hi]
  exact List.find?_eq_some_iff_getElem.mpr ⟨h1, i, hl, rfl, fun j hj => by simpa using h2 j hj⟩
theorem zfi_none {l : List zIs} {x : Int} (h : zii l x = none) : zfi l x = none := by
  unfold zii at h
  unfold zfi
  rw [List.findIdx?_eq_none_iff] at h
  rw [List.find?_eq_none]
  intro a ha
  simpa using h a ha
/-- what is known of the place of an article -/
theorem mPl_fa {N : Nat} {f : Int → Int} {c : zCo} (h : mR f c) (hK : cOK N c) {x r : Int} (hp : mPl f (f 0) x r) : (zfa (cAr c) x = none ∧ zix (cAr c) x = none ∧ r = -1) ∨ ∃ (i : Nat) (a : zAr), zfa (cAr c) x = some a ∧ zix (cAr c) x = some i ∧ r = i ∧ (cAr c)[i]? = some a ∧ a.1 = x ∧ ((0 : Int) ≤ i ∧ (i : Int) < (cAr c).length ∧ (i : Int) ≤ 5) ∧ rAr f i a ∧ arOK (cNi c) a := by
  rcases mPl_ix h hK.2.2.2.1 hp with ⟨h1, h2⟩ | ⟨i, a, h1, h2, h3, h4⟩
  · exact Or.inl ⟨zfa_none h1, h1, h2⟩
  · have hl := (List.getElem?_eq_some_iff.mp h3).1
    have h6 := hK.1
    exact Or.inr ⟨i, a, zfa_ix h1 h3, h1, h2, h3, h4, ⟨by omega, by omega, by omega⟩, h.2.2.2.2.2.2.2.2.2.1 i a h3, hK.2.2.1 a (List.mem_of_getElem? h3)⟩
theorem mPi_fi {N : Nat} {f : Int → Int} {c : zCo} (h : mR f c) (hK : cOK N c) {x r : Int} (hp : mPi f (f 7) x r) : (zfi (cIs c) x = none ∧ zii (cIs c) x = none ∧ r = -1) ∨ ∃ (i : Nat) (a : zIs), zfi (cIs c) x = some a ∧ zii (cIs c) x = some i ∧ r = i ∧ (cIs c)[i]? = some a ∧ iNo a = x ∧ ((0 : Int) ≤ i ∧ (i : Int) < (cIs c).length ∧ (i : Int) ≤ 3) ∧ rIs f i a ∧ isOK (cNi c) (cNn c) (cDa c) a := by
  rcases mPi_ix h hK.2.2.2.2.2.1 hp with ⟨h1, h2⟩ | ⟨i, a, h1, h2, h3, h4⟩
  · exact Or.inl ⟨zfi_none h1, h1, h2⟩
  · have hl := (List.getElem?_eq_some_iff.mp h3).1
    have h6 := hK.2.1
    exact Or.inr ⟨i, a, zfi_ix h1 h3, h1, h2, h3, h4, ⟨by omega, by omega, by omega⟩, h.2.2.2.2.2.2.2.2.2.2 i a h3, hK.2.2.2.2.1 a (List.mem_of_getElem? h3)⟩
/-- questions about articles -/
def sPrio (c : zCo) (x : Int) : Int × Int := match zfa (cAr c) x with
  | none => (1, 0)
  | some a => (0, a.2.1)
def sWcnt (c : zCo) (x : Int) : Int × Int := match zfa (cAr c) x with
  | none => (1, 0)
  | some a => (0, a.2.2.length)
/-- a word of an article by its number -/
def zwd (a : zAr) (w : Int) : Option zWd := if 0 ≤ w then a.2.2[w.toNat]? else none
def sWord (c : zCo) (x w : Int) (f : zWd → Int) : Int × Int := match zfa (cAr c) x with
  | none => (1, 0)
  | some a => match zwd a w with
    | none => (2, 0)
    | some wd => (0, f wd)
def sArt (c : zCo) (p : Int) : Int × Int := if 0 ≤ p then match (cAr c)[p.toNat]? with
  | none => (1, 0)
  | some a => (0, a.1) else (1, 0)
theorem rAr_wd {f : Int → Int} {ni : Int} {i : Nat} {a : zAr} (h : rAr f i a) (hk : arOK ni a) {w : Int} (h0 : 0 ≤ w) (h1 : w ≤ mof f i 2 - 1) : ∃ wd, zwd a w = some wd ∧ wdOK wd ∧ mof f i (3 + 13 * w) = wd.length ∧ (w ≤ 29) ∧ (∀ k : Int, 0 ≤ k → k < wd.length → mof f i (3 + 13 * w + 1 + k) = wd.getD k.toNat 0 ∧ 97 ≤ wd.getD k.toNat 0 ∧ wd.getD k.toNat 0 ≤ 122) := by
  obtain ⟨e0, e1, e2, e3⟩ := h
  have hl : w.toNat < a.2.2.length := by omega
  have hw : a.2.2[w.toNat]? = some a.2.2[w.toNat] := List.getElem?_eq_getElem hl
  have hz : zwd a w = some a.2.2[w.toNat] := by unfold zwd; rw [if_pos h0]; exact hw
  have hm := hk.2.2.2 _ (List.mem_of_getElem? hw)
  obtain ⟨e4, e5⟩ := e3 _ _ hw
  rw [Int.toNat_of_nonneg h0] at e4 e5
  have h30 := hk.2.2.1.2
  refine ⟨_, hz, hm, e4, by omega, fun k hk0 hk1 => ?_⟩
  have hkl : k.toNat < (a.2.2[w.toNat]).length := by omega
  have hx : (a.2.2[w.toNat])[k.toNat]? = some (a.2.2[w.toNat])[k.toNat] := List.getElem?_eq_getElem hkl
  have h6 := e5 _ _ hx
  rw [Int.toNat_of_nonneg hk0] at h6
  have hg : (a.2.2[w.toNat]).getD k.toNat 0 = (a.2.2[w.toNat])[k.toNat] := by rw [List.getD_eq_getElem?_getD, hx]; rfl
  rw [hg]
  exact ⟨h6, hm.2 _ (List.getElem_mem hkl)⟩
theorem zwd_none {f : Int → Int} {i : Nat} {a : zAr} (h : rAr f i a) {w : Int} (hw : ¬ (0 ≤ w ∧ w ≤ mof f i 2 - 1)) : zwd a w = none := by
  unfold zwd
  have e2 := h.2.2.1
  split
  · rw [List.getElem?_eq_none]; omega
  · rfl
theorem mR_n {N : Nat} {f : Int → Int} {c : zCo} (h : mR f c) (hK : cOK N c) : 0 ≤ f 0 ∧ f 0 ≤ 6 := by
  have := h.1
  have := hK.1
  omega
theorem mR_m {N : Nat} {f : Int → Int} {c : zCo} (h : mR f c) (hK : cOK N c) : 0 ≤ f 7 ∧ f 7 ≤ 4 := by
  have := h.2.2.2.2.2.2.2.1
  have := hK.2.1
  omega
/-- the words' list: what is asked of a word by its number; k tells how many of the word's positions count -/
def zcuts (w : zWd) : Nat → Int
  | 0 => 0
  | n + 1 => zcuts w n + (if 2 ≤ (n : Int) ∧ (n : Int) ≤ (w.length : Int) - 2 ∧ isV (w.getD (n - 1) 0) = true ∧ isV (w.getD n 0) = false then 1 else 0)
theorem zcuts_s {w : zWd} {x : Int} (h : 0 ≤ x) : (cutOK w x ∧ zcuts w (x + 1).toNat = zcuts w x.toNat + 1) ∨ (¬ cutOK w x ∧ zcuts w (x + 1).toNat = zcuts w x.toNat) := by
  obtain ⟨n, rfl⟩ : ∃ n : Nat, x = n := ⟨x.toNat, by omega⟩
  have e : ((n : Int) + 1).toNat = n + 1 := by omega
  rw [e]
  unfold cutOK
  simp only [Int.toNat_natCast]
  show (_ ∧ zcuts w n + _ = _) ∨ (_ ∧ zcuts w n + _ = _)
  by_cases q : 2 ≤ (n : Int) ∧ (n : Int) ≤ (w.length : Int) - 2 ∧ isV (w.getD (n - 1) 0) = true ∧ isV (w.getD n 0) = false
  · rw [if_pos q]; exact Or.inl ⟨q, rfl⟩
  · rw [if_neg q]; exact Or.inr ⟨q, by omega⟩
theorem zcuts_2 (w : zWd) : zcuts w 2 = 0 := by
  simp [zcuts]
def sDiv (w : zWd) : Int := zcuts w 12
def sCan (p : Int) (w : zWd) : Int := if 2 ≤ p ∧ p ≤ (w.length : Int) - 2 ∧ isV (w.getD (p.toNat - 1) 0) = true ∧ isV (w.getD p.toNat 0) = false then 1 else 0
theorem sCan_1 {p : Int} {w : zWd} (h : cutOK w p) : sCan p w = 1 := if_pos h
theorem sCan_0 {p : Int} {w : zWd} (h : ¬ cutOK w p) : sCan p w = 0 := if_neg h
/-- an article's first line in an issue -/
def zft (s : zIs) (x : Int) : Option Int := ((iTk s).find? (fun q => q.1 == x)).map (·.2)
def mFl (f : Int → Int) (a n x r : Int) : Prop := (r = -1 ∧ ∀ k, 0 ≤ k → k < n → moi f a (6 + 2 * k) ≠ x) ∨ ∃ k, 0 ≤ k ∧ k < n ∧ moi f a (6 + 2 * k) = x ∧ r = moi f a (6 + 2 * k + 1)
theorem mFl_0 {f : Int → Int} {a x : Int} : mFl f a 0 x (-1) := Or.inl ⟨rfl, fun k h1 h2 => absurd h1 (by omega)⟩
theorem mFl_y {f : Int → Int} {a n x : Int} (h0 : 0 ≤ n) (h : moi f a (6 + 2 * n) = x) : mFl f a (n + 1) x (moi f a (6 + 2 * n + 1)) := Or.inr ⟨n, h0, by omega, h, rfl⟩
theorem mFl_n {f : Int → Int} {a n x r : Int} (hf : mFl f a n x r) (h : ¬ moi f a (6 + 2 * n) = x) : mFl f a (n + 1) x r := by
  rcases hf with ⟨h1, h2⟩ | ⟨k, h1, h2, h3, h4⟩
  · refine Or.inl ⟨h1, fun k h3 h4 => ?_⟩
    rcases Int.lt_or_eq_of_le (Int.le_of_lt_add_one h4) with q | q
    · exact h2 k h3 q
    · rw [q]; exact h
  · exact Or.inr ⟨k, h1, by omega, h3, h4⟩
theorem mFl_zft {f : Int → Int} {ni nn da : Int} {i : Nat} {s : zIs} {x r : Int} (h : rIs f i s) (hk : isOK ni nn da s) (hf : mFl f i (moi f i 5) x r) : (zft s x = none ∧ r = -1) ∨ (zft s x = some r ∧ 0 ≤ r ∧ r < iLi s) := by
  obtain ⟨-, -, -, -, -, h5, h6⟩ := h
  obtain ⟨-, -, -, -, -, k1, k2, -, -⟩ := hk
  rw [h5] at hf
  rcases hf with ⟨h1, h2⟩ | ⟨k, h1, h2, h3, h4⟩
  · left
    refine ⟨?_, h1⟩
    unfold zft
    rw [Option.map_eq_none_iff, List.find?_eq_none]
    intro q hq
    obtain ⟨j, hj⟩ := List.getElem?_of_mem hq
    have hl := (List.getElem?_eq_some_iff.mp hj).1
    have := h2 j (by omega) (by omega)
    rw [(h6 j q hj).1] at this
    simpa using this
  · right
    have hl : k.toNat < (iTk s).length := by omega
    obtain ⟨q, hq⟩ : ∃ q, (iTk s)[k.toNat]? = some q := ⟨_, List.getElem?_eq_getElem hl⟩
    obtain ⟨e1, e2⟩ := h6 _ _ hq
    rw [Int.toNat_of_nonneg h1] at e1 e2
    have hm := k1 q (List.mem_of_getElem? hq)
    rw [h4, e2]
    refine ⟨?_, hm.2⟩
    unfold zft
    have hf2 : (iTk s).find? (fun q => q.1 == x) = some q := by
      obtain ⟨hl', hv⟩ := List.getElem?_eq_some_iff.mp hq
      refine List.find?_eq_some_iff_getElem.mpr ⟨by simp; omega, k.toNat, hl', hv, fun j hj => ?_⟩
      have hjl : j < (iTk s).length := by omega
      have := List.pairwise_iff_getElem.mp k2 j k.toNat hjl hl' hj
      rw [hv] at this
      simp
      omega
    rw [hf2]; rfl
def sIss (c : zCo) (x : Int) (f : zIs → Int) : Int × Int := match zfi (cIs c) x with
  | none => (1, 0)
  | some s => (0, f s)
def sPos (c : zCo) (x y : Int) (f : zIs → Int → Int) : Int × Int := match zfi (cIs c) x with
  | none => (1, 0)
  | some s => match zft s y with
    | none => (1, 0)
    | some l => (0, f s l)
