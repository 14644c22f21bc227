/-! The newspaper as a value: words, articles, issues, and what changes can change. -/
abbrev zWd : Type := List Int
/-- id, priority, words -/
abbrev zAr : Type := Int × Int × List zWd
/-- number, columns, height, lines, (article, first line) of those taken, day printed -/
abbrev zIs : Type := Int × Int × Int × Int × List (Int × Int) × Int
/-- articles, issues, next id, next number, width, columns, height, day, late corrections -/
abbrev zCo : Type := List zAr × List zIs × Int × Int × Int × Int × Int × Int × Int
def cAr (c : zCo) : List zAr := c.1
def cIs (c : zCo) : List zIs := c.2.1
def cNi (c : zCo) : Int := c.2.2.1
def cNn (c : zCo) : Int := c.2.2.2.1
def cWi (c : zCo) : Int := c.2.2.2.2.1
def cCo (c : zCo) : Int := c.2.2.2.2.2.1
def cHe (c : zCo) : Int := c.2.2.2.2.2.2.1
def cDa (c : zCo) : Int := c.2.2.2.2.2.2.2.1
def cLa (c : zCo) : Int := c.2.2.2.2.2.2.2.2
def iNo (s : zIs) : Int := s.1
def iCo (s : zIs) : Int := s.2.1
def iHe (s : zIs) : Int := s.2.2.1
def iLi (s : zIs) : Int := s.2.2.2.1
def iTk (s : zIs) : List (Int × Int) := s.2.2.2.2.1
def iPr (s : zIs) : Int := s.2.2.2.2.2
def wdOK (w : zWd) : Prop := (1 ≤ w.length ∧ w.length ≤ 12) ∧ ∀ x ∈ w, 97 ≤ x ∧ x ≤ 122
def arOK (ni : Int) (a : zAr) : Prop := (0 ≤ a.1 ∧ a.1 < ni) ∧ (1 ≤ a.2.1 ∧ a.2.1 ≤ 9) ∧ (1 ≤ a.2.2.length ∧ a.2.2.length ≤ 30) ∧ ∀ w ∈ a.2.2, wdOK w
def isOK (ni nn da : Int) (s : zIs) : Prop := (0 ≤ iNo s ∧ iNo s < nn) ∧ (1 ≤ iCo s ∧ iCo s ≤ 4) ∧ (1 ≤ iHe s ∧ iHe s ≤ 20) ∧ (0 ≤ iLi s ∧ iLi s ≤ iCo s * iHe s) ∧ (iTk s).length ≤ 6 ∧ (∀ q ∈ iTk s, (0 ≤ q.1 ∧ q.1 < ni) ∧ 0 ≤ q.2 ∧ q.2 < iLi s) ∧ (iTk s).Pairwise (fun p q => p.1 ≠ q.1) ∧ 0 ≤ iPr s ∧ iPr s ≤ da
/-- what always holds of it, behind at most N calls -/
def cOK (N : Nat) (c : zCo) : Prop := (cAr c).length ≤ 6 ∧ (cIs c).length ≤ 4 ∧ (∀ a ∈ cAr c, arOK (cNi c) a) ∧ (cAr c).Pairwise (fun a b => a.1 < b.1) ∧ (∀ s ∈ cIs c, isOK (cNi c) (cNn c) (cDa c) s) ∧ (cIs c).Pairwise (fun a b => iNo a < iNo b) ∧
  (0 ≤ cNi c ∧ cNi c ≤ N) ∧ (0 ≤ cNn c ∧ cNn c ≤ 10 * N) ∧ (4 ≤ cWi c ∧ cWi c ≤ 20) ∧ (1 ≤ cCo c ∧ cCo c ≤ 4) ∧ (1 ≤ cHe c ∧ cHe c ≤ 20) ∧ (0 ≤ cDa c ∧ cDa c ≤ 300 * N) ∧ 0 ≤ cLa c ∧ cLa c ≤ N
/-- the place of an article by its id -/
def zix (l : List zAr) (x : Int) : Option Nat := l.findIdx? (fun a => a.1 == x)
def zfa (l : List zAr) (x : Int) : Option zAr := l.find? (fun a => a.1 == x)
def zii (l : List zIs) (x : Int) : Option Nat := l.findIdx? (fun a => iNo a == x)
def zfi (l : List zIs) (x : Int) : Option zIs := l.find? (fun a => iNo a == x)
def isV (x : Int) : Bool := x == 97 || x == 101 || x == 105 || x == 111 || x == 117
/-- a word can be divided at p -/
def cutOK (w : zWd) (p : Int) : Prop := 2 ≤ p ∧ p ≤ (w.length : Int) - 2 ∧ isV (w.getD (p.toNat - 1) 0) = true ∧ isV (w.getD p.toNat 0) = false
/-! the model's row -/
def mof (f : Int → Int) (a b : Int) : Int := f (9 + 393 * a + b)
def moi (f : Int → Int) (a b : Int) : Int := f (2367 + 18 * a + b)
def rAr (f : Int → Int) (i : Nat) (a : zAr) : Prop := mof f i 0 = a.1 ∧ mof f i 1 = a.2.1 ∧ mof f i 2 = a.2.2.length ∧ ∀ (w : Nat) (wd : zWd), a.2.2[w]? = some wd → mof f i (3 + 13 * w) = wd.length ∧ ∀ (k : Nat) (x : Int), wd[k]? = some x → mof f i (3 + 13 * w + 1 + k) = x
def rIs (f : Int → Int) (i : Nat) (s : zIs) : Prop := moi f i 0 = iNo s ∧ moi f i 1 = iPr s ∧ moi f i 2 = iCo s ∧ moi f i 3 = iHe s ∧ moi f i 4 = iLi s ∧ moi f i 5 = (iTk s).length ∧ ∀ (k : Nat) (q : Int × Int), (iTk s)[k]? = some q → moi f i (6 + 2 * k) = q.1 ∧ moi f i (6 + 2 * k + 1) = q.2
def mR (f : Int → Int) (c : zCo) : Prop := f 0 = (cAr c).length ∧ f 1 = cNi c ∧ f 2 = cWi c ∧ f 3 = cCo c ∧ f 4 = cHe c ∧ f 5 = cDa c ∧ f 6 = cLa c ∧ f 7 = (cIs c).length ∧ f 8 = cNn c ∧ (∀ (i : Nat) (a : zAr), (cAr c)[i]? = some a → rAr f i a) ∧ ∀ (i : Nat) (s : zIs), (cIs c)[i]? = some s → rIs f i s
/-- r is the place of x among the first n articles, or -1 -/
def mPl (f : Int → Int) (n x r : Int) : Prop := (-1 ≤ r ∧ r < n) ∧ (0 ≤ r → mof f r 0 = x) ∧ ∀ j, r < j → 0 ≤ j → j < n → mof f j 0 ≠ x
def mPi (f : Int → Int) (n x r : Int) : Prop := (-1 ≤ r ∧ r < n) ∧ (0 ≤ r → moi f r 0 = x) ∧ ∀ j, r < j → 0 ≤ j → j < n → moi f j 0 ≠ x
theorem mPl_ix {f : Int → Int} {c : zCo} (h : mR f c) (hs : (cAr c).Pairwise (fun a b => a.1 < b.1)) {x r : Int} (hp : mPl f (f 0) x r) : (zix (cAr c) x = none ∧ r = -1) ∨ ∃ (i : Nat) (a : zAr), zix (cAr c) x = some i ∧ r = i ∧ (cAr c)[i]? = some a ∧ a.1 = x := by
  obtain ⟨h1, h2, h3⟩ := hp
  obtain ⟨e0, -, -, -, -, -, -, -, -, ha, -⟩ := h
  by_cases hr : 0 ≤ r
  · right
    have hlt : r.toNat < (cAr c).length := by omega
    obtain ⟨a, hA⟩ : ∃ a, (cAr c)[r.toNat]? = some a := ⟨_, List.getElem?_eq_getElem hlt⟩
    have hid : a.1 = x := by
      rw [← (ha _ _ hA).1, Int.toNat_of_nonneg hr]; exact h2 hr
    refine ⟨r.toNat, a, ?_, by omega, hA, hid⟩
    unfold zix
    rw [List.findIdx?_eq_some_iff_getElem]
    refine ⟨hlt, ?_, fun j hj => ?_⟩
    · rw [List.getElem?_eq_getElem hlt] at hA
      rw [Option.some.inj hA]; simp [hid]
    · have hjl : j < (cAr c).length := by omega
      have := List.pairwise_iff_getElem.mp hs j r.toNat hjl hlt hj
      rw [List.getElem?_eq_getElem hlt] at hA
      rw [Option.some.inj hA] at this
      simp
      omega
  · left
    have er : r = -1 := by omega
    refine ⟨?_, er⟩
    unfold zix
    rw [List.findIdx?_eq_none_iff]
    intro a hA
    obtain ⟨i, hi⟩ := List.getElem?_of_mem hA
    have hil := (List.getElem?_eq_some_iff.mp hi).1
    have h5 := h3 i (by omega) (by omega) (by omega)
    rw [(ha i a hi).1] at h5
    simp [h5]
theorem mPi_ix {f : Int → Int} {c : zCo} (h : mR f c) (hs : (cIs c).Pairwise (fun a b => iNo a < iNo b)) {x r : Int} (hp : mPi f (f 7) x r) : (zii (cIs c) x = none ∧ r = -1) ∨ ∃ (i : Nat) (a : zIs), zii (cIs c) x = some i ∧ r = i ∧ (cIs c)[i]? = some a ∧ iNo a = x := by
  obtain ⟨h1, h2, h3⟩ := hp
  obtain ⟨-, -, -, -, -, -, -, e0, -, -, ha⟩ := h
  by_cases hr : 0 ≤ r
  · right
    have hlt : r.toNat < (cIs c).length := by omega
    obtain ⟨a, hA⟩ : ∃ a, (cIs c)[r.toNat]? = some a := ⟨_, List.getElem?_eq_getElem hlt⟩
    have hid : iNo a = x := by
      rw [← (ha _ _ hA).1, Int.toNat_of_nonneg hr]; exact h2 hr
    refine ⟨r.toNat, a, ?_, by omega, hA, hid⟩
    unfold zii
    rw [List.findIdx?_eq_some_iff_getElem]
    refine ⟨hlt, ?_, fun j hj => ?_⟩
    · rw [List.getElem?_eq_getElem hlt] at hA
      rw [Option.some.inj hA]; simp [hid]
    · have hjl : j < (cIs c).length := by omega
      have := List.pairwise_iff_getElem.mp hs j r.toNat hjl hlt hj
      rw [List.getElem?_eq_getElem hlt] at hA
      rw [Option.some.inj hA] at this
      simp
      omega
  · left
    have er : r = -1 := by omega
    refine ⟨?_, er⟩
    unfold zii
    rw [List.findIdx?_eq_none_iff]
    intro a hA
    obtain ⟨i, hi⟩ := List.getElem?_of_mem hA
    have hil := (List.getElem?_eq_some_iff.mp hi).1
    have h5 := h3 i (by omega) (by omega) (by omega)
    rw [(ha i a hi).1] at h5
    simp [h5]
