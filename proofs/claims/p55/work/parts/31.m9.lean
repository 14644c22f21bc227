/-- the answer of a question that sets lines -/
def mB (v : Nat → Int) (g : Nat → Int → Int) (r : Int) (v1 : Nat → Int) (g1 : Nat → Int → Int) (q : Int × Int) : Prop := v1 6 = q.1 ∧ (∀ k, k ≠ 6 → k ≠ 12 → v1 k = v k) ∧ (∀ j, j ≠ 9 → j ≠ 10 → j ≠ 11 → g1 j = g j) ∧ (q.1 = 0 → r = q.2)
/-- the lines of an article of the newspaper: which exception, or the lines -/
def zal (c : zCo) (x : Int) : Int × List zWd := match zfa (cAr c) x with
  | none => (1, [])
  | some a => match zlines (cWi c) a.2.2 with
    | none => (2, [])
    | some ls => (0, ls)
def sLn (c : zCo) (x : Int) (f : List zWd → Int) : Int × Int := ((zal c x).1, f (zal c x).2)
def mAL (c : zCo) (x r : Int) (v1 : Nat → Int) (g1 : Nat → Int → Int) : Prop := v1 6 = (zal c x).1 ∧ (((zal c x).1 = 1 ∧ r = -1) ∨ ((zal c x).1 = 2 ∧ r = -1) ∨ ((zal c x).1 = 0 ∧ r = (zal c x).2.length ∧ ((zal c x).2.length ≤ 181 ∧ 1 ≤ (zal c x).2.length) ∧ (∀ l ∈ (zal c x).2, (l.length : Int) ≤ cWi c) ∧ mLs g1 (zal c x).2))
def zlw (ls : List zWd) (w : Int) : Option zWd := if 0 ≤ w then ls[w.toNat]? else none
/-- a line of an article: which exception, or the line -/
def zlq (c : zCo) (x w : Int) : Int × zWd := if (zal c x).1 = 0 then (match zlw (zal c x).2 w with
    | none => (3, [])
    | some l => (0, l)) else ((zal c x).1, [])
def mAK (c : zCo) (x w r : Int) (v1 : Nat → Int) (g1 : Nat → Int → Int) : Prop := (v1 6 ≠ 0 ∧ r = 0 ∧ (zlq c x w).1 = v1 6) ∨ (v1 6 = 0 ∧ r = 1 ∧ ∃ l, zlq c x w = (0, l) ∧ (0 ≤ w ∧ w ≤ 180) ∧ (l.length : Int) ≤ 20 ∧ lnAt (g1 9) (20 * w) l ∧ g1 10 w = l.length)
theorem zlq_1 {c : zCo} {x w : Int} (h : (zal c x).1 ≠ 0) : (zlq c x w).1 = (zal c x).1 := by
  unfold zlq; rw [if_neg h]
theorem zlq_3 {c : zCo} {x w : Int} (h : (zal c x).1 = 0) (hw : ¬ (0 ≤ w ∧ w ≤ ((zal c x).2.length : Int) - 1)) : (zlq c x w).1 = 3 := by
  unfold zlq zlw; rw [if_pos h]
  by_cases q : 0 ≤ w
  · rw [if_pos q, List.getElem?_eq_none (by omega)]
  · rw [if_neg q]
theorem zlq_0 {c : zCo} {x w : Int} (h : (zal c x).1 = 0) (hw : 0 ≤ w ∧ w ≤ ((zal c x).2.length : Int) - 1) : ∃ l, (zal c x).2[w.toNat]? = some l ∧ zlq c x w = (0, l) := by
  have hl : w.toNat < (zal c x).2.length := by omega
  refine ⟨_, List.getElem?_eq_getElem hl, ?_⟩
  unfold zlq zlw; rw [if_pos h, if_pos hw.1, List.getElem?_eq_getElem hl]
def sHy (ls : List zWd) : Int := (ls.countP (fun l => l.getLast? == some 45) : Nat)
theorem sHy_s {ls : List zWd} {k : Nat} {l : zWd} (h : ls[k]? = some l) : sHy (ls.take (k + 1)) = sHy (ls.take k) + hyI l := by
  unfold sHy hyI
  rw [List.take_add_one, h, List.countP_append]
  by_cases q : l.getLast? = some 45
  · rw [if_pos q]; simp [q]
  · rw [if_neg q]; simp [q]
theorem hyI_01 (l : zWd) : hyI l = 0 ∨ hyI l = 1 := by unfold hyI; split <;> simp
