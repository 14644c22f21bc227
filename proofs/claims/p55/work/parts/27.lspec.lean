/-! Setting into lines, as a function: what is closed, and the line that stands open. -/
abbrev zLn : Type := List zWd × zWd
def lnPut (cur part : zWd) : zWd := if cur = [] then part else cur ++ 32 :: part
def cutB (w : zWd) (p : Nat) : Bool := decide (2 ≤ p) && decide (p + 2 ≤ w.length) && isV (w.getD (p - 1) 0) && !isV (w.getD p 0)
theorem cutB_iff {w : zWd} {x : Int} (h : 0 ≤ x) : cutB w x.toNat = true ↔ cutOK w x := by
  unfold cutB cutOK
  simp only [Bool.and_eq_true, decide_eq_true_eq, Bool.not_eq_true']
  constructor
  · rintro ⟨⟨⟨h1, h2⟩, h3⟩, h4⟩
    exact ⟨by omega, by omega, h3, h4⟩
  · rintro ⟨h1, h2, h3, h4⟩
    exact ⟨⟨⟨by omega, by omega⟩, h3⟩, h4⟩
/-- the last cut behind fr, at most p, that leaves room for itself and a hyphen; 0 if there is none -/
def zcut (w : zWd) (fr : Nat) (room : Int) : Nat → Nat
  | 0 => 0
  | p + 1 => if fr < p + 1 ∧ ((p : Int) + 1 - fr + 1 ≤ room) ∧ cutB w (p + 1) = true then p + 1 else zcut w fr room p
theorem zcut_spec (w : zWd) (fr : Nat) (room : Int) : ∀ p, (zcut w fr room p = 0 ∨ (fr < zcut w fr room p ∧ zcut w fr room p ≤ p ∧ ((zcut w fr room p : Int) - fr + 1 ≤ room) ∧ cutB w (zcut w fr room p) = true)) ∧ ∀ q, zcut w fr room p < q → q ≤ p → fr < q → ((q : Int) - fr + 1 ≤ room) → cutB w q = false
  | 0 => ⟨Or.inl rfl, fun q h1 h2 h3 _ => by omega⟩
  | p + 1 => by
    have ih := zcut_spec w fr room p
    unfold zcut
    by_cases h : fr < p + 1 ∧ ((p : Int) + 1 - fr + 1 ≤ room) ∧ cutB w (p + 1) = true
    · rw [if_pos h]
      exact ⟨Or.inr ⟨h.1, Nat.le_refl _, by push_cast; exact h.2.1, h.2.2⟩, fun q h1 h2 _ _ => by omega⟩
    · rw [if_neg h]
      refine ⟨?_, fun q h1 h2 h3 h4 => ?_⟩
      · rcases ih.1 with h1 | ⟨h1, h2, h3, h4⟩
        · exact Or.inl h1
        · exact Or.inr ⟨h1, by omega, h3, h4⟩
      · by_cases hq : q = p + 1
        · subst hq
          cases hb : cutB w (p + 1) with
          | false => rfl
          | true => exact absurd ⟨h3, by push_cast at h4; exact h4, hb⟩ h
        · exact ih.2 q h1 (by omega) h3 h4
def zroom (w : Int) (cur : zWd) : Int := if cur = [] then w else w - cur.length - 1
/-- one turn: how far the word is put, and the lines -/
def zstep (w : Int) (wd : zWd) (fr : Nat) (st : zLn) : Option (Nat × zLn) :=
  if (wd.length : Int) - fr ≤ zroom w st.2 then some (wd.length, st.1, lnPut st.2 (wd.drop fr))
  else if zcut wd fr (zroom w st.2) (wd.length - 1) ≠ 0 then some (zcut wd fr (zroom w st.2) (wd.length - 1), st.1 ++ [lnPut st.2 ((wd.drop fr).take (zcut wd fr (zroom w st.2) (wd.length - 1) - fr)) ++ [45]], [])
  else if st.2 = [] then none else some (fr, st.1 ++ [st.2], [])
def zset (w : Int) (wd : zWd) : Nat → Nat → zLn → Option zLn
  | 0, _, _ => none
  | n + 1, fr, st => match zstep w wd fr st with
    | none => none
    | some (f, st') => if f = wd.length then some st' else zset w wd n f st'
def zwords (w : Int) : List zWd → zLn → Option zLn
  | [], st => some st
  | wd :: ws, st => match zset w wd 24 0 st with
    | none => none
    | some st' => zwords w ws st'
/-- the lines of an article, or none if it cannot be set -/
def zlines (w : Int) (ws : List zWd) : Option (List zWd) := (zwords w ws ([], [])).map (fun st => st.1 ++ [st.2])
/-- what holds of the lines in the midst of word number j -/
def lnOK (w : Int) (wd : zWd) (j fr : Nat) (st : zLn) : Prop := 2 * st.1.length ≤ 12 * j + 2 + fr ∧ (st.2 ≠ [] → fr = 0 ∧ st.1.length ≤ 6 * j) ∧ (fr = 0 ∨ cutB wd fr = true) ∧ (∀ x ∈ st.1, (x.length : Int) ≤ w) ∧ (st.2.length : Int) ≤ w
theorem cutB_le {w : zWd} {p : Nat} (h : cutB w p = true) : 2 ≤ p ∧ p + 2 ≤ w.length := by
  unfold cutB at h
  simp only [Bool.and_eq_true, decide_eq_true_eq] at h
  omega
theorem cutB_next {w : zWd} {p q : Nat} (hp : cutB w p = true) (hq : cutB w q = true) (h : p < q) : p + 2 ≤ q := by
  by_cases e : q = p + 1
  · subst e
    unfold cutB at hp hq
    simp only [Bool.and_eq_true, Bool.not_eq_true', Nat.add_sub_cancel] at hp hq
    rw [hp.2] at hq
    exact absurd hq.1.2 (by decide)
  · omega
theorem lnPut_len (cur part : zWd) : ((lnPut cur part).length : Int) = if cur = [] then (part.length : Int) else (cur.length : Int) + 1 + part.length := by
  unfold lnPut
  split
  · rfl
  · simp; omega
theorem zroom_le {w : Int} {cur part : zWd} (h : (part.length : Int) ≤ zroom w cur) : ((lnPut cur part).length : Int) ≤ w := by
  rw [lnPut_len]
  unfold zroom at h
  split <;> simp_all <;> omega
theorem zcut_p (wd : zWd) (fr : Nat) (room : Int) (hz : zcut wd fr room (wd.length - 1) ≠ 0) : fr < zcut wd fr room (wd.length - 1) ∧ zcut wd fr room (wd.length - 1) < wd.length ∧ ((zcut wd fr room (wd.length - 1) : Int) - fr + 1 ≤ room) ∧ cutB wd (zcut wd fr room (wd.length - 1)) = true := by
  rcases (zcut_spec wd fr room (wd.length - 1)).1 with h | ⟨h1, h2, h3, h4⟩
  · exact absurd h hz
  · have := cutB_le h4
    exact ⟨h1, by omega, h3, h4⟩
theorem zstep_ok {w : Int} {wd : zWd} {j fr f : Nat} {st st' : zLn} (hw : wdOK wd) (hf : fr < wd.length) (h : lnOK w wd j fr st) (hs : zstep w wd fr st = some (f, st')) :
    (f = wd.length ∧ st' = (st.1, lnPut st.2 (wd.drop fr)) ∧ st'.1.length ≤ 6 * (j + 1) ∧ (∀ x ∈ st'.1, (x.length : Int) ≤ w) ∧ (st'.2.length : Int) ≤ w ∧ st'.2 ≠ []) ∨ (f < wd.length ∧ lnOK w wd j f st' ∧ st'.2 = [] ∧ ((fr + 2 ≤ f) ∨ (f = fr ∧ st.2 ≠ []))) := by
  obtain ⟨h1, h2, h3, h4, h5⟩ := h
  have hl := hw.1
  have hfr : fr ≤ 10 := by
    rcases h3 with q | q
    · omega
    · have := cutB_le q; omega
  unfold zstep at hs
  by_cases c1 : (wd.length : Int) - fr ≤ zroom w st.2
  · rw [if_pos c1] at hs
    cases hs
    left
    have hd : (wd.drop fr).length = wd.length - fr := List.length_drop
    refine ⟨rfl, rfl, by show st.1.length ≤ _; omega, h4, zroom_le (by rw [hd]; omega), ?_⟩
    show lnPut st.2 (wd.drop fr) ≠ []
    unfold lnPut
    split
    · intro q; have := congrArg List.length q; simp at this; omega
    · simp
  · rw [if_neg c1] at hs
    by_cases c2 : zcut wd fr (zroom w st.2) (wd.length - 1) ≠ 0
    · rw [if_pos c2] at hs
      obtain ⟨q1, q2, q3, q4⟩ := zcut_p wd fr (zroom w st.2) c2
      generalize zcut wd fr (zroom w st.2) (wd.length - 1) = t at hs q1 q2 q3 q4
      cases hs
      right
      have h2f : fr + 2 ≤ f := by
        rcases h3 with q | q
        · have := cutB_le q4; omega
        · exact cutB_next q q4 q1
      have hlen : ((wd.drop fr).take (f - fr)).length = f - fr := by rw [List.length_take, List.length_drop]; omega
      refine ⟨q2, ⟨by simp; omega, fun z => absurd rfl z, Or.inr q4, fun x hx => ?_, by simp; omega⟩, rfl, Or.inl h2f⟩
      rcases List.mem_append.mp hx with hx | hx
      · exact h4 x hx
      · rw [List.mem_singleton.mp hx]
        rw [List.length_append]
        have := lnPut_len st.2 ((wd.drop fr).take (f - fr))
        rw [hlen] at this
        unfold zroom at q3
        split at this <;> simp_all <;> omega
    · rw [if_neg c2] at hs
      by_cases c3 : st.2 = []
      · rw [if_pos c3] at hs; cases hs
      · rw [if_neg c3] at hs
        cases hs
        right
        obtain ⟨z1, z2⟩ := h2 c3
        refine ⟨hf, ⟨by simp; omega, fun z => absurd rfl z, h3, fun x hx => ?_, by simp; omega⟩, rfl, Or.inr ⟨rfl, c3⟩⟩
        rcases List.mem_append.mp hx with hx | hx
        · exact h4 x hx
        · rw [List.mem_singleton.mp hx]; exact h5
