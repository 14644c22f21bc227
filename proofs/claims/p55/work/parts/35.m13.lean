/-- a word that is not longer than the width can always be set -/
theorem zstep_fit {w : Int} {wd : zWd} {fr : Nat} {st : zLn} (h : (wd.length : Int) ≤ w) : zstep w wd fr st ≠ none := by
  unfold zstep
  split
  · simp
  · split
    · simp
    · split
      · rename_i h1 _ h3
        exfalso
        unfold zroom at h1
        rw [if_pos h3] at h1
        omega
      · simp
theorem zset_fit {w : Int} {wd : zWd} {j : Nat} (hw : wdOK wd) (h : (wd.length : Int) ≤ w) : ∀ (n fr : Nat) (st : zLn), fr < wd.length → lnOK w wd j fr st → zmu wd fr st ≤ n + 1 → zset w wd n fr st ≠ none
  | 0, fr, st, hf, hk, hm => by unfold zmu at hm; omega
  | n + 1, fr, st, hf, hk, hm => by
    unfold zset
    cases hs : zstep w wd fr st with
    | none => exact absurd hs (zstep_fit h)
    | some q =>
      obtain ⟨f, s2⟩ := q
      rcases zstep_ok hw hf hk hs with ⟨h1, -⟩ | ⟨h1, h2, h3, h4⟩
      · simp [h1]
      · simp only [Nat.ne_of_lt h1, if_false]
        refine zset_fit hw h n f s2 h1 h2 ?_
        unfold zmu at hm ⊢
        rw [if_pos h3]
        rcases h4 with q | ⟨q, z⟩
        · split at hm <;> omega
        · rw [if_neg z] at hm; omega
theorem zwords_fit {w : Int} (h : 12 ≤ w) : ∀ (ws : List zWd) (j : Nat) (st : zLn), (∀ x ∈ ws, wdOK x) → st.1.length ≤ 6 * j → (∀ x ∈ st.1, (x.length : Int) ≤ w) → (st.2.length : Int) ≤ w → zwords w ws st ≠ none
  | [], j, st, _, _, _, _ => by unfold zwords; simp
  | wd :: ws, j, st, ho, h1, h2, h3 => by
    have hw := ho wd List.mem_cons_self
    have hl := hw.1
    unfold zwords
    have hk : lnOK w wd j 0 st := ⟨by omega, fun _ => ⟨rfl, h1⟩, Or.inl rfl, h2, h3⟩
    have hs := zset_fit (j := j) hw (by omega) 24 0 st (by omega) hk (by unfold zmu; split <;> omega)
    cases hz : zset w wd 24 0 st with
    | none => exact absurd hz hs
    | some s1 =>
      obtain ⟨b1, b2, b3⟩ := zset_ok (j := j) hw 24 0 st s1 (by omega) hk hz
      exact zwords_fit h ws (j + 1) s1 (fun x hx => ho x (List.mem_cons_of_mem _ hx)) b1 b2 b3
theorem zlines_fit {w : Int} {ws : List zWd} (h : 12 ≤ w) (ho : ∀ x ∈ ws, wdOK x) : zlines w ws ≠ none := by
  unfold zlines
  intro q
  rw [Option.map_eq_none_iff] at q
  exact zwords_fit h ws 0 ([], []) ho (by simp) (fun x hx => by simp at hx) (by simp; omega) q
/-- the smallest width from w on -/
def zsm (ws : List zWd) : Nat → Int → Int
  | 0, w => w
  | n + 1, w => if (zlines w ws).isSome then w else zsm ws n (w + 1)
theorem zsm_n {ws : List zWd} {n : Nat} {w : Int} (h : zlines w ws = none) : zsm ws (n + 1) w = zsm ws n (w + 1) := by
  conv => lhs; unfold zsm
  rw [h]; rfl
theorem zsm_y {ws : List zWd} {n : Nat} {w : Int} {l : List zWd} (h : zlines w ws = some l) : zsm ws (n + 1) w = w := by
  unfold zsm; rw [h]; rfl
def sSm (c : zCo) (x : Int) : Int × Int := match zfa (cAr c) x with
  | none => (1, 0)
  | some a => (0, zsm a.2.2 16 4)
