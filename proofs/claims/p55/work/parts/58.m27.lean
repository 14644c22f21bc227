theorem mEx_fail {N : Nat} {v2 v1 : Nat → Int} {g g2 g1 : Nat → Int → Int} {x r : Int} {c0 : zCo} (hR : mR (g 0) c0) (hK : cOK N c0) (e1 : g2 1 = cpI (g 0) (g 1) 0 0 2439) (h6 : v2 6 > 0) (he : mEn v2 g2 x r v1 g1) : v2 = v1 ∧ mR (g1 0) c0 ∧ ∀ j, j ≠ 0 → g1 j = g2 j := by
  rcases he with ⟨-, rfl, rfl, -⟩ | ⟨z, -⟩ | ⟨z, -⟩
  · refine ⟨rfl, ?_, fun j hj => upG_n hj⟩
    rw [upG_s]
    refine mR_cong hR hK (fun k h1 h2 => ?_)
    rw [cpI_in (by omega), e1, cpI_in (by omega)]
    congr 1
    omega
  · omega
  · omega
/-- the end of execute: which exception, the answer, what was kept -/
def mExe (v : Nat → Int) (g : Nat → Int → Int) (r : Int) (v1 : Nat → Int) (g1 : Nat → Int → Int) (c0 : zCo) (hs : List zCo) (q : (Int × zCo × Int) × Int × Int) : Prop :=
  v1 6 = q.1.1 ∧ (q.1.1 = 0 → r = q.1.2.2) ∧ v1 17 = 0 ∧ v1 20 = q.2.1 ∧ v1 21 = q.2.2 ∧ mR (g1 0) (if q.1.1 = 0 then q.1.2.1 else c0) ∧ mHi v1 g1 (if q.1.1 = 0 then pushH hs c0 else hs) ∧
  (∀ k, k ≠ 5 → k ≠ 6 → k ≠ 12 → k ≠ 17 → k ≠ 18 → k ≠ 19 → k ≠ 20 → k ≠ 21 → k ≠ 23 → v1 k = v k) ∧ (∀ j, j ≠ 0 → j ≠ 1 → j ≠ 4 → j ≠ 9 → j ≠ 10 → j ≠ 11 → j ≠ 22 → g1 j = g j)
theorem sExe_l {c : zCo} {inp : List Int} {er fa p : Int} (h : zparse inp = .inl p) : sExe c inp er fa = ((1, c, 0), p, fa) := by
  unfold sExe; rw [h]
theorem sExe_f {c : zCo} {inp : List Int} {er fa : Int} {cs : List zCm} {k : Nat} (h : zparse inp = .inr cs) (hr : zrun cs c 0 = .inl k) : sExe c inp er fa = ((2, c, 0), er, (k : Int)) := by
  unfold sExe; rw [h]; simp only []; rw [hr]
theorem sExe_r {c c' : zCo} {inp : List Int} {er fa : Int} {cs : List zCm} (h : zparse inp = .inr cs) (hr : zrun cs c 0 = .inr c') : sExe c inp er fa = ((0, c', (cs.length : Int)), er, fa) := by
  unfold sExe; rw [h]; simp only []; rw [hr]
