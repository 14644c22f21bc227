section VAL2
variable {N : Nat} {v v1 : Nat → Int} {gm g1 : Nat → Int → Int} {tx inp out : List Int} {c0 : zCo} {sv : Option zCo} {hs : List zCo} {er fa : Int}
theorem zrun_ok : ∀ (l : List zCm) (c c2 : zCo) (k : Nat), cOKj N k c → k + l.length ≤ 10 → zrun l c k = .inr c2 → cOKj N (k + l.length) c2
  | [], c, c2, k => fun h _ hr => by
    unfold zrun at hr
    cases hr
    exact h
  | q :: l, c, c2, k => fun h hl hr => by
    unfold zrun at hr
    rw [List.length_cons] at hl
    by_cases c1 : (zdo c q).1 = 0
    · rw [if_pos c1] at hr
      have h2 := zrun_ok l (zdo c q).2.1 c2 (k + 1) (cOKj_s h (by omega) c1) (by omega) hr
      rw [List.length_cons, show k + (l.length + 1) = k + 1 + l.length by omega]
      exact h2
    · rw [if_neg c1] at hr; cases hr
theorem zrun_in : ∀ (l : List zCm) (c : zCo) (k j : Nat), zrun l c k = .inl j → j < k + l.length
  | [], c, k, j => fun hr => by unfold zrun at hr; cases hr
  | q :: l, c, k, j => fun hr => by
    unfold zrun at hr
    rw [List.length_cons]
    by_cases c1 : (zdo c q).1 = 0
    · rw [if_pos c1] at hr
      have := zrun_in l (zdo c q).2.1 (k + 1) j hr
      omega
    · rw [if_neg c1] at hr; cases hr; omega
theorem zread_b {inp : List Int} : ∀ (n : Nat) (a : Int), 0 ≤ a → a ≤ inp.length → 0 ≤ (zread inp n a).2.1 ∧ (zread inp n a).2.1 ≤ inp.length
  | 0, a => fun h0 h1 => ⟨h0, h1⟩
  | n + 1, a => fun h0 h1 => by
    obtain ⟨k1, k2, k3, k4⟩ := zcmd_ok h0 h1
    rw [zread_s]
    by_cases c1 : (zcmd inp a).1 = true
    · rw [if_pos c1]; exact ⟨by show 0 ≤ (zcmd inp a).2.1; omega, k2⟩
    · rw [if_neg c1]
      by_cases c2 : bh inp (zcmd inp a).2.1 = 59
      · rw [if_pos c2]
        have k6 := bh_in (inp := inp) (a := (zcmd inp a).2.1) (by omega) (by rw [c2]; decide)
        exact zread_b n ((zcmd inp a).2.1 + 1) (by omega) (by omega)
      · rw [if_neg c2]; exact ⟨by show 0 ≤ (zcmd inp a).2.1; omega, k2⟩
theorem sExe_b {inp : List Int} (hK : cOK N c0) (hi : inp.length ≤ 60) (he : -1 ≤ er ∧ er ≤ 60) (hf : -1 ≤ fa ∧ fa ≤ 60) : ((-1 ≤ (sExe c0 inp er fa).2.1 ∧ (sExe c0 inp er fa).2.1 ≤ 60) ∧ -1 ≤ (sExe c0 inp er fa).2.2 ∧ (sExe c0 inp er fa).2.2 ≤ 60) ∧ ((sExe c0 inp er fa).1.1 = 0 → cOK (N + 1) (sExe c0 inp er fa).1.2.1) := by
  cases h1 : zparse inp with
  | inl p =>
    rw [sExe_l h1]
    unfold zparse at h1
    have hb := zread_b (inp := inp) 61 0 (Int.le_refl _) (by omega)
    by_cases c : (zread inp 61 0).1 = true ∨ (zread inp 61 0).2.1 < inp.length
    · rw [if_pos c] at h1
      cases h1
      exact ⟨⟨⟨by show -1 ≤ (zread inp 61 0).2.1; omega, by show (zread inp 61 0).2.1 ≤ 60; omega⟩, hf⟩, (fun z => by cases z)⟩
    · rw [if_neg c] at h1; cases h1
  | inr l =>
    have hl := zparse_ok hi h1
    cases h2 : zrun l c0 0 with
    | inl k =>
      rw [sExe_f h1 h2]
      have := zrun_in l c0 0 k h2
      exact ⟨⟨he, by show -1 ≤ (k : Int); omega, by show (k : Int) ≤ 60; omega⟩, (fun z => by cases z)⟩
    | inr c2 =>
      rw [sExe_r h1 h2]
      exact ⟨⟨he, hf⟩, fun _ => (zrun_ok l c0 c2 0 (cOKj_0 hK) (by omega) h2).1⟩
theorem zVal.mEx (h : zVal N v gm tx inp out c0 sv hs er fa) {r : Int} (hm : mExe v gm r v1 g1 c0 hs (sExe c0 inp (v 20) (v 21))) :
    v1 6 = (sExe c0 inp er fa).1.1 ∧ ((sExe c0 inp er fa).1.1 = 0 → r = (sExe c0 inp er fa).1.2.2) ∧ ((sExe c0 inp er fa).1.1 ≠ 0 → zVal (N + 1) v1 g1 tx [] out c0 sv hs (sExe c0 inp er fa).2.1 (sExe c0 inp er fa).2.2) ∧ ((sExe c0 inp er fa).1.1 = 0 → zVal (N + 1) v1 g1 tx [] out (sExe c0 inp er fa).1.2.1 sv (pushH hs c0) (sExe c0 inp er fa).2.1 (sExe c0 inp er fa).2.2) := by
  have e1 := h.2.2.2.2.2.2.2.2.2.2.1
  have e2 := h.2.2.2.2.2.2.2.2.2.2.2.1
  rw [e1, e2] at hm
  obtain ⟨m1, m2, m3, m4, m5, m6, m7, m8, m9⟩ := hm
  have hv : ∀ k, vK k → k ≠ 5 → k ≠ 17 → k ≠ 20 → k ≠ 21 → v1 k = v k := fun k hk a b c d => by unfold vK at hk; exact m8 k a (by omega) (by omega) b (by omega) (by omega) c d (by omega)
  have hg : ∀ j, gK j → j ≠ 0 → j ≠ 4 → g1 j = gm j := fun j hj a b => by unfold gK at hj; exact m9 j a (by omega) b (by omega) (by omega) (by omega) (by omega)
  have h10 := h.svd (Nat.le_succ N) (hv 3 (by unfold vK; omega) (by decide) (by decide) (by decide) (by decide)) (hg 2 (by unfold gK; omega) (by decide) (by decide))
  obtain ⟨h1, h2, h3, h4, h5, h6, h7, h8, ⟨h9, h9b⟩, -, -, -, h13, h14⟩ := h
  have hb := sExe_b (c0 := c0) h2 h8.2.2.1 h13 h14
  have hT := h5.cong (hv 8 (by unfold vK; omega) (by decide) (by decide) (by decide) (by decide)) (hg 7 (by unfold gK; omega) (by decide) (by decide))
  have hO : mO v1 g1 out := h9.cong (hv 15 (by unfold vK; omega) (by decide) (by decide) (by decide) (by decide)) (hg 14 (by unfold gK; omega) (by decide) (by decide))
  have hI : mI v1 g1 [] := ⟨m3, (fun k x hk => by cases hk), by decide, (fun x hx => by cases hx)⟩
  refine ⟨m1, m2, fun t0 => ?_, fun t0 => ?_⟩
  · rw [if_neg t0] at m6 m7
    exact ⟨m6, cOK_mono h2 (Nat.le_succ N), m7, fun x hx => cOK_mono (h4 x hx) (Nat.le_succ N), hT, h6, h7, hI, ⟨hO, h9b⟩, h10, m4, m5, hb.1.1, hb.1.2⟩
  · rw [if_pos t0] at m6 m7
    exact ⟨m6, hb.2 t0, m7, fun x hx => (push_mem hx).elim (fun z => cOK_mono (h4 x z) (Nat.le_succ N)) (fun z => by rw [z]; exact cOK_mono h2 (Nat.le_succ N)), hT, h6, h7, hI, ⟨hO, h9b⟩, h10, m4, m5, hb.1.1, hb.1.2⟩
def sUn (hs : List zCo) : Int × Int := if hs.length = 0 then (1, 0) else (0, (hs.length : Int) - 1)
theorem zVal.mUn (h : zVal N v gm tx inp out c0 sv hs er fa) {r : Int} (hm : (v 5 = 0 ∧ upN v 6 1 = v1 ∧ gm = g1) ∨ (v 5 ≠ 0 ∧ upN (upN v 6 0) 5 (v 5 - 1) = v1 ∧ upG gm 0 (cpI (gm 4) (gm 0) (2439 * (v 5 - 1)) 0 2439) = g1 ∧ v 5 - 1 = r)) :
    v1 6 = (sUn hs).1 ∧ ((sUn hs).1 = 0 → r = (sUn hs).2) ∧ ((sUn hs).1 ≠ 0 → zVal (N + 1) v1 g1 tx inp out c0 sv hs er fa) ∧ ((sUn hs).1 = 0 → zVal (N + 1) v1 g1 tx inp out (hs.getD (hs.length - 1) cNew) sv (hs.eraseIdx (hs.length - 1)) er fa) := by
  have h5 := h.2.2.1.1
  rcases hm with ⟨c1, rfl, rfl⟩ | ⟨c1, rfl, rfl, rfl⟩
  · have e : sUn hs = (1, 0) := if_pos (by omega)
    rw [e]
    exact ⟨upN_s, (fun z => by cases z), fun _ => h.up rfl rfl, (fun z => by cases z)⟩
  · have e : sUn hs = (0, (hs.length : Int) - 1) := if_neg (by omega)
    rw [e]
    refine ⟨by rw [upN_n (by decide)]; exact upN_s, fun _ => by show v 5 - 1 = (hs.length : Int) - 1; omega, fun z => absurd rfl z, fun _ => ?_⟩
    have hv : ∀ k, vK k → k ≠ 5 → upN (upN v 6 0) 5 (v 5 - 1) k = v k := fun k hk k5 => by rw [upN_n k5, upN_n (by unfold vK at hk; omega)]
    have hg : ∀ j, gK j → j ≠ 0 → upG gm 0 (cpI (gm 4) (gm 0) (2439 * (v 5 - 1)) 0 2439) j = gm j := fun j hj j0 => upG_n j0
    have h10 := h.svd (Nat.le_succ N) (hv 3 (by unfold vK; omega) (by decide)) (hg 2 (by unfold gK; omega) (by decide))
    obtain ⟨h1, h2, h3, h4, a5, h6, h7, h8, ⟨h9, h9b⟩, -, h11, h12, h13⟩ := h
    have hlast : hs[hs.length - 1]? = some (hs.getD (hs.length - 1) cNew) := by
      rw [List.getD_eq_getElem?_getD, List.getElem?_eq_getElem (by omega)]; rfl
    have hK := h4 _ (List.mem_of_getElem? hlast)
    refine ⟨?_, cOK_mono hK (Nat.le_succ N), ⟨?_, ?_, fun j x hj => ?_⟩, fun x hx => cOK_mono (h4 x (List.mem_of_mem_eraseIdx hx)) (Nat.le_succ N), a5.cong (hv 8 (by unfold vK; omega) (by decide)) (hg 7 (by unfold gK; omega) (by decide)), h6, h7, h8.cong (hv 17 (by unfold vK; omega) (by decide)) (hg 16 (by unfold gK; omega) (by decide)), ⟨h9.cong (hv 15 (by unfold vK; omega) (by decide)) (hg 14 (by unfold gK; omega) (by decide)), h9b⟩, h10, (hv 20 (by unfold vK; omega) (by decide)).trans h11, (hv 21 (by unfold vK; omega) (by decide)).trans h12, h13⟩
    · rw [upG_s]
      refine mR_cong (h3.2.2 _ _ hlast) hK (fun k k0 k1 => ?_)
      rw [cpI_in (by omega)]
      congr 1
      omega
    · rw [upN_s, List.length_eraseIdx, if_pos (by omega)]; omega
    · rw [List.length_eraseIdx, if_pos (by omega)]; have := h3.2.1; omega
    · rw [hg 4 (by unfold gK; omega) (by decide)]
      have hjl := (List.getElem?_eq_some_iff.mp hj).1
      rw [List.length_eraseIdx, if_pos (by omega)] at hjl
      rw [List.getElem?_eraseIdx, if_pos hjl] at hj
      exact h3.2.2 j x hj
theorem zVal.mSa (h : zVal N v gm tx inp out c0 sv hs er fa) {r : Int} (hm : upN (upN v 6 0) 3 1 = v1 ∧ upG gm 2 (cpI (gm 0) (gm 2) 0 0 2439) = g1 ∧ gm 0 0 = r) : r = ((cAr c0).length : Int) ∧ zVal (N + 1) v1 g1 tx inp out c0 (some c0) hs er fa := by
  obtain ⟨rfl, rfl, rfl⟩ := hm
  have hv : ∀ k, vK k → k ≠ 3 → upN (upN v 6 0) 3 1 k = v k := fun k hk k3 => by rw [upN_n k3, upN_n (by unfold vK at hk; omega)]
  have hg : ∀ j, gK j → j ≠ 2 → upG gm 2 (cpI (gm 0) (gm 2) 0 0 2439) j = gm j := fun j hj j2 => upG_n j2
  obtain ⟨h1, h2, h3, h4, h5, h6, h7, h8, ⟨h9, h9b⟩, -, h11, h12, h13⟩ := h
  refine ⟨h1.1, by rw [hg 0 (by unfold gK; omega) (by decide)]; exact h1, cOK_mono h2 (Nat.le_succ N), h3.cong (hv 5 (by unfold vK; omega) (by decide)) (hg 4 (by unfold gK; omega) (by decide)), fun x hx => cOK_mono (h4 x hx) (Nat.le_succ N), h5.cong (hv 8 (by unfold vK; omega) (by decide)) (hg 7 (by unfold gK; omega) (by decide)), h6, h7, h8.cong (hv 17 (by unfold vK; omega) (by decide)) (hg 16 (by unfold gK; omega) (by decide)), ⟨h9.cong (hv 15 (by unfold vK; omega) (by decide)) (hg 14 (by unfold gK; omega) (by decide)), h9b⟩, Or.inr ⟨upN_s, c0, rfl, ?_, cOK_mono h2 (Nat.le_succ N)⟩, (hv 20 (by unfold vK; omega) (by decide)).trans h11, (hv 21 (by unfold vK; omega) (by decide)).trans h12, h13⟩
  rw [upG_s]
  refine mR_cong h1 h2 (fun k k0 k1 => ?_)
  rw [cpI_in (by omega)]
  congr 1
  omega
def sRe (sv : Option zCo) : Int × Int := match sv with
  | none => (1, 0)
  | some d => (0, ((cAr d).length : Int))
theorem zVal.mRe (h : zVal N v gm tx inp out c0 sv hs er fa) {r : Int} (hm : (v 3 = 0 ∧ upN v 6 1 = v1 ∧ gm = g1) ∨ (v 3 = 1 ∧ upN (upN v 6 0) 5 0 = v1 ∧ upG gm 0 (cpI (gm 2) (gm 0) 0 0 2439) = g1 ∧ cpI (gm 2) (gm 0) 0 0 2439 0 = r)) :
    v1 6 = (sRe sv).1 ∧ ((sRe sv).1 = 0 → r = (sRe sv).2) ∧ ((sRe sv).1 ≠ 0 → zVal (N + 1) v1 g1 tx inp out c0 sv hs er fa) ∧ ((sRe sv).1 = 0 → ∀ d1, sv = some d1 → zVal (N + 1) v1 g1 tx inp out d1 sv [] er fa) := by
  have hs10 := h.2.2.2.2.2.2.2.2.2.1
  rcases hs10 with ⟨s1, rfl⟩ | ⟨s1, d, rfl, s2, s3⟩
  · rcases hm with ⟨c1, rfl, rfl⟩ | ⟨c1, rfl, rfl, rfl⟩
    · exact ⟨upN_s, (fun z => by cases z), fun _ => h.up rfl rfl, (fun z => by cases z)⟩
    · omega
  · rcases hm with ⟨c1, rfl, rfl⟩ | ⟨c1, rfl, rfl, rfl⟩
    · omega
    · have e0 : cpI (gm 2) (gm 0) 0 0 2439 0 = ((cAr d).length : Int) := by rw [cpI_in (by decide)]; exact s2.1
      refine ⟨by rw [upN_n (by decide)]; exact upN_s, fun _ => e0, fun z => absurd rfl z, fun _ d1 hd1 => ?_⟩
      cases hd1
      have hv : ∀ k, vK k → k ≠ 5 → upN (upN v 6 0) 5 0 k = v k := fun k hk k5 => by rw [upN_n k5, upN_n (by unfold vK at hk; omega)]
      have hg : ∀ j, gK j → j ≠ 0 → upG gm 0 (cpI (gm 2) (gm 0) 0 0 2439) j = gm j := fun j hj j0 => upG_n j0
      have h10 := h.svd (Nat.le_succ N) (hv 3 (by unfold vK; omega) (by decide)) (hg 2 (by unfold gK; omega) (by decide))
      obtain ⟨h1, h2, h3, h4, a5, h6, h7, h8, ⟨h9, h9b⟩, -, h11, h12, h13⟩ := h
      refine ⟨?_, cOK_mono s3 (Nat.le_succ N), ⟨upN_s, by decide, (fun j x hj => by cases hj)⟩, (fun x hx => by cases hx), a5.cong (hv 8 (by unfold vK; omega) (by decide)) (hg 7 (by unfold gK; omega) (by decide)), h6, h7, h8.cong (hv 17 (by unfold vK; omega) (by decide)) (hg 16 (by unfold gK; omega) (by decide)), ⟨h9.cong (hv 15 (by unfold vK; omega) (by decide)) (hg 14 (by unfold gK; omega) (by decide)), h9b⟩, h10, (hv 20 (by unfold vK; omega) (by decide)).trans h11, (hv 21 (by unfold vK; omega) (by decide)).trans h12, h13⟩
      rw [upG_s]
      refine mR_cong s2 s3 (fun k k0 k1 => ?_)
      rw [cpI_in (by omega)]
      congr 1
      omega
end VAL2
