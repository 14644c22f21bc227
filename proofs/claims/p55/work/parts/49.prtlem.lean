/-! printing an issue -/
theorem mR_cong2 {N : Nat} {f f' : Int → Int} {c : zCo} (h : mR f c) (hK : cOK N c) (hf : ∀ k : Int, 0 ≤ k → k < 2367 + 18 * (cIs c).length → f' k = f k) : mR f' c := by
  obtain ⟨e0, e1, e2, e3, e4, e5, e6, e7, e8, ha, hi⟩ := h
  have hla := hK.1
  have hli := hK.2.1
  have g : ∀ k : Int, 0 ≤ k → k < 9 → ∀ x, f k = x → f' k = x := fun k h1 h2 x hx => (hf k h1 (by omega)).trans hx
  refine ⟨g 0 (by omega) (by omega) _ e0, g 1 (by omega) (by omega) _ e1, g 2 (by omega) (by omega) _ e2, g 3 (by omega) (by omega) _ e3, g 4 (by omega) (by omega) _ e4, g 5 (by omega) (by omega) _ e5, g 6 (by omega) (by omega) _ e6, g 7 (by omega) (by omega) _ e7, g 8 (by omega) (by omega) _ e8, fun i a hA => ?_, fun i s hS => ?_⟩
  · have hil := (List.getElem?_eq_some_iff.mp hA).1
    refine rAr_cong (ha i a hA) (hK.2.2.1 a (List.mem_of_getElem? hA)) (fun k h1 h2 => ?_)
    exact hf _ (by omega) (by omega)
  · have hil := (List.getElem?_eq_some_iff.mp hS).1
    refine rIs_cong (hi i s hS) (hK.2.2.2.2.1 s (List.mem_of_getElem? hS)) (fun k h1 h2 => ?_)
    exact hf _ (by omega) (by omega)
def dropI (l : List zIs) : List zIs := if l.length = 4 then l.drop 1 else l
def cDrp (c : zCo) : zCo := (cAr c, dropI (cIs c), cNi c, cNn c, cWi c, cCo c, cHe c, cDa c, cLa c)
theorem dropI_len {l : List zIs} (h : l.length ≤ 4) : (dropI l).length ≤ 3 := by
  unfold dropI
  split
  · rw [List.length_drop]; omega
  · omega
theorem dropI_mem {l : List zIs} {s : zIs} (h : s ∈ dropI l) : s ∈ l := by
  unfold dropI at h
  split at h
  · exact List.mem_of_mem_drop h
  · exact h
theorem cOK_drp {N : Nat} {c : zCo} (h : cOK N c) : cOK N (cDrp c) := by
  obtain ⟨h1, h2, h3, h4, h5, h6, h7⟩ := h
  refine ⟨h1, Nat.le_trans (dropI_len h2) (by decide), h3, h4, fun s hs => h5 s (dropI_mem hs), ?_, h7⟩
  show (dropI (cIs c)).Pairwise _
  unfold dropI
  split
  · exact h6.drop
  · exact h6
theorem mR_drp {N : Nat} {f f' : Int → Int} {c : zCo} (h : mR f c) (hK : cOK N c) (h4 : (cIs c).length = 4) (h7 : f' 7 = 3) (hf : ∀ k : Int, 0 ≤ k → k < 2367 → k ≠ 7 → f' k = f k) (hs : ∀ k : Int, 2367 ≤ k → k < 2421 → f' k = f (k + 18)) : mR f' (cDrp c) := by
  obtain ⟨e0, e1, e2, e3, e4, e5, e6, e7, e8, ha, hi⟩ := h
  have hla := hK.1
  have e : dropI (cIs c) = (cIs c).drop 1 := if_pos h4
  refine ⟨(hf 0 (by omega) (by omega) (by omega)).trans e0, (hf 1 (by omega) (by omega) (by omega)).trans e1, (hf 2 (by omega) (by omega) (by omega)).trans e2, (hf 3 (by omega) (by omega) (by omega)).trans e3, (hf 4 (by omega) (by omega) (by omega)).trans e4, (hf 5 (by omega) (by omega) (by omega)).trans e5, (hf 6 (by omega) (by omega) (by omega)).trans e6, ?_, (hf 8 (by omega) (by omega) (by omega)).trans e8, fun i a hA => ?_, fun i s hS => ?_⟩
  · show f' 7 = ((dropI (cIs c)).length : Int)
    rw [e, List.length_drop, h7]
    omega
  · have hA : (cAr c)[i]? = some a := hA
    have hil := (List.getElem?_eq_some_iff.mp hA).1
    refine rAr_cong (ha i a hA) (hK.2.2.1 a (List.mem_of_getElem? hA)) (fun k h1 h2 => ?_)
    exact hf _ (by omega) (by omega) (by omega)
  · replace hS : (dropI (cIs c))[i]? = some s := hS
    rw [e, List.getElem?_drop] at hS
    have hil := (List.getElem?_eq_some_iff.mp hS).1
    obtain ⟨b1, b2, b3, b4, b5, b6, b7⟩ := hi (1 + i) s hS
    have hk := hK.2.2.2.2.1 s (List.mem_of_getElem? hS)
    have key : ∀ k : Int, 0 ≤ k → k < 18 → moi f' i k = moi f ((1 + i : Nat) : Int) k := by
      intro k z1 z2
      unfold moi
      rw [hs _ (by omega) (by omega)]
      congr 1
      push_cast
      omega
    refine ⟨(key 0 (by omega) (by omega)).trans b1, (key 1 (by omega) (by omega)).trans b2, (key 2 (by omega) (by omega)).trans b3, (key 3 (by omega) (by omega)).trans b4, (key 4 (by omega) (by omega)).trans b5, (key 5 (by omega) (by omega)).trans b6, fun k q hq => ?_⟩
    have hkl := (List.getElem?_eq_some_iff.mp hq).1
    have h6l := hk.2.2.2.2.1
    exact ⟨(key _ (by omega) (by omega)).trans (b7 k q hq).1, (key _ (by omega) (by omega)).trans (b7 k q hq).2⟩
theorem mR_drp0 {f : Int → Int} {c : zCo} (h : mR f c) (h4 : (cIs c).length ≠ 4) : mR f (cDrp c) := by
  have e : dropI (cIs c) = cIs c := if_neg h4
  have : cDrp c = c := by
    unfold cDrp
    rw [e]
    rfl
  rw [this]; exact h
/-- an article takes its place on the page, or is left out -/
def zplc (c : zCo) (st : List (Int × Int) × Int) (a : Option zAr) : List (Int × Int) × Int := match a with
  | none => st
  | some a => match zlines (cWi c) a.2.2 with
    | none => st
    | some ls => if st.2 + ls.length ≤ cCo c * cHe c then (st.1 ++ [(a.1, st.2)], st.2 + ls.length) else st
def zfill (c : zCo) : Nat → List (Int × Int) × Int
  | 0 => ([], 0)
  | k + 1 => zplc c (zfill c k) (zrk (cAr c) k)
def zissue (c : zCo) : zIs := (cNn c, cCo c, cHe c, (zfill c (cAr c).length).2, (zfill c (cAr c).length).1, cDa c)
def cPrt (c : zCo) : zCo := (cAr c, dropI (cIs c) ++ [zissue c], cNi c, cNn c + 1, cWi c, cCo c, cHe c, cDa c, cLa c)
def sPrt (c : zCo) : Int × zCo × Int := if (cAr c).length = 0 then (1, c, 0) else (0, cPrt c, cNn c)
theorem sPrt_p (c : zCo) : 0 ≤ (sPrt c).1 := by
  unfold sPrt
  split
  · exact (by decide : (0 : Int) ≤ 1)
  · exact Int.le_refl 0
theorem zfill_ok {N : Nat} {c : zCo} (hK : cOK N c) : ∀ k, (zfill c k).1.length ≤ k ∧ 0 ≤ (zfill c k).2 ∧ (zfill c k).2 ≤ cCo c * cHe c
  | 0 => by
    have h1 := hK.2.2.2.2.2.2.2.2.2.1
    have h2 := hK.2.2.2.2.2.2.2.2.2.2.1
    have h3 : cCo c = 1 ∨ cCo c = 2 ∨ cCo c = 3 ∨ cCo c = 4 := by omega
    refine ⟨Nat.le_refl 0, Int.le_refl 0, ?_⟩
    show (0 : Int) ≤ _
    rcases h3 with e | e | e | e <;> rw [e] <;> omega
  | k + 1 => by
    obtain ⟨a, b, d⟩ := zfill_ok hK k
    show (zplc c (zfill c k) _).1.length ≤ k + 1 ∧ 0 ≤ (zplc c (zfill c k) _).2 ∧ (zplc c (zfill c k) _).2 ≤ _
    unfold zplc
    split
    · exact ⟨by omega, b, d⟩
    · split
      · exact ⟨by omega, b, d⟩
      · split
        · refine ⟨?_, ?_, by assumption⟩
          · rw [List.length_append, List.length_singleton]; omega
          · show 0 ≤ (zfill c k).2 + _
            omega
        · exact ⟨by omega, b, d⟩
theorem cpg {N : Nat} {c : zCo} (hK : cOK N c) : 1 ≤ cCo c * cHe c ∧ cCo c * cHe c ≤ 80 := by
  have h1 := hK.2.2.2.2.2.2.2.2.2.1
  have h2 := hK.2.2.2.2.2.2.2.2.2.2.1
  have h3 : cCo c = 1 ∨ cCo c = 2 ∨ cCo c = 3 ∨ cCo c = 4 := by omega
  rcases h3 with e | e | e | e <;> rw [e] <;> omega
theorem zfill_no {c : zCo} {k : Nat} {a : zAr} (h : zrk (cAr c) k = some a) (hz : zlines (cWi c) a.2.2 = none) : zfill c (k + 1) = zfill c k := by
  show zplc c (zfill c k) (zrk (cAr c) k) = _
  rw [h]; unfold zplc; simp only []; rw [hz]
theorem zfill_no2 {c : zCo} {k : Nat} {a : zAr} {ls : List zWd} (h : zrk (cAr c) k = some a) (hz : zlines (cWi c) a.2.2 = some ls) (hl : ¬ (zfill c k).2 + ls.length ≤ cCo c * cHe c) : zfill c (k + 1) = zfill c k := by
  show zplc c (zfill c k) (zrk (cAr c) k) = _
  rw [h]; unfold zplc; simp only []; rw [hz]; simp only []; rw [if_neg hl]
theorem zfill_yes {c : zCo} {k : Nat} {a : zAr} {ls : List zWd} (h : zrk (cAr c) k = some a) (hz : zlines (cWi c) a.2.2 = some ls) (hl : (zfill c k).2 + ls.length ≤ cCo c * cHe c) : zfill c (k + 1) = ((zfill c k).1 ++ [(a.1, (zfill c k).2)], (zfill c k).2 + ls.length) := by
  show zplc c (zfill c k) (zrk (cAr c) k) = _
  rw [h]; unfold zplc; simp only []; rw [hz]; simp only []; rw [if_pos hl]
/-- the row of an issue being printed: k articles considered -/
def zprow (f : Int → Int) (at_ : Int) (c : zCo) (k : Nat) : Prop := f at_ = cNn c ∧ f (at_ + 1) = cDa c ∧ f (at_ + 2) = cCo c ∧ f (at_ + 3) = cHe c ∧ f (at_ + 4) = (zfill c k).2 ∧ f (at_ + 5) = (zfill c k).1.length ∧ ∀ (i : Nat) (q : Int × Int), (zfill c k).1[i]? = some q → f (at_ + 6 + 2 * i) = q.1 ∧ f (at_ + 6 + 2 * i + 1) = q.2
theorem mR_prt {N : Nat} {f f' : Int → Int} {c : zCo} (h : mR f (cDrp c)) (hK : cOK N c) (hr : zprow f (2367 + 18 * ((cIs (cDrp c)).length : Int)) c (cAr c).length) (h7 : f' 7 = f 7 + 1) (h8 : f' 8 = f 8 + 1) (hf : ∀ k : Int, k ≠ 7 → k ≠ 8 → f' k = f k) : mR f' (cPrt c) := by
  obtain ⟨e0, e1, e2, e3, e4, e5, e6, e7, e8, ha, hi⟩ := h
  have hla := hK.1
  have hli := dropI_len hK.2.1
  have hK1 := cOK_drp hK
  obtain ⟨r0, r1, r2, r3, r4, r5, r6⟩ := hr
  refine ⟨(hf 0 (by omega) (by omega)).trans e0, (hf 1 (by omega) (by omega)).trans e1, (hf 2 (by omega) (by omega)).trans e2, (hf 3 (by omega) (by omega)).trans e3, (hf 4 (by omega) (by omega)).trans e4, (hf 5 (by omega) (by omega)).trans e5, (hf 6 (by omega) (by omega)).trans e6, ?_, ?_, fun i a hA => ?_, fun i s hS => ?_⟩
  · show f' 7 = ((dropI (cIs c) ++ [zissue c]).length : Int)
    rw [List.length_append, List.length_singleton, h7, e7]
    rfl
  · show f' 8 = cNn c + 1
    rw [h8, e8]
    rfl
  · have hA : (cAr c)[i]? = some a := hA
    have hil := (List.getElem?_eq_some_iff.mp hA).1
    refine rAr_cong (ha i a hA) (hK.2.2.1 a (List.mem_of_getElem? hA)) (fun k h1 h2 => ?_)
    exact hf _ (by omega) (by omega)
  · replace hS : (dropI (cIs c) ++ [zissue c])[i]? = some s := hS
    have hil := (List.getElem?_eq_some_iff.mp hS).1
    rw [List.length_append, List.length_singleton] at hil
    by_cases q : i < (dropI (cIs c)).length
    · rw [List.getElem?_append_left q] at hS
      refine rIs_cong (hi i s hS) (hK1.2.2.2.2.1 s (List.mem_of_getElem? hS)) (fun k h1 h2 => ?_)
      exact hf _ (by omega) (by omega)
    · have e : i = (dropI (cIs c)).length := by omega
      rw [List.getElem?_append_right (by omega)] at hS
      rw [e] at hS
      simp at hS
      subst hS
      have e2 : (i : Int) = ((cIs (cDrp c)).length : Int) := by rw [e]; rfl
      have hfl := (zfill_ok hK (cAr c).length).1
      unfold rIs
      rw [e2]
      unfold moi
      refine ⟨?_, ?_, ?_, ?_, ?_, ?_, fun k q hq => ?_⟩
      · rw [hf _ (by omega) (by omega), Int.add_zero]; exact r0
      · rw [hf _ (by omega) (by omega)]; exact r1
      · rw [hf _ (by omega) (by omega)]; exact r2
      · rw [hf _ (by omega) (by omega)]; exact r3
      · rw [hf _ (by omega) (by omega)]; exact r4
      · rw [hf _ (by omega) (by omega)]; exact r5
      · have := r6 k q hq
        rw [hf _ (by omega) (by omega), hf _ (by omega) (by omega)]
        refine ⟨?_, ?_⟩
        · rw [← this.1]; congr 1; omega
        · rw [← this.2]; congr 1; omega
theorem mDo_wid {N : Nat} {v : Nat → Int} {g : Nat → Int → Int} {r : Int} {v1 : Nat → Int} {g1 : Nat → Int → Int} {c : zCo} {x : Int} (hR : mR (g 0) c) (hK : cOK N c) (h : (¬ (4 ≤ x ∧ x ≤ 20) ∧ upN v 6 1 = v1 ∧ g = g1 ∧ 0 = r) ∨ ((4 ≤ x ∧ x ≤ 20) ∧ v = v1 ∧ upG g 0 (upI (g 0) 2 x) = g1 ∧ g 0 2 = r)) : mDo v g r v1 g1 (sWid c x) v := by
  rcases h with ⟨h1, h2, h3, h4⟩ | ⟨h1, rfl, rfl, rfl⟩
  · unfold sWid
    rw [if_neg h1]
    exact Or.inl ⟨(by decide : (1 : Int) ≠ 0), h2, h3, h4⟩
  · unfold sWid
    rw [if_pos h1]
    refine Or.inr ⟨rfl, fun _ _ => rfl, fun j h0 _ _ _ => upG_n h0, ?_, ?_⟩
    · rw [upG_s]
      obtain ⟨e0, e1, e2, e3, e4, e5, e6, e7, e8, -⟩ := id hR
      refine mR_set hR hK rfl rfl (fun k hk => upI_n (by omega)) (upI_n (by decide)) ?_ upI_s ?_ ?_ ?_ ?_ (upI_n (by decide)) ?_
      · rw [upI_n (by decide)]; exact e1
      · rw [upI_n (by decide)]; exact e3
      · rw [upI_n (by decide)]; exact e4
      · rw [upI_n (by decide)]; exact e5
      · rw [upI_n (by decide)]; exact e6
      · rw [upI_n (by decide)]; exact e8
    · exact hR.2.2.1.symm
theorem mDo_pag {N : Nat} {v : Nat → Int} {g : Nat → Int → Int} {r : Int} {v1 : Nat → Int} {g1 : Nat → Int → Int} {c : zCo} {x y : Int} (hR : mR (g 0) c) (hK : cOK N c) (h : (¬ ((1 ≤ x ∧ x ≤ 4) ∧ 1 ≤ y ∧ y ≤ 20) ∧ upN v 6 1 = v1 ∧ g = g1 ∧ 0 = r) ∨ (((1 ≤ x ∧ x ≤ 4) ∧ 1 ≤ y ∧ y ≤ 20) ∧ v = v1 ∧ upG g 0 (upI (upI (g 0) 3 x) 4 y) = g1 ∧ x * y = r)) : mDo v g r v1 g1 (sPag c x y) v := by
  rcases h with ⟨h1, h2, h3, h4⟩ | ⟨h1, rfl, rfl, rfl⟩
  · unfold sPag
    rw [if_neg h1]
    exact Or.inl ⟨(by decide : (1 : Int) ≠ 0), h2, h3, h4⟩
  · unfold sPag
    rw [if_pos h1]
    refine Or.inr ⟨rfl, fun _ _ => rfl, fun j h0 _ _ _ => upG_n h0, ?_, rfl⟩
    rw [upG_s]
    obtain ⟨e0, e1, e2, e3, e4, e5, e6, e7, e8, -⟩ := id hR
    refine mR_set hR hK rfl rfl (fun k hk => by rw [upI_n (by omega), upI_n (by omega)]) (by rw [upI_n (by decide), upI_n (by decide)]) ?_ ?_ ?_ upI_s ?_ ?_ (by rw [upI_n (by decide), upI_n (by decide)]) ?_
    · rw [upI_n (by decide), upI_n (by decide)]; exact e1
    · rw [upI_n (by decide), upI_n (by decide)]; exact e2
    · rw [upI_n (by decide), upI_s]; rfl
    · rw [upI_n (by decide), upI_n (by decide)]; exact e5
    · rw [upI_n (by decide), upI_n (by decide)]; exact e6
    · rw [upI_n (by decide), upI_n (by decide)]; exact e8
