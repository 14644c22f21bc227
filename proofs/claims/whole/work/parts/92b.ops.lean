section OPS
variable {N : Nat} {v v1 : Nat → Int} {gm g1 : Nat → Int → Int} {tx inp out : List Int} {c0 : zCo} {sv : Option zCo} {hs : List zCo} {er fa : Int}
theorem cOK_add {c : zCo} {x : Int} {ws : List zWd} (hK : cOK N c) (h6 : (cAr c).length < 6) (hx : 1 ≤ x ∧ x ≤ 9) (hw : 1 ≤ ws.length ∧ ws.length ≤ 30) (hwo : ∀ w ∈ ws, wdOK w) : cOK (N + 1) (cAdd c x ws) := by
  obtain ⟨a1, a2, a3, a4, a5, a6, a7, a8, a9, a10, a11, a12, a13⟩ := hK
  refine ⟨?_, a2, fun a ha => ?_, ?_, fun s hs => isOK_ni (a5 s hs) (by show cNi c ≤ cNi c + 1; omega), a6, ⟨by show 0 ≤ cNi c + 1; omega, by show cNi c + 1 ≤ ((N + 1 : Nat) : Int); omega⟩, ⟨a8.1, by show cNn c ≤ 10 * ((N + 1 : Nat) : Int); omega⟩, a9, a10, a11, ⟨a12.1, by show cDa c ≤ 300 * ((N + 1 : Nat) : Int); omega⟩, a13.1, by show cLa c ≤ ((N + 1 : Nat) : Int); omega⟩
  · show (cAr c ++ [(cNi c, x, ws)]).length ≤ 6
    rw [List.length_append, List.length_singleton]; omega
  · rcases List.mem_append.mp (show a ∈ cAr c ++ [(cNi c, x, ws)] from ha) with e | e
    · obtain ⟨b1, b2⟩ := a3 a e
      exact ⟨⟨b1.1, by show a.1 < cNi c + 1; omega⟩, b2⟩
    · rw [List.mem_singleton.mp e]
      exact ⟨⟨a7.1, by show cNi c < cNi c + 1; omega⟩, hx, hw, hwo⟩
  · show (cAr c ++ [(cNi c, x, ws)]).Pairwise _
    rw [List.pairwise_append]
    refine ⟨a4, by simp, fun p hp q hq => ?_⟩
    rw [List.mem_singleton.mp hq]
    exact (a3 p hp).1.2
theorem cOK_cor {c : zCo} {i w : Nat} {a : zAr} {wd : zWd} {late : Bool} (hK : cOK N c) (hi : (cAr c)[i]? = some a) (hw : wdOK wd) : cOK (N + 1) (cCor c i a w wd late) := by
  obtain ⟨a1, a2, a3, a4, a5, a6, a7, a8, a9, a10, a11, a12, a13⟩ := hK
  have hl : (if late then 1 else 0 : Int) = 0 ∨ (if late then 1 else 0 : Int) = 1 := by cases late <;> simp
  refine ⟨?_, a2, fun b hb => ?_, ?_, a5, a6, ⟨a7.1, by show cNi c ≤ ((N + 1 : Nat) : Int); omega⟩, ⟨a8.1, by show cNn c ≤ 10 * ((N + 1 : Nat) : Int); omega⟩, a9, a10, a11, ⟨a12.1, by show cDa c ≤ 300 * ((N + 1 : Nat) : Int); omega⟩, by show 0 ≤ cLa c + (if late then 1 else 0 : Int); omega, by show cLa c + (if late then 1 else 0 : Int) ≤ ((N + 1 : Nat) : Int); omega⟩
  · show ((cAr c).set i _).length ≤ 6
    rw [List.length_set]; exact a1
  · have hb2 : b ∈ (cAr c).set i (a.1, a.2.1, a.2.2.set w wd) := hb
    rcases List.mem_or_eq_of_mem_set hb2 with e | e
    · exact a3 b e
    · obtain ⟨b1, b2, b3, b4⟩ := a3 a (List.mem_of_getElem? hi)
      rw [e]
      refine ⟨b1, b2, by show 1 ≤ (a.2.2.set w wd).length ∧ (a.2.2.set w wd).length ≤ 30; rw [List.length_set]; exact b3, fun y hy => ?_⟩
      rcases List.mem_or_eq_of_mem_set (show y ∈ a.2.2.set w wd from hy) with z | z
      · exact b4 y z
      · rw [z]; exact hw
  · show ((cAr c).set i (a.1, a.2.1, a.2.2.set w wd)).Pairwise (fun a b => a.1 < b.1)
    have hm : ((cAr c).set i (a.1, a.2.1, a.2.2.set w wd)).map (·.1) = (cAr c).map (·.1) := by
      refine List.ext_getElem? (fun j => ?_)
      rw [List.getElem?_map, List.getElem?_map, List.getElem?_set]
      by_cases q : i = j
      · rw [if_pos q, ← q, hi]
        by_cases q2 : i < (cAr c).length
        · rw [if_pos q2]; rfl
        · rw [List.getElem?_eq_none (by omega)] at hi; cases hi
      · rw [if_neg q]
    have h2 : ((cAr c).map (·.1)).Pairwise (fun x y : Int => x < y) := List.pairwise_map.mpr a4
    rw [← hm] at h2
    exact List.pairwise_map.mp h2
theorem sAdd_K {x : Int} (h : zVal N v gm tx inp out c0 sv hs er fa) (h0 : (sAdd c0 x tx).1 = 0) : cOK (N + 1) (sAdd c0 x tx).2.1 := by
  obtain ⟨-, hK, -, -, -, h60, hz, -⟩ := h
  by_cases c1 : 1 ≤ x ∧ x ≤ 9
  · by_cases c2 : (cAr c0).length = 6
    · rw [sAdd_2 c1 c2] at h0; cases h0
    · by_cases c3 : zat tx
      · rw [sAdd_0 c1 c2 c3]
        have hz3 := zat_30 c3 h60
        exact cOK_add hK (by have := hK.1; omega) c1 hz3 (fun w hw => by
          obtain ⟨i, hi⟩ := List.getElem?_of_mem hw
          exact zsp_wdOK c3 hz hi)
      · rw [sAdd_3 c1 c2 c3] at h0; cases h0
  · rw [sAdd_1 c1] at h0; cases h0
theorem sCor_c {c : zCo} {x b : Int} {tx : List Int} (h0 : (sCor c x b tx).1 = 0) : ∃ (i : Nat) (a : zAr) (wd : zWd), (cAr c)[i]? = some a ∧ zwd a b = some wd ∧ zatB tx = true ∧ (zsp tx).length = 1 ∧ sCor c x b tx = (0, cCor c i a b.toNat ((zsp tx).headD []) (zlate c x), (wd.length : Int)) := by
  unfold sCor at h0 ⊢
  cases h1 : zix (cAr c) x with
  | none => rw [h1] at h0; cases h0
  | some i =>
    rw [h1] at h0
    simp only [] at h0 ⊢
    cases h2 : (cAr c)[i]? with
    | none => rw [h2] at h0; cases h0
    | some a =>
      rw [h2] at h0
      simp only [] at h0 ⊢
      cases h3 : zwd a b with
      | none => rw [h3] at h0; cases h0
      | some wd =>
        rw [h3] at h0
        simp only [] at h0 ⊢
        by_cases c4 : zatB tx = true ∧ (zsp tx).length = 1
        · exact ⟨i, a, wd, h2, h3, c4.1, c4.2, by rw [if_pos c4]⟩
        · rw [if_neg c4] at h0; cases h0
theorem sCor_K {x b : Int} (h : zVal N v gm tx inp out c0 sv hs er fa) (h0 : (sCor c0 x b tx).1 = 0) : cOK (N + 1) (sCor c0 x b tx).2.1 := by
  obtain ⟨-, hK, -, -, -, h60, hz, -⟩ := h
  obtain ⟨i, a, wd, h1, h2, h3, h4, e⟩ := sCor_c h0
  rw [e]
  have hb := ((zone_iff tx).mpr ⟨h3, h4⟩).2.2
  exact cOK_cor hK h1 (zsp_wdOK ((zatB_iff tx).mp h3) hz (i := 0) (by rw [zsp_one hb]; rfl))
theorem sRem_K {x : Int} (hK : cOK N c0) (h0 : (sRem c0 x).1 = 0) : cOK (N + 1) (sRem c0 x).2.1 := by
  cases h1 : zix (cAr c0) x with
  | none => rw [sRem_1 h1] at h0; cases h0
  | some i => rw [sRem_0 h1]; exact cOK_mono (cOK_rem hK i) (Nat.le_succ N)
theorem sWid_K {x : Int} (hK : cOK N c0) (h0 : (sWid c0 x).1 = 0) : cOK (N + 1) (sWid c0 x).2.1 := by
  by_cases c : 4 ≤ x ∧ x ≤ 20
  · rw [sWid_0 c]; exact cOK_mono (cOK_wid hK c) (Nat.le_succ N)
  · rw [sWid_1 c] at h0; cases h0
theorem sPag_K {x y : Int} (hK : cOK N c0) (h0 : (sPag c0 x y).1 = 0) : cOK (N + 1) (sPag c0 x y).2.1 := by
  by_cases c : (1 ≤ x ∧ x ≤ 4) ∧ 1 ≤ y ∧ y ≤ 20
  · rw [sPag_0 c]; exact cOK_mono (cOK_pag hK c) (Nat.le_succ N)
  · rw [sPag_1 c] at h0; cases h0
theorem sDay_K {x : Int} (hK : cOK N c0) (h0 : (sDay c0 x).1 = 0) : cOK (N + 1) (sDay c0 x).2.1 := by
  have h12 := hK.2.2.2.2.2.2.2.2.2.2.2.1
  by_cases c : 1 ≤ x ∧ x ≤ 30
  · rw [sDay_0 c]; exact cOK_day hK c.1 (N + 1) (Nat.le_succ N) (by omega)
  · rw [sDay_1 c] at h0; cases h0
theorem sPrt_K (hK : cOK N c0) (h0 : (sPrt c0).1 = 0) : cOK (N + 1) (sPrt c0).2.1 := by
  have h8 := hK.2.2.2.2.2.2.2.1
  by_cases c : (cAr c0).length = 0
  · rw [sPrt_1 c] at h0; cases h0
  · rw [sPrt_0 c]; exact cOK_prt hK (N + 1) (Nat.le_succ N) (by omega)
theorem sAdd_R {x : Int} (hK : cOK N c0) (hN : N ≤ 900) (h0 : (sAdd c0 x tx).1 = 0) : InR (sAdd c0 x tx).2.2 := by
  have h7 := hK.2.2.2.2.2.2.1
  by_cases c1 : 1 ≤ x ∧ x ≤ 9
  · by_cases c2 : (cAr c0).length = 6
    · rw [sAdd_2 c1 c2] at h0; cases h0
    · by_cases c3 : zat tx
      · rw [sAdd_0 c1 c2 c3]; show InR (cNi c0); unfold InR; omega
      · rw [sAdd_3 c1 c2 c3] at h0; cases h0
  · rw [sAdd_1 c1] at h0; cases h0
theorem sCor_R {x b : Int} (hK : cOK N c0) (h0 : (sCor c0 x b tx).1 = 0) : InR (sCor c0 x b tx).2.2 := by
  obtain ⟨i, a, wd, h1, h2, h3, h4, e⟩ := sCor_c h0
  rw [e]
  have h5 := (zwd_OK (hK.2.2.1 a (List.mem_of_getElem? h1)) h2).1
  show InR (wd.length : Int)
  unfold InR; omega
theorem sRem_R {x : Int} (hK : cOK N c0) (h0 : (sRem c0 x).1 = 0) : InR (sRem c0 x).2.2 := by
  have h6 := hK.1
  cases h1 : zix (cAr c0) x with
  | none => rw [sRem_1 h1] at h0; cases h0
  | some i => rw [sRem_0 h1]; show InR (((cAr c0).length : Int) - 1); unfold InR; omega
theorem sWid_R {x : Int} (hK : cOK N c0) (h0 : (sWid c0 x).1 = 0) : InR (sWid c0 x).2.2 := by
  have h9 := hK.2.2.2.2.2.2.2.2.1
  by_cases c : 4 ≤ x ∧ x ≤ 20
  · rw [sWid_0 c]; show InR (cWi c0); unfold InR; omega
  · rw [sWid_1 c] at h0; cases h0
theorem sPag_R {x y : Int} (h0 : (sPag c0 x y).1 = 0) : InR (sPag c0 x y).2.2 := by
  by_cases c : (1 ≤ x ∧ x ≤ 4) ∧ 1 ≤ y ∧ y ≤ 20
  · rw [sPag_0 c]
    show InR (x * y)
    have h3 : x = 1 ∨ x = 2 ∨ x = 3 ∨ x = 4 := by omega
    unfold InR
    rcases h3 with e | e | e | e <;> rw [e] <;> omega
  · rw [sPag_1 c] at h0; cases h0
theorem sDay_R {x : Int} (hK : cOK N c0) (h0 : (sDay c0 x).1 = 0) : InR (sDay c0 x).2.2 := by
  have h4 := hK.2.1
  by_cases c : 1 ≤ x ∧ x ≤ 30
  · rw [sDay_0 c]
    show InR (zlost (cDa c0) x (cIs c0))
    unfold zlost
    have := List.countP_le_length (l := cIs c0) (p := fun i => decide (cDa c0 - iPr i < 5) && decide (5 ≤ cDa c0 - iPr i + x))
    unfold InR; omega
  · rw [sDay_1 c] at h0; cases h0
theorem sPrt_R (hK : cOK N c0) (hN : N ≤ 900) (h0 : (sPrt c0).1 = 0) : InR (sPrt c0).2.2 := by
  have h8 := hK.2.2.2.2.2.2.2.1
  by_cases c : (cAr c0).length = 0
  · rw [sPrt_1 c] at h0; cases h0
  · rw [sPrt_0 c]; show InR (cNn c0); unfold InR; omega
end OPS
