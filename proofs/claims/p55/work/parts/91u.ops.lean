theorem push_len {hs : List zCo} {c : zCo} (h : hs.length ≤ 8) : (pushH hs c).length ≤ 8 := by
  unfold pushH
  split
  · rw [List.length_append, List.length_drop, List.length_singleton]; omega
  · rw [List.length_append, List.length_singleton]; omega
theorem push_mem {hs : List zCo} {c x : zCo} (h : x ∈ pushH hs c) : x ∈ hs ∨ x = c := by
  unfold pushH at h
  split at h
  · rcases List.mem_append.mp h with z | z
    · exact Or.inl (List.mem_of_mem_drop z)
    · exact Or.inr (List.mem_singleton.mp z)
  · rcases List.mem_append.mp h with z | z
    · exact Or.inl z
    · exact Or.inr (List.mem_singleton.mp z)
section OPS
variable {N N1 : Nat} {tx inp out : List Int} {c0 : zCo} {hs : List zCo} {er fa : Int} {sv : Option zCo}
theorem cOK_add {c : zCo} {x : Int} {ws : List zWd} (hK : cOK N c) (h6 : (cAr c).length < 6) (hx : 1 ≤ x ∧ x ≤ 9) (hw : 1 ≤ ws.length ∧ ws.length ≤ 30) (hwo : ∀ w ∈ ws, wdOK w) : cOK (N + 1) (cAdd c x ws) := by
  obtain ⟨a1, a2, a3, a4, a5, a6, a7, a8, a9, a10, a11, a12, a13⟩ := hK
  refine ⟨?_, a2, fun a ha => ?_, ?_, fun s hs => isOK_ni (a5 s hs) (by show cNi c ≤ cNi c + 1; omega), a6, ⟨by show 0 ≤ cNi c + 1; omega, by show cNi c + 1 ≤ ((N + 1 : Nat) : Int); omega⟩, ⟨a8.1, by show cNn c ≤ 10 * ((N + 1 : Nat) : Int); omega⟩, a9, a10, a11, ⟨a12.1, by show cDa c ≤ 300 * ((N + 1 : Nat) : Int); omega⟩, a13.1, by show cLa c ≤ ((N + 1 : Nat) : Int); omega⟩
  · show (cAr c ++ [(cNi c, x, ws)]).length ≤ 6
    rw [List.length_append, List.length_singleton]; omega
  · rcases List.mem_append.mp (show a ∈ cAr c ++ [(cNi c, x, ws)] from ha) with e | e
    · obtain ⟨b1, b2⟩ := a3 a e
      exact ⟨⟨b1.1, by show a.1 < cNi c + 1; omega⟩, b2⟩
    · rw [List.mem_singleton.mp e]
      exact ⟨⟨a7.1, by show cNi c < cNi c + 1; omega⟩, hx, hw, hwo⟩
  · show (cAr c ++ [(cNi c, x, ws)]).Pairwise _
    rw [List.pairwise_append]
    refine ⟨a4, by simp, fun p hp q hq => ?_⟩
    rw [List.mem_singleton.mp hq]
    exact (a3 p hp).1.2
theorem cOK_cor {c : zCo} {i w : Nat} {a : zAr} {wd : zWd} {late : Bool} (hK : cOK N c) (hi : (cAr c)[i]? = some a) (hw : wdOK wd) : cOK (N + 1) (cCor c i a w wd late) := by
  obtain ⟨a1, a2, a3, a4, a5, a6, a7, a8, a9, a10, a11, a12, a13⟩ := hK
  have hl : (if late then 1 else 0 : Int) = 0 ∨ (if late then 1 else 0 : Int) = 1 := by cases late <;> simp
  refine ⟨?_, a2, fun b hb => ?_, ?_, a5, a6, ⟨a7.1, by show cNi c ≤ ((N + 1 : Nat) : Int); omega⟩, ⟨a8.1, by show cNn c ≤ 10 * ((N + 1 : Nat) : Int); omega⟩, a9, a10, a11, ⟨a12.1, by show cDa c ≤ 300 * ((N + 1 : Nat) : Int); omega⟩, by show 0 ≤ cLa c + (if late then 1 else 0 : Int); omega, by show cLa c + (if late then 1 else 0 : Int) ≤ ((N + 1 : Nat) : Int); omega⟩
  · show ((cAr c).set i _).length ≤ 6
    rw [List.length_set]; exact a1
  · have hb2 : b ∈ (cAr c).set i (a.1, a.2.1, a.2.2.set w wd) := hb
    rcases List.mem_or_eq_of_mem_set hb2 with e | e
    · exact a3 b e
    · obtain ⟨b1, b2, b3, b4⟩ := a3 a (List.mem_of_getElem? hi)
      rw [e]
      refine ⟨b1, b2, by show 1 ≤ (a.2.2.set w wd).length ∧ (a.2.2.set w wd).length ≤ 30; rw [List.length_set]; exact b3, fun y hy => ?_⟩
      rcases List.mem_or_eq_of_mem_set (show y ∈ a.2.2.set w wd from hy) with z | z
      · exact b4 y z
      · rw [z]; exact hw
  · show ((cAr c).set i (a.1, a.2.1, a.2.2.set w wd)).Pairwise (fun a b => a.1 < b.1)
    have hm : ((cAr c).set i (a.1, a.2.1, a.2.2.set w wd)).map (·.1) = (cAr c).map (·.1) := by
      refine List.ext_getElem? (fun j => ?_)
      rw [List.getElem?_map, List.getElem?_map, List.getElem?_set]
      by_cases q : i = j
      · rw [if_pos q, ← q, hi]
        by_cases q2 : i < (cAr c).length
        · rw [if_pos q2]; rfl
        · rw [List.getElem?_eq_none (by omega)] at hi; cases hi
      · rw [if_neg q]
    have h2 : ((cAr c).map (·.1)).Pairwise (fun x y : Int => x < y) := List.pairwise_map.mpr a4
    rw [← hm] at h2
    exact List.pairwise_map.mp h2
theorem sAdd_K {x : Int} (hK : cOK N c0) (h60 : tx.length ≤ 60) (hz : zlt2 tx) (h0 : (sAdd c0 x tx).1 = 0) : cOK (N + 1) (sAdd c0 x tx).2.1 := by
  by_cases c1 : 1 ≤ x ∧ x ≤ 9
  · by_cases c2 : (cAr c0).length = 6
    · rw [sAdd_2 c1 c2] at h0; cases h0
    · by_cases c3 : zat tx
      · rw [sAdd_0 c1 c2 c3]
        have hz3 := zat_30 c3 h60
        exact cOK_add hK (by have := hK.1; omega) c1 hz3 (fun w hw => by
          obtain ⟨i, hi⟩ := List.getElem?_of_mem hw
          exact zsp_wdOK c3 hz hi)
      · rw [sAdd_3 c1 c2 c3] at h0; cases h0
  · rw [sAdd_1 c1] at h0; cases h0
theorem sCor_c {c : zCo} {x b : Int} {tx : List Int} (h0 : (sCor c x b tx).1 = 0) : ∃ (i : Nat) (a : zAr) (wd : zWd), (cAr c)[i]? = some a ∧ zwd a b = some wd ∧ zatB tx = true ∧ (zsp tx).length = 1 ∧ sCor c x b tx = (0, cCor c i a b.toNat ((zsp tx).headD []) (zlate c x), (wd.length : Int)) := by
  unfold sCor at h0 ⊢
  cases h1 : zix (cAr c) x with
  | none => rw [h1] at h0; cases h0
  | some i =>
    rw [h1] at h0
    simp only [] at h0 ⊢
    cases h2 : (cAr c)[i]? with
    | none => rw [h2] at h0; cases h0
    | some a =>
      rw [h2] at h0
      simp only [] at h0 ⊢
      cases h3 : zwd a b with
      | none => rw [h3] at h0; cases h0
      | some wd =>
        rw [h3] at h0
        simp only [] at h0 ⊢
        by_cases c4 : zatB tx = true ∧ (zsp tx).length = 1
        · exact ⟨i, a, wd, h2, h3, c4.1, c4.2, by rw [if_pos c4]⟩
        · rw [if_neg c4] at h0; cases h0
theorem sCor_K {x b : Int} (hK : cOK N c0) (h60 : tx.length ≤ 60) (hz : zlt2 tx) (h0 : (sCor c0 x b tx).1 = 0) : cOK (N + 1) (sCor c0 x b tx).2.1 := by
  obtain ⟨i, a, wd, h1, h2, h3, h4, e⟩ := sCor_c h0
  rw [e]
  have hb := ((zone_iff tx).mpr ⟨h3, h4⟩).2.2
  exact cOK_cor hK h1 (zsp_wdOK ((zatB_iff tx).mp h3) hz (i := 0) (by rw [zsp_one hb]; rfl))
theorem sRem_K {x : Int} (hK : cOK N c0) (h0 : (sRem c0 x).1 = 0) : cOK (N + 1) (sRem c0 x).2.1 := by
  cases h1 : zix (cAr c0) x with
  | none => rw [sRem_1 h1] at h0; cases h0
  | some i => rw [sRem_0 h1]; exact cOK_mono (cOK_rem hK i) (Nat.le_succ N)
theorem sWid_K {x : Int} (hK : cOK N c0) (h0 : (sWid c0 x).1 = 0) : cOK (N + 1) (sWid c0 x).2.1 := by
  by_cases c : 4 ≤ x ∧ x ≤ 20
  · rw [sWid_0 c]; exact cOK_mono (cOK_wid hK c) (Nat.le_succ N)
  · rw [sWid_1 c] at h0; cases h0
theorem sPag_K {x y : Int} (hK : cOK N c0) (h0 : (sPag c0 x y).1 = 0) : cOK (N + 1) (sPag c0 x y).2.1 := by
  by_cases c : (1 ≤ x ∧ x ≤ 4) ∧ 1 ≤ y ∧ y ≤ 20
  · rw [sPag_0 c]; exact cOK_mono (cOK_pag hK c) (Nat.le_succ N)
  · rw [sPag_1 c] at h0; cases h0
theorem sDay_K {x : Int} (hK : cOK N c0) (h0 : (sDay c0 x).1 = 0) : cOK (N + 1) (sDay c0 x).2.1 := by
  have h12 := hK.2.2.2.2.2.2.2.2.2.2.2.1
  by_cases c : 1 ≤ x ∧ x ≤ 30
  · rw [sDay_0 c]; exact cOK_day hK c.1 (N + 1) (Nat.le_succ N) (by omega)
  · rw [sDay_1 c] at h0; cases h0
theorem sPrt_K (hK : cOK N c0) (h0 : (sPrt c0).1 = 0) : cOK (N + 1) (sPrt c0).2.1 := by
  have h8 := hK.2.2.2.2.2.2.2.1
  by_cases c : (cAr c0).length = 0
  · rw [sPrt_1 c] at h0; cases h0
  · rw [sPrt_0 c]; exact cOK_prt hK (N + 1) (Nat.le_succ N) (by omega)
theorem sAdd_R {x : Int} (hK : cOK N c0) (hN : N ≤ 900) (h0 : (sAdd c0 x tx).1 = 0) : InR (sAdd c0 x tx).2.2 := by
  have h7 := hK.2.2.2.2.2.2.1
  by_cases c1 : 1 ≤ x ∧ x ≤ 9
  · by_cases c2 : (cAr c0).length = 6
    · rw [sAdd_2 c1 c2] at h0; cases h0
    · by_cases c3 : zat tx
      · rw [sAdd_0 c1 c2 c3]; show InR (cNi c0); unfold InR; omega
      · rw [sAdd_3 c1 c2 c3] at h0; cases h0
  · rw [sAdd_1 c1] at h0; cases h0
theorem sCor_R {x b : Int} (hK : cOK N c0) (h0 : (sCor c0 x b tx).1 = 0) : InR (sCor c0 x b tx).2.2 := by
  obtain ⟨i, a, wd, h1, h2, h3, h4, e⟩ := sCor_c h0
  rw [e]
  have h5 := (zwd_OK (hK.2.2.1 a (List.mem_of_getElem? h1)) h2).1
  show InR (wd.length : Int)
  unfold InR; omega
theorem sRem_R {x : Int} (hK : cOK N c0) (h0 : (sRem c0 x).1 = 0) : InR (sRem c0 x).2.2 := by
  have h6 := hK.1
  cases h1 : zix (cAr c0) x with
  | none => rw [sRem_1 h1] at h0; cases h0
  | some i => rw [sRem_0 h1]; show InR (((cAr c0).length : Int) - 1); unfold InR; omega
theorem sWid_R {x : Int} (hK : cOK N c0) (h0 : (sWid c0 x).1 = 0) : InR (sWid c0 x).2.2 := by
  have h9 := hK.2.2.2.2.2.2.2.2.1
  by_cases c : 4 ≤ x ∧ x ≤ 20
  · rw [sWid_0 c]; show InR (cWi c0); unfold InR; omega
  · rw [sWid_1 c] at h0; cases h0
theorem sPag_R {x y : Int} (h0 : (sPag c0 x y).1 = 0) : InR (sPag c0 x y).2.2 := by
  by_cases c : (1 ≤ x ∧ x ≤ 4) ∧ 1 ≤ y ∧ y ≤ 20
  · rw [sPag_0 c]
    show InR (x * y)
    have h3 : x = 1 ∨ x = 2 ∨ x = 3 ∨ x = 4 := by omega
    unfold InR
    rcases h3 with e | e | e | e <;> rw [e] <;> omega
  · rw [sPag_1 c] at h0; cases h0
theorem sDay_R {x : Int} (hK : cOK N c0) (h0 : (sDay c0 x).1 = 0) : InR (sDay c0 x).2.2 := by
  have h4 := hK.2.1
  by_cases c : 1 ≤ x ∧ x ≤ 30
  · rw [sDay_0 c]
    show InR (zlost (cDa c0) x (cIs c0))
    unfold zlost
    have := List.countP_le_length (l := cIs c0) (p := fun i => decide (cDa c0 - iPr i < 5) && decide (5 ≤ cDa c0 - iPr i + x))
    unfold InR; omega
  · rw [sDay_1 c] at h0; cases h0
theorem sPrt_R (hK : cOK N c0) (hN : N ≤ 900) (h0 : (sPrt c0).1 = 0) : InR (sPrt c0).2.2 := by
  have h8 := hK.2.2.2.2.2.2.2.1
  by_cases c : (cAr c0).length = 0
  · rw [sPrt_1 c] at h0; cases h0
  · rw [sPrt_0 c]; show InR (cNn c0); unfold InR; omega
theorem zwords_le {w : Int} : ∀ (ws : List zWd) (j : Nat) (st st' : zLn), (∀ x ∈ ws, wdOK x) → st.1.length ≤ 6 * j → (∀ x ∈ st.1, (x.length : Int) ≤ w) → (st.2.length : Int) ≤ w → zwords w ws st = some st' → (∀ x ∈ st'.1, (x.length : Int) ≤ w) ∧ (st'.2.length : Int) ≤ w
  | [], j, st, st' => fun _ _ h2 h3 h => by
    unfold zwords at h
    cases h
    exact ⟨h2, h3⟩
  | wd :: ws, j, st, st' => fun h0 h1 h2 h3 h => by
    unfold zwords at h
    have hwd := h0 wd List.mem_cons_self
    cases hz : zset w wd 24 0 st with
    | none => rw [hz] at h; cases h
    | some s1 =>
      rw [hz] at h
      obtain ⟨a1, a2, a3⟩ := zset_ok hwd 24 0 st s1 (by have := hwd.1; omega) ⟨by omega, fun _ => ⟨rfl, h1⟩, Or.inl rfl, h2, h3⟩ hz
      exact zwords_le ws (j + 1) s1 st' (fun x hx => h0 x (List.mem_cons_of_mem _ hx)) a1 a2 a3 h
theorem zlines_le {w : Int} {ws ls : List zWd} (hw0 : 0 ≤ w) (hw : ∀ x ∈ ws, wdOK x) (h : zlines w ws = some ls) : ∀ l ∈ ls, (l.length : Int) ≤ w := by
  unfold zlines at h
  cases hz : zwords w ws ([], []) with
  | none => rw [hz] at h; cases h
  | some st =>
    rw [hz] at h
    cases h
    obtain ⟨h1, h2⟩ := zwords_le ws 0 ([], []) st hw (Nat.le_refl 0) (fun x hx => by cases hx) hw0 hz
    intro l hl
    rcases List.mem_append.mp hl with e | e
    · exact h1 l e
    · rw [List.mem_singleton.mp e]; exact h2
theorem zlq_len {x b : Int} (hK : cOK N c0) (h : (zlq c0 x b).1 = 0) : (zlq c0 x b).2.length ≤ 20 := by
  have hwi := hK.2.2.2.2.2.2.2.2.1
  unfold zlq at h ⊢
  by_cases c1 : (zal c0 x).1 = 0
  · rw [if_pos c1] at h ⊢
    cases hl : zlw (zal c0 x).2 b with
    | none => rw [hl] at h; cases h
    | some l =>
      rw [hl] at h
      show l.length ≤ 20
      have hm : l ∈ (zal c0 x).2 := by
        unfold zlw at hl
        by_cases q : 0 ≤ b
        · rw [if_pos q] at hl; exact List.mem_of_getElem? hl
        · rw [if_neg q] at hl; cases hl
      have h2 : ∀ l ∈ (zal c0 x).2, (l.length : Int) ≤ cWi c0 := by
        unfold zal at c1 ⊢
        cases hf : zfa (cAr c0) x with
        | none => rw [hf] at c1; cases c1
        | some a =>
          rw [hf] at c1
          simp only [] at c1 ⊢
          cases hz : zlines (cWi c0) a.2.2 with
          | none => rw [hz] at c1; cases c1
          | some ls =>
            exact zlines_le (by omega) (fun y hy => (hK.2.2.1 a (List.mem_of_find?_eq_some hf)).2.2.2 y hy) hz
      have := h2 l hm
      omega
  · rw [if_neg c1] at h; exact absurd h c1
theorem sWr_len {x : Int} (hK : cOK N c0) (h : (sWr c0 x).1 = 0) : (sWr c0 x).2.length ≤ 440 := by
  unfold sWr at h ⊢
  cases hf : zfa (cAr c0) x with
  | none => rw [hf] at h; cases h
  | some a =>
    show (zart a).length ≤ 440
    have hk := hK.2.2.1 a (List.mem_of_find?_eq_some hf)
    have h1 := zwt_len 58 a.2.2 hk.2.2.2
    have h2 := (zdig_len a.1).1
    have h3 := (zdig_len a.2.1).1
    have h4 := hk.2.2.1.2
    unfold zart
    rw [List.length_append, List.length_append, List.length_append, List.length_singleton]
    omega
theorem gOb.oc {cs : Nat → ClassId} {F : zF} {ob : Nat} {g : Nat → Nat} {sa : Nat} {so : Option Nat} {hL : List Nat} (h : gOb cs F ob g sa so hL tx inp out c0 sv hs er fa) : ∀ x ∈ out, 0 ≤ x ∧ x ≤ 65535 := by
  obtain ⟨-, -, -, -, ⟨cap, ml, f, -, -, -, h1, h2⟩, -⟩ := h
  intro x hx
  obtain ⟨k, hk⟩ := List.getElem?_of_mem hx
  have hl := (List.getElem?_eq_some_iff.mp hk).1
  have h3 := h1 (k : Int) (by omega) (by omega)
  have h4 := h2 (k : Int)
  rw [h3, Int.toNat_natCast, List.getD_eq_getElem?_getD, hk] at h4
  simp only [Option.getD_some] at h4
  omega
theorem dcmp_self {x : UInt64} (h : dQ x) : FP.dcmp x x = some .eq := by
  have hd := dP_dec64 h
  show FP.Core.order (FP.Core.decode FP.Core.b64 x.toNat) (FP.Core.decode FP.Core.b64 x.toNat) = some .eq
  cases hx : FP.Core.decode FP.Core.b64 x.toNat with
  | nan => rw [hx] at hd; exact absurd hd (fun q => q)
  | inf s => show some (compare (FP.Core.signed s 1) (FP.Core.signed s 1)) = _; simp [compare, compareOfLessAndEq]
  | fin s c q =>
    show some (compare (FP.Core.signed s (FP.Core.inUnits c q (min q q))) (FP.Core.signed s (FP.Core.inUnits c q (min q q)))) = _
    simp [compare, compareOfLessAndEq]
theorem sFr_P {x : Int} (h : (sFr c0 x).1 = 0) : fP (sFr c0 x).2 := by
  unfold sFr at h ⊢
  cases hf : zfi (cIs c0) x with
  | none => rw [hf] at h; cases h
  | some s => exact zfr_P _
theorem sCv_P {x : Int} (hK : cOK N c0) (h : (sCv c0 x).1 = 0) : fP (sCv c0 x).2 := by
  unfold sCv at h ⊢
  cases hf : zfi (cIs c0) x with
  | none => rw [hf] at h; cases h
  | some s =>
    have hs := hK.2.2.2.2.1 s (List.mem_of_find?_eq_some hf)
    have h1 := isOK_pg hs
    have h2 := hs.2.2.2.1
    exact fP_div (i2f_ok ⟨h2.1, by omega⟩).1 ((i2f_ok ⟨by omega, by omega⟩).2 (by omega))
theorem zsf2_P (da : Int) : ∀ l : List zIs, fP (zsf2 da l) := fun l => by
  have key : ∀ (l : List zIs) (s : UInt32), fP s → fP (l.foldl (fun s i => FP.fadd s (zfr (da - iPr i).toNat)) s) := fun l => by
    induction l with
    | nil => exact fun s h => h
    | cons a t ih => exact fun s h => ih _ (fP_add h (zfr_P _))
  exact key l _ (by show (FP.fconst0).toNat ≤ 2139095040; decide)
theorem sMF_P (hK : cOK N c0) (h : (sMF c0).1 = 0) : fP (sMF c0).2 := by
  have h4 := hK.2.1
  unfold sMF at h ⊢
  by_cases c : cIs c0 = []
  · rw [if_pos c] at h; cases h
  · rw [if_neg c]
    have hp : 0 < (cIs c0).length := List.length_pos_iff.mpr c
    exact fP_div (zsf2_P _ _) ((i2f_ok ⟨by omega, by omega⟩).2 (by omega))
theorem sWord_01 {x z w9 : Int} : (sWord c0 x z (sCan w9)).2 = 0 ∨ (sWord c0 x z (sCan w9)).2 = 1 := by
  unfold sWord
  split
  · exact Or.inl rfl
  · split
    · exact Or.inl rfl
    · show sCan w9 _ = 0 ∨ sCan w9 _ = 1
      unfold sCan
      split
      · exact Or.inr rfl
      · exact Or.inl rfl
theorem sIss_01 {x : Int} : (sIss c0 x (fun s => if cDa c0 - iPr s < 5 then 1 else 0)).2 = 0 ∨ (sIss c0 x (fun s => if cDa c0 - iPr s < 5 then 1 else 0)).2 = 1 := by
  unfold sIss
  split
  · exact Or.inl rfl
  · show (if _ then (1 : Int) else 0) = 0 ∨ (if _ then (1 : Int) else 0) = 1
    split
    · exact Or.inr rfl
    · exact Or.inl rfl
theorem sCbs_01 {x : Int} : (match zfa (cAr c0) x with | none => ((1 : Int), (0 : Int)) | some a => (0, if (zlines (cWi c0) a.2.2).isSome then 1 else 0)).2 = 0 ∨ (match zfa (cAr c0) x with | none => ((1 : Int), (0 : Int)) | some a => (0, if (zlines (cWi c0) a.2.2).isSome then 1 else 0)).2 = 1 := by
  split
  · exact Or.inl rfl
  · show (if _ then (1 : Int) else 0) = 0 ∨ (if _ then (1 : Int) else 0) = 1
    split
    · exact Or.inr rfl
    · exact Or.inl rfl
theorem zrun_ok : ∀ (l : List zCm) (c c2 : zCo) (k : Nat), cOKj N k c → k + l.length ≤ 10 → zrun l c k = .inr c2 → cOKj N (k + l.length) c2
  | [], c, c2, k => fun h _ hr => by
    unfold zrun at hr
    cases hr
    exact h
  | q :: l, c, c2, k => fun h hl hr => by
    unfold zrun at hr
    rw [List.length_cons] at hl
    by_cases c1 : (zdo c q).1 = 0
    · rw [if_pos c1] at hr
      have h2 := zrun_ok l (zdo c q).2.1 c2 (k + 1) (cOKj_s h (by omega) c1) (by omega) hr
      rw [List.length_cons, show k + (l.length + 1) = k + 1 + l.length by omega]
      exact h2
    · rw [if_neg c1] at hr; cases hr
theorem zrun_in : ∀ (l : List zCm) (c : zCo) (k j : Nat), zrun l c k = .inl j → j < k + l.length
  | [], c, k, j => fun hr => by unfold zrun at hr; cases hr
  | q :: l, c, k, j => fun hr => by
    unfold zrun at hr
    rw [List.length_cons]
    by_cases c1 : (zdo c q).1 = 0
    · rw [if_pos c1] at hr
      have := zrun_in l (zdo c q).2.1 (k + 1) j hr
      omega
    · rw [if_neg c1] at hr; cases hr; omega
theorem zread_b {inp : List Int} : ∀ (n : Nat) (a : Int), 0 ≤ a → a ≤ inp.length → 0 ≤ (zread inp n a).2.1 ∧ (zread inp n a).2.1 ≤ inp.length
  | 0, a => fun h0 h1 => ⟨h0, h1⟩
  | n + 1, a => fun h0 h1 => by
    obtain ⟨k1, k2, k3, k4⟩ := zcmd_ok h0 h1
    rw [zread_s]
    by_cases c1 : (zcmd inp a).1 = true
    · rw [if_pos c1]; exact ⟨by show 0 ≤ (zcmd inp a).2.1; omega, k2⟩
    · rw [if_neg c1]
      by_cases c2 : bh inp (zcmd inp a).2.1 = 59
      · rw [if_pos c2]
        have k6 := bh_in (inp := inp) (a := (zcmd inp a).2.1) (by omega) (by rw [c2]; decide)
        exact zread_b n ((zcmd inp a).2.1 + 1) (by omega) (by omega)
      · rw [if_neg c2]; exact ⟨by show 0 ≤ (zcmd inp a).2.1; omega, k2⟩
theorem sExe_b {inp : List Int} (hK : cOK N c0) (hi : inp.length ≤ 60) (he : -1 ≤ er ∧ er ≤ 60) (hf : -1 ≤ fa ∧ fa ≤ 60) : ((-1 ≤ (sExe c0 inp er fa).2.1 ∧ (sExe c0 inp er fa).2.1 ≤ 60) ∧ -1 ≤ (sExe c0 inp er fa).2.2 ∧ (sExe c0 inp er fa).2.2 ≤ 60) ∧ ((sExe c0 inp er fa).1.1 = 0 → cOK (N + 1) (sExe c0 inp er fa).1.2.1) := by
  cases h1 : zparse inp with
  | inl p =>
    rw [sExe_l h1]
    unfold zparse at h1
    have hb := zread_b (inp := inp) 61 0 (Int.le_refl _) (by omega)
    by_cases c : (zread inp 61 0).1 = true ∨ (zread inp 61 0).2.1 < inp.length
    · rw [if_pos c] at h1
      cases h1
      exact ⟨⟨⟨by show -1 ≤ (zread inp 61 0).2.1; omega, by show (zread inp 61 0).2.1 ≤ 60; omega⟩, hf⟩, (fun z => by cases z)⟩
    · rw [if_neg c] at h1; cases h1
  | inr l =>
    have hl := zparse_ok hi h1
    cases h2 : zrun l c0 0 with
    | inl k =>
      rw [sExe_f h1 h2]
      have := zrun_in l c0 0 k h2
      exact ⟨⟨he, by show -1 ≤ (k : Int); omega, by show (k : Int) ≤ 60; omega⟩, (fun z => by cases z)⟩
    | inr c2 =>
      rw [sExe_r h1 h2]
      exact ⟨⟨he, hf⟩, fun _ => (zrun_ok l c0 c2 0 (cOKj_0 hK) (by omega) h2).1⟩
end OPS
