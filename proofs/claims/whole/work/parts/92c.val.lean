section VAL
variable {N : Nat} {v v1 : Nat → Int} {gm g1 : Nat → Int → Int} {tx inp out : List Int} {c0 : zCo} {sv : Option zCo} {hs : List zCo} {er fa : Int}
theorem zwords_le {w : Int} : ∀ (ws : List zWd) (j : Nat) (st st' : zLn), (∀ x ∈ ws, wdOK x) → st.1.length ≤ 6 * j → (∀ x ∈ st.1, (x.length : Int) ≤ w) → (st.2.length : Int) ≤ w → zwords w ws st = some st' → (∀ x ∈ st'.1, (x.length : Int) ≤ w) ∧ (st'.2.length : Int) ≤ w
  | [], j, st, st' => fun _ _ h2 h3 h => by
    unfold zwords at h
    cases h
    exact ⟨h2, h3⟩
  | wd :: ws, j, st, st' => fun h0 h1 h2 h3 h => by
    unfold zwords at h
    have hwd := h0 wd List.mem_cons_self
    cases hz : zset w wd 24 0 st with
    | none => rw [hz] at h; cases h
    | some s1 =>
      rw [hz] at h
      obtain ⟨a1, a2, a3⟩ := zset_ok hwd 24 0 st s1 (by have := hwd.1; omega) ⟨by omega, fun _ => ⟨rfl, h1⟩, Or.inl rfl, h2, h3⟩ hz
      exact zwords_le ws (j + 1) s1 st' (fun x hx => h0 x (List.mem_cons_of_mem _ hx)) a1 a2 a3 h
theorem zlines_le {w : Int} {ws ls : List zWd} (hw0 : 0 ≤ w) (hw : ∀ x ∈ ws, wdOK x) (h : zlines w ws = some ls) : ∀ l ∈ ls, (l.length : Int) ≤ w := by
  unfold zlines at h
  cases hz : zwords w ws ([], []) with
  | none => rw [hz] at h; cases h
  | some st =>
    rw [hz] at h
    cases h
    obtain ⟨h1, h2⟩ := zwords_le ws 0 ([], []) st hw (Nat.le_refl 0) (fun x hx => by cases hx) hw0 hz
    intro l hl
    rcases List.mem_append.mp hl with e | e
    · exact h1 l e
    · rw [List.mem_singleton.mp e]; exact h2
theorem zlq_len {x b : Int} (hK : cOK N c0) (h : (zlq c0 x b).1 = 0) : (zlq c0 x b).2.length ≤ 20 := by
  have hwi := hK.2.2.2.2.2.2.2.2.1
  unfold zlq at h ⊢
  by_cases c1 : (zal c0 x).1 = 0
  · rw [if_pos c1] at h ⊢
    cases hl : zlw (zal c0 x).2 b with
    | none => rw [hl] at h; cases h
    | some l =>
      rw [hl] at h
      show l.length ≤ 20
      have hm : l ∈ (zal c0 x).2 := by
        unfold zlw at hl
        by_cases q : 0 ≤ b
        · rw [if_pos q] at hl; exact List.mem_of_getElem? hl
        · rw [if_neg q] at hl; cases hl
      have h2 : ∀ l ∈ (zal c0 x).2, (l.length : Int) ≤ cWi c0 := by
        unfold zal at c1 ⊢
        cases hf : zfa (cAr c0) x with
        | none => rw [hf] at c1; cases c1
        | some a =>
          rw [hf] at c1
          simp only [] at c1 ⊢
          cases hz : zlines (cWi c0) a.2.2 with
          | none => rw [hz] at c1; cases c1
          | some ls =>
            exact zlines_le (by omega) (fun y hy => (hK.2.2.1 a (List.mem_of_find?_eq_some hf)).2.2.2 y hy) hz
      have := h2 l hm
      omega
  · rw [if_neg c1] at h; exact absurd h c1
theorem sWr_len {x : Int} (hK : cOK N c0) (h : (sWr c0 x).1 = 0) : (sWr c0 x).2.length ≤ 440 := by
  unfold sWr at h ⊢
  cases hf : zfa (cAr c0) x with
  | none => rw [hf] at h; cases h
  | some a =>
    show (zart a).length ≤ 440
    have hk := hK.2.2.1 a (List.mem_of_find?_eq_some hf)
    have h1 := zwt_len 58 a.2.2 hk.2.2.2
    have h2 := (zdig_len a.1).1
    have h3 := (zdig_len a.2.1).1
    have h4 := hk.2.2.1.2
    unfold zart
    rw [List.length_append, List.length_append, List.length_append, List.length_singleton]
    omega
theorem gOb.oc {cs : Nat → ClassId} {F : zF} {ob : Nat} {g : Nat → Nat} {sa : Nat} {so : Option Nat} {hL : List Nat} (h : gOb cs F ob g sa so hL tx inp out c0 sv hs er fa) : ∀ x ∈ out, 0 ≤ x ∧ x ≤ 65535 := by
  obtain ⟨-, -, -, -, ⟨cap, ml, f, -, -, -, h1, h2⟩, -⟩ := h
  intro x hx
  obtain ⟨k, hk⟩ := List.getElem?_of_mem hx
  have hl := (List.getElem?_eq_some_iff.mp hk).1
  have h3 := h1 (k : Int) (by omega) (by omega)
  have h4 := h2 (k : Int)
  rw [h3, Int.toNat_natCast, List.getD_eq_getElem?_getD, hk] at h4
  simp only [Option.getD_some] at h4
  omega
theorem dcmp_self {x : UInt64} (h : dQ x) : FP.dcmp x x = some .eq := by
  have hd := dP_dec64 h
  show FP.Core.order (FP.Core.decode FP.Core.b64 x.toNat) (FP.Core.decode FP.Core.b64 x.toNat) = some .eq
  cases hx : FP.Core.decode FP.Core.b64 x.toNat with
  | nan => rw [hx] at hd; exact absurd hd (fun q => q)
  | inf s => show some (compare (FP.Core.signed s 1) (FP.Core.signed s 1)) = _; simp [compare, compareOfLessAndEq]
  | fin s c q =>
    show some (compare (FP.Core.signed s (FP.Core.inUnits c q (min q q))) (FP.Core.signed s (FP.Core.inUnits c q (min q q)))) = _
    simp [compare, compareOfLessAndEq]
theorem sFr_P {x : Int} (h : (sFr c0 x).1 = 0) : fP (sFr c0 x).2 := by
  unfold sFr at h ⊢
  cases hf : zfi (cIs c0) x with
  | none => rw [hf] at h; cases h
  | some s => exact zfr_P _
theorem sCv_P {x : Int} (hK : cOK N c0) (h : (sCv c0 x).1 = 0) : fP (sCv c0 x).2 := by
  unfold sCv at h ⊢
  cases hf : zfi (cIs c0) x with
  | none => rw [hf] at h; cases h
  | some s =>
    have hs := hK.2.2.2.2.1 s (List.mem_of_find?_eq_some hf)
    have h1 := isOK_pg hs
    have h2 := hs.2.2.2.1
    exact fP_div (i2f_ok ⟨h2.1, by omega⟩).1 ((i2f_ok ⟨by omega, by omega⟩).2 (by omega))
theorem zsf2_P (da : Int) : ∀ l : List zIs, fP (zsf2 da l) := fun l => by
  have key : ∀ (l : List zIs) (s : UInt32), fP s → fP (l.foldl (fun s i => FP.fadd s (zfr (da - iPr i).toNat)) s) := fun l => by
    induction l with
    | nil => exact fun s h => h
    | cons a t ih => exact fun s h => ih _ (fP_add h (zfr_P _))
  exact key l _ (by show (FP.fconst0).toNat ≤ 2139095040; decide)
theorem sMF_P (hK : cOK N c0) (h : (sMF c0).1 = 0) : fP (sMF c0).2 := by
  have h4 := hK.2.1
  unfold sMF at h ⊢
  by_cases c : cIs c0 = []
  · rw [if_pos c] at h; cases h
  · rw [if_neg c]
    have hp : 0 < (cIs c0).length := List.length_pos_iff.mpr c
    exact fP_div (zsf2_P _ _) ((i2f_ok ⟨by omega, by omega⟩).2 (by omega))
theorem sWord_01 {x z w9 : Int} : (sWord c0 x z (sCan w9)).2 = 0 ∨ (sWord c0 x z (sCan w9)).2 = 1 := by
  unfold sWord
  split
  · exact Or.inl rfl
  · split
    · exact Or.inl rfl
    · show sCan w9 _ = 0 ∨ sCan w9 _ = 1
      unfold sCan
      split
      · exact Or.inr rfl
      · exact Or.inl rfl
theorem sIss_01 {x : Int} : (sIss c0 x (fun s => if cDa c0 - iPr s < 5 then 1 else 0)).2 = 0 ∨ (sIss c0 x (fun s => if cDa c0 - iPr s < 5 then 1 else 0)).2 = 1 := by
  unfold sIss
  split
  · exact Or.inl rfl
  · show (if _ then (1 : Int) else 0) = 0 ∨ (if _ then (1 : Int) else 0) = 1
    split
    · exact Or.inr rfl
    · exact Or.inl rfl
theorem sCbs_01 {x : Int} : (match zfa (cAr c0) x with | none => ((1 : Int), (0 : Int)) | some a => (0, if (zlines (cWi c0) a.2.2).isSome then 1 else 0)).2 = 0 ∨ (match zfa (cAr c0) x with | none => ((1 : Int), (0 : Int)) | some a => (0, if (zlines (cWi c0) a.2.2).isSome then 1 else 0)).2 = 1 := by
  split
  · exact Or.inl rfl
  · show (if _ then (1 : Int) else 0) = 0 ∨ (if _ then (1 : Int) else 0) = 1
    split
    · exact Or.inr rfl
    · exact Or.inl rfl
/-- the output -/
theorem zVal.mW (h : zVal N v gm tx inp out c0 sv hs er fa) {r t : Int} {out1 : List Int} (hm : mWr v gm r v1 g1 t out1) (hb : t = 0 → out1.length ≤ 440 ∧ ∀ x ∈ out1, 0 ≤ x ∧ x ≤ 65535) :
    v1 6 = t ∧ (t = 0 → r = out1.length) ∧ (t ≠ 0 → zVal (N + 1) v1 g1 tx inp out c0 sv hs er fa) ∧ (t = 0 → zVal (N + 1) v1 g1 tx inp out1 c0 sv hs er fa) := by
  obtain ⟨m1, m2, m3, m4, m5⟩ := hm
  have hv : ∀ k, vK k → k ≠ 15 → v1 k = v k := fun k hk h15 => by unfold vK at hk; exact m2 k (by omega) (by omega) h15
  have hg : ∀ j, gK j → j ≠ 14 → g1 j = gm j := fun j hj h14 => by unfold gK at hj; exact m3 j (by omega) (by omega) (by omega) h14
  refine ⟨m1, fun t0 => (m5 t0).1, fun t0 => ?_, fun t0 => ?_⟩
  · refine h.cong (Nat.le_succ N) (fun k hk => ?_) (fun j hj => ?_)
    · by_cases q : k = 15
      · rw [q]; exact (m4 t0).1
      · exact hv k hk q
    · by_cases q : j = 14
      · rw [q]; exact (m4 t0).2
      · exact hg j hj q
  · have h10 := h.svd (Nat.le_succ N) (hv 3 (by unfold vK; omega) (by decide)) (hg 2 (by unfold gK; omega) (by decide))
    obtain ⟨h1, h2, h3, h4, h5, h6, h7, h8, -, -, h11, h12, h13⟩ := h
    exact ⟨by rw [hg 0 (by unfold gK; omega) (by decide)]; exact h1, cOK_mono h2 (Nat.le_succ N), h3.cong (hv 5 (by unfold vK; omega) (by decide)) (hg 4 (by unfold gK; omega) (by decide)), fun x hx => cOK_mono (h4 x hx) (Nat.le_succ N), h5.cong (hv 8 (by unfold vK; omega) (by decide)) (hg 7 (by unfold gK; omega) (by decide)), h6, h7, h8.cong (hv 17 (by unfold vK; omega) (by decide)) (hg 16 (by unfold gK; omega) (by decide)), ⟨(m5 t0).2, hb t0⟩, h10, (hv 20 (by unfold vK; omega) (by decide)).trans h11, (hv 21 (by unfold vK; omega) (by decide)).trans h12, h13⟩
/-- a character more in the text, in the commands' buffer -/
def sTy (tx : List Int) (x : Int) : Int × Int := if (97 ≤ x ∧ x ≤ 122) ∨ x = 32 then (if tx.length = 60 then (2, 0) else (0, (tx.length : Int) + 1)) else (1, 0)
def sFe (inp : List Int) : Int × Int := if inp.length = 60 then (1, 0) else (0, (inp.length : Int) + 1)
theorem zVal.txt (h : zVal N v gm tx inp out c0 sv hs er fa) {t1 : List Int} (hv : ∀ k, vK k → k ≠ 8 → v1 k = v k) (hg : ∀ j, gK j → j ≠ 7 → g1 j = gm j) (ht : mT v1 g1 t1) (hl : t1.length ≤ 60) (hz : zlt2 t1) : zVal (N + 1) v1 g1 t1 inp out c0 sv hs er fa := by
  have h10 := h.svd (Nat.le_succ N) (hv 3 (by unfold vK; omega) (by decide)) (hg 2 (by unfold gK; omega) (by decide))
  obtain ⟨h1, h2, h3, h4, -, -, -, h8, ⟨h9, h9b⟩, -, h11, h12, h13⟩ := h
  exact ⟨by rw [hg 0 (by unfold gK; omega) (by decide)]; exact h1, cOK_mono h2 (Nat.le_succ N), h3.cong (hv 5 (by unfold vK; omega) (by decide)) (hg 4 (by unfold gK; omega) (by decide)), fun x hx => cOK_mono (h4 x hx) (Nat.le_succ N), ht, hl, hz, h8.cong (hv 17 (by unfold vK; omega) (by decide)) (hg 16 (by unfold gK; omega) (by decide)), ⟨h9.cong (hv 15 (by unfold vK; omega) (by decide)) (hg 14 (by unfold gK; omega) (by decide)), h9b⟩, h10, (hv 20 (by unfold vK; omega) (by decide)).trans h11, (hv 21 (by unfold vK; omega) (by decide)).trans h12, h13⟩
theorem zVal.inb (h : zVal N v gm tx inp out c0 sv hs er fa) {t1 : List Int} (hv : ∀ k, vK k → k ≠ 17 → v1 k = v k) (hg : ∀ j, gK j → j ≠ 16 → g1 j = gm j) (ht : mI v1 g1 t1) : zVal (N + 1) v1 g1 tx t1 out c0 sv hs er fa := by
  have h10 := h.svd (Nat.le_succ N) (hv 3 (by unfold vK; omega) (by decide)) (hg 2 (by unfold gK; omega) (by decide))
  obtain ⟨h1, h2, h3, h4, h5, h6, h7, -, ⟨h9, h9b⟩, -, h11, h12, h13⟩ := h
  exact ⟨by rw [hg 0 (by unfold gK; omega) (by decide)]; exact h1, cOK_mono h2 (Nat.le_succ N), h3.cong (hv 5 (by unfold vK; omega) (by decide)) (hg 4 (by unfold gK; omega) (by decide)), fun x hx => cOK_mono (h4 x hx) (Nat.le_succ N), h5.cong (hv 8 (by unfold vK; omega) (by decide)) (hg 7 (by unfold gK; omega) (by decide)), h6, h7, ht, ⟨h9.cong (hv 15 (by unfold vK; omega) (by decide)) (hg 14 (by unfold gK; omega) (by decide)), h9b⟩, h10, (hv 20 (by unfold vK; omega) (by decide)).trans h11, (hv 21 (by unfold vK; omega) (by decide)).trans h12, h13⟩
theorem zVal.mTy (h : zVal N v gm tx inp out c0 sv hs er fa) {x r : Int} (hm : (¬ ((97 ≤ x ∧ x ≤ 122) ∨ x = 32) ∧ upN v 6 1 = v1 ∧ gm = g1) ∨ (((97 ≤ x ∧ x ≤ 122) ∨ x = 32) ∧ v 8 = 60 ∧ upN v 6 2 = v1 ∧ gm = g1) ∨ (((97 ≤ x ∧ x ≤ 122) ∨ x = 32) ∧ v 8 ≠ 60 ∧ upN (upN v 6 0) 8 (v 8 + 1) = v1 ∧ upG gm 7 (upI (gm 7) (v 8) x) = g1 ∧ v 8 + 1 = r)) :
    v1 6 = (sTy tx x).1 ∧ ((sTy tx x).1 = 0 → r = (sTy tx x).2) ∧ ((sTy tx x).1 ≠ 0 → zVal (N + 1) v1 g1 tx inp out c0 sv hs er fa) ∧ ((sTy tx x).1 = 0 → zVal (N + 1) v1 g1 (tx ++ [x]) inp out c0 sv hs er fa) := by
  have h5 := h.2.2.2.2.1
  have h6 := h.2.2.2.2.2.1
  have h7 := h.2.2.2.2.2.2.1
  have h8 := h5.1
  rcases hm with ⟨c1, rfl, rfl⟩ | ⟨c1, c2, rfl, rfl⟩ | ⟨c1, c2, rfl, rfl, rfl⟩
  · have e : sTy tx x = (1, 0) := if_neg c1
    rw [e]
    exact ⟨upN_s, (fun z => by cases z), fun _ => h.up rfl rfl, (fun z => by cases z)⟩
  · have e : sTy tx x = (2, 0) := by unfold sTy; rw [if_pos c1, if_pos (by omega)]
    rw [e]
    exact ⟨upN_s, (fun z => by cases z), fun _ => h.up rfl rfl, (fun z => by cases z)⟩
  · have e : sTy tx x = (0, (tx.length : Int) + 1) := by unfold sTy; rw [if_pos c1, if_neg (by omega)]
    rw [e]
    refine ⟨by rw [upN_n (by decide)]; exact upN_s, fun _ => by show v 8 + 1 = (tx.length : Int) + 1; omega, fun z => absurd rfl z, fun _ => ?_⟩
    refine h.txt (fun k hk k8 => by rw [upN_n k8, upN_n (by unfold vK at hk; omega)]) (fun j hj j7 => upG_n j7) ⟨?_, ?_⟩ ?_ (fun y hy => ?_)
    · rw [upN_s, List.length_append, List.length_singleton]; omega
    · rw [upG_s]
      have := lnAt_snoc (x := x) h5.2 h8
      rw [Int.zero_add] at this
      exact this
    · rw [List.length_append, List.length_singleton]; omega
    · rcases List.mem_append.mp hy with z | z
      · exact h7 y z
      · rw [List.mem_singleton.mp z]; omega
theorem zVal.mFe (h : zVal N v gm tx inp out c0 sv hs er fa) {x r : Int} (hx : 0 ≤ x ∧ x ≤ 65535) (hm : (inp.length = 60 ∧ upN v 6 1 = v1 ∧ gm = g1) ∨ (inp.length ≠ 60 ∧ upN (upN v 6 0) 17 (v 17 + 1) = v1 ∧ upG gm 16 (upI (gm 16) (v 17) x) = g1 ∧ r = v 17 + 1)) :
    v1 6 = (sFe inp).1 ∧ ((sFe inp).1 = 0 → r = (sFe inp).2) ∧ ((sFe inp).1 ≠ 0 → zVal (N + 1) v1 g1 tx inp out c0 sv hs er fa) ∧ ((sFe inp).1 = 0 → zVal (N + 1) v1 g1 tx (inp ++ [x]) out c0 sv hs er fa) := by
  have h8 := h.2.2.2.2.2.2.2.1
  rcases hm with ⟨c2, rfl, rfl⟩ | ⟨c2, rfl, rfl, rfl⟩
  · have e : sFe inp = (1, 0) := if_pos c2
    rw [e]
    exact ⟨upN_s, (fun z => by cases z), fun _ => h.up rfl rfl, (fun z => by cases z)⟩
  · have e : sFe inp = (0, (inp.length : Int) + 1) := if_neg c2
    have h17 := h8.1
    have h60 := h8.2.2.1
    rw [e]
    refine ⟨by rw [upN_n (by decide)]; exact upN_s, fun _ => by show v 17 + 1 = (inp.length : Int) + 1; omega, fun z => absurd rfl z, fun _ => ?_⟩
    refine h.inb (fun k hk k17 => by rw [upN_n k17, upN_n (by unfold vK at hk; omega)]) (fun j hj j16 => upG_n j16) ⟨?_, ?_, ?_, fun y hy => ?_⟩
    · rw [upN_s, List.length_append, List.length_singleton]; omega
    · rw [upG_s]
      have := lnAt_snoc (x := x) h8.2.1 h17
      rw [Int.zero_add] at this
      exact this
    · rw [List.length_append, List.length_singleton]; omega
    · rcases List.mem_append.mp hy with z | z
      · exact h8.2.2.2 y z
      · rw [List.mem_singleton.mp z]; exact hx
theorem zVal.mCl (h : zVal N v gm tx inp out c0 sv hs er fa) {r : Int} (hm : upN (upN v 6 0) 8 0 = v1 ∧ gm = g1 ∧ v 8 = r) : r = (tx.length : Int) ∧ zVal (N + 1) v1 g1 [] inp out c0 sv hs er fa := by
  obtain ⟨rfl, rfl, rfl⟩ := hm
  exact ⟨h.2.2.2.2.1.1, h.txt (fun k hk k8 => by rw [upN_n k8, upN_n (by unfold vK at hk; omega)]) (fun j _ _ => rfl) ⟨upN_s, fun k x hk => by cases hk⟩ (by decide) (fun x hx => by cases hx)⟩
end VAL
