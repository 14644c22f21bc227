/-! The gazette: one object, the cells that it writes to (g 0 .. g 15), and the states that it holds, which never change. -/
def zrm (M : List Nat) (F : zF) : zF := fun q => if q ∈ M then none else F q
theorem zrm_in {M : List Nat} {F : zF} {q : Nat} (h : q ∈ M) : zrm M F q = none := if_pos h
theorem zrm_out {M : List Nat} {F : zF} {q : Nat} (h : q ∉ M) : zrm M F q = F q := if_neg h
theorem zrm_some {M : List Nat} {F : zF} {q : Nat} {e : va_E} (h : zrm M F q = some e) : q ∉ M ∧ F q = some e := by
  by_cases c : q ∈ M
  · rw [zrm_in c] at h; cases h
  · rw [zrm_out c] at h; exact ⟨c, h⟩
theorem zrm_le {M : List Nat} {F : zF} : zle (zrm M F) F := fun _ _ h => (zrm_some h).2
theorem zrm_ko {M : List Nat} {F : zF} : zko M F (zrm M F) := fun q e h hn => by rw [zrm_out hn]; exact h
theorem zrm_step {M M1 O : List Nat} {F F1 : zF} (hk : zko O F F1) (hO : ∀ o, o ∈ O → o ∈ M ∨ F o = none) (hM : ∀ q, q ∈ M1 → q ∈ M ∨ F q = none) : zle (zrm M F) (zrm M1 F1) := fun q e h => by
  obtain ⟨h1, h2⟩ := zrm_some h
  have h3 : q ∉ M1 := fun c => (hM q c).elim h1 (fun z => by rw [z] at h2; cases h2)
  rw [zrm_out h3]
  exact hk q e h2 (fun c => (hO q c).elim h1 (fun z => by rw [z] at h2; cases h2))
/-- the map with another address at a -/
def gup (g : Nat → Nat) (a q : Nat) : Nat → Nat := fun i => cond (Nat.beq i a) q (g i)
theorem gup_s {g : Nat → Nat} {a q : Nat} : gup g a q a = q := by unfold gup; rw [Nat.beq_refl]; rfl
theorem gup_n {g : Nat → Nat} {a q i : Nat} (h : i ≠ a) : gup g a q i = g i := by
  unfold gup
  cases hb : Nat.beq i a with
  | false => rfl
  | true => exact absurd (Nat.eq_of_beq_eq_true hb) h
def gMl (g : Nat → Nat) (ob : Nat) : List Nat := ob :: (List.range 16).map g
theorem gMl_ob {g : Nat → Nat} {ob : Nat} : ob ∈ gMl g ob := List.mem_cons_self
theorem gMl_g {g : Nat → Nat} {ob i : Nat} (h : i < 16) : g i ∈ gMl g ob := List.mem_cons_of_mem _ (List.mem_map.mpr ⟨i, List.mem_range.mpr h, rfl⟩)
theorem gMl_c {g : Nat → Nat} {ob q : Nat} (h : q ∈ gMl g ob) : q = ob ∨ ∃ i, i < 16 ∧ g i = q := by
  rcases List.mem_cons.mp h with h | h
  · exact Or.inl h
  · obtain ⟨i, h1, h2⟩ := List.mem_map.mp h
    exact Or.inr ⟨i, List.mem_range.mp h1, h2⟩
def gDis (cs : Nat → ClassId) (g : Nat → Nat) (ob : Nat) : Prop := (∀ i j : Nat, i < 16 → j < 16 → i ≠ j → g i = g j → g i = cs 8) ∧ ∀ i : Nat, i < 16 → g i ≠ ob
def cO (cs : Nat → ClassId) (F : zF) (g : Nat → Nat) (out : List Int) : Prop := ∃ cap, oSB cs F (g 4) (g 5) cap out
def cL (cs : Nat → ClassId) (F : zF) (g : Nat → Nat) : Prop := ∃ (wd : Int) (st : zLn), rLs cs F (g 6) (g 7) (g 8) wd st
def cE (cs : Nat → ClassId) (F : zF) (g : Nat → Nat) : Prop := F (g 9) = some (.inr (9, [.ref (g 10)])) ∧ ∃ e : Int → Int, F (g 10) = some (zA (cs 2) 31 e)
def cR (cs : Nat → ClassId) (F : zF) (g : Nat → Nat) : Prop := ∃ (pos : Int) (L : List Nat), F (g 11) = some (.inr (8, [.ref (g 12), .int (iI pos)])) ∧ oLx cs F (g 12) (g 13) L
def gSt (cs : Nat → ClassId) (P : zF) (sa : Nat) (so : Option Nat) (hL : List Nat) (c0 : zCo) (sv : Option zCo) (hs : List zCo) : Prop :=
  rSt cs P sa c0 ∧ ((so = none ∧ sv = none) ∨ ∃ (q : Nat) (d : zCo), so = some q ∧ sv = some d ∧ rSt cs P q d) ∧ hL.length = hs.length ∧ ∀ k : Nat, k < hs.length → rSt cs P (hL.getD k 0) (hs.getD k cNew)
theorem gSt.mono {cs : Nat → ClassId} {P P1 : zF} {sa : Nat} {so : Option Nat} {hL : List Nat} {c0 : zCo} {sv : Option zCo} {hs : List zCo} (h : gSt cs P sa so hL c0 sv hs) (hl : zle P P1) : gSt cs P1 sa so hL c0 sv hs :=
  ⟨h.1.mono hl, h.2.1.imp_right (fun ⟨q, d, h1, h2, h3⟩ => ⟨q, d, h1, h2, h3.mono hl⟩), h.2.2.1, fun k hk => (h.2.2.2 k hk).mono hl⟩
def gXo (F : zF) (ob : Nat) (g : Nat → Nat) (sa : Nat) (so : Option Nat) (er fa : Int) : Prop := F ob = some (.inr (15, [.ref (g 0), .ref (g 2), .ref (g 4), .ref (g 6), .ref (g 9), .ref (g 11), .ref (g 14), .ref sa, va_rf so, .int (iI er), .int (iI fa)]))
def gOb (cs : Nat → ClassId) (F : zF) (ob : Nat) (g : Nat → Nat) (sa : Nat) (so : Option Nat) (hL : List Nat) (tx inp out : List Int) (c0 : zCo) (sv : Option zCo) (hs : List zCo) (er fa : Int) : Prop :=
  gXo F ob g sa so er fa ∧ gDis cs g ob ∧ oBf cs F (g 0) (g 1) tx ∧ oBf cs F (g 2) (g 3) inp ∧ cO cs F g out ∧ cL cs F g ∧ cE cs F g ∧ cR cs F g ∧ oLx cs F (g 14) (g 15) hL ∧ gSt cs (zrm (gMl g ob) F) sa so hL c0 sv hs
theorem oLx.kn {cs : Nat → ClassId} {F : zF} {a arr : Nat} {l : List Nat} (h : oLx cs F a arr l) : F a ≠ none ∧ (F arr ≠ none ∨ arr = cs 8) := by
  obtain ⟨mc, h1, h2⟩ := h
  refine ⟨by rw [h1]; exact (fun z => by cases z), ?_⟩
  rcases h2 with ⟨h2, -⟩ | ⟨f, h2, -⟩
  · exact Or.inr h2
  · left; rw [h2]; exact fun z => by cases z
theorem oBf.kn {cs : Nat → ClassId} {F : zF} {a sg : Nat} {t : List Int} (h : oBf cs F a sg t) : F a ≠ none ∧ F sg ≠ none := by
  obtain ⟨f, h1, h2, -⟩ := h
  exact ⟨by rw [h1]; exact (fun z => by cases z), by rw [h2]; exact (fun z => by cases z)⟩
theorem oSB.kn {cs : Nat → ClassId} {F : zF} {a va cap : Nat} {t : List Int} (h : oSB cs F a va cap t) : F a ≠ none ∧ F va ≠ none := by
  obtain ⟨ml, f, h1, h2, -⟩ := h
  exact ⟨by rw [h1]; exact (fun z => by cases z), by rw [h2]; exact (fun z => by cases z)⟩
theorem rLs.kn {cs : Nat → ClassId} {F : zF} {a sg en : Nat} {wd : Int} {st : zLn} (h : rLs cs F a sg en wd st) : F a ≠ none ∧ F sg ≠ none ∧ F en ≠ none := by
  obtain ⟨f, e, h1, h2, h3, -⟩ := h
  exact ⟨by rw [h1]; exact (fun z => by cases z), by rw [h2]; exact (fun z => by cases z), by rw [h3]; exact (fun z => by cases z)⟩
/-- each cell is known, or the empty row -/
theorem gOb.kn {cs : Nat → ClassId} {F : zF} {ob : Nat} {g : Nat → Nat} {sa : Nat} {so : Option Nat} {hL : List Nat} {tx inp out : List Int} {c0 : zCo} {sv : Option zCo} {hs : List zCo} {er fa : Int} (h : gOb cs F ob g sa so hL tx inp out c0 sv hs er fa) : ∀ i, i < 16 → F (g i) ≠ none ∨ g i = cs 8 := by
  obtain ⟨-, -, hT, hI, ⟨cap, hO⟩, ⟨wd, st, hL⟩, ⟨hE1, e, hE2⟩, ⟨pos, L, hR1, hR2⟩, hH, -⟩ := h
  intro i hi
  match i, hi with
  | 0, _ => exact Or.inl hT.kn.1
  | 1, _ => exact Or.inl hT.kn.2
  | 2, _ => exact Or.inl hI.kn.1
  | 3, _ => exact Or.inl hI.kn.2
  | 4, _ => exact Or.inl hO.kn.1
  | 5, _ => exact Or.inl hO.kn.2
  | 6, _ => exact Or.inl hL.kn.1
  | 7, _ => exact Or.inl hL.kn.2.1
  | 8, _ => exact Or.inl hL.kn.2.2
  | 9, _ => exact Or.inl (by rw [hE1]; exact (fun z => by cases z))
  | 10, _ => exact Or.inl (by rw [hE2]; exact (fun z => by cases z))
  | 11, _ => exact Or.inl (by rw [hR1]; exact (fun z => by cases z))
  | 12, _ => exact Or.inl hR2.kn.1
  | 13, _ => exact hR2.kn.2
  | 14, _ => exact Or.inl hH.kn.1
  | 15, _ => exact hH.kn.2
  | k + 16, hi => exact absurd hi (by omega)
theorem gDis.ni {cs : Nat → ClassId} {F : zF} {g : Nat → Nat} {ob : Nat} (hD : gDis cs g ob) (h8 : F (cs 8) = none) {J : List Nat} (hJ : ∀ j, j ∈ J → j < 16) {i : Nat} (hi : i < 16) (hiJ : i ∉ J) (hk : F (g i) ≠ none) : g i ∉ J.map g := fun c => by
  obtain ⟨j, h1, h2⟩ := List.mem_map.mp c
  have h3 := hD.1 i j hi (hJ j h1) (fun e => hiJ (by rw [e]; exact h1)) h2.symm
  rw [h3] at hk
  exact hk h8
theorem gDis.up {cs : Nat → ClassId} {F : zF} {g : Nat → Nat} {ob a q : Nat} (hD : gDis cs g ob) (hkn : ∀ i, i < 16 → F (g i) ≠ none ∨ g i = cs 8) (hob : F ob ≠ none) (hq : q = g a ∨ F q = none) (ha : a < 16) : gDis cs (gup g a q) ob := by
  have hsame : q = g a → gup g a q = g := fun e => by
    funext i
    by_cases c : i = a
    · rw [c, gup_s, e]
    · rw [gup_n c]
  rcases hq with e | hn
  · rw [hsame e]; exact hD
  · refine ⟨fun i j hi hj hij h => ?_, fun i hi => ?_⟩
    · by_cases c : i = a
      · have cj : j ≠ a := fun z => hij (c.trans z.symm)
        rw [c, gup_s, gup_n cj] at h
        rw [c, gup_s]
        rcases hkn j hj with k | k
        · rw [h] at hn; exact absurd hn k
        · rw [h, k]
      · by_cases cj : j = a
        · rw [cj, gup_s, gup_n c] at h
          rw [gup_n c]
          rcases hkn i hi with k | k
          · rw [← h] at hn; exact absurd hn k
          · exact k
        · rw [gup_n c, gup_n cj] at h
          rw [gup_n c]
          exact hD.1 i j hi hj hij h
    · by_cases c : i = a
      · rw [c, gup_s]
        intro z; rw [z] at hn; exact hob hn
      · rw [gup_n c]; exact hD.2 i hi
theorem oSB.keep {cs : Nat → ClassId} {F F1 : zF} {a va cap : Nat} {t : List Int} {O : List Nat} (h : oSB cs F a va cap t) (hk : zko O F F1) (ha : a ∉ O) (hs : va ∉ O) : oSB cs F1 a va cap t := by
  obtain ⟨ml, f, h1, h2, h3⟩ := h
  exact ⟨ml, f, hk _ _ h1 ha, hk _ _ h2 hs, h3⟩
section GS
variable {cs : Nat → ClassId} {F F1 : zF} {ob : Nat} {g : Nat → Nat} {sa : Nat} {so : Option Nat} {hL : List Nat} {tx inp out : List Int} {c0 : zCo} {sv : Option zCo} {hs : List zCo} {er fa : Int}
theorem gOb.ob_ni (h : gOb cs F ob g sa so hL tx inp out c0 sv hs er fa) {J : List Nat} (hJ : ∀ j, j ∈ J → j < 16) : ob ∉ J.map g := fun c => by
  obtain ⟨j, h1, h2⟩ := List.mem_map.mp c
  exact h.2.1.2 j (hJ j h1) h2
theorem gOb.kX (h : gOb cs F ob g sa so hL tx inp out c0 sv hs er fa) {J : List Nat} (hJ : ∀ j, j ∈ J → j < 16) (hk : zko (J.map g) F F1) : gXo F1 ob g sa so er fa := hk _ _ h.1 (h.ob_ni hJ)
theorem gOb.kT (h : gOb cs F ob g sa so hL tx inp out c0 sv hs er fa) (h8 : F (cs 8) = none) {J : List Nat} (hJ : ∀ j, j ∈ J → j < 16) (hk : zko (J.map g) F F1) (n0 : 0 ∉ J) (n1 : 1 ∉ J) : oBf cs F1 (g 0) (g 1) tx :=
  h.2.2.1.keep hk (h.2.1.ni h8 hJ (by decide) n0 h.2.2.1.kn.1) (h.2.1.ni h8 hJ (by decide) n1 h.2.2.1.kn.2)
theorem gOb.kI (h : gOb cs F ob g sa so hL tx inp out c0 sv hs er fa) (h8 : F (cs 8) = none) {J : List Nat} (hJ : ∀ j, j ∈ J → j < 16) (hk : zko (J.map g) F F1) (n0 : 2 ∉ J) (n1 : 3 ∉ J) : oBf cs F1 (g 2) (g 3) inp :=
  h.2.2.2.1.keep hk (h.2.1.ni h8 hJ (by decide) n0 h.2.2.2.1.kn.1) (h.2.1.ni h8 hJ (by decide) n1 h.2.2.2.1.kn.2)
theorem gOb.kO (h : gOb cs F ob g sa so hL tx inp out c0 sv hs er fa) (h8 : F (cs 8) = none) {J : List Nat} (hJ : ∀ j, j ∈ J → j < 16) (hk : zko (J.map g) F F1) (n0 : 4 ∉ J) (n1 : 5 ∉ J) : cO cs F1 g out := by
  obtain ⟨cap, h1⟩ := h.2.2.2.2.1
  exact ⟨cap, h1.keep hk (h.2.1.ni h8 hJ (by decide) n0 h1.kn.1) (h.2.1.ni h8 hJ (by decide) n1 h1.kn.2)⟩
theorem gOb.kL (h : gOb cs F ob g sa so hL tx inp out c0 sv hs er fa) (h8 : F (cs 8) = none) {J : List Nat} (hJ : ∀ j, j ∈ J → j < 16) (hk : zko (J.map g) F F1) (n0 : 6 ∉ J) (n1 : 7 ∉ J) (n2 : 8 ∉ J) : cL cs F1 g := by
  obtain ⟨wd, st, h1⟩ := h.2.2.2.2.2.1
  exact ⟨wd, st, h1.keep hk (h.2.1.ni h8 hJ (by decide) n0 h1.kn.1) (h.2.1.ni h8 hJ (by decide) n1 h1.kn.2.1) (h.2.1.ni h8 hJ (by decide) n2 h1.kn.2.2)⟩
theorem gOb.kE (h : gOb cs F ob g sa so hL tx inp out c0 sv hs er fa) (h8 : F (cs 8) = none) {J : List Nat} (hJ : ∀ j, j ∈ J → j < 16) (hk : zko (J.map g) F F1) (n0 : 9 ∉ J) (n1 : 10 ∉ J) : cE cs F1 g := by
  obtain ⟨h1, e, h2⟩ := h.2.2.2.2.2.2.1
  exact ⟨hk _ _ h1 (h.2.1.ni h8 hJ (by decide) n0 (by rw [h1]; exact (fun z => by cases z))), e, hk _ _ h2 (h.2.1.ni h8 hJ (by decide) n1 (by rw [h2]; exact (fun z => by cases z)))⟩
theorem gOb.kR (h : gOb cs F ob g sa so hL tx inp out c0 sv hs er fa) (h8 : F (cs 8) = none) {J : List Nat} (hJ : ∀ j, j ∈ J → j < 16) (hk : zko (J.map g) F F1) (n0 : 11 ∉ J) (n1 : 12 ∉ J) (n2 : 13 ∉ J) : cR cs F1 g := by
  obtain ⟨pos, L, h1, h2⟩ := h.2.2.2.2.2.2.2.1
  exact ⟨pos, L, hk _ _ h1 (h.2.1.ni h8 hJ (by decide) n0 (by rw [h1]; exact (fun z => by cases z))), h2.keepC hk (h.2.1.ni h8 hJ (by decide) n1 h2.kn.1) (fun f hf => h.2.1.ni h8 hJ (by decide) n2 (by rw [hf]; exact (fun z => by cases z)))⟩
theorem gOb.kH (h : gOb cs F ob g sa so hL tx inp out c0 sv hs er fa) (h8 : F (cs 8) = none) {J : List Nat} (hJ : ∀ j, j ∈ J → j < 16) (hk : zko (J.map g) F F1) (n0 : 14 ∉ J) (n1 : 15 ∉ J) : oLx cs F1 (g 14) (g 15) hL :=
  h.2.2.2.2.2.2.2.2.1.keepC hk (h.2.1.ni h8 hJ (by decide) n0 h.2.2.2.2.2.2.2.2.1.kn.1) (fun f hf => h.2.1.ni h8 hJ (by decide) n1 (by rw [hf]; exact (fun z => by cases z)))
theorem gOb.kS (h : gOb cs F ob g sa so hL tx inp out c0 sv hs er fa) {J : List Nat} (hJ : ∀ j, j ∈ J → j < 16) (hk : zko (J.map g) F F1) {a q : Nat} (ha : a < 16) (hq : q = g a ∨ F q = none) : gSt cs (zrm (gMl (gup g a q) ob) F1) sa so hL c0 sv hs := by
  refine h.2.2.2.2.2.2.2.2.2.mono (zrm_step hk (fun o ho => ?_) (fun x hx => ?_))
  · obtain ⟨j, h1, h2⟩ := List.mem_map.mp ho
    rw [← h2]; exact Or.inl (gMl_g (hJ j h1))
  · rcases gMl_c hx with e | ⟨i, hi, e⟩
    · rw [e]; exact Or.inl gMl_ob
    · by_cases c : i = a
      · rw [c, gup_s] at e
        rw [← e]
        rcases hq with z | z
        · rw [z]; exact Or.inl (gMl_g ha)
        · exact Or.inr z
      · rw [gup_n c] at e
        rw [← e]; exact Or.inl (gMl_g hi)
theorem gup_id (g : Nat → Nat) (a : Nat) : gup g a (g a) = g := by
  funext i
  by_cases c : i = a
  · rw [c, gup_s]
  · rw [gup_n c]
theorem gOb.kS0 (h : gOb cs F ob g sa so hL tx inp out c0 sv hs er fa) {J : List Nat} (hJ : ∀ j, j ∈ J → j < 16) (hk : zko (J.map g) F F1) : gSt cs (zrm (gMl g ob) F1) sa so hL c0 sv hs := by
  have := h.kS hJ hk (a := 0) (q := g 0) (by decide) (Or.inl rfl)
  rw [gup_id] at this
  exact this
/-- the text changes -/
theorem gOb.sT (h : gOb cs F ob g sa so hL tx inp out c0 sv hs er fa) (h8 : F (cs 8) = none) {tx1 : List Int} (hk : zko [g 0, g 1] F F1) (h1 : oBf cs F1 (g 0) (g 1) tx1) : gOb cs F1 ob g sa so hL tx1 inp out c0 sv hs er fa := by
  have hJ : ∀ j, j ∈ [0, 1] → j < 16 := by decide
  have hk : zko ([0, 1].map g) F F1 := hk
  exact ⟨h.kX hJ hk, h.2.1, h1, h.kI h8 hJ hk (by decide) (by decide), h.kO h8 hJ hk (by decide) (by decide), h.kL h8 hJ hk (by decide) (by decide) (by decide), h.kE h8 hJ hk (by decide) (by decide), h.kR h8 hJ hk (by decide) (by decide) (by decide), h.kH h8 hJ hk (by decide) (by decide), h.kS0 hJ hk⟩
theorem gOb.sI (h : gOb cs F ob g sa so hL tx inp out c0 sv hs er fa) (h8 : F (cs 8) = none) {inp1 : List Int} (hk : zko [g 2, g 3] F F1) (h1 : oBf cs F1 (g 2) (g 3) inp1) : gOb cs F1 ob g sa so hL tx inp1 out c0 sv hs er fa := by
  have hJ : ∀ j, j ∈ [2, 3] → j < 16 := by decide
  have hk : zko ([2, 3].map g) F F1 := hk
  exact ⟨h.kX hJ hk, h.2.1, h.kT h8 hJ hk (by decide) (by decide), h1, h.kO h8 hJ hk (by decide) (by decide), h.kL h8 hJ hk (by decide) (by decide) (by decide), h.kE h8 hJ hk (by decide) (by decide), h.kR h8 hJ hk (by decide) (by decide) (by decide), h.kH h8 hJ hk (by decide) (by decide), h.kS0 hJ hk⟩
/-- the output changes -/
theorem gOb.sO (h : gOb cs F ob g sa so hL tx inp out c0 sv hs er fa) (h8 : F (cs 8) = none) {out1 : List Int} {va cap : Nat} (hva : va = g 5 ∨ F va = none) (hk : zko [g 4, g 5] F F1) (h1 : oSB cs F1 (g 4) va cap out1) : gOb cs F1 ob (gup g 5 va) sa so hL tx inp out1 c0 sv hs er fa := by
  have hJ : ∀ j, j ∈ [4, 5] → j < 16 := by decide
  have hk : zko ([4, 5].map g) F F1 := hk
  exact ⟨h.kX hJ hk, h.2.1.up h.kn (by rw [h.1]; exact (fun z => by cases z)) hva (by decide), h.kT h8 hJ hk (by decide) (by decide), h.kI h8 hJ hk (by decide) (by decide), ⟨cap, h1⟩, h.kL h8 hJ hk (by decide) (by decide) (by decide), h.kE h8 hJ hk (by decide) (by decide), h.kR h8 hJ hk (by decide) (by decide) (by decide), h.kH h8 hJ hk (by decide) (by decide), h.kS hJ hk (by decide) hva⟩
theorem gOb.sL (h : gOb cs F ob g sa so hL tx inp out c0 sv hs er fa) (h8 : F (cs 8) = none) {wd : Int} {st : zLn} (hk : zko [g 6, g 7, g 8] F F1) (h1 : rLs cs F1 (g 6) (g 7) (g 8) wd st) : gOb cs F1 ob g sa so hL tx inp out c0 sv hs er fa := by
  have hJ : ∀ j, j ∈ [6, 7, 8] → j < 16 := by decide
  have hk : zko ([6, 7, 8].map g) F F1 := hk
  exact ⟨h.kX hJ hk, h.2.1, h.kT h8 hJ hk (by decide) (by decide), h.kI h8 hJ hk (by decide) (by decide), h.kO h8 hJ hk (by decide) (by decide), ⟨wd, st, h1⟩, h.kE h8 hJ hk (by decide) (by decide), h.kR h8 hJ hk (by decide) (by decide) (by decide), h.kH h8 hJ hk (by decide) (by decide), h.kS0 hJ hk⟩
theorem gOb.sE (h : gOb cs F ob g sa so hL tx inp out c0 sv hs er fa) (h8 : F (cs 8) = none) {e : Int → Int} (hk : zko [g 10] F F1) (h1 : F1 (g 10) = some (zA (cs 2) 31 e)) : gOb cs F1 ob g sa so hL tx inp out c0 sv hs er fa := by
  have hJ : ∀ j, j ∈ [10] → j < 16 := by decide
  have hk : zko ([10].map g) F F1 := hk
  refine ⟨h.kX hJ hk, h.2.1, h.kT h8 hJ hk (by decide) (by decide), h.kI h8 hJ hk (by decide) (by decide), h.kO h8 hJ hk (by decide) (by decide), h.kL h8 hJ hk (by decide) (by decide) (by decide), ⟨?_, e, h1⟩, h.kR h8 hJ hk (by decide) (by decide) (by decide), h.kH h8 hJ hk (by decide) (by decide), h.kS0 hJ hk⟩
  have h2 := h.2.2.2.2.2.2.1.1
  exact hk _ _ h2 (h.2.1.ni h8 hJ (by decide) (by decide) (by rw [h2]; exact (fun z => by cases z)))
theorem gOb.sR (h : gOb cs F ob g sa so hL tx inp out c0 sv hs er fa) (h8 : F (cs 8) = none) {arr : Nat} {pos : Int} {L : List Nat} (ha : arr = g 13 ∨ F arr = none) (hk : zko [g 11, g 12, g 13] F F1) (h1 : F1 (g 11) = some (.inr (8, [.ref (g 12), .int (iI pos)]))) (h2 : oLx cs F1 (g 12) arr L) : gOb cs F1 ob (gup g 13 arr) sa so hL tx inp out c0 sv hs er fa := by
  have hJ : ∀ j, j ∈ [11, 12, 13] → j < 16 := by decide
  have hk : zko ([11, 12, 13].map g) F F1 := hk
  exact ⟨h.kX hJ hk, h.2.1.up h.kn (by rw [h.1]; exact (fun z => by cases z)) ha (by decide), h.kT h8 hJ hk (by decide) (by decide), h.kI h8 hJ hk (by decide) (by decide), h.kO h8 hJ hk (by decide) (by decide), h.kL h8 hJ hk (by decide) (by decide) (by decide), h.kE h8 hJ hk (by decide) (by decide), ⟨pos, L, h1, h2⟩, h.kH h8 hJ hk (by decide) (by decide), h.kS hJ hk (by decide) ha⟩
/-- the history changes -/
theorem gOb.sH (h : gOb cs F ob g sa so hL tx inp out c0 sv hs er fa) (h8 : F (cs 8) = none) {arr : Nat} {hL1 : List Nat} {hs1 : List zCo} (ha : arr = g 15 ∨ F arr = none) (hk : zko [g 14, g 15] F F1) (h1 : oLx cs F1 (g 14) arr hL1) (hl : hL1.length = hs1.length) (hh : ∀ k : Nat, k < hs1.length → rSt cs (zrm (gMl g ob) F) (hL1.getD k 0) (hs1.getD k cNew)) : gOb cs F1 ob (gup g 15 arr) sa so hL1 tx inp out c0 sv hs1 er fa := by
  have hJ : ∀ j, j ∈ [14, 15] → j < 16 := by decide
  have hk : zko ([14, 15].map g) F F1 := hk
  have hs0 : gOb cs F ob g sa so hL tx inp out c0 sv hs er fa := h
  have hS := h.2.2.2.2.2.2.2.2.2
  have h2 : gSt cs (zrm (gMl g ob) F) sa so hL1 c0 sv hs1 := ⟨hS.1, hS.2.1, hl, hh⟩
  refine ⟨h.kX hJ hk, h.2.1.up h.kn (by rw [h.1]; exact (fun z => by cases z)) ha (by decide), h.kT h8 hJ hk (by decide) (by decide), h.kI h8 hJ hk (by decide) (by decide), h.kO h8 hJ hk (by decide) (by decide), h.kL h8 hJ hk (by decide) (by decide) (by decide), h.kE h8 hJ hk (by decide) (by decide), h.kR h8 hJ hk (by decide) (by decide) (by decide), h1, h2.mono (zrm_step hk (fun o ho => ?_) (fun x hx => ?_))⟩
  · obtain ⟨j, z1, z2⟩ := List.mem_map.mp ho
    rw [← z2]; exact Or.inl (gMl_g (hJ j z1))
  · rcases gMl_c hx with e | ⟨i, hi, e⟩
    · rw [e]; exact Or.inl gMl_ob
    · by_cases c : i = 15
      · rw [c, gup_s] at e
        rw [← e]
        rcases ha with z | z
        · rw [z]; exact Or.inl (gMl_g (by decide))
        · exact Or.inr z
      · rw [gup_n c] at e
        rw [← e]; exact Or.inl (gMl_g hi)
/-- nothing of it is written -/
theorem gOb.le (h : gOb cs F ob g sa so hL tx inp out c0 sv hs er fa) (hk : zle F F1) : gOb cs F1 ob g sa so hL tx inp out c0 sv hs er fa := by
  obtain ⟨h1, h2, h3, h4, ⟨cap, h5⟩, ⟨wd, st, h6⟩, ⟨h7, e, h8⟩, ⟨pos, L, h9, h10⟩, h11, h12⟩ := h
  exact ⟨hk _ _ h1, h2, h3.mono hk, h4.mono hk, ⟨cap, h5.keep (hk.ko (O := [])) zni0 zni0⟩, ⟨wd, st, h6.keep (hk.ko (O := [])) zni0 zni0 zni0⟩, ⟨hk _ _ h7, e, hk _ _ h8⟩, ⟨pos, L, hk _ _ h9, h10.mono hk⟩, h11.mono hk, h12.mono (zrm_step (hk.ko (O := [])) (fun o ho => absurd ho List.not_mem_nil) (fun q hq => Or.inl hq))⟩
/-- the object's own fields change: the current state, the saved one, what was kept of the commands -/
theorem gOb.sX (h : gOb cs F ob g sa so hL tx inp out c0 sv hs er fa) {sa1 : Nat} {so1 : Option Nat} {c1 : zCo} {sv1 : Option zCo} {er1 fa1 : Int} (hk : zko [ob] F F1) (h1 : gXo F1 ob g sa1 so1 er1 fa1) (hS : gSt cs (zrm (gMl g ob) F) sa1 so1 hL c1 sv1 hs) : gOb cs F1 ob g sa1 so1 hL tx inp out c1 sv1 hs er1 fa1 := by
  have nb : ∀ i, i < 16 → g i ∉ [ob] := fun i hi c => h.2.1.2 i hi (List.mem_singleton.mp c)
  obtain ⟨-, h2, h3, h4, ⟨cap, h5⟩, ⟨wd, st, h6⟩, ⟨h7, e, h8⟩, ⟨pos, L, h9, h10⟩, h11, -⟩ := h
  exact ⟨h1, h2, h3.keep hk (nb 0 (by decide)) (nb 1 (by decide)), h4.keep hk (nb 2 (by decide)) (nb 3 (by decide)), ⟨cap, h5.keep hk (nb 4 (by decide)) (nb 5 (by decide))⟩, ⟨wd, st, h6.keep hk (nb 6 (by decide)) (nb 7 (by decide)) (nb 8 (by decide))⟩, ⟨hk _ _ h7 (nb 9 (by decide)), e, hk _ _ h8 (nb 10 (by decide))⟩, ⟨pos, L, hk _ _ h9 (nb 11 (by decide)), h10.keepC hk (nb 12 (by decide)) (fun f hf => nb 13 (by decide))⟩, h11.keepC hk (nb 14 (by decide)) (fun f hf => nb 15 (by decide)), hS.mono (zrm_step hk (fun o ho => by rw [List.mem_singleton.mp ho]; exact Or.inl gMl_ob) (fun q hq => Or.inl hq))⟩
theorem gOb.st (h : gOb cs F ob g sa so hL tx inp out c0 sv hs er fa) : rSt cs F sa c0 := h.2.2.2.2.2.2.2.2.2.1.mono zrm_le
end GS
