/-! The class's objects, said of a world F. -/
theorem zne {F : zF} {a b : Nat} {e e' : va_E} (ha : F a = some e) (hb : F b = some e') (h : e = e' → False) : a ≠ b := by
  intro q
  subst q
  exact h (Option.some.inj (ha.symm.trans hb))
theorem zup_none {F : zF} {a b : Nat} {e : va_E} (h : zup F a e b = none) : F b = none := by
  by_cases q : b = a
  · subst q; rw [zup_s] at h; cases h
  · rw [zup_n q] at h; exact h
def zle (F F1 : zF) : Prop := ∀ (q : Nat) (e : va_E), F q = some e → F1 q = some e
theorem zle.refl {F : zF} : zle F F := fun _ _ h => h
theorem zle.trans {F F1 F2 : zF} (h : zle F F1) (h1 : zle F1 F2) : zle F F2 := fun q e hq => h1 q e (h q e hq)
theorem zle.fresh {F : zF} {a : Nat} {e : va_E} (h : F a = none) : zle F (zup F a e) := fun q e' hq => zup_k (zF_ne hq h) hq
theorem zle.up {P F : zF} {a : Nat} {e : va_E} (h : zle P F) (hP : P a = none) : zle P (zup F a e) := fun q e' hq => zup_k (zF_ne hq hP) (h q e' hq)
/-- P grows to P', by cells that are not in G -/
def zext (G P P' : zF) : Prop := zle P P' ∧ ∀ q : Nat, P q = none → G q ≠ none → P' q = none
theorem zext.refl {G P : zF} : zext G P P := ⟨zle.refl, fun _ h _ => h⟩
theorem zext.trans {G P P1 P2 : zF} (h : zext G P P1) (h1 : zext G P1 P2) : zext G P P2 := ⟨h.1.trans h1.1, fun q a b => h1.2 q (h.2 q a b) b⟩
theorem zext.less {G G' P P1 : zF} (h : zext G P P1) (hG : zle G' G) : zext G' P P1 := ⟨h.1, fun q a b => h.2 q a (fun c => b (by
  cases hb : G' q with
  | none => rfl
  | some e => rw [hG q e hb] at c; cases c))⟩
theorem zext.up {G P P1 : zF} {a : Nat} {e : va_E} (h : zext G P P1) (hP : P1 a = none) (hG : G a = none) : zext G P (zup P1 a e) := ⟨h.1.trans (zle.fresh hP), fun q h1 h2 => by
  have hn : q ≠ a := fun c => h2 (by rw [c]; exact hG)
  rw [zup_n hn]
  exact h.2 q h1 h2⟩
theorem zle.nn {P F : zF} {a : Nat} (h : zle P F) (ha : F a = none) : P a = none := by
  cases hp : P a with
  | none => rfl
  | some e => rw [h a e hp] at ha; cases ha
/-- a word's letters and cuts -/
def oWd (cs : Nat → ClassId) (F : zF) (a : Nat) (w : zWd) : Prop := ∃ (la ca : Nat) (f g : Int → Int), F a = some (.inr (14, [.ref la, .ref ca])) ∧ F la = some (zA (cs 1) w.length f) ∧ F ca = some (zA (cs 3) w.length g) ∧ (∀ k : Int, 0 ≤ k → k < w.length → f k = w.getD k.toNat 0) ∧ (∀ k : Int, 0 ≤ k → k < w.length → (cutOK w k ∧ g k = 1) ∨ (¬ cutOK w k ∧ g k = 0)) ∧ wdOK w
def oWs (cs : Nat → ClassId) (F : zF) (a : Nat) (ws : List zWd) : Prop := ∃ h : Int → Option Nat, F a = some (zO (cs 4) ws.length h) ∧ ∀ k : Int, 0 ≤ k → k < ws.length → ∃ q : Nat, h k = some q ∧ oWd cs F q (ws.getD k.toNat [])
def oAr (cs : Nat → ClassId) (F : zF) (a : Nat) (x : zAr) : Prop := ∃ wa : Nat, F a = some (.inr (5, [.int (iI x.1), .int (iI x.2.1), .ref wa])) ∧ oWs cs F wa x.2.2 ∧ arOK 1000000 x
def oPg (cs : Nat → ClassId) (F : zF) (a : Nat) (s : zIs) : Prop := ∃ (ia la : Nat) (f g : Int → Int), F a = some (.inr (12, [.int (iI (iCo s)), .int (iI (iHe s)), .ref ia, .ref la, .int (iI (iTk s).length), .int (iI (iLi s))])) ∧ F ia = some (zA (cs 2) 6 f) ∧ F la = some (zA (cs 2) 6 g) ∧ (∀ k : Int, 0 ≤ k → k < (iTk s).length → f k = ((iTk s).getD k.toNat (0, 0)).1 ∧ g k = ((iTk s).getD k.toNat (0, 0)).2) ∧ isOK 1000000 1000000 1000000 s
def oIs (cs : Nat → ClassId) (F : zF) (a : Nat) (da : Int) (s : zIs) : Prop := ∃ pa : Nat, F a = some (.inr (10, [.int (iI (iNo s)), .ref pa, .float (zfr (da - iPr s).toNat)])) ∧ oPg cs F pa s
/-- an ArrayList of at most ten, its array at arr -/
def oLx (cs : Nat → ClassId) (F : zF) (a arr : Nat) (l : List Nat) : Prop := ∃ mc : Int, F a = some (.inr (4, [.int (iI mc), .ref arr, .int (iI l.length)])) ∧ ((arr = cs 8 ∧ l = []) ∨ ∃ h : Int → Option Nat, F arr = some (zO (cs 5) 10 h) ∧ l.length ≤ 10 ∧ ∀ k : Int, 0 ≤ k → k < l.length → h k = some (l.getD k.toNat 0))
def oL (cs : Nat → ClassId) (F : zF) (a : Nat) (l : List Nat) : Prop := ∃ arr : Nat, oLx cs F a arr l
/-- what an ArrayList may hold -/
def zEl (F : zF) (x : Nat) : Prop := ∃ (ci N : Nat) (C : String) (T : u_T) (fs : List Value), F x = some (.inr (ci, fs)) ∧ vwCl[ci]? = some (C, T, N) ∧ Cond.castable C "java/lang/Object" ∈ ZNW
def oAs (cs : Nat → ClassId) (F : zF) (l : List Nat) (as : List zAr) : Prop := l.length = as.length ∧ ∀ k : Int, 0 ≤ k → k < as.length → oAr cs F (l.getD k.toNat 0) (as.getD k.toNat (0, 0, []))
def oSs (cs : Nat → ClassId) (F : zF) (l : List Nat) (da : Int) (ss : List zIs) : Prop := l.length = ss.length ∧ ∀ k : Int, 0 ≤ k → k < ss.length → oIs cs F (l.getD k.toNat 0) da (ss.getD k.toNat (0, 0, 0, 0, [], 0))
def rSt (cs : Nat → ClassId) (F : zF) (a : Nat) (c : zCo) : Prop := ∃ (la li : Nat) (as is : List Nat), F a = some (.inr (13, [.ref la, .ref li, .int (iI (cNi c)), .int (iI (cNn c)), .int (iI (cWi c)), .int (iI (cCo c)), .int (iI (cHe c)), .int (iI (cDa c)), .int (iI (cLa c))])) ∧ oL cs F la as ∧ oL cs F li is ∧ oAs cs F as (cAr c) ∧ oSs cs F is (cDa c) (cIs c)
theorem oWd.mono {cs : Nat → ClassId} {F F1 : zF} {a : Nat} {w : zWd} (h : oWd cs F a w) (hl : zle F F1) : oWd cs F1 a w := by
  obtain ⟨la, ca, f, g, h1, h2, h3, h4⟩ := h
  exact ⟨la, ca, f, g, hl _ _ h1, hl _ _ h2, hl _ _ h3, h4⟩
theorem oWs.mono {cs : Nat → ClassId} {F F1 : zF} {a : Nat} {ws : List zWd} (h : oWs cs F a ws) (hl : zle F F1) : oWs cs F1 a ws := by
  obtain ⟨f, h1, h2⟩ := h
  exact ⟨f, hl _ _ h1, fun k h3 h4 => by obtain ⟨q, h5, h6⟩ := h2 k h3 h4; exact ⟨q, h5, h6.mono hl⟩⟩
theorem oAr.mono {cs : Nat → ClassId} {F F1 : zF} {a : Nat} {x : zAr} (h : oAr cs F a x) (hl : zle F F1) : oAr cs F1 a x := by
  obtain ⟨wa, h1, h2, h3⟩ := h
  exact ⟨wa, hl _ _ h1, h2.mono hl, h3⟩
theorem oPg.mono {cs : Nat → ClassId} {F F1 : zF} {a : Nat} {x : zIs} (h : oPg cs F a x) (hl : zle F F1) : oPg cs F1 a x := by
  obtain ⟨ia, la, f, g, h1, h2, h3, h4⟩ := h
  exact ⟨ia, la, f, g, hl _ _ h1, hl _ _ h2, hl _ _ h3, h4⟩
theorem oIs.mono {cs : Nat → ClassId} {F F1 : zF} {a : Nat} {da : Int} {x : zIs} (h : oIs cs F a da x) (hl : zle F F1) : oIs cs F1 a da x := by
  obtain ⟨pa, h1, h2⟩ := h
  exact ⟨pa, hl _ _ h1, h2.mono hl⟩
theorem oLx.mono {cs : Nat → ClassId} {F F1 : zF} {a arr : Nat} {l : List Nat} (h : oLx cs F a arr l) (hl : zle F F1) : oLx cs F1 a arr l := by
  obtain ⟨mc, h1, h2⟩ := h
  refine ⟨mc, hl _ _ h1, ?_⟩
  rcases h2 with h2 | ⟨f, h3, h4⟩
  · exact Or.inl h2
  · exact Or.inr ⟨f, hl _ _ h3, h4⟩
theorem oL.mono {cs : Nat → ClassId} {F F1 : zF} {a : Nat} {l : List Nat} (h : oL cs F a l) (hl : zle F F1) : oL cs F1 a l := h.elim fun arr h => ⟨arr, h.mono hl⟩
theorem zEl.mono {F F1 : zF} {x : Nat} (h : zEl F x) (hl : zle F F1) : zEl F1 x := by
  obtain ⟨ci, N, C, T, fs, h1, h2⟩ := h
  exact ⟨ci, N, C, T, fs, hl _ _ h1, h2⟩
theorem oAs.mono {cs : Nat → ClassId} {F F1 : zF} {l : List Nat} {as : List zAr} (h : oAs cs F l as) (hl : zle F F1) : oAs cs F1 l as := ⟨h.1, fun k h1 h2 => (h.2 k h1 h2).mono hl⟩
theorem oSs.mono {cs : Nat → ClassId} {F F1 : zF} {l : List Nat} {da : Int} {ss : List zIs} (h : oSs cs F l da ss) (hl : zle F F1) : oSs cs F1 l da ss := ⟨h.1, fun k h1 h2 => (h.2 k h1 h2).mono hl⟩
theorem rSt.mono {cs : Nat → ClassId} {F F1 : zF} {a : Nat} {c : zCo} (h : rSt cs F a c) (hl : zle F F1) : rSt cs F1 a c := by
  obtain ⟨la, li, as, is, h1, h2, h3, h4, h5⟩ := h
  exact ⟨la, li, as, is, hl _ _ h1, h2.mono hl, h3.mono hl, h4.mono hl, h5.mono hl⟩
/-- what is not in O is kept -/
def zko (O : List Nat) (F F1 : zF) : Prop := ∀ (q : Nat) (e : va_E), F q = some e → q ∉ O → F1 q = some e
theorem zko.refl {O : List Nat} {F : zF} : zko O F F := fun _ _ h _ => h
theorem zko.trans {O : List Nat} {F F1 F2 : zF} (h : zko O F F1) (h1 : zko O F1 F2) : zko O F F2 := fun q e hq hn => h1 q e (h q e hq hn) hn
theorem zko.up {O : List Nat} {F F1 : zF} {a : Nat} {e : va_E} (h : zko O F F1) (ha : a ∈ O) : zko O F (zup F1 a e) := fun q e' hq hn => zup_k (fun c => hn (by rw [c]; exact ha)) (h q e' hq hn)
theorem zko.new {O : List Nat} {F F1 : zF} {a : Nat} {e : va_E} (h : zko O F F1) (ha : F1 a = none) : zko O F (zup F1 a e) := fun q e' hq hn => zup_k (zF_ne (h q e' hq hn) ha) (h q e' hq hn)
theorem zko.upn {O : List Nat} {F F1 : zF} {a : Nat} {e : va_E} (h : zko O F F1) (ha : F a = none) : zko O F (zup F1 a e) := fun q e' hq hn => zup_k (zF_ne hq ha) (h q e' hq hn)
theorem zko.sub {O O' : List Nat} {F F1 : zF} (h : zko O F F1) (hs : ∀ q, q ∈ O → q ∈ O') : zko O' F F1 := fun q e hq hn => h q e hq (fun c => hn (hs q c))
theorem zle.ko {F F1 : zF} {O : List Nat} (h : zle F F1) : zko O F F1 := fun q e hq _ => h q e hq
theorem zko.le {F F1 : zF} (h : zko [] F F1) : zle F F1 := fun q e hq => h q e hq List.not_mem_nil
theorem zni0 {b : Nat} : b ∉ ([] : List Nat) := List.not_mem_nil
theorem zni1 {b a : Nat} {O : List Nat} (h : b ≠ a) (h1 : b ∉ O) : b ∉ a :: O := fun q => (List.mem_cons.mp q).elim h h1
/-- P stays below F1 when what was written is not in P -/
theorem zle.kod {P F F1 : zF} {O : List Nat} (h : zle P F) (hk : zko O F F1) (hO : ∀ q, q ∈ O → P q = none) : zle P F1 := fun q e hq => hk q e (h q e hq) (fun c => by rw [hO q c] at hq; cases hq)
/-- a page that is being filled -/
def bPg (cs : Nat → ClassId) (F : zF) (a ia la : Nat) (co he : Int) (tk : List (Int × Int)) (us : Int) : Prop := ∃ f g : Int → Int, F a = some (.inr (12, [.int (iI co), .int (iI he), .ref ia, .ref la, .int (iI tk.length), .int (iI us)])) ∧ F ia = some (zA (cs 2) 6 f) ∧ F la = some (zA (cs 2) 6 g) ∧ ia ≠ la ∧ ∀ k : Int, 0 ≤ k → k < tk.length → f k = (tk.getD k.toNat (0, 0)).1 ∧ g k = (tk.getD k.toNat (0, 0)).2
