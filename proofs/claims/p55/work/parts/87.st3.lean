/-- a cell that never changes once it is made, by its kind -/
def zIm (cs : Nat → ClassId) (e : va_E) : Prop := match e with
  | .inr y => y.1 = 5 ∨ y.1 = 10 ∨ y.1 = 12 ∨ y.1 = 14
  | .inl (_, n, .inl _) => n ≤ 12
  | .inl (c, _, .inr _) => c = cs 4
/-- o is no such cell -/
def zNi (cs : Nat → ClassId) (F : zF) (o : Nat) : Prop := ∀ e : va_E, F o = some e → ¬ zIm cs e
theorem zko.im {cs : Nat → ClassId} {O : List Nat} {F F1 : zF} {q : Nat} {e : va_E} (hk : zko O F F1) (hO : ∀ o, o ∈ O → zNi cs F o) (h : F q = some e) (hi : zIm cs e) : F1 q = some e := hk q e h (fun c => hO q c e h hi)
theorem zNi.o {cs : Nat → ClassId} {F : zF} {o ci : Nat} {fs : List Value} (h : F o = some (.inr (ci, fs))) (hc : ¬ (ci = 5 ∨ ci = 10 ∨ ci = 12 ∨ ci = 14)) : zNi cs F o := fun e he => by
  rw [h] at he; cases he; exact hc
theorem zNi.i {cs : Nat → ClassId} {F : zF} {o n : Nat} {c : ClassId} {f : Int → Int} (h : F o = some (zA c n f)) (hn : 12 < n) : zNi cs F o := fun e he => by
  rw [h] at he; cases he; exact (show ¬ n ≤ 12 by omega)
theorem zNi.r {cs : Nat → ClassId} {F : zF} {o n : Nat} {c : ClassId} {f : Int → Option Nat} (h : F o = some (zO c n f)) (hn : c ≠ cs 4) : zNi cs F o := fun e he => by
  rw [h] at he; cases he; exact hn
theorem zNi.n {cs : Nat → ClassId} {F : zF} {o : Nat} (h : F o = none) : zNi cs F o := fun e he => by
  rw [h] at he; cases he
theorem oWd.keepO {cs : Nat → ClassId} {F F1 : zF} {q : Nat} {w : zWd} {O : List Nat} (h : oWd cs F q w) (hk : zko O F F1) (hO : ∀ o, o ∈ O → zNi cs F o) : oWd cs F1 q w := by
  obtain ⟨a1, a2, f, g, w1, w2, w3, w4, w5, w6⟩ := h
  have hl := w6.1.2
  exact ⟨a1, a2, f, g, hk.im hO w1 (Or.inr (Or.inr (Or.inr rfl))), hk.im hO w2 (show w.length ≤ 12 from hl), hk.im hO w3 (show w.length ≤ 12 from hl), w4, w5, w6⟩
theorem oWs.keepO {cs : Nat → ClassId} {F F1 : zF} {q : Nat} {ws : List zWd} {O : List Nat} (h : oWs cs F q ws) (hk : zko O F F1) (hO : ∀ o, o ∈ O → zNi cs F o) : oWs cs F1 q ws := by
  obtain ⟨f, h1, h2⟩ := h
  exact ⟨f, hk.im hO h1 (show cs 4 = cs 4 from rfl), fun k k0 k1 => by obtain ⟨y, e1, o1⟩ := h2 k k0 k1; exact ⟨y, e1, o1.keepO hk hO⟩⟩
theorem oAr.keepO {cs : Nat → ClassId} {F F1 : zF} {q : Nat} {x : zAr} {O : List Nat} (h : oAr cs F q x) (hk : zko O F F1) (hO : ∀ o, o ∈ O → zNi cs F o) : oAr cs F1 q x := by
  obtain ⟨wa, h1, h2, h3⟩ := h
  exact ⟨wa, hk.im hO h1 (Or.inl rfl), h2.keepO hk hO, h3⟩
theorem oPg.keepO {cs : Nat → ClassId} {F F1 : zF} {q : Nat} {s : zIs} {O : List Nat} (h : oPg cs F q s) (hk : zko O F F1) (hO : ∀ o, o ∈ O → zNi cs F o) : oPg cs F1 q s := by
  obtain ⟨ia, la, f, g, h1, h2, h3, h4⟩ := h
  exact ⟨ia, la, f, g, hk.im hO h1 (Or.inr (Or.inr (Or.inl rfl))), hk.im hO h2 (show 6 ≤ 12 by decide), hk.im hO h3 (show 6 ≤ 12 by decide), h4⟩
theorem oIs.keepO {cs : Nat → ClassId} {F F1 : zF} {q : Nat} {da : Int} {s : zIs} {O : List Nat} (h : oIs cs F q da s) (hk : zko O F F1) (hO : ∀ o, o ∈ O → zNi cs F o) : oIs cs F1 q da s := by
  obtain ⟨pa, h1, h2⟩ := h
  exact ⟨pa, hk.im hO h1 (Or.inr (Or.inl rfl)), h2.keepO hk hO⟩
theorem oAs.keepO {cs : Nat → ClassId} {F F1 : zF} {l : List Nat} {as : List zAr} {O : List Nat} (h : oAs cs F l as) (hk : zko O F F1) (hO : ∀ o, o ∈ O → zNi cs F o) : oAs cs F1 l as := ⟨h.1, fun k k0 k1 => (h.2 k k0 k1).keepO hk hO⟩
theorem oSs.keepO {cs : Nat → ClassId} {F F1 : zF} {l : List Nat} {da : Int} {ss : List zIs} {O : List Nat} (h : oSs cs F l da ss) (hk : zko O F F1) (hO : ∀ o, o ∈ O → zNi cs F o) : oSs cs F1 l da ss := ⟨h.1, fun k k0 k1 => (h.2 k k0 k1).keepO hk hO⟩
theorem zC.c54 {p : Program} {s : State} {m : MethodId} {args : Array Value} {c : Code} {cc : ByteArray} {nL : Nat} {own : String} {D : va_G} {cs : Nat → ClassId} {A : Nat → Prop} (hC : zC p s m args c cc nL own D cs A) : cs 5 ≠ cs 4 := by
  intro q
  have h4 := hC.nm4
  have h5 : s.vm.findClass "[Ljava/lang/Object;" = some (cs 5) := by
    obtain ⟨kA, comp, -, -, -, h⟩ := (hC.K.2 5 _ rfl).2
    exact h
  obtain ⟨k0, e0, n0⟩ := Vm.findClass_spec h4
  obtain ⟨k1, e1, n1⟩ := Vm.findClass_spec h5
  rw [q] at e1
  cases e0.symm.trans e1
  rw [n0] at n1
  exact absurd n1 (by decide)
/-- a state that is still altered: its own cells are a, la, ra, li, ri -/
def bSt (cs : Nat → ClassId) (F : zF) (a la ra li ri : Nat) (c : zCo) : Prop := ∃ aL iL : List Nat, F a = some (.inr (13, [.ref la, .ref li, .int (iI (cNi c)), .int (iI (cNn c)), .int (iI (cWi c)), .int (iI (cCo c)), .int (iI (cHe c)), .int (iI (cDa c)), .int (iI (cLa c))])) ∧ oLx cs F la ra aL ∧ oLx cs F li ri iL ∧ oAs cs F aL (cAr c) ∧ oSs cs F iL (cDa c) (cIs c) ∧ la ≠ li ∧ (ra = ri → ra = cs 8)
theorem bSt.r {cs : Nat → ClassId} {F : zF} {a la ra li ri : Nat} {c : zCo} (h : bSt cs F a la ra li ri c) : rSt cs F a c := by
  obtain ⟨aL, iL, h1, h2, h3, h4, h5, -⟩ := h
  exact ⟨la, li, aL, iL, h1, ⟨ra, h2⟩, ⟨ri, h3⟩, h4, h5⟩
