/-! The model's world: one object of 24 fields (v: the numbers, ad: the arrays' addresses), twelve arrays (g). -/
def upN (v : Nat → Int) (k : Nat) (x : Int) : Nat → Int := fun j => cond (Nat.beq j k) x (v j)
def upG (g : Nat → Int → Int) (k : Nat) (f : Int → Int) : Nat → Int → Int := fun j => cond (Nat.beq j k) f (g j)
theorem upG_n {g : Nat → Int → Int} {k j : Nat} {f : Int → Int} (h : j ≠ k) : upG g k f j = g j := by
  unfold upG
  cases h2 : Nat.beq j k with
  | true => exact absurd (Nat.eq_of_beq_eq_true h2) h
  | false => rfl
theorem upG_s {g : Nat → Int → Int} {k : Nat} {f : Int → Int} : upG g k f k = f := by
  unfold upG
  rw [show Nat.beq k k = true from Nat.beq_refl k]
  rfl
theorem upN_n {v : Nat → Int} {k j : Nat} {x : Int} (h : j ≠ k) : upN v k x j = v j := by
  unfold upN
  cases h2 : Nat.beq j k with
  | true => exact absurd (Nat.eq_of_beq_eq_true h2) h
  | false => rfl
theorem upN_s {v : Nat → Int} {k : Nat} {x : Int} : upN v k x k = x := by
  unfold upN
  rw [show Nat.beq k k = true from Nat.beq_refl k]
  rfl
def mfs (ad : Nat → Nat) (v : Nat → Int) : List Value := [.ref (ad 0), .ref (ad 1), .ref (ad 2), .int (iI (v 3)), .ref (ad 4), .int (iI (v 5)), .int (iI (v 6)), .ref (ad 7), .int (iI (v 8)), .ref (ad 9), .ref (ad 10), .ref (ad 11), .int (iI (v 12)), .ref (ad 13), .ref (ad 14), .int (iI (v 15)), .ref (ad 16), .int (iI (v 17)), .int (iI (v 18)), .int (iI (v 19)), .int (iI (v 20)), .int (iI (v 21)), .ref (ad 22), .int (iI (v 23))]
def mjs : List Nat := [0, 1, 2, 4, 7, 9, 10, 11, 13, 14, 16, 22]
def mt (j : Nat) : Nat := match j with
  | 7 => 1 | 9 => 1 | 14 => 1 | 16 => 1 | 11 => 3 | _ => 2
def mn (j : Nat) : Nat := match j with
  | 0 => 2439 | 1 => 2439 | 2 => 2439 | 4 => 19512 | 7 => 60 | 9 => 4000 | 10 => 200 | 11 => 200 | 13 => 31 | 14 => 440 | 16 => 60 | _ => 180
def mD (m0 : Nat) (ad : Nat → Nat) : Prop := (∀ j, j ∈ mjs → ad j ≠ m0) ∧ ∀ i, i ∈ mjs → ∀ j, j ∈ mjs → ad i = ad j → i = j
def mW (cs : Nat → ClassId) (m0 : Nat) (ad : Nat → Nat) (v : Nat → Int) (g : Nat → Int → Int) : zF := fun q =>
  if q = m0 then some (.inr (16, mfs ad v)) else (mjs.find? (fun j => Nat.beq (ad j) q)).map (fun j => zA (cs (mt j)) (mn j) (g j))
theorem mW_o {cs : Nat → ClassId} {m0 : Nat} {ad : Nat → Nat} {v : Nat → Int} {g : Nat → Int → Int} : mW cs m0 ad v g m0 = some (.inr (16, mfs ad v)) := if_pos rfl
theorem mfind {m0 : Nat} {ad : Nat → Nat} (h : mD m0 ad) {j : Nat} (hj : j ∈ mjs) : mjs.find? (fun i => Nat.beq (ad i) (ad j)) = some j := by
  cases hf : mjs.find? (fun i => Nat.beq (ad i) (ad j)) with
  | none =>
    have := List.find?_eq_none.mp hf j hj
    exact absurd (Nat.beq_refl (ad j)) this
  | some i =>
    have h1 := List.find?_some hf
    have h2 := List.mem_of_find?_eq_some hf
    rw [h.2 i h2 j hj (Nat.eq_of_beq_eq_true h1)]
theorem mW_a {cs : Nat → ClassId} {m0 : Nat} {ad : Nat → Nat} {v : Nat → Int} {g : Nat → Int → Int} (h : mD m0 ad) (j : Nat) (hj : j ∈ mjs) : mW cs m0 ad v g (ad j) = some (zA (cs (mt j)) (mn j) (g j)) := by
  unfold mW
  rw [if_neg (h.1 j hj), mfind h hj]
  rfl
theorem mW_uo {cs : Nat → ClassId} {m0 : Nat} {ad : Nat → Nat} {v v' : Nat → Int} {g : Nat → Int → Int} {fs : List Value} (he : fs = mfs ad v') : zup (mW cs m0 ad v g) m0 (.inr (16, fs)) = mW cs m0 ad v' g := by
  funext q
  by_cases h : q = m0
  · subst h; rw [zup_s, mW_o, he]
  · rw [zup_n h]; unfold mW; rw [if_neg h, if_neg h]
theorem mW_ua {cs : Nat → ClassId} {m0 : Nat} {ad : Nat → Nat} {v : Nat → Int} {g : Nat → Int → Int} (h : mD m0 ad) {j : Nat} (hj : j ∈ mjs) {f : Int → Int} : zup (mW cs m0 ad v g) (ad j) (zA (cs (mt j)) (mn j) f) = mW cs m0 ad v (upG g j f) := by
  funext q
  by_cases hq : q = ad j
  · subst hq; rw [zup_s, mW_a h j hj, upG_s]
  · rw [zup_n hq]
    unfold mW
    by_cases h0 : q = m0
    · rw [if_pos h0, if_pos h0]
    · rw [if_neg h0, if_neg h0]
      cases hf : mjs.find? (fun i => Nat.beq (ad i) q) with
      | none => rfl
      | some i =>
        have h1 : ad i = q := Nat.eq_of_beq_eq_true (List.find?_some (p := fun i => Nat.beq (ad i) q) hf)
        have hne : i ≠ j := fun e => hq (by rw [← h1, e])
        show some (zA (cs (mt i)) (mn i) (g i)) = some (zA (cs (mt i)) (mn i) (upG g j f i))
        rw [upG_n hne]
abbrev InR (z : Int) : Prop := -2147483648 ≤ z ∧ z ≤ 2147483647
/-- all numbers are ints -/
def mOK (v : Nat → Int) (g : Nat → Int → Int) : Prop := (∀ k, InR (v k)) ∧ ∀ j i, InR (g j i)
theorem mOK.v {v : Nat → Int} {g : Nat → Int → Int} {k : Nat} {x : Int} (h : mOK v g) (hx : InR x) : mOK (upN v k x) g := ⟨fun j => by
  by_cases e : j = k
  · subst e; rw [upN_s]; exact hx
  · rw [upN_n e]; exact h.1 j, h.2⟩
theorem upI_s {α : Type} {f : Int → α} {i : Int} {x : α} : upI f i x i = x := if_pos rfl
theorem upI_n {α : Type} {f : Int → α} {i j : Int} {x : α} (h : j ≠ i) : upI f i x j = f j := if_neg h
theorem mOK.gf {v : Nat → Int} {g : Nat → Int → Int} {k : Nat} {f : Int → Int} (h : mOK v g) (hf : ∀ i, InR (f i)) : mOK v (upG g k f) := ⟨h.1, fun j => by
  by_cases e : j = k
  · subst e; rw [upG_s]; exact hf
  · rw [upG_n e]; exact h.2 j⟩
theorem InR.up {f : Int → Int} {i x : Int} (hf : ∀ i, InR (f i)) (hx : InR x) : ∀ j, InR (upI f i x j) := fun j => by
  by_cases e : j = i
  · subst e; rw [upI_s]; exact hx
  · rw [upI_n e]; exact hf j
theorem mOK.g {v : Nat → Int} {g : Nat → Int → Int} {k : Nat} {i x : Int} {f : Int → Int} (h : mOK v g) (hf : g k = f) (hx : InR x) : mOK v (upG g k (upI f i x)) := h.gf (InR.up (by rw [← hf]; exact h.2 k) hx)
/-- the answer of a question: which exception, which value -/
def mA (v : Nat → Int) (g : Nat → Int → Int) (r : Int) (v1 : Nat → Int) (g1 : Nat → Int → Int) (q : Int × Int) : Prop := upN v 6 q.1 = v1 ∧ g = g1 ∧ (q.1 = 0 → r = q.2)
/-- a model method's end -/
def mP (cs : Nat → ClassId) (m0 : Nat) (ad : Nat → Nat) (post : Int → (Nat → Int) → (Nat → Int → Int) → Prop) : Option Value → zF → Prop := pI fun r F => ∃ v g, F = mW cs m0 ad v g ∧ mOK v g ∧ post r v g
def mPv (cs : Nat → ClassId) (m0 : Nat) (ad : Nat → Nat) (post : (Nat → Int) → (Nat → Int → Int) → Prop) : Option Value → zF → Prop := pV fun F => ∃ v g, F = mW cs m0 ad v g ∧ mOK v g ∧ post v g
def mPf (cs : Nat → ClassId) (m0 : Nat) (ad : Nat → Nat) (post : UInt32 → (Nat → Int) → (Nat → Int → Int) → Prop) : Option Value → zF → Prop := pF fun r F => ∃ v g, F = mW cs m0 ad v g ∧ mOK v g ∧ post r v g
def mPd (cs : Nat → ClassId) (m0 : Nat) (ad : Nat → Nat) (post : UInt64 → (Nat → Int) → (Nat → Int → Int) → Prop) : Option Value → zF → Prop := pD fun r F => ∃ v g, F = mW cs m0 ad v g ∧ mOK v g ∧ post r v g
section ZM
variable {p : Program} {l : Launch} {e : Env} {R : Room} {s : State} {m : MethodId} {args : Array Value} {below : List Frame} {meth : Method} {c : Code} {H : Heap} {locs : List Loc} {cells slots : Nat} {Q : State → Prop}
variable {cc : ByteArray} {pc nL : Nat} {ls : Array Slot} {rest : List Value} {D : va_G} {cs : Nat → ClassId} {A : Nat → Prop} {m0 : Nat} {ad : Nat → Nat} {v : Nat → Int} {g : Nat → Int → Int}
end ZM
