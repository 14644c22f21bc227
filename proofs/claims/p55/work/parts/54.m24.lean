/-- the model's command buffer -/
def mI (v : Nat → Int) (g : Nat → Int → Int) (inp : List Int) : Prop := v 17 = inp.length ∧ lnAt (g 16) 0 inp ∧ inOK inp
def b2i (b : Bool) : Int := if b then 1 else 0
theorem bh_at {v : Nat → Int} {g : Nat → Int → Int} {inp : List Int} (hI : mI v g inp) {a : Int} (h0 : 0 ≤ a) (h1 : a < v 17) : g 16 a = bh inp a := by
  have h17 := hI.1
  unfold bh
  rw [if_pos (by omega)]
  have := lnAt_get hI.2.1 h0 (by omega)
  rw [Int.zero_add] at this
  exact this
theorem mI_of {v v2 : Nat → Int} {g g2 : Nat → Int → Int} {inp : List Int} (h : mI v g inp) (hv : v2 17 = v 17) (hg : g2 16 = g 16) : mI v2 g2 inp := ⟨hv.trans h.1, by rw [hg]; exact h.2.1, h.2.2⟩
theorem inp_rng {v : Nat → Int} {g : Nat → Int → Int} {inp : List Int} (hI : mI v g inp) {a : Int} (h0 : 0 ≤ a) (h1 : a < v 17) : 0 ≤ g 16 a ∧ g 16 a ≤ 65535 := by
  have h2 := bh_at hI h0 h1
  have h3 := bh_rng hI.2.2 a h0
  have h4 : bh inp a ≠ -1 := by
    unfold bh
    have h17 := hI.1
    rw [if_pos (by omega)]
    have hl : a.toNat < inp.length := by omega
    have := hI.2.2.2 _ (List.getElem_mem hl)
    rw [List.getD_eq_getElem?_getD, List.getElem?_eq_getElem hl]
    simp only [Option.getD_some]
    omega
  omega
theorem zskip_s {inp : List Int} {j : Nat} {k a : Int} (h0 : 0 ≤ k) (h : k < (zstr j).length) : zskip inp ((zstr j).drop k.toNat) a = if bh inp a = (zstr j).getD k.toNat 0 then zskip inp ((zstr j).drop (k + 1).toNat) (a + 1) else (true, a) := by
  have hl : k.toNat < (zstr j).length := by omega
  rw [List.drop_eq_getElem_cons hl, show (k + 1).toNat = k.toNat + 1 by omega]
  conv => lhs; unfold zskip
  rw [List.getD_eq_getElem?_getD, List.getElem?_eq_getElem hl]
  rfl
theorem zskip_0 {inp : List Int} {j : Nat} {k a : Int} (h : (zstr j).length ≤ k) : zskip inp ((zstr j).drop k.toNat) a = (false, a) := by
  rw [List.drop_of_length_le (by omega)]
  rfl
