/-! System.arraycopy between the model's rows -/
def cpI (f g : Int → Int) (sp dp n : Int) : Int → Int := fun k => if dp ≤ k ∧ k < dp + n then f (sp + (k - dp)) else g k
theorem cpI_va {f g : Int → Int} {sp dp n : Int} (h1 : 0 ≤ sp) (h2 : 0 ≤ dp) (h3 : 0 ≤ n) : va_cpy (aI f) (aI g) sp.toNat dp.toNat n.toNat = aI (cpI f g sp dp n) := by
  funext k
  unfold va_cpy aI cpI
  by_cases h : dp.toNat ≤ k ∧ k < dp.toNat + n.toNat
  · rw [if_pos h, if_pos (by omega)]
    congr 2
    omega
  · rw [if_neg h, if_neg (by omega)]
def mlist (cs : Nat → ClassId) (m0 : Nat) (ad : Nat → Nat) (v : Nat → Int) (g : Nat → Int → Int) : va_W := (m0, .inr (16, mfs ad v)) :: mjs.map (fun j => (ad j, zA (cs (mt j)) (mn j) (g j)))
theorem mlist_of {D : va_G} {cs : Nat → ClassId} {m0 : Nat} {ad : Nat → Nat} {v : Nat → Int} {g : Nat → Int → Int} {H : Heap} (hD : mD m0 ad) (h : zw D (mW cs m0 ad v g) H) : va_P D vwCl (mlist cs m0 ad v g) H := by
  intro k q hk
  rcases List.mem_cons.mp (List.mem_of_getElem? hk) with e | hm
  · subst e; exact h _ _ mW_o
  · obtain ⟨j, hj, rfl⟩ := List.mem_map.mp hm
    exact h _ _ (mW_a hD j hj)
theorem mlist_to {D : va_G} {cs : Nat → ClassId} {m0 : Nat} {ad : Nat → Nat} {v : Nat → Int} {g : Nat → Int → Int} {H : Heap} (h : va_P D vwCl (mlist cs m0 ad v g) H) : zw D (mW cs m0 ad v g) H := by
  intro a e ha
  have key : (a, e) ∈ mlist cs m0 ad v g := by
    unfold mW at ha
    by_cases h0 : a = m0
    · rw [if_pos h0] at ha
      cases ha
      rw [h0]
      exact List.mem_cons_self
    · rw [if_neg h0] at ha
      cases hf : mjs.find? (fun j => Nat.beq (ad j) a) with
      | none => rw [hf] at ha; cases ha
      | some j =>
        rw [hf] at ha
        have h1 : ad j = a := Nat.eq_of_beq_eq_true (List.find?_some (p := fun i => Nat.beq (ad i) a) hf)
        have h2 := List.mem_of_find?_eq_some hf
        have h3 : zA (cs (mt j)) (mn j) (g j) = e := Option.some.inj ha
        exact List.mem_cons_of_mem _ (List.mem_map.mpr ⟨j, h2, by rw [h1, h3]⟩)
  obtain ⟨k, hk⟩ := List.getElem?_of_mem key
  exact h k _ hk
theorem mlist_D {cs : Nat → ClassId} {m0 : Nat} {ad : Nat → Nat} {v : Nat → Int} {g : Nat → Int → Int} {A : Nat → Prop} (hD : mD m0 ad) (hA : ∀ (a : Nat) (e : va_E), mW cs m0 ad v g a = some e → A a) : va_D A (mlist cs m0 ad v g) := by
  refine ⟨fun i j p q hp hq he => ?_, fun k q hk => ?_⟩
  · have hnd : (0 :: mjs.map (· + 1)).Nodup := by decide
    have gi : ∀ (i : Nat) (p : Nat × va_E), (mlist cs m0 ad v g)[i]? = some p → (i = 0 ∧ p.1 = m0) ∨ ∃ k, i = k + 1 ∧ ∃ j, mjs[k]? = some j ∧ p.1 = ad j := by
      intro i p hp
      cases i with
      | zero => left; cases hp; exact ⟨rfl, rfl⟩
      | succ k =>
        right
        have hp : (mjs.map (fun j => ((ad j, zA (cs (mt j)) (mn j) (g j)) : Nat × va_E)))[k]? = some p := hp
        rw [List.getElem?_map] at hp
        cases hj : mjs[k]? with
        | none => rw [hj] at hp; cases hp
        | some j => rw [hj] at hp; cases hp; exact ⟨k, rfl, j, hj, rfl⟩
    have hnd : mjs.Nodup := by decide
    rcases gi i p hp with ⟨h1, h2⟩ | ⟨k, h1, a, ha, h2⟩ <;> rcases gi j q hq with ⟨h3, h4⟩ | ⟨k', h3, b, hb, h4⟩
    · omega
    · exact absurd (by rw [← h4, ← he, h2]) (hD.1 b (List.mem_of_getElem? hb))
    · exact absurd (by rw [← h2, he, h4]) (hD.1 a (List.mem_of_getElem? ha))
    · have hab := hD.2 a (List.mem_of_getElem? ha) b (List.mem_of_getElem? hb) (by rw [← h2, he, h4])
      subst hab
      have h5 := (List.getElem?_eq_some_iff.mp ha)
      have h6 := (List.getElem?_eq_some_iff.mp hb)
      obtain ⟨l5, e5⟩ := h5
      obtain ⟨l6, e6⟩ := h6
      have := (List.getElem_inj hnd).mp (e5.trans e6.symm)
      omega
  · rcases List.mem_cons.mp (List.mem_of_getElem? hk) with e | hm
    · subst e; exact hA _ _ mW_o
    · obtain ⟨j, hj, rfl⟩ := List.mem_map.mp hm
      exact hA _ _ (mW_a hD j hj)
theorem mW_dom {cs : Nat → ClassId} {m0 : Nat} {ad : Nat → Nat} {v v' : Nat → Int} {g g' : Nat → Int → Int} {a : Nat} {e : va_E} (h : mW cs m0 ad v' g' a = some e) : ∃ e', mW cs m0 ad v g a = some e' := by
  unfold mW at h ⊢
  by_cases h0 : a = m0
  · rw [if_pos h0]; exact ⟨_, rfl⟩
  · rw [if_neg h0] at h ⊢
    cases hf : mjs.find? (fun j => Nat.beq (ad j) a) with
    | none => rw [hf] at h; cases h
    | some j => exact ⟨_, rfl⟩
section ZMC
variable {p : Program} {l : Launch} {e : Env} {R : Room} {s : State} {m : MethodId} {args : Array Value} {below : List Frame} {meth : Method} {c : Code} {H : Heap} {locs : List Loc} {cells slots : Nat} {Q : State → Prop}
variable {cc : ByteArray} {pc nL : Nat} {ls : Array Slot} {rest : List Value} {D : va_G} {cs : Nat → ClassId} {A : Nat → Prop} {m0 : Nat} {ad : Nat → Nat} {v : Nat → Int} {g : Nat → Int → Int}
end ZMC
