/-! System.arraycopy between the model's rows -/
def cpI (f g : Int → Int) (sp dp n : Int) : Int → Int := fun k => if dp ≤ k ∧ k < dp + n then f (sp + (k - dp)) else g k
theorem cpI_va {f g : Int → Int} {sp dp n : Int} (h1 : 0 ≤ sp) (h2 : 0 ≤ dp) (h3 : 0 ≤ n) : va_cpy (aI f) (aI g) sp.toNat dp.toNat n.toNat = aI (cpI f g sp dp n) := by
  funext k
  unfold va_cpy aI cpI
  by_cases h : dp.toNat ≤ k ∧ k < dp.toNat + n.toNat
  · rw [if_pos h, if_pos (by omega)]
    congr 2
    omega
  · rw [if_neg h, if_neg (by omega)]
def mlist (cs : Nat → ClassId) (m0 : Nat) (ad : Nat → Nat) (v : Nat → Int) (g : Nat → Int → Int) : va_W := (m0, .inr (16, mfs ad v)) :: mjs.map (fun j => (ad j, zA (cs (mt j)) (mn j) (g j)))
theorem mlist_of {D : va_G} {cs : Nat → ClassId} {m0 : Nat} {ad : Nat → Nat} {v : Nat → Int} {g : Nat → Int → Int} {H : Heap} (hD : mD m0 ad) (h : zw D (mW cs m0 ad v g) H) : va_P D vwCl (mlist cs m0 ad v g) H := by
  intro k q hk
  rcases List.mem_cons.mp (List.mem_of_getElem? hk) with e | hm
  · subst e; exact h _ _ mW_o
  · obtain ⟨j, hj, rfl⟩ := List.mem_map.mp hm
    exact h _ _ (mW_a hD j hj)
theorem mlist_to {D : va_G} {cs : Nat → ClassId} {m0 : Nat} {ad : Nat → Nat} {v : Nat → Int} {g : Nat → Int → Int} {H : Heap} (h : va_P D vwCl (mlist cs m0 ad v g) H) : zw D (mW cs m0 ad v g) H := by
  intro a e ha
  have key : (a, e) ∈ mlist cs m0 ad v g := by
    unfold mW at ha
    by_cases h0 : a = m0
    · rw [if_pos h0] at ha
      cases ha
      rw [h0]
      exact List.mem_cons_self
    · rw [if_neg h0] at ha
      cases hf : mjs.find? (fun j => Nat.beq (ad j) a) with
      | none => rw [hf] at ha; cases ha
      | some j =>
        rw [hf] at ha
        have h1 : ad j = a := Nat.eq_of_beq_eq_true (List.find?_some (p := fun i => Nat.beq (ad i) a) hf)
        have h2 := List.mem_of_find?_eq_some hf
        have h3 : zA (cs (mt j)) (mn j) (g j) = e := Option.some.inj ha
        exact List.mem_cons_of_mem _ (List.mem_map.mpr ⟨j, h2, by rw [h1, h3]⟩)
  obtain ⟨k, hk⟩ := List.getElem?_of_mem key
  exact h k _ hk
theorem mlist_D {cs : Nat → ClassId} {m0 : Nat} {ad : Nat → Nat} {v : Nat → Int} {g : Nat → Int → Int} {A : Nat → Prop} (hD : mD m0 ad) (hA : ∀ (a : Nat) (e : va_E), mW cs m0 ad v g a = some e → A a) : va_D A (mlist cs m0 ad v g) := by
  refine ⟨fun i j p q hp hq he => ?_, fun k q hk => ?_⟩
  · have hnd : (0 :: mjs.map (· + 1)).Nodup := by decide
    have gi : ∀ (i : Nat) (p : Nat × va_E), (mlist cs m0 ad v g)[i]? = some p → (i = 0 ∧ p.1 = m0) ∨ ∃ k, i = k + 1 ∧ ∃ j, mjs[k]? = some j ∧ p.1 = ad j := by
      intro i p hp
      cases i with
      | zero => left; cases hp; exact ⟨rfl, rfl⟩
      | succ k =>
        right
        have hp : (mjs.map (fun j => ((ad j, zA (cs (mt j)) (mn j) (g j)) : Nat × va_E)))[k]? = some p := hp
        rw [List.getElem?_map] at hp
        cases hj : mjs[k]? with
        | none => rw [hj] at hp; cases hp
        | some j => rw [hj] at hp; cases hp; exact ⟨k, rfl, j, hj, rfl⟩
    have hnd : mjs.Nodup := by decide
    rcases gi i p hp with ⟨h1, h2⟩ | ⟨k, h1, a, ha, h2⟩ <;> rcases gi j q hq with ⟨h3, h4⟩ | ⟨k', h3, b, hb, h4⟩
    · omega
    · exact absurd (by rw [← h4, ← he, h2]) (hD.1 b (List.mem_of_getElem? hb))
    · exact absurd (by rw [← h2, he, h4]) (hD.1 a (List.mem_of_getElem? ha))
    · have hab := hD.2 a (List.mem_of_getElem? ha) b (List.mem_of_getElem? hb) (by rw [← h2, he, h4])
      subst hab
      have h5 := (List.getElem?_eq_some_iff.mp ha)
      have h6 := (List.getElem?_eq_some_iff.mp hb)
      obtain ⟨l5, e5⟩ := h5
      obtain ⟨l6, e6⟩ := h6
      have := (List.getElem_inj hnd).mp (e5.trans e6.symm)
      omega
  · rcases List.mem_cons.mp (List.mem_of_getElem? hk) with e | hm
    · subst e; exact hA _ _ mW_o
    · obtain ⟨j, hj, rfl⟩ := List.mem_map.mp hm
      exact hA _ _ (mW_a hD j hj)
theorem mW_dom {cs : Nat → ClassId} {m0 : Nat} {ad : Nat → Nat} {v v' : Nat → Int} {g g' : Nat → Int → Int} {a : Nat} {e : va_E} (h : mW cs m0 ad v' g' a = some e) : ∃ e', mW cs m0 ad v g a = some e' := by
  unfold mW at h ⊢
  by_cases h0 : a = m0
  · rw [if_pos h0]; exact ⟨_, rfl⟩
  · rw [if_neg h0] at h ⊢
    cases hf : mjs.find? (fun j => Nat.beq (ad j) a) with
    | none => rw [hf] at h; cases h
    | some j => exact ⟨_, rfl⟩
section ZMC
variable {p : Program} {l : Launch} {e : Env} {R : Room} {s : State} {m : MethodId} {args : Array Value} {below : List Frame} {meth : Method} {c : Code} {H : Heap} {locs : List Loc} {cells slots : Nat} {Q : State → Prop}
variable {cc : ByteArray} {pc nL : Nat} {ls : Array Slot} {rest : List Value} {D : va_G} {cs : Nat → ClassId} {A : Nat → Prop} {m0 : Nat} {ad : Nat → Nat} {v : Nat → Int} {g : Nat → Int → Int}
theorem m_copy (hC : zC p s m args c cc nL RX13 D cs A) (hZ : zS D A s (mW cs m0 ad v g) H locs) (hD : mD m0 ad) (i j pi pj : Nat) {f1 f2 : Int → Int} {sp dp n : Int} {lv : List (Nat × Value)} (hl : lv_has ls nL lv) (hpi : (mlist cs m0 ad v g)[pi]? = some (ad i, zA (cs 2) (mn i) f1)) (hpj : (mlist cs m0 ad v g)[pj]? = some (ad j, zA (cs 2) (mn j) f2))
    (hs : (mlist cs m0 ad v g).set pj (ad j, zA (cs 2) (mn j) (cpI f1 f2 sp dp n)) = mlist cs m0 ad v (upG g j (cpI f1 f2 sp dp n)))
    (h1 : 0 ≤ sp ∧ sp + n ≤ mn i) (h2 : 0 ≤ dp ∧ dp + n ≤ mn j) (h3 : 0 ≤ n) (hni : mn i ≤ 2147483647) (hnj : mn j ≤ 2147483647) (hfr : 1 ≤ R.frames) (hlo : (rest.map fun v => v.category).sum + (nativeFrameWords "java/lang/System" "arraycopy" 5 + 11) ≤ R.locals) {index : Nat} (hlk : Cond.methodLink RX13 index arraycopyName ∈ ZALL) (hnat : Cond.native arraycopyName ∈ ZALL) (hst : Cond.static arraycopyName ∈ ZALL) (hin : Cond.initialized "java/lang/System" ∈ ZALL) (d : decode cc pc = .ok (.invokestatic index, 3))
    (kk : ∀ (H1 : Heap) (locs1 : List Loc), zS D A s (mW cs m0 ad v (upG g j (cpI f1 f2 sp dp n))) H1 locs1 → W p l e R s m args below meth c H1 locs1 cells slots Q (F0 m (pc + 3) ls rest)) :
    W p l e R s m args below meth c H locs cells slots Q (F0 m pc ls (.int (iI n) :: .int (iI dp) :: .ref (ad j) :: .int (iI sp) :: .ref (ad i) :: rest)) := by
  have c1 := iI_clamp (z := sp) (by omega)
  have c2 := iI_clamp (z := dp) (by omega)
  have c3 := iI_clamp (z := n) (by omega)
  have nn : ∀ z : Int, 0 ≤ z → z ≤ 2147483647 → ¬ iI z < 0 := fun z hz hz2 q => by
    have := (iI_lt (a := z) (b := 0) (by omega) (by omega)).mp q
    omega
  refine va_copyi (D := D) (cl := vwCl) hC.x hC.b (hC.ml.trans hl.1.symm) hC.ow (hC.ts hlk) (hC.ts hnat) (hC.ts hst) (hC.ts hin) hC.K (mlist_of hD hZ.1) (mlist_D hD hZ.2.1) hZ.2.2 pi pj 2 2 hpi hpj rfl rfl rfl (nn sp (by omega) (by omega)) (nn dp (by omega) (by omega)) (nn n (by omega) (by omega)) (by rw [c1, c3]; omega) (by rw [c2, c3]; omega) (fun i hi => rfl) hfr hlo d (fun H1 locs1 hP hD1 hS1 => kk H1 locs1 ?_)
  rw [c1, c2, c3, cpI_va (by omega) (by omega) (by omega)] at hP
  have hP : va_P D vwCl ((mlist cs m0 ad v g).set pj (ad j, zA (cs 2) (mn j) (cpI f1 f2 sp dp n))) H1 := hP
  rw [hs] at hP
  exact ⟨mlist_to hP, fun a e h => (mW_dom (v := v) (g := g) h).elim fun e' h' => hZ.2.1 a e' h', hS1⟩
end ZMC
