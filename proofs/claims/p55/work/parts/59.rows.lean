/-! Rows for new objects and arrays, reference stores, clone, copies, casts and the other ways to call, with the world as a function. -/
theorem vpc_size (cA : ClassId) (x : vp_A) : (vp_cell cA x).slots.size = x.1 := by
  obtain ⟨n, f | f | f | f | f⟩ := x <;> exact arrV_size _ _ _
theorem vpc_vm (cA : ClassId) (x : vp_A) : (vp_cell cA x).vm = .none := by
  obtain ⟨n, f | f | f | f | f⟩ := x <;> rfl
theorem vpc_cls (cA : ClassId) (x : vp_A) : (vp_cell cA x).cls = cA := by
  obtain ⟨n, f | f | f | f | f⟩ := x <;> rfl
theorem vpc_E (cA : ClassId) (x : vp_A) : ({ cls := (vp_cell cA x).cls, slots := (vp_cell cA x).slots } : Cell) = vp_cell cA x := by
  obtain ⟨n, f | f | f | f | f⟩ := x <;> rfl
/-- an address that is no cell of the world yet -/
def zNew (F : zF) (s : State) (q : Nat) : Prop := F q = none ∧ s.heap.size ≤ q
section ZN
variable {p : Program} {l : Launch} {e : Env} {R : Room} {s : State} {m : MethodId} {args : Array Value} {below : List Frame} {meth : Method} {c : Code} {H : Heap} {locs : List Loc} {cells slots : Nat} {Q : State → Prop}
variable {cc : ByteArray} {pc nL : Nat} {ls : Array Slot} {rest : List Value} {own : String} {D : va_G} {cs : Nat → ClassId} {A : Nat → Prop} {F : zF} {a : Nat}
theorem zS.fr (hZ : zS D A s F H locs) : zNew F s H.size := ⟨hZ.1.none, hZ.2.2.1⟩
theorem zS.putL {H1 : Heap} {e1 : va_E} {L : List Loc} (hL : ∀ q ∈ L, q.base = a) (hZ : zS D A s F H locs) (hA : A a) (h1 : va_at D vwCl (a, e1) H1) (z : H1.size = H.size) (oq : ∀ q : Nat, q ≠ a → H1[q]? = H[q]?) : zS D A s (zup F a e1) H1 (locs ++ L) := by
  refine ⟨hZ.1.put h1 oq, fun b e' hb => ?_, Nat.le_trans hZ.2.2.1 (Nat.le_of_eq z.symm), fun q h1 h2 => by rw [oq q (fun e => h2 (by rw [e]; exact hA))]; exact hZ.2.2.2.1 q h1 h2, fun q hq => ?_⟩
  · by_cases h : b = a
    · subst h; exact hA
    · rw [zup_n h] at hb; exact hZ.2.1 b e' hb
  · rcases List.mem_append.mp hq with h | h
    · exact hZ.2.2.2.2 q h
    · rw [hL q h]
      exact hA
theorem z_new (hC : zC p s m args c cc nL own D cs A) (hZ : zS D A s F H locs) {C : String} {T : u_T} {N ci index : Nat} (ty0 : Nat → FieldType) (hty : ∀ k, k < N → parseFieldDescriptor (T k).2.2.1 = some (ty0 k)) (hin : ∀ w ∈ u_ws C T N, w ∈ ZALL) (hc : vwCl[ci]? = some (C, T, N)) (hcl : Cond.classLink own index C ∈ ZALL) (hinst : Cond.instantiable C N ∈ ZALL) (hini : Cond.initialized C ∈ ZALL) (fs : List Value) (hfs : ∀ j, j < N → defaultValue (ty0 j) = vp_V fs j) (hcells : cells + 1 ≤ R.cells) (hslots : slots + N ≤ R.slots) (d : decode cc pc = .ok (.new index, 3))
    (kk : ∀ (q : Nat) (H1 : Heap), zNew F s q → zS D A s (zup F q (.inr (ci, fs))) H1 locs → W p l e R s m args below meth c H1 locs (cells + 1) (slots + N) Q (F0 m (pc + 3) ls (.ref q :: rest))) : W p l e R s m args below meth c H locs cells slots Q (F0 m pc ls rest) := by
  have hKn := hC.K.1 ci _ hc
  refine W.newcK hC.x hC.b hC.ow (hC.ts hcl) (hC.ts hinst) (hC.ts hini) rfl d hcells hslots hKn.2.1 rfl fun H1 kC hkC e1 z1 o1 => ?_
  exact kk H.size H1 hZ.fr (hZ.new hC ⟨_, hc, (u_born ty0 (fun w h => hC.ts h) hin hKn hkC e1 hty).to hfs⟩ z1 o1)
theorem z_newp (hC : zC p s m args c cc nL own D cs A) (hZ : zS D A s F H locs) {atype : ArrayType} {ty : FieldType} (t : Nat) (harr : Cond.arrayClass (newarray.typeOf atype) ∈ ZALL) (hty : newarray.typeOf atype = ty) (ht : (ztys cs)[t]? = some (cs t, ty)) (hRA : ∀ {cA : ClassId}, va_RA s cA ty → s.vm.findClass ("[" ++ ty.toString) = some cA) (hdef : defaultValue ty = .int 0) (hb4 : componentBytes ty ≤ 4) {n : Int} (hn : 0 ≤ n ∧ n ≤ 100000000)
    (hcells : cells + 1 ≤ R.cells) (hslots : slots + n.toNat ≤ R.slots) (d : decode cc pc = .ok (.newarray atype, 2))
    (kk : ∀ (q : Nat) (H1 : Heap), zNew F s q → zS D A s (zup F q (zA (cs t) n.toNat (fun _ => 0))) H1 locs → W p l e R s m args below meth c H1 locs (cells + 1) (slots + n.toNat) Q (F0 m (pc + 2) ls (.ref q :: rest))) : W p l e R s m args below meth c H locs cells slots Q (F0 m pc ls (.int (iI n) :: rest)) := by
  subst hty
  have hn0 : ¬ iI n < 0 := fun q => by
    have := (iI_lt (a := n) (b := 0) (by omega) (by omega)).mp q
    omega
  have hbb : n.toNat * componentBytes (newarray.typeOf atype) ≤ n.toNat * 4 := Nat.mul_le_mul_left _ hb4
  refine va_newaK hC.x hC.b (hC.ts harr) rfl d rfl hn0 (iI_clamp (by omega)) (by omega) hcells hslots rfl fun H1 cA e1 z1 o1 hAr hNm => ?_
  have hcA : cA = cs t := Option.some.inj (hNm.symm.trans (hRA (hC.K.2 t _ ht).2))
  subst hcA
  refine kk H.size H1 hZ.fr (hZ.new hC ?_ z1 o1)
  show H1[H.size]? = some (vp_cell _ _)
  rw [e1, hdef]
  rfl
theorem z_newr (hC : zC p s m args c cc nL own D cs A) (hZ : zS D A s F H locs) {C : String} {index : Nat} (t : Nat) (ht : (ztys cs)[t]? = some (cs t, .object C)) (hcl : Cond.classLink own index C ∈ ZALL) (hover : va_AO C s) {n : Int} (hn : 0 ≤ n ∧ n ≤ 100000000)
    (hcells : cells + 1 ≤ R.cells) (hslots : slots + n.toNat ≤ R.slots) (d : decode cc pc = .ok (.anewarray index, 3))
    (kk : ∀ (q : Nat) (H1 : Heap), zNew F s q → zS D A s (zup F q (zO (cs t) n.toNat (fun _ => none))) H1 locs → W p l e R s m args below meth c H1 locs (cells + 1) (slots + n.toNat) Q (F0 m (pc + 3) ls (.ref q :: rest))) : W p l e R s m args below meth c H locs cells slots Q (F0 m pc ls (.int (iI n) :: rest)) := by
  have hn0 : ¬ iI n < 0 := fun q => by
    have := (iI_lt (a := n) (b := 0) (by omega) (by omega)).mp q
    omega
  have hcp : (iI n).toNatClampNeg = n.toNat := iI_clamp (by omega)
  have hcr : slots + (iI n).toNatClampNeg ≤ R.slots := by rw [hcp]; exact hslots
  refine W.anew hC.x hC.b hC.ow (hC.ts hcl) (va_AO.use hover) rfl d rfl hn0 (by rw [hcp]; omega) hcells hcr fun cA kA comp f1 f2 f3 f4 => ?_
  rw [hcp]
  obtain ⟨kA', comp', r1, r2, r3, r4⟩ := (hC.K.2 t _ ht).2
  have hcA : cA = cs t := Option.some.inj (f1.symm.trans r4)
  subst hcA
  generalize hH1 : H.push ({ cls := cs t, slots := Array.replicate n.toNat .null, vm := .none } : Cell) = H1
  have z1 : H1.size = H.size + 1 := by rw [← hH1, Array.size_push]
  have e1 : H1[H.size]? = some (arrV (cs t) n.toNat (fun _ => .null)) := by rw [← hH1, Array.getElem?_push_size, ← arrV_new]
  have o1 : ∀ q : Nat, q < H.size → H1[q]? = H[q]? := fun q hq => by rw [← hH1, Array.getElem?_push, if_neg (Nat.ne_of_lt hq)]
  refine kk H.size H1 hZ.fr (hZ.new hC ?_ z1 o1)
  show H1[H.size]? = some (vp_cell _ _)
  rw [vp_cell_q]
  exact e1
theorem z_upO {α : Type} {f : Int → α} {i : Int} {x : α} {k : Nat} (hi : 0 ≤ i) : (if k = i.toNat then x else f (k : Int)) = upI f i x (k : Int) := by
  by_cases h : k = i.toNat
  · rw [if_pos h, show (k : Int) = i by omega, upI_s]
  · rw [if_neg h, upI_n (by omega)]

/-- a store of a reference to an object of the world -/
theorem z_aast (hC : zC p s m args c cc nL own D cs A) (hZ : zS D A s F H locs) {n v ci N : Nat} (t : Nat) {f : Int → Option Nat} {i : Int} {E C : String} {T : u_T} {fs : List Value} (ha : F a = some (zO (cs t) n f)) (ht : (ztys cs)[t]? = some (cs t, .object E)) (hv : F v = some (.inr (ci, fs))) (hc : vwCl[ci]? = some (C, T, N)) (hasg : E = C ∨ Cond.castable C E ∈ ZNW) (hi : 0 ≤ i ∧ i < n) (hn : n ≤ 2147483647) (d : decode cc pc = .ok (.aastore, 1))
    (kk : ∀ (H1 : Heap) (locs1 : List Loc), zS D A s (zup F a (zO (cs t) n (upI f i (some v)))) H1 locs1 → W p l e R s m args below meth c H1 locs1 cells slots Q (F0 m (pc + 1) ls rest)) : W p l e R s m args below meth c H locs cells slots Q (F0 m pc ls (.ref v :: .int (iI i) :: .ref a :: rest)) := by
  have hin := iI_in hi hn
  have h0 : ¬ iI i < 0 := fun q => hin (Or.inl q)
  have hlt : (iI i).toNatClampNeg < n := Nat.not_le.mp fun q => hin (Or.inr q)
  have hcp : (iI i).toNatClampNeg = i.toNat := iI_clamp (by omega)
  obtain ⟨cellV, g1, g3, g2⟩ := va_recv hC.K (zP1 (hZ.1 v _ hv)) (ci := ci) (q0 := 0) hc rfl
  obtain ⟨kA, comp, k1, k2, k3, -⟩ := (hC.K.2 t _ ht).2
  obtain ⟨kE, hkE, -⟩ := Vm.findClass_spec k3
  obtain ⟨kC, hkC, -⟩ := Vm.findClass_spec g2
  have hA : s.vm.assignable cellV.cls comp = true := by
    rcases hasg with rfl | hca
    · exact vb_asgS comp _ k3 g2
    · exact vb_asgC (hC.G.2.1 _ hca) comp _ k3 g2
  refine W.aast hC.x hC.b (hZ.1 a _ ha) (fun q h => by cases h) (fun h => by cases h) k1 k2 rfl hkE ⟨h0, by show _ < (arrV _ _ _).slots.size; rw [arrV_size]; exact hlt⟩ g1 (fun q h => by rw [h] at g3; cases g3) hkC hA rfl rfl d fun H1 e z oq => ?_
  refine kk H1 _ (hZ.put (hZ.2.1 a _ ha) ?_ z oq)
  show H1[a]? = some (vp_cell _ _)
  rw [e]
  rw [vp_cell_q, vp_cell_q, arrV_store]
  congr 2
  funext q
  rw [← z_upO hi.1, ← hcp]
  by_cases hq : q = (iI i).toNatClampNeg
  · subst hq
    simp [updV, va_rf]
  · simp [updV, hq]
theorem z_aastN (hC : zC p s m args c cc nL own D cs A) (hZ : zS D A s F H locs) {n : Nat} (t : Nat) {f : Int → Option Nat} {i : Int} {E : String} (ha : F a = some (zO (cs t) n f)) (ht : (ztys cs)[t]? = some (cs t, .object E)) (hi : 0 ≤ i ∧ i < n) (hn : n ≤ 2147483647) (d : decode cc pc = .ok (.aastore, 1))
    (kk : ∀ (H1 : Heap) (locs1 : List Loc), zS D A s (zup F a (zO (cs t) n (upI f i none))) H1 locs1 → W p l e R s m args below meth c H1 locs1 cells slots Q (F0 m (pc + 1) ls rest)) : W p l e R s m args below meth c H locs cells slots Q (F0 m pc ls (.null :: .int (iI i) :: .ref a :: rest)) := by
  have hin := iI_in hi hn
  have hcp : (iI i).toNatClampNeg = i.toNat := iI_clamp (by omega)
  refine va_WaastN (C := E) hC.x hC.b (hZ.1 a _ ha) ((hC.K.2 t _ ht).1 n (fun j : Nat => va_rf (f (j : Int)))) (fun h => by cases h) (by show ¬ (iI i < 0 ∨ (arrV _ _ _).slots.size ≤ _); rw [arrV_size]; exact hin) rfl rfl d fun H1 e z oq => ?_
  refine kk H1 _ (hZ.put (hZ.2.1 a _ ha) ?_ z oq)
  show H1[a]? = some (vp_cell _ _)
  rw [e]
  rw [vp_cell_q, vp_cell_q, arrV_store]
  congr 2
  funext q
  rw [← z_upO hi.1, ← hcp]
  by_cases hq : q = (iI i).toNatClampNeg
  · subst hq
    simp [updV, va_rf]
  · simp [updV, hq]
theorem z_clone (hC : zC p s m args c cc nL own D cs A) (hZ : zS D A s F H locs) {ad : String} {index : Nat} {ty : FieldType} (t : Nat) (hlink : Cond.methodLink own index ⟨ad, "clone", "()Ljava/lang/Object;"⟩ ∈ ZALL) (hsame : Cond.sameMethod ad "java/lang/Object" "clone" "()Ljava/lang/Object;" ∈ ZALL)
    (hnat : Cond.native ⟨"java/lang/Object", "clone", "()Ljava/lang/Object;"⟩ ∈ ZALL) (hinst : Cond.instanceMethod ⟨"java/lang/Object", "clone", "()Ljava/lang/Object;"⟩ ∈ ZALL)
    (hsel : Cond.selects ad ⟨ad, "clone", "()Ljava/lang/Object;"⟩ ⟨"java/lang/Object", "clone", "()Ljava/lang/Object;"⟩ ∈ ZALL) (hcl : Cond.castable ad "java/lang/Cloneable" ∈ ZNW)
    {x : vp_A} (ha : F a = some (.inl (cs t, x))) (ht : (ztys cs)[t]? = some (cs t, ty)) (hnm : s.vm.findClass ad = some (cs t)) (hfit : ∀ (i : Nat) (v : Value), (vp_cell (cs t) x).slots[i]? = some v → fits ty v = true) {lv : List (Nat × Value)} (hl : lv_has ls nL lv)
    (hframes : 1 ≤ R.frames) (hlocals : (rest.map fun v => v.category).sum + 14 ≤ R.locals) (hcells : cells + 1 ≤ R.cells) (hslots : slots + x.1 ≤ R.slots) (hdg : decode cc pc = .ok (.invokevirtual index, 3))
    (kk : ∀ (q : Nat) (H1 : Heap), zNew F s q → zS D A s (zup F q (.inl (cs t, x))) H1 locs → W p l e R s m args below meth c H1 locs (cells + 1) (slots + x.1) Q (F0 m (pc + 3) ls (.ref q :: rest))) : W p l e R s m args below meth c H locs cells slots Q (F0 m pc ls (.ref a :: rest)) := by
  have hb := hC.b
  have hml : c.maxLocals = ls.size := hC.ml.trans hl.1.symm
  obtain ⟨c0, t0', f1, f2, f3⟩ := Cond.castable_spec (va_Nw.use (A := args) rfl (hC.G.2.1 _ hcl))
  cases hnm.symm.trans f1
  intro T hT X
  have hcellT : T.heap[a]? = some (vp_cell (cs t) x) := by rw [hT]; exact hZ.1 a _ ha
  obtain ⟨-, kA, hkA, comp, hkind⟩ := State.isArrayOf_alike X.warmed.alike ((hC.K.2 t _ ht).1 0 (fun _ => .null))
  obtain ⟨-, kS, hkS, compS, hkindS⟩ := (hC.K.2 t _ ht).1 0 (fun _ => .null)
  obtain ⟨vm', X', st⟩ := X.cloneArray hC.x hC.ow (hC.ts hlink) (hC.ts hsame) (hC.ts hnat) (hC.ts hinst) (hC.ts hsel) (a := a) (cell := vp_cell (cs t) x) hcellT (fun k h => by rw [vpc_vm] at h; cases h) (by rw [vpc_vm]; exact fun h => by cases h) (by rw [vpc_cls]; exact hnm) f2 (by rw [vpc_cls]; exact f3)
    (fun i v hv => by
      rw [vpc_cls]
      have hk' : T.vm.classes[cs t]? = some kA := hkA
      simpa [State.fitsSlot, State.slotType?, hk', hkind] using hfit i v hv)
    (g := F0 m pc ls (.ref a :: rest)) rfl (by rw [hml]) rfl (by rw [hb]; exact hdg) hframes (by show 2 * 0 + _ + 14 ≤ _; omega) hcells (by rw [vpc_size]; exact hslots) (hloader := by rw [vpc_cls]; exact Vm.clonesLoader_of_array hkS hkindS)
  rw [vpc_E, vpc_size] at X'
  generalize hH1 : H.push (vp_cell (cs t) x) = H1
  have z1 : H1.size = H.size + 1 := by rw [← hH1, Array.size_push]
  have e1 : H1[H.size]? = some (vp_cell (cs t) x) := by rw [← hH1, Array.getElem?_push_size]
  have o1 : ∀ q : Nat, q < H.size → H1[q]? = H[q]? := fun q hq => by rw [← hH1, Array.getElem?_push, if_neg (Nat.ne_of_lt hq)]
  obtain ⟨t2, b1, b2⟩ := kk H.size H1 hZ.fr (hZ.new hC e1 z1 o1) ((T.setVm vm').pushCell (vp_cell (cs t) x)) (by rw [← hH1, ← hT]; rfl) X'
  refine ⟨t2, st t2 ?_, b2⟩
  rw [vpc_E, hT]
  exact b1
/-- the copy of n elements -/
def zcpy {α : Type} (f g : Int → α) (sp dp n : Int) : Int → α := fun k => if dp ≤ k ∧ k < dp + n then f (sp + (k - dp)) else g k
theorem zcpy_nat {α β : Type} (mk : α → β) {f g : Int → α} {sp dp n : Int} (h1 : 0 ≤ sp) (h2 : 0 ≤ dp) (h3 : 0 ≤ n) : va_cpy (fun k : Nat => mk (f (k : Int))) (fun k : Nat => mk (g (k : Int))) sp.toNat dp.toNat n.toNat = fun k : Nat => mk (zcpy f g sp dp n (k : Int)) := by
  funext k
  unfold va_cpy zcpy
  by_cases h : dp.toNat ≤ k ∧ k < dp.toNat + n.toNat
  · rw [if_pos h, if_pos (by omega)]
    show mk (f _) = mk (f _)
    rw [show ((sp.toNat + (k - dp.toNat) : Nat) : Int) = sp + ((k : Int) - dp) by omega]
  · rw [if_neg h, if_neg (by omega)]
theorem z_copyI (hC : zC p s m args c cc nL own D cs A) (hZ : zS D A s F H locs) {index : Nat} (hlink : Cond.methodLink own index arraycopyName ∈ ZALL) (hnat : Cond.native arraycopyName ∈ ZALL) (hstat : Cond.static arraycopyName ∈ ZALL) (hini : Cond.initialized "java/lang/System" ∈ ZALL)
    (t : Nat) {a0 n0 n1 : Nat} {f g : Int → Int} {ty : FieldType} (ha0 : F a0 = some (zA (cs t) n0 f)) (ha1 : F a = some (zA (cs t) n1 g)) (ht : (ztys cs)[t]? = some (cs t, ty)) (hprim : refKind ty = false)
    {sp dp n : Int} (h1 : 0 ≤ sp) (h2 : 0 ≤ dp) (h3 : 0 ≤ n) (h4 : sp + n ≤ n0) (h5 : dp + n ≤ n1) (hb0 : n0 ≤ 2147483647 ∧ n1 ≤ 2147483647) (hfit : ∀ i : Int, sp ≤ i → i < sp + n → fits ty (.int (iI (f i))) = true) {lv : List (Nat × Value)} (hl : lv_has ls nL lv)
    (hframes : 1 ≤ R.frames) (hlocals : (rest.map fun v => v.category).sum + (nativeFrameWords "java/lang/System" "arraycopy" 5 + 11) ≤ R.locals) (hdg : decode cc pc = .ok (.invokestatic index, 3))
    (kk : ∀ (H1 : Heap) (locs1 : List Loc), zS D A s (zup F a (zA (cs t) n1 (zcpy f g sp dp n))) H1 locs1 → W p l e R s m args below meth c H1 locs1 cells slots Q (F0 m (pc + 3) ls rest)) : W p l e R s m args below meth c H locs cells slots Q (F0 m pc ls (.int (iI n) :: .int (iI dp) :: .ref a :: .int (iI sp) :: .ref a0 :: rest)) := by
  have hb := hC.b
  have hml : c.maxLocals = ls.size := hC.ml.trans hl.1.symm
  have nn : ∀ z : Int, 0 ≤ z → z ≤ 2147483647 → ¬ iI z < 0 ∧ (iI z).toInt = z := fun z h0 h9 => ⟨fun q => by
    have := (iI_lt (a := z) (b := 0) (by omega) (by omega)).mp q
    omega, iI_to (by omega)⟩
  intro T hT X
  have hc0 : H[a0]? = some (vp_cell (cs t) (n0, .inl (aI f))) := hZ.1 a0 _ ha0
  have hc1 : H[a]? = some (vp_cell (cs t) (n1, .inl (aI g))) := hZ.1 a _ ha1
  obtain ⟨-, k0, hk0, cm0, hkk0⟩ := (hC.K.2 t _ ht).1 n0 (fun j => .int (aI f j))
  obtain ⟨e1, e1'⟩ := nn sp h1 (by omega)
  obtain ⟨e2, e2'⟩ := nn dp h2 (by omega)
  obtain ⟨e3, e3'⟩ := nn n h3 (by omega)
  have c1 : (iI sp).toNatClampNeg = sp.toNat := iI_clamp (by omega)
  have c2 : (iI dp).toNatClampNeg = dp.toNat := iI_clamp (by omega)
  have c3 : (iI n).toNatClampNeg = n.toNat := iI_clamp (by omega)
  obtain ⟨vm', X', step⟩ := X.arraycopy hC.x hC.ow (hC.ts hlink) (hC.ts hnat) (hC.ts hstat) (hC.ts hini) (src := a0) (dst := a) (cs := vp_cell (cs t) (n0, .inl (aI f))) (cd := vp_cell (cs t) (n1, .inl (aI g))) (srcPos := iI sp) (destPos := iI dp) (n := iI n) (by rw [hT]; exact hc0) (by rw [hT]; exact hc1)
    (fun _ h => by cases h) (fun _ h => by cases h) (fun h => by cases h) (fun h => by cases h) hk0 hk0 hkk0 hkk0 (by simp [hprim]) e1 e2 e3
    (by rw [e1', e3']; show ¬ _ > ((arrV (cs t) n0 (fun j => .int (aI f j))).slots.size : Int); rw [arrV_size]; omega)
    (by rw [e2', e3']; show ¬ _ > ((arrV (cs t) n1 (fun j => .int (aI g j))).slots.size : Int); rw [arrV_size]; omega)
    (fun vm₁ _ i hi => by
      have hi' : i < n.toNat := by rw [← c3]; exact hi
      have e : (vp_cell (cs t) (n0, .inl (aI f))).slots.getD ((iI sp).toNatClampNeg + i) .null = .int (iI (f (sp + i))) := by
        show (arrV (cs t) n0 (fun j => .int (aI f j))).slots.getD _ _ = _
        rw [c1, Array.getD_eq_getD_getElem?, arrV_read _ _ (by omega)]
        show Value.int (iI (f _)) = _
        congr 3
        omega
      refine ⟨?_, ?_⟩
      · rw [e]
        exact hfit _ (by omega) (by omega)
      · rw [e]
        exact trivial)
    (g := F0 m pc ls (.int (iI n) :: .int (iI dp) :: .ref a :: .int (iI sp) :: .ref a0 :: rest)) rfl (by rw [hml]) (rest := rest) rfl (by rw [hb]; exact hdg) hframes (by show 2 * 0 + _ + _ ≤ _; omega)
  have ec : copied (vp_cell (cs t) (n0, .inl (aI f))) (vp_cell (cs t) (n1, .inl (aI g))) (iI sp) (iI dp) (iI n) = vp_cell (cs t) (n1, .inl (aI (zcpy f g sp dp n))) := by
    refine (va_copied (fun z => .int z) (cs t) (cs t) (aI f) (aI g) (by rw [c1, c3]; omega)).trans ?_
    rw [c1, c2, c3]
    show vp_cell _ (_, .inl (va_cpy (fun k : Nat => iI (f (k : Int))) (fun k : Nat => iI (g (k : Int))) _ _ _)) = _
    rw [zcpy_nat iI h1 h2 h3]
    rfl
  rw [ec] at X' step
  have hl : a < H.size := (Array.getElem?_eq_some_iff.mp hc1).1
  have hheap : ((T.setVm vm').setCell a (vp_cell (cs t) (n1, .inl (aI (zcpy f g sp dp n))))).heap = H.setIfInBounds a (vp_cell (cs t) (n1, .inl (aI (zcpy f g sp dp n)))) := by rw [← hT]; rfl
  have oq : ∀ q : Nat, q ≠ a → (H.setIfInBounds a (vp_cell (cs t) (n1, .inl (aI (zcpy f g sp dp n)))))[q]? = H[q]? := fun q hq => by simp [Array.getElem?_setIfInBounds, Ne.symm hq]
  obtain ⟨t2, a1, b1⟩ := kk _ _ (zS.putL (fun q hq => by obtain ⟨z, -, hz⟩ := List.mem_map.mp hq; rw [← hz]) hZ (hZ.2.1 a _ ha1) (show (H.setIfInBounds a _)[a]? = some _ by simp [Array.getElem?_setIfInBounds, hl]) (by simp) oq) _ hheap X'
  exact ⟨t2, step t2 a1, b1⟩
end ZN
