section ZN2
variable {p : Program} {l : Launch} {e : Env} {R : Room} {s : State} {m : MethodId} {args : Array Value} {below : List Frame} {meth : Method} {c : Code} {H : Heap} {locs : List Loc} {cells slots : Nat} {Q : State → Prop}
variable {cc : ByteArray} {pc nL : Nat} {ls : Array Slot} {rest : List Value} {own : String} {D : va_G} {cs : Nat → ClassId} {A : Nat → Prop} {F : zF} {a : Nat}
theorem z_copyR (hC : zC p s m args c cc nL own D cs A) (hZ : zS D A s F H locs) {index : Nat} (hlink : Cond.methodLink own index arraycopyName ∈ ZALL) (hnat : Cond.native arraycopyName ∈ ZALL) (hstat : Cond.static arraycopyName ∈ ZALL) (hini : Cond.initialized "java/lang/System" ∈ ZALL)
    (t : Nat) {a0 n0 n1 : Nat} {f g : Int → Option Nat} {E : String} (ha0 : F a0 = some (zO (cs t) n0 f)) (ha1 : F a = some (zO (cs t) n1 g)) (ht : (ztys cs)[t]? = some (cs t, .object E))
    {sp dp n : Int} (h1 : 0 ≤ sp) (h2 : 0 ≤ dp) (h3 : 0 ≤ n) (h4 : sp + n ≤ n0) (h5 : dp + n ≤ n1) (hb0 : n0 ≤ 2147483647 ∧ n1 ≤ 2147483647) (hel : ∀ i : Int, sp ≤ i → i < sp + n → ∀ y : Nat, f i = some y → ∃ (ci N : Nat) (C : String) (T : u_T) (fs : List Value), F y = some (.inr (ci, fs)) ∧ vwCl[ci]? = some (C, T, N) ∧ (E = C ∨ Cond.castable C E ∈ ZNW)) {lv : List (Nat × Value)} (hl : lv_has ls nL lv)
    (hframes : 1 ≤ R.frames) (hlocals : (rest.map fun v => v.category).sum + (nativeFrameWords "java/lang/System" "arraycopy" 5 + 11) ≤ R.locals) (hdg : decode cc pc = .ok (.invokestatic index, 3))
    (kk : ∀ (H1 : Heap) (locs1 : List Loc), zS D A s (zup F a (zO (cs t) n1 (zcpy f g sp dp n))) H1 locs1 → W p l e R s m args below meth c H1 locs1 cells slots Q (F0 m (pc + 3) ls rest)) : W p l e R s m args below meth c H locs cells slots Q (F0 m pc ls (.int (iI n) :: .int (iI dp) :: .ref a :: .int (iI sp) :: .ref a0 :: rest)) := by
  have hb := hC.b
  have hml : c.maxLocals = ls.size := hC.ml.trans hl.1.symm
  have nn : ∀ z : Int, 0 ≤ z → z ≤ 2147483647 → ¬ iI z < 0 ∧ (iI z).toInt = z := fun z h0 h9 => ⟨fun q => by
    have := (iI_lt (a := z) (b := 0) (by omega) (by omega)).mp q
    omega, iI_to (by omega)⟩
  intro T hT X
  have hc0 : H[a0]? = some (vp_cell (cs t) (n0, .inr (.inr (.inr (.inr (fun k : Nat => f (k : Int))))))) := hZ.1 a0 _ ha0
  have hc1 : H[a]? = some (vp_cell (cs t) (n1, .inr (.inr (.inr (.inr (fun k : Nat => g (k : Int))))))) := hZ.1 a _ ha1
  obtain ⟨-, k0, hk0, cm0, hkk0⟩ := (hC.K.2 t _ ht).1 n0 (fun j : Nat => va_rf (f (j : Int)))
  obtain ⟨e1, e1'⟩ := nn sp h1 (by omega)
  obtain ⟨e2, e2'⟩ := nn dp h2 (by omega)
  obtain ⟨e3, e3'⟩ := nn n h3 (by omega)
  have c1 : (iI sp).toNatClampNeg = sp.toNat := iI_clamp (by omega)
  have c2 : (iI dp).toNatClampNeg = dp.toNat := iI_clamp (by omega)
  have c3 : (iI n).toNatClampNeg = n.toNat := iI_clamp (by omega)
  obtain ⟨vm', X', step⟩ := X.arraycopy hC.x hC.ow (hC.ts hlink) (hC.ts hnat) (hC.ts hstat) (hC.ts hini) (src := a0) (dst := a) (cs := vp_cell (cs t) (n0, .inr (.inr (.inr (.inr (fun k : Nat => f (k : Int))))))) (cd := vp_cell (cs t) (n1, .inr (.inr (.inr (.inr (fun k : Nat => g (k : Int))))))) (srcPos := iI sp) (destPos := iI dp) (n := iI n) (by rw [hT]; exact hc0) (by rw [hT]; exact hc1)
    (fun _ h => by cases h) (fun _ h => by cases h) (fun h => by cases h) (fun h => by cases h) hk0 hk0 hkk0 hkk0 rfl e1 e2 e3
    (by rw [e1', e3']; show ¬ _ > ((arrV (cs t) n0 (fun j : Nat => va_rf (f (j : Int)))).slots.size : Int); rw [arrV_size]; omega)
    (by rw [e2', e3']; show ¬ _ > ((arrV (cs t) n1 (fun j : Nat => va_rf (g (j : Int)))).slots.size : Int); rw [arrV_size]; omega)
    (fun vm₁ hal i hi => by
      have hi' : i < n.toNat := by rw [← c3]; exact hi
      have e : (vp_cell (cs t) (n0, .inr (.inr (.inr (.inr (fun k : Nat => f (k : Int))))))).slots.getD ((iI sp).toNatClampNeg + i) .null = va_rf (f (sp + i)) := by
        show (arrV (cs t) n0 (fun j : Nat => va_rf (f (j : Int)))).slots.getD _ _ = _
        rw [c1, Array.getD_eq_getD_getElem?, arrV_read _ _ (by omega)]
        show va_rf (f _) = _
        congr 2
        omega
      rw [e]
      cases hy : f (sp + i) with
      | none => exact ⟨rfl, trivial⟩
      | some y =>
        obtain ⟨ci, N, C, T', fs, hFy, hcy, hasg⟩ := hel _ (by omega) (by omega) y hy
        obtain ⟨cellV, g1, g2, g3⟩ := va_recv hC.K (zP1 (hZ.1 y _ hFy)) (ci := ci) (q0 := 0) hcy rfl
        obtain ⟨kA, comp, r1, r2, r3, -⟩ := (hC.K.2 t _ ht).2
        cases hk0.symm.trans r1
        cases hkk0.symm.trans r2
        obtain ⟨kE, hkE, -⟩ := Vm.findClass_spec r3
        obtain ⟨kC, hkC, -⟩ := Vm.findClass_spec g3
        obtain ⟨kC', hkC', -⟩ := hal.2.2 _ _ hkC
        obtain ⟨kE', hkE', -⟩ := hal.2.2 _ _ hkE
        refine ⟨rfl, cellV, (show T.heap[y]? = some cellV by rw [hT]; exact g1), (fun q h => by rw [h] at g2; cases g2), ⟨kC', hkC'⟩, ?_, ?_⟩
        · exact ⟨kE', hkE'⟩
        · show vm₁.assignable _ _ = true
          rw [hal.assignable]
          rcases hasg with rfl | hca
          · exact vb_asgS _ _ r3 g3
          · exact vb_asgC (hC.G.2.1 _ hca) _ _ r3 g3)
    (g := F0 m pc ls (.int (iI n) :: .int (iI dp) :: .ref a :: .int (iI sp) :: .ref a0 :: rest)) rfl (by rw [hml]) (rest := rest) rfl (by rw [hb]; exact hdg) hframes (by show 2 * 0 + _ + _ ≤ _; omega)
  have ec : copied (vp_cell (cs t) (n0, .inr (.inr (.inr (.inr (fun k : Nat => f (k : Int))))))) (vp_cell (cs t) (n1, .inr (.inr (.inr (.inr (fun k : Nat => g (k : Int))))))) (iI sp) (iI dp) (iI n) = vp_cell (cs t) (n1, .inr (.inr (.inr (.inr (fun k : Nat => zcpy f g sp dp n (k : Int)))))) := by
    rw [vp_cell_q, vp_cell_q, vp_cell_q]
    refine (va_copied (fun z => va_rf z) (cs t) (cs t) (fun k : Nat => f (k : Int)) (fun k : Nat => g (k : Int)) (by rw [c1, c3]; omega)).trans ?_
    rw [c1, c2, c3, zcpy_nat (fun z => z) h1 h2 h3]
  rw [ec] at X' step
  have hl : a < H.size := (Array.getElem?_eq_some_iff.mp hc1).1
  have hheap : ((T.setVm vm').setCell a (vp_cell (cs t) (n1, .inr (.inr (.inr (.inr (fun k : Nat => zcpy f g sp dp n (k : Int)))))))).heap = H.setIfInBounds a (vp_cell (cs t) (n1, .inr (.inr (.inr (.inr (fun k : Nat => zcpy f g sp dp n (k : Int))))))) := by rw [← hT]; rfl
  have oq : ∀ q : Nat, q ≠ a → (H.setIfInBounds a (vp_cell (cs t) (n1, .inr (.inr (.inr (.inr (fun k : Nat => zcpy f g sp dp n (k : Int))))))))[q]? = H[q]? := fun q hq => by simp [Array.getElem?_setIfInBounds, Ne.symm hq]
  obtain ⟨t2, a1, b1⟩ := kk _ _ (zS.putL (fun q hq => by obtain ⟨z, -, hz⟩ := List.mem_map.mp hq; rw [← hz]) hZ (hZ.2.1 a _ ha1) (show (H.setIfInBounds a _)[a]? = some _ by simp [Array.getElem?_setIfInBounds, hl]) (by simp) oq) _ hheap X'
  exact ⟨t2, step t2 a1, b1⟩
theorem z_castS (hC : zC p s m args c cc nL own D cs A) (hZ : zS D A s F H locs) {index ci N : Nat} {C : String} {T : u_T} {fs : List Value} (hlink : Cond.classLink own index C ∈ ZALL) (ha : F a = some (.inr (ci, fs))) (hc : vwCl[ci]? = some (C, T, N)) (d : decode cc pc = .ok (.checkcast index, 3))
    (k : W p l e R s m args below meth c H locs cells slots Q (F0 m (pc + 3) ls (.ref a :: rest))) : W p l e R s m args below meth c H locs cells slots Q (F0 m pc ls (.ref a :: rest)) :=
  va_castS (cC := D.1 ci) hC.x hC.b hC.ow (hC.ts hlink) (hC.K.1 ci _ hc).2 (va_recv hC.K (zP1 (hZ.1 a _ ha)) (ci := ci) (q0 := 0) hc rfl) d k
theorem z_castA (hC : zC p s m args c cc nL own D cs A) (hZ : zS D A s F H locs) {index t : Nat} {nm : String} {x : vp_A} (hlink : Cond.classLink own index nm ∈ ZALL) (ha : F a = some (.inl (cs t, x))) (hnm : s.vm.findClass nm = some (cs t)) (d : decode cc pc = .ok (.checkcast index, 3))
    (k : W p l e R s m args below meth c H locs cells slots Q (F0 m (pc + 3) ls (.ref a :: rest))) : W p l e R s m args below meth c H locs cells slots Q (F0 m pc ls (.ref a :: rest)) :=
  va_castA (D := D) (cl := vwCl) (ws := [(a, .inl (cs t, x))]) hC.x hC.b hC.ow (hC.ts hlink) (zP1 (hZ.1 a _ ha)) 0 rfl hnm d k
theorem z_runIN (hC : zC p s m args c cc nL own D cs A) (hZ : zS D A s F H locs) {y : MethodName} {host : String} {bytes : ByteArray} {maxL k mc ms n index : Nat} {b : Nat} {As st : List Value} {post : Option Value → zF → Prop} (hM : zM l D cs A y bytes maxL none k mc ms (.ref b :: As) F post)
    (hG : Cond.code y bytes maxL none ∈ ZALL) (hini : Cond.initialized y.cls ∈ ZALL) (hlk : Cond.methodLinkNest own index y host ∈ ZNW) (hin : Cond.instanceMethod y ∈ ZALL) (hy1 : y.name = "<init>") (hd : y.cls ≠ "java/lang/invoke/MethodHandle" ∧ y.cls ≠ "java/lang/invoke/VarHandle" ∧ (parseMethodDescriptor y.desc).map (fun d => d.parameters.length) = some n)
    (hn : As.length = n) {lv : List (Nat × Value)} (hl : lv_has ls nL lv) (hst : st = As.reverse ++ .ref b :: rest) (hW : (rest.map fun v => v.category).sum ≤ 8) (hR : k + 1 ≤ R.frames ∧ 8 + (maxL + 11) + 40 * k ≤ R.locals) (hf : cells + mc ≤ R.cells ∧ slots + ms ≤ R.slots) (d : decode cc pc = .ok (.invokespecial index, 3)) :
    zRun p l e R s m args below meth c H locs cells slots mc ms (F0 m pc ls st) rest D A post :=
  ⟨_, va_runIN (g := F0 m pc ls st) (As := As) (rest := rest) hC.1 hM ⟨va_cnB n (fun w h => hC.ts h) (zgood hG) rfl rfl rfl (hC.G.2.1 _ hlk) (hC.ts hini) hd hR, hy1, hC.ts hin⟩ ⟨zPc_blind, fun U hU hW => ⟨rfl, hZ.U hC hU hW⟩⟩ rfl hn hl.1 hst (lv_room hW) d hf⟩
/-- a private method of a superclass is what its name selects -/
theorem z_selP (hC : zC p s m args c cc nL own D cs A) {C : String} {y y0 : MethodName} (h0 : Cond.selects C y0 y0 ∈ ZALL) (hcl : y.cls = y0.cls) (hpriv : Cond.privateMethod y ∈ ZNW) (hin : Cond.instanceMethod y ∈ ZALL) (hy : y.cls ≠ "java/lang/invoke/MethodHandle" ∧ y.cls ≠ "java/lang/invoke/VarHandle") : (Cond.selects C y y).before args s = true := by
  obtain ⟨c0, r, m0, hc, hr, hm0, -, mk0, hmk, hni⟩ := Cond.selects_spec (hC.ts h0)
  obtain ⟨mk, methM, hnamed, hmethM, -, -⟩ := Cond.instanceMethod_spec (hC.ts hin)
  have hfound : s.methodFound? y.cls y.name y.desc = some mk := State.methodFound?_of_named hnamed hy
  have hcls : mk.cls = m0.cls := by
    have h1 := findClass_of_methodNamed hnamed
    have h2 := findClass_of_methodNamed hm0
    rw [hcl] at h1
    exact Option.some.inj (h1.symm.trans h2)
  have hsel : selectMethod {} s.vm c0 mk = .method mk := selectMethod_private hmethM (Cond.privateMethod_at (args := args) (va_Nw.use rfl (hC.G.2.1 _ hpriv)) mk methM hnamed hmethM)
  simp only [Cond.before, Cond.holds, Cond.value, hc, hfound, hnamed, hsel, hcls, hmk]
  simp
  exact hni
/-- a call of a superclass's method that the receiver's class does not override -/
theorem z_runU (hC : zC p s m args c cc nL own D cs A) (hZ : zS D A s F H locs) {C : String} {y : MethodName} {bytes : ByteArray} {maxL k mc ms n index ci : Nat} {ret : Option FieldType} {b : Nat} {As st : List Value} {T : u_T} {N : Nat} {fs : List Value} {post : Option Value → zF → Prop} (hM : zM l D cs A y bytes maxL ret k mc ms (.ref b :: As) F post)
    (hG : Cond.code y bytes maxL ret ∈ ZALL) (hini : Cond.initialized y.cls ∈ ZALL) (hlk : Cond.methodLink own index y ∈ ZALL) (hsame : Cond.sameMethod y.cls y.cls y.name y.desc ∈ ZALL) (hin : Cond.instanceMethod y ∈ ZALL) (hsel : (Cond.selects C y y).before args s = true) (hd : y.cls ≠ "java/lang/invoke/MethodHandle" ∧ y.cls ≠ "java/lang/invoke/VarHandle" ∧ (parseMethodDescriptor y.desc).map (fun d => d.parameters.length) = some n) (hc : vwCl[ci]? = some (C, T, N)) (hb0 : F b = some (.inr (ci, fs)))
    (hn : As.length = n) {lv : List (Nat × Value)} (hl : lv_has ls nL lv) (hst : st = As.reverse ++ .ref b :: rest) (hW : (rest.map fun v => v.category).sum ≤ 8) (hR : k + 1 ≤ R.frames ∧ 8 + (maxL + 11) + 40 * k ≤ R.locals) (hf : cells + mc ≤ R.cells ∧ slots + ms ≤ R.slots) (d : decode cc pc = .ok (.invokevirtual index, 3)) :
    zRun p l e R s m args below meth c H locs cells slots mc ms (F0 m pc ls st) rest D A post := by
  have cw : va_CU R s args own C y.cls index y y bytes maxL ret (zws y bytes maxL ret) (zR k mc ms) mc ms n := by
    refine ⟨⟨rfl, rfl, hR.1, hR.2, pay_in (fun w h => hC.ts h) (zgood hG), List.mem_cons_self⟩, hC.ts hG, hC.ts hini, ⟨hd.1, hd.2.1⟩, fun sig h => ?_, hC.ts hlk, hC.ts hsame, va_Decl.of (hC.ts hin) (hC.ts hG), hsel, hC.ts hin⟩
    have h2 := hd.2.2
    rw [h] at h2
    exact (Option.some.inj h2).symm
  exact ⟨_, va_runU (g := F0 m pc ls st) (As := As) (rest := rest) hC.1 hM cw ⟨zPc_blind, va_recv hC.K (zP1 (hZ.1 b _ hb0)) (ci := ci) (q0 := 0) hc rfl, fun U hU hW => ⟨rfl, hZ.U hC hU hW⟩⟩ rfl hn hl.1 hst (lv_room hW) d hf⟩
/-- a super call -/
theorem z_runSU (hC : zC p s m args c cc nL own D cs A) (hZ : zS D A s F H locs) {C : String} {y : MethodName} {bytes : ByteArray} {maxL k mc ms n index ci : Nat} {ret : Option FieldType} {b : Nat} {As st : List Value} {T : u_T} {N : Nat} {fs : List Value} {post : Option Value → zF → Prop} (hM : zM l D cs A y bytes maxL ret k mc ms (.ref b :: As) F post)
    (hG : Cond.code y bytes maxL ret ∈ ZALL) (hini : Cond.initialized y.cls ∈ ZALL) (hlk : Cond.methodLink own index y ∈ ZALL) (hsame : Cond.sameMethod y.cls y.cls y.name y.desc ∈ ZALL) (hin : Cond.instanceMethod y ∈ ZALL) (hsup : Cond.superclass own y.cls ∈ ZALL) (hno : y.name ≠ "<init>") (hd : (parseMethodDescriptor y.desc).map (fun d => d.parameters.length) = some n) (hc : vwCl[ci]? = some (C, T, N)) (hb0 : F b = some (.inr (ci, fs)))
    (hn : As.length = n) {lv : List (Nat × Value)} (hl : lv_has ls nL lv) (hst : st = As.reverse ++ .ref b :: rest) (hW : (rest.map fun v => v.category).sum ≤ 8) (hR : k + 1 ≤ R.frames ∧ 8 + (maxL + 11) + 40 * k ≤ R.locals) (hf : cells + mc ≤ R.cells ∧ slots + ms ≤ R.slots) (d : decode cc pc = .ok (.invokespecial index, 3)) :
    zRun p l e R s m args below meth c H locs cells slots mc ms (F0 m pc ls st) rest D A post := by
  have cw : va_CS R s args own index y bytes maxL ret (zws y bytes maxL ret) (zR k mc ms) mc ms n := by
    refine ⟨⟨rfl, rfl, hR.1, hR.2, pay_in (fun w h => hC.ts h) (zgood hG), List.mem_cons_self⟩, hC.ts hlk, hC.ts hsame, hC.ts hsup, hC.ts hin, hC.ts hini, hC.ts hG, hno, fun sig h => ?_⟩
    have h2 := hd
    rw [h] at h2
    exact (Option.some.inj h2).symm
  exact ⟨_, va_runSU (g := F0 m pc ls st) (As := As) (rest := rest) (hC.K.1 ci _ hc).2 hC.1 hM cw ⟨zPc_blind, va_recv hC.K (zP1 (hZ.1 b _ hb0)) (ci := ci) (q0 := 0) hc rfl, fun U hU hW => ⟨rfl, hZ.U hC hU hW⟩⟩ rfl hn hl.1 hst (lv_room hW) d hf⟩
end ZN2
section ZN3
variable {p : Program} {l : Launch} {e : Env} {R : Room} {s : State} {m : MethodId} {args : Array Value} {below : List Frame} {meth : Method} {c : Code} {H : Heap} {locs : List Loc} {cells slots : Nat} {Q : State → Prop}
variable {cc : ByteArray} {pc nL : Nat} {ls : Array Slot} {rest : List Value} {own : String} {D : va_G} {cs : Nat → ClassId} {A : Nat → Prop} {F : zF} {a : Nat}
theorem z_oinit (hC : zC p s m args c cc nL own D cs A) {lv : List (Nat × Value)} (hl : lv_has ls nL lv) {index : Nat} (hlk : Cond.methodLink own index ⟨"java/lang/Object", "<init>", "()V"⟩ ∈ ZALL) (hR : 1 ≤ R.frames ∧ (rest.map fun v => v.category).sum + 12 ≤ R.locals) (d : decode cc pc = .ok (.invokespecial index, 3))
    (kk : W p l e R s m args below meth c H locs cells slots Q (F0 m (pc + 3) ls rest)) : W p l e R s m args below meth c H locs cells slots Q (F0 m pc ls (.ref a :: rest)) :=
  W.objInit hC.x hC.b hC.ow (hC.ts hlk) (hC.ts qi_java_lang_Object_init_da8c8) (hC.ts qc_java_lang_Object_init_da8c8) rfl (hl.1.trans hC.ml.symm) rfl d hR.1 (by show 2 * 0 + _ + 12 ≤ _; omega) kk
theorem zC.nm0 (hC : zC p s m args c cc nL own D cs A) : s.vm.findClass "[B" = some (cs 0) := va_nm_byte (hC.K.2 0 _ rfl).2
theorem zC.nm4 (hC : zC p s m args c cc nL own D cs A) : s.vm.findClass "[LStoneGazette$Word;" = some (cs 4) := by
  obtain ⟨kA, comp, -, -, -, h⟩ := (hC.K.2 4 _ rfl).2
  exact h
/-- a number by which cells of different kinds differ -/
def zkd (e : va_E) : Nat := match e with
  | .inl x => x.2.1
  | .inr y => 1000000 + y.1
end ZN3
theorem zneK {F : zF} {a b : Nat} {e e' : va_E} (ha : F a = some e) (hb : F b = some e') (h : zkd e ≠ zkd e') : a ≠ b := by
  intro q
  subst q
  exact h (congrArg zkd (Option.some.inj (ha.symm.trans hb)))
theorem zneL {F : zF} {a b : Nat} {c c' : ClassId} {n n' : Nat} {x x' : (Nat → Int32) ⊕ (Nat → Int64) ⊕ (Nat → UInt32) ⊕ (Nat → UInt64) ⊕ (Nat → Option Nat)} (ha : F a = some (.inl (c, n, x))) (hb : F b = some (.inl (c', n', x'))) (h : n ≠ n') : a ≠ b := zneK ha hb h
theorem iI_zf {z : Int} (h : z = 0 ∨ z = 1) : fits .boolean (.int (iI z)) = true := by
  rcases h with rfl | rfl <;> rfl
theorem df_X1 : ∀ j, j < 3 → defaultValue (tyX1 j) = vp_V [.int (iI 0), .int (iI 0), .null] j := by
  intro j hj
  match j, hj with
  | 0, _ => rfl
  | 1, _ => rfl
  | 2, _ => rfl
  | j + 3, hj => exact absurd hj (by omega)
theorem df_X2 : ∀ j, j < 2 → defaultValue (tyX2 j) = vp_V [.null, .int (iI 0)] j := by
  intro j hj
  match j, hj with
  | 0, _ => rfl
  | 1, _ => rfl
  | j + 2, hj => exact absurd hj (by omega)
theorem df_X3 : ∀ j, j < 3 → defaultValue (tyX3 j) = vp_V [.null, .int (iI 0), .int (iI 0)] j := by
  intro j hj
  match j, hj with
  | 0, _ => rfl
  | 1, _ => rfl
  | 2, _ => rfl
  | j + 3, hj => exact absurd hj (by omega)
theorem df_X4 : ∀ j, j < 2 → defaultValue (tyX4 j) = vp_V [.null, .int (iI 0)] j := by
  intro j hj
  match j, hj with
  | 0, _ => rfl
  | 1, _ => rfl
  | j + 2, hj => exact absurd hj (by omega)
theorem df_X5 : ∀ j, j < 1 → defaultValue (tyX5 j) = vp_V [.null] j := by
  intro j hj
  match j, hj with
  | 0, _ => rfl
  | j + 1, hj => exact absurd hj (by omega)
theorem df_X6 : ∀ j, j < 3 → defaultValue (tyX6 j) = vp_V [.int (iI 0), .null, .float 0] j := by
  intro j hj
  match j, hj with
  | 0, _ => rfl
  | 1, _ => rfl
  | 2, _ => rfl
  | j + 3, hj => exact absurd hj (by omega)
theorem df_X8 : ∀ j, j < 5 → defaultValue (tyX8 j) = vp_V [.null, .null, .int (iI 0), .int (iI 0), .int (iI 0)] j := by
  intro j hj
  match j, hj with
  | 0, _ => rfl
  | 1, _ => rfl
  | 2, _ => rfl
  | 3, _ => rfl
  | 4, _ => rfl
  | j + 5, hj => exact absurd hj (by omega)
theorem df_X9 : ∀ j, j < 6 → defaultValue (tyX9 j) = vp_V [.int (iI 0), .int (iI 0), .null, .null, .int (iI 0), .int (iI 0)] j := by
  intro j hj
  match j, hj with
  | 0, _ => rfl
  | 1, _ => rfl
  | 2, _ => rfl
  | 3, _ => rfl
  | 4, _ => rfl
  | 5, _ => rfl
  | j + 6, hj => exact absurd hj (by omega)
theorem df_X10 : ∀ j, j < 9 → defaultValue (tyX10 j) = vp_V [.null, .null, .int (iI 0), .int (iI 0), .int (iI 0), .int (iI 0), .int (iI 0), .int (iI 0), .int (iI 0)] j := by
  intro j hj
  match j, hj with
  | 0, _ => rfl
  | 1, _ => rfl
  | 2, _ => rfl
  | 3, _ => rfl
  | 4, _ => rfl
  | 5, _ => rfl
  | 6, _ => rfl
  | 7, _ => rfl
  | 8, _ => rfl
  | j + 9, hj => exact absurd hj (by omega)
theorem df_X11 : ∀ j, j < 2 → defaultValue (tyX11 j) = vp_V [.null, .null] j := by
  intro j hj
  match j, hj with
  | 0, _ => rfl
  | 1, _ => rfl
  | j + 2, hj => exact absurd hj (by omega)
theorem df_X12 : ∀ j, j < 11 → defaultValue (tyX12 j) = vp_V [.null, .null, .null, .null, .null, .null, .null, .null, .null, .int (iI 0), .int (iI 0)] j := by
  intro j hj
  match j, hj with
  | 0, _ => rfl
  | 1, _ => rfl
  | 2, _ => rfl
  | 3, _ => rfl
  | 4, _ => rfl
  | 5, _ => rfl
  | 6, _ => rfl
  | 7, _ => rfl
  | 8, _ => rfl
  | 9, _ => rfl
  | 10, _ => rfl
  | j + 11, hj => exact absurd hj (by omega)
theorem df_J4 : ∀ j, j < 4 → defaultValue (tyJ4 j) = vp_V [.null, .int (iI 0), .int (iI 0), .int (iI 0)] j := by
  intro j hj
  match j, hj with
  | 0, _ => rfl
  | 1, _ => rfl
  | 2, _ => rfl
  | 3, _ => rfl
  | j + 4, hj => exact absurd hj (by omega)
theorem df_Jx4a65c : ∀ j, j < 3 → defaultValue (tyJx4a65c j) = vp_V [.int (iI 0), .null, .int (iI 0)] j := by
  intro j hj
  match j, hj with
  | 0, _ => rfl
  | 1, _ => rfl
  | 2, _ => rfl
  | j + 3, hj => exact absurd hj (by omega)
