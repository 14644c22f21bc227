section FW
variable {p : Program} {l : Launch} {e : Env} {R : Room} {s : State} {m : MethodId} {args : Array Value} {below : List Frame} {meth : Method} {c : Code} {H : Heap} {locs : List Loc} {cells slots : Nat} {Q : State → Prop}
variable {cc : ByteArray} {pc nL : Nat} {ls : Array Slot} {rest : List Value} {own : String} {D : va_G} {cs : Nat → ClassId} {A : Nat → Prop} {F : zF} {a : Nat}
theorem z_dast (hC : zC p s m args c cc nL own D cs A) (hZ : zS D A s F H locs) {f : Nat → UInt64} {x : UInt64} (ha : F a = some (zDa cs f)) (d : decode cc pc = .ok (.dastore, 1))
    (kk : ∀ (H1 : Heap) (locs1 : List Loc), zS D A s (zup F a (zDa cs (fun _ => x))) H1 locs1 → W p l e R s m args below meth c H1 locs1 cells slots Q (F0 m (pc + 1) ls rest)) : W p l e R s m args below meth c H locs cells slots Q (F0 m pc ls (.double x :: .int (iI 0) :: .ref a :: rest)) := by
  have hin : vp_in (iI 0) 1 := iI_in (by decide) (by decide)
  refine W.dast hC.x hC.b (hZ.1 a _ ha) ((hC.K.2 7 _ rfl).1 1 (fun j => .double (f j))) (fun q => by cases q) (by show ¬ (iI 0 < 0 ∨ (arrV _ _ _).slots.size ≤ _); rw [arrV_size]; exact hin) rfl rfl d fun H1 e z oq => ?_
  refine kk H1 _ (hZ.put (hZ.2.1 a _ ha) ?_ z oq)
  show H1[a]? = some (vp_cell _ _)
  rw [e]
  refine congrArg some ?_
  show Cell.setSlot _ _ _ = _
  rfl
theorem z_lald (hC : zC p s m args c cc nL own D cs A) (hZ : zS D A s F H locs) {f : Nat → Int64} (ha : F a = some (zLa cs f)) (d : decode cc pc = .ok (.laload, 1))
    (kk : W p l e R s m args below meth c H locs cells slots Q (F0 m (pc + 1) ls (.long (f 0) :: rest))) : W p l e R s m args below meth c H locs cells slots Q (F0 m pc ls (.int (iI 0) :: .ref a :: rest)) :=
  va_lald (D := D) (cl := vwCl) (ws := [(a, zLa cs f)]) hC.x hC.b hC.K (zP1 (hZ.1 a _ ha)) 0 6 rfl rfl (iI_in (by decide) (by decide)) d kk
theorem z_dald (hC : zC p s m args c cc nL own D cs A) (hZ : zS D A s F H locs) {f : Nat → UInt64} (ha : F a = some (zDa cs f)) (d : decode cc pc = .ok (.daload, 1))
    (kk : W p l e R s m args below meth c H locs cells slots Q (F0 m (pc + 1) ls (.double (f 0) :: rest))) : W p l e R s m args below meth c H locs cells slots Q (F0 m pc ls (.int (iI 0) :: .ref a :: rest)) :=
  va_dald (D := D) (cl := vwCl) (ws := [(a, zDa cs f)]) hC.x hC.b hC.K (zP1 (hZ.1 a _ ha)) 0 7 rfl rfl (iI_in (by decide) (by decide)) d kk
theorem z_newL (hC : zC p s m args c cc nL own D cs A) (hZ : zS D A s F H locs) (hcells : cells + 1 ≤ R.cells) (hslots : slots + 1 ≤ R.slots) (d : decode cc pc = .ok (.newarray .long, 2))
    (kk : ∀ (q : Nat) (H1 : Heap), zNew F s q → q = H.size → zS D A s (zup F q (zLa cs (fun _ => 0))) H1 locs → (∀ q : Nat, q < H.size → H1[q]? = H[q]?) → W p l e R s m args below meth c H1 locs (cells + 1) (slots + 1) Q (F0 m (pc + 2) ls (.ref q :: rest))) : W p l e R s m args below meth c H locs cells slots Q (F0 m pc ls (.int (iI 1) :: rest)) := by
  refine va_newaK (atype := .long) (N := 1) hC.x hC.b (hC.ts q_2139) rfl d rfl (by decide) (by decide) (by decide) hcells hslots rfl fun H1 cA e1 z1 o1 hAr hNm => ?_
  have hcA : cA = cs 6 := Option.some.inj (hNm.symm.trans (va_nm_long (hC.K.2 6 _ rfl).2))
  subst hcA
  refine kk H.size H1 hZ.fr rfl (hZ.new hC ?_ z1 o1) o1
  show H1[H.size]? = some (vp_cell _ _)
  rw [e1]
  rfl
theorem z_newD (hC : zC p s m args c cc nL own D cs A) (hZ : zS D A s F H locs) (hcells : cells + 1 ≤ R.cells) (hslots : slots + 1 ≤ R.slots) (d : decode cc pc = .ok (.newarray .double, 2))
    (kk : ∀ (q : Nat) (H1 : Heap), zNew F s q → q = H.size → zS D A s (zup F q (zDa cs (fun _ => 0))) H1 locs → (∀ q : Nat, q < H.size → H1[q]? = H[q]?) → W p l e R s m args below meth c H1 locs (cells + 1) (slots + 1) Q (F0 m (pc + 2) ls (.ref q :: rest))) : W p l e R s m args below meth c H locs cells slots Q (F0 m pc ls (.int (iI 1) :: rest)) := by
  refine va_newaK (atype := .double) (N := 1) hC.x hC.b (hC.ts q_2140) rfl d rfl (by decide) (by decide) (by decide) hcells hslots rfl fun H1 cA e1 z1 o1 hAr hNm => ?_
  have hcA : cA = cs 7 := Option.some.inj (hNm.symm.trans (va_nm_double (hC.K.2 7 _ rfl).2))
  subst hcA
  refine kk H.size H1 hZ.fr rfl (hZ.new hC ?_ z1 o1) o1
  show H1[H.size]? = some (vp_cell _ _)
  rw [e1]
  rfl
/-! the wrappers: methods with a table of handlers -/
def znames : List String := ["java/util/NoSuchElementException", "java/lang/IndexOutOfBoundsException", "java/lang/UnsupportedOperationException", "java/lang/IllegalArgumentException", "java/lang/IllegalStateException", "java/lang/ArithmeticException"]
/-- no class of exceptions is another's -/
def zxNc (U : State) : Prop := ∀ a b : String, a ∈ znames → b ∈ znames → a ≠ b → va_Nc a b U
def zPw (D : va_G) (cs : Nat → ClassId) (A : Nat → Prop) (F : zF) (av : List Value) : Array Value → State → Prop := va_Pc av (fun U => zU D cs A F U ∧ zxNc U)
theorem zPw_blind {av : List Value} : FrameBlind (zPw D cs A F av) := fun a U g mk ⟨h0, ⟨h1, h2, h3, h4, h5⟩, h6⟩ => ⟨h0, ⟨h1, h2, va_K.moved (u := U) (U := U.calling g mk a) (Vm.Alike.refl U.vm) h3, h4, zG.same (u := U) (U := U.calling g mk a) rfl h5⟩, fun x y hx hy hn => va_Nc.moved (u := U) (U := U.calling g mk a) (Vm.Alike.refl U.vm) (h6 x y hx hy hn)⟩
def zwsW (y : MethodName) (b : ByteArray) (n : Nat) (r : Option FieldType) (hh : List (Nat × Nat × Nat × Nat)) : List Cond := .codeWith y b n r hh :: ZALL
abbrev zMW (l : Launch) (D : va_G) (cs : Nat → ClassId) (A : Nat → Prop) (y : MethodName) (b : ByteArray) (n : Nat) (r : Option FieldType) (hh : List (Nat × Nat × Nat × Nat)) (k mc ms : Nat) (av : List Value) (F : zF) (post : Option Value → zF → Prop) : Prop :=
  Met l y (zwsW y b n r hh) (zR k mc ms) (zPw D cs A F av) (zQ D A post) mc ms A
theorem zgoodW {y : MethodName} {b : ByteArray} {n : Nat} {r : Option FieldType} {hh : List (Nat × Nat × Nat × Nat)} (h : Cond.codeWith y b n r hh ∈ ZALL) : GoodIn ZALL (zwsW y b n r hh) := by
  intro w hw
  have h1 : w ∈ ZALL := by
    rcases List.mem_cons.mp hw with rfl | h2
    · exact h
    · exact h2
  exact ⟨h1, good_of_word (zall_good h1)⟩
theorem zW_of {y : MethodName} {r : Option FieldType} {hh : List (Nat × Nat × Nat × Nat)} {k mc ms : Nat} {av : List Value} {post : Option Value → zF → Prop} (hy : plainName y.cls = true) (hcl : y.cls = own) (hn : (lg_sl av).length ≤ nL)
    (body : ∀ (p : Program) (e : Env) (s : State) (m : MethodId) (below : List Frame) (meth : Method) (c : Code), zC p s m av.toArray c cc nL own D cs A → meth.sig.returnType = r → meth.locks = false → c.exceptionTable.toList = tableOf hh → zxNc s → zS D A s F s.heap [] →
      ∀ ls : Array Slot, lv_has ls nL (lv_args 0 av) → W p l e (zR k mc ms) s m av.toArray below meth c s.heap [] 0 0 (MQ below (zQ D A post) av.toArray s mc ms A) (F0 m 0 ls [])) : zMW l D cs A y cc nL r hh k mc ms av F post := by
  refine va_MetW (cc := cc) (maxL := nL) (ret := r) (hh := hh) hy rfl ?_
  intro p e s m args below meth c s₁ B hml hv
  obtain ⟨rfl, ⟨h1, h2, h3, h4, h5⟩, h6⟩ := hv
  have hts := atoms_spec (ws := zwsW y cc nL r hh) B.pre
  have hown : s.vm.findClass y.cls = some m.cls := findClass_of_methodNamed B.named
  have hl := lv_entry av (n := nL) hn
  rw [lg_entry_eq]
  exact body p e s m below meth c ⟨⟨B.exec, B.bytes, hml, by rw [← hcl]; exact hown, fun w hw => hts w (List.mem_cons_of_mem _ hw)⟩, h3, h4, h5⟩ B.returns B.notSynchronized (vx_table (x := y) B (hts _ List.mem_cons_self)) h6 ⟨h1, h2, va_S.rf⟩ _ hl
theorem zgsW {y : MethodName} {idx : Nat} {b : ByteArray} {n : Nat} {r : Option FieldType} {hh : List (Nat × Nat × Nat × Nat)} (h1 : Cond.methodLink own idx y ∈ ZALL) (h2 : Cond.static y ∈ ZALL) (h4 : Cond.initialized y.cls ∈ ZALL) (h5 : Cond.codeWith y b n r hh ∈ ZALL) : GoodIn ZALL (va_wsS own idx y (zwsW y b n r hh)) := by
  have g : ∀ {w : Cond}, w ∈ ZALL → w ∈ ZALL ∧ _ := fun {w} h => ⟨h, good_of_word (zall_good h)⟩
  intro w hw
  rcases List.mem_append.mp hw with h | h
  · simp only [List.mem_cons, List.not_mem_nil, or_false] at h
    rcases h with rfl | rfl | rfl
    · exact g h1
    · exact g h2
    · exact g h4
  · exact zgoodW h5 w h
theorem z_frW (hC : zC p s m args c cc nL own D cs A) (hNc : zxNc s) (hZ : zS D A s F H locs) {y : MethodName} {bytes : ByteArray} {maxL k mc ms n index : Nat} {ret : Option FieldType} {hh : List (Nat × Nat × Nat × Nat)} {As st : List Value} {post : Option Value → zF → Prop} (hM : zMW l D cs (zfA F H) y bytes maxL ret hh k mc ms As F post)
    (hT : GoodIn ZALL (va_wsS own index y (zwsW y bytes maxL ret hh))) (hd : y.cls ≠ "java/lang/invoke/MethodHandle" ∧ y.cls ≠ "java/lang/invoke/VarHandle" ∧ (parseMethodDescriptor y.desc).map (fun d => d.parameters.length) = some n)
    (hn : As.length = n) {lv : List (Nat × Value)} (hl : lv_has ls nL lv) (hst : st = As.reverse ++ rest) (hW : (rest.map fun v => v.category).sum ≤ 8) (hR : k + 1 ≤ R.frames ∧ 8 + (maxL + 11) + 40 * k ≤ R.locals) (hf : cells + mc ≤ R.cells ∧ slots + ms ≤ R.slots) (d : decode cc pc = .ok (.invokestatic index, 3)) :
    zRun p l e R s m args below meth c H locs cells slots mc ms (F0 m pc ls st) rest D (zfA F H) post :=
  ⟨_, vx_runSW (g := F0 m pc ls st) (As := As) (rest := rest) hC.1 hM (vx_cwSW n (fun w h => hC.ts h) hT rfl rfl rfl hd hR) ⟨zPw_blind, fun U hU hW => ⟨rfl, zfr_U hC hZ hU hW, fun x y hx hy hn => va_Nc.moved hW.alike (hNc x y hx hy hn)⟩⟩ rfl hn hl.1 hst (lv_room hW) d hf⟩
/-- what a wrapper leaves behind: the answer in the row, or the number of the exception -/
def wPL (cs : Nat → ClassId) (ou : Nat) (names : List String) (post : Int → zF → Prop) (px : String → zF → Prop) : Int → zF → Prop := fun k F => ∃ (Fg : zF) (f : Nat → Int64), F = zun Fg (z1 ou (zLa cs f)) ∧ Fg ou = none ∧ ((k = 0 ∧ ∃ r : Int, post r Fg ∧ f 0 = (iI r).toInt64) ∨ ∃ (j : Nat) (E : String), names[j]? = some E ∧ px E Fg ∧ k = (j : Int) + 1)
def wPD (cs : Nat → ClassId) (ou : Nat) (names : List String) (post : UInt64 → zF → Prop) (px : String → zF → Prop) : Int → zF → Prop := fun k F => ∃ (Fg : zF) (f : Nat → UInt64), F = zun Fg (z1 ou (zDa cs f)) ∧ Fg ou = none ∧ ((k = 0 ∧ ∃ r : UInt64, post r Fg ∧ f 0 = r) ∨ ∃ (j : Nat) (E : String), names[j]? = some E ∧ px E Fg ∧ k = (j : Int) + 1)
end FW
