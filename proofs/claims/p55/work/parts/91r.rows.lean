/-! The law's side: wrappers, three worlds side by side, strings. -/
section FW
variable {p : Program} {l : Launch} {e : Env} {R : Room} {s : State} {m : MethodId} {args : Array Value} {below : List Frame} {meth : Method} {c : Code} {H : Heap} {locs : List Loc} {cells slots : Nat} {Q : State → Prop}
variable {cc : ByteArray} {pc nL : Nat} {ls : Array Slot} {rest : List Value} {own : String} {D : va_G} {cs : Nat → ClassId} {A : Nat → Prop} {F : zF} {a : Nat}
def zwsW (y : MethodName) (b : ByteArray) (n : Nat) (r : Option FieldType) (hh : List (Nat × Nat × Nat × Nat)) : List Cond := .codeWith y b n r hh :: ZALL
/-- the contract of a method with a table of handlers -/
abbrev zMW (l : Launch) (D : va_G) (cs : Nat → ClassId) (A : Nat → Prop) (y : MethodName) (b : ByteArray) (n : Nat) (r : Option FieldType) (hh : List (Nat × Nat × Nat × Nat)) (k mc ms : Nat) (av : List Value) (F : zF) (post : Option Value → zF → Prop) : Prop :=
  Met l y (zwsW y b n r hh) (zR k mc ms) (zPc D cs A F av) (zQ D A post) mc ms A
theorem zgoodW {y : MethodName} {b : ByteArray} {n : Nat} {r : Option FieldType} {hh : List (Nat × Nat × Nat × Nat)} (h : Cond.codeWith y b n r hh ∈ ZALL) : GoodIn ZALL (zwsW y b n r hh) := by
  intro w hw
  have h1 : w ∈ ZALL := by
    rcases List.mem_cons.mp hw with rfl | h2
    · exact h
    · exact h2
  exact ⟨h1, good_of_word (zall_good h1)⟩
theorem zW_of {y : MethodName} {r : Option FieldType} {hh : List (Nat × Nat × Nat × Nat)} {k mc ms : Nat} {av : List Value} {post : Option Value → zF → Prop} (hy : plainName y.cls = true) (hcl : y.cls = own) (hn : (lg_sl av).length ≤ nL)
    (body : ∀ (p : Program) (e : Env) (s : State) (m : MethodId) (below : List Frame) (meth : Method) (c : Code), zC p s m av.toArray c cc nL own D cs A → meth.sig.returnType = r → meth.locks = false → c.exceptionTable.toList = tableOf hh → zxNc s → zS D A s F s.heap [] →
      ∀ ls : Array Slot, lv_has ls nL (lv_args 0 av) → W p l e (zR k mc ms) s m av.toArray below meth c s.heap [] 0 0 (MQ below (zQ D A post) av.toArray s mc ms A) (F0 m 0 ls [])) : zMW l D cs A y cc nL r hh k mc ms av F post := by
  refine va_MetW (cc := cc) (maxL := nL) (ret := r) (hh := hh) hy rfl ?_
  intro p e s m args below meth c s₁ B hml hv
  obtain ⟨rfl, h1, h2, h3, h4, h5⟩ := hv
  have hts := atoms_spec (ws := zwsW y cc nL r hh) B.pre
  have hown : s.vm.findClass y.cls = some m.cls := findClass_of_methodNamed B.named
  have hl := lv_entry av (n := nL) hn
  rw [lg_entry_eq]
  exact body p e s m below meth c ⟨⟨B.exec, B.bytes, hml, by rw [← hcl]; exact hown, fun w hw => hts w (List.mem_cons_of_mem _ hw)⟩, h3, h4, h5⟩ B.returns B.notSynchronized (vx_table (x := y) B (hts _ List.mem_cons_self)) h5.2.2.1.2.2.2 ⟨h1, h2, va_S.rf⟩ _ hl
theorem zgsW {y : MethodName} {idx : Nat} {b : ByteArray} {n : Nat} {r : Option FieldType} {hh : List (Nat × Nat × Nat × Nat)} (h1 : Cond.methodLink own idx y ∈ ZALL) (h2 : Cond.static y ∈ ZALL) (h4 : Cond.initialized y.cls ∈ ZALL) (h5 : Cond.codeWith y b n r hh ∈ ZALL) : GoodIn ZALL (va_wsS own idx y (zwsW y b n r hh)) := by
  have g : ∀ {w : Cond}, w ∈ ZALL → w ∈ ZALL ∧ _ := fun {w} h => ⟨h, good_of_word (zall_good h)⟩
  intro w hw
  rcases List.mem_append.mp hw with h | h
  · simp only [List.mem_cons, List.not_mem_nil, or_false] at h
    rcases h with rfl | rfl | rfl
    · exact g h1
    · exact g h2
    · exact g h4
  · exact zgoodW h5 w h
theorem z_frSW (hC : zC p s m args c cc nL own D cs A) (hZ : zS D A s F H locs) {y : MethodName} {bytes : ByteArray} {maxL k mc ms n index : Nat} {ret : Option FieldType} {hh : List (Nat × Nat × Nat × Nat)} {As st : List Value} {post : Option Value → zF → Prop} (hM : zMW l D cs (zfA F H) y bytes maxL ret hh k mc ms As F post)
    (hT : GoodIn ZALL (va_wsS own index y (zwsW y bytes maxL ret hh))) (hd : y.cls ≠ "java/lang/invoke/MethodHandle" ∧ y.cls ≠ "java/lang/invoke/VarHandle" ∧ (parseMethodDescriptor y.desc).map (fun d => d.parameters.length) = some n)
    (hn : As.length = n) {lv : List (Nat × Value)} (hl : lv_has ls nL lv) (hst : st = As.reverse ++ rest) (hW : (rest.map fun v => v.category).sum ≤ 8) (hR : k + 1 ≤ R.frames ∧ 8 + (maxL + 11) + 40 * k ≤ R.locals) (hf : cells + mc ≤ R.cells ∧ slots + ms ≤ R.slots) (d : decode cc pc = .ok (.invokestatic index, 3)) :
    zRun p l e R s m args below meth c H locs cells slots mc ms (F0 m pc ls st) rest D (zfA F H) post :=
  ⟨_, vx_runSW (g := F0 m pc ls st) (As := As) (rest := rest) hC.1 hM (vx_cwSW n (fun w h => hC.ts h) hT rfl rfl rfl hd hR) ⟨zPc_blind, fun U hU hW => ⟨rfl, zfr_U hC hZ hU hW⟩⟩ rfl hn hl.1 hst (lv_room hW) d hf⟩
theorem z_frS (hC : zC p s m args c cc nL own D cs A) (hZ : zS D A s F H locs) {y : MethodName} {bytes : ByteArray} {maxL k mc ms n index : Nat} {ret : Option FieldType} {As st : List Value} {post : Option Value → zF → Prop} (hM : zM l D cs (zfA F H) y bytes maxL ret k mc ms As F post)
    (hT : GoodIn ZALL (va_wsS own index y (zws y bytes maxL ret))) (hd : y.cls ≠ "java/lang/invoke/MethodHandle" ∧ y.cls ≠ "java/lang/invoke/VarHandle" ∧ (parseMethodDescriptor y.desc).map (fun d => d.parameters.length) = some n)
    (hn : As.length = n) {lv : List (Nat × Value)} (hl : lv_has ls nL lv) (hst : st = As.reverse ++ rest) (hW : (rest.map fun v => v.category).sum ≤ 8) (hR : k + 1 ≤ R.frames ∧ 8 + (maxL + 11) + 40 * k ≤ R.locals) (hf : cells + mc ≤ R.cells ∧ slots + ms ≤ R.slots) (d : decode cc pc = .ok (.invokestatic index, 3)) :
    zRun p l e R s m args below meth c H locs cells slots mc ms (F0 m pc ls st) rest D (zfA F H) post :=
  ⟨_, va_runS (g := F0 m pc ls st) (As := As) (rest := rest) hC.1 hM (va_cwS n (fun w h => hC.ts h) hT rfl rfl rfl hd hR) ⟨zPc_blind, fun U hU hW => ⟨rfl, zfr_U hC hZ hU hW⟩⟩ rfl hn hl.1 hst (lv_room hW) d hf⟩
/-- nothing -/
def zE : zF := fun _ => none
theorem zE_dj {F : zF} : zdj zE F := fun _ => Or.inl rfl
theorem zE_S (hZ : zS D A s F H locs) : zS D A s zE H locs := hZ.sub (fun _ _ h => by cases h)
theorem zun_E {F : zF} : zun zE F = F := by funext q; exact zun_r rfl
theorem zun_le1 {F G : zF} : zle F (zun F G) := fun _ _ h => zun_l h
theorem zun_le2 {F G : zF} (h : zdj F G) : zle G (zun F G) := fun q e hq => by
  rcases h q with z | z
  · rw [zun_r z]; exact hq
  · rw [z] at hq; cases hq
/-- a call over F, G beside it -/
theorem z_c2 (hC : zC p s m args c cc nL own D cs A) {post : Option Value → zF → Prop} {mc ms : Nat} {st0 : List Value} (hr : zRun p l e R s m args below meth c H locs cells slots mc ms (F0 m pc ls st0) rest D (zfA F H) post) (hZ : zS D A s F H locs) {G : zF} (hG : zS D A s G H locs) (dG : zdj F G)
    (kk : ∀ (v : Option Value) (F1 : zF) (H1 : Heap) (locs1 : List Loc), post v F1 → zS D A s F1 H1 locs1 → zS D A s G H1 locs1 → zdj F1 G → W p l e R s m args below meth c H1 locs1 (cells + mc) (slots + ms) Q (F0 m (pc + 3) ls (v.toList ++ rest))) : W p l e R s m args below meth c H locs cells slots Q (F0 m pc ls st0) :=
  z_fcall hC hr hZ (fun v F1 H1 locs1 hp h hk => kk v F1 H1 locs1 hp h (hk G dG hG).1 (hk G dG hG).2)
/-- a call over F, G and X beside it -/
theorem z_c3 (hC : zC p s m args c cc nL own D cs A) {post : Option Value → zF → Prop} {mc ms : Nat} {st0 : List Value} (hr : zRun p l e R s m args below meth c H locs cells slots mc ms (F0 m pc ls st0) rest D (zfA F H) post) (hZ : zS D A s F H locs) {G X : zF} (hG : zS D A s G H locs) (hX : zS D A s X H locs) (dG : zdj F G) (dX : zdj F X)
    (kk : ∀ (v : Option Value) (F1 : zF) (H1 : Heap) (locs1 : List Loc), post v F1 → zS D A s F1 H1 locs1 → zS D A s G H1 locs1 → zS D A s X H1 locs1 → zdj F1 G → zdj F1 X → W p l e R s m args below meth c H1 locs1 (cells + mc) (slots + ms) Q (F0 m (pc + 3) ls (v.toList ++ rest))) : W p l e R s m args below meth c H locs cells slots Q (F0 m pc ls st0) :=
  z_fcall hC hr hZ (fun v F1 H1 locs1 hp h hk => kk v F1 H1 locs1 hp h (hk G dG hG).1 (hk X dX hX).1 (hk G dG hG).2 (hk X dX hX).2)
/-! strings -/
/-- a String and its text: an object of ours, or a constant -/
def oSt (cs : Nat → ClassId) (F : zF) (a v : Nat) (t : List Int) : Prop :=
  ((∃ f : Int → Int, F a = some (.inr (0, [.ref v, .int (iI 0), .int (iI 0), .int (iI 0)])) ∧ F v = some (zA (cs 0) t.length f) ∧ ∀ k : Int, 0 ≤ k → k < t.length → f k = t.getD k.toNat 0) ∨
   (∃ f : Nat → Value, ("java/lang/String", "value", "[B", Value.ref v, a) ∈ zfld cs ∧ ("java/lang/String", "coder", "B", Value.int 0, a) ∈ zfld cs ∧ ("java/lang/String", a) ∈ zobj cs ∧ (FieldType.byte, v, t.length, f) ∈ zarr cs ∧ ∀ k : Nat, k < t.length → f k = .int (iI (t.getD k 0)))) ∧ (t.length ≤ 3000 ∧ ∀ x ∈ t, 0 ≤ x ∧ x ≤ 127)
def oStr (cs : Nat → ClassId) (F : zF) (a : Nat) (t : List Int) : Prop := ∃ v, oSt cs F a v t
theorem oSt.mono {F1 : zF} {v : Nat} {t : List Int} (h : oSt cs F a v t) (hl : zle F F1) : oSt cs F1 a v t :=
  ⟨h.1.imp (fun ⟨f, h1, h2, h3⟩ => ⟨f, hl _ _ h1, hl _ _ h2, h3⟩) id, h.2⟩
theorem oStr.mono {F1 : zF} {t : List Int} (h : oStr cs F a t) (hl : zle F F1) : oStr cs F1 a t := h.elim fun v h => ⟨v, h.mono hl⟩
theorem oStr.rng {t : List Int} (h : oStr cs F a t) : t.length ≤ 3000 ∧ ∀ x ∈ t, 0 ≤ x ∧ x ≤ 127 := h.elim fun v h => h.2
theorem gD_rng {t : List Int} (h : ∀ x ∈ t, 0 ≤ x ∧ x ≤ 127) (k : Nat) : 0 ≤ t.getD k 0 ∧ t.getD k 0 ≤ 127 := by
  rw [List.getD_eq_getElem?_getD]
  cases hk : t[k]? with
  | none => exact ⟨by decide, by decide⟩
  | some x => exact h x (List.mem_of_getElem? hk)
theorem z_sval (hC : zC p s m args c cc nL own D cs A) (hZ : zS D A s F H locs) {v index : Nat} {t : List Int} (h : oSt cs F a v t) (hl : Cond.fieldLink own index "java/lang/String" "value" "[B" ∈ ZALL) (d : decode cc pc = .ok (.getfield index, 3))
    (kk : W p l e R s m args below meth c H locs cells slots Q (F0 m (pc + 3) ls (.ref v :: rest))) : W p l e R s m args below meth c H locs cells slots Q (F0 m pc ls (.ref a :: rest)) := by
  rcases h.1 with ⟨f, h2, -⟩ | ⟨f, h2, -⟩
  · exact z_get (T := TJ0) (N := 4) (ci := 0) (k := 0) (fs := [.ref v, .int (iI 0), .int (iI 0), .int (iI 0)]) (v := .ref v) hC hZ in_J0 rfl (by decide) hl rfl h2 rfl d kk
  · exact z_getO hC hZ h2 hl rfl d kk
theorem z_scod (hC : zC p s m args c cc nL own D cs A) (hZ : zS D A s F H locs) {v index : Nat} {t : List Int} (h : oSt cs F a v t) (hl : Cond.fieldLink own index "java/lang/String" "coder" "B" ∈ ZALL) (d : decode cc pc = .ok (.getfield index, 3))
    (kk : W p l e R s m args below meth c H locs cells slots Q (F0 m (pc + 3) ls (.int (iI 0) :: rest))) : W p l e R s m args below meth c H locs cells slots Q (F0 m pc ls (.ref a :: rest)) := by
  rcases h.1 with ⟨f, h2, -⟩ | ⟨f, -, h2, -⟩
  · exact z_get (T := TJ0) (N := 4) (ci := 0) (k := 1) (fs := [.ref v, .int (iI 0), .int (iI 0), .int (iI 0)]) (v := .int (iI 0)) hC hZ in_J0 rfl (by decide) hl rfl h2 rfl d kk
  · exact z_getO (v := .int 0) hC hZ h2 hl rfl d kk
theorem z_slen (hC : zC p s m args c cc nL own D cs A) (hZ : zS D A s F H locs) {v : Nat} {t : List Int} (h : oSt cs F v a t) (d : decode cc pc = .ok (.arraylength, 1))
    (kk : W p l e R s m args below meth c H locs cells slots Q (F0 m (pc + 1) ls (.int (iI (t.length : Int)) :: rest))) : W p l e R s m args below meth c H locs cells slots Q (F0 m pc ls (.ref a :: rest)) := by
  rcases h.1 with ⟨f, -, h2, -⟩ | ⟨f, -, -, -, h2, -⟩
  · exact z_alen (t := 0) hC hZ h2 rfl d kk
  · exact z_tlen hC hZ h2 d kk
theorem z_sbal (hC : zC p s m args c cc nL own D cs A) (hZ : zS D A s F H locs) {v : Nat} {t : List Int} {i : Int} (h : oSt cs F v a t) (hi : 0 ≤ i ∧ i < t.length) (d : decode cc pc = .ok (.baload, 1))
    (kk : W p l e R s m args below meth c H locs cells slots Q (F0 m (pc + 1) ls (.int (iI (t.getD i.toNat 0)) :: rest))) : W p l e R s m args below meth c H locs cells slots Q (F0 m pc ls (.int (iI i) :: .ref a :: rest)) := by
  have hn : t.length ≤ 2147483647 := Nat.le_trans h.2.1 (by decide)
  rcases h.1 with ⟨f, -, h2, h3⟩ | ⟨f, -, -, -, h2, h3⟩
  · refine z_bald hC hZ h2 hi hn d ?_
    rw [h3 i hi.1 hi.2]
    exact kk
  · exact z_tb (x := t.getD i.toNat 0) hC hZ h2 hi hn (h3 _ (by omega)) d kk
theorem z_runSt (hC : zC p s m args c cc nL own D cs A) (hZ : zS D A s F H locs) {y : MethodName} {bytes : ByteArray} {maxL k mc ms n index : Nat} {ret : Option FieldType} {b v : Nat} {t : List Int} {As st : List Value} {post : Option Value → zF → Prop} (hM : zM l D cs A y bytes maxL ret k mc ms (.ref b :: As) F post)
    (hT : GoodIn ZALL (wsV own index RJ0 y (zws y bytes maxL ret))) (hd : y.cls = RJ0 ∧ y.cls ≠ "java/lang/invoke/MethodHandle" ∧ y.cls ≠ "java/lang/invoke/VarHandle" ∧ (parseMethodDescriptor y.desc).map (fun d => d.parameters.length) = some n) (hs : oSt cs F b v t)
    (hn : As.length = n) {lv : List (Nat × Value)} (hl : lv_has ls nL lv) (hst : st = As.reverse ++ .ref b :: rest) (hW : (rest.map fun v => v.category).sum ≤ 8) (hR : k + 1 ≤ R.frames ∧ 8 + (maxL + 11) + 40 * k ≤ R.locals) (hf : cells + mc ≤ R.cells ∧ slots + ms ≤ R.slots) (d : decode cc pc = .ok (.invokevirtual index, 3)) :
    zRun p l e R s m args below meth c H locs cells slots mc ms (F0 m pc ls st) rest D A post := by
  rcases hs.1 with ⟨f, h2, -⟩ | ⟨f, -, -, h2, -⟩
  · exact z_runV (T := TJ0) (N := 4) (ci := 0) hC hZ hM hT hd rfl h2 hn hl hst hW hR hf d
  · exact z_runO (C := RJ0) hC hZ hM hT hd h2 hn hl hst hW hR hf d
theorem z_frO (hC : zC p s m args c cc nL own D cs A) (hZ : zS D A s F H locs) {C : String} {y : MethodName} {bytes : ByteArray} {maxL k mc ms n index : Nat} {ret : Option FieldType} {b : Nat} {As st : List Value} {post : Option Value → zF → Prop} (hM : zM l D cs (zfA F H) y bytes maxL ret k mc ms (.ref b :: As) F post)
    (hT : GoodIn ZALL (wsV own index C y (zws y bytes maxL ret))) (hd : y.cls = C ∧ y.cls ≠ "java/lang/invoke/MethodHandle" ∧ y.cls ≠ "java/lang/invoke/VarHandle" ∧ (parseMethodDescriptor y.desc).map (fun d => d.parameters.length) = some n) (ho : (C, b) ∈ zobj cs)
    (hn : As.length = n) {lv : List (Nat × Value)} (hl : lv_has ls nL lv) (hst : st = As.reverse ++ .ref b :: rest) (hW : (rest.map fun v => v.category).sum ≤ 8) (hR : k + 1 ≤ R.frames ∧ 8 + (maxL + 11) + 40 * k ≤ R.locals) (hf : cells + mc ≤ R.cells ∧ slots + ms ≤ R.slots) (d : decode cc pc = .ok (.invokevirtual index, 3)) :
    zRun p l e R s m args below meth c H locs cells slots mc ms (F0 m pc ls st) rest D (zfA F H) post :=
  ⟨_, va_runV (g := F0 m pc ls st) (As := As) (rest := rest) hC.1 hM (cwV n (fun w h => hC.ts h) hT rfl rfl rfl hd hR) ⟨zPc_blind, (by obtain ⟨cell, h1, h2, h3, -⟩ := (hC.ob ho).kept hZ.2.2.2.1; exact ⟨cell, h1, h2, h3⟩), fun U hU hW => ⟨rfl, zfr_U hC hZ hU hW⟩⟩ rfl hn hl.1 hst (lv_room hW) d hf⟩
/-- a call of a string's method, over the world F alone -/
theorem z_frSt (hC : zC p s m args c cc nL own D cs A) (hZ : zS D A s F H locs) {y : MethodName} {bytes : ByteArray} {maxL k mc ms n index : Nat} {ret : Option FieldType} {b v : Nat} {t : List Int} {As st : List Value} {post : Option Value → zF → Prop} (hM : zM l D cs (zfA F H) y bytes maxL ret k mc ms (.ref b :: As) F post)
    (hT : GoodIn ZALL (wsV own index RJ0 y (zws y bytes maxL ret))) (hd : y.cls = RJ0 ∧ y.cls ≠ "java/lang/invoke/MethodHandle" ∧ y.cls ≠ "java/lang/invoke/VarHandle" ∧ (parseMethodDescriptor y.desc).map (fun d => d.parameters.length) = some n) (hs : oSt cs F b v t)
    (hn : As.length = n) {lv : List (Nat × Value)} (hl : lv_has ls nL lv) (hst : st = As.reverse ++ .ref b :: rest) (hW : (rest.map fun v => v.category).sum ≤ 8) (hR : k + 1 ≤ R.frames ∧ 8 + (maxL + 11) + 40 * k ≤ R.locals) (hf : cells + mc ≤ R.cells ∧ slots + ms ≤ R.slots) (d : decode cc pc = .ok (.invokevirtual index, 3)) :
    zRun p l e R s m args below meth c H locs cells slots mc ms (F0 m pc ls st) rest D (zfA F H) post := by
  rcases hs.1 with ⟨f, h2, -⟩ | ⟨f, -, -, h2, -⟩
  · exact z_frV (T := TJ0) (N := 4) (ci := 0) hC hZ hM hT hd rfl h2 hn hl hst hW hR hf d
  · exact z_frO (C := RJ0) hC hZ hM hT hd h2 hn hl hst hW hR hf d
/-- a call of a method that the object's class overrides -/
theorem z_runOv (hC : zC p s m args c cc nL own D cs A) (hZ : zS D A s F H locs) {C : String} {x y : MethodName} {bytes b0 : ByteArray} {maxL k mc ms n index ci m0 : Nat} {ret r0 : Option FieldType} {b : Nat} {As st : List Value} {T : u_T} {N : Nat} {fs : List Value} {post : Option Value → zF → Prop} (hM : zM l D cs A y bytes maxL ret k mc ms (.ref b :: As) F post)
    (hG : Cond.code y bytes maxL ret ∈ ZALL) (hini : Cond.initialized y.cls ∈ ZALL) (hlk : Cond.methodLink own index x ∈ ZALL) (hsame : Cond.sameMethod x.cls x.cls x.name x.desc ∈ ZALL) (hin : Cond.instanceMethod y ∈ ZALL) (hinx : Cond.instanceMethod x ∈ ZALL) (hGx : Cond.code x b0 m0 r0 ∈ ZALL) (hsel : Cond.selects C x y ∈ ZALL) (hd : x.cls ≠ "java/lang/invoke/MethodHandle" ∧ x.cls ≠ "java/lang/invoke/VarHandle" ∧ (parseMethodDescriptor x.desc).map (fun d => d.parameters.length) = some n) (hc : vwCl[ci]? = some (C, T, N)) (hb0 : F b = some (.inr (ci, fs)))
    (hn : As.length = n) {lv : List (Nat × Value)} (hl : lv_has ls nL lv) (hst : st = As.reverse ++ .ref b :: rest) (hW : (rest.map fun v => v.category).sum ≤ 8) (hR : k + 1 ≤ R.frames ∧ 8 + (maxL + 11) + 40 * k ≤ R.locals) (hf : cells + mc ≤ R.cells ∧ slots + ms ≤ R.slots) (d : decode cc pc = .ok (.invokevirtual index, 3)) :
    zRun p l e R s m args below meth c H locs cells slots mc ms (F0 m pc ls st) rest D A post := by
  have cw : va_CU R s args own C x.cls index x y bytes maxL ret (zws y bytes maxL ret) (zR k mc ms) mc ms n := by
    refine ⟨⟨rfl, rfl, hR.1, hR.2, pay_in (fun w h => hC.ts h) (zgood hG), List.mem_cons_self⟩, hC.ts hG, hC.ts hini, ⟨hd.1, hd.2.1⟩, fun sig h => ?_, hC.ts hlk, hC.ts hsame, va_Decl.of (hC.ts hinx) (hC.ts hGx), hC.ts hsel, hC.ts hin⟩
    have h2 := hd.2.2
    rw [h] at h2
    exact (Option.some.inj h2).symm
  exact ⟨_, va_runU (g := F0 m pc ls st) (As := As) (rest := rest) hC.1 hM cw ⟨zPc_blind, va_recv hC.K (zP1 (hZ.1 b _ hb0)) (ci := ci) (q0 := 0) hc rfl, fun U hU hW => ⟨rfl, hZ.U hC hU hW⟩⟩ rfl hn hl.1 hst (lv_room hW) d hf⟩
/-- System.arraycopy from a string's bytes -/
theorem z_copyS (hC : zC p s m args c cc nL own D cs A) (hZ : zS D A s F H locs) {index : Nat} (hlink : Cond.methodLink own index arraycopyName ∈ ZALL) (hnat : Cond.native arraycopyName ∈ ZALL) (hstat : Cond.static arraycopyName ∈ ZALL) (hini : Cond.initialized "java/lang/System" ∈ ZALL)
    {a0 b n1 : Nat} {tx : List Int} {g : Int → Int} (ha0 : oSt cs F b a0 tx) (ha1 : F a = some (zA (cs 0) n1 g))
    {sp dp n : Int} (h1 : 0 ≤ sp) (h2 : 0 ≤ dp) (h3 : 0 ≤ n) (h4 : sp + n ≤ tx.length) (h5 : dp + n ≤ n1) (hb0 : n1 ≤ 2147483647) {lv : List (Nat × Value)} (hl : lv_has ls nL lv)
    (hframes : 1 ≤ R.frames) (hlocals : (rest.map fun v => v.category).sum + (nativeFrameWords "java/lang/System" "arraycopy" 5 + 11) ≤ R.locals) (hdg : decode cc pc = .ok (.invokestatic index, 3))
    (kk : ∀ (f : Int → Int) (H1 : Heap) (locs1 : List Loc), (∀ k : Int, 0 ≤ k → k < tx.length → f k = tx.getD k.toNat 0) → zS D A s (zup F a (zA (cs 0) n1 (zcpy f g sp dp n))) H1 locs1 → W p l e R s m args below meth c H1 locs1 cells slots Q (F0 m (pc + 3) ls rest)) : W p l e R s m args below meth c H locs cells slots Q (F0 m pc ls (.int (iI n) :: .int (iI dp) :: .ref a :: .int (iI sp) :: .ref a0 :: rest)) := by
  have hr := ha0.2.2
  have hlen := ha0.2.1
  rcases ha0.1 with ⟨f, -, hF, hf⟩ | ⟨f, -, -, -, hT0, hf⟩
  · refine z_copyI (rest := rest) hC hZ hlink hnat hstat hini 0 (ty := .byte) (sp := sp) (dp := dp) (n := n) hF ha1 rfl rfl h1 h2 h3 h4 h5 ⟨by omega, hb0⟩ (fun i i0 i1 => ?_) hl hframes hlocals hdg (fun H1 locs1 h => kk f H1 locs1 hf h)
    rw [hf i (by omega) (by omega)]
    exact iI_fitB (gD_rng hr _)
  have hb := hC.b
  have hml : c.maxLocals = ls.size := hC.ml.trans hl.1.symm
  have nn : ∀ z : Int, 0 ≤ z → z ≤ 2147483647 → ¬ iI z < 0 ∧ (iI z).toInt = z := fun z h0 h9 => ⟨fun q => by
    have := (iI_lt (a := z) (b := 0) (by omega) (by omega)).mp q
    omega, iI_to (by omega)⟩
  intro T hT X
  have hT1 : va_T .byte a0 tx.length f A s H := (hC.ar hT0).kept hZ.2.2.2.1
  obtain ⟨cell, hc0, hAr, hun, hsz, -, hsl, -⟩ := hT1
  have hc1 : H[a]? = some (vp_cell (cs 0) (n1, .inl (aI g))) := hZ.1 a _ ha1
  obtain ⟨hnost, ks, hks, cm1, hkk1⟩ := hAr
  obtain ⟨-, k0, hk0, cm0, hkk0⟩ := (hC.K.2 0 _ rfl).1 n1 (fun j => .int (aI g j))
  obtain ⟨e1, e1'⟩ := nn sp h1 (by omega)
  obtain ⟨e2, e2'⟩ := nn dp h2 (by omega)
  obtain ⟨e3, e3'⟩ := nn n h3 (by omega)
  have c1 : (iI sp).toNatClampNeg = sp.toNat := iI_clamp (by omega)
  have c2 : (iI dp).toNatClampNeg = dp.toNat := iI_clamp (by omega)
  have c3 : (iI n).toNatClampNeg = n.toNat := iI_clamp (by omega)
  obtain ⟨f0, hf0⟩ : ∃ f0 : Int → Int, ∀ k, f0 k = tx.getD k.toNat 0 := ⟨_, fun _ => rfl⟩
  have hsl2 : ∀ j : Nat, j < tx.length → cell.slots[j]? = some (.int (iI (f0 (j : Int)))) := fun j hj => by rw [hsl j hj, hf j hj, hf0, Int.toNat_natCast]
  obtain ⟨vm', X', step⟩ := X.arraycopy hC.x hC.ow (hC.ts hlink) (hC.ts hnat) (hC.ts hstat) (hC.ts hini) (src := a0) (dst := a) (cs := cell) (cd := vp_cell (cs 0) (n1, .inl (aI g))) (srcPos := iI sp) (destPos := iI dp) (n := iI n) (by rw [hT]; exact hc0) (by rw [hT]; exact hc1)
    hnost (fun _ h => by cases h) hun (fun h => by cases h) hks hk0 hkk1 hkk0 rfl e1 e2 e3
    (by rw [e1', e3']; omega)
    (by rw [e2', e3']; show ¬ _ > ((arrV (cs 0) n1 (fun j => .int (aI g j))).slots.size : Int); rw [arrV_size]; omega)
    (fun vm₁ _ i hi => by
      have hi' : i < n.toNat := by rw [← c3]; exact hi
      have e : cell.slots.getD ((iI sp).toNatClampNeg + i) .null = .int (iI (f0 ((sp.toNat + i : Nat) : Int))) := by
        rw [c1, Array.getD_eq_getD_getElem?, hsl2 _ (by omega)]
        rfl
      refine ⟨?_, ?_⟩
      · rw [e, hf0]
        exact iI_fitB (gD_rng hr _)
      · rw [e]
        exact trivial)
    (g := F0 m pc ls (.int (iI n) :: .int (iI dp) :: .ref a :: .int (iI sp) :: .ref a0 :: rest)) rfl (by rw [hml]) (rest := rest) rfl (by rw [hb]; exact hdg) hframes (by show 2 * 0 + _ + _ ≤ _; omega)
  have ec : copied cell (vp_cell (cs 0) (n1, .inl (aI g))) (iI sp) (iI dp) (iI n) = vp_cell (cs 0) (n1, .inl (aI (zcpy f0 g sp dp n))) := by
    refine (va_copiedX (n0 := tx.length) (fun z => .int z) cell (cs 0) (aI f0) (aI g) (fun j hj => by rw [hsl2 j hj]; rfl) (by rw [c1, c3]; omega)).trans ?_
    rw [c1, c2, c3]
    show vp_cell _ (_, .inl (va_cpy (fun k : Nat => iI (f0 (k : Int))) (fun k : Nat => iI (g (k : Int))) _ _ _)) = _
    rw [zcpy_nat iI h1 h2 h3]
    rfl
  rw [ec] at X' step
  have hl : a < H.size := (Array.getElem?_eq_some_iff.mp hc1).1
  have hheap : ((T.setVm vm').setCell a (vp_cell (cs 0) (n1, .inl (aI (zcpy f0 g sp dp n))))).heap = H.setIfInBounds a (vp_cell (cs 0) (n1, .inl (aI (zcpy f0 g sp dp n)))) := by rw [← hT]; rfl
  have oq : ∀ q : Nat, q ≠ a → (H.setIfInBounds a (vp_cell (cs 0) (n1, .inl (aI (zcpy f0 g sp dp n)))))[q]? = H[q]? := fun q hq => by simp [Array.getElem?_setIfInBounds, Ne.symm hq]
  obtain ⟨t2, a1, b1⟩ := kk f0 _ _ (fun k _ _ => hf0 k) (zS.putL (fun q hq => by obtain ⟨z, -, hz⟩ := List.mem_map.mp hq; rw [← hz]) hZ (hZ.2.1 a _ ha1) (show (H.setIfInBounds a _)[a]? = some _ by simp [Array.getElem?_setIfInBounds, hl]) (by simp) oq) _ hheap X'
  exact ⟨t2, step t2 a1, b1⟩
/-- a text constant, by ldc -/
theorem z_ldcS1 (hC : zC p s m args c cc nL own D cs A) {tx : String} {index : Nat} (h : (own, index, tx, a) ∈ zldc cs) (d : decode cc pc = .ok (.ldc index, 2))
    (k : W p l e R s m args below meth c H locs cells slots Q (F0 m (pc + 2) ls (.ref a :: rest))) : W p l e R s m args below meth c H locs cells slots Q (F0 m pc ls rest) := by
  have hz := hC.ld h
  intro T hT X
  obtain ⟨t, a1, b1⟩ := k T hT X
  have h1 : (Cond.stringRef own index tx).before args s = true := hz.1
  have h2 : (Term.string own index).eval args s none [] s = some (.ref a) := hz.2
  exact ⟨t, X.ldcString hC.x hC.ow (text := tx) (a := a) h1 h2 (g := F0 m pc ls rest) rfl (by rw [hC.b]; exact d) t a1, b1⟩
end FW
/-- the law's texts: '', 'taenorisulbe', ' ', '!', ':', 'aeiou', '-;', ';', ';print;days ', ';drop ', '' -/
def zLw (j : Nat) : List Int := match j with
  | 0 => []
  | 1 => [116, 97, 101, 110, 111, 114, 105, 115, 117, 108, 98, 101]
  | 2 => [32]
  | 3 => [33]
  | 4 => [58]
  | 5 => [97, 101, 105, 111, 117]
  | 6 => [45, 59]
  | 7 => [59]
  | 8 => [59, 112, 114, 105, 110, 116, 59, 100, 97, 121, 115, 32]
  | 9 => [59, 100, 114, 111, 112, 32]
  | _ => []
theorem zLw_st {cs : Nat → ClassId} {F : zF} {j : Nat} (h : j < 11) : oSt cs F (cs (50 + j)) (cs (70 + j)) (zLw j) := by
  have h2 : j = 0 ∨ j = 1 ∨ j = 2 ∨ j = 3 ∨ j = 4 ∨ j = 5 ∨ j = 6 ∨ j = 7 ∨ j = 8 ∨ j = 9 ∨ j = 10 := by omega
  have key : ∀ (l : List Int) (l2 : List Int32), l2 = l.map iI → ∀ k, (Value.int (l2.getD k 0)) = .int (iI (l.getD k 0)) := by
    intro l l2 e k
    subst e
    congr 1
    rw [List.getD_eq_getElem?_getD, List.getD_eq_getElem?_getD, List.getElem?_map]
    cases l[k]? <;> rfl
  have mem : ∀ (t : List Int) (l2 : List Int32) (x y : Nat), l2 = t.map iI → ("java/lang/String", "value", "[B", Value.ref y, x) ∈ zfld cs → ("java/lang/String", "coder", "B", Value.int 0, x) ∈ zfld cs → ("java/lang/String", x) ∈ zobj cs → (FieldType.byte, y, t.length, fun k => Value.int (l2.getD k 0)) ∈ zarr cs → (t.all (fun c => decide (0 ≤ c) && decide (c ≤ 127))) = true → t.length ≤ 3000 → oSt cs F x y t := by
    intro t l2 x y e m1 m2 m3 m4 m5 m6
    exact ⟨Or.inr ⟨_, m1, m2, m3, m4, fun k _ => key t l2 e k⟩, m6, fun c hc => by have := List.all_eq_true.mp m5 c hc; simpa using this⟩
  rcases h2 with rfl | rfl | rfl | rfl | rfl | rfl | rfl | rfl | rfl | rfl | rfl
  · exact mem (zLw 0) [] _ _ rfl (by simp [zfld]) (by simp [zfld]) (by simp [zobj]) (List.mem_of_getElem? (i := 10) rfl) (by decide) (by decide)
  · exact mem (zLw 1) [116, 97, 101, 110, 111, 114, 105, 115, 117, 108, 98, 101] _ _ rfl (by simp [zfld]) (by simp [zfld]) (by simp [zobj]) (List.mem_of_getElem? (i := 11) rfl) (by decide) (by decide)
  · exact mem (zLw 2) [32] _ _ rfl (by simp [zfld]) (by simp [zfld]) (by simp [zobj]) (List.mem_of_getElem? (i := 12) rfl) (by decide) (by decide)
  · exact mem (zLw 3) [33] _ _ rfl (by simp [zfld]) (by simp [zfld]) (by simp [zobj]) (List.mem_of_getElem? (i := 13) rfl) (by decide) (by decide)
  · exact mem (zLw 4) [58] _ _ rfl (by simp [zfld]) (by simp [zfld]) (by simp [zobj]) (List.mem_of_getElem? (i := 14) rfl) (by decide) (by decide)
  · exact mem (zLw 5) [97, 101, 105, 111, 117] _ _ rfl (by simp [zfld]) (by simp [zfld]) (by simp [zobj]) (List.mem_of_getElem? (i := 15) rfl) (by decide) (by decide)
  · exact mem (zLw 6) [45, 59] _ _ rfl (by simp [zfld]) (by simp [zfld]) (by simp [zobj]) (List.mem_of_getElem? (i := 16) rfl) (by decide) (by decide)
  · exact mem (zLw 7) [59] _ _ rfl (by simp [zfld]) (by simp [zfld]) (by simp [zobj]) (List.mem_of_getElem? (i := 17) rfl) (by decide) (by decide)
  · exact mem (zLw 8) [59, 112, 114, 105, 110, 116, 59, 100, 97, 121, 115, 32] _ _ rfl (by simp [zfld]) (by simp [zfld]) (by simp [zobj]) (List.mem_of_getElem? (i := 18) rfl) (by decide) (by decide)
  · exact mem (zLw 9) [59, 100, 114, 111, 112, 32] _ _ rfl (by simp [zfld]) (by simp [zfld]) (by simp [zobj]) (List.mem_of_getElem? (i := 19) rfl) (by decide) (by decide)
  · exact mem (zLw 10) [] _ _ rfl (by simp [zfld]) (by simp [zfld]) (by simp [zobj]) (List.mem_of_getElem? (i := 20) rfl) (by decide) (by decide)
/-- 'width ' -/
theorem zLw_w {cs : Nat → ClassId} {F : zF} : oSt cs F (cs 30) (cs 40) [119, 105, 100, 116, 104, 32] := by
  refine ⟨Or.inr ⟨_, by simp [zfld], by simp [zfld], by simp [zobj], List.mem_of_getElem? (i := 5) rfl, fun k hk => ?_⟩, by decide, by decide⟩
  show Value.int (([119, 105, 100, 116, 104, 32] : List Int32).getD k 0) = _
  have h6 : k < 6 := hk
  have hk2 : k = 0 ∨ k = 1 ∨ k = 2 ∨ k = 3 ∨ k = 4 ∨ k = 5 := by omega
  rcases hk2 with rfl | rfl | rfl | rfl | rfl | rfl <;> rfl
