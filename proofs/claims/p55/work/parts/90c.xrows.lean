/-! Methods that may throw: their contracts, throws, calls of them. -/
section ZX
variable {p : Program} {l : Launch} {e : Env} {R : Room} {s : State} {m : MethodId} {args : Array Value} {below : List Frame} {meth : Method} {c : Code} {H : Heap} {locs : List Loc} {cells slots : Nat} {Q : State → Prop}
variable {cc : ByteArray} {pc nL : Nat} {ls : Array Slot} {rest : List Value} {own : String} {D : va_G} {cs : Nat → ClassId} {A : Nat → Prop} {F : zF} {a : Nat}
/-- a method's end by an exception of class E: the world behind it -/
def zXC (D : va_G) (A : Nat → Prop) (px : String → zF → Prop) : String → State → State → Prop := fun E st t => (∃ F : zF, px E F ∧ zT D A F t) ∧ va_F A st t
abbrev zXM (l : Launch) (D : va_G) (cs : Nat → ClassId) (A : Nat → Prop) (y : MethodName) (b : ByteArray) (n : Nat) (r : Option FieldType) (k mc ms : Nat) (av : List Value) (F : zF) (post : Option Value → zF → Prop) (px : String → zF → Prop) : Prop :=
  vx_Met l y (zws y b n r) (zR k mc ms) (zPc D cs A F av) (zQ D A post) (zXC D A px) mc ms A
theorem zX_of {y : MethodName} {r : Option FieldType} {k mc ms : Nat} {av : List Value} {post : Option Value → zF → Prop} {px : String → zF → Prop} (hy : plainName y.cls = true) (hcl : y.cls = own) (hn : (lg_sl av).length ≤ nL)
    (body : ∀ (p : Program) (e : Env) (s : State) (m : MethodId) (below : List Frame) (meth : Method) (c : Code), zC p s m av.toArray c cc nL own D cs A → meth.sig.returnType = r → meth.locks = false → (∀ x ∈ c.exceptionTable.toList, False) → zS D A s F s.heap [] →
      ∀ ls : Array Slot, lv_has ls nL (lv_args 0 av) → W p l e (zR k mc ms) s m av.toArray below meth c s.heap [] 0 0 (vx_MQ below (zQ D A post) (zXC D A px) av.toArray s mc ms A) (F0 m 0 ls [])) : zXM l D cs A y cc nL r k mc ms av F post px := by
  refine vx_ofW (cc := cc) (maxL := nL) (ret := r) hy rfl ?_
  intro p e s m args below meth c s₁ B hml ht hv
  obtain ⟨rfl, h1, h2, h3, h4, h5⟩ := hv
  have hts := atoms_spec (ws := zws y cc nL r) B.pre
  have hown : s.vm.findClass y.cls = some m.cls := findClass_of_methodNamed B.named
  have hl := lv_entry av (n := nL) hn
  rw [lg_entry_eq]
  exact body p e s m below meth c ⟨⟨B.exec, B.bytes, hml, by rw [← hcl]; exact hown, fun w hw => hts w (List.mem_cons_of_mem _ hw)⟩, h3, h4, h5⟩ B.returns B.notSynchronized ht ⟨h1, h2, va_S.rf⟩ _ hl
theorem zth_bef (hC : zC p s m args c cc nL own D cs A) {L : List Cond} {idx : List Nat} (hE : L = idx.filterMap (fun i => tables_1[i]?)) (hG : L.all (fun w => goodWord w || znk w) = true) : ∀ w ∈ L, w.before args s = true := by
  intro w hw
  have hg := List.all_eq_true.mp hG w hw
  rw [hE] at hw
  obtain ⟨i, -, hi⟩ := List.mem_filterMap.mp hw
  have hm : w ∈ lw_tbl := List.mem_append_right _ (List.mem_of_getElem? hi)
  rcases Bool.or_eq_true _ _ ▸ hg with h | h
  · exact hC.ts (List.mem_filter.mpr ⟨hm, h⟩)
  · exact va_Nw.use (znk_tab h) (hC.G.2.1 w (List.mem_filter.mpr ⟨hm, h⟩))
theorem zX_hx (hZ : zS D A s F H locs) {px : String → zF → Prop} {E : String} (hp : px E F) : ∀ t : State, s.vm.Alike t.vm → H.size ≤ t.heap.size → (∀ q : Nat, q < H.size → t.heap[q]? = H[q]?) → zXC D A px E s t :=
  fun t _ hsz hk => ⟨⟨F, hp, fun a e h => (hZ.1 a e h).kept (hk a (hZ.1 a e h).lt), hZ.2.1⟩, Nat.le_trans hZ.2.2.1 hsz, fun q h1 h2 => (hk q (Nat.lt_of_lt_of_le h1 hZ.2.2.1)).trans (hZ.2.2.2.1 q h1 h2)⟩
/-- throw new E("text") -/
theorem z_throw (hC : zC p s m args c cc nL "StoneGazette" D cs A) (hZ : zS D A s F H locs) (hlt : l.stackTraces = false) (hT : ∀ x ∈ c.exceptionTable.toList, False) (hlk : meth.locks = false) {post : Option Value → zF → Prop} {px : String → zF → Prop} {cls text : String} {ik is ic mc ms : Nat} {idx : List Nat}
    (hE : vx_atS "StoneGazette" ic cls zthN = idx.filterMap (fun i => tables_1[i]?)) (hG : (vx_atS "StoneGazette" ic cls zthN).all (fun w => goodWord w || znk w) = true) (hO : (Cond.classLink "StoneGazette" ik cls :: Cond.initialized cls :: vx_atS "StoneGazette" ic cls zthN).all vx_ot = true)
    (hk : Cond.classLink "StoneGazette" ik cls ∈ ZALL) (hi : Cond.initialized cls ∈ ZALL) (hfit : Bundle.fit cls = true) (htx : ("StoneGazette", is, text) ∈ zthr) {lv : List (Nat × Value)} (hl : lv_has ls nL lv)
    (hfr : 5 < R.frames) (hlo : (rest.map fun v => v.category).sum + 82 ≤ R.locals) (hc1 : cells + 1 ≤ R.cells) (hs1 : slots + 6 ≤ R.slots) (hc : cells + 1 ≤ mc) (hs : slots + 6 ≤ ms) (hp : px cls F)
    (d0 : decode cc pc = .ok (.new ik, 3)) (d3 : decode cc (pc + 3) = .ok (.dup, 1)) (d4 : decode cc (pc + 4) = .ok (.ldc is, 2)) (d6 : decode cc (pc + 6) = .ok (.invokespecial ic, 3)) (d9 : decode cc (pc + 9) = .ok (.athrow, 1)) :
    W p l e R s m args below meth c H locs cells slots (vx_MQ below (zQ D A post) (zXC D A px) args s mc ms A) (F0 m pc ls rest) := by
  obtain ⟨sa, hsa⟩ := hC.G.2.2.2.1 _ htx
  exact vx_throwS (names := zthN) hC.x hC.b hlt hC.ow hfit (by decide) (hC.ts hk) (hC.ts hi) hsa (zth_bef hC hE hG) (fun w hw => List.all_eq_true.mp hO w hw) hC.G.1.1 hC.G.1.2.1 hZ.2.2 (hl.1.trans hC.ml.symm) d0 d3 d4 d6 d9 (fun x hx => absurd hx (hT x)) (by exact hfr) hlo hc1 hs1 hlk (zX_hx hZ hp) hZ.2.2.2.2 hc hs
theorem z_throwW (hC : zC p s m args c cc nL "StoneGazette" D cs A) (hZ : zS D A s F H locs) (hlt : l.stackTraces = false) (hT : ∀ x ∈ c.exceptionTable.toList, False) (hlk : meth.locks = false) {post : Option Value → zF → Prop} {px : String → zF → Prop} {cls text : String} {ik is ic mc ms : Nat} {idx : List Nat}
    (hE : vx_atS "StoneGazette" ic cls zthN = idx.filterMap (fun i => tables_1[i]?)) (hG : (vx_atS "StoneGazette" ic cls zthN).all (fun w => goodWord w || znk w) = true) (hO : (Cond.classLink "StoneGazette" ik cls :: Cond.initialized cls :: vx_atS "StoneGazette" ic cls zthN).all vx_ot = true)
    (hk : Cond.classLink "StoneGazette" ik cls ∈ ZALL) (hi : Cond.initialized cls ∈ ZALL) (hfit : Bundle.fit cls = true) (htx : ("StoneGazette", is, text) ∈ zthr) {lv : List (Nat × Value)} (hl : lv_has ls nL lv)
    (hfr : 5 < R.frames) (hlo : (rest.map fun v => v.category).sum + 82 ≤ R.locals) (hc1 : cells + 1 ≤ R.cells) (hs1 : slots + 6 ≤ R.slots) (hc : cells + 1 ≤ mc) (hs : slots + 6 ≤ ms) (hp : px cls F)
    (d0 : decode cc pc = .ok (.new ik, 3)) (d3 : decode cc (pc + 3) = .ok (.dup, 1)) (d4 : decode cc (pc + 4) = .ok (.ldc_w is, 3)) (d7 : decode cc (pc + 7) = .ok (.invokespecial ic, 3)) (d10 : decode cc (pc + 10) = .ok (.athrow, 1)) :
    W p l e R s m args below meth c H locs cells slots (vx_MQ below (zQ D A post) (zXC D A px) args s mc ms A) (F0 m pc ls rest) := by
  obtain ⟨sa, hsa⟩ := hC.G.2.2.2.1 _ htx
  exact vx_throwSW (names := zthN) hC.x hC.b hlt hC.ow hfit (by decide) (hC.ts hk) (hC.ts hi) hsa (zth_bef hC hE hG) (fun w hw => List.all_eq_true.mp hO w hw) hC.G.1.1 hC.G.1.2.1 hZ.2.2 (hl.1.trans hC.ml.symm) d0 d3 d4 d7 d10 (fun x hx => absurd hx (hT x)) (by exact hfr) hlo hc1 hs1 hlk (zX_hx hZ hp) hZ.2.2.2.2 hc hs
/-- throw new NoSuchElementException("text"); q: how long new, dup and ldc are -/
theorem z_throwN (hC : zC p s m args c cc nL "StoneGazette" D cs A) (hZ : zS D A s F H locs) (hlt : l.stackTraces = false) (hT : ∀ x ∈ c.exceptionTable.toList, False) (hlk : meth.locks = false) {post : Option Value → zF → Prop} {px : String → zF → Prop} {text : String} {is mc ms q : Nat}
    (htx : ("StoneGazette", is, text) ∈ zthr) {lv : List (Nat × Value)} (hl : lv_has ls nL lv)
    (hfr : 5 < R.frames) (hlo : (rest.map fun v => v.category).sum + 82 ≤ R.locals) (hc1 : cells + 1 ≤ R.cells) (hs1 : slots + 6 ≤ R.slots) (hc : cells + 1 ≤ mc) (hs : slots + 6 ≤ ms) (hp : px "java/util/NoSuchElementException" F)
    (d0 : decode cc pc = .ok (.new 135, 3)) (d3 : decode cc (pc + 3) = .ok (.dup, 1)) (d4 : (decode cc (pc + 4) = .ok (.ldc is, 2) ∧ q = pc + 6) ∨ (decode cc (pc + 4) = .ok (.ldc_w is, 3) ∧ q = pc + 7)) (d6 : decode cc q = .ok (.invokespecial 139, 3)) (d9 : decode cc (q + 3) = .ok (.athrow, 1)) :
    W p l e R s m args below meth c H locs cells slots (vx_MQ below (zQ D A post) (zXC D A px) args s mc ms A) (F0 m pc ls rest) := by
  obtain ⟨sa, hsa⟩ := hC.G.2.2.2.1 _ htx
  have hown := hC.ow
  have hb := hC.b
  have hexec := hC.x
  have hsize : ls.size = c.maxLocals := hl.1.trans hC.ml.symm
  have hat := zth_bef hC zth_e3 zth_g3
  have hgood := fun w hw => List.all_eq_true.mp zth_o3 w hw
  have hcls : Bundle.fit "java/util/NoSuchElementException" = true := by decide
  have hU := hC.G.1.1
  have hN := hC.G.1.2.1
  have hk := hC.ts zth_k3
  have hini := hC.ts zth_i3
  intro T hTh X
  have htr : e.platform.stackTraces = false := (show e.platform.stackTraces = l.stackTraces by rw [X.admits.platform]).trans hlt
  have Y := vx_rebase X (R' := { frames := R.frames, locals := R.locals, cells := 1, slots := 6 }) (Nat.le_refl _) (Nat.le_refl _) hc1 hs1
  obtain ⟨s', hA⟩ : ∃ z, z = (T.setVm s.vm).setFrames (.invoking m args :: below) := ⟨_, rfl⟩
  rw [← hA] at Y
  have hvm : s'.vm = s.vm := by rw [hA]; rfl
  have hhp : s'.heap = H := by rw [hA]; exact hTh
  have hW0 : s.WarmedH s'.vm := by rw [hvm]; exact State.WarmedH.refl s
  have hat' := fun w hw => vx_ot_at hW0 hvm.symm (hgood w (List.mem_cons_of_mem _ (List.mem_cons_of_mem _ hw))) (hat w hw) (a' := args)
  have hk' : (Cond.classLink "StoneGazette" 135 "java/util/NoSuchElementException").before args s' = true := vx_ot_at hW0 hvm.symm (hgood _ List.mem_cons_self) hk
  have hini' : (Cond.initialized "java/util/NoSuchElementException").before args s' = true := vx_ot_at hW0 hvm.symm (hgood _ (List.mem_cons_of_mem _ List.mem_cons_self)) hini
  have hU' : vx_Zq Bundle.tN "UNASSIGNED_STACK" Bundle.steD A s' s'.heap := by rw [hhp]; exact vx_Zq.moved hW0.alike (hU.kept hZ.2.2.2.1)
  have hN' : vx_Zq Bundle.tN "SUPPRESSED_SENTINEL" Bundle.listD A s' s'.heap := by rw [hhp]; exact vx_Zq.moved hW0.alike (hN.kept hZ.2.2.2.1)
  have h := vx_own hat' (vx_isRefq hU'.1) (vx_isRefq hN'.1) hU'.2.word hN'.2.word
  have hown' : s'.vm.findClass "StoneGazette" = some m.cls := by rw [hvm]; exact hown
  have hins : (Cond.instantiable "java/util/NoSuchElementException" 6).before args s' = true := h _ (by simp [zatX])
  obtain ⟨vm₁, cX, kX, hfX, hkX, -, -, X₁, st1⟩ := Y.newCold hexec (own := "StoneGazette") (C := "java/util/NoSuchElementException") (index := 135) (n := 6) hown' hk' hins hini'
    (g := F0 m pc ls rest) rfl (by rw [hb]; exact d0) (Nat.le_refl _) (Nat.le_refl _)
  generalize hT1 : (T.setVm vm₁).pushCell { cls := cX, slots := kX.instanceTypes.map defaultValue, vm := .none } = T1 at X₁ st1
  have hcat : (Value.ref T.heap.size).category = 1 := rfl
  have hcellA : T1.heap[T.heap.size]? = some (freshCell cX kX) := by rw [← hT1]; exact State.heap_pushCell_size _ _
  have d3' : decode c.code (pc + 3) = .ok (.dup, 1) := by rw [hb]; exact d3
  have hstr' : vk_R "StoneGazette" is text sa s' := vk_R.warm hW0 hsa
  obtain ⟨U, hsteps, hrun, hend, hW, hsame, ce, hce, hcc, hcv⟩ := z_ctorX X₁ hexec htr (own := "StoneGazette") (cls := "java/util/NoSuchElementException") (Y := "java/lang/RuntimeException") (names := ["java/lang/Exception"]) (ic := 139) (ix := 13) (rx := zb13) (by decide +kernel) (by decide +kernel) (by decide +kernel) (by decide +kernel) hown' hcls (by decide) (by decide) h (fun x hx => nomatch hx) hfX hkX hcellA (by rw [hhp, hTh]; exact Nat.le_refl _) (msg := .ref sa) rfl
    (g := { method := m, pc := q, locals := ls, stack := .ref sa :: .ref T.heap.size :: .ref T.heap.size :: rest, locked := none }) rfl hsize rfl rfl (rest := rest) rfl
    (by rw [hb]; exact d6) (by rw [hb]; exact d9) (fun x hx => absurd hx (hT x)) (by exact hfr) (by simp only [List.map_cons, List.sum_cons, hcat, List.length_cons, List.length_nil]; show 2 * 0 + _ + _ ≤ _; omega) hlk
  obtain ⟨f1, f2⟩ := vx_frame hsame
  rw [hhp] at f1 f2
  have hWs : s.WarmedH U.vm := State.WarmedH.trans hW0 hW
  have hcl : s.vm.findClass "java/util/NoSuchElementException" = some ce.cls := by
    rw [hcc, ← hfX, hvm]
  have hall : s.sameButNew ({ U with vm := s.vm } : State) locs mc ms := by
    subst hA
    obtain ⟨e1, e2⟩ := hsame
    rw [State.setFrames_setFrames] at e1
    have h2 : (T.setVm s.vm).sameButNew ({ U with vm := s.vm } : State) [] (0 + 1) (0 + 6) := ⟨e1, e2⟩
    have h3 := X.same.trans h2
    rw [List.append_nil] at h3
    exact h3.mono hc hs
  refine ⟨U, ?_, .threw T.heap.size, hrun, hend, Or.inr ⟨T.heap.size, rfl, "java/util/NoSuchElementException", ce, locs, zX_hx hZ hp U hWs.alike f1 (fun q hq => f2 q hq (fun z hz => nomatch hz)), hce, hcv, hcl, hWs, hall, hZ.2.2.2.2⟩⟩
  refine st1 _ ?_
  show Steps p.tables e below (T1.setTop { method := m, pc := pc + 3, locals := ls, stack := .ref T.heap.size :: rest, locked := none }) _
  jvm_step X₁.here [X₁.here.top, hexec, d3', Value.category]
  rcases d4 with ⟨d4, rfl⟩ | ⟨d4, rfl⟩
  · have d4' : decode c.code (pc + 4) = .ok (.ldc is, 2) := by rw [hb]; exact d4
    exact X₁.ldcString hexec (own := "StoneGazette") (text := text) (index := is) (a := sa) hown' hstr'.1 hstr'.2
      (g := { method := m, pc := pc + 4, locals := ls, stack := .ref T.heap.size :: .ref T.heap.size :: rest, locked := none }) rfl d4' _ hsteps
  · have d4' : decode c.code (pc + 4) = .ok (.ldc_w is, 3) := by rw [hb]; exact d4
    exact X₁.ldcStringW hexec (own := "StoneGazette") (text := text) (index := is) (a := sa) hown' hstr'.1 hstr'.2
      (g := { method := m, pc := pc + 4, locals := ls, stack := .ref T.heap.size :: .ref T.heap.size :: rest, locked := none }) rfl d4' _ hsteps
def zXRun (p : Program) (l : Launch) (e : Env) (R : Room) (s : State) (m : MethodId) (args : Array Value) (below : List Frame) (meth : Method) (c : Code) (H : Heap) (locs : List Loc) (cells slots mc ms : Nat) (g : JFrame) (rest : List Value) (D : va_G) (A : Nat → Prop) (post : Option Value → zF → Prop) (px : String → zF → Prop) : Prop :=
  ∃ a : Array Value, vx_Run p l e R s m args below meth c H locs cells slots mc ms g rest (zQ D A post a) (zXC D A px) A
theorem z_xrunV (hC : zC p s m args c cc nL own D cs A) (hZ : zS D A s F H locs) {C : String} {y : MethodName} {bytes : ByteArray} {maxL k mc ms n index ci : Nat} {ret : Option FieldType} {b : Nat} {As st : List Value} {T : u_T} {N : Nat} {fs : List Value} {post : Option Value → zF → Prop} {px : String → zF → Prop} (hM : zXM l D cs A y bytes maxL ret k mc ms (.ref b :: As) F post px)
    (hT : GoodIn ZALL (wsV own index C y (zws y bytes maxL ret))) (hd : y.cls = C ∧ y.cls ≠ "java/lang/invoke/MethodHandle" ∧ y.cls ≠ "java/lang/invoke/VarHandle" ∧ (parseMethodDescriptor y.desc).map (fun d => d.parameters.length) = some n) (hc : vwCl[ci]? = some (C, T, N)) (hb0 : F b = some (.inr (ci, fs)))
    (hn : As.length = n) {lv : List (Nat × Value)} (hl : lv_has ls nL lv) (hst : st = As.reverse ++ .ref b :: rest) (hW : (rest.map fun v => v.category).sum ≤ 8) (hR : k + 1 ≤ R.frames ∧ 8 + (maxL + 11) + 40 * k ≤ R.locals) (hf : cells + mc ≤ R.cells ∧ slots + ms ≤ R.slots) (d : decode cc pc = .ok (.invokevirtual index, 3)) :
    zXRun p l e R s m args below meth c H locs cells slots mc ms (F0 m pc ls st) rest D A post px :=
  ⟨_, vx_runV (g := F0 m pc ls st) (As := As) (rest := rest) hC.1 hM (cwV n (fun w h => hC.ts h) hT rfl rfl rfl hd hR) ⟨zPc_blind, va_recv hC.K (zP1 (hZ.1 b _ hb0)) (ci := ci) (q0 := 0) hc rfl, fun U hU hW => ⟨rfl, hZ.U hC hU hW⟩⟩ rfl hn hl.1 hst (lv_room hW) d hf⟩
theorem z_xcallX {post : Option Value → zF → Prop} {px : String → zF → Prop} {mc ms : Nat} {st0 : List Value} (hr : zXRun p l e R s m args below meth c H locs cells slots mc ms (F0 m pc ls st0) rest D A post px) (hZ : zS D A s F H locs)
    (kx : ∀ (E : String) (ce : Cell) (q9 : Addr) (F1 : zF) (H1 : Heap) (locs1 : List Loc), px E F1 → zS D A s F1 H1 locs1 → H1[q9]? = some ce → ce.vm = .none → s.vm.findClass E = some ce.cls → vx_W p l e R s m args below meth c H1 locs1 (cells + mc) (slots + ms) Q (F0 m pc ls rest) q9)
    (kk : ∀ (v : Option Value) (F1 : zF) (H1 : Heap) (locs1 : List Loc), post v F1 → zS D A s F1 H1 locs1 → W p l e R s m args below meth c H1 locs1 (cells + mc) (slots + ms) Q (F0 m (pc + 3) ls (v.toList ++ rest))) : W p l e R s m args below meth c H locs cells slots Q (F0 m pc ls st0) := by
  obtain ⟨a, hr⟩ := hr
  intro T hT X
  have hS := hZ.2.2
  have key : ∀ {st₀ t T' : State} {L : List Loc} {F1 : zF}, st₀.heap = H → T'.heap = t.heap → (∀ q ∈ L, A q.base) → zT D A F1 t → va_F A st₀ t → zS D A s F1 T'.heap (locs ++ L) := fun {st₀ t T' L F1} h0 e1 hL hb hF => by
    obtain ⟨hz, hk⟩ := hF
    rw [h0] at hz hk
    exact ⟨by rw [e1]; exact hb.1, hb.2, Nat.le_trans hS.1 (by rw [e1]; exact hz), fun q h1 h2 => by rw [e1, hk q (Nat.lt_of_lt_of_le h1 hS.1) h2]; exact hS.2.1 q h1 h2, fun q hq => by
      rcases List.mem_append.mp hq with h | h
      · exact hS.2.2 q h
      · exact hL q h⟩
  rcases hr T hT X with ⟨v, st₀, t, T', L, h0, X', hL, e1, e2, ⟨⟨v1, F1, hv, hp, hb⟩, hF⟩, st⟩ | ⟨q, st₀, t, T', L, E, ce, h0, X', hL, e1, e2, ⟨⟨F1, hp, hb⟩, hF⟩, hce, hcv, hcl, st⟩
  · cases hv
    obtain ⟨t2, a1, b1⟩ := kk v F1 T'.heap (locs ++ L) hp (key h0 e1 hL hb hF) T' rfl X'
    exact ⟨t2, st t2 a1, b1⟩
  · obtain ⟨t2, a1, b1⟩ := kx E ce q F1 T'.heap (locs ++ L) hp (key h0 e1 hL hb hF) (by rw [e1]; exact hce) hcv hcl T' rfl X'
    exact ⟨t2, st.trans a1, b1⟩
theorem z_xout (hZ : zS D A s F H locs) (hT : ∀ x ∈ c.exceptionTable.toList, False) (hlk : meth.locks = false) {post : Option Value → zF → Prop} {px : String → zF → Prop} {E : String} {ce : Cell} {q : Addr} {mc ms : Nat} (hce : H[q]? = some ce) (hcv : ce.vm = .none) (hcl : s.vm.findClass E = some ce.cls) (hp : px E F) (hc : cells ≤ mc) (hs : slots ≤ ms) :
    vx_W p l e R s m args below meth c H locs cells slots (vx_MQ below (zQ D A post) (zXC D A px) args s mc ms A) (F0 m pc ls rest) q :=
  vx_out (fun x hx => absurd hx (hT x)) hlk hce hcv hcl (fun t ht _ => ⟨⟨F, hp, hZ.ff ht⟩, hZ.2.2.F ht⟩) hZ.2.2.2.2 hc hs
theorem z_xcall {post post' : Option Value → zF → Prop} {px px' : String → zF → Prop} {mc ms mc' ms' : Nat} {st0 : List Value} (hr : zXRun p l e R s m args below meth c H locs cells slots mc ms (F0 m pc ls st0) rest D A post px) (hZ : zS D A s F H locs) (hT : ∀ x ∈ c.exceptionTable.toList, False) (hlk : meth.locks = false)
    (hc : cells + mc ≤ mc') (hs : slots + ms ≤ ms') (hpx : ∀ (E : String) (F1 : zF), px E F1 → px' E F1)
    (kk : ∀ (v : Option Value) (F1 : zF) (H1 : Heap) (locs1 : List Loc), post v F1 → zS D A s F1 H1 locs1 → W p l e R s m args below meth c H1 locs1 (cells + mc) (slots + ms) (vx_MQ below (zQ D A post') (zXC D A px') args s mc' ms' A) (F0 m (pc + 3) ls (v.toList ++ rest))) : W p l e R s m args below meth c H locs cells slots (vx_MQ below (zQ D A post') (zXC D A px') args s mc' ms' A) (F0 m pc ls st0) :=
  z_xcallX hr hZ (fun E ce q9 F1 H1 locs1 hp hZ1 hce hcv hcl => z_xout hZ1 hT hlk hce hcv hcl (hpx E F1 hp) hc hs) kk
theorem z_xcalli {post : Int → zF → Prop} {post' : Option Value → zF → Prop} {px px' : String → zF → Prop} {mc ms mc' ms' : Nat} {st0 : List Value} (hr : zXRun p l e R s m args below meth c H locs cells slots mc ms (F0 m pc ls st0) rest D A (pI post) px) (hZ : zS D A s F H locs) (hT : ∀ x ∈ c.exceptionTable.toList, False) (hlk : meth.locks = false)
    (hc : cells + mc ≤ mc') (hs : slots + ms ≤ ms') (hpx : ∀ (E : String) (F1 : zF), px E F1 → px' E F1)
    (kk : ∀ (r : Int) (F1 : zF) (H1 : Heap) (locs1 : List Loc), post r F1 → zS D A s F1 H1 locs1 → W p l e R s m args below meth c H1 locs1 (cells + mc) (slots + ms) (vx_MQ below (zQ D A post') (zXC D A px') args s mc' ms' A) (F0 m (pc + 3) ls (.int (iI r) :: rest))) : W p l e R s m args below meth c H locs cells slots (vx_MQ below (zQ D A post') (zXC D A px') args s mc' ms' A) (F0 m pc ls st0) :=
  z_xcall hr hZ hT hlk hc hs hpx (fun v F1 H1 locs1 hp h => by obtain ⟨r, rfl, hp⟩ := hp; exact kk r F1 H1 locs1 hp h)
theorem z_xcallr {post : Nat → zF → Prop} {post' : Option Value → zF → Prop} {px px' : String → zF → Prop} {mc ms mc' ms' : Nat} {st0 : List Value} (hr : zXRun p l e R s m args below meth c H locs cells slots mc ms (F0 m pc ls st0) rest D A (pR post) px) (hZ : zS D A s F H locs) (hT : ∀ x ∈ c.exceptionTable.toList, False) (hlk : meth.locks = false)
    (hc : cells + mc ≤ mc') (hs : slots + ms ≤ ms') (hpx : ∀ (E : String) (F1 : zF), px E F1 → px' E F1)
    (kk : ∀ (r : Nat) (F1 : zF) (H1 : Heap) (locs1 : List Loc), post r F1 → zS D A s F1 H1 locs1 → W p l e R s m args below meth c H1 locs1 (cells + mc) (slots + ms) (vx_MQ below (zQ D A post') (zXC D A px') args s mc' ms' A) (F0 m (pc + 3) ls (.ref r :: rest))) : W p l e R s m args below meth c H locs cells slots (vx_MQ below (zQ D A post') (zXC D A px') args s mc' ms' A) (F0 m pc ls st0) :=
  z_xcall hr hZ hT hlk hc hs hpx (fun v F1 H1 locs1 hp h => by obtain ⟨r, rfl, hp⟩ := hp; exact kk r F1 H1 locs1 hp h)
theorem z_xcallv {post : zF → Prop} {post' : Option Value → zF → Prop} {px px' : String → zF → Prop} {mc ms mc' ms' : Nat} {st0 : List Value} (hr : zXRun p l e R s m args below meth c H locs cells slots mc ms (F0 m pc ls st0) rest D A (pV post) px) (hZ : zS D A s F H locs) (hT : ∀ x ∈ c.exceptionTable.toList, False) (hlk : meth.locks = false)
    (hc : cells + mc ≤ mc') (hs : slots + ms ≤ ms') (hpx : ∀ (E : String) (F1 : zF), px E F1 → px' E F1)
    (kk : ∀ (F1 : zF) (H1 : Heap) (locs1 : List Loc), post F1 → zS D A s F1 H1 locs1 → W p l e R s m args below meth c H1 locs1 (cells + mc) (slots + ms) (vx_MQ below (zQ D A post') (zXC D A px') args s mc' ms' A) (F0 m (pc + 3) ls rest)) : W p l e R s m args below meth c H locs cells slots (vx_MQ below (zQ D A post') (zXC D A px') args s mc' ms' A) (F0 m pc ls st0) :=
  z_xcall hr hZ hT hlk hc hs hpx (fun v F1 H1 locs1 hp h => by obtain ⟨rfl, hp⟩ := hp; exact kk F1 H1 locs1 hp h)
end ZX
