/-! The law: two worlds side by side, the frame rule for a call that reaches one of them. -/
section FR
variable {p : Program} {l : Launch} {e : Env} {R : Room} {s : State} {m : MethodId} {args : Array Value} {below : List Frame} {meth : Method} {c : Code} {H : Heap} {locs : List Loc} {cells slots : Nat} {Q : State → Prop}
variable {cc : ByteArray} {pc nL : Nat} {ls : Array Slot} {rest : List Value} {own : String} {D : va_G} {cs : Nat → ClassId} {A : Nat → Prop} {F : zF} {a : Nat}
theorem zG.narrow {A B : Nat → Prop} {U : State} (h : zG cs A U H) (hAB : ∀ q, B q → A q) : zG cs B U H := by
  obtain ⟨⟨a1, a2, a0⟩, a3, a4, a6, a7, a8, a9, b1, b2, b3⟩ := h
  exact ⟨⟨a1.narrow hAB, a2.narrow hAB, a0.narrow hAB⟩, a3, a4, a6, fun q h => (a7 q h).narrow hAB, fun q h => (a8 q h).narrow hAB, fun q h => (a9 q h).narrow hAB, fun q h => (b1 q h).narrow hAB, b2, b3⟩
def zun (F G : zF) : zF := fun q => match F q with
  | some e => some e
  | none => G q
def zdj (F G : zF) : Prop := ∀ q : Nat, F q = none ∨ G q = none
def z1 (a : Nat) (e : va_E) : zF := fun q => if q = a then some e else none
theorem z1_s {a : Nat} {e : va_E} : z1 a e a = some e := if_pos rfl
theorem z1_n {a q : Nat} {e : va_E} (h : q ≠ a) : z1 a e q = none := if_neg h
theorem zun_l {F G : zF} {q : Nat} {e : va_E} (h : F q = some e) : zun F G q = some e := by unfold zun; rw [h]
theorem zun_r {F G : zF} {q : Nat} (h : F q = none) : zun F G q = G q := by unfold zun; rw [h]
theorem zun_c {F G : zF} {q : Nat} {e : va_E} (h : zun F G q = some e) : F q = some e ∨ G q = some e := by
  cases hF : F q with
  | some e2 => rw [zun_l hF] at h; exact Or.inl h
  | none => rw [zun_r hF] at h; exact Or.inr h
theorem zdj.symm {F G : zF} (h : zdj F G) : zdj G F := fun q => (h q).symm
theorem zdj1 {F : zF} {a : Nat} {e : va_E} (h : F a = none) : zdj F (z1 a e) := fun q => by
  by_cases c : q = a
  · rw [c]; exact Or.inl h
  · exact Or.inr (z1_n c)
theorem zdj1_i {F : zF} {a : Nat} {e : va_E} (h : zdj F (z1 a e)) : F a = none := (h a).elim id (fun z => by rw [z1_s] at z; cases z)
theorem zdj_un {F G X : zF} (h1 : zdj F X) (h2 : zdj G X) : zdj (zun F G) X := fun q => by
  rcases h1 q with z | z
  · rw [zun_r z]; exact h2 q
  · exact Or.inr z
theorem zdj_ul {F G X : zF} (h : zdj (zun F G) X) : zdj F X := fun q => by
  rcases h q with z | z
  · cases hF : F q with
    | none => exact Or.inl rfl
    | some e => rw [zun_l hF] at z; cases z
  · exact Or.inr z
theorem zdj_ur {F G X : zF} (h : zdj (zun F G) X) (hd : zdj F G) : zdj G X := fun q => by
  rcases h q with z | z
  · rcases hd q with y | y
    · rw [zun_r y] at z; exact Or.inl z
    · exact Or.inl y
  · exact Or.inr z
theorem zun_up {F : zF} {a : Nat} {e e1 : va_E} (h : F a = none) : zup (zun F (z1 a e)) a e1 = zun F (z1 a e1) := by
  funext q
  by_cases c : q = a
  · rw [c, zup_s, zun_r h, z1_s]
  · rw [zup_n c]
    cases hF : F q with
    | some e2 => rw [zun_l hF, zun_l hF]
    | none => rw [zun_r hF, zun_r hF, z1_n c, z1_n c]
theorem zS.un {F G : zF} (h1 : zS D A s F H locs) (h2 : zS D A s G H locs) : zS D A s (zun F G) H locs :=
  ⟨fun a e h => (zun_c h).elim (h1.1 a e) (h2.1 a e), fun a e h => (zun_c h).elim (h1.2.1 a e) (h2.2.1 a e), h1.2.2⟩
theorem zS.sub {F G : zF} (h : zS D A s F H locs) (hG : ∀ q e, G q = some e → F q = some e) : zS D A s G H locs := ⟨fun a e z => h.1 a e (hG a e z), fun a e z => h.2.1 a e (hG a e z), h.2.2⟩
theorem zS.ul {F G : zF} (h : zS D A s (zun F G) H locs) : zS D A s F H locs := h.sub (fun _ _ z => zun_l z)
theorem zS.ur {F G : zF} (h : zS D A s (zun F G) H locs) (hd : zdj F G) : zS D A s G H locs := h.sub (fun q e z => by
  rcases hd q with y | y
  · rw [zun_r y]; exact z
  · rw [y] at z; cases z)
/-- what a call over the world F may write -/
def zfA (F : zF) (H : Heap) : Nat → Prop := fun q => F q ≠ none ∨ H.size ≤ q
theorem zfA_A (hC : zC p s m args c cc nL own D cs A) (hZ : zS D A s F H locs) : ∀ q, zfA F H q → A q := fun q hq => hq.elim (fun z => by
  cases hF : F q with
  | none => exact absurd hF z
  | some e => exact hZ.2.1 q e hF) (fun z => hC.aa (Nat.le_trans hZ.2.2.1 z))
theorem zfr_U {U : State} (hC : zC p s m args c cc nL own D cs A) (hZ : zS D A s F H locs) (hU : U.heap = H) (hW : s.WarmedH U.vm) : zU D cs (zfA F H) F U :=
  ⟨by rw [hU]; exact hZ.1, fun a e h => Or.inl (by rw [h]; exact fun z => by cases z), va_K.moved hW.alike hC.K, fun q hq => Or.inr (by rw [← hU]; exact hq), by
    rw [hU]
    exact ((hC.G.kept (H1 := H) hZ.2.2.2.1).warm hW).narrow (zfA_A hC hZ)⟩
theorem z_frV (hC : zC p s m args c cc nL own D cs A) (hZ : zS D A s F H locs) {C : String} {y : MethodName} {bytes : ByteArray} {maxL k mc ms n index ci : Nat} {ret : Option FieldType} {b : Nat} {As st : List Value} {T : u_T} {N : Nat} {fs : List Value} {post : Option Value → zF → Prop} (hM : zM l D cs (zfA F H) y bytes maxL ret k mc ms (.ref b :: As) F post)
    (hT : GoodIn ZALL (wsV own index C y (zws y bytes maxL ret))) (hd : y.cls = C ∧ y.cls ≠ "java/lang/invoke/MethodHandle" ∧ y.cls ≠ "java/lang/invoke/VarHandle" ∧ (parseMethodDescriptor y.desc).map (fun d => d.parameters.length) = some n) (hc : vwCl[ci]? = some (C, T, N)) (hb0 : F b = some (.inr (ci, fs)))
    (hn : As.length = n) {lv : List (Nat × Value)} (hl : lv_has ls nL lv) (hst : st = As.reverse ++ .ref b :: rest) (hW : (rest.map fun v => v.category).sum ≤ 8) (hR : k + 1 ≤ R.frames ∧ 8 + (maxL + 11) + 40 * k ≤ R.locals) (hf : cells + mc ≤ R.cells ∧ slots + ms ≤ R.slots) (d : decode cc pc = .ok (.invokevirtual index, 3)) :
    zRun p l e R s m args below meth c H locs cells slots mc ms (F0 m pc ls st) rest D (zfA F H) post :=
  ⟨_, va_runV (g := F0 m pc ls st) (As := As) (rest := rest) hC.1 hM (cwV n (fun w h => hC.ts h) hT rfl rfl rfl hd hR) ⟨zPc_blind, va_recv hC.K (zP1 (hZ.1 b _ hb0)) (ci := ci) (q0 := 0) hc rfl, fun U hU hW => ⟨rfl, zfr_U hC hZ hU hW⟩⟩ rfl hn hl.1 hst (lv_room hW) d hf⟩
theorem z_frI (hC : zC p s m args c cc nL own D cs A) (hZ : zS D A s F H locs) {y : MethodName} {bytes : ByteArray} {maxL k mc ms n index : Nat} {b : Nat} {As st : List Value} {post : Option Value → zF → Prop} (hM : zM l D cs (zfA F H) y bytes maxL none k mc ms (.ref b :: As) F post)
    (hG : Cond.code y bytes maxL none ∈ ZALL) (hini : Cond.initialized y.cls ∈ ZALL) (hlk : Cond.methodLink own index y ∈ ZALL) (hin : Cond.instanceMethod y ∈ ZALL) (hy1 : y.name = "<init>") (hd : y.cls ≠ "java/lang/invoke/MethodHandle" ∧ y.cls ≠ "java/lang/invoke/VarHandle" ∧ (parseMethodDescriptor y.desc).map (fun d => d.parameters.length) = some n)
    (hn : As.length = n) {lv : List (Nat × Value)} (hl : lv_has ls nL lv) (hst : st = As.reverse ++ .ref b :: rest) (hW : (rest.map fun v => v.category).sum ≤ 8) (hR : k + 1 ≤ R.frames ∧ 8 + (maxL + 11) + 40 * k ≤ R.locals) (hf : cells + mc ≤ R.cells ∧ slots + ms ≤ R.slots) (d : decode cc pc = .ok (.invokespecial index, 3)) :
    zRun p l e R s m args below meth c H locs cells slots mc ms (F0 m pc ls st) rest D (zfA F H) post :=
  ⟨_, va_runI (g := F0 m pc ls st) (As := As) (rest := rest) hC.1 hM (cwI n (fun w h => hC.ts h) (zgood hG) rfl rfl rfl (hC.ts hini) (hC.ts hlk) (hC.ts hin) hy1 hd hR) ⟨zPc_blind, fun U hU hW => ⟨rfl, zfr_U hC hZ hU hW⟩⟩ rfl hn hl.1 hst (lv_room hW) d hf⟩
theorem z_frX (hC : zC p s m args c cc nL own D cs A) (hZ : zS D A s F H locs) {C : String} {y : MethodName} {bytes : ByteArray} {maxL k mc ms n index ci : Nat} {ret : Option FieldType} {b : Nat} {As st : List Value} {T : u_T} {N : Nat} {fs : List Value} {post : Option Value → zF → Prop} {px : String → zF → Prop} (hM : zXM l D cs (zfA F H) y bytes maxL ret k mc ms (.ref b :: As) F post px)
    (hT : GoodIn ZALL (wsV own index C y (zws y bytes maxL ret))) (hd : y.cls = C ∧ y.cls ≠ "java/lang/invoke/MethodHandle" ∧ y.cls ≠ "java/lang/invoke/VarHandle" ∧ (parseMethodDescriptor y.desc).map (fun d => d.parameters.length) = some n) (hc : vwCl[ci]? = some (C, T, N)) (hb0 : F b = some (.inr (ci, fs)))
    (hn : As.length = n) {lv : List (Nat × Value)} (hl : lv_has ls nL lv) (hst : st = As.reverse ++ .ref b :: rest) (hW : (rest.map fun v => v.category).sum ≤ 8) (hR : k + 1 ≤ R.frames ∧ 8 + (maxL + 11) + 40 * k ≤ R.locals) (hf : cells + mc ≤ R.cells ∧ slots + ms ≤ R.slots) (d : decode cc pc = .ok (.invokevirtual index, 3)) :
    zXRun p l e R s m args below meth c H locs cells slots mc ms (F0 m pc ls st) rest D (zfA F H) post px :=
  ⟨_, vx_runV (g := F0 m pc ls st) (As := As) (rest := rest) hC.1 hM (cwV n (fun w h => hC.ts h) hT rfl rfl rfl hd hR) ⟨zPc_blind, va_recv hC.K (zP1 (hZ.1 b _ hb0)) (ci := ci) (q0 := 0) hc rfl, fun U hU hW => ⟨rfl, zfr_U hC hZ hU hW⟩⟩ rfl hn hl.1 hst (lv_room hW) d hf⟩
/-- what stays of the rest -/
theorem zfr_key {st₀ t T' : State} {L : List Loc} {F1 : zF} (hC : zC p s m args c cc nL own D cs A) (hZ : zS D A s F H locs) (h0 : st₀.heap = H) (e1 : T'.heap = t.heap) (hL : ∀ q ∈ L, zfA F H q.base) (hb : zT D (zfA F H) F1 t) (hF : va_F (zfA F H) st₀ t) :
    zS D A s F1 T'.heap (locs ++ L) ∧ ∀ G : zF, zdj F G → zS D A s G H locs → zS D A s G T'.heap (locs ++ L) ∧ zdj F1 G := by
  obtain ⟨hz, hk⟩ := hF
  rw [h0] at hz hk
  have hS := hZ.2.2
  have hAA := zfA_A hC hZ
  have hS1 : va_S A s.heap T'.heap (locs ++ L) := ⟨Nat.le_trans hS.1 (by rw [e1]; exact hz), fun q h1 h2 => by rw [e1, hk q (Nat.lt_of_lt_of_le h1 hS.1) (fun z => h2 (hAA q z))]; exact hS.2.1 q h1 h2, fun q hq => by
      rcases List.mem_append.mp hq with h | h
      · exact hS.2.2 q h
      · exact hAA _ (hL q h)⟩
  refine ⟨⟨by rw [e1]; exact hb.1, fun a e h => hAA a (hb.2 a e h), hS1⟩, fun G hd hG => ⟨⟨fun a e h => ?_, hG.2.1, hS1⟩, fun q => ?_⟩⟩
  · have hlt := (hG.1 a e h).lt
    refine (hG.1 a e h).kept ?_
    rw [e1]
    refine hk a hlt (fun z => ?_)
    rcases z with z | z
    · rcases hd a with y | y
      · exact z y
      · rw [h] at y; cases y
    · exact absurd hlt (Nat.not_lt.mpr z)
  · cases hq : G q with
    | none => exact Or.inr rfl
    | some e =>
      left
      have hlt := (hG.1 q e hq).lt
      cases hF1 : F1 q with
      | none => rfl
      | some e2 =>
        exfalso
        rcases hb.2 q e2 hF1 with z | z
        · rcases hd q with y | y
          · exact z y
          · rw [hq] at y; cases y
        · exact absurd hlt (Nat.not_lt.mpr z)
theorem z_fcall (hC : zC p s m args c cc nL own D cs A) {post : Option Value → zF → Prop} {mc ms : Nat} {st0 : List Value} (hr : zRun p l e R s m args below meth c H locs cells slots mc ms (F0 m pc ls st0) rest D (zfA F H) post) (hZ : zS D A s F H locs)
    (kk : ∀ (v : Option Value) (F1 : zF) (H1 : Heap) (locs1 : List Loc), post v F1 → zS D A s F1 H1 locs1 → (∀ G : zF, zdj F G → zS D A s G H locs → zS D A s G H1 locs1 ∧ zdj F1 G) → W p l e R s m args below meth c H1 locs1 (cells + mc) (slots + ms) Q (F0 m (pc + 3) ls (v.toList ++ rest))) : W p l e R s m args below meth c H locs cells slots Q (F0 m pc ls st0) := by
  obtain ⟨a, hr⟩ := hr
  intro T hT X
  obtain ⟨v, st₀, t, T', L, h0, X', hL, e1, e2, ⟨⟨v1, F1, hv, hp, hb⟩, hF⟩, st⟩ := hr T hT X
  cases hv
  obtain ⟨k1, k2⟩ := zfr_key hC hZ h0 e1 hL hb hF
  obtain ⟨t2, a1, b1⟩ := kk v F1 T'.heap (locs ++ L) hp k1 k2 T' rfl X'
  exact ⟨t2, st t2 a1, b1⟩
theorem z_fcallX (hC : zC p s m args c cc nL own D cs A) {post : Option Value → zF → Prop} {px : String → zF → Prop} {mc ms : Nat} {st0 : List Value} (hr : zXRun p l e R s m args below meth c H locs cells slots mc ms (F0 m pc ls st0) rest D (zfA F H) post px) (hZ : zS D A s F H locs)
    (kx : ∀ (E : String) (ce : Cell) (q9 : Addr) (F1 : zF) (H1 : Heap) (locs1 : List Loc), px E F1 → zS D A s F1 H1 locs1 → (∀ G : zF, zdj F G → zS D A s G H locs → zS D A s G H1 locs1 ∧ zdj F1 G) → H1[q9]? = some ce → ce.vm = .none → s.vm.findClass E = some ce.cls → vx_W p l e R s m args below meth c H1 locs1 (cells + mc) (slots + ms) Q (F0 m pc ls rest) q9)
    (kk : ∀ (v : Option Value) (F1 : zF) (H1 : Heap) (locs1 : List Loc), post v F1 → zS D A s F1 H1 locs1 → (∀ G : zF, zdj F G → zS D A s G H locs → zS D A s G H1 locs1 ∧ zdj F1 G) → W p l e R s m args below meth c H1 locs1 (cells + mc) (slots + ms) Q (F0 m (pc + 3) ls (v.toList ++ rest))) : W p l e R s m args below meth c H locs cells slots Q (F0 m pc ls st0) := by
  obtain ⟨a, hr⟩ := hr
  intro T hT X
  rcases hr T hT X with ⟨v, st₀, t, T', L, h0, X', hL, e1, e2, ⟨⟨v1, F1, hv, hp, hb⟩, hF⟩, st⟩ | ⟨q, st₀, t, T', L, E, ce, h0, X', hL, e1, e2, ⟨⟨F1, hp, hb⟩, hF⟩, hce, hcv, hcl, st⟩
  · cases hv
    obtain ⟨k1, k2⟩ := zfr_key hC hZ h0 e1 hL hb hF
    obtain ⟨t2, a1, b1⟩ := kk v F1 T'.heap (locs ++ L) hp k1 k2 T' rfl X'
    exact ⟨t2, st t2 a1, b1⟩
  · obtain ⟨k1, k2⟩ := zfr_key hC hZ h0 e1 hL hb hF
    obtain ⟨t2, a1, b1⟩ := kx E ce q F1 T'.heap (locs ++ L) hp k1 k2 (by rw [e1]; exact hce) hcv hcl T' rfl X'
    exact ⟨t2, st.trans a1, b1⟩
/-! the law's own arrays -/
def zLa (cs : Nat → ClassId) (f : Nat → Int64) : va_E := .inl (cs 6, 1, .inr (.inl f))
def zDa (cs : Nat → ClassId) (f : Nat → UInt64) : va_E := .inl (cs 7, 1, .inr (.inr (.inr (.inl f))))
theorem z_last (hC : zC p s m args c cc nL own D cs A) (hZ : zS D A s F H locs) {f : Nat → Int64} {x : Int64} (ha : F a = some (zLa cs f)) (d : decode cc pc = .ok (.lastore, 1))
    (kk : ∀ (H1 : Heap) (locs1 : List Loc), zS D A s (zup F a (zLa cs (fun _ => x))) H1 locs1 → W p l e R s m args below meth c H1 locs1 cells slots Q (F0 m (pc + 1) ls rest)) : W p l e R s m args below meth c H locs cells slots Q (F0 m pc ls (.long x :: .int (iI 0) :: .ref a :: rest)) := by
  have hin : vp_in (iI 0) 1 := iI_in (by decide) (by decide)
  refine W.last hC.x hC.b (hZ.1 a _ ha) ((hC.K.2 6 _ rfl).1 1 (fun j => .long (f j))) (fun q => by cases q) (by show ¬ (iI 0 < 0 ∨ (arrV _ _ _).slots.size ≤ _); rw [arrV_size]; exact hin) rfl rfl d fun H1 e z oq => ?_
  refine kk H1 _ (hZ.put (hZ.2.1 a _ ha) ?_ z oq)
  show H1[a]? = some (vp_cell _ _)
  rw [e]
  refine congrArg some ?_
  show Cell.setSlot _ _ _ = _
  rfl
end FR
