abbrev zF : Type := Nat → Option va_E
def zw (D : va_G) (F : zF) (H : Heap) : Prop := ∀ (a : Nat) (e : va_E), F a = some e → va_at D vwCl (a, e) H
def zup (F : zF) (a : Nat) (e : va_E) : zF := fun q => if q = a then some e else F q
theorem zup_s {F : zF} {a : Nat} {e : va_E} : zup F a e a = some e := if_pos rfl
theorem zup_n {F : zF} {a b : Nat} {e : va_E} (h : b ≠ a) : zup F a e b = F b := if_neg h
theorem zup_k {F : zF} {a b : Nat} {e : va_E} {x : Option va_E} (h : b ≠ a) (hb : F b = x) : zup F a e b = x := (zup_n h).trans hb
theorem zup_up {F : zF} {a : Nat} {e e' : va_E} : zup (zup F a e) a e' = zup F a e' := by
  funext q
  by_cases h : q = a
  · subst h; rw [zup_s, zup_s]
  · rw [zup_n h, zup_n h, zup_n h]
theorem zP1 {D : va_G} {cl : List vw_C} {q : Nat × va_E} {H : Heap} (h : va_at D cl q H) : va_P D cl [q] H := fun k x hk => by
  cases k with
  | zero => cases hk; exact h
  | succ k => cases hk
theorem zw.put {D : va_G} {F : zF} {H H1 : Heap} {a : Nat} {e : va_E} (hz : zw D F H) (h1 : va_at D vwCl (a, e) H1) (oq : ∀ q : Nat, q ≠ a → H1[q]? = H[q]?) : zw D (zup F a e) H1 := by
  intro b e' hb
  by_cases h : b = a
  · subst h
    rw [zup_s] at hb
    cases hb
    exact h1
  · rw [zup_n h] at hb
    exact (hz b e' hb).kept (oq b h)
theorem zw.new {D : va_G} {F : zF} {H H1 : Heap} {e : va_E} (hz : zw D F H) (h1 : va_at D vwCl (H.size, e) H1) (o1 : ∀ q : Nat, q < H.size → H1[q]? = H[q]?) : zw D (zup F H.size e) H1 := by
  intro b e' hb
  by_cases h : b = H.size
  · subst h
    rw [zup_s] at hb
    cases hb
    exact h1
  · rw [zup_n h] at hb
    exact (hz b e' hb).kept (o1 b (hz b e' hb).lt)
theorem zw.lt {D : va_G} {F : zF} {H : Heap} {a : Nat} {e : va_E} (hz : zw D F H) (h : F a = some e) : a < H.size := (hz a e h).lt
theorem zw.none {D : va_G} {F : zF} {H : Heap} (hz : zw D F H) : F H.size = none := by
  cases h : F H.size with
  | none => rfl
  | some e => exact absurd (hz.lt h) (Nat.lt_irrefl _)
theorem zF_ne {F : zF} {a b : Nat} {e : va_E} (h : F a = some e) (hn : F b = none) : a ≠ b := by
  intro q; subst q; rw [hn] at h; cases h
/-- the array classes by their places: byte 0, char 1, int 2, boolean 3, Word 4, Object 5, long 6, String 7 -/
def ztys (cs : Nat → ClassId) : List (ClassId × FieldType) := [(cs 0, .byte), (cs 1, .char), (cs 2, .int), (cs 3, .boolean), (cs 4, .object "StoneGazette$Word"), (cs 5, .object "java/lang/Object"), (cs 6, .long), (cs 7, .object "java/lang/String")]
def zC (p : Program) (s : State) (m : MethodId) (args : Array Value) (c : Code) (cc : ByteArray) (nL : Nat) (own : String) (D : va_G) (cs : Nat → ClassId) (A : Nat → Prop) : Prop :=
  CallFix p m c cc nL s args ZALL own ∧ va_K D vwCl (ztys cs) s ∧ (∀ q, s.heap.size ≤ q → A q) ∧ zG cs A s s.heap
def zS (D : va_G) (A : Nat → Prop) (s : State) (F : zF) (H : Heap) (locs : List Loc) : Prop := zw D F H ∧ (∀ (a : Nat) (e : va_E), F a = some e → A a) ∧ va_S A s.heap H locs
/-- a contract's start -/
def zU (D : va_G) (cs : Nat → ClassId) (A : Nat → Prop) (F : zF) (U : State) : Prop := zw D F U.heap ∧ (∀ (a : Nat) (e : va_E), F a = some e → A a) ∧ va_K D vwCl (ztys cs) U ∧ (∀ q, U.heap.size ≤ q → A q) ∧ zG cs A U U.heap
/-- a contract's end -/
def zT (D : va_G) (A : Nat → Prop) (F : zF) (t : State) : Prop := zw D F t.heap ∧ ∀ (a : Nat) (e : va_E), F a = some e → A a
/-- the room of a method k calls above its deepest callee -/
def zR (k mc ms : Nat) : Room := { frames := k, cells := mc, slots := ms, locals := 40 * k }
def zPc (D : va_G) (cs : Nat → ClassId) (A : Nat → Prop) (F : zF) (av : List Value) : Array Value → State → Prop := va_Pc av (zU D cs A F)
theorem zPc_blind {D : va_G} {cs : Nat → ClassId} {A : Nat → Prop} {F : zF} {av : List Value} : FrameBlind (zPc D cs A F av) := fun a U g mk ⟨h0, h1, h2, h3, h4, h5⟩ => ⟨h0, h1, h2, va_K.moved (u := U) (U := U.calling g mk a) (Vm.Alike.refl U.vm) h3, h4, zG.same (u := U) (U := U.calling g mk a) rfl h5⟩
/-- a method's end: the value v, the world behind it; post speaks of both -/
def zQ (D : va_G) (A : Nat → Prop) (post : Option Value → zF → Prop) : Array Value → State → Outcome → State → Prop := fun _ st o t => (∃ (v : Option Value) (F : zF), o = .returned v ∧ post v F ∧ zT D A F t) ∧ va_F A st t
def pI (post : Int → zF → Prop) : Option Value → zF → Prop := fun v F => ∃ r : Int, v = some (.int (iI r)) ∧ post r F
def pV (post : zF → Prop) : Option Value → zF → Prop := fun v F => v = none ∧ post F
def pR (post : Nat → zF → Prop) : Option Value → zF → Prop := fun v F => ∃ r : Nat, v = some (.ref r) ∧ post r F
def pQ (post : Option Nat → zF → Prop) : Option Value → zF → Prop := fun v F => ∃ r : Option Nat, v = some (va_rf r) ∧ post r F
def pF (post : UInt32 → zF → Prop) : Option Value → zF → Prop := fun v F => ∃ r : UInt32, v = some (.float r) ∧ post r F
def pD (post : UInt64 → zF → Prop) : Option Value → zF → Prop := fun v F => ∃ r : UInt64, v = some (.double r) ∧ post r F
abbrev zM (l : Launch) (D : va_G) (cs : Nat → ClassId) (A : Nat → Prop) (y : MethodName) (b : ByteArray) (n : Nat) (r : Option FieldType) (k mc ms : Nat) (av : List Value) (F : zF) (post : Option Value → zF → Prop) : Prop :=
  Met l y (zws y b n r) (zR k mc ms) (zPc D cs A F av) (zQ D A post) mc ms A
section ZB
variable {p : Program} {l : Launch} {e : Env} {R : Room} {s : State} {m : MethodId} {args : Array Value} {below : List Frame} {meth : Method} {c : Code} {H : Heap} {locs : List Loc} {cells slots : Nat} {Q : State → Prop}
variable {cc : ByteArray} {pc nL : Nat} {ls : Array Slot} {rest : List Value} {own : String} {D : va_G} {cs : Nat → ClassId} {A : Nat → Prop} {F : zF} {a : Nat}
theorem zC.x (h : zC p s m args c cc nL own D cs A) : p.tables.exec = Jvm.exec := h.1.1
theorem zC.b (h : zC p s m args c cc nL own D cs A) : c.code = cc := h.1.2.1
theorem zC.ml (h : zC p s m args c cc nL own D cs A) : c.maxLocals = nL := h.1.2.2.1
theorem zC.ow (h : zC p s m args c cc nL own D cs A) : s.vm.findClass own = some m.cls := h.1.2.2.2.1
theorem zC.ts (h : zC p s m args c cc nL own D cs A) {w : Cond} (hw : w ∈ ZALL) : w.before args s = true := h.1.2.2.2.2 w hw
theorem zC.K (h : zC p s m args c cc nL own D cs A) : va_K D vwCl (ztys cs) s := h.2.1
theorem zC.aa (h : zC p s m args c cc nL own D cs A) {q : Nat} (hq : s.heap.size ≤ q) : A q := h.2.2.1 q hq
theorem zC.G (h : zC p s m args c cc nL own D cs A) : zG cs A s s.heap := h.2.2.2
/-- the beginning of a method's walk -/
theorem zM_of {y : MethodName} {r : Option FieldType} {k mc ms : Nat} {av : List Value} {post : Option Value → zF → Prop} (hy : plainName y.cls = true) (hcl : y.cls = own) (hn : (lg_sl av).length ≤ nL)
    (body : ∀ (p : Program) (e : Env) (s : State) (m : MethodId) (below : List Frame) (meth : Method) (c : Code), zC p s m av.toArray c cc nL own D cs A → meth.sig.returnType = r → meth.locks = false → meth.name = y.name → zS D A s F s.heap [] →
      ∀ ls : Array Slot, lv_has ls nL (lv_args 0 av) → W p l e (zR k mc ms) s m av.toArray below meth c s.heap [] 0 0 (MQ below (zQ D A post) av.toArray s mc ms A) (F0 m 0 ls [])) : zM l D cs A y cc nL r k mc ms av F post := by
  refine Met.ofW (cc := cc) (maxL := nL) (ret := r) hy rfl ?_
  intro p e s m args below meth c s₁ B hml hv
  obtain ⟨rfl, h1, h2, h3, h4, h5⟩ := hv
  have hts := atoms_spec (ws := zws y cc nL r) B.pre
  have hown : s.vm.findClass y.cls = some m.cls := findClass_of_methodNamed B.named
  have hl := lv_entry av (n := nL) hn
  rw [lg_entry_eq]
  exact body p e s m below meth c ⟨⟨B.exec, B.bytes, hml, by rw [← hcl]; exact hown, fun w hw => hts w (List.mem_cons_of_mem _ hw)⟩, h3, h4, h5⟩ B.returns B.notSynchronized (name_of_methodNamed B.named B.method).1 ⟨h1, h2, va_S.rf⟩ _ hl
theorem z_get (hC : zC p s m args c cc nL own D cs A) (hZ : zS D A s F H locs) {C ref : String} {T : u_T} {N ci index k : Nat} {fs : List Value} {v : Value} (hin : ∀ w ∈ u_ws C T N, w ∈ ZALL) (hc : vwCl[ci]? = some (C, T, N)) (hk : k < N) (hl : Cond.fieldLink own index ref (T k).2.1 (T k).2.2.1 ∈ ZALL) (hr : (T k).1 = ref) (ha : F a = some (.inr (ci, fs))) (hv : fs[k]? = some v) (d : decode cc pc = .ok (.getfield index, 3))
    (kk : W p l e R s m args below meth c H locs cells slots Q (F0 m (pc + 3) ls (v :: rest))) : W p l e R s m args below meth c H locs cells slots Q (F0 m pc ls (.ref a :: rest)) :=
  va_get (D := D) (cl := vwCl) (tys := ztys cs) (ws := [(a, .inr (ci, fs))]) hC.x hC.b (fun w h => hC.ts h) hin hC.ow hC.K (zP1 (hZ.1 a _ ha)) 0 rfl hc k hk (hC.ts hl) (fun x h => by rw [← hr]; exact h) hv d kk
theorem z_getN (hC : zC p s m args c cc nL own D cs A) (hZ : zS D A s F H locs) {C ref host : String} {T : u_T} {N ci index k : Nat} {fs : List Value} {v : Value} (hin : ∀ w ∈ u_ws C T N, w ∈ ZALL) (hc : vwCl[ci]? = some (C, T, N)) (hk : k < N) (hl : Cond.fieldLinkNest own index ref (T k).2.1 (T k).2.2.1 host ∈ ZNW) (hr : (T k).1 = ref) (ha : F a = some (.inr (ci, fs))) (hv : fs[k]? = some v) (d : decode cc pc = .ok (.getfield index, 3))
    (kk : W p l e R s m args below meth c H locs cells slots Q (F0 m (pc + 3) ls (v :: rest))) : W p l e R s m args below meth c H locs cells slots Q (F0 m pc ls (.ref a :: rest)) :=
  va_getN (D := D) (cl := vwCl) (tys := ztys cs) (ws := [(a, .inr (ci, fs))]) hC.x hC.b (fun w h => hC.ts h) hin hC.ow hC.K (zP1 (hZ.1 a _ ha)) 0 rfl hc k hk (va_Nw.use rfl (hC.G.2.1 _ hl)) (fun x h => by rw [← hr]; exact h) hv d kk
theorem zS.put {H1 : Heap} {e1 : va_E} {i : Nat} (hZ : zS D A s F H locs) (hA : A a) (h1 : va_at D vwCl (a, e1) H1) (z : H1.size = H.size) (oq : ∀ q : Nat, q ≠ a → H1[q]? = H[q]?) : zS D A s (zup F a e1) H1 (locs ++ [⟨a, i⟩]) := by
  refine ⟨hZ.1.put h1 oq, fun b e' hb => ?_, hZ.2.2.put z oq hA⟩
  by_cases h : b = a
  · subst h; exact hA
  · rw [zup_n h] at hb; exact hZ.2.1 b e' hb
theorem zS.new {H1 : Heap} {e1 : va_E} (hC : zC p s m args c cc nL own D cs A) (hZ : zS D A s F H locs) (h1 : va_at D vwCl (H.size, e1) H1) (z : H1.size = H.size + 1) (o1 : ∀ q : Nat, q < H.size → H1[q]? = H[q]?) : zS D A s (zup F H.size e1) H1 locs := by
  refine ⟨hZ.1.new h1 o1, fun b e' hb => ?_, ⟨Nat.le_trans hZ.2.2.1 (by omega), fun x h1 h2 => (o1 x (Nat.lt_of_lt_of_le h1 hZ.2.2.1)).trans (hZ.2.2.2.1 x h1 h2), hZ.2.2.2.2⟩⟩
  by_cases h : b = H.size
  · subst h; exact hC.aa hZ.2.2.1
  · rw [zup_n h] at hb; exact hZ.2.1 b e' hb
theorem zS.ff {t : State} (hZ : zS D A s F H locs) (ht : t.heap = H) : zT D A F t := ⟨by rw [ht]; exact hZ.1, hZ.2.1⟩
theorem zS.U {U : State} (hC : zC p s m args c cc nL own D cs A) (hZ : zS D A s F H locs) (hU : U.heap = H) (hW : s.WarmedH U.vm) : zU D cs A F U := by
  refine ⟨by rw [hU]; exact hZ.1, hZ.2.1, va_K.moved hW.alike hC.K, fun q hq => hC.aa (Nat.le_trans hZ.2.2.1 (by rw [← hU]; exact hq)), ?_⟩
  rw [hU]
  exact (hC.G.kept (H1 := H) hZ.2.2.2.1).warm hW
theorem z_put (hC : zC p s m args c cc nL own D cs A) (hZ : zS D A s F H locs) {C ref : String} {T : u_T} {N ci index k : Nat} {fs : List Value} {v : Value} {ty : FieldType} (ty0 : Nat → FieldType) (hty : ∀ k, k < N → parseFieldDescriptor (T k).2.2.1 = some (ty0 k)) (hnm : ∀ a, a < N → ∀ b, b < N → a ≠ b → (T a).2.1 ≠ (T b).2.1) (hin : ∀ w ∈ u_ws C T N, w ∈ ZALL) (hc : vwCl[ci]? = some (C, T, N)) (hk : k < N) (hlk : Cond.fieldLink own index ref (T k).2.1 (T k).2.2.1 ∈ ZALL) (hr : (T k).1 = ref) (hfin : (T k).2.2.2 = false ∨ ((T k).2.2.2 = true ∧ meth.name = "<init>" ∧ (T k).1 = own)) (hd : ty0 k = ty)
    (ha : F a = some (.inr (ci, fs))) (hl : k < fs.length) (hn : narrow ty v = v) (hfit : fits ty v = true) (d : decode cc pc = .ok (.putfield index, 3))
    (kk : ∀ (H1 : Heap) (locs1 : List Loc), zS D A s (zup F a (.inr (ci, fs.set k v))) H1 locs1 → W p l e R s m args below meth c H1 locs1 cells slots Q (F0 m (pc + 3) ls rest)) : W p l e R s m args below meth c H locs cells slots Q (F0 m pc ls (v :: .ref a :: rest)) := by
  have hts : ∀ w ∈ ZALL, w.before args s = true := fun w h => hC.ts h
  have hap := va_apart (own := own) hts hin ty0 hty hnm hC.K hc
  obtain ⟨r, h1, cell, q1, q2, q3, q4⟩ := hZ.1 a _ ha
  have hr1 : r = (C, T, N) := Option.some.inj (h1.symm.trans hc)
  subst hr1
  obtain ⟨hS, hfc, kC, hkC, hkind⟩ := hC.K.1 ci _ hc
  obtain ⟨cf, kf, fi, f, hi, hsl⟩ := hS k hk
  have hd1 : parseFieldDescriptor (T k).2.2.1 = some ty := by rw [hty k hk, hd]
  have hlay := hts _ (hin _ (u_in_lay hk))
  have hst := (u_facts hfc hkC (u_lays hts hin hk) hi).1
  have hlink := hts _ hlk
  have hsame : s.fieldFound? ref (T k).2.1 (T k).2.2.1 = some (cf, kf, fi, f) := by rw [← hr]; exact hi
  have fin : ∀ H' : Heap, H'[a]? = some (cell.setSlot f.slot v) → H'.size = H.size → (∀ q, q ≠ a → H'[q]? = H[q]?) → zS D A s (zup F a (.inr (ci, fs.set k v))) H' (locs ++ [⟨a, f.slot⟩]) := by
    intro H' e1 e2 e3
    rw [hsl] at e1
    exact hZ.put (hZ.2.1 a _ ha) ⟨_, hc, t_OB.to (V := updV (vp_V fs) k v) ⟨_, e1, q2, q3, t_set q4 hap hk v⟩ (fun j _ => vp_updV_set hl v j)⟩ e2 e3
  unfold u_lay at hlay
  rcases hfin with hfin | ⟨hfin, hin2, hdecl⟩
  · rw [if_neg (by rw [hfin]; decide)] at hlay
    have h6 := u_store hfc hkC hkind hlay hi hd1 hn hfit
    exact W.putK hC.x hC.b (f := f) ⟨hC.ow, hlink, ⟨_, _, _, hsame⟩, hst⟩ (by rw [q2]; exact h6) q1 q3 (by rw [hsl]; exact k2_hasslot (q4 k hk)) rfl rfl d fun H' e1 e2 e3 => kk H' _ (fin H' e1 e2 e3)
  · rw [if_pos hfin] at hlay
    have hcf : m.cls = cf := by
      obtain ⟨_, _, c', _, _, _, -, -, hf', -, -, -, hown2, -⟩ := Cond.laysFinal_spec hlay
      have e1 : c' = cf := by have := hi.symm.trans hf'; simp at this; exact this.1.symm
      rw [hdecl] at hown2
      rw [← e1]; exact Option.some.inj (hC.ow.symm.trans hown2)
    have h6 := u_fits hfc hkC hkind (Or.inr hlay) hi hd1 hn hfit
    exact W.putFinK hC.x hC.b hC.ow hlink hsame hst hcf hin2 (by rw [q2]; exact h6) q1 q3 (by rw [hsl]; exact k2_hasslot (q4 k hk)) rfl rfl d fun H' e1 e2 e3 => kk H' _ (fin H' e1 e2 e3)
abbrev zA (c : ClassId) (n : Nat) (f : Int → Int) : va_E := .inl (c, n, .inl (aI f))
abbrev zO (c : ClassId) (n : Nat) (f : Int → Option Nat) : va_E := .inl (c, n, .inr (.inr (.inr (.inr (fun k : Nat => f (k : Int))))))
theorem z_iald (hC : zC p s m args c cc nL own D cs A) (hZ : zS D A s F H locs) {n : Nat} {f : Int → Int} {i : Int} (ha : F a = some (zA (cs 2) n f)) (hi : 0 ≤ i ∧ i < n) (hn : n ≤ 2147483647) (d : decode cc pc = .ok (.iaload, 1))
    (kk : W p l e R s m args below meth c H locs cells slots Q (F0 m (pc + 1) ls (.int (iI (f i)) :: rest))) : W p l e R s m args below meth c H locs cells slots Q (F0 m pc ls (.int (iI i) :: .ref a :: rest)) := by
  refine va_iald (D := D) (cl := vwCl) (ws := [(a, zA (cs 2) n f)]) hC.x hC.b hC.K (zP1 (hZ.1 a _ ha)) 0 2 rfl rfl (iI_in hi hn) d ?_
  rw [aI_at (by omega)]
  exact kk
theorem z_cald (hC : zC p s m args c cc nL own D cs A) (hZ : zS D A s F H locs) {n : Nat} {f : Int → Int} {i : Int} (ha : F a = some (zA (cs 1) n f)) (hi : 0 ≤ i ∧ i < n) (hn : n ≤ 2147483647) (d : decode cc pc = .ok (.caload, 1))
    (kk : W p l e R s m args below meth c H locs cells slots Q (F0 m (pc + 1) ls (.int (iI (f i)) :: rest))) : W p l e R s m args below meth c H locs cells slots Q (F0 m pc ls (.int (iI i) :: .ref a :: rest)) := by
  refine va_cald (D := D) (cl := vwCl) (ws := [(a, zA (cs 1) n f)]) hC.x hC.b hC.K (zP1 (hZ.1 a _ ha)) 0 1 rfl rfl (iI_in hi hn) d ?_
  rw [aI_at (by omega)]
  exact kk
theorem z_zald (hC : zC p s m args c cc nL own D cs A) (hZ : zS D A s F H locs) {n : Nat} {f : Int → Int} {i : Int} (ha : F a = some (zA (cs 3) n f)) (hi : 0 ≤ i ∧ i < n) (hn : n ≤ 2147483647) (d : decode cc pc = .ok (.baload, 1))
    (kk : W p l e R s m args below meth c H locs cells slots Q (F0 m (pc + 1) ls (.int (iI (f i)) :: rest))) : W p l e R s m args below meth c H locs cells slots Q (F0 m pc ls (.int (iI i) :: .ref a :: rest)) := by
  refine va_zald (D := D) (cl := vwCl) (ws := [(a, zA (cs 3) n f)]) hC.x hC.b hC.K (zP1 (hZ.1 a _ ha)) 0 3 rfl rfl (iI_in hi hn) d ?_
  rw [aI_at (by omega)]
  exact kk
theorem z_bald (hC : zC p s m args c cc nL own D cs A) (hZ : zS D A s F H locs) {n : Nat} {f : Int → Int} {i : Int} (ha : F a = some (zA (cs 0) n f)) (hi : 0 ≤ i ∧ i < n) (hn : n ≤ 2147483647) (d : decode cc pc = .ok (.baload, 1))
    (kk : W p l e R s m args below meth c H locs cells slots Q (F0 m (pc + 1) ls (.int (iI (f i)) :: rest))) : W p l e R s m args below meth c H locs cells slots Q (F0 m pc ls (.int (iI i) :: .ref a :: rest)) := by
  refine va_bald (D := D) (cl := vwCl) (ws := [(a, zA (cs 0) n f)]) hC.x hC.b hC.K (zP1 (hZ.1 a _ ha)) 0 0 rfl rfl (iI_in hi hn) d ?_
  rw [aI_at (by omega)]
  exact kk
theorem z_aald (hC : zC p s m args c cc nL own D cs A) (hZ : zS D A s F H locs) {n t : Nat} {f : Int → Option Nat} {i : Int} {C : String} (ha : F a = some (zO (cs t) n f)) (ht : (ztys cs)[t]? = some (cs t, .object C)) (hi : 0 ≤ i ∧ i < n) (hn : n ≤ 2147483647) {v : Option Nat} (hv : f i = v) (d : decode cc pc = .ok (.aaload, 1))
    (kk : W p l e R s m args below meth c H locs cells slots Q (F0 m (pc + 1) ls (va_rf v :: rest))) : W p l e R s m args below meth c H locs cells slots Q (F0 m pc ls (.int (iI i) :: .ref a :: rest)) := by
  refine va_aldq (D := D) (cl := vwCl) (ws := [(a, zO (cs t) n f)]) (C := C) hC.x hC.b hC.K (zP1 (hZ.1 a _ ha)) 0 t rfl ht (iI_in hi hn) d ?_
  rw [iI_clamp (by omega), Int.toNat_of_nonneg hi.1, hv]
  exact kk
theorem z_alen (hC : zC p s m args c cc nL own D cs A) (hZ : zS D A s F H locs) {t n : Nat} {x : (Nat → Int32) ⊕ (Nat → Int64) ⊕ (Nat → UInt32) ⊕ (Nat → UInt64) ⊕ (Nat → Option Nat)} {ty : FieldType} (ha : F a = some (.inl (cs t, n, x))) (ht : (ztys cs)[t]? = some (cs t, ty)) (d : decode cc pc = .ok (.arraylength, 1))
    (kk : W p l e R s m args below meth c H locs cells slots Q (F0 m (pc + 1) ls (.int (iI (n : Int)) :: rest))) : W p l e R s m args below meth c H locs cells slots Q (F0 m pc ls (.ref a :: rest)) :=
  va_alen (D := D) (cl := vwCl) (ws := [(a, .inl (cs t, n, x))]) hC.x hC.b hC.K (zP1 (hZ.1 a _ ha)) 0 t rfl ht (iI_nat n) d kk
theorem z_iast (hC : zC p s m args c cc nL own D cs A) (hZ : zS D A s F H locs) {n : Nat} {f : Int → Int} {i x : Int} (ha : F a = some (zA (cs 2) n f)) (hi : 0 ≤ i ∧ i < n) (hn : n ≤ 2147483647) (d : decode cc pc = .ok (.iastore, 1))
    (kk : ∀ (H1 : Heap) (locs1 : List Loc), zS D A s (zup F a (zA (cs 2) n (upI f i x))) H1 locs1 → W p l e R s m args below meth c H1 locs1 cells slots Q (F0 m (pc + 1) ls rest)) : W p l e R s m args below meth c H locs cells slots Q (F0 m pc ls (.int (iI x) :: .int (iI i) :: .ref a :: rest)) := by
  have hin := iI_in hi hn
  refine W.iast hC.x hC.b (hZ.1 a _ ha) ((hC.K.2 2 _ rfl).1 n (fun j => .int (aI f j))) (fun q => by cases q) (by show ¬ (iI i < 0 ∨ (arrV _ _ _).slots.size ≤ _); rw [arrV_size]; exact hin) rfl rfl d fun H1 e z oq => ?_
  refine kk H1 _ (hZ.put (hZ.2.1 a _ ha) ?_ z oq)
  show H1[a]? = some (vp_cell _ _)
  rw [e, ← aI_up (by omega)]
  rw [vp_cell_i, vp_cell_i, arrV_store]
  congr 2
  funext q
  by_cases hq : q = (iI i).toNatClampNeg
  · subst hq
    simp [updV, upd]
  · simp [updV, upd, hq]
theorem z_cast (hC : zC p s m args c cc nL own D cs A) (hZ : zS D A s F H locs) {n : Nat} {f : Int → Int} {i x : Int} (ha : F a = some (zA (cs 1) n f)) (hi : 0 ≤ i ∧ i < n) (hn : n ≤ 2147483647) (hxr : 0 ≤ x ∧ x ≤ 65535) (d : decode cc pc = .ok (.castore, 1))
    (kk : ∀ (H1 : Heap) (locs1 : List Loc), zS D A s (zup F a (zA (cs 1) n (upI f i x))) H1 locs1 → W p l e R s m args below meth c H1 locs1 cells slots Q (F0 m (pc + 1) ls rest)) : W p l e R s m args below meth c H locs cells slots Q (F0 m pc ls (.int (iI x) :: .int (iI i) :: .ref a :: rest)) := by
  have hin := iI_in hi hn
  refine W.cast hC.x hC.b (hZ.1 a _ ha) ((hC.K.2 1 _ rfl).1 n (fun j => .int (aI f j))) (fun q => by cases q) (by show ¬ (iI i < 0 ∨ (arrV _ _ _).slots.size ≤ _); rw [arrV_size]; exact hin) rfl rfl d fun H1 e z oq => ?_
  refine kk H1 _ (hZ.put (hZ.2.1 a _ ha) ?_ z oq)
  show H1[a]? = some (vp_cell _ _)
  rw [e, (iI_narC hxr).1, ← aI_up (by omega)]
  rw [vp_cell_i, vp_cell_i, arrV_store]
  congr 2
  funext q
  by_cases hq : q = (iI i).toNatClampNeg
  · subst hq
    simp [updV, upd]
  · simp [updV, upd, hq]
theorem z_zast (hC : zC p s m args c cc nL own D cs A) (hZ : zS D A s F H locs) {n : Nat} {f : Int → Int} {i x : Int} (ha : F a = some (zA (cs 3) n f)) (hi : 0 ≤ i ∧ i < n) (hn : n ≤ 2147483647) (hxr : x = 0 ∨ x = 1) (d : decode cc pc = .ok (.bastore, 1))
    (kk : ∀ (H1 : Heap) (locs1 : List Loc), zS D A s (zup F a (zA (cs 3) n (upI f i x))) H1 locs1 → W p l e R s m args below meth c H1 locs1 cells slots Q (F0 m (pc + 1) ls rest)) : W p l e R s m args below meth c H locs cells slots Q (F0 m pc ls (.int (iI x) :: .int (iI i) :: .ref a :: rest)) := by
  have hin := iI_in hi hn
  refine W.zast hC.x hC.b (hZ.1 a _ ha) ((hC.K.2 3 _ rfl).1 n (fun j => .int (aI f j))) (fun q => by cases q) (by show ¬ (iI i < 0 ∨ (arrV _ _ _).slots.size ≤ _); rw [arrV_size]; exact hin) rfl rfl d fun H1 e z oq => ?_
  refine kk H1 _ (hZ.put (hZ.2.1 a _ ha) ?_ z oq)
  show H1[a]? = some (vp_cell _ _)
  rw [e, iI_zr hxr, ← aI_up (by omega)]
  rw [vp_cell_i, vp_cell_i, arrV_store]
  congr 2
  funext q
  by_cases hq : q = (iI i).toNatClampNeg
  · subst hq
    simp [updV, upd]
  · simp [updV, upd, hq]
theorem z_iret (hC : zC p s m args c cc nL own D cs A) (hr : meth.sig.returnType = some .int) (hlk : meth.locks = false) (hZ : zS D A s F H locs) {mc ms : Nat} {post : Int → zF → Prop} {r : Int} (hc : cells ≤ mc) (hs : slots ≤ ms) (hp : post r F) (d : decode cc pc = .ok (.ireturn, 1)) : W p l e R s m args below meth c H locs cells slots (MQ below (zQ D A (pI post)) args s mc ms A) (F0 m pc ls [.int (iI r)]) :=
  W.widen hc hs (W.iret hC.x hC.b hr (fun t ht hW => ⟨⟨_, F, rfl, ⟨r, rfl, hp⟩, hZ.ff ht⟩, hZ.2.2.F ht⟩) hZ.2.2.2.2 d hlk)
theorem z_zret (hC : zC p s m args c cc nL own D cs A) {ty : FieldType} (hr : meth.sig.returnType = some ty) (hlk : meth.locks = false) (hZ : zS D A s F H locs) {mc ms : Nat} {post : Int → zF → Prop} {r : Int} (hn : narrow ty (.int (iI r)) = .int (iI r)) (hc : cells ≤ mc) (hs : slots ≤ ms) (hp : post r F) (d : decode cc pc = .ok (.ireturn, 1)) : W p l e R s m args below meth c H locs cells slots (MQ below (zQ D A (pI post)) args s mc ms A) (F0 m pc ls [.int (iI r)]) :=
  W.widen hc hs (W.zret hC.x hC.b hr hn (fun t ht hW => ⟨⟨_, F, rfl, ⟨r, rfl, hp⟩, hZ.ff ht⟩, hZ.2.2.F ht⟩) hZ.2.2.2.2 d hlk)
theorem z_vret (hC : zC p s m args c cc nL own D cs A) (hr : meth.sig.returnType = none) (hlk : meth.locks = false) (hZ : zS D A s F H locs) {mc ms : Nat} {post : zF → Prop} (hc : cells ≤ mc) (hs : slots ≤ ms) (hp : post F) (d : decode cc pc = .ok (.return_, 1)) : W p l e R s m args below meth c H locs cells slots (MQ below (zQ D A (pV post)) args s mc ms A) (F0 m pc ls []) :=
  W.widen hc hs (W.vret hC.x hC.b hr (fun t ht hW => ⟨⟨_, F, rfl, ⟨rfl, hp⟩, hZ.ff ht⟩, hZ.2.2.F ht⟩) hZ.2.2.2.2 d hlk)
theorem z_aret (hC : zC p s m args c cc nL own D cs A) {rt : FieldType} (hr : meth.sig.returnType = some rt) (hrt : (∃ n, rt = .object n) ∨ ∃ t, rt = .array t) (hlk : meth.locks = false) (hZ : zS D A s F H locs) {mc ms : Nat} {post : Nat → zF → Prop} {r : Nat} (hc : cells ≤ mc) (hs : slots ≤ ms) (hp : post r F) (d : decode cc pc = .ok (.areturn, 1)) : W p l e R s m args below meth c H locs cells slots (MQ below (zQ D A (pR post)) args s mc ms A) (F0 m pc ls [.ref r]) :=
  W.widen hc hs (W.aret hC.x hC.b hr hrt (Or.inr ⟨r, rfl⟩) (fun t ht hW => ⟨⟨_, F, rfl, ⟨r, rfl, hp⟩, hZ.ff ht⟩, hZ.2.2.F ht⟩) hZ.2.2.2.2 d hlk)
theorem z_aretq (hC : zC p s m args c cc nL own D cs A) {rt : FieldType} (hr : meth.sig.returnType = some rt) (hrt : (∃ n, rt = .object n) ∨ ∃ t, rt = .array t) (hlk : meth.locks = false) (hZ : zS D A s F H locs) {mc ms : Nat} {post : Option Nat → zF → Prop} (r : Option Nat) {v : Value} (hv : va_rf r = v) (hc : cells ≤ mc) (hs : slots ≤ ms) (hp : post r F) (d : decode cc pc = .ok (.areturn, 1)) : W p l e R s m args below meth c H locs cells slots (MQ below (zQ D A (pQ post)) args s mc ms A) (F0 m pc ls [v]) := by
  subst hv
  exact W.widen hc hs (W.aret hC.x hC.b hr hrt (by cases r with | none => exact Or.inl rfl | some a => exact Or.inr ⟨a, rfl⟩) (fun t ht hW => ⟨⟨_, F, rfl, ⟨r, rfl, hp⟩, hZ.ff ht⟩, hZ.2.2.F ht⟩) hZ.2.2.2.2 d hlk)
theorem z_fret (hC : zC p s m args c cc nL own D cs A) (hr : meth.sig.returnType = some .float) (hlk : meth.locks = false) (hZ : zS D A s F H locs) {mc ms : Nat} {post : UInt32 → zF → Prop} {r : UInt32} (hc : cells ≤ mc) (hs : slots ≤ ms) (hp : post r F) (d : decode cc pc = .ok (.freturn, 1)) : W p l e R s m args below meth c H locs cells slots (MQ below (zQ D A (pF post)) args s mc ms A) (F0 m pc ls [.float r]) :=
  W.widen hc hs (W.fret hC.x hC.b hr (fun t ht hW => ⟨⟨_, F, rfl, ⟨r, rfl, hp⟩, hZ.ff ht⟩, hZ.2.2.F ht⟩) hZ.2.2.2.2 d hlk)
theorem z_dret (hC : zC p s m args c cc nL own D cs A) (hr : meth.sig.returnType = some .double) (hlk : meth.locks = false) (hZ : zS D A s F H locs) {mc ms : Nat} {post : UInt64 → zF → Prop} {r : UInt64} (hc : cells ≤ mc) (hs : slots ≤ ms) (hp : post r F) (d : decode cc pc = .ok (.dreturn, 1)) : W p l e R s m args below meth c H locs cells slots (MQ below (zQ D A (pD post)) args s mc ms A) (F0 m pc ls [.double r]) :=
  W.widen hc hs (W.dret hC.x hC.b hr (fun t ht hW => ⟨⟨_, F, rfl, ⟨r, rfl, hp⟩, hZ.ff ht⟩, hZ.2.2.F ht⟩) hZ.2.2.2.2 d hlk)
def zRun (p : Program) (l : Launch) (e : Env) (R : Room) (s : State) (m : MethodId) (args : Array Value) (below : List Frame) (meth : Method) (c : Code) (H : Heap) (locs : List Loc) (cells slots mc ms : Nat) (g : JFrame) (rest : List Value) (D : va_G) (A : Nat → Prop) (post : Option Value → zF → Prop) : Prop :=
  ∃ a : Array Value, va_Run p l e R s m args below meth c H locs cells slots mc ms g rest (zQ D A post a) A
theorem z_runV (hC : zC p s m args c cc nL own D cs A) (hZ : zS D A s F H locs) {C : String} {y : MethodName} {bytes : ByteArray} {maxL k mc ms n index ci : Nat} {ret : Option FieldType} {b : Nat} {As st : List Value} {T : u_T} {N : Nat} {fs : List Value} {post : Option Value → zF → Prop} (hM : zM l D cs A y bytes maxL ret k mc ms (.ref b :: As) F post)
    (hT : GoodIn ZALL (wsV own index C y (zws y bytes maxL ret))) (hd : y.cls = C ∧ y.cls ≠ "java/lang/invoke/MethodHandle" ∧ y.cls ≠ "java/lang/invoke/VarHandle" ∧ (parseMethodDescriptor y.desc).map (fun d => d.parameters.length) = some n) (hc : vwCl[ci]? = some (C, T, N)) (hb0 : F b = some (.inr (ci, fs)))
    (hn : As.length = n) {lv : List (Nat × Value)} (hl : lv_has ls nL lv) (hst : st = As.reverse ++ .ref b :: rest) (hW : (rest.map fun v => v.category).sum ≤ 8) (hR : k + 1 ≤ R.frames ∧ 8 + (maxL + 11) + 40 * k ≤ R.locals) (hf : cells + mc ≤ R.cells ∧ slots + ms ≤ R.slots) (d : decode cc pc = .ok (.invokevirtual index, 3)) :
    zRun p l e R s m args below meth c H locs cells slots mc ms (F0 m pc ls st) rest D A post :=
  ⟨_, va_runV (g := F0 m pc ls st) (As := As) (rest := rest) hC.1 hM (cwV n (fun w h => hC.ts h) hT rfl rfl rfl hd hR) ⟨zPc_blind, va_recv hC.K (zP1 (hZ.1 b _ hb0)) (ci := ci) (q0 := 0) hc rfl, fun U hU hW => ⟨rfl, hZ.U hC hU hW⟩⟩ rfl hn hl.1 hst (lv_room hW) d hf⟩
theorem z_runS (hC : zC p s m args c cc nL own D cs A) (hZ : zS D A s F H locs) {y : MethodName} {bytes : ByteArray} {maxL k mc ms n index : Nat} {ret : Option FieldType} {As st : List Value} {post : Option Value → zF → Prop} (hM : zM l D cs A y bytes maxL ret k mc ms As F post)
    (hT : GoodIn ZALL (va_wsS own index y (zws y bytes maxL ret))) (hd : y.cls ≠ "java/lang/invoke/MethodHandle" ∧ y.cls ≠ "java/lang/invoke/VarHandle" ∧ (parseMethodDescriptor y.desc).map (fun d => d.parameters.length) = some n)
    (hn : As.length = n) {lv : List (Nat × Value)} (hl : lv_has ls nL lv) (hst : st = As.reverse ++ rest) (hW : (rest.map fun v => v.category).sum ≤ 8) (hR : k + 1 ≤ R.frames ∧ 8 + (maxL + 11) + 40 * k ≤ R.locals) (hf : cells + mc ≤ R.cells ∧ slots + ms ≤ R.slots) (d : decode cc pc = .ok (.invokestatic index, 3)) :
    zRun p l e R s m args below meth c H locs cells slots mc ms (F0 m pc ls st) rest D A post :=
  ⟨_, va_runS (g := F0 m pc ls st) (As := As) (rest := rest) hC.1 hM (va_cwS n (fun w h => hC.ts h) hT rfl rfl rfl hd hR) ⟨zPc_blind, fun U hU hW => ⟨rfl, hZ.U hC hU hW⟩⟩ rfl hn hl.1 hst (lv_room hW) d hf⟩
theorem z_runI (hC : zC p s m args c cc nL own D cs A) (hZ : zS D A s F H locs) {y : MethodName} {bytes : ByteArray} {maxL k mc ms n index : Nat} {b : Nat} {As st : List Value} {post : Option Value → zF → Prop} (hM : zM l D cs A y bytes maxL none k mc ms (.ref b :: As) F post)
    (hG : Cond.code y bytes maxL none ∈ ZALL) (hini : Cond.initialized y.cls ∈ ZALL) (hlk : Cond.methodLink own index y ∈ ZALL) (hin : Cond.instanceMethod y ∈ ZALL) (hy1 : y.name = "<init>") (hd : y.cls ≠ "java/lang/invoke/MethodHandle" ∧ y.cls ≠ "java/lang/invoke/VarHandle" ∧ (parseMethodDescriptor y.desc).map (fun d => d.parameters.length) = some n)
    (hn : As.length = n) {lv : List (Nat × Value)} (hl : lv_has ls nL lv) (hst : st = As.reverse ++ .ref b :: rest) (hW : (rest.map fun v => v.category).sum ≤ 8) (hR : k + 1 ≤ R.frames ∧ 8 + (maxL + 11) + 40 * k ≤ R.locals) (hf : cells + mc ≤ R.cells ∧ slots + ms ≤ R.slots) (d : decode cc pc = .ok (.invokespecial index, 3)) :
    zRun p l e R s m args below meth c H locs cells slots mc ms (F0 m pc ls st) rest D A post :=
  ⟨_, va_runI (g := F0 m pc ls st) (As := As) (rest := rest) hC.1 hM (cwI n (fun w h => hC.ts h) (zgood hG) rfl rfl rfl (hC.ts hini) (hC.ts hlk) (hC.ts hin) hy1 hd hR) ⟨zPc_blind, fun U hU hW => ⟨rfl, hZ.U hC hU hW⟩⟩ rfl hn hl.1 hst (lv_room hW) d hf⟩
theorem z_call {post : Option Value → zF → Prop} {mc ms : Nat} {st0 : List Value} (hr : zRun p l e R s m args below meth c H locs cells slots mc ms (F0 m pc ls st0) rest D A post) (hZ : zS D A s F H locs)
    (kk : ∀ (v : Option Value) (F1 : zF) (H1 : Heap) (locs1 : List Loc), post v F1 → zS D A s F1 H1 locs1 → W p l e R s m args below meth c H1 locs1 (cells + mc) (slots + ms) Q (F0 m (pc + 3) ls (v.toList ++ rest))) : W p l e R s m args below meth c H locs cells slots Q (F0 m pc ls st0) := by
  obtain ⟨a, hr⟩ := hr
  intro T hT X
  obtain ⟨v, st₀, t, T', L, h0, X', hL, e1, e2, ⟨⟨v1, F1, hv, hp, hb⟩, hz, hk⟩, st⟩ := hr T hT X
  cases hv
  rw [h0] at hz hk
  have hS := hZ.2.2
  obtain ⟨t2, a1, b1⟩ := kk v F1 T'.heap (locs ++ L) hp ⟨by rw [e1]; exact hb.1, hb.2, Nat.le_trans hS.1 (by rw [e1]; exact hz), fun q h1 h2 => by rw [e1, hk q (Nat.lt_of_lt_of_le h1 hS.1) h2]; exact hS.2.1 q h1 h2, fun q hq => by
      rcases List.mem_append.mp hq with h | h
      · exact hS.2.2 q h
      · exact hL q h⟩ T' rfl X'
  exact ⟨t2, st t2 a1, b1⟩
theorem z_calli {post : Int → zF → Prop} {mc ms : Nat} {st0 : List Value} (hr : zRun p l e R s m args below meth c H locs cells slots mc ms (F0 m pc ls st0) rest D A (pI post)) (hZ : zS D A s F H locs)
    (kk : ∀ (r : Int) (F1 : zF) (H1 : Heap) (locs1 : List Loc), post r F1 → zS D A s F1 H1 locs1 → W p l e R s m args below meth c H1 locs1 (cells + mc) (slots + ms) Q (F0 m (pc + 3) ls (.int (iI r) :: rest))) : W p l e R s m args below meth c H locs cells slots Q (F0 m pc ls st0) :=
  z_call hr hZ (fun v F1 H1 locs1 hp h => by obtain ⟨r, rfl, hp⟩ := hp; exact kk r F1 H1 locs1 hp h)
theorem z_callv {post : zF → Prop} {mc ms : Nat} {st0 : List Value} (hr : zRun p l e R s m args below meth c H locs cells slots mc ms (F0 m pc ls st0) rest D A (pV post)) (hZ : zS D A s F H locs)
    (kk : ∀ (F1 : zF) (H1 : Heap) (locs1 : List Loc), post F1 → zS D A s F1 H1 locs1 → W p l e R s m args below meth c H1 locs1 (cells + mc) (slots + ms) Q (F0 m (pc + 3) ls rest)) : W p l e R s m args below meth c H locs cells slots Q (F0 m pc ls st0) :=
  z_call hr hZ (fun v F1 H1 locs1 hp h => by obtain ⟨rfl, hp⟩ := hp; exact kk F1 H1 locs1 hp h)
theorem z_callr {post : Nat → zF → Prop} {mc ms : Nat} {st0 : List Value} (hr : zRun p l e R s m args below meth c H locs cells slots mc ms (F0 m pc ls st0) rest D A (pR post)) (hZ : zS D A s F H locs)
    (kk : ∀ (r : Nat) (F1 : zF) (H1 : Heap) (locs1 : List Loc), post r F1 → zS D A s F1 H1 locs1 → W p l e R s m args below meth c H1 locs1 (cells + mc) (slots + ms) Q (F0 m (pc + 3) ls (.ref r :: rest))) : W p l e R s m args below meth c H locs cells slots Q (F0 m pc ls st0) :=
  z_call hr hZ (fun v F1 H1 locs1 hp h => by obtain ⟨r, rfl, hp⟩ := hp; exact kk r F1 H1 locs1 hp h)
theorem z_callq {post : Option Nat → zF → Prop} {mc ms : Nat} {st0 : List Value} (hr : zRun p l e R s m args below meth c H locs cells slots mc ms (F0 m pc ls st0) rest D A (pQ post)) (hZ : zS D A s F H locs)
    (kk : ∀ (r : Option Nat) (F1 : zF) (H1 : Heap) (locs1 : List Loc), post r F1 → zS D A s F1 H1 locs1 → W p l e R s m args below meth c H1 locs1 (cells + mc) (slots + ms) Q (F0 m (pc + 3) ls (va_rf r :: rest))) : W p l e R s m args below meth c H locs cells slots Q (F0 m pc ls st0) :=
  z_call hr hZ (fun v F1 H1 locs1 hp h => by obtain ⟨r, rfl, hp⟩ := hp; exact kk r F1 H1 locs1 hp h)
theorem z_callf {post : UInt32 → zF → Prop} {mc ms : Nat} {st0 : List Value} (hr : zRun p l e R s m args below meth c H locs cells slots mc ms (F0 m pc ls st0) rest D A (pF post)) (hZ : zS D A s F H locs)
    (kk : ∀ (r : UInt32) (F1 : zF) (H1 : Heap) (locs1 : List Loc), post r F1 → zS D A s F1 H1 locs1 → W p l e R s m args below meth c H1 locs1 (cells + mc) (slots + ms) Q (F0 m (pc + 3) ls (.float r :: rest))) : W p l e R s m args below meth c H locs cells slots Q (F0 m pc ls st0) :=
  z_call hr hZ (fun v F1 H1 locs1 hp h => by obtain ⟨r, rfl, hp⟩ := hp; exact kk r F1 H1 locs1 hp h)
theorem z_calld {post : UInt64 → zF → Prop} {mc ms : Nat} {st0 : List Value} (hr : zRun p l e R s m args below meth c H locs cells slots mc ms (F0 m pc ls st0) rest D A (pD post)) (hZ : zS D A s F H locs)
    (kk : ∀ (r : UInt64) (F1 : zF) (H1 : Heap) (locs1 : List Loc), post r F1 → zS D A s F1 H1 locs1 → W p l e R s m args below meth c H1 locs1 (cells + mc) (slots + ms) Q (F0 m (pc + 3) ls (.double r :: rest))) : W p l e R s m args below meth c H locs cells slots Q (F0 m pc ls st0) :=
  z_call hr hZ (fun v F1 H1 locs1 hp h => by obtain ⟨r, rfl, hp⟩ := hp; exact kk r F1 H1 locs1 hp h)
end ZB
