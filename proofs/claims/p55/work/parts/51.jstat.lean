/-! rows of what never changes: statics, constant objects and their arrays, string constants -/
section ZJ
variable {p : Program} {l : Launch} {e : Env} {R : Room} {s : State} {m : MethodId} {args : Array Value} {below : List Frame} {meth : Method} {c : Code} {H : Heap} {locs : List Loc} {cells slots : Nat} {Q : State → Prop}
variable {cc : ByteArray} {pc nL : Nat} {ls : Array Slot} {rest : List Value} {own : String} {D : va_G} {cs : Nat → ClassId} {A : Nat → Prop} {F : zF} {a : Nat}
theorem zC.st (h : zC p s m args c cc nL own D cs A) {q : String × String × String × Value} (hq : q ∈ zstat cs) : va_Z q.1 q.2.1 q.2.2.1 q.2.2.2 A s s.heap := h.G.2.2.2.2.1 q hq
theorem zC.fl (h : zC p s m args c cc nL own D cs A) {q : String × String × String × Value × Nat} (hq : q ∈ zfld cs) : va_OF q.1 q.2.1 q.2.2.1 q.2.2.2.1 q.2.2.2.2 A s s.heap := h.G.2.2.2.2.2.1 q hq
theorem zC.ar (h : zC p s m args c cc nL own D cs A) {q : FieldType × Nat × Nat × (Nat → Value)} (hq : q ∈ zarr cs) : va_T q.1 q.2.1 q.2.2.1 q.2.2.2 A s s.heap := h.G.2.2.2.2.2.2.1 q hq
theorem zC.ob (h : zC p s m args c cc nL own D cs A) {q : String × Nat} (hq : q ∈ zobj cs) : va_O q.1 q.2 A s s.heap := h.G.2.2.2.2.2.2.2.1 q hq
theorem zC.ld (h : zC p s m args c cc nL own D cs A) {q : String × Nat × String × Nat} (hq : q ∈ zldc cs) : vk_R q.1 q.2.1 q.2.2.1 q.2.2.2 s := h.G.2.2.2.2.2.2.2.2.1 q hq
theorem z_gets (hC : zC p s m args c cc nL own D cs A) (hZ : zS D A s F H locs) {C n dd : String} {v : Value} {index : Nat} (h : (C, n, dd, v) ∈ zstat cs) (hl : Cond.fieldLink own index C n dd ∈ ZALL) (d : decode cc pc = .ok (.getstatic index, 3))
    (kk : W p l e R s m args below meth c H locs cells slots Q (F0 m (pc + 3) ls (v :: rest))) : W p l e R s m args below meth c H locs cells slots Q (F0 m pc ls rest) :=
  va_gets (C := C) (n := n) (d := dd) hC.x hC.b (hC.st h) hZ.2.2 hC.ow (hC.ts hl) (fun x h => h) d kk
theorem z_getsN (hC : zC p s m args c cc nL own D cs A) (hZ : zS D A s F H locs) {C n dd host : String} {v : Value} {index : Nat} (h : (C, n, dd, v) ∈ zstat cs) (hl : Cond.fieldLinkNest own index C n dd host ∈ ZNW) (d : decode cc pc = .ok (.getstatic index, 3))
    (kk : W p l e R s m args below meth c H locs cells slots Q (F0 m (pc + 3) ls (v :: rest))) : W p l e R s m args below meth c H locs cells slots Q (F0 m pc ls rest) :=
  va_getsN (C := C) (n := n) (d := dd) hC.x hC.b (hC.st h) hZ.2.2 hC.ow (va_Nw.use rfl (hC.G.2.1 _ hl)) (fun x h => h) d kk
theorem z_getsF (hC : zC p s m args c cc nL own D cs A) (hZ : zS D A s F H locs) {index : Nat} (hl : Cond.fieldLink own index "jdk/internal/util/Preconditions" "SIOOBE_FORMATTER" "Ljava/util/function/BiFunction;" ∈ ZALL) (d : decode cc pc = .ok (.getstatic index, 3))
    (k0 : W p l e R s m args below meth c H locs cells slots Q (F0 m (pc + 3) ls (.null :: rest))) (k1 : ∀ t : Nat, W p l e R s m args below meth c H locs cells slots Q (F0 m (pc + 3) ls (.ref t :: rest))) : W p l e R s m args below meth c H locs cells slots Q (F0 m pc ls rest) := by
  rcases hC.G.1.2.2 with h | ⟨t, h⟩
  · exact va_gets hC.x hC.b h hZ.2.2 hC.ow (hC.ts hl) (fun x h => h) d k0
  · exact va_gets hC.x hC.b h hZ.2.2 hC.ow (hC.ts hl) (fun x h => h) d (k1 t)
theorem z_getO (hC : zC p s m args c cc nL own D cs A) (hZ : zS D A s F H locs) {o n dd ref : String} {v : Value} {index : Nat} (h : (o, n, dd, v, a) ∈ zfld cs) (hl : Cond.fieldLink own index ref n dd ∈ ZALL) (hr : o = ref) (d : decode cc pc = .ok (.getfield index, 3))
    (kk : W p l e R s m args below meth c H locs cells slots Q (F0 m (pc + 3) ls (v :: rest))) : W p l e R s m args below meth c H locs cells slots Q (F0 m pc ls (.ref a :: rest)) :=
  vk_getf (o := o) (n := n) (d := dd) hC.x hC.b (hC.fl h) hZ.2.2 hC.ow (hC.ts hl) (fun x h => by rw [← hr]; exact h) d kk
theorem z_tb (hC : zC p s m args c cc nL own D cs A) (hZ : zS D A s F H locs) {N : Nat} {f : Nat → Value} {i x : Int} (h : (FieldType.byte, a, N, f) ∈ zarr cs) (hi : 0 ≤ i ∧ i < N) (hn : N ≤ 2147483647) (hv : f i.toNat = .int (iI x)) (d : decode cc pc = .ok (.baload, 1))
    (kk : W p l e R s m args below meth c H locs cells slots Q (F0 m (pc + 1) ls (.int (iI x) :: rest))) : W p l e R s m args below meth c H locs cells slots Q (F0 m pc ls (.int (iI i) :: .ref a :: rest)) :=
  va_tb (N := N) (f := f) hC.x hC.b (hC.ar h) hZ.2.2 (iI_in hi hn) (by rw [iI_clamp (by omega)]; exact hv) d kk
theorem z_ti (hC : zC p s m args c cc nL own D cs A) (hZ : zS D A s F H locs) {N : Nat} {f : Nat → Value} {i x : Int} (h : (FieldType.int, a, N, f) ∈ zarr cs) (hi : 0 ≤ i ∧ i < N) (hn : N ≤ 2147483647) (hv : f i.toNat = .int (iI x)) (d : decode cc pc = .ok (.iaload, 1))
    (kk : W p l e R s m args below meth c H locs cells slots Q (F0 m (pc + 1) ls (.int (iI x) :: rest))) : W p l e R s m args below meth c H locs cells slots Q (F0 m pc ls (.int (iI i) :: .ref a :: rest)) :=
  va_ti (N := N) (f := f) hC.x hC.b (hC.ar h) hZ.2.2 (iI_in hi hn) (by rw [iI_clamp (by omega)]; exact hv) d kk
theorem z_tq (hC : zC p s m args c cc nL own D cs A) (hZ : zS D A s F H locs) {C : String} {N : Nat} {f : Nat → Value} {i : Int} {v : Value} (h : (FieldType.object C, a, N, f) ∈ zarr cs) (hi : 0 ≤ i ∧ i < N) (hn : N ≤ 2147483647) (hv : f i.toNat = v) (d : decode cc pc = .ok (.aaload, 1))
    (kk : W p l e R s m args below meth c H locs cells slots Q (F0 m (pc + 1) ls (v :: rest))) : W p l e R s m args below meth c H locs cells slots Q (F0 m pc ls (.int (iI i) :: .ref a :: rest)) :=
  vb_tq (N := N) (f := f) hC.x hC.b (hC.ar h) hZ.2.2 (iI_in hi hn) (by rw [iI_clamp (by omega)]; exact hv) d kk
theorem z_tlen (hC : zC p s m args c cc nL own D cs A) (hZ : zS D A s F H locs) {ty : FieldType} {N : Nat} {f : Nat → Value} (h : (ty, a, N, f) ∈ zarr cs) (d : decode cc pc = .ok (.arraylength, 1))
    (kk : W p l e R s m args below meth c H locs cells slots Q (F0 m (pc + 1) ls (.int (iI (N : Int)) :: rest))) : W p l e R s m args below meth c H locs cells slots Q (F0 m pc ls (.ref a :: rest)) :=
  va_tlen (N := N) (f := f) hC.x hC.b (hC.ar h) hZ.2.2 (by rw [← iI_nat]; rfl) d kk
theorem z_runO (hC : zC p s m args c cc nL own D cs A) (hZ : zS D A s F H locs) {C : String} {y : MethodName} {bytes : ByteArray} {maxL k mc ms n index : Nat} {ret : Option FieldType} {b : Nat} {As st : List Value} {post : Option Value → zF → Prop} (hM : zM l D cs A y bytes maxL ret k mc ms (.ref b :: As) F post)
    (hT : GoodIn ZALL (wsV own index C y (zws y bytes maxL ret))) (hd : y.cls = C ∧ y.cls ≠ "java/lang/invoke/MethodHandle" ∧ y.cls ≠ "java/lang/invoke/VarHandle" ∧ (parseMethodDescriptor y.desc).map (fun d => d.parameters.length) = some n) (ho : (C, b) ∈ zobj cs)
    (hn : As.length = n) {lv : List (Nat × Value)} (hl : lv_has ls nL lv) (hst : st = As.reverse ++ .ref b :: rest) (hW : (rest.map fun v => v.category).sum ≤ 8) (hR : k + 1 ≤ R.frames ∧ 8 + (maxL + 11) + 40 * k ≤ R.locals) (hf : cells + mc ≤ R.cells ∧ slots + ms ≤ R.slots) (d : decode cc pc = .ok (.invokevirtual index, 3)) :
    zRun p l e R s m args below meth c H locs cells slots mc ms (F0 m pc ls st) rest D A post :=
  ⟨_, va_runV (g := F0 m pc ls st) (As := As) (rest := rest) hC.1 hM (cwV n (fun w h => hC.ts h) hT rfl rfl rfl hd hR) ⟨zPc_blind, (by obtain ⟨cell, h1, h2, h3, -⟩ := (hC.ob ho).kept hZ.2.2.2.1; exact ⟨cell, h1, h2, h3⟩), fun U hU hW => ⟨rfl, hZ.U hC hU hW⟩⟩ rfl hn hl.1 hst (lv_room hW) d hf⟩
theorem z_ldcS (hC : zC p s m args c cc nL own D cs A) {tx : String} {index : Nat} (h : (own, index, tx, a) ∈ zldc cs) (d : decode cc pc = .ok (.ldc_w index, 3))
    (k : W p l e R s m args below meth c H locs cells slots Q (F0 m (pc + 3) ls (.ref a :: rest))) : W p l e R s m args below meth c H locs cells slots Q (F0 m pc ls rest) := by
  have hz := hC.ld h
  intro T hT X
  obtain ⟨t, a1, b1⟩ := k T hT X
  have h1 : (Cond.stringRef own index tx).before args s = true := hz.1
  have h2 : (Term.string own index).eval args s none [] s = some (.ref a) := hz.2
  exact ⟨t, X.ldcStringW hC.x hC.ow (text := tx) (a := a) h1 h2 (g := F0 m pc ls rest) rfl (by rw [hC.b]; exact d) t a1, b1⟩
end ZJ
/-- the texts of string constants: the keywords' letters, and '*' -/
def zstr (j : Nat) : List Int := match j with
  | 0 => [119, 105, 100, 116, 104, 32]
  | 1 => [112, 97, 103, 101, 32]
  | 2 => [112, 114, 105, 110, 116]
  | 3 => [100, 97, 121, 115, 32]
  | 4 => [100, 114, 111, 112, 32]
  | _ => [42]
theorem zstr_v {cs : Nat → Nat} {j : Nat} (h : j < 5) : ("java/lang/String", "value", "[B", Value.ref (cs (40 + j)), cs (30 + j)) ∈ zfld cs := by
  have h2 : j = 0 ∨ j = 1 ∨ j = 2 ∨ j = 3 ∨ j = 4 := by omega
  rcases h2 with rfl | rfl | rfl | rfl | rfl <;> simp [zfld]
theorem zstr_c {cs : Nat → Nat} {j : Nat} (h : j < 5) : ("java/lang/String", "coder", "B", Value.int 0, cs (30 + j)) ∈ zfld cs := by
  have h2 : j = 0 ∨ j = 1 ∨ j = 2 ∨ j = 3 ∨ j = 4 := by omega
  rcases h2 with rfl | rfl | rfl | rfl | rfl <;> simp [zfld]
theorem zstr_o {cs : Nat → Nat} {j : Nat} (h : j < 5) : ("java/lang/String", cs (30 + j)) ∈ zobj cs := by
  have h2 : j = 0 ∨ j = 1 ∨ j = 2 ∨ j = 3 ∨ j = 4 := by omega
  rcases h2 with rfl | rfl | rfl | rfl | rfl <;> simp [zobj]
theorem zstr_a {cs : Nat → Nat} {j : Nat} (h : j < 5) : ∃ f : Nat → Value, (FieldType.byte, cs (40 + j), (zstr j).length, f) ∈ zarr cs ∧ ∀ k, f k = .int (iI ((zstr j).getD k 0)) := by
  have h2 : j = 0 ∨ j = 1 ∨ j = 2 ∨ j = 3 ∨ j = 4 := by omega
  have key : ∀ (l : List Int) (l2 : List Int32), l2 = l.map iI → ∀ k, (Value.int (l2.getD k 0)) = .int (iI (l.getD k 0)) := by
    intro l l2 e k
    subst e
    congr 1
    rw [List.getD_eq_getElem?_getD, List.getD_eq_getElem?_getD, List.getElem?_map]
    cases l[k]? <;> rfl
  rcases h2 with rfl | rfl | rfl | rfl | rfl
  · exact ⟨_, List.mem_of_getElem? (i := 5) rfl, key [119, 105, 100, 116, 104, 32] _ rfl⟩
  · exact ⟨_, List.mem_of_getElem? (i := 6) rfl, key [112, 97, 103, 101, 32] _ rfl⟩
  · exact ⟨_, List.mem_of_getElem? (i := 7) rfl, key [112, 114, 105, 110, 116] _ rfl⟩
  · exact ⟨_, List.mem_of_getElem? (i := 8) rfl, key [100, 97, 121, 115, 32] _ rfl⟩
  · exact ⟨_, List.mem_of_getElem? (i := 9) rfl, key [100, 114, 111, 112, 32] _ rfl⟩
theorem zstr_rng (j k : Nat) : 0 ≤ (zstr j).getD k 0 ∧ (zstr j).getD k 0 ≤ 122 := by
  have h : ∀ x ∈ zstr j, (0 : Int) ≤ x ∧ x ≤ 122 := by
    unfold zstr
    split <;> decide
  rw [List.getD_eq_getElem?_getD]
  cases hq : (zstr j)[k]? with
  | none => exact ⟨by decide, by decide⟩
  | some x => exact h x (List.mem_of_getElem? hq)
