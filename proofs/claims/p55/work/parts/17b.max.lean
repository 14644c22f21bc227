section ZMX
variable {p : Program} {l : Launch} {e : Env} {R : Room} {s : State} {m : MethodId} {args : Array Value} {below : List Frame} {meth : Method} {c : Code} {H : Heap} {locs : List Loc} {cells slots : Nat} {Q : State → Prop}
variable {cc : ByteArray} {pc nL : Nat} {ls : Array Slot} {rest : List Value} {own : String} {D : va_G} {cs : Nat → ClassId} {A : Nat → Prop}
theorem zq_max : Cond.code Lib.Math.max.name Lib.Math.max.code 2 (some .int) ∈ ZALL := zin (i := 63) (by decide +kernel) rfl
theorem z_mmax (hC : zC p s m args c cc nL own D cs A) {lv : List (Nat × Value)} (hl : lv_has ls nL lv) {index : Nat} (hlk : Cond.methodLink own index yJ9_max_7cf53 ∈ ZALL) {x y : Int} (hx : -2147483648 ≤ x ∧ x ≤ 2147483647) (hy : -2147483648 ≤ y ∧ y ≤ 2147483647) (hR : 1 ≤ R.frames ∧ (rest.map fun v => v.category).sum + 13 ≤ R.locals) (hf : cells ≤ R.cells ∧ slots ≤ R.slots) (d : decode cc pc = .ok (.invokestatic index, 3))
    (kk : ∀ r : Int, (x < y ∧ r = y) ∨ (¬ x < y ∧ r = x) → W p l e R s m args below meth c H locs cells slots Q (F0 m (pc + 3) ls (.int (iI r) :: rest))) : W p l e R s m args below meth c H locs cells slots Q (F0 m pc ls (.int (iI y) :: .int (iI x) :: rest)) := by
  refine va_mmax hC.x hC.b (hC.ml.trans hl.1.symm) hC.ow (hC.ts (show Cond.methodLink own index Lib.Math.max.name ∈ ZALL from hlk)) (hC.ts (show Cond.static Lib.Math.max.name ∈ ZALL from qt_J9_max_7cf53)) (hC.ts qn_J9) (hC.ts zq_max) hR.1 hR.2 hf.1 hf.2 d ?_
  have hlt := iI_lt hx hy
  by_cases h : x < y
  · rw [if_pos (hlt.mpr h)]; exact kk y (Or.inl ⟨h, rfl⟩)
  · rw [if_neg (fun q => h (hlt.mp q))]; exact kk x (Or.inr ⟨h, rfl⟩)
theorem zq_min : Cond.code Lib.Math.min.name Lib.Math.min.code 2 (some .int) ∈ ZALL := zin (i := 314) (by decide +kernel) rfl
theorem z_mmin (hC : zC p s m args c cc nL own D cs A) {lv : List (Nat × Value)} (hl : lv_has ls nL lv) {index : Nat} (hlk : Cond.methodLink own index yJ9_min_7cf53 ∈ ZALL) {x y : Int} (hx : -2147483648 ≤ x ∧ x ≤ 2147483647) (hy : -2147483648 ≤ y ∧ y ≤ 2147483647) (hR : 1 ≤ R.frames ∧ (rest.map fun v => v.category).sum + 13 ≤ R.locals) (hf : cells ≤ R.cells ∧ slots ≤ R.slots) (d : decode cc pc = .ok (.invokestatic index, 3))
    (kk : ∀ r : Int, (y < x ∧ r = y) ∨ (¬ y < x ∧ r = x) → W p l e R s m args below meth c H locs cells slots Q (F0 m (pc + 3) ls (.int (iI r) :: rest))) : W p l e R s m args below meth c H locs cells slots Q (F0 m pc ls (.int (iI y) :: .int (iI x) :: rest)) := by
  refine va_mmin hC.x hC.b (hC.ml.trans hl.1.symm) hC.ow (hC.ts (show Cond.methodLink own index Lib.Math.min.name ∈ ZALL from hlk)) (hC.ts (show Cond.static Lib.Math.min.name ∈ ZALL from qt_J9_min_7cf53)) (hC.ts qn_J9) (hC.ts zq_min) hR.1 hR.2 hf.1 hf.2 d ?_
  have hlt := iI_lt hy hx
  by_cases h : y < x
  · rw [if_pos (hlt.mpr h)]; exact kk y (Or.inl ⟨h, rfl⟩)
  · rw [if_neg (fun q => h (hlt.mp q))]; exact kk x (Or.inr ⟨h, rfl⟩)
end ZMX
