section ZN4
variable {p : Program} {l : Launch} {e : Env} {R : Room} {s : State} {m : MethodId} {args : Array Value} {below : List Frame} {meth : Method} {c : Code} {H : Heap} {locs : List Loc} {cells slots : Nat} {Q : State → Prop}
variable {cc : ByteArray} {pc nL : Nat} {ls : Array Slot} {rest : List Value} {own : String} {D : va_G} {cs : Nat → ClassId} {A : Nat → Prop} {F : zF} {a : Nat}
/-- a field that the class only inherits, named through it -/
theorem z_getX (hC : zC p s m args c cc nL own D cs A) (hZ : zS D A s F H locs) {C ref : String} {T : u_T} {N ci index k : Nat} {fs : List Value} {v : Value} (hin : ∀ w ∈ u_ws C T N, w ∈ ZALL) (hc : vwCl[ci]? = some (C, T, N)) (hk : k < N) (hl : Cond.fieldLink own index ref (T k).2.1 (T k).2.2.1 ∈ ZALL) (hr : Cond.sameField ref (T k).1 (T k).2.1 (T k).2.2.1 ∈ ZALL) (ha : F a = some (.inr (ci, fs))) (hv : fs[k]? = some v) (d : decode cc pc = .ok (.getfield index, 3))
    (kk : W p l e R s m args below meth c H locs cells slots Q (F0 m (pc + 3) ls (v :: rest))) : W p l e R s m args below meth c H locs cells slots Q (F0 m pc ls (.ref a :: rest)) :=
  va_get (D := D) (cl := vwCl) (tys := ztys cs) (ws := [(a, .inr (ci, fs))]) hC.x hC.b (fun w h => hC.ts h) hin hC.ow hC.K (zP1 (hZ.1 a _ ha)) 0 rfl hc k hk (hC.ts hl) (fun x h => u_same (hC.ts hr) x h) hv d kk
theorem z_putX (hC : zC p s m args c cc nL own D cs A) (hZ : zS D A s F H locs) {C ref : String} {T : u_T} {N ci index k : Nat} {fs : List Value} {v : Value} {ty : FieldType} (ty0 : Nat → FieldType) (hty : ∀ k, k < N → parseFieldDescriptor (T k).2.2.1 = some (ty0 k)) (hnm : ∀ a, a < N → ∀ b, b < N → a ≠ b → (T a).2.1 ≠ (T b).2.1) (hin : ∀ w ∈ u_ws C T N, w ∈ ZALL) (hc : vwCl[ci]? = some (C, T, N)) (hk : k < N) (hlk : Cond.fieldLink own index ref (T k).2.1 (T k).2.2.1 ∈ ZALL) (hr : Cond.sameField ref (T k).1 (T k).2.1 (T k).2.2.1 ∈ ZALL) (hfin : (T k).2.2.2 = false) (hd : ty0 k = ty)
    (ha : F a = some (.inr (ci, fs))) (hl : k < fs.length) (hn : narrow ty v = v) (hfit : fits ty v = true) (d : decode cc pc = .ok (.putfield index, 3))
    (kk : ∀ (H1 : Heap) (locs1 : List Loc), zS D A s (zup F a (.inr (ci, fs.set k v))) H1 locs1 → W p l e R s m args below meth c H1 locs1 cells slots Q (F0 m (pc + 3) ls rest)) : W p l e R s m args below meth c H locs cells slots Q (F0 m pc ls (v :: .ref a :: rest)) := by
  have hts : ∀ w ∈ ZALL, w.before args s = true := fun w h => hC.ts h
  have hap := va_apart (own := own) hts hin ty0 hty hnm hC.K hc
  obtain ⟨r, h1, cell, q1, q2, q3, q4⟩ := hZ.1 a _ ha
  have hr1 : r = (C, T, N) := Option.some.inj (h1.symm.trans hc)
  subst hr1
  obtain ⟨hS, hfc, kC, hkC, hkind⟩ := hC.K.1 ci _ hc
  obtain ⟨cf, kf, fi, f, hi, hsl⟩ := hS k hk
  have hd1 : parseFieldDescriptor (T k).2.2.1 = some ty := by rw [hty k hk, hd]
  have hlay := hts _ (hin _ (u_in_lay hk))
  have hst := (u_facts hfc hkC (u_lays hts hin hk) hi).1
  have hlink := hts _ hlk
  have hsame : s.fieldFound? ref (T k).2.1 (T k).2.2.1 = some (cf, kf, fi, f) := u_same (hC.ts hr) _ hi
  have fin : ∀ H' : Heap, H'[a]? = some (cell.setSlot f.slot v) → H'.size = H.size → (∀ q, q ≠ a → H'[q]? = H[q]?) → zS D A s (zup F a (.inr (ci, fs.set k v))) H' (locs ++ [⟨a, f.slot⟩]) := by
    intro H' e1 e2 e3
    rw [hsl] at e1
    exact hZ.put (hZ.2.1 a _ ha) ⟨_, hc, t_OB.to (V := updV (vp_V fs) k v) ⟨_, e1, q2, q3, t_set q4 hap hk v⟩ (fun j _ => vp_updV_set hl v j)⟩ e2 e3
  unfold u_lay at hlay
  rw [if_neg (by rw [hfin]; decide)] at hlay
  have h6 := u_store hfc hkC hkind hlay hi hd1 hn hfit
  exact W.putK hC.x hC.b (f := f) ⟨hC.ow, hlink, ⟨_, _, _, hsame⟩, hst⟩ (by rw [q2]; exact h6) q1 q3 (by rw [hsl]; exact k2_hasslot (q4 k hk)) rfl rfl d fun H' e1 e2 e3 => kk H' _ (fin H' e1 e2 e3)
theorem iI_narB {z : Int} (h : 0 ≤ z ∧ z ≤ 127) : (iI z).toInt8.toInt32 = iI z := by
  have t : (List.range 128).all (fun n => (Int32.ofNat n).toInt8.toInt32 == Int32.ofNat n) = true := by decide +kernel
  have h1 := eq_of_beq (List.all_eq_true.mp t z.toNat (List.mem_range.mpr (by omega)))
  have e : Int32.ofNat z.toNat = iI z := by
    have := iI_nat z.toNat
    rw [Int.toNat_of_nonneg h.1] at this
    exact this
  rw [e] at h1
  exact h1
theorem z_bast (hC : zC p s m args c cc nL own D cs A) (hZ : zS D A s F H locs) {n : Nat} {f : Int → Int} {i x : Int} (ha : F a = some (zA (cs 0) n f)) (hi : 0 ≤ i ∧ i < n) (hn : n ≤ 2147483647) (hxr : 0 ≤ x ∧ x ≤ 127) (d : decode cc pc = .ok (.bastore, 1))
    (kk : ∀ (H1 : Heap) (locs1 : List Loc), zS D A s (zup F a (zA (cs 0) n (upI f i x))) H1 locs1 → W p l e R s m args below meth c H1 locs1 cells slots Q (F0 m (pc + 1) ls rest)) : W p l e R s m args below meth c H locs cells slots Q (F0 m pc ls (.int (iI x) :: .int (iI i) :: .ref a :: rest)) := by
  have hin := iI_in hi hn
  refine W.bast hC.x hC.b (hZ.1 a _ ha) ((hC.K.2 0 _ rfl).1 n (fun j => .int (aI f j))) (fun q => by cases q) (by show ¬ (iI i < 0 ∨ (arrV _ _ _).slots.size ≤ _); rw [arrV_size]; exact hin) rfl rfl d fun H1 e z oq => ?_
  refine kk H1 _ (hZ.put (hZ.2.1 a _ ha) ?_ z oq)
  show H1[a]? = some (vp_cell _ _)
  rw [e, show narrow .byte (.int (iI x)) = .int (iI x) from congrArg Value.int (iI_narB hxr), ← aI_up (by omega)]
  rw [vp_cell_i, vp_cell_i, arrV_store]
  congr 2
  funext q
  by_cases hq : q = (iI i).toNatClampNeg
  · subst hq
    simp [updV, upd]
  · simp [updV, upd, hq]
end ZN4
