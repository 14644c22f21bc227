/-! even breaking, from the last word -/
section ZLD
variable {p : Program} {l : Launch} {e : Env} {R : Room} {s : State} {m : MethodId} {args : Array Value} {below : List Frame} {meth : Method} {c : Code} {H : Heap} {locs : List Loc} {cells slots : Nat} {Q : State → Prop}
variable {cc : ByteArray} {pc nL : Nat} {ls : Array Slot} {rest : List Value} {own : String} {D : va_G} {cs : Nat → ClassId} {A : Nat → Prop}
theorem z_ldc (hC : zC p s m args c cc nL own D cs A) {index : Nat} {v : Int32} {z : Int} (hk : Cond.constant own index v ∈ ZALL) (hv : v = iI z) (d : decode cc pc = .ok (.ldc index, 2)) (k : W p l e R s m args below meth c H locs cells slots Q (F0 m (pc + 2) ls (.int (iI z) :: rest))) : W p l e R s m args below meth c H locs cells slots Q (F0 m pc ls rest) :=
  lv_ldc hC.x hC.b hC.ow (hC.ts hk) d (by rw [hv]; exact k)
theorem z_ldcf (hC : zC p s m args c cc nL own D cs A) {index : Nat} {v : UInt32} (hk : Cond.constantFloat own index v ∈ ZALL) (d : decode cc pc = .ok (.ldc index, 2)) (k : W p l e R s m args below meth c H locs cells slots Q (F0 m (pc + 2) ls (.float v :: rest))) : W p l e R s m args below meth c H locs cells slots Q (F0 m pc ls rest) :=
  lv_ldcf hC.x hC.b hC.ow (hC.ts hk) d k
end ZLD
def zscan (w : Int) : Int → Int → List Int → List Int → Int
  | _, b, [], _ => b
  | s, b, l :: ls, T => if s + l + 1 ≤ w then zscan w (s + l + 1) (min b ((if ls = [] then 0 else (w - (s + l + 1)) * (w - (s + l + 1))) + T.headD 0)) ls T.tail else b
def zlbT (w : Int) : List Int → List Int
  | [] => [0]
  | l :: ls => zscan w (-1) 1000000 (l :: ls) (zlbT w ls) :: zlbT w ls
/-- the least badness of words of these lengths -/
def zlb (w : Int) (ls : List Int) : Int := (zlbT w ls).headD 0
/-- the least badness of words, some of them in a line of length s already -/
def zsc (w : Int) : Int → Int → List Int → Int
  | _, b, [] => b
  | s, b, l :: ls => if s + l + 1 ≤ w then zsc w (s + l + 1) (min b ((if ls = [] then 0 else (w - (s + l + 1)) * (w - (s + l + 1))) + zlb w ls)) ls else b
theorem zlbT_tail (w : Int) (l : Int) (ls : List Int) : (zlbT w (l :: ls)).tail = zlbT w ls := rfl
theorem zscan_zsc (w : Int) : ∀ (ls : List Int) (s b : Int), zscan w s b ls (zlbT w ls.tail) = zsc w s b ls
  | [], _, _ => rfl
  | l :: ls, s, b => by
    unfold zscan zsc
    split
    · cases ls with
      | nil => rfl
      | cons x y => exact zscan_zsc w (x :: y) _ _
    · rfl
theorem zlb_nil (w : Int) : zlb w [] = 0 := rfl
theorem zlb_cons (w : Int) (l : Int) (ls : List Int) : zlb w (l :: ls) = zsc w (-1) 1000000 (l :: ls) := zscan_zsc w (l :: ls) (-1) 1000000
theorem zsc_le (w : Int) : ∀ (ls : List Int) (s b : Int), zsc w s b ls ≤ b
  | [], _, _ => Int.le_refl _
  | l :: ls, s, b => by
    unfold zsc
    split
    · exact Int.le_trans (zsc_le w ls _ _) (Int.min_le_left _ _)
    · exact Int.le_refl _
theorem sq_nn (z : Int) : 0 ≤ z * z := by
  rw [← Int.natAbs_mul_self]
  exact Int.natCast_nonneg _
theorem sq_bd {z : Int} {n : Nat} (h : -(n : Int) ≤ z ∧ z ≤ n) : z * z ≤ ((n * n : Nat) : Int) := by
  rw [← Int.natAbs_mul_self]
  have h1 : z.natAbs ≤ n := by omega
  exact Int.ofNat_le.mpr (Nat.mul_le_mul h1 h1)
theorem zlb_nn (w : Int) : ∀ ls : List Int, 0 ≤ zlb w ls ∧ ∀ s b, 0 ≤ b → 0 ≤ zsc w s b ls
  | [] => ⟨Int.le_refl _, fun _ b h => h⟩
  | l :: ls => by
    obtain ⟨h1, h2⟩ := zlb_nn w ls
    have h3 : ∀ s b, 0 ≤ b → 0 ≤ zsc w s b (l :: ls) := by
      intro s b hb
      unfold zsc
      split
      · refine h2 _ _ ?_
        rw [Int.le_min]
        refine ⟨hb, ?_⟩
        have := sq_nn (w - (s + l + 1))
        split <;> omega
      · exact hb
    exact ⟨by rw [zlb_cons]; exact h3 _ _ (by decide), h3⟩
/-- words that all fit -/
def zfit (w : Int) (ls : List Int) : Prop := ∀ l ∈ ls, 1 ≤ l ∧ l ≤ w
theorem zlb_bd {w : Int} (hw : w ≤ 20) : ∀ ls : List Int, zfit w ls → zlb w ls ≤ 400 * ls.length
  | [], _ => by rw [zlb_nil]; simp
  | l :: ls, h => by
    have ih := zlb_bd hw ls (fun x hx => h x (List.mem_cons_of_mem _ hx))
    have hl := h l List.mem_cons_self
    rw [zlb_cons]
    unfold zsc
    rw [if_pos (by omega)]
    refine Int.le_trans (zsc_le w ls _ _) (Int.le_trans (Int.min_le_right _ _) ?_)
    have := sq_bd (z := w - (-1 + l + 1)) (n := 20) (by omega)
    rw [List.length_cons]
    split <;> omega
theorem zsc_over {w s b : Int} : ∀ (ls : List Int), (∀ l ∈ ls, 0 ≤ l) → w < s + 1 → zsc w s b ls = b
  | [], _, _ => rfl
  | l :: ls, h, hs => by
    have hl := h l List.mem_cons_self
    unfold zsc
    rw [if_neg (by omega)]
/-- the first word of a line always fits, however much the best was before -/
theorem zsc_1 {w : Int} {l : Int} {ls : List Int} (hw : w ≤ 20) (hf : zfit w (l :: ls)) (hn : ls.length ≤ 30) {b : Int} (hb : 1000000 ≤ b) : zsc w (-1) b (l :: ls) = zlb w (l :: ls) := by
  have hl := hf l List.mem_cons_self
  have h1 := zlb_bd hw ls (fun x hx => hf x (List.mem_cons_of_mem _ hx))
  have h2 := sq_bd (z := w - (-1 + l + 1)) (n := 20) (by omega)
  have h3 : (if ls = [] then 0 else (w - (-1 + l + 1)) * (w - (-1 + l + 1))) + zlb w ls ≤ 1000000 := by
    split <;> omega
  rw [zlb_cons]
  unfold zsc
  rw [if_pos (show -1 + l + 1 ≤ w by omega), if_pos (show -1 + l + 1 ≤ w by omega), Int.min_eq_right (Int.le_trans h3 hb), Int.min_eq_right h3]
def zlens (a : zAr) : List Int := a.2.2.map (fun w => (w.length : Int))
def sLb (c : zCo) (x : Int) : Int × Int := match zfa (cAr c) x with
  | none => (1, 0)
  | some a => if (a.2.2.all (fun w => decide ((w.length : Int) ≤ cWi c))) = true then (0, zlb (cWi c) (zlens a)) else (2, 0)
theorem zlens_at {a : zAr} {k : Nat} {wd : zWd} (h : a.2.2[k]? = some wd) : (zlens a)[k]? = some (wd.length : Int) := by
  unfold zlens; rw [List.getElem?_map, h]; rfl
theorem zlens_d {a : zAr} {k : Nat} {wd : zWd} (h : a.2.2[k]? = some wd) : (zlens a).drop k = (wd.length : Int) :: (zlens a).drop (k + 1) := by
  obtain ⟨h1, h2⟩ := List.getElem?_eq_some_iff.mp (zlens_at h)
  rw [List.drop_eq_getElem_cons h1, h2]
theorem zlens_l (a : zAr) : (zlens a).length = a.2.2.length := by unfold zlens; simp
theorem zlens_fit {a : zAr} {w ni : Int} (hk : arOK ni a) (h : ∀ wd ∈ a.2.2, (wd.length : Int) ≤ w) : zfit w (zlens a) := by
  intro l hl
  obtain ⟨wd, h1, rfl⟩ := List.mem_map.mp hl
  have := (hk.2.2.2 wd h1).1
  have := h wd h1
  omega
theorem zfit_d {w : Int} {ls : List Int} (h : zfit w ls) (k : Nat) : zfit w (ls.drop k) := fun x hx => h x (List.mem_of_mem_drop hx)
