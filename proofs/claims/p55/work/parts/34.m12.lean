def zwt (s : Int) : List zWd → List Int
  | [] => []
  | w :: ws => s :: (w ++ zwt 32 ws)
/-- an article as it is written -/
def zart (a : zAr) : List Int := zdig a.1 ++ [33] ++ zdig a.2.1 ++ zwt 58 a.2.2
theorem zwt_app (s : Int) : ∀ (l1 l2 : List zWd), zwt s (l1 ++ l2) = zwt s l1 ++ zwt (if l1 = [] then s else 32) l2
  | [], l2 => by simp [zwt]
  | w :: ws, l2 => by
    show s :: (w ++ zwt 32 (ws ++ l2)) = s :: (w ++ zwt 32 ws) ++ zwt _ l2
    rw [zwt_app 32 ws l2, ite_self, if_neg (List.cons_ne_nil _ _)]
    simp
theorem zwt_s {ws : List zWd} {k : Int} {wd : zWd} (h0 : 0 ≤ k) (hw : ws[k.toNat]? = some wd) : zwt 58 (ws.take (k + 1).toNat) = zwt 58 (ws.take k.toNat) ++ [if k = 0 then 58 else 32] ++ wd := by
  have hl := (List.getElem?_eq_some_iff.mp hw).1
  rw [show (k + 1).toNat = k.toNat + 1 by omega, List.take_add_one, hw]
  show zwt 58 (ws.take k.toNat ++ [wd]) = _
  rw [zwt_app]
  have e : (if ws.take k.toNat = [] then (58 : Int) else 32) = if k = 0 then 58 else 32 := by
    by_cases q : k = 0
    · subst q; simp
    · rw [if_neg q, if_neg]
      intro z
      have := congrArg List.length z
      rw [List.length_take, List.length_nil] at this
      omega
  rw [e]
  simp [zwt]
theorem zwt_len (s : Int) : ∀ (ws : List zWd), (∀ w ∈ ws, wdOK w) → (zwt s ws).length ≤ 13 * ws.length
  | [], _ => Nat.le_refl 0
  | w :: ws, h => by
    have h1 := (h w List.mem_cons_self).1.2
    have h2 := zwt_len 32 ws (fun x hx => h x (List.mem_cons_of_mem _ hx))
    show (s :: (w ++ zwt 32 ws)).length ≤ _
    simp
    omega
theorem zdig_len (x : Int) : (zdig x).length ≤ 3 ∧ 1 ≤ (zdig x).length := by
  unfold zdig; split
  · simp
  · split <;> simp
def sWr (c : zCo) (x : Int) : Int × List Int := match zfa (cAr c) x with
  | none => (1, [])
  | some a => (0, zart a)
