/-! A new state takes the place of the current one. -/
section GS2
variable {cs : Nat → ClassId} {F F1 : zF} {ob : Nat} {g : Nat → Nat} {sa : Nat} {so : Option Nat} {hL : List Nat} {tx inp out : List Int} {c0 : zCo} {sv : Option zCo} {hs : List zCo} {er fa : Int}
theorem gOb.mon (_h : gOb cs F ob g sa so hL tx inp out c0 sv hs er fa) {J : List Nat} (hJ : ∀ j, j ∈ J → j < 16) (hk : zko (J.map g) F F1) {a q : Nat} (ha : a < 16) (hq : q = g a ∨ F q = none) : zle (zrm (gMl g ob) F) (zrm (gMl (gup g a q) ob) F1) := by
  refine zrm_step hk (fun o ho => ?_) (fun x hx => ?_)
  · obtain ⟨j, h1, h2⟩ := List.mem_map.mp ho
    rw [← h2]; exact Or.inl (gMl_g (hJ j h1))
  · rcases gMl_c hx with e | ⟨i, hi, e⟩
    · rw [e]; exact Or.inl gMl_ob
    · by_cases c : i = a
      · rw [c, gup_s] at e
        rw [← e]
        rcases hq with z | z
        · rw [z]; exact Or.inl (gMl_g ha)
        · exact Or.inr z
      · rw [gup_n c] at e
        rw [← e]; exact Or.inl (gMl_g hi)
/-- none of its cells is of a kind that never changes -/
theorem gOb.niM (h : gOb cs F ob g sa so hL tx inp out c0 sv hs er fa) (h54 : cs 5 ≠ cs 4) (h8 : F (cs 8) = none) : ∀ o, o ∈ gMl g ob → zNi cs F o := fun o ho => by
  rcases gMl_c ho with e | ⟨i, hi, e⟩
  · rw [e]; exact zNi.o h.1 (by decide)
  · rw [← e]
    obtain ⟨-, -, ⟨f1, a1, a2, -⟩, ⟨f2, b1, b2, -⟩, ⟨cap, ml, f3, d1, d2, d3, -⟩, ⟨wd, st, f4, e4, k1, k2, k3, -⟩, ⟨m1, e5, m2⟩, ⟨pos, L, n1, n2⟩, hH, -⟩ := h
    obtain ⟨fn2, hn2⟩ := n2.o
    obtain ⟨fnH, hnH⟩ := hH.o
    match i, hi with
    | 0, _ => exact zNi.o a1 (by decide)
    | 1, _ => exact zNi.i a2 (by decide)
    | 2, _ => exact zNi.o b1 (by decide)
    | 3, _ => exact zNi.i b2 (by decide)
    | 4, _ => exact zNi.o d1 (by decide)
    | 5, _ => exact zNi.i d2 (by omega)
    | 6, _ => exact zNi.o k1 (by decide)
    | 7, _ => exact zNi.i k2 (by decide)
    | 8, _ => exact zNi.i k3 (by decide)
    | 9, _ => exact zNi.o m1 (by decide)
    | 10, _ => exact zNi.i m2 (by decide)
    | 11, _ => exact zNi.o n1 (by decide)
    | 12, _ => exact zNi.o hn2 (by decide)
    | 13, _ => exact n2.niR h54 h8
    | 14, _ => exact zNi.o hnH (by decide)
    | 15, _ => exact hH.niR h54 h8
    | k + 16, hi => exact absurd hi (by omega)
/-- a state whose own cells are new is no cell that is written to -/
theorem gOb.nst (h : gOb cs F ob g sa so hL tx inp out c0 sv hs er fa) (h2 : gOb cs F1 ob g sa so hL tx inp out c0 sv hs er fa) (h54 : cs 5 ≠ cs 4) (h8 : F1 (cs 8) = none) {nx la ra li ri : Nat} {c1 : zCo} (hb : bSt cs F1 nx la ra li ri c1) (n1 : F nx = none) (n2 : F la = none) (n3 : F li = none) (n4 : F ra = none) (n5 : F ri = none) : rSt cs (zrm (gMl g ob) F1) nx c1 := by
  have key : ∀ {q : Nat}, F q = none → F1 q ≠ none → q ∉ gMl g ob := fun {q} hq hq1 c => by
    rcases gMl_c c with e | ⟨i, hi, e⟩
    · rw [e, h.1] at hq; cases hq
    · rcases h.kn i hi with k | k
      · rw [e] at k; exact k hq
      · rw [← e, k] at hq1; exact hq1 h8
  have hni := h2.niM h54 h8
  have hk : zko (gMl g ob) F1 (zrm (gMl g ob) F1) := zrm_ko
  obtain ⟨aL, iL, b1, b2, b3, b4, b5, b6, b7⟩ := hb
  exact ⟨la, li, aL, iL, hk _ _ b1 (key n1 (by rw [b1]; exact fun z => by cases z)), ⟨ra, b2.keepC hk (key n2 b2.kn.1) (fun f hf => key n4 (by rw [hf]; exact fun z => by cases z))⟩, ⟨ri, b3.keepC hk (key n3 b3.kn.1) (fun f hf => key n5 (by rw [hf]; exact fun z => by cases z))⟩, b4.keepO hk hni, b5.keepO hk hni⟩
theorem pushH_8 {hs : List zCo} {c : zCo} (h : hs.length = 8) : (hs ++ [c]).eraseIdx (0 : Int).toNat = pushH hs c := by
  unfold pushH
  rw [if_pos h]
  cases hs with
  | nil => cases h
  | cons a t => rfl
theorem pushH_n {hs : List zCo} {c : zCo} (h : hs.length ≠ 8) : hs ++ [c] = pushH hs c := by
  unfold pushH
  rw [if_neg h]
theorem hst_app {P : zF} {cs : Nat → ClassId} {hL : List Nat} {hs : List zCo} {q : Nat} {c : zCo} (hl : hL.length = hs.length) (h : ∀ k : Nat, k < hs.length → rSt cs P (hL.getD k 0) (hs.getD k cNew)) (hq : rSt cs P q c) : ∀ k : Nat, k < (hs ++ [c]).length → rSt cs P ((hL ++ [q]).getD k 0) ((hs ++ [c]).getD k cNew) := fun k hk => by
  rw [List.length_append, List.length_singleton] at hk
  rw [List.getD_eq_getElem?_getD, List.getD_eq_getElem?_getD]
  by_cases e : k < hs.length
  · rw [List.getElem?_append_left (by omega), List.getElem?_append_left e, ← List.getD_eq_getElem?_getD, ← List.getD_eq_getElem?_getD]
    exact h k e
  · rw [List.getElem?_append_right (by omega), List.getElem?_append_right (by omega), show k - hL.length = 0 by omega, show k - hs.length = 0 by omega]
    exact hq
theorem hst_era {P : zF} {cs : Nat → ClassId} {hL : List Nat} {hs : List zCo} {i : Nat} (hi : i < hs.length) (hl : hL.length = hs.length) (h : ∀ k : Nat, k < hs.length → rSt cs P (hL.getD k 0) (hs.getD k cNew)) : ∀ k : Nat, k < (hs.eraseIdx i).length → rSt cs P ((hL.eraseIdx i).getD k 0) ((hs.eraseIdx i).getD k cNew) := fun k hk => by
  rw [List.length_eraseIdx, if_pos hi] at hk
  rw [List.getD_eq_getElem?_getD, List.getD_eq_getElem?_getD, List.getElem?_eraseIdx, List.getElem?_eraseIdx]
  by_cases e : k < i
  · rw [if_pos e, if_pos e, ← List.getD_eq_getElem?_getD, ← List.getD_eq_getElem?_getD]
    exact h k (by omega)
  · rw [if_neg e, if_neg e, ← List.getD_eq_getElem?_getD, ← List.getD_eq_getElem?_getD]
    exact h (k + 1) (by omega)
theorem hst_el {P : zF} {cs : Nat → ClassId} {hL : List Nat} {hs : List zCo} (hl : hL.length = hs.length) (h : ∀ k : Nat, k < hs.length → rSt cs P (hL.getD k 0) (hs.getD k cNew)) (hP : zle P F) : ∀ k : Int, 0 ≤ k → k < hL.length → zEl F (hL.getD k.toNat 0) := fun k k0 k1 => by
  obtain ⟨_, _, _, _, y, -⟩ := (h k.toNat (by omega)).mono hP
  exact ⟨13, 9, RX10, TX10, _, y, rfl, q_2165⟩
end GS2
