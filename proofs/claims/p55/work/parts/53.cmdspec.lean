/-! reading and running commands -/
def bh (inp : List Int) (a : Int) : Int := if a < inp.length then inp.getD a.toNat 0 else -1
def zskip (inp : List Int) : List Int → Int → Bool × Int
  | [], a => (false, a)
  | c :: l, a => if bh inp a = c then zskip inp l (a + 1) else (true, a)
def znum (inp : List Int) (l : List Int) (a : Int) : Bool × Int × Int :=
  if (zskip inp l a).1 = true then (true, (zskip inp l a).2, 0)
  else if 48 ≤ bh inp (zskip inp l a).2 ∧ bh inp (zskip inp l a).2 ≤ 57 then
    (if 48 ≤ bh inp ((zskip inp l a).2 + 1) ∧ bh inp ((zskip inp l a).2 + 1) ≤ 57 then (false, (zskip inp l a).2 + 2, 10 * (bh inp (zskip inp l a).2 - 48) + (bh inp ((zskip inp l a).2 + 1) - 48)) else (false, (zskip inp l a).2 + 1, bh inp (zskip inp l a).2 - 48))
  else (true, (zskip inp l a).2, 0)
abbrev zCm : Type := Int × Int × Int
def zcmd (inp : List Int) (a : Int) : Bool × Int × zCm :=
  if bh inp a = 112 ∧ bh inp (a + 1) = 114 then ((zskip inp (zstr 2) a).1, (zskip inp (zstr 2) a).2, (114, 0, 0))
  else if bh inp a = 112 then
    (if (znum inp (zstr 1) a).1 = true then (true, (znum inp (zstr 1) a).2.1, (112, 0, 0))
     else ((znum inp (zstr 5) (znum inp (zstr 1) a).2.1).1, (znum inp (zstr 5) (znum inp (zstr 1) a).2.1).2.1, (112, (znum inp (zstr 1) a).2.2, (znum inp (zstr 5) (znum inp (zstr 1) a).2.1).2.2)))
  else if bh inp a = 100 ∧ bh inp (a + 1) = 114 then ((znum inp (zstr 4) a).1, (znum inp (zstr 4) a).2.1, (120, (znum inp (zstr 4) a).2.2, 0))
  else if bh inp a = 100 then ((znum inp (zstr 3) a).1, (znum inp (zstr 3) a).2.1, (100, (znum inp (zstr 3) a).2.2, 0))
  else ((znum inp (zstr 0) a).1, (znum inp (zstr 0) a).2.1, (119, (znum inp (zstr 0) a).2.2, 0))
def zread (inp : List Int) : Nat → Int → Bool × Int × List zCm
  | 0, a => (true, a, [])
  | n + 1, a => if (zcmd inp a).1 = true then (true, (zcmd inp a).2.1, [])
    else if bh inp (zcmd inp a).2.1 = 59 then ((zread inp n ((zcmd inp a).2.1 + 1)).1, (zread inp n ((zcmd inp a).2.1 + 1)).2.1, (zcmd inp a).2.2 :: (zread inp n ((zcmd inp a).2.1 + 1)).2.2)
    else (false, (zcmd inp a).2.1, [(zcmd inp a).2.2])
/-- the error position, or the commands -/
def zparse (inp : List Int) : Int ⊕ List zCm := if (zread inp 61 0).1 = true ∨ (zread inp 61 0).2.1 < inp.length then .inl (zread inp 61 0).2.1 else .inr (zread inp 61 0).2.2
/-- the input's characters -/
def inOK (inp : List Int) : Prop := inp.length ≤ 60 ∧ ∀ x ∈ inp, 0 ≤ x ∧ x ≤ 65535
theorem bh_in {inp : List Int} {a : Int} (h0 : 0 ≤ a) (h : bh inp a ≠ -1) : a < inp.length := by
  unfold bh at h
  by_cases q : a < inp.length
  · exact q
  · rw [if_neg q] at h; exact absurd rfl h
theorem bh_rng {inp : List Int} (hi : inOK inp) (a : Int) (h0 : 0 ≤ a) : -1 ≤ bh inp a ∧ bh inp a ≤ 65535 := by
  unfold bh
  split
  · rename_i q
    have hl : a.toNat < inp.length := by omega
    have := hi.2 _ (List.getElem_mem hl)
    rw [List.getD_eq_getElem?_getD, List.getElem?_eq_getElem hl]
    simp only [Option.getD_some]
    omega
  · omega
theorem z099 : (0 : Int) ≤ 0 ∧ (0 : Int) ≤ 99 := ⟨by decide, by decide⟩
theorem zskip_ok {inp : List Int} : ∀ (l : List Int) (a : Int), (∀ c ∈ l, c ≠ -1) → 0 ≤ a → a ≤ inp.length → a ≤ (zskip inp l a).2 ∧ (zskip inp l a).2 ≤ inp.length ∧ ((zskip inp l a).1 = false → (zskip inp l a).2 = a + l.length)
  | [], a, _, h0, h1 => ⟨Int.le_refl _, h1, fun _ => by show a = a + (0 : Nat); omega⟩
  | c :: l, a, hc, h0, h1 => by
    unfold zskip
    split
    · rename_i q
      have hl := bh_in h0 (by rw [q]; exact hc c List.mem_cons_self)
      obtain ⟨z1, z2, z3⟩ := zskip_ok (inp := inp) l (a + 1) (fun x hx => hc x (List.mem_cons_of_mem _ hx)) (by omega) (by omega)
      refine ⟨by omega, z2, fun z => ?_⟩
      rw [z3 z, List.length_cons]
      omega
    · exact ⟨Int.le_refl _, h1, fun z => by cases z⟩
theorem znum_ok {inp l : List Int} {a : Int} (hc : ∀ c ∈ l, c ≠ -1) (h0 : 0 ≤ a) (h1 : a ≤ inp.length) : a ≤ (znum inp l a).2.1 ∧ (znum inp l a).2.1 ≤ inp.length ∧ (0 ≤ (znum inp l a).2.2 ∧ (znum inp l a).2.2 ≤ 99) ∧ ((znum inp l a).1 = false → a + l.length + 1 ≤ (znum inp l a).2.1) := by
  obtain ⟨z1, z2, z3⟩ := zskip_ok l a hc h0 h1
  unfold znum
  split
  · exact ⟨z1, z2, z099, fun z => by cases z⟩
  · rename_i q
    have q := Bool.eq_false_iff.mpr q
    split
    · rename_i d1
      have hl := bh_in (inp := inp) (a := (zskip inp l a).2) (by omega) (by omega)
      split
      · rename_i d2
        have hl2 := bh_in (inp := inp) (a := (zskip inp l a).2 + 1) (by omega) (by omega)
        have z4 := z3 q
        refine ⟨?_, ?_, ⟨?_, ?_⟩, fun _ => ?_⟩ <;> simp only [] <;> omega
      · have z4 := z3 q
        refine ⟨?_, ?_, ⟨?_, ?_⟩, fun _ => ?_⟩ <;> simp only [] <;> omega
    · exact ⟨z1, z2, z099, fun z => by cases z⟩
theorem zstr_ne (j : Nat) : ∀ c ∈ zstr j, c ≠ -1 := by
  unfold zstr
  split <;> decide
theorem zstr_len (j : Nat) (h : j < 5) : 5 ≤ (zstr j).length := by
  have h2 : j = 0 ∨ j = 1 ∨ j = 2 ∨ j = 3 ∨ j = 4 := by omega
  rcases h2 with rfl | rfl | rfl | rfl | rfl <;> decide
/-- what a command can be -/
def cmOK (q : zCm) : Prop := (q.1 = 114 ∨ q.1 = 112 ∨ q.1 = 120 ∨ q.1 = 100 ∨ q.1 = 119) ∧ (0 ≤ q.2.1 ∧ q.2.1 ≤ 99) ∧ 0 ≤ q.2.2 ∧ q.2.2 ≤ 99
theorem zcmd_ok {inp : List Int} {a : Int} (h0 : 0 ≤ a) (h1 : a ≤ inp.length) : a ≤ (zcmd inp a).2.1 ∧ (zcmd inp a).2.1 ≤ inp.length ∧ ((zcmd inp a).1 = false → a + 5 ≤ (zcmd inp a).2.1) ∧ cmOK (zcmd inp a).2.2 := by
  have hn : ∀ j, j < 5 → _ := fun j hj => (znum_ok (inp := inp) (zstr_ne j) h0 h1 : _)
  unfold zcmd
  split
  · obtain ⟨z1, z2, z3⟩ := zskip_ok (inp := inp) (zstr 2) a (zstr_ne 2) h0 h1
    refine ⟨z1, z2, fun z => ?_, Or.inl rfl, z099, z099⟩
    have := z3 z
    have := zstr_len 2 (by decide)
    simp only [] at *
    omega
  · split
    · obtain ⟨z1, z2, z3, z4⟩ := hn 1 (by decide)
      have hl := zstr_len 1 (by decide)
      split
      · exact ⟨z1, z2, (fun z => by cases z), Or.inr (Or.inl rfl), z099, z099⟩
      · rename_i q
        have q := Bool.eq_false_iff.mpr q
        obtain ⟨y1, y2, y3, y4⟩ := znum_ok (inp := inp) (zstr_ne 5) (a := (znum inp (zstr 1) a).2.1) (by omega) z2
        have z5 := z4 q
        refine ⟨by simp only []; omega, y2, fun z => by simp only []; omega, Or.inr (Or.inl rfl), z3, y3⟩
    · split
      · obtain ⟨z1, z2, z3, z4⟩ := hn 4 (by decide)
        have hl := zstr_len 4 (by decide)
        refine ⟨z1, z2, fun z => ?_, Or.inr (Or.inr (Or.inl rfl)), z3, z099⟩
        have := z4 z
        simp only [] at *
        omega
      · split
        · obtain ⟨z1, z2, z3, z4⟩ := hn 3 (by decide)
          have hl := zstr_len 3 (by decide)
          refine ⟨z1, z2, fun z => ?_, Or.inr (Or.inr (Or.inr (Or.inl rfl))), z3, z099⟩
          have := z4 z
          simp only [] at *
          omega
        · obtain ⟨z1, z2, z3, z4⟩ := hn 0 (by decide)
          have hl := zstr_len 0 (by decide)
          refine ⟨z1, z2, fun z => ?_, Or.inr (Or.inr (Or.inr (Or.inr rfl))), z3, z099⟩
          have := z4 z
          simp only [] at *
          omega
theorem zread_s {inp : List Int} {n : Nat} {a : Int} : zread inp (n + 1) a = if (zcmd inp a).1 = true then (true, (zcmd inp a).2.1, [])
    else if bh inp (zcmd inp a).2.1 = 59 then ((zread inp n ((zcmd inp a).2.1 + 1)).1, (zread inp n ((zcmd inp a).2.1 + 1)).2.1, (zcmd inp a).2.2 :: (zread inp n ((zcmd inp a).2.1 + 1)).2.2)
    else (false, (zcmd inp a).2.1, [(zcmd inp a).2.2]) := rfl
/-- the whole reading, seen behind n commands at position a -/
def zsofar (inp : List Int) (cs : List zCm) (a : Int) : Prop := (6 * (cs.length : Int) - 1 ≤ a ∧ a ≤ inp.length) ∧ 1 ≤ cs.length ∧ (∀ q ∈ cs, cmOK q) ∧
  zread inp 61 0 = if bh inp a = 59 then ((zread inp (61 - cs.length) (a + 1)).1, (zread inp (61 - cs.length) (a + 1)).2.1, cs ++ (zread inp (61 - cs.length) (a + 1)).2.2) else (false, a, cs)
theorem zsofar_1 {inp : List Int} (h : (zcmd inp 0).1 = false) : zsofar inp [(zcmd inp 0).2.2] (zcmd inp 0).2.1 := by
  obtain ⟨z1, z2, z3, z4⟩ := zcmd_ok (inp := inp) (a := 0) (by decide) (by omega)
  have z5 := z3 h
  refine ⟨⟨by rw [List.length_singleton]; omega, z2⟩, Nat.le_refl 1, fun q hq => by rw [List.mem_singleton.mp hq]; exact z4, ?_⟩
  rw [show (61 : Nat) = 60 + 1 from rfl, zread_s, h]
  simp
theorem zsofar_s {inp : List Int} {cs : List zCm} {a : Int} (hi : inp.length ≤ 60) (h : zsofar inp cs a) (hb : bh inp a = 59) : a + 1 ≤ inp.length ∧ cs.length ≤ 10 ∧ (((zcmd inp (a + 1)).1 = true ∧ (zread inp 61 0).1 = true ∧ (zread inp 61 0).2.1 = (zcmd inp (a + 1)).2.1) ∨ ((zcmd inp (a + 1)).1 = false ∧ zsofar inp (cs ++ [(zcmd inp (a + 1)).2.2]) (zcmd inp (a + 1)).2.1)) := by
  obtain ⟨⟨h1, h2⟩, h3, h4, h5⟩ := h
  have hl := bh_in (inp := inp) (a := a) (by omega) (by omega)
  have hn : cs.length ≤ 10 := by omega
  refine ⟨by omega, hn, ?_⟩
  rw [if_pos hb, show 61 - cs.length = (60 - cs.length) + 1 by omega, zread_s (n := 60 - cs.length) (a := a + 1)] at h5
  obtain ⟨z1, z2, z3, z4⟩ := zcmd_ok (inp := inp) (a := a + 1) (by omega) (by omega)
  by_cases q : (zcmd inp (a + 1)).1 = true
  · left
    rw [if_pos q] at h5
    rw [h5]
    exact ⟨q, rfl, rfl⟩
  · right
    rw [if_neg q] at h5
    have q := Bool.eq_false_iff.mpr q
    have z5 := z3 q
    refine ⟨q, ⟨by rw [List.length_append, List.length_singleton]; omega, z2⟩, by simp, fun y hy => ?_, ?_⟩
    · rcases List.mem_append.mp hy with e | e
      · exact h4 y e
      · rw [List.mem_singleton.mp e]; exact z4
    · rw [h5, List.length_append, List.length_singleton, show 61 - (cs.length + 1) = 60 - cs.length by omega]
      split <;> simp
theorem zsofar_e {inp : List Int} {cs : List zCm} {a : Int} (h : zsofar inp cs a) (hb : bh inp a ≠ 59) : zparse inp = if a < inp.length then .inl a else .inr cs := by
  have h5 := h.2.2.2
  rw [if_neg hb] at h5
  unfold zparse
  rw [h5]
  simp
theorem zparse_w {inp : List Int} {a : Int} (h1 : (zread inp 61 0).1 = true) (h2 : (zread inp 61 0).2.1 = a) : zparse inp = .inl a := by
  unfold zparse
  rw [if_pos (Or.inl h1), h2]
theorem zparse_w1 {inp : List Int} (h : (zcmd inp 0).1 = true) : (zread inp 61 0).1 = true ∧ (zread inp 61 0).2.1 = (zcmd inp 0).2.1 := by
  rw [show (61 : Nat) = 60 + 1 from rfl, zread_s, if_pos h]
  exact ⟨rfl, rfl⟩
/-- one command -/
def zdo (c : zCo) (q : zCm) : Int × zCo × Int := if q.1 = 114 then sPrt c else if q.1 = 112 then sPag c q.2.1 q.2.2 else if q.1 = 120 then sRem c q.2.1 else if q.1 = 100 then sDay c q.2.1 else sWid c q.2.1
/-- all commands from number k on: the one that failed, or the new state -/
def zrun : List zCm → zCo → Nat → Nat ⊕ zCo
  | [], c, _ => .inr c
  | q :: l, c, k => if (zdo c q).1 = 0 then zrun l (zdo c q).2.1 (k + 1) else .inl k
theorem zdo_p (c : zCo) (q : zCm) : 0 ≤ (zdo c q).1 := by
  unfold zdo
  split
  · exact sPrt_p c
  · split
    · exact sPag_p _ _ _
    · split
      · exact sRem_p _ _
      · split
        · exact sDay_p _ _
        · exact sWid_p _ _
/-- execute: which exception, the new state, the answer, the error position and the failed command kept -/
def sExe (c : zCo) (inp : List Int) (er fa : Int) : (Int × zCo × Int) × Int × Int := match zparse inp with
  | .inl p => ((1, c, 0), p, fa)
  | .inr cs => match zrun cs c 0 with
    | .inl k => ((2, c, 0), er, k)
    | .inr c' => ((0, c', cs.length), er, fa)
/-- what holds behind j commands of one call -/
def cOKj (N j : Nat) (c : zCo) : Prop := cOK (N + 1) c ∧ cNi c ≤ N ∧ cNn c ≤ 10 * N + j ∧ cDa c ≤ 300 * N + 30 * j
theorem cOK_mono {N M : Nat} {c : zCo} (h : cOK N c) (hm : N ≤ M) : cOK M c := by
  obtain ⟨h1, h2, h3, h4, h5, h6, h7, h8, h9, h10, h11, h12, h13⟩ := h
  exact ⟨h1, h2, h3, h4, h5, h6, ⟨h7.1, by omega⟩, ⟨h8.1, by omega⟩, h9, h10, h11, ⟨h12.1, by omega⟩, h13.1, by omega⟩
theorem cOKj_0 {N : Nat} {c : zCo} (h : cOK N c) : cOKj N 0 c := ⟨cOK_mono h (by omega), h.2.2.2.2.2.2.1.2, by have := h.2.2.2.2.2.2.2.1.2; omega, by have := h.2.2.2.2.2.2.2.2.2.2.2.1.2; omega⟩
