/-! removing an article, replacing a word, the order of articles -/
def cRem (c : zCo) (i : Nat) : zCo := ((cAr c).eraseIdx i, cIs c, cNi c, cNn c, cWi c, cCo c, cHe c, cDa c, cLa c)
def sRem (c : zCo) (x : Int) : Int × zCo × Int := match zix (cAr c) x with
  | none => (1, c, 0)
  | some i => (0, cRem c i, (cAr c).length - 1)
theorem sRem_p (c : zCo) (x : Int) : 0 ≤ (sRem c x).1 := by
  unfold sRem
  split <;> simp
theorem mR_rem {N : Nat} {f f' : Int → Int} {c : zCo} {i : Nat} (h : mR f c) (hK : cOK N c) (hi : i < (cAr c).length) (h0 : f' 0 = f 0 - 1) (h1 : ∀ k : Int, 1 ≤ k → k < 9 + 393 * i → f' k = f k) (h2 : ∀ k : Int, 9 + 393 * i ≤ k → k < 9 + 393 * ((cAr c).length - 1) → f' k = f (k + 393)) (h3 : ∀ k : Int, 2367 ≤ k → f' k = f k) : mR f' (cRem c i) := by
  obtain ⟨e0, e1, e2, e3, e4, e5, e6, e7, e8, ha, hs⟩ := h
  have hla := hK.1
  have hli := hK.2.1
  refine ⟨?_, (h1 1 (by omega) (by omega)).trans e1, (h1 2 (by omega) (by omega)).trans e2, (h1 3 (by omega) (by omega)).trans e3, (h1 4 (by omega) (by omega)).trans e4, (h1 5 (by omega) (by omega)).trans e5, (h1 6 (by omega) (by omega)).trans e6, (h1 7 (by omega) (by omega)).trans e7, (h1 8 (by omega) (by omega)).trans e8, fun j a hA => ?_, fun j s hS => ?_⟩
  · show f' 0 = (((cAr c).eraseIdx i).length : Int)
    rw [List.length_eraseIdx_of_lt hi, h0, e0]
    omega
  · have hA : ((cAr c).eraseIdx i)[j]? = some a := hA
    rw [List.getElem?_eraseIdx] at hA
    split at hA
    · rename_i q
      refine rAr_cong (ha j a hA) (hK.2.2.1 a (List.mem_of_getElem? hA)) (fun k z1 z2 => ?_)
      exact h1 _ (by omega) (by omega)
    · rename_i q
      have hl := (List.getElem?_eq_some_iff.mp hA).1
      obtain ⟨b1, b2, b3, b4⟩ := ha (j + 1) a hA
      have hk := hK.2.2.1 a (List.mem_of_getElem? hA)
      have key : ∀ k : Int, 0 ≤ k → k < 393 → mof f' j k = mof f ((j + 1 : Nat) : Int) k := by
        intro k z1 z2
        unfold mof
        rw [h2 _ (by omega) (by omega)]
        congr 1
        push_cast
        omega
      refine ⟨(key 0 (by omega) (by omega)).trans b1, (key 1 (by omega) (by omega)).trans b2, (key 2 (by omega) (by omega)).trans b3, fun w wd hw => ?_⟩
      have hwl := (List.getElem?_eq_some_iff.mp hw).1
      have hw30 := hk.2.2.1.2
      have hwd := (hk.2.2.2 wd (List.mem_of_getElem? hw)).1
      refine ⟨(key _ (by omega) (by omega)).trans (b4 w wd hw).1, fun k x hx => ?_⟩
      have hkl := (List.getElem?_eq_some_iff.mp hx).1
      exact (key _ (by omega) (by omega)).trans ((b4 w wd hw).2 k x hx)
  · have hS : (cIs c)[j]? = some s := hS
    have hil := (List.getElem?_eq_some_iff.mp hS).1
    refine rIs_cong (hs j s hS) (hK.2.2.2.2.1 s (List.mem_of_getElem? hS)) (fun k z1 z2 => ?_)
    exact h3 _ (by omega)
/-- a word is replaced -/
def cCor (c : zCo) (i : Nat) (a : zAr) (w : Nat) (wd : zWd) (late : Bool) : zCo := ((cAr c).set i (a.1, a.2.1, a.2.2.set w wd), cIs c, cNi c, cNn c, cWi c, cCo c, cHe c, cDa c, cLa c + (if late then 1 else 0))
def zlate (c : zCo) (x : Int) : Bool := (cIs c).any (fun s => (zft s x).isSome)
def sCor (c : zCo) (x b : Int) (tx : List Int) : Int × zCo × Int := match zix (cAr c) x with
  | none => (1, c, 0)
  | some i => match (cAr c)[i]? with
    | none => (1, c, 0)
    | some a => match zwd a b with
      | none => (2, c, 0)
      | some wd => if zatB tx = true ∧ (zsp tx).length = 1 then (0, cCor c i a b.toNat ((zsp tx).headD []) (zlate c x), wd.length) else (3, c, 0)
theorem sCor_p (c : zCo) (x b : Int) (tx : List Int) : 0 ≤ (sCor c x b tx).1 := by
  unfold sCor
  split
  · exact (by decide : (0 : Int) ≤ 1)
  · split
    · exact (by decide : (0 : Int) ≤ 1)
    · split
      · simp
      · split <;> simp
theorem mR_cor {N : Nat} {f f' : Int → Int} {c : zCo} {i w : Nat} {a : zAr} {wd : zWd} {late : Bool} (h : mR f c) (hK : cOK N c) (hi : (cAr c)[i]? = some a) (hw : w < a.2.2.length) (hwl : wd.length ≤ 12) (h6 : f' 6 = f 6 + (if late then 1 else 0)) (hfr : ∀ k : Int, k ≠ 6 → (k < 9 + 393 * i + (3 + 13 * w) ∨ 9 + 393 * i + (3 + 13 * w) + 13 ≤ k) → f' k = f k)
    (hl : mof f' i (3 + 13 * w) = wd.length) (hx : ∀ (k : Nat) (x : Int), wd[k]? = some x → mof f' i (3 + 13 * w + 1 + k) = x) : mR f' (cCor c i a w wd late) := by
  obtain ⟨e0, e1, e2, e3, e4, e5, e6, e7, e8, ha, hs⟩ := h
  have hla := hK.1
  have hli := hK.2.1
  have hil := (List.getElem?_eq_some_iff.mp hi).1
  have hka := hK.2.2.1 a (List.mem_of_getElem? hi)
  have hw30 := hka.2.2.1.2
  refine ⟨?_, (hfr 1 (by omega) (by omega)).trans e1, (hfr 2 (by omega) (by omega)).trans e2, (hfr 3 (by omega) (by omega)).trans e3, (hfr 4 (by omega) (by omega)).trans e4, (hfr 5 (by omega) (by omega)).trans e5, ?_, (hfr 7 (by omega) (by omega)).trans e7, (hfr 8 (by omega) (by omega)).trans e8, fun j b hA => ?_, fun j s hS => ?_⟩
  · show f' 0 = (((cAr c).set i _).length : Int)
    rw [List.length_set, hfr 0 (by omega) (by omega), e0]
  · show f' 6 = cLa c + _
    rw [h6, e6]
  · replace hA : ((cAr c).set i (a.1, a.2.1, a.2.2.set w wd))[j]? = some b := hA
    rw [List.getElem?_set] at hA
    by_cases q : i = j
    · subst q
      rw [if_pos rfl, if_pos hil] at hA
      cases hA
      obtain ⟨b1, b2, b3, b4⟩ := ha i a hi
      refine ⟨(hfr _ (by omega) (by omega)).trans b1, (hfr _ (by omega) (by omega)).trans b2, (hfr _ (by omega) (by omega)).trans ?_, fun u ud hu => ?_⟩
      · show f (9 + 393 * i + 2) = ((a.2.2.set w wd).length : Int)
        rw [List.length_set]; exact b3
      · replace hu : (a.2.2.set w wd)[u]? = some ud := hu
        rw [List.getElem?_set] at hu
        by_cases z : w = u
        · subst z
          rw [if_pos rfl, if_pos hw] at hu
          cases hu
          exact ⟨hl, hx⟩
        · rw [if_neg z] at hu
          have hul := (List.getElem?_eq_some_iff.mp hu).1
          have hud := (hka.2.2.2 ud (List.mem_of_getElem? hu)).1
          refine ⟨(hfr _ (by omega) (by omega)).trans (b4 u ud hu).1, fun k x hx2 => ?_⟩
          have hkl := (List.getElem?_eq_some_iff.mp hx2).1
          exact (hfr _ (by omega) (by omega)).trans ((b4 u ud hu).2 k x hx2)
    · rw [if_neg q] at hA
      have hjl := (List.getElem?_eq_some_iff.mp hA).1
      refine rAr_cong (ha j b hA) (hK.2.2.1 b (List.mem_of_getElem? hA)) (fun k z1 z2 => ?_)
      exact hfr _ (by omega) (by omega)
  · have hS : (cIs c)[j]? = some s := hS
    have hil := (List.getElem?_eq_some_iff.mp hS).1
    refine rIs_cong (hs j s hS) (hK.2.2.2.2.1 s (List.mem_of_getElem? hS)) (fun k z1 z2 => ?_)
    exact hfr _ (by omega) (by omega)
/-- o is considered before a -/
def zbf (o a : zAr) : Bool := decide (a.2.1 < o.2.1) || (decide (o.2.1 = a.2.1) && decide (o.1 < a.1))
theorem zbf_iff {o a : zAr} : zbf o a = true ↔ (a.2.1 < o.2.1 ∨ (o.2.1 = a.2.1 ∧ o.1 < a.1)) := by
  unfold zbf; simp
/-- how many are considered before a -/
def zah (l : List zAr) (a : zAr) : Nat := l.countP (fun o => zbf o a)
def zrk (l : List zAr) (k : Int) : Option zAr := l.find? (fun a => decide ((zah l a : Int) = k))
theorem countP_lt {α : Type} {p q : α → Bool} {l : List α} (h : ∀ x ∈ l, p x = true → q x = true) {y : α} (hy : y ∈ l) (h1 : p y = false) (h2 : q y = true) : l.countP p < l.countP q := by
  induction l with
  | nil => cases hy
  | cons z l ih =>
    rw [List.countP_cons, List.countP_cons]
    have hle : l.countP p ≤ l.countP q := List.countP_mono_left (fun x hx => h x (List.mem_cons_of_mem _ hx))
    rcases List.mem_cons.mp hy with e | hm
    · subst e
      rw [h1, h2]
      simp
      omega
    · have := ih (fun x hx => h x (List.mem_cons_of_mem _ hx)) hm
      have hz := h z List.mem_cons_self
      cases hp : p z with
      | false => simp; split <;> omega
      | true => rw [hz hp]; simp; omega
theorem zah_lt {l : List zAr} {a b : zAr} (ha : a ∈ l) (h : zbf a b = true) : zah l a < zah l b := by
  unfold zah
  refine countP_lt (fun x _ hx => ?_) ha ?_ h
  · rw [zbf_iff] at *
    omega
  · cases hq : zbf a a with
    | false => rfl
    | true => rw [zbf_iff] at hq; omega
theorem zah_inj {l : List zAr} (hs : l.Pairwise (fun a b => a.1 < b.1)) {i j : Nat} {a b : zAr} (ha : l[i]? = some a) (hb : l[j]? = some b) (h : zah l a = zah l b) : i = j := by
  obtain ⟨h1, e1⟩ := List.getElem?_eq_some_iff.mp ha
  obtain ⟨h2, e2⟩ := List.getElem?_eq_some_iff.mp hb
  rcases Nat.lt_trichotomy i j with q | q | q
  · exfalso
    have := List.pairwise_iff_getElem.mp hs i j h1 h2 q
    rw [e1, e2] at this
    have hc : zbf a b = true ∨ zbf b a = true := by rw [zbf_iff, zbf_iff]; omega
    rcases hc with z | z
    · have := zah_lt (List.mem_of_getElem? ha) z; omega
    · have := zah_lt (List.mem_of_getElem? hb) z; omega
  · exact q
  · exfalso
    have := List.pairwise_iff_getElem.mp hs j i h2 h1 q
    rw [e1, e2] at this
    have hc : zbf a b = true ∨ zbf b a = true := by rw [zbf_iff, zbf_iff]; omega
    rcases hc with z | z
    · have := zah_lt (List.mem_of_getElem? ha) z; omega
    · have := zah_lt (List.mem_of_getElem? hb) z; omega
theorem zah_bd {l : List zAr} {a : zAr} (ha : a ∈ l) : zah l a < l.length := by
  have h1 : l.countP (fun _ => true) = l.length := by simp
  have : zah l a < l.countP (fun _ => true) := by
    refine countP_lt (fun _ _ _ => rfl) ha ?_ rfl
    cases hq : zbf a a with
    | false => rfl
    | true => rw [zbf_iff] at hq; omega
  omega
theorem nodup_len : ∀ (n : Nat) (l : List Nat), l.Nodup → (∀ x ∈ l, x < n) → l.length ≤ n
  | 0, l, _, h => by
    cases l with
    | nil => simp
    | cons x l => exact absurd (h x List.mem_cons_self) (by omega)
  | n + 1, l, hn, h => by
    by_cases q : n ∈ l
    · have h1 := nodup_len n (l.erase n) (hn.erase n) (fun x hx => by
        have h2 := (hn.mem_erase_iff).mp hx
        have h3 := h x h2.2
        have h4 := h2.1
        omega)
      have h5 := List.length_erase_of_mem q
      have h6 : 0 < l.length := List.length_pos_of_mem q
      omega
    · have h1 := nodup_len n l hn (fun x hx => by
        have h3 := h x hx
        have h4 : x ≠ n := fun e => q (e ▸ hx)
        omega)
      omega
theorem zrk_ex {l : List zAr} (hs : l.Pairwise (fun a b => a.1 < b.1)) {k : Nat} (hk : k < l.length) : ∃ (j : Nat) (a : zAr), l[j]? = some a ∧ zah l a = k := by
  have hin : k ∈ l.map (fun a => zah l a) := by
    refine Decidable.byContradiction (fun q => ?_)
    have hnd : (l.map (fun a => zah l a)).Nodup := by
      rw [List.nodup_iff_pairwise_ne] 
      rw [List.pairwise_iff_getElem]
      intro i j hi hj hij he
      rw [List.length_map] at hi hj
      rw [List.getElem_map, List.getElem_map] at he
      have := zah_inj hs (List.getElem?_eq_getElem hi) (List.getElem?_eq_getElem hj) he
      omega
    have h1 := nodup_len l.length (k :: l.map (fun a => zah l a)) (List.nodup_cons.mpr ⟨q, hnd⟩) (fun x hx => by
      rcases List.mem_cons.mp hx with e | e
      · omega
      · obtain ⟨a, ha, rfl⟩ := List.mem_map.mp e
        exact zah_bd ha)
    rw [List.length_cons, List.length_map] at h1
    omega
  obtain ⟨a, ha, e⟩ := List.mem_map.mp hin
  obtain ⟨j, hj⟩ := List.getElem?_of_mem ha
  exact ⟨j, a, hj, e⟩
theorem zrk_of {l : List zAr} (hs : l.Pairwise (fun a b => a.1 < b.1)) {j : Nat} {a : zAr} (hj : l[j]? = some a) : zrk l (zah l a) = some a := by
  unfold zrk
  cases hf : l.find? (fun b => decide ((zah l b : Int) = (zah l a : Int))) with
  | none =>
    have := List.find?_eq_none.mp hf a (List.mem_of_getElem? hj)
    simp at this
  | some b =>
    have h1 := List.find?_some hf
    have h2 := List.mem_of_find?_eq_some hf
    obtain ⟨i, hi⟩ := List.getElem?_of_mem h2
    have h3 : zah l b = zah l a := by simp at h1; omega
    have := zah_inj hs hi hj h3
    subst this
    rw [hi] at hj
    rw [Option.some.inj hj]
theorem zrk_no {l : List zAr} {k : Int} (h : ¬ (0 ≤ k ∧ k ≤ (l.length : Int) - 1)) : zrk l k = none := by
  unfold zrk
  rw [List.find?_eq_none]
  intro a ha
  have := zah_bd ha
  simp
  omega
def sArP (c : zCo) (x : Int) : Int × Int := match zrk (cAr c) x with
  | none => (1, 0)
  | some a => (0, a.1)
theorem ids_lt {l : List zAr} (hs : l.Pairwise (fun a b => a.1 < b.1)) {i j : Nat} {a b : zAr} (ha : l[i]? = some a) (hb : l[j]? = some b) : i < j ↔ a.1 < b.1 := by
  obtain ⟨h1, e1⟩ := List.getElem?_eq_some_iff.mp ha
  obtain ⟨h2, e2⟩ := List.getElem?_eq_some_iff.mp hb
  constructor
  · intro q
    have := List.pairwise_iff_getElem.mp hs i j h1 h2 q
    rw [e1, e2] at this; exact this
  · intro q
    rcases Nat.lt_trichotomy i j with z | z | z
    · exact z
    · subst z; rw [ha] at hb; cases hb; omega
    · have := List.pairwise_iff_getElem.mp hs j i h2 h1 z
      rw [e1, e2] at this; omega
/-- how many of the first n are considered before a -/
def zap (l : List zAr) (a : zAr) (n : Nat) : Nat := (l.take n).countP (fun o => zbf o a)
theorem zap_s {l : List zAr} {a o : zAr} {n : Nat} (h : l[n]? = some o) : (zbf o a = true ∧ zap l a (n + 1) = zap l a n + 1) ∨ (zbf o a = false ∧ zap l a (n + 1) = zap l a n) := by
  unfold zap
  rw [List.take_add_one, h, List.countP_append]
  cases q : zbf o a with
  | true => left; exact ⟨rfl, by simp [q]⟩
  | false => right; exact ⟨rfl, by simp [q]⟩
theorem zap_le (l : List zAr) (a : zAr) (n : Nat) : zap l a n ≤ n := by
  unfold zap
  have h1 := List.countP_le_length (p := fun o => zbf o a) (l := l.take n)
  have h2 := List.length_take_le n l
  omega
/-- the article that ranked() finds -/
def mRk (c : zCo) (x r : Int) : Prop := (r = -1 ∧ ∀ a ∈ cAr c, (zah (cAr c) a : Int) ≠ x) ∨ ∃ (j : Nat) (a : zAr), r = j ∧ (cAr c)[j]? = some a ∧ (zah (cAr c) a : Int) = x
theorem mRk_in {c : zCo} {x r : Int} (hs : (cAr c).Pairwise (fun a b => a.1 < b.1)) (h : mRk c x r) (hx : 0 ≤ x ∧ x ≤ ((cAr c).length : Int) - 1) : ∃ (j : Nat) (a : zAr), r = j ∧ (cAr c)[j]? = some a ∧ zrk (cAr c) x = some a ∧ (j : Int) < (cAr c).length := by
  rcases h with ⟨h1, h2⟩ | ⟨j, a, h1, h2, h3⟩
  · exfalso
    obtain ⟨j, a, h4, h5⟩ := zrk_ex hs (k := x.toNat) (by omega)
    exact h2 a (List.mem_of_getElem? h4) (by omega)
  · have := (List.getElem?_eq_some_iff.mp h2).1
    exact ⟨j, a, h1, h2, by rw [← h3]; exact zrk_of hs h2, by omega⟩
theorem late_s {l : List zIs} {x : Int} {k : Nat} {s : zIs} (h : l[k]? = some s) : (l.take (k + 1)).any (fun s => (zft s x).isSome) = ((l.take k).any (fun s => (zft s x).isSome) || (zft s x).isSome) := by
  rw [List.take_add_one, h, List.any_append]
  simp
