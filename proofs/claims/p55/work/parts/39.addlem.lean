/-! A row that keeps what it says of articles and issues; where a text's words stand in it. -/
theorem rAr_cong {f f' : Int → Int} {i : Nat} {a : zAr} {ni : Int} (h : rAr f i a) (hk : arOK ni a) (hf : ∀ k : Int, 0 ≤ k → k < 393 → mof f' i k = mof f i k) : rAr f' i a := by
  obtain ⟨h1, h2, h3, h4⟩ := h
  refine ⟨(hf 0 (by omega) (by omega)).trans h1, (hf 1 (by omega) (by omega)).trans h2, (hf 2 (by omega) (by omega)).trans h3, fun w wd hw => ?_⟩
  have hwl := (List.getElem?_eq_some_iff.mp hw).1
  have hw30 := hk.2.2.1.2
  have hwd := (hk.2.2.2 wd (List.mem_of_getElem? hw)).1
  refine ⟨(hf _ (by omega) (by omega)).trans (h4 w wd hw).1, fun k x hx => ?_⟩
  have hkl := (List.getElem?_eq_some_iff.mp hx).1
  exact (hf _ (by omega) (by omega)).trans ((h4 w wd hw).2 k x hx)
theorem rIs_cong {f f' : Int → Int} {i : Nat} {s : zIs} {ni nn da : Int} (h : rIs f i s) (hk : isOK ni nn da s) (hf : ∀ k : Int, 0 ≤ k → k < 18 → moi f' i k = moi f i k) : rIs f' i s := by
  obtain ⟨h1, h2, h3, h4, h5, h6, h7⟩ := h
  refine ⟨(hf 0 (by omega) (by omega)).trans h1, (hf 1 (by omega) (by omega)).trans h2, (hf 2 (by omega) (by omega)).trans h3, (hf 3 (by omega) (by omega)).trans h4, (hf 4 (by omega) (by omega)).trans h5, (hf 5 (by omega) (by omega)).trans h6, fun k q hq => ?_⟩
  have hkl := (List.getElem?_eq_some_iff.mp hq).1
  have h6l := hk.2.2.2.2.1
  exact ⟨(hf _ (by omega) (by omega)).trans (h7 k q hq).1, (hf _ (by omega) (by omega)).trans (h7 k q hq).2⟩
theorem mR_cong {N : Nat} {f f' : Int → Int} {c : zCo} (h : mR f c) (hK : cOK N c) (hf : ∀ k : Int, 0 ≤ k → k < 2439 → f' k = f k) : mR f' c := by
  obtain ⟨e0, e1, e2, e3, e4, e5, e6, e7, e8, ha, hi⟩ := h
  have g : ∀ k : Int, 0 ≤ k → k < 2439 → ∀ x, f k = x → f' k = x := fun k h1 h2 x hx => (hf k h1 h2).trans hx
  have hla := hK.1
  have hli := hK.2.1
  refine ⟨g 0 (by omega) (by omega) _ e0, g 1 (by omega) (by omega) _ e1, g 2 (by omega) (by omega) _ e2, g 3 (by omega) (by omega) _ e3, g 4 (by omega) (by omega) _ e4, g 5 (by omega) (by omega) _ e5, g 6 (by omega) (by omega) _ e6, g 7 (by omega) (by omega) _ e7, g 8 (by omega) (by omega) _ e8, fun i a hA => ?_, fun i s hS => ?_⟩
  · have hil := (List.getElem?_eq_some_iff.mp hA).1
    refine rAr_cong (ha i a hA) (hK.2.2.1 a (List.mem_of_getElem? hA)) (fun k h1 h2 => ?_)
    exact hf _ (by omega) (by omega)
  · have hil := (List.getElem?_eq_some_iff.mp hS).1
    refine rIs_cong (hi i s hS) (hK.2.2.2.2.1 s (List.mem_of_getElem? hS)) (fun k h1 h2 => ?_)
    exact hf _ (by omega) (by omega)
/-- an article is added -/
def cAdd (c : zCo) (x : Int) (ws : List zWd) : zCo := (cAr c ++ [(cNi c, x, ws)], cIs c, cNi c + 1, cNn c, cWi c, cCo c, cHe c, cDa c, cLa c)
theorem mR_add {N : Nat} {f f' : Int → Int} {c : zCo} {x : Int} {ws : List zWd} {n : Int} (h : mR f c) (hK : cOK N c) (hn : n = (cAr c).length) (hl : n ≤ 5) (hfr : ∀ k : Int, 2 ≤ k → (k < 9 + 393 * n ∨ 9 + 393 * n + 393 ≤ k) → f' k = f k) (h0 : f' 0 = f 0 + 1) (h1 : f' 1 = f 1 + 1) (hr : rAr f' (cAr c).length (cNi c, x, ws)) : mR f' (cAdd c x ws) := by
  obtain ⟨e0, e1, e2, e3, e4, e5, e6, e7, e8, ha, hi⟩ := h
  have hli := hK.2.1
  refine ⟨?_, ?_, (hfr 2 (by omega) (by omega)).trans e2, (hfr 3 (by omega) (by omega)).trans e3, (hfr 4 (by omega) (by omega)).trans e4, (hfr 5 (by omega) (by omega)).trans e5, (hfr 6 (by omega) (by omega)).trans e6, (hfr 7 (by omega) (by omega)).trans e7, (hfr 8 (by omega) (by omega)).trans e8, fun i a hA => ?_, fun i s hS => ?_⟩
  · show f' 0 = ((cAr c ++ [(cNi c, x, ws)]).length : Int)
    rw [List.length_append, List.length_singleton]
    omega
  · show f' 1 = cNi c + 1
    omega
  · have hA : (cAr c ++ [(cNi c, x, ws)])[i]? = some a := hA
    have hil := (List.getElem?_eq_some_iff.mp hA).1
    rw [List.length_append, List.length_singleton] at hil
    by_cases q : i < (cAr c).length
    · rw [List.getElem?_append_left q] at hA
      refine rAr_cong (ha i a hA) (hK.2.2.1 a (List.mem_of_getElem? hA)) (fun k h1 h2 => ?_)
      exact hfr _ (by omega) (by omega)
    · have e : i = (cAr c).length := by omega
      subst e
      rw [List.getElem?_append_right (by omega)] at hA
      simp at hA
      subst hA
      exact hr
  · have hS : (cIs c)[i]? = some s := hS
    have hil := (List.getElem?_eq_some_iff.mp hS).1
    refine rIs_cong (hi i s hS) (hK.2.2.2.2.1 s (List.mem_of_getElem? hS)) (fun k h1 h2 => ?_)
    exact hfr _ (by omega) (by omega)
/-- where word w begins in its text -/
def zpos (ws : List zWd) (w : Nat) : Nat := ((ws.take w).map (fun x => x.length + 1)).sum
theorem zpos_s {ws : List zWd} {w : Nat} {wd : zWd} (h : ws[w]? = some wd) : zpos ws (w + 1) = zpos ws w + wd.length + 1 := by
  unfold zpos
  rw [List.take_add_one, h, List.map_append, List.sum_append]
  simp
  omega
theorem zpos_app {ws vs : List zWd} {w : Nat} (h : w ≤ ws.length) : zpos (ws ++ vs) w = zpos ws w := by
  unfold zpos
  rw [List.take_append_of_le_length h]
def zspQ (tx : List Int) (W : List zWd) : Prop := W ≠ [] ∧ ∀ (w : Nat) (wd : zWd), W[w]? = some wd → (∀ k : Nat, k < wd.length → tx[zpos W w + k]? = wd[k]?) ∧ (∀ x ∈ wd, x ≠ 32) ∧ (w + 1 < W.length → tx[zpos W w + wd.length]? = some 32) ∧ (w + 1 = W.length → tx.length = zpos W w + wd.length)
theorem getLt {l : List Int} {k : Nat} {x : Option Int} (h : l[k]? = x) (hx : x ≠ none) : k < l.length := by
  rcases Nat.lt_or_ge k l.length with q | q
  · exact q
  · rw [List.getElem?_eq_none q] at h; exact absurd h.symm hx
theorem zsp_blank {l : List Int} {W : List zWd} (h : zspQ l W) : zspQ (l ++ [32]) (W ++ [[]]) := by
  obtain ⟨h0, h⟩ := h
  refine ⟨by simp, fun w wd hw => ?_⟩
  have hwl := (List.getElem?_eq_some_iff.mp hw).1
  rw [List.length_append, List.length_singleton] at hwl ⊢
  by_cases q : w < W.length
  · rw [List.getElem?_append_left q] at hw
    obtain ⟨a, b, c, d⟩ := h w wd hw
    rw [zpos_app (by omega)]
    refine ⟨fun k hk => ?_, b, fun _ => ?_, fun z => by omega⟩
    · have := a k hk
      rw [List.getElem?_append_left (getLt this (by rw [List.getElem?_eq_getElem hk]; simp))]
      exact this
    · by_cases z : w + 1 < W.length
      · have := c z
        rw [List.getElem?_append_left (getLt this (by simp))]
        exact this
      · have := d (by omega)
        rw [← this]
        simp
  · have e : w = W.length := by omega
    subst e
    rw [List.getElem?_append_right (by omega)] at hw
    simp at hw
    subst hw
    have hp : 0 < W.length := List.length_pos_iff.mpr h0
    have hlast := h (W.length - 1) W[W.length - 1] (List.getElem?_eq_getElem (by omega))
    have h1 := zpos_s (ws := W) (w := W.length - 1) (List.getElem?_eq_getElem (by omega))
    have h2 := hlast.2.2.2 (by omega)
    rw [show W.length - 1 + 1 = W.length by omega] at h1
    rw [zpos_app (by omega)]
    refine ⟨fun k hk => by simp at hk, fun x hx => by simp at hx, fun z => by omega, fun _ => ?_⟩
    rw [List.length_append, List.length_singleton]
    simp
    omega
theorem zsp_lett {l : List Int} {A : List zWd} {c : zWd} {x : Int} (hx : x ≠ 32) (h : zspQ l (A ++ [c])) : zspQ (l ++ [x]) (A ++ [c ++ [x]]) := by
  obtain ⟨-, h⟩ := h
  refine ⟨by simp, fun w wd hw => ?_⟩
  have hwl := (List.getElem?_eq_some_iff.mp hw).1
  rw [List.length_append, List.length_singleton] at hwl ⊢
  by_cases q : w < A.length
  · rw [List.getElem?_append_left q] at hw
    obtain ⟨a, b, cc, d⟩ := h w wd (by rw [List.getElem?_append_left q]; exact hw)
    rw [zpos_app (by omega)] at a cc d ⊢
    refine ⟨fun k hk => ?_, b, fun _ => ?_, fun z => by omega⟩
    · have := a k hk
      rw [List.getElem?_append_left (getLt this (by rw [List.getElem?_eq_getElem hk]; simp))]
      exact this
    · have := cc (by rw [List.length_append, List.length_singleton]; omega)
      rw [List.getElem?_append_left (getLt this (by simp))]
      exact this
  · have e : w = A.length := by omega
    subst e
    rw [List.getElem?_append_right (by omega)] at hw
    simp at hw
    subst hw
    obtain ⟨a, b, cc, d⟩ := h A.length c (by rw [List.getElem?_append_right (by omega)]; simp)
    have h2 := d (by rw [List.length_append, List.length_singleton])
    rw [zpos_app (by omega)] at a h2 ⊢
    refine ⟨fun k hk => ?_, fun y hy => ?_, fun z => by omega, fun _ => ?_⟩
    · rw [List.length_append, List.length_singleton] at hk
      by_cases z : k < c.length
      · have := a k z
        rw [List.getElem?_append_left (getLt this (by rw [List.getElem?_eq_getElem z]; simp)), List.getElem?_append_left z]
        exact this
      · have e : k = c.length := by omega
        subst e
        rw [← h2]
        simp
    · rcases List.mem_append.mp hy with z | z
      · exact b y z
      · rw [List.mem_singleton.mp z]; exact hx
    · rw [List.length_append, List.length_append, List.length_singleton]
      omega
theorem zsp_ok (tx : List Int) : zspQ tx (zsp tx) := by
  refine snoc_ind (P := fun tx => zspQ tx (zsp tx)) ?_ (fun l x ih => ?_) tx
  · refine ⟨by simp [zsp, zsf], fun w wd hw => ?_⟩
    have e : zsp [] = [[]] := by simp [zsp, zsf]
    rw [e] at hw ⊢
    have hwl := (List.getElem?_eq_some_iff.mp hw).1
    simp at hwl
    subst hwl
    simp at hw
    subst hw
    refine ⟨fun k hk => by simp at hk, fun x hx => by simp at hx, fun z => by simp at z, fun _ => by simp [zpos]⟩
  · by_cases q : x = 32
    · subst q
      have e : zsp (l ++ [32]) = zsp l ++ [[]] := by
        unfold zsp
        rw [zsf_snoc, if_pos rfl]
      rw [e]
      exact zsp_blank ih
    · have e : zsp (l ++ [x]) = (zsf l).1 ++ [(zsf l).2 ++ [x]] := by
        unfold zsp
        rw [zsf_snoc, if_neg q]
      rw [e]
      exact zsp_lett q ih
/-- how far a word of the text goes -/
theorem zsp_run {v : Nat → Int} {g : Nat → Int → Int} {tx : List Int} {w : Nat} {wd : zWd} (ht : mT v g tx) (hw : (zsp tx)[w]? = some wd) {e : Int} (h2 : e ≤ v 8) (h3 : ∀ k : Int, (zpos (zsp tx) w : Int) ≤ k → k < e → g 7 k ≠ 32) : e ≤ zpos (zsp tx) w + wd.length := by
  obtain ⟨a, b, c, d⟩ := (zsp_ok tx).2 w wd hw
  have hwl := (List.getElem?_eq_some_iff.mp hw).1
  have h8 := ht.1
  rcases Int.lt_or_le (zpos (zsp tx) w + wd.length) e with q | q
  · exfalso
    by_cases z : w + 1 < (zsp tx).length
    · have h5 := ht.2 _ _ (c z)
      exact h3 _ (by omega) q (by rw [← h5]; congr 1; omega)
    · have := d (by omega)
      omega
  · exact q
theorem zsp_end {v : Nat → Int} {g : Nat → Int → Int} {tx : List Int} {w : Nat} {wd : zWd} (ht : mT v g tx) (hw : (zsp tx)[w]? = some wd) {r : Int} (h1 : (zpos (zsp tx) w : Int) ≤ r) (h2 : r ≤ v 8) (h3 : ∀ k : Int, (zpos (zsp tx) w : Int) ≤ k → k < r → g 7 k ≠ 32) (h4 : r = v 8 ∨ g 7 r = 32) : r = zpos (zsp tx) w + wd.length := by
  have h5 := zsp_run ht hw h2 h3
  obtain ⟨a, b, -, -⟩ := (zsp_ok tx).2 w wd hw
  have h8 := ht.1
  rcases Int.lt_or_le r (zpos (zsp tx) w + wd.length) with q | q
  · exfalso
    have hk : (r - zpos (zsp tx) w).toNat < wd.length := by omega
    have h6 := a _ hk
    rw [List.getElem?_eq_getElem hk] at h6
    have hlt := getLt h6 (by simp)
    have h7 := ht.2 _ _ h6
    rw [show (0 : Int) + ((zpos (zsp tx) w + (r - zpos (zsp tx) w).toNat : Nat) : Int) = r by omega] at h7
    rcases h4 with z | z
    · omega
    · rw [z] at h7
      exact b _ (List.getElem_mem hk) h7.symm
  · omega
theorem zsp_in {v : Nat → Int} {g : Nat → Int → Int} {tx : List Int} {w : Nat} {wd : zWd} (ht : mT v g tx) (hw : (zsp tx)[w]? = some wd) {k : Nat} {x : Int} (hx : wd[k]? = some x) : g 7 (zpos (zsp tx) w + k) = x := by
  obtain ⟨a, -, -, -⟩ := (zsp_ok tx).2 w wd hw
  have hk := (List.getElem?_eq_some_iff.mp hx).1
  have h6 := (a k hk).trans hx
  have h7 := ht.2 _ _ h6
  rw [← h7]
  congr 1
  omega
theorem zsp_le {v : Nat → Int} {g : Nat → Int → Int} {tx : List Int} {w : Nat} {wd : zWd} (ht : mT v g tx) (hw : (zsp tx)[w]? = some wd) : (zpos (zsp tx) w : Int) + wd.length ≤ v 8 := by
  obtain ⟨a, -, c, d⟩ := (zsp_ok tx).2 w wd hw
  have hwl := (List.getElem?_eq_some_iff.mp hw).1
  have h8 := ht.1
  by_cases z : w + 1 < (zsp tx).length
  · have := getLt (c z) (by simp)
    omega
  · have := d (by omega)
    omega
/-- an article text has at most 30 words -/
theorem zat_30 {tx : List Int} (h : zat tx) (hl : tx.length ≤ 60) : 1 ≤ (zsp tx).length ∧ (zsp tx).length ≤ 30 := by
  have hp : 0 < (zsp tx).length := List.length_pos_iff.mpr (zsp_ok tx).1
  have key : ∀ w, w ≤ (zsp tx).length → 2 * w ≤ zpos (zsp tx) w := by
    intro w
    induction w with
    | zero => intro _; omega
    | succ w ih =>
      intro hw
      have h1 := zpos_s (ws := zsp tx) (w := w) (List.getElem?_eq_getElem (by omega))
      have h2 := (h _ (List.getElem_mem (l := zsp tx) (n := w) (by omega))).1
      have := ih (by omega)
      omega
  have hlast := ((zsp_ok tx).2 ((zsp tx).length - 1) _ (List.getElem?_eq_getElem (by omega))).2.2.2 (by omega)
  have h1 := key ((zsp tx).length - 1) (by omega)
  have h2 := (h _ (List.getElem_mem (l := zsp tx) (n := (zsp tx).length - 1) (by omega))).1
  omega
/-! a change of the model: keep(), what it does, ends() -/
def pushH (hs : List zCo) (c : zCo) : List zCo := if hs.length = 8 then hs.drop 1 ++ [c] else hs ++ [c]
def mHi (v : Nat → Int) (g : Nat → Int → Int) (hs : List zCo) : Prop := v 5 = hs.length ∧ hs.length ≤ 8 ∧ ∀ (j : Nat) (h : zCo), hs[j]? = some h → mR (fun k => g 4 (2439 * j + k)) h
/-- what a change does: which exception, the new state, the answer -/
def mDo (v : Nat → Int) (g : Nat → Int → Int) (r : Int) (v1 : Nat → Int) (g1 : Nat → Int → Int) (q : Int × zCo × Int) (v' : Nat → Int) : Prop := (q.1 ≠ 0 ∧ upN v 6 q.1 = v1 ∧ g = g1 ∧ 0 = r) ∨ (q.1 = 0 ∧ (∀ k, k ≠ 12 → v1 k = v' k) ∧ (∀ j, j ≠ 0 → j ≠ 9 → j ≠ 10 → j ≠ 11 → g1 j = g j) ∧ mR (g1 0) q.2.1 ∧ q.2.2 = r)
def mTop (v : Nat → Int) (g : Nat → Int → Int) (r : Int) (v1 : Nat → Int) (g1 : Nat → Int → Int) (c0 : zCo) (hs : List zCo) (q : Int × zCo × Int) (v' : Nat → Int) : Prop :=
  v1 6 = q.1 ∧ (q.1 = 0 → r = q.2.2) ∧ mR (g1 0) (if q.1 = 0 then q.2.1 else c0) ∧ mHi v1 g1 (if q.1 = 0 then pushH hs c0 else hs) ∧ (∀ k, k ≠ 5 → k ≠ 6 → k ≠ 12 → v1 k = if q.1 = 0 then v' k else v k) ∧ (∀ j, j ≠ 0 → j ≠ 1 → j ≠ 4 → j ≠ 9 → j ≠ 10 → j ≠ 11 → g1 j = g j)
theorem mTop_of {N : Nat} {v v2 v1 v' : Nat → Int} {g g2 g1 : Nat → Int → Int} {r2 r : Int} {c0 : zCo} {hs : List zCo} {q : Int × zCo × Int} (hR : mR (g 0) c0) (hK : cOK N c0) (hH : mHi v g hs) (hHK : ∀ h ∈ hs, cOK N h) (hq : 0 ≤ q.1)
    (hd : mDo (upN v 6 0) (upG g 1 (cpI (g 0) (g 1) 0 0 2439)) r2 v2 g2 q v') (hv6 : v' 6 = 0) (hv5 : v' 5 = v 5) (he : mEn v2 g2 r2 r v1 g1) : mTop v g r v1 g1 c0 hs q v' := by
  obtain ⟨H1, H2, H3⟩ := hH
  rcases hd with ⟨q0, rfl, rfl, rfl⟩ | ⟨q0, hv, hg, hm, rfl⟩
  · rcases he with ⟨-, rfl, rfl, rfl⟩ | ⟨h6, -⟩ | ⟨h6, -⟩
    · refine ⟨upN_s, fun z => absurd z q0, ?_, ?_, fun k h5 h6 h12 => ?_, fun j h0 h1 h4 _ _ _ => ?_⟩
      · rw [if_neg q0, upG_s]
        refine mR_cong hR hK (fun k h1 h2 => ?_)
        rw [cpI_in (by omega), upG_s, cpI_in (by omega)]
        congr 1
        omega
      · rw [if_neg q0]
        refine ⟨?_, H2, fun j h hj => ?_⟩
        · rw [upN_n (by decide), upN_n (by decide)]; exact H1
        · rw [upG_n (by decide), upG_n (by decide)]
          exact H3 j h hj
      · rw [if_neg q0, upN_n h6, upN_n h6]
      · rw [upG_n h0, upG_n h1]
    · rw [upN_s] at h6; omega
    · rw [upN_s] at h6; omega
  · have v6 : v2 6 = 0 := (hv 6 (by decide)).trans hv6
    have v5 : v2 5 = hs.length := (hv 5 (by decide)).trans (hv5.trans H1)
    have e1 : g2 1 = cpI (g 0) (g 1) 0 0 2439 := (hg 1 (by decide) (by decide) (by decide) (by decide)).trans upG_s
    have e4 : g2 4 = g 4 := (hg 4 (by decide) (by decide) (by decide) (by decide)).trans (upG_n (by decide))
    have hc0 : ∀ (f : Int → Int), (∀ k : Int, 0 ≤ k → k < 2439 → f k = g2 1 k) → mR f c0 := by
      intro f hf
      refine mR_cong hR hK (fun k h1 h2 => ?_)
      rw [hf k h1 h2, e1, cpI_in (by omega)]
      congr 1
      omega
    rcases he with ⟨h6, -⟩ | ⟨-, h8, rfl, rfl, rfl⟩ | ⟨-, h8, rfl, rfl, rfl⟩
    · omega
    · have hl8 : hs.length = 8 := by omega
      refine ⟨?_, fun _ => rfl, ?_, ?_, fun k h5 h6 h12 => ?_, fun j h0 h1 h4 h9 h10 h11 => ?_⟩
      · rw [upN_n (by decide), v6, q0]
      · rw [if_pos q0, upG_n (by decide)]; exact hm
      · rw [if_pos q0]
        unfold pushH
        rw [if_pos hl8]
        refine ⟨?_, ?_, fun j h hj => ?_⟩
        · rw [upN_s, List.length_append, List.length_drop, List.length_singleton]; omega
        · rw [List.length_append, List.length_drop, List.length_singleton]; omega
        · have hjl := (List.getElem?_eq_some_iff.mp hj).1
          rw [List.length_append, List.length_drop, List.length_singleton] at hjl
          rw [upG_s]
          by_cases z : j < 7
          · rw [List.getElem?_append_left (by rw [List.length_drop]; omega), List.getElem?_drop] at hj
            refine mR_cong (H3 (1 + j) h hj) (hHK h (List.mem_of_getElem? hj)) (fun k h1 h2 => ?_)
            show cpI _ _ _ _ _ _ = _
            rw [cpI_out (by omega), cpI_in (by omega), e4]
            congr 1
            omega
          · have ej : j = 7 := by omega
            subst ej
            rw [List.getElem?_append_right (by rw [List.length_drop]; omega), List.length_drop, hl8] at hj
            simp at hj
            subst hj
            refine hc0 _ (fun k h1 h2 => ?_)
            show cpI _ _ _ _ _ _ = _
            rw [cpI_in (by omega)]
            congr 1
            omega
      · rw [if_pos q0, upN_n h5]; exact hv k h12
      · rw [upG_n h4, hg j h0 h9 h10 h11, upG_n h1]
    · have hl8 : hs.length ≠ 8 := by omega
      refine ⟨?_, fun _ => rfl, ?_, ?_, fun k h5 h6 h12 => ?_, fun j h0 h1 h4 h9 h10 h11 => ?_⟩
      · rw [upN_n (by decide), v6, q0]
      · rw [if_pos q0, upG_n (by decide)]; exact hm
      · rw [if_pos q0]
        unfold pushH
        rw [if_neg hl8]
        refine ⟨?_, ?_, fun j h hj => ?_⟩
        · rw [upN_s, List.length_append, List.length_singleton]; omega
        · rw [List.length_append, List.length_singleton]; omega
        · have hjl := (List.getElem?_eq_some_iff.mp hj).1
          rw [List.length_append, List.length_singleton] at hjl
          rw [upG_s]
          by_cases z : j < hs.length
          · rw [List.getElem?_append_left z] at hj
            refine mR_cong (H3 j h hj) (hHK h (List.mem_of_getElem? hj)) (fun k h1 h2 => ?_)
            show cpI _ _ _ _ _ _ = _
            rw [cpI_out (by omega), e4]
          · have ej : j = hs.length := by omega
            subst ej
            rw [List.getElem?_append_right (by omega)] at hj
            simp at hj
            subst hj
            refine hc0 _ (fun k h1 h2 => ?_)
            show cpI _ _ _ _ _ _ = _
            rw [cpI_in (by omega)]
            congr 1
            omega
      · rw [if_pos q0, upN_n h5]; exact hv k h12
      · rw [upG_n h4, hg j h0 h9 h10 h11, upG_n h1]
def zatB (tx : List Int) : Bool := (zsp tx).all (fun w => decide (1 ≤ w.length) && decide (w.length ≤ 12))
theorem zatB_iff (tx : List Int) : zatB tx = true ↔ zat tx := by
  unfold zatB zat zwl
  simp
/-- adding an article: which exception, the new state, the answer -/
def sAdd (c : zCo) (x : Int) (tx : List Int) : Int × zCo × Int := if 1 ≤ x ∧ x ≤ 9 then (if (cAr c).length = 6 then (2, c, 0) else if zatB tx = true then (0, cAdd c x (zsp tx), cNi c) else (3, c, 0)) else (1, c, 0)
theorem sAdd_1 {c : zCo} {x : Int} {tx : List Int} (h : ¬ (1 ≤ x ∧ x ≤ 9)) : sAdd c x tx = (1, c, 0) := if_neg h
theorem sAdd_2 {c : zCo} {x : Int} {tx : List Int} (h : 1 ≤ x ∧ x ≤ 9) (h2 : (cAr c).length = 6) : sAdd c x tx = (2, c, 0) := by
  unfold sAdd; rw [if_pos h, if_pos h2]
theorem sAdd_3 {c : zCo} {x : Int} {tx : List Int} (h : 1 ≤ x ∧ x ≤ 9) (h2 : ¬ (cAr c).length = 6) (h3 : ¬ zat tx) : sAdd c x tx = (3, c, 0) := by
  unfold sAdd; rw [if_pos h, if_neg h2, if_neg (fun q => h3 ((zatB_iff tx).mp q))]
theorem sAdd_0 {c : zCo} {x : Int} {tx : List Int} (h : 1 ≤ x ∧ x ≤ 9) (h2 : ¬ (cAr c).length = 6) (h3 : zat tx) : sAdd c x tx = (0, cAdd c x (zsp tx), cNi c) := by
  unfold sAdd; rw [if_pos h, if_neg h2, if_pos ((zatB_iff tx).mpr h3)]
theorem sAdd_p (c : zCo) (x : Int) (tx : List Int) : 0 ≤ (sAdd c x tx).1 := by
  unfold sAdd
  split
  · split
    · exact (by decide : (0 : Int) ≤ 2)
    · split <;> simp
  · exact (by decide : (0 : Int) ≤ 1)
