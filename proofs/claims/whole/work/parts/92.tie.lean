/-! What ties the class's values to the model's. -/
def zVal (N : Nat) (v : Nat → Int) (gm : Nat → Int → Int) (tx inp out : List Int) (c0 : zCo) (sv : Option zCo) (hs : List zCo) (er fa : Int) : Prop :=
  mR (gm 0) c0 ∧ cOK N c0 ∧ mHi v gm hs ∧ (∀ h ∈ hs, cOK N h) ∧ mT v gm tx ∧ tx.length ≤ 60 ∧ zlt2 tx ∧ mI v gm inp ∧ (mO v gm out ∧ out.length ≤ 440 ∧ ∀ x ∈ out, 0 ≤ x ∧ x ≤ 65535) ∧ ((v 3 = 0 ∧ sv = none) ∨ (v 3 = 1 ∧ ∃ d, sv = some d ∧ mR (gm 2) d ∧ cOK N d)) ∧ v 20 = er ∧ v 21 = fa ∧ (-1 ≤ er ∧ er ≤ 60) ∧ -1 ≤ fa ∧ fa ≤ 60
def zT2 (cs : Nat → ClassId) (N : Nat) (Fg : zF) (ob : Nat) (v : Nat → Int) (gm : Nat → Int → Int) : Prop := ∃ (g : Nat → Nat) (sa : Nat) (so : Option Nat) (hL : List Nat) (tx inp out : List Int) (c0 : zCo) (sv : Option zCo) (hs : List zCo) (er fa : Int), gOb cs Fg ob g sa so hL tx inp out c0 sv hs er fa ∧ zVal N v gm tx inp out c0 sv hs er fa
section TIE
variable {N N1 : Nat} {v v1 : Nat → Int} {gm g1 : Nat → Int → Int} {tx inp out : List Int} {c0 : zCo} {sv : Option zCo} {hs : List zCo} {er fa : Int}
def vK (k : Nat) : Prop := k = 3 ∨ k = 5 ∨ k = 8 ∨ k = 15 ∨ k = 17 ∨ k = 20 ∨ k = 21
def gK (j : Nat) : Prop := j = 0 ∨ j = 2 ∨ j = 4 ∨ j = 7 ∨ j = 14 ∨ j = 16
theorem mHi.cong (h : mHi v gm hs) (h5 : v1 5 = v 5) (h4 : g1 4 = gm 4) : mHi v1 g1 hs := ⟨h5.trans h.1, h.2.1, fun j x hj => by rw [h4]; exact h.2.2 j x hj⟩
theorem mT.cong (h : mT v gm tx) (h8 : v1 8 = v 8) (h7 : g1 7 = gm 7) : mT v1 g1 tx := ⟨h8.trans h.1, by rw [h7]; exact h.2⟩
theorem mI.cong (h : mI v gm inp) (h17 : v1 17 = v 17) (h16 : g1 16 = gm 16) : mI v1 g1 inp := ⟨h17.trans h.1, by rw [h16]; exact h.2.1, h.2.2⟩
theorem mO.cong (h : mO v gm out) (h15 : v1 15 = v 15) (h14 : g1 14 = gm 14) : mO v1 g1 out := ⟨h15.trans h.1, by rw [h14]; exact h.2⟩
theorem zVal.svd (h : zVal N v gm tx inp out c0 sv hs er fa) (hN : N ≤ N1) (h3 : v1 3 = v 3) (h2 : g1 2 = gm 2) : (v1 3 = 0 ∧ sv = none) ∨ (v1 3 = 1 ∧ ∃ d, sv = some d ∧ mR (g1 2) d ∧ cOK N1 d) := by
  obtain ⟨-, -, -, -, -, -, -, -, -, h10, -⟩ := h
  rw [h3, h2]
  exact h10.imp_right (fun ⟨a, d, b1, b2, b3⟩ => ⟨a, d, b1, b2, cOK_mono b3 hN⟩)
theorem zVal.cong (h : zVal N v gm tx inp out c0 sv hs er fa) (hN : N ≤ N1) (hv : ∀ k, vK k → v1 k = v k) (hg : ∀ j, gK j → g1 j = gm j) : zVal N1 v1 g1 tx inp out c0 sv hs er fa := by
  have h10 := h.svd hN (hv 3 (by unfold vK; omega)) (hg 2 (by unfold gK; omega))
  obtain ⟨h1, h2, h3, h4, h5, h6, h7, h8, ⟨h9, h9b, h9c⟩, -, h11, h12, h13⟩ := h
  exact ⟨by rw [hg 0 (by unfold gK; omega)]; exact h1, cOK_mono h2 hN, h3.cong (hv 5 (by unfold vK; omega)) (hg 4 (by unfold gK; omega)), fun x hx => cOK_mono (h4 x hx) hN, h5.cong (hv 8 (by unfold vK; omega)) (hg 7 (by unfold gK; omega)), h6, h7, h8.cong (hv 17 (by unfold vK; omega)) (hg 16 (by unfold gK; omega)), ⟨h9.cong (hv 15 (by unfold vK; omega)) (hg 14 (by unfold gK; omega)), h9b, h9c⟩, h10, (hv 20 (by unfold vK; omega)).trans h11, (hv 21 (by unfold vK; omega)).trans h12, h13⟩
theorem zVal.up (h : zVal N v gm tx inp out c0 sv hs er fa) {t : Int} (hv : upN v 6 t = v1) (hg : gm = g1) : zVal (N + 1) v1 g1 tx inp out c0 sv hs er fa :=
  h.cong (Nat.le_succ N) (fun k hk => by rw [← hv]; exact upN_n (by unfold vK at hk; omega)) (fun j _ => by rw [hg])
theorem zVal.mA (h : zVal N v gm tx inp out c0 sv hs er fa) {r : Int} {q : Int × Int} (hm : mA v gm r v1 g1 q) : zVal (N + 1) v1 g1 tx inp out c0 sv hs er fa ∧ v1 6 = q.1 ∧ (q.1 = 0 → r = q.2) := ⟨h.up hm.1 hm.2.1, by rw [← hm.1]; exact upN_s, hm.2.2⟩
theorem zVal.mB (h : zVal N v gm tx inp out c0 sv hs er fa) {r : Int} {q : Int × Int} (hm : mB v gm r v1 g1 q) : zVal (N + 1) v1 g1 tx inp out c0 sv hs er fa ∧ v1 6 = q.1 ∧ (q.1 = 0 → r = q.2) :=
  ⟨h.cong (Nat.le_succ N) (fun k hk => hm.2.1 k (by unfold vK at hk; omega) (by unfold vK at hk; omega)) (fun j hj => hm.2.2.1 j (by unfold gK at hj; omega) (by unfold gK at hj; omega) (by unfold gK at hj; omega)), hm.1, hm.2.2.2⟩
theorem zVal.mL (h : zVal N v gm tx inp out c0 sv hs er fa) {r : Int} {q : Int × Int} (hm : upN v 6 q.1 = v1 ∧ (∀ j, j ≠ 13 → g1 j = gm j) ∧ (q.1 = 0 → r = q.2)) : zVal (N + 1) v1 g1 tx inp out c0 sv hs er fa ∧ v1 6 = q.1 ∧ (q.1 = 0 → r = q.2) :=
  ⟨h.cong (Nat.le_succ N) (fun k hk => by rw [← hm.1]; exact upN_n (by unfold vK at hk; omega)) (fun j hj => hm.2.1 j (by unfold gK at hj; omega)), by rw [← hm.1]; exact upN_s, hm.2.2⟩
theorem zVal.mQf (h : zVal N v gm tx inp out c0 sv hs er fa) {r : UInt32} {q : Int × UInt32} (hm : mQf v gm r v1 g1 q) : zVal (N + 1) v1 g1 tx inp out c0 sv hs er fa ∧ v1 6 = q.1 ∧ (q.1 = 0 → r = q.2) := ⟨h.up hm.1 hm.2.1, by rw [← hm.1]; exact upN_s, hm.2.2⟩
theorem zVal.mQd (h : zVal N v gm tx inp out c0 sv hs er fa) {r : UInt64} {q : Int × UInt64} (hm : mQd v gm r v1 g1 q) : zVal (N + 1) v1 g1 tx inp out c0 sv hs er fa ∧ v1 6 = q.1 ∧ (q.1 = 0 → r = q.2) := ⟨h.up hm.1 hm.2.1, by rw [← hm.1]; exact upN_s, hm.2.2⟩
theorem push_len {hs : List zCo} {c : zCo} (h : hs.length ≤ 8) : (pushH hs c).length ≤ 8 := by
  unfold pushH
  split
  · rw [List.length_append, List.length_drop, List.length_singleton]; omega
  · rw [List.length_append, List.length_singleton]; omega
theorem push_mem {hs : List zCo} {c x : zCo} (h : x ∈ pushH hs c) : x ∈ hs ∨ x = c := by
  unfold pushH at h
  split at h
  · rcases List.mem_append.mp h with z | z
    · exact Or.inl (List.mem_of_mem_drop z)
    · exact Or.inr (List.mem_singleton.mp z)
  · rcases List.mem_append.mp h with z | z
    · exact Or.inl z
    · exact Or.inr (List.mem_singleton.mp z)
/-- a change: the text stays, or is emptied -/
theorem zVal.mC (h : zVal N v gm tx inp out c0 sv hs er fa) {r : Int} {q : Int × zCo × Int} {v' : Nat → Int} {tx1 : List Int} (hm : mTop v gm r v1 g1 c0 hs q v') (h1 : ∀ k, vK k → k ≠ 8 → v' k = v k) (htx : (tx1 = tx ∧ v' 8 = v 8) ∨ (tx1 = [] ∧ v' 8 = 0)) (hK1 : q.1 = 0 → cOK (N + 1) q.2.1) :
    v1 6 = q.1 ∧ (q.1 = 0 → r = q.2.2) ∧ (q.1 ≠ 0 → zVal (N + 1) v1 g1 tx inp out c0 sv hs er fa) ∧ (q.1 = 0 → zVal (N + 1) v1 g1 tx1 inp out q.2.1 sv (pushH hs c0) er fa) := by
  obtain ⟨m1, m2, m3, m4, m5, m6⟩ := hm
  have hg : ∀ j, gK j → j ≠ 0 → j ≠ 4 → g1 j = gm j := fun j hj h0 h4 => by unfold gK at hj; exact m6 j h0 (by omega) h4 (by omega) (by omega) (by omega)
  refine ⟨m1, m2, fun q0 => ?_, fun q0 => ?_⟩
  · have hv : ∀ k, vK k → k ≠ 5 → v1 k = v k := fun k hk h5 => by unfold vK at hk; have := m5 k h5 (by omega) (by omega); rw [if_neg q0] at this; exact this
    rw [if_neg q0] at m3 m4
    have h10 := h.svd (Nat.le_succ N) (hv 3 (by unfold vK; omega) (by decide)) (hg 2 (by unfold gK; omega) (by decide) (by decide))
    obtain ⟨a1, a2, a3, a4, a5, a6, a7, a8, ⟨a9, a9b, a9c⟩, -, a11, a12, a13⟩ := h
    exact ⟨m3, cOK_mono a2 (Nat.le_succ N), m4, fun x hx => cOK_mono (a4 x hx) (Nat.le_succ N), a5.cong (hv 8 (by unfold vK; omega) (by decide)) (hg 7 (by unfold gK; omega) (by decide) (by decide)), a6, a7, a8.cong (hv 17 (by unfold vK; omega) (by decide)) (hg 16 (by unfold gK; omega) (by decide) (by decide)), ⟨a9.cong (hv 15 (by unfold vK; omega) (by decide)) (hg 14 (by unfold gK; omega) (by decide) (by decide)), a9b, a9c⟩, h10, (hv 20 (by unfold vK; omega) (by decide)).trans a11, (hv 21 (by unfold vK; omega) (by decide)).trans a12, a13⟩
  · have hv5 : ∀ k, vK k → k ≠ 5 → v1 k = v' k := fun k hk h5 => by unfold vK at hk; have := m5 k h5 (by omega) (by omega); rw [if_pos q0] at this; exact this
    have hv : ∀ k, vK k → k ≠ 5 → k ≠ 8 → v1 k = v k := fun k hk h5 h8 => (hv5 k hk h5).trans (h1 k hk h8)
    rw [if_pos q0] at m3 m4
    have h10 := h.svd (Nat.le_succ N) (hv 3 (by unfold vK; omega) (by decide) (by decide)) (hg 2 (by unfold gK; omega) (by decide) (by decide))
    obtain ⟨a1, a2, a3, a4, a5, a6, a7, a8, ⟨a9, a9b, a9c⟩, -, a11, a12, a13⟩ := h
    have h8 := hv5 8 (by unfold vK; omega) (by decide)
    have t1 : mT v1 g1 tx1 ∧ tx1.length ≤ 60 ∧ zlt2 tx1 := by
      rcases htx with ⟨e1, e2⟩ | ⟨e1, e2⟩
      · rw [e1]; exact ⟨a5.cong (h8.trans e2) (hg 7 (by unfold gK; omega) (by decide) (by decide)), a6, a7⟩
      · rw [e1]; exact ⟨⟨h8.trans e2, fun k x hk => by cases hk⟩, by decide, fun x hx => by cases hx⟩
    exact ⟨m3, hK1 q0, m4, fun x hx => (push_mem hx).elim (fun z => cOK_mono (a4 x z) (Nat.le_succ N)) (fun z => by rw [z]; exact cOK_mono a2 (Nat.le_succ N)), t1.1, t1.2.1, t1.2.2, a8.cong (hv 17 (by unfold vK; omega) (by decide) (by decide)) (hg 16 (by unfold gK; omega) (by decide) (by decide)), ⟨a9.cong (hv 15 (by unfold vK; omega) (by decide) (by decide)) (hg 14 (by unfold gK; omega) (by decide) (by decide)), a9b, a9c⟩, h10, (hv 20 (by unfold vK; omega) (by decide) (by decide)).trans a11, (hv 21 (by unfold vK; omega) (by decide) (by decide)).trans a12, a13⟩
/-- what the wrapper left, read as a code and a value -/
theorem w_fin {names : List String} {post : Int → zF → Prop} {px : String → zF → Prop} {S1 S2 k : Int} {Kn Kx : zF → Prop} {Fg1 : zF} {f : Nat → Int64} (hp : ∀ (r : Int) (F1 : zF), post r F1 → Kn F1 ∧ S1 = 0 ∧ S2 = r) (hx : ∀ (E : String) (F1 : zF), px E F1 → Kx F1 ∧ ∃ i : Nat, i < 3 ∧ names[i]? = some E ∧ S1 = (i : Int) + 1) (hnd : ∀ (i j : Nat) (E : String), names[i]? = some E → names[j]? = some E → i = j)
    (h : (k = 0 ∧ ∃ r : Int, post r Fg1 ∧ f 0 = (iI r).toInt64) ∨ ∃ (j : Nat) (E : String), names[j]? = some E ∧ px E Fg1 ∧ k = (j : Int) + 1) : k = S1 ∧ (0 ≤ k ∧ k ≤ 3) ∧ (k = 0 → Kn Fg1 ∧ f 0 = (iI S2).toInt64) ∧ (k ≠ 0 → Kx Fg1) := by
  rcases h with ⟨rfl, r, h1, h2⟩ | ⟨j, E, h1, h2, rfl⟩
  · obtain ⟨k1, k2, k3⟩ := hp r Fg1 h1
    exact ⟨k2.symm, by decide, fun _ => ⟨k1, by rw [k3]; exact h2⟩, fun z => absurd rfl z⟩
  · obtain ⟨k1, i, i3, k2, k3⟩ := hx E Fg1 h2
    have hij := hnd i j E k2 h1
    subst hij
    exact ⟨k3.symm, by omega, fun z => by omega, fun _ => k1⟩
theorem w_finD {names : List String} {post : UInt64 → zF → Prop} {px : String → zF → Prop} {S1 k : Int} {S2 : UInt64} {Kn Kx : zF → Prop} {Fg1 : zF} {f : Nat → UInt64} (hp : ∀ (r : UInt64) (F1 : zF), post r F1 → Kn F1 ∧ S1 = 0 ∧ S2 = r) (hx : ∀ (E : String) (F1 : zF), px E F1 → Kx F1 ∧ ∃ i : Nat, i < 3 ∧ names[i]? = some E ∧ S1 = (i : Int) + 1) (hnd : ∀ (i j : Nat) (E : String), names[i]? = some E → names[j]? = some E → i = j)
    (h : (k = 0 ∧ ∃ r : UInt64, post r Fg1 ∧ f 0 = r) ∨ ∃ (j : Nat) (E : String), names[j]? = some E ∧ px E Fg1 ∧ k = (j : Int) + 1) : k = S1 ∧ (0 ≤ k ∧ k ≤ 3) ∧ (k = 0 → Kn Fg1 ∧ f 0 = S2) ∧ (k ≠ 0 → Kx Fg1) := by
  rcases h with ⟨rfl, r, h1, h2⟩ | ⟨j, E, h1, h2, rfl⟩
  · obtain ⟨k1, k2, k3⟩ := hp r Fg1 h1
    exact ⟨k2.symm, by decide, fun _ => ⟨k1, by rw [k3]; exact h2⟩, fun z => absurd rfl z⟩
  · obtain ⟨k1, i, i3, k2, k3⟩ := hx E Fg1 h2
    have hij := hnd i j E k2 h1
    subst hij
    exact ⟨k3.symm, by omega, fun z => by omega, fun _ => k1⟩
theorem nd_names {names : List String} (h : names.Nodup) : ∀ (i j : Nat) (E : String), names[i]? = some E → names[j]? = some E → i = j := fun i j E h1 h2 => by
  obtain ⟨a1, a2⟩ := List.getElem?_eq_some_iff.mp h1
  obtain ⟨b1, b2⟩ := List.getElem?_eq_some_iff.mp h2
  rcases Nat.lt_trichotomy i j with z | z | z
  · exact absurd (a2.trans b2.symm) (List.pairwise_iff_getElem.mp h i j a1 b1 z)
  · exact z
  · exact absurd (b2.trans a2.symm) (List.pairwise_iff_getElem.mp h j i b1 a1 z)
end TIE
