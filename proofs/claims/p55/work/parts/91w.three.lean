/-! Three worlds side by side: the gazette's cells G, a text being built B, the law's own cells X. -/
section L3
variable {p : Program} {l : Launch} {e : Env} {R : Room} {s : State} {m : MethodId} {args : Array Value} {below : List Frame} {meth : Method} {c : Code} {H : Heap} {locs : List Loc} {cells slots : Nat} {Q : State → Prop}
variable {cc : ByteArray} {pc nL : Nat} {ls : Array Slot} {rest : List Value} {own : String} {D : va_G} {cs : Nat → ClassId} {A : Nat → Prop} {F G B X : zF} {a : Nat}
def zW3 (D : va_G) (A : Nat → Prop) (s : State) (G B X : zF) (H : Heap) (locs : List Loc) : Prop :=
  zS D A s G H locs ∧ zS D A s B H locs ∧ zS D A s X H locs ∧ zdj G B ∧ zdj G X ∧ zdj B X
theorem zW3.g (h : zW3 D A s G B X H locs) : zS D A s G H locs := h.1
theorem zW3.b (h : zW3 D A s G B X H locs) : zS D A s B H locs := h.2.1
theorem zW3.x (h : zW3 D A s G B X H locs) : zS D A s X H locs := h.2.2.1
theorem zW3.gx (h : zW3 D A s G B X H locs) : zS D A s (zun G X) H locs := h.1.un h.2.2.1
theorem zW3.bx (h : zW3 D A s G B X H locs) : zS D A s (zun B X) H locs := h.2.1.un h.2.2.1
theorem zW3.dgx (h : zW3 D A s G B X H locs) : zdj G X := h.2.2.2.2.1
theorem zW3.dbx (h : zW3 D A s G B X H locs) : zdj B X := h.2.2.2.2.2
theorem zW3.of (hZ : zS D A s (zun G X) H locs) (hd : zdj G X) : zW3 D A s G zE X H locs := ⟨hZ.ul, zE_S hZ, hZ.ur hd, zE_dj.symm, hd, zE_dj⟩
theorem zW3.ofX (hZ : zS D A s X H locs) : zW3 D A s zE zE X H locs := ⟨zE_S hZ, zE_S hZ, hZ, zE_dj, zE_dj, zE_dj⟩
theorem zdj_sub {F F1 G : zF} (h : zdj F G) (hs : ∀ q e, F1 q = some e → F q = some e) : zdj F1 G := fun q => by
  rcases h q with z | z
  · left
    cases hF : F1 q with
    | none => rfl
    | some e => rw [hs q e hF] at z; cases z
  · exact Or.inr z
theorem z_cX (hC : zC p s m args c cc nL own D cs A) {post : Option Value → zF → Prop} {mc ms : Nat} {st0 : List Value} (hr : zRun p l e R s m args below meth c H locs cells slots mc ms (F0 m pc ls st0) rest D (zfA X H) post) (hW : zW3 D A s G B X H locs)
    (kk : ∀ (v : Option Value) (X1 : zF) (H1 : Heap) (locs1 : List Loc), post v X1 → zW3 D A s G B X1 H1 locs1 → W p l e R s m args below meth c H1 locs1 (cells + mc) (slots + ms) Q (F0 m (pc + 3) ls (v.toList ++ rest))) : W p l e R s m args below meth c H locs cells slots Q (F0 m pc ls st0) :=
  z_c3 hC hr hW.x hW.g hW.b hW.dgx.symm hW.dbx.symm (fun v F1 H1 locs1 hp h hg hb dg db => kk v F1 H1 locs1 hp ⟨hg, hb, h, hW.2.2.2.1, dg.symm, db.symm⟩)
theorem z_cG (hC : zC p s m args c cc nL own D cs A) {post : Option Value → zF → Prop} {mc ms : Nat} {st0 : List Value} (hr : zRun p l e R s m args below meth c H locs cells slots mc ms (F0 m pc ls st0) rest D (zfA G H) post) (hW : zW3 D A s G B X H locs)
    (kk : ∀ (v : Option Value) (G1 : zF) (H1 : Heap) (locs1 : List Loc), post v G1 → zW3 D A s G1 B X H1 locs1 → W p l e R s m args below meth c H1 locs1 (cells + mc) (slots + ms) Q (F0 m (pc + 3) ls (v.toList ++ rest))) : W p l e R s m args below meth c H locs cells slots Q (F0 m pc ls st0) :=
  z_c3 hC hr hW.g hW.b hW.x hW.2.2.2.1 hW.dgx (fun v F1 H1 locs1 hp h hb hx db dx => kk v F1 H1 locs1 hp ⟨h, hb, hx, db, dx, hW.dbx⟩)
theorem z_cB (hC : zC p s m args c cc nL own D cs A) {post : Option Value → zF → Prop} {mc ms : Nat} {st0 : List Value} (hr : zRun p l e R s m args below meth c H locs cells slots mc ms (F0 m pc ls st0) rest D (zfA B H) post) (hW : zW3 D A s G B X H locs)
    (kk : ∀ (v : Option Value) (B1 : zF) (H1 : Heap) (locs1 : List Loc), post v B1 → zW3 D A s G B1 X H1 locs1 → W p l e R s m args below meth c H1 locs1 (cells + mc) (slots + ms) Q (F0 m (pc + 3) ls (v.toList ++ rest))) : W p l e R s m args below meth c H locs cells slots Q (F0 m pc ls st0) :=
  z_c3 hC hr hW.b hW.g hW.x hW.2.2.2.1.symm hW.dbx (fun v F1 H1 locs1 hp h hg hx dg dx => kk v F1 H1 locs1 hp ⟨hg, h, hx, dg.symm, hW.dgx, dx⟩)
/-- a call over the gazette and the law's cells -/
theorem z_cGX (hC : zC p s m args c cc nL own D cs A) {post : Option Value → zF → Prop} {mc ms : Nat} {st0 : List Value} (hr : zRun p l e R s m args below meth c H locs cells slots mc ms (F0 m pc ls st0) rest D (zfA (zun G X) H) post) (hW : zW3 D A s G B X H locs)
    (kk : ∀ (v : Option Value) (F1 : zF) (H1 : Heap) (locs1 : List Loc), post v F1 → (∀ G1 X1 : zF, F1 = zun G1 X1 → zdj G1 X1 → zW3 D A s G1 B X1 H1 locs1) → W p l e R s m args below meth c H1 locs1 (cells + mc) (slots + ms) Q (F0 m (pc + 3) ls (v.toList ++ rest))) : W p l e R s m args below meth c H locs cells slots Q (F0 m pc ls st0) :=
  z_c2 hC hr hW.gx hW.b (zdj_un hW.2.2.2.1 hW.dbx.symm) (fun v F1 H1 locs1 hp h hb db => kk v F1 H1 locs1 hp (fun G1 X1 he hd => by
    subst he
    exact ⟨h.ul, hb, h.ur hd, zdj_ul db, hd, (zdj_ur db hd).symm⟩))
theorem oSB.mono {F1 : zF} {va cap : Nat} {t : List Int} (h : oSB cs F a va cap t) (hl : zle F F1) : oSB cs F1 a va cap t := by
  obtain ⟨ml, f, h1, h2, h3⟩ := h
  exact ⟨ml, f, hl _ _ h1, hl _ _ h2, h3⟩
theorem sb_split {F1 : zF} {va va1 cap cap1 : Nat} {t t1 : List Int} (hd : zdj B X) (hB : oSB cs B a va cap t) (h1 : va1 = va ∨ zun B X va1 = none) (hk : zko [a, va] (zun B X) F1) (hb : oSB cs F1 a va1 cap1 t1) :
    zle X F1 ∧ ∃ B1 : zF, zdj B1 X ∧ (∀ q e, B1 q = some e → F1 q = some e) ∧ oSB cs B1 a va1 cap1 t1 := by
  obtain ⟨n1, n2⟩ := hB.kn
  have xa : X a = none := (hd a).resolve_left n1
  have xv : X va = none := (hd va).resolve_left n2
  have xv1 : X va1 = none := by
    rcases h1 with z | z
    · rw [z]; exact xv
    · cases hx : X va1 with
      | none => rfl
      | some e9 => rw [zun_le2 hd _ _ hx] at z; cases z
  refine ⟨fun q e9 hq => hk q e9 (zun_le2 hd q e9 hq) (zni1 (fun z => by rw [z, xa] at hq; cases hq) (zni1 (fun z => by rw [z, xv] at hq; cases hq) zni0)), fun q => if q = a ∨ q = va1 then F1 q else none, fun q => ?_, fun q e9 hq => ?_, ?_⟩
  · by_cases z : q = a ∨ q = va1
    · right
      rcases z with z | z
      · rw [z]; exact xa
      · rw [z]; exact xv1
    · left; exact if_neg z
  · have hq2 : (if q = a ∨ q = va1 then F1 q else none) = some e9 := hq
    by_cases z : q = a ∨ q = va1
    · rw [if_pos z] at hq2; exact hq2
    · rw [if_neg z] at hq2; cases hq2
  · obtain ⟨ml, f, k1, k2, k3⟩ := hb
    exact ⟨ml, f, (if_pos (Or.inl rfl)).trans k1, (if_pos (Or.inr rfl)).trans k2, k3⟩
/-- append -/
theorem z_cAp (hC : zC p s m args c cc nL own D cs A) {mc ms va cap cap1 : Nat} {t t1 : List Int} {st0 : List Value} (hr : zRun p l e R s m args below meth c H locs cells slots mc ms (F0 m pc ls st0) rest D (zfA (zun B X) H) (pR (fun r F1 => a = r ∧ ∃ va1 : Nat, (va1 = va ∨ zun B X va1 = none) ∧ zko [a, va] (zun B X) F1 ∧ oSB cs F1 a va1 cap1 t1))) (hW : zW3 D A s G B X H locs) (hB : oSB cs B a va cap t)
    (kk : ∀ (B1 : zF) (va1 : Nat) (H1 : Heap) (locs1 : List Loc), oSB cs B1 a va1 cap1 t1 → zW3 D A s G B1 X H1 locs1 → W p l e R s m args below meth c H1 locs1 (cells + mc) (slots + ms) Q (F0 m (pc + 3) ls (.ref a :: rest))) : W p l e R s m args below meth c H locs cells slots Q (F0 m pc ls st0) := by
  refine z_c2 hC hr hW.bx hW.g (zdj_un hW.2.2.2.1.symm hW.dgx.symm) (fun v F1 H1 locs1 hp h hg dg => ?_)
  obtain ⟨r, rfl, rfl, va1, k1, k2, k3⟩ := hp
  obtain ⟨hl, B1, d1, d2, d3⟩ := sb_split hW.dbx hB k1 k2 k3
  exact kk B1 va1 H1 locs1 d3 ⟨hg, h.sub d2, h.sub hl, (zdj_sub dg d2).symm, (zdj_sub dg hl).symm, d1⟩
/-- toString: the builder is forgotten -/
theorem z_cTs (hC : zC p s m args c cc nL own D cs A) {mc ms va cap : Nat} {t : List Int} {st0 : List Value} (hr : zRun p l e R s m args below meth c H locs cells slots mc ms (F0 m pc ls st0) rest D (zfA (zun B X) H) (pR (fun r F1 => zun B X r = none ∧ (∃ v : Nat, zun B X v = none ∧ oSt cs F1 r v t ∧ F1 r = some (.inr (0, [.ref v, .int (iI 0), .int (iI 0), .int (iI 0)]))) ∧ zle (zun B X) F1))) (hW : zW3 D A s G B X H locs) (hB : oSB cs B a va cap t)
    (kk : ∀ (r v : Nat) (X1 : zF) (H1 : Heap) (locs1 : List Loc), zle X X1 → oSt cs X1 r v t → X1 r = some (.inr (0, [.ref v, .int (iI 0), .int (iI 0), .int (iI 0)])) → zW3 D A s G zE X1 H1 locs1 → W p l e R s m args below meth c H1 locs1 (cells + mc) (slots + ms) Q (F0 m (pc + 3) ls (.ref r :: rest))) : W p l e R s m args below meth c H locs cells slots Q (F0 m pc ls st0) := by
  refine z_c2 hC hr hW.bx hW.g (zdj_un hW.2.2.2.1.symm hW.dgx.symm) (fun v9 F1 H1 locs1 hp h hg dg => ?_)
  obtain ⟨r, rfl, hr0, ⟨v, hv0, hs, hs2⟩, hl⟩ := hp
  obtain ⟨n1, n2⟩ := hB.kn
  have xa : X a = none := (hW.dbx a).resolve_left n1
  have xv : X va = none := (hW.dbx va).resolve_left n2
  have na : zun B X a ≠ none := fun z => n1 (by cases hb : B a with | none => rfl | some e9 => rw [zun_l hb] at z; cases z)
  have nv : zun B X va ≠ none := fun z => n2 (by cases hb : B va with | none => rfl | some e9 => rw [zun_l hb] at z; cases z)
  have key : ∀ q, zun B X q = none → zrm [a, va] F1 q = F1 q := fun q hq => zrm_out (zni1 (fun z => by rw [z] at hq; exact na hq) (zni1 (fun z => by rw [z] at hq; exact nv hq) zni0))
  have hs3 : zrm [a, va] F1 r = some (.inr (0, [.ref v, .int (iI 0), .int (iI 0), .int (iI 0)])) := (key r hr0).trans hs2
  refine kk r v (zrm [a, va] F1) H1 locs1 (fun q e9 hq => ?_) ⟨hs.1.imp (fun ⟨f, k1, k2, k3⟩ => ⟨f, (key r hr0).trans k1, (key v hv0).trans k2, k3⟩) id, hs.2⟩ hs3 ⟨hg, zE_S hg, h.sub zrm_le, zE_dj.symm, (zdj_sub dg zrm_le).symm, zE_dj⟩
  rw [zrm_out (zni1 (fun z => by rw [z, xa] at hq; cases hq) (zni1 (fun z => by rw [z, xv] at hq; cases hq) zni0))]
  exact hl q e9 (zun_le2 hW.dbx q e9 hq)
/-- all cells -/
def zal3 (G B X : zF) : zF := zun G (zun B X)
theorem zW3.all (h : zW3 D A s G B X H locs) : zS D A s (zal3 G B X) H locs := h.1.un h.bx
theorem zal_g {G B X : zF} : zle G (zal3 G B X) := zun_le1
theorem zal_b {G B X : zF} (h1 : zdj G B) : zle B (zal3 G B X) := fun q e hq => by
  rcases h1 q with z | z
  · unfold zal3; rw [zun_r z]; exact zun_l hq
  · rw [z] at hq; cases hq
theorem zal_x {G B X : zF} (h1 : zdj G X) (h2 : zdj B X) : zle X (zal3 G B X) := fun q e hq => by
  rcases h1 q with z | z
  · unfold zal3; rw [zun_r z]; exact zun_le2 h2 q e hq
  · rw [z] at hq; cases hq
theorem zal_n {G B X : zF} {q : Nat} (h : zal3 G B X q = none) : G q = none ∧ B q = none ∧ X q = none := by
  unfold zal3 at h
  cases hg : G q with
  | some e => rw [zun_l hg] at h; cases h
  | none =>
    rw [zun_r hg] at h
    cases hb : B q with
    | some e => rw [zun_l hb] at h; cases h
    | none => rw [zun_r hb] at h; exact ⟨rfl, rfl, h⟩
theorem zle_up {F T : zF} {q : Nat} {e : va_E} (h : zle F T) (hq : T q = none) : ∀ q1 e1, zup F q e q1 = some e1 → zup T q e q1 = some e1 := fun q1 e1 h1 => by
  by_cases z : q1 = q
  · rw [z, zup_s] at h1 ⊢; exact h1
  · rw [zup_n z] at h1 ⊢; exact h q1 e1 h1
theorem zdj_up {F G : zF} {q : Nat} {e : va_E} (h : zdj F G) (hq : F q = none) : zdj F (zup G q e) := fun q1 => by
  by_cases z : q1 = q
  · rw [z]; exact Or.inl hq
  · rw [zup_n z]; exact h q1
/-- a new cell of the law's -/
theorem zW3.nX {H1 : Heap} {locs1 : List Loc} {q : Nat} {en : va_E} (h : zW3 D A s G B X H locs) (hn : zal3 G B X q = none) (h1 : zS D A s (zup (zal3 G B X) q en) H1 locs1) : zW3 D A s G B (zup X q en) H1 locs1 := by
  obtain ⟨n1, n2, n3⟩ := zal_n hn
  refine ⟨h1.sub (fun q1 e1 z => zup_k (zF_ne (zal_g q1 e1 z) hn) (zal_g q1 e1 z)), h1.sub (fun q1 e1 z => zup_k (zF_ne (zal_b h.2.2.2.1 q1 e1 z) hn) (zal_b h.2.2.2.1 q1 e1 z)), h1.sub (zle_up (zal_x h.dgx h.dbx) hn), h.2.2.2.1, zdj_up h.dgx n1, zdj_up h.dbx n2⟩
/-- a new cell of the builder's -/
theorem zW3.nB {H1 : Heap} {locs1 : List Loc} {q : Nat} {en : va_E} (h : zW3 D A s G B X H locs) (hn : zal3 G B X q = none) (h1 : zS D A s (zup (zal3 G B X) q en) H1 locs1) : zW3 D A s G (zup B q en) X H1 locs1 := by
  obtain ⟨n1, n2, n3⟩ := zal_n hn
  refine ⟨h1.sub (fun q1 e1 z => zup_k (zF_ne (zal_g q1 e1 z) hn) (zal_g q1 e1 z)), h1.sub (zle_up (zal_b h.2.2.2.1) hn), h1.sub (fun q1 e1 z => zup_k (zF_ne (zal_x h.dgx h.dbx q1 e1 z) hn) (zal_x h.dgx h.dbx q1 e1 z)), zdj_up h.2.2.2.1 n1, h.dgx, (zdj_up h.dbx.symm n3).symm⟩
/-- a new cell of the gazette's -/
theorem zW3.nG {H1 : Heap} {locs1 : List Loc} {q : Nat} {en : va_E} (h : zW3 D A s G B X H locs) (hn : zal3 G B X q = none) (h1 : zS D A s (zup (zal3 G B X) q en) H1 locs1) : zW3 D A s (zup G q en) B X H1 locs1 := by
  obtain ⟨n1, n2, n3⟩ := zal_n hn
  refine ⟨h1.sub (zle_up zal_g hn), h1.sub (fun q1 e1 z => zup_k (zF_ne (zal_b h.2.2.2.1 q1 e1 z) hn) (zal_b h.2.2.2.1 q1 e1 z)), h1.sub (fun q1 e1 z => zup_k (zF_ne (zal_x h.dgx h.dbx q1 e1 z) hn) (zal_x h.dgx h.dbx q1 e1 z)), (zdj_up h.2.2.2.1.symm n2).symm, (zdj_up h.dgx.symm n3).symm, h.dbx⟩
/-- a write into a cell of the law's -/
theorem zW3.uX {H1 : Heap} {locs1 : List Loc} {q : Nat} {en e0 : va_E} (h : zW3 D A s G B X H locs) (hq : X q = some e0) (h1 : zS D A s (zup (zal3 G B X) q en) H1 locs1) : zW3 D A s G B (zup X q en) H1 locs1 := by
  have n1 : G q = none := (h.dgx q).resolve_right (fun z => by rw [z] at hq; cases hq)
  have n2 : B q = none := (h.dbx q).resolve_right (fun z => by rw [z] at hq; cases hq)
  refine ⟨h1.sub (fun q1 e1 z => zup_k (zF_ne z n1) (zal_g q1 e1 z)), h1.sub (fun q1 e1 z => zup_k (zF_ne z n2) (zal_b h.2.2.2.1 q1 e1 z)), h1.sub (fun q1 e1 z => ?_), h.2.2.2.1, zdj_up h.dgx n1, zdj_up h.dbx n2⟩
  by_cases y : q1 = q
  · rw [y, zup_s] at z ⊢; exact z
  · rw [zup_n y] at z ⊢; exact zal_x h.dgx h.dbx q1 e1 z
/-- a question that may throw, where it doesn't -/
theorem z_xno {post : Option Value → zF → Prop} {px : String → zF → Prop} {mc ms : Nat} {g : JFrame} {A1 : Nat → Prop} (h : zXRun p l e R s m args below meth c H locs cells slots mc ms g rest D A1 post px) (hn : ∀ E F1, px E F1 → False) : zRun p l e R s m args below meth c H locs cells slots mc ms g rest D A1 post := by
  obtain ⟨a, h⟩ := h
  refine ⟨a, fun T hT X => ?_⟩
  rcases h T hT X with z | ⟨q, st₀, t, T', L, E, ce, h0, X', hL, e1, e2, ⟨⟨F1, hp, hb⟩, hF⟩, -⟩
  · exact z
  · exact (hn E F1 hp).elim
end L3
/-- words as an array of strings -/
def oSs7 (cs : Nat → ClassId) (X : zF) (a : Nat) (ws : List zWd) : Prop := ∃ h : Int → Option Nat, X a = some (zO (cs 7) ws.length h) ∧ ∀ k : Int, 0 ≤ k → k < ws.length → ∃ q v : Nat, h k = some q ∧ oSt cs X q v (ws.getD k.toNat [])
theorem oSs7.mono {cs : Nat → ClassId} {X X1 : zF} {a : Nat} {ws : List zWd} (h : oSs7 cs X a ws) (hl : zle X X1) : oSs7 cs X1 a ws := by
  obtain ⟨f, h1, h2⟩ := h
  exact ⟨f, hl _ _ h1, fun k k0 k1 => by obtain ⟨q, v, h3, h4⟩ := h2 k k0 k1; exact ⟨q, v, h3, h4.mono hl⟩⟩
/-- unsigned shifts -/
theorem iI_mod (x : Int) : iI x = iI (x % 4294967296) := by
  unfold iI
  apply Int32.toInt_inj.mp
  rw [Int32.toInt_ofInt, Int32.toInt_ofInt]
  show Int.bmod x 4294967296 = Int.bmod (x % 4294967296) 4294967296
  have h := Int.emod_bmod x 4294967296
  exact h.symm
theorem sh_tab : ∀ k : Nat, k < 32 → (((iI (k : Int)).toUInt32 &&& Int32.toUInt32 31).toBitVec % 32).toNat = k := by decide +kernel
theorem iI_ushr (x : Int) (k : Nat) (hk : k < 32) : ((iI x).toUInt32 >>> ((iI (k : Int)).toUInt32 &&& Int32.toUInt32 31)).toInt32 = iI (x % 4294967296 / ((2 ^ k : Nat) : Int)) := by
  obtain ⟨n, hn⟩ : ∃ n : Nat, x % 4294967296 = (n : Int) := ⟨(x % 4294967296).toNat, by omega⟩
  rw [iI_mod x, hn, ← iI_nat, pk_ushrN (by omega) (iI (k : Int)) k (sh_tab k hk), iI_nat]
  congr 1
/-- a shift of what is not negative -/
theorem iI_ushrN {x : Int} (k : Nat) (hk : k < 32) (h : 0 ≤ x ∧ x ≤ 2147483647) : ((iI x).toUInt32 >>> ((iI (k : Int)).toUInt32 &&& Int32.toUInt32 31)).toInt32 = iI (x / ((2 ^ k : Nat) : Int)) := by
  rw [iI_ushr x k hk, show x % 4294967296 = x by omega]
