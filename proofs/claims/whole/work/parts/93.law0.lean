/-! The law's body: its world and its own rows. -/
section LA
variable {p : Program} {l : Launch} {e : Env} {R : Room} {s : State} {m : MethodId} {args : Array Value} {below : List Frame} {meth : Method} {c : Code} {H : Heap} {locs : List Loc} {cells slots : Nat} {Q : State → Prop}
variable {cc : ByteArray} {pc nL : Nat} {ls : Array Slot} {rest : List Value} {own : String} {D : va_G} {cs : Nat → ClassId} {A : Nat → Prop} {F : zF} {a : Nat}
def zLS (D : va_G) (cs : Nat → ClassId) (A : Nat → Prop) (s : State) (H : Heap) (locs : List Loc) (m0 ou od : Nat) (ad : Nat → Nat) (Fg : zF) (v : Nat → Int) (gm : Nat → Int → Int) (f : Nat → Int64) (fd : Nat → UInt64) : Prop :=
  zS D A s Fg H locs ∧ zS D A s (mW cs m0 ad v gm) H locs ∧ zS D A s (z1 ou (zLa cs f)) H locs ∧ zS D A s (z1 od (zDa cs fd)) H locs ∧ zdj Fg (mW cs m0 ad v gm) ∧ Fg ou = none ∧ Fg od = none ∧ mW cs m0 ad v gm ou = none ∧ mW cs m0 ad v gm od = none ∧ ou ≠ od
variable {m0 ou od : Nat} {ad : Nat → Nat} {Fg Fg1 : zF} {v v1 : Nat → Int} {gm g1 : Nat → Int → Int} {f f1 : Nat → Int64} {fd fd1 : Nat → UInt64} {H1 : Heap} {locs1 : List Loc}
theorem z1_ne {a b : Nat} {e : va_E} (h : a ≠ b) : z1 a e b = none := z1_n (Ne.symm h)
theorem zLS.w (h : zLS D cs A s H locs m0 ou od ad Fg v gm f fd) : zS D A s (zun Fg (z1 ou (zLa cs f))) H locs := h.1.un h.2.2.1
theorem zLS.wd (h : zLS D cs A s H locs m0 ou od ad Fg v gm f fd) : zS D A s (zun Fg (z1 od (zDa cs fd))) H locs := h.1.un h.2.2.2.1
/-- behind a call of a wrapper -/
theorem zLS.aL (h : zLS D cs A s H locs m0 ou od ad Fg v gm f fd) (hZ1 : zS D A s (zun Fg1 (z1 ou (zLa cs f1))) H1 locs1) (ho : Fg1 ou = none) (hfr : ∀ G : zF, zdj (zun Fg (z1 ou (zLa cs f))) G → zS D A s G H locs → zS D A s G H1 locs1 ∧ zdj (zun Fg1 (z1 ou (zLa cs f1))) G) : zLS D cs A s H1 locs1 m0 ou od ad Fg1 v gm f1 fd := by
  obtain ⟨a1, a2, a3, a4, a5, a6, a7, a8, a9, a10⟩ := h
  obtain ⟨b1, b2⟩ := hfr _ (zdj_un a5 (zdj1 a8).symm) a2
  obtain ⟨c1, c2⟩ := hfr _ (zdj_un (zdj1 a7) (zdj1 (z1_ne a10))) a4
  exact ⟨hZ1.ul, b1, hZ1.ur (zdj1 ho), c1, zdj_ul b2, ho, zdj1_i (zdj_ul c2), a8, a9, a10⟩
theorem zLS.aD (h : zLS D cs A s H locs m0 ou od ad Fg v gm f fd) (hZ1 : zS D A s (zun Fg1 (z1 od (zDa cs fd1))) H1 locs1) (ho : Fg1 od = none) (hfr : ∀ G : zF, zdj (zun Fg (z1 od (zDa cs fd))) G → zS D A s G H locs → zS D A s G H1 locs1 ∧ zdj (zun Fg1 (z1 od (zDa cs fd1))) G) : zLS D cs A s H1 locs1 m0 ou od ad Fg1 v gm f fd1 := by
  obtain ⟨a1, a2, a3, a4, a5, a6, a7, a8, a9, a10⟩ := h
  obtain ⟨b1, b2⟩ := hfr _ (zdj_un a5 (zdj1 a9).symm) a2
  obtain ⟨c1, c2⟩ := hfr _ (zdj_un (zdj1 a6) (zdj1 (z1_ne (Ne.symm a10)))) a3
  exact ⟨hZ1.ul, b1, c1, hZ1.ur (zdj1 ho), zdj_ul b2, zdj1_i (zdj_ul c2), ho, a8, a9, a10⟩
theorem zLS.aM (h : zLS D cs A s H locs m0 ou od ad Fg v gm f fd) (hZ1 : zS D A s (mW cs m0 ad v1 g1) H1 locs1) (hfr : ∀ G : zF, zdj (mW cs m0 ad v gm) G → zS D A s G H locs → zS D A s G H1 locs1 ∧ zdj (mW cs m0 ad v1 g1) G) : zLS D cs A s H1 locs1 m0 ou od ad Fg v1 g1 f fd := by
  obtain ⟨a1, a2, a3, a4, a5, a6, a7, a8, a9, a10⟩ := h
  obtain ⟨b1, b2⟩ := hfr _ a5.symm a1
  obtain ⟨c1, c2⟩ := hfr _ (zdj1 a8) a3
  obtain ⟨d1, d2⟩ := hfr _ (zdj1 a9) a4
  exact ⟨b1, hZ1, c1, d1, b2.symm, a6, a7, zdj1_i c2, zdj1_i d2, a10⟩
theorem zLS.aG (h : zLS D cs A s H locs m0 ou od ad Fg v gm f fd) (hZ1 : zS D A s Fg1 H1 locs1) (hfr : ∀ G : zF, zdj Fg G → zS D A s G H locs → zS D A s G H1 locs1 ∧ zdj Fg1 G) : zLS D cs A s H1 locs1 m0 ou od ad Fg1 v gm f fd := by
  obtain ⟨a1, a2, a3, a4, a5, a6, a7, a8, a9, a10⟩ := h
  obtain ⟨b1, b2⟩ := hfr _ a5 a2
  obtain ⟨c1, c2⟩ := hfr _ (zdj1 a6) a3
  obtain ⟨d1, d2⟩ := hfr _ (zdj1 a7) a4
  exact ⟨hZ1, b1, c1, d1, b2, zdj1_i c2, zdj1_i d2, a8, a9, a10⟩
/-! the script -/
def sx (xs : Nat → Int32) (k : Int) : Int := (xs k.toNat).toInt
theorem sx_R (xs : Nat → Int32) (k : Int) : InR (sx xs k) := iI_rng _
def sxc (x : Int) : Int := (((iI x).toUInt32 % 65536).toInt32).toInt
theorem sxc_ok (x : Int) : (0 ≤ sxc x ∧ sxc x ≤ 65535) ∧ ((iI x).toUInt32 % 65536).toInt32 = iI (sxc x) := by
  obtain ⟨z, h1, h2⟩ := iI_charR (iI x)
  have e : sxc x = z := by unfold sxc; rw [h2]; exact iI_to ⟨by omega, by omega⟩
  rw [e]
  exact ⟨h1, h2⟩
theorem z_sld (hC : zC p s m args c cc nL own D cs A) (hZ : zS D A s F H locs) {b L : Nat} {xs : Nat → Int32} (hX : va_X b L xs s s.heap) (hbl : b < s.heap.size) (hbA : ¬ A b) (hL : L ≤ 2048) {k : Int} (hk : 0 ≤ k ∧ k < L) (d : decode cc pc = .ok (.iaload, 1))
    (kk : W p l e R s m args below meth c H locs cells slots Q (F0 m (pc + 1) ls (.int (iI (sx xs k)) :: rest))) : W p l e R s m args below meth c H locs cells slots Q (F0 m pc ls (.int (iI k) :: .ref b :: rest)) := by
  refine va_sld hC.x hC.b hX hbl hbA hZ.2.2 (iI_in hk (by omega)) d ?_
  rw [iI_clamp (by omega), iI_of (xs k.toNat)]
  exact kk
theorem z_slen (hC : zC p s m args c cc nL own D cs A) (hZ : zS D A s F H locs) {b L : Nat} {xs : Nat → Int32} (hX : va_X b L xs s s.heap) (hbl : b < s.heap.size) (hbA : ¬ A b) (d : decode cc pc = .ok (.arraylength, 1))
    (kk : W p l e R s m args below meth c H locs cells slots Q (F0 m (pc + 1) ls (.int (iI (L : Int)) :: rest))) : W p l e R s m args below meth c H locs cells slots Q (F0 m pc ls (.ref b :: rest)) := by
  refine va_slen hC.x hC.b hX hbl hbA hZ.2.2 d ?_
  rw [show (Int32.ofNat L) = iI (L : Int) from iI_nat L]
  exact kk
theorem z_i2cx (hC : zC p s m args c cc nL own D cs A) {x : Int} (d : decode cc pc = .ok (.i2c, 1)) (kk : W p l e R s m args below meth c H locs cells slots Q (F0 m (pc + 1) ls (.int (iI (sxc x)) :: rest))) : W p l e R s m args below meth c H locs cells slots Q (F0 m pc ls (.int (iI x) :: rest)) :=
  lv_i2c hC.x hC.b d (sxc_ok x).2 kk
theorem z_lcmp0 (hC : zC p s m args c cc nL own D cs A) {x y : Int64} (h : x = y) (d : decode cc pc = .ok (.lcmp, 1)) (kk : W p l e R s m args below meth c H locs cells slots Q (F0 m (pc + 1) ls (.int (iI 0) :: rest))) : W p l e R s m args below meth c H locs cells slots Q (F0 m pc ls (.long y :: .long x :: rest)) := by
  refine W.lcmp hC.x hC.b d ?_
  subst h
  have e : lg_cmp x x = 0 := by simp [lg_cmp]
  rw [e]
  exact kk
theorem z_dcmp0 (hC : zC p s m args c cc nL own D cs A) {x : UInt64} {op : CmpOp} (h : dQ x) (d : decode cc pc = .ok (.dcmp op, 1)) (kk : W p l e R s m args below meth c H locs cells slots Q (F0 m (pc + 1) ls (.int (iI 0) :: rest))) : W p l e R s m args below meth c H locs cells slots Q (F0 m pc ls (.double x :: .double x :: rest)) := by
  refine lv_dcmp hC.x hC.b d ?_
  rw [dcmp_self h]
  exact kk
end LA
