section ZTP
variable {p : Program} {l : Launch} {e : Env} {R : Room} {s : State} {m : MethodId} {args : Array Value} {below : List Frame} {meth : Method} {c : Code} {H : Heap} {locs : List Loc} {cells slots : Nat} {Q : State → Prop}
variable {pc : Nat} {ls : Array Slot} {rest : List Value}
theorem z_topi {x : Int32} {y : Int} (h : x = iI y) (k : W p l e R s m args below meth c H locs cells slots Q (F0 m pc ls (.int (iI y) :: rest))) : W p l e R s m args below meth c H locs cells slots Q (F0 m pc ls (.int x :: rest)) := by rw [h]; exact k
theorem z_topf {x y : UInt32} (h : x = y) (k : W p l e R s m args below meth c H locs cells slots Q (F0 m pc ls (.float y :: rest))) : W p l e R s m args below meth c H locs cells slots Q (F0 m pc ls (.float x :: rest)) := by rw [h]; exact k
theorem z_topd {x y : UInt64} (h : x = y) (k : W p l e R s m args below meth c H locs cells slots Q (F0 m pc ls (.double y :: rest))) : W p l e R s m args below meth c H locs cells slots Q (F0 m pc ls (.double x :: rest)) := by rw [h]; exact k
end ZTP
theorem fcmp_self {x : UInt32} (h : fP x) : FP.fcmp x x = some .eq := by
  have hd := dP_dec32 h
  show FP.Core.order (FP.Core.decode FP.Core.b32 x.toNat) (FP.Core.decode FP.Core.b32 x.toNat) = some .eq
  cases hx : FP.Core.decode FP.Core.b32 x.toNat with
  | nan => rw [hx] at hd; exact absurd hd (fun q => q)
  | inf s => show some (compare (FP.Core.signed s 1) (FP.Core.signed s 1)) = _; simp [compare, compareOfLessAndEq]
  | fin s c q =>
    show some (compare (FP.Core.signed s (FP.Core.inUnits c q (min q q))) (FP.Core.signed s (FP.Core.inUnits c q (min q q)))) = _
    simp [compare, compareOfLessAndEq]
def mQf (v : Nat → Int) (g : Nat → Int → Int) (r : UInt32) (v1 : Nat → Int) (g1 : Nat → Int → Int) (q : Int × UInt32) : Prop := upN v 6 q.1 = v1 ∧ g = g1 ∧ (q.1 = 0 → r = q.2)
def mQd (v : Nat → Int) (g : Nat → Int → Int) (r : UInt64) (v1 : Nat → Int) (g1 : Nat → Int → Int) (q : Int × UInt64) : Prop := upN v 6 q.1 = v1 ∧ g = g1 ∧ (q.1 = 0 → r = q.2)
theorem mQf_of {v : Nat → Int} {g : Nat → Int → Int} {r : UInt32} {v1 : Nat → Int} {g1 : Nat → Int → Int} {q : Int × UInt32} {t : Int} {y : UInt32} (h : q = (t, y)) (hv : upN v 6 t = v1) (hg : g = g1) (hr : t = 0 → r = y) : mQf v g r v1 g1 q := by
  subst h; exact ⟨hv, hg, hr⟩
theorem mQd_of {v : Nat → Int} {g : Nat → Int → Int} {r : UInt64} {v1 : Nat → Int} {g1 : Nat → Int → Int} {q : Int × UInt64} {t : Int} {y : UInt64} (h : q = (t, y)) (hv : upN v 6 t = v1) (hg : g = g1) (hr : t = 0 → r = y) : mQd v g r v1 g1 q := by
  subst h; exact ⟨hv, hg, hr⟩
def sFr (c : zCo) (x : Int) : Int × UInt32 := match zfi (cIs c) x with
  | none => (1, 0)
  | some s => (0, zfr (cDa c - iPr s).toNat)
def sFB (c : zCo) (x : Int) : Int × Int := match zfi (cIs c) x with
  | none => (1, 0)
  | some s => (0, (zfr (cDa c - iPr s).toNat).toInt32.toInt)
def sCv (c : zCo) (x : Int) : Int × UInt32 := match zfi (cIs c) x with
  | none => (1, 0)
  | some s => (0, FP.fdiv (FP.i2f (iI (iLi s))) (FP.i2f (iI (iCo s * iHe s))))
theorem isOK_pg {ni nn da : Int} {s : zIs} (h : isOK ni nn da s) : 1 ≤ iCo s * iHe s ∧ iCo s * iHe s ≤ 80 := by
  have h1 := h.2.1
  have h2 := h.2.2.1
  have h3 : iCo s = 1 ∨ iCo s = 2 ∨ iCo s = 3 ∨ iCo s = 4 := by omega
  rcases h3 with e | e | e | e <;> rw [e] <;> omega
/-- words and letters of articles -/
def zwn (l : List zAr) : Int := (l.map (fun a => (a.2.2.length : Int))).sum
def zlt (l : List zAr) : Int := (l.map (fun a => (zlens a).sum)).sum
theorem zwn_s {l : List zAr} {k : Nat} {a : zAr} (h : l[k]? = some a) : zwn (l.take (k + 1)) = zwn (l.take k) + a.2.2.length := by
  unfold zwn
  rw [List.take_add_one, h, List.map_append, List.sum_append]
  simp
theorem zlt_s {l : List zAr} {k : Nat} {a : zAr} (h : l[k]? = some a) : zlt (l.take (k + 1)) = zlt (l.take k) + (zlens a).sum := by
  unfold zlt
  rw [List.take_add_one, h, List.map_append, List.sum_append]
  simp
theorem zls_s {l : List Int} {k : Nat} {a : Int} (h : l[k]? = some a) : (l.take (k + 1)).sum = (l.take k).sum + a := by
  rw [List.take_add_one, h, List.sum_append]
  simp
def sMW (c : zCo) : Int × UInt64 := if cAr c = [] then (1, 0) else (0, FP.ddiv (FP.i2d (iI (zlt (cAr c)))) (FP.i2d (iI (zwn (cAr c)))))
def zsf2 (da : Int) (l : List zIs) : UInt32 := l.foldl (fun s i => FP.fadd s (zfr (da - iPr i).toNat)) FP.fconst0
theorem zsf2_s {da : Int} {l : List zIs} {k : Nat} {a : zIs} (h : l[k]? = some a) : zsf2 da (l.take (k + 1)) = FP.fadd (zsf2 da (l.take k)) (zfr (da - iPr a).toNat) := by
  unfold zsf2
  rw [List.take_add_one, h, List.foldl_append]
  rfl
def sMF (c : zCo) : Int × UInt32 := if cIs c = [] then (1, 0) else (0, FP.fdiv (zsf2 (cDa c) (cIs c)) (FP.i2f (iI (cIs c).length)))
/-- days pass -/
def zlost (da days : Int) (l : List zIs) : Int := (l.countP (fun i => decide (da - iPr i < 5) && decide (5 ≤ da - iPr i + days)) : Nat)
theorem zlost_s {da days : Int} {l : List zIs} {k : Nat} {a : zIs} (h : l[k]? = some a) : ((da - iPr a < 5 ∧ 5 ≤ da - iPr a + days) ∧ zlost da days (l.take (k + 1)) = zlost da days (l.take k) + 1) ∨ (¬ (da - iPr a < 5 ∧ 5 ≤ da - iPr a + days) ∧ zlost da days (l.take (k + 1)) = zlost da days (l.take k)) := by
  unfold zlost
  rw [List.take_add_one, h, List.countP_append]
  by_cases q : da - iPr a < 5 ∧ 5 ≤ da - iPr a + days
  · left
    refine ⟨q, ?_⟩
    simp [q.1, q.2]
  · right
    refine ⟨q, ?_⟩
    have : (decide (da - iPr a < 5) && decide (5 ≤ da - iPr a + days)) = false := by
      rw [Bool.eq_false_iff]
      intro z
      rw [Bool.and_eq_true] at z
      exact q ⟨of_decide_eq_true z.1, of_decide_eq_true z.2⟩
    simp [this]
def cDay (c : zCo) (d : Int) : zCo := (cAr c, cIs c, cNi c, cNn c, cWi c, cCo c, cHe c, cDa c + d, cLa c)
def sDay (c : zCo) (d : Int) : Int × zCo × Int := if 1 ≤ d ∧ d ≤ 30 then (0, cDay c d, zlost (cDa c) d (cIs c)) else (1, c, 0)
theorem sDay_p (c : zCo) (d : Int) : 0 ≤ (sDay c d).1 := by
  unfold sDay
  split
  · exact Int.le_refl 0
  · exact (by decide : (0 : Int) ≤ 1)
theorem mR_set {N : Nat} {f f' : Int → Int} {c c' : zCo} (h : mR f c) (hK : cOK N c) (ha : cAr c' = cAr c) (hi : cIs c' = cIs c) (hr : ∀ k : Int, 9 ≤ k → f' k = f k) (h0 : f' 0 = f 0) (h1 : f' 1 = cNi c') (h2 : f' 2 = cWi c') (h3 : f' 3 = cCo c') (h4 : f' 4 = cHe c') (h5 : f' 5 = cDa c') (h6 : f' 6 = cLa c') (h7 : f' 7 = f 7) (h8 : f' 8 = cNn c') : mR f' c' := by
  obtain ⟨e0, e1, e2, e3, e4, e5, e6, e7, e8, hA, hI⟩ := h
  have hla := hK.1
  have hli := hK.2.1
  refine ⟨by rw [ha, h0, e0], h1, h2, h3, h4, h5, h6, by rw [hi, h7, e7], h8, fun i a q => ?_, fun i s q => ?_⟩
  · rw [ha] at q
    have hil := (List.getElem?_eq_some_iff.mp q).1
    refine rAr_cong (hA i a q) (hK.2.2.1 a (List.mem_of_getElem? q)) (fun k z1 z2 => ?_)
    exact hr _ (by omega)
  · rw [hi] at q
    have hil := (List.getElem?_eq_some_iff.mp q).1
    refine rIs_cong (hI i s q) (hK.2.2.2.2.1 s (List.mem_of_getElem? q)) (fun k z1 z2 => ?_)
    exact hr _ (by omega)
def cWid (c : zCo) (x : Int) : zCo := (cAr c, cIs c, cNi c, cNn c, x, cCo c, cHe c, cDa c, cLa c)
def sWid (c : zCo) (x : Int) : Int × zCo × Int := if 4 ≤ x ∧ x ≤ 20 then (0, cWid c x, cWi c) else (1, c, 0)
theorem sWid_p (c : zCo) (d : Int) : 0 ≤ (sWid c d).1 := by
  unfold sWid
  split
  · exact Int.le_refl 0
  · exact (by decide : (0 : Int) ≤ 1)
def cPag (c : zCo) (x y : Int) : zCo := (cAr c, cIs c, cNi c, cNn c, cWi c, x, y, cDa c, cLa c)
def sPag (c : zCo) (x y : Int) : Int × zCo × Int := if (1 ≤ x ∧ x ≤ 4) ∧ 1 ≤ y ∧ y ≤ 20 then (0, cPag c x y, x * y) else (1, c, 0)
theorem sPag_p (c : zCo) (x y : Int) : 0 ≤ (sPag c x y).1 := by
  unfold sPag
  split
  · exact Int.le_refl 0
  · exact (by decide : (0 : Int) ≤ 1)
/-! methods of java.lang.Float that have no row among the natives: their walk begins as any other's -/
theorem zM_ofF {l : Launch} {D : va_G} {cs : Nat → ClassId} {A : Nat → Prop} {F : zF} {cc : ByteArray} {nL : Nat} {own : String} {y : MethodName} {r : Option FieldType} {k mc ms : Nat} {av : List Value} {post : Option Value → zF → Prop} (hy : plainFor y = true) (hcl : y.cls = own) (hn : (lg_sl av).length ≤ nL)
    (body : ∀ (p : Program) (e : Env) (s : State) (m : MethodId) (below : List Frame) (meth : Method) (c : Code), zC p s m av.toArray c cc nL own D cs A → meth.sig.returnType = r → meth.locks = false → meth.name = y.name → zS D A s F s.heap [] →
      ∀ ls : Array Slot, lv_has ls nL (lv_args 0 av) → W p l e (zR k mc ms) s m av.toArray below meth c s.heap [] 0 0 (MQ below (zQ D A post) av.toArray s mc ms A) (F0 m 0 ls [])) : zM l D cs A y cc nL r k mc ms av F post := by
  refine MetFree.of_bodySF (code := cc) (maxLocals := nL) (ret := r) hy (fun args s m h hnm => ?_) (fun p e s m args below meth c s₁ B hml hv _ => ?_)
  · obtain ⟨meth, c, h1, h2, h3, h4, h5, h6, -, -⟩ := Cond.code_spec hnm (atoms_spec (ws := zws y cc nL r) h _ List.mem_cons_self)
    exact ⟨meth, c, h1, h2, h3, h4, h5, h6⟩
  · obtain ⟨rfl, h1, h2, h3, h4, h5⟩ := hv
    have hts := atoms_spec (ws := zws y cc nL r) B.pre
    have hown : s.vm.findClass y.cls = some m.cls := findClass_of_methodNamed B.named
    have hl := lv_entry av (n := nL) hn
    have hh0 : s₁.heap = s.heap := by rw [B.state]; rfl
    have hw := body p e s m below meth c ⟨⟨B.exec, B.bytes, hml, by rw [← hcl]; exact hown, fun w hw => hts w (List.mem_cons_of_mem _ hw)⟩, h3, h4, h5⟩ B.returns B.notSynchronized (name_of_methodNamed B.named B.method).1 ⟨h1, h2, va_S.rf⟩ _ hl
    rw [← lg_entry_eq] at hw
    obtain ⟨t, a1, o, b1, b2, b3⟩ := hw s₁ hh0 (Stand.of_body B)
    exact ⟨t, o, a1, b1, b2, ⟨b3.1, b3.2⟩⟩
