theorem w_finP {cs : Nat → ClassId} {ou : Nat} {names : List String} {post : Int → zF → Prop} {px : String → zF → Prop} {S1 S2 k : Int} {Kn Kx : zF → Prop} {F : zF} (h : wPL cs ou names post px k F) (hp : ∀ (r : Int) (F1 : zF), post r F1 → Kn F1 ∧ S1 = 0 ∧ S2 = r) (hx : ∀ (E : String) (F1 : zF), px E F1 → Kx F1 ∧ ∃ i : Nat, i < 3 ∧ names[i]? = some E ∧ S1 = (i : Int) + 1) (hnd : ∀ (i j : Nat) (E : String), names[i]? = some E → names[j]? = some E → i = j) : ∃ (Fg1 : zF) (f : Nat → Int64), F = zun Fg1 (z1 ou (zLa cs f)) ∧ Fg1 ou = none ∧ k = S1 ∧ (0 ≤ k ∧ k ≤ 3) ∧ (k = 0 → Kn Fg1 ∧ f 0 = (iI S2).toInt64) ∧ (k ≠ 0 → Kx Fg1) := by
  obtain ⟨Fg1, f, h1, h2, h3⟩ := h
  exact ⟨Fg1, f, h1, h2, w_fin hp hx hnd h3⟩
theorem w_finDP {cs : Nat → ClassId} {ou : Nat} {names : List String} {post : UInt64 → zF → Prop} {px : String → zF → Prop} {S1 k : Int} {S2 : UInt64} {Kn Kx : zF → Prop} {F : zF} (h : wPD cs ou names post px k F) (hp : ∀ (r : UInt64) (F1 : zF), post r F1 → Kn F1 ∧ S1 = 0 ∧ S2 = r) (hx : ∀ (E : String) (F1 : zF), px E F1 → Kx F1 ∧ ∃ i : Nat, i < 3 ∧ names[i]? = some E ∧ S1 = (i : Int) + 1) (hnd : ∀ (i j : Nat) (E : String), names[i]? = some E → names[j]? = some E → i = j) : ∃ (Fg1 : zF) (f : Nat → UInt64), F = zun Fg1 (z1 ou (zDa cs f)) ∧ Fg1 ou = none ∧ k = S1 ∧ (0 ≤ k ∧ k ≤ 3) ∧ (k = 0 → Kn Fg1 ∧ f 0 = S2) ∧ (k ≠ 0 → Kx Fg1) := by
  obtain ⟨Fg1, f, h1, h2, h3⟩ := h
  exact ⟨Fg1, f, h1, h2, w_finD hp hx hnd h3⟩
theorem sOc_eq {v : Nat → Int} {gm : Nat → Int → Int} {out : List Int} (h : mO v gm out) (x : Int) : (if 0 ≤ x ∧ x < v 15 then ((0 : Int), gm 14 x) else (1, 0)) = (if 0 ≤ x ∧ x < (out.length : Int) then ((0 : Int), out.getD x.toNat 0) else (1, 0)) := by
  rw [h.1]
  by_cases c : 0 ≤ x ∧ x < (out.length : Int)
  · rw [if_pos c, if_pos c]
    have := lnAt_get h.2 c.1 c.2
    rw [Int.zero_add] at this
    rw [this]
  · rw [if_neg c, if_neg c]
theorem sMW_Q {N : Nat} {c0 : zCo} (hK : cOK N c0) (h : (sMW c0).1 = 0) : dQ (sMW c0).2 := by
  unfold sMW at h ⊢
  by_cases c : cAr c0 = []
  · rw [if_pos c] at h; cases h
  · rw [if_neg c]
    have h6 := hK.1
    have hw : ∀ l : List zAr, (∀ a ∈ l, arOK (cNi c0) a) → (zwn l ≤ 30 * l.length ∧ (l.length : Int) ≤ zwn l) ∧ 0 ≤ zlt l ∧ zlt l ≤ 360 * l.length := fun l => by
      induction l with
      | nil => exact fun _ => ⟨⟨by decide, by decide⟩, by decide, by decide⟩
      | cons a t ih =>
        intro hl
        obtain ⟨⟨i1, i2⟩, i3, i4⟩ := ih (fun x hx => hl x (List.mem_cons_of_mem _ hx))
        have ha := hl a List.mem_cons_self
        have hs : ∀ m : List Int, (∀ y ∈ m, 0 ≤ y ∧ y ≤ 12) → 0 ≤ m.sum ∧ m.sum ≤ 12 * m.length := fun m => by
          induction m with
          | nil => exact fun _ => ⟨by decide, by decide⟩
          | cons y m ihm =>
            intro hm
            have h1 := ihm (fun z hz => hm z (List.mem_cons_of_mem _ hz))
            have h2 := hm y List.mem_cons_self
            rw [List.sum_cons, List.length_cons]
            omega
        have hz := hs (zlens a) (fun y hy => by
          unfold zlens at hy
          obtain ⟨wd, hwd, rfl⟩ := List.mem_map.mp hy
          have := (ha.2.2.2 wd hwd).1
          omega)
        rw [zlens_l] at hz
        have h30 := ha.2.2.1
        have e1 : zwn (a :: t) = (a.2.2.length : Int) + zwn t := by
          unfold zwn
          rw [List.map_cons, List.sum_cons]
        have e2 : zlt (a :: t) = (zlens a).sum + zlt t := by
          unfold zlt
          rw [List.map_cons, List.sum_cons]
        rw [e1, e2, List.length_cons]
        omega
    have h1 := hw (cAr c0) hK.2.2.1
    have hp : 0 < (cAr c0).length := List.length_pos_iff.mpr c
    exact dQ_div (i2d_ok ⟨h1.2.1, by omega⟩).1 ((i2d_ok ⟨by omega, by omega⟩).2 (by omega))
/-- what holds through the law's loop -/
def lCx (l : Launch) (R : Room) (D : va_G) (cs : Nat → ClassId) (A : Nat → Prop) (p : Program) (s : State) (m : MethodId) (args : Array Value) (c : Code) (b L m0 : Nat) (xs : Nat → Int32) (ad : Nat → Nat) : Prop := zC p s m args c cL_law 9 RL D cs A ∧ l.stackTraces = false ∧ zxNc s ∧ va_X b L xs s s.heap ∧ b < s.heap.size ∧ ¬ A b ∧ L ≤ 2048 ∧ mD m0 ad ∧ 100 ≤ R.frames ∧ 6000 ≤ R.locals
section LC
variable {p : Program} {l : Launch} {e : Env} {R : Room} {s : State} {m : MethodId} {args : Array Value} {below : List Frame} {meth : Method} {c : Code} {H : Heap} {locs : List Loc} {cells slots : Nat} {Q : State → Prop}
variable {ls : Array Slot} {D : va_G} {cs : Nat → ClassId} {A : Nat → Prop} {b L ob m0 ou od N : Nat} {xs : Nat → Int32} {ad : Nat → Nat} {Fg : zF} {v : Nat → Int} {gm : Nat → Int → Int} {f : Nat → Int64} {fd : Nat → UInt64} {i : Int}
set_option maxHeartbeats 4000000 in
set_option maxRecDepth 100000 in
theorem lc_type (hB : lCx l R D cs A p s m args c b L m0 xs ad) (hi : 0 ≤ i ∧ i + 4 ≤ L) (hN : N ≤ 600) (hS : zLS D cs A s H locs m0 ou od ad Fg v gm f fd) (hT : zT2 cs N Fg ob v gm) (hok : mOK v gm) (hl : lv_has ls 9 [(5, .int (iI i)), (0, .ref b), (1, .ref ob), (2, .ref m0), (3, .ref ou), (4, .ref od)]) (hc : cells + 110 ≤ R.cells) (hsl : slots + 1650 ≤ R.slots)
  (kk : ∀ (H1 : Heap) (locs1 : List Loc) (Fg1 : zF) (v1 : Nat → Int) (g1 : Nat → Int → Int) (f1 : Nat → Int64) (fd1 : Nat → UInt64) (ls1 : Array Slot), zLS D cs A s H1 locs1 m0 ou od ad Fg1 v1 g1 f1 fd1 → zT2 cs (N + 1) Fg1 ob v1 g1 → mOK v1 g1 → lv_has ls1 9 [(5, .int (iI i)), (0, .ref b), (1, .ref ob), (2, .ref m0), (3, .ref ou), (4, .ref od)] → W p l e R s m args below meth c H1 locs1 (cells + 110) (slots + 1650) Q (F0 m 2898 ls1 [])) : W p l e R s m args below meth c H locs cells slots Q (F0 m 268 ls []) := by
  obtain ⟨hC, hlt, hNc, hX, hbl, hbA, hL2, hD, hR1, hR2⟩ := hB
  have hx := hC.x
  have hb := hC.b
  obtain ⟨g, sa, so, hL, tx, inp, out, c0, sv, hs, er, fa, hg, hv⟩ := hT
  have hK := hv.2.1
  have hh8 := hv.2.2.1.2.1
  have htz := hv.2.2.2.2.2.2.1
  have hwi := hK.2.2.2.2.2.2.2.2.1
  have hb13 := hv.2.2.2.2.2.2.2.2.2.2.2.2.1
  have hb14 := hv.2.2.2.2.2.2.2.2.2.2.2.2.2
  refine lv_aload_n hx hb dL_law_268 rfl (lv_at hl 2 rfl) ?_
  refine lv_aload_n hx hb dL_law_269 rfl (lv_at hl 1 rfl) ?_
  refine lv_iload hx hb dL_law_270 (lv_at hl 0 rfl) ?_
  refine z_iconst hx hb dL_law_272 ?_
  refine z_iadd hx hb dL_law_273 ?_
  refine z_sld (k := i + 1) hC hS.1 hX hbl hbA hL2 (by omega) dL_law_274 ?_
  refine z_i2cx hC dL_law_275 ?_
  refine lv_aload_n hx hb dL_law_276 rfl (lv_at hl 4 rfl) ?_
  refine z_fcall hC (z_frW (rest := []) (As := [.ref ob, .int (iI (sxc (sx xs (i + 1)))), .ref ou]) (n := 3) (hh := [((0 : Nat), (9 : Nat), (12 : Nat), (13 : Nat)), ((0 : Nat), (9 : Nat), (15 : Nat), (15 : Nat))]) hC hNc hS.w (wr_type l D cs (zfA (zun Fg (z1 ou (zLa cs f))) H) Fg ob ou (sxc (sx xs (i + 1))) f hg.1 hS.2.2.2.2.2.1 (fun A1 => met_X12_type l D cs A1 Fg ob g sa so hL tx inp out c0 sv hs er fa (sxc (sx xs (i + 1))) hlt hg ((sxc_ok (sx xs (i + 1))).1)) (fun E F1 q => q.2.elim (fun y => Or.inl y.2) (fun y => Or.inr y.2)) ) (zgsW qm_L_161 qt_L_type qn_L qc_L_type) he_L_type rfl hl rfl (Nat.le_of_ble_eq_true rfl) ⟨by omega, by omega⟩ ⟨by omega, by omega⟩ dL_law_277) hS.w (fun vv F1 H1 locs1 hp hZ1 hfr => ?_)
  obtain ⟨k, rfl, hwp⟩ := hp
  obtain ⟨Fg1, f1, rfl, ho1, hW⟩ := w_finP (S1 := (sTy tx (sxc (sx xs (i + 1)))).1) (S2 := (sTy tx (sxc (sx xs (i + 1)))).2) (Kn := (fun F1 => gOb cs F1 ob g sa so hL (tx ++ [(sxc (sx xs (i + 1)))]) inp out c0 sv hs er fa)) (Kx := (fun F1 => gOb cs F1 ob g sa so hL tx inp out c0 sv hs er fa)) hwp (fun r F1 q => ⟨q.2.2.2, by unfold sTy; rw [if_pos q.1, if_neg (by have := q.2.1; omega)], by rw [q.2.2.1]; unfold sTy; rw [if_pos q.1, if_neg (by have := q.2.1; omega)]⟩) (fun E F1 q => by
    rcases q.2 with y | y
    · exact ⟨q.1, 0, by decide, by rw [y.2]; rfl, by unfold sTy; rw [if_neg y.1]; rfl⟩
    · exact ⟨q.1, 1, by decide, by rw [y.2]; rfl, by unfold sTy; rw [if_pos y.1.1, if_pos y.1.2]; rfl⟩) (nd_names (by decide))
  clear hwp
  have hS1 := hS.aL hZ1 ho1 hfr
  clear hfr hZ1
  refine lv_istore (lv' := [(6, .int (iI k)), (5, .int (iI i)), (0, .ref b), (1, .ref ob), (2, .ref m0), (3, .ref ou), (4, .ref od)]) hx hb dL_law_280 hl (by decide) rfl (fun ls hl => ?_)
  refine lv_aload_n hx hb dL_law_282 rfl (lv_at hl 4 rfl) ?_
  refine lv_aload_n hx hb dL_law_283 rfl (lv_at hl 2 rfl) ?_
  refine lv_iload hx hb dL_law_284 (lv_at hl 1 rfl) ?_
  refine z_iconst hx hb dL_law_286 ?_
  refine z_iadd hx hb dL_law_287 ?_
  refine z_sld (k := i + 1) hC hS1.1 hX hbl hbA hL2 (by omega) dL_law_288 ?_
  refine z_i2cx hC dL_law_289 ?_
  refine z_fcall hC (z_frV (rest := []) (As := [.int (iI (sxc (sx xs (i + 1))))]) (n := 1) (ci := 16) hC hS1.2.1 (met_X13_type l D cs (zfA (mW cs m0 ad v gm) H1) m0 ad v gm (sxc (sx xs (i + 1))) hD hok ((sxc_ok (sx xs (i + 1))).1) (by have h9 := hv.2.2.2.2.1.1; have h10 := hv.2.2.2.2.2.1; omega)) gv_L_166 hd_X13_type rfl mW_o rfl hl rfl (Nat.le_of_ble_eq_true rfl) ⟨by omega, by omega⟩ ⟨by omega, by omega⟩ dL_law_290) hS1.2.1 (fun vv F2 H2 locs2 hp hZ1 hfr => ?_)
  obtain ⟨r, rfl, v2, g2, rfl, hok2, hm⟩ := hp
  have hS2 := hS1.aM hZ1 hfr
  clear hfr hZ1
  obtain ⟨hV6, hVr, hVx, hVn⟩ := hv.mTy hm
  refine lv_istore (lv' := [(7, .int (iI r)), (6, .int (iI k)), (5, .int (iI i)), (0, .ref b), (1, .ref ob), (2, .ref m0), (3, .ref ou), (4, .ref od)]) hx hb dL_law_293 hl (by decide) rfl (fun ls hl => ?_)
  refine lv_aload_n hx hb dL_law_295 rfl (lv_at hl 5 rfl) ?_
  refine z_fcall hC (z_frV (rest := []) (As := []) (n := 0) (ci := 16) hC hS2.2.1 (met_X13_thrown l D cs (zfA (mW cs m0 ad v2 g2) H2) m0 ad v2 g2 hD hok2) gv_L_167 hd_X13_thrown rfl mW_o rfl hl rfl (Nat.le_of_ble_eq_true rfl) ⟨by omega, by omega⟩ ⟨by omega, by omega⟩ dL_law_296) hS2.2.1 (fun vv F3 H3 locs3 hp hZ1 hfr => ?_)
  obtain ⟨r3, rfl, v3, g3, rfl, hokL, rfl, rfl, rfl⟩ := hp
  have hS3 := hS2.aM hZ1 hfr
  clear hfr hZ1
  have hk6 : v2 6 = k := hV6.trans hW.1.symm
  have hkr := hW.2.1
  refine lv_iload hx hb dL_law_299 (lv_at hl 1 rfl) ?_
  refine z_icmp_eq (tgt := 306) hx hb dL_law_301 (by decide) (by omega) (by omega) (fun c9 => ?_) (fun c9 => absurd hk6 c9)
  refine lv_iload hx hb dL_law_306 (lv_at hl 1 rfl) ?_
  refine z_if_ne (tgt := 323) hx hb dL_law_308 (by decide) (by omega) (fun c8 => ?_) (fun c8 => ?_)
  · skip
    refine lv_goto (tgt := 2898) hx hb dL_law_323 (by decide) ?_
    refine W.widen (k := cells + 110) (n := slots + 1650) (by omega) (by omega) ?_
    exact kk _ _ _ _ _ _ _ _ hS3 ⟨g, sa, so, hL, tx, inp, out, c0, sv, hs, er, fa, (hW.2.2.2 c8), (hVx (fun z => c8 (hW.1.trans z)))⟩ hokL (lv_sub hl [2, 3, 4, 5, 6, 7] rfl)
  · skip
    have hk0 : k = 0 := by omega
    refine lv_aload_n hx hb dL_law_311 rfl (lv_at hl 6 rfl) ?_
    refine z_iconst hx hb dL_law_312 ?_
    refine z_lald hC hS3.2.2.1 z1_s dL_law_313 ?_
    refine lv_iload hx hb dL_law_314 (lv_at hl 0 rfl) ?_
    refine lv_i2l hx hb dL_law_316 rfl ?_
    refine z_lcmp0 hC ((hW.2.2.1 hk0).2.trans (by rw [hVr (hW.1.symm.trans hk0)])) dL_law_317 ?_
    refine z_if_eq (tgt := 323) hx hb dL_law_318 (by decide) (by decide) (fun c7 => ?_) (fun c7 => absurd rfl c7)
    refine lv_goto (tgt := 2898) hx hb dL_law_323 (by decide) ?_
    refine W.widen (k := cells + 110) (n := slots + 1650) (by omega) (by omega) ?_
    exact kk _ _ _ _ _ _ _ _ hS3 ⟨g, sa, so, hL, _, _, out, c0, sv, hs, er, fa, (hW.2.2.1 (by omega)).1, (hVn (hW.1.symm.trans (show k = 0 by omega)))⟩ hokL (lv_sub hl [2, 3, 4, 5, 6, 7] rfl)

set_option maxHeartbeats 4000000 in
set_option maxRecDepth 100000 in
theorem lc_clearText (hB : lCx l R D cs A p s m args c b L m0 xs ad) (hi : 0 ≤ i ∧ i + 4 ≤ L) (hN : N ≤ 600) (hS : zLS D cs A s H locs m0 ou od ad Fg v gm f fd) (hT : zT2 cs N Fg ob v gm) (hok : mOK v gm) (hl : lv_has ls 9 [(5, .int (iI i)), (0, .ref b), (1, .ref ob), (2, .ref m0), (3, .ref ou), (4, .ref od)]) (hc : cells + 110 ≤ R.cells) (hsl : slots + 1650 ≤ R.slots)
  (kk : ∀ (H1 : Heap) (locs1 : List Loc) (Fg1 : zF) (v1 : Nat → Int) (g1 : Nat → Int → Int) (f1 : Nat → Int64) (fd1 : Nat → UInt64) (ls1 : Array Slot), zLS D cs A s H1 locs1 m0 ou od ad Fg1 v1 g1 f1 fd1 → zT2 cs (N + 1) Fg1 ob v1 g1 → mOK v1 g1 → lv_has ls1 9 [(5, .int (iI i)), (0, .ref b), (1, .ref ob), (2, .ref m0), (3, .ref ou), (4, .ref od)] → W p l e R s m args below meth c H1 locs1 (cells + 110) (slots + 1650) Q (F0 m 2898 ls1 [])) : W p l e R s m args below meth c H locs cells slots Q (F0 m 326 ls []) := by
  obtain ⟨hC, hlt, hNc, hX, hbl, hbA, hL2, hD, hR1, hR2⟩ := hB
  have hx := hC.x
  have hb := hC.b
  obtain ⟨g, sa, so, hL, tx, inp, out, c0, sv, hs, er, fa, hg, hv⟩ := hT
  have hK := hv.2.1
  have hh8 := hv.2.2.1.2.1
  have htz := hv.2.2.2.2.2.2.1
  have hwi := hK.2.2.2.2.2.2.2.2.1
  have hb13 := hv.2.2.2.2.2.2.2.2.2.2.2.2.1
  have hb14 := hv.2.2.2.2.2.2.2.2.2.2.2.2.2
  refine lv_aload_n hx hb dL_law_326 rfl (lv_at hl 2 rfl) ?_
  refine z_fcall hC (z_frV (rest := []) (As := []) (n := 0) (ci := 15) hC hS.1 (met_X12_clearText l D cs (zfA Fg H) Fg ob g sa so hL tx inp out c0 sv hs er fa hg) gv_L_170 hd_X12_clearText rfl hg.1 rfl hl rfl (Nat.le_of_ble_eq_true rfl) ⟨by omega, by omega⟩ ⟨by omega, by omega⟩ dL_law_327) hS.1 (fun vv Fg1 H1 locs1 hp hZ1 hfr => ?_)
  obtain ⟨r1, rfl, hq⟩ := hp
  have hS1 := hS.aG hZ1 hfr
  refine lv_aload_n hx hb dL_law_330 rfl (lv_at hl 3 rfl) ?_
  refine z_fcall hC (z_frV (rest := [.int (iI r1)]) (As := []) (n := 0) (ci := 16) hC hS1.2.1 (met_X13_clearText l D cs (zfA (mW cs m0 ad v gm) H1) m0 ad v gm hD hok) gv_L_173 hd_X13_clearText rfl mW_o rfl hl rfl (Nat.le_of_ble_eq_true rfl) ⟨by omega, by omega⟩ ⟨by omega, by omega⟩ dL_law_331) hS1.2.1 (fun vv F2 H2 locs2 hp hZ1 hfr => ?_)
  obtain ⟨r, rfl, v2, g2, rfl, hokL, hm⟩ := hp
  have hS2 := hS1.aM hZ1 hfr
  obtain ⟨e1, hgq⟩ := hq
  obtain ⟨e2, hzq⟩ := hv.mCl hm
  have hrr : r1 = r := by omega
  have hrn : InR r := by have := hv.2.2.2.2.2.1; unfold InR; omega
  refine z_icmp_eq (tgt := 2898) hx hb dL_law_334 (by decide) (by rw [hrr]; exact hrn) hrn (fun c9 => ?_) (fun c9 => absurd hrr c9)
  refine W.widen (k := cells + 110) (n := slots + 1650) (by omega) (by omega) ?_
  exact kk _ _ _ _ _ _ _ _ hS2 ⟨g, sa, so, hL, [], inp, out, c0, sv, hs, er, fa, hgq, hzq⟩ hokL (lv_sub hl [0, 1, 2, 3, 4, 5] rfl)

set_option maxHeartbeats 4000000 in
set_option maxRecDepth 100000 in
theorem lc_addArticle (hB : lCx l R D cs A p s m args c b L m0 xs ad) (hi : 0 ≤ i ∧ i + 4 ≤ L) (hN : N ≤ 600) (hS : zLS D cs A s H locs m0 ou od ad Fg v gm f fd) (hT : zT2 cs N Fg ob v gm) (hok : mOK v gm) (hl : lv_has ls 9 [(5, .int (iI i)), (0, .ref b), (1, .ref ob), (2, .ref m0), (3, .ref ou), (4, .ref od)]) (hc : cells + 110 ≤ R.cells) (hsl : slots + 1650 ≤ R.slots)
  (kk : ∀ (H1 : Heap) (locs1 : List Loc) (Fg1 : zF) (v1 : Nat → Int) (g1 : Nat → Int → Int) (f1 : Nat → Int64) (fd1 : Nat → UInt64) (ls1 : Array Slot), zLS D cs A s H1 locs1 m0 ou od ad Fg1 v1 g1 f1 fd1 → zT2 cs (N + 1) Fg1 ob v1 g1 → mOK v1 g1 → lv_has ls1 9 [(5, .int (iI i)), (0, .ref b), (1, .ref ob), (2, .ref m0), (3, .ref ou), (4, .ref od)] → W p l e R s m args below meth c H1 locs1 (cells + 110) (slots + 1650) Q (F0 m 2898 ls1 [])) : W p l e R s m args below meth c H locs cells slots Q (F0 m 339 ls []) := by
  obtain ⟨hC, hlt, hNc, hX, hbl, hbA, hL2, hD, hR1, hR2⟩ := hB
  have hx := hC.x
  have hb := hC.b
  obtain ⟨g, sa, so, hL, tx, inp, out, c0, sv, hs, er, fa, hg, hv⟩ := hT
  have hK := hv.2.1
  have hh8 := hv.2.2.1.2.1
  have htz := hv.2.2.2.2.2.2.1
  have hwi := hK.2.2.2.2.2.2.2.2.1
  have hb13 := hv.2.2.2.2.2.2.2.2.2.2.2.2.1
  have hb14 := hv.2.2.2.2.2.2.2.2.2.2.2.2.2
  refine lv_aload_n hx hb dL_law_339 rfl (lv_at hl 2 rfl) ?_
  refine lv_aload_n hx hb dL_law_340 rfl (lv_at hl 1 rfl) ?_
  refine lv_iload hx hb dL_law_341 (lv_at hl 0 rfl) ?_
  refine z_iconst hx hb dL_law_343 ?_
  refine z_iadd hx hb dL_law_344 ?_
  refine z_sld (k := i + 1) hC hS.1 hX hbl hbA hL2 (by omega) dL_law_345 ?_
  refine lv_aload_n hx hb dL_law_346 rfl (lv_at hl 4 rfl) ?_
  refine z_fcall hC (z_frW (rest := []) (As := [.ref ob, .int (iI (sx xs (i + 1))), .ref ou]) (n := 3) (hh := [((0 : Nat), (9 : Nat), (12 : Nat), (13 : Nat)), ((0 : Nat), (9 : Nat), (15 : Nat), (15 : Nat)), ((0 : Nat), (9 : Nat), (18 : Nat), (21 : Nat))]) hC hNc hS.w (wr_addArticle l D cs (zfA (zun Fg (z1 ou (zLa cs f))) H) Fg ob ou (sx xs (i + 1)) f hg.1 hS.2.2.2.2.2.1 (fun A1 => met_X12_addArticle l D cs A1 Fg ob g sa so hL tx inp out c0 sv hs er fa (sx xs (i + 1)) N hlt hg (sx_R xs (i + 1)) htz hK (by omega) hh8) (fun E F1 q => q.2.elim (fun y => Or.inl y.2) (fun y => Or.inr (y.elim (fun y => Or.inl y.2) (fun y => Or.inr y.2)))) ) (zgsW qm_L_174 qt_L_addArticle qn_L qc_L_addArticle) he_L_addArticle rfl hl rfl (Nat.le_of_ble_eq_true rfl) ⟨by omega, by omega⟩ ⟨by omega, by omega⟩ dL_law_347) hS.w (fun vv F1 H1 locs1 hp hZ1 hfr => ?_)
  obtain ⟨k, rfl, hwp⟩ := hp
  obtain ⟨Fg1, f1, rfl, ho1, hW⟩ := w_finP (S1 := (sAdd c0 (sx xs (i + 1)) tx).1) (S2 := (sAdd c0 (sx xs (i + 1)) tx).2.2) (Kn := (fun F1 => ∃ (g1 : Nat → Nat) (sa1 : Nat) (hL1 : List Nat), gOb cs F1 ob g1 sa1 so hL1 [] inp out (sAdd c0 (sx xs (i + 1)) tx).2.1 sv (pushH hs c0) er fa)) (Kx := (fun F1 => gOb cs F1 ob g sa so hL tx inp out c0 sv hs er fa)) hwp (fun r F1 q => ⟨q.2.2, q.1, q.2.1⟩) (fun E F1 q => by
    rcases q.2 with y | y | y
    · exact ⟨q.1, 0, by decide, by rw [y.2]; rfl, by rw [y.1]; rfl⟩
    · exact ⟨q.1, 1, by decide, by rw [y.2]; rfl, by rw [y.1]; rfl⟩
    · exact ⟨q.1, 2, by decide, by rw [y.2]; rfl, by rw [y.1]; rfl⟩) (nd_names (by decide))
  clear hwp
  have hS1 := hS.aL hZ1 ho1 hfr
  clear hfr hZ1
  refine lv_istore (lv' := [(6, .int (iI k)), (5, .int (iI i)), (0, .ref b), (1, .ref ob), (2, .ref m0), (3, .ref ou), (4, .ref od)]) hx hb dL_law_350 hl (by decide) rfl (fun ls hl => ?_)
  refine lv_aload_n hx hb dL_law_352 rfl (lv_at hl 4 rfl) ?_
  refine lv_aload_n hx hb dL_law_353 rfl (lv_at hl 2 rfl) ?_
  refine lv_iload hx hb dL_law_354 (lv_at hl 1 rfl) ?_
  refine z_iconst hx hb dL_law_356 ?_
  refine z_iadd hx hb dL_law_357 ?_
  refine z_sld (k := i + 1) hC hS1.1 hX hbl hbA hL2 (by omega) dL_law_358 ?_
  refine z_fcall hC (z_frV (rest := []) (As := [.int (iI (sx xs (i + 1)))]) (n := 1) (ci := 16) hC hS1.2.1 (met_X13_addArticle l D cs (zfA (mW cs m0 ad v gm) H1) m0 ad v gm (sx xs (i + 1)) hs tx N c0 hD hok hv.1 hK (sx_R xs (i + 1)) hv.2.2.2.2.1 hv.2.2.2.2.2.1 (by omega) hv.2.2.1 hv.2.2.2.1 (sAdd_R hK (by omega))) gv_L_177 hd_X13_addArticle rfl mW_o rfl hl rfl (Nat.le_of_ble_eq_true rfl) ⟨by omega, by omega⟩ ⟨by omega, by omega⟩ dL_law_359) hS1.2.1 (fun vv F2 H2 locs2 hp hZ1 hfr => ?_)
  obtain ⟨r, rfl, v2, g2, rfl, hok2, hm⟩ := hp
  have hS2 := hS1.aM hZ1 hfr
  clear hfr hZ1
  obtain ⟨hV6, hVr, hVx, hVn⟩ := hv.mC (tx1 := []) hm (fun k9 hk9 h89 => by rw [upN_n h89, upN_n (by unfold vK at hk9; omega)]) (Or.inr ⟨rfl, upN_s⟩) (sAdd_K hv)
  refine lv_istore (lv' := [(7, .int (iI r)), (6, .int (iI k)), (5, .int (iI i)), (0, .ref b), (1, .ref ob), (2, .ref m0), (3, .ref ou), (4, .ref od)]) hx hb dL_law_362 hl (by decide) rfl (fun ls hl => ?_)
  refine lv_aload_n hx hb dL_law_364 rfl (lv_at hl 5 rfl) ?_
  refine z_fcall hC (z_frV (rest := []) (As := []) (n := 0) (ci := 16) hC hS2.2.1 (met_X13_thrown l D cs (zfA (mW cs m0 ad v2 g2) H2) m0 ad v2 g2 hD hok2) gv_L_167 hd_X13_thrown rfl mW_o rfl hl rfl (Nat.le_of_ble_eq_true rfl) ⟨by omega, by omega⟩ ⟨by omega, by omega⟩ dL_law_365) hS2.2.1 (fun vv F3 H3 locs3 hp hZ1 hfr => ?_)
  obtain ⟨r3, rfl, v3, g3, rfl, hokL, rfl, rfl, rfl⟩ := hp
  have hS3 := hS2.aM hZ1 hfr
  clear hfr hZ1
  have hk6 : v2 6 = k := hV6.trans hW.1.symm
  have hkr := hW.2.1
  refine lv_iload hx hb dL_law_368 (lv_at hl 1 rfl) ?_
  refine z_icmp_eq (tgt := 375) hx hb dL_law_370 (by decide) (by omega) (by omega) (fun c9 => ?_) (fun c9 => absurd hk6 c9)
  refine lv_iload hx hb dL_law_375 (lv_at hl 1 rfl) ?_
  refine z_if_ne (tgt := 392) hx hb dL_law_377 (by decide) (by omega) (fun c8 => ?_) (fun c8 => ?_)
  · skip
    refine lv_goto (tgt := 2898) hx hb dL_law_392 (by decide) ?_
    refine W.widen (k := cells + 110) (n := slots + 1650) (by omega) (by omega) ?_
    exact kk _ _ _ _ _ _ _ _ hS3 ⟨g, sa, so, hL, tx, inp, out, c0, sv, hs, er, fa, (hW.2.2.2 c8), (hVx (fun z => c8 (hW.1.trans z)))⟩ hokL (lv_sub hl [2, 3, 4, 5, 6, 7] rfl)
  · skip
    have hk0 : k = 0 := by omega
    refine lv_aload_n hx hb dL_law_380 rfl (lv_at hl 6 rfl) ?_
    refine z_iconst hx hb dL_law_381 ?_
    refine z_lald hC hS3.2.2.1 z1_s dL_law_382 ?_
    refine lv_iload hx hb dL_law_383 (lv_at hl 0 rfl) ?_
    refine lv_i2l hx hb dL_law_385 rfl ?_
    refine z_lcmp0 hC ((hW.2.2.1 hk0).2.trans (by rw [hVr (hW.1.symm.trans hk0)])) dL_law_386 ?_
    refine z_if_eq (tgt := 392) hx hb dL_law_387 (by decide) (by decide) (fun c7 => ?_) (fun c7 => absurd rfl c7)
    refine lv_goto (tgt := 2898) hx hb dL_law_392 (by decide) ?_
    refine W.widen (k := cells + 110) (n := slots + 1650) (by omega) (by omega) ?_
    exact kk _ _ _ _ _ _ _ _ hS3 (let ⟨g9, sa9, hL9, h9⟩ := (hW.2.2.1 (by omega)).1; ⟨g9, sa9, so, hL9, _, inp, out, _, sv, _, er, fa, h9, (hVn (hW.1.symm.trans (show k = 0 by omega)))⟩) hokL (lv_sub hl [2, 3, 4, 5, 6, 7] rfl)

set_option maxHeartbeats 4000000 in
set_option maxRecDepth 100000 in
theorem lc_removeArticle (hB : lCx l R D cs A p s m args c b L m0 xs ad) (hi : 0 ≤ i ∧ i + 4 ≤ L) (hN : N ≤ 600) (hS : zLS D cs A s H locs m0 ou od ad Fg v gm f fd) (hT : zT2 cs N Fg ob v gm) (hok : mOK v gm) (hl : lv_has ls 9 [(5, .int (iI i)), (0, .ref b), (1, .ref ob), (2, .ref m0), (3, .ref ou), (4, .ref od)]) (hc : cells + 110 ≤ R.cells) (hsl : slots + 1650 ≤ R.slots)
  (kk : ∀ (H1 : Heap) (locs1 : List Loc) (Fg1 : zF) (v1 : Nat → Int) (g1 : Nat → Int → Int) (f1 : Nat → Int64) (fd1 : Nat → UInt64) (ls1 : Array Slot), zLS D cs A s H1 locs1 m0 ou od ad Fg1 v1 g1 f1 fd1 → zT2 cs (N + 1) Fg1 ob v1 g1 → mOK v1 g1 → lv_has ls1 9 [(5, .int (iI i)), (0, .ref b), (1, .ref ob), (2, .ref m0), (3, .ref ou), (4, .ref od)] → W p l e R s m args below meth c H1 locs1 (cells + 110) (slots + 1650) Q (F0 m 2898 ls1 [])) : W p l e R s m args below meth c H locs cells slots Q (F0 m 395 ls []) := by
  obtain ⟨hC, hlt, hNc, hX, hbl, hbA, hL2, hD, hR1, hR2⟩ := hB
  have hx := hC.x
  have hb := hC.b
  obtain ⟨g, sa, so, hL, tx, inp, out, c0, sv, hs, er, fa, hg, hv⟩ := hT
  have hK := hv.2.1
  have hh8 := hv.2.2.1.2.1
  have htz := hv.2.2.2.2.2.2.1
  have hwi := hK.2.2.2.2.2.2.2.2.1
  have hb13 := hv.2.2.2.2.2.2.2.2.2.2.2.2.1
  have hb14 := hv.2.2.2.2.2.2.2.2.2.2.2.2.2
  refine lv_aload_n hx hb dL_law_395 rfl (lv_at hl 2 rfl) ?_
  refine lv_aload_n hx hb dL_law_396 rfl (lv_at hl 1 rfl) ?_
  refine lv_iload hx hb dL_law_397 (lv_at hl 0 rfl) ?_
  refine z_iconst hx hb dL_law_399 ?_
  refine z_iadd hx hb dL_law_400 ?_
  refine z_sld (k := i + 1) hC hS.1 hX hbl hbA hL2 (by omega) dL_law_401 ?_
  refine lv_aload_n hx hb dL_law_402 rfl (lv_at hl 4 rfl) ?_
  refine z_fcall hC (z_frW (rest := []) (As := [.ref ob, .int (iI (sx xs (i + 1))), .ref ou]) (n := 3) (hh := [((0 : Nat), (9 : Nat), (12 : Nat), (26 : Nat))]) hC hNc hS.w (wr_removeArticle l D cs (zfA (zun Fg (z1 ou (zLa cs f))) H) Fg ob ou (sx xs (i + 1)) f hg.1 hS.2.2.2.2.2.1 (fun A1 => met_X12_removeArticle l D cs A1 Fg ob g sa so hL tx inp out c0 sv hs er fa (sx xs (i + 1)) N hlt hg (sx_R xs (i + 1)) hK (by omega) hh8) (fun E F1 q => q.2.2) ) (zgsW qm_L_178 qt_L_removeArticle qn_L qc_L_removeArticle) he_L_removeArticle rfl hl rfl (Nat.le_of_ble_eq_true rfl) ⟨by omega, by omega⟩ ⟨by omega, by omega⟩ dL_law_403) hS.w (fun vv F1 H1 locs1 hp hZ1 hfr => ?_)
  obtain ⟨k, rfl, hwp⟩ := hp
  obtain ⟨Fg1, f1, rfl, ho1, hW⟩ := w_finP (S1 := (sRem c0 (sx xs (i + 1))).1) (S2 := (sRem c0 (sx xs (i + 1))).2.2) (Kn := (fun F1 => ∃ (g1 : Nat → Nat) (sa1 : Nat) (hL1 : List Nat), gOb cs F1 ob g1 sa1 so hL1 tx inp out (sRem c0 (sx xs (i + 1))).2.1 sv (pushH hs c0) er fa)) (Kx := (fun F1 => gOb cs F1 ob g sa so hL tx inp out c0 sv hs er fa)) hwp (fun r F1 q => ⟨q.2.2, q.1, q.2.1⟩) (fun E F1 q => ⟨q.1, 0, by decide, by rw [q.2.2]; rfl, q.2.1.trans rfl⟩) (nd_names (by decide))
  clear hwp
  have hS1 := hS.aL hZ1 ho1 hfr
  clear hfr hZ1
  refine lv_istore (lv' := [(6, .int (iI k)), (5, .int (iI i)), (0, .ref b), (1, .ref ob), (2, .ref m0), (3, .ref ou), (4, .ref od)]) hx hb dL_law_406 hl (by decide) rfl (fun ls hl => ?_)
  refine lv_aload_n hx hb dL_law_408 rfl (lv_at hl 4 rfl) ?_
  refine lv_aload_n hx hb dL_law_409 rfl (lv_at hl 2 rfl) ?_
  refine lv_iload hx hb dL_law_410 (lv_at hl 1 rfl) ?_
  refine z_iconst hx hb dL_law_412 ?_
  refine z_iadd hx hb dL_law_413 ?_
  refine z_sld (k := i + 1) hC hS1.1 hX hbl hbA hL2 (by omega) dL_law_414 ?_
  refine z_fcall hC (z_frV (rest := []) (As := [.int (iI (sx xs (i + 1)))]) (n := 1) (ci := 16) hC hS1.2.1 (met_X13_removeArticle l D cs (zfA (mW cs m0 ad v gm) H1) m0 ad v gm (sx xs (i + 1)) hs N c0 hD hok hv.1 hK (sx_R xs (i + 1)) hv.2.2.1 hv.2.2.2.1 (sRem_R hK)) gv_L_180 hd_X13_removeArticle rfl mW_o rfl hl rfl (Nat.le_of_ble_eq_true rfl) ⟨by omega, by omega⟩ ⟨by omega, by omega⟩ dL_law_415) hS1.2.1 (fun vv F2 H2 locs2 hp hZ1 hfr => ?_)
  obtain ⟨r, rfl, v2, g2, rfl, hok2, hm⟩ := hp
  have hS2 := hS1.aM hZ1 hfr
  clear hfr hZ1
  obtain ⟨hV6, hVr, hVx, hVn⟩ := hv.mC (tx1 := tx) hm (fun k9 hk9 h89 => by exact upN_n (by unfold vK at hk9; omega)) (Or.inl ⟨rfl, upN_n (by decide)⟩) (sRem_K hK)
  refine lv_istore (lv' := [(7, .int (iI r)), (6, .int (iI k)), (5, .int (iI i)), (0, .ref b), (1, .ref ob), (2, .ref m0), (3, .ref ou), (4, .ref od)]) hx hb dL_law_418 hl (by decide) rfl (fun ls hl => ?_)
  refine lv_aload_n hx hb dL_law_420 rfl (lv_at hl 5 rfl) ?_
  refine z_fcall hC (z_frV (rest := []) (As := []) (n := 0) (ci := 16) hC hS2.2.1 (met_X13_thrown l D cs (zfA (mW cs m0 ad v2 g2) H2) m0 ad v2 g2 hD hok2) gv_L_167 hd_X13_thrown rfl mW_o rfl hl rfl (Nat.le_of_ble_eq_true rfl) ⟨by omega, by omega⟩ ⟨by omega, by omega⟩ dL_law_421) hS2.2.1 (fun vv F3 H3 locs3 hp hZ1 hfr => ?_)
  obtain ⟨r3, rfl, v3, g3, rfl, hokL, rfl, rfl, rfl⟩ := hp
  have hS3 := hS2.aM hZ1 hfr
  clear hfr hZ1
  have hk6 : v2 6 = k := hV6.trans hW.1.symm
  have hkr := hW.2.1
  refine lv_iload hx hb dL_law_424 (lv_at hl 1 rfl) ?_
  refine z_icmp_eq (tgt := 431) hx hb dL_law_426 (by decide) (by omega) (by omega) (fun c9 => ?_) (fun c9 => absurd hk6 c9)
  refine lv_iload hx hb dL_law_431 (lv_at hl 1 rfl) ?_
  refine z_if_ne (tgt := 448) hx hb dL_law_433 (by decide) (by omega) (fun c8 => ?_) (fun c8 => ?_)
  · skip
    refine lv_goto (tgt := 2898) hx hb dL_law_448 (by decide) ?_
    refine W.widen (k := cells + 110) (n := slots + 1650) (by omega) (by omega) ?_
    exact kk _ _ _ _ _ _ _ _ hS3 ⟨g, sa, so, hL, tx, inp, out, c0, sv, hs, er, fa, (hW.2.2.2 c8), (hVx (fun z => c8 (hW.1.trans z)))⟩ hokL (lv_sub hl [2, 3, 4, 5, 6, 7] rfl)
  · skip
    have hk0 : k = 0 := by omega
    refine lv_aload_n hx hb dL_law_436 rfl (lv_at hl 6 rfl) ?_
    refine z_iconst hx hb dL_law_437 ?_
    refine z_lald hC hS3.2.2.1 z1_s dL_law_438 ?_
    refine lv_iload hx hb dL_law_439 (lv_at hl 0 rfl) ?_
    refine lv_i2l hx hb dL_law_441 rfl ?_
    refine z_lcmp0 hC ((hW.2.2.1 hk0).2.trans (by rw [hVr (hW.1.symm.trans hk0)])) dL_law_442 ?_
    refine z_if_eq (tgt := 448) hx hb dL_law_443 (by decide) (by decide) (fun c7 => ?_) (fun c7 => absurd rfl c7)
    refine lv_goto (tgt := 2898) hx hb dL_law_448 (by decide) ?_
    refine W.widen (k := cells + 110) (n := slots + 1650) (by omega) (by omega) ?_
    exact kk _ _ _ _ _ _ _ _ hS3 (let ⟨g9, sa9, hL9, h9⟩ := (hW.2.2.1 (by omega)).1; ⟨g9, sa9, so, hL9, _, inp, out, _, sv, _, er, fa, h9, (hVn (hW.1.symm.trans (show k = 0 by omega)))⟩) hokL (lv_sub hl [2, 3, 4, 5, 6, 7] rfl)

set_option maxHeartbeats 4000000 in
set_option maxRecDepth 100000 in
theorem lc_correct (hB : lCx l R D cs A p s m args c b L m0 xs ad) (hi : 0 ≤ i ∧ i + 4 ≤ L) (hN : N ≤ 600) (hS : zLS D cs A s H locs m0 ou od ad Fg v gm f fd) (hT : zT2 cs N Fg ob v gm) (hok : mOK v gm) (hl : lv_has ls 9 [(5, .int (iI i)), (0, .ref b), (1, .ref ob), (2, .ref m0), (3, .ref ou), (4, .ref od)]) (hc : cells + 110 ≤ R.cells) (hsl : slots + 1650 ≤ R.slots)
  (kk : ∀ (H1 : Heap) (locs1 : List Loc) (Fg1 : zF) (v1 : Nat → Int) (g1 : Nat → Int → Int) (f1 : Nat → Int64) (fd1 : Nat → UInt64) (ls1 : Array Slot), zLS D cs A s H1 locs1 m0 ou od ad Fg1 v1 g1 f1 fd1 → zT2 cs (N + 1) Fg1 ob v1 g1 → mOK v1 g1 → lv_has ls1 9 [(5, .int (iI i)), (0, .ref b), (1, .ref ob), (2, .ref m0), (3, .ref ou), (4, .ref od)] → W p l e R s m args below meth c H1 locs1 (cells + 110) (slots + 1650) Q (F0 m 2898 ls1 [])) : W p l e R s m args below meth c H locs cells slots Q (F0 m 451 ls []) := by
  obtain ⟨hC, hlt, hNc, hX, hbl, hbA, hL2, hD, hR1, hR2⟩ := hB
  have hx := hC.x
  have hb := hC.b
  obtain ⟨g, sa, so, hL, tx, inp, out, c0, sv, hs, er, fa, hg, hv⟩ := hT
  have hK := hv.2.1
  have hh8 := hv.2.2.1.2.1
  have htz := hv.2.2.2.2.2.2.1
  have hwi := hK.2.2.2.2.2.2.2.2.1
  have hb13 := hv.2.2.2.2.2.2.2.2.2.2.2.2.1
  have hb14 := hv.2.2.2.2.2.2.2.2.2.2.2.2.2
  refine lv_aload_n hx hb dL_law_451 rfl (lv_at hl 2 rfl) ?_
  refine lv_aload_n hx hb dL_law_452 rfl (lv_at hl 1 rfl) ?_
  refine lv_iload hx hb dL_law_453 (lv_at hl 0 rfl) ?_
  refine z_iconst hx hb dL_law_455 ?_
  refine z_iadd hx hb dL_law_456 ?_
  refine z_sld (k := i + 1) hC hS.1 hX hbl hbA hL2 (by omega) dL_law_457 ?_
  refine lv_aload_n hx hb dL_law_458 rfl (lv_at hl 1 rfl) ?_
  refine lv_iload hx hb dL_law_459 (lv_at hl 0 rfl) ?_
  refine z_iconst hx hb dL_law_461 ?_
  refine z_iadd hx hb dL_law_462 ?_
  refine z_sld (k := i + 2) hC hS.1 hX hbl hbA hL2 (by omega) dL_law_463 ?_
  refine lv_aload_n hx hb dL_law_464 rfl (lv_at hl 4 rfl) ?_
  refine z_fcall hC (z_frW (rest := []) (As := [.ref ob, .int (iI (sx xs (i + 1))), .int (iI (sx xs (i + 2))), .ref ou]) (n := 4) (hh := [((0 : Nat), (10 : Nat), (13 : Nat), (26 : Nat)), ((0 : Nat), (10 : Nat), (17 : Nat), (32 : Nat)), ((0 : Nat), (10 : Nat), (21 : Nat), (21 : Nat))]) hC hNc hS.w (wr_correct l D cs (zfA (zun Fg (z1 ou (zLa cs f))) H) Fg ob ou (sx xs (i + 1)) (sx xs (i + 2)) f hg.1 hS.2.2.2.2.2.1 (fun A1 => met_X12_correct l D cs A1 Fg ob g sa so hL tx inp out c0 sv hs er fa (sx xs (i + 1)) (sx xs (i + 2)) N hlt hg (sx_R xs (i + 1)) (sx_R xs (i + 2)) htz hK (by omega) hh8) (fun E F1 q => q.2.elim (fun y => Or.inl y.2) (fun y => Or.inr (y.elim (fun y => Or.inl y.2) (fun y => Or.inr y.2)))) ) (zgsW qm_L_181 qt_L_correct qn_L qc_L_correct) he_L_correct rfl hl rfl (Nat.le_of_ble_eq_true rfl) ⟨by omega, by omega⟩ ⟨by omega, by omega⟩ dL_law_465) hS.w (fun vv F1 H1 locs1 hp hZ1 hfr => ?_)
  obtain ⟨k, rfl, hwp⟩ := hp
  obtain ⟨Fg1, f1, rfl, ho1, hW⟩ := w_finP (S1 := (sCor c0 (sx xs (i + 1)) (sx xs (i + 2)) tx).1) (S2 := (sCor c0 (sx xs (i + 1)) (sx xs (i + 2)) tx).2.2) (Kn := (fun F1 => ∃ (g1 : Nat → Nat) (sa1 : Nat) (hL1 : List Nat), gOb cs F1 ob g1 sa1 so hL1 [] inp out (sCor c0 (sx xs (i + 1)) (sx xs (i + 2)) tx).2.1 sv (pushH hs c0) er fa)) (Kx := (fun F1 => gOb cs F1 ob g sa so hL tx inp out c0 sv hs er fa)) hwp (fun r F1 q => ⟨q.2.2, q.1, q.2.1⟩) (fun E F1 q => by
    rcases q.2 with y | y | y
    · exact ⟨q.1, 0, by decide, by rw [y.2]; rfl, by rw [y.1]; rfl⟩
    · exact ⟨q.1, 1, by decide, by rw [y.2]; rfl, by rw [y.1]; rfl⟩
    · exact ⟨q.1, 2, by decide, by rw [y.2]; rfl, by rw [y.1]; rfl⟩) (nd_names (by decide))
  clear hwp
  have hS1 := hS.aL hZ1 ho1 hfr
  clear hfr hZ1
  refine lv_istore (lv' := [(6, .int (iI k)), (5, .int (iI i)), (0, .ref b), (1, .ref ob), (2, .ref m0), (3, .ref ou), (4, .ref od)]) hx hb dL_law_468 hl (by decide) rfl (fun ls hl => ?_)
  refine lv_aload_n hx hb dL_law_470 rfl (lv_at hl 4 rfl) ?_
  refine lv_aload_n hx hb dL_law_471 rfl (lv_at hl 2 rfl) ?_
  refine lv_iload hx hb dL_law_472 (lv_at hl 1 rfl) ?_
  refine z_iconst hx hb dL_law_474 ?_
  refine z_iadd hx hb dL_law_475 ?_
  refine z_sld (k := i + 1) hC hS1.1 hX hbl hbA hL2 (by omega) dL_law_476 ?_
  refine lv_aload_n hx hb dL_law_477 rfl (lv_at hl 2 rfl) ?_
  refine lv_iload hx hb dL_law_478 (lv_at hl 1 rfl) ?_
  refine z_iconst hx hb dL_law_480 ?_
  refine z_iadd hx hb dL_law_481 ?_
  refine z_sld (k := i + 2) hC hS1.1 hX hbl hbA hL2 (by omega) dL_law_482 ?_
  refine z_fcall hC (z_frV (rest := []) (As := [.int (iI (sx xs (i + 1))), .int (iI (sx xs (i + 2)))]) (n := 2) (ci := 16) hC hS1.2.1 (met_X13_correct l D cs (zfA (mW cs m0 ad v gm) H1) m0 ad v gm (sx xs (i + 1)) (sx xs (i + 2)) hs tx N c0 hD hok hv.1 hK (sx_R xs (i + 1)) (sx_R xs (i + 2)) hv.2.2.2.2.1 hv.2.2.2.2.2.1 (by omega) hv.2.2.1 hv.2.2.2.1 (sCor_R hK)) gv_L_184 hd_X13_correct rfl mW_o rfl hl rfl (Nat.le_of_ble_eq_true rfl) ⟨by omega, by omega⟩ ⟨by omega, by omega⟩ dL_law_483) hS1.2.1 (fun vv F2 H2 locs2 hp hZ1 hfr => ?_)
  obtain ⟨r, rfl, v2, g2, rfl, hok2, hm⟩ := hp
  have hS2 := hS1.aM hZ1 hfr
  clear hfr hZ1
  obtain ⟨hV6, hVr, hVx, hVn⟩ := hv.mC (tx1 := []) hm (fun k9 hk9 h89 => by rw [upN_n h89, upN_n (by unfold vK at hk9; omega)]) (Or.inr ⟨rfl, upN_s⟩) (sCor_K hv)
  refine lv_istore (lv' := [(7, .int (iI r)), (6, .int (iI k)), (5, .int (iI i)), (0, .ref b), (1, .ref ob), (2, .ref m0), (3, .ref ou), (4, .ref od)]) hx hb dL_law_486 hl (by decide) rfl (fun ls hl => ?_)
  refine lv_aload_n hx hb dL_law_488 rfl (lv_at hl 5 rfl) ?_
  refine z_fcall hC (z_frV (rest := []) (As := []) (n := 0) (ci := 16) hC hS2.2.1 (met_X13_thrown l D cs (zfA (mW cs m0 ad v2 g2) H2) m0 ad v2 g2 hD hok2) gv_L_167 hd_X13_thrown rfl mW_o rfl hl rfl (Nat.le_of_ble_eq_true rfl) ⟨by omega, by omega⟩ ⟨by omega, by omega⟩ dL_law_489) hS2.2.1 (fun vv F3 H3 locs3 hp hZ1 hfr => ?_)
  obtain ⟨r3, rfl, v3, g3, rfl, hokL, rfl, rfl, rfl⟩ := hp
  have hS3 := hS2.aM hZ1 hfr
  clear hfr hZ1
  have hk6 : v2 6 = k := hV6.trans hW.1.symm
  have hkr := hW.2.1
  refine lv_iload hx hb dL_law_492 (lv_at hl 1 rfl) ?_
  refine z_icmp_eq (tgt := 499) hx hb dL_law_494 (by decide) (by omega) (by omega) (fun c9 => ?_) (fun c9 => absurd hk6 c9)
  refine lv_iload hx hb dL_law_499 (lv_at hl 1 rfl) ?_
  refine z_if_ne (tgt := 516) hx hb dL_law_501 (by decide) (by omega) (fun c8 => ?_) (fun c8 => ?_)
  · skip
    refine lv_goto (tgt := 2898) hx hb dL_law_516 (by decide) ?_
    refine W.widen (k := cells + 110) (n := slots + 1650) (by omega) (by omega) ?_
    exact kk _ _ _ _ _ _ _ _ hS3 ⟨g, sa, so, hL, tx, inp, out, c0, sv, hs, er, fa, (hW.2.2.2 c8), (hVx (fun z => c8 (hW.1.trans z)))⟩ hokL (lv_sub hl [2, 3, 4, 5, 6, 7] rfl)
  · skip
    have hk0 : k = 0 := by omega
    refine lv_aload_n hx hb dL_law_504 rfl (lv_at hl 6 rfl) ?_
    refine z_iconst hx hb dL_law_505 ?_
    refine z_lald hC hS3.2.2.1 z1_s dL_law_506 ?_
    refine lv_iload hx hb dL_law_507 (lv_at hl 0 rfl) ?_
    refine lv_i2l hx hb dL_law_509 rfl ?_
    refine z_lcmp0 hC ((hW.2.2.1 hk0).2.trans (by rw [hVr (hW.1.symm.trans hk0)])) dL_law_510 ?_
    refine z_if_eq (tgt := 516) hx hb dL_law_511 (by decide) (by decide) (fun c7 => ?_) (fun c7 => absurd rfl c7)
    refine lv_goto (tgt := 2898) hx hb dL_law_516 (by decide) ?_
    refine W.widen (k := cells + 110) (n := slots + 1650) (by omega) (by omega) ?_
    exact kk _ _ _ _ _ _ _ _ hS3 (let ⟨g9, sa9, hL9, h9⟩ := (hW.2.2.1 (by omega)).1; ⟨g9, sa9, so, hL9, _, inp, out, _, sv, _, er, fa, h9, (hVn (hW.1.symm.trans (show k = 0 by omega)))⟩) hokL (lv_sub hl [2, 3, 4, 5, 6, 7] rfl)

set_option maxHeartbeats 4000000 in
set_option maxRecDepth 100000 in
theorem lc_articleCount (hB : lCx l R D cs A p s m args c b L m0 xs ad) (hi : 0 ≤ i ∧ i + 4 ≤ L) (hN : N ≤ 600) (hS : zLS D cs A s H locs m0 ou od ad Fg v gm f fd) (hT : zT2 cs N Fg ob v gm) (hok : mOK v gm) (hl : lv_has ls 9 [(5, .int (iI i)), (0, .ref b), (1, .ref ob), (2, .ref m0), (3, .ref ou), (4, .ref od)]) (hc : cells + 110 ≤ R.cells) (hsl : slots + 1650 ≤ R.slots)
  (kk : ∀ (H1 : Heap) (locs1 : List Loc) (Fg1 : zF) (v1 : Nat → Int) (g1 : Nat → Int → Int) (f1 : Nat → Int64) (fd1 : Nat → UInt64) (ls1 : Array Slot), zLS D cs A s H1 locs1 m0 ou od ad Fg1 v1 g1 f1 fd1 → zT2 cs (N + 1) Fg1 ob v1 g1 → mOK v1 g1 → lv_has ls1 9 [(5, .int (iI i)), (0, .ref b), (1, .ref ob), (2, .ref m0), (3, .ref ou), (4, .ref od)] → W p l e R s m args below meth c H1 locs1 (cells + 110) (slots + 1650) Q (F0 m 2898 ls1 [])) : W p l e R s m args below meth c H locs cells slots Q (F0 m 519 ls []) := by
  obtain ⟨hC, hlt, hNc, hX, hbl, hbA, hL2, hD, hR1, hR2⟩ := hB
  have hx := hC.x
  have hb := hC.b
  obtain ⟨g, sa, so, hL, tx, inp, out, c0, sv, hs, er, fa, hg, hv⟩ := hT
  have hK := hv.2.1
  have hh8 := hv.2.2.1.2.1
  have htz := hv.2.2.2.2.2.2.1
  have hwi := hK.2.2.2.2.2.2.2.2.1
  have hb13 := hv.2.2.2.2.2.2.2.2.2.2.2.2.1
  have hb14 := hv.2.2.2.2.2.2.2.2.2.2.2.2.2
  refine lv_aload_n hx hb dL_law_519 rfl (lv_at hl 2 rfl) ?_
  refine z_fcall hC (z_frV (rest := []) (As := []) (n := 0) (ci := 15) hC hS.1 (met_X12_articleCount l D cs (zfA Fg H) Fg ob g sa so er fa c0 hg.1 hg.st) gv_L_185 hd_X12_articleCount rfl hg.1 rfl hl rfl (Nat.le_of_ble_eq_true rfl) ⟨by omega, by omega⟩ ⟨by omega, by omega⟩ dL_law_520) hS.1 (fun vv Fg1 H1 locs1 hp hZ1 hfr => ?_)
  obtain ⟨r1, rfl, hq⟩ := hp
  have hS1 := hS.aG hZ1 hfr
  refine lv_aload_n hx hb dL_law_523 rfl (lv_at hl 3 rfl) ?_
  refine z_fcall hC (z_frV (rest := [.int (iI r1)]) (As := []) (n := 0) (ci := 16) hC hS1.2.1 (met_X13_articleCount l D cs (zfA (mW cs m0 ad v gm) H1) m0 ad v gm hD hok) gv_L_188 hd_X13_articleCount rfl mW_o rfl hl rfl (Nat.le_of_ble_eq_true rfl) ⟨by omega, by omega⟩ ⟨by omega, by omega⟩ dL_law_524) hS1.2.1 (fun vv F2 H2 locs2 hp hZ1 hfr => ?_)
  obtain ⟨r, rfl, v2, g2, rfl, hokL, hm⟩ := hp
  have hS2 := hS1.aM hZ1 hfr
  obtain ⟨rfl, e1⟩ := hq
  obtain ⟨m1, m2, e2⟩ := hm
  have hgq := hg
  have hzq := hv.up m1 m2
  have e3 := hv.1.1
  have hrr : r1 = r := by omega
  have hrn : InR r := by have := hK.1; unfold InR; omega
  refine z_icmp_eq (tgt := 2898) hx hb dL_law_527 (by decide) (by rw [hrr]; exact hrn) hrn (fun c9 => ?_) (fun c9 => absurd hrr c9)
  refine W.widen (k := cells + 110) (n := slots + 1650) (by omega) (by omega) ?_
  exact kk _ _ _ _ _ _ _ _ hS2 ⟨g, sa, so, hL, tx, inp, out, c0, sv, hs, er, fa, hgq, hzq⟩ hokL (lv_sub hl [0, 1, 2, 3, 4, 5] rfl)

set_option maxHeartbeats 4000000 in
set_option maxRecDepth 100000 in
theorem lc_article (hB : lCx l R D cs A p s m args c b L m0 xs ad) (hi : 0 ≤ i ∧ i + 4 ≤ L) (hN : N ≤ 600) (hS : zLS D cs A s H locs m0 ou od ad Fg v gm f fd) (hT : zT2 cs N Fg ob v gm) (hok : mOK v gm) (hl : lv_has ls 9 [(5, .int (iI i)), (0, .ref b), (1, .ref ob), (2, .ref m0), (3, .ref ou), (4, .ref od)]) (hc : cells + 110 ≤ R.cells) (hsl : slots + 1650 ≤ R.slots)
  (kk : ∀ (H1 : Heap) (locs1 : List Loc) (Fg1 : zF) (v1 : Nat → Int) (g1 : Nat → Int → Int) (f1 : Nat → Int64) (fd1 : Nat → UInt64) (ls1 : Array Slot), zLS D cs A s H1 locs1 m0 ou od ad Fg1 v1 g1 f1 fd1 → zT2 cs (N + 1) Fg1 ob v1 g1 → mOK v1 g1 → lv_has ls1 9 [(5, .int (iI i)), (0, .ref b), (1, .ref ob), (2, .ref m0), (3, .ref ou), (4, .ref od)] → W p l e R s m args below meth c H1 locs1 (cells + 110) (slots + 1650) Q (F0 m 2898 ls1 [])) : W p l e R s m args below meth c H locs cells slots Q (F0 m 532 ls []) := by
  obtain ⟨hC, hlt, hNc, hX, hbl, hbA, hL2, hD, hR1, hR2⟩ := hB
  have hx := hC.x
  have hb := hC.b
  obtain ⟨g, sa, so, hL, tx, inp, out, c0, sv, hs, er, fa, hg, hv⟩ := hT
  have hK := hv.2.1
  have hh8 := hv.2.2.1.2.1
  have htz := hv.2.2.2.2.2.2.1
  have hwi := hK.2.2.2.2.2.2.2.2.1
  have hb13 := hv.2.2.2.2.2.2.2.2.2.2.2.2.1
  have hb14 := hv.2.2.2.2.2.2.2.2.2.2.2.2.2
  refine lv_aload_n hx hb dL_law_532 rfl (lv_at hl 2 rfl) ?_
  refine lv_aload_n hx hb dL_law_533 rfl (lv_at hl 1 rfl) ?_
  refine lv_iload hx hb dL_law_534 (lv_at hl 0 rfl) ?_
  refine z_iconst hx hb dL_law_536 ?_
  refine z_iadd hx hb dL_law_537 ?_
  refine z_sld (k := i + 1) hC hS.1 hX hbl hbA hL2 (by omega) dL_law_538 ?_
  refine lv_aload_n hx hb dL_law_539 rfl (lv_at hl 4 rfl) ?_
  refine z_fcall hC (z_frW (rest := []) (As := [.ref ob, .int (iI (sx xs (i + 1))), .ref ou]) (n := 3) (hh := [((0 : Nat), (9 : Nat), (12 : Nat), (32 : Nat))]) hC hNc hS.w (wr_article l D cs (zfA (zun Fg (z1 ou (zLa cs f))) H) Fg ob ou (sx xs (i + 1)) f hg.1 hS.2.2.2.2.2.1 (fun A1 => met_X12_article l D cs A1 Fg ob g sa so er fa c0 (sx xs (i + 1)) hlt hg.1 hg.st (sx_R xs (i + 1))) (fun E F1 q => q.2.2) ) (zgsW qm_L_189 qt_L_article qn_L qc_L_article) he_L_article rfl hl rfl (Nat.le_of_ble_eq_true rfl) ⟨by omega, by omega⟩ ⟨by omega, by omega⟩ dL_law_540) hS.w (fun vv F1 H1 locs1 hp hZ1 hfr => ?_)
  obtain ⟨k, rfl, hwp⟩ := hp
  obtain ⟨Fg1, f1, rfl, ho1, hW⟩ := w_finP (S1 := (sArt c0 (sx xs (i + 1))).1) (S2 := (sArt c0 (sx xs (i + 1))).2) (Kn := (fun F1 => gOb cs F1 ob g sa so hL tx inp out c0 sv hs er fa)) (Kx := (fun F1 => gOb cs F1 ob g sa so hL tx inp out c0 sv hs er fa)) hwp (fun r F1 q => ⟨by rw [← q.1]; exact hg, q.2.1, q.2.2⟩) (fun E F1 q => ⟨by rw [← q.1]; exact hg, 0, by decide, by rw [q.2.2]; rfl, q.2.1.trans rfl⟩) (nd_names (by decide))
  clear hwp
  have hS1 := hS.aL hZ1 ho1 hfr
  clear hfr hZ1
  refine lv_istore (lv' := [(6, .int (iI k)), (5, .int (iI i)), (0, .ref b), (1, .ref ob), (2, .ref m0), (3, .ref ou), (4, .ref od)]) hx hb dL_law_543 hl (by decide) rfl (fun ls hl => ?_)
  refine lv_aload_n hx hb dL_law_545 rfl (lv_at hl 4 rfl) ?_
  refine lv_aload_n hx hb dL_law_546 rfl (lv_at hl 2 rfl) ?_
  refine lv_iload hx hb dL_law_547 (lv_at hl 1 rfl) ?_
  refine z_iconst hx hb dL_law_549 ?_
  refine z_iadd hx hb dL_law_550 ?_
  refine z_sld (k := i + 1) hC hS1.1 hX hbl hbA hL2 (by omega) dL_law_551 ?_
  refine z_fcall hC (z_frV (rest := []) (As := [.int (iI (sx xs (i + 1)))]) (n := 1) (ci := 16) hC hS1.2.1 (met_X13_article l D cs (zfA (mW cs m0 ad v gm) H1) m0 ad v gm (sx xs (i + 1)) N c0 hD hok hv.1 hK (sx_R xs (i + 1))) gv_L_191 hd_X13_article rfl mW_o rfl hl rfl (Nat.le_of_ble_eq_true rfl) ⟨by omega, by omega⟩ ⟨by omega, by omega⟩ dL_law_552) hS1.2.1 (fun vv F2 H2 locs2 hp hZ1 hfr => ?_)
  obtain ⟨r, rfl, v2, g2, rfl, hok2, hm⟩ := hp
  have hS2 := hS1.aM hZ1 hfr
  clear hfr hZ1
  obtain ⟨hVs, hV6, hVr⟩ := hv.mA hm
  refine lv_istore (lv' := [(7, .int (iI r)), (6, .int (iI k)), (5, .int (iI i)), (0, .ref b), (1, .ref ob), (2, .ref m0), (3, .ref ou), (4, .ref od)]) hx hb dL_law_555 hl (by decide) rfl (fun ls hl => ?_)
  refine lv_aload_n hx hb dL_law_557 rfl (lv_at hl 5 rfl) ?_
  refine z_fcall hC (z_frV (rest := []) (As := []) (n := 0) (ci := 16) hC hS2.2.1 (met_X13_thrown l D cs (zfA (mW cs m0 ad v2 g2) H2) m0 ad v2 g2 hD hok2) gv_L_167 hd_X13_thrown rfl mW_o rfl hl rfl (Nat.le_of_ble_eq_true rfl) ⟨by omega, by omega⟩ ⟨by omega, by omega⟩ dL_law_558) hS2.2.1 (fun vv F3 H3 locs3 hp hZ1 hfr => ?_)
  obtain ⟨r3, rfl, v3, g3, rfl, hokL, rfl, rfl, rfl⟩ := hp
  have hS3 := hS2.aM hZ1 hfr
  clear hfr hZ1
  have hk6 : v2 6 = k := hV6.trans hW.1.symm
  have hkr := hW.2.1
  refine lv_iload hx hb dL_law_561 (lv_at hl 1 rfl) ?_
  refine z_icmp_eq (tgt := 568) hx hb dL_law_563 (by decide) (by omega) (by omega) (fun c9 => ?_) (fun c9 => absurd hk6 c9)
  refine lv_iload hx hb dL_law_568 (lv_at hl 1 rfl) ?_
  refine z_if_ne (tgt := 585) hx hb dL_law_570 (by decide) (by omega) (fun c8 => ?_) (fun c8 => ?_)
  · skip
    refine lv_goto (tgt := 2898) hx hb dL_law_585 (by decide) ?_
    refine W.widen (k := cells + 110) (n := slots + 1650) (by omega) (by omega) ?_
    exact kk _ _ _ _ _ _ _ _ hS3 ⟨g, sa, so, hL, tx, inp, out, c0, sv, hs, er, fa, (hW.2.2.2 c8), hVs⟩ hokL (lv_sub hl [2, 3, 4, 5, 6, 7] rfl)
  · skip
    have hk0 : k = 0 := by omega
    refine lv_aload_n hx hb dL_law_573 rfl (lv_at hl 6 rfl) ?_
    refine z_iconst hx hb dL_law_574 ?_
    refine z_lald hC hS3.2.2.1 z1_s dL_law_575 ?_
    refine lv_iload hx hb dL_law_576 (lv_at hl 0 rfl) ?_
    refine lv_i2l hx hb dL_law_578 rfl ?_
    refine z_lcmp0 hC ((hW.2.2.1 hk0).2.trans (by rw [hVr (hW.1.symm.trans hk0)])) dL_law_579 ?_
    refine z_if_eq (tgt := 585) hx hb dL_law_580 (by decide) (by decide) (fun c7 => ?_) (fun c7 => absurd rfl c7)
    refine lv_goto (tgt := 2898) hx hb dL_law_585 (by decide) ?_
    refine W.widen (k := cells + 110) (n := slots + 1650) (by omega) (by omega) ?_
    exact kk _ _ _ _ _ _ _ _ hS3 ⟨g, sa, so, hL, tx, inp, out, c0, sv, hs, er, fa, (hW.2.2.1 (by omega)).1, hVs⟩ hokL (lv_sub hl [2, 3, 4, 5, 6, 7] rfl)

set_option maxHeartbeats 4000000 in
set_option maxRecDepth 100000 in
theorem lc_articleByPriority (hB : lCx l R D cs A p s m args c b L m0 xs ad) (hi : 0 ≤ i ∧ i + 4 ≤ L) (hN : N ≤ 600) (hS : zLS D cs A s H locs m0 ou od ad Fg v gm f fd) (hT : zT2 cs N Fg ob v gm) (hok : mOK v gm) (hl : lv_has ls 9 [(5, .int (iI i)), (0, .ref b), (1, .ref ob), (2, .ref m0), (3, .ref ou), (4, .ref od)]) (hc : cells + 110 ≤ R.cells) (hsl : slots + 1650 ≤ R.slots)
  (kk : ∀ (H1 : Heap) (locs1 : List Loc) (Fg1 : zF) (v1 : Nat → Int) (g1 : Nat → Int → Int) (f1 : Nat → Int64) (fd1 : Nat → UInt64) (ls1 : Array Slot), zLS D cs A s H1 locs1 m0 ou od ad Fg1 v1 g1 f1 fd1 → zT2 cs (N + 1) Fg1 ob v1 g1 → mOK v1 g1 → lv_has ls1 9 [(5, .int (iI i)), (0, .ref b), (1, .ref ob), (2, .ref m0), (3, .ref ou), (4, .ref od)] → W p l e R s m args below meth c H1 locs1 (cells + 110) (slots + 1650) Q (F0 m 2898 ls1 [])) : W p l e R s m args below meth c H locs cells slots Q (F0 m 588 ls []) := by
  obtain ⟨hC, hlt, hNc, hX, hbl, hbA, hL2, hD, hR1, hR2⟩ := hB
  have hx := hC.x
  have hb := hC.b
  obtain ⟨g, sa, so, hL, tx, inp, out, c0, sv, hs, er, fa, hg, hv⟩ := hT
  have hK := hv.2.1
  have hh8 := hv.2.2.1.2.1
  have htz := hv.2.2.2.2.2.2.1
  have hwi := hK.2.2.2.2.2.2.2.2.1
  have hb13 := hv.2.2.2.2.2.2.2.2.2.2.2.2.1
  have hb14 := hv.2.2.2.2.2.2.2.2.2.2.2.2.2
  refine lv_aload_n hx hb dL_law_588 rfl (lv_at hl 2 rfl) ?_
  refine lv_aload_n hx hb dL_law_589 rfl (lv_at hl 1 rfl) ?_
  refine lv_iload hx hb dL_law_590 (lv_at hl 0 rfl) ?_
  refine z_iconst hx hb dL_law_592 ?_
  refine z_iadd hx hb dL_law_593 ?_
  refine z_sld (k := i + 1) hC hS.1 hX hbl hbA hL2 (by omega) dL_law_594 ?_
  refine lv_aload_n hx hb dL_law_595 rfl (lv_at hl 4 rfl) ?_
  refine z_fcall hC (z_frW (rest := []) (As := [.ref ob, .int (iI (sx xs (i + 1))), .ref ou]) (n := 3) (hh := [((0 : Nat), (9 : Nat), (12 : Nat), (32 : Nat))]) hC hNc hS.w (wr_articleByPriority l D cs (zfA (zun Fg (z1 ou (zLa cs f))) H) Fg ob ou (sx xs (i + 1)) f hg.1 hS.2.2.2.2.2.1 (fun A1 => met_X12_articleByPriority l D cs A1 Fg ob g sa so er fa c0 (sx xs (i + 1)) hlt hg.1 hg.st (sx_R xs (i + 1))) (fun E F1 q => q.2.2) ) (zgsW qm_L_192 qt_L_articleByPriority qn_L qc_L_articleByPriority) he_L_articleByPriority rfl hl rfl (Nat.le_of_ble_eq_true rfl) ⟨by omega, by omega⟩ ⟨by omega, by omega⟩ dL_law_596) hS.w (fun vv F1 H1 locs1 hp hZ1 hfr => ?_)
  obtain ⟨k, rfl, hwp⟩ := hp
  obtain ⟨Fg1, f1, rfl, ho1, hW⟩ := w_finP (S1 := (sArP c0 (sx xs (i + 1))).1) (S2 := (sArP c0 (sx xs (i + 1))).2) (Kn := (fun F1 => gOb cs F1 ob g sa so hL tx inp out c0 sv hs er fa)) (Kx := (fun F1 => gOb cs F1 ob g sa so hL tx inp out c0 sv hs er fa)) hwp (fun r F1 q => ⟨by rw [← q.1]; exact hg, q.2.1, q.2.2⟩) (fun E F1 q => ⟨by rw [← q.1]; exact hg, 0, by decide, by rw [q.2.2]; rfl, q.2.1.trans rfl⟩) (nd_names (by decide))
  clear hwp
  have hS1 := hS.aL hZ1 ho1 hfr
  clear hfr hZ1
  refine lv_istore (lv' := [(6, .int (iI k)), (5, .int (iI i)), (0, .ref b), (1, .ref ob), (2, .ref m0), (3, .ref ou), (4, .ref od)]) hx hb dL_law_599 hl (by decide) rfl (fun ls hl => ?_)
  refine lv_aload_n hx hb dL_law_601 rfl (lv_at hl 4 rfl) ?_
  refine lv_aload_n hx hb dL_law_602 rfl (lv_at hl 2 rfl) ?_
  refine lv_iload hx hb dL_law_603 (lv_at hl 1 rfl) ?_
  refine z_iconst hx hb dL_law_605 ?_
  refine z_iadd hx hb dL_law_606 ?_
  refine z_sld (k := i + 1) hC hS1.1 hX hbl hbA hL2 (by omega) dL_law_607 ?_
  refine z_fcall hC (z_frV (rest := []) (As := [.int (iI (sx xs (i + 1)))]) (n := 1) (ci := 16) hC hS1.2.1 (met_X13_articleByPriority l D cs (zfA (mW cs m0 ad v gm) H1) m0 ad v gm (sx xs (i + 1)) N c0 hD hok hv.1 hK (sx_R xs (i + 1))) gv_L_194 hd_X13_articleByPriority rfl mW_o rfl hl rfl (Nat.le_of_ble_eq_true rfl) ⟨by omega, by omega⟩ ⟨by omega, by omega⟩ dL_law_608) hS1.2.1 (fun vv F2 H2 locs2 hp hZ1 hfr => ?_)
  obtain ⟨r, rfl, v2, g2, rfl, hok2, hm⟩ := hp
  have hS2 := hS1.aM hZ1 hfr
  clear hfr hZ1
  obtain ⟨hVs, hV6, hVr⟩ := hv.mA hm
  refine lv_istore (lv' := [(7, .int (iI r)), (6, .int (iI k)), (5, .int (iI i)), (0, .ref b), (1, .ref ob), (2, .ref m0), (3, .ref ou), (4, .ref od)]) hx hb dL_law_611 hl (by decide) rfl (fun ls hl => ?_)
  refine lv_aload_n hx hb dL_law_613 rfl (lv_at hl 5 rfl) ?_
  refine z_fcall hC (z_frV (rest := []) (As := []) (n := 0) (ci := 16) hC hS2.2.1 (met_X13_thrown l D cs (zfA (mW cs m0 ad v2 g2) H2) m0 ad v2 g2 hD hok2) gv_L_167 hd_X13_thrown rfl mW_o rfl hl rfl (Nat.le_of_ble_eq_true rfl) ⟨by omega, by omega⟩ ⟨by omega, by omega⟩ dL_law_614) hS2.2.1 (fun vv F3 H3 locs3 hp hZ1 hfr => ?_)
  obtain ⟨r3, rfl, v3, g3, rfl, hokL, rfl, rfl, rfl⟩ := hp
  have hS3 := hS2.aM hZ1 hfr
  clear hfr hZ1
  have hk6 : v2 6 = k := hV6.trans hW.1.symm
  have hkr := hW.2.1
  refine lv_iload hx hb dL_law_617 (lv_at hl 1 rfl) ?_
  refine z_icmp_eq (tgt := 624) hx hb dL_law_619 (by decide) (by omega) (by omega) (fun c9 => ?_) (fun c9 => absurd hk6 c9)
  refine lv_iload hx hb dL_law_624 (lv_at hl 1 rfl) ?_
  refine z_if_ne (tgt := 641) hx hb dL_law_626 (by decide) (by omega) (fun c8 => ?_) (fun c8 => ?_)
  · skip
    refine lv_goto (tgt := 2898) hx hb dL_law_641 (by decide) ?_
    refine W.widen (k := cells + 110) (n := slots + 1650) (by omega) (by omega) ?_
    exact kk _ _ _ _ _ _ _ _ hS3 ⟨g, sa, so, hL, tx, inp, out, c0, sv, hs, er, fa, (hW.2.2.2 c8), hVs⟩ hokL (lv_sub hl [2, 3, 4, 5, 6, 7] rfl)
  · skip
    have hk0 : k = 0 := by omega
    refine lv_aload_n hx hb dL_law_629 rfl (lv_at hl 6 rfl) ?_
    refine z_iconst hx hb dL_law_630 ?_
    refine z_lald hC hS3.2.2.1 z1_s dL_law_631 ?_
    refine lv_iload hx hb dL_law_632 (lv_at hl 0 rfl) ?_
    refine lv_i2l hx hb dL_law_634 rfl ?_
    refine z_lcmp0 hC ((hW.2.2.1 hk0).2.trans (by rw [hVr (hW.1.symm.trans hk0)])) dL_law_635 ?_
    refine z_if_eq (tgt := 641) hx hb dL_law_636 (by decide) (by decide) (fun c7 => ?_) (fun c7 => absurd rfl c7)
    refine lv_goto (tgt := 2898) hx hb dL_law_641 (by decide) ?_
    refine W.widen (k := cells + 110) (n := slots + 1650) (by omega) (by omega) ?_
    exact kk _ _ _ _ _ _ _ _ hS3 ⟨g, sa, so, hL, tx, inp, out, c0, sv, hs, er, fa, (hW.2.2.1 (by omega)).1, hVs⟩ hokL (lv_sub hl [2, 3, 4, 5, 6, 7] rfl)

set_option maxHeartbeats 4000000 in
set_option maxRecDepth 100000 in
theorem lc_priority (hB : lCx l R D cs A p s m args c b L m0 xs ad) (hi : 0 ≤ i ∧ i + 4 ≤ L) (hN : N ≤ 600) (hS : zLS D cs A s H locs m0 ou od ad Fg v gm f fd) (hT : zT2 cs N Fg ob v gm) (hok : mOK v gm) (hl : lv_has ls 9 [(5, .int (iI i)), (0, .ref b), (1, .ref ob), (2, .ref m0), (3, .ref ou), (4, .ref od)]) (hc : cells + 110 ≤ R.cells) (hsl : slots + 1650 ≤ R.slots)
  (kk : ∀ (H1 : Heap) (locs1 : List Loc) (Fg1 : zF) (v1 : Nat → Int) (g1 : Nat → Int → Int) (f1 : Nat → Int64) (fd1 : Nat → UInt64) (ls1 : Array Slot), zLS D cs A s H1 locs1 m0 ou od ad Fg1 v1 g1 f1 fd1 → zT2 cs (N + 1) Fg1 ob v1 g1 → mOK v1 g1 → lv_has ls1 9 [(5, .int (iI i)), (0, .ref b), (1, .ref ob), (2, .ref m0), (3, .ref ou), (4, .ref od)] → W p l e R s m args below meth c H1 locs1 (cells + 110) (slots + 1650) Q (F0 m 2898 ls1 [])) : W p l e R s m args below meth c H locs cells slots Q (F0 m 644 ls []) := by
  obtain ⟨hC, hlt, hNc, hX, hbl, hbA, hL2, hD, hR1, hR2⟩ := hB
  have hx := hC.x
  have hb := hC.b
  obtain ⟨g, sa, so, hL, tx, inp, out, c0, sv, hs, er, fa, hg, hv⟩ := hT
  have hK := hv.2.1
  have hh8 := hv.2.2.1.2.1
  have htz := hv.2.2.2.2.2.2.1
  have hwi := hK.2.2.2.2.2.2.2.2.1
  have hb13 := hv.2.2.2.2.2.2.2.2.2.2.2.2.1
  have hb14 := hv.2.2.2.2.2.2.2.2.2.2.2.2.2
  refine lv_aload_n hx hb dL_law_644 rfl (lv_at hl 2 rfl) ?_
  refine lv_aload_n hx hb dL_law_645 rfl (lv_at hl 1 rfl) ?_
  refine lv_iload hx hb dL_law_646 (lv_at hl 0 rfl) ?_
  refine z_iconst hx hb dL_law_648 ?_
  refine z_iadd hx hb dL_law_649 ?_
  refine z_sld (k := i + 1) hC hS.1 hX hbl hbA hL2 (by omega) dL_law_650 ?_
  refine lv_aload_n hx hb dL_law_651 rfl (lv_at hl 4 rfl) ?_
  refine z_fcall hC (z_frW (rest := []) (As := [.ref ob, .int (iI (sx xs (i + 1))), .ref ou]) (n := 3) (hh := [((0 : Nat), (9 : Nat), (12 : Nat), (26 : Nat))]) hC hNc hS.w (wr_priority l D cs (zfA (zun Fg (z1 ou (zLa cs f))) H) Fg ob ou (sx xs (i + 1)) f hg.1 hS.2.2.2.2.2.1 (fun A1 => met_X12_priority l D cs A1 Fg ob g sa so er fa c0 (sx xs (i + 1)) hlt hg.1 hg.st (sx_R xs (i + 1))) (fun E F1 q => q.2.2) ) (zgsW qm_L_195 qt_L_priority qn_L qc_L_priority) he_L_priority rfl hl rfl (Nat.le_of_ble_eq_true rfl) ⟨by omega, by omega⟩ ⟨by omega, by omega⟩ dL_law_652) hS.w (fun vv F1 H1 locs1 hp hZ1 hfr => ?_)
  obtain ⟨k, rfl, hwp⟩ := hp
  obtain ⟨Fg1, f1, rfl, ho1, hW⟩ := w_finP (S1 := (sPrio c0 (sx xs (i + 1))).1) (S2 := (sPrio c0 (sx xs (i + 1))).2) (Kn := (fun F1 => gOb cs F1 ob g sa so hL tx inp out c0 sv hs er fa)) (Kx := (fun F1 => gOb cs F1 ob g sa so hL tx inp out c0 sv hs er fa)) hwp (fun r F1 q => ⟨by rw [← q.1]; exact hg, q.2.1, q.2.2⟩) (fun E F1 q => ⟨by rw [← q.1]; exact hg, 0, by decide, by rw [q.2.2]; rfl, q.2.1.trans rfl⟩) (nd_names (by decide))
  clear hwp
  have hS1 := hS.aL hZ1 ho1 hfr
  clear hfr hZ1
  refine lv_istore (lv' := [(6, .int (iI k)), (5, .int (iI i)), (0, .ref b), (1, .ref ob), (2, .ref m0), (3, .ref ou), (4, .ref od)]) hx hb dL_law_655 hl (by decide) rfl (fun ls hl => ?_)
  refine lv_aload_n hx hb dL_law_657 rfl (lv_at hl 4 rfl) ?_
  refine lv_aload_n hx hb dL_law_658 rfl (lv_at hl 2 rfl) ?_
  refine lv_iload hx hb dL_law_659 (lv_at hl 1 rfl) ?_
  refine z_iconst hx hb dL_law_661 ?_
  refine z_iadd hx hb dL_law_662 ?_
  refine z_sld (k := i + 1) hC hS1.1 hX hbl hbA hL2 (by omega) dL_law_663 ?_
  refine z_fcall hC (z_frV (rest := []) (As := [.int (iI (sx xs (i + 1)))]) (n := 1) (ci := 16) hC hS1.2.1 (met_X13_priority l D cs (zfA (mW cs m0 ad v gm) H1) m0 ad v gm (sx xs (i + 1)) N c0 hD hok hv.1 hK (sx_R xs (i + 1))) gv_L_197 hd_X13_priority rfl mW_o rfl hl rfl (Nat.le_of_ble_eq_true rfl) ⟨by omega, by omega⟩ ⟨by omega, by omega⟩ dL_law_664) hS1.2.1 (fun vv F2 H2 locs2 hp hZ1 hfr => ?_)
  obtain ⟨r, rfl, v2, g2, rfl, hok2, hm⟩ := hp
  have hS2 := hS1.aM hZ1 hfr
  clear hfr hZ1
  obtain ⟨hVs, hV6, hVr⟩ := hv.mA hm
  refine lv_istore (lv' := [(7, .int (iI r)), (6, .int (iI k)), (5, .int (iI i)), (0, .ref b), (1, .ref ob), (2, .ref m0), (3, .ref ou), (4, .ref od)]) hx hb dL_law_667 hl (by decide) rfl (fun ls hl => ?_)
  refine lv_aload_n hx hb dL_law_669 rfl (lv_at hl 5 rfl) ?_
  refine z_fcall hC (z_frV (rest := []) (As := []) (n := 0) (ci := 16) hC hS2.2.1 (met_X13_thrown l D cs (zfA (mW cs m0 ad v2 g2) H2) m0 ad v2 g2 hD hok2) gv_L_167 hd_X13_thrown rfl mW_o rfl hl rfl (Nat.le_of_ble_eq_true rfl) ⟨by omega, by omega⟩ ⟨by omega, by omega⟩ dL_law_670) hS2.2.1 (fun vv F3 H3 locs3 hp hZ1 hfr => ?_)
  obtain ⟨r3, rfl, v3, g3, rfl, hokL, rfl, rfl, rfl⟩ := hp
  have hS3 := hS2.aM hZ1 hfr
  clear hfr hZ1
  have hk6 : v2 6 = k := hV6.trans hW.1.symm
  have hkr := hW.2.1
  refine lv_iload hx hb dL_law_673 (lv_at hl 1 rfl) ?_
  refine z_icmp_eq (tgt := 680) hx hb dL_law_675 (by decide) (by omega) (by omega) (fun c9 => ?_) (fun c9 => absurd hk6 c9)
  refine lv_iload hx hb dL_law_680 (lv_at hl 1 rfl) ?_
  refine z_if_ne (tgt := 697) hx hb dL_law_682 (by decide) (by omega) (fun c8 => ?_) (fun c8 => ?_)
  · skip
    refine lv_goto (tgt := 2898) hx hb dL_law_697 (by decide) ?_
    refine W.widen (k := cells + 110) (n := slots + 1650) (by omega) (by omega) ?_
    exact kk _ _ _ _ _ _ _ _ hS3 ⟨g, sa, so, hL, tx, inp, out, c0, sv, hs, er, fa, (hW.2.2.2 c8), hVs⟩ hokL (lv_sub hl [2, 3, 4, 5, 6, 7] rfl)
  · skip
    have hk0 : k = 0 := by omega
    refine lv_aload_n hx hb dL_law_685 rfl (lv_at hl 6 rfl) ?_
    refine z_iconst hx hb dL_law_686 ?_
    refine z_lald hC hS3.2.2.1 z1_s dL_law_687 ?_
    refine lv_iload hx hb dL_law_688 (lv_at hl 0 rfl) ?_
    refine lv_i2l hx hb dL_law_690 rfl ?_
    refine z_lcmp0 hC ((hW.2.2.1 hk0).2.trans (by rw [hVr (hW.1.symm.trans hk0)])) dL_law_691 ?_
    refine z_if_eq (tgt := 697) hx hb dL_law_692 (by decide) (by decide) (fun c7 => ?_) (fun c7 => absurd rfl c7)
    refine lv_goto (tgt := 2898) hx hb dL_law_697 (by decide) ?_
    refine W.widen (k := cells + 110) (n := slots + 1650) (by omega) (by omega) ?_
    exact kk _ _ _ _ _ _ _ _ hS3 ⟨g, sa, so, hL, tx, inp, out, c0, sv, hs, er, fa, (hW.2.2.1 (by omega)).1, hVs⟩ hokL (lv_sub hl [2, 3, 4, 5, 6, 7] rfl)

set_option maxHeartbeats 4000000 in
set_option maxRecDepth 100000 in
theorem lc_wordCount (hB : lCx l R D cs A p s m args c b L m0 xs ad) (hi : 0 ≤ i ∧ i + 4 ≤ L) (hN : N ≤ 600) (hS : zLS D cs A s H locs m0 ou od ad Fg v gm f fd) (hT : zT2 cs N Fg ob v gm) (hok : mOK v gm) (hl : lv_has ls 9 [(5, .int (iI i)), (0, .ref b), (1, .ref ob), (2, .ref m0), (3, .ref ou), (4, .ref od)]) (hc : cells + 110 ≤ R.cells) (hsl : slots + 1650 ≤ R.slots)
  (kk : ∀ (H1 : Heap) (locs1 : List Loc) (Fg1 : zF) (v1 : Nat → Int) (g1 : Nat → Int → Int) (f1 : Nat → Int64) (fd1 : Nat → UInt64) (ls1 : Array Slot), zLS D cs A s H1 locs1 m0 ou od ad Fg1 v1 g1 f1 fd1 → zT2 cs (N + 1) Fg1 ob v1 g1 → mOK v1 g1 → lv_has ls1 9 [(5, .int (iI i)), (0, .ref b), (1, .ref ob), (2, .ref m0), (3, .ref ou), (4, .ref od)] → W p l e R s m args below meth c H1 locs1 (cells + 110) (slots + 1650) Q (F0 m 2898 ls1 [])) : W p l e R s m args below meth c H locs cells slots Q (F0 m 700 ls []) := by
  obtain ⟨hC, hlt, hNc, hX, hbl, hbA, hL2, hD, hR1, hR2⟩ := hB
  have hx := hC.x
  have hb := hC.b
  obtain ⟨g, sa, so, hL, tx, inp, out, c0, sv, hs, er, fa, hg, hv⟩ := hT
  have hK := hv.2.1
  have hh8 := hv.2.2.1.2.1
  have htz := hv.2.2.2.2.2.2.1
  have hwi := hK.2.2.2.2.2.2.2.2.1
  have hb13 := hv.2.2.2.2.2.2.2.2.2.2.2.2.1
  have hb14 := hv.2.2.2.2.2.2.2.2.2.2.2.2.2
  refine lv_aload_n hx hb dL_law_700 rfl (lv_at hl 2 rfl) ?_
  refine lv_aload_n hx hb dL_law_701 rfl (lv_at hl 1 rfl) ?_
  refine lv_iload hx hb dL_law_702 (lv_at hl 0 rfl) ?_
  refine z_iconst hx hb dL_law_704 ?_
  refine z_iadd hx hb dL_law_705 ?_
  refine z_sld (k := i + 1) hC hS.1 hX hbl hbA hL2 (by omega) dL_law_706 ?_
  refine lv_aload_n hx hb dL_law_707 rfl (lv_at hl 4 rfl) ?_
  refine z_fcall hC (z_frW (rest := []) (As := [.ref ob, .int (iI (sx xs (i + 1))), .ref ou]) (n := 3) (hh := [((0 : Nat), (9 : Nat), (12 : Nat), (26 : Nat))]) hC hNc hS.w (wr_wordCount l D cs (zfA (zun Fg (z1 ou (zLa cs f))) H) Fg ob ou (sx xs (i + 1)) f hg.1 hS.2.2.2.2.2.1 (fun A1 => met_X12_wordCount l D cs A1 Fg ob g sa so er fa c0 (sx xs (i + 1)) hlt hg.1 hg.st (sx_R xs (i + 1))) (fun E F1 q => q.2.2) ) (zgsW qm_L_198 qt_L_wordCount qn_L qc_L_wordCount) he_L_wordCount rfl hl rfl (Nat.le_of_ble_eq_true rfl) ⟨by omega, by omega⟩ ⟨by omega, by omega⟩ dL_law_708) hS.w (fun vv F1 H1 locs1 hp hZ1 hfr => ?_)
  obtain ⟨k, rfl, hwp⟩ := hp
  obtain ⟨Fg1, f1, rfl, ho1, hW⟩ := w_finP (S1 := (sWcnt c0 (sx xs (i + 1))).1) (S2 := (sWcnt c0 (sx xs (i + 1))).2) (Kn := (fun F1 => gOb cs F1 ob g sa so hL tx inp out c0 sv hs er fa)) (Kx := (fun F1 => gOb cs F1 ob g sa so hL tx inp out c0 sv hs er fa)) hwp (fun r F1 q => ⟨by rw [← q.1]; exact hg, q.2.1, q.2.2⟩) (fun E F1 q => ⟨by rw [← q.1]; exact hg, 0, by decide, by rw [q.2.2]; rfl, q.2.1.trans rfl⟩) (nd_names (by decide))
  clear hwp
  have hS1 := hS.aL hZ1 ho1 hfr
  clear hfr hZ1
  refine lv_istore (lv' := [(6, .int (iI k)), (5, .int (iI i)), (0, .ref b), (1, .ref ob), (2, .ref m0), (3, .ref ou), (4, .ref od)]) hx hb dL_law_711 hl (by decide) rfl (fun ls hl => ?_)
  refine lv_aload_n hx hb dL_law_713 rfl (lv_at hl 4 rfl) ?_
  refine lv_aload_n hx hb dL_law_714 rfl (lv_at hl 2 rfl) ?_
  refine lv_iload hx hb dL_law_715 (lv_at hl 1 rfl) ?_
  refine z_iconst hx hb dL_law_717 ?_
  refine z_iadd hx hb dL_law_718 ?_
  refine z_sld (k := i + 1) hC hS1.1 hX hbl hbA hL2 (by omega) dL_law_719 ?_
  refine z_fcall hC (z_frV (rest := []) (As := [.int (iI (sx xs (i + 1)))]) (n := 1) (ci := 16) hC hS1.2.1 (met_X13_wordCount l D cs (zfA (mW cs m0 ad v gm) H1) m0 ad v gm (sx xs (i + 1)) N c0 hD hok hv.1 hK (sx_R xs (i + 1))) gv_L_200 hd_X13_wordCount rfl mW_o rfl hl rfl (Nat.le_of_ble_eq_true rfl) ⟨by omega, by omega⟩ ⟨by omega, by omega⟩ dL_law_720) hS1.2.1 (fun vv F2 H2 locs2 hp hZ1 hfr => ?_)
  obtain ⟨r, rfl, v2, g2, rfl, hok2, hm⟩ := hp
  have hS2 := hS1.aM hZ1 hfr
  clear hfr hZ1
  obtain ⟨hVs, hV6, hVr⟩ := hv.mA hm
  refine lv_istore (lv' := [(7, .int (iI r)), (6, .int (iI k)), (5, .int (iI i)), (0, .ref b), (1, .ref ob), (2, .ref m0), (3, .ref ou), (4, .ref od)]) hx hb dL_law_723 hl (by decide) rfl (fun ls hl => ?_)
  refine lv_aload_n hx hb dL_law_725 rfl (lv_at hl 5 rfl) ?_
  refine z_fcall hC (z_frV (rest := []) (As := []) (n := 0) (ci := 16) hC hS2.2.1 (met_X13_thrown l D cs (zfA (mW cs m0 ad v2 g2) H2) m0 ad v2 g2 hD hok2) gv_L_167 hd_X13_thrown rfl mW_o rfl hl rfl (Nat.le_of_ble_eq_true rfl) ⟨by omega, by omega⟩ ⟨by omega, by omega⟩ dL_law_726) hS2.2.1 (fun vv F3 H3 locs3 hp hZ1 hfr => ?_)
  obtain ⟨r3, rfl, v3, g3, rfl, hokL, rfl, rfl, rfl⟩ := hp
  have hS3 := hS2.aM hZ1 hfr
  clear hfr hZ1
  have hk6 : v2 6 = k := hV6.trans hW.1.symm
  have hkr := hW.2.1
  refine lv_iload hx hb dL_law_729 (lv_at hl 1 rfl) ?_
  refine z_icmp_eq (tgt := 736) hx hb dL_law_731 (by decide) (by omega) (by omega) (fun c9 => ?_) (fun c9 => absurd hk6 c9)
  refine lv_iload hx hb dL_law_736 (lv_at hl 1 rfl) ?_
  refine z_if_ne (tgt := 753) hx hb dL_law_738 (by decide) (by omega) (fun c8 => ?_) (fun c8 => ?_)
  · skip
    refine lv_goto (tgt := 2898) hx hb dL_law_753 (by decide) ?_
    refine W.widen (k := cells + 110) (n := slots + 1650) (by omega) (by omega) ?_
    exact kk _ _ _ _ _ _ _ _ hS3 ⟨g, sa, so, hL, tx, inp, out, c0, sv, hs, er, fa, (hW.2.2.2 c8), hVs⟩ hokL (lv_sub hl [2, 3, 4, 5, 6, 7] rfl)
  · skip
    have hk0 : k = 0 := by omega
    refine lv_aload_n hx hb dL_law_741 rfl (lv_at hl 6 rfl) ?_
    refine z_iconst hx hb dL_law_742 ?_
    refine z_lald hC hS3.2.2.1 z1_s dL_law_743 ?_
    refine lv_iload hx hb dL_law_744 (lv_at hl 0 rfl) ?_
    refine lv_i2l hx hb dL_law_746 rfl ?_
    refine z_lcmp0 hC ((hW.2.2.1 hk0).2.trans (by rw [hVr (hW.1.symm.trans hk0)])) dL_law_747 ?_
    refine z_if_eq (tgt := 753) hx hb dL_law_748 (by decide) (by decide) (fun c7 => ?_) (fun c7 => absurd rfl c7)
    refine lv_goto (tgt := 2898) hx hb dL_law_753 (by decide) ?_
    refine W.widen (k := cells + 110) (n := slots + 1650) (by omega) (by omega) ?_
    exact kk _ _ _ _ _ _ _ _ hS3 ⟨g, sa, so, hL, tx, inp, out, c0, sv, hs, er, fa, (hW.2.2.1 (by omega)).1, hVs⟩ hokL (lv_sub hl [2, 3, 4, 5, 6, 7] rfl)

set_option maxHeartbeats 4000000 in
set_option maxRecDepth 100000 in
theorem lc_wordLength (hB : lCx l R D cs A p s m args c b L m0 xs ad) (hi : 0 ≤ i ∧ i + 4 ≤ L) (hN : N ≤ 600) (hS : zLS D cs A s H locs m0 ou od ad Fg v gm f fd) (hT : zT2 cs N Fg ob v gm) (hok : mOK v gm) (hl : lv_has ls 9 [(5, .int (iI i)), (0, .ref b), (1, .ref ob), (2, .ref m0), (3, .ref ou), (4, .ref od)]) (hc : cells + 110 ≤ R.cells) (hsl : slots + 1650 ≤ R.slots)
  (kk : ∀ (H1 : Heap) (locs1 : List Loc) (Fg1 : zF) (v1 : Nat → Int) (g1 : Nat → Int → Int) (f1 : Nat → Int64) (fd1 : Nat → UInt64) (ls1 : Array Slot), zLS D cs A s H1 locs1 m0 ou od ad Fg1 v1 g1 f1 fd1 → zT2 cs (N + 1) Fg1 ob v1 g1 → mOK v1 g1 → lv_has ls1 9 [(5, .int (iI i)), (0, .ref b), (1, .ref ob), (2, .ref m0), (3, .ref ou), (4, .ref od)] → W p l e R s m args below meth c H1 locs1 (cells + 110) (slots + 1650) Q (F0 m 2898 ls1 [])) : W p l e R s m args below meth c H locs cells slots Q (F0 m 756 ls []) := by
  obtain ⟨hC, hlt, hNc, hX, hbl, hbA, hL2, hD, hR1, hR2⟩ := hB
  have hx := hC.x
  have hb := hC.b
  obtain ⟨g, sa, so, hL, tx, inp, out, c0, sv, hs, er, fa, hg, hv⟩ := hT
  have hK := hv.2.1
  have hh8 := hv.2.2.1.2.1
  have htz := hv.2.2.2.2.2.2.1
  have hwi := hK.2.2.2.2.2.2.2.2.1
  have hb13 := hv.2.2.2.2.2.2.2.2.2.2.2.2.1
  have hb14 := hv.2.2.2.2.2.2.2.2.2.2.2.2.2
  refine lv_aload_n hx hb dL_law_756 rfl (lv_at hl 2 rfl) ?_
  refine lv_aload_n hx hb dL_law_757 rfl (lv_at hl 1 rfl) ?_
  refine lv_iload hx hb dL_law_758 (lv_at hl 0 rfl) ?_
  refine z_iconst hx hb dL_law_760 ?_
  refine z_iadd hx hb dL_law_761 ?_
  refine z_sld (k := i + 1) hC hS.1 hX hbl hbA hL2 (by omega) dL_law_762 ?_
  refine lv_aload_n hx hb dL_law_763 rfl (lv_at hl 1 rfl) ?_
  refine lv_iload hx hb dL_law_764 (lv_at hl 0 rfl) ?_
  refine z_iconst hx hb dL_law_766 ?_
  refine z_iadd hx hb dL_law_767 ?_
  refine z_sld (k := i + 2) hC hS.1 hX hbl hbA hL2 (by omega) dL_law_768 ?_
  refine lv_aload_n hx hb dL_law_769 rfl (lv_at hl 4 rfl) ?_
  refine z_fcall hC (z_frW (rest := []) (As := [.ref ob, .int (iI (sx xs (i + 1))), .int (iI (sx xs (i + 2))), .ref ou]) (n := 4) (hh := [((0 : Nat), (10 : Nat), (13 : Nat), (26 : Nat)), ((0 : Nat), (10 : Nat), (17 : Nat), (32 : Nat))]) hC hNc hS.w (wr_wordLength l D cs (zfA (zun Fg (z1 ou (zLa cs f))) H) Fg ob ou (sx xs (i + 1)) (sx xs (i + 2)) f hg.1 hS.2.2.2.2.2.1 (fun A1 => met_X12_wordLength l D cs A1 Fg ob g sa so er fa c0 (sx xs (i + 1)) (sx xs (i + 2)) hlt hg.1 hg.st (sx_R xs (i + 1)) (sx_R xs (i + 2))) (fun E F1 q => q.2.elim (fun y => Or.inl y.2) (fun y => Or.inr y.2)) ) (zgsW qm_L_201 qt_L_wordLength qn_L qc_L_wordLength) he_L_wordLength rfl hl rfl (Nat.le_of_ble_eq_true rfl) ⟨by omega, by omega⟩ ⟨by omega, by omega⟩ dL_law_770) hS.w (fun vv F1 H1 locs1 hp hZ1 hfr => ?_)
  obtain ⟨k, rfl, hwp⟩ := hp
  obtain ⟨Fg1, f1, rfl, ho1, hW⟩ := w_finP (S1 := (sWord c0 (sx xs (i + 1)) (sx xs (i + 2)) (fun wd => wd.length)).1) (S2 := (sWord c0 (sx xs (i + 1)) (sx xs (i + 2)) (fun wd => wd.length)).2) (Kn := (fun F1 => gOb cs F1 ob g sa so hL tx inp out c0 sv hs er fa)) (Kx := (fun F1 => gOb cs F1 ob g sa so hL tx inp out c0 sv hs er fa)) hwp (fun r F1 q => ⟨by rw [← q.1]; exact hg, q.2.1, q.2.2⟩) (fun E F1 q => by
    rcases q.2 with y | y
    · exact ⟨by rw [← q.1]; exact hg, 0, by decide, by rw [y.2]; rfl, by rw [y.1]; rfl⟩
    · exact ⟨by rw [← q.1]; exact hg, 1, by decide, by rw [y.2]; rfl, by rw [y.1]; rfl⟩) (nd_names (by decide))
  clear hwp
  have hS1 := hS.aL hZ1 ho1 hfr
  clear hfr hZ1
  refine lv_istore (lv' := [(6, .int (iI k)), (5, .int (iI i)), (0, .ref b), (1, .ref ob), (2, .ref m0), (3, .ref ou), (4, .ref od)]) hx hb dL_law_773 hl (by decide) rfl (fun ls hl => ?_)
  refine lv_aload_n hx hb dL_law_775 rfl (lv_at hl 4 rfl) ?_
  refine lv_aload_n hx hb dL_law_776 rfl (lv_at hl 2 rfl) ?_
  refine lv_iload hx hb dL_law_777 (lv_at hl 1 rfl) ?_
  refine z_iconst hx hb dL_law_779 ?_
  refine z_iadd hx hb dL_law_780 ?_
  refine z_sld (k := i + 1) hC hS1.1 hX hbl hbA hL2 (by omega) dL_law_781 ?_
  refine lv_aload_n hx hb dL_law_782 rfl (lv_at hl 2 rfl) ?_
  refine lv_iload hx hb dL_law_783 (lv_at hl 1 rfl) ?_
  refine z_iconst hx hb dL_law_785 ?_
  refine z_iadd hx hb dL_law_786 ?_
  refine z_sld (k := i + 2) hC hS1.1 hX hbl hbA hL2 (by omega) dL_law_787 ?_
  refine z_fcall hC (z_frV (rest := []) (As := [.int (iI (sx xs (i + 1))), .int (iI (sx xs (i + 2)))]) (n := 2) (ci := 16) hC hS1.2.1 (met_X13_wordLength l D cs (zfA (mW cs m0 ad v gm) H1) m0 ad v gm (sx xs (i + 1)) (sx xs (i + 2)) N c0 hD hok hv.1 hK (sx_R xs (i + 1)) (sx_R xs (i + 2))) gv_L_203 hd_X13_wordLength rfl mW_o rfl hl rfl (Nat.le_of_ble_eq_true rfl) ⟨by omega, by omega⟩ ⟨by omega, by omega⟩ dL_law_788) hS1.2.1 (fun vv F2 H2 locs2 hp hZ1 hfr => ?_)
  obtain ⟨r, rfl, v2, g2, rfl, hok2, hm⟩ := hp
  have hS2 := hS1.aM hZ1 hfr
  clear hfr hZ1
  obtain ⟨hVs, hV6, hVr⟩ := hv.mA hm
  refine lv_istore (lv' := [(7, .int (iI r)), (6, .int (iI k)), (5, .int (iI i)), (0, .ref b), (1, .ref ob), (2, .ref m0), (3, .ref ou), (4, .ref od)]) hx hb dL_law_791 hl (by decide) rfl (fun ls hl => ?_)
  refine lv_aload_n hx hb dL_law_793 rfl (lv_at hl 5 rfl) ?_
  refine z_fcall hC (z_frV (rest := []) (As := []) (n := 0) (ci := 16) hC hS2.2.1 (met_X13_thrown l D cs (zfA (mW cs m0 ad v2 g2) H2) m0 ad v2 g2 hD hok2) gv_L_167 hd_X13_thrown rfl mW_o rfl hl rfl (Nat.le_of_ble_eq_true rfl) ⟨by omega, by omega⟩ ⟨by omega, by omega⟩ dL_law_794) hS2.2.1 (fun vv F3 H3 locs3 hp hZ1 hfr => ?_)
  obtain ⟨r3, rfl, v3, g3, rfl, hokL, rfl, rfl, rfl⟩ := hp
  have hS3 := hS2.aM hZ1 hfr
  clear hfr hZ1
  have hk6 : v2 6 = k := hV6.trans hW.1.symm
  have hkr := hW.2.1
  refine lv_iload hx hb dL_law_797 (lv_at hl 1 rfl) ?_
  refine z_icmp_eq (tgt := 804) hx hb dL_law_799 (by decide) (by omega) (by omega) (fun c9 => ?_) (fun c9 => absurd hk6 c9)
  refine lv_iload hx hb dL_law_804 (lv_at hl 1 rfl) ?_
  refine z_if_ne (tgt := 821) hx hb dL_law_806 (by decide) (by omega) (fun c8 => ?_) (fun c8 => ?_)
  · skip
    refine lv_goto (tgt := 2898) hx hb dL_law_821 (by decide) ?_
    refine W.widen (k := cells + 110) (n := slots + 1650) (by omega) (by omega) ?_
    exact kk _ _ _ _ _ _ _ _ hS3 ⟨g, sa, so, hL, tx, inp, out, c0, sv, hs, er, fa, (hW.2.2.2 c8), hVs⟩ hokL (lv_sub hl [2, 3, 4, 5, 6, 7] rfl)
  · skip
    have hk0 : k = 0 := by omega
    refine lv_aload_n hx hb dL_law_809 rfl (lv_at hl 6 rfl) ?_
    refine z_iconst hx hb dL_law_810 ?_
    refine z_lald hC hS3.2.2.1 z1_s dL_law_811 ?_
    refine lv_iload hx hb dL_law_812 (lv_at hl 0 rfl) ?_
    refine lv_i2l hx hb dL_law_814 rfl ?_
    refine z_lcmp0 hC ((hW.2.2.1 hk0).2.trans (by rw [hVr (hW.1.symm.trans hk0)])) dL_law_815 ?_
    refine z_if_eq (tgt := 821) hx hb dL_law_816 (by decide) (by decide) (fun c7 => ?_) (fun c7 => absurd rfl c7)
    refine lv_goto (tgt := 2898) hx hb dL_law_821 (by decide) ?_
    refine W.widen (k := cells + 110) (n := slots + 1650) (by omega) (by omega) ?_
    exact kk _ _ _ _ _ _ _ _ hS3 ⟨g, sa, so, hL, tx, inp, out, c0, sv, hs, er, fa, (hW.2.2.1 (by omega)).1, hVs⟩ hokL (lv_sub hl [2, 3, 4, 5, 6, 7] rfl)

set_option maxHeartbeats 4000000 in
set_option maxRecDepth 100000 in
theorem lc_divisions (hB : lCx l R D cs A p s m args c b L m0 xs ad) (hi : 0 ≤ i ∧ i + 4 ≤ L) (hN : N ≤ 600) (hS : zLS D cs A s H locs m0 ou od ad Fg v gm f fd) (hT : zT2 cs N Fg ob v gm) (hok : mOK v gm) (hl : lv_has ls 9 [(5, .int (iI i)), (0, .ref b), (1, .ref ob), (2, .ref m0), (3, .ref ou), (4, .ref od)]) (hc : cells + 110 ≤ R.cells) (hsl : slots + 1650 ≤ R.slots)
  (kk : ∀ (H1 : Heap) (locs1 : List Loc) (Fg1 : zF) (v1 : Nat → Int) (g1 : Nat → Int → Int) (f1 : Nat → Int64) (fd1 : Nat → UInt64) (ls1 : Array Slot), zLS D cs A s H1 locs1 m0 ou od ad Fg1 v1 g1 f1 fd1 → zT2 cs (N + 1) Fg1 ob v1 g1 → mOK v1 g1 → lv_has ls1 9 [(5, .int (iI i)), (0, .ref b), (1, .ref ob), (2, .ref m0), (3, .ref ou), (4, .ref od)] → W p l e R s m args below meth c H1 locs1 (cells + 110) (slots + 1650) Q (F0 m 2898 ls1 [])) : W p l e R s m args below meth c H locs cells slots Q (F0 m 824 ls []) := by
  obtain ⟨hC, hlt, hNc, hX, hbl, hbA, hL2, hD, hR1, hR2⟩ := hB
  have hx := hC.x
  have hb := hC.b
  obtain ⟨g, sa, so, hL, tx, inp, out, c0, sv, hs, er, fa, hg, hv⟩ := hT
  have hK := hv.2.1
  have hh8 := hv.2.2.1.2.1
  have htz := hv.2.2.2.2.2.2.1
  have hwi := hK.2.2.2.2.2.2.2.2.1
  have hb13 := hv.2.2.2.2.2.2.2.2.2.2.2.2.1
  have hb14 := hv.2.2.2.2.2.2.2.2.2.2.2.2.2
  refine lv_aload_n hx hb dL_law_824 rfl (lv_at hl 2 rfl) ?_
  refine lv_aload_n hx hb dL_law_825 rfl (lv_at hl 1 rfl) ?_
  refine lv_iload hx hb dL_law_826 (lv_at hl 0 rfl) ?_
  refine z_iconst hx hb dL_law_828 ?_
  refine z_iadd hx hb dL_law_829 ?_
  refine z_sld (k := i + 1) hC hS.1 hX hbl hbA hL2 (by omega) dL_law_830 ?_
  refine lv_aload_n hx hb dL_law_831 rfl (lv_at hl 1 rfl) ?_
  refine lv_iload hx hb dL_law_832 (lv_at hl 0 rfl) ?_
  refine z_iconst hx hb dL_law_834 ?_
  refine z_iadd hx hb dL_law_835 ?_
  refine z_sld (k := i + 2) hC hS.1 hX hbl hbA hL2 (by omega) dL_law_836 ?_
  refine lv_aload_n hx hb dL_law_837 rfl (lv_at hl 4 rfl) ?_
  refine z_fcall hC (z_frW (rest := []) (As := [.ref ob, .int (iI (sx xs (i + 1))), .int (iI (sx xs (i + 2))), .ref ou]) (n := 4) (hh := [((0 : Nat), (10 : Nat), (13 : Nat), (26 : Nat)), ((0 : Nat), (10 : Nat), (17 : Nat), (32 : Nat))]) hC hNc hS.w (wr_divisions l D cs (zfA (zun Fg (z1 ou (zLa cs f))) H) Fg ob ou (sx xs (i + 1)) (sx xs (i + 2)) f hg.1 hS.2.2.2.2.2.1 (fun A1 => met_X12_divisions l D cs A1 Fg ob g sa so er fa c0 (sx xs (i + 1)) (sx xs (i + 2)) hlt hg.1 hg.st (sx_R xs (i + 1)) (sx_R xs (i + 2))) (fun E F1 q => q.2.elim (fun y => Or.inl y.2) (fun y => Or.inr y.2)) ) (zgsW qm_L_204 qt_L_divisions qn_L qc_L_divisions) he_L_divisions rfl hl rfl (Nat.le_of_ble_eq_true rfl) ⟨by omega, by omega⟩ ⟨by omega, by omega⟩ dL_law_838) hS.w (fun vv F1 H1 locs1 hp hZ1 hfr => ?_)
  obtain ⟨k, rfl, hwp⟩ := hp
  obtain ⟨Fg1, f1, rfl, ho1, hW⟩ := w_finP (S1 := (sWord c0 (sx xs (i + 1)) (sx xs (i + 2)) sDiv).1) (S2 := (sWord c0 (sx xs (i + 1)) (sx xs (i + 2)) sDiv).2) (Kn := (fun F1 => gOb cs F1 ob g sa so hL tx inp out c0 sv hs er fa)) (Kx := (fun F1 => gOb cs F1 ob g sa so hL tx inp out c0 sv hs er fa)) hwp (fun r F1 q => ⟨by rw [← q.1]; exact hg, q.2.1, q.2.2⟩) (fun E F1 q => by
    rcases q.2 with y | y
    · exact ⟨by rw [← q.1]; exact hg, 0, by decide, by rw [y.2]; rfl, by rw [y.1]; rfl⟩
    · exact ⟨by rw [← q.1]; exact hg, 1, by decide, by rw [y.2]; rfl, by rw [y.1]; rfl⟩) (nd_names (by decide))
  clear hwp
  have hS1 := hS.aL hZ1 ho1 hfr
  clear hfr hZ1
  refine lv_istore (lv' := [(6, .int (iI k)), (5, .int (iI i)), (0, .ref b), (1, .ref ob), (2, .ref m0), (3, .ref ou), (4, .ref od)]) hx hb dL_law_841 hl (by decide) rfl (fun ls hl => ?_)
  refine lv_aload_n hx hb dL_law_843 rfl (lv_at hl 4 rfl) ?_
  refine lv_aload_n hx hb dL_law_844 rfl (lv_at hl 2 rfl) ?_
  refine lv_iload hx hb dL_law_845 (lv_at hl 1 rfl) ?_
  refine z_iconst hx hb dL_law_847 ?_
  refine z_iadd hx hb dL_law_848 ?_
  refine z_sld (k := i + 1) hC hS1.1 hX hbl hbA hL2 (by omega) dL_law_849 ?_
  refine lv_aload_n hx hb dL_law_850 rfl (lv_at hl 2 rfl) ?_
  refine lv_iload hx hb dL_law_851 (lv_at hl 1 rfl) ?_
  refine z_iconst hx hb dL_law_853 ?_
  refine z_iadd hx hb dL_law_854 ?_
  refine z_sld (k := i + 2) hC hS1.1 hX hbl hbA hL2 (by omega) dL_law_855 ?_
  refine z_fcall hC (z_frV (rest := []) (As := [.int (iI (sx xs (i + 1))), .int (iI (sx xs (i + 2)))]) (n := 2) (ci := 16) hC hS1.2.1 (met_X13_divisions l D cs (zfA (mW cs m0 ad v gm) H1) m0 ad v gm (sx xs (i + 1)) (sx xs (i + 2)) N c0 hD hok hv.1 hK (sx_R xs (i + 1)) (sx_R xs (i + 2))) gv_L_206 hd_X13_divisions rfl mW_o rfl hl rfl (Nat.le_of_ble_eq_true rfl) ⟨by omega, by omega⟩ ⟨by omega, by omega⟩ dL_law_856) hS1.2.1 (fun vv F2 H2 locs2 hp hZ1 hfr => ?_)
  obtain ⟨r, rfl, v2, g2, rfl, hok2, hm⟩ := hp
  have hS2 := hS1.aM hZ1 hfr
  clear hfr hZ1
  obtain ⟨hVs, hV6, hVr⟩ := hv.mA hm
  refine lv_istore (lv' := [(7, .int (iI r)), (6, .int (iI k)), (5, .int (iI i)), (0, .ref b), (1, .ref ob), (2, .ref m0), (3, .ref ou), (4, .ref od)]) hx hb dL_law_859 hl (by decide) rfl (fun ls hl => ?_)
  refine lv_aload_n hx hb dL_law_861 rfl (lv_at hl 5 rfl) ?_
  refine z_fcall hC (z_frV (rest := []) (As := []) (n := 0) (ci := 16) hC hS2.2.1 (met_X13_thrown l D cs (zfA (mW cs m0 ad v2 g2) H2) m0 ad v2 g2 hD hok2) gv_L_167 hd_X13_thrown rfl mW_o rfl hl rfl (Nat.le_of_ble_eq_true rfl) ⟨by omega, by omega⟩ ⟨by omega, by omega⟩ dL_law_862) hS2.2.1 (fun vv F3 H3 locs3 hp hZ1 hfr => ?_)
  obtain ⟨r3, rfl, v3, g3, rfl, hokL, rfl, rfl, rfl⟩ := hp
  have hS3 := hS2.aM hZ1 hfr
  clear hfr hZ1
  have hk6 : v2 6 = k := hV6.trans hW.1.symm
  have hkr := hW.2.1
  refine lv_iload hx hb dL_law_865 (lv_at hl 1 rfl) ?_
  refine z_icmp_eq (tgt := 872) hx hb dL_law_867 (by decide) (by omega) (by omega) (fun c9 => ?_) (fun c9 => absurd hk6 c9)
  refine lv_iload hx hb dL_law_872 (lv_at hl 1 rfl) ?_
  refine z_if_ne (tgt := 889) hx hb dL_law_874 (by decide) (by omega) (fun c8 => ?_) (fun c8 => ?_)
  · skip
    refine lv_goto (tgt := 2898) hx hb dL_law_889 (by decide) ?_
    refine W.widen (k := cells + 110) (n := slots + 1650) (by omega) (by omega) ?_
    exact kk _ _ _ _ _ _ _ _ hS3 ⟨g, sa, so, hL, tx, inp, out, c0, sv, hs, er, fa, (hW.2.2.2 c8), hVs⟩ hokL (lv_sub hl [2, 3, 4, 5, 6, 7] rfl)
  · skip
    have hk0 : k = 0 := by omega
    refine lv_aload_n hx hb dL_law_877 rfl (lv_at hl 6 rfl) ?_
    refine z_iconst hx hb dL_law_878 ?_
    refine z_lald hC hS3.2.2.1 z1_s dL_law_879 ?_
    refine lv_iload hx hb dL_law_880 (lv_at hl 0 rfl) ?_
    refine lv_i2l hx hb dL_law_882 rfl ?_
    refine z_lcmp0 hC ((hW.2.2.1 hk0).2.trans (by rw [hVr (hW.1.symm.trans hk0)])) dL_law_883 ?_
    refine z_if_eq (tgt := 889) hx hb dL_law_884 (by decide) (by decide) (fun c7 => ?_) (fun c7 => absurd rfl c7)
    refine lv_goto (tgt := 2898) hx hb dL_law_889 (by decide) ?_
    refine W.widen (k := cells + 110) (n := slots + 1650) (by omega) (by omega) ?_
    exact kk _ _ _ _ _ _ _ _ hS3 ⟨g, sa, so, hL, tx, inp, out, c0, sv, hs, er, fa, (hW.2.2.1 (by omega)).1, hVs⟩ hokL (lv_sub hl [2, 3, 4, 5, 6, 7] rfl)

set_option maxHeartbeats 4000000 in
set_option maxRecDepth 100000 in
theorem lc_canDivide (hB : lCx l R D cs A p s m args c b L m0 xs ad) (hi : 0 ≤ i ∧ i + 4 ≤ L) (hN : N ≤ 600) (hS : zLS D cs A s H locs m0 ou od ad Fg v gm f fd) (hT : zT2 cs N Fg ob v gm) (hok : mOK v gm) (hl : lv_has ls 9 [(5, .int (iI i)), (0, .ref b), (1, .ref ob), (2, .ref m0), (3, .ref ou), (4, .ref od)]) (hc : cells + 110 ≤ R.cells) (hsl : slots + 1650 ≤ R.slots)
  (kk : ∀ (H1 : Heap) (locs1 : List Loc) (Fg1 : zF) (v1 : Nat → Int) (g1 : Nat → Int → Int) (f1 : Nat → Int64) (fd1 : Nat → UInt64) (ls1 : Array Slot), zLS D cs A s H1 locs1 m0 ou od ad Fg1 v1 g1 f1 fd1 → zT2 cs (N + 1) Fg1 ob v1 g1 → mOK v1 g1 → lv_has ls1 9 [(5, .int (iI i)), (0, .ref b), (1, .ref ob), (2, .ref m0), (3, .ref ou), (4, .ref od)] → W p l e R s m args below meth c H1 locs1 (cells + 110) (slots + 1650) Q (F0 m 2898 ls1 [])) : W p l e R s m args below meth c H locs cells slots Q (F0 m 892 ls []) := by
  obtain ⟨hC, hlt, hNc, hX, hbl, hbA, hL2, hD, hR1, hR2⟩ := hB
  have hx := hC.x
  have hb := hC.b
  obtain ⟨g, sa, so, hL, tx, inp, out, c0, sv, hs, er, fa, hg, hv⟩ := hT
  have hK := hv.2.1
  have hh8 := hv.2.2.1.2.1
  have htz := hv.2.2.2.2.2.2.1
  have hwi := hK.2.2.2.2.2.2.2.2.1
  have hb13 := hv.2.2.2.2.2.2.2.2.2.2.2.2.1
  have hb14 := hv.2.2.2.2.2.2.2.2.2.2.2.2.2
  refine lv_aload_n hx hb dL_law_892 rfl (lv_at hl 2 rfl) ?_
  refine lv_aload_n hx hb dL_law_893 rfl (lv_at hl 1 rfl) ?_
  refine lv_iload hx hb dL_law_894 (lv_at hl 0 rfl) ?_
  refine z_iconst hx hb dL_law_896 ?_
  refine z_iadd hx hb dL_law_897 ?_
  refine z_sld (k := i + 1) hC hS.1 hX hbl hbA hL2 (by omega) dL_law_898 ?_
  refine lv_aload_n hx hb dL_law_899 rfl (lv_at hl 1 rfl) ?_
  refine lv_iload hx hb dL_law_900 (lv_at hl 0 rfl) ?_
  refine z_iconst hx hb dL_law_902 ?_
  refine z_iadd hx hb dL_law_903 ?_
  refine z_sld (k := i + 2) hC hS.1 hX hbl hbA hL2 (by omega) dL_law_904 ?_
  refine lv_aload_n hx hb dL_law_905 rfl (lv_at hl 1 rfl) ?_
  refine lv_iload hx hb dL_law_906 (lv_at hl 0 rfl) ?_
  refine z_iconst hx hb dL_law_908 ?_
  refine z_iadd hx hb dL_law_909 ?_
  refine z_sld (k := i + 3) hC hS.1 hX hbl hbA hL2 (by omega) dL_law_910 ?_
  refine lv_aload_n hx hb dL_law_911 rfl (lv_at hl 4 rfl) ?_
  refine z_fcall hC (z_frW (rest := []) (As := [.ref ob, .int (iI (sx xs (i + 1))), .int (iI (sx xs (i + 2))), .int (iI (sx xs (i + 3))), .ref ou]) (n := 5) (hh := [((0 : Nat), (19 : Nat), (22 : Nat), (26 : Nat)), ((0 : Nat), (19 : Nat), (26 : Nat), (32 : Nat))]) hC hNc hS.w (wr_canDivide l D cs (zfA (zun Fg (z1 ou (zLa cs f))) H) Fg ob ou (sx xs (i + 1)) (sx xs (i + 2)) (sx xs (i + 3)) f hg.1 hS.2.2.2.2.2.1 (fun A1 => met_X12_canDivide l D cs A1 Fg ob g sa so er fa c0 (sx xs (i + 1)) (sx xs (i + 2)) (sx xs (i + 3)) hlt hg.1 hg.st (sx_R xs (i + 1)) (sx_R xs (i + 2)) (sx_R xs (i + 3))) (fun E F1 q => q.2.elim (fun y => Or.inl y.2) (fun y => Or.inr y.2)) (fun r F1 q => by rw [← q.2.2]; exact sWord_01)) (zgsW qm_L_207 qt_L_canDivide qn_L qc_L_canDivide) he_L_canDivide rfl hl rfl (Nat.le_of_ble_eq_true rfl) ⟨by omega, by omega⟩ ⟨by omega, by omega⟩ dL_law_912) hS.w (fun vv F1 H1 locs1 hp hZ1 hfr => ?_)
  obtain ⟨k, rfl, hwp⟩ := hp
  obtain ⟨Fg1, f1, rfl, ho1, hW⟩ := w_finP (S1 := (sWord c0 (sx xs (i + 1)) (sx xs (i + 2)) (sCan (sx xs (i + 3)))).1) (S2 := (sWord c0 (sx xs (i + 1)) (sx xs (i + 2)) (sCan (sx xs (i + 3)))).2) (Kn := (fun F1 => gOb cs F1 ob g sa so hL tx inp out c0 sv hs er fa)) (Kx := (fun F1 => gOb cs F1 ob g sa so hL tx inp out c0 sv hs er fa)) hwp (fun r F1 q => ⟨by rw [← q.1]; exact hg, q.2.1, q.2.2⟩) (fun E F1 q => by
    rcases q.2 with y | y
    · exact ⟨by rw [← q.1]; exact hg, 0, by decide, by rw [y.2]; rfl, by rw [y.1]; rfl⟩
    · exact ⟨by rw [← q.1]; exact hg, 1, by decide, by rw [y.2]; rfl, by rw [y.1]; rfl⟩) (nd_names (by decide))
  clear hwp
  have hS1 := hS.aL hZ1 ho1 hfr
  clear hfr hZ1
  refine lv_istore (lv' := [(6, .int (iI k)), (5, .int (iI i)), (0, .ref b), (1, .ref ob), (2, .ref m0), (3, .ref ou), (4, .ref od)]) hx hb dL_law_915 hl (by decide) rfl (fun ls hl => ?_)
  refine lv_aload_n hx hb dL_law_917 rfl (lv_at hl 4 rfl) ?_
  refine lv_aload_n hx hb dL_law_918 rfl (lv_at hl 2 rfl) ?_
  refine lv_iload hx hb dL_law_919 (lv_at hl 1 rfl) ?_
  refine z_iconst hx hb dL_law_921 ?_
  refine z_iadd hx hb dL_law_922 ?_
  refine z_sld (k := i + 1) hC hS1.1 hX hbl hbA hL2 (by omega) dL_law_923 ?_
  refine lv_aload_n hx hb dL_law_924 rfl (lv_at hl 2 rfl) ?_
  refine lv_iload hx hb dL_law_925 (lv_at hl 1 rfl) ?_
  refine z_iconst hx hb dL_law_927 ?_
  refine z_iadd hx hb dL_law_928 ?_
  refine z_sld (k := i + 2) hC hS1.1 hX hbl hbA hL2 (by omega) dL_law_929 ?_
  refine lv_aload_n hx hb dL_law_930 rfl (lv_at hl 2 rfl) ?_
  refine lv_iload hx hb dL_law_931 (lv_at hl 1 rfl) ?_
  refine z_iconst hx hb dL_law_933 ?_
  refine z_iadd hx hb dL_law_934 ?_
  refine z_sld (k := i + 3) hC hS1.1 hX hbl hbA hL2 (by omega) dL_law_935 ?_
  refine z_fcall hC (z_frV (rest := []) (As := [.int (iI (sx xs (i + 1))), .int (iI (sx xs (i + 2))), .int (iI (sx xs (i + 3)))]) (n := 3) (ci := 16) hC hS1.2.1 (met_X13_canDivide l D cs (zfA (mW cs m0 ad v gm) H1) m0 ad v gm (sx xs (i + 1)) (sx xs (i + 2)) (sx xs (i + 3)) N c0 hD hok hv.1 hK (sx_R xs (i + 1)) (sx_R xs (i + 2)) (sx_R xs (i + 3))) gv_L_210 hd_X13_canDivide rfl mW_o rfl hl rfl (Nat.le_of_ble_eq_true rfl) ⟨by omega, by omega⟩ ⟨by omega, by omega⟩ dL_law_936) hS1.2.1 (fun vv F2 H2 locs2 hp hZ1 hfr => ?_)
  obtain ⟨r, rfl, v2, g2, rfl, hok2, hm⟩ := hp
  have hS2 := hS1.aM hZ1 hfr
  clear hfr hZ1
  obtain ⟨hVs, hV6, hVr⟩ := hv.mA hm
  refine lv_istore (lv' := [(7, .int (iI r)), (6, .int (iI k)), (5, .int (iI i)), (0, .ref b), (1, .ref ob), (2, .ref m0), (3, .ref ou), (4, .ref od)]) hx hb dL_law_939 hl (by decide) rfl (fun ls hl => ?_)
  refine lv_aload_n hx hb dL_law_941 rfl (lv_at hl 5 rfl) ?_
  refine z_fcall hC (z_frV (rest := []) (As := []) (n := 0) (ci := 16) hC hS2.2.1 (met_X13_thrown l D cs (zfA (mW cs m0 ad v2 g2) H2) m0 ad v2 g2 hD hok2) gv_L_167 hd_X13_thrown rfl mW_o rfl hl rfl (Nat.le_of_ble_eq_true rfl) ⟨by omega, by omega⟩ ⟨by omega, by omega⟩ dL_law_942) hS2.2.1 (fun vv F3 H3 locs3 hp hZ1 hfr => ?_)
  obtain ⟨r3, rfl, v3, g3, rfl, hokL, rfl, rfl, rfl⟩ := hp
  have hS3 := hS2.aM hZ1 hfr
  clear hfr hZ1
  have hk6 : v2 6 = k := hV6.trans hW.1.symm
  have hkr := hW.2.1
  refine lv_iload hx hb dL_law_945 (lv_at hl 1 rfl) ?_
  refine z_icmp_eq (tgt := 952) hx hb dL_law_947 (by decide) (by omega) (by omega) (fun c9 => ?_) (fun c9 => absurd hk6 c9)
  refine lv_iload hx hb dL_law_952 (lv_at hl 1 rfl) ?_
  refine z_if_ne (tgt := 976) hx hb dL_law_954 (by decide) (by omega) (fun c8 => ?_) (fun c8 => ?_)
  · skip
    refine lv_goto (tgt := 2898) hx hb dL_law_976 (by decide) ?_
    refine W.widen (k := cells + 110) (n := slots + 1650) (by omega) (by omega) ?_
    exact kk _ _ _ _ _ _ _ _ hS3 ⟨g, sa, so, hL, tx, inp, out, c0, sv, hs, er, fa, (hW.2.2.2 c8), hVs⟩ hokL (lv_sub hl [2, 3, 4, 5, 6, 7] rfl)
  · skip
    have hk0 : k = 0 := by omega
    refine lv_aload_n hx hb dL_law_957 rfl (lv_at hl 6 rfl) ?_
    refine z_iconst hx hb dL_law_958 ?_
    refine z_lald hC hS3.2.2.1 z1_s dL_law_959 ?_
    refine lv_iload hx hb dL_law_960 (lv_at hl 0 rfl) ?_
    have hrv : r = (sWord c0 (sx xs (i + 1)) (sx xs (i + 2)) (sCan (sx xs (i + 3)))).2 := hVr (hW.1.symm.trans hk0)
    have hfv : f1 0 = (iI (sWord c0 (sx xs (i + 1)) (sx xs (i + 2)) (sCan (sx xs (i + 3)))).2).toInt64 := (hW.2.2.1 hk0).2
    have h01 : (sWord c0 (sx xs (i + 1)) (sx xs (i + 2)) (sCan (sx xs (i + 3)))).2 = 0 ∨ (sWord c0 (sx xs (i + 1)) (sx xs (i + 2)) (sCan (sx xs (i + 3)))).2 = 1 := sWord_01
    rw [← hrv] at hfv h01
    have hrr : -2147483648 ≤ r ∧ r ≤ 2147483647 := by omega
    refine z_if_eq (tgt := 969) hx hb dL_law_962 (by decide) hrr (fun c7 => ?_) (fun c7 => ?_)
    · skip
      refine lv_lconst hx hb dL_law_969 rfl ?_
      refine z_lcmp0 hC (hfv.trans (by rw [show r = 0 by omega]; rfl)) dL_law_970 ?_
      refine z_if_eq (tgt := 976) hx hb dL_law_971 (by decide) (by decide) (fun c7 => ?_) (fun c7 => absurd rfl c7)
      refine lv_goto (tgt := 2898) hx hb dL_law_976 (by decide) ?_
      refine W.widen (k := cells + 110) (n := slots + 1650) (by omega) (by omega) ?_
      exact kk _ _ _ _ _ _ _ _ hS3 ⟨g, sa, so, hL, tx, inp, out, c0, sv, hs, er, fa, (hW.2.2.1 (by omega)).1, hVs⟩ hokL (lv_sub hl [2, 3, 4, 5, 6, 7] rfl)
    · skip
      refine lv_lconst hx hb dL_law_965 rfl ?_
      refine lv_goto (tgt := 970) hx hb dL_law_966 (by decide) ?_
      refine z_lcmp0 hC (hfv.trans (by rw [show r = 1 by omega]; rfl)) dL_law_970 ?_
      refine z_if_eq (tgt := 976) hx hb dL_law_971 (by decide) (by decide) (fun c7 => ?_) (fun c7 => absurd rfl c7)
      refine lv_goto (tgt := 2898) hx hb dL_law_976 (by decide) ?_
      refine W.widen (k := cells + 110) (n := slots + 1650) (by omega) (by omega) ?_
      exact kk _ _ _ _ _ _ _ _ hS3 ⟨g, sa, so, hL, tx, inp, out, c0, sv, hs, er, fa, (hW.2.2.1 (by omega)).1, hVs⟩ hokL (lv_sub hl [2, 3, 4, 5, 6, 7] rfl)

set_option maxHeartbeats 4000000 in
set_option maxRecDepth 100000 in
theorem lc_lateCorrections (hB : lCx l R D cs A p s m args c b L m0 xs ad) (hi : 0 ≤ i ∧ i + 4 ≤ L) (hN : N ≤ 600) (hS : zLS D cs A s H locs m0 ou od ad Fg v gm f fd) (hT : zT2 cs N Fg ob v gm) (hok : mOK v gm) (hl : lv_has ls 9 [(5, .int (iI i)), (0, .ref b), (1, .ref ob), (2, .ref m0), (3, .ref ou), (4, .ref od)]) (hc : cells + 110 ≤ R.cells) (hsl : slots + 1650 ≤ R.slots)
  (kk : ∀ (H1 : Heap) (locs1 : List Loc) (Fg1 : zF) (v1 : Nat → Int) (g1 : Nat → Int → Int) (f1 : Nat → Int64) (fd1 : Nat → UInt64) (ls1 : Array Slot), zLS D cs A s H1 locs1 m0 ou od ad Fg1 v1 g1 f1 fd1 → zT2 cs (N + 1) Fg1 ob v1 g1 → mOK v1 g1 → lv_has ls1 9 [(5, .int (iI i)), (0, .ref b), (1, .ref ob), (2, .ref m0), (3, .ref ou), (4, .ref od)] → W p l e R s m args below meth c H1 locs1 (cells + 110) (slots + 1650) Q (F0 m 2898 ls1 [])) : W p l e R s m args below meth c H locs cells slots Q (F0 m 979 ls []) := by
  obtain ⟨hC, hlt, hNc, hX, hbl, hbA, hL2, hD, hR1, hR2⟩ := hB
  have hx := hC.x
  have hb := hC.b
  obtain ⟨g, sa, so, hL, tx, inp, out, c0, sv, hs, er, fa, hg, hv⟩ := hT
  have hK := hv.2.1
  have hh8 := hv.2.2.1.2.1
  have htz := hv.2.2.2.2.2.2.1
  have hwi := hK.2.2.2.2.2.2.2.2.1
  have hb13 := hv.2.2.2.2.2.2.2.2.2.2.2.2.1
  have hb14 := hv.2.2.2.2.2.2.2.2.2.2.2.2.2
  refine lv_aload_n hx hb dL_law_979 rfl (lv_at hl 2 rfl) ?_
  refine z_fcall hC (z_frV (rest := []) (As := []) (n := 0) (ci := 15) hC hS.1 (met_X12_lateCorrections l D cs (zfA Fg H) Fg ob g sa so er fa c0 hg.1 hg.st) gv_L_211 hd_X12_lateCorrections rfl hg.1 rfl hl rfl (Nat.le_of_ble_eq_true rfl) ⟨by omega, by omega⟩ ⟨by omega, by omega⟩ dL_law_980) hS.1 (fun vv Fg1 H1 locs1 hp hZ1 hfr => ?_)
  obtain ⟨r1, rfl, hq⟩ := hp
  have hS1 := hS.aG hZ1 hfr
  refine lv_aload_n hx hb dL_law_983 rfl (lv_at hl 3 rfl) ?_
  refine z_fcall hC (z_frV (rest := [.int (iI r1)]) (As := []) (n := 0) (ci := 16) hC hS1.2.1 (met_X13_lateCorrections l D cs (zfA (mW cs m0 ad v gm) H1) m0 ad v gm hD hok) gv_L_214 hd_X13_lateCorrections rfl mW_o rfl hl rfl (Nat.le_of_ble_eq_true rfl) ⟨by omega, by omega⟩ ⟨by omega, by omega⟩ dL_law_984) hS1.2.1 (fun vv F2 H2 locs2 hp hZ1 hfr => ?_)
  obtain ⟨r, rfl, v2, g2, rfl, hokL, hm⟩ := hp
  have hS2 := hS1.aM hZ1 hfr
  obtain ⟨rfl, e1⟩ := hq
  obtain ⟨m1, m2, e2⟩ := hm
  have hgq := hg
  have hzq := hv.up m1 m2
  have e3 := hv.1.2.2.2.2.2.2.1
  have hrr : r1 = r := by omega
  have hrn : InR r := by have := hK.2.2.2.2.2.2.2.2.2.2.2.2; unfold InR; omega
  refine z_icmp_eq (tgt := 2898) hx hb dL_law_987 (by decide) (by rw [hrr]; exact hrn) hrn (fun c9 => ?_) (fun c9 => absurd hrr c9)
  refine W.widen (k := cells + 110) (n := slots + 1650) (by omega) (by omega) ?_
  exact kk _ _ _ _ _ _ _ _ hS2 ⟨g, sa, so, hL, tx, inp, out, c0, sv, hs, er, fa, hgq, hzq⟩ hokL (lv_sub hl [0, 1, 2, 3, 4, 5] rfl)

set_option maxHeartbeats 4000000 in
set_option maxRecDepth 100000 in
theorem lc_setWidth (hB : lCx l R D cs A p s m args c b L m0 xs ad) (hi : 0 ≤ i ∧ i + 4 ≤ L) (hN : N ≤ 600) (hS : zLS D cs A s H locs m0 ou od ad Fg v gm f fd) (hT : zT2 cs N Fg ob v gm) (hok : mOK v gm) (hl : lv_has ls 9 [(5, .int (iI i)), (0, .ref b), (1, .ref ob), (2, .ref m0), (3, .ref ou), (4, .ref od)]) (hc : cells + 110 ≤ R.cells) (hsl : slots + 1650 ≤ R.slots)
  (kk : ∀ (H1 : Heap) (locs1 : List Loc) (Fg1 : zF) (v1 : Nat → Int) (g1 : Nat → Int → Int) (f1 : Nat → Int64) (fd1 : Nat → UInt64) (ls1 : Array Slot), zLS D cs A s H1 locs1 m0 ou od ad Fg1 v1 g1 f1 fd1 → zT2 cs (N + 1) Fg1 ob v1 g1 → mOK v1 g1 → lv_has ls1 9 [(5, .int (iI i)), (0, .ref b), (1, .ref ob), (2, .ref m0), (3, .ref ou), (4, .ref od)] → W p l e R s m args below meth c H1 locs1 (cells + 110) (slots + 1650) Q (F0 m 2898 ls1 [])) : W p l e R s m args below meth c H locs cells slots Q (F0 m 992 ls []) := by
  obtain ⟨hC, hlt, hNc, hX, hbl, hbA, hL2, hD, hR1, hR2⟩ := hB
  have hx := hC.x
  have hb := hC.b
  obtain ⟨g, sa, so, hL, tx, inp, out, c0, sv, hs, er, fa, hg, hv⟩ := hT
  have hK := hv.2.1
  have hh8 := hv.2.2.1.2.1
  have htz := hv.2.2.2.2.2.2.1
  have hwi := hK.2.2.2.2.2.2.2.2.1
  have hb13 := hv.2.2.2.2.2.2.2.2.2.2.2.2.1
  have hb14 := hv.2.2.2.2.2.2.2.2.2.2.2.2.2
  refine lv_aload_n hx hb dL_law_992 rfl (lv_at hl 2 rfl) ?_
  refine lv_aload_n hx hb dL_law_993 rfl (lv_at hl 1 rfl) ?_
  refine lv_iload hx hb dL_law_994 (lv_at hl 0 rfl) ?_
  refine z_iconst hx hb dL_law_996 ?_
  refine z_iadd hx hb dL_law_997 ?_
  refine z_sld (k := i + 1) hC hS.1 hX hbl hbA hL2 (by omega) dL_law_998 ?_
  refine lv_aload_n hx hb dL_law_999 rfl (lv_at hl 4 rfl) ?_
  refine z_fcall hC (z_frW (rest := []) (As := [.ref ob, .int (iI (sx xs (i + 1))), .ref ou]) (n := 3) (hh := [((0 : Nat), (9 : Nat), (12 : Nat), (13 : Nat))]) hC hNc hS.w (wr_setWidth l D cs (zfA (zun Fg (z1 ou (zLa cs f))) H) Fg ob ou (sx xs (i + 1)) f hg.1 hS.2.2.2.2.2.1 (fun A1 => met_X12_setWidth l D cs A1 Fg ob g sa so hL tx inp out c0 sv hs er fa (sx xs (i + 1)) N hlt hg (sx_R xs (i + 1)) hK (by omega) hh8) (fun E F1 q => q.2.2) ) (zgsW qm_L_215 qt_L_setWidth qn_L qc_L_setWidth) he_L_setWidth rfl hl rfl (Nat.le_of_ble_eq_true rfl) ⟨by omega, by omega⟩ ⟨by omega, by omega⟩ dL_law_1000) hS.w (fun vv F1 H1 locs1 hp hZ1 hfr => ?_)
  obtain ⟨k, rfl, hwp⟩ := hp
  obtain ⟨Fg1, f1, rfl, ho1, hW⟩ := w_finP (S1 := (sWid c0 (sx xs (i + 1))).1) (S2 := (sWid c0 (sx xs (i + 1))).2.2) (Kn := (fun F1 => ∃ (g1 : Nat → Nat) (sa1 : Nat) (hL1 : List Nat), gOb cs F1 ob g1 sa1 so hL1 tx inp out (sWid c0 (sx xs (i + 1))).2.1 sv (pushH hs c0) er fa)) (Kx := (fun F1 => gOb cs F1 ob g sa so hL tx inp out c0 sv hs er fa)) hwp (fun r F1 q => ⟨q.2.2, q.1, q.2.1⟩) (fun E F1 q => ⟨q.1, 0, by decide, by rw [q.2.2]; rfl, q.2.1.trans rfl⟩) (nd_names (by decide))
  clear hwp
  have hS1 := hS.aL hZ1 ho1 hfr
  clear hfr hZ1
  refine lv_istore (lv' := [(6, .int (iI k)), (5, .int (iI i)), (0, .ref b), (1, .ref ob), (2, .ref m0), (3, .ref ou), (4, .ref od)]) hx hb dL_law_1003 hl (by decide) rfl (fun ls hl => ?_)
  refine lv_aload_n hx hb dL_law_1005 rfl (lv_at hl 4 rfl) ?_
  refine lv_aload_n hx hb dL_law_1006 rfl (lv_at hl 2 rfl) ?_
  refine lv_iload hx hb dL_law_1007 (lv_at hl 1 rfl) ?_
  refine z_iconst hx hb dL_law_1009 ?_
  refine z_iadd hx hb dL_law_1010 ?_
  refine z_sld (k := i + 1) hC hS1.1 hX hbl hbA hL2 (by omega) dL_law_1011 ?_
  refine z_fcall hC (z_frV (rest := []) (As := [.int (iI (sx xs (i + 1)))]) (n := 1) (ci := 16) hC hS1.2.1 (met_X13_setWidth l D cs (zfA (mW cs m0 ad v gm) H1) m0 ad v gm (sx xs (i + 1)) hs N c0 hD hok hv.1 hK (sx_R xs (i + 1)) hv.2.2.1 hv.2.2.2.1 (sWid_R hK)) gv_L_217 hd_X13_setWidth rfl mW_o rfl hl rfl (Nat.le_of_ble_eq_true rfl) ⟨by omega, by omega⟩ ⟨by omega, by omega⟩ dL_law_1012) hS1.2.1 (fun vv F2 H2 locs2 hp hZ1 hfr => ?_)
  obtain ⟨r, rfl, v2, g2, rfl, hok2, hm⟩ := hp
  have hS2 := hS1.aM hZ1 hfr
  clear hfr hZ1
  obtain ⟨hV6, hVr, hVx, hVn⟩ := hv.mC (tx1 := tx) hm (fun k9 hk9 h89 => by exact upN_n (by unfold vK at hk9; omega)) (Or.inl ⟨rfl, upN_n (by decide)⟩) (sWid_K hK)
  refine lv_istore (lv' := [(7, .int (iI r)), (6, .int (iI k)), (5, .int (iI i)), (0, .ref b), (1, .ref ob), (2, .ref m0), (3, .ref ou), (4, .ref od)]) hx hb dL_law_1015 hl (by decide) rfl (fun ls hl => ?_)
  refine lv_aload_n hx hb dL_law_1017 rfl (lv_at hl 5 rfl) ?_
  refine z_fcall hC (z_frV (rest := []) (As := []) (n := 0) (ci := 16) hC hS2.2.1 (met_X13_thrown l D cs (zfA (mW cs m0 ad v2 g2) H2) m0 ad v2 g2 hD hok2) gv_L_167 hd_X13_thrown rfl mW_o rfl hl rfl (Nat.le_of_ble_eq_true rfl) ⟨by omega, by omega⟩ ⟨by omega, by omega⟩ dL_law_1018) hS2.2.1 (fun vv F3 H3 locs3 hp hZ1 hfr => ?_)
  obtain ⟨r3, rfl, v3, g3, rfl, hokL, rfl, rfl, rfl⟩ := hp
  have hS3 := hS2.aM hZ1 hfr
  clear hfr hZ1
  have hk6 : v2 6 = k := hV6.trans hW.1.symm
  have hkr := hW.2.1
  refine lv_iload hx hb dL_law_1021 (lv_at hl 1 rfl) ?_
  refine z_icmp_eq (tgt := 1028) hx hb dL_law_1023 (by decide) (by omega) (by omega) (fun c9 => ?_) (fun c9 => absurd hk6 c9)
  refine lv_iload hx hb dL_law_1028 (lv_at hl 1 rfl) ?_
  refine z_if_ne (tgt := 1045) hx hb dL_law_1030 (by decide) (by omega) (fun c8 => ?_) (fun c8 => ?_)
  · skip
    refine lv_goto (tgt := 2898) hx hb dL_law_1045 (by decide) ?_
    refine W.widen (k := cells + 110) (n := slots + 1650) (by omega) (by omega) ?_
    exact kk _ _ _ _ _ _ _ _ hS3 ⟨g, sa, so, hL, tx, inp, out, c0, sv, hs, er, fa, (hW.2.2.2 c8), (hVx (fun z => c8 (hW.1.trans z)))⟩ hokL (lv_sub hl [2, 3, 4, 5, 6, 7] rfl)
  · skip
    have hk0 : k = 0 := by omega
    refine lv_aload_n hx hb dL_law_1033 rfl (lv_at hl 6 rfl) ?_
    refine z_iconst hx hb dL_law_1034 ?_
    refine z_lald hC hS3.2.2.1 z1_s dL_law_1035 ?_
    refine lv_iload hx hb dL_law_1036 (lv_at hl 0 rfl) ?_
    refine lv_i2l hx hb dL_law_1038 rfl ?_
    refine z_lcmp0 hC ((hW.2.2.1 hk0).2.trans (by rw [hVr (hW.1.symm.trans hk0)])) dL_law_1039 ?_
    refine z_if_eq (tgt := 1045) hx hb dL_law_1040 (by decide) (by decide) (fun c7 => ?_) (fun c7 => absurd rfl c7)
    refine lv_goto (tgt := 2898) hx hb dL_law_1045 (by decide) ?_
    refine W.widen (k := cells + 110) (n := slots + 1650) (by omega) (by omega) ?_
    exact kk _ _ _ _ _ _ _ _ hS3 (let ⟨g9, sa9, hL9, h9⟩ := (hW.2.2.1 (by omega)).1; ⟨g9, sa9, so, hL9, _, inp, out, _, sv, _, er, fa, h9, (hVn (hW.1.symm.trans (show k = 0 by omega)))⟩) hokL (lv_sub hl [2, 3, 4, 5, 6, 7] rfl)

set_option maxHeartbeats 4000000 in
set_option maxRecDepth 100000 in
theorem lc_width (hB : lCx l R D cs A p s m args c b L m0 xs ad) (hi : 0 ≤ i ∧ i + 4 ≤ L) (hN : N ≤ 600) (hS : zLS D cs A s H locs m0 ou od ad Fg v gm f fd) (hT : zT2 cs N Fg ob v gm) (hok : mOK v gm) (hl : lv_has ls 9 [(5, .int (iI i)), (0, .ref b), (1, .ref ob), (2, .ref m0), (3, .ref ou), (4, .ref od)]) (hc : cells + 110 ≤ R.cells) (hsl : slots + 1650 ≤ R.slots)
  (kk : ∀ (H1 : Heap) (locs1 : List Loc) (Fg1 : zF) (v1 : Nat → Int) (g1 : Nat → Int → Int) (f1 : Nat → Int64) (fd1 : Nat → UInt64) (ls1 : Array Slot), zLS D cs A s H1 locs1 m0 ou od ad Fg1 v1 g1 f1 fd1 → zT2 cs (N + 1) Fg1 ob v1 g1 → mOK v1 g1 → lv_has ls1 9 [(5, .int (iI i)), (0, .ref b), (1, .ref ob), (2, .ref m0), (3, .ref ou), (4, .ref od)] → W p l e R s m args below meth c H1 locs1 (cells + 110) (slots + 1650) Q (F0 m 2898 ls1 [])) : W p l e R s m args below meth c H locs cells slots Q (F0 m 1048 ls []) := by
  obtain ⟨hC, hlt, hNc, hX, hbl, hbA, hL2, hD, hR1, hR2⟩ := hB
  have hx := hC.x
  have hb := hC.b
  obtain ⟨g, sa, so, hL, tx, inp, out, c0, sv, hs, er, fa, hg, hv⟩ := hT
  have hK := hv.2.1
  have hh8 := hv.2.2.1.2.1
  have htz := hv.2.2.2.2.2.2.1
  have hwi := hK.2.2.2.2.2.2.2.2.1
  have hb13 := hv.2.2.2.2.2.2.2.2.2.2.2.2.1
  have hb14 := hv.2.2.2.2.2.2.2.2.2.2.2.2.2
  refine lv_aload_n hx hb dL_law_1048 rfl (lv_at hl 2 rfl) ?_
  refine z_fcall hC (z_frV (rest := []) (As := []) (n := 0) (ci := 15) hC hS.1 (met_X12_width l D cs (zfA Fg H) Fg ob g sa so er fa c0 hg.1 hg.st) gv_L_218 hd_X12_width rfl hg.1 rfl hl rfl (Nat.le_of_ble_eq_true rfl) ⟨by omega, by omega⟩ ⟨by omega, by omega⟩ dL_law_1049) hS.1 (fun vv Fg1 H1 locs1 hp hZ1 hfr => ?_)
  obtain ⟨r1, rfl, hq⟩ := hp
  have hS1 := hS.aG hZ1 hfr
  refine lv_aload_n hx hb dL_law_1052 rfl (lv_at hl 3 rfl) ?_
  refine z_fcall hC (z_frV (rest := [.int (iI r1)]) (As := []) (n := 0) (ci := 16) hC hS1.2.1 (met_X13_width l D cs (zfA (mW cs m0 ad v gm) H1) m0 ad v gm hD hok) gv_L_221 hd_X13_width rfl mW_o rfl hl rfl (Nat.le_of_ble_eq_true rfl) ⟨by omega, by omega⟩ ⟨by omega, by omega⟩ dL_law_1053) hS1.2.1 (fun vv F2 H2 locs2 hp hZ1 hfr => ?_)
  obtain ⟨r, rfl, v2, g2, rfl, hokL, hm⟩ := hp
  have hS2 := hS1.aM hZ1 hfr
  obtain ⟨rfl, e1⟩ := hq
  obtain ⟨m1, m2, e2⟩ := hm
  have hgq := hg
  have hzq := hv.up m1 m2
  have e3 := hv.1.2.2.1
  have hrr : r1 = r := by omega
  have hrn : InR r := by unfold InR; omega
  refine z_icmp_eq (tgt := 2898) hx hb dL_law_1056 (by decide) (by rw [hrr]; exact hrn) hrn (fun c9 => ?_) (fun c9 => absurd hrr c9)
  refine W.widen (k := cells + 110) (n := slots + 1650) (by omega) (by omega) ?_
  exact kk _ _ _ _ _ _ _ _ hS2 ⟨g, sa, so, hL, tx, inp, out, c0, sv, hs, er, fa, hgq, hzq⟩ hokL (lv_sub hl [0, 1, 2, 3, 4, 5] rfl)

set_option maxHeartbeats 4000000 in
set_option maxRecDepth 100000 in
theorem lc_canBeSet (hB : lCx l R D cs A p s m args c b L m0 xs ad) (hi : 0 ≤ i ∧ i + 4 ≤ L) (hN : N ≤ 600) (hS : zLS D cs A s H locs m0 ou od ad Fg v gm f fd) (hT : zT2 cs N Fg ob v gm) (hok : mOK v gm) (hl : lv_has ls 9 [(5, .int (iI i)), (0, .ref b), (1, .ref ob), (2, .ref m0), (3, .ref ou), (4, .ref od)]) (hc : cells + 110 ≤ R.cells) (hsl : slots + 1650 ≤ R.slots)
  (kk : ∀ (H1 : Heap) (locs1 : List Loc) (Fg1 : zF) (v1 : Nat → Int) (g1 : Nat → Int → Int) (f1 : Nat → Int64) (fd1 : Nat → UInt64) (ls1 : Array Slot), zLS D cs A s H1 locs1 m0 ou od ad Fg1 v1 g1 f1 fd1 → zT2 cs (N + 1) Fg1 ob v1 g1 → mOK v1 g1 → lv_has ls1 9 [(5, .int (iI i)), (0, .ref b), (1, .ref ob), (2, .ref m0), (3, .ref ou), (4, .ref od)] → W p l e R s m args below meth c H1 locs1 (cells + 110) (slots + 1650) Q (F0 m 2898 ls1 [])) : W p l e R s m args below meth c H locs cells slots Q (F0 m 1061 ls []) := by
  obtain ⟨hC, hlt, hNc, hX, hbl, hbA, hL2, hD, hR1, hR2⟩ := hB
  have hx := hC.x
  have hb := hC.b
  obtain ⟨g, sa, so, hL, tx, inp, out, c0, sv, hs, er, fa, hg, hv⟩ := hT
  have hK := hv.2.1
  have hh8 := hv.2.2.1.2.1
  have htz := hv.2.2.2.2.2.2.1
  have hwi := hK.2.2.2.2.2.2.2.2.1
  have hb13 := hv.2.2.2.2.2.2.2.2.2.2.2.2.1
  have hb14 := hv.2.2.2.2.2.2.2.2.2.2.2.2.2
  refine lv_aload_n hx hb dL_law_1061 rfl (lv_at hl 2 rfl) ?_
  refine lv_aload_n hx hb dL_law_1062 rfl (lv_at hl 1 rfl) ?_
  refine lv_iload hx hb dL_law_1063 (lv_at hl 0 rfl) ?_
  refine z_iconst hx hb dL_law_1065 ?_
  refine z_iadd hx hb dL_law_1066 ?_
  refine z_sld (k := i + 1) hC hS.1 hX hbl hbA hL2 (by omega) dL_law_1067 ?_
  refine lv_aload_n hx hb dL_law_1068 rfl (lv_at hl 4 rfl) ?_
  refine z_fcall hC (z_frW (rest := []) (As := [.ref ob, .int (iI (sx xs (i + 1))), .ref ou]) (n := 3) (hh := [((0 : Nat), (16 : Nat), (19 : Nat), (26 : Nat))]) hC hNc hS.w (wr_canBeSet l D cs (zfA (zun Fg (z1 ou (zLa cs f))) H) Fg ob ou (sx xs (i + 1)) f hg.1 hS.2.2.2.2.2.1 (fun A1 => met_X12_canBeSet l D cs A1 Fg ob g sa so hL tx inp out c0 sv hs er fa (sx xs (i + 1)) hlt hg (sx_R xs (i + 1)) hwi) (fun E F1 q => q.2.2) (fun r F1 q => by rw [← q.2.2]; exact sCbs_01)) (zgsW qm_L_222 qt_L_canBeSet qn_L qc_L_canBeSet) he_L_canBeSet rfl hl rfl (Nat.le_of_ble_eq_true rfl) ⟨by omega, by omega⟩ ⟨by omega, by omega⟩ dL_law_1069) hS.w (fun vv F1 H1 locs1 hp hZ1 hfr => ?_)
  obtain ⟨k, rfl, hwp⟩ := hp
  obtain ⟨Fg1, f1, rfl, ho1, hW⟩ := w_finP (S1 := (match zfa (cAr c0) (sx xs (i + 1)) with | none => ((1 : Int), (0 : Int)) | some a => (0, if (zlines (cWi c0) a.2.2).isSome then 1 else 0)).1) (S2 := (match zfa (cAr c0) (sx xs (i + 1)) with | none => ((1 : Int), (0 : Int)) | some a => (0, if (zlines (cWi c0) a.2.2).isSome then 1 else 0)).2) (Kn := (fun F1 => gOb cs F1 ob g sa so hL tx inp out c0 sv hs er fa)) (Kx := (fun F1 => gOb cs F1 ob g sa so hL tx inp out c0 sv hs er fa)) hwp (fun r F1 q => ⟨q.1, q.2.1, q.2.2⟩) (fun E F1 q => ⟨q.1, 0, by decide, by rw [q.2.2]; rfl, q.2.1.trans rfl⟩) (nd_names (by decide))
  clear hwp
  have hS1 := hS.aL hZ1 ho1 hfr
  clear hfr hZ1
  refine lv_istore (lv' := [(6, .int (iI k)), (5, .int (iI i)), (0, .ref b), (1, .ref ob), (2, .ref m0), (3, .ref ou), (4, .ref od)]) hx hb dL_law_1072 hl (by decide) rfl (fun ls hl => ?_)
  refine lv_aload_n hx hb dL_law_1074 rfl (lv_at hl 4 rfl) ?_
  refine lv_aload_n hx hb dL_law_1075 rfl (lv_at hl 2 rfl) ?_
  refine lv_iload hx hb dL_law_1076 (lv_at hl 1 rfl) ?_
  refine z_iconst hx hb dL_law_1078 ?_
  refine z_iadd hx hb dL_law_1079 ?_
  refine z_sld (k := i + 1) hC hS1.1 hX hbl hbA hL2 (by omega) dL_law_1080 ?_
  refine z_fcall hC (z_frV (rest := []) (As := [.int (iI (sx xs (i + 1)))]) (n := 1) (ci := 16) hC hS1.2.1 (met_X13_canBeSet l D cs (zfA (mW cs m0 ad v gm) H1) m0 ad v gm (sx xs (i + 1)) N c0 hD hok hv.1 hK (sx_R xs (i + 1))) gv_L_224 hd_X13_canBeSet rfl mW_o rfl hl rfl (Nat.le_of_ble_eq_true rfl) ⟨by omega, by omega⟩ ⟨by omega, by omega⟩ dL_law_1081) hS1.2.1 (fun vv F2 H2 locs2 hp hZ1 hfr => ?_)
  obtain ⟨r, rfl, v2, g2, rfl, hok2, hm⟩ := hp
  have hS2 := hS1.aM hZ1 hfr
  clear hfr hZ1
  obtain ⟨hVs, hV6, hVr⟩ := hv.mB hm
  refine lv_istore (lv' := [(7, .int (iI r)), (6, .int (iI k)), (5, .int (iI i)), (0, .ref b), (1, .ref ob), (2, .ref m0), (3, .ref ou), (4, .ref od)]) hx hb dL_law_1084 hl (by decide) rfl (fun ls hl => ?_)
  refine lv_aload_n hx hb dL_law_1086 rfl (lv_at hl 5 rfl) ?_
  refine z_fcall hC (z_frV (rest := []) (As := []) (n := 0) (ci := 16) hC hS2.2.1 (met_X13_thrown l D cs (zfA (mW cs m0 ad v2 g2) H2) m0 ad v2 g2 hD hok2) gv_L_167 hd_X13_thrown rfl mW_o rfl hl rfl (Nat.le_of_ble_eq_true rfl) ⟨by omega, by omega⟩ ⟨by omega, by omega⟩ dL_law_1087) hS2.2.1 (fun vv F3 H3 locs3 hp hZ1 hfr => ?_)
  obtain ⟨r3, rfl, v3, g3, rfl, hokL, rfl, rfl, rfl⟩ := hp
  have hS3 := hS2.aM hZ1 hfr
  clear hfr hZ1
  have hk6 : v2 6 = k := hV6.trans hW.1.symm
  have hkr := hW.2.1
  refine lv_iload hx hb dL_law_1090 (lv_at hl 1 rfl) ?_
  refine z_icmp_eq (tgt := 1097) hx hb dL_law_1092 (by decide) (by omega) (by omega) (fun c9 => ?_) (fun c9 => absurd hk6 c9)
  refine lv_iload hx hb dL_law_1097 (lv_at hl 1 rfl) ?_
  refine z_if_ne (tgt := 1121) hx hb dL_law_1099 (by decide) (by omega) (fun c8 => ?_) (fun c8 => ?_)
  · skip
    refine lv_goto (tgt := 2898) hx hb dL_law_1121 (by decide) ?_
    refine W.widen (k := cells + 110) (n := slots + 1650) (by omega) (by omega) ?_
    exact kk _ _ _ _ _ _ _ _ hS3 ⟨g, sa, so, hL, tx, inp, out, c0, sv, hs, er, fa, (hW.2.2.2 c8), hVs⟩ hokL (lv_sub hl [2, 3, 4, 5, 6, 7] rfl)
  · skip
    have hk0 : k = 0 := by omega
    refine lv_aload_n hx hb dL_law_1102 rfl (lv_at hl 6 rfl) ?_
    refine z_iconst hx hb dL_law_1103 ?_
    refine z_lald hC hS3.2.2.1 z1_s dL_law_1104 ?_
    refine lv_iload hx hb dL_law_1105 (lv_at hl 0 rfl) ?_
    have hrv : r = (match zfa (cAr c0) (sx xs (i + 1)) with | none => ((1 : Int), (0 : Int)) | some a => (0, if (zlines (cWi c0) a.2.2).isSome then 1 else 0)).2 := hVr (hW.1.symm.trans hk0)
    have hfv : f1 0 = (iI (match zfa (cAr c0) (sx xs (i + 1)) with | none => ((1 : Int), (0 : Int)) | some a => (0, if (zlines (cWi c0) a.2.2).isSome then 1 else 0)).2).toInt64 := (hW.2.2.1 hk0).2
    have h01 : (match zfa (cAr c0) (sx xs (i + 1)) with | none => ((1 : Int), (0 : Int)) | some a => (0, if (zlines (cWi c0) a.2.2).isSome then 1 else 0)).2 = 0 ∨ (match zfa (cAr c0) (sx xs (i + 1)) with | none => ((1 : Int), (0 : Int)) | some a => (0, if (zlines (cWi c0) a.2.2).isSome then 1 else 0)).2 = 1 := sCbs_01
    rw [← hrv] at hfv h01
    have hrr : -2147483648 ≤ r ∧ r ≤ 2147483647 := by omega
    refine z_if_eq (tgt := 1114) hx hb dL_law_1107 (by decide) hrr (fun c7 => ?_) (fun c7 => ?_)
    · skip
      refine lv_lconst hx hb dL_law_1114 rfl ?_
      refine z_lcmp0 hC (hfv.trans (by rw [show r = 0 by omega]; rfl)) dL_law_1115 ?_
      refine z_if_eq (tgt := 1121) hx hb dL_law_1116 (by decide) (by decide) (fun c7 => ?_) (fun c7 => absurd rfl c7)
      refine lv_goto (tgt := 2898) hx hb dL_law_1121 (by decide) ?_
      refine W.widen (k := cells + 110) (n := slots + 1650) (by omega) (by omega) ?_
      exact kk _ _ _ _ _ _ _ _ hS3 ⟨g, sa, so, hL, tx, inp, out, c0, sv, hs, er, fa, (hW.2.2.1 (by omega)).1, hVs⟩ hokL (lv_sub hl [2, 3, 4, 5, 6, 7] rfl)
    · skip
      refine lv_lconst hx hb dL_law_1110 rfl ?_
      refine lv_goto (tgt := 1115) hx hb dL_law_1111 (by decide) ?_
      refine z_lcmp0 hC (hfv.trans (by rw [show r = 1 by omega]; rfl)) dL_law_1115 ?_
      refine z_if_eq (tgt := 1121) hx hb dL_law_1116 (by decide) (by decide) (fun c7 => ?_) (fun c7 => absurd rfl c7)
      refine lv_goto (tgt := 2898) hx hb dL_law_1121 (by decide) ?_
      refine W.widen (k := cells + 110) (n := slots + 1650) (by omega) (by omega) ?_
      exact kk _ _ _ _ _ _ _ _ hS3 ⟨g, sa, so, hL, tx, inp, out, c0, sv, hs, er, fa, (hW.2.2.1 (by omega)).1, hVs⟩ hokL (lv_sub hl [2, 3, 4, 5, 6, 7] rfl)

set_option maxHeartbeats 4000000 in
set_option maxRecDepth 100000 in
theorem lc_lineCount (hB : lCx l R D cs A p s m args c b L m0 xs ad) (hi : 0 ≤ i ∧ i + 4 ≤ L) (hN : N ≤ 600) (hS : zLS D cs A s H locs m0 ou od ad Fg v gm f fd) (hT : zT2 cs N Fg ob v gm) (hok : mOK v gm) (hl : lv_has ls 9 [(5, .int (iI i)), (0, .ref b), (1, .ref ob), (2, .ref m0), (3, .ref ou), (4, .ref od)]) (hc : cells + 110 ≤ R.cells) (hsl : slots + 1650 ≤ R.slots)
  (kk : ∀ (H1 : Heap) (locs1 : List Loc) (Fg1 : zF) (v1 : Nat → Int) (g1 : Nat → Int → Int) (f1 : Nat → Int64) (fd1 : Nat → UInt64) (ls1 : Array Slot), zLS D cs A s H1 locs1 m0 ou od ad Fg1 v1 g1 f1 fd1 → zT2 cs (N + 1) Fg1 ob v1 g1 → mOK v1 g1 → lv_has ls1 9 [(5, .int (iI i)), (0, .ref b), (1, .ref ob), (2, .ref m0), (3, .ref ou), (4, .ref od)] → W p l e R s m args below meth c H1 locs1 (cells + 110) (slots + 1650) Q (F0 m 2898 ls1 [])) : W p l e R s m args below meth c H locs cells slots Q (F0 m 1124 ls []) := by
  obtain ⟨hC, hlt, hNc, hX, hbl, hbA, hL2, hD, hR1, hR2⟩ := hB
  have hx := hC.x
  have hb := hC.b
  obtain ⟨g, sa, so, hL, tx, inp, out, c0, sv, hs, er, fa, hg, hv⟩ := hT
  have hK := hv.2.1
  have hh8 := hv.2.2.1.2.1
  have htz := hv.2.2.2.2.2.2.1
  have hwi := hK.2.2.2.2.2.2.2.2.1
  have hb13 := hv.2.2.2.2.2.2.2.2.2.2.2.2.1
  have hb14 := hv.2.2.2.2.2.2.2.2.2.2.2.2.2
  refine lv_aload_n hx hb dL_law_1124 rfl (lv_at hl 2 rfl) ?_
  refine lv_aload_n hx hb dL_law_1125 rfl (lv_at hl 1 rfl) ?_
  refine lv_iload hx hb dL_law_1126 (lv_at hl 0 rfl) ?_
  refine z_iconst hx hb dL_law_1128 ?_
  refine z_iadd hx hb dL_law_1129 ?_
  refine z_sld (k := i + 1) hC hS.1 hX hbl hbA hL2 (by omega) dL_law_1130 ?_
  refine lv_aload_n hx hb dL_law_1131 rfl (lv_at hl 4 rfl) ?_
  refine z_fcall hC (z_frW (rest := []) (As := [.ref ob, .int (iI (sx xs (i + 1))), .ref ou]) (n := 3) (hh := [((0 : Nat), (9 : Nat), (12 : Nat), (26 : Nat)), ((0 : Nat), (9 : Nat), (15 : Nat), (21 : Nat))]) hC hNc hS.w (wr_lineCount l D cs (zfA (zun Fg (z1 ou (zLa cs f))) H) Fg ob ou (sx xs (i + 1)) f hg.1 hS.2.2.2.2.2.1 (fun A1 => met_X12_lineCount l D cs A1 Fg ob g sa so hL tx inp out c0 sv hs er fa (sx xs (i + 1)) hlt hg (sx_R xs (i + 1)) hwi) (fun E F1 q => q.2.elim (fun y => Or.inl y.2) (fun y => Or.inr y.2)) ) (zgsW qm_L_225 qt_L_lineCount qn_L qc_L_lineCount) he_L_lineCount rfl hl rfl (Nat.le_of_ble_eq_true rfl) ⟨by omega, by omega⟩ ⟨by omega, by omega⟩ dL_law_1132) hS.w (fun vv F1 H1 locs1 hp hZ1 hfr => ?_)
  obtain ⟨k, rfl, hwp⟩ := hp
  obtain ⟨Fg1, f1, rfl, ho1, hW⟩ := w_finP (S1 := (sLn c0 (sx xs (i + 1)) (fun ls => ls.length)).1) (S2 := (sLn c0 (sx xs (i + 1)) (fun ls => ls.length)).2) (Kn := (fun F1 => gOb cs F1 ob g sa so hL tx inp out c0 sv hs er fa)) (Kx := (fun F1 => gOb cs F1 ob g sa so hL tx inp out c0 sv hs er fa)) hwp (fun r F1 q => ⟨q.1, q.2.1, q.2.2⟩) (fun E F1 q => by
    rcases q.2 with y | y
    · exact ⟨q.1, 0, by decide, by rw [y.2]; rfl, by rw [y.1]; rfl⟩
    · exact ⟨q.1, 1, by decide, by rw [y.2]; rfl, by rw [y.1]; rfl⟩) (nd_names (by decide))
  clear hwp
  have hS1 := hS.aL hZ1 ho1 hfr
  clear hfr hZ1
  refine lv_istore (lv' := [(6, .int (iI k)), (5, .int (iI i)), (0, .ref b), (1, .ref ob), (2, .ref m0), (3, .ref ou), (4, .ref od)]) hx hb dL_law_1135 hl (by decide) rfl (fun ls hl => ?_)
  refine lv_aload_n hx hb dL_law_1137 rfl (lv_at hl 4 rfl) ?_
  refine lv_aload_n hx hb dL_law_1138 rfl (lv_at hl 2 rfl) ?_
  refine lv_iload hx hb dL_law_1139 (lv_at hl 1 rfl) ?_
  refine z_iconst hx hb dL_law_1141 ?_
  refine z_iadd hx hb dL_law_1142 ?_
  refine z_sld (k := i + 1) hC hS1.1 hX hbl hbA hL2 (by omega) dL_law_1143 ?_
  refine z_fcall hC (z_frV (rest := []) (As := [.int (iI (sx xs (i + 1)))]) (n := 1) (ci := 16) hC hS1.2.1 (met_X13_lineCount l D cs (zfA (mW cs m0 ad v gm) H1) m0 ad v gm (sx xs (i + 1)) N c0 hD hok hv.1 hK (sx_R xs (i + 1))) gv_L_227 hd_X13_lineCount rfl mW_o rfl hl rfl (Nat.le_of_ble_eq_true rfl) ⟨by omega, by omega⟩ ⟨by omega, by omega⟩ dL_law_1144) hS1.2.1 (fun vv F2 H2 locs2 hp hZ1 hfr => ?_)
  obtain ⟨r, rfl, v2, g2, rfl, hok2, hm⟩ := hp
  have hS2 := hS1.aM hZ1 hfr
  clear hfr hZ1
  obtain ⟨hVs, hV6, hVr⟩ := hv.mB hm
  refine lv_istore (lv' := [(7, .int (iI r)), (6, .int (iI k)), (5, .int (iI i)), (0, .ref b), (1, .ref ob), (2, .ref m0), (3, .ref ou), (4, .ref od)]) hx hb dL_law_1147 hl (by decide) rfl (fun ls hl => ?_)
  refine lv_aload_n hx hb dL_law_1149 rfl (lv_at hl 5 rfl) ?_
  refine z_fcall hC (z_frV (rest := []) (As := []) (n := 0) (ci := 16) hC hS2.2.1 (met_X13_thrown l D cs (zfA (mW cs m0 ad v2 g2) H2) m0 ad v2 g2 hD hok2) gv_L_167 hd_X13_thrown rfl mW_o rfl hl rfl (Nat.le_of_ble_eq_true rfl) ⟨by omega, by omega⟩ ⟨by omega, by omega⟩ dL_law_1150) hS2.2.1 (fun vv F3 H3 locs3 hp hZ1 hfr => ?_)
  obtain ⟨r3, rfl, v3, g3, rfl, hokL, rfl, rfl, rfl⟩ := hp
  have hS3 := hS2.aM hZ1 hfr
  clear hfr hZ1
  have hk6 : v2 6 = k := hV6.trans hW.1.symm
  have hkr := hW.2.1
  refine lv_iload hx hb dL_law_1153 (lv_at hl 1 rfl) ?_
  refine z_icmp_eq (tgt := 1160) hx hb dL_law_1155 (by decide) (by omega) (by omega) (fun c9 => ?_) (fun c9 => absurd hk6 c9)
  refine lv_iload hx hb dL_law_1160 (lv_at hl 1 rfl) ?_
  refine z_if_ne (tgt := 1177) hx hb dL_law_1162 (by decide) (by omega) (fun c8 => ?_) (fun c8 => ?_)
  · skip
    refine lv_goto (tgt := 2898) hx hb dL_law_1177 (by decide) ?_
    refine W.widen (k := cells + 110) (n := slots + 1650) (by omega) (by omega) ?_
    exact kk _ _ _ _ _ _ _ _ hS3 ⟨g, sa, so, hL, tx, inp, out, c0, sv, hs, er, fa, (hW.2.2.2 c8), hVs⟩ hokL (lv_sub hl [2, 3, 4, 5, 6, 7] rfl)
  · skip
    have hk0 : k = 0 := by omega
    refine lv_aload_n hx hb dL_law_1165 rfl (lv_at hl 6 rfl) ?_
    refine z_iconst hx hb dL_law_1166 ?_
    refine z_lald hC hS3.2.2.1 z1_s dL_law_1167 ?_
    refine lv_iload hx hb dL_law_1168 (lv_at hl 0 rfl) ?_
    refine lv_i2l hx hb dL_law_1170 rfl ?_
    refine z_lcmp0 hC ((hW.2.2.1 hk0).2.trans (by rw [hVr (hW.1.symm.trans hk0)])) dL_law_1171 ?_
    refine z_if_eq (tgt := 1177) hx hb dL_law_1172 (by decide) (by decide) (fun c7 => ?_) (fun c7 => absurd rfl c7)
    refine lv_goto (tgt := 2898) hx hb dL_law_1177 (by decide) ?_
    refine W.widen (k := cells + 110) (n := slots + 1650) (by omega) (by omega) ?_
    exact kk _ _ _ _ _ _ _ _ hS3 ⟨g, sa, so, hL, tx, inp, out, c0, sv, hs, er, fa, (hW.2.2.1 (by omega)).1, hVs⟩ hokL (lv_sub hl [2, 3, 4, 5, 6, 7] rfl)

set_option maxHeartbeats 4000000 in
set_option maxRecDepth 100000 in
theorem lc_lineLength (hB : lCx l R D cs A p s m args c b L m0 xs ad) (hi : 0 ≤ i ∧ i + 4 ≤ L) (hN : N ≤ 600) (hS : zLS D cs A s H locs m0 ou od ad Fg v gm f fd) (hT : zT2 cs N Fg ob v gm) (hok : mOK v gm) (hl : lv_has ls 9 [(5, .int (iI i)), (0, .ref b), (1, .ref ob), (2, .ref m0), (3, .ref ou), (4, .ref od)]) (hc : cells + 110 ≤ R.cells) (hsl : slots + 1650 ≤ R.slots)
  (kk : ∀ (H1 : Heap) (locs1 : List Loc) (Fg1 : zF) (v1 : Nat → Int) (g1 : Nat → Int → Int) (f1 : Nat → Int64) (fd1 : Nat → UInt64) (ls1 : Array Slot), zLS D cs A s H1 locs1 m0 ou od ad Fg1 v1 g1 f1 fd1 → zT2 cs (N + 1) Fg1 ob v1 g1 → mOK v1 g1 → lv_has ls1 9 [(5, .int (iI i)), (0, .ref b), (1, .ref ob), (2, .ref m0), (3, .ref ou), (4, .ref od)] → W p l e R s m args below meth c H1 locs1 (cells + 110) (slots + 1650) Q (F0 m 2898 ls1 [])) : W p l e R s m args below meth c H locs cells slots Q (F0 m 1180 ls []) := by
  obtain ⟨hC, hlt, hNc, hX, hbl, hbA, hL2, hD, hR1, hR2⟩ := hB
  have hx := hC.x
  have hb := hC.b
  obtain ⟨g, sa, so, hL, tx, inp, out, c0, sv, hs, er, fa, hg, hv⟩ := hT
  have hK := hv.2.1
  have hh8 := hv.2.2.1.2.1
  have htz := hv.2.2.2.2.2.2.1
  have hwi := hK.2.2.2.2.2.2.2.2.1
  have hb13 := hv.2.2.2.2.2.2.2.2.2.2.2.2.1
  have hb14 := hv.2.2.2.2.2.2.2.2.2.2.2.2.2
  refine lv_aload_n hx hb dL_law_1180 rfl (lv_at hl 2 rfl) ?_
  refine lv_aload_n hx hb dL_law_1181 rfl (lv_at hl 1 rfl) ?_
  refine lv_iload hx hb dL_law_1182 (lv_at hl 0 rfl) ?_
  refine z_iconst hx hb dL_law_1184 ?_
  refine z_iadd hx hb dL_law_1185 ?_
  refine z_sld (k := i + 1) hC hS.1 hX hbl hbA hL2 (by omega) dL_law_1186 ?_
  refine lv_aload_n hx hb dL_law_1187 rfl (lv_at hl 1 rfl) ?_
  refine lv_iload hx hb dL_law_1188 (lv_at hl 0 rfl) ?_
  refine z_iconst hx hb dL_law_1190 ?_
  refine z_iadd hx hb dL_law_1191 ?_
  refine z_sld (k := i + 2) hC hS.1 hX hbl hbA hL2 (by omega) dL_law_1192 ?_
  refine lv_aload_n hx hb dL_law_1193 rfl (lv_at hl 4 rfl) ?_
  refine z_fcall hC (z_frW (rest := []) (As := [.ref ob, .int (iI (sx xs (i + 1))), .int (iI (sx xs (i + 2))), .ref ou]) (n := 4) (hh := [((0 : Nat), (10 : Nat), (13 : Nat), (26 : Nat)), ((0 : Nat), (10 : Nat), (17 : Nat), (21 : Nat)), ((0 : Nat), (10 : Nat), (21 : Nat), (32 : Nat))]) hC hNc hS.w (wr_lineLength l D cs (zfA (zun Fg (z1 ou (zLa cs f))) H) Fg ob ou (sx xs (i + 1)) (sx xs (i + 2)) f hg.1 hS.2.2.2.2.2.1 (fun A1 => met_X12_lineLength l D cs A1 Fg ob g sa so hL tx inp out c0 sv hs er fa (sx xs (i + 1)) (sx xs (i + 2)) hlt hg (sx_R xs (i + 1)) (sx_R xs (i + 2)) hwi) (fun E F1 q => q.2.elim (fun y => Or.inl y.2) (fun y => Or.inr (y.elim (fun y => Or.inl y.2) (fun y => Or.inr y.2)))) ) (zgsW qm_L_228 qt_L_lineLength qn_L qc_L_lineLength) he_L_lineLength rfl hl rfl (Nat.le_of_ble_eq_true rfl) ⟨by omega, by omega⟩ ⟨by omega, by omega⟩ dL_law_1194) hS.w (fun vv F1 H1 locs1 hp hZ1 hfr => ?_)
  obtain ⟨k, rfl, hwp⟩ := hp
  obtain ⟨Fg1, f1, rfl, ho1, hW⟩ := w_finP (S1 := ((zlq c0 (sx xs (i + 1)) (sx xs (i + 2))).1, ((zlq c0 (sx xs (i + 1)) (sx xs (i + 2))).2.length : Int)).1) (S2 := ((zlq c0 (sx xs (i + 1)) (sx xs (i + 2))).1, ((zlq c0 (sx xs (i + 1)) (sx xs (i + 2))).2.length : Int)).2) (Kn := (fun F1 => gOb cs F1 ob g sa so hL tx inp out c0 sv hs er fa)) (Kx := (fun F1 => gOb cs F1 ob g sa so hL tx inp out c0 sv hs er fa)) hwp (fun r F1 q => ⟨q.1, q.2.1, q.2.2⟩) (fun E F1 q => by
    rcases q.2 with y | y | y
    · exact ⟨q.1, 0, by decide, by rw [y.2]; rfl, by rw [y.1]; rfl⟩
    · exact ⟨q.1, 1, by decide, by rw [y.2]; rfl, by rw [y.1]; rfl⟩
    · exact ⟨q.1, 2, by decide, by rw [y.2]; rfl, by rw [y.1]; rfl⟩) (nd_names (by decide))
  clear hwp
  have hS1 := hS.aL hZ1 ho1 hfr
  clear hfr hZ1
  refine lv_istore (lv' := [(6, .int (iI k)), (5, .int (iI i)), (0, .ref b), (1, .ref ob), (2, .ref m0), (3, .ref ou), (4, .ref od)]) hx hb dL_law_1197 hl (by decide) rfl (fun ls hl => ?_)
  refine lv_aload_n hx hb dL_law_1199 rfl (lv_at hl 4 rfl) ?_
  refine lv_aload_n hx hb dL_law_1200 rfl (lv_at hl 2 rfl) ?_
  refine lv_iload hx hb dL_law_1201 (lv_at hl 1 rfl) ?_
  refine z_iconst hx hb dL_law_1203 ?_
  refine z_iadd hx hb dL_law_1204 ?_
  refine z_sld (k := i + 1) hC hS1.1 hX hbl hbA hL2 (by omega) dL_law_1205 ?_
  refine lv_aload_n hx hb dL_law_1206 rfl (lv_at hl 2 rfl) ?_
  refine lv_iload hx hb dL_law_1207 (lv_at hl 1 rfl) ?_
  refine z_iconst hx hb dL_law_1209 ?_
  refine z_iadd hx hb dL_law_1210 ?_
  refine z_sld (k := i + 2) hC hS1.1 hX hbl hbA hL2 (by omega) dL_law_1211 ?_
  refine z_fcall hC (z_frV (rest := []) (As := [.int (iI (sx xs (i + 1))), .int (iI (sx xs (i + 2)))]) (n := 2) (ci := 16) hC hS1.2.1 (met_X13_lineLength l D cs (zfA (mW cs m0 ad v gm) H1) m0 ad v gm (sx xs (i + 1)) (sx xs (i + 2)) N c0 hD hok hv.1 hK (sx_R xs (i + 1)) (sx_R xs (i + 2))) gv_L_230 hd_X13_lineLength rfl mW_o rfl hl rfl (Nat.le_of_ble_eq_true rfl) ⟨by omega, by omega⟩ ⟨by omega, by omega⟩ dL_law_1212) hS1.2.1 (fun vv F2 H2 locs2 hp hZ1 hfr => ?_)
  obtain ⟨r, rfl, v2, g2, rfl, hok2, hm⟩ := hp
  have hS2 := hS1.aM hZ1 hfr
  clear hfr hZ1
  obtain ⟨hVs, hV6, hVr⟩ := hv.mB hm
  refine lv_istore (lv' := [(7, .int (iI r)), (6, .int (iI k)), (5, .int (iI i)), (0, .ref b), (1, .ref ob), (2, .ref m0), (3, .ref ou), (4, .ref od)]) hx hb dL_law_1215 hl (by decide) rfl (fun ls hl => ?_)
  refine lv_aload_n hx hb dL_law_1217 rfl (lv_at hl 5 rfl) ?_
  refine z_fcall hC (z_frV (rest := []) (As := []) (n := 0) (ci := 16) hC hS2.2.1 (met_X13_thrown l D cs (zfA (mW cs m0 ad v2 g2) H2) m0 ad v2 g2 hD hok2) gv_L_167 hd_X13_thrown rfl mW_o rfl hl rfl (Nat.le_of_ble_eq_true rfl) ⟨by omega, by omega⟩ ⟨by omega, by omega⟩ dL_law_1218) hS2.2.1 (fun vv F3 H3 locs3 hp hZ1 hfr => ?_)
  obtain ⟨r3, rfl, v3, g3, rfl, hokL, rfl, rfl, rfl⟩ := hp
  have hS3 := hS2.aM hZ1 hfr
  clear hfr hZ1
  have hk6 : v2 6 = k := hV6.trans hW.1.symm
  have hkr := hW.2.1
  refine lv_iload hx hb dL_law_1221 (lv_at hl 1 rfl) ?_
  refine z_icmp_eq (tgt := 1228) hx hb dL_law_1223 (by decide) (by omega) (by omega) (fun c9 => ?_) (fun c9 => absurd hk6 c9)
  refine lv_iload hx hb dL_law_1228 (lv_at hl 1 rfl) ?_
  refine z_if_ne (tgt := 1245) hx hb dL_law_1230 (by decide) (by omega) (fun c8 => ?_) (fun c8 => ?_)
  · skip
    refine lv_goto (tgt := 2898) hx hb dL_law_1245 (by decide) ?_
    refine W.widen (k := cells + 110) (n := slots + 1650) (by omega) (by omega) ?_
    exact kk _ _ _ _ _ _ _ _ hS3 ⟨g, sa, so, hL, tx, inp, out, c0, sv, hs, er, fa, (hW.2.2.2 c8), hVs⟩ hokL (lv_sub hl [2, 3, 4, 5, 6, 7] rfl)
  · skip
    have hk0 : k = 0 := by omega
    refine lv_aload_n hx hb dL_law_1233 rfl (lv_at hl 6 rfl) ?_
    refine z_iconst hx hb dL_law_1234 ?_
    refine z_lald hC hS3.2.2.1 z1_s dL_law_1235 ?_
    refine lv_iload hx hb dL_law_1236 (lv_at hl 0 rfl) ?_
    refine lv_i2l hx hb dL_law_1238 rfl ?_
    refine z_lcmp0 hC ((hW.2.2.1 hk0).2.trans (by rw [hVr (hW.1.symm.trans hk0)])) dL_law_1239 ?_
    refine z_if_eq (tgt := 1245) hx hb dL_law_1240 (by decide) (by decide) (fun c7 => ?_) (fun c7 => absurd rfl c7)
    refine lv_goto (tgt := 2898) hx hb dL_law_1245 (by decide) ?_
    refine W.widen (k := cells + 110) (n := slots + 1650) (by omega) (by omega) ?_
    exact kk _ _ _ _ _ _ _ _ hS3 ⟨g, sa, so, hL, tx, inp, out, c0, sv, hs, er, fa, (hW.2.2.1 (by omega)).1, hVs⟩ hokL (lv_sub hl [2, 3, 4, 5, 6, 7] rfl)

set_option maxHeartbeats 4000000 in
set_option maxRecDepth 100000 in
theorem lc_hyphenCount (hB : lCx l R D cs A p s m args c b L m0 xs ad) (hi : 0 ≤ i ∧ i + 4 ≤ L) (hN : N ≤ 600) (hS : zLS D cs A s H locs m0 ou od ad Fg v gm f fd) (hT : zT2 cs N Fg ob v gm) (hok : mOK v gm) (hl : lv_has ls 9 [(5, .int (iI i)), (0, .ref b), (1, .ref ob), (2, .ref m0), (3, .ref ou), (4, .ref od)]) (hc : cells + 110 ≤ R.cells) (hsl : slots + 1650 ≤ R.slots)
  (kk : ∀ (H1 : Heap) (locs1 : List Loc) (Fg1 : zF) (v1 : Nat → Int) (g1 : Nat → Int → Int) (f1 : Nat → Int64) (fd1 : Nat → UInt64) (ls1 : Array Slot), zLS D cs A s H1 locs1 m0 ou od ad Fg1 v1 g1 f1 fd1 → zT2 cs (N + 1) Fg1 ob v1 g1 → mOK v1 g1 → lv_has ls1 9 [(5, .int (iI i)), (0, .ref b), (1, .ref ob), (2, .ref m0), (3, .ref ou), (4, .ref od)] → W p l e R s m args below meth c H1 locs1 (cells + 110) (slots + 1650) Q (F0 m 2898 ls1 [])) : W p l e R s m args below meth c H locs cells slots Q (F0 m 1248 ls []) := by
  obtain ⟨hC, hlt, hNc, hX, hbl, hbA, hL2, hD, hR1, hR2⟩ := hB
  have hx := hC.x
  have hb := hC.b
  obtain ⟨g, sa, so, hL, tx, inp, out, c0, sv, hs, er, fa, hg, hv⟩ := hT
  have hK := hv.2.1
  have hh8 := hv.2.2.1.2.1
  have htz := hv.2.2.2.2.2.2.1
  have hwi := hK.2.2.2.2.2.2.2.2.1
  have hb13 := hv.2.2.2.2.2.2.2.2.2.2.2.2.1
  have hb14 := hv.2.2.2.2.2.2.2.2.2.2.2.2.2
  refine lv_aload_n hx hb dL_law_1248 rfl (lv_at hl 2 rfl) ?_
  refine lv_aload_n hx hb dL_law_1249 rfl (lv_at hl 1 rfl) ?_
  refine lv_iload hx hb dL_law_1250 (lv_at hl 0 rfl) ?_
  refine z_iconst hx hb dL_law_1252 ?_
  refine z_iadd hx hb dL_law_1253 ?_
  refine z_sld (k := i + 1) hC hS.1 hX hbl hbA hL2 (by omega) dL_law_1254 ?_
  refine lv_aload_n hx hb dL_law_1255 rfl (lv_at hl 4 rfl) ?_
  refine z_fcall hC (z_frW (rest := []) (As := [.ref ob, .int (iI (sx xs (i + 1))), .ref ou]) (n := 3) (hh := [((0 : Nat), (9 : Nat), (12 : Nat), (26 : Nat)), ((0 : Nat), (9 : Nat), (15 : Nat), (21 : Nat))]) hC hNc hS.w (wr_hyphenCount l D cs (zfA (zun Fg (z1 ou (zLa cs f))) H) Fg ob ou (sx xs (i + 1)) f hg.1 hS.2.2.2.2.2.1 (fun A1 => met_X12_hyphenCount l D cs A1 Fg ob g sa so hL tx inp out c0 sv hs er fa (sx xs (i + 1)) hlt hg (sx_R xs (i + 1)) hwi) (fun E F1 q => q.2.elim (fun y => Or.inl y.2) (fun y => Or.inr y.2)) ) (zgsW qm_L_231 qt_L_hyphenCount qn_L qc_L_hyphenCount) he_L_hyphenCount rfl hl rfl (Nat.le_of_ble_eq_true rfl) ⟨by omega, by omega⟩ ⟨by omega, by omega⟩ dL_law_1256) hS.w (fun vv F1 H1 locs1 hp hZ1 hfr => ?_)
  obtain ⟨k, rfl, hwp⟩ := hp
  obtain ⟨Fg1, f1, rfl, ho1, hW⟩ := w_finP (S1 := (sLn c0 (sx xs (i + 1)) sHy).1) (S2 := (sLn c0 (sx xs (i + 1)) sHy).2) (Kn := (fun F1 => gOb cs F1 ob g sa so hL tx inp out c0 sv hs er fa)) (Kx := (fun F1 => gOb cs F1 ob g sa so hL tx inp out c0 sv hs er fa)) hwp (fun r F1 q => ⟨q.1, q.2.1, q.2.2⟩) (fun E F1 q => by
    rcases q.2 with y | y
    · exact ⟨q.1, 0, by decide, by rw [y.2]; rfl, by rw [y.1]; rfl⟩
    · exact ⟨q.1, 1, by decide, by rw [y.2]; rfl, by rw [y.1]; rfl⟩) (nd_names (by decide))
  clear hwp
  have hS1 := hS.aL hZ1 ho1 hfr
  clear hfr hZ1
  refine lv_istore (lv' := [(6, .int (iI k)), (5, .int (iI i)), (0, .ref b), (1, .ref ob), (2, .ref m0), (3, .ref ou), (4, .ref od)]) hx hb dL_law_1259 hl (by decide) rfl (fun ls hl => ?_)
  refine lv_aload_n hx hb dL_law_1261 rfl (lv_at hl 4 rfl) ?_
  refine lv_aload_n hx hb dL_law_1262 rfl (lv_at hl 2 rfl) ?_
  refine lv_iload hx hb dL_law_1263 (lv_at hl 1 rfl) ?_
  refine z_iconst hx hb dL_law_1265 ?_
  refine z_iadd hx hb dL_law_1266 ?_
  refine z_sld (k := i + 1) hC hS1.1 hX hbl hbA hL2 (by omega) dL_law_1267 ?_
  refine z_fcall hC (z_frV (rest := []) (As := [.int (iI (sx xs (i + 1)))]) (n := 1) (ci := 16) hC hS1.2.1 (met_X13_hyphenCount l D cs (zfA (mW cs m0 ad v gm) H1) m0 ad v gm (sx xs (i + 1)) N c0 hD hok hv.1 hK (sx_R xs (i + 1))) gv_L_233 hd_X13_hyphenCount rfl mW_o rfl hl rfl (Nat.le_of_ble_eq_true rfl) ⟨by omega, by omega⟩ ⟨by omega, by omega⟩ dL_law_1268) hS1.2.1 (fun vv F2 H2 locs2 hp hZ1 hfr => ?_)
  obtain ⟨r, rfl, v2, g2, rfl, hok2, hm⟩ := hp
  have hS2 := hS1.aM hZ1 hfr
  clear hfr hZ1
  obtain ⟨hVs, hV6, hVr⟩ := hv.mB hm
  refine lv_istore (lv' := [(7, .int (iI r)), (6, .int (iI k)), (5, .int (iI i)), (0, .ref b), (1, .ref ob), (2, .ref m0), (3, .ref ou), (4, .ref od)]) hx hb dL_law_1271 hl (by decide) rfl (fun ls hl => ?_)
  refine lv_aload_n hx hb dL_law_1273 rfl (lv_at hl 5 rfl) ?_
  refine z_fcall hC (z_frV (rest := []) (As := []) (n := 0) (ci := 16) hC hS2.2.1 (met_X13_thrown l D cs (zfA (mW cs m0 ad v2 g2) H2) m0 ad v2 g2 hD hok2) gv_L_167 hd_X13_thrown rfl mW_o rfl hl rfl (Nat.le_of_ble_eq_true rfl) ⟨by omega, by omega⟩ ⟨by omega, by omega⟩ dL_law_1274) hS2.2.1 (fun vv F3 H3 locs3 hp hZ1 hfr => ?_)
  obtain ⟨r3, rfl, v3, g3, rfl, hokL, rfl, rfl, rfl⟩ := hp
  have hS3 := hS2.aM hZ1 hfr
  clear hfr hZ1
  have hk6 : v2 6 = k := hV6.trans hW.1.symm
  have hkr := hW.2.1
  refine lv_iload hx hb dL_law_1277 (lv_at hl 1 rfl) ?_
  refine z_icmp_eq (tgt := 1284) hx hb dL_law_1279 (by decide) (by omega) (by omega) (fun c9 => ?_) (fun c9 => absurd hk6 c9)
  refine lv_iload hx hb dL_law_1284 (lv_at hl 1 rfl) ?_
  refine z_if_ne (tgt := 1301) hx hb dL_law_1286 (by decide) (by omega) (fun c8 => ?_) (fun c8 => ?_)
  · skip
    refine lv_goto (tgt := 2898) hx hb dL_law_1301 (by decide) ?_
    refine W.widen (k := cells + 110) (n := slots + 1650) (by omega) (by omega) ?_
    exact kk _ _ _ _ _ _ _ _ hS3 ⟨g, sa, so, hL, tx, inp, out, c0, sv, hs, er, fa, (hW.2.2.2 c8), hVs⟩ hokL (lv_sub hl [2, 3, 4, 5, 6, 7] rfl)
  · skip
    have hk0 : k = 0 := by omega
    refine lv_aload_n hx hb dL_law_1289 rfl (lv_at hl 6 rfl) ?_
    refine z_iconst hx hb dL_law_1290 ?_
    refine z_lald hC hS3.2.2.1 z1_s dL_law_1291 ?_
    refine lv_iload hx hb dL_law_1292 (lv_at hl 0 rfl) ?_
    refine lv_i2l hx hb dL_law_1294 rfl ?_
    refine z_lcmp0 hC ((hW.2.2.1 hk0).2.trans (by rw [hVr (hW.1.symm.trans hk0)])) dL_law_1295 ?_
    refine z_if_eq (tgt := 1301) hx hb dL_law_1296 (by decide) (by decide) (fun c7 => ?_) (fun c7 => absurd rfl c7)
    refine lv_goto (tgt := 2898) hx hb dL_law_1301 (by decide) ?_
    refine W.widen (k := cells + 110) (n := slots + 1650) (by omega) (by omega) ?_
    exact kk _ _ _ _ _ _ _ _ hS3 ⟨g, sa, so, hL, tx, inp, out, c0, sv, hs, er, fa, (hW.2.2.1 (by omega)).1, hVs⟩ hokL (lv_sub hl [2, 3, 4, 5, 6, 7] rfl)

set_option maxHeartbeats 4000000 in
set_option maxRecDepth 100000 in
theorem lc_writeLine (hB : lCx l R D cs A p s m args c b L m0 xs ad) (hi : 0 ≤ i ∧ i + 4 ≤ L) (hN : N ≤ 600) (hS : zLS D cs A s H locs m0 ou od ad Fg v gm f fd) (hT : zT2 cs N Fg ob v gm) (hok : mOK v gm) (hl : lv_has ls 9 [(5, .int (iI i)), (0, .ref b), (1, .ref ob), (2, .ref m0), (3, .ref ou), (4, .ref od)]) (hc : cells + 110 ≤ R.cells) (hsl : slots + 1650 ≤ R.slots)
  (kk : ∀ (H1 : Heap) (locs1 : List Loc) (Fg1 : zF) (v1 : Nat → Int) (g1 : Nat → Int → Int) (f1 : Nat → Int64) (fd1 : Nat → UInt64) (ls1 : Array Slot), zLS D cs A s H1 locs1 m0 ou od ad Fg1 v1 g1 f1 fd1 → zT2 cs (N + 1) Fg1 ob v1 g1 → mOK v1 g1 → lv_has ls1 9 [(5, .int (iI i)), (0, .ref b), (1, .ref ob), (2, .ref m0), (3, .ref ou), (4, .ref od)] → W p l e R s m args below meth c H1 locs1 (cells + 110) (slots + 1650) Q (F0 m 2898 ls1 [])) : W p l e R s m args below meth c H locs cells slots Q (F0 m 1304 ls []) := by
  obtain ⟨hC, hlt, hNc, hX, hbl, hbA, hL2, hD, hR1, hR2⟩ := hB
  have hx := hC.x
  have hb := hC.b
  obtain ⟨g, sa, so, hL, tx, inp, out, c0, sv, hs, er, fa, hg, hv⟩ := hT
  have hK := hv.2.1
  have hh8 := hv.2.2.1.2.1
  have htz := hv.2.2.2.2.2.2.1
  have hwi := hK.2.2.2.2.2.2.2.2.1
  have hb13 := hv.2.2.2.2.2.2.2.2.2.2.2.2.1
  have hb14 := hv.2.2.2.2.2.2.2.2.2.2.2.2.2
  refine lv_aload_n hx hb dL_law_1304 rfl (lv_at hl 2 rfl) ?_
  refine lv_aload_n hx hb dL_law_1305 rfl (lv_at hl 1 rfl) ?_
  refine lv_iload hx hb dL_law_1306 (lv_at hl 0 rfl) ?_
  refine z_iconst hx hb dL_law_1308 ?_
  refine z_iadd hx hb dL_law_1309 ?_
  refine z_sld (k := i + 1) hC hS.1 hX hbl hbA hL2 (by omega) dL_law_1310 ?_
  refine lv_aload_n hx hb dL_law_1311 rfl (lv_at hl 1 rfl) ?_
  refine lv_iload hx hb dL_law_1312 (lv_at hl 0 rfl) ?_
  refine z_iconst hx hb dL_law_1314 ?_
  refine z_iadd hx hb dL_law_1315 ?_
  refine z_sld (k := i + 2) hC hS.1 hX hbl hbA hL2 (by omega) dL_law_1316 ?_
  refine lv_aload_n hx hb dL_law_1317 rfl (lv_at hl 4 rfl) ?_
  refine z_fcall hC (z_frW (rest := []) (As := [.ref ob, .int (iI (sx xs (i + 1))), .int (iI (sx xs (i + 2))), .ref ou]) (n := 4) (hh := [((0 : Nat), (10 : Nat), (13 : Nat), (26 : Nat)), ((0 : Nat), (10 : Nat), (17 : Nat), (21 : Nat)), ((0 : Nat), (10 : Nat), (21 : Nat), (32 : Nat))]) hC hNc hS.w (wr_writeLine l D cs (zfA (zun Fg (z1 ou (zLa cs f))) H) Fg ob ou (sx xs (i + 1)) (sx xs (i + 2)) f hg.1 hS.2.2.2.2.2.1 (fun A1 => met_X12_writeLine l D cs A1 Fg ob g sa so hL tx inp out c0 sv hs er fa (sx xs (i + 1)) (sx xs (i + 2)) hlt hg (sx_R xs (i + 1)) (sx_R xs (i + 2)) hwi) (fun E F1 q => q.2.elim (fun y => Or.inl y.2) (fun y => Or.inr (y.elim (fun y => Or.inl y.2) (fun y => Or.inr y.2)))) ) (zgsW qm_L_234 qt_L_writeLine qn_L qc_L_writeLine) he_L_writeLine rfl hl rfl (Nat.le_of_ble_eq_true rfl) ⟨by omega, by omega⟩ ⟨by omega, by omega⟩ dL_law_1318) hS.w (fun vv F1 H1 locs1 hp hZ1 hfr => ?_)
  obtain ⟨k, rfl, hwp⟩ := hp
  obtain ⟨Fg1, f1, rfl, ho1, hW⟩ := w_finP (S1 := (zlq c0 (sx xs (i + 1)) (sx xs (i + 2))).1) (S2 := ((zlq c0 (sx xs (i + 1)) (sx xs (i + 2))).2.length : Int)) (Kn := (fun F1 => ∃ g1 : Nat → Nat, gOb cs F1 ob g1 sa so hL tx inp (zlq c0 (sx xs (i + 1)) (sx xs (i + 2))).2 c0 sv hs er fa)) (Kx := (fun F1 => gOb cs F1 ob g sa so hL tx inp out c0 sv hs er fa)) hwp (fun r F1 q => ⟨q.2.2, q.1, q.2.1⟩) (fun E F1 q => by
    rcases q.2 with y | y | y
    · exact ⟨q.1, 0, by decide, by rw [y.2]; rfl, by rw [y.1]; rfl⟩
    · exact ⟨q.1, 1, by decide, by rw [y.2]; rfl, by rw [y.1]; rfl⟩
    · exact ⟨q.1, 2, by decide, by rw [y.2]; rfl, by rw [y.1]; rfl⟩) (nd_names (by decide))
  clear hwp
  have hS1 := hS.aL hZ1 ho1 hfr
  clear hfr hZ1
  refine lv_istore (lv' := [(6, .int (iI k)), (5, .int (iI i)), (0, .ref b), (1, .ref ob), (2, .ref m0), (3, .ref ou), (4, .ref od)]) hx hb dL_law_1321 hl (by decide) rfl (fun ls hl => ?_)
  refine lv_aload_n hx hb dL_law_1323 rfl (lv_at hl 4 rfl) ?_
  refine lv_aload_n hx hb dL_law_1324 rfl (lv_at hl 2 rfl) ?_
  refine lv_iload hx hb dL_law_1325 (lv_at hl 1 rfl) ?_
  refine z_iconst hx hb dL_law_1327 ?_
  refine z_iadd hx hb dL_law_1328 ?_
  refine z_sld (k := i + 1) hC hS1.1 hX hbl hbA hL2 (by omega) dL_law_1329 ?_
  refine lv_aload_n hx hb dL_law_1330 rfl (lv_at hl 2 rfl) ?_
  refine lv_iload hx hb dL_law_1331 (lv_at hl 1 rfl) ?_
  refine z_iconst hx hb dL_law_1333 ?_
  refine z_iadd hx hb dL_law_1334 ?_
  refine z_sld (k := i + 2) hC hS1.1 hX hbl hbA hL2 (by omega) dL_law_1335 ?_
  refine z_fcall hC (z_frV (rest := []) (As := [.int (iI (sx xs (i + 1))), .int (iI (sx xs (i + 2)))]) (n := 2) (ci := 16) hC hS1.2.1 (met_X13_writeLine l D cs (zfA (mW cs m0 ad v gm) H1) m0 ad v gm (sx xs (i + 1)) (sx xs (i + 2)) N c0 hD hok hv.1 hK (sx_R xs (i + 1)) (sx_R xs (i + 2)) (fun l9 hl9 => by
      have h91 := hW.2.2.1 (by rw [hW.1, hl9])
      obtain ⟨g9, h92⟩ := h91.1
      have h93 := h92.oc
      rw [hl9] at h93
      exact h93)) gv_L_236 hd_X13_writeLine rfl mW_o rfl hl rfl (Nat.le_of_ble_eq_true rfl) ⟨by omega, by omega⟩ ⟨by omega, by omega⟩ dL_law_1336) hS1.2.1 (fun vv F2 H2 locs2 hp hZ1 hfr => ?_)
  obtain ⟨r, rfl, v2, g2, rfl, hok2, hm⟩ := hp
  have hS2 := hS1.aM hZ1 hfr
  clear hfr hZ1
  obtain ⟨hV6, hVr, hVx, hVn⟩ := hv.mW hm (fun t0 => ⟨Nat.le_trans (zlq_len hK t0) (by decide), by
    obtain ⟨g9, h92⟩ := (hW.2.2.1 (hW.1.trans t0)).1
    exact h92.oc⟩)
  refine lv_istore (lv' := [(7, .int (iI r)), (6, .int (iI k)), (5, .int (iI i)), (0, .ref b), (1, .ref ob), (2, .ref m0), (3, .ref ou), (4, .ref od)]) hx hb dL_law_1339 hl (by decide) rfl (fun ls hl => ?_)
  refine lv_aload_n hx hb dL_law_1341 rfl (lv_at hl 5 rfl) ?_
  refine z_fcall hC (z_frV (rest := []) (As := []) (n := 0) (ci := 16) hC hS2.2.1 (met_X13_thrown l D cs (zfA (mW cs m0 ad v2 g2) H2) m0 ad v2 g2 hD hok2) gv_L_167 hd_X13_thrown rfl mW_o rfl hl rfl (Nat.le_of_ble_eq_true rfl) ⟨by omega, by omega⟩ ⟨by omega, by omega⟩ dL_law_1342) hS2.2.1 (fun vv F3 H3 locs3 hp hZ1 hfr => ?_)
  obtain ⟨r3, rfl, v3, g3, rfl, hokL, rfl, rfl, rfl⟩ := hp
  have hS3 := hS2.aM hZ1 hfr
  clear hfr hZ1
  have hk6 : v2 6 = k := hV6.trans hW.1.symm
  have hkr := hW.2.1
  refine lv_iload hx hb dL_law_1345 (lv_at hl 1 rfl) ?_
  refine z_icmp_eq (tgt := 1352) hx hb dL_law_1347 (by decide) (by omega) (by omega) (fun c9 => ?_) (fun c9 => absurd hk6 c9)
  refine lv_iload hx hb dL_law_1352 (lv_at hl 1 rfl) ?_
  refine z_if_ne (tgt := 1369) hx hb dL_law_1354 (by decide) (by omega) (fun c8 => ?_) (fun c8 => ?_)
  · skip
    refine lv_goto (tgt := 2898) hx hb dL_law_1369 (by decide) ?_
    refine W.widen (k := cells + 110) (n := slots + 1650) (by omega) (by omega) ?_
    exact kk _ _ _ _ _ _ _ _ hS3 ⟨g, sa, so, hL, tx, inp, out, c0, sv, hs, er, fa, (hW.2.2.2 c8), (hVx (fun z => c8 (hW.1.trans z)))⟩ hokL (lv_sub hl [2, 3, 4, 5, 6, 7] rfl)
  · skip
    have hk0 : k = 0 := by omega
    refine lv_aload_n hx hb dL_law_1357 rfl (lv_at hl 6 rfl) ?_
    refine z_iconst hx hb dL_law_1358 ?_
    refine z_lald hC hS3.2.2.1 z1_s dL_law_1359 ?_
    refine lv_iload hx hb dL_law_1360 (lv_at hl 0 rfl) ?_
    refine lv_i2l hx hb dL_law_1362 rfl ?_
    refine z_lcmp0 hC ((hW.2.2.1 hk0).2.trans (by rw [hVr (hW.1.symm.trans hk0)])) dL_law_1363 ?_
    refine z_if_eq (tgt := 1369) hx hb dL_law_1364 (by decide) (by decide) (fun c7 => ?_) (fun c7 => absurd rfl c7)
    refine lv_goto (tgt := 2898) hx hb dL_law_1369 (by decide) ?_
    refine W.widen (k := cells + 110) (n := slots + 1650) (by omega) (by omega) ?_
    exact kk _ _ _ _ _ _ _ _ hS3 (let ⟨g9, h9⟩ := (hW.2.2.1 (by omega)).1; ⟨g9, sa, so, hL, tx, inp, _, c0, sv, hs, er, fa, h9, (hVn (hW.1.symm.trans (show k = 0 by omega)))⟩) hokL (lv_sub hl [2, 3, 4, 5, 6, 7] rfl)

set_option maxHeartbeats 4000000 in
set_option maxRecDepth 100000 in
theorem lc_smallestWidth (hB : lCx l R D cs A p s m args c b L m0 xs ad) (hi : 0 ≤ i ∧ i + 4 ≤ L) (hN : N ≤ 600) (hS : zLS D cs A s H locs m0 ou od ad Fg v gm f fd) (hT : zT2 cs N Fg ob v gm) (hok : mOK v gm) (hl : lv_has ls 9 [(5, .int (iI i)), (0, .ref b), (1, .ref ob), (2, .ref m0), (3, .ref ou), (4, .ref od)]) (hc : cells + 110 ≤ R.cells) (hsl : slots + 1650 ≤ R.slots)
  (kk : ∀ (H1 : Heap) (locs1 : List Loc) (Fg1 : zF) (v1 : Nat → Int) (g1 : Nat → Int → Int) (f1 : Nat → Int64) (fd1 : Nat → UInt64) (ls1 : Array Slot), zLS D cs A s H1 locs1 m0 ou od ad Fg1 v1 g1 f1 fd1 → zT2 cs (N + 1) Fg1 ob v1 g1 → mOK v1 g1 → lv_has ls1 9 [(5, .int (iI i)), (0, .ref b), (1, .ref ob), (2, .ref m0), (3, .ref ou), (4, .ref od)] → W p l e R s m args below meth c H1 locs1 (cells + 110) (slots + 1650) Q (F0 m 2898 ls1 [])) : W p l e R s m args below meth c H locs cells slots Q (F0 m 1372 ls []) := by
  obtain ⟨hC, hlt, hNc, hX, hbl, hbA, hL2, hD, hR1, hR2⟩ := hB
  have hx := hC.x
  have hb := hC.b
  obtain ⟨g, sa, so, hL, tx, inp, out, c0, sv, hs, er, fa, hg, hv⟩ := hT
  have hK := hv.2.1
  have hh8 := hv.2.2.1.2.1
  have htz := hv.2.2.2.2.2.2.1
  have hwi := hK.2.2.2.2.2.2.2.2.1
  have hb13 := hv.2.2.2.2.2.2.2.2.2.2.2.2.1
  have hb14 := hv.2.2.2.2.2.2.2.2.2.2.2.2.2
  refine lv_aload_n hx hb dL_law_1372 rfl (lv_at hl 2 rfl) ?_
  refine lv_aload_n hx hb dL_law_1373 rfl (lv_at hl 1 rfl) ?_
  refine lv_iload hx hb dL_law_1374 (lv_at hl 0 rfl) ?_
  refine z_iconst hx hb dL_law_1376 ?_
  refine z_iadd hx hb dL_law_1377 ?_
  refine z_sld (k := i + 1) hC hS.1 hX hbl hbA hL2 (by omega) dL_law_1378 ?_
  refine lv_aload_n hx hb dL_law_1379 rfl (lv_at hl 4 rfl) ?_
  refine z_fcall hC (z_frW (rest := []) (As := [.ref ob, .int (iI (sx xs (i + 1))), .ref ou]) (n := 3) (hh := [((0 : Nat), (9 : Nat), (12 : Nat), (26 : Nat))]) hC hNc hS.w (wr_smallestWidth l D cs (zfA (zun Fg (z1 ou (zLa cs f))) H) Fg ob ou (sx xs (i + 1)) f hg.1 hS.2.2.2.2.2.1 (fun A1 => met_X12_smallestWidth l D cs A1 Fg ob g sa so hL tx inp out c0 sv hs er fa (sx xs (i + 1)) hlt hg (sx_R xs (i + 1))) (fun E F1 q => q.2.2) ) (zgsW qm_L_237 qt_L_smallestWidth qn_L qc_L_smallestWidth) he_L_smallestWidth rfl hl rfl (Nat.le_of_ble_eq_true rfl) ⟨by omega, by omega⟩ ⟨by omega, by omega⟩ dL_law_1380) hS.w (fun vv F1 H1 locs1 hp hZ1 hfr => ?_)
  obtain ⟨k, rfl, hwp⟩ := hp
  obtain ⟨Fg1, f1, rfl, ho1, hW⟩ := w_finP (S1 := (sSm c0 (sx xs (i + 1))).1) (S2 := (sSm c0 (sx xs (i + 1))).2) (Kn := (fun F1 => gOb cs F1 ob g sa so hL tx inp out c0 sv hs er fa)) (Kx := (fun F1 => gOb cs F1 ob g sa so hL tx inp out c0 sv hs er fa)) hwp (fun r F1 q => ⟨q.1, q.2.1, q.2.2⟩) (fun E F1 q => ⟨q.1, 0, by decide, by rw [q.2.2]; rfl, q.2.1.trans rfl⟩) (nd_names (by decide))
  clear hwp
  have hS1 := hS.aL hZ1 ho1 hfr
  clear hfr hZ1
  refine lv_istore (lv' := [(6, .int (iI k)), (5, .int (iI i)), (0, .ref b), (1, .ref ob), (2, .ref m0), (3, .ref ou), (4, .ref od)]) hx hb dL_law_1383 hl (by decide) rfl (fun ls hl => ?_)
  refine lv_aload_n hx hb dL_law_1385 rfl (lv_at hl 4 rfl) ?_
  refine lv_aload_n hx hb dL_law_1386 rfl (lv_at hl 2 rfl) ?_
  refine lv_iload hx hb dL_law_1387 (lv_at hl 1 rfl) ?_
  refine z_iconst hx hb dL_law_1389 ?_
  refine z_iadd hx hb dL_law_1390 ?_
  refine z_sld (k := i + 1) hC hS1.1 hX hbl hbA hL2 (by omega) dL_law_1391 ?_
  refine z_fcall hC (z_frV (rest := []) (As := [.int (iI (sx xs (i + 1)))]) (n := 1) (ci := 16) hC hS1.2.1 (met_X13_smallestWidth l D cs (zfA (mW cs m0 ad v gm) H1) m0 ad v gm (sx xs (i + 1)) N c0 hD hok hv.1 hK (sx_R xs (i + 1))) gv_L_239 hd_X13_smallestWidth rfl mW_o rfl hl rfl (Nat.le_of_ble_eq_true rfl) ⟨by omega, by omega⟩ ⟨by omega, by omega⟩ dL_law_1392) hS1.2.1 (fun vv F2 H2 locs2 hp hZ1 hfr => ?_)
  obtain ⟨r, rfl, v2, g2, rfl, hok2, hm⟩ := hp
  have hS2 := hS1.aM hZ1 hfr
  clear hfr hZ1
  obtain ⟨hVs, hV6, hVr⟩ := hv.mB hm
  refine lv_istore (lv' := [(7, .int (iI r)), (6, .int (iI k)), (5, .int (iI i)), (0, .ref b), (1, .ref ob), (2, .ref m0), (3, .ref ou), (4, .ref od)]) hx hb dL_law_1395 hl (by decide) rfl (fun ls hl => ?_)
  refine lv_aload_n hx hb dL_law_1397 rfl (lv_at hl 5 rfl) ?_
  refine z_fcall hC (z_frV (rest := []) (As := []) (n := 0) (ci := 16) hC hS2.2.1 (met_X13_thrown l D cs (zfA (mW cs m0 ad v2 g2) H2) m0 ad v2 g2 hD hok2) gv_L_167 hd_X13_thrown rfl mW_o rfl hl rfl (Nat.le_of_ble_eq_true rfl) ⟨by omega, by omega⟩ ⟨by omega, by omega⟩ dL_law_1398) hS2.2.1 (fun vv F3 H3 locs3 hp hZ1 hfr => ?_)
  obtain ⟨r3, rfl, v3, g3, rfl, hokL, rfl, rfl, rfl⟩ := hp
  have hS3 := hS2.aM hZ1 hfr
  clear hfr hZ1
  have hk6 : v2 6 = k := hV6.trans hW.1.symm
  have hkr := hW.2.1
  refine lv_iload hx hb dL_law_1401 (lv_at hl 1 rfl) ?_
  refine z_icmp_eq (tgt := 1408) hx hb dL_law_1403 (by decide) (by omega) (by omega) (fun c9 => ?_) (fun c9 => absurd hk6 c9)
  refine lv_iload hx hb dL_law_1408 (lv_at hl 1 rfl) ?_
  refine z_if_ne (tgt := 1425) hx hb dL_law_1410 (by decide) (by omega) (fun c8 => ?_) (fun c8 => ?_)
  · skip
    refine lv_goto (tgt := 2898) hx hb dL_law_1425 (by decide) ?_
    refine W.widen (k := cells + 110) (n := slots + 1650) (by omega) (by omega) ?_
    exact kk _ _ _ _ _ _ _ _ hS3 ⟨g, sa, so, hL, tx, inp, out, c0, sv, hs, er, fa, (hW.2.2.2 c8), hVs⟩ hokL (lv_sub hl [2, 3, 4, 5, 6, 7] rfl)
  · skip
    have hk0 : k = 0 := by omega
    refine lv_aload_n hx hb dL_law_1413 rfl (lv_at hl 6 rfl) ?_
    refine z_iconst hx hb dL_law_1414 ?_
    refine z_lald hC hS3.2.2.1 z1_s dL_law_1415 ?_
    refine lv_iload hx hb dL_law_1416 (lv_at hl 0 rfl) ?_
    refine lv_i2l hx hb dL_law_1418 rfl ?_
    refine z_lcmp0 hC ((hW.2.2.1 hk0).2.trans (by rw [hVr (hW.1.symm.trans hk0)])) dL_law_1419 ?_
    refine z_if_eq (tgt := 1425) hx hb dL_law_1420 (by decide) (by decide) (fun c7 => ?_) (fun c7 => absurd rfl c7)
    refine lv_goto (tgt := 2898) hx hb dL_law_1425 (by decide) ?_
    refine W.widen (k := cells + 110) (n := slots + 1650) (by omega) (by omega) ?_
    exact kk _ _ _ _ _ _ _ _ hS3 ⟨g, sa, so, hL, tx, inp, out, c0, sv, hs, er, fa, (hW.2.2.1 (by omega)).1, hVs⟩ hokL (lv_sub hl [2, 3, 4, 5, 6, 7] rfl)

set_option maxHeartbeats 4000000 in
set_option maxRecDepth 100000 in
theorem lc_leastBadness (hB : lCx l R D cs A p s m args c b L m0 xs ad) (hi : 0 ≤ i ∧ i + 4 ≤ L) (hN : N ≤ 600) (hS : zLS D cs A s H locs m0 ou od ad Fg v gm f fd) (hT : zT2 cs N Fg ob v gm) (hok : mOK v gm) (hl : lv_has ls 9 [(5, .int (iI i)), (0, .ref b), (1, .ref ob), (2, .ref m0), (3, .ref ou), (4, .ref od)]) (hc : cells + 110 ≤ R.cells) (hsl : slots + 1650 ≤ R.slots)
  (kk : ∀ (H1 : Heap) (locs1 : List Loc) (Fg1 : zF) (v1 : Nat → Int) (g1 : Nat → Int → Int) (f1 : Nat → Int64) (fd1 : Nat → UInt64) (ls1 : Array Slot), zLS D cs A s H1 locs1 m0 ou od ad Fg1 v1 g1 f1 fd1 → zT2 cs (N + 1) Fg1 ob v1 g1 → mOK v1 g1 → lv_has ls1 9 [(5, .int (iI i)), (0, .ref b), (1, .ref ob), (2, .ref m0), (3, .ref ou), (4, .ref od)] → W p l e R s m args below meth c H1 locs1 (cells + 110) (slots + 1650) Q (F0 m 2898 ls1 [])) : W p l e R s m args below meth c H locs cells slots Q (F0 m 1428 ls []) := by
  obtain ⟨hC, hlt, hNc, hX, hbl, hbA, hL2, hD, hR1, hR2⟩ := hB
  have hx := hC.x
  have hb := hC.b
  obtain ⟨g, sa, so, hL, tx, inp, out, c0, sv, hs, er, fa, hg, hv⟩ := hT
  have hK := hv.2.1
  have hh8 := hv.2.2.1.2.1
  have htz := hv.2.2.2.2.2.2.1
  have hwi := hK.2.2.2.2.2.2.2.2.1
  have hb13 := hv.2.2.2.2.2.2.2.2.2.2.2.2.1
  have hb14 := hv.2.2.2.2.2.2.2.2.2.2.2.2.2
  refine lv_aload_n hx hb dL_law_1428 rfl (lv_at hl 2 rfl) ?_
  refine lv_aload_n hx hb dL_law_1429 rfl (lv_at hl 1 rfl) ?_
  refine lv_iload hx hb dL_law_1430 (lv_at hl 0 rfl) ?_
  refine z_iconst hx hb dL_law_1432 ?_
  refine z_iadd hx hb dL_law_1433 ?_
  refine z_sld (k := i + 1) hC hS.1 hX hbl hbA hL2 (by omega) dL_law_1434 ?_
  refine lv_aload_n hx hb dL_law_1435 rfl (lv_at hl 4 rfl) ?_
  refine z_fcall hC (z_frW (rest := []) (As := [.ref ob, .int (iI (sx xs (i + 1))), .ref ou]) (n := 3) (hh := [((0 : Nat), (9 : Nat), (12 : Nat), (26 : Nat)), ((0 : Nat), (9 : Nat), (15 : Nat), (21 : Nat))]) hC hNc hS.w (wr_leastBadness l D cs (zfA (zun Fg (z1 ou (zLa cs f))) H) Fg ob ou (sx xs (i + 1)) f hg.1 hS.2.2.2.2.2.1 (fun A1 => met_X12_leastBadness l D cs A1 Fg ob g sa so hL tx inp out c0 sv hs er fa (sx xs (i + 1)) hlt hg (sx_R xs (i + 1)) hwi) (fun E F1 q => q.2.elim (fun y => Or.inl y.2) (fun y => Or.inr y.2)) ) (zgsW qm_L_240 qt_L_leastBadness qn_L qc_L_leastBadness) he_L_leastBadness rfl hl rfl (Nat.le_of_ble_eq_true rfl) ⟨by omega, by omega⟩ ⟨by omega, by omega⟩ dL_law_1436) hS.w (fun vv F1 H1 locs1 hp hZ1 hfr => ?_)
  obtain ⟨k, rfl, hwp⟩ := hp
  obtain ⟨Fg1, f1, rfl, ho1, hW⟩ := w_finP (S1 := (sLb c0 (sx xs (i + 1))).1) (S2 := (sLb c0 (sx xs (i + 1))).2) (Kn := (fun F1 => gOb cs F1 ob g sa so hL tx inp out c0 sv hs er fa)) (Kx := (fun F1 => gOb cs F1 ob g sa so hL tx inp out c0 sv hs er fa)) hwp (fun r F1 q => ⟨q.1, q.2.1, q.2.2⟩) (fun E F1 q => by
    rcases q.2 with y | y
    · exact ⟨q.1, 0, by decide, by rw [y.2]; rfl, by rw [y.1]; rfl⟩
    · exact ⟨q.1, 1, by decide, by rw [y.2]; rfl, by rw [y.1]; rfl⟩) (nd_names (by decide))
  clear hwp
  have hS1 := hS.aL hZ1 ho1 hfr
  clear hfr hZ1
  refine lv_istore (lv' := [(6, .int (iI k)), (5, .int (iI i)), (0, .ref b), (1, .ref ob), (2, .ref m0), (3, .ref ou), (4, .ref od)]) hx hb dL_law_1439 hl (by decide) rfl (fun ls hl => ?_)
  refine lv_aload_n hx hb dL_law_1441 rfl (lv_at hl 4 rfl) ?_
  refine lv_aload_n hx hb dL_law_1442 rfl (lv_at hl 2 rfl) ?_
  refine lv_iload hx hb dL_law_1443 (lv_at hl 1 rfl) ?_
  refine z_iconst hx hb dL_law_1445 ?_
  refine z_iadd hx hb dL_law_1446 ?_
  refine z_sld (k := i + 1) hC hS1.1 hX hbl hbA hL2 (by omega) dL_law_1447 ?_
  refine z_fcall hC (z_frV (rest := []) (As := [.int (iI (sx xs (i + 1)))]) (n := 1) (ci := 16) hC hS1.2.1 (met_X13_leastBadness l D cs (zfA (mW cs m0 ad v gm) H1) m0 ad v gm (sx xs (i + 1)) N c0 hD hok hv.1 hK (sx_R xs (i + 1))) gv_L_242 hd_X13_leastBadness rfl mW_o rfl hl rfl (Nat.le_of_ble_eq_true rfl) ⟨by omega, by omega⟩ ⟨by omega, by omega⟩ dL_law_1448) hS1.2.1 (fun vv F2 H2 locs2 hp hZ1 hfr => ?_)
  obtain ⟨r, rfl, v2, g2, rfl, hok2, hm⟩ := hp
  have hS2 := hS1.aM hZ1 hfr
  clear hfr hZ1
  obtain ⟨hVs, hV6, hVr⟩ := hv.mL hm
  refine lv_istore (lv' := [(7, .int (iI r)), (6, .int (iI k)), (5, .int (iI i)), (0, .ref b), (1, .ref ob), (2, .ref m0), (3, .ref ou), (4, .ref od)]) hx hb dL_law_1451 hl (by decide) rfl (fun ls hl => ?_)
  refine lv_aload_n hx hb dL_law_1453 rfl (lv_at hl 5 rfl) ?_
  refine z_fcall hC (z_frV (rest := []) (As := []) (n := 0) (ci := 16) hC hS2.2.1 (met_X13_thrown l D cs (zfA (mW cs m0 ad v2 g2) H2) m0 ad v2 g2 hD hok2) gv_L_167 hd_X13_thrown rfl mW_o rfl hl rfl (Nat.le_of_ble_eq_true rfl) ⟨by omega, by omega⟩ ⟨by omega, by omega⟩ dL_law_1454) hS2.2.1 (fun vv F3 H3 locs3 hp hZ1 hfr => ?_)
  obtain ⟨r3, rfl, v3, g3, rfl, hokL, rfl, rfl, rfl⟩ := hp
  have hS3 := hS2.aM hZ1 hfr
  clear hfr hZ1
  have hk6 : v2 6 = k := hV6.trans hW.1.symm
  have hkr := hW.2.1
  refine lv_iload hx hb dL_law_1457 (lv_at hl 1 rfl) ?_
  refine z_icmp_eq (tgt := 1464) hx hb dL_law_1459 (by decide) (by omega) (by omega) (fun c9 => ?_) (fun c9 => absurd hk6 c9)
  refine lv_iload hx hb dL_law_1464 (lv_at hl 1 rfl) ?_
  refine z_if_ne (tgt := 1481) hx hb dL_law_1466 (by decide) (by omega) (fun c8 => ?_) (fun c8 => ?_)
  · skip
    refine lv_goto (tgt := 2898) hx hb dL_law_1481 (by decide) ?_
    refine W.widen (k := cells + 110) (n := slots + 1650) (by omega) (by omega) ?_
    exact kk _ _ _ _ _ _ _ _ hS3 ⟨g, sa, so, hL, tx, inp, out, c0, sv, hs, er, fa, (hW.2.2.2 c8), hVs⟩ hokL (lv_sub hl [2, 3, 4, 5, 6, 7] rfl)
  · skip
    have hk0 : k = 0 := by omega
    refine lv_aload_n hx hb dL_law_1469 rfl (lv_at hl 6 rfl) ?_
    refine z_iconst hx hb dL_law_1470 ?_
    refine z_lald hC hS3.2.2.1 z1_s dL_law_1471 ?_
    refine lv_iload hx hb dL_law_1472 (lv_at hl 0 rfl) ?_
    refine lv_i2l hx hb dL_law_1474 rfl ?_
    refine z_lcmp0 hC ((hW.2.2.1 hk0).2.trans (by rw [hVr (hW.1.symm.trans hk0)])) dL_law_1475 ?_
    refine z_if_eq (tgt := 1481) hx hb dL_law_1476 (by decide) (by decide) (fun c7 => ?_) (fun c7 => absurd rfl c7)
    refine lv_goto (tgt := 2898) hx hb dL_law_1481 (by decide) ?_
    refine W.widen (k := cells + 110) (n := slots + 1650) (by omega) (by omega) ?_
    exact kk _ _ _ _ _ _ _ _ hS3 ⟨g, sa, so, hL, tx, inp, out, c0, sv, hs, er, fa, (hW.2.2.1 (by omega)).1, hVs⟩ hokL (lv_sub hl [2, 3, 4, 5, 6, 7] rfl)

set_option maxHeartbeats 4000000 in
set_option maxRecDepth 100000 in
theorem lc_leastBadnessForward (hB : lCx l R D cs A p s m args c b L m0 xs ad) (hi : 0 ≤ i ∧ i + 4 ≤ L) (hN : N ≤ 600) (hS : zLS D cs A s H locs m0 ou od ad Fg v gm f fd) (hT : zT2 cs N Fg ob v gm) (hok : mOK v gm) (hl : lv_has ls 9 [(5, .int (iI i)), (0, .ref b), (1, .ref ob), (2, .ref m0), (3, .ref ou), (4, .ref od)]) (hc : cells + 110 ≤ R.cells) (hsl : slots + 1650 ≤ R.slots)
  (kk : ∀ (H1 : Heap) (locs1 : List Loc) (Fg1 : zF) (v1 : Nat → Int) (g1 : Nat → Int → Int) (f1 : Nat → Int64) (fd1 : Nat → UInt64) (ls1 : Array Slot), zLS D cs A s H1 locs1 m0 ou od ad Fg1 v1 g1 f1 fd1 → zT2 cs (N + 1) Fg1 ob v1 g1 → mOK v1 g1 → lv_has ls1 9 [(5, .int (iI i)), (0, .ref b), (1, .ref ob), (2, .ref m0), (3, .ref ou), (4, .ref od)] → W p l e R s m args below meth c H1 locs1 (cells + 110) (slots + 1650) Q (F0 m 2898 ls1 [])) : W p l e R s m args below meth c H locs cells slots Q (F0 m 1484 ls []) := by
  obtain ⟨hC, hlt, hNc, hX, hbl, hbA, hL2, hD, hR1, hR2⟩ := hB
  have hx := hC.x
  have hb := hC.b
  obtain ⟨g, sa, so, hL, tx, inp, out, c0, sv, hs, er, fa, hg, hv⟩ := hT
  have hK := hv.2.1
  have hh8 := hv.2.2.1.2.1
  have htz := hv.2.2.2.2.2.2.1
  have hwi := hK.2.2.2.2.2.2.2.2.1
  have hb13 := hv.2.2.2.2.2.2.2.2.2.2.2.2.1
  have hb14 := hv.2.2.2.2.2.2.2.2.2.2.2.2.2
  refine lv_aload_n hx hb dL_law_1484 rfl (lv_at hl 2 rfl) ?_
  refine lv_aload_n hx hb dL_law_1485 rfl (lv_at hl 1 rfl) ?_
  refine lv_iload hx hb dL_law_1486 (lv_at hl 0 rfl) ?_
  refine z_iconst hx hb dL_law_1488 ?_
  refine z_iadd hx hb dL_law_1489 ?_
  refine z_sld (k := i + 1) hC hS.1 hX hbl hbA hL2 (by omega) dL_law_1490 ?_
  refine lv_aload_n hx hb dL_law_1491 rfl (lv_at hl 4 rfl) ?_
  refine z_fcall hC (z_frW (rest := []) (As := [.ref ob, .int (iI (sx xs (i + 1))), .ref ou]) (n := 3) (hh := [((0 : Nat), (9 : Nat), (12 : Nat), (26 : Nat)), ((0 : Nat), (9 : Nat), (15 : Nat), (21 : Nat))]) hC hNc hS.w (wr_leastBadnessForward l D cs (zfA (zun Fg (z1 ou (zLa cs f))) H) Fg ob ou (sx xs (i + 1)) f hg.1 hS.2.2.2.2.2.1 (fun A1 => met_X12_leastBadnessForward l D cs A1 Fg ob g sa so hL tx inp out c0 sv hs er fa (sx xs (i + 1)) hlt hg (sx_R xs (i + 1)) hwi) (fun E F1 q => q.2.elim (fun y => Or.inl y.2) (fun y => Or.inr y.2)) ) (zgsW qm_L_243 qt_L_leastBadnessForward qn_L qc_L_leastBadnessForward) he_L_leastBadnessForward rfl hl rfl (Nat.le_of_ble_eq_true rfl) ⟨by omega, by omega⟩ ⟨by omega, by omega⟩ dL_law_1492) hS.w (fun vv F1 H1 locs1 hp hZ1 hfr => ?_)
  obtain ⟨k, rfl, hwp⟩ := hp
  obtain ⟨Fg1, f1, rfl, ho1, hW⟩ := w_finP (S1 := (sLb c0 (sx xs (i + 1))).1) (S2 := (sLb c0 (sx xs (i + 1))).2) (Kn := (fun F1 => gOb cs F1 ob g sa so hL tx inp out c0 sv hs er fa)) (Kx := (fun F1 => gOb cs F1 ob g sa so hL tx inp out c0 sv hs er fa)) hwp (fun r F1 q => ⟨q.1, q.2.1, q.2.2⟩) (fun E F1 q => by
    rcases q.2 with y | y
    · exact ⟨q.1, 0, by decide, by rw [y.2]; rfl, by rw [y.1]; rfl⟩
    · exact ⟨q.1, 1, by decide, by rw [y.2]; rfl, by rw [y.1]; rfl⟩) (nd_names (by decide))
  clear hwp
  have hS1 := hS.aL hZ1 ho1 hfr
  clear hfr hZ1
  refine lv_istore (lv' := [(6, .int (iI k)), (5, .int (iI i)), (0, .ref b), (1, .ref ob), (2, .ref m0), (3, .ref ou), (4, .ref od)]) hx hb dL_law_1495 hl (by decide) rfl (fun ls hl => ?_)
  refine lv_aload_n hx hb dL_law_1497 rfl (lv_at hl 4 rfl) ?_
  refine lv_aload_n hx hb dL_law_1498 rfl (lv_at hl 2 rfl) ?_
  refine lv_iload hx hb dL_law_1499 (lv_at hl 1 rfl) ?_
  refine z_iconst hx hb dL_law_1501 ?_
  refine z_iadd hx hb dL_law_1502 ?_
  refine z_sld (k := i + 1) hC hS1.1 hX hbl hbA hL2 (by omega) dL_law_1503 ?_
  refine z_fcall hC (z_frV (rest := []) (As := [.int (iI (sx xs (i + 1)))]) (n := 1) (ci := 16) hC hS1.2.1 (met_X13_leastBadnessForward l D cs (zfA (mW cs m0 ad v gm) H1) m0 ad v gm (sx xs (i + 1)) N c0 hD hok hv.1 hK (sx_R xs (i + 1))) gv_L_245 hd_X13_leastBadnessForward rfl mW_o rfl hl rfl (Nat.le_of_ble_eq_true rfl) ⟨by omega, by omega⟩ ⟨by omega, by omega⟩ dL_law_1504) hS1.2.1 (fun vv F2 H2 locs2 hp hZ1 hfr => ?_)
  obtain ⟨r, rfl, v2, g2, rfl, hok2, hm⟩ := hp
  have hS2 := hS1.aM hZ1 hfr
  clear hfr hZ1
  obtain ⟨hVs, hV6, hVr⟩ := hv.mL hm
  refine lv_istore (lv' := [(7, .int (iI r)), (6, .int (iI k)), (5, .int (iI i)), (0, .ref b), (1, .ref ob), (2, .ref m0), (3, .ref ou), (4, .ref od)]) hx hb dL_law_1507 hl (by decide) rfl (fun ls hl => ?_)
  refine lv_aload_n hx hb dL_law_1509 rfl (lv_at hl 5 rfl) ?_
  refine z_fcall hC (z_frV (rest := []) (As := []) (n := 0) (ci := 16) hC hS2.2.1 (met_X13_thrown l D cs (zfA (mW cs m0 ad v2 g2) H2) m0 ad v2 g2 hD hok2) gv_L_167 hd_X13_thrown rfl mW_o rfl hl rfl (Nat.le_of_ble_eq_true rfl) ⟨by omega, by omega⟩ ⟨by omega, by omega⟩ dL_law_1510) hS2.2.1 (fun vv F3 H3 locs3 hp hZ1 hfr => ?_)
  obtain ⟨r3, rfl, v3, g3, rfl, hokL, rfl, rfl, rfl⟩ := hp
  have hS3 := hS2.aM hZ1 hfr
  clear hfr hZ1
  have hk6 : v2 6 = k := hV6.trans hW.1.symm
  have hkr := hW.2.1
  refine lv_iload hx hb dL_law_1513 (lv_at hl 1 rfl) ?_
  refine z_icmp_eq (tgt := 1520) hx hb dL_law_1515 (by decide) (by omega) (by omega) (fun c9 => ?_) (fun c9 => absurd hk6 c9)
  refine lv_iload hx hb dL_law_1520 (lv_at hl 1 rfl) ?_
  refine z_if_ne (tgt := 1537) hx hb dL_law_1522 (by decide) (by omega) (fun c8 => ?_) (fun c8 => ?_)
  · skip
    refine lv_goto (tgt := 2898) hx hb dL_law_1537 (by decide) ?_
    refine W.widen (k := cells + 110) (n := slots + 1650) (by omega) (by omega) ?_
    exact kk _ _ _ _ _ _ _ _ hS3 ⟨g, sa, so, hL, tx, inp, out, c0, sv, hs, er, fa, (hW.2.2.2 c8), hVs⟩ hokL (lv_sub hl [2, 3, 4, 5, 6, 7] rfl)
  · skip
    have hk0 : k = 0 := by omega
    refine lv_aload_n hx hb dL_law_1525 rfl (lv_at hl 6 rfl) ?_
    refine z_iconst hx hb dL_law_1526 ?_
    refine z_lald hC hS3.2.2.1 z1_s dL_law_1527 ?_
    refine lv_iload hx hb dL_law_1528 (lv_at hl 0 rfl) ?_
    refine lv_i2l hx hb dL_law_1530 rfl ?_
    refine z_lcmp0 hC ((hW.2.2.1 hk0).2.trans (by rw [hVr (hW.1.symm.trans hk0)])) dL_law_1531 ?_
    refine z_if_eq (tgt := 1537) hx hb dL_law_1532 (by decide) (by decide) (fun c7 => ?_) (fun c7 => absurd rfl c7)
    refine lv_goto (tgt := 2898) hx hb dL_law_1537 (by decide) ?_
    refine W.widen (k := cells + 110) (n := slots + 1650) (by omega) (by omega) ?_
    exact kk _ _ _ _ _ _ _ _ hS3 ⟨g, sa, so, hL, tx, inp, out, c0, sv, hs, er, fa, (hW.2.2.1 (by omega)).1, hVs⟩ hokL (lv_sub hl [2, 3, 4, 5, 6, 7] rfl)

set_option maxHeartbeats 4000000 in
set_option maxRecDepth 100000 in
theorem lc_setPage (hB : lCx l R D cs A p s m args c b L m0 xs ad) (hi : 0 ≤ i ∧ i + 4 ≤ L) (hN : N ≤ 600) (hS : zLS D cs A s H locs m0 ou od ad Fg v gm f fd) (hT : zT2 cs N Fg ob v gm) (hok : mOK v gm) (hl : lv_has ls 9 [(5, .int (iI i)), (0, .ref b), (1, .ref ob), (2, .ref m0), (3, .ref ou), (4, .ref od)]) (hc : cells + 110 ≤ R.cells) (hsl : slots + 1650 ≤ R.slots)
  (kk : ∀ (H1 : Heap) (locs1 : List Loc) (Fg1 : zF) (v1 : Nat → Int) (g1 : Nat → Int → Int) (f1 : Nat → Int64) (fd1 : Nat → UInt64) (ls1 : Array Slot), zLS D cs A s H1 locs1 m0 ou od ad Fg1 v1 g1 f1 fd1 → zT2 cs (N + 1) Fg1 ob v1 g1 → mOK v1 g1 → lv_has ls1 9 [(5, .int (iI i)), (0, .ref b), (1, .ref ob), (2, .ref m0), (3, .ref ou), (4, .ref od)] → W p l e R s m args below meth c H1 locs1 (cells + 110) (slots + 1650) Q (F0 m 2898 ls1 [])) : W p l e R s m args below meth c H locs cells slots Q (F0 m 1540 ls []) := by
  obtain ⟨hC, hlt, hNc, hX, hbl, hbA, hL2, hD, hR1, hR2⟩ := hB
  have hx := hC.x
  have hb := hC.b
  obtain ⟨g, sa, so, hL, tx, inp, out, c0, sv, hs, er, fa, hg, hv⟩ := hT
  have hK := hv.2.1
  have hh8 := hv.2.2.1.2.1
  have htz := hv.2.2.2.2.2.2.1
  have hwi := hK.2.2.2.2.2.2.2.2.1
  have hb13 := hv.2.2.2.2.2.2.2.2.2.2.2.2.1
  have hb14 := hv.2.2.2.2.2.2.2.2.2.2.2.2.2
  refine lv_aload_n hx hb dL_law_1540 rfl (lv_at hl 2 rfl) ?_
  refine lv_aload_n hx hb dL_law_1541 rfl (lv_at hl 1 rfl) ?_
  refine lv_iload hx hb dL_law_1542 (lv_at hl 0 rfl) ?_
  refine z_iconst hx hb dL_law_1544 ?_
  refine z_iadd hx hb dL_law_1545 ?_
  refine z_sld (k := i + 1) hC hS.1 hX hbl hbA hL2 (by omega) dL_law_1546 ?_
  refine lv_aload_n hx hb dL_law_1547 rfl (lv_at hl 1 rfl) ?_
  refine lv_iload hx hb dL_law_1548 (lv_at hl 0 rfl) ?_
  refine z_iconst hx hb dL_law_1550 ?_
  refine z_iadd hx hb dL_law_1551 ?_
  refine z_sld (k := i + 2) hC hS.1 hX hbl hbA hL2 (by omega) dL_law_1552 ?_
  refine lv_aload_n hx hb dL_law_1553 rfl (lv_at hl 4 rfl) ?_
  refine z_fcall hC (z_frW (rest := []) (As := [.ref ob, .int (iI (sx xs (i + 1))), .int (iI (sx xs (i + 2))), .ref ou]) (n := 4) (hh := [((0 : Nat), (10 : Nat), (13 : Nat), (13 : Nat))]) hC hNc hS.w (wr_setPage l D cs (zfA (zun Fg (z1 ou (zLa cs f))) H) Fg ob ou (sx xs (i + 1)) (sx xs (i + 2)) f hg.1 hS.2.2.2.2.2.1 (fun A1 => met_X12_setPage l D cs A1 Fg ob g sa so hL tx inp out c0 sv hs er fa (sx xs (i + 1)) (sx xs (i + 2)) N hlt hg (sx_R xs (i + 1)) (sx_R xs (i + 2)) hK (by omega) hh8) (fun E F1 q => q.2.2) ) (zgsW qm_L_246 qt_L_setPage qn_L qc_L_setPage) he_L_setPage rfl hl rfl (Nat.le_of_ble_eq_true rfl) ⟨by omega, by omega⟩ ⟨by omega, by omega⟩ dL_law_1554) hS.w (fun vv F1 H1 locs1 hp hZ1 hfr => ?_)
  obtain ⟨k, rfl, hwp⟩ := hp
  obtain ⟨Fg1, f1, rfl, ho1, hW⟩ := w_finP (S1 := (sPag c0 (sx xs (i + 1)) (sx xs (i + 2))).1) (S2 := (sPag c0 (sx xs (i + 1)) (sx xs (i + 2))).2.2) (Kn := (fun F1 => ∃ (g1 : Nat → Nat) (sa1 : Nat) (hL1 : List Nat), gOb cs F1 ob g1 sa1 so hL1 tx inp out (sPag c0 (sx xs (i + 1)) (sx xs (i + 2))).2.1 sv (pushH hs c0) er fa)) (Kx := (fun F1 => gOb cs F1 ob g sa so hL tx inp out c0 sv hs er fa)) hwp (fun r F1 q => ⟨q.2.2, q.1, q.2.1⟩) (fun E F1 q => ⟨q.1, 0, by decide, by rw [q.2.2]; rfl, q.2.1.trans rfl⟩) (nd_names (by decide))
  clear hwp
  have hS1 := hS.aL hZ1 ho1 hfr
  clear hfr hZ1
  refine lv_istore (lv' := [(6, .int (iI k)), (5, .int (iI i)), (0, .ref b), (1, .ref ob), (2, .ref m0), (3, .ref ou), (4, .ref od)]) hx hb dL_law_1557 hl (by decide) rfl (fun ls hl => ?_)
  refine lv_aload_n hx hb dL_law_1559 rfl (lv_at hl 4 rfl) ?_
  refine lv_aload_n hx hb dL_law_1560 rfl (lv_at hl 2 rfl) ?_
  refine lv_iload hx hb dL_law_1561 (lv_at hl 1 rfl) ?_
  refine z_iconst hx hb dL_law_1563 ?_
  refine z_iadd hx hb dL_law_1564 ?_
  refine z_sld (k := i + 1) hC hS1.1 hX hbl hbA hL2 (by omega) dL_law_1565 ?_
  refine lv_aload_n hx hb dL_law_1566 rfl (lv_at hl 2 rfl) ?_
  refine lv_iload hx hb dL_law_1567 (lv_at hl 1 rfl) ?_
  refine z_iconst hx hb dL_law_1569 ?_
  refine z_iadd hx hb dL_law_1570 ?_
  refine z_sld (k := i + 2) hC hS1.1 hX hbl hbA hL2 (by omega) dL_law_1571 ?_
  refine z_fcall hC (z_frV (rest := []) (As := [.int (iI (sx xs (i + 1))), .int (iI (sx xs (i + 2)))]) (n := 2) (ci := 16) hC hS1.2.1 (met_X13_setPage l D cs (zfA (mW cs m0 ad v gm) H1) m0 ad v gm (sx xs (i + 1)) (sx xs (i + 2)) hs N c0 hD hok hv.1 hK (sx_R xs (i + 1)) (sx_R xs (i + 2)) hv.2.2.1 hv.2.2.2.1 sPag_R) gv_L_248 hd_X13_setPage rfl mW_o rfl hl rfl (Nat.le_of_ble_eq_true rfl) ⟨by omega, by omega⟩ ⟨by omega, by omega⟩ dL_law_1572) hS1.2.1 (fun vv F2 H2 locs2 hp hZ1 hfr => ?_)
  obtain ⟨r, rfl, v2, g2, rfl, hok2, hm⟩ := hp
  have hS2 := hS1.aM hZ1 hfr
  clear hfr hZ1
  obtain ⟨hV6, hVr, hVx, hVn⟩ := hv.mC (tx1 := tx) hm (fun k9 hk9 h89 => by exact upN_n (by unfold vK at hk9; omega)) (Or.inl ⟨rfl, upN_n (by decide)⟩) (sPag_K hK)
  refine lv_istore (lv' := [(7, .int (iI r)), (6, .int (iI k)), (5, .int (iI i)), (0, .ref b), (1, .ref ob), (2, .ref m0), (3, .ref ou), (4, .ref od)]) hx hb dL_law_1575 hl (by decide) rfl (fun ls hl => ?_)
  refine lv_aload_n hx hb dL_law_1577 rfl (lv_at hl 5 rfl) ?_
  refine z_fcall hC (z_frV (rest := []) (As := []) (n := 0) (ci := 16) hC hS2.2.1 (met_X13_thrown l D cs (zfA (mW cs m0 ad v2 g2) H2) m0 ad v2 g2 hD hok2) gv_L_167 hd_X13_thrown rfl mW_o rfl hl rfl (Nat.le_of_ble_eq_true rfl) ⟨by omega, by omega⟩ ⟨by omega, by omega⟩ dL_law_1578) hS2.2.1 (fun vv F3 H3 locs3 hp hZ1 hfr => ?_)
  obtain ⟨r3, rfl, v3, g3, rfl, hokL, rfl, rfl, rfl⟩ := hp
  have hS3 := hS2.aM hZ1 hfr
  clear hfr hZ1
  have hk6 : v2 6 = k := hV6.trans hW.1.symm
  have hkr := hW.2.1
  refine lv_iload hx hb dL_law_1581 (lv_at hl 1 rfl) ?_
  refine z_icmp_eq (tgt := 1588) hx hb dL_law_1583 (by decide) (by omega) (by omega) (fun c9 => ?_) (fun c9 => absurd hk6 c9)
  refine lv_iload hx hb dL_law_1588 (lv_at hl 1 rfl) ?_
  refine z_if_ne (tgt := 1605) hx hb dL_law_1590 (by decide) (by omega) (fun c8 => ?_) (fun c8 => ?_)
  · skip
    refine lv_goto (tgt := 2898) hx hb dL_law_1605 (by decide) ?_
    refine W.widen (k := cells + 110) (n := slots + 1650) (by omega) (by omega) ?_
    exact kk _ _ _ _ _ _ _ _ hS3 ⟨g, sa, so, hL, tx, inp, out, c0, sv, hs, er, fa, (hW.2.2.2 c8), (hVx (fun z => c8 (hW.1.trans z)))⟩ hokL (lv_sub hl [2, 3, 4, 5, 6, 7] rfl)
  · skip
    have hk0 : k = 0 := by omega
    refine lv_aload_n hx hb dL_law_1593 rfl (lv_at hl 6 rfl) ?_
    refine z_iconst hx hb dL_law_1594 ?_
    refine z_lald hC hS3.2.2.1 z1_s dL_law_1595 ?_
    refine lv_iload hx hb dL_law_1596 (lv_at hl 0 rfl) ?_
    refine lv_i2l hx hb dL_law_1598 rfl ?_
    refine z_lcmp0 hC ((hW.2.2.1 hk0).2.trans (by rw [hVr (hW.1.symm.trans hk0)])) dL_law_1599 ?_
    refine z_if_eq (tgt := 1605) hx hb dL_law_1600 (by decide) (by decide) (fun c7 => ?_) (fun c7 => absurd rfl c7)
    refine lv_goto (tgt := 2898) hx hb dL_law_1605 (by decide) ?_
    refine W.widen (k := cells + 110) (n := slots + 1650) (by omega) (by omega) ?_
    exact kk _ _ _ _ _ _ _ _ hS3 (let ⟨g9, sa9, hL9, h9⟩ := (hW.2.2.1 (by omega)).1; ⟨g9, sa9, so, hL9, _, inp, out, _, sv, _, er, fa, h9, (hVn (hW.1.symm.trans (show k = 0 by omega)))⟩) hokL (lv_sub hl [2, 3, 4, 5, 6, 7] rfl)

set_option maxHeartbeats 4000000 in
set_option maxRecDepth 100000 in
theorem lc_print (hB : lCx l R D cs A p s m args c b L m0 xs ad) (hi : 0 ≤ i ∧ i + 4 ≤ L) (hN : N ≤ 600) (hS : zLS D cs A s H locs m0 ou od ad Fg v gm f fd) (hT : zT2 cs N Fg ob v gm) (hok : mOK v gm) (hl : lv_has ls 9 [(5, .int (iI i)), (0, .ref b), (1, .ref ob), (2, .ref m0), (3, .ref ou), (4, .ref od)]) (hc : cells + 110 ≤ R.cells) (hsl : slots + 1650 ≤ R.slots)
  (kk : ∀ (H1 : Heap) (locs1 : List Loc) (Fg1 : zF) (v1 : Nat → Int) (g1 : Nat → Int → Int) (f1 : Nat → Int64) (fd1 : Nat → UInt64) (ls1 : Array Slot), zLS D cs A s H1 locs1 m0 ou od ad Fg1 v1 g1 f1 fd1 → zT2 cs (N + 1) Fg1 ob v1 g1 → mOK v1 g1 → lv_has ls1 9 [(5, .int (iI i)), (0, .ref b), (1, .ref ob), (2, .ref m0), (3, .ref ou), (4, .ref od)] → W p l e R s m args below meth c H1 locs1 (cells + 110) (slots + 1650) Q (F0 m 2898 ls1 [])) : W p l e R s m args below meth c H locs cells slots Q (F0 m 1608 ls []) := by
  obtain ⟨hC, hlt, hNc, hX, hbl, hbA, hL2, hD, hR1, hR2⟩ := hB
  have hx := hC.x
  have hb := hC.b
  obtain ⟨g, sa, so, hL, tx, inp, out, c0, sv, hs, er, fa, hg, hv⟩ := hT
  have hK := hv.2.1
  have hh8 := hv.2.2.1.2.1
  have htz := hv.2.2.2.2.2.2.1
  have hwi := hK.2.2.2.2.2.2.2.2.1
  have hb13 := hv.2.2.2.2.2.2.2.2.2.2.2.2.1
  have hb14 := hv.2.2.2.2.2.2.2.2.2.2.2.2.2
  refine lv_aload_n hx hb dL_law_1608 rfl (lv_at hl 2 rfl) ?_
  refine lv_aload_n hx hb dL_law_1609 rfl (lv_at hl 4 rfl) ?_
  refine z_fcall hC (z_frW (rest := []) (As := [.ref ob, .ref ou]) (n := 2) (hh := [((0 : Nat), (8 : Nat), (11 : Nat), (15 : Nat))]) hC hNc hS.w (wr_print l D cs (zfA (zun Fg (z1 ou (zLa cs f))) H) Fg ob ou  f hg.1 hS.2.2.2.2.2.1 (fun A1 => met_X12_print l D cs A1 Fg ob g sa so hL tx inp out c0 sv hs er fa N hlt hg hK (by omega) hh8) (fun E F1 q => q.2.2) ) (zgsW qm_L_249 qt_L_print qn_L qc_L_print) he_L_print rfl hl rfl (Nat.le_of_ble_eq_true rfl) ⟨by omega, by omega⟩ ⟨by omega, by omega⟩ dL_law_1610) hS.w (fun vv F1 H1 locs1 hp hZ1 hfr => ?_)
  obtain ⟨k, rfl, hwp⟩ := hp
  obtain ⟨Fg1, f1, rfl, ho1, hW⟩ := w_finP (S1 := (sPrt c0).1) (S2 := (sPrt c0).2.2) (Kn := (fun F1 => ∃ (g1 : Nat → Nat) (sa1 : Nat) (hL1 : List Nat), gOb cs F1 ob g1 sa1 so hL1 tx inp out (sPrt c0).2.1 sv (pushH hs c0) er fa)) (Kx := (fun F1 => gOb cs F1 ob g sa so hL tx inp out c0 sv hs er fa)) hwp (fun r F1 q => ⟨q.2.2, q.1, q.2.1⟩) (fun E F1 q => ⟨q.1, 0, by decide, by rw [q.2.2]; rfl, q.2.1.trans rfl⟩) (nd_names (by decide))
  clear hwp
  have hS1 := hS.aL hZ1 ho1 hfr
  clear hfr hZ1
  refine lv_istore (lv' := [(6, .int (iI k)), (5, .int (iI i)), (0, .ref b), (1, .ref ob), (2, .ref m0), (3, .ref ou), (4, .ref od)]) hx hb dL_law_1613 hl (by decide) rfl (fun ls hl => ?_)
  refine lv_aload_n hx hb dL_law_1615 rfl (lv_at hl 4 rfl) ?_
  refine z_fcall hC (z_frV (rest := []) (As := []) (n := 0) (ci := 16) hC hS1.2.1 (met_X13_print l D cs (zfA (mW cs m0 ad v gm) H1) m0 ad v gm hs N c0 hD hok hv.1 hK (by omega) hv.2.2.1 hv.2.2.2.1 (sPrt_R hK (by omega))) gv_L_252 hd_X13_print rfl mW_o rfl hl rfl (Nat.le_of_ble_eq_true rfl) ⟨by omega, by omega⟩ ⟨by omega, by omega⟩ dL_law_1616) hS1.2.1 (fun vv F2 H2 locs2 hp hZ1 hfr => ?_)
  obtain ⟨r, rfl, v2, g2, rfl, hok2, hm⟩ := hp
  have hS2 := hS1.aM hZ1 hfr
  clear hfr hZ1
  obtain ⟨hV6, hVr, hVx, hVn⟩ := hv.mC (tx1 := tx) hm (fun k9 hk9 h89 => by exact upN_n (by unfold vK at hk9; omega)) (Or.inl ⟨rfl, upN_n (by decide)⟩) (sPrt_K hK)
  refine lv_istore (lv' := [(7, .int (iI r)), (6, .int (iI k)), (5, .int (iI i)), (0, .ref b), (1, .ref ob), (2, .ref m0), (3, .ref ou), (4, .ref od)]) hx hb dL_law_1619 hl (by decide) rfl (fun ls hl => ?_)
  refine lv_aload_n hx hb dL_law_1621 rfl (lv_at hl 5 rfl) ?_
  refine z_fcall hC (z_frV (rest := []) (As := []) (n := 0) (ci := 16) hC hS2.2.1 (met_X13_thrown l D cs (zfA (mW cs m0 ad v2 g2) H2) m0 ad v2 g2 hD hok2) gv_L_167 hd_X13_thrown rfl mW_o rfl hl rfl (Nat.le_of_ble_eq_true rfl) ⟨by omega, by omega⟩ ⟨by omega, by omega⟩ dL_law_1622) hS2.2.1 (fun vv F3 H3 locs3 hp hZ1 hfr => ?_)
  obtain ⟨r3, rfl, v3, g3, rfl, hokL, rfl, rfl, rfl⟩ := hp
  have hS3 := hS2.aM hZ1 hfr
  clear hfr hZ1
  have hk6 : v2 6 = k := hV6.trans hW.1.symm
  have hkr := hW.2.1
  refine lv_iload hx hb dL_law_1625 (lv_at hl 1 rfl) ?_
  refine z_icmp_eq (tgt := 1632) hx hb dL_law_1627 (by decide) (by omega) (by omega) (fun c9 => ?_) (fun c9 => absurd hk6 c9)
  refine lv_iload hx hb dL_law_1632 (lv_at hl 1 rfl) ?_
  refine z_if_ne (tgt := 1649) hx hb dL_law_1634 (by decide) (by omega) (fun c8 => ?_) (fun c8 => ?_)
  · skip
    refine lv_goto (tgt := 2898) hx hb dL_law_1649 (by decide) ?_
    refine W.widen (k := cells + 110) (n := slots + 1650) (by omega) (by omega) ?_
    exact kk _ _ _ _ _ _ _ _ hS3 ⟨g, sa, so, hL, tx, inp, out, c0, sv, hs, er, fa, (hW.2.2.2 c8), (hVx (fun z => c8 (hW.1.trans z)))⟩ hokL (lv_sub hl [2, 3, 4, 5, 6, 7] rfl)
  · skip
    have hk0 : k = 0 := by omega
    refine lv_aload_n hx hb dL_law_1637 rfl (lv_at hl 6 rfl) ?_
    refine z_iconst hx hb dL_law_1638 ?_
    refine z_lald hC hS3.2.2.1 z1_s dL_law_1639 ?_
    refine lv_iload hx hb dL_law_1640 (lv_at hl 0 rfl) ?_
    refine lv_i2l hx hb dL_law_1642 rfl ?_
    refine z_lcmp0 hC ((hW.2.2.1 hk0).2.trans (by rw [hVr (hW.1.symm.trans hk0)])) dL_law_1643 ?_
    refine z_if_eq (tgt := 1649) hx hb dL_law_1644 (by decide) (by decide) (fun c7 => ?_) (fun c7 => absurd rfl c7)
    refine lv_goto (tgt := 2898) hx hb dL_law_1649 (by decide) ?_
    refine W.widen (k := cells + 110) (n := slots + 1650) (by omega) (by omega) ?_
    exact kk _ _ _ _ _ _ _ _ hS3 (let ⟨g9, sa9, hL9, h9⟩ := (hW.2.2.1 (by omega)).1; ⟨g9, sa9, so, hL9, _, inp, out, _, sv, _, er, fa, h9, (hVn (hW.1.symm.trans (show k = 0 by omega)))⟩) hokL (lv_sub hl [2, 3, 4, 5, 6, 7] rfl)

set_option maxHeartbeats 4000000 in
set_option maxRecDepth 100000 in
theorem lc_issueCount (hB : lCx l R D cs A p s m args c b L m0 xs ad) (hi : 0 ≤ i ∧ i + 4 ≤ L) (hN : N ≤ 600) (hS : zLS D cs A s H locs m0 ou od ad Fg v gm f fd) (hT : zT2 cs N Fg ob v gm) (hok : mOK v gm) (hl : lv_has ls 9 [(5, .int (iI i)), (0, .ref b), (1, .ref ob), (2, .ref m0), (3, .ref ou), (4, .ref od)]) (hc : cells + 110 ≤ R.cells) (hsl : slots + 1650 ≤ R.slots)
  (kk : ∀ (H1 : Heap) (locs1 : List Loc) (Fg1 : zF) (v1 : Nat → Int) (g1 : Nat → Int → Int) (f1 : Nat → Int64) (fd1 : Nat → UInt64) (ls1 : Array Slot), zLS D cs A s H1 locs1 m0 ou od ad Fg1 v1 g1 f1 fd1 → zT2 cs (N + 1) Fg1 ob v1 g1 → mOK v1 g1 → lv_has ls1 9 [(5, .int (iI i)), (0, .ref b), (1, .ref ob), (2, .ref m0), (3, .ref ou), (4, .ref od)] → W p l e R s m args below meth c H1 locs1 (cells + 110) (slots + 1650) Q (F0 m 2898 ls1 [])) : W p l e R s m args below meth c H locs cells slots Q (F0 m 1652 ls []) := by
  obtain ⟨hC, hlt, hNc, hX, hbl, hbA, hL2, hD, hR1, hR2⟩ := hB
  have hx := hC.x
  have hb := hC.b
  obtain ⟨g, sa, so, hL, tx, inp, out, c0, sv, hs, er, fa, hg, hv⟩ := hT
  have hK := hv.2.1
  have hh8 := hv.2.2.1.2.1
  have htz := hv.2.2.2.2.2.2.1
  have hwi := hK.2.2.2.2.2.2.2.2.1
  have hb13 := hv.2.2.2.2.2.2.2.2.2.2.2.2.1
  have hb14 := hv.2.2.2.2.2.2.2.2.2.2.2.2.2
  refine lv_aload_n hx hb dL_law_1652 rfl (lv_at hl 2 rfl) ?_
  refine z_fcall hC (z_frV (rest := []) (As := []) (n := 0) (ci := 15) hC hS.1 (met_X12_issueCount l D cs (zfA Fg H) Fg ob g sa so er fa c0 hg.1 hg.st) gv_L_253 hd_X12_issueCount rfl hg.1 rfl hl rfl (Nat.le_of_ble_eq_true rfl) ⟨by omega, by omega⟩ ⟨by omega, by omega⟩ dL_law_1653) hS.1 (fun vv Fg1 H1 locs1 hp hZ1 hfr => ?_)
  obtain ⟨r1, rfl, hq⟩ := hp
  have hS1 := hS.aG hZ1 hfr
  refine lv_aload_n hx hb dL_law_1656 rfl (lv_at hl 3 rfl) ?_
  refine z_fcall hC (z_frV (rest := [.int (iI r1)]) (As := []) (n := 0) (ci := 16) hC hS1.2.1 (met_X13_issueCount l D cs (zfA (mW cs m0 ad v gm) H1) m0 ad v gm hD hok) gv_L_256 hd_X13_issueCount rfl mW_o rfl hl rfl (Nat.le_of_ble_eq_true rfl) ⟨by omega, by omega⟩ ⟨by omega, by omega⟩ dL_law_1657) hS1.2.1 (fun vv F2 H2 locs2 hp hZ1 hfr => ?_)
  obtain ⟨r, rfl, v2, g2, rfl, hokL, hm⟩ := hp
  have hS2 := hS1.aM hZ1 hfr
  obtain ⟨rfl, e1⟩ := hq
  obtain ⟨m1, m2, e2⟩ := hm
  have hgq := hg
  have hzq := hv.up m1 m2
  have e3 := hv.1.2.2.2.2.2.2.2.1
  have hrr : r1 = r := by omega
  have hrn : InR r := by have := hK.2.1; unfold InR; omega
  refine z_icmp_eq (tgt := 2898) hx hb dL_law_1660 (by decide) (by rw [hrr]; exact hrn) hrn (fun c9 => ?_) (fun c9 => absurd hrr c9)
  refine W.widen (k := cells + 110) (n := slots + 1650) (by omega) (by omega) ?_
  exact kk _ _ _ _ _ _ _ _ hS2 ⟨g, sa, so, hL, tx, inp, out, c0, sv, hs, er, fa, hgq, hzq⟩ hokL (lv_sub hl [0, 1, 2, 3, 4, 5] rfl)

set_option maxHeartbeats 4000000 in
set_option maxRecDepth 100000 in
theorem lc_isKept (hB : lCx l R D cs A p s m args c b L m0 xs ad) (hi : 0 ≤ i ∧ i + 4 ≤ L) (hN : N ≤ 600) (hS : zLS D cs A s H locs m0 ou od ad Fg v gm f fd) (hT : zT2 cs N Fg ob v gm) (hok : mOK v gm) (hl : lv_has ls 9 [(5, .int (iI i)), (0, .ref b), (1, .ref ob), (2, .ref m0), (3, .ref ou), (4, .ref od)]) (hc : cells + 110 ≤ R.cells) (hsl : slots + 1650 ≤ R.slots)
  (kk : ∀ (H1 : Heap) (locs1 : List Loc) (Fg1 : zF) (v1 : Nat → Int) (g1 : Nat → Int → Int) (f1 : Nat → Int64) (fd1 : Nat → UInt64) (ls1 : Array Slot), zLS D cs A s H1 locs1 m0 ou od ad Fg1 v1 g1 f1 fd1 → zT2 cs (N + 1) Fg1 ob v1 g1 → mOK v1 g1 → lv_has ls1 9 [(5, .int (iI i)), (0, .ref b), (1, .ref ob), (2, .ref m0), (3, .ref ou), (4, .ref od)] → W p l e R s m args below meth c H1 locs1 (cells + 110) (slots + 1650) Q (F0 m 2898 ls1 [])) : W p l e R s m args below meth c H locs cells slots Q (F0 m 1665 ls []) := by
  obtain ⟨hC, hlt, hNc, hX, hbl, hbA, hL2, hD, hR1, hR2⟩ := hB
  have hx := hC.x
  have hb := hC.b
  obtain ⟨g, sa, so, hL, tx, inp, out, c0, sv, hs, er, fa, hg, hv⟩ := hT
  have hK := hv.2.1
  have hh8 := hv.2.2.1.2.1
  have htz := hv.2.2.2.2.2.2.1
  have hwi := hK.2.2.2.2.2.2.2.2.1
  have hb13 := hv.2.2.2.2.2.2.2.2.2.2.2.2.1
  have hb14 := hv.2.2.2.2.2.2.2.2.2.2.2.2.2
  refine lv_aload_n hx hb dL_law_1665 rfl (lv_at hl 2 rfl) ?_
  refine lv_aload_n hx hb dL_law_1666 rfl (lv_at hl 1 rfl) ?_
  refine lv_iload hx hb dL_law_1667 (lv_at hl 0 rfl) ?_
  refine z_iconst hx hb dL_law_1669 ?_
  refine z_iadd hx hb dL_law_1670 ?_
  refine z_sld (k := i + 1) hC hS.1 hX hbl hbA hL2 (by omega) dL_law_1671 ?_
  refine z_fcall hC (z_frV (rest := []) (As := [.int (iI (sx xs (i + 1)))]) (n := 1) (ci := 15) hC hS.1 (met_X12_isKept l D cs (zfA Fg H) Fg ob g sa so er fa c0 (sx xs (i + 1)) hg.1 hg.st (sx_R xs (i + 1))) gv_L_257 hd_X12_isKept rfl hg.1 rfl hl rfl (Nat.le_of_ble_eq_true rfl) ⟨by omega, by omega⟩ ⟨by omega, by omega⟩ dL_law_1672) hS.1 (fun vv Fg1 H1 locs1 hp hZ1 hfr => ?_)
  obtain ⟨r1, rfl, hq⟩ := hp
  have hS1 := hS.aG hZ1 hfr
  refine lv_aload_n hx hb dL_law_1675 rfl (lv_at hl 3 rfl) ?_
  refine lv_aload_n hx hb dL_law_1676 rfl (lv_at hl 1 rfl) ?_
  refine lv_iload hx hb dL_law_1677 (lv_at hl 0 rfl) ?_
  refine z_iconst hx hb dL_law_1679 ?_
  refine z_iadd hx hb dL_law_1680 ?_
  refine z_sld (k := i + 1) hC hS1.1 hX hbl hbA hL2 (by omega) dL_law_1681 ?_
  refine z_fcall hC (z_frV (rest := [.int (iI r1)]) (As := [.int (iI (sx xs (i + 1)))]) (n := 1) (ci := 16) hC hS1.2.1 (met_X13_isKept l D cs (zfA (mW cs m0 ad v gm) H1) m0 ad v gm (sx xs (i + 1)) N c0 hD hok hv.1 hK (sx_R xs (i + 1))) gv_L_260 hd_X13_isKept rfl mW_o rfl hl rfl (Nat.le_of_ble_eq_true rfl) ⟨by omega, by omega⟩ ⟨by omega, by omega⟩ dL_law_1682) hS1.2.1 (fun vv F2 H2 locs2 hp hZ1 hfr => ?_)
  obtain ⟨r, rfl, v2, g2, rfl, hokL, hm⟩ := hp
  have hS2 := hS1.aM hZ1 hfr
  obtain ⟨rfl, e1⟩ := hq
  obtain ⟨hzq, -, m3⟩ := hv.mA hm
  have hgq := hg
  have m4 : r = (if (zfi (cIs c0) (sx xs (i + 1))).isSome then 1 else 0) := m3 rfl
  have hrr : r1 = r := by
    rcases e1 with ⟨z, rfl⟩ | ⟨z, rfl⟩ <;> rw [m4, z] <;> rfl
  have hrn : InR r := by
    rw [← hrr]
    rcases e1 with ⟨z, rfl⟩ | ⟨z, rfl⟩ <;> decide
  refine z_icmp_eq (tgt := 2898) hx hb dL_law_1685 (by decide) (by rw [hrr]; exact hrn) hrn (fun c9 => ?_) (fun c9 => absurd hrr c9)
  refine W.widen (k := cells + 110) (n := slots + 1650) (by omega) (by omega) ?_
  exact kk _ _ _ _ _ _ _ _ hS2 ⟨g, sa, so, hL, tx, inp, out, c0, sv, hs, er, fa, hgq, hzq⟩ hokL (lv_sub hl [0, 1, 2, 3, 4, 5] rfl)

set_option maxHeartbeats 4000000 in
set_option maxRecDepth 100000 in
theorem lc_articlesIn (hB : lCx l R D cs A p s m args c b L m0 xs ad) (hi : 0 ≤ i ∧ i + 4 ≤ L) (hN : N ≤ 600) (hS : zLS D cs A s H locs m0 ou od ad Fg v gm f fd) (hT : zT2 cs N Fg ob v gm) (hok : mOK v gm) (hl : lv_has ls 9 [(5, .int (iI i)), (0, .ref b), (1, .ref ob), (2, .ref m0), (3, .ref ou), (4, .ref od)]) (hc : cells + 110 ≤ R.cells) (hsl : slots + 1650 ≤ R.slots)
  (kk : ∀ (H1 : Heap) (locs1 : List Loc) (Fg1 : zF) (v1 : Nat → Int) (g1 : Nat → Int → Int) (f1 : Nat → Int64) (fd1 : Nat → UInt64) (ls1 : Array Slot), zLS D cs A s H1 locs1 m0 ou od ad Fg1 v1 g1 f1 fd1 → zT2 cs (N + 1) Fg1 ob v1 g1 → mOK v1 g1 → lv_has ls1 9 [(5, .int (iI i)), (0, .ref b), (1, .ref ob), (2, .ref m0), (3, .ref ou), (4, .ref od)] → W p l e R s m args below meth c H1 locs1 (cells + 110) (slots + 1650) Q (F0 m 2898 ls1 [])) : W p l e R s m args below meth c H locs cells slots Q (F0 m 1690 ls []) := by
  obtain ⟨hC, hlt, hNc, hX, hbl, hbA, hL2, hD, hR1, hR2⟩ := hB
  have hx := hC.x
  have hb := hC.b
  obtain ⟨g, sa, so, hL, tx, inp, out, c0, sv, hs, er, fa, hg, hv⟩ := hT
  have hK := hv.2.1
  have hh8 := hv.2.2.1.2.1
  have htz := hv.2.2.2.2.2.2.1
  have hwi := hK.2.2.2.2.2.2.2.2.1
  have hb13 := hv.2.2.2.2.2.2.2.2.2.2.2.2.1
  have hb14 := hv.2.2.2.2.2.2.2.2.2.2.2.2.2
  refine lv_aload_n hx hb dL_law_1690 rfl (lv_at hl 2 rfl) ?_
  refine lv_aload_n hx hb dL_law_1691 rfl (lv_at hl 1 rfl) ?_
  refine lv_iload hx hb dL_law_1692 (lv_at hl 0 rfl) ?_
  refine z_iconst hx hb dL_law_1694 ?_
  refine z_iadd hx hb dL_law_1695 ?_
  refine z_sld (k := i + 1) hC hS.1 hX hbl hbA hL2 (by omega) dL_law_1696 ?_
  refine lv_aload_n hx hb dL_law_1697 rfl (lv_at hl 4 rfl) ?_
  refine z_fcall hC (z_frW (rest := []) (As := [.ref ob, .int (iI (sx xs (i + 1))), .ref ou]) (n := 3) (hh := [((0 : Nat), (9 : Nat), (12 : Nat), (26 : Nat))]) hC hNc hS.w (wr_articlesIn l D cs (zfA (zun Fg (z1 ou (zLa cs f))) H) Fg ob ou (sx xs (i + 1)) f hg.1 hS.2.2.2.2.2.1 (fun A1 => met_X12_articlesIn l D cs A1 Fg ob g sa so er fa c0 (sx xs (i + 1)) hlt hg.1 hg.st (sx_R xs (i + 1))) (fun E F1 q => q.2.2) ) (zgsW qm_L_261 qt_L_articlesIn qn_L qc_L_articlesIn) he_L_articlesIn rfl hl rfl (Nat.le_of_ble_eq_true rfl) ⟨by omega, by omega⟩ ⟨by omega, by omega⟩ dL_law_1698) hS.w (fun vv F1 H1 locs1 hp hZ1 hfr => ?_)
  obtain ⟨k, rfl, hwp⟩ := hp
  obtain ⟨Fg1, f1, rfl, ho1, hW⟩ := w_finP (S1 := (sIss c0 (sx xs (i + 1)) (fun s => (iTk s).length)).1) (S2 := (sIss c0 (sx xs (i + 1)) (fun s => (iTk s).length)).2) (Kn := (fun F1 => gOb cs F1 ob g sa so hL tx inp out c0 sv hs er fa)) (Kx := (fun F1 => gOb cs F1 ob g sa so hL tx inp out c0 sv hs er fa)) hwp (fun r F1 q => ⟨by rw [← q.1]; exact hg, q.2.1, q.2.2⟩) (fun E F1 q => ⟨by rw [← q.1]; exact hg, 0, by decide, by rw [q.2.2]; rfl, q.2.1.trans rfl⟩) (nd_names (by decide))
  clear hwp
  have hS1 := hS.aL hZ1 ho1 hfr
  clear hfr hZ1
  refine lv_istore (lv' := [(6, .int (iI k)), (5, .int (iI i)), (0, .ref b), (1, .ref ob), (2, .ref m0), (3, .ref ou), (4, .ref od)]) hx hb dL_law_1701 hl (by decide) rfl (fun ls hl => ?_)
  refine lv_aload_n hx hb dL_law_1703 rfl (lv_at hl 4 rfl) ?_
  refine lv_aload_n hx hb dL_law_1704 rfl (lv_at hl 2 rfl) ?_
  refine lv_iload hx hb dL_law_1705 (lv_at hl 1 rfl) ?_
  refine z_iconst hx hb dL_law_1707 ?_
  refine z_iadd hx hb dL_law_1708 ?_
  refine z_sld (k := i + 1) hC hS1.1 hX hbl hbA hL2 (by omega) dL_law_1709 ?_
  refine z_fcall hC (z_frV (rest := []) (As := [.int (iI (sx xs (i + 1)))]) (n := 1) (ci := 16) hC hS1.2.1 (met_X13_articlesIn l D cs (zfA (mW cs m0 ad v gm) H1) m0 ad v gm (sx xs (i + 1)) N c0 hD hok hv.1 hK (sx_R xs (i + 1))) gv_L_263 hd_X13_articlesIn rfl mW_o rfl hl rfl (Nat.le_of_ble_eq_true rfl) ⟨by omega, by omega⟩ ⟨by omega, by omega⟩ dL_law_1710) hS1.2.1 (fun vv F2 H2 locs2 hp hZ1 hfr => ?_)
  obtain ⟨r, rfl, v2, g2, rfl, hok2, hm⟩ := hp
  have hS2 := hS1.aM hZ1 hfr
  clear hfr hZ1
  obtain ⟨hVs, hV6, hVr⟩ := hv.mA hm
  refine lv_istore (lv' := [(7, .int (iI r)), (6, .int (iI k)), (5, .int (iI i)), (0, .ref b), (1, .ref ob), (2, .ref m0), (3, .ref ou), (4, .ref od)]) hx hb dL_law_1713 hl (by decide) rfl (fun ls hl => ?_)
  refine lv_aload_n hx hb dL_law_1715 rfl (lv_at hl 5 rfl) ?_
  refine z_fcall hC (z_frV (rest := []) (As := []) (n := 0) (ci := 16) hC hS2.2.1 (met_X13_thrown l D cs (zfA (mW cs m0 ad v2 g2) H2) m0 ad v2 g2 hD hok2) gv_L_167 hd_X13_thrown rfl mW_o rfl hl rfl (Nat.le_of_ble_eq_true rfl) ⟨by omega, by omega⟩ ⟨by omega, by omega⟩ dL_law_1716) hS2.2.1 (fun vv F3 H3 locs3 hp hZ1 hfr => ?_)
  obtain ⟨r3, rfl, v3, g3, rfl, hokL, rfl, rfl, rfl⟩ := hp
  have hS3 := hS2.aM hZ1 hfr
  clear hfr hZ1
  have hk6 : v2 6 = k := hV6.trans hW.1.symm
  have hkr := hW.2.1
  refine lv_iload hx hb dL_law_1719 (lv_at hl 1 rfl) ?_
  refine z_icmp_eq (tgt := 1726) hx hb dL_law_1721 (by decide) (by omega) (by omega) (fun c9 => ?_) (fun c9 => absurd hk6 c9)
  refine lv_iload hx hb dL_law_1726 (lv_at hl 1 rfl) ?_
  refine z_if_ne (tgt := 1743) hx hb dL_law_1728 (by decide) (by omega) (fun c8 => ?_) (fun c8 => ?_)
  · skip
    refine lv_goto (tgt := 2898) hx hb dL_law_1743 (by decide) ?_
    refine W.widen (k := cells + 110) (n := slots + 1650) (by omega) (by omega) ?_
    exact kk _ _ _ _ _ _ _ _ hS3 ⟨g, sa, so, hL, tx, inp, out, c0, sv, hs, er, fa, (hW.2.2.2 c8), hVs⟩ hokL (lv_sub hl [2, 3, 4, 5, 6, 7] rfl)
  · skip
    have hk0 : k = 0 := by omega
    refine lv_aload_n hx hb dL_law_1731 rfl (lv_at hl 6 rfl) ?_
    refine z_iconst hx hb dL_law_1732 ?_
    refine z_lald hC hS3.2.2.1 z1_s dL_law_1733 ?_
    refine lv_iload hx hb dL_law_1734 (lv_at hl 0 rfl) ?_
    refine lv_i2l hx hb dL_law_1736 rfl ?_
    refine z_lcmp0 hC ((hW.2.2.1 hk0).2.trans (by rw [hVr (hW.1.symm.trans hk0)])) dL_law_1737 ?_
    refine z_if_eq (tgt := 1743) hx hb dL_law_1738 (by decide) (by decide) (fun c7 => ?_) (fun c7 => absurd rfl c7)
    refine lv_goto (tgt := 2898) hx hb dL_law_1743 (by decide) ?_
    refine W.widen (k := cells + 110) (n := slots + 1650) (by omega) (by omega) ?_
    exact kk _ _ _ _ _ _ _ _ hS3 ⟨g, sa, so, hL, tx, inp, out, c0, sv, hs, er, fa, (hW.2.2.1 (by omega)).1, hVs⟩ hokL (lv_sub hl [2, 3, 4, 5, 6, 7] rfl)

set_option maxHeartbeats 4000000 in
set_option maxRecDepth 100000 in
theorem lc_linesIn (hB : lCx l R D cs A p s m args c b L m0 xs ad) (hi : 0 ≤ i ∧ i + 4 ≤ L) (hN : N ≤ 600) (hS : zLS D cs A s H locs m0 ou od ad Fg v gm f fd) (hT : zT2 cs N Fg ob v gm) (hok : mOK v gm) (hl : lv_has ls 9 [(5, .int (iI i)), (0, .ref b), (1, .ref ob), (2, .ref m0), (3, .ref ou), (4, .ref od)]) (hc : cells + 110 ≤ R.cells) (hsl : slots + 1650 ≤ R.slots)
  (kk : ∀ (H1 : Heap) (locs1 : List Loc) (Fg1 : zF) (v1 : Nat → Int) (g1 : Nat → Int → Int) (f1 : Nat → Int64) (fd1 : Nat → UInt64) (ls1 : Array Slot), zLS D cs A s H1 locs1 m0 ou od ad Fg1 v1 g1 f1 fd1 → zT2 cs (N + 1) Fg1 ob v1 g1 → mOK v1 g1 → lv_has ls1 9 [(5, .int (iI i)), (0, .ref b), (1, .ref ob), (2, .ref m0), (3, .ref ou), (4, .ref od)] → W p l e R s m args below meth c H1 locs1 (cells + 110) (slots + 1650) Q (F0 m 2898 ls1 [])) : W p l e R s m args below meth c H locs cells slots Q (F0 m 1746 ls []) := by
  obtain ⟨hC, hlt, hNc, hX, hbl, hbA, hL2, hD, hR1, hR2⟩ := hB
  have hx := hC.x
  have hb := hC.b
  obtain ⟨g, sa, so, hL, tx, inp, out, c0, sv, hs, er, fa, hg, hv⟩ := hT
  have hK := hv.2.1
  have hh8 := hv.2.2.1.2.1
  have htz := hv.2.2.2.2.2.2.1
  have hwi := hK.2.2.2.2.2.2.2.2.1
  have hb13 := hv.2.2.2.2.2.2.2.2.2.2.2.2.1
  have hb14 := hv.2.2.2.2.2.2.2.2.2.2.2.2.2
  refine lv_aload_n hx hb dL_law_1746 rfl (lv_at hl 2 rfl) ?_
  refine lv_aload_n hx hb dL_law_1747 rfl (lv_at hl 1 rfl) ?_
  refine lv_iload hx hb dL_law_1748 (lv_at hl 0 rfl) ?_
  refine z_iconst hx hb dL_law_1750 ?_
  refine z_iadd hx hb dL_law_1751 ?_
  refine z_sld (k := i + 1) hC hS.1 hX hbl hbA hL2 (by omega) dL_law_1752 ?_
  refine lv_aload_n hx hb dL_law_1753 rfl (lv_at hl 4 rfl) ?_
  refine z_fcall hC (z_frW (rest := []) (As := [.ref ob, .int (iI (sx xs (i + 1))), .ref ou]) (n := 3) (hh := [((0 : Nat), (9 : Nat), (12 : Nat), (26 : Nat))]) hC hNc hS.w (wr_linesIn l D cs (zfA (zun Fg (z1 ou (zLa cs f))) H) Fg ob ou (sx xs (i + 1)) f hg.1 hS.2.2.2.2.2.1 (fun A1 => met_X12_linesIn l D cs A1 Fg ob g sa so er fa c0 (sx xs (i + 1)) hlt hg.1 hg.st (sx_R xs (i + 1))) (fun E F1 q => q.2.2) ) (zgsW qm_L_264 qt_L_linesIn qn_L qc_L_linesIn) he_L_linesIn rfl hl rfl (Nat.le_of_ble_eq_true rfl) ⟨by omega, by omega⟩ ⟨by omega, by omega⟩ dL_law_1754) hS.w (fun vv F1 H1 locs1 hp hZ1 hfr => ?_)
  obtain ⟨k, rfl, hwp⟩ := hp
  obtain ⟨Fg1, f1, rfl, ho1, hW⟩ := w_finP (S1 := (sIss c0 (sx xs (i + 1)) (fun s => iLi s)).1) (S2 := (sIss c0 (sx xs (i + 1)) (fun s => iLi s)).2) (Kn := (fun F1 => gOb cs F1 ob g sa so hL tx inp out c0 sv hs er fa)) (Kx := (fun F1 => gOb cs F1 ob g sa so hL tx inp out c0 sv hs er fa)) hwp (fun r F1 q => ⟨by rw [← q.1]; exact hg, q.2.1, q.2.2⟩) (fun E F1 q => ⟨by rw [← q.1]; exact hg, 0, by decide, by rw [q.2.2]; rfl, q.2.1.trans rfl⟩) (nd_names (by decide))
  clear hwp
  have hS1 := hS.aL hZ1 ho1 hfr
  clear hfr hZ1
  refine lv_istore (lv' := [(6, .int (iI k)), (5, .int (iI i)), (0, .ref b), (1, .ref ob), (2, .ref m0), (3, .ref ou), (4, .ref od)]) hx hb dL_law_1757 hl (by decide) rfl (fun ls hl => ?_)
  refine lv_aload_n hx hb dL_law_1759 rfl (lv_at hl 4 rfl) ?_
  refine lv_aload_n hx hb dL_law_1760 rfl (lv_at hl 2 rfl) ?_
  refine lv_iload hx hb dL_law_1761 (lv_at hl 1 rfl) ?_
  refine z_iconst hx hb dL_law_1763 ?_
  refine z_iadd hx hb dL_law_1764 ?_
  refine z_sld (k := i + 1) hC hS1.1 hX hbl hbA hL2 (by omega) dL_law_1765 ?_
  refine z_fcall hC (z_frV (rest := []) (As := [.int (iI (sx xs (i + 1)))]) (n := 1) (ci := 16) hC hS1.2.1 (met_X13_linesIn l D cs (zfA (mW cs m0 ad v gm) H1) m0 ad v gm (sx xs (i + 1)) N c0 hD hok hv.1 hK (sx_R xs (i + 1))) gv_L_266 hd_X13_linesIn rfl mW_o rfl hl rfl (Nat.le_of_ble_eq_true rfl) ⟨by omega, by omega⟩ ⟨by omega, by omega⟩ dL_law_1766) hS1.2.1 (fun vv F2 H2 locs2 hp hZ1 hfr => ?_)
  obtain ⟨r, rfl, v2, g2, rfl, hok2, hm⟩ := hp
  have hS2 := hS1.aM hZ1 hfr
  clear hfr hZ1
  obtain ⟨hVs, hV6, hVr⟩ := hv.mA hm
  refine lv_istore (lv' := [(7, .int (iI r)), (6, .int (iI k)), (5, .int (iI i)), (0, .ref b), (1, .ref ob), (2, .ref m0), (3, .ref ou), (4, .ref od)]) hx hb dL_law_1769 hl (by decide) rfl (fun ls hl => ?_)
  refine lv_aload_n hx hb dL_law_1771 rfl (lv_at hl 5 rfl) ?_
  refine z_fcall hC (z_frV (rest := []) (As := []) (n := 0) (ci := 16) hC hS2.2.1 (met_X13_thrown l D cs (zfA (mW cs m0 ad v2 g2) H2) m0 ad v2 g2 hD hok2) gv_L_167 hd_X13_thrown rfl mW_o rfl hl rfl (Nat.le_of_ble_eq_true rfl) ⟨by omega, by omega⟩ ⟨by omega, by omega⟩ dL_law_1772) hS2.2.1 (fun vv F3 H3 locs3 hp hZ1 hfr => ?_)
  obtain ⟨r3, rfl, v3, g3, rfl, hokL, rfl, rfl, rfl⟩ := hp
  have hS3 := hS2.aM hZ1 hfr
  clear hfr hZ1
  have hk6 : v2 6 = k := hV6.trans hW.1.symm
  have hkr := hW.2.1
  refine lv_iload hx hb dL_law_1775 (lv_at hl 1 rfl) ?_
  refine z_icmp_eq (tgt := 1782) hx hb dL_law_1777 (by decide) (by omega) (by omega) (fun c9 => ?_) (fun c9 => absurd hk6 c9)
  refine lv_iload hx hb dL_law_1782 (lv_at hl 1 rfl) ?_
  refine z_if_ne (tgt := 1799) hx hb dL_law_1784 (by decide) (by omega) (fun c8 => ?_) (fun c8 => ?_)
  · skip
    refine lv_goto (tgt := 2898) hx hb dL_law_1799 (by decide) ?_
    refine W.widen (k := cells + 110) (n := slots + 1650) (by omega) (by omega) ?_
    exact kk _ _ _ _ _ _ _ _ hS3 ⟨g, sa, so, hL, tx, inp, out, c0, sv, hs, er, fa, (hW.2.2.2 c8), hVs⟩ hokL (lv_sub hl [2, 3, 4, 5, 6, 7] rfl)
  · skip
    have hk0 : k = 0 := by omega
    refine lv_aload_n hx hb dL_law_1787 rfl (lv_at hl 6 rfl) ?_
    refine z_iconst hx hb dL_law_1788 ?_
    refine z_lald hC hS3.2.2.1 z1_s dL_law_1789 ?_
    refine lv_iload hx hb dL_law_1790 (lv_at hl 0 rfl) ?_
    refine lv_i2l hx hb dL_law_1792 rfl ?_
    refine z_lcmp0 hC ((hW.2.2.1 hk0).2.trans (by rw [hVr (hW.1.symm.trans hk0)])) dL_law_1793 ?_
    refine z_if_eq (tgt := 1799) hx hb dL_law_1794 (by decide) (by decide) (fun c7 => ?_) (fun c7 => absurd rfl c7)
    refine lv_goto (tgt := 2898) hx hb dL_law_1799 (by decide) ?_
    refine W.widen (k := cells + 110) (n := slots + 1650) (by omega) (by omega) ?_
    exact kk _ _ _ _ _ _ _ _ hS3 ⟨g, sa, so, hL, tx, inp, out, c0, sv, hs, er, fa, (hW.2.2.1 (by omega)).1, hVs⟩ hokL (lv_sub hl [2, 3, 4, 5, 6, 7] rfl)

set_option maxHeartbeats 4000000 in
set_option maxRecDepth 100000 in
theorem lc_columnOf (hB : lCx l R D cs A p s m args c b L m0 xs ad) (hi : 0 ≤ i ∧ i + 4 ≤ L) (hN : N ≤ 600) (hS : zLS D cs A s H locs m0 ou od ad Fg v gm f fd) (hT : zT2 cs N Fg ob v gm) (hok : mOK v gm) (hl : lv_has ls 9 [(5, .int (iI i)), (0, .ref b), (1, .ref ob), (2, .ref m0), (3, .ref ou), (4, .ref od)]) (hc : cells + 110 ≤ R.cells) (hsl : slots + 1650 ≤ R.slots)
  (kk : ∀ (H1 : Heap) (locs1 : List Loc) (Fg1 : zF) (v1 : Nat → Int) (g1 : Nat → Int → Int) (f1 : Nat → Int64) (fd1 : Nat → UInt64) (ls1 : Array Slot), zLS D cs A s H1 locs1 m0 ou od ad Fg1 v1 g1 f1 fd1 → zT2 cs (N + 1) Fg1 ob v1 g1 → mOK v1 g1 → lv_has ls1 9 [(5, .int (iI i)), (0, .ref b), (1, .ref ob), (2, .ref m0), (3, .ref ou), (4, .ref od)] → W p l e R s m args below meth c H1 locs1 (cells + 110) (slots + 1650) Q (F0 m 2898 ls1 [])) : W p l e R s m args below meth c H locs cells slots Q (F0 m 1802 ls []) := by
  obtain ⟨hC, hlt, hNc, hX, hbl, hbA, hL2, hD, hR1, hR2⟩ := hB
  have hx := hC.x
  have hb := hC.b
  obtain ⟨g, sa, so, hL, tx, inp, out, c0, sv, hs, er, fa, hg, hv⟩ := hT
  have hK := hv.2.1
  have hh8 := hv.2.2.1.2.1
  have htz := hv.2.2.2.2.2.2.1
  have hwi := hK.2.2.2.2.2.2.2.2.1
  have hb13 := hv.2.2.2.2.2.2.2.2.2.2.2.2.1
  have hb14 := hv.2.2.2.2.2.2.2.2.2.2.2.2.2
  refine lv_aload_n hx hb dL_law_1802 rfl (lv_at hl 2 rfl) ?_
  refine lv_aload_n hx hb dL_law_1803 rfl (lv_at hl 1 rfl) ?_
  refine lv_iload hx hb dL_law_1804 (lv_at hl 0 rfl) ?_
  refine z_iconst hx hb dL_law_1806 ?_
  refine z_iadd hx hb dL_law_1807 ?_
  refine z_sld (k := i + 1) hC hS.1 hX hbl hbA hL2 (by omega) dL_law_1808 ?_
  refine lv_aload_n hx hb dL_law_1809 rfl (lv_at hl 1 rfl) ?_
  refine lv_iload hx hb dL_law_1810 (lv_at hl 0 rfl) ?_
  refine z_iconst hx hb dL_law_1812 ?_
  refine z_iadd hx hb dL_law_1813 ?_
  refine z_sld (k := i + 2) hC hS.1 hX hbl hbA hL2 (by omega) dL_law_1814 ?_
  refine lv_aload_n hx hb dL_law_1815 rfl (lv_at hl 4 rfl) ?_
  refine z_fcall hC (z_frW (rest := []) (As := [.ref ob, .int (iI (sx xs (i + 1))), .int (iI (sx xs (i + 2))), .ref ou]) (n := 4) (hh := [((0 : Nat), (10 : Nat), (13 : Nat), (26 : Nat))]) hC hNc hS.w (wr_columnOf l D cs (zfA (zun Fg (z1 ou (zLa cs f))) H) Fg ob ou (sx xs (i + 1)) (sx xs (i + 2)) f hg.1 hS.2.2.2.2.2.1 (fun A1 => met_X12_columnOf l D cs A1 Fg ob g sa so er fa c0 (sx xs (i + 1)) (sx xs (i + 2)) hlt hg.1 hg.st (sx_R xs (i + 1)) (sx_R xs (i + 2))) (fun E F1 q => q.2.2) ) (zgsW qm_L_267 qt_L_columnOf qn_L qc_L_columnOf) he_L_columnOf rfl hl rfl (Nat.le_of_ble_eq_true rfl) ⟨by omega, by omega⟩ ⟨by omega, by omega⟩ dL_law_1816) hS.w (fun vv F1 H1 locs1 hp hZ1 hfr => ?_)
  obtain ⟨k, rfl, hwp⟩ := hp
  obtain ⟨Fg1, f1, rfl, ho1, hW⟩ := w_finP (S1 := (sPos c0 (sx xs (i + 1)) (sx xs (i + 2)) (fun s l => l / iHe s)).1) (S2 := (sPos c0 (sx xs (i + 1)) (sx xs (i + 2)) (fun s l => l / iHe s)).2) (Kn := (fun F1 => gOb cs F1 ob g sa so hL tx inp out c0 sv hs er fa)) (Kx := (fun F1 => gOb cs F1 ob g sa so hL tx inp out c0 sv hs er fa)) hwp (fun r F1 q => ⟨by rw [← q.1]; exact hg, q.2.1, q.2.2⟩) (fun E F1 q => ⟨by rw [← q.1]; exact hg, 0, by decide, by rw [q.2.2]; rfl, q.2.1.trans rfl⟩) (nd_names (by decide))
  clear hwp
  have hS1 := hS.aL hZ1 ho1 hfr
  clear hfr hZ1
  refine lv_istore (lv' := [(6, .int (iI k)), (5, .int (iI i)), (0, .ref b), (1, .ref ob), (2, .ref m0), (3, .ref ou), (4, .ref od)]) hx hb dL_law_1819 hl (by decide) rfl (fun ls hl => ?_)
  refine lv_aload_n hx hb dL_law_1821 rfl (lv_at hl 4 rfl) ?_
  refine lv_aload_n hx hb dL_law_1822 rfl (lv_at hl 2 rfl) ?_
  refine lv_iload hx hb dL_law_1823 (lv_at hl 1 rfl) ?_
  refine z_iconst hx hb dL_law_1825 ?_
  refine z_iadd hx hb dL_law_1826 ?_
  refine z_sld (k := i + 1) hC hS1.1 hX hbl hbA hL2 (by omega) dL_law_1827 ?_
  refine lv_aload_n hx hb dL_law_1828 rfl (lv_at hl 2 rfl) ?_
  refine lv_iload hx hb dL_law_1829 (lv_at hl 1 rfl) ?_
  refine z_iconst hx hb dL_law_1831 ?_
  refine z_iadd hx hb dL_law_1832 ?_
  refine z_sld (k := i + 2) hC hS1.1 hX hbl hbA hL2 (by omega) dL_law_1833 ?_
  refine z_fcall hC (z_frV (rest := []) (As := [.int (iI (sx xs (i + 1))), .int (iI (sx xs (i + 2)))]) (n := 2) (ci := 16) hC hS1.2.1 (met_X13_columnOf l D cs (zfA (mW cs m0 ad v gm) H1) m0 ad v gm (sx xs (i + 1)) (sx xs (i + 2)) N c0 hD hok hv.1 hK (sx_R xs (i + 1)) (sx_R xs (i + 2))) gv_L_269 hd_X13_columnOf rfl mW_o rfl hl rfl (Nat.le_of_ble_eq_true rfl) ⟨by omega, by omega⟩ ⟨by omega, by omega⟩ dL_law_1834) hS1.2.1 (fun vv F2 H2 locs2 hp hZ1 hfr => ?_)
  obtain ⟨r, rfl, v2, g2, rfl, hok2, hm⟩ := hp
  have hS2 := hS1.aM hZ1 hfr
  clear hfr hZ1
  obtain ⟨hVs, hV6, hVr⟩ := hv.mA hm
  refine lv_istore (lv' := [(7, .int (iI r)), (6, .int (iI k)), (5, .int (iI i)), (0, .ref b), (1, .ref ob), (2, .ref m0), (3, .ref ou), (4, .ref od)]) hx hb dL_law_1837 hl (by decide) rfl (fun ls hl => ?_)
  refine lv_aload_n hx hb dL_law_1839 rfl (lv_at hl 5 rfl) ?_
  refine z_fcall hC (z_frV (rest := []) (As := []) (n := 0) (ci := 16) hC hS2.2.1 (met_X13_thrown l D cs (zfA (mW cs m0 ad v2 g2) H2) m0 ad v2 g2 hD hok2) gv_L_167 hd_X13_thrown rfl mW_o rfl hl rfl (Nat.le_of_ble_eq_true rfl) ⟨by omega, by omega⟩ ⟨by omega, by omega⟩ dL_law_1840) hS2.2.1 (fun vv F3 H3 locs3 hp hZ1 hfr => ?_)
  obtain ⟨r3, rfl, v3, g3, rfl, hokL, rfl, rfl, rfl⟩ := hp
  have hS3 := hS2.aM hZ1 hfr
  clear hfr hZ1
  have hk6 : v2 6 = k := hV6.trans hW.1.symm
  have hkr := hW.2.1
  refine lv_iload hx hb dL_law_1843 (lv_at hl 1 rfl) ?_
  refine z_icmp_eq (tgt := 1850) hx hb dL_law_1845 (by decide) (by omega) (by omega) (fun c9 => ?_) (fun c9 => absurd hk6 c9)
  refine lv_iload hx hb dL_law_1850 (lv_at hl 1 rfl) ?_
  refine z_if_ne (tgt := 1867) hx hb dL_law_1852 (by decide) (by omega) (fun c8 => ?_) (fun c8 => ?_)
  · skip
    refine lv_goto (tgt := 2898) hx hb dL_law_1867 (by decide) ?_
    refine W.widen (k := cells + 110) (n := slots + 1650) (by omega) (by omega) ?_
    exact kk _ _ _ _ _ _ _ _ hS3 ⟨g, sa, so, hL, tx, inp, out, c0, sv, hs, er, fa, (hW.2.2.2 c8), hVs⟩ hokL (lv_sub hl [2, 3, 4, 5, 6, 7] rfl)
  · skip
    have hk0 : k = 0 := by omega
    refine lv_aload_n hx hb dL_law_1855 rfl (lv_at hl 6 rfl) ?_
    refine z_iconst hx hb dL_law_1856 ?_
    refine z_lald hC hS3.2.2.1 z1_s dL_law_1857 ?_
    refine lv_iload hx hb dL_law_1858 (lv_at hl 0 rfl) ?_
    refine lv_i2l hx hb dL_law_1860 rfl ?_
    refine z_lcmp0 hC ((hW.2.2.1 hk0).2.trans (by rw [hVr (hW.1.symm.trans hk0)])) dL_law_1861 ?_
    refine z_if_eq (tgt := 1867) hx hb dL_law_1862 (by decide) (by decide) (fun c7 => ?_) (fun c7 => absurd rfl c7)
    refine lv_goto (tgt := 2898) hx hb dL_law_1867 (by decide) ?_
    refine W.widen (k := cells + 110) (n := slots + 1650) (by omega) (by omega) ?_
    exact kk _ _ _ _ _ _ _ _ hS3 ⟨g, sa, so, hL, tx, inp, out, c0, sv, hs, er, fa, (hW.2.2.1 (by omega)).1, hVs⟩ hokL (lv_sub hl [2, 3, 4, 5, 6, 7] rfl)

set_option maxHeartbeats 4000000 in
set_option maxRecDepth 100000 in
theorem lc_rowOf (hB : lCx l R D cs A p s m args c b L m0 xs ad) (hi : 0 ≤ i ∧ i + 4 ≤ L) (hN : N ≤ 600) (hS : zLS D cs A s H locs m0 ou od ad Fg v gm f fd) (hT : zT2 cs N Fg ob v gm) (hok : mOK v gm) (hl : lv_has ls 9 [(5, .int (iI i)), (0, .ref b), (1, .ref ob), (2, .ref m0), (3, .ref ou), (4, .ref od)]) (hc : cells + 110 ≤ R.cells) (hsl : slots + 1650 ≤ R.slots)
  (kk : ∀ (H1 : Heap) (locs1 : List Loc) (Fg1 : zF) (v1 : Nat → Int) (g1 : Nat → Int → Int) (f1 : Nat → Int64) (fd1 : Nat → UInt64) (ls1 : Array Slot), zLS D cs A s H1 locs1 m0 ou od ad Fg1 v1 g1 f1 fd1 → zT2 cs (N + 1) Fg1 ob v1 g1 → mOK v1 g1 → lv_has ls1 9 [(5, .int (iI i)), (0, .ref b), (1, .ref ob), (2, .ref m0), (3, .ref ou), (4, .ref od)] → W p l e R s m args below meth c H1 locs1 (cells + 110) (slots + 1650) Q (F0 m 2898 ls1 [])) : W p l e R s m args below meth c H locs cells slots Q (F0 m 1870 ls []) := by
  obtain ⟨hC, hlt, hNc, hX, hbl, hbA, hL2, hD, hR1, hR2⟩ := hB
  have hx := hC.x
  have hb := hC.b
  obtain ⟨g, sa, so, hL, tx, inp, out, c0, sv, hs, er, fa, hg, hv⟩ := hT
  have hK := hv.2.1
  have hh8 := hv.2.2.1.2.1
  have htz := hv.2.2.2.2.2.2.1
  have hwi := hK.2.2.2.2.2.2.2.2.1
  have hb13 := hv.2.2.2.2.2.2.2.2.2.2.2.2.1
  have hb14 := hv.2.2.2.2.2.2.2.2.2.2.2.2.2
  refine lv_aload_n hx hb dL_law_1870 rfl (lv_at hl 2 rfl) ?_
  refine lv_aload_n hx hb dL_law_1871 rfl (lv_at hl 1 rfl) ?_
  refine lv_iload hx hb dL_law_1872 (lv_at hl 0 rfl) ?_
  refine z_iconst hx hb dL_law_1874 ?_
  refine z_iadd hx hb dL_law_1875 ?_
  refine z_sld (k := i + 1) hC hS.1 hX hbl hbA hL2 (by omega) dL_law_1876 ?_
  refine lv_aload_n hx hb dL_law_1877 rfl (lv_at hl 1 rfl) ?_
  refine lv_iload hx hb dL_law_1878 (lv_at hl 0 rfl) ?_
  refine z_iconst hx hb dL_law_1880 ?_
  refine z_iadd hx hb dL_law_1881 ?_
  refine z_sld (k := i + 2) hC hS.1 hX hbl hbA hL2 (by omega) dL_law_1882 ?_
  refine lv_aload_n hx hb dL_law_1883 rfl (lv_at hl 4 rfl) ?_
  refine z_fcall hC (z_frW (rest := []) (As := [.ref ob, .int (iI (sx xs (i + 1))), .int (iI (sx xs (i + 2))), .ref ou]) (n := 4) (hh := [((0 : Nat), (10 : Nat), (13 : Nat), (26 : Nat))]) hC hNc hS.w (wr_rowOf l D cs (zfA (zun Fg (z1 ou (zLa cs f))) H) Fg ob ou (sx xs (i + 1)) (sx xs (i + 2)) f hg.1 hS.2.2.2.2.2.1 (fun A1 => met_X12_rowOf l D cs A1 Fg ob g sa so er fa c0 (sx xs (i + 1)) (sx xs (i + 2)) hlt hg.1 hg.st (sx_R xs (i + 1)) (sx_R xs (i + 2))) (fun E F1 q => q.2.2) ) (zgsW qm_L_270 qt_L_rowOf qn_L qc_L_rowOf) he_L_rowOf rfl hl rfl (Nat.le_of_ble_eq_true rfl) ⟨by omega, by omega⟩ ⟨by omega, by omega⟩ dL_law_1884) hS.w (fun vv F1 H1 locs1 hp hZ1 hfr => ?_)
  obtain ⟨k, rfl, hwp⟩ := hp
  obtain ⟨Fg1, f1, rfl, ho1, hW⟩ := w_finP (S1 := (sPos c0 (sx xs (i + 1)) (sx xs (i + 2)) (fun s l => l % iHe s)).1) (S2 := (sPos c0 (sx xs (i + 1)) (sx xs (i + 2)) (fun s l => l % iHe s)).2) (Kn := (fun F1 => gOb cs F1 ob g sa so hL tx inp out c0 sv hs er fa)) (Kx := (fun F1 => gOb cs F1 ob g sa so hL tx inp out c0 sv hs er fa)) hwp (fun r F1 q => ⟨by rw [← q.1]; exact hg, q.2.1, q.2.2⟩) (fun E F1 q => ⟨by rw [← q.1]; exact hg, 0, by decide, by rw [q.2.2]; rfl, q.2.1.trans rfl⟩) (nd_names (by decide))
  clear hwp
  have hS1 := hS.aL hZ1 ho1 hfr
  clear hfr hZ1
  refine lv_istore (lv' := [(6, .int (iI k)), (5, .int (iI i)), (0, .ref b), (1, .ref ob), (2, .ref m0), (3, .ref ou), (4, .ref od)]) hx hb dL_law_1887 hl (by decide) rfl (fun ls hl => ?_)
  refine lv_aload_n hx hb dL_law_1889 rfl (lv_at hl 4 rfl) ?_
  refine lv_aload_n hx hb dL_law_1890 rfl (lv_at hl 2 rfl) ?_
  refine lv_iload hx hb dL_law_1891 (lv_at hl 1 rfl) ?_
  refine z_iconst hx hb dL_law_1893 ?_
  refine z_iadd hx hb dL_law_1894 ?_
  refine z_sld (k := i + 1) hC hS1.1 hX hbl hbA hL2 (by omega) dL_law_1895 ?_
  refine lv_aload_n hx hb dL_law_1896 rfl (lv_at hl 2 rfl) ?_
  refine lv_iload hx hb dL_law_1897 (lv_at hl 1 rfl) ?_
  refine z_iconst hx hb dL_law_1899 ?_
  refine z_iadd hx hb dL_law_1900 ?_
  refine z_sld (k := i + 2) hC hS1.1 hX hbl hbA hL2 (by omega) dL_law_1901 ?_
  refine z_fcall hC (z_frV (rest := []) (As := [.int (iI (sx xs (i + 1))), .int (iI (sx xs (i + 2)))]) (n := 2) (ci := 16) hC hS1.2.1 (met_X13_rowOf l D cs (zfA (mW cs m0 ad v gm) H1) m0 ad v gm (sx xs (i + 1)) (sx xs (i + 2)) N c0 hD hok hv.1 hK (sx_R xs (i + 1)) (sx_R xs (i + 2))) gv_L_272 hd_X13_rowOf rfl mW_o rfl hl rfl (Nat.le_of_ble_eq_true rfl) ⟨by omega, by omega⟩ ⟨by omega, by omega⟩ dL_law_1902) hS1.2.1 (fun vv F2 H2 locs2 hp hZ1 hfr => ?_)
  obtain ⟨r, rfl, v2, g2, rfl, hok2, hm⟩ := hp
  have hS2 := hS1.aM hZ1 hfr
  clear hfr hZ1
  obtain ⟨hVs, hV6, hVr⟩ := hv.mA hm
  refine lv_istore (lv' := [(7, .int (iI r)), (6, .int (iI k)), (5, .int (iI i)), (0, .ref b), (1, .ref ob), (2, .ref m0), (3, .ref ou), (4, .ref od)]) hx hb dL_law_1905 hl (by decide) rfl (fun ls hl => ?_)
  refine lv_aload_n hx hb dL_law_1907 rfl (lv_at hl 5 rfl) ?_
  refine z_fcall hC (z_frV (rest := []) (As := []) (n := 0) (ci := 16) hC hS2.2.1 (met_X13_thrown l D cs (zfA (mW cs m0 ad v2 g2) H2) m0 ad v2 g2 hD hok2) gv_L_167 hd_X13_thrown rfl mW_o rfl hl rfl (Nat.le_of_ble_eq_true rfl) ⟨by omega, by omega⟩ ⟨by omega, by omega⟩ dL_law_1908) hS2.2.1 (fun vv F3 H3 locs3 hp hZ1 hfr => ?_)
  obtain ⟨r3, rfl, v3, g3, rfl, hokL, rfl, rfl, rfl⟩ := hp
  have hS3 := hS2.aM hZ1 hfr
  clear hfr hZ1
  have hk6 : v2 6 = k := hV6.trans hW.1.symm
  have hkr := hW.2.1
  refine lv_iload hx hb dL_law_1911 (lv_at hl 1 rfl) ?_
  refine z_icmp_eq (tgt := 1918) hx hb dL_law_1913 (by decide) (by omega) (by omega) (fun c9 => ?_) (fun c9 => absurd hk6 c9)
  refine lv_iload hx hb dL_law_1918 (lv_at hl 1 rfl) ?_
  refine z_if_ne (tgt := 1935) hx hb dL_law_1920 (by decide) (by omega) (fun c8 => ?_) (fun c8 => ?_)
  · skip
    refine lv_goto (tgt := 2898) hx hb dL_law_1935 (by decide) ?_
    refine W.widen (k := cells + 110) (n := slots + 1650) (by omega) (by omega) ?_
    exact kk _ _ _ _ _ _ _ _ hS3 ⟨g, sa, so, hL, tx, inp, out, c0, sv, hs, er, fa, (hW.2.2.2 c8), hVs⟩ hokL (lv_sub hl [2, 3, 4, 5, 6, 7] rfl)
  · skip
    have hk0 : k = 0 := by omega
    refine lv_aload_n hx hb dL_law_1923 rfl (lv_at hl 6 rfl) ?_
    refine z_iconst hx hb dL_law_1924 ?_
    refine z_lald hC hS3.2.2.1 z1_s dL_law_1925 ?_
    refine lv_iload hx hb dL_law_1926 (lv_at hl 0 rfl) ?_
    refine lv_i2l hx hb dL_law_1928 rfl ?_
    refine z_lcmp0 hC ((hW.2.2.1 hk0).2.trans (by rw [hVr (hW.1.symm.trans hk0)])) dL_law_1929 ?_
    refine z_if_eq (tgt := 1935) hx hb dL_law_1930 (by decide) (by decide) (fun c7 => ?_) (fun c7 => absurd rfl c7)
    refine lv_goto (tgt := 2898) hx hb dL_law_1935 (by decide) ?_
    refine W.widen (k := cells + 110) (n := slots + 1650) (by omega) (by omega) ?_
    exact kk _ _ _ _ _ _ _ _ hS3 ⟨g, sa, so, hL, tx, inp, out, c0, sv, hs, er, fa, (hW.2.2.1 (by omega)).1, hVs⟩ hokL (lv_sub hl [2, 3, 4, 5, 6, 7] rfl)

set_option maxHeartbeats 4000000 in
set_option maxRecDepth 100000 in
theorem lc_coverage (hB : lCx l R D cs A p s m args c b L m0 xs ad) (hi : 0 ≤ i ∧ i + 4 ≤ L) (hN : N ≤ 600) (hS : zLS D cs A s H locs m0 ou od ad Fg v gm f fd) (hT : zT2 cs N Fg ob v gm) (hok : mOK v gm) (hl : lv_has ls 9 [(5, .int (iI i)), (0, .ref b), (1, .ref ob), (2, .ref m0), (3, .ref ou), (4, .ref od)]) (hc : cells + 110 ≤ R.cells) (hsl : slots + 1650 ≤ R.slots)
  (kk : ∀ (H1 : Heap) (locs1 : List Loc) (Fg1 : zF) (v1 : Nat → Int) (g1 : Nat → Int → Int) (f1 : Nat → Int64) (fd1 : Nat → UInt64) (ls1 : Array Slot), zLS D cs A s H1 locs1 m0 ou od ad Fg1 v1 g1 f1 fd1 → zT2 cs (N + 1) Fg1 ob v1 g1 → mOK v1 g1 → lv_has ls1 9 [(5, .int (iI i)), (0, .ref b), (1, .ref ob), (2, .ref m0), (3, .ref ou), (4, .ref od)] → W p l e R s m args below meth c H1 locs1 (cells + 110) (slots + 1650) Q (F0 m 2898 ls1 [])) : W p l e R s m args below meth c H locs cells slots Q (F0 m 1938 ls []) := by
  obtain ⟨hC, hlt, hNc, hX, hbl, hbA, hL2, hD, hR1, hR2⟩ := hB
  have hx := hC.x
  have hb := hC.b
  obtain ⟨g, sa, so, hL, tx, inp, out, c0, sv, hs, er, fa, hg, hv⟩ := hT
  have hK := hv.2.1
  have hh8 := hv.2.2.1.2.1
  have htz := hv.2.2.2.2.2.2.1
  have hwi := hK.2.2.2.2.2.2.2.2.1
  have hb13 := hv.2.2.2.2.2.2.2.2.2.2.2.2.1
  have hb14 := hv.2.2.2.2.2.2.2.2.2.2.2.2.2
  refine lv_aload_n hx hb dL_law_1938 rfl (lv_at hl 2 rfl) ?_
  refine lv_aload_n hx hb dL_law_1939 rfl (lv_at hl 1 rfl) ?_
  refine lv_iload hx hb dL_law_1940 (lv_at hl 0 rfl) ?_
  refine z_iconst hx hb dL_law_1942 ?_
  refine z_iadd hx hb dL_law_1943 ?_
  refine z_sld (k := i + 1) hC hS.1 hX hbl hbA hL2 (by omega) dL_law_1944 ?_
  refine lv_aload hx hb dL_law_1945 (lv_at hl 5 rfl) ?_
  refine z_fcall hC (z_frW (rest := []) (As := [.ref ob, .int (iI (sx xs (i + 1))), .ref od]) (n := 3) (hh := [((0 : Nat), (9 : Nat), (12 : Nat), (26 : Nat))]) hC hNc hS.wd (wr_coverage l D cs (zfA (zun Fg (z1 od (zDa cs fd))) H) Fg ob od (sx xs (i + 1)) fd hg.1 hS.2.2.2.2.2.2.1 (fun A1 => met_X12_coverage l D cs A1 Fg ob g sa so er fa c0 (sx xs (i + 1)) hlt hg.1 hg.st (sx_R xs (i + 1))) (fun E F1 q => q.2.2) (fun r F1 q => by rw [← q.2.2]; exact sCv_P hK q.2.1)) (zgsW qm_L_273 qt_L_coverage qn_L qc_L_coverage) he_L_coverage rfl hl rfl (Nat.le_of_ble_eq_true rfl) ⟨by omega, by omega⟩ ⟨by omega, by omega⟩ dL_law_1947) hS.wd (fun vv F1 H1 locs1 hp hZ1 hfr => ?_)
  obtain ⟨k, rfl, hwp⟩ := hp
  obtain ⟨Fg1, f1, rfl, ho1, hW⟩ := w_finDP (S1 := (sCv c0 (sx xs (i + 1))).1) (S2 := (FP.f2d (sCv c0 (sx xs (i + 1))).2)) (Kn := (fun F1 => gOb cs F1 ob g sa so hL tx inp out c0 sv hs er fa)) (Kx := (fun F1 => gOb cs F1 ob g sa so hL tx inp out c0 sv hs er fa)) hwp (fun y F1 q => by
    obtain ⟨r, q, rfl⟩ := q
    exact ⟨by rw [← q.1]; exact hg, q.2.1, by rw [q.2.2]⟩) (fun E F1 q => ⟨by rw [← q.1]; exact hg, 0, by decide, by rw [q.2.2]; rfl, q.2.1.trans rfl⟩) (nd_names (by decide))
  clear hwp
  have hS1 := hS.aD hZ1 ho1 hfr
  clear hfr hZ1
  refine lv_istore (lv' := [(6, .int (iI k)), (5, .int (iI i)), (0, .ref b), (1, .ref ob), (2, .ref m0), (3, .ref ou), (4, .ref od)]) hx hb dL_law_1950 hl (by decide) rfl (fun ls hl => ?_)
  refine lv_aload_n hx hb dL_law_1952 rfl (lv_at hl 4 rfl) ?_
  refine lv_aload_n hx hb dL_law_1953 rfl (lv_at hl 2 rfl) ?_
  refine lv_iload hx hb dL_law_1954 (lv_at hl 1 rfl) ?_
  refine z_iconst hx hb dL_law_1956 ?_
  refine z_iadd hx hb dL_law_1957 ?_
  refine z_sld (k := i + 1) hC hS1.1 hX hbl hbA hL2 (by omega) dL_law_1958 ?_
  refine z_fcall hC (z_frV (rest := []) (As := [.int (iI (sx xs (i + 1)))]) (n := 1) (ci := 16) hC hS1.2.1 (met_X13_coverage l D cs (zfA (mW cs m0 ad v gm) H1) m0 ad v gm (sx xs (i + 1)) N c0 hD hok hv.1 hK (sx_R xs (i + 1))) gv_L_276 hd_X13_coverage rfl mW_o rfl hl rfl (Nat.le_of_ble_eq_true rfl) ⟨by omega, by omega⟩ ⟨by omega, by omega⟩ dL_law_1959) hS1.2.1 (fun vv F2 H2 locs2 hp hZ1 hfr => ?_)
  obtain ⟨r, rfl, v2, g2, rfl, hok2, hm⟩ := hp
  have hS2 := hS1.aM hZ1 hfr
  clear hfr hZ1
  obtain ⟨hVs, hV6, hVr⟩ := hv.mQf hm
  refine lv_fstore (lv' := [(7, .float r), (6, .int (iI k)), (5, .int (iI i)), (0, .ref b), (1, .ref ob), (2, .ref m0), (3, .ref ou), (4, .ref od)]) hx hb dL_law_1962 hl (by decide) rfl (fun ls hl => ?_)
  refine lv_aload_n hx hb dL_law_1964 rfl (lv_at hl 5 rfl) ?_
  refine z_fcall hC (z_frV (rest := []) (As := []) (n := 0) (ci := 16) hC hS2.2.1 (met_X13_thrown l D cs (zfA (mW cs m0 ad v2 g2) H2) m0 ad v2 g2 hD hok2) gv_L_167 hd_X13_thrown rfl mW_o rfl hl rfl (Nat.le_of_ble_eq_true rfl) ⟨by omega, by omega⟩ ⟨by omega, by omega⟩ dL_law_1965) hS2.2.1 (fun vv F3 H3 locs3 hp hZ1 hfr => ?_)
  obtain ⟨r3, rfl, v3, g3, rfl, hokL, rfl, rfl, rfl⟩ := hp
  have hS3 := hS2.aM hZ1 hfr
  clear hfr hZ1
  have hk6 : v2 6 = k := hV6.trans hW.1.symm
  have hkr := hW.2.1
  refine lv_iload hx hb dL_law_1968 (lv_at hl 1 rfl) ?_
  refine z_icmp_eq (tgt := 1975) hx hb dL_law_1970 (by decide) (by omega) (by omega) (fun c9 => ?_) (fun c9 => absurd hk6 c9)
  refine lv_iload hx hb dL_law_1975 (lv_at hl 1 rfl) ?_
  refine z_if_ne (tgt := 2013) hx hb dL_law_1977 (by decide) (by omega) (fun c8 => ?_) (fun c8 => ?_)
  · skip
    refine lv_goto (tgt := 2898) hx hb dL_law_2013 (by decide) ?_
    refine W.widen (k := cells + 110) (n := slots + 1650) (by omega) (by omega) ?_
    exact kk _ _ _ _ _ _ _ _ hS3 ⟨g, sa, so, hL, tx, inp, out, c0, sv, hs, er, fa, (hW.2.2.2 c8), hVs⟩ hokL (lv_sub hl [2, 3, 4, 5, 6, 7] rfl)
  · skip
    have hk0 : k = 0 := by omega
    refine lv_aload hx hb dL_law_1980 (lv_at hl 7 rfl) ?_
    refine z_iconst hx hb dL_law_1982 ?_
    refine z_dald hC hS3.2.2.2.1 z1_s dL_law_1983 ?_
    refine lv_fload hx hb dL_law_1984 (lv_at hl 0 rfl) ?_
    have hrv : r = (sCv c0 (sx xs (i + 1))).2 := hVr (hW.1.symm.trans hk0)
    have hfP : fP r := by rw [hrv]; exact sCv_P hK (hW.1.symm.trans hk0)
    have hfv : f1 0 = FP.f2d r := by rw [hrv]; exact (hW.2.2.1 hk0).2
    refine lv_f2d hx hb dL_law_1986 (vf_of64 (dQ_f2d hfP)) ?_
    rw [hfv]
    refine z_dcmp0 hC (dQ_f2d hfP) dL_law_1987 ?_
    refine z_if_eq (tgt := 2013) hx hb dL_law_1988 (by decide) (by decide) (fun c7 => ?_) (fun c7 => absurd rfl c7)
    refine lv_goto (tgt := 2898) hx hb dL_law_2013 (by decide) ?_
    refine W.widen (k := cells + 110) (n := slots + 1650) (by omega) (by omega) ?_
    exact kk _ _ _ _ _ _ _ _ hS3 ⟨g, sa, so, hL, tx, inp, out, c0, sv, hs, er, fa, (hW.2.2.1 (by omega)).1, hVs⟩ hokL (lv_sub hl [2, 3, 4, 5, 6, 7] rfl)

set_option maxHeartbeats 4000000 in
set_option maxRecDepth 100000 in
theorem lc_passDays (hB : lCx l R D cs A p s m args c b L m0 xs ad) (hi : 0 ≤ i ∧ i + 4 ≤ L) (hN : N ≤ 600) (hS : zLS D cs A s H locs m0 ou od ad Fg v gm f fd) (hT : zT2 cs N Fg ob v gm) (hok : mOK v gm) (hl : lv_has ls 9 [(5, .int (iI i)), (0, .ref b), (1, .ref ob), (2, .ref m0), (3, .ref ou), (4, .ref od)]) (hc : cells + 110 ≤ R.cells) (hsl : slots + 1650 ≤ R.slots)
  (kk : ∀ (H1 : Heap) (locs1 : List Loc) (Fg1 : zF) (v1 : Nat → Int) (g1 : Nat → Int → Int) (f1 : Nat → Int64) (fd1 : Nat → UInt64) (ls1 : Array Slot), zLS D cs A s H1 locs1 m0 ou od ad Fg1 v1 g1 f1 fd1 → zT2 cs (N + 1) Fg1 ob v1 g1 → mOK v1 g1 → lv_has ls1 9 [(5, .int (iI i)), (0, .ref b), (1, .ref ob), (2, .ref m0), (3, .ref ou), (4, .ref od)] → W p l e R s m args below meth c H1 locs1 (cells + 110) (slots + 1650) Q (F0 m 2898 ls1 [])) : W p l e R s m args below meth c H locs cells slots Q (F0 m 2016 ls []) := by
  obtain ⟨hC, hlt, hNc, hX, hbl, hbA, hL2, hD, hR1, hR2⟩ := hB
  have hx := hC.x
  have hb := hC.b
  obtain ⟨g, sa, so, hL, tx, inp, out, c0, sv, hs, er, fa, hg, hv⟩ := hT
  have hK := hv.2.1
  have hh8 := hv.2.2.1.2.1
  have htz := hv.2.2.2.2.2.2.1
  have hwi := hK.2.2.2.2.2.2.2.2.1
  have hb13 := hv.2.2.2.2.2.2.2.2.2.2.2.2.1
  have hb14 := hv.2.2.2.2.2.2.2.2.2.2.2.2.2
  refine lv_aload_n hx hb dL_law_2016 rfl (lv_at hl 2 rfl) ?_
  refine lv_aload_n hx hb dL_law_2017 rfl (lv_at hl 1 rfl) ?_
  refine lv_iload hx hb dL_law_2018 (lv_at hl 0 rfl) ?_
  refine z_iconst hx hb dL_law_2020 ?_
  refine z_iadd hx hb dL_law_2021 ?_
  refine z_sld (k := i + 1) hC hS.1 hX hbl hbA hL2 (by omega) dL_law_2022 ?_
  refine lv_aload_n hx hb dL_law_2023 rfl (lv_at hl 4 rfl) ?_
  refine z_fcall hC (z_frW (rest := []) (As := [.ref ob, .int (iI (sx xs (i + 1))), .ref ou]) (n := 3) (hh := [((0 : Nat), (9 : Nat), (12 : Nat), (13 : Nat))]) hC hNc hS.w (wr_passDays l D cs (zfA (zun Fg (z1 ou (zLa cs f))) H) Fg ob ou (sx xs (i + 1)) f hg.1 hS.2.2.2.2.2.1 (fun A1 => met_X12_passDays l D cs A1 Fg ob g sa so hL tx inp out c0 sv hs er fa (sx xs (i + 1)) N hlt hg (sx_R xs (i + 1)) hK (by omega) hh8) (fun E F1 q => q.2.2) ) (zgsW qm_L_277 qt_L_passDays qn_L qc_L_passDays) he_L_passDays rfl hl rfl (Nat.le_of_ble_eq_true rfl) ⟨by omega, by omega⟩ ⟨by omega, by omega⟩ dL_law_2024) hS.w (fun vv F1 H1 locs1 hp hZ1 hfr => ?_)
  obtain ⟨k, rfl, hwp⟩ := hp
  obtain ⟨Fg1, f1, rfl, ho1, hW⟩ := w_finP (S1 := (sDay c0 (sx xs (i + 1))).1) (S2 := (sDay c0 (sx xs (i + 1))).2.2) (Kn := (fun F1 => ∃ (g1 : Nat → Nat) (sa1 : Nat) (hL1 : List Nat), gOb cs F1 ob g1 sa1 so hL1 tx inp out (sDay c0 (sx xs (i + 1))).2.1 sv (pushH hs c0) er fa)) (Kx := (fun F1 => gOb cs F1 ob g sa so hL tx inp out c0 sv hs er fa)) hwp (fun r F1 q => ⟨q.2.2, q.1, q.2.1⟩) (fun E F1 q => ⟨q.1, 0, by decide, by rw [q.2.2]; rfl, q.2.1.trans rfl⟩) (nd_names (by decide))
  clear hwp
  have hS1 := hS.aL hZ1 ho1 hfr
  clear hfr hZ1
  refine lv_istore (lv' := [(6, .int (iI k)), (5, .int (iI i)), (0, .ref b), (1, .ref ob), (2, .ref m0), (3, .ref ou), (4, .ref od)]) hx hb dL_law_2027 hl (by decide) rfl (fun ls hl => ?_)
  refine lv_aload_n hx hb dL_law_2029 rfl (lv_at hl 4 rfl) ?_
  refine lv_aload_n hx hb dL_law_2030 rfl (lv_at hl 2 rfl) ?_
  refine lv_iload hx hb dL_law_2031 (lv_at hl 1 rfl) ?_
  refine z_iconst hx hb dL_law_2033 ?_
  refine z_iadd hx hb dL_law_2034 ?_
  refine z_sld (k := i + 1) hC hS1.1 hX hbl hbA hL2 (by omega) dL_law_2035 ?_
  refine z_fcall hC (z_frV (rest := []) (As := [.int (iI (sx xs (i + 1)))]) (n := 1) (ci := 16) hC hS1.2.1 (met_X13_passDays l D cs (zfA (mW cs m0 ad v gm) H1) m0 ad v gm (sx xs (i + 1)) hs N c0 hD hok hv.1 hK (sx_R xs (i + 1)) (by omega) hv.2.2.1 hv.2.2.2.1 (sDay_R hK)) gv_L_279 hd_X13_passDays rfl mW_o rfl hl rfl (Nat.le_of_ble_eq_true rfl) ⟨by omega, by omega⟩ ⟨by omega, by omega⟩ dL_law_2036) hS1.2.1 (fun vv F2 H2 locs2 hp hZ1 hfr => ?_)
  obtain ⟨r, rfl, v2, g2, rfl, hok2, hm⟩ := hp
  have hS2 := hS1.aM hZ1 hfr
  clear hfr hZ1
  obtain ⟨hV6, hVr, hVx, hVn⟩ := hv.mC (tx1 := tx) hm (fun k9 hk9 h89 => by exact upN_n (by unfold vK at hk9; omega)) (Or.inl ⟨rfl, upN_n (by decide)⟩) (sDay_K hK)
  refine lv_istore (lv' := [(7, .int (iI r)), (6, .int (iI k)), (5, .int (iI i)), (0, .ref b), (1, .ref ob), (2, .ref m0), (3, .ref ou), (4, .ref od)]) hx hb dL_law_2039 hl (by decide) rfl (fun ls hl => ?_)
  refine lv_aload_n hx hb dL_law_2041 rfl (lv_at hl 5 rfl) ?_
  refine z_fcall hC (z_frV (rest := []) (As := []) (n := 0) (ci := 16) hC hS2.2.1 (met_X13_thrown l D cs (zfA (mW cs m0 ad v2 g2) H2) m0 ad v2 g2 hD hok2) gv_L_167 hd_X13_thrown rfl mW_o rfl hl rfl (Nat.le_of_ble_eq_true rfl) ⟨by omega, by omega⟩ ⟨by omega, by omega⟩ dL_law_2042) hS2.2.1 (fun vv F3 H3 locs3 hp hZ1 hfr => ?_)
  obtain ⟨r3, rfl, v3, g3, rfl, hokL, rfl, rfl, rfl⟩ := hp
  have hS3 := hS2.aM hZ1 hfr
  clear hfr hZ1
  have hk6 : v2 6 = k := hV6.trans hW.1.symm
  have hkr := hW.2.1
  refine lv_iload hx hb dL_law_2045 (lv_at hl 1 rfl) ?_
  refine z_icmp_eq (tgt := 2052) hx hb dL_law_2047 (by decide) (by omega) (by omega) (fun c9 => ?_) (fun c9 => absurd hk6 c9)
  refine lv_iload hx hb dL_law_2052 (lv_at hl 1 rfl) ?_
  refine z_if_ne (tgt := 2069) hx hb dL_law_2054 (by decide) (by omega) (fun c8 => ?_) (fun c8 => ?_)
  · skip
    refine lv_goto (tgt := 2898) hx hb dL_law_2069 (by decide) ?_
    refine W.widen (k := cells + 110) (n := slots + 1650) (by omega) (by omega) ?_
    exact kk _ _ _ _ _ _ _ _ hS3 ⟨g, sa, so, hL, tx, inp, out, c0, sv, hs, er, fa, (hW.2.2.2 c8), (hVx (fun z => c8 (hW.1.trans z)))⟩ hokL (lv_sub hl [2, 3, 4, 5, 6, 7] rfl)
  · skip
    have hk0 : k = 0 := by omega
    refine lv_aload_n hx hb dL_law_2057 rfl (lv_at hl 6 rfl) ?_
    refine z_iconst hx hb dL_law_2058 ?_
    refine z_lald hC hS3.2.2.1 z1_s dL_law_2059 ?_
    refine lv_iload hx hb dL_law_2060 (lv_at hl 0 rfl) ?_
    refine lv_i2l hx hb dL_law_2062 rfl ?_
    refine z_lcmp0 hC ((hW.2.2.1 hk0).2.trans (by rw [hVr (hW.1.symm.trans hk0)])) dL_law_2063 ?_
    refine z_if_eq (tgt := 2069) hx hb dL_law_2064 (by decide) (by decide) (fun c7 => ?_) (fun c7 => absurd rfl c7)
    refine lv_goto (tgt := 2898) hx hb dL_law_2069 (by decide) ?_
    refine W.widen (k := cells + 110) (n := slots + 1650) (by omega) (by omega) ?_
    exact kk _ _ _ _ _ _ _ _ hS3 (let ⟨g9, sa9, hL9, h9⟩ := (hW.2.2.1 (by omega)).1; ⟨g9, sa9, so, hL9, _, inp, out, _, sv, _, er, fa, h9, (hVn (hW.1.symm.trans (show k = 0 by omega)))⟩) hokL (lv_sub hl [2, 3, 4, 5, 6, 7] rfl)

set_option maxHeartbeats 4000000 in
set_option maxRecDepth 100000 in
theorem lc_day (hB : lCx l R D cs A p s m args c b L m0 xs ad) (hi : 0 ≤ i ∧ i + 4 ≤ L) (hN : N ≤ 600) (hS : zLS D cs A s H locs m0 ou od ad Fg v gm f fd) (hT : zT2 cs N Fg ob v gm) (hok : mOK v gm) (hl : lv_has ls 9 [(5, .int (iI i)), (0, .ref b), (1, .ref ob), (2, .ref m0), (3, .ref ou), (4, .ref od)]) (hc : cells + 110 ≤ R.cells) (hsl : slots + 1650 ≤ R.slots)
  (kk : ∀ (H1 : Heap) (locs1 : List Loc) (Fg1 : zF) (v1 : Nat → Int) (g1 : Nat → Int → Int) (f1 : Nat → Int64) (fd1 : Nat → UInt64) (ls1 : Array Slot), zLS D cs A s H1 locs1 m0 ou od ad Fg1 v1 g1 f1 fd1 → zT2 cs (N + 1) Fg1 ob v1 g1 → mOK v1 g1 → lv_has ls1 9 [(5, .int (iI i)), (0, .ref b), (1, .ref ob), (2, .ref m0), (3, .ref ou), (4, .ref od)] → W p l e R s m args below meth c H1 locs1 (cells + 110) (slots + 1650) Q (F0 m 2898 ls1 [])) : W p l e R s m args below meth c H locs cells slots Q (F0 m 2072 ls []) := by
  obtain ⟨hC, hlt, hNc, hX, hbl, hbA, hL2, hD, hR1, hR2⟩ := hB
  have hx := hC.x
  have hb := hC.b
  obtain ⟨g, sa, so, hL, tx, inp, out, c0, sv, hs, er, fa, hg, hv⟩ := hT
  have hK := hv.2.1
  have hh8 := hv.2.2.1.2.1
  have htz := hv.2.2.2.2.2.2.1
  have hwi := hK.2.2.2.2.2.2.2.2.1
  have hb13 := hv.2.2.2.2.2.2.2.2.2.2.2.2.1
  have hb14 := hv.2.2.2.2.2.2.2.2.2.2.2.2.2
  refine lv_aload_n hx hb dL_law_2072 rfl (lv_at hl 2 rfl) ?_
  refine z_fcall hC (z_frV (rest := []) (As := []) (n := 0) (ci := 15) hC hS.1 (met_X12_day l D cs (zfA Fg H) Fg ob g sa so er fa c0 hg.1 hg.st) gv_L_280 hd_X12_day rfl hg.1 rfl hl rfl (Nat.le_of_ble_eq_true rfl) ⟨by omega, by omega⟩ ⟨by omega, by omega⟩ dL_law_2073) hS.1 (fun vv Fg1 H1 locs1 hp hZ1 hfr => ?_)
  obtain ⟨r1, rfl, hq⟩ := hp
  have hS1 := hS.aG hZ1 hfr
  refine lv_aload_n hx hb dL_law_2076 rfl (lv_at hl 3 rfl) ?_
  refine z_fcall hC (z_frV (rest := [.int (iI r1)]) (As := []) (n := 0) (ci := 16) hC hS1.2.1 (met_X13_day l D cs (zfA (mW cs m0 ad v gm) H1) m0 ad v gm hD hok) gv_L_283 hd_X13_day rfl mW_o rfl hl rfl (Nat.le_of_ble_eq_true rfl) ⟨by omega, by omega⟩ ⟨by omega, by omega⟩ dL_law_2077) hS1.2.1 (fun vv F2 H2 locs2 hp hZ1 hfr => ?_)
  obtain ⟨r, rfl, v2, g2, rfl, hokL, hm⟩ := hp
  have hS2 := hS1.aM hZ1 hfr
  obtain ⟨rfl, e1⟩ := hq
  obtain ⟨m1, m2, e2⟩ := hm
  have hgq := hg
  have hzq := hv.up m1 m2
  have e3 := hv.1.2.2.2.2.2.1
  have hrr : r1 = r := by omega
  have hrn : InR r := by have := hK.2.2.2.2.2.2.2.2.2.2.2.1; unfold InR; omega
  refine z_icmp_eq (tgt := 2898) hx hb dL_law_2080 (by decide) (by rw [hrr]; exact hrn) hrn (fun c9 => ?_) (fun c9 => absurd hrr c9)
  refine W.widen (k := cells + 110) (n := slots + 1650) (by omega) (by omega) ?_
  exact kk _ _ _ _ _ _ _ _ hS2 ⟨g, sa, so, hL, tx, inp, out, c0, sv, hs, er, fa, hgq, hzq⟩ hokL (lv_sub hl [0, 1, 2, 3, 4, 5] rfl)

set_option maxHeartbeats 4000000 in
set_option maxRecDepth 100000 in
theorem lc_freshness (hB : lCx l R D cs A p s m args c b L m0 xs ad) (hi : 0 ≤ i ∧ i + 4 ≤ L) (hN : N ≤ 600) (hS : zLS D cs A s H locs m0 ou od ad Fg v gm f fd) (hT : zT2 cs N Fg ob v gm) (hok : mOK v gm) (hl : lv_has ls 9 [(5, .int (iI i)), (0, .ref b), (1, .ref ob), (2, .ref m0), (3, .ref ou), (4, .ref od)]) (hc : cells + 110 ≤ R.cells) (hsl : slots + 1650 ≤ R.slots)
  (kk : ∀ (H1 : Heap) (locs1 : List Loc) (Fg1 : zF) (v1 : Nat → Int) (g1 : Nat → Int → Int) (f1 : Nat → Int64) (fd1 : Nat → UInt64) (ls1 : Array Slot), zLS D cs A s H1 locs1 m0 ou od ad Fg1 v1 g1 f1 fd1 → zT2 cs (N + 1) Fg1 ob v1 g1 → mOK v1 g1 → lv_has ls1 9 [(5, .int (iI i)), (0, .ref b), (1, .ref ob), (2, .ref m0), (3, .ref ou), (4, .ref od)] → W p l e R s m args below meth c H1 locs1 (cells + 110) (slots + 1650) Q (F0 m 2898 ls1 [])) : W p l e R s m args below meth c H locs cells slots Q (F0 m 2085 ls []) := by
  obtain ⟨hC, hlt, hNc, hX, hbl, hbA, hL2, hD, hR1, hR2⟩ := hB
  have hx := hC.x
  have hb := hC.b
  obtain ⟨g, sa, so, hL, tx, inp, out, c0, sv, hs, er, fa, hg, hv⟩ := hT
  have hK := hv.2.1
  have hh8 := hv.2.2.1.2.1
  have htz := hv.2.2.2.2.2.2.1
  have hwi := hK.2.2.2.2.2.2.2.2.1
  have hb13 := hv.2.2.2.2.2.2.2.2.2.2.2.2.1
  have hb14 := hv.2.2.2.2.2.2.2.2.2.2.2.2.2
  refine lv_aload_n hx hb dL_law_2085 rfl (lv_at hl 2 rfl) ?_
  refine lv_aload_n hx hb dL_law_2086 rfl (lv_at hl 1 rfl) ?_
  refine lv_iload hx hb dL_law_2087 (lv_at hl 0 rfl) ?_
  refine z_iconst hx hb dL_law_2089 ?_
  refine z_iadd hx hb dL_law_2090 ?_
  refine z_sld (k := i + 1) hC hS.1 hX hbl hbA hL2 (by omega) dL_law_2091 ?_
  refine lv_aload hx hb dL_law_2092 (lv_at hl 5 rfl) ?_
  refine z_fcall hC (z_frW (rest := []) (As := [.ref ob, .int (iI (sx xs (i + 1))), .ref od]) (n := 3) (hh := [((0 : Nat), (9 : Nat), (12 : Nat), (26 : Nat))]) hC hNc hS.wd (wr_freshness l D cs (zfA (zun Fg (z1 od (zDa cs fd))) H) Fg ob od (sx xs (i + 1)) fd hg.1 hS.2.2.2.2.2.2.1 (fun A1 => met_X12_freshness l D cs A1 Fg ob g sa so er fa c0 (sx xs (i + 1)) hlt hg.1 hg.st (sx_R xs (i + 1))) (fun E F1 q => q.2.2) (fun r F1 q => by rw [← q.2.2]; exact sFr_P q.2.1)) (zgsW qm_L_284 qt_L_freshness qn_L qc_L_freshness) he_L_freshness rfl hl rfl (Nat.le_of_ble_eq_true rfl) ⟨by omega, by omega⟩ ⟨by omega, by omega⟩ dL_law_2094) hS.wd (fun vv F1 H1 locs1 hp hZ1 hfr => ?_)
  obtain ⟨k, rfl, hwp⟩ := hp
  obtain ⟨Fg1, f1, rfl, ho1, hW⟩ := w_finDP (S1 := (sFr c0 (sx xs (i + 1))).1) (S2 := (FP.f2d (sFr c0 (sx xs (i + 1))).2)) (Kn := (fun F1 => gOb cs F1 ob g sa so hL tx inp out c0 sv hs er fa)) (Kx := (fun F1 => gOb cs F1 ob g sa so hL tx inp out c0 sv hs er fa)) hwp (fun y F1 q => by
    obtain ⟨r, q, rfl⟩ := q
    exact ⟨by rw [← q.1]; exact hg, q.2.1, by rw [q.2.2]⟩) (fun E F1 q => ⟨by rw [← q.1]; exact hg, 0, by decide, by rw [q.2.2]; rfl, q.2.1.trans rfl⟩) (nd_names (by decide))
  clear hwp
  have hS1 := hS.aD hZ1 ho1 hfr
  clear hfr hZ1
  refine lv_istore (lv' := [(6, .int (iI k)), (5, .int (iI i)), (0, .ref b), (1, .ref ob), (2, .ref m0), (3, .ref ou), (4, .ref od)]) hx hb dL_law_2097 hl (by decide) rfl (fun ls hl => ?_)
  refine lv_aload_n hx hb dL_law_2099 rfl (lv_at hl 4 rfl) ?_
  refine lv_aload_n hx hb dL_law_2100 rfl (lv_at hl 2 rfl) ?_
  refine lv_iload hx hb dL_law_2101 (lv_at hl 1 rfl) ?_
  refine z_iconst hx hb dL_law_2103 ?_
  refine z_iadd hx hb dL_law_2104 ?_
  refine z_sld (k := i + 1) hC hS1.1 hX hbl hbA hL2 (by omega) dL_law_2105 ?_
  refine z_fcall hC (z_frV (rest := []) (As := [.int (iI (sx xs (i + 1)))]) (n := 1) (ci := 16) hC hS1.2.1 (met_X13_freshness l D cs (zfA (mW cs m0 ad v gm) H1) m0 ad v gm (sx xs (i + 1)) N c0 hD hok hv.1 hK (sx_R xs (i + 1)) (by omega)) gv_L_286 hd_X13_freshness rfl mW_o rfl hl rfl (Nat.le_of_ble_eq_true rfl) ⟨by omega, by omega⟩ ⟨by omega, by omega⟩ dL_law_2106) hS1.2.1 (fun vv F2 H2 locs2 hp hZ1 hfr => ?_)
  obtain ⟨r, rfl, v2, g2, rfl, hok2, hm⟩ := hp
  have hS2 := hS1.aM hZ1 hfr
  clear hfr hZ1
  obtain ⟨hVs, hV6, hVr⟩ := hv.mQf hm
  refine lv_fstore (lv' := [(7, .float r), (6, .int (iI k)), (5, .int (iI i)), (0, .ref b), (1, .ref ob), (2, .ref m0), (3, .ref ou), (4, .ref od)]) hx hb dL_law_2109 hl (by decide) rfl (fun ls hl => ?_)
  refine lv_aload_n hx hb dL_law_2111 rfl (lv_at hl 5 rfl) ?_
  refine z_fcall hC (z_frV (rest := []) (As := []) (n := 0) (ci := 16) hC hS2.2.1 (met_X13_thrown l D cs (zfA (mW cs m0 ad v2 g2) H2) m0 ad v2 g2 hD hok2) gv_L_167 hd_X13_thrown rfl mW_o rfl hl rfl (Nat.le_of_ble_eq_true rfl) ⟨by omega, by omega⟩ ⟨by omega, by omega⟩ dL_law_2112) hS2.2.1 (fun vv F3 H3 locs3 hp hZ1 hfr => ?_)
  obtain ⟨r3, rfl, v3, g3, rfl, hokL, rfl, rfl, rfl⟩ := hp
  have hS3 := hS2.aM hZ1 hfr
  clear hfr hZ1
  have hk6 : v2 6 = k := hV6.trans hW.1.symm
  have hkr := hW.2.1
  refine lv_iload hx hb dL_law_2115 (lv_at hl 1 rfl) ?_
  refine z_icmp_eq (tgt := 2122) hx hb dL_law_2117 (by decide) (by omega) (by omega) (fun c9 => ?_) (fun c9 => absurd hk6 c9)
  refine lv_iload hx hb dL_law_2122 (lv_at hl 1 rfl) ?_
  refine z_if_ne (tgt := 2160) hx hb dL_law_2124 (by decide) (by omega) (fun c8 => ?_) (fun c8 => ?_)
  · skip
    refine lv_goto (tgt := 2898) hx hb dL_law_2160 (by decide) ?_
    refine W.widen (k := cells + 110) (n := slots + 1650) (by omega) (by omega) ?_
    exact kk _ _ _ _ _ _ _ _ hS3 ⟨g, sa, so, hL, tx, inp, out, c0, sv, hs, er, fa, (hW.2.2.2 c8), hVs⟩ hokL (lv_sub hl [2, 3, 4, 5, 6, 7] rfl)
  · skip
    have hk0 : k = 0 := by omega
    refine lv_aload hx hb dL_law_2127 (lv_at hl 7 rfl) ?_
    refine z_iconst hx hb dL_law_2129 ?_
    refine z_dald hC hS3.2.2.2.1 z1_s dL_law_2130 ?_
    refine lv_fload hx hb dL_law_2131 (lv_at hl 0 rfl) ?_
    have hrv : r = (sFr c0 (sx xs (i + 1))).2 := hVr (hW.1.symm.trans hk0)
    have hfP : fP r := by rw [hrv]; exact sFr_P (hW.1.symm.trans hk0)
    have hfv : f1 0 = FP.f2d r := by rw [hrv]; exact (hW.2.2.1 hk0).2
    refine lv_f2d hx hb dL_law_2133 (vf_of64 (dQ_f2d hfP)) ?_
    rw [hfv]
    refine z_dcmp0 hC (dQ_f2d hfP) dL_law_2134 ?_
    refine z_if_eq (tgt := 2160) hx hb dL_law_2135 (by decide) (by decide) (fun c7 => ?_) (fun c7 => absurd rfl c7)
    refine lv_goto (tgt := 2898) hx hb dL_law_2160 (by decide) ?_
    refine W.widen (k := cells + 110) (n := slots + 1650) (by omega) (by omega) ?_
    exact kk _ _ _ _ _ _ _ _ hS3 ⟨g, sa, so, hL, tx, inp, out, c0, sv, hs, er, fa, (hW.2.2.1 (by omega)).1, hVs⟩ hokL (lv_sub hl [2, 3, 4, 5, 6, 7] rfl)

set_option maxHeartbeats 4000000 in
set_option maxRecDepth 100000 in
theorem lc_freshnessBits (hB : lCx l R D cs A p s m args c b L m0 xs ad) (hi : 0 ≤ i ∧ i + 4 ≤ L) (hN : N ≤ 600) (hS : zLS D cs A s H locs m0 ou od ad Fg v gm f fd) (hT : zT2 cs N Fg ob v gm) (hok : mOK v gm) (hl : lv_has ls 9 [(5, .int (iI i)), (0, .ref b), (1, .ref ob), (2, .ref m0), (3, .ref ou), (4, .ref od)]) (hc : cells + 110 ≤ R.cells) (hsl : slots + 1650 ≤ R.slots)
  (kk : ∀ (H1 : Heap) (locs1 : List Loc) (Fg1 : zF) (v1 : Nat → Int) (g1 : Nat → Int → Int) (f1 : Nat → Int64) (fd1 : Nat → UInt64) (ls1 : Array Slot), zLS D cs A s H1 locs1 m0 ou od ad Fg1 v1 g1 f1 fd1 → zT2 cs (N + 1) Fg1 ob v1 g1 → mOK v1 g1 → lv_has ls1 9 [(5, .int (iI i)), (0, .ref b), (1, .ref ob), (2, .ref m0), (3, .ref ou), (4, .ref od)] → W p l e R s m args below meth c H1 locs1 (cells + 110) (slots + 1650) Q (F0 m 2898 ls1 [])) : W p l e R s m args below meth c H locs cells slots Q (F0 m 2163 ls []) := by
  obtain ⟨hC, hlt, hNc, hX, hbl, hbA, hL2, hD, hR1, hR2⟩ := hB
  have hx := hC.x
  have hb := hC.b
  obtain ⟨g, sa, so, hL, tx, inp, out, c0, sv, hs, er, fa, hg, hv⟩ := hT
  have hK := hv.2.1
  have hh8 := hv.2.2.1.2.1
  have htz := hv.2.2.2.2.2.2.1
  have hwi := hK.2.2.2.2.2.2.2.2.1
  have hb13 := hv.2.2.2.2.2.2.2.2.2.2.2.2.1
  have hb14 := hv.2.2.2.2.2.2.2.2.2.2.2.2.2
  refine lv_aload_n hx hb dL_law_2163 rfl (lv_at hl 2 rfl) ?_
  refine lv_aload_n hx hb dL_law_2164 rfl (lv_at hl 1 rfl) ?_
  refine lv_iload hx hb dL_law_2165 (lv_at hl 0 rfl) ?_
  refine z_iconst hx hb dL_law_2167 ?_
  refine z_iadd hx hb dL_law_2168 ?_
  refine z_sld (k := i + 1) hC hS.1 hX hbl hbA hL2 (by omega) dL_law_2169 ?_
  refine lv_aload_n hx hb dL_law_2170 rfl (lv_at hl 4 rfl) ?_
  refine z_fcall hC (z_frW (rest := []) (As := [.ref ob, .int (iI (sx xs (i + 1))), .ref ou]) (n := 3) (hh := [((0 : Nat), (9 : Nat), (12 : Nat), (26 : Nat))]) hC hNc hS.w (wr_freshnessBits l D cs (zfA (zun Fg (z1 ou (zLa cs f))) H) Fg ob ou (sx xs (i + 1)) f hg.1 hS.2.2.2.2.2.1 (fun A1 => met_X12_freshnessBits l D cs A1 Fg ob g sa so er fa c0 (sx xs (i + 1)) hlt hg.1 hg.st (sx_R xs (i + 1))) (fun E F1 q => q.2.2) ) (zgsW qm_L_287 qt_L_freshnessBits qn_L qc_L_freshnessBits) he_L_freshnessBits rfl hl rfl (Nat.le_of_ble_eq_true rfl) ⟨by omega, by omega⟩ ⟨by omega, by omega⟩ dL_law_2171) hS.w (fun vv F1 H1 locs1 hp hZ1 hfr => ?_)
  obtain ⟨k, rfl, hwp⟩ := hp
  obtain ⟨Fg1, f1, rfl, ho1, hW⟩ := w_finP (S1 := (sFB c0 (sx xs (i + 1))).1) (S2 := (sFB c0 (sx xs (i + 1))).2) (Kn := (fun F1 => gOb cs F1 ob g sa so hL tx inp out c0 sv hs er fa)) (Kx := (fun F1 => gOb cs F1 ob g sa so hL tx inp out c0 sv hs er fa)) hwp (fun r F1 q => ⟨by rw [← q.1]; exact hg, q.2.1, q.2.2⟩) (fun E F1 q => ⟨by rw [← q.1]; exact hg, 0, by decide, by rw [q.2.2]; rfl, q.2.1.trans rfl⟩) (nd_names (by decide))
  clear hwp
  have hS1 := hS.aL hZ1 ho1 hfr
  clear hfr hZ1
  refine lv_istore (lv' := [(6, .int (iI k)), (5, .int (iI i)), (0, .ref b), (1, .ref ob), (2, .ref m0), (3, .ref ou), (4, .ref od)]) hx hb dL_law_2174 hl (by decide) rfl (fun ls hl => ?_)
  refine lv_aload_n hx hb dL_law_2176 rfl (lv_at hl 4 rfl) ?_
  refine lv_aload_n hx hb dL_law_2177 rfl (lv_at hl 2 rfl) ?_
  refine lv_iload hx hb dL_law_2178 (lv_at hl 1 rfl) ?_
  refine z_iconst hx hb dL_law_2180 ?_
  refine z_iadd hx hb dL_law_2181 ?_
  refine z_sld (k := i + 1) hC hS1.1 hX hbl hbA hL2 (by omega) dL_law_2182 ?_
  refine z_fcall hC (z_frV (rest := []) (As := [.int (iI (sx xs (i + 1)))]) (n := 1) (ci := 16) hC hS1.2.1 (met_X13_freshnessBits l D cs (zfA (mW cs m0 ad v gm) H1) m0 ad v gm (sx xs (i + 1)) N c0 hD hok hv.1 hK (sx_R xs (i + 1)) (by omega)) gv_L_289 hd_X13_freshnessBits rfl mW_o rfl hl rfl (Nat.le_of_ble_eq_true rfl) ⟨by omega, by omega⟩ ⟨by omega, by omega⟩ dL_law_2183) hS1.2.1 (fun vv F2 H2 locs2 hp hZ1 hfr => ?_)
  obtain ⟨r, rfl, v2, g2, rfl, hok2, hm⟩ := hp
  have hS2 := hS1.aM hZ1 hfr
  clear hfr hZ1
  obtain ⟨hVs, hV6, hVr⟩ := hv.mA hm
  refine lv_istore (lv' := [(7, .int (iI r)), (6, .int (iI k)), (5, .int (iI i)), (0, .ref b), (1, .ref ob), (2, .ref m0), (3, .ref ou), (4, .ref od)]) hx hb dL_law_2186 hl (by decide) rfl (fun ls hl => ?_)
  refine lv_aload_n hx hb dL_law_2188 rfl (lv_at hl 5 rfl) ?_
  refine z_fcall hC (z_frV (rest := []) (As := []) (n := 0) (ci := 16) hC hS2.2.1 (met_X13_thrown l D cs (zfA (mW cs m0 ad v2 g2) H2) m0 ad v2 g2 hD hok2) gv_L_167 hd_X13_thrown rfl mW_o rfl hl rfl (Nat.le_of_ble_eq_true rfl) ⟨by omega, by omega⟩ ⟨by omega, by omega⟩ dL_law_2189) hS2.2.1 (fun vv F3 H3 locs3 hp hZ1 hfr => ?_)
  obtain ⟨r3, rfl, v3, g3, rfl, hokL, rfl, rfl, rfl⟩ := hp
  have hS3 := hS2.aM hZ1 hfr
  clear hfr hZ1
  have hk6 : v2 6 = k := hV6.trans hW.1.symm
  have hkr := hW.2.1
  refine lv_iload hx hb dL_law_2192 (lv_at hl 1 rfl) ?_
  refine z_icmp_eq (tgt := 2199) hx hb dL_law_2194 (by decide) (by omega) (by omega) (fun c9 => ?_) (fun c9 => absurd hk6 c9)
  refine lv_iload hx hb dL_law_2199 (lv_at hl 1 rfl) ?_
  refine z_if_ne (tgt := 2216) hx hb dL_law_2201 (by decide) (by omega) (fun c8 => ?_) (fun c8 => ?_)
  · skip
    refine lv_goto (tgt := 2898) hx hb dL_law_2216 (by decide) ?_
    refine W.widen (k := cells + 110) (n := slots + 1650) (by omega) (by omega) ?_
    exact kk _ _ _ _ _ _ _ _ hS3 ⟨g, sa, so, hL, tx, inp, out, c0, sv, hs, er, fa, (hW.2.2.2 c8), hVs⟩ hokL (lv_sub hl [2, 3, 4, 5, 6, 7] rfl)
  · skip
    have hk0 : k = 0 := by omega
    refine lv_aload_n hx hb dL_law_2204 rfl (lv_at hl 6 rfl) ?_
    refine z_iconst hx hb dL_law_2205 ?_
    refine z_lald hC hS3.2.2.1 z1_s dL_law_2206 ?_
    refine lv_iload hx hb dL_law_2207 (lv_at hl 0 rfl) ?_
    refine lv_i2l hx hb dL_law_2209 rfl ?_
    refine z_lcmp0 hC ((hW.2.2.1 hk0).2.trans (by rw [hVr (hW.1.symm.trans hk0)])) dL_law_2210 ?_
    refine z_if_eq (tgt := 2216) hx hb dL_law_2211 (by decide) (by decide) (fun c7 => ?_) (fun c7 => absurd rfl c7)
    refine lv_goto (tgt := 2898) hx hb dL_law_2216 (by decide) ?_
    refine W.widen (k := cells + 110) (n := slots + 1650) (by omega) (by omega) ?_
    exact kk _ _ _ _ _ _ _ _ hS3 ⟨g, sa, so, hL, tx, inp, out, c0, sv, hs, er, fa, (hW.2.2.1 (by omega)).1, hVs⟩ hokL (lv_sub hl [2, 3, 4, 5, 6, 7] rfl)

set_option maxHeartbeats 4000000 in
set_option maxRecDepth 100000 in
theorem lc_isReadable (hB : lCx l R D cs A p s m args c b L m0 xs ad) (hi : 0 ≤ i ∧ i + 4 ≤ L) (hN : N ≤ 600) (hS : zLS D cs A s H locs m0 ou od ad Fg v gm f fd) (hT : zT2 cs N Fg ob v gm) (hok : mOK v gm) (hl : lv_has ls 9 [(5, .int (iI i)), (0, .ref b), (1, .ref ob), (2, .ref m0), (3, .ref ou), (4, .ref od)]) (hc : cells + 110 ≤ R.cells) (hsl : slots + 1650 ≤ R.slots)
  (kk : ∀ (H1 : Heap) (locs1 : List Loc) (Fg1 : zF) (v1 : Nat → Int) (g1 : Nat → Int → Int) (f1 : Nat → Int64) (fd1 : Nat → UInt64) (ls1 : Array Slot), zLS D cs A s H1 locs1 m0 ou od ad Fg1 v1 g1 f1 fd1 → zT2 cs (N + 1) Fg1 ob v1 g1 → mOK v1 g1 → lv_has ls1 9 [(5, .int (iI i)), (0, .ref b), (1, .ref ob), (2, .ref m0), (3, .ref ou), (4, .ref od)] → W p l e R s m args below meth c H1 locs1 (cells + 110) (slots + 1650) Q (F0 m 2898 ls1 [])) : W p l e R s m args below meth c H locs cells slots Q (F0 m 2219 ls []) := by
  obtain ⟨hC, hlt, hNc, hX, hbl, hbA, hL2, hD, hR1, hR2⟩ := hB
  have hx := hC.x
  have hb := hC.b
  obtain ⟨g, sa, so, hL, tx, inp, out, c0, sv, hs, er, fa, hg, hv⟩ := hT
  have hK := hv.2.1
  have hh8 := hv.2.2.1.2.1
  have htz := hv.2.2.2.2.2.2.1
  have hwi := hK.2.2.2.2.2.2.2.2.1
  have hb13 := hv.2.2.2.2.2.2.2.2.2.2.2.2.1
  have hb14 := hv.2.2.2.2.2.2.2.2.2.2.2.2.2
  refine lv_aload_n hx hb dL_law_2219 rfl (lv_at hl 2 rfl) ?_
  refine lv_aload_n hx hb dL_law_2220 rfl (lv_at hl 1 rfl) ?_
  refine lv_iload hx hb dL_law_2221 (lv_at hl 0 rfl) ?_
  refine z_iconst hx hb dL_law_2223 ?_
  refine z_iadd hx hb dL_law_2224 ?_
  refine z_sld (k := i + 1) hC hS.1 hX hbl hbA hL2 (by omega) dL_law_2225 ?_
  refine lv_aload_n hx hb dL_law_2226 rfl (lv_at hl 4 rfl) ?_
  refine z_fcall hC (z_frW (rest := []) (As := [.ref ob, .int (iI (sx xs (i + 1))), .ref ou]) (n := 3) (hh := [((0 : Nat), (16 : Nat), (19 : Nat), (26 : Nat))]) hC hNc hS.w (wr_isReadable l D cs (zfA (zun Fg (z1 ou (zLa cs f))) H) Fg ob ou (sx xs (i + 1)) f hg.1 hS.2.2.2.2.2.1 (fun A1 => met_X12_isReadable l D cs A1 Fg ob g sa so er fa c0 (sx xs (i + 1)) N hlt hg.1 hg.st (sx_R xs (i + 1)) hK (by omega)) (fun E F1 q => q.2.2) (fun r F1 q => by rw [← q.2.2]; exact sIss_01)) (zgsW qm_L_290 qt_L_isReadable qn_L qc_L_isReadable) he_L_isReadable rfl hl rfl (Nat.le_of_ble_eq_true rfl) ⟨by omega, by omega⟩ ⟨by omega, by omega⟩ dL_law_2227) hS.w (fun vv F1 H1 locs1 hp hZ1 hfr => ?_)
  obtain ⟨k, rfl, hwp⟩ := hp
  obtain ⟨Fg1, f1, rfl, ho1, hW⟩ := w_finP (S1 := (sIss c0 (sx xs (i + 1)) (fun s => if cDa c0 - iPr s < 5 then 1 else 0)).1) (S2 := (sIss c0 (sx xs (i + 1)) (fun s => if cDa c0 - iPr s < 5 then 1 else 0)).2) (Kn := (fun F1 => gOb cs F1 ob g sa so hL tx inp out c0 sv hs er fa)) (Kx := (fun F1 => gOb cs F1 ob g sa so hL tx inp out c0 sv hs er fa)) hwp (fun r F1 q => ⟨by rw [← q.1]; exact hg, q.2.1, q.2.2⟩) (fun E F1 q => ⟨by rw [← q.1]; exact hg, 0, by decide, by rw [q.2.2]; rfl, q.2.1.trans rfl⟩) (nd_names (by decide))
  clear hwp
  have hS1 := hS.aL hZ1 ho1 hfr
  clear hfr hZ1
  refine lv_istore (lv' := [(6, .int (iI k)), (5, .int (iI i)), (0, .ref b), (1, .ref ob), (2, .ref m0), (3, .ref ou), (4, .ref od)]) hx hb dL_law_2230 hl (by decide) rfl (fun ls hl => ?_)
  refine lv_aload_n hx hb dL_law_2232 rfl (lv_at hl 4 rfl) ?_
  refine lv_aload_n hx hb dL_law_2233 rfl (lv_at hl 2 rfl) ?_
  refine lv_iload hx hb dL_law_2234 (lv_at hl 1 rfl) ?_
  refine z_iconst hx hb dL_law_2236 ?_
  refine z_iadd hx hb dL_law_2237 ?_
  refine z_sld (k := i + 1) hC hS1.1 hX hbl hbA hL2 (by omega) dL_law_2238 ?_
  refine z_fcall hC (z_frV (rest := []) (As := [.int (iI (sx xs (i + 1)))]) (n := 1) (ci := 16) hC hS1.2.1 (met_X13_isReadable l D cs (zfA (mW cs m0 ad v gm) H1) m0 ad v gm (sx xs (i + 1)) N c0 hD hok hv.1 hK (sx_R xs (i + 1)) (by omega)) gv_L_292 hd_X13_isReadable rfl mW_o rfl hl rfl (Nat.le_of_ble_eq_true rfl) ⟨by omega, by omega⟩ ⟨by omega, by omega⟩ dL_law_2239) hS1.2.1 (fun vv F2 H2 locs2 hp hZ1 hfr => ?_)
  obtain ⟨r, rfl, v2, g2, rfl, hok2, hm⟩ := hp
  have hS2 := hS1.aM hZ1 hfr
  clear hfr hZ1
  obtain ⟨hVs, hV6, hVr⟩ := hv.mA hm
  refine lv_istore (lv' := [(7, .int (iI r)), (6, .int (iI k)), (5, .int (iI i)), (0, .ref b), (1, .ref ob), (2, .ref m0), (3, .ref ou), (4, .ref od)]) hx hb dL_law_2242 hl (by decide) rfl (fun ls hl => ?_)
  refine lv_aload_n hx hb dL_law_2244 rfl (lv_at hl 5 rfl) ?_
  refine z_fcall hC (z_frV (rest := []) (As := []) (n := 0) (ci := 16) hC hS2.2.1 (met_X13_thrown l D cs (zfA (mW cs m0 ad v2 g2) H2) m0 ad v2 g2 hD hok2) gv_L_167 hd_X13_thrown rfl mW_o rfl hl rfl (Nat.le_of_ble_eq_true rfl) ⟨by omega, by omega⟩ ⟨by omega, by omega⟩ dL_law_2245) hS2.2.1 (fun vv F3 H3 locs3 hp hZ1 hfr => ?_)
  obtain ⟨r3, rfl, v3, g3, rfl, hokL, rfl, rfl, rfl⟩ := hp
  have hS3 := hS2.aM hZ1 hfr
  clear hfr hZ1
  have hk6 : v2 6 = k := hV6.trans hW.1.symm
  have hkr := hW.2.1
  refine lv_iload hx hb dL_law_2248 (lv_at hl 1 rfl) ?_
  refine z_icmp_eq (tgt := 2255) hx hb dL_law_2250 (by decide) (by omega) (by omega) (fun c9 => ?_) (fun c9 => absurd hk6 c9)
  refine lv_iload hx hb dL_law_2255 (lv_at hl 1 rfl) ?_
  refine z_if_ne (tgt := 2279) hx hb dL_law_2257 (by decide) (by omega) (fun c8 => ?_) (fun c8 => ?_)
  · skip
    refine lv_goto (tgt := 2898) hx hb dL_law_2279 (by decide) ?_
    refine W.widen (k := cells + 110) (n := slots + 1650) (by omega) (by omega) ?_
    exact kk _ _ _ _ _ _ _ _ hS3 ⟨g, sa, so, hL, tx, inp, out, c0, sv, hs, er, fa, (hW.2.2.2 c8), hVs⟩ hokL (lv_sub hl [2, 3, 4, 5, 6, 7] rfl)
  · skip
    have hk0 : k = 0 := by omega
    refine lv_aload_n hx hb dL_law_2260 rfl (lv_at hl 6 rfl) ?_
    refine z_iconst hx hb dL_law_2261 ?_
    refine z_lald hC hS3.2.2.1 z1_s dL_law_2262 ?_
    refine lv_iload hx hb dL_law_2263 (lv_at hl 0 rfl) ?_
    have hrv : r = (sIss c0 (sx xs (i + 1)) (fun s => if cDa c0 - iPr s < 5 then 1 else 0)).2 := hVr (hW.1.symm.trans hk0)
    have hfv : f1 0 = (iI (sIss c0 (sx xs (i + 1)) (fun s => if cDa c0 - iPr s < 5 then 1 else 0)).2).toInt64 := (hW.2.2.1 hk0).2
    have h01 : (sIss c0 (sx xs (i + 1)) (fun s => if cDa c0 - iPr s < 5 then 1 else 0)).2 = 0 ∨ (sIss c0 (sx xs (i + 1)) (fun s => if cDa c0 - iPr s < 5 then 1 else 0)).2 = 1 := sIss_01
    rw [← hrv] at hfv h01
    have hrr : -2147483648 ≤ r ∧ r ≤ 2147483647 := by omega
    refine z_if_eq (tgt := 2272) hx hb dL_law_2265 (by decide) hrr (fun c7 => ?_) (fun c7 => ?_)
    · skip
      refine lv_lconst hx hb dL_law_2272 rfl ?_
      refine z_lcmp0 hC (hfv.trans (by rw [show r = 0 by omega]; rfl)) dL_law_2273 ?_
      refine z_if_eq (tgt := 2279) hx hb dL_law_2274 (by decide) (by decide) (fun c7 => ?_) (fun c7 => absurd rfl c7)
      refine lv_goto (tgt := 2898) hx hb dL_law_2279 (by decide) ?_
      refine W.widen (k := cells + 110) (n := slots + 1650) (by omega) (by omega) ?_
      exact kk _ _ _ _ _ _ _ _ hS3 ⟨g, sa, so, hL, tx, inp, out, c0, sv, hs, er, fa, (hW.2.2.1 (by omega)).1, hVs⟩ hokL (lv_sub hl [2, 3, 4, 5, 6, 7] rfl)
    · skip
      refine lv_lconst hx hb dL_law_2268 rfl ?_
      refine lv_goto (tgt := 2273) hx hb dL_law_2269 (by decide) ?_
      refine z_lcmp0 hC (hfv.trans (by rw [show r = 1 by omega]; rfl)) dL_law_2273 ?_
      refine z_if_eq (tgt := 2279) hx hb dL_law_2274 (by decide) (by decide) (fun c7 => ?_) (fun c7 => absurd rfl c7)
      refine lv_goto (tgt := 2898) hx hb dL_law_2279 (by decide) ?_
      refine W.widen (k := cells + 110) (n := slots + 1650) (by omega) (by omega) ?_
      exact kk _ _ _ _ _ _ _ _ hS3 ⟨g, sa, so, hL, tx, inp, out, c0, sv, hs, er, fa, (hW.2.2.1 (by omega)).1, hVs⟩ hokL (lv_sub hl [2, 3, 4, 5, 6, 7] rfl)

set_option maxHeartbeats 4000000 in
set_option maxRecDepth 100000 in
theorem lc_daysUntilUnreadable (hB : lCx l R D cs A p s m args c b L m0 xs ad) (hi : 0 ≤ i ∧ i + 4 ≤ L) (hN : N ≤ 600) (hS : zLS D cs A s H locs m0 ou od ad Fg v gm f fd) (hT : zT2 cs N Fg ob v gm) (hok : mOK v gm) (hl : lv_has ls 9 [(5, .int (iI i)), (0, .ref b), (1, .ref ob), (2, .ref m0), (3, .ref ou), (4, .ref od)]) (hc : cells + 110 ≤ R.cells) (hsl : slots + 1650 ≤ R.slots)
  (kk : ∀ (H1 : Heap) (locs1 : List Loc) (Fg1 : zF) (v1 : Nat → Int) (g1 : Nat → Int → Int) (f1 : Nat → Int64) (fd1 : Nat → UInt64) (ls1 : Array Slot), zLS D cs A s H1 locs1 m0 ou od ad Fg1 v1 g1 f1 fd1 → zT2 cs (N + 1) Fg1 ob v1 g1 → mOK v1 g1 → lv_has ls1 9 [(5, .int (iI i)), (0, .ref b), (1, .ref ob), (2, .ref m0), (3, .ref ou), (4, .ref od)] → W p l e R s m args below meth c H1 locs1 (cells + 110) (slots + 1650) Q (F0 m 2898 ls1 [])) : W p l e R s m args below meth c H locs cells slots Q (F0 m 2282 ls []) := by
  obtain ⟨hC, hlt, hNc, hX, hbl, hbA, hL2, hD, hR1, hR2⟩ := hB
  have hx := hC.x
  have hb := hC.b
  obtain ⟨g, sa, so, hL, tx, inp, out, c0, sv, hs, er, fa, hg, hv⟩ := hT
  have hK := hv.2.1
  have hh8 := hv.2.2.1.2.1
  have htz := hv.2.2.2.2.2.2.1
  have hwi := hK.2.2.2.2.2.2.2.2.1
  have hb13 := hv.2.2.2.2.2.2.2.2.2.2.2.2.1
  have hb14 := hv.2.2.2.2.2.2.2.2.2.2.2.2.2
  refine lv_aload_n hx hb dL_law_2282 rfl (lv_at hl 2 rfl) ?_
  refine lv_aload_n hx hb dL_law_2283 rfl (lv_at hl 1 rfl) ?_
  refine lv_iload hx hb dL_law_2284 (lv_at hl 0 rfl) ?_
  refine z_iconst hx hb dL_law_2286 ?_
  refine z_iadd hx hb dL_law_2287 ?_
  refine z_sld (k := i + 1) hC hS.1 hX hbl hbA hL2 (by omega) dL_law_2288 ?_
  refine lv_aload_n hx hb dL_law_2289 rfl (lv_at hl 4 rfl) ?_
  refine z_fcall hC (z_frW (rest := []) (As := [.ref ob, .int (iI (sx xs (i + 1))), .ref ou]) (n := 3) (hh := [((0 : Nat), (9 : Nat), (12 : Nat), (26 : Nat))]) hC hNc hS.w (wr_daysUntilUnreadable l D cs (zfA (zun Fg (z1 ou (zLa cs f))) H) Fg ob ou (sx xs (i + 1)) f hg.1 hS.2.2.2.2.2.1 (fun A1 => met_X12_daysUntilUnreadable l D cs A1 Fg ob g sa so er fa c0 (sx xs (i + 1)) N hlt hg.1 hg.st (sx_R xs (i + 1)) hK (by omega)) (fun E F1 q => q.2.2) ) (zgsW qm_L_293 qt_L_daysUntilUnreadable qn_L qc_L_daysUntilUnreadable) he_L_daysUntilUnreadable rfl hl rfl (Nat.le_of_ble_eq_true rfl) ⟨by omega, by omega⟩ ⟨by omega, by omega⟩ dL_law_2290) hS.w (fun vv F1 H1 locs1 hp hZ1 hfr => ?_)
  obtain ⟨k, rfl, hwp⟩ := hp
  obtain ⟨Fg1, f1, rfl, ho1, hW⟩ := w_finP (S1 := (sIss c0 (sx xs (i + 1)) (fun s => if cDa c0 - iPr s < 5 then 5 - (cDa c0 - iPr s) else 0)).1) (S2 := (sIss c0 (sx xs (i + 1)) (fun s => if cDa c0 - iPr s < 5 then 5 - (cDa c0 - iPr s) else 0)).2) (Kn := (fun F1 => gOb cs F1 ob g sa so hL tx inp out c0 sv hs er fa)) (Kx := (fun F1 => gOb cs F1 ob g sa so hL tx inp out c0 sv hs er fa)) hwp (fun r F1 q => ⟨hg.le q.1, q.2.1, q.2.2⟩) (fun E F1 q => ⟨by rw [← q.1]; exact hg, 0, by decide, by rw [q.2.2]; rfl, q.2.1.trans rfl⟩) (nd_names (by decide))
  clear hwp
  have hS1 := hS.aL hZ1 ho1 hfr
  clear hfr hZ1
  refine lv_istore (lv' := [(6, .int (iI k)), (5, .int (iI i)), (0, .ref b), (1, .ref ob), (2, .ref m0), (3, .ref ou), (4, .ref od)]) hx hb dL_law_2293 hl (by decide) rfl (fun ls hl => ?_)
  refine lv_aload_n hx hb dL_law_2295 rfl (lv_at hl 4 rfl) ?_
  refine lv_aload_n hx hb dL_law_2296 rfl (lv_at hl 2 rfl) ?_
  refine lv_iload hx hb dL_law_2297 (lv_at hl 1 rfl) ?_
  refine z_iconst hx hb dL_law_2299 ?_
  refine z_iadd hx hb dL_law_2300 ?_
  refine z_sld (k := i + 1) hC hS1.1 hX hbl hbA hL2 (by omega) dL_law_2301 ?_
  refine z_fcall hC (z_frV (rest := []) (As := [.int (iI (sx xs (i + 1)))]) (n := 1) (ci := 16) hC hS1.2.1 (met_X13_daysUntilUnreadable l D cs (zfA (mW cs m0 ad v gm) H1) m0 ad v gm (sx xs (i + 1)) N c0 hD hok hv.1 hK (sx_R xs (i + 1)) (by omega)) gv_L_295 hd_X13_daysUntilUnreadable rfl mW_o rfl hl rfl (Nat.le_of_ble_eq_true rfl) ⟨by omega, by omega⟩ ⟨by omega, by omega⟩ dL_law_2302) hS1.2.1 (fun vv F2 H2 locs2 hp hZ1 hfr => ?_)
  obtain ⟨r, rfl, v2, g2, rfl, hok2, hm⟩ := hp
  have hS2 := hS1.aM hZ1 hfr
  clear hfr hZ1
  obtain ⟨hVs, hV6, hVr⟩ := hv.mA hm
  refine lv_istore (lv' := [(7, .int (iI r)), (6, .int (iI k)), (5, .int (iI i)), (0, .ref b), (1, .ref ob), (2, .ref m0), (3, .ref ou), (4, .ref od)]) hx hb dL_law_2305 hl (by decide) rfl (fun ls hl => ?_)
  refine lv_aload_n hx hb dL_law_2307 rfl (lv_at hl 5 rfl) ?_
  refine z_fcall hC (z_frV (rest := []) (As := []) (n := 0) (ci := 16) hC hS2.2.1 (met_X13_thrown l D cs (zfA (mW cs m0 ad v2 g2) H2) m0 ad v2 g2 hD hok2) gv_L_167 hd_X13_thrown rfl mW_o rfl hl rfl (Nat.le_of_ble_eq_true rfl) ⟨by omega, by omega⟩ ⟨by omega, by omega⟩ dL_law_2308) hS2.2.1 (fun vv F3 H3 locs3 hp hZ1 hfr => ?_)
  obtain ⟨r3, rfl, v3, g3, rfl, hokL, rfl, rfl, rfl⟩ := hp
  have hS3 := hS2.aM hZ1 hfr
  clear hfr hZ1
  have hk6 : v2 6 = k := hV6.trans hW.1.symm
  have hkr := hW.2.1
  refine lv_iload hx hb dL_law_2311 (lv_at hl 1 rfl) ?_
  refine z_icmp_eq (tgt := 2318) hx hb dL_law_2313 (by decide) (by omega) (by omega) (fun c9 => ?_) (fun c9 => absurd hk6 c9)
  refine lv_iload hx hb dL_law_2318 (lv_at hl 1 rfl) ?_
  refine z_if_ne (tgt := 2335) hx hb dL_law_2320 (by decide) (by omega) (fun c8 => ?_) (fun c8 => ?_)
  · skip
    refine lv_goto (tgt := 2898) hx hb dL_law_2335 (by decide) ?_
    refine W.widen (k := cells + 110) (n := slots + 1650) (by omega) (by omega) ?_
    exact kk _ _ _ _ _ _ _ _ hS3 ⟨g, sa, so, hL, tx, inp, out, c0, sv, hs, er, fa, (hW.2.2.2 c8), hVs⟩ hokL (lv_sub hl [2, 3, 4, 5, 6, 7] rfl)
  · skip
    have hk0 : k = 0 := by omega
    refine lv_aload_n hx hb dL_law_2323 rfl (lv_at hl 6 rfl) ?_
    refine z_iconst hx hb dL_law_2324 ?_
    refine z_lald hC hS3.2.2.1 z1_s dL_law_2325 ?_
    refine lv_iload hx hb dL_law_2326 (lv_at hl 0 rfl) ?_
    refine lv_i2l hx hb dL_law_2328 rfl ?_
    refine z_lcmp0 hC ((hW.2.2.1 hk0).2.trans (by rw [hVr (hW.1.symm.trans hk0)])) dL_law_2329 ?_
    refine z_if_eq (tgt := 2335) hx hb dL_law_2330 (by decide) (by decide) (fun c7 => ?_) (fun c7 => absurd rfl c7)
    refine lv_goto (tgt := 2898) hx hb dL_law_2335 (by decide) ?_
    refine W.widen (k := cells + 110) (n := slots + 1650) (by omega) (by omega) ?_
    exact kk _ _ _ _ _ _ _ _ hS3 ⟨g, sa, so, hL, tx, inp, out, c0, sv, hs, er, fa, (hW.2.2.1 (by omega)).1, hVs⟩ hokL (lv_sub hl [2, 3, 4, 5, 6, 7] rfl)

set_option maxHeartbeats 4000000 in
set_option maxRecDepth 100000 in
theorem lc_meanWordLength (hB : lCx l R D cs A p s m args c b L m0 xs ad) (hi : 0 ≤ i ∧ i + 4 ≤ L) (hN : N ≤ 600) (hS : zLS D cs A s H locs m0 ou od ad Fg v gm f fd) (hT : zT2 cs N Fg ob v gm) (hok : mOK v gm) (hl : lv_has ls 9 [(5, .int (iI i)), (0, .ref b), (1, .ref ob), (2, .ref m0), (3, .ref ou), (4, .ref od)]) (hc : cells + 110 ≤ R.cells) (hsl : slots + 1650 ≤ R.slots)
  (kk : ∀ (H1 : Heap) (locs1 : List Loc) (Fg1 : zF) (v1 : Nat → Int) (g1 : Nat → Int → Int) (f1 : Nat → Int64) (fd1 : Nat → UInt64) (ls1 : Array Slot), zLS D cs A s H1 locs1 m0 ou od ad Fg1 v1 g1 f1 fd1 → zT2 cs (N + 1) Fg1 ob v1 g1 → mOK v1 g1 → lv_has ls1 9 [(5, .int (iI i)), (0, .ref b), (1, .ref ob), (2, .ref m0), (3, .ref ou), (4, .ref od)] → W p l e R s m args below meth c H1 locs1 (cells + 110) (slots + 1650) Q (F0 m 2898 ls1 [])) : W p l e R s m args below meth c H locs cells slots Q (F0 m 2338 ls []) := by
  obtain ⟨hC, hlt, hNc, hX, hbl, hbA, hL2, hD, hR1, hR2⟩ := hB
  have hx := hC.x
  have hb := hC.b
  obtain ⟨g, sa, so, hL, tx, inp, out, c0, sv, hs, er, fa, hg, hv⟩ := hT
  have hK := hv.2.1
  have hh8 := hv.2.2.1.2.1
  have htz := hv.2.2.2.2.2.2.1
  have hwi := hK.2.2.2.2.2.2.2.2.1
  have hb13 := hv.2.2.2.2.2.2.2.2.2.2.2.2.1
  have hb14 := hv.2.2.2.2.2.2.2.2.2.2.2.2.2
  refine lv_aload_n hx hb dL_law_2338 rfl (lv_at hl 2 rfl) ?_
  refine lv_aload hx hb dL_law_2339 (lv_at hl 5 rfl) ?_
  refine z_fcall hC (z_frW (rest := []) (As := [.ref ob, .ref od]) (n := 2) (hh := [((0 : Nat), (7 : Nat), (10 : Nat), (126 : Nat))]) hC hNc hS.wd (wr_meanWordLength l D cs (zfA (zun Fg (z1 od (zDa cs fd))) H) Fg ob od  fd hg.1 hS.2.2.2.2.2.2.1 (fun A1 => met_X12_meanWordLength l D cs A1 Fg ob g sa so er fa c0 N hlt hg.1 hg.st hK) (fun E F1 q => q.2.2) ) (zgsW qm_L_296 qt_L_meanWordLength qn_L qc_L_meanWordLength) he_L_meanWordLength rfl hl rfl (Nat.le_of_ble_eq_true rfl) ⟨by omega, by omega⟩ ⟨by omega, by omega⟩ dL_law_2341) hS.wd (fun vv F1 H1 locs1 hp hZ1 hfr => ?_)
  obtain ⟨k, rfl, hwp⟩ := hp
  obtain ⟨Fg1, f1, rfl, ho1, hW⟩ := w_finDP (S1 := (sMW c0).1) (S2 := (sMW c0).2) (Kn := (fun F1 => gOb cs F1 ob g sa so hL tx inp out c0 sv hs er fa)) (Kx := (fun F1 => gOb cs F1 ob g sa so hL tx inp out c0 sv hs er fa)) hwp (fun r F1 q => ⟨by rw [← q.1]; exact hg, q.2.1, q.2.2⟩) (fun E F1 q => ⟨by rw [← q.1]; exact hg, 0, by decide, by rw [q.2.2]; rfl, q.2.1.trans rfl⟩) (nd_names (by decide))
  clear hwp
  have hS1 := hS.aD hZ1 ho1 hfr
  clear hfr hZ1
  refine lv_istore (lv' := [(6, .int (iI k)), (5, .int (iI i)), (0, .ref b), (1, .ref ob), (2, .ref m0), (3, .ref ou), (4, .ref od)]) hx hb dL_law_2344 hl (by decide) rfl (fun ls hl => ?_)
  refine lv_aload_n hx hb dL_law_2346 rfl (lv_at hl 4 rfl) ?_
  refine z_fcall hC (z_frV (rest := []) (As := []) (n := 0) (ci := 16) hC hS1.2.1 (met_X13_meanWordLength l D cs (zfA (mW cs m0 ad v gm) H1) m0 ad v gm N c0 hD hok hv.1 hK) gv_L_299 hd_X13_meanWordLength rfl mW_o rfl hl rfl (Nat.le_of_ble_eq_true rfl) ⟨by omega, by omega⟩ ⟨by omega, by omega⟩ dL_law_2347) hS1.2.1 (fun vv F2 H2 locs2 hp hZ1 hfr => ?_)
  obtain ⟨r, rfl, v2, g2, rfl, hok2, hm⟩ := hp
  have hS2 := hS1.aM hZ1 hfr
  clear hfr hZ1
  obtain ⟨hVs, hV6, hVr⟩ := hv.mQd hm
  refine lv_dstore (lv' := [(7, .double r), (6, .int (iI k)), (5, .int (iI i)), (0, .ref b), (1, .ref ob), (2, .ref m0), (3, .ref ou), (4, .ref od)]) hx hb dL_law_2350 hl (by decide) rfl (fun ls hl => ?_)
  refine lv_aload_n hx hb dL_law_2352 rfl (lv_at hl 5 rfl) ?_
  refine z_fcall hC (z_frV (rest := []) (As := []) (n := 0) (ci := 16) hC hS2.2.1 (met_X13_thrown l D cs (zfA (mW cs m0 ad v2 g2) H2) m0 ad v2 g2 hD hok2) gv_L_167 hd_X13_thrown rfl mW_o rfl hl rfl (Nat.le_of_ble_eq_true rfl) ⟨by omega, by omega⟩ ⟨by omega, by omega⟩ dL_law_2353) hS2.2.1 (fun vv F3 H3 locs3 hp hZ1 hfr => ?_)
  obtain ⟨r3, rfl, v3, g3, rfl, hokL, rfl, rfl, rfl⟩ := hp
  have hS3 := hS2.aM hZ1 hfr
  clear hfr hZ1
  have hk6 : v2 6 = k := hV6.trans hW.1.symm
  have hkr := hW.2.1
  refine lv_iload hx hb dL_law_2356 (lv_at hl 1 rfl) ?_
  refine z_icmp_eq (tgt := 2363) hx hb dL_law_2358 (by decide) (by omega) (by omega) (fun c9 => ?_) (fun c9 => absurd hk6 c9)
  refine lv_iload hx hb dL_law_2363 (lv_at hl 1 rfl) ?_
  refine z_if_ne (tgt := 2400) hx hb dL_law_2365 (by decide) (by omega) (fun c8 => ?_) (fun c8 => ?_)
  · skip
    refine lv_goto (tgt := 2898) hx hb dL_law_2400 (by decide) ?_
    refine W.widen (k := cells + 110) (n := slots + 1650) (by omega) (by omega) ?_
    exact kk _ _ _ _ _ _ _ _ hS3 ⟨g, sa, so, hL, tx, inp, out, c0, sv, hs, er, fa, (hW.2.2.2 c8), hVs⟩ hokL (lv_sub hl [2, 3, 4, 5, 6, 7] rfl)
  · skip
    have hk0 : k = 0 := by omega
    refine lv_aload hx hb dL_law_2368 (lv_at hl 7 rfl) ?_
    refine z_iconst hx hb dL_law_2370 ?_
    refine z_dald hC hS3.2.2.2.1 z1_s dL_law_2371 ?_
    refine lv_dload hx hb dL_law_2372 (lv_at hl 0 rfl) ?_
    have hrv : r = (sMW c0).2 := hVr (hW.1.symm.trans hk0)
    have hqQ : dQ r := by rw [hrv]; exact sMW_Q hK (hW.1.symm.trans hk0)
    have hfv : f1 0 = r := by rw [hrv]; exact (hW.2.2.1 hk0).2
    rw [hfv]
    refine z_dcmp0 hC hqQ dL_law_2374 ?_
    refine z_if_eq (tgt := 2400) hx hb dL_law_2375 (by decide) (by decide) (fun c7 => ?_) (fun c7 => absurd rfl c7)
    refine lv_goto (tgt := 2898) hx hb dL_law_2400 (by decide) ?_
    refine W.widen (k := cells + 110) (n := slots + 1650) (by omega) (by omega) ?_
    exact kk _ _ _ _ _ _ _ _ hS3 ⟨g, sa, so, hL, tx, inp, out, c0, sv, hs, er, fa, (hW.2.2.1 (by omega)).1, hVs⟩ hokL (lv_sub hl [2, 3, 4, 5, 6, 7] rfl)

set_option maxHeartbeats 4000000 in
set_option maxRecDepth 100000 in
theorem lc_meanFreshness (hB : lCx l R D cs A p s m args c b L m0 xs ad) (hi : 0 ≤ i ∧ i + 4 ≤ L) (hN : N ≤ 600) (hS : zLS D cs A s H locs m0 ou od ad Fg v gm f fd) (hT : zT2 cs N Fg ob v gm) (hok : mOK v gm) (hl : lv_has ls 9 [(5, .int (iI i)), (0, .ref b), (1, .ref ob), (2, .ref m0), (3, .ref ou), (4, .ref od)]) (hc : cells + 110 ≤ R.cells) (hsl : slots + 1650 ≤ R.slots)
  (kk : ∀ (H1 : Heap) (locs1 : List Loc) (Fg1 : zF) (v1 : Nat → Int) (g1 : Nat → Int → Int) (f1 : Nat → Int64) (fd1 : Nat → UInt64) (ls1 : Array Slot), zLS D cs A s H1 locs1 m0 ou od ad Fg1 v1 g1 f1 fd1 → zT2 cs (N + 1) Fg1 ob v1 g1 → mOK v1 g1 → lv_has ls1 9 [(5, .int (iI i)), (0, .ref b), (1, .ref ob), (2, .ref m0), (3, .ref ou), (4, .ref od)] → W p l e R s m args below meth c H1 locs1 (cells + 110) (slots + 1650) Q (F0 m 2898 ls1 [])) : W p l e R s m args below meth c H locs cells slots Q (F0 m 2403 ls []) := by
  obtain ⟨hC, hlt, hNc, hX, hbl, hbA, hL2, hD, hR1, hR2⟩ := hB
  have hx := hC.x
  have hb := hC.b
  obtain ⟨g, sa, so, hL, tx, inp, out, c0, sv, hs, er, fa, hg, hv⟩ := hT
  have hK := hv.2.1
  have hh8 := hv.2.2.1.2.1
  have htz := hv.2.2.2.2.2.2.1
  have hwi := hK.2.2.2.2.2.2.2.2.1
  have hb13 := hv.2.2.2.2.2.2.2.2.2.2.2.2.1
  have hb14 := hv.2.2.2.2.2.2.2.2.2.2.2.2.2
  refine lv_aload_n hx hb dL_law_2403 rfl (lv_at hl 2 rfl) ?_
  refine lv_aload hx hb dL_law_2404 (lv_at hl 5 rfl) ?_
  refine z_fcall hC (z_frW (rest := []) (As := [.ref ob, .ref od]) (n := 2) (hh := [((0 : Nat), (8 : Nat), (11 : Nat), (126 : Nat))]) hC hNc hS.wd (wr_meanFreshness l D cs (zfA (zun Fg (z1 od (zDa cs fd))) H) Fg ob od  fd hg.1 hS.2.2.2.2.2.2.1 (fun A1 => met_X12_meanFreshness l D cs A1 Fg ob g sa so er fa c0 N hlt hg.1 hg.st hK) (fun E F1 q => q.2.2) (fun r F1 q => by rw [← q.2.2]; exact sMF_P hK q.2.1)) (zgsW qm_L_300 qt_L_meanFreshness qn_L qc_L_meanFreshness) he_L_meanFreshness rfl hl rfl (Nat.le_of_ble_eq_true rfl) ⟨by omega, by omega⟩ ⟨by omega, by omega⟩ dL_law_2406) hS.wd (fun vv F1 H1 locs1 hp hZ1 hfr => ?_)
  obtain ⟨k, rfl, hwp⟩ := hp
  obtain ⟨Fg1, f1, rfl, ho1, hW⟩ := w_finDP (S1 := (sMF c0).1) (S2 := (FP.f2d (sMF c0).2)) (Kn := (fun F1 => gOb cs F1 ob g sa so hL tx inp out c0 sv hs er fa)) (Kx := (fun F1 => gOb cs F1 ob g sa so hL tx inp out c0 sv hs er fa)) hwp (fun y F1 q => by
    obtain ⟨r, q, rfl⟩ := q
    exact ⟨by rw [← q.1]; exact hg, q.2.1, by rw [q.2.2]⟩) (fun E F1 q => ⟨by rw [← q.1]; exact hg, 0, by decide, by rw [q.2.2]; rfl, q.2.1.trans rfl⟩) (nd_names (by decide))
  clear hwp
  have hS1 := hS.aD hZ1 ho1 hfr
  clear hfr hZ1
  refine lv_istore (lv' := [(6, .int (iI k)), (5, .int (iI i)), (0, .ref b), (1, .ref ob), (2, .ref m0), (3, .ref ou), (4, .ref od)]) hx hb dL_law_2409 hl (by decide) rfl (fun ls hl => ?_)
  refine lv_aload_n hx hb dL_law_2411 rfl (lv_at hl 4 rfl) ?_
  refine z_fcall hC (z_frV (rest := []) (As := []) (n := 0) (ci := 16) hC hS1.2.1 (met_X13_meanFreshness l D cs (zfA (mW cs m0 ad v gm) H1) m0 ad v gm N c0 hD hok hv.1 hK (by omega)) gv_L_302 hd_X13_meanFreshness rfl mW_o rfl hl rfl (Nat.le_of_ble_eq_true rfl) ⟨by omega, by omega⟩ ⟨by omega, by omega⟩ dL_law_2412) hS1.2.1 (fun vv F2 H2 locs2 hp hZ1 hfr => ?_)
  obtain ⟨r, rfl, v2, g2, rfl, hok2, hm⟩ := hp
  have hS2 := hS1.aM hZ1 hfr
  clear hfr hZ1
  obtain ⟨hVs, hV6, hVr⟩ := hv.mQf hm
  refine lv_fstore (lv' := [(7, .float r), (6, .int (iI k)), (5, .int (iI i)), (0, .ref b), (1, .ref ob), (2, .ref m0), (3, .ref ou), (4, .ref od)]) hx hb dL_law_2415 hl (by decide) rfl (fun ls hl => ?_)
  refine lv_aload_n hx hb dL_law_2417 rfl (lv_at hl 5 rfl) ?_
  refine z_fcall hC (z_frV (rest := []) (As := []) (n := 0) (ci := 16) hC hS2.2.1 (met_X13_thrown l D cs (zfA (mW cs m0 ad v2 g2) H2) m0 ad v2 g2 hD hok2) gv_L_167 hd_X13_thrown rfl mW_o rfl hl rfl (Nat.le_of_ble_eq_true rfl) ⟨by omega, by omega⟩ ⟨by omega, by omega⟩ dL_law_2418) hS2.2.1 (fun vv F3 H3 locs3 hp hZ1 hfr => ?_)
  obtain ⟨r3, rfl, v3, g3, rfl, hokL, rfl, rfl, rfl⟩ := hp
  have hS3 := hS2.aM hZ1 hfr
  clear hfr hZ1
  have hk6 : v2 6 = k := hV6.trans hW.1.symm
  have hkr := hW.2.1
  refine lv_iload hx hb dL_law_2421 (lv_at hl 1 rfl) ?_
  refine z_icmp_eq (tgt := 2428) hx hb dL_law_2423 (by decide) (by omega) (by omega) (fun c9 => ?_) (fun c9 => absurd hk6 c9)
  refine lv_iload hx hb dL_law_2428 (lv_at hl 1 rfl) ?_
  refine z_if_ne (tgt := 2466) hx hb dL_law_2430 (by decide) (by omega) (fun c8 => ?_) (fun c8 => ?_)
  · skip
    refine lv_goto (tgt := 2898) hx hb dL_law_2466 (by decide) ?_
    refine W.widen (k := cells + 110) (n := slots + 1650) (by omega) (by omega) ?_
    exact kk _ _ _ _ _ _ _ _ hS3 ⟨g, sa, so, hL, tx, inp, out, c0, sv, hs, er, fa, (hW.2.2.2 c8), hVs⟩ hokL (lv_sub hl [2, 3, 4, 5, 6, 7] rfl)
  · skip
    have hk0 : k = 0 := by omega
    refine lv_aload hx hb dL_law_2433 (lv_at hl 7 rfl) ?_
    refine z_iconst hx hb dL_law_2435 ?_
    refine z_dald hC hS3.2.2.2.1 z1_s dL_law_2436 ?_
    refine lv_fload hx hb dL_law_2437 (lv_at hl 0 rfl) ?_
    have hrv : r = (sMF c0).2 := hVr (hW.1.symm.trans hk0)
    have hfP : fP r := by rw [hrv]; exact sMF_P hK (hW.1.symm.trans hk0)
    have hfv : f1 0 = FP.f2d r := by rw [hrv]; exact (hW.2.2.1 hk0).2
    refine lv_f2d hx hb dL_law_2439 (vf_of64 (dQ_f2d hfP)) ?_
    rw [hfv]
    refine z_dcmp0 hC (dQ_f2d hfP) dL_law_2440 ?_
    refine z_if_eq (tgt := 2466) hx hb dL_law_2441 (by decide) (by decide) (fun c7 => ?_) (fun c7 => absurd rfl c7)
    refine lv_goto (tgt := 2898) hx hb dL_law_2466 (by decide) ?_
    refine W.widen (k := cells + 110) (n := slots + 1650) (by omega) (by omega) ?_
    exact kk _ _ _ _ _ _ _ _ hS3 ⟨g, sa, so, hL, tx, inp, out, c0, sv, hs, er, fa, (hW.2.2.1 (by omega)).1, hVs⟩ hokL (lv_sub hl [2, 3, 4, 5, 6, 7] rfl)

set_option maxHeartbeats 4000000 in
set_option maxRecDepth 100000 in
theorem lc_writeArticle (hB : lCx l R D cs A p s m args c b L m0 xs ad) (hi : 0 ≤ i ∧ i + 4 ≤ L) (hN : N ≤ 600) (hS : zLS D cs A s H locs m0 ou od ad Fg v gm f fd) (hT : zT2 cs N Fg ob v gm) (hok : mOK v gm) (hl : lv_has ls 9 [(5, .int (iI i)), (0, .ref b), (1, .ref ob), (2, .ref m0), (3, .ref ou), (4, .ref od)]) (hc : cells + 110 ≤ R.cells) (hsl : slots + 1650 ≤ R.slots)
  (kk : ∀ (H1 : Heap) (locs1 : List Loc) (Fg1 : zF) (v1 : Nat → Int) (g1 : Nat → Int → Int) (f1 : Nat → Int64) (fd1 : Nat → UInt64) (ls1 : Array Slot), zLS D cs A s H1 locs1 m0 ou od ad Fg1 v1 g1 f1 fd1 → zT2 cs (N + 1) Fg1 ob v1 g1 → mOK v1 g1 → lv_has ls1 9 [(5, .int (iI i)), (0, .ref b), (1, .ref ob), (2, .ref m0), (3, .ref ou), (4, .ref od)] → W p l e R s m args below meth c H1 locs1 (cells + 110) (slots + 1650) Q (F0 m 2898 ls1 [])) : W p l e R s m args below meth c H locs cells slots Q (F0 m 2469 ls []) := by
  obtain ⟨hC, hlt, hNc, hX, hbl, hbA, hL2, hD, hR1, hR2⟩ := hB
  have hx := hC.x
  have hb := hC.b
  obtain ⟨g, sa, so, hL, tx, inp, out, c0, sv, hs, er, fa, hg, hv⟩ := hT
  have hK := hv.2.1
  have hh8 := hv.2.2.1.2.1
  have htz := hv.2.2.2.2.2.2.1
  have hwi := hK.2.2.2.2.2.2.2.2.1
  have hb13 := hv.2.2.2.2.2.2.2.2.2.2.2.2.1
  have hb14 := hv.2.2.2.2.2.2.2.2.2.2.2.2.2
  refine lv_aload_n hx hb dL_law_2469 rfl (lv_at hl 2 rfl) ?_
  refine lv_aload_n hx hb dL_law_2470 rfl (lv_at hl 1 rfl) ?_
  refine lv_iload hx hb dL_law_2471 (lv_at hl 0 rfl) ?_
  refine z_iconst hx hb dL_law_2473 ?_
  refine z_iadd hx hb dL_law_2474 ?_
  refine z_sld (k := i + 1) hC hS.1 hX hbl hbA hL2 (by omega) dL_law_2475 ?_
  refine lv_aload_n hx hb dL_law_2476 rfl (lv_at hl 4 rfl) ?_
  refine z_fcall hC (z_frW (rest := []) (As := [.ref ob, .int (iI (sx xs (i + 1))), .ref ou]) (n := 3) (hh := [((0 : Nat), (9 : Nat), (12 : Nat), (26 : Nat))]) hC hNc hS.w (wr_writeArticle l D cs (zfA (zun Fg (z1 ou (zLa cs f))) H) Fg ob ou (sx xs (i + 1)) f hg.1 hS.2.2.2.2.2.1 (fun A1 => met_X12_writeArticle l D cs A1 Fg ob g sa so hL tx inp out c0 sv hs er fa (sx xs (i + 1)) N hlt hg (sx_R xs (i + 1)) hK (by omega)) (fun E F1 q => q.2.2) ) (zgsW qm_L_303 qt_L_writeArticle qn_L qc_L_writeArticle) he_L_writeArticle rfl hl rfl (Nat.le_of_ble_eq_true rfl) ⟨by omega, by omega⟩ ⟨by omega, by omega⟩ dL_law_2477) hS.w (fun vv F1 H1 locs1 hp hZ1 hfr => ?_)
  obtain ⟨k, rfl, hwp⟩ := hp
  obtain ⟨Fg1, f1, rfl, ho1, hW⟩ := w_finP (S1 := (sWr c0 (sx xs (i + 1))).1) (S2 := ((sWr c0 (sx xs (i + 1))).2.length : Int)) (Kn := (fun F1 => ∃ g1 : Nat → Nat, gOb cs F1 ob g1 sa so hL tx inp (sWr c0 (sx xs (i + 1))).2 c0 sv hs er fa)) (Kx := (fun F1 => gOb cs F1 ob g sa so hL tx inp out c0 sv hs er fa)) hwp (fun r F1 q => ⟨q.2.2, q.1, q.2.1⟩) (fun E F1 q => ⟨q.1, 0, by decide, by rw [q.2.2]; rfl, q.2.1.trans rfl⟩) (nd_names (by decide))
  clear hwp
  have hS1 := hS.aL hZ1 ho1 hfr
  clear hfr hZ1
  refine lv_istore (lv' := [(6, .int (iI k)), (5, .int (iI i)), (0, .ref b), (1, .ref ob), (2, .ref m0), (3, .ref ou), (4, .ref od)]) hx hb dL_law_2480 hl (by decide) rfl (fun ls hl => ?_)
  refine lv_aload_n hx hb dL_law_2482 rfl (lv_at hl 4 rfl) ?_
  refine lv_aload_n hx hb dL_law_2483 rfl (lv_at hl 2 rfl) ?_
  refine lv_iload hx hb dL_law_2484 (lv_at hl 1 rfl) ?_
  refine z_iconst hx hb dL_law_2486 ?_
  refine z_iadd hx hb dL_law_2487 ?_
  refine z_sld (k := i + 1) hC hS1.1 hX hbl hbA hL2 (by omega) dL_law_2488 ?_
  refine z_fcall hC (z_frV (rest := []) (As := [.int (iI (sx xs (i + 1)))]) (n := 1) (ci := 16) hC hS1.2.1 (met_X13_writeArticle l D cs (zfA (mW cs m0 ad v gm) H1) m0 ad v gm (sx xs (i + 1)) N c0 hD hok hv.1 hK (sx_R xs (i + 1)) (by omega)) gv_L_305 hd_X13_writeArticle rfl mW_o rfl hl rfl (Nat.le_of_ble_eq_true rfl) ⟨by omega, by omega⟩ ⟨by omega, by omega⟩ dL_law_2489) hS1.2.1 (fun vv F2 H2 locs2 hp hZ1 hfr => ?_)
  obtain ⟨r, rfl, v2, g2, rfl, hok2, hm⟩ := hp
  have hS2 := hS1.aM hZ1 hfr
  clear hfr hZ1
  obtain ⟨hV6, hVr, hVx, hVn⟩ := hv.mW hm (fun t0 => ⟨Nat.le_trans (sWr_len hK t0) (by decide), by
    obtain ⟨g9, h92⟩ := (hW.2.2.1 (hW.1.trans t0)).1
    exact h92.oc⟩)
  refine lv_istore (lv' := [(7, .int (iI r)), (6, .int (iI k)), (5, .int (iI i)), (0, .ref b), (1, .ref ob), (2, .ref m0), (3, .ref ou), (4, .ref od)]) hx hb dL_law_2492 hl (by decide) rfl (fun ls hl => ?_)
  refine lv_aload_n hx hb dL_law_2494 rfl (lv_at hl 5 rfl) ?_
  refine z_fcall hC (z_frV (rest := []) (As := []) (n := 0) (ci := 16) hC hS2.2.1 (met_X13_thrown l D cs (zfA (mW cs m0 ad v2 g2) H2) m0 ad v2 g2 hD hok2) gv_L_167 hd_X13_thrown rfl mW_o rfl hl rfl (Nat.le_of_ble_eq_true rfl) ⟨by omega, by omega⟩ ⟨by omega, by omega⟩ dL_law_2495) hS2.2.1 (fun vv F3 H3 locs3 hp hZ1 hfr => ?_)
  obtain ⟨r3, rfl, v3, g3, rfl, hokL, rfl, rfl, rfl⟩ := hp
  have hS3 := hS2.aM hZ1 hfr
  clear hfr hZ1
  have hk6 : v2 6 = k := hV6.trans hW.1.symm
  have hkr := hW.2.1
  refine lv_iload hx hb dL_law_2498 (lv_at hl 1 rfl) ?_
  refine z_icmp_eq (tgt := 2505) hx hb dL_law_2500 (by decide) (by omega) (by omega) (fun c9 => ?_) (fun c9 => absurd hk6 c9)
  refine lv_iload hx hb dL_law_2505 (lv_at hl 1 rfl) ?_
  refine z_if_ne (tgt := 2522) hx hb dL_law_2507 (by decide) (by omega) (fun c8 => ?_) (fun c8 => ?_)
  · skip
    refine lv_goto (tgt := 2898) hx hb dL_law_2522 (by decide) ?_
    refine W.widen (k := cells + 110) (n := slots + 1650) (by omega) (by omega) ?_
    exact kk _ _ _ _ _ _ _ _ hS3 ⟨g, sa, so, hL, tx, inp, out, c0, sv, hs, er, fa, (hW.2.2.2 c8), (hVx (fun z => c8 (hW.1.trans z)))⟩ hokL (lv_sub hl [2, 3, 4, 5, 6, 7] rfl)
  · skip
    have hk0 : k = 0 := by omega
    refine lv_aload_n hx hb dL_law_2510 rfl (lv_at hl 6 rfl) ?_
    refine z_iconst hx hb dL_law_2511 ?_
    refine z_lald hC hS3.2.2.1 z1_s dL_law_2512 ?_
    refine lv_iload hx hb dL_law_2513 (lv_at hl 0 rfl) ?_
    refine lv_i2l hx hb dL_law_2515 rfl ?_
    refine z_lcmp0 hC ((hW.2.2.1 hk0).2.trans (by rw [hVr (hW.1.symm.trans hk0)])) dL_law_2516 ?_
    refine z_if_eq (tgt := 2522) hx hb dL_law_2517 (by decide) (by decide) (fun c7 => ?_) (fun c7 => absurd rfl c7)
    refine lv_goto (tgt := 2898) hx hb dL_law_2522 (by decide) ?_
    refine W.widen (k := cells + 110) (n := slots + 1650) (by omega) (by omega) ?_
    exact kk _ _ _ _ _ _ _ _ hS3 (let ⟨g9, h9⟩ := (hW.2.2.1 (by omega)).1; ⟨g9, sa, so, hL, tx, inp, _, c0, sv, hs, er, fa, h9, (hVn (hW.1.symm.trans (show k = 0 by omega)))⟩) hokL (lv_sub hl [2, 3, 4, 5, 6, 7] rfl)

set_option maxHeartbeats 4000000 in
set_option maxRecDepth 100000 in
theorem lc_outputCharacter (hB : lCx l R D cs A p s m args c b L m0 xs ad) (hi : 0 ≤ i ∧ i + 4 ≤ L) (hN : N ≤ 600) (hS : zLS D cs A s H locs m0 ou od ad Fg v gm f fd) (hT : zT2 cs N Fg ob v gm) (hok : mOK v gm) (hl : lv_has ls 9 [(5, .int (iI i)), (0, .ref b), (1, .ref ob), (2, .ref m0), (3, .ref ou), (4, .ref od)]) (hc : cells + 110 ≤ R.cells) (hsl : slots + 1650 ≤ R.slots)
  (kk : ∀ (H1 : Heap) (locs1 : List Loc) (Fg1 : zF) (v1 : Nat → Int) (g1 : Nat → Int → Int) (f1 : Nat → Int64) (fd1 : Nat → UInt64) (ls1 : Array Slot), zLS D cs A s H1 locs1 m0 ou od ad Fg1 v1 g1 f1 fd1 → zT2 cs (N + 1) Fg1 ob v1 g1 → mOK v1 g1 → lv_has ls1 9 [(5, .int (iI i)), (0, .ref b), (1, .ref ob), (2, .ref m0), (3, .ref ou), (4, .ref od)] → W p l e R s m args below meth c H1 locs1 (cells + 110) (slots + 1650) Q (F0 m 2898 ls1 [])) : W p l e R s m args below meth c H locs cells slots Q (F0 m 2525 ls []) := by
  obtain ⟨hC, hlt, hNc, hX, hbl, hbA, hL2, hD, hR1, hR2⟩ := hB
  have hx := hC.x
  have hb := hC.b
  obtain ⟨g, sa, so, hL, tx, inp, out, c0, sv, hs, er, fa, hg, hv⟩ := hT
  have hK := hv.2.1
  have hh8 := hv.2.2.1.2.1
  have htz := hv.2.2.2.2.2.2.1
  have hwi := hK.2.2.2.2.2.2.2.2.1
  have hb13 := hv.2.2.2.2.2.2.2.2.2.2.2.2.1
  have hb14 := hv.2.2.2.2.2.2.2.2.2.2.2.2.2
  obtain ⟨cap, hso⟩ := hg.2.2.2.2.1
  refine lv_aload_n hx hb dL_law_2525 rfl (lv_at hl 2 rfl) ?_
  refine lv_aload_n hx hb dL_law_2526 rfl (lv_at hl 1 rfl) ?_
  refine lv_iload hx hb dL_law_2527 (lv_at hl 0 rfl) ?_
  refine z_iconst hx hb dL_law_2529 ?_
  refine z_iadd hx hb dL_law_2530 ?_
  refine z_sld (k := i + 1) hC hS.1 hX hbl hbA hL2 (by omega) dL_law_2531 ?_
  refine lv_aload_n hx hb dL_law_2532 rfl (lv_at hl 4 rfl) ?_
  refine z_fcall hC (z_frW (rest := []) (As := [.ref ob, .int (iI (sx xs (i + 1))), .ref ou]) (n := 3) (hh := [((0 : Nat), (9 : Nat), (12 : Nat), (32 : Nat))]) hC hNc hS.w (wr_outputCharacter l D cs (zfA (zun Fg (z1 ou (zLa cs f))) H) Fg ob ou (sx xs (i + 1)) f hg.1 hS.2.2.2.2.2.1 (fun A1 => met_X12_outputCharacter l D cs A1 Fg ob g sa so er fa c0 (sx xs (i + 1)) cap out hlt hg.1 hg.st (sx_R xs (i + 1)) hso) (fun E F1 q => q.2.2) ) (zgsW qm_L_306 qt_L_outputCharacter qn_L qc_L_outputCharacter) he_L_outputCharacter rfl hl rfl (Nat.le_of_ble_eq_true rfl) ⟨by omega, by omega⟩ ⟨by omega, by omega⟩ dL_law_2533) hS.w (fun vv F1 H1 locs1 hp hZ1 hfr => ?_)
  obtain ⟨k, rfl, hwp⟩ := hp
  obtain ⟨Fg1, f1, rfl, ho1, hW⟩ := w_finP (S1 := (if 0 ≤ (sx xs (i + 1)) ∧ (sx xs (i + 1)) < (out.length : Int) then ((0 : Int), out.getD (sx xs (i + 1)).toNat 0) else (1, 0)).1) (S2 := (if 0 ≤ (sx xs (i + 1)) ∧ (sx xs (i + 1)) < (out.length : Int) then ((0 : Int), out.getD (sx xs (i + 1)).toNat 0) else (1, 0)).2) (Kn := (fun F1 => gOb cs F1 ob g sa so hL tx inp out c0 sv hs er fa)) (Kx := (fun F1 => gOb cs F1 ob g sa so hL tx inp out c0 sv hs er fa)) hwp (fun r F1 q => ⟨by rw [← q.1]; exact hg, q.2.1, q.2.2⟩) (fun E F1 q => ⟨by rw [← q.1]; exact hg, 0, by decide, by rw [q.2.2]; rfl, q.2.1.trans rfl⟩) (nd_names (by decide))
  clear hwp
  have hS1 := hS.aL hZ1 ho1 hfr
  clear hfr hZ1
  refine lv_istore (lv' := [(6, .int (iI k)), (5, .int (iI i)), (0, .ref b), (1, .ref ob), (2, .ref m0), (3, .ref ou), (4, .ref od)]) hx hb dL_law_2536 hl (by decide) rfl (fun ls hl => ?_)
  refine lv_aload_n hx hb dL_law_2538 rfl (lv_at hl 4 rfl) ?_
  refine lv_aload_n hx hb dL_law_2539 rfl (lv_at hl 2 rfl) ?_
  refine lv_iload hx hb dL_law_2540 (lv_at hl 1 rfl) ?_
  refine z_iconst hx hb dL_law_2542 ?_
  refine z_iadd hx hb dL_law_2543 ?_
  refine z_sld (k := i + 1) hC hS1.1 hX hbl hbA hL2 (by omega) dL_law_2544 ?_
  refine z_fcall hC (z_frV (rest := []) (As := [.int (iI (sx xs (i + 1)))]) (n := 1) (ci := 16) hC hS1.2.1 (met_X13_outputCharacter l D cs (zfA (mW cs m0 ad v gm) H1) m0 ad v gm (sx xs (i + 1)) hD hok (sx_R xs (i + 1)) (by have h9 := hv.2.2.2.2.2.2.2.2.1.1.1; have h10 := hv.2.2.2.2.2.2.2.2.1.2.1; omega) (fun k k0 k1 => by
      have h9 := hv.2.2.2.2.2.2.2.2.1
      have h10 := lnAt_get h9.1.2 k0 (by have := h9.1.1; omega)
      rw [Int.zero_add] at h10
      rw [h10]
      refine h9.2.2 _ ?_
      rw [List.getD_eq_getElem?_getD, List.getElem?_eq_getElem (show k.toNat < out.length by have := h9.1.1; omega)]
      exact List.getElem_mem _)) gv_L_308 hd_X13_outputCharacter rfl mW_o rfl hl rfl (Nat.le_of_ble_eq_true rfl) ⟨by omega, by omega⟩ ⟨by omega, by omega⟩ dL_law_2545) hS1.2.1 (fun vv F2 H2 locs2 hp hZ1 hfr => ?_)
  obtain ⟨r, rfl, v2, g2, rfl, hok2, hm⟩ := hp
  have hS2 := hS1.aM hZ1 hfr
  clear hfr hZ1
  rw [sOc_eq hv.2.2.2.2.2.2.2.2.1.1 (sx xs (i + 1))] at hm
  obtain ⟨hVs, hV6, hVr⟩ := hv.mA hm
  refine lv_istore (lv' := [(7, .int (iI r)), (6, .int (iI k)), (5, .int (iI i)), (0, .ref b), (1, .ref ob), (2, .ref m0), (3, .ref ou), (4, .ref od)]) hx hb dL_law_2548 hl (by decide) rfl (fun ls hl => ?_)
  refine lv_aload_n hx hb dL_law_2550 rfl (lv_at hl 5 rfl) ?_
  refine z_fcall hC (z_frV (rest := []) (As := []) (n := 0) (ci := 16) hC hS2.2.1 (met_X13_thrown l D cs (zfA (mW cs m0 ad v2 g2) H2) m0 ad v2 g2 hD hok2) gv_L_167 hd_X13_thrown rfl mW_o rfl hl rfl (Nat.le_of_ble_eq_true rfl) ⟨by omega, by omega⟩ ⟨by omega, by omega⟩ dL_law_2551) hS2.2.1 (fun vv F3 H3 locs3 hp hZ1 hfr => ?_)
  obtain ⟨r3, rfl, v3, g3, rfl, hokL, rfl, rfl, rfl⟩ := hp
  have hS3 := hS2.aM hZ1 hfr
  clear hfr hZ1
  have hk6 : v2 6 = k := hV6.trans hW.1.symm
  have hkr := hW.2.1
  refine lv_iload hx hb dL_law_2554 (lv_at hl 1 rfl) ?_
  refine z_icmp_eq (tgt := 2561) hx hb dL_law_2556 (by decide) (by omega) (by omega) (fun c9 => ?_) (fun c9 => absurd hk6 c9)
  refine lv_iload hx hb dL_law_2561 (lv_at hl 1 rfl) ?_
  refine z_if_ne (tgt := 2578) hx hb dL_law_2563 (by decide) (by omega) (fun c8 => ?_) (fun c8 => ?_)
  · skip
    refine lv_goto (tgt := 2898) hx hb dL_law_2578 (by decide) ?_
    refine W.widen (k := cells + 110) (n := slots + 1650) (by omega) (by omega) ?_
    exact kk _ _ _ _ _ _ _ _ hS3 ⟨g, sa, so, hL, tx, inp, out, c0, sv, hs, er, fa, (hW.2.2.2 c8), hVs⟩ hokL (lv_sub hl [2, 3, 4, 5, 6, 7] rfl)
  · skip
    have hk0 : k = 0 := by omega
    refine lv_aload_n hx hb dL_law_2566 rfl (lv_at hl 6 rfl) ?_
    refine z_iconst hx hb dL_law_2567 ?_
    refine z_lald hC hS3.2.2.1 z1_s dL_law_2568 ?_
    refine lv_iload hx hb dL_law_2569 (lv_at hl 0 rfl) ?_
    refine lv_i2l hx hb dL_law_2571 rfl ?_
    refine z_lcmp0 hC ((hW.2.2.1 hk0).2.trans (by rw [hVr (hW.1.symm.trans hk0)])) dL_law_2572 ?_
    refine z_if_eq (tgt := 2578) hx hb dL_law_2573 (by decide) (by decide) (fun c7 => ?_) (fun c7 => absurd rfl c7)
    refine lv_goto (tgt := 2898) hx hb dL_law_2578 (by decide) ?_
    refine W.widen (k := cells + 110) (n := slots + 1650) (by omega) (by omega) ?_
    exact kk _ _ _ _ _ _ _ _ hS3 ⟨g, sa, so, hL, tx, inp, out, c0, sv, hs, er, fa, (hW.2.2.1 (by omega)).1, hVs⟩ hokL (lv_sub hl [2, 3, 4, 5, 6, 7] rfl)

set_option maxHeartbeats 4000000 in
set_option maxRecDepth 100000 in
theorem lc_isConsistent (hB : lCx l R D cs A p s m args c b L m0 xs ad) (hi : 0 ≤ i ∧ i + 4 ≤ L) (hN : N ≤ 600) (hS : zLS D cs A s H locs m0 ou od ad Fg v gm f fd) (hT : zT2 cs N Fg ob v gm) (hok : mOK v gm) (hl : lv_has ls 9 [(5, .int (iI i)), (0, .ref b), (1, .ref ob), (2, .ref m0), (3, .ref ou), (4, .ref od)]) (hc : cells + 110 ≤ R.cells) (hsl : slots + 1650 ≤ R.slots)
  (kk : ∀ (H1 : Heap) (locs1 : List Loc) (Fg1 : zF) (v1 : Nat → Int) (g1 : Nat → Int → Int) (f1 : Nat → Int64) (fd1 : Nat → UInt64) (ls1 : Array Slot), zLS D cs A s H1 locs1 m0 ou od ad Fg1 v1 g1 f1 fd1 → zT2 cs (N + 1) Fg1 ob v1 g1 → mOK v1 g1 → lv_has ls1 9 [(5, .int (iI i)), (0, .ref b), (1, .ref ob), (2, .ref m0), (3, .ref ou), (4, .ref od)] → W p l e R s m args below meth c H1 locs1 (cells + 110) (slots + 1650) Q (F0 m 2898 ls1 [])) : W p l e R s m args below meth c H locs cells slots Q (F0 m 2581 ls []) := by
  obtain ⟨hC, hlt, hNc, hX, hbl, hbA, hL2, hD, hR1, hR2⟩ := hB
  have hx := hC.x
  have hb := hC.b
  obtain ⟨g, sa, so, hL, tx, inp, out, c0, sv, hs, er, fa, hg, hv⟩ := hT
  have hK := hv.2.1
  have hh8 := hv.2.2.1.2.1
  have htz := hv.2.2.2.2.2.2.1
  have hwi := hK.2.2.2.2.2.2.2.2.1
  have hb13 := hv.2.2.2.2.2.2.2.2.2.2.2.2.1
  have hb14 := hv.2.2.2.2.2.2.2.2.2.2.2.2.2
  refine lv_aload_n hx hb dL_law_2581 rfl (lv_at hl 2 rfl) ?_
  refine z_fcall hC (z_frV (rest := []) (As := []) (n := 0) (ci := 15) hC hS.1 (met_X12_isConsistent l D cs (zfA Fg H) Fg ob g sa so hL tx inp out c0 sv hs er fa hg hwi) gv_L_309 hd_X12_isConsistent rfl hg.1 rfl hl rfl (Nat.le_of_ble_eq_true rfl) ⟨by omega, by omega⟩ ⟨by omega, by omega⟩ dL_law_2582) hS.1 (fun vv Fg1 H1 locs1 hp hZ1 hfr => ?_)
  obtain ⟨r1, rfl, hq⟩ := hp
  have hS1 := hS.aG hZ1 hfr
  refine lv_aload_n hx hb dL_law_2585 rfl (lv_at hl 3 rfl) ?_
  refine z_fcall hC (z_frV (rest := [.int (iI r1)]) (As := []) (n := 0) (ci := 16) hC hS1.2.1 (met_X13_isConsistent l D cs (zfA (mW cs m0 ad v gm) H1) m0 ad v gm hD hok) gv_L_313 hd_X13_isConsistent rfl mW_o rfl hl rfl (Nat.le_of_ble_eq_true rfl) ⟨by omega, by omega⟩ ⟨by omega, by omega⟩ dL_law_2586) hS1.2.1 (fun vv F2 H2 locs2 hp hZ1 hfr => ?_)
  obtain ⟨r, rfl, v2, g2, rfl, hokL, hm⟩ := hp
  have hS2 := hS1.aM hZ1 hfr
  obtain ⟨e1, hgq⟩ := hq
  obtain ⟨m1, m2, e2⟩ := hm
  have hzq := hv.up m1 m2
  have hrr : r1 = r := by omega
  have hrn : InR r := by unfold InR; omega
  refine z_icmp_eq (tgt := 2898) hx hb dL_law_2589 (by decide) (by rw [hrr]; exact hrn) hrn (fun c9 => ?_) (fun c9 => absurd hrr c9)
  refine W.widen (k := cells + 110) (n := slots + 1650) (by omega) (by omega) ?_
  exact kk _ _ _ _ _ _ _ _ hS2 ⟨g, sa, so, hL, tx, inp, out, c0, sv, hs, er, fa, hgq, hzq⟩ hokL (lv_sub hl [0, 1, 2, 3, 4, 5] rfl)

set_option maxHeartbeats 4000000 in
set_option maxRecDepth 100000 in
theorem lc_feed (hB : lCx l R D cs A p s m args c b L m0 xs ad) (hi : 0 ≤ i ∧ i + 4 ≤ L) (hN : N ≤ 600) (hS : zLS D cs A s H locs m0 ou od ad Fg v gm f fd) (hT : zT2 cs N Fg ob v gm) (hok : mOK v gm) (hl : lv_has ls 9 [(5, .int (iI i)), (0, .ref b), (1, .ref ob), (2, .ref m0), (3, .ref ou), (4, .ref od)]) (hc : cells + 110 ≤ R.cells) (hsl : slots + 1650 ≤ R.slots)
  (kk : ∀ (H1 : Heap) (locs1 : List Loc) (Fg1 : zF) (v1 : Nat → Int) (g1 : Nat → Int → Int) (f1 : Nat → Int64) (fd1 : Nat → UInt64) (ls1 : Array Slot), zLS D cs A s H1 locs1 m0 ou od ad Fg1 v1 g1 f1 fd1 → zT2 cs (N + 1) Fg1 ob v1 g1 → mOK v1 g1 → lv_has ls1 9 [(5, .int (iI i)), (0, .ref b), (1, .ref ob), (2, .ref m0), (3, .ref ou), (4, .ref od)] → W p l e R s m args below meth c H1 locs1 (cells + 110) (slots + 1650) Q (F0 m 2898 ls1 [])) : W p l e R s m args below meth c H locs cells slots Q (F0 m 2594 ls []) := by
  obtain ⟨hC, hlt, hNc, hX, hbl, hbA, hL2, hD, hR1, hR2⟩ := hB
  have hx := hC.x
  have hb := hC.b
  obtain ⟨g, sa, so, hL, tx, inp, out, c0, sv, hs, er, fa, hg, hv⟩ := hT
  have hK := hv.2.1
  have hh8 := hv.2.2.1.2.1
  have htz := hv.2.2.2.2.2.2.1
  have hwi := hK.2.2.2.2.2.2.2.2.1
  have hb13 := hv.2.2.2.2.2.2.2.2.2.2.2.2.1
  have hb14 := hv.2.2.2.2.2.2.2.2.2.2.2.2.2
  refine lv_aload_n hx hb dL_law_2594 rfl (lv_at hl 2 rfl) ?_
  refine lv_aload_n hx hb dL_law_2595 rfl (lv_at hl 1 rfl) ?_
  refine lv_iload hx hb dL_law_2596 (lv_at hl 0 rfl) ?_
  refine z_iconst hx hb dL_law_2598 ?_
  refine z_iadd hx hb dL_law_2599 ?_
  refine z_sld (k := i + 1) hC hS.1 hX hbl hbA hL2 (by omega) dL_law_2600 ?_
  refine z_i2cx hC dL_law_2601 ?_
  refine lv_aload_n hx hb dL_law_2602 rfl (lv_at hl 4 rfl) ?_
  refine z_fcall hC (z_frW (rest := []) (As := [.ref ob, .int (iI (sxc (sx xs (i + 1)))), .ref ou]) (n := 3) (hh := [((0 : Nat), (9 : Nat), (12 : Nat), (15 : Nat))]) hC hNc hS.w (wr_feed l D cs (zfA (zun Fg (z1 ou (zLa cs f))) H) Fg ob ou (sxc (sx xs (i + 1))) f hg.1 hS.2.2.2.2.2.1 (fun A1 => met_X12_feed l D cs A1 Fg ob g sa so hL tx inp out c0 sv hs er fa (sxc (sx xs (i + 1))) hlt hg ((sxc_ok (sx xs (i + 1))).1)) (fun E F1 q => q.2.2) ) (zgsW qm_L_314 qt_L_feed qn_L qc_L_feed) he_L_feed rfl hl rfl (Nat.le_of_ble_eq_true rfl) ⟨by omega, by omega⟩ ⟨by omega, by omega⟩ dL_law_2603) hS.w (fun vv F1 H1 locs1 hp hZ1 hfr => ?_)
  obtain ⟨k, rfl, hwp⟩ := hp
  obtain ⟨Fg1, f1, rfl, ho1, hW⟩ := w_finP (S1 := (sFe inp).1) (S2 := (sFe inp).2) (Kn := (fun F1 => gOb cs F1 ob g sa so hL tx (inp ++ [(sxc (sx xs (i + 1)))]) out c0 sv hs er fa)) (Kx := (fun F1 => gOb cs F1 ob g sa so hL tx inp out c0 sv hs er fa)) hwp (fun r F1 q => ⟨q.2.2, by unfold sFe; rw [if_neg (by have := q.1; omega)], by rw [q.2.1]; unfold sFe; rw [if_neg (by have := q.1; omega)]⟩) (fun E F1 q => ⟨q.1, 0, by decide, by rw [q.2.2]; rfl, by unfold sFe; rw [if_pos q.2.1]; rfl⟩) (nd_names (by decide))
  clear hwp
  have hS1 := hS.aL hZ1 ho1 hfr
  clear hfr hZ1
  refine lv_istore (lv' := [(6, .int (iI k)), (5, .int (iI i)), (0, .ref b), (1, .ref ob), (2, .ref m0), (3, .ref ou), (4, .ref od)]) hx hb dL_law_2606 hl (by decide) rfl (fun ls hl => ?_)
  refine lv_aload_n hx hb dL_law_2608 rfl (lv_at hl 4 rfl) ?_
  refine lv_aload_n hx hb dL_law_2609 rfl (lv_at hl 2 rfl) ?_
  refine lv_iload hx hb dL_law_2610 (lv_at hl 1 rfl) ?_
  refine z_iconst hx hb dL_law_2612 ?_
  refine z_iadd hx hb dL_law_2613 ?_
  refine z_sld (k := i + 1) hC hS1.1 hX hbl hbA hL2 (by omega) dL_law_2614 ?_
  refine z_i2cx hC dL_law_2615 ?_
  refine z_fcall hC (z_frV (rest := []) (As := [.int (iI (sxc (sx xs (i + 1))))]) (n := 1) (ci := 16) hC hS1.2.1 (met_X13_feed l D cs (zfA (mW cs m0 ad v gm) H1) m0 ad v gm (sxc (sx xs (i + 1))) inp hD hok ((sxc_ok (sx xs (i + 1))).1) hv.2.2.2.2.2.2.2.1) gv_L_316 hd_X13_feed rfl mW_o rfl hl rfl (Nat.le_of_ble_eq_true rfl) ⟨by omega, by omega⟩ ⟨by omega, by omega⟩ dL_law_2616) hS1.2.1 (fun vv F2 H2 locs2 hp hZ1 hfr => ?_)
  obtain ⟨r, rfl, v2, g2, rfl, hok2, hm⟩ := hp
  have hS2 := hS1.aM hZ1 hfr
  clear hfr hZ1
  obtain ⟨hV6, hVr, hVx, hVn⟩ := hv.mFe (sxc_ok _).1 hm
  refine lv_istore (lv' := [(7, .int (iI r)), (6, .int (iI k)), (5, .int (iI i)), (0, .ref b), (1, .ref ob), (2, .ref m0), (3, .ref ou), (4, .ref od)]) hx hb dL_law_2619 hl (by decide) rfl (fun ls hl => ?_)
  refine lv_aload_n hx hb dL_law_2621 rfl (lv_at hl 5 rfl) ?_
  refine z_fcall hC (z_frV (rest := []) (As := []) (n := 0) (ci := 16) hC hS2.2.1 (met_X13_thrown l D cs (zfA (mW cs m0 ad v2 g2) H2) m0 ad v2 g2 hD hok2) gv_L_167 hd_X13_thrown rfl mW_o rfl hl rfl (Nat.le_of_ble_eq_true rfl) ⟨by omega, by omega⟩ ⟨by omega, by omega⟩ dL_law_2622) hS2.2.1 (fun vv F3 H3 locs3 hp hZ1 hfr => ?_)
  obtain ⟨r3, rfl, v3, g3, rfl, hokL, rfl, rfl, rfl⟩ := hp
  have hS3 := hS2.aM hZ1 hfr
  clear hfr hZ1
  have hk6 : v2 6 = k := hV6.trans hW.1.symm
  have hkr := hW.2.1
  refine lv_iload hx hb dL_law_2625 (lv_at hl 1 rfl) ?_
  refine z_icmp_eq (tgt := 2632) hx hb dL_law_2627 (by decide) (by omega) (by omega) (fun c9 => ?_) (fun c9 => absurd hk6 c9)
  refine lv_iload hx hb dL_law_2632 (lv_at hl 1 rfl) ?_
  refine z_if_ne (tgt := 2649) hx hb dL_law_2634 (by decide) (by omega) (fun c8 => ?_) (fun c8 => ?_)
  · skip
    refine lv_goto (tgt := 2898) hx hb dL_law_2649 (by decide) ?_
    refine W.widen (k := cells + 110) (n := slots + 1650) (by omega) (by omega) ?_
    exact kk _ _ _ _ _ _ _ _ hS3 ⟨g, sa, so, hL, tx, inp, out, c0, sv, hs, er, fa, (hW.2.2.2 c8), (hVx (fun z => c8 (hW.1.trans z)))⟩ hokL (lv_sub hl [2, 3, 4, 5, 6, 7] rfl)
  · skip
    have hk0 : k = 0 := by omega
    refine lv_aload_n hx hb dL_law_2637 rfl (lv_at hl 6 rfl) ?_
    refine z_iconst hx hb dL_law_2638 ?_
    refine z_lald hC hS3.2.2.1 z1_s dL_law_2639 ?_
    refine lv_iload hx hb dL_law_2640 (lv_at hl 0 rfl) ?_
    refine lv_i2l hx hb dL_law_2642 rfl ?_
    refine z_lcmp0 hC ((hW.2.2.1 hk0).2.trans (by rw [hVr (hW.1.symm.trans hk0)])) dL_law_2643 ?_
    refine z_if_eq (tgt := 2649) hx hb dL_law_2644 (by decide) (by decide) (fun c7 => ?_) (fun c7 => absurd rfl c7)
    refine lv_goto (tgt := 2898) hx hb dL_law_2649 (by decide) ?_
    refine W.widen (k := cells + 110) (n := slots + 1650) (by omega) (by omega) ?_
    exact kk _ _ _ _ _ _ _ _ hS3 ⟨g, sa, so, hL, _, _, out, c0, sv, hs, er, fa, (hW.2.2.1 (by omega)).1, (hVn (hW.1.symm.trans (show k = 0 by omega)))⟩ hokL (lv_sub hl [2, 3, 4, 5, 6, 7] rfl)

set_option maxHeartbeats 4000000 in
set_option maxRecDepth 100000 in
theorem lc_execute (hB : lCx l R D cs A p s m args c b L m0 xs ad) (hi : 0 ≤ i ∧ i + 4 ≤ L) (hN : N ≤ 600) (hS : zLS D cs A s H locs m0 ou od ad Fg v gm f fd) (hT : zT2 cs N Fg ob v gm) (hok : mOK v gm) (hl : lv_has ls 9 [(5, .int (iI i)), (0, .ref b), (1, .ref ob), (2, .ref m0), (3, .ref ou), (4, .ref od)]) (hc : cells + 110 ≤ R.cells) (hsl : slots + 1650 ≤ R.slots)
  (kk : ∀ (H1 : Heap) (locs1 : List Loc) (Fg1 : zF) (v1 : Nat → Int) (g1 : Nat → Int → Int) (f1 : Nat → Int64) (fd1 : Nat → UInt64) (ls1 : Array Slot), zLS D cs A s H1 locs1 m0 ou od ad Fg1 v1 g1 f1 fd1 → zT2 cs (N + 1) Fg1 ob v1 g1 → mOK v1 g1 → lv_has ls1 9 [(5, .int (iI i)), (0, .ref b), (1, .ref ob), (2, .ref m0), (3, .ref ou), (4, .ref od)] → W p l e R s m args below meth c H1 locs1 (cells + 110) (slots + 1650) Q (F0 m 2898 ls1 [])) : W p l e R s m args below meth c H locs cells slots Q (F0 m 2652 ls []) := by
  obtain ⟨hC, hlt, hNc, hX, hbl, hbA, hL2, hD, hR1, hR2⟩ := hB
  have hx := hC.x
  have hb := hC.b
  obtain ⟨g, sa, so, hL, tx, inp, out, c0, sv, hs, er, fa, hg, hv⟩ := hT
  have hK := hv.2.1
  have hh8 := hv.2.2.1.2.1
  have htz := hv.2.2.2.2.2.2.1
  have hwi := hK.2.2.2.2.2.2.2.2.1
  have hb13 := hv.2.2.2.2.2.2.2.2.2.2.2.2.1
  have hb14 := hv.2.2.2.2.2.2.2.2.2.2.2.2.2
  refine lv_aload_n hx hb dL_law_2652 rfl (lv_at hl 2 rfl) ?_
  refine lv_aload_n hx hb dL_law_2653 rfl (lv_at hl 4 rfl) ?_
  refine z_fcall hC (z_frW (rest := []) (As := [.ref ob, .ref ou]) (n := 2) (hh := [((0 : Nat), (8 : Nat), (11 : Nat), (13 : Nat)), ((0 : Nat), (8 : Nat), (14 : Nat), (21 : Nat))]) hC hNc hS.w (wr_execute l D cs (zfA (zun Fg (z1 ou (zLa cs f))) H) Fg ob ou  f hg.1 hS.2.2.2.2.2.1 (fun A1 => met_X12_execute l D cs A1 Fg ob g sa so hL tx inp out c0 sv hs er fa N hlt hg hK (by omega) hh8) (fun E F1 q => q.2.elim (fun y => Or.inl y.2) (fun y => Or.inr y.2)) ) (zgsW qm_L_317 qt_L_execute qn_L qc_L_execute) he_L_execute rfl hl rfl (Nat.le_of_ble_eq_true rfl) ⟨by omega, by omega⟩ ⟨by omega, by omega⟩ dL_law_2654) hS.w (fun vv F1 H1 locs1 hp hZ1 hfr => ?_)
  obtain ⟨k, rfl, hwp⟩ := hp
  obtain ⟨Fg1, f1, rfl, ho1, hW⟩ := w_finP (S1 := (sExe c0 inp er fa).1.1) (S2 := (sExe c0 inp er fa).1.2.2) (Kn := (fun F1 => ∃ (g1 : Nat → Nat) (sa1 : Nat) (hL1 : List Nat), gOb cs F1 ob g1 sa1 so hL1 tx [] out (sExe c0 inp er fa).1.2.1 sv (pushH hs c0) (sExe c0 inp er fa).2.1 (sExe c0 inp er fa).2.2)) (Kx := (fun F1 => ∃ g1 : Nat → Nat, gOb cs F1 ob g1 sa so hL tx [] out c0 sv hs (sExe c0 inp er fa).2.1 (sExe c0 inp er fa).2.2)) hwp (fun r F1 q => ⟨q.2.2, q.1, q.2.1⟩) (fun E F1 q => by
    rcases q.2 with y | y
    · exact ⟨q.1, 0, by decide, by rw [y.2]; rfl, by rw [y.1]; rfl⟩
    · exact ⟨q.1, 1, by decide, by rw [y.2]; rfl, by rw [y.1]; rfl⟩) (nd_names (by decide))
  clear hwp
  have hS1 := hS.aL hZ1 ho1 hfr
  clear hfr hZ1
  refine lv_istore (lv' := [(6, .int (iI k)), (5, .int (iI i)), (0, .ref b), (1, .ref ob), (2, .ref m0), (3, .ref ou), (4, .ref od)]) hx hb dL_law_2657 hl (by decide) rfl (fun ls hl => ?_)
  refine lv_aload_n hx hb dL_law_2659 rfl (lv_at hl 4 rfl) ?_
  refine z_fcall hC (z_frV (rest := []) (As := []) (n := 0) (ci := 16) hC hS1.2.1 (met_X13_execute l D cs (zfA (mW cs m0 ad v gm) H1) m0 ad v gm inp hs N c0 hD hok hv.1 hK (by omega) hv.2.2.2.2.2.2.2.1 (hok.1 20) hv.2.2.1 hv.2.2.2.1) gv_L_319 hd_X13_execute rfl mW_o rfl hl rfl (Nat.le_of_ble_eq_true rfl) ⟨by omega, by omega⟩ ⟨by omega, by omega⟩ dL_law_2660) hS1.2.1 (fun vv F2 H2 locs2 hp hZ1 hfr => ?_)
  obtain ⟨r, rfl, v2, g2, rfl, hok2, hm⟩ := hp
  have hS2 := hS1.aM hZ1 hfr
  clear hfr hZ1
  obtain ⟨hV6, hVr, hVx, hVn⟩ := hv.mEx hm
  refine lv_istore (lv' := [(7, .int (iI r)), (6, .int (iI k)), (5, .int (iI i)), (0, .ref b), (1, .ref ob), (2, .ref m0), (3, .ref ou), (4, .ref od)]) hx hb dL_law_2663 hl (by decide) rfl (fun ls hl => ?_)
  refine lv_aload_n hx hb dL_law_2665 rfl (lv_at hl 5 rfl) ?_
  refine z_fcall hC (z_frV (rest := []) (As := []) (n := 0) (ci := 16) hC hS2.2.1 (met_X13_thrown l D cs (zfA (mW cs m0 ad v2 g2) H2) m0 ad v2 g2 hD hok2) gv_L_167 hd_X13_thrown rfl mW_o rfl hl rfl (Nat.le_of_ble_eq_true rfl) ⟨by omega, by omega⟩ ⟨by omega, by omega⟩ dL_law_2666) hS2.2.1 (fun vv F3 H3 locs3 hp hZ1 hfr => ?_)
  obtain ⟨r3, rfl, v3, g3, rfl, hokL, rfl, rfl, rfl⟩ := hp
  have hS3 := hS2.aM hZ1 hfr
  clear hfr hZ1
  have hk6 : v2 6 = k := hV6.trans hW.1.symm
  have hkr := hW.2.1
  refine lv_iload hx hb dL_law_2669 (lv_at hl 1 rfl) ?_
  refine z_icmp_eq (tgt := 2676) hx hb dL_law_2671 (by decide) (by omega) (by omega) (fun c9 => ?_) (fun c9 => absurd hk6 c9)
  refine lv_iload hx hb dL_law_2676 (lv_at hl 1 rfl) ?_
  refine z_if_ne (tgt := 2693) hx hb dL_law_2678 (by decide) (by omega) (fun c8 => ?_) (fun c8 => ?_)
  · skip
    refine lv_goto (tgt := 2898) hx hb dL_law_2693 (by decide) ?_
    refine W.widen (k := cells + 110) (n := slots + 1650) (by omega) (by omega) ?_
    exact kk _ _ _ _ _ _ _ _ hS3 (let ⟨g9, h9⟩ := (hW.2.2.2 c8); ⟨g9, sa, so, hL, tx, [], out, c0, sv, hs, _, _, h9, (hVx (fun z => c8 (hW.1.trans z)))⟩) hokL (lv_sub hl [2, 3, 4, 5, 6, 7] rfl)
  · skip
    have hk0 : k = 0 := by omega
    refine lv_aload_n hx hb dL_law_2681 rfl (lv_at hl 6 rfl) ?_
    refine z_iconst hx hb dL_law_2682 ?_
    refine z_lald hC hS3.2.2.1 z1_s dL_law_2683 ?_
    refine lv_iload hx hb dL_law_2684 (lv_at hl 0 rfl) ?_
    refine lv_i2l hx hb dL_law_2686 rfl ?_
    refine z_lcmp0 hC ((hW.2.2.1 hk0).2.trans (by rw [hVr (hW.1.symm.trans hk0)])) dL_law_2687 ?_
    refine z_if_eq (tgt := 2693) hx hb dL_law_2688 (by decide) (by decide) (fun c7 => ?_) (fun c7 => absurd rfl c7)
    refine lv_goto (tgt := 2898) hx hb dL_law_2693 (by decide) ?_
    refine W.widen (k := cells + 110) (n := slots + 1650) (by omega) (by omega) ?_
    exact kk _ _ _ _ _ _ _ _ hS3 (let ⟨g9, sa9, hL9, h9⟩ := (hW.2.2.1 (by omega)).1; ⟨g9, sa9, so, hL9, tx, [], out, _, sv, _, _, _, h9, (hVn (hW.1.symm.trans (show k = 0 by omega)))⟩) hokL (lv_sub hl [2, 3, 4, 5, 6, 7] rfl)

set_option maxHeartbeats 4000000 in
set_option maxRecDepth 100000 in
theorem lc_errorPosition (hB : lCx l R D cs A p s m args c b L m0 xs ad) (hi : 0 ≤ i ∧ i + 4 ≤ L) (hN : N ≤ 600) (hS : zLS D cs A s H locs m0 ou od ad Fg v gm f fd) (hT : zT2 cs N Fg ob v gm) (hok : mOK v gm) (hl : lv_has ls 9 [(5, .int (iI i)), (0, .ref b), (1, .ref ob), (2, .ref m0), (3, .ref ou), (4, .ref od)]) (hc : cells + 110 ≤ R.cells) (hsl : slots + 1650 ≤ R.slots)
  (kk : ∀ (H1 : Heap) (locs1 : List Loc) (Fg1 : zF) (v1 : Nat → Int) (g1 : Nat → Int → Int) (f1 : Nat → Int64) (fd1 : Nat → UInt64) (ls1 : Array Slot), zLS D cs A s H1 locs1 m0 ou od ad Fg1 v1 g1 f1 fd1 → zT2 cs (N + 1) Fg1 ob v1 g1 → mOK v1 g1 → lv_has ls1 9 [(5, .int (iI i)), (0, .ref b), (1, .ref ob), (2, .ref m0), (3, .ref ou), (4, .ref od)] → W p l e R s m args below meth c H1 locs1 (cells + 110) (slots + 1650) Q (F0 m 2898 ls1 [])) : W p l e R s m args below meth c H locs cells slots Q (F0 m 2696 ls []) := by
  obtain ⟨hC, hlt, hNc, hX, hbl, hbA, hL2, hD, hR1, hR2⟩ := hB
  have hx := hC.x
  have hb := hC.b
  obtain ⟨g, sa, so, hL, tx, inp, out, c0, sv, hs, er, fa, hg, hv⟩ := hT
  have hK := hv.2.1
  have hh8 := hv.2.2.1.2.1
  have htz := hv.2.2.2.2.2.2.1
  have hwi := hK.2.2.2.2.2.2.2.2.1
  have hb13 := hv.2.2.2.2.2.2.2.2.2.2.2.2.1
  have hb14 := hv.2.2.2.2.2.2.2.2.2.2.2.2.2
  refine lv_aload_n hx hb dL_law_2696 rfl (lv_at hl 2 rfl) ?_
  refine lv_aload_n hx hb dL_law_2697 rfl (lv_at hl 4 rfl) ?_
  refine z_fcall hC (z_frW (rest := []) (As := [.ref ob, .ref ou]) (n := 2) (hh := [((0 : Nat), (8 : Nat), (11 : Nat), (26 : Nat))]) hC hNc hS.w (wr_errorPosition l D cs (zfA (zun Fg (z1 ou (zLa cs f))) H) Fg ob ou  f hg.1 hS.2.2.2.2.2.1 (fun A1 => met_X12_errorPosition l D cs A1 Fg ob g sa so er fa c0 hlt hg.1 hg.st (⟨by omega, by omega⟩)) (fun E F1 q => q.2.2) ) (zgsW qm_L_320 qt_L_errorPosition qn_L qc_L_errorPosition) he_L_errorPosition rfl hl rfl (Nat.le_of_ble_eq_true rfl) ⟨by omega, by omega⟩ ⟨by omega, by omega⟩ dL_law_2698) hS.w (fun vv F1 H1 locs1 hp hZ1 hfr => ?_)
  obtain ⟨k, rfl, hwp⟩ := hp
  obtain ⟨Fg1, f1, rfl, ho1, hW⟩ := w_finP (S1 := (if 0 ≤ er then ((0 : Int), er) else (1, 0)).1) (S2 := (if 0 ≤ er then ((0 : Int), er) else (1, 0)).2) (Kn := (fun F1 => gOb cs F1 ob g sa so hL tx inp out c0 sv hs er fa)) (Kx := (fun F1 => gOb cs F1 ob g sa so hL tx inp out c0 sv hs er fa)) hwp (fun r F1 q => ⟨by rw [← q.1]; exact hg, q.2.1, q.2.2⟩) (fun E F1 q => ⟨by rw [← q.1]; exact hg, 0, by decide, by rw [q.2.2]; rfl, q.2.1.trans rfl⟩) (nd_names (by decide))
  clear hwp
  have hS1 := hS.aL hZ1 ho1 hfr
  clear hfr hZ1
  refine lv_istore (lv' := [(6, .int (iI k)), (5, .int (iI i)), (0, .ref b), (1, .ref ob), (2, .ref m0), (3, .ref ou), (4, .ref od)]) hx hb dL_law_2701 hl (by decide) rfl (fun ls hl => ?_)
  refine lv_aload_n hx hb dL_law_2703 rfl (lv_at hl 4 rfl) ?_
  refine z_fcall hC (z_frV (rest := []) (As := []) (n := 0) (ci := 16) hC hS1.2.1 (met_X13_errorPosition l D cs (zfA (mW cs m0 ad v gm) H1) m0 ad v gm hD hok) gv_L_322 hd_X13_errorPosition rfl mW_o rfl hl rfl (Nat.le_of_ble_eq_true rfl) ⟨by omega, by omega⟩ ⟨by omega, by omega⟩ dL_law_2704) hS1.2.1 (fun vv F2 H2 locs2 hp hZ1 hfr => ?_)
  obtain ⟨r, rfl, v2, g2, rfl, hok2, hm⟩ := hp
  have hS2 := hS1.aM hZ1 hfr
  clear hfr hZ1
  rw [hv.2.2.2.2.2.2.2.2.2.2.1] at hm
  obtain ⟨hVs, hV6, hVr⟩ := hv.mA hm
  refine lv_istore (lv' := [(7, .int (iI r)), (6, .int (iI k)), (5, .int (iI i)), (0, .ref b), (1, .ref ob), (2, .ref m0), (3, .ref ou), (4, .ref od)]) hx hb dL_law_2707 hl (by decide) rfl (fun ls hl => ?_)
  refine lv_aload_n hx hb dL_law_2709 rfl (lv_at hl 5 rfl) ?_
  refine z_fcall hC (z_frV (rest := []) (As := []) (n := 0) (ci := 16) hC hS2.2.1 (met_X13_thrown l D cs (zfA (mW cs m0 ad v2 g2) H2) m0 ad v2 g2 hD hok2) gv_L_167 hd_X13_thrown rfl mW_o rfl hl rfl (Nat.le_of_ble_eq_true rfl) ⟨by omega, by omega⟩ ⟨by omega, by omega⟩ dL_law_2710) hS2.2.1 (fun vv F3 H3 locs3 hp hZ1 hfr => ?_)
  obtain ⟨r3, rfl, v3, g3, rfl, hokL, rfl, rfl, rfl⟩ := hp
  have hS3 := hS2.aM hZ1 hfr
  clear hfr hZ1
  have hk6 : v2 6 = k := hV6.trans hW.1.symm
  have hkr := hW.2.1
  refine lv_iload hx hb dL_law_2713 (lv_at hl 1 rfl) ?_
  refine z_icmp_eq (tgt := 2720) hx hb dL_law_2715 (by decide) (by omega) (by omega) (fun c9 => ?_) (fun c9 => absurd hk6 c9)
  refine lv_iload hx hb dL_law_2720 (lv_at hl 1 rfl) ?_
  refine z_if_ne (tgt := 2737) hx hb dL_law_2722 (by decide) (by omega) (fun c8 => ?_) (fun c8 => ?_)
  · skip
    refine lv_goto (tgt := 2898) hx hb dL_law_2737 (by decide) ?_
    refine W.widen (k := cells + 110) (n := slots + 1650) (by omega) (by omega) ?_
    exact kk _ _ _ _ _ _ _ _ hS3 ⟨g, sa, so, hL, tx, inp, out, c0, sv, hs, er, fa, (hW.2.2.2 c8), hVs⟩ hokL (lv_sub hl [2, 3, 4, 5, 6, 7] rfl)
  · skip
    have hk0 : k = 0 := by omega
    refine lv_aload_n hx hb dL_law_2725 rfl (lv_at hl 6 rfl) ?_
    refine z_iconst hx hb dL_law_2726 ?_
    refine z_lald hC hS3.2.2.1 z1_s dL_law_2727 ?_
    refine lv_iload hx hb dL_law_2728 (lv_at hl 0 rfl) ?_
    refine lv_i2l hx hb dL_law_2730 rfl ?_
    refine z_lcmp0 hC ((hW.2.2.1 hk0).2.trans (by rw [hVr (hW.1.symm.trans hk0)])) dL_law_2731 ?_
    refine z_if_eq (tgt := 2737) hx hb dL_law_2732 (by decide) (by decide) (fun c7 => ?_) (fun c7 => absurd rfl c7)
    refine lv_goto (tgt := 2898) hx hb dL_law_2737 (by decide) ?_
    refine W.widen (k := cells + 110) (n := slots + 1650) (by omega) (by omega) ?_
    exact kk _ _ _ _ _ _ _ _ hS3 ⟨g, sa, so, hL, tx, inp, out, c0, sv, hs, er, fa, (hW.2.2.1 (by omega)).1, hVs⟩ hokL (lv_sub hl [2, 3, 4, 5, 6, 7] rfl)

set_option maxHeartbeats 4000000 in
set_option maxRecDepth 100000 in
theorem lc_failedCommand (hB : lCx l R D cs A p s m args c b L m0 xs ad) (hi : 0 ≤ i ∧ i + 4 ≤ L) (hN : N ≤ 600) (hS : zLS D cs A s H locs m0 ou od ad Fg v gm f fd) (hT : zT2 cs N Fg ob v gm) (hok : mOK v gm) (hl : lv_has ls 9 [(5, .int (iI i)), (0, .ref b), (1, .ref ob), (2, .ref m0), (3, .ref ou), (4, .ref od)]) (hc : cells + 110 ≤ R.cells) (hsl : slots + 1650 ≤ R.slots)
  (kk : ∀ (H1 : Heap) (locs1 : List Loc) (Fg1 : zF) (v1 : Nat → Int) (g1 : Nat → Int → Int) (f1 : Nat → Int64) (fd1 : Nat → UInt64) (ls1 : Array Slot), zLS D cs A s H1 locs1 m0 ou od ad Fg1 v1 g1 f1 fd1 → zT2 cs (N + 1) Fg1 ob v1 g1 → mOK v1 g1 → lv_has ls1 9 [(5, .int (iI i)), (0, .ref b), (1, .ref ob), (2, .ref m0), (3, .ref ou), (4, .ref od)] → W p l e R s m args below meth c H1 locs1 (cells + 110) (slots + 1650) Q (F0 m 2898 ls1 [])) : W p l e R s m args below meth c H locs cells slots Q (F0 m 2740 ls []) := by
  obtain ⟨hC, hlt, hNc, hX, hbl, hbA, hL2, hD, hR1, hR2⟩ := hB
  have hx := hC.x
  have hb := hC.b
  obtain ⟨g, sa, so, hL, tx, inp, out, c0, sv, hs, er, fa, hg, hv⟩ := hT
  have hK := hv.2.1
  have hh8 := hv.2.2.1.2.1
  have htz := hv.2.2.2.2.2.2.1
  have hwi := hK.2.2.2.2.2.2.2.2.1
  have hb13 := hv.2.2.2.2.2.2.2.2.2.2.2.2.1
  have hb14 := hv.2.2.2.2.2.2.2.2.2.2.2.2.2
  refine lv_aload_n hx hb dL_law_2740 rfl (lv_at hl 2 rfl) ?_
  refine lv_aload_n hx hb dL_law_2741 rfl (lv_at hl 4 rfl) ?_
  refine z_fcall hC (z_frW (rest := []) (As := [.ref ob, .ref ou]) (n := 2) (hh := [((0 : Nat), (8 : Nat), (11 : Nat), (26 : Nat))]) hC hNc hS.w (wr_failedCommand l D cs (zfA (zun Fg (z1 ou (zLa cs f))) H) Fg ob ou  f hg.1 hS.2.2.2.2.2.1 (fun A1 => met_X12_failedCommand l D cs A1 Fg ob g sa so er fa c0 hlt hg.1 hg.st (⟨by omega, by omega⟩)) (fun E F1 q => q.2.2) ) (zgsW qm_L_323 qt_L_failedCommand qn_L qc_L_failedCommand) he_L_failedCommand rfl hl rfl (Nat.le_of_ble_eq_true rfl) ⟨by omega, by omega⟩ ⟨by omega, by omega⟩ dL_law_2742) hS.w (fun vv F1 H1 locs1 hp hZ1 hfr => ?_)
  obtain ⟨k, rfl, hwp⟩ := hp
  obtain ⟨Fg1, f1, rfl, ho1, hW⟩ := w_finP (S1 := (if 0 ≤ fa then ((0 : Int), fa) else (1, 0)).1) (S2 := (if 0 ≤ fa then ((0 : Int), fa) else (1, 0)).2) (Kn := (fun F1 => gOb cs F1 ob g sa so hL tx inp out c0 sv hs er fa)) (Kx := (fun F1 => gOb cs F1 ob g sa so hL tx inp out c0 sv hs er fa)) hwp (fun r F1 q => ⟨by rw [← q.1]; exact hg, q.2.1, q.2.2⟩) (fun E F1 q => ⟨by rw [← q.1]; exact hg, 0, by decide, by rw [q.2.2]; rfl, q.2.1.trans rfl⟩) (nd_names (by decide))
  clear hwp
  have hS1 := hS.aL hZ1 ho1 hfr
  clear hfr hZ1
  refine lv_istore (lv' := [(6, .int (iI k)), (5, .int (iI i)), (0, .ref b), (1, .ref ob), (2, .ref m0), (3, .ref ou), (4, .ref od)]) hx hb dL_law_2745 hl (by decide) rfl (fun ls hl => ?_)
  refine lv_aload_n hx hb dL_law_2747 rfl (lv_at hl 4 rfl) ?_
  refine z_fcall hC (z_frV (rest := []) (As := []) (n := 0) (ci := 16) hC hS1.2.1 (met_X13_failedCommand l D cs (zfA (mW cs m0 ad v gm) H1) m0 ad v gm hD hok) gv_L_325 hd_X13_failedCommand rfl mW_o rfl hl rfl (Nat.le_of_ble_eq_true rfl) ⟨by omega, by omega⟩ ⟨by omega, by omega⟩ dL_law_2748) hS1.2.1 (fun vv F2 H2 locs2 hp hZ1 hfr => ?_)
  obtain ⟨r, rfl, v2, g2, rfl, hok2, hm⟩ := hp
  have hS2 := hS1.aM hZ1 hfr
  clear hfr hZ1
  rw [hv.2.2.2.2.2.2.2.2.2.2.2.1] at hm
  obtain ⟨hVs, hV6, hVr⟩ := hv.mA hm
  refine lv_istore (lv' := [(7, .int (iI r)), (6, .int (iI k)), (5, .int (iI i)), (0, .ref b), (1, .ref ob), (2, .ref m0), (3, .ref ou), (4, .ref od)]) hx hb dL_law_2751 hl (by decide) rfl (fun ls hl => ?_)
  refine lv_aload_n hx hb dL_law_2753 rfl (lv_at hl 5 rfl) ?_
  refine z_fcall hC (z_frV (rest := []) (As := []) (n := 0) (ci := 16) hC hS2.2.1 (met_X13_thrown l D cs (zfA (mW cs m0 ad v2 g2) H2) m0 ad v2 g2 hD hok2) gv_L_167 hd_X13_thrown rfl mW_o rfl hl rfl (Nat.le_of_ble_eq_true rfl) ⟨by omega, by omega⟩ ⟨by omega, by omega⟩ dL_law_2754) hS2.2.1 (fun vv F3 H3 locs3 hp hZ1 hfr => ?_)
  obtain ⟨r3, rfl, v3, g3, rfl, hokL, rfl, rfl, rfl⟩ := hp
  have hS3 := hS2.aM hZ1 hfr
  clear hfr hZ1
  have hk6 : v2 6 = k := hV6.trans hW.1.symm
  have hkr := hW.2.1
  refine lv_iload hx hb dL_law_2757 (lv_at hl 1 rfl) ?_
  refine z_icmp_eq (tgt := 2764) hx hb dL_law_2759 (by decide) (by omega) (by omega) (fun c9 => ?_) (fun c9 => absurd hk6 c9)
  refine lv_iload hx hb dL_law_2764 (lv_at hl 1 rfl) ?_
  refine z_if_ne (tgt := 2781) hx hb dL_law_2766 (by decide) (by omega) (fun c8 => ?_) (fun c8 => ?_)
  · skip
    refine lv_goto (tgt := 2898) hx hb dL_law_2781 (by decide) ?_
    refine W.widen (k := cells + 110) (n := slots + 1650) (by omega) (by omega) ?_
    exact kk _ _ _ _ _ _ _ _ hS3 ⟨g, sa, so, hL, tx, inp, out, c0, sv, hs, er, fa, (hW.2.2.2 c8), hVs⟩ hokL (lv_sub hl [2, 3, 4, 5, 6, 7] rfl)
  · skip
    have hk0 : k = 0 := by omega
    refine lv_aload_n hx hb dL_law_2769 rfl (lv_at hl 6 rfl) ?_
    refine z_iconst hx hb dL_law_2770 ?_
    refine z_lald hC hS3.2.2.1 z1_s dL_law_2771 ?_
    refine lv_iload hx hb dL_law_2772 (lv_at hl 0 rfl) ?_
    refine lv_i2l hx hb dL_law_2774 rfl ?_
    refine z_lcmp0 hC ((hW.2.2.1 hk0).2.trans (by rw [hVr (hW.1.symm.trans hk0)])) dL_law_2775 ?_
    refine z_if_eq (tgt := 2781) hx hb dL_law_2776 (by decide) (by decide) (fun c7 => ?_) (fun c7 => absurd rfl c7)
    refine lv_goto (tgt := 2898) hx hb dL_law_2781 (by decide) ?_
    refine W.widen (k := cells + 110) (n := slots + 1650) (by omega) (by omega) ?_
    exact kk _ _ _ _ _ _ _ _ hS3 ⟨g, sa, so, hL, tx, inp, out, c0, sv, hs, er, fa, (hW.2.2.1 (by omega)).1, hVs⟩ hokL (lv_sub hl [2, 3, 4, 5, 6, 7] rfl)

set_option maxHeartbeats 4000000 in
set_option maxRecDepth 100000 in
theorem lc_undo (hB : lCx l R D cs A p s m args c b L m0 xs ad) (hi : 0 ≤ i ∧ i + 4 ≤ L) (hN : N ≤ 600) (hS : zLS D cs A s H locs m0 ou od ad Fg v gm f fd) (hT : zT2 cs N Fg ob v gm) (hok : mOK v gm) (hl : lv_has ls 9 [(5, .int (iI i)), (0, .ref b), (1, .ref ob), (2, .ref m0), (3, .ref ou), (4, .ref od)]) (hc : cells + 110 ≤ R.cells) (hsl : slots + 1650 ≤ R.slots)
  (kk : ∀ (H1 : Heap) (locs1 : List Loc) (Fg1 : zF) (v1 : Nat → Int) (g1 : Nat → Int → Int) (f1 : Nat → Int64) (fd1 : Nat → UInt64) (ls1 : Array Slot), zLS D cs A s H1 locs1 m0 ou od ad Fg1 v1 g1 f1 fd1 → zT2 cs (N + 1) Fg1 ob v1 g1 → mOK v1 g1 → lv_has ls1 9 [(5, .int (iI i)), (0, .ref b), (1, .ref ob), (2, .ref m0), (3, .ref ou), (4, .ref od)] → W p l e R s m args below meth c H1 locs1 (cells + 110) (slots + 1650) Q (F0 m 2898 ls1 [])) : W p l e R s m args below meth c H locs cells slots Q (F0 m 2784 ls []) := by
  obtain ⟨hC, hlt, hNc, hX, hbl, hbA, hL2, hD, hR1, hR2⟩ := hB
  have hx := hC.x
  have hb := hC.b
  obtain ⟨g, sa, so, hL, tx, inp, out, c0, sv, hs, er, fa, hg, hv⟩ := hT
  have hK := hv.2.1
  have hh8 := hv.2.2.1.2.1
  have htz := hv.2.2.2.2.2.2.1
  have hwi := hK.2.2.2.2.2.2.2.2.1
  have hb13 := hv.2.2.2.2.2.2.2.2.2.2.2.2.1
  have hb14 := hv.2.2.2.2.2.2.2.2.2.2.2.2.2
  refine lv_aload_n hx hb dL_law_2784 rfl (lv_at hl 2 rfl) ?_
  refine lv_aload_n hx hb dL_law_2785 rfl (lv_at hl 4 rfl) ?_
  refine z_fcall hC (z_frW (rest := []) (As := [.ref ob, .ref ou]) (n := 2) (hh := [((0 : Nat), (8 : Nat), (11 : Nat), (15 : Nat))]) hC hNc hS.w (wr_undo l D cs (zfA (zun Fg (z1 ou (zLa cs f))) H) Fg ob ou  f hg.1 hS.2.2.2.2.2.1 (fun A1 => met_X12_undo l D cs A1 Fg ob g sa so hL tx inp out c0 sv hs er fa hlt hg hh8) (fun E F1 q => q.2.2) ) (zgsW qm_L_326 qt_L_undo qn_L qc_L_undo) he_L_undo rfl hl rfl (Nat.le_of_ble_eq_true rfl) ⟨by omega, by omega⟩ ⟨by omega, by omega⟩ dL_law_2786) hS.w (fun vv F1 H1 locs1 hp hZ1 hfr => ?_)
  obtain ⟨k, rfl, hwp⟩ := hp
  obtain ⟨Fg1, f1, rfl, ho1, hW⟩ := w_finP (S1 := (sUn hs).1) (S2 := (sUn hs).2) (Kn := (fun F1 => ∃ (g1 : Nat → Nat) (sa1 : Nat) (hL1 : List Nat), gOb cs F1 ob g1 sa1 so hL1 tx inp out (hs.getD (hs.length - 1) cNew) sv (hs.eraseIdx (hs.length - 1)) er fa)) (Kx := (fun F1 => gOb cs F1 ob g sa so hL tx inp out c0 sv hs er fa)) hwp (fun r F1 q => ⟨q.2.2, by unfold sUn; rw [if_neg (by have := q.1; omega)], by rw [← q.2.1]; unfold sUn; rw [if_neg (by have := q.1; omega)]⟩) (fun E F1 q => ⟨q.1, 0, by decide, by rw [q.2.2]; rfl, by unfold sUn; rw [if_pos q.2.1]; rfl⟩) (nd_names (by decide))
  clear hwp
  have hS1 := hS.aL hZ1 ho1 hfr
  clear hfr hZ1
  refine lv_istore (lv' := [(6, .int (iI k)), (5, .int (iI i)), (0, .ref b), (1, .ref ob), (2, .ref m0), (3, .ref ou), (4, .ref od)]) hx hb dL_law_2789 hl (by decide) rfl (fun ls hl => ?_)
  refine lv_aload_n hx hb dL_law_2791 rfl (lv_at hl 4 rfl) ?_
  refine z_fcall hC (z_frV (rest := []) (As := []) (n := 0) (ci := 16) hC hS1.2.1 (met_X13_undo l D cs (zfA (mW cs m0 ad v gm) H1) m0 ad v gm hD hok (by have h9 := hv.2.2.1.1; omega)) gv_L_328 hd_X13_undo rfl mW_o rfl hl rfl (Nat.le_of_ble_eq_true rfl) ⟨by omega, by omega⟩ ⟨by omega, by omega⟩ dL_law_2792) hS1.2.1 (fun vv F2 H2 locs2 hp hZ1 hfr => ?_)
  obtain ⟨r, rfl, v2, g2, rfl, hok2, hm⟩ := hp
  have hS2 := hS1.aM hZ1 hfr
  clear hfr hZ1
  obtain ⟨hV6, hVr, hVx, hVn⟩ := hv.mUn hm
  refine lv_istore (lv' := [(7, .int (iI r)), (6, .int (iI k)), (5, .int (iI i)), (0, .ref b), (1, .ref ob), (2, .ref m0), (3, .ref ou), (4, .ref od)]) hx hb dL_law_2795 hl (by decide) rfl (fun ls hl => ?_)
  refine lv_aload_n hx hb dL_law_2797 rfl (lv_at hl 5 rfl) ?_
  refine z_fcall hC (z_frV (rest := []) (As := []) (n := 0) (ci := 16) hC hS2.2.1 (met_X13_thrown l D cs (zfA (mW cs m0 ad v2 g2) H2) m0 ad v2 g2 hD hok2) gv_L_167 hd_X13_thrown rfl mW_o rfl hl rfl (Nat.le_of_ble_eq_true rfl) ⟨by omega, by omega⟩ ⟨by omega, by omega⟩ dL_law_2798) hS2.2.1 (fun vv F3 H3 locs3 hp hZ1 hfr => ?_)
  obtain ⟨r3, rfl, v3, g3, rfl, hokL, rfl, rfl, rfl⟩ := hp
  have hS3 := hS2.aM hZ1 hfr
  clear hfr hZ1
  have hk6 : v2 6 = k := hV6.trans hW.1.symm
  have hkr := hW.2.1
  refine lv_iload hx hb dL_law_2801 (lv_at hl 1 rfl) ?_
  refine z_icmp_eq (tgt := 2808) hx hb dL_law_2803 (by decide) (by omega) (by omega) (fun c9 => ?_) (fun c9 => absurd hk6 c9)
  refine lv_iload hx hb dL_law_2808 (lv_at hl 1 rfl) ?_
  refine z_if_ne (tgt := 2825) hx hb dL_law_2810 (by decide) (by omega) (fun c8 => ?_) (fun c8 => ?_)
  · skip
    refine lv_goto (tgt := 2898) hx hb dL_law_2825 (by decide) ?_
    refine W.widen (k := cells + 110) (n := slots + 1650) (by omega) (by omega) ?_
    exact kk _ _ _ _ _ _ _ _ hS3 ⟨g, sa, so, hL, tx, inp, out, c0, sv, hs, er, fa, (hW.2.2.2 c8), (hVx (fun z => c8 (hW.1.trans z)))⟩ hokL (lv_sub hl [2, 3, 4, 5, 6, 7] rfl)
  · skip
    have hk0 : k = 0 := by omega
    refine lv_aload_n hx hb dL_law_2813 rfl (lv_at hl 6 rfl) ?_
    refine z_iconst hx hb dL_law_2814 ?_
    refine z_lald hC hS3.2.2.1 z1_s dL_law_2815 ?_
    refine lv_iload hx hb dL_law_2816 (lv_at hl 0 rfl) ?_
    refine lv_i2l hx hb dL_law_2818 rfl ?_
    refine z_lcmp0 hC ((hW.2.2.1 hk0).2.trans (by rw [hVr (hW.1.symm.trans hk0)])) dL_law_2819 ?_
    refine z_if_eq (tgt := 2825) hx hb dL_law_2820 (by decide) (by decide) (fun c7 => ?_) (fun c7 => absurd rfl c7)
    refine lv_goto (tgt := 2898) hx hb dL_law_2825 (by decide) ?_
    refine W.widen (k := cells + 110) (n := slots + 1650) (by omega) (by omega) ?_
    exact kk _ _ _ _ _ _ _ _ hS3 (let ⟨g9, sa9, hL9, h9⟩ := (hW.2.2.1 (by omega)).1; ⟨g9, sa9, so, hL9, _, inp, out, _, sv, _, er, fa, h9, (hVn (hW.1.symm.trans (show k = 0 by omega)))⟩) hokL (lv_sub hl [2, 3, 4, 5, 6, 7] rfl)

set_option maxHeartbeats 4000000 in
set_option maxRecDepth 100000 in
theorem lc_undoCount (hB : lCx l R D cs A p s m args c b L m0 xs ad) (hi : 0 ≤ i ∧ i + 4 ≤ L) (hN : N ≤ 600) (hS : zLS D cs A s H locs m0 ou od ad Fg v gm f fd) (hT : zT2 cs N Fg ob v gm) (hok : mOK v gm) (hl : lv_has ls 9 [(5, .int (iI i)), (0, .ref b), (1, .ref ob), (2, .ref m0), (3, .ref ou), (4, .ref od)]) (hc : cells + 110 ≤ R.cells) (hsl : slots + 1650 ≤ R.slots)
  (kk : ∀ (H1 : Heap) (locs1 : List Loc) (Fg1 : zF) (v1 : Nat → Int) (g1 : Nat → Int → Int) (f1 : Nat → Int64) (fd1 : Nat → UInt64) (ls1 : Array Slot), zLS D cs A s H1 locs1 m0 ou od ad Fg1 v1 g1 f1 fd1 → zT2 cs (N + 1) Fg1 ob v1 g1 → mOK v1 g1 → lv_has ls1 9 [(5, .int (iI i)), (0, .ref b), (1, .ref ob), (2, .ref m0), (3, .ref ou), (4, .ref od)] → W p l e R s m args below meth c H1 locs1 (cells + 110) (slots + 1650) Q (F0 m 2898 ls1 [])) : W p l e R s m args below meth c H locs cells slots Q (F0 m 2828 ls []) := by
  obtain ⟨hC, hlt, hNc, hX, hbl, hbA, hL2, hD, hR1, hR2⟩ := hB
  have hx := hC.x
  have hb := hC.b
  obtain ⟨g, sa, so, hL, tx, inp, out, c0, sv, hs, er, fa, hg, hv⟩ := hT
  have hK := hv.2.1
  have hh8 := hv.2.2.1.2.1
  have htz := hv.2.2.2.2.2.2.1
  have hwi := hK.2.2.2.2.2.2.2.2.1
  have hb13 := hv.2.2.2.2.2.2.2.2.2.2.2.2.1
  have hb14 := hv.2.2.2.2.2.2.2.2.2.2.2.2.2
  refine lv_aload_n hx hb dL_law_2828 rfl (lv_at hl 2 rfl) ?_
  refine z_fcall hC (z_frV (rest := []) (As := []) (n := 0) (ci := 15) hC hS.1 (met_X12_undoCount l D cs (zfA Fg H) Fg ob g sa so er fa c0 hL hg.1 hg.st hg.2.2.2.2.2.2.2.2.1) gv_L_329 hd_X12_undoCount rfl hg.1 rfl hl rfl (Nat.le_of_ble_eq_true rfl) ⟨by omega, by omega⟩ ⟨by omega, by omega⟩ dL_law_2829) hS.1 (fun vv Fg1 H1 locs1 hp hZ1 hfr => ?_)
  obtain ⟨r1, rfl, hq⟩ := hp
  have hS1 := hS.aG hZ1 hfr
  refine lv_aload_n hx hb dL_law_2832 rfl (lv_at hl 3 rfl) ?_
  refine z_fcall hC (z_frV (rest := [.int (iI r1)]) (As := []) (n := 0) (ci := 16) hC hS1.2.1 (met_X13_undoCount l D cs (zfA (mW cs m0 ad v gm) H1) m0 ad v gm hD hok) gv_L_332 hd_X13_undoCount rfl mW_o rfl hl rfl (Nat.le_of_ble_eq_true rfl) ⟨by omega, by omega⟩ ⟨by omega, by omega⟩ dL_law_2833) hS1.2.1 (fun vv F2 H2 locs2 hp hZ1 hfr => ?_)
  obtain ⟨r, rfl, v2, g2, rfl, hokL, hm⟩ := hp
  have hS2 := hS1.aM hZ1 hfr
  obtain ⟨rfl, e1⟩ := hq
  obtain ⟨m1, m2, e2⟩ := hm
  have hgq := hg
  have hzq := hv.up m1 m2
  have e3 := hv.2.2.1.1
  have e4 := hg.2.2.2.2.2.2.2.2.2.2.2.1
  have hrr : r1 = r := by omega
  have hrn : InR r := by unfold InR; omega
  refine z_icmp_eq (tgt := 2898) hx hb dL_law_2836 (by decide) (by rw [hrr]; exact hrn) hrn (fun c9 => ?_) (fun c9 => absurd hrr c9)
  refine W.widen (k := cells + 110) (n := slots + 1650) (by omega) (by omega) ?_
  exact kk _ _ _ _ _ _ _ _ hS2 ⟨g, sa, so, hL, tx, inp, out, c0, sv, hs, er, fa, hgq, hzq⟩ hokL (lv_sub hl [0, 1, 2, 3, 4, 5] rfl)

set_option maxHeartbeats 4000000 in
set_option maxRecDepth 100000 in
theorem lc_save (hB : lCx l R D cs A p s m args c b L m0 xs ad) (hi : 0 ≤ i ∧ i + 4 ≤ L) (hN : N ≤ 600) (hS : zLS D cs A s H locs m0 ou od ad Fg v gm f fd) (hT : zT2 cs N Fg ob v gm) (hok : mOK v gm) (hl : lv_has ls 9 [(5, .int (iI i)), (0, .ref b), (1, .ref ob), (2, .ref m0), (3, .ref ou), (4, .ref od)]) (hc : cells + 110 ≤ R.cells) (hsl : slots + 1650 ≤ R.slots)
  (kk : ∀ (H1 : Heap) (locs1 : List Loc) (Fg1 : zF) (v1 : Nat → Int) (g1 : Nat → Int → Int) (f1 : Nat → Int64) (fd1 : Nat → UInt64) (ls1 : Array Slot), zLS D cs A s H1 locs1 m0 ou od ad Fg1 v1 g1 f1 fd1 → zT2 cs (N + 1) Fg1 ob v1 g1 → mOK v1 g1 → lv_has ls1 9 [(5, .int (iI i)), (0, .ref b), (1, .ref ob), (2, .ref m0), (3, .ref ou), (4, .ref od)] → W p l e R s m args below meth c H1 locs1 (cells + 110) (slots + 1650) Q (F0 m 2898 ls1 [])) : W p l e R s m args below meth c H locs cells slots Q (F0 m 2841 ls []) := by
  obtain ⟨hC, hlt, hNc, hX, hbl, hbA, hL2, hD, hR1, hR2⟩ := hB
  have hx := hC.x
  have hb := hC.b
  obtain ⟨g, sa, so, hL, tx, inp, out, c0, sv, hs, er, fa, hg, hv⟩ := hT
  have hK := hv.2.1
  have hh8 := hv.2.2.1.2.1
  have htz := hv.2.2.2.2.2.2.1
  have hwi := hK.2.2.2.2.2.2.2.2.1
  have hb13 := hv.2.2.2.2.2.2.2.2.2.2.2.2.1
  have hb14 := hv.2.2.2.2.2.2.2.2.2.2.2.2.2
  refine lv_aload_n hx hb dL_law_2841 rfl (lv_at hl 2 rfl) ?_
  refine z_fcall hC (z_frV (rest := []) (As := []) (n := 0) (ci := 15) hC hS.1 (met_X12_save l D cs (zfA Fg H) Fg ob g sa so hL tx inp out c0 sv hs er fa hg) gv_L_333 hd_X12_save rfl hg.1 rfl hl rfl (Nat.le_of_ble_eq_true rfl) ⟨by omega, by omega⟩ ⟨by omega, by omega⟩ dL_law_2842) hS.1 (fun vv Fg1 H1 locs1 hp hZ1 hfr => ?_)
  obtain ⟨r1, rfl, hq⟩ := hp
  have hS1 := hS.aG hZ1 hfr
  refine lv_aload_n hx hb dL_law_2845 rfl (lv_at hl 3 rfl) ?_
  refine z_fcall hC (z_frV (rest := [.int (iI r1)]) (As := []) (n := 0) (ci := 16) hC hS1.2.1 (met_X13_save l D cs (zfA (mW cs m0 ad v gm) H1) m0 ad v gm hD hok) gv_L_336 hd_X13_save rfl mW_o rfl hl rfl (Nat.le_of_ble_eq_true rfl) ⟨by omega, by omega⟩ ⟨by omega, by omega⟩ dL_law_2846) hS1.2.1 (fun vv F2 H2 locs2 hp hZ1 hfr => ?_)
  obtain ⟨r, rfl, v2, g2, rfl, hokL, hm⟩ := hp
  have hS2 := hS1.aM hZ1 hfr
  obtain ⟨e1, hgq⟩ := hq
  obtain ⟨e2, hzq⟩ := hv.mSa hm
  have hrr : r1 = r := by omega
  have hrn : InR r := by have := hK.1; unfold InR; omega
  refine z_icmp_eq (tgt := 2898) hx hb dL_law_2849 (by decide) (by rw [hrr]; exact hrn) hrn (fun c9 => ?_) (fun c9 => absurd hrr c9)
  refine W.widen (k := cells + 110) (n := slots + 1650) (by omega) (by omega) ?_
  exact kk _ _ _ _ _ _ _ _ hS2 ⟨g, sa, some sa, hL, tx, inp, out, c0, some c0, hs, er, fa, hgq, hzq⟩ hokL (lv_sub hl [0, 1, 2, 3, 4, 5] rfl)

set_option maxHeartbeats 4000000 in
set_option maxRecDepth 100000 in
theorem lc_restore (hB : lCx l R D cs A p s m args c b L m0 xs ad) (hi : 0 ≤ i ∧ i + 4 ≤ L) (hN : N ≤ 600) (hS : zLS D cs A s H locs m0 ou od ad Fg v gm f fd) (hT : zT2 cs N Fg ob v gm) (hok : mOK v gm) (hl : lv_has ls 9 [(5, .int (iI i)), (0, .ref b), (1, .ref ob), (2, .ref m0), (3, .ref ou), (4, .ref od)]) (hc : cells + 110 ≤ R.cells) (hsl : slots + 1650 ≤ R.slots)
  (kk : ∀ (H1 : Heap) (locs1 : List Loc) (Fg1 : zF) (v1 : Nat → Int) (g1 : Nat → Int → Int) (f1 : Nat → Int64) (fd1 : Nat → UInt64) (ls1 : Array Slot), zLS D cs A s H1 locs1 m0 ou od ad Fg1 v1 g1 f1 fd1 → zT2 cs (N + 1) Fg1 ob v1 g1 → mOK v1 g1 → lv_has ls1 9 [(5, .int (iI i)), (0, .ref b), (1, .ref ob), (2, .ref m0), (3, .ref ou), (4, .ref od)] → W p l e R s m args below meth c H1 locs1 (cells + 110) (slots + 1650) Q (F0 m 2898 ls1 [])) : W p l e R s m args below meth c H locs cells slots Q (F0 m 2854 ls []) := by
  obtain ⟨hC, hlt, hNc, hX, hbl, hbA, hL2, hD, hR1, hR2⟩ := hB
  have hx := hC.x
  have hb := hC.b
  obtain ⟨g, sa, so, hL, tx, inp, out, c0, sv, hs, er, fa, hg, hv⟩ := hT
  have hK := hv.2.1
  have hh8 := hv.2.2.1.2.1
  have htz := hv.2.2.2.2.2.2.1
  have hwi := hK.2.2.2.2.2.2.2.2.1
  have hb13 := hv.2.2.2.2.2.2.2.2.2.2.2.2.1
  have hb14 := hv.2.2.2.2.2.2.2.2.2.2.2.2.2
  refine lv_aload_n hx hb dL_law_2854 rfl (lv_at hl 2 rfl) ?_
  refine lv_aload_n hx hb dL_law_2855 rfl (lv_at hl 4 rfl) ?_
  refine z_fcall hC (z_frW (rest := []) (As := [.ref ob, .ref ou]) (n := 2) (hh := [((0 : Nat), (8 : Nat), (11 : Nat), (15 : Nat))]) hC hNc hS.w (wr_restore l D cs (zfA (zun Fg (z1 ou (zLa cs f))) H) Fg ob ou  f hg.1 hS.2.2.2.2.2.1 (fun A1 => met_X12_restore l D cs A1 Fg ob g sa so hL tx inp out c0 sv hs er fa hlt hg) (fun E F1 q => q.2.2) ) (zgsW qm_L_337 qt_L_restore qn_L qc_L_restore) he_L_restore rfl hl rfl (Nat.le_of_ble_eq_true rfl) ⟨by omega, by omega⟩ ⟨by omega, by omega⟩ dL_law_2856) hS.w (fun vv F1 H1 locs1 hp hZ1 hfr => ?_)
  obtain ⟨k, rfl, hwp⟩ := hp
  obtain ⟨Fg1, f1, rfl, ho1, hW⟩ := w_finP (S1 := (sRe sv).1) (S2 := (sRe sv).2) (Kn := (fun F1 => ∃ (d1 : zCo) (q1 : Nat), sv = some d1 ∧ gOb cs F1 ob g q1 so [] tx inp out d1 sv [] er fa)) (Kx := (fun F1 => gOb cs F1 ob g sa so hL tx inp out c0 sv hs er fa)) hwp (fun r F1 q => by
    obtain ⟨d1, y1, y2, q1, y3⟩ := q
    exact ⟨⟨d1, q1, y1, y3⟩, by rw [y1]; rfl, by rw [y1]; exact y2⟩) (fun E F1 q => ⟨q.1, 0, by decide, by rw [q.2.2]; rfl, by rw [q.2.1]; rfl⟩) (nd_names (by decide))
  clear hwp
  have hS1 := hS.aL hZ1 ho1 hfr
  clear hfr hZ1
  refine lv_istore (lv' := [(6, .int (iI k)), (5, .int (iI i)), (0, .ref b), (1, .ref ob), (2, .ref m0), (3, .ref ou), (4, .ref od)]) hx hb dL_law_2859 hl (by decide) rfl (fun ls hl => ?_)
  refine lv_aload_n hx hb dL_law_2861 rfl (lv_at hl 4 rfl) ?_
  refine z_fcall hC (z_frV (rest := []) (As := []) (n := 0) (ci := 16) hC hS1.2.1 (met_X13_restore l D cs (zfA (mW cs m0 ad v gm) H1) m0 ad v gm hD hok (hv.2.2.2.2.2.2.2.2.2.1.imp (fun z => z.1) (fun z => z.1))) gv_L_339 hd_X13_restore rfl mW_o rfl hl rfl (Nat.le_of_ble_eq_true rfl) ⟨by omega, by omega⟩ ⟨by omega, by omega⟩ dL_law_2862) hS1.2.1 (fun vv F2 H2 locs2 hp hZ1 hfr => ?_)
  obtain ⟨r, rfl, v2, g2, rfl, hok2, hm⟩ := hp
  have hS2 := hS1.aM hZ1 hfr
  clear hfr hZ1
  obtain ⟨hV6, hVr, hVx, hVn⟩ := hv.mRe hm
  refine lv_istore (lv' := [(7, .int (iI r)), (6, .int (iI k)), (5, .int (iI i)), (0, .ref b), (1, .ref ob), (2, .ref m0), (3, .ref ou), (4, .ref od)]) hx hb dL_law_2865 hl (by decide) rfl (fun ls hl => ?_)
  refine lv_aload_n hx hb dL_law_2867 rfl (lv_at hl 5 rfl) ?_
  refine z_fcall hC (z_frV (rest := []) (As := []) (n := 0) (ci := 16) hC hS2.2.1 (met_X13_thrown l D cs (zfA (mW cs m0 ad v2 g2) H2) m0 ad v2 g2 hD hok2) gv_L_167 hd_X13_thrown rfl mW_o rfl hl rfl (Nat.le_of_ble_eq_true rfl) ⟨by omega, by omega⟩ ⟨by omega, by omega⟩ dL_law_2868) hS2.2.1 (fun vv F3 H3 locs3 hp hZ1 hfr => ?_)
  obtain ⟨r3, rfl, v3, g3, rfl, hokL, rfl, rfl, rfl⟩ := hp
  have hS3 := hS2.aM hZ1 hfr
  clear hfr hZ1
  have hk6 : v2 6 = k := hV6.trans hW.1.symm
  have hkr := hW.2.1
  refine lv_iload hx hb dL_law_2871 (lv_at hl 1 rfl) ?_
  refine z_icmp_eq (tgt := 2878) hx hb dL_law_2873 (by decide) (by omega) (by omega) (fun c9 => ?_) (fun c9 => absurd hk6 c9)
  refine lv_iload hx hb dL_law_2878 (lv_at hl 1 rfl) ?_
  refine z_if_ne (tgt := 2895) hx hb dL_law_2880 (by decide) (by omega) (fun c8 => ?_) (fun c8 => ?_)
  · skip
    refine lv_goto (tgt := 2898) hx hb dL_law_2895 (by decide) ?_
    refine W.widen (k := cells + 110) (n := slots + 1650) (by omega) (by omega) ?_
    exact kk _ _ _ _ _ _ _ _ hS3 ⟨g, sa, so, hL, tx, inp, out, c0, sv, hs, er, fa, (hW.2.2.2 c8), (hVx (fun z => c8 (hW.1.trans z)))⟩ hokL (lv_sub hl [2, 3, 4, 5, 6, 7] rfl)
  · skip
    have hk0 : k = 0 := by omega
    refine lv_aload_n hx hb dL_law_2883 rfl (lv_at hl 6 rfl) ?_
    refine z_iconst hx hb dL_law_2884 ?_
    refine z_lald hC hS3.2.2.1 z1_s dL_law_2885 ?_
    refine lv_iload hx hb dL_law_2886 (lv_at hl 0 rfl) ?_
    refine lv_i2l hx hb dL_law_2888 rfl ?_
    refine z_lcmp0 hC ((hW.2.2.1 hk0).2.trans (by rw [hVr (hW.1.symm.trans hk0)])) dL_law_2889 ?_
    refine z_if_eq (tgt := 2895) hx hb dL_law_2890 (by decide) (by decide) (fun c7 => ?_) (fun c7 => absurd rfl c7)
    refine lv_goto (tgt := 2898) hx hb dL_law_2895 (by decide) ?_
    refine W.widen (k := cells + 110) (n := slots + 1650) (by omega) (by omega) ?_
    exact kk _ _ _ _ _ _ _ _ hS3 (let ⟨d9, q9, h8, h9⟩ := (hW.2.2.1 (by omega)).1; ⟨g, q9, so, [], tx, inp, out, d9, sv, [], er, fa, h9, (hVn (hW.1.symm.trans (show k = 0 by omega))) d9 h8⟩) hokL (lv_sub hl [2, 3, 4, 5, 6, 7] rfl)

end LC
