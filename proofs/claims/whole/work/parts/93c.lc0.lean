theorem w_finP {cs : Nat → ClassId} {ou : Nat} {names : List String} {post : Int → zF → Prop} {px : String → zF → Prop} {S1 S2 k : Int} {Kn Kx : zF → Prop} {F : zF} (h : wPL cs ou names post px k F) (hp : ∀ (r : Int) (F1 : zF), post r F1 → Kn F1 ∧ S1 = 0 ∧ S2 = r) (hx : ∀ (E : String) (F1 : zF), px E F1 → Kx F1 ∧ ∃ i : Nat, i < 3 ∧ names[i]? = some E ∧ S1 = (i : Int) + 1) (hnd : ∀ (i j : Nat) (E : String), names[i]? = some E → names[j]? = some E → i = j) : ∃ (Fg1 : zF) (f : Nat → Int64), F = zun Fg1 (z1 ou (zLa cs f)) ∧ Fg1 ou = none ∧ k = S1 ∧ (0 ≤ k ∧ k ≤ 3) ∧ (k = 0 → Kn Fg1 ∧ f 0 = (iI S2).toInt64) ∧ (k ≠ 0 → Kx Fg1) := by
  obtain ⟨Fg1, f, h1, h2, h3⟩ := h
  exact ⟨Fg1, f, h1, h2, w_fin hp hx hnd h3⟩
theorem w_finDP {cs : Nat → ClassId} {ou : Nat} {names : List String} {post : UInt64 → zF → Prop} {px : String → zF → Prop} {S1 k : Int} {S2 : UInt64} {Kn Kx : zF → Prop} {F : zF} (h : wPD cs ou names post px k F) (hp : ∀ (r : UInt64) (F1 : zF), post r F1 → Kn F1 ∧ S1 = 0 ∧ S2 = r) (hx : ∀ (E : String) (F1 : zF), px E F1 → Kx F1 ∧ ∃ i : Nat, i < 3 ∧ names[i]? = some E ∧ S1 = (i : Int) + 1) (hnd : ∀ (i j : Nat) (E : String), names[i]? = some E → names[j]? = some E → i = j) : ∃ (Fg1 : zF) (f : Nat → UInt64), F = zun Fg1 (z1 ou (zDa cs f)) ∧ Fg1 ou = none ∧ k = S1 ∧ (0 ≤ k ∧ k ≤ 3) ∧ (k = 0 → Kn Fg1 ∧ f 0 = S2) ∧ (k ≠ 0 → Kx Fg1) := by
  obtain ⟨Fg1, f, h1, h2, h3⟩ := h
  exact ⟨Fg1, f, h1, h2, w_finD hp hx hnd h3⟩
theorem sOc_eq {v : Nat → Int} {gm : Nat → Int → Int} {out : List Int} (h : mO v gm out) (x : Int) : (if 0 ≤ x ∧ x < v 15 then ((0 : Int), gm 14 x) else (1, 0)) = (if 0 ≤ x ∧ x < (out.length : Int) then ((0 : Int), out.getD x.toNat 0) else (1, 0)) := by
  rw [h.1]
  by_cases c : 0 ≤ x ∧ x < (out.length : Int)
  · rw [if_pos c, if_pos c]
    have := lnAt_get h.2 c.1 c.2
    rw [Int.zero_add] at this
    rw [this]
  · rw [if_neg c, if_neg c]
theorem sMW_Q {N : Nat} {c0 : zCo} (hK : cOK N c0) (h : (sMW c0).1 = 0) : dQ (sMW c0).2 := by
  unfold sMW at h ⊢
  by_cases c : cAr c0 = []
  · rw [if_pos c] at h; cases h
  · rw [if_neg c]
    have h6 := hK.1
    have hw : ∀ l : List zAr, (∀ a ∈ l, arOK (cNi c0) a) → (zwn l ≤ 30 * l.length ∧ (l.length : Int) ≤ zwn l) ∧ 0 ≤ zlt l ∧ zlt l ≤ 360 * l.length := fun l => by
      induction l with
      | nil => exact fun _ => ⟨⟨by decide, by decide⟩, by decide, by decide⟩
      | cons a t ih =>
        intro hl
        obtain ⟨⟨i1, i2⟩, i3, i4⟩ := ih (fun x hx => hl x (List.mem_cons_of_mem _ hx))
        have ha := hl a List.mem_cons_self
        have hs : ∀ m : List Int, (∀ y ∈ m, 0 ≤ y ∧ y ≤ 12) → 0 ≤ m.sum ∧ m.sum ≤ 12 * m.length := fun m => by
          induction m with
          | nil => exact fun _ => ⟨by decide, by decide⟩
          | cons y m ihm =>
            intro hm
            have h1 := ihm (fun z hz => hm z (List.mem_cons_of_mem _ hz))
            have h2 := hm y List.mem_cons_self
            rw [List.sum_cons, List.length_cons]
            omega
        have hz := hs (zlens a) (fun y hy => by
          unfold zlens at hy
          obtain ⟨wd, hwd, rfl⟩ := List.mem_map.mp hy
          have := (ha.2.2.2 wd hwd).1
          omega)
        rw [zlens_l] at hz
        have h30 := ha.2.2.1
        have e1 : zwn (a :: t) = (a.2.2.length : Int) + zwn t := by
          unfold zwn
          rw [List.map_cons, List.sum_cons]
        have e2 : zlt (a :: t) = (zlens a).sum + zlt t := by
          unfold zlt
          rw [List.map_cons, List.sum_cons]
        rw [e1, e2, List.length_cons]
        omega
    have h1 := hw (cAr c0) hK.2.2.1
    have hp : 0 < (cAr c0).length := List.length_pos_iff.mpr c
    exact dQ_div (i2d_ok ⟨h1.2.1, by omega⟩).1 ((i2d_ok ⟨by omega, by omega⟩).2 (by omega))
/-- what holds through the law's loop -/
def lCx (l : Launch) (R : Room) (D : va_G) (cs : Nat → ClassId) (A : Nat → Prop) (p : Program) (s : State) (m : MethodId) (args : Array Value) (c : Code) (b L m0 : Nat) (xs : Nat → Int32) (ad : Nat → Nat) : Prop := zC p s m args c cL_law 9 RL D cs A ∧ l.stackTraces = false ∧ zxNc s ∧ va_X b L xs s s.heap ∧ b < s.heap.size ∧ ¬ A b ∧ L ≤ 2048 ∧ mD m0 ad ∧ 100 ≤ R.frames ∧ 6000 ≤ R.locals
section LC
variable {p : Program} {l : Launch} {e : Env} {R : Room} {s : State} {m : MethodId} {args : Array Value} {below : List Frame} {meth : Method} {c : Code} {H : Heap} {locs : List Loc} {cells slots : Nat} {Q : State → Prop}
variable {ls : Array Slot} {D : va_G} {cs : Nat → ClassId} {A : Nat → Prop} {b L ob m0 ou od N : Nat} {xs : Nat → Int32} {ad : Nat → Nat} {Fg : zF} {v : Nat → Int} {gm : Nat → Int → Int} {f : Nat → Int64} {fd : Nat → UInt64} {i : Int}
set_option maxHeartbeats 4000000 in
set_option maxRecDepth 100000 in
theorem lc_type (hB : lCx l R D cs A p s m args c b L m0 xs ad) (hi : 0 ≤ i ∧ i + 4 ≤ L) (hN : N ≤ 600) (hS : zLS D cs A s H locs m0 ou od ad Fg v gm f fd) (hT : zT2 cs N Fg ob v gm) (hok : mOK v gm) (hl : lv_has ls 9 [(5, .int (iI i)), (0, .ref b), (1, .ref ob), (2, .ref m0), (3, .ref ou), (4, .ref od)]) (hc : cells + 110 ≤ R.cells) (hsl : slots + 1650 ≤ R.slots)
  (kk : ∀ (H1 : Heap) (locs1 : List Loc) (Fg1 : zF) (v1 : Nat → Int) (g1 : Nat → Int → Int) (f1 : Nat → Int64) (fd1 : Nat → UInt64) (ls1 : Array Slot), zLS D cs A s H1 locs1 m0 ou od ad Fg1 v1 g1 f1 fd1 → zT2 cs (N + 1) Fg1 ob v1 g1 → mOK v1 g1 → lv_has ls1 9 [(5, .int (iI i)), (0, .ref b), (1, .ref ob), (2, .ref m0), (3, .ref ou), (4, .ref od)] → W p l e R s m args below meth c H1 locs1 (cells + 110) (slots + 1650) Q (F0 m 2898 ls1 [])) : W p l e R s m args below meth c H locs cells slots Q (F0 m 268 ls []) := by
  obtain ⟨hC, hlt, hNc, hX, hbl, hbA, hL2, hD, hR1, hR2⟩ := hB
  have hx := hC.x
  have hb := hC.b
  obtain ⟨g, sa, so, hL, tx, inp, out, c0, sv, hs, er, fa, hg, hv⟩ := hT
  have hK := hv.2.1
  have hh8 := hv.2.2.1.2.1
  have htz := hv.2.2.2.2.2.2.1
  have hwi := hK.2.2.2.2.2.2.2.2.1
  have hb13 := hv.2.2.2.2.2.2.2.2.2.2.2.2.1
  have hb14 := hv.2.2.2.2.2.2.2.2.2.2.2.2.2
  refine lv_aload_n hx hb dL_law_268 rfl (lv_at hl 2 rfl) ?_
  refine lv_aload_n hx hb dL_law_269 rfl (lv_at hl 1 rfl) ?_
  refine lv_iload hx hb dL_law_270 (lv_at hl 0 rfl) ?_
  refine z_iconst hx hb dL_law_272 ?_
  refine z_iadd hx hb dL_law_273 ?_
  refine z_sld (k := i + 1) hC hS.1 hX hbl hbA hL2 (by omega) dL_law_274 ?_
  refine z_i2cx hC dL_law_275 ?_
  refine lv_aload_n hx hb dL_law_276 rfl (lv_at hl 4 rfl) ?_
  refine z_fcall hC (z_frW (rest := []) (As := [.ref ob, .int (iI (sxc (sx xs (i + 1)))), .ref ou]) (n := 3) (hh := [((0 : Nat), (9 : Nat), (12 : Nat), (13 : Nat)), ((0 : Nat), (9 : Nat), (15 : Nat), (15 : Nat))]) hC hNc hS.w (wr_type l D cs (zfA (zun Fg (z1 ou (zLa cs f))) H) Fg ob ou (sxc (sx xs (i + 1))) f hg.1 hS.2.2.2.2.2.1 (fun A1 => met_X12_type l D cs A1 Fg ob g sa so hL tx inp out c0 sv hs er fa (sxc (sx xs (i + 1))) hlt hg ((sxc_ok (sx xs (i + 1))).1)) (fun E F1 q => q.2.elim (fun y => Or.inl y.2) (fun y => Or.inr y.2)) ) (zgsW qm_L_161 qt_L_type qn_L qc_L_type) he_L_type rfl hl rfl (Nat.le_of_ble_eq_true rfl) ⟨by omega, by omega⟩ ⟨by omega, by omega⟩ dL_law_277) hS.w (fun vv F1 H1 locs1 hp hZ1 hfr => ?_)
  obtain ⟨k, rfl, hwp⟩ := hp
  obtain ⟨Fg1, f1, rfl, ho1, hW⟩ := w_finP (S1 := (sTy tx (sxc (sx xs (i + 1)))).1) (S2 := (sTy tx (sxc (sx xs (i + 1)))).2) (Kn := (fun F1 => gOb cs F1 ob g sa so hL (tx ++ [(sxc (sx xs (i + 1)))]) inp out c0 sv hs er fa)) (Kx := (fun F1 => gOb cs F1 ob g sa so hL tx inp out c0 sv hs er fa)) hwp (fun r F1 q => ⟨q.2.2.2, by unfold sTy; rw [if_pos q.1, if_neg (by have := q.2.1; omega)], by rw [q.2.2.1]; unfold sTy; rw [if_pos q.1, if_neg (by have := q.2.1; omega)]⟩) (fun E F1 q => by
    rcases q.2 with y | y
    · exact ⟨q.1, 0, by decide, by rw [y.2]; rfl, by unfold sTy; rw [if_neg y.1]; rfl⟩
    · exact ⟨q.1, 1, by decide, by rw [y.2]; rfl, by unfold sTy; rw [if_pos y.1.1, if_pos y.1.2]; rfl⟩) (nd_names (by decide))
  clear hwp
  have hS1 := hS.aL hZ1 ho1 hfr
  clear hfr hZ1
  refine lv_istore (lv' := [(6, .int (iI k)), (5, .int (iI i)), (0, .ref b), (1, .ref ob), (2, .ref m0), (3, .ref ou), (4, .ref od)]) hx hb dL_law_280 hl (by decide) rfl (fun ls hl => ?_)
  refine lv_aload_n hx hb dL_law_282 rfl (lv_at hl 4 rfl) ?_
  refine lv_aload_n hx hb dL_law_283 rfl (lv_at hl 2 rfl) ?_
  refine lv_iload hx hb dL_law_284 (lv_at hl 1 rfl) ?_
  refine z_iconst hx hb dL_law_286 ?_
  refine z_iadd hx hb dL_law_287 ?_
  refine z_sld (k := i + 1) hC hS.1 hX hbl hbA hL2 (by omega) dL_law_288 ?_
  refine z_i2cx hC dL_law_289 ?_
  refine z_fcall hC (z_frV (rest := []) (As := [.int (iI (sxc (sx xs (i + 1))))]) (n := 1) (ci := 16) hC hS1.2.1 (met_X13_type l D cs (zfA (mW cs m0 ad v gm) H1) m0 ad v gm (sxc (sx xs (i + 1))) hD hok ((sxc_ok (sx xs (i + 1))).1) (by have h9 := hv.2.2.2.2.1.1; have h10 := hv.2.2.2.2.2.1; omega)) gv_L_166 hd_X13_type rfl mW_o rfl hl rfl (Nat.le_of_ble_eq_true rfl) ⟨by omega, by omega⟩ ⟨by omega, by omega⟩ dL_law_290) hS1.2.1 (fun vv F2 H2 locs2 hp hZ1 hfr => ?_)
  obtain ⟨r, rfl, v2, g2, rfl, hok2, hm⟩ := hp
  have hS2 := hS1.aM hZ1 hfr
  clear hfr hZ1
  obtain ⟨hV6, hVr, hVx, hVn⟩ := hv.mTy hm
  refine lv_istore (lv' := [(7, .int (iI r)), (6, .int (iI k)), (5, .int (iI i)), (0, .ref b), (1, .ref ob), (2, .ref m0), (3, .ref ou), (4, .ref od)]) hx hb dL_law_293 hl (by decide) rfl (fun ls hl => ?_)
  refine lv_aload_n hx hb dL_law_295 rfl (lv_at hl 5 rfl) ?_
  refine z_fcall hC (z_frV (rest := []) (As := []) (n := 0) (ci := 16) hC hS2.2.1 (met_X13_thrown l D cs (zfA (mW cs m0 ad v2 g2) H2) m0 ad v2 g2 hD hok2) gv_L_167 hd_X13_thrown rfl mW_o rfl hl rfl (Nat.le_of_ble_eq_true rfl) ⟨by omega, by omega⟩ ⟨by omega, by omega⟩ dL_law_296) hS2.2.1 (fun vv F3 H3 locs3 hp hZ1 hfr => ?_)
  obtain ⟨r3, rfl, v3, g3, rfl, hokL, rfl, rfl, rfl⟩ := hp
  have hS3 := hS2.aM hZ1 hfr
  clear hfr hZ1
  have hk6 : v2 6 = k := hV6.trans hW.1.symm
  have hkr := hW.2.1
  refine lv_iload hx hb dL_law_299 (lv_at hl 1 rfl) ?_
  refine z_icmp_eq (tgt := 306) hx hb dL_law_301 (by decide) (by omega) (by omega) (fun c9 => ?_) (fun c9 => absurd hk6 c9)
  refine lv_iload hx hb dL_law_306 (lv_at hl 1 rfl) ?_
  refine z_if_ne (tgt := 323) hx hb dL_law_308 (by decide) (by omega) (fun c8 => ?_) (fun c8 => ?_)
  · skip
    refine lv_goto (tgt := 2898) hx hb dL_law_323 (by decide) ?_
    refine W.widen (k := cells + 110) (n := slots + 1650) (by omega) (by omega) ?_
    exact kk _ _ _ _ _ _ _ _ hS3 ⟨g, sa, so, hL, tx, inp, out, c0, sv, hs, er, fa, (hW.2.2.2 c8), (hVx (fun z => c8 (hW.1.trans z)))⟩ hokL (lv_sub hl [2, 3, 4, 5, 6, 7] rfl)
  · skip
    have hk0 : k = 0 := by omega
    refine lv_aload_n hx hb dL_law_311 rfl (lv_at hl 6 rfl) ?_
    refine z_iconst hx hb dL_law_312 ?_
    refine z_lald hC hS3.2.2.1 z1_s dL_law_313 ?_
    refine lv_iload hx hb dL_law_314 (lv_at hl 0 rfl) ?_
    refine lv_i2l hx hb dL_law_316 rfl ?_
    refine z_lcmp0 hC ((hW.2.2.1 hk0).2.trans (by rw [hVr (hW.1.symm.trans hk0)])) dL_law_317 ?_
    refine z_if_eq (tgt := 323) hx hb dL_law_318 (by decide) (by decide) (fun c7 => ?_) (fun c7 => absurd rfl c7)
    refine lv_goto (tgt := 2898) hx hb dL_law_323 (by decide) ?_
    refine W.widen (k := cells + 110) (n := slots + 1650) (by omega) (by omega) ?_
    exact kk _ _ _ _ _ _ _ _ hS3 ⟨g, sa, so, hL, _, _, out, c0, sv, hs, er, fa, (hW.2.2.1 (by omega)).1, (hVn (hW.1.symm.trans (show k = 0 by omega)))⟩ hokL (lv_sub hl [2, 3, 4, 5, 6, 7] rfl)

set_option maxHeartbeats 4000000 in
set_option maxRecDepth 100000 in
theorem lc_clearText (hB : lCx l R D cs A p s m args c b L m0 xs ad) (hi : 0 ≤ i ∧ i + 4 ≤ L) (hN : N ≤ 600) (hS : zLS D cs A s H locs m0 ou od ad Fg v gm f fd) (hT : zT2 cs N Fg ob v gm) (hok : mOK v gm) (hl : lv_has ls 9 [(5, .int (iI i)), (0, .ref b), (1, .ref ob), (2, .ref m0), (3, .ref ou), (4, .ref od)]) (hc : cells + 110 ≤ R.cells) (hsl : slots + 1650 ≤ R.slots)
  (kk : ∀ (H1 : Heap) (locs1 : List Loc) (Fg1 : zF) (v1 : Nat → Int) (g1 : Nat → Int → Int) (f1 : Nat → Int64) (fd1 : Nat → UInt64) (ls1 : Array Slot), zLS D cs A s H1 locs1 m0 ou od ad Fg1 v1 g1 f1 fd1 → zT2 cs (N + 1) Fg1 ob v1 g1 → mOK v1 g1 → lv_has ls1 9 [(5, .int (iI i)), (0, .ref b), (1, .ref ob), (2, .ref m0), (3, .ref ou), (4, .ref od)] → W p l e R s m args below meth c H1 locs1 (cells + 110) (slots + 1650) Q (F0 m 2898 ls1 [])) : W p l e R s m args below meth c H locs cells slots Q (F0 m 326 ls []) := by
  obtain ⟨hC, hlt, hNc, hX, hbl, hbA, hL2, hD, hR1, hR2⟩ := hB
  have hx := hC.x
  have hb := hC.b
  obtain ⟨g, sa, so, hL, tx, inp, out, c0, sv, hs, er, fa, hg, hv⟩ := hT
  have hK := hv.2.1
  have hh8 := hv.2.2.1.2.1
  have htz := hv.2.2.2.2.2.2.1
  have hwi := hK.2.2.2.2.2.2.2.2.1
  have hb13 := hv.2.2.2.2.2.2.2.2.2.2.2.2.1
  have hb14 := hv.2.2.2.2.2.2.2.2.2.2.2.2.2
  refine lv_aload_n hx hb dL_law_326 rfl (lv_at hl 2 rfl) ?_
  refine z_fcall hC (z_frV (rest := []) (As := []) (n := 0) (ci := 15) hC hS.1 (met_X12_clearText l D cs (zfA Fg H) Fg ob g sa so hL tx inp out c0 sv hs er fa hg) gv_L_170 hd_X12_clearText rfl hg.1 rfl hl rfl (Nat.le_of_ble_eq_true rfl) ⟨by omega, by omega⟩ ⟨by omega, by omega⟩ dL_law_327) hS.1 (fun vv Fg1 H1 locs1 hp hZ1 hfr => ?_)
  obtain ⟨r1, rfl, hq⟩ := hp
  have hS1 := hS.aG hZ1 hfr
  refine lv_aload_n hx hb dL_law_330 rfl (lv_at hl 3 rfl) ?_
  refine z_fcall hC (z_frV (rest := [.int (iI r1)]) (As := []) (n := 0) (ci := 16) hC hS1.2.1 (met_X13_clearText l D cs (zfA (mW cs m0 ad v gm) H1) m0 ad v gm hD hok) gv_L_173 hd_X13_clearText rfl mW_o rfl hl rfl (Nat.le_of_ble_eq_true rfl) ⟨by omega, by omega⟩ ⟨by omega, by omega⟩ dL_law_331) hS1.2.1 (fun vv F2 H2 locs2 hp hZ1 hfr => ?_)
  obtain ⟨r, rfl, v2, g2, rfl, hokL, hm⟩ := hp
  have hS2 := hS1.aM hZ1 hfr
  obtain ⟨e1, hgq⟩ := hq
  obtain ⟨e2, hzq⟩ := hv.mCl hm
  have hrr : r1 = r := by omega
  have hrn : InR r := by have := hv.2.2.2.2.2.1; unfold InR; omega
  refine z_icmp_eq (tgt := 2898) hx hb dL_law_334 (by decide) (by rw [hrr]; exact hrn) hrn (fun c9 => ?_) (fun c9 => absurd hrr c9)
  refine W.widen (k := cells + 110) (n := slots + 1650) (by omega) (by omega) ?_
  exact kk _ _ _ _ _ _ _ _ hS2 ⟨g, sa, so, hL, [], inp, out, c0, sv, hs, er, fa, hgq, hzq⟩ hokL (lv_sub hl [0, 1, 2, 3, 4, 5] rfl)

set_option maxHeartbeats 4000000 in
set_option maxRecDepth 100000 in
theorem lc_addArticle (hB : lCx l R D cs A p s m args c b L m0 xs ad) (hi : 0 ≤ i ∧ i + 4 ≤ L) (hN : N ≤ 600) (hS : zLS D cs A s H locs m0 ou od ad Fg v gm f fd) (hT : zT2 cs N Fg ob v gm) (hok : mOK v gm) (hl : lv_has ls 9 [(5, .int (iI i)), (0, .ref b), (1, .ref ob), (2, .ref m0), (3, .ref ou), (4, .ref od)]) (hc : cells + 110 ≤ R.cells) (hsl : slots + 1650 ≤ R.slots)
  (kk : ∀ (H1 : Heap) (locs1 : List Loc) (Fg1 : zF) (v1 : Nat → Int) (g1 : Nat → Int → Int) (f1 : Nat → Int64) (fd1 : Nat → UInt64) (ls1 : Array Slot), zLS D cs A s H1 locs1 m0 ou od ad Fg1 v1 g1 f1 fd1 → zT2 cs (N + 1) Fg1 ob v1 g1 → mOK v1 g1 → lv_has ls1 9 [(5, .int (iI i)), (0, .ref b), (1, .ref ob), (2, .ref m0), (3, .ref ou), (4, .ref od)] → W p l e R s m args below meth c H1 locs1 (cells + 110) (slots + 1650) Q (F0 m 2898 ls1 [])) : W p l e R s m args below meth c H locs cells slots Q (F0 m 339 ls []) := by
  obtain ⟨hC, hlt, hNc, hX, hbl, hbA, hL2, hD, hR1, hR2⟩ := hB
  have hx := hC.x
  have hb := hC.b
  obtain ⟨g, sa, so, hL, tx, inp, out, c0, sv, hs, er, fa, hg, hv⟩ := hT
  have hK := hv.2.1
  have hh8 := hv.2.2.1.2.1
  have htz := hv.2.2.2.2.2.2.1
  have hwi := hK.2.2.2.2.2.2.2.2.1
  have hb13 := hv.2.2.2.2.2.2.2.2.2.2.2.2.1
  have hb14 := hv.2.2.2.2.2.2.2.2.2.2.2.2.2
  refine lv_aload_n hx hb dL_law_339 rfl (lv_at hl 2 rfl) ?_
  refine lv_aload_n hx hb dL_law_340 rfl (lv_at hl 1 rfl) ?_
  refine lv_iload hx hb dL_law_341 (lv_at hl 0 rfl) ?_
  refine z_iconst hx hb dL_law_343 ?_
  refine z_iadd hx hb dL_law_344 ?_
  refine z_sld (k := i + 1) hC hS.1 hX hbl hbA hL2 (by omega) dL_law_345 ?_
  refine lv_aload_n hx hb dL_law_346 rfl (lv_at hl 4 rfl) ?_
  refine z_fcall hC (z_frW (rest := []) (As := [.ref ob, .int (iI (sx xs (i + 1))), .ref ou]) (n := 3) (hh := [((0 : Nat), (9 : Nat), (12 : Nat), (13 : Nat)), ((0 : Nat), (9 : Nat), (15 : Nat), (15 : Nat)), ((0 : Nat), (9 : Nat), (18 : Nat), (21 : Nat))]) hC hNc hS.w (wr_addArticle l D cs (zfA (zun Fg (z1 ou (zLa cs f))) H) Fg ob ou (sx xs (i + 1)) f hg.1 hS.2.2.2.2.2.1 (fun A1 => met_X12_addArticle l D cs A1 Fg ob g sa so hL tx inp out c0 sv hs er fa (sx xs (i + 1)) N hlt hg (sx_R xs (i + 1)) htz hK (by omega) hh8) (fun E F1 q => q.2.elim (fun y => Or.inl y.2) (fun y => Or.inr (y.elim (fun y => Or.inl y.2) (fun y => Or.inr y.2)))) ) (zgsW qm_L_174 qt_L_addArticle qn_L qc_L_addArticle) he_L_addArticle rfl hl rfl (Nat.le_of_ble_eq_true rfl) ⟨by omega, by omega⟩ ⟨by omega, by omega⟩ dL_law_347) hS.w (fun vv F1 H1 locs1 hp hZ1 hfr => ?_)
  obtain ⟨k, rfl, hwp⟩ := hp
  obtain ⟨Fg1, f1, rfl, ho1, hW⟩ := w_finP (S1 := (sAdd c0 (sx xs (i + 1)) tx).1) (S2 := (sAdd c0 (sx xs (i + 1)) tx).2.2) (Kn := (fun F1 => ∃ (g1 : Nat → Nat) (sa1 : Nat) (hL1 : List Nat), gOb cs F1 ob g1 sa1 so hL1 [] inp out (sAdd c0 (sx xs (i + 1)) tx).2.1 sv (pushH hs c0) er fa)) (Kx := (fun F1 => gOb cs F1 ob g sa so hL tx inp out c0 sv hs er fa)) hwp (fun r F1 q => ⟨q.2.2, q.1, q.2.1⟩) (fun E F1 q => by
    rcases q.2 with y | y | y
    · exact ⟨q.1, 0, by decide, by rw [y.2]; rfl, by rw [y.1]; rfl⟩
    · exact ⟨q.1, 1, by decide, by rw [y.2]; rfl, by rw [y.1]; rfl⟩
    · exact ⟨q.1, 2, by decide, by rw [y.2]; rfl, by rw [y.1]; rfl⟩) (nd_names (by decide))
  clear hwp
  have hS1 := hS.aL hZ1 ho1 hfr
  clear hfr hZ1
  refine lv_istore (lv' := [(6, .int (iI k)), (5, .int (iI i)), (0, .ref b), (1, .ref ob), (2, .ref m0), (3, .ref ou), (4, .ref od)]) hx hb dL_law_350 hl (by decide) rfl (fun ls hl => ?_)
  refine lv_aload_n hx hb dL_law_352 rfl (lv_at hl 4 rfl) ?_
  refine lv_aload_n hx hb dL_law_353 rfl (lv_at hl 2 rfl) ?_
  refine lv_iload hx hb dL_law_354 (lv_at hl 1 rfl) ?_
  refine z_iconst hx hb dL_law_356 ?_
  refine z_iadd hx hb dL_law_357 ?_
  refine z_sld (k := i + 1) hC hS.1 hX hbl hbA hL2 (by omega) dL_law_358 ?_
  refine z_fcall hC (z_frV (rest := []) (As := [.int (iI (sx xs (i + 1)))]) (n := 1) (ci := 16) hC hS1.2.1 (met_X13_addArticle l D cs (zfA (mW cs m0 ad v gm) H1) m0 ad v gm (sx xs (i + 1)) hs tx N c0 hD hok hv.1 hK (sx_R xs (i + 1)) hv.2.2.2.2.1 hv.2.2.2.2.2.1 (by omega) hv.2.2.1 hv.2.2.2.1 (sAdd_R hK (by omega))) gv_L_177 hd_X13_addArticle rfl mW_o rfl hl rfl (Nat.le_of_ble_eq_true rfl) ⟨by omega, by omega⟩ ⟨by omega, by omega⟩ dL_law_359) hS1.2.1 (fun vv F2 H2 locs2 hp hZ1 hfr => ?_)
  obtain ⟨r, rfl, v2, g2, rfl, hok2, hm⟩ := hp
  have hS2 := hS1.aM hZ1 hfr
  clear hfr hZ1
  obtain ⟨hV6, hVr, hVx, hVn⟩ := hv.mC (tx1 := []) hm (fun k9 hk9 h89 => by rw [upN_n h89, upN_n (by unfold vK at hk9; omega)]) (Or.inr ⟨rfl, upN_s⟩) (sAdd_K hv)
  refine lv_istore (lv' := [(7, .int (iI r)), (6, .int (iI k)), (5, .int (iI i)), (0, .ref b), (1, .ref ob), (2, .ref m0), (3, .ref ou), (4, .ref od)]) hx hb dL_law_362 hl (by decide) rfl (fun ls hl => ?_)
  refine lv_aload_n hx hb dL_law_364 rfl (lv_at hl 5 rfl) ?_
  refine z_fcall hC (z_frV (rest := []) (As := []) (n := 0) (ci := 16) hC hS2.2.1 (met_X13_thrown l D cs (zfA (mW cs m0 ad v2 g2) H2) m0 ad v2 g2 hD hok2) gv_L_167 hd_X13_thrown rfl mW_o rfl hl rfl (Nat.le_of_ble_eq_true rfl) ⟨by omega, by omega⟩ ⟨by omega, by omega⟩ dL_law_365) hS2.2.1 (fun vv F3 H3 locs3 hp hZ1 hfr => ?_)
  obtain ⟨r3, rfl, v3, g3, rfl, hokL, rfl, rfl, rfl⟩ := hp
  have hS3 := hS2.aM hZ1 hfr
  clear hfr hZ1
  have hk6 : v2 6 = k := hV6.trans hW.1.symm
  have hkr := hW.2.1
  refine lv_iload hx hb dL_law_368 (lv_at hl 1 rfl) ?_
  refine z_icmp_eq (tgt := 375) hx hb dL_law_370 (by decide) (by omega) (by omega) (fun c9 => ?_) (fun c9 => absurd hk6 c9)
  refine lv_iload hx hb dL_law_375 (lv_at hl 1 rfl) ?_
  refine z_if_ne (tgt := 392) hx hb dL_law_377 (by decide) (by omega) (fun c8 => ?_) (fun c8 => ?_)
  · skip
    refine lv_goto (tgt := 2898) hx hb dL_law_392 (by decide) ?_
    refine W.widen (k := cells + 110) (n := slots + 1650) (by omega) (by omega) ?_
    exact kk _ _ _ _ _ _ _ _ hS3 ⟨g, sa, so, hL, tx, inp, out, c0, sv, hs, er, fa, (hW.2.2.2 c8), (hVx (fun z => c8 (hW.1.trans z)))⟩ hokL (lv_sub hl [2, 3, 4, 5, 6, 7] rfl)
  · skip
    have hk0 : k = 0 := by omega
    refine lv_aload_n hx hb dL_law_380 rfl (lv_at hl 6 rfl) ?_
    refine z_iconst hx hb dL_law_381 ?_
    refine z_lald hC hS3.2.2.1 z1_s dL_law_382 ?_
    refine lv_iload hx hb dL_law_383 (lv_at hl 0 rfl) ?_
    refine lv_i2l hx hb dL_law_385 rfl ?_
    refine z_lcmp0 hC ((hW.2.2.1 hk0).2.trans (by rw [hVr (hW.1.symm.trans hk0)])) dL_law_386 ?_
    refine z_if_eq (tgt := 392) hx hb dL_law_387 (by decide) (by decide) (fun c7 => ?_) (fun c7 => absurd rfl c7)
    refine lv_goto (tgt := 2898) hx hb dL_law_392 (by decide) ?_
    refine W.widen (k := cells + 110) (n := slots + 1650) (by omega) (by omega) ?_
    exact kk _ _ _ _ _ _ _ _ hS3 (let ⟨g9, sa9, hL9, h9⟩ := (hW.2.2.1 (by omega)).1; ⟨g9, sa9, so, hL9, _, inp, out, _, sv, _, er, fa, h9, (hVn (hW.1.symm.trans (show k = 0 by omega)))⟩) hokL (lv_sub hl [2, 3, 4, 5, 6, 7] rfl)

set_option maxHeartbeats 4000000 in
set_option maxRecDepth 100000 in
theorem lc_removeArticle (hB : lCx l R D cs A p s m args c b L m0 xs ad) (hi : 0 ≤ i ∧ i + 4 ≤ L) (hN : N ≤ 600) (hS : zLS D cs A s H locs m0 ou od ad Fg v gm f fd) (hT : zT2 cs N Fg ob v gm) (hok : mOK v gm) (hl : lv_has ls 9 [(5, .int (iI i)), (0, .ref b), (1, .ref ob), (2, .ref m0), (3, .ref ou), (4, .ref od)]) (hc : cells + 110 ≤ R.cells) (hsl : slots + 1650 ≤ R.slots)
  (kk : ∀ (H1 : Heap) (locs1 : List Loc) (Fg1 : zF) (v1 : Nat → Int) (g1 : Nat → Int → Int) (f1 : Nat → Int64) (fd1 : Nat → UInt64) (ls1 : Array Slot), zLS D cs A s H1 locs1 m0 ou od ad Fg1 v1 g1 f1 fd1 → zT2 cs (N + 1) Fg1 ob v1 g1 → mOK v1 g1 → lv_has ls1 9 [(5, .int (iI i)), (0, .ref b), (1, .ref ob), (2, .ref m0), (3, .ref ou), (4, .ref od)] → W p l e R s m args below meth c H1 locs1 (cells + 110) (slots + 1650) Q (F0 m 2898 ls1 [])) : W p l e R s m args below meth c H locs cells slots Q (F0 m 395 ls []) := by
  obtain ⟨hC, hlt, hNc, hX, hbl, hbA, hL2, hD, hR1, hR2⟩ := hB
  have hx := hC.x
  have hb := hC.b
  obtain ⟨g, sa, so, hL, tx, inp, out, c0, sv, hs, er, fa, hg, hv⟩ := hT
  have hK := hv.2.1
  have hh8 := hv.2.2.1.2.1
  have htz := hv.2.2.2.2.2.2.1
  have hwi := hK.2.2.2.2.2.2.2.2.1
  have hb13 := hv.2.2.2.2.2.2.2.2.2.2.2.2.1
  have hb14 := hv.2.2.2.2.2.2.2.2.2.2.2.2.2
  refine lv_aload_n hx hb dL_law_395 rfl (lv_at hl 2 rfl) ?_
  refine lv_aload_n hx hb dL_law_396 rfl (lv_at hl 1 rfl) ?_
  refine lv_iload hx hb dL_law_397 (lv_at hl 0 rfl) ?_
  refine z_iconst hx hb dL_law_399 ?_
  refine z_iadd hx hb dL_law_400 ?_
  refine z_sld (k := i + 1) hC hS.1 hX hbl hbA hL2 (by omega) dL_law_401 ?_
  refine lv_aload_n hx hb dL_law_402 rfl (lv_at hl 4 rfl) ?_
  refine z_fcall hC (z_frW (rest := []) (As := [.ref ob, .int (iI (sx xs (i + 1))), .ref ou]) (n := 3) (hh := [((0 : Nat), (9 : Nat), (12 : Nat), (26 : Nat))]) hC hNc hS.w (wr_removeArticle l D cs (zfA (zun Fg (z1 ou (zLa cs f))) H) Fg ob ou (sx xs (i + 1)) f hg.1 hS.2.2.2.2.2.1 (fun A1 => met_X12_removeArticle l D cs A1 Fg ob g sa so hL tx inp out c0 sv hs er fa (sx xs (i + 1)) N hlt hg (sx_R xs (i + 1)) hK (by omega) hh8) (fun E F1 q => q.2.2) ) (zgsW qm_L_178 qt_L_removeArticle qn_L qc_L_removeArticle) he_L_removeArticle rfl hl rfl (Nat.le_of_ble_eq_true rfl) ⟨by omega, by omega⟩ ⟨by omega, by omega⟩ dL_law_403) hS.w (fun vv F1 H1 locs1 hp hZ1 hfr => ?_)
  obtain ⟨k, rfl, hwp⟩ := hp
  obtain ⟨Fg1, f1, rfl, ho1, hW⟩ := w_finP (S1 := (sRem c0 (sx xs (i + 1))).1) (S2 := (sRem c0 (sx xs (i + 1))).2.2) (Kn := (fun F1 => ∃ (g1 : Nat → Nat) (sa1 : Nat) (hL1 : List Nat), gOb cs F1 ob g1 sa1 so hL1 tx inp out (sRem c0 (sx xs (i + 1))).2.1 sv (pushH hs c0) er fa)) (Kx := (fun F1 => gOb cs F1 ob g sa so hL tx inp out c0 sv hs er fa)) hwp (fun r F1 q => ⟨q.2.2, q.1, q.2.1⟩) (fun E F1 q => ⟨q.1, 0, by decide, by rw [q.2.2]; rfl, by rw [q.2.1]; rfl⟩) (nd_names (by decide))
  clear hwp
  have hS1 := hS.aL hZ1 ho1 hfr
  clear hfr hZ1
  refine lv_istore (lv' := [(6, .int (iI k)), (5, .int (iI i)), (0, .ref b), (1, .ref ob), (2, .ref m0), (3, .ref ou), (4, .ref od)]) hx hb dL_law_406 hl (by decide) rfl (fun ls hl => ?_)
  refine lv_aload_n hx hb dL_law_408 rfl (lv_at hl 4 rfl) ?_
  refine lv_aload_n hx hb dL_law_409 rfl (lv_at hl 2 rfl) ?_
  refine lv_iload hx hb dL_law_410 (lv_at hl 1 rfl) ?_
  refine z_iconst hx hb dL_law_412 ?_
  refine z_iadd hx hb dL_law_413 ?_
  refine z_sld (k := i + 1) hC hS.1 hX hbl hbA hL2 (by omega) dL_law_414 ?_
  refine z_fcall hC (z_frV (rest := []) (As := [.int (iI (sx xs (i + 1)))]) (n := 1) (ci := 16) hC hS1.2.1 (met_X13_removeArticle l D cs (zfA (mW cs m0 ad v gm) H1) m0 ad v gm (sx xs (i + 1)) hs N c0 hD hok hv.1 hK (sx_R xs (i + 1)) hv.2.2.1 hv.2.2.2.1 (sRem_R hK)) gv_L_180 hd_X13_removeArticle rfl mW_o rfl hl rfl (Nat.le_of_ble_eq_true rfl) ⟨by omega, by omega⟩ ⟨by omega, by omega⟩ dL_law_415) hS1.2.1 (fun vv F2 H2 locs2 hp hZ1 hfr => ?_)
  obtain ⟨r, rfl, v2, g2, rfl, hok2, hm⟩ := hp
  have hS2 := hS1.aM hZ1 hfr
  clear hfr hZ1
  obtain ⟨hV6, hVr, hVx, hVn⟩ := hv.mC (tx1 := tx) hm (fun k9 hk9 h89 => by exact upN_n (by unfold vK at hk9; omega)) (Or.inl ⟨rfl, upN_n (by decide)⟩) (sRem_K hK)
  refine lv_istore (lv' := [(7, .int (iI r)), (6, .int (iI k)), (5, .int (iI i)), (0, .ref b), (1, .ref ob), (2, .ref m0), (3, .ref ou), (4, .ref od)]) hx hb dL_law_418 hl (by decide) rfl (fun ls hl => ?_)
  refine lv_aload_n hx hb dL_law_420 rfl (lv_at hl 5 rfl) ?_
  refine z_fcall hC (z_frV (rest := []) (As := []) (n := 0) (ci := 16) hC hS2.2.1 (met_X13_thrown l D cs (zfA (mW cs m0 ad v2 g2) H2) m0 ad v2 g2 hD hok2) gv_L_167 hd_X13_thrown rfl mW_o rfl hl rfl (Nat.le_of_ble_eq_true rfl) ⟨by omega, by omega⟩ ⟨by omega, by omega⟩ dL_law_421) hS2.2.1 (fun vv F3 H3 locs3 hp hZ1 hfr => ?_)
  obtain ⟨r3, rfl, v3, g3, rfl, hokL, rfl, rfl, rfl⟩ := hp
  have hS3 := hS2.aM hZ1 hfr
  clear hfr hZ1
  have hk6 : v2 6 = k := hV6.trans hW.1.symm
  have hkr := hW.2.1
  refine lv_iload hx hb dL_law_424 (lv_at hl 1 rfl) ?_
  refine z_icmp_eq (tgt := 431) hx hb dL_law_426 (by decide) (by omega) (by omega) (fun c9 => ?_) (fun c9 => absurd hk6 c9)
  refine lv_iload hx hb dL_law_431 (lv_at hl 1 rfl) ?_
  refine z_if_ne (tgt := 448) hx hb dL_law_433 (by decide) (by omega) (fun c8 => ?_) (fun c8 => ?_)
  · skip
    refine lv_goto (tgt := 2898) hx hb dL_law_448 (by decide) ?_
    refine W.widen (k := cells + 110) (n := slots + 1650) (by omega) (by omega) ?_
    exact kk _ _ _ _ _ _ _ _ hS3 ⟨g, sa, so, hL, tx, inp, out, c0, sv, hs, er, fa, (hW.2.2.2 c8), (hVx (fun z => c8 (hW.1.trans z)))⟩ hokL (lv_sub hl [2, 3, 4, 5, 6, 7] rfl)
  · skip
    have hk0 : k = 0 := by omega
    refine lv_aload_n hx hb dL_law_436 rfl (lv_at hl 6 rfl) ?_
    refine z_iconst hx hb dL_law_437 ?_
    refine z_lald hC hS3.2.2.1 z1_s dL_law_438 ?_
    refine lv_iload hx hb dL_law_439 (lv_at hl 0 rfl) ?_
    refine lv_i2l hx hb dL_law_441 rfl ?_
    refine z_lcmp0 hC ((hW.2.2.1 hk0).2.trans (by rw [hVr (hW.1.symm.trans hk0)])) dL_law_442 ?_
    refine z_if_eq (tgt := 448) hx hb dL_law_443 (by decide) (by decide) (fun c7 => ?_) (fun c7 => absurd rfl c7)
    refine lv_goto (tgt := 2898) hx hb dL_law_448 (by decide) ?_
    refine W.widen (k := cells + 110) (n := slots + 1650) (by omega) (by omega) ?_
    exact kk _ _ _ _ _ _ _ _ hS3 (let ⟨g9, sa9, hL9, h9⟩ := (hW.2.2.1 (by omega)).1; ⟨g9, sa9, so, hL9, _, inp, out, _, sv, _, er, fa, h9, (hVn (hW.1.symm.trans (show k = 0 by omega)))⟩) hokL (lv_sub hl [2, 3, 4, 5, 6, 7] rfl)

set_option maxHeartbeats 4000000 in
set_option maxRecDepth 100000 in
theorem lc_correct (hB : lCx l R D cs A p s m args c b L m0 xs ad) (hi : 0 ≤ i ∧ i + 4 ≤ L) (hN : N ≤ 600) (hS : zLS D cs A s H locs m0 ou od ad Fg v gm f fd) (hT : zT2 cs N Fg ob v gm) (hok : mOK v gm) (hl : lv_has ls 9 [(5, .int (iI i)), (0, .ref b), (1, .ref ob), (2, .ref m0), (3, .ref ou), (4, .ref od)]) (hc : cells + 110 ≤ R.cells) (hsl : slots + 1650 ≤ R.slots)
  (kk : ∀ (H1 : Heap) (locs1 : List Loc) (Fg1 : zF) (v1 : Nat → Int) (g1 : Nat → Int → Int) (f1 : Nat → Int64) (fd1 : Nat → UInt64) (ls1 : Array Slot), zLS D cs A s H1 locs1 m0 ou od ad Fg1 v1 g1 f1 fd1 → zT2 cs (N + 1) Fg1 ob v1 g1 → mOK v1 g1 → lv_has ls1 9 [(5, .int (iI i)), (0, .ref b), (1, .ref ob), (2, .ref m0), (3, .ref ou), (4, .ref od)] → W p l e R s m args below meth c H1 locs1 (cells + 110) (slots + 1650) Q (F0 m 2898 ls1 [])) : W p l e R s m args below meth c H locs cells slots Q (F0 m 451 ls []) := by
  obtain ⟨hC, hlt, hNc, hX, hbl, hbA, hL2, hD, hR1, hR2⟩ := hB
  have hx := hC.x
  have hb := hC.b
  obtain ⟨g, sa, so, hL, tx, inp, out, c0, sv, hs, er, fa, hg, hv⟩ := hT
  have hK := hv.2.1
  have hh8 := hv.2.2.1.2.1
  have htz := hv.2.2.2.2.2.2.1
  have hwi := hK.2.2.2.2.2.2.2.2.1
  have hb13 := hv.2.2.2.2.2.2.2.2.2.2.2.2.1
  have hb14 := hv.2.2.2.2.2.2.2.2.2.2.2.2.2
  refine lv_aload_n hx hb dL_law_451 rfl (lv_at hl 2 rfl) ?_
  refine lv_aload_n hx hb dL_law_452 rfl (lv_at hl 1 rfl) ?_
  refine lv_iload hx hb dL_law_453 (lv_at hl 0 rfl) ?_
  refine z_iconst hx hb dL_law_455 ?_
  refine z_iadd hx hb dL_law_456 ?_
  refine z_sld (k := i + 1) hC hS.1 hX hbl hbA hL2 (by omega) dL_law_457 ?_
  refine lv_aload_n hx hb dL_law_458 rfl (lv_at hl 1 rfl) ?_
  refine lv_iload hx hb dL_law_459 (lv_at hl 0 rfl) ?_
  refine z_iconst hx hb dL_law_461 ?_
  refine z_iadd hx hb dL_law_462 ?_
  refine z_sld (k := i + 2) hC hS.1 hX hbl hbA hL2 (by omega) dL_law_463 ?_
  refine lv_aload_n hx hb dL_law_464 rfl (lv_at hl 4 rfl) ?_
  refine z_fcall hC (z_frW (rest := []) (As := [.ref ob, .int (iI (sx xs (i + 1))), .int (iI (sx xs (i + 2))), .ref ou]) (n := 4) (hh := [((0 : Nat), (10 : Nat), (13 : Nat), (26 : Nat)), ((0 : Nat), (10 : Nat), (17 : Nat), (32 : Nat)), ((0 : Nat), (10 : Nat), (21 : Nat), (21 : Nat))]) hC hNc hS.w (wr_correct l D cs (zfA (zun Fg (z1 ou (zLa cs f))) H) Fg ob ou (sx xs (i + 1)) (sx xs (i + 2)) f hg.1 hS.2.2.2.2.2.1 (fun A1 => met_X12_correct l D cs A1 Fg ob g sa so hL tx inp out c0 sv hs er fa (sx xs (i + 1)) (sx xs (i + 2)) N hlt hg (sx_R xs (i + 1)) (sx_R xs (i + 2)) htz hK (by omega) hh8) (fun E F1 q => q.2.elim (fun y => Or.inl y.2) (fun y => Or.inr (y.elim (fun y => Or.inl y.2) (fun y => Or.inr y.2)))) ) (zgsW qm_L_181 qt_L_correct qn_L qc_L_correct) he_L_correct rfl hl rfl (Nat.le_of_ble_eq_true rfl) ⟨by omega, by omega⟩ ⟨by omega, by omega⟩ dL_law_465) hS.w (fun vv F1 H1 locs1 hp hZ1 hfr => ?_)
  obtain ⟨k, rfl, hwp⟩ := hp
  obtain ⟨Fg1, f1, rfl, ho1, hW⟩ := w_finP (S1 := (sCor c0 (sx xs (i + 1)) (sx xs (i + 2)) tx).1) (S2 := (sCor c0 (sx xs (i + 1)) (sx xs (i + 2)) tx).2.2) (Kn := (fun F1 => ∃ (g1 : Nat → Nat) (sa1 : Nat) (hL1 : List Nat), gOb cs F1 ob g1 sa1 so hL1 [] inp out (sCor c0 (sx xs (i + 1)) (sx xs (i + 2)) tx).2.1 sv (pushH hs c0) er fa)) (Kx := (fun F1 => gOb cs F1 ob g sa so hL tx inp out c0 sv hs er fa)) hwp (fun r F1 q => ⟨q.2.2, q.1, q.2.1⟩) (fun E F1 q => by
    rcases q.2 with y | y | y
    · exact ⟨q.1, 0, by decide, by rw [y.2]; rfl, by rw [y.1]; rfl⟩
    · exact ⟨q.1, 1, by decide, by rw [y.2]; rfl, by rw [y.1]; rfl⟩
    · exact ⟨q.1, 2, by decide, by rw [y.2]; rfl, by rw [y.1]; rfl⟩) (nd_names (by decide))
  clear hwp
  have hS1 := hS.aL hZ1 ho1 hfr
  clear hfr hZ1
  refine lv_istore (lv' := [(6, .int (iI k)), (5, .int (iI i)), (0, .ref b), (1, .ref ob), (2, .ref m0), (3, .ref ou), (4, .ref od)]) hx hb dL_law_468 hl (by decide) rfl (fun ls hl => ?_)
  refine lv_aload_n hx hb dL_law_470 rfl (lv_at hl 4 rfl) ?_
  refine lv_aload_n hx hb dL_law_471 rfl (lv_at hl 2 rfl) ?_
  refine lv_iload hx hb dL_law_472 (lv_at hl 1 rfl) ?_
  refine z_iconst hx hb dL_law_474 ?_
  refine z_iadd hx hb dL_law_475 ?_
  refine z_sld (k := i + 1) hC hS.1 hX hbl hbA hL2 (by omega) dL_law_476 ?_
  refine lv_aload_n hx hb dL_law_477 rfl (lv_at hl 2 rfl) ?_
  refine lv_iload hx hb dL_law_478 (lv_at hl 1 rfl) ?_
  refine z_iconst hx hb dL_law_480 ?_
  refine z_iadd hx hb dL_law_481 ?_
  refine z_sld (k := i + 2) hC hS.1 hX hbl hbA hL2 (by omega) dL_law_482 ?_
  refine z_fcall hC (z_frV (rest := []) (As := [.int (iI (sx xs (i + 1))), .int (iI (sx xs (i + 2)))]) (n := 2) (ci := 16) hC hS1.2.1 (met_X13_correct l D cs (zfA (mW cs m0 ad v gm) H1) m0 ad v gm (sx xs (i + 1)) (sx xs (i + 2)) hs tx N c0 hD hok hv.1 hK (sx_R xs (i + 1)) (sx_R xs (i + 2)) hv.2.2.2.2.1 hv.2.2.2.2.2.1 (by omega) hv.2.2.1 hv.2.2.2.1 (sCor_R hK)) gv_L_184 hd_X13_correct rfl mW_o rfl hl rfl (Nat.le_of_ble_eq_true rfl) ⟨by omega, by omega⟩ ⟨by omega, by omega⟩ dL_law_483) hS1.2.1 (fun vv F2 H2 locs2 hp hZ1 hfr => ?_)
  obtain ⟨r, rfl, v2, g2, rfl, hok2, hm⟩ := hp
  have hS2 := hS1.aM hZ1 hfr
  clear hfr hZ1
  obtain ⟨hV6, hVr, hVx, hVn⟩ := hv.mC (tx1 := []) hm (fun k9 hk9 h89 => by rw [upN_n h89, upN_n (by unfold vK at hk9; omega)]) (Or.inr ⟨rfl, upN_s⟩) (sCor_K hv)
  refine lv_istore (lv' := [(7, .int (iI r)), (6, .int (iI k)), (5, .int (iI i)), (0, .ref b), (1, .ref ob), (2, .ref m0), (3, .ref ou), (4, .ref od)]) hx hb dL_law_486 hl (by decide) rfl (fun ls hl => ?_)
  refine lv_aload_n hx hb dL_law_488 rfl (lv_at hl 5 rfl) ?_
  refine z_fcall hC (z_frV (rest := []) (As := []) (n := 0) (ci := 16) hC hS2.2.1 (met_X13_thrown l D cs (zfA (mW cs m0 ad v2 g2) H2) m0 ad v2 g2 hD hok2) gv_L_167 hd_X13_thrown rfl mW_o rfl hl rfl (Nat.le_of_ble_eq_true rfl) ⟨by omega, by omega⟩ ⟨by omega, by omega⟩ dL_law_489) hS2.2.1 (fun vv F3 H3 locs3 hp hZ1 hfr => ?_)
  obtain ⟨r3, rfl, v3, g3, rfl, hokL, rfl, rfl, rfl⟩ := hp
  have hS3 := hS2.aM hZ1 hfr
  clear hfr hZ1
  have hk6 : v2 6 = k := hV6.trans hW.1.symm
  have hkr := hW.2.1
  refine lv_iload hx hb dL_law_492 (lv_at hl 1 rfl) ?_
  refine z_icmp_eq (tgt := 499) hx hb dL_law_494 (by decide) (by omega) (by omega) (fun c9 => ?_) (fun c9 => absurd hk6 c9)
  refine lv_iload hx hb dL_law_499 (lv_at hl 1 rfl) ?_
  refine z_if_ne (tgt := 516) hx hb dL_law_501 (by decide) (by omega) (fun c8 => ?_) (fun c8 => ?_)
  · skip
    refine lv_goto (tgt := 2898) hx hb dL_law_516 (by decide) ?_
    refine W.widen (k := cells + 110) (n := slots + 1650) (by omega) (by omega) ?_
    exact kk _ _ _ _ _ _ _ _ hS3 ⟨g, sa, so, hL, tx, inp, out, c0, sv, hs, er, fa, (hW.2.2.2 c8), (hVx (fun z => c8 (hW.1.trans z)))⟩ hokL (lv_sub hl [2, 3, 4, 5, 6, 7] rfl)
  · skip
    have hk0 : k = 0 := by omega
    refine lv_aload_n hx hb dL_law_504 rfl (lv_at hl 6 rfl) ?_
    refine z_iconst hx hb dL_law_505 ?_
    refine z_lald hC hS3.2.2.1 z1_s dL_law_506 ?_
    refine lv_iload hx hb dL_law_507 (lv_at hl 0 rfl) ?_
    refine lv_i2l hx hb dL_law_509 rfl ?_
    refine z_lcmp0 hC ((hW.2.2.1 hk0).2.trans (by rw [hVr (hW.1.symm.trans hk0)])) dL_law_510 ?_
    refine z_if_eq (tgt := 516) hx hb dL_law_511 (by decide) (by decide) (fun c7 => ?_) (fun c7 => absurd rfl c7)
    refine lv_goto (tgt := 2898) hx hb dL_law_516 (by decide) ?_
    refine W.widen (k := cells + 110) (n := slots + 1650) (by omega) (by omega) ?_
    exact kk _ _ _ _ _ _ _ _ hS3 (let ⟨g9, sa9, hL9, h9⟩ := (hW.2.2.1 (by omega)).1; ⟨g9, sa9, so, hL9, _, inp, out, _, sv, _, er, fa, h9, (hVn (hW.1.symm.trans (show k = 0 by omega)))⟩) hokL (lv_sub hl [2, 3, 4, 5, 6, 7] rfl)

set_option maxHeartbeats 4000000 in
set_option maxRecDepth 100000 in
theorem lc_articleCount (hB : lCx l R D cs A p s m args c b L m0 xs ad) (hi : 0 ≤ i ∧ i + 4 ≤ L) (hN : N ≤ 600) (hS : zLS D cs A s H locs m0 ou od ad Fg v gm f fd) (hT : zT2 cs N Fg ob v gm) (hok : mOK v gm) (hl : lv_has ls 9 [(5, .int (iI i)), (0, .ref b), (1, .ref ob), (2, .ref m0), (3, .ref ou), (4, .ref od)]) (hc : cells + 110 ≤ R.cells) (hsl : slots + 1650 ≤ R.slots)
  (kk : ∀ (H1 : Heap) (locs1 : List Loc) (Fg1 : zF) (v1 : Nat → Int) (g1 : Nat → Int → Int) (f1 : Nat → Int64) (fd1 : Nat → UInt64) (ls1 : Array Slot), zLS D cs A s H1 locs1 m0 ou od ad Fg1 v1 g1 f1 fd1 → zT2 cs (N + 1) Fg1 ob v1 g1 → mOK v1 g1 → lv_has ls1 9 [(5, .int (iI i)), (0, .ref b), (1, .ref ob), (2, .ref m0), (3, .ref ou), (4, .ref od)] → W p l e R s m args below meth c H1 locs1 (cells + 110) (slots + 1650) Q (F0 m 2898 ls1 [])) : W p l e R s m args below meth c H locs cells slots Q (F0 m 519 ls []) := by
  obtain ⟨hC, hlt, hNc, hX, hbl, hbA, hL2, hD, hR1, hR2⟩ := hB
  have hx := hC.x
  have hb := hC.b
  obtain ⟨g, sa, so, hL, tx, inp, out, c0, sv, hs, er, fa, hg, hv⟩ := hT
  have hK := hv.2.1
  have hh8 := hv.2.2.1.2.1
  have htz := hv.2.2.2.2.2.2.1
  have hwi := hK.2.2.2.2.2.2.2.2.1
  have hb13 := hv.2.2.2.2.2.2.2.2.2.2.2.2.1
  have hb14 := hv.2.2.2.2.2.2.2.2.2.2.2.2.2
  refine lv_aload_n hx hb dL_law_519 rfl (lv_at hl 2 rfl) ?_
  refine z_fcall hC (z_frV (rest := []) (As := []) (n := 0) (ci := 15) hC hS.1 (met_X12_articleCount l D cs (zfA Fg H) Fg ob g sa so er fa c0 hg.1 hg.st) gv_L_185 hd_X12_articleCount rfl hg.1 rfl hl rfl (Nat.le_of_ble_eq_true rfl) ⟨by omega, by omega⟩ ⟨by omega, by omega⟩ dL_law_520) hS.1 (fun vv Fg1 H1 locs1 hp hZ1 hfr => ?_)
  obtain ⟨r1, rfl, hq⟩ := hp
  have hS1 := hS.aG hZ1 hfr
  refine lv_aload_n hx hb dL_law_523 rfl (lv_at hl 3 rfl) ?_
  refine z_fcall hC (z_frV (rest := [.int (iI r1)]) (As := []) (n := 0) (ci := 16) hC hS1.2.1 (met_X13_articleCount l D cs (zfA (mW cs m0 ad v gm) H1) m0 ad v gm hD hok) gv_L_188 hd_X13_articleCount rfl mW_o rfl hl rfl (Nat.le_of_ble_eq_true rfl) ⟨by omega, by omega⟩ ⟨by omega, by omega⟩ dL_law_524) hS1.2.1 (fun vv F2 H2 locs2 hp hZ1 hfr => ?_)
  obtain ⟨r, rfl, v2, g2, rfl, hokL, hm⟩ := hp
  have hS2 := hS1.aM hZ1 hfr
  obtain ⟨rfl, e1⟩ := hq
  obtain ⟨m1, m2, e2⟩ := hm
  have hgq := hg
  have hzq := hv.up m1 m2
  have e3 := hv.1.1
  have hrr : r1 = r := by omega
  have hrn : InR r := by have := hK.1; unfold InR; omega
  refine z_icmp_eq (tgt := 2898) hx hb dL_law_527 (by decide) (by rw [hrr]; exact hrn) hrn (fun c9 => ?_) (fun c9 => absurd hrr c9)
  refine W.widen (k := cells + 110) (n := slots + 1650) (by omega) (by omega) ?_
  exact kk _ _ _ _ _ _ _ _ hS2 ⟨g, sa, so, hL, tx, inp, out, c0, sv, hs, er, fa, hgq, hzq⟩ hokL (lv_sub hl [0, 1, 2, 3, 4, 5] rfl)

end LC
