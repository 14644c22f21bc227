section NLG
variable {p : Program} {l : Launch} {e : Env} {R : Room} {s : State} {m : MethodId} {args : Array Value} {below : List Frame} {meth : Method} {c : Code} {H : Heap} {locs : List Loc} {cells slots : Nat} {Q : State → Prop}
variable {cc : ByteArray} {pc nL : Nat} {ls : Array Slot} {rest : List Value} {own : String} {D : va_G} {cs : Nat → ClassId} {A : Nat → Prop} {F G B X : zF} {a : Nat}
theorem z_topl {x y : Int64} (h : x = y) (k : W p l e R s m args below meth c H locs cells slots Q (F0 m pc ls (.long y :: rest))) : W p l e R s m args below meth c H locs cells slots Q (F0 m pc ls (.long x :: rest)) := by rw [h]; exact k
theorem z_ldc2 (hC : zC p s m args c cc nL own D cs A) {index : Nat} {v : Int64} (hk : Cond.constantLong own index v ∈ ZALL) (d : decode cc pc = .ok (.ldc2_w index, 3)) (k : W p l e R s m args below meth c H locs cells slots Q (F0 m (pc + 3) ls (.long v :: rest))) : W p l e R s m args below meth c H locs cells slots Q (F0 m pc ls rest) :=
  lv_ldc2 hC.x hC.b hC.ow (hC.ts hk) d k
def pL (post : Int64 → zF → Prop) : Option Value → zF → Prop := fun v F => ∃ r : Int64, v = some (.long r) ∧ post r F
def pGL (post : Int64 → zF → zF → Prop) : Option Value → zF → Prop := pL (fun r F1 => ∃ G1 X1 : zF, F1 = zun G1 X1 ∧ zdj G1 X1 ∧ post r G1 X1)
theorem z_lret (hC : zC p s m args c cc nL own D cs A) (hr : meth.sig.returnType = some .long) (hlk : meth.locks = false) (hZ : zS D A s F H locs) {mc ms : Nat} {post : Int64 → zF → Prop} {r : Int64} (hc : cells ≤ mc) (hs : slots ≤ ms) (hp : post r F) (d : decode cc pc = .ok (.lreturn, 1)) : W p l e R s m args below meth c H locs cells slots (MQ below (zQ D A (pL post)) args s mc ms A) (F0 m pc ls [.long r]) :=
  W.widen hc hs (W.lret hC.x hC.b hr (fun t ht hW => ⟨⟨_, F, rfl, ⟨r, rfl, hp⟩, hZ.ff ht⟩, hZ.2.2.F ht⟩) hZ.2.2.2.2 d hlk)
theorem z_lretG (hC : zC p s m args c cc nL own D cs A) (hr : meth.sig.returnType = some .long) (hlk : meth.locks = false) (hW : zW3 D A s G B X H locs) {mc ms : Nat} {post : Int64 → zF → zF → Prop} {r : Int64} (hc : cells ≤ mc) (hs : slots ≤ ms) (hp : post r G X) (d : decode cc pc = .ok (.lreturn, 1)) : W p l e R s m args below meth c H locs cells slots (MQ below (zQ D A (pGL post)) args s mc ms A) (F0 m pc ls [.long r]) :=
  z_lret hC hr hlk hW.gx hc hs ⟨G, X, rfl, hW.dgx, hp⟩ d
theorem z_cGXl (hC : zC p s m args c cc nL own D cs A) {post : Int64 → zF → zF → Prop} {mc ms : Nat} {st0 : List Value} (hr : zRun p l e R s m args below meth c H locs cells slots mc ms (F0 m pc ls st0) rest D (zfA (zun G X) H) (pGL post)) (hW : zW3 D A s G B X H locs)
    (kk : ∀ (r : Int64) (G1 X1 : zF) (H1 : Heap) (locs1 : List Loc), post r G1 X1 → zW3 D A s G1 B X1 H1 locs1 → W p l e R s m args below meth c H1 locs1 (cells + mc) (slots + ms) Q (F0 m (pc + 3) ls (.long r :: rest))) : W p l e R s m args below meth c H locs cells slots Q (F0 m pc ls st0) :=
  z_cGX hC hr hW (fun v F1 H1 locs1 hp h => by obtain ⟨r, rfl, G1, X1, e1, d1, hp⟩ := hp; exact kk r G1 X1 H1 locs1 hp (h G1 X1 e1 d1))
/-- an array of longs -/
abbrev zL8 (c : ClassId) (n : Nat) (f : Int → Int64) : va_E := .inl (c, n, .inr (.inl (fun k : Nat => f (k : Int))))
theorem z_lald (hC : zC p s m args c cc nL own D cs A) (hZ : zS D A s F H locs) {n : Nat} {f : Int → Int64} {i : Int} (ha : F a = some (zL8 (cs 6) n f)) (hi : 0 ≤ i ∧ i < n) (hn : n ≤ 2147483647) (d : decode cc pc = .ok (.laload, 1))
    (kk : W p l e R s m args below meth c H locs cells slots Q (F0 m (pc + 1) ls (.long (f i) :: rest))) : W p l e R s m args below meth c H locs cells slots Q (F0 m pc ls (.int (iI i) :: .ref a :: rest)) := by
  refine va_lald (D := D) (cl := vwCl) (ws := [(a, zL8 (cs 6) n f)]) hC.x hC.b hC.K (zP1 (hZ.1 a _ ha)) 0 6 rfl rfl (iI_in hi hn) d ?_
  rw [iI_clamp (by omega), Int.toNat_of_nonneg hi.1]
  exact kk
theorem z_lastl (hC : zC p s m args c cc nL own D cs A) (hZ : zS D A s F H locs) {n : Nat} {f : Int → Int64} {i : Int} {x : Int64} (ha : F a = some (zL8 (cs 6) n f)) (hi : 0 ≤ i ∧ i < n) (hn : n ≤ 2147483647) (d : decode cc pc = .ok (.lastore, 1))
    (kk : ∀ (H1 : Heap) (locs1 : List Loc), zS D A s (zup F a (zL8 (cs 6) n (upI f i x))) H1 locs1 → W p l e R s m args below meth c H1 locs1 cells slots Q (F0 m (pc + 1) ls rest)) : W p l e R s m args below meth c H locs cells slots Q (F0 m pc ls (.long x :: .int (iI i) :: .ref a :: rest)) := by
  have hin := iI_in hi hn
  refine W.last hC.x hC.b (hZ.1 a _ ha) ((hC.K.2 6 _ rfl).1 n (fun j => .long (f (j : Int)))) (fun q => by cases q) (by show ¬ (iI i < 0 ∨ (arrV _ _ _).slots.size ≤ _); rw [arrV_size]; exact hin) rfl rfl d fun H1 e z oq => ?_
  refine kk H1 _ (hZ.put (hZ.2.1 a _ ha) ?_ z oq)
  show H1[a]? = some (vp_cell _ _)
  rw [e]
  rw [vp_cell_l, vp_cell_l, arrV_store]
  congr 2
  funext q
  have hq0 : (iI i).toNatClampNeg = i.toNat := iI_clamp (by omega)
  by_cases hq : q = (iI i).toNatClampNeg
  · subst hq
    have e2 : (((iI i).toNatClampNeg : Nat) : Int) = i := by rw [hq0]; omega
    simp [updV, upI, e2]
  · have e2 : ¬ ((q : Nat) : Int) = i := by rw [hq0] at hq; omega
    simp [updV, upI, hq, e2]
theorem z_newl (hC : zC p s m args c cc nL own D cs A) (hZ : zS D A s F H locs) (harr : Cond.arrayClass .long ∈ ZALL) {n : Int} (hn : 0 ≤ n ∧ n ≤ 10000000)
    (hcells : cells + 1 ≤ R.cells) (hslots : slots + n.toNat ≤ R.slots) (d : decode cc pc = .ok (.newarray .long, 2))
    (kk : ∀ (q : Nat) (H1 : Heap), zNew F s q → zS D A s (zup F q (zL8 (cs 6) n.toNat (fun _ => 0))) H1 locs → W p l e R s m args below meth c H1 locs (cells + 1) (slots + n.toNat) Q (F0 m (pc + 2) ls (.ref q :: rest))) : W p l e R s m args below meth c H locs cells slots Q (F0 m pc ls (.int (iI n) :: rest)) := by
  have hn0 : ¬ iI n < 0 := fun q => by
    have := (iI_lt (a := n) (b := 0) (by omega) (by omega)).mp q
    omega
  refine va_newaK (atype := .long) hC.x hC.b (hC.ts harr) rfl d rfl hn0 (iI_clamp (by omega)) (by show n.toNat * 8 ≤ _; omega) hcells hslots rfl fun H1 cA e1 z1 o1 hAr hNm => ?_
  have hcA : cA = cs 6 := Option.some.inj (hNm.symm.trans (va_nm_long (hC.K.2 6 _ rfl).2))
  subst hcA
  refine kk H.size H1 hZ.fr (hZ.new hC ?_ z1 o1)
  show H1[H.size]? = some (vp_cell _ _)
  rw [e1]
  rfl
end NLG
/-- the gazette's sum, part by part -/
def zSo (t : List Int) (h : Int64) : Nat → Int64
  | 0 => h
  | j + 1 => 3 * zSo t h j + (iI (t.getD j 0)).toInt64
def zS1 (c : zCo) : Nat → Int64
  | 0 => 31 * (7 + (iI (cWi c)).toInt64) + (iI (100 * cDa c)).toInt64 + (iI (cLa c)).toInt64
  | k + 1 => zSo (zart ((cAr c).getD k (0, 0, []))) (37 * zS1 c k + (iI (10 * ((cAr c).getD k (0, 0, [])).1)).toInt64 + (iI ((cAr c).getD k (0, 0, [])).2.1).toInt64) (zart ((cAr c).getD k (0, 0, []))).length
def zSp (c : zCo) (x : Int) (h : Int64) : Nat → Int64
  | 0 => h
  | a + 1 => 5 * zSp c x h a + (iI (30 * wq [-13] (sPos c x a (fun s l => l / iHe s)))).toInt64 + (iI (wq [-13] (sPos c x a (fun s l => l % iHe s)))).toInt64
def zS2 (c : zCo) : Nat → Int64
  | 0 => zS1 c (cAr c).length
  | x + 1 => match zfi (cIs c) x with
    | none => zS2 c x
    | some s => zSp c x (43 * (41 * zS2 c x + (iI (100 * (x : Int))).toInt64 + (iI (iLi s)).toInt64) + (iI (zfr (cDa c - iPr s).toNat).toInt32.toInt).toInt64) 12
def zSum (c : zCo) : Int64 := zS2 c 20
theorem art_g {N : Nat} {c : zCo} (hK : cOK N c) {k : Int} (h0 : 0 ≤ k) (h1 : k < (cAr c).length) : zfa (cAr c) ((cAr c).getD k.toNat (0, 0, [])).1 = some ((cAr c).getD k.toNat (0, 0, [])) ∧ sArt c k = (0, ((cAr c).getD k.toNat (0, 0, [])).1) ∧ arOK (cNi c) ((cAr c).getD k.toNat (0, 0, [])) := by
  have e := gDA h0 h1
  have hm := List.mem_of_getElem? e
  refine ⟨?_, by unfold sArt; rw [if_pos h0, e], hK.2.2.1 _ hm⟩
  cases hz : zfa (cAr c) ((cAr c).getD k.toNat (0, 0, [])).1 with
  | none =>
    unfold zfa at hz
    rw [List.find?_eq_none] at hz
    exact absurd (by simp) (hz _ hm)
  | some b =>
    obtain ⟨b1, b2⟩ := zfa_mem hz
    obtain ⟨j, hj⟩ := List.getElem?_of_mem b1
    have i1 := ids_lt hK.2.2.2.1 e hj
    have i2 := ids_lt hK.2.2.2.1 hj e
    have : j = k.toNat := by omega
    rw [this, e] at hj
    exact hj.symm
theorem zart_bd {ni : Int} {a : zAr} (hk : arOK ni a) (hn : ni ≤ 1000) : (zart a).length ≤ 397 := by
  have h1 := zart_len a
  have h2 := zpos_b hk a.2.2.length
  have h3 := hk.2.2.1.2
  have hd1 := zdig_l a.1
  have hd2 := zdig_l a.2.1
  have hhd : zhd a ≤ 7 := by
    unfold zhd
    rw [hd1, hd2]
    split <;> split <;> (first | omega | (split <;> (first | omega | (split <;> omega))))
  omega
set_option maxHeartbeats 4000000 in
set_option maxRecDepth 100000 in
theorem lm_sum (l : Launch) (D : va_G) (cs : Nat → ClassId) (A : Nat → Prop) (G X : zF) (ob : Nat) (N : Nat) (tx inp out : List Int) (c0 : zCo) (hs : List zCo) (hd : zdj G X) (hlt : l.stackTraces = false) (hG : lG cs G ob N tx inp out c0 hs) : zM l D cs A yL_sum cL_sum 7 (some FieldType.long) 26 4000 33000 [.ref ob] (zun G X) (pGL (fun r G1 X1 => X = X1 ∧ (∃ out1, lG cs G1 ob N tx inp out1 c0 hs) ∧ r = zSum c0)) := by
  refine zM_of (own := RL) (by decide) rfl (Nat.le_of_ble_eq_true rfl) ?_
  intro p e s m below meth c hC hr hlk hnm hZ ls hl
  have hx := hC.x
  have hb := hC.b
  have hl : lv_has ls 7 [(0, .ref ob)] := hl
  have hW := zW3.of hZ hd
  have hK := hG.k
  have hN9 := hG.2.2.2.2.2.2.2
  have hni := hK.2.2.2.2.2.2.1
  have hi4 := hK.1
  refine z_ldc2 (v := 7) hC qz_1642 dL_sum_0 ?_
  refine lv_aload_n hx hb dL_sum_3 rfl (lv_at hl 0 rfl) ?_
  obtain ⟨⟨g, sa, so, hL, sv, er, fa, hg⟩, hK, hh8, hhs, htz, ht60, hin, hN9⟩ := id hG
  obtain ⟨cap, hso⟩ := hg.2.2.2.2.1
  have hwi := hK.2.2.2.2.2.2.2.2.1
  refine z_cGi hC (z_frV (rest := [.long (7 : Int64)]) (As := []) (n := 0) (ci := 15) hC hW.g (met_X12_width l D cs (zfA G _) G ob g sa so er fa c0 hg.1 (hg.2.2.2.2.2.2.2.2.2.1.mono zrm_le)) gv_L_307 hd_X12_width rfl hg.1 rfl hl rfl (Nat.le_of_ble_eq_true rfl) ⟨Nat.le_of_ble_eq_true rfl, Nat.le_of_ble_eq_true rfl⟩ ⟨Nat.le_of_ble_eq_true rfl, Nat.le_of_ble_eq_true rfl⟩ dL_sum_4) hW (fun r4 G4 H locs hp4 hW => ?_)
  obtain ⟨rfl, rfl⟩ := hp4
  refine lv_i2l hx hb dL_sum_7 rfl ?_
  refine lv_ladd hx hb dL_sum_8 ?_
  refine lv_lstore_n (lv' := [(1, .long ((7 : Int64) + ((iI (cWi c0)).toInt64))), (0, .ref ob)]) hx hb dL_sum_9 rfl hl (by decide) rfl (fun ls hl => ?_)
  refine z_ldc2 (v := 31) hC qz_1643 dL_sum_10 ?_
  refine lv_lload_n hx hb dL_sum_13 rfl (lv_at hl 0 rfl) ?_
  refine lv_lmul hx hb dL_sum_14 ?_
  refine z_bipush hx hb dL_sum_15 (by decide) ?_
  refine lv_aload_n hx hb dL_sum_17 rfl (lv_at hl 1 rfl) ?_
  obtain ⟨⟨g, sa, so, hL, sv, er, fa, hg⟩, hK, hh8, hhs, htz, ht60, hin, hN9⟩ := id hG
  obtain ⟨cap, hso⟩ := hg.2.2.2.2.1
  have hwi := hK.2.2.2.2.2.2.2.2.1
  refine z_cGi hC (z_frV (rest := [.int (iI 100), .long ((31 : Int64) * ((7 : Int64) + ((iI (cWi c0)).toInt64)))]) (As := []) (n := 0) (ci := 15) hC hW.g (met_X12_day l D cs (zfA G _) G ob g sa so er fa c0 hg.1 (hg.2.2.2.2.2.2.2.2.2.1.mono zrm_le)) gv_L_390 hd_X12_day rfl hg.1 rfl hl rfl (Nat.le_of_ble_eq_true rfl) ⟨Nat.le_of_ble_eq_true rfl, Nat.le_of_ble_eq_true rfl⟩ ⟨Nat.le_of_ble_eq_true rfl, Nat.le_of_ble_eq_true rfl⟩ dL_sum_18) hW (fun r18 G18 H locs hp18 hW => ?_)
  obtain ⟨rfl, rfl⟩ := hp18
  refine z_imul hx hb dL_sum_21 ?_
  refine lv_i2l hx hb dL_sum_22 rfl ?_
  refine lv_ladd hx hb dL_sum_23 ?_
  refine lv_aload_n hx hb dL_sum_24 rfl (lv_at hl 1 rfl) ?_
  obtain ⟨⟨g, sa, so, hL, sv, er, fa, hg⟩, hK, hh8, hhs, htz, ht60, hin, hN9⟩ := id hG
  obtain ⟨cap, hso⟩ := hg.2.2.2.2.1
  have hwi := hK.2.2.2.2.2.2.2.2.1
  refine z_cGi hC (z_frV (rest := [.long (((31 : Int64) * ((7 : Int64) + ((iI (cWi c0)).toInt64))) + ((iI (100 * (cDa c0))).toInt64))]) (As := []) (n := 0) (ci := 15) hC hW.g (met_X12_lateCorrections l D cs (zfA G _) G ob g sa so er fa c0 hg.1 (hg.2.2.2.2.2.2.2.2.2.1.mono zrm_le)) gv_L_393 hd_X12_lateCorrections rfl hg.1 rfl hl rfl (Nat.le_of_ble_eq_true rfl) ⟨Nat.le_of_ble_eq_true rfl, Nat.le_of_ble_eq_true rfl⟩ ⟨Nat.le_of_ble_eq_true rfl, Nat.le_of_ble_eq_true rfl⟩ dL_sum_25) hW (fun r25 G25 H locs hp25 hW => ?_)
  obtain ⟨rfl, rfl⟩ := hp25
  refine lv_i2l hx hb dL_sum_28 rfl ?_
  refine lv_ladd hx hb dL_sum_29 ?_
  refine lv_lstore_n (lv' := [(1, .long ((((31 : Int64) * ((7 : Int64) + ((iI (cWi c0)).toInt64))) + ((iI (100 * (cDa c0))).toInt64)) + ((iI (cLa c0)).toInt64))), (0, .ref ob)]) hx hb dL_sum_30 rfl hl (by decide) rfl (fun ls hl => ?_)
  refine z_iconst hx hb dL_sum_31 ?_
  refine lv_istore_n (lv' := [(3, .int (iI 0)), (1, .long ((((31 : Int64) * ((7 : Int64) + ((iI (cWi c0)).toInt64))) + ((iI (100 * (cDa c0))).toInt64)) + ((iI (cLa c0)).toInt64))), (0, .ref ob)]) hx hb dL_sum_32 rfl hl (by decide) rfl (fun ls hl => ?_)
  have L33_k_1 : ∀ (fu : Nat) (k : Int) (G1 : zF) (out1 : List Int) (hfu : ((cAr c0).length - k).toNat < fu) (hi33_0 : 0 ≤ k ∧ k ≤ (cAr c0).length) (hG : lG cs G1 ob N tx inp out1 c0 hs) (H : Heap) (locs : List Loc) (hW : zW3 D A s G1 zE X H locs) (ls : Array Slot) (hl : lv_has ls 7 [(3, .int (iI k)), (1, .long (zS1 c0 k.toNat)), (0, .ref ob)]), W p l e (zR 26 4000 33000) s m [.ref ob].toArray below meth c H locs (451 * k.toNat) (4010 * k.toNat) (MQ below (zQ D A (pGL (fun r G1 X1 => X = X1 ∧ (∃ out1, lG cs G1 ob N tx inp out1 c0 hs) ∧ r = zSum c0))) [.ref ob].toArray s 4000 33000 A) (F0 m 33 ls []) := by
    intro fu
    induction fu with
    | zero =>
      intro k G1 out1 hfu
      exact absurd hfu (Nat.not_lt_zero _)
    | succ fu ih33 =>
      intro k G1 out1 hfu hi33_0 hG H locs hW ls hl
      refine lv_iload_n hx hb dL_sum_33 rfl (lv_at hl 0 rfl) ?_
      refine lv_aload_n hx hb dL_sum_34 rfl (lv_at hl 2 rfl) ?_
      obtain ⟨⟨g, sa, so, hL, sv, er, fa, hg⟩, hK, hh8, hhs, htz, ht60, hin, hN9⟩ := id hG
      obtain ⟨cap, hso⟩ := hg.2.2.2.2.1
      have hwi := hK.2.2.2.2.2.2.2.2.1
      refine z_cGi hC (z_frV (rest := [.int (iI k)]) (As := []) (n := 0) (ci := 15) hC hW.g (met_X12_articleCount l D cs (zfA G1 _) G1 ob g sa so er fa c0 hg.1 (hg.2.2.2.2.2.2.2.2.2.1.mono zrm_le)) gv_L_258 hd_X12_articleCount rfl hg.1 rfl hl rfl (Nat.le_of_ble_eq_true rfl) ⟨Nat.le_of_ble_eq_true rfl, Nat.le_of_ble_eq_true rfl⟩ ⟨(by show _ ≤ 4000; omega), (by show _ ≤ 33000; omega)⟩ dL_sum_35) hW (fun r35 G35 H locs hp35 hW => ?_)
      obtain ⟨rfl, rfl⟩ := hp35
      refine z_icmp_ge (tgt := 113) hx hb dL_sum_38 (by decide) (by omega) (by omega) (fun c_2 => ?_) (fun c_2 => ?_)
      · skip
        have hzk : zS1 c0 k.toNat = zS2 c0 (0 : Int).toNat := by rw [show k.toNat = (cAr c0).length by omega]; rfl
        rw [hzk] at hl
        refine z_iconst hx hb dL_sum_113 ?_
        refine lv_istore_n (lv' := [(3, .int (iI 0)), (1, .long (zS2 c0 (0 : Int).toNat)), (0, .ref ob)]) hx hb dL_sum_114 rfl hl (by decide) rfl (fun ls hl => ?_)
        have L115_k_3 : ∀ (fu : Nat) (x : Int) (G1 : zF) (hfu : (20 - x).toNat < fu) (hi115_0 : 0 ≤ x ∧ x ≤ 20) (hG : lG cs G1 ob N tx inp out1 c0 hs) (H : Heap) (locs : List Loc) (hW : zW3 D A s G1 zE X H locs) (ls : Array Slot) (hl : lv_has ls 7 [(3, .int (iI x)), (1, .long (zS2 c0 x.toNat)), (0, .ref ob)]), W p l e (zR 26 4000 33000) s m [.ref ob].toArray below meth c H locs (2706 + 60 * x.toNat) (24060 + 350 * x.toNat) (MQ below (zQ D A (pGL (fun r G1 X1 => X = X1 ∧ (∃ out1, lG cs G1 ob N tx inp out1 c0 hs) ∧ r = zSum c0))) [.ref ob].toArray s 4000 33000 A) (F0 m 115 ls []) := by
          intro fu
          induction fu with
          | zero =>
            intro x G1 hfu
            exact absurd hfu (Nat.not_lt_zero _)
          | succ fu ih115 =>
            intro x G1 hfu hi115_0 hG H locs hW ls hl
            refine lv_iload_n hx hb dL_sum_115 rfl (lv_at hl 0 rfl) ?_
            refine z_bipush hx hb dL_sum_116 (by decide) ?_
            refine z_icmp_ge (tgt := 210) hx hb dL_sum_118 (by decide) (by omega) (by decide) (fun c_4 => ?_) (fun c_4 => ?_)
            · skip
              refine lv_lload_n hx hb dL_sum_210 rfl (lv_at hl 1 rfl) ?_
              exact z_lretG hC hr hlk hW (by omega) (by omega) (⟨rfl, ⟨_, hG⟩, by rw [show x.toNat = 20 by omega]; rfl⟩) dL_sum_211
            · skip
              rcases hz2 : zfi (cIs c0) x with _ | s2
              · skip
                have hzs : zS2 c0 (x + 1).toNat = zS2 c0 x.toNat := by
                  rw [show (x + 1).toNat = x.toNat + 1 by omega]
                  show (match zfi (cIs c0) ((x.toNat : Nat) : Int) with | none => _ | some s => _) = _
                  rw [Int.toNat_of_nonneg hi115_0.1, hz2]
                refine lv_aload_n hx hb dL_sum_121 rfl (lv_at hl 2 rfl) ?_
                refine lv_iload_n hx hb dL_sum_122 rfl (lv_at hl 0 rfl) ?_
                obtain ⟨⟨g, sa, so, hL, sv, er, fa, hg⟩, hK, hh8, hhs, htz, ht60, hin, hN9⟩ := id hG
                obtain ⟨cap, hso⟩ := hg.2.2.2.2.1
                have hwi := hK.2.2.2.2.2.2.2.2.1
                refine z_cGi hC (z_frV (rest := []) (As := [.int (iI x)]) (n := 1) (ci := 15) hC hW.g (met_X12_isKept l D cs (zfA G1 _) G1 ob g sa so er fa c0 x hg.1 (hg.2.2.2.2.2.2.2.2.2.1.mono zrm_le) (by omega)) gv_L_345 hd_X12_isKept rfl hg.1 rfl hl rfl (Nat.le_of_ble_eq_true rfl) ⟨Nat.le_of_ble_eq_true rfl, Nat.le_of_ble_eq_true rfl⟩ ⟨(by show _ ≤ 4000; omega), (by show _ ≤ 33000; omega)⟩ dL_sum_123) hW (fun r123 G123 H locs hp123 hW => ?_)
                obtain ⟨rfl, hp123⟩ := hp123
                refine z_top (y := 0) (by rcases hp123 with z | z; exact absurd z.1 (by rw [hz2]; simp); exact z.2) ?_
                refine z_if_eq (tgt := 204) hx hb dL_sum_126 (by decide) (by decide) (fun c_5 => ?_) (fun c_5 => ?_)
                · skip
                  rw [← hzs] at hl
                  refine z_iinc (lv' := [(3, .int (iI (x + 1))), (1, .long (zS2 c0 (x + 1).toNat)), (0, .ref ob)]) hx hb dL_sum_204 hl (k := 0) rfl (by decide) rfl (fun ls hl => ?_)
                  refine lv_goto (tgt := 115) hx hb dL_sum_207 (by decide) ?_
                  refine W.widen (k := (2706 + 60 * (x + 1).toNat)) (n := (24060 + 350 * (x + 1).toNat)) (by omega) (by omega) ?_
                  exact ih115 (x + 1) G1 (by omega) (by omega) hG _ _ hW ls (lv_sub hl [0, 1, 2] rfl)
                · skip
                  exfalso; omega
              · skip
                obtain ⟨hy1, hy2, hy3, hy4⟩ := yes_i hz2
                have hzs : zS2 c0 (x + 1).toNat = zSp c0 x (43 * (41 * zS2 c0 x.toNat + (iI (100 * x)).toInt64 + (iI (iLi s2)).toInt64) + (iI (zfr (cDa c0 - iPr s2).toNat).toInt32.toInt).toInt64) 12 := by
                  rw [show (x + 1).toNat = x.toNat + 1 by omega]
                  show (match zfi (cIs c0) ((x.toNat : Nat) : Int) with | none => _ | some s => zSp c0 ((x.toNat : Nat) : Int) (43 * (41 * zS2 c0 x.toNat + (iI (100 * ((x.toNat : Nat) : Int))).toInt64 + (iI (iLi s)).toInt64) + (iI (zfr (cDa c0 - iPr s).toNat).toInt32.toInt).toInt64) 12) = _
                  rw [Int.toNat_of_nonneg hi115_0.1, hz2]
                refine lv_aload_n hx hb dL_sum_121 rfl (lv_at hl 2 rfl) ?_
                refine lv_iload_n hx hb dL_sum_122 rfl (lv_at hl 0 rfl) ?_
                obtain ⟨⟨g, sa, so, hL, sv, er, fa, hg⟩, hK, hh8, hhs, htz, ht60, hin, hN9⟩ := id hG
                obtain ⟨cap, hso⟩ := hg.2.2.2.2.1
                have hwi := hK.2.2.2.2.2.2.2.2.1
                refine z_cGi hC (z_frV (rest := []) (As := [.int (iI x)]) (n := 1) (ci := 15) hC hW.g (met_X12_isKept l D cs (zfA G1 _) G1 ob g sa so er fa c0 x hg.1 (hg.2.2.2.2.2.2.2.2.2.1.mono zrm_le) (by omega)) gv_L_345 hd_X12_isKept rfl hg.1 rfl hl rfl (Nat.le_of_ble_eq_true rfl) ⟨Nat.le_of_ble_eq_true rfl, Nat.le_of_ble_eq_true rfl⟩ ⟨(by show _ ≤ 4000; omega), (by show _ ≤ 33000; omega)⟩ dL_sum_123) hW (fun r123 G123 H locs hp123 hW => ?_)
                obtain ⟨rfl, hp123⟩ := hp123
                refine z_top (y := 1) (by rcases hp123 with z | z; exact z.2; exact absurd z.1 (by rw [hz2]; simp)) ?_
                refine z_if_eq (tgt := 204) hx hb dL_sum_126 (by decide) (by decide) (fun c_6 => ?_) (fun c_6 => ?_)
                · skip
                  exfalso; omega
                · skip
                  refine z_ldc2 (v := 41) hC qz_1654 dL_sum_129 ?_
                  refine lv_lload_n hx hb dL_sum_132 rfl (lv_at hl 1 rfl) ?_
                  refine lv_lmul hx hb dL_sum_133 ?_
                  refine z_bipush hx hb dL_sum_134 (by decide) ?_
                  refine lv_iload_n hx hb dL_sum_136 rfl (lv_at hl 0 rfl) ?_
                  refine z_imul hx hb dL_sum_137 ?_
                  refine lv_i2l hx hb dL_sum_138 rfl ?_
                  refine lv_ladd hx hb dL_sum_139 ?_
                  refine lv_aload_n hx hb dL_sum_140 rfl (lv_at hl 2 rfl) ?_
                  refine lv_iload_n hx hb dL_sum_141 rfl (lv_at hl 0 rfl) ?_
                  obtain ⟨⟨g, sa, so, hL, sv, er, fa, hg⟩, hK, hh8, hhs, htz, ht60, hin, hN9⟩ := id hG
                  obtain ⟨cap, hso⟩ := hg.2.2.2.2.1
                  have hwi := hK.2.2.2.2.2.2.2.2.1
                  refine z_cGi hC (z_xno (z_frX (rest := [.long (((41 : Int64) * (zS2 c0 x.toNat)) + ((iI (100 * x)).toInt64))]) (As := [.int (iI x)]) (n := 1) (ci := 15) hC hW.g (met_X12_linesIn l D cs (zfA G1 _) G1 ob g sa so er fa c0 x hlt hg.1 (hg.2.2.2.2.2.2.2.2.2.1.mono zrm_le) (by omega)) gv_L_95 hd_X12_linesIn rfl hg.1 rfl hl rfl (Nat.le_of_ble_eq_true rfl) ⟨Nat.le_of_ble_eq_true rfl, Nat.le_of_ble_eq_true rfl⟩ ⟨(by show _ ≤ 4000; omega), (by show _ ≤ 33000; omega)⟩ dL_sum_142) (fun E F1 hz => absurd (show (0 : Int) = 1 from (congrArg Prod.fst (hy1 (fun s => iLi s))).symm.trans hz.2.1) (by decide))) hW (fun r142 G142 H locs hp142 hW => ?_)
                  obtain ⟨rfl, -, rfl⟩ := hp142
                  refine z_top (y := (iLi s2)) (by rw [hy1]) ?_
                  refine lv_i2l hx hb dL_sum_145 rfl ?_
                  refine lv_ladd hx hb dL_sum_146 ?_
                  refine lv_lstore_n (lv' := [(1, .long ((((41 : Int64) * (zS2 c0 x.toNat)) + ((iI (100 * x)).toInt64)) + ((iI (iLi s2)).toInt64))), (3, .int (iI x)), (0, .ref ob)]) hx hb dL_sum_147 rfl hl (by decide) rfl (fun ls hl => ?_)
                  refine z_ldc2 (v := 43) hC qz_1655 dL_sum_148 ?_
                  refine lv_lload_n hx hb dL_sum_151 rfl (lv_at hl 0 rfl) ?_
                  refine lv_lmul hx hb dL_sum_152 ?_
                  refine lv_aload_n hx hb dL_sum_153 rfl (lv_at hl 2 rfl) ?_
                  refine lv_iload_n hx hb dL_sum_154 rfl (lv_at hl 1 rfl) ?_
                  refine z_cGi hC (z_frSW (rest := [.long ((43 : Int64) * ((((41 : Int64) * (zS2 c0 x.toNat)) + ((iI (100 * x)).toInt64)) + ((iI (iLi s2)).toInt64)))]) (As := [.ref ob, .int (iI x)]) (n := 2) hC hW.g (lw_freshBits l D cs (zfA G1 _) G1 ob x N tx inp out1 c0 hs hlt hG (by omega)) (zgsW qm_L_354 qt_L_freshBits qn_L qc_L_freshBits) he_L_freshBits rfl hl rfl (Nat.le_of_ble_eq_true rfl) ⟨Nat.le_of_ble_eq_true rfl, Nat.le_of_ble_eq_true rfl⟩ ⟨(by show _ ≤ 4000; omega), (by show _ ≤ 33000; omega)⟩ dL_sum_155) hW (fun r155 G155 H locs hp155 hW => ?_)
                  obtain ⟨hG, rfl⟩ := hp155
                  refine z_top (y := ((zfr (cDa c0 - iPr s2).toNat).toInt32.toInt)) (by rw [hy2]; rfl) ?_
                  refine lv_i2l hx hb dL_sum_158 rfl ?_
                  refine lv_ladd hx hb dL_sum_159 ?_
                  refine lv_lstore_n (lv' := [(1, .long (((43 : Int64) * ((((41 : Int64) * (zS2 c0 x.toNat)) + ((iI (100 * x)).toInt64)) + ((iI (iLi s2)).toInt64))) + ((iI ((zfr (cDa c0 - iPr s2).toNat).toInt32.toInt)).toInt64))), (3, .int (iI x)), (0, .ref ob)]) hx hb dL_sum_160 rfl hl (by decide) rfl (fun ls hl => ?_)
                  refine z_iconst hx hb dL_sum_161 ?_
                  refine lv_istore (lv' := [(4, .int (iI 0)), (1, .long (((43 : Int64) * ((((41 : Int64) * (zS2 c0 x.toNat)) + ((iI (100 * x)).toInt64)) + ((iI (iLi s2)).toInt64))) + ((iI ((zfr (cDa c0 - iPr s2).toNat).toInt32.toInt)).toInt64))), (3, .int (iI x)), (0, .ref ob)]) hx hb dL_sum_162 hl (by decide) rfl (fun ls hl => ?_)
                  have L164_k_7 : ∀ (fu : Nat) (a : Int) (G1 : zF) (hfu : (12 - a).toNat < fu) (hi164_0 : 0 ≤ a ∧ a ≤ 12) (hG : lG cs G1 ob N tx inp out1 c0 hs) (H : Heap) (locs : List Loc) (hW : zW3 D A s G1 zE X H locs) (ls : Array Slot) (hl : lv_has ls 7 [(4, .int (iI a)), (1, .long (zSp c0 x (43 * (41 * zS2 c0 x.toNat + (iI (100 * x)).toInt64 + (iI (iLi s2)).toInt64) + (iI (zfr (cDa c0 - iPr s2).toNat).toInt32.toInt).toInt64) a.toNat)), (3, .int (iI x)), (0, .ref ob)]), W p l e (zR 26 4000 33000) s m [.ref ob].toArray below meth c H locs (2706 + 60 * x.toNat + 4 + 4 * a.toNat) (24060 + 350 * x.toNat + 20 + 24 * a.toNat) (MQ below (zQ D A (pGL (fun r G1 X1 => X = X1 ∧ (∃ out1, lG cs G1 ob N tx inp out1 c0 hs) ∧ r = zSum c0))) [.ref ob].toArray s 4000 33000 A) (F0 m 164 ls []) := by
                    intro fu
                    induction fu with
                    | zero =>
                      intro a G1 hfu
                      exact absurd hfu (Nat.not_lt_zero _)
                    | succ fu ih164 =>
                      intro a G1 hfu hi164_0 hG H locs hW ls hl
                      refine lv_iload hx hb dL_sum_164 (lv_at hl 0 rfl) ?_
                      refine z_bipush hx hb dL_sum_166 (by decide) ?_
                      refine z_icmp_ge (tgt := 204) hx hb dL_sum_168 (by decide) (by omega) (by decide) (fun c_8 => ?_) (fun c_8 => ?_)
                      · skip
                        have hzk : (zSp c0 x (43 * (41 * zS2 c0 x.toNat + (iI (100 * x)).toInt64 + (iI (iLi s2)).toInt64) + (iI (zfr (cDa c0 - iPr s2).toNat).toInt32.toInt).toInt64) a.toNat) = zS2 c0 (x + 1).toNat := by rw [hzs, show a.toNat = 12 by omega]
                        rw [hzk] at hl
                        refine z_iinc (lv' := [(3, .int (iI (x + 1))), (4, .int (iI a)), (1, .long (zS2 c0 (x + 1).toNat)), (0, .ref ob)]) hx hb dL_sum_204 hl (k := 2) rfl (by decide) rfl (fun ls hl => ?_)
                        refine lv_goto (tgt := 115) hx hb dL_sum_207 (by decide) ?_
                        refine W.widen (k := (2706 + 60 * (x + 1).toNat)) (n := (24060 + 350 * (x + 1).toNat)) (by omega) (by omega) ?_
                        exact ih115 (x + 1) G1 (by omega) (by omega) hG _ _ hW ls (lv_sub hl [0, 2, 3] rfl)
                      · skip
                        refine z_ldc2 (v := 5) hC qz_1656 dL_sum_171 ?_
                        refine lv_lload_n hx hb dL_sum_174 rfl (lv_at hl 1 rfl) ?_
                        refine lv_lmul hx hb dL_sum_175 ?_
                        refine z_bipush hx hb dL_sum_176 (by decide) ?_
                        refine lv_aload_n hx hb dL_sum_178 rfl (lv_at hl 3 rfl) ?_
                        refine lv_iload_n hx hb dL_sum_179 rfl (lv_at hl 2 rfl) ?_
                        refine lv_iload hx hb dL_sum_180 (lv_at hl 0 rfl) ?_
                        refine z_cGi hC (z_frSW (rest := [.int (iI 30), .long ((5 : Int64) * (zSp c0 x (43 * (41 * zS2 c0 x.toNat + (iI (100 * x)).toInt64 + (iI (iLi s2)).toInt64) + (iI (zfr (cDa c0 - iPr s2).toNat).toInt32.toInt).toInt64) a.toNat))]) (As := [.ref ob, .int (iI x), .int (iI a)]) (n := 3) hC hW.g (lw_columnOf l D cs (zfA G1 _) G1 ob x a N tx inp out1 c0 hs hlt hG (by omega) (by omega)) (zgsW qm_L_363 qt_L_columnOf qn_L qc_L_columnOf) he_L_columnOf rfl hl rfl (Nat.le_of_ble_eq_true rfl) ⟨Nat.le_of_ble_eq_true rfl, Nat.le_of_ble_eq_true rfl⟩ ⟨(by show _ ≤ 4000; omega), (by show _ ≤ 33000; omega)⟩ dL_sum_182) hW (fun r182 G182 H locs hp182 hW => ?_)
                        obtain ⟨hG, rfl⟩ := hp182
                        refine z_imul hx hb dL_sum_185 ?_
                        refine lv_i2l hx hb dL_sum_186 rfl ?_
                        refine lv_ladd hx hb dL_sum_187 ?_
                        refine lv_aload_n hx hb dL_sum_188 rfl (lv_at hl 3 rfl) ?_
                        refine lv_iload_n hx hb dL_sum_189 rfl (lv_at hl 2 rfl) ?_
                        refine lv_iload hx hb dL_sum_190 (lv_at hl 0 rfl) ?_
                        refine z_cGi hC (z_frSW (rest := [.long (((5 : Int64) * (zSp c0 x (43 * (41 * zS2 c0 x.toNat + (iI (100 * x)).toInt64 + (iI (iLi s2)).toInt64) + (iI (zfr (cDa c0 - iPr s2).toNat).toInt32.toInt).toInt64) a.toNat)) + ((iI (30 * (wq [-13] (sPos c0 x a (fun s l => l / iHe s))))).toInt64))]) (As := [.ref ob, .int (iI x), .int (iI a)]) (n := 3) hC hW.g (lw_rowOf l D cs (zfA G182 _) G182 ob x a N tx inp out1 c0 hs hlt hG (by omega) (by omega)) (zgsW qm_L_365 qt_L_rowOf qn_L qc_L_rowOf) he_L_rowOf rfl hl rfl (Nat.le_of_ble_eq_true rfl) ⟨Nat.le_of_ble_eq_true rfl, Nat.le_of_ble_eq_true rfl⟩ ⟨(by show _ ≤ 4000; omega), (by show _ ≤ 33000; omega)⟩ dL_sum_192) hW (fun r192 G192 H locs hp192 hW => ?_)
                        obtain ⟨hG, rfl⟩ := hp192
                        refine lv_i2l hx hb dL_sum_195 rfl ?_
                        refine lv_ladd hx hb dL_sum_196 ?_
                        refine z_topl (y := (zSp c0 x (43 * (41 * zS2 c0 x.toNat + (iI (100 * x)).toInt64 + (iI (iLi s2)).toInt64) + (iI (zfr (cDa c0 - iPr s2).toNat).toInt32.toInt).toInt64) (a + 1).toNat)) (by rw [show (a + 1).toNat = a.toNat + 1 by omega]; show _ = 5 * zSp c0 x _ a.toNat + (iI (30 * wq [-13] (sPos c0 x ((a.toNat : Nat) : Int) _))).toInt64 + (iI (wq [-13] (sPos c0 x ((a.toNat : Nat) : Int) _))).toInt64; rw [Int.toNat_of_nonneg hi164_0.1]) ?_
                        refine lv_lstore_n (lv' := [(1, .long (zSp c0 x (43 * (41 * zS2 c0 x.toNat + (iI (100 * x)).toInt64 + (iI (iLi s2)).toInt64) + (iI (zfr (cDa c0 - iPr s2).toNat).toInt32.toInt).toInt64) (a + 1).toNat)), (4, .int (iI a)), (3, .int (iI x)), (0, .ref ob)]) hx hb dL_sum_197 rfl hl (by decide) rfl (fun ls hl => ?_)
                        refine z_iinc (lv' := [(4, .int (iI (a + 1))), (1, .long (zSp c0 x (43 * (41 * zS2 c0 x.toNat + (iI (100 * x)).toInt64 + (iI (iLi s2)).toInt64) + (iI (zfr (cDa c0 - iPr s2).toNat).toInt32.toInt).toInt64) (a + 1).toNat)), (3, .int (iI x)), (0, .ref ob)]) hx hb dL_sum_198 hl (k := 1) rfl (by decide) rfl (fun ls hl => ?_)
                        refine lv_goto (tgt := 164) hx hb dL_sum_201 (by decide) ?_
                        refine W.widen (k := (2706 + 60 * x.toNat + 4 + 4 * (a + 1).toNat)) (n := (24060 + 350 * x.toNat + 20 + 24 * (a + 1).toNat)) (by omega) (by omega) ?_
                        exact ih164 (a + 1) G192 (by omega) (by omega) hG _ _ hW ls (lv_sub hl [0, 1, 2, 3] rfl)
                  refine W.widen (k := (2706 + 60 * x.toNat + 4 + 4 * (0 : Int).toNat)) (n := (24060 + 350 * x.toNat + 20 + 24 * (0 : Int).toNat)) (by omega) (by omega) ?_
                  exact L164_k_7 _ 0 G155 (Nat.lt_succ_self _) (by omega) hG _ _ hW ls (lv_sub hl [0, 1, 2, 3] rfl)
        refine W.widen (k := (2706 + 60 * (0 : Int).toNat)) (n := (24060 + 350 * (0 : Int).toNat)) (by omega) (by omega) ?_
        exact L115_k_3 _ 0 G1 (Nat.lt_succ_self _) (by omega) hG _ _ hW ls (lv_sub hl [0, 1, 2] rfl)
      · skip
        obtain ⟨hfa, hqa, hao⟩ := art_g hK (k := k) (by omega) (by omega)
        have hqp : sPrio c0 ((cAr c0).getD k.toNat (0, 0, [])).1 = (0, ((cAr c0).getD k.toNat (0, 0, [])).2.1) := by unfold sPrio; rw [hfa]
        have hqw : sWr c0 ((cAr c0).getD k.toNat (0, 0, [])).1 = (0, zart ((cAr c0).getD k.toNat (0, 0, []))) := by unfold sWr; rw [hfa]
        have hbd := zart_bd hao (by omega)
        have hao1 := hao.1
        refine lv_aload_n hx hb dL_sum_41 rfl (lv_at hl 2 rfl) ?_
        refine lv_iload_n hx hb dL_sum_42 rfl (lv_at hl 0 rfl) ?_
        obtain ⟨⟨g, sa, so, hL, sv, er, fa, hg⟩, hK, hh8, hhs, htz, ht60, hin, hN9⟩ := id hG
        obtain ⟨cap, hso⟩ := hg.2.2.2.2.1
        have hwi := hK.2.2.2.2.2.2.2.2.1
        refine z_cGi hC (z_xno (z_frX (rest := []) (As := [.int (iI k)]) (n := 1) (ci := 15) hC hW.g (met_X12_article l D cs (zfA G1 _) G1 ob g sa so er fa c0 k hlt hg.1 (hg.2.2.2.2.2.2.2.2.2.1.mono zrm_le) (by omega)) gv_L_35 hd_X12_article rfl hg.1 rfl hl rfl (Nat.le_of_ble_eq_true rfl) ⟨Nat.le_of_ble_eq_true rfl, Nat.le_of_ble_eq_true rfl⟩ ⟨(by show _ ≤ 4000; omega), (by show _ ≤ 33000; omega)⟩ dL_sum_43) (fun E F1 hz => absurd (show (0 : Int) = 1 from (congrArg Prod.fst hqa).symm.trans hz.2.1) (by decide))) hW (fun r43 G43 H locs hp43 hW => ?_)
        obtain ⟨rfl, -, rfl⟩ := hp43
        refine z_top (y := ((cAr c0).getD k.toNat (0, 0, [])).1) (by rw [hqa]) ?_
        refine lv_istore (lv' := [(4, .int (iI (((cAr c0).getD k.toNat (0, 0, [])).1))), (3, .int (iI k)), (1, .long (zS1 c0 k.toNat)), (0, .ref ob)]) hx hb dL_sum_46 hl (by decide) rfl (fun ls hl => ?_)
        refine z_ldc2 (v := 37) hC qz_1652 dL_sum_48 ?_
        refine lv_lload_n hx hb dL_sum_51 rfl (lv_at hl 2 rfl) ?_
        refine lv_lmul hx hb dL_sum_52 ?_
        refine z_bipush hx hb dL_sum_53 (by decide) ?_
        refine lv_iload hx hb dL_sum_55 (lv_at hl 0 rfl) ?_
        refine z_imul hx hb dL_sum_57 ?_
        refine lv_i2l hx hb dL_sum_58 rfl ?_
        refine lv_ladd hx hb dL_sum_59 ?_
        refine lv_aload_n hx hb dL_sum_60 rfl (lv_at hl 3 rfl) ?_
        refine lv_iload hx hb dL_sum_61 (lv_at hl 0 rfl) ?_
        obtain ⟨⟨g, sa, so, hL, sv, er, fa, hg⟩, hK, hh8, hhs, htz, ht60, hin, hN9⟩ := id hG
        obtain ⟨cap, hso⟩ := hg.2.2.2.2.1
        have hwi := hK.2.2.2.2.2.2.2.2.1
        refine z_cGi hC (z_xno (z_frX (rest := [.long (((37 : Int64) * (zS1 c0 k.toNat)) + ((iI (10 * (((cAr c0).getD k.toNat (0, 0, [])).1))).toInt64))]) (As := [.int (iI (((cAr c0).getD k.toNat (0, 0, [])).1))]) (n := 1) (ci := 15) hC hW.g (met_X12_priority l D cs (zfA G1 _) G1 ob g sa so er fa c0 (((cAr c0).getD k.toNat (0, 0, [])).1) hlt hg.1 (hg.2.2.2.2.2.2.2.2.2.1.mono zrm_le) (by omega)) gv_L_41 hd_X12_priority rfl hg.1 rfl hl rfl (Nat.le_of_ble_eq_true rfl) ⟨Nat.le_of_ble_eq_true rfl, Nat.le_of_ble_eq_true rfl⟩ ⟨(by show _ ≤ 4000; omega), (by show _ ≤ 33000; omega)⟩ dL_sum_63) (fun E F1 hz => absurd (show (0 : Int) = 1 from (congrArg Prod.fst hqp).symm.trans hz.2.1) (by decide))) hW (fun r63 G63 H locs hp63 hW => ?_)
        obtain ⟨rfl, -, rfl⟩ := hp63
        refine z_top (y := ((cAr c0).getD k.toNat (0, 0, [])).2.1) (by rw [hqp]) ?_
        refine lv_i2l hx hb dL_sum_66 rfl ?_
        refine lv_ladd hx hb dL_sum_67 ?_
        refine lv_lstore_n (lv' := [(1, .long ((((37 : Int64) * (zS1 c0 k.toNat)) + ((iI (10 * (((cAr c0).getD k.toNat (0, 0, [])).1))).toInt64)) + ((iI (((cAr c0).getD k.toNat (0, 0, [])).2.1)).toInt64))), (4, .int (iI (((cAr c0).getD k.toNat (0, 0, [])).1))), (3, .int (iI k)), (0, .ref ob)]) hx hb dL_sum_68 rfl hl (by decide) rfl (fun ls hl => ?_)
        refine lv_aload_n hx hb dL_sum_69 rfl (lv_at hl 3 rfl) ?_
        refine lv_iload hx hb dL_sum_70 (lv_at hl 1 rfl) ?_
        refine z_cGi hC (z_frSW (rest := []) (As := [.ref ob, .int (iI (((cAr c0).getD k.toNat (0, 0, [])).1))]) (n := 2) hC hW.g (lw_writeArticle l D cs (zfA G1 _) G1 ob (((cAr c0).getD k.toNat (0, 0, [])).1) N tx inp out1 c0 hs hlt hG (by omega)) (zgsW qm_L_215 qt_L_writeArticle qn_L qc_L_writeArticle) he_L_writeArticle rfl hl rfl (Nat.le_of_ble_eq_true rfl) ⟨Nat.le_of_ble_eq_true rfl, Nat.le_of_ble_eq_true rfl⟩ ⟨(by show _ ≤ 4000; omega), (by show _ ≤ 33000; omega)⟩ dL_sum_72) hW (fun r72 G72 H locs hp72 hW => ?_)
        obtain ⟨hG, rfl⟩ := hp72
        have hG : lG cs G72 ob N tx inp (zart ((cAr c0).getD k.toNat (0, 0, []))) c0 hs := (by have z9 := hG; rw [hqw] at z9; exact z9)
        refine z_top (y := ((zart ((cAr c0).getD k.toNat (0, 0, []))).length : Int)) (by rw [hqw]; rfl) ?_
        refine lv_istore (lv' := [(5, .int (iI ((zart ((cAr c0).getD k.toNat (0, 0, []))).length : Int))), (1, .long ((((37 : Int64) * (zS1 c0 k.toNat)) + ((iI (10 * (((cAr c0).getD k.toNat (0, 0, [])).1))).toInt64)) + ((iI (((cAr c0).getD k.toNat (0, 0, [])).2.1)).toInt64))), (4, .int (iI (((cAr c0).getD k.toNat (0, 0, [])).1))), (3, .int (iI k)), (0, .ref ob)]) hx hb dL_sum_75 hl (by decide) rfl (fun ls hl => ?_)
        refine z_iconst hx hb dL_sum_77 ?_
        refine lv_istore (lv' := [(6, .int (iI 0)), (5, .int (iI ((zart ((cAr c0).getD k.toNat (0, 0, []))).length : Int))), (1, .long ((((37 : Int64) * (zS1 c0 k.toNat)) + ((iI (10 * (((cAr c0).getD k.toNat (0, 0, [])).1))).toInt64)) + ((iI (((cAr c0).getD k.toNat (0, 0, [])).2.1)).toInt64))), (4, .int (iI (((cAr c0).getD k.toNat (0, 0, [])).1))), (3, .int (iI k)), (0, .ref ob)]) hx hb dL_sum_78 hl (by decide) rfl (fun ls hl => ?_)
        have L80_k_9 : ∀ (fu : Nat) (j : Int) (G1 : zF) (hfu : ((zart ((cAr c0).getD k.toNat (0, 0, []))).length - j).toNat < fu) (hi80_0 : 0 ≤ j ∧ j ≤ (zart ((cAr c0).getD k.toNat (0, 0, []))).length) (hG : lG cs G1 ob N tx inp (zart ((cAr c0).getD k.toNat (0, 0, []))) c0 hs) (H : Heap) (locs : List Loc) (hW : zW3 D A s G1 zE X H locs) (ls : Array Slot) (hl : lv_has ls 7 [(6, .int (iI j)), (5, .int (iI ((zart ((cAr c0).getD k.toNat (0, 0, []))).length : Int))), (1, .long (zSo (zart ((cAr c0).getD k.toNat (0, 0, []))) (37 * zS1 c0 k.toNat + (iI (10 * ((cAr c0).getD k.toNat (0, 0, [])).1)).toInt64 + (iI ((cAr c0).getD k.toNat (0, 0, [])).2.1).toInt64) j.toNat)), (4, .int (iI (((cAr c0).getD k.toNat (0, 0, [])).1))), (3, .int (iI k)), (0, .ref ob)]), W p l e (zR 26 4000 33000) s m [.ref ob].toArray below meth c H locs (451 * k.toNat + 53 + j.toNat) (4010 * k.toNat + 1620 + 6 * j.toNat) (MQ below (zQ D A (pGL (fun r G1 X1 => X = X1 ∧ (∃ out1, lG cs G1 ob N tx inp out1 c0 hs) ∧ r = zSum c0))) [.ref ob].toArray s 4000 33000 A) (F0 m 80 ls []) := by
          intro fu
          induction fu with
          | zero =>
            intro j G1 hfu
            exact absurd hfu (Nat.not_lt_zero _)
          | succ fu ih80 =>
            intro j G1 hfu hi80_0 hG H locs hW ls hl
            refine lv_iload hx hb dL_sum_80 (lv_at hl 0 rfl) ?_
            refine lv_iload hx hb dL_sum_82 (lv_at hl 1 rfl) ?_
            refine z_icmp_ge (tgt := 107) hx hb dL_sum_84 (by decide) (by omega) (by omega) (fun c_10 => ?_) (fun c_10 => ?_)
            · skip
              have hzk : zSo (zart ((cAr c0).getD k.toNat (0, 0, []))) (37 * zS1 c0 k.toNat + (iI (10 * ((cAr c0).getD k.toNat (0, 0, [])).1)).toInt64 + (iI ((cAr c0).getD k.toNat (0, 0, [])).2.1).toInt64) j.toNat = zS1 c0 (k + 1).toNat := by rw [show (k + 1).toNat = k.toNat + 1 by omega, show j.toNat = (zart ((cAr c0).getD k.toNat (0, 0, []))).length by omega]; rfl
              rw [hzk] at hl
              refine z_iinc (lv' := [(3, .int (iI (k + 1))), (6, .int (iI j)), (5, .int (iI ((zart ((cAr c0).getD k.toNat (0, 0, []))).length : Int))), (1, .long (zS1 c0 (k + 1).toNat)), (4, .int (iI (((cAr c0).getD k.toNat (0, 0, [])).1))), (0, .ref ob)]) hx hb dL_sum_107 hl (k := 4) rfl (by decide) rfl (fun ls hl => ?_)
              refine lv_goto (tgt := 33) hx hb dL_sum_110 (by decide) ?_
              refine W.widen (k := (451 * (k + 1).toNat)) (n := (4010 * (k + 1).toNat)) (by omega) (by omega) ?_
              exact ih33 (k + 1) G1 (zart ((cAr c0).getD k.toNat (0, 0, []))) (by omega) (by omega) hG _ _ hW ls (lv_sub hl [0, 3, 5] rfl)
            · skip
              refine z_ldc2 (v := 3) hC qz_1653 dL_sum_87 ?_
              refine lv_lload_n hx hb dL_sum_90 rfl (lv_at hl 2 rfl) ?_
              refine lv_lmul hx hb dL_sum_91 ?_
              refine lv_aload_n hx hb dL_sum_92 rfl (lv_at hl 5 rfl) ?_
              refine lv_iload hx hb dL_sum_93 (lv_at hl 0 rfl) ?_
              refine z_cGi hC (z_frSW (rest := [.long ((3 : Int64) * (zSo (zart ((cAr c0).getD k.toNat (0, 0, []))) (37 * zS1 c0 k.toNat + (iI (10 * ((cAr c0).getD k.toNat (0, 0, [])).1)).toInt64 + (iI ((cAr c0).getD k.toNat (0, 0, [])).2.1).toInt64) j.toNat))]) (As := [.ref ob, .int (iI j)]) (n := 2) hC hW.g (lw_outputAt l D cs (zfA G1 _) G1 ob j N tx inp (zart ((cAr c0).getD k.toNat (0, 0, []))) c0 hs hlt hG (by omega)) (zgsW qm_L_212 qt_L_outputAt qn_L qc_L_outputAt) he_L_outputAt rfl hl rfl (Nat.le_of_ble_eq_true rfl) ⟨Nat.le_of_ble_eq_true rfl, Nat.le_of_ble_eq_true rfl⟩ ⟨(by show _ ≤ 4000; omega), (by show _ ≤ 33000; omega)⟩ dL_sum_95) hW (fun r95 G95 H locs hp95 hW => ?_)
              obtain ⟨hG, rfl⟩ := hp95
              refine z_top (y := (zart ((cAr c0).getD k.toNat (0, 0, []))).getD j.toNat 0) (sOut_in ⟨by omega, by omega⟩) ?_
              refine lv_i2l hx hb dL_sum_98 rfl ?_
              refine lv_ladd hx hb dL_sum_99 ?_
              refine z_topl (y := (zSo (zart ((cAr c0).getD k.toNat (0, 0, []))) (37 * zS1 c0 k.toNat + (iI (10 * ((cAr c0).getD k.toNat (0, 0, [])).1)).toInt64 + (iI ((cAr c0).getD k.toNat (0, 0, [])).2.1).toInt64) (j + 1).toNat)) (by rw [show (j + 1).toNat = j.toNat + 1 by omega]; rfl) ?_
              refine lv_lstore_n (lv' := [(1, .long (zSo (zart ((cAr c0).getD k.toNat (0, 0, []))) (37 * zS1 c0 k.toNat + (iI (10 * ((cAr c0).getD k.toNat (0, 0, [])).1)).toInt64 + (iI ((cAr c0).getD k.toNat (0, 0, [])).2.1).toInt64) (j + 1).toNat)), (6, .int (iI j)), (5, .int (iI ((zart ((cAr c0).getD k.toNat (0, 0, []))).length : Int))), (4, .int (iI (((cAr c0).getD k.toNat (0, 0, [])).1))), (3, .int (iI k)), (0, .ref ob)]) hx hb dL_sum_100 rfl hl (by decide) rfl (fun ls hl => ?_)
              refine z_iinc (lv' := [(6, .int (iI (j + 1))), (1, .long (zSo (zart ((cAr c0).getD k.toNat (0, 0, []))) (37 * zS1 c0 k.toNat + (iI (10 * ((cAr c0).getD k.toNat (0, 0, [])).1)).toInt64 + (iI ((cAr c0).getD k.toNat (0, 0, [])).2.1).toInt64) (j + 1).toNat)), (5, .int (iI ((zart ((cAr c0).getD k.toNat (0, 0, []))).length : Int))), (4, .int (iI (((cAr c0).getD k.toNat (0, 0, [])).1))), (3, .int (iI k)), (0, .ref ob)]) hx hb dL_sum_101 hl (k := 1) rfl (by decide) rfl (fun ls hl => ?_)
              refine lv_goto (tgt := 80) hx hb dL_sum_104 (by decide) ?_
              refine W.widen (k := (451 * k.toNat + 53 + (j + 1).toNat)) (n := (4010 * k.toNat + 1620 + 6 * (j + 1).toNat)) (by omega) (by omega) ?_
              exact ih80 (j + 1) G95 (by omega) (by omega) hG _ _ hW ls (lv_sub hl [0, 2, 1, 3, 4, 5] rfl)
        refine W.widen (k := (451 * k.toNat + 53 + (0 : Int).toNat)) (n := (4010 * k.toNat + 1620 + 6 * (0 : Int).toNat)) (by omega) (by omega) ?_
        exact L80_k_9 _ 0 G72 (Nat.lt_succ_self _) (by omega) hG _ _ hW ls (lv_sub hl [0, 1, 2, 3, 4, 5] rfl)
  refine W.widen (k := (451 * (0 : Int).toNat)) (n := (4010 * (0 : Int).toNat)) (by omega) (by omega) ?_
  exact L33_k_1 _ 0 G out (Nat.lt_succ_self _) (by omega) hG _ _ hW ls (lv_sub hl [0, 1, 2] rfl)

