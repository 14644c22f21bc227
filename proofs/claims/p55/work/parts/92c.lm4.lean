theorem zwt_get : ∀ (ws : List zWd) (s : Int) (k : Nat) (wd : zWd), ws[k]? = some wd → (zwt s ws)[zpos ws k]? = some (if k = 0 then s else 32) ∧ ∀ j : Nat, j < wd.length → (zwt s ws)[zpos ws k + 1 + j]? = wd[j]?
  | [], s, k, wd, h => by simp at h
  | w :: ws, s, 0, wd, h => by
    simp at h
    subst h
    refine ⟨rfl, fun j hj => ?_⟩
    show (s :: (w ++ zwt 32 ws))[0 + 1 + j]? = w[j]?
    rw [show 0 + 1 + j = j + 1 by omega, List.getElem?_cons_succ, List.getElem?_append_left hj]
  | w :: ws, s, k + 1, wd, h => by
    have h2 : ws[k]? = some wd := by simpa using h
    obtain ⟨i1, i2⟩ := zwt_get ws 32 k wd h2
    have e : zpos (w :: ws) (k + 1) = w.length + 1 + zpos ws k := by unfold zpos; simp
    have key : ∀ q : Nat, (zwt s (w :: ws))[w.length + 1 + q]? = (zwt 32 ws)[q]? := fun q => by
      show (s :: (w ++ zwt 32 ws))[w.length + 1 + q]? = _
      rw [show w.length + 1 + q = (w.length + q) + 1 by omega, List.getElem?_cons_succ, List.getElem?_append_right (by omega)]
      congr 1
      omega
    refine ⟨?_, fun j hj => ?_⟩
    · rw [e, key, i1]
      simp
    · rw [e, show w.length + 1 + zpos ws k + 1 + j = w.length + 1 + (zpos ws k + 1 + j) by omega, key]
      exact i2 j hj
theorem zwt_len2 : ∀ (ws : List zWd) (s : Int), (zwt s ws).length = zpos ws ws.length
  | [], s => rfl
  | w :: ws, s => by
    have := zwt_len2 ws 32
    show (s :: (w ++ zwt 32 ws)).length = _
    rw [List.length_cons, List.length_append, this]
    unfold zpos
    simp
    omega
theorem zdig_58 {x : Int} (h : 0 ≤ x ∧ x ≤ 999) : ∀ y ∈ zdig x, y ≠ 58 := by
  unfold zdig
  intro y hy
  split at hy
  · simp at hy; omega
  · split at hy
    · simp at hy; omega
    · simp at hy; omega
/-- where the words of a written article begin -/
def zhd (a : zAr) : Nat := (zdig a.1).length + 1 + (zdig a.2.1).length
theorem zart_e (a : zAr) : zart a = (zdig a.1 ++ [33] ++ zdig a.2.1) ++ zwt 58 a.2.2 := rfl
theorem zhd_l (a : zAr) : (zdig a.1 ++ [33] ++ zdig a.2.1).length = zhd a := by unfold zhd; simp; omega
theorem zart_h {a : zAr} {q : Nat} : (zart a)[zhd a + q]? = (zwt 58 a.2.2)[q]? := by
  rw [zart_e, List.getElem?_append_right (by rw [zhd_l]; omega), zhd_l]
  congr 1
  omega
theorem zart_lt {ni : Int} {a : zAr} (hk : arOK ni a) (hn : ni ≤ 1000) {j : Int} (h0 : 0 ≤ j) (h : j < zhd a) : (zart a).getD j.toNat 0 ≠ 58 ∧ j < (zart a).length := by
  have hl : j.toNat < (zdig a.1 ++ [33] ++ zdig a.2.1).length := by rw [zhd_l]; omega
  have e : (zart a)[j.toNat]? = some (zdig a.1 ++ [33] ++ zdig a.2.1)[j.toNat] := by
    rw [zart_e, List.getElem?_append_left hl, List.getElem?_eq_getElem hl]
  have hlt := (List.getElem?_eq_some_iff.mp e).1
  refine ⟨?_, by omega⟩
  rw [List.getD_eq_getElem?_getD, e]
  have hm := List.getElem_mem hl
  obtain ⟨⟨b1, b2⟩, ⟨b3, b4⟩, -⟩ := hk
  rcases List.mem_append.mp hm with z | z
  · rcases List.mem_append.mp z with y | y
    · exact zdig_58 ⟨b1, by omega⟩ _ y
    · rw [List.mem_singleton.mp y]; decide
  · exact zdig_58 ⟨by omega, by omega⟩ _ z
theorem zart_len (a : zAr) : (zart a).length = zhd a + zpos a.2.2 a.2.2.length := by
  rw [zart_e, List.length_append, zhd_l, zwt_len2]
theorem zart_58 {a : zAr} (h : 1 ≤ a.2.2.length) : (zart a).getD (zhd a) 0 = 58 ∧ zhd a < (zart a).length := by
  have h1 : a.2.2[0]? = some a.2.2[0] := List.getElem?_eq_getElem h
  have := (zwt_get a.2.2 58 0 _ h1).1
  have e : (zart a)[zhd a]? = some 58 := by
    have h2 := zart_h (a := a) (q := 0)
    rw [Nat.add_zero] at h2
    rw [h2]
    exact this
  refine ⟨?_, (List.getElem?_eq_some_iff.mp e).1⟩
  rw [List.getD_eq_getElem?_getD, e]; rfl
/-- the letters of word k, and what stands behind them -/
theorem zart_w {ni : Int} {a : zAr} (hk : arOK ni a) {k j : Int} (h0 : 0 ≤ k) (h1 : k < a.2.2.length) (j0 : 0 ≤ j) (j1 : j ≤ (a.2.2.getD k.toNat []).length) :
    (j < (a.2.2.getD k.toNat []).length ∧ ((zhd a : Int) + 1 + zpos a.2.2 k.toNat + j < (zart a).length) ∧ (zart a).getD ((zhd a : Int) + 1 + zpos a.2.2 k.toNat + j).toNat 0 = (a.2.2.getD k.toNat []).getD j.toNat 0 ∧ (97 ≤ (a.2.2.getD k.toNat []).getD j.toNat 0 ∧ (a.2.2.getD k.toNat []).getD j.toNat 0 ≤ 122)) ∨
    (j = (a.2.2.getD k.toNat []).length ∧ (zpos a.2.2 (k + 1).toNat : Int) = zpos a.2.2 k.toNat + j + 1 ∧ ((k + 1 < a.2.2.length ∧ ((zhd a : Int) + 1 + zpos a.2.2 k.toNat + j < (zart a).length) ∧ (zart a).getD ((zhd a : Int) + 1 + zpos a.2.2 k.toNat + j).toNat 0 = 32) ∨ (k + 1 = a.2.2.length ∧ (zhd a : Int) + 1 + zpos a.2.2 k.toNat + j = (zart a).length))) := by
  have hkl : k.toNat < a.2.2.length := by omega
  have hw : a.2.2[k.toNat]? = some a.2.2[k.toNat] := List.getElem?_eq_getElem hkl
  have hg : a.2.2.getD k.toNat [] = a.2.2[k.toNat] := by rw [List.getD_eq_getElem?_getD, hw]; rfl
  have hok := hk.2.2.2 _ (List.getElem_mem hkl)
  obtain ⟨g1, g2⟩ := zwt_get a.2.2 58 k.toNat _ hw
  have hps := zpos_s hw
  rw [hg] at j1 ⊢
  by_cases q : j < a.2.2[k.toNat].length
  · left
    have hjl : j.toNat < a.2.2[k.toNat].length := by omega
    have e : (zart a)[zhd a + (zpos a.2.2 k.toNat + 1 + j.toNat)]? = some a.2.2[k.toNat][j.toNat] := by
      rw [zart_h, g2 j.toNat hjl, List.getElem?_eq_getElem hjl]
    have hlt := (List.getElem?_eq_some_iff.mp e).1
    refine ⟨q, by omega, ?_, ?_⟩
    · rw [show ((zhd a : Int) + 1 + zpos a.2.2 k.toNat + j).toNat = zhd a + (zpos a.2.2 k.toNat + 1 + j.toNat) by omega, List.getD_eq_getElem?_getD, e, List.getD_eq_getElem?_getD, List.getElem?_eq_getElem hjl]
    · rw [List.getD_eq_getElem?_getD, List.getElem?_eq_getElem hjl]
      exact hok.2 _ (List.getElem_mem hjl)
  · right
    have hj : j = a.2.2[k.toNat].length := by omega
    have hz : (zpos a.2.2 (k + 1).toNat : Int) = zpos a.2.2 k.toNat + j + 1 := by rw [show (k + 1).toNat = k.toNat + 1 by omega, hps, hj]; omega
    refine ⟨hj, hz, ?_⟩
    by_cases q2 : k + 1 < a.2.2.length
    · left
      have hkl2 : k.toNat + 1 < a.2.2.length := by omega
      have hw2 : a.2.2[k.toNat + 1]? = some a.2.2[k.toNat + 1] := List.getElem?_eq_getElem hkl2
      have g3 := (zwt_get a.2.2 58 (k.toNat + 1) _ hw2).1
      rw [if_neg (Nat.succ_ne_zero _)] at g3
      have e : (zart a)[zhd a + zpos a.2.2 (k.toNat + 1)]? = some 32 := by rw [zart_h, g3]
      have hlt := (List.getElem?_eq_some_iff.mp e).1
      rw [show k.toNat + 1 = (k + 1).toNat by omega] at e hlt
      refine ⟨q2, by omega, ?_⟩
      rw [show ((zhd a : Int) + 1 + zpos a.2.2 k.toNat + j).toNat = zhd a + zpos a.2.2 (k + 1).toNat by omega, List.getD_eq_getElem?_getD, e]
      rfl
    · right
      refine ⟨by omega, ?_⟩
      have := zart_len a
      rw [this, show a.2.2.length = (k + 1).toNat by omega]
      omega
theorem oSt.upR {cs : Nat → ClassId} {X : zF} {q v a n : Nat} {c : ClassId} {t : List Int} {f : Int → Option Nat} {e : va_E} (h : oSt cs X q v t) (ha : X a = some (zO c n f)) : oSt cs (zup X a e) q v t := by
  refine ⟨h.1.imp (fun ⟨g, h1, h2, h3⟩ => ⟨g, zup_k ?_ h1, zup_k ?_ h2, h3⟩) id, h.2⟩
  · exact zne h1 ha (fun z => by cases z)
  · exact zne h2 ha (fun z => by cases z)
/-- an array of which the first k words stand -/
def oSk (cs : Nat → ClassId) (X : zF) (a : Nat) (ws : List zWd) (k : Int) : Prop := ∃ h : Int → Option Nat, X a = some (zO (cs 7) ws.length h) ∧ ∀ i : Int, 0 ≤ i → i < k → ∃ q v : Nat, h i = some q ∧ oSt cs X q v (ws.getD i.toNat [])
theorem oSk.mono {cs : Nat → ClassId} {X X1 : zF} {a : Nat} {ws : List zWd} {k : Int} (h : oSk cs X a ws k) (hl : zle X X1) : oSk cs X1 a ws k := by
  obtain ⟨f, h1, h2⟩ := h
  exact ⟨f, hl _ _ h1, fun i i0 i1 => by obtain ⟨q, v, h3, h4⟩ := h2 i i0 i1; exact ⟨q, v, h3, h4.mono hl⟩⟩
theorem oSk_put {cs : Nat → ClassId} {X : zF} {a n r v : Nat} {ws : List zWd} {k : Int} {f : Int → Option Nat} {t : List Int} (hn : n = ws.length) (ha : X a = some (zO (cs 7) n f)) (h : ∀ i : Int, 0 ≤ i → i < k → ∃ q v : Nat, f i = some q ∧ oSt cs X q v (ws.getD i.toNat [])) (hr : oSt cs X r v t) (ht : t = ws.getD k.toNat []) : oSk cs (zup X a (zO (cs 7) n (upI f k (some r)))) a ws (k + 1) := by
  subst hn
  refine ⟨_, zup_s, fun i i0 i1 => ?_⟩
  by_cases z : i = k
  · exact ⟨r, v, by rw [z]; exact upI_s, by rw [z, ← ht]; exact hr.upR ha⟩
  · obtain ⟨q, v2, h3, h4⟩ := h i i0 (by omega)
    exact ⟨q, v2, by rw [upI_n z]; exact h3, h4.upR ha⟩
theorem oSk_all {cs : Nat → ClassId} {X : zF} {a : Nat} {ws : List zWd} {k : Int} (h : oSk cs X a ws k) (hk : ws.length ≤ k) : oSs7 cs X a ws := by
  obtain ⟨f, h1, h2⟩ := h
  exact ⟨f, h1, fun i i0 i1 => h2 i i0 (by omega)⟩
theorem zpos_b {ni : Int} {a : zAr} (hk : arOK ni a) : ∀ k : Nat, zpos a.2.2 k ≤ 13 * k := by
  intro k
  induction k with
  | zero => exact Nat.le_refl _
  | succ k ih =>
    by_cases h : k < a.2.2.length
    · have hw : a.2.2[k]? = some a.2.2[k] := List.getElem?_eq_getElem h
      have := zpos_s hw
      have hl := (hk.2.2.2 _ (List.getElem_mem h)).1.2
      omega
    · have e : zpos a.2.2 (k + 1) = zpos a.2.2 k := by unfold zpos; rw [List.take_of_length_le (by omega), List.take_of_length_le (by omega)]
      omega
theorem zdig_48 {x : Int} (h : 0 ≤ x ∧ x ≤ 999) : ∀ y ∈ zdig x, 0 ≤ y ∧ y ≤ 127 := zdig_a h
theorem zwt_rng {s : Int} (hs : 0 ≤ s ∧ s ≤ 127) : ∀ (ws : List zWd) , (∀ w ∈ ws, wdOK w) → ∀ (s : Int), (0 ≤ s ∧ s ≤ 127) → ∀ y ∈ zwt s ws, 0 ≤ y ∧ y ≤ 127
  | [], _, _, _, y, hy => absurd hy List.not_mem_nil
  | w :: ws, h, s, hs, y, hy => by
    rcases List.mem_cons.mp hy with z | z
    · rw [z]; exact hs
    · rcases List.mem_append.mp z with u | u
      · have := (h w List.mem_cons_self).2 y u
        omega
      · exact zwt_rng hs ws (fun w2 h2 => h w2 (List.mem_cons_of_mem _ h2)) 32 (by decide) y u
theorem zart_rng {ni : Int} {a : zAr} (hk : arOK ni a) (hn : ni ≤ 1000) : ∀ y ∈ zart a, 0 ≤ y ∧ y ≤ 127 := fun y hy => by
  rw [zart_e] at hy
  rcases List.mem_append.mp hy with z | z
  · rcases List.mem_append.mp z with u | u
    · rcases List.mem_append.mp u with v | v
      · exact zdig_48 ⟨hk.1.1, by have := hk.1.2; omega⟩ y v
      · rw [List.mem_singleton.mp v]; decide
    · exact zdig_48 ⟨by have := hk.2.1; omega, by have := hk.2.1; omega⟩ y u
  · exact zwt_rng (s := 0) (by decide) a.2.2 hk.2.2.2 58 (by decide) y z
theorem zfa_mem {l : List zAr} {x : Int} {a : zAr} (h : zfa l x = some a) : a ∈ l ∧ a.1 = x := by
  unfold zfa at h
  exact ⟨List.mem_of_find?_eq_some h, by have := List.find?_some h; simpa using this⟩
set_option maxHeartbeats 4000000 in
set_option maxRecDepth 100000 in
theorem lm_wordsOf (l : Launch) (D : va_G) (cs : Nat → ClassId) (A : Nat → Prop) (G X : zF) (ob : Nat) (N : Nat) (tx inp out : List Int) (c0 : zCo) (hs : List zCo) (x : Int) (a0 : zAr) (hd : zdj G X) (hlt : l.stackTraces = false) (hG : lG cs G ob N tx inp out c0 hs) (hx0 : InR x) (hfa : zfa (cAr c0) x = some a0) (hw9 : a0.2.2.length ≤ 9) : zM l D cs A yL_wordsOf cL_wordsOf 7 (some (FieldType.array (FieldType.object "java/lang/String"))) 26 1400 12400 [.ref ob, .int (iI x)] (zun G X) (pGR (fun r G1 X1 => zle X X1 ∧ oSs7 cs X1 r a0.2.2 ∧ lG cs G1 ob N tx inp (zart a0) c0 hs)) := by
  refine zM_of (own := RL) (by decide) rfl (Nat.le_of_ble_eq_true rfl) ?_
  intro p e s m below meth c hC hr hlk hnm hZ ls hl
  have hx := hC.x
  have hb := hC.b
  have hl : lv_has ls 7 [(0, .ref ob), (1, .int (iI x))] := hl
  have hW := zW3.of hZ hd
  obtain ⟨ham, hae⟩ := zfa_mem hfa
  have hao := hG.k.2.2.1 a0 ham
  have hni := hG.k.2.2.2.2.2.2.1
  have hN9 := hG.2.2.2.2.2.2.2
  have hwl := hao.2.2.1
  have hwc : sWcnt c0 x = (0, (a0.2.2.length : Int)) := by unfold sWcnt; rw [hfa]
  have hq0 : (sWcnt c0 x).1 = 0 := by rw [hwc]
  have hsw : sWr c0 x = (0, zart a0) := by unfold sWr; rw [hfa]
  have hzl := zart_len a0
  have hpb := zpos_b hao a0.2.2.length
  have hz8 := zart_58 hwl.1
  have hd1 := zdig_l a0.1
  have hd2 := zdig_l a0.2.1
  have hhd : zhd a0 ≤ 7 ∧ 1 ≤ zhd a0 := by unfold zhd; rw [hd1, hd2]; split <;> split <;> (first | omega | (split <;> (first | omega | (split <;> omega))))
  refine lv_aload_n hx hb dL_wordsOf_0 rfl (lv_at hl 0 rfl) ?_
  refine lv_iload_n hx hb dL_wordsOf_1 rfl (lv_at hl 1 rfl) ?_
  obtain ⟨⟨g, sa, so, hL, sv, er, fa, hg⟩, hK, hh8, hhs, htz, ht60, hin, hN9⟩ := id hG
  obtain ⟨cap, hso⟩ := hg.2.2.2.2.1
  have hwi := hK.2.2.2.2.2.2.2.2.1
  refine z_cGi hC (z_xno (z_frX (rest := []) (As := [.int (iI x)]) (n := 1) (ci := 15) hC hW.g (met_X12_wordCount l D cs (zfA G _) G ob g sa so er fa c0 x hlt hg.1 (hg.2.2.2.2.2.2.2.2.2.1.mono zrm_le) (by omega)) gv_L_44 hd_X12_wordCount rfl hg.1 rfl hl rfl (Nat.le_of_ble_eq_true rfl) ⟨Nat.le_of_ble_eq_true rfl, Nat.le_of_ble_eq_true rfl⟩ ⟨Nat.le_of_ble_eq_true rfl, Nat.le_of_ble_eq_true rfl⟩ dL_wordsOf_2) (fun E F1 hz => absurd (hq0.symm.trans hz.2.1) (by decide))) hW (fun r2 G2 H locs hp2 hW => ?_)
  obtain ⟨rfl, -, rfl⟩ := hp2
  refine z_top (y := (a0.2.2.length : Int)) (by rw [hwc]) ?_
  have hnt5 : ((a0.2.2.length : Int)).toNat = a0.2.2.length := (by omega)
  refine z_newr (C := "java/lang/String") (n := (a0.2.2.length : Int)) 7 (hC := hC) (hZ := hW.all) rfl qk_L_139 hC.G.2.2.1.2.2.1 (by omega) (Nat.le_of_ble_eq_true rfl) (by rw [hnt5]; show _ ≤ 12400; omega) dL_wordsOf_5 (fun q5 H hq5 hZ => ?_)
  rw [hnt5] at hZ ⊢
  have hW := hW.nX hq5.1 hZ
  have hqn : X q5 = none := (zal_n hq5.1).2.2
  refine lv_astore_n (lv' := [(2, .ref q5), (0, .ref ob), (1, .int (iI x))]) hx hb dL_wordsOf_8 rfl hl (by decide) rfl (fun ls hl => ?_)
  refine lv_aload_n hx hb dL_wordsOf_9 rfl (lv_at hl 1 rfl) ?_
  refine lv_iload_n hx hb dL_wordsOf_10 rfl (lv_at hl 2 rfl) ?_
  refine z_cGi hC (z_frSW (rest := []) (As := [.ref ob, .int (iI x)]) (n := 2) hC hW.g (lw_writeArticle l D cs (zfA G _) G ob x N tx inp out c0 hs hlt hG hx0) (zgsW qm_L_215 qt_L_writeArticle qn_L qc_L_writeArticle) he_L_writeArticle rfl hl rfl (Nat.le_of_ble_eq_true rfl) ⟨Nat.le_of_ble_eq_true rfl, Nat.le_of_ble_eq_true rfl⟩ ⟨(by show _ ≤ 1400; omega), (by show _ ≤ 12400; omega)⟩ dL_wordsOf_11) hW (fun r11 G11 H locs hp11 hW => ?_)
  obtain ⟨hG, rfl⟩ := hp11
  have hG : lG cs G11 ob N tx inp (zart a0) c0 hs := (by rw [show zart a0 = (if (sWr c0 x).1 = 0 then (sWr c0 x).2 else out) by rw [hsw]; exact (if_pos rfl).symm]; exact hG)
  refine z_top (y := ((zart a0).length : Int)) (by rw [hsw]; exact wq_0 rfl) ?_
  refine lv_istore_n (lv' := [(3, .int (iI ((zart a0).length : Int))), (2, .ref q5), (0, .ref ob), (1, .int (iI x))]) hx hb dL_wordsOf_14 rfl hl (by decide) rfl (fun ls hl => ?_)
  refine z_iconst hx hb dL_wordsOf_15 ?_
  refine lv_istore (lv' := [(4, .int (iI 0)), (3, .int (iI ((zart a0).length : Int))), (2, .ref q5), (0, .ref ob), (1, .int (iI x))]) hx hb dL_wordsOf_16 hl (by decide) rfl (fun ls hl => ?_)
  have L18_k_1 : ∀ (fu : Nat) (j : Int) (G1 : zF) (hfu : ((zhd a0 : Int) - j).toNat < fu) (hi18_0 : 0 ≤ j ∧ j ≤ zhd a0) (hG : lG cs G1 ob N tx inp (zart a0) c0 hs) (H : Heap) (locs : List Loc) (hW : zW3 D A s G1 zE (zup X q5 (zO (cs 7) a0.2.2.length (fun _ => none))) H locs) (ls : Array Slot) (hl : lv_has ls 7 [(4, .int (iI j)), (3, .int (iI ((zart a0).length : Int))), (2, .ref q5), (0, .ref ob), (1, .int (iI x))]), W p l e (zR 26 1400 12400) s m [.ref ob, .int (iI x)].toArray below meth c H locs (60 + 10 * j.toNat) (1640 + 80 * j.toNat) (MQ below (zQ D A (pGR (fun r G1 X1 => zle X X1 ∧ oSs7 cs X1 r a0.2.2 ∧ lG cs G1 ob N tx inp (zart a0) c0 hs))) [.ref ob, .int (iI x)].toArray s 1400 12400 A) (F0 m 18 ls []) := by
    intro fu
    induction fu with
    | zero =>
      intro j G1 hfu
      exact absurd hfu (Nat.not_lt_zero _)
    | succ fu ih18 =>
      intro j G1 hfu hi18_0 hG H locs hW ls hl
      refine lv_aload_n hx hb dL_wordsOf_18 rfl (lv_at hl 3 rfl) ?_
      refine lv_iload hx hb dL_wordsOf_19 (lv_at hl 0 rfl) ?_
      refine z_cGi hC (z_frSW (rest := []) (As := [.ref ob, .int (iI j)]) (n := 2) hC hW.g (lw_outputAt l D cs (zfA G1 _) G1 ob j N tx inp (zart a0) c0 hs hlt hG (by omega)) (zgsW qm_L_212 qt_L_outputAt qn_L qc_L_outputAt) he_L_outputAt rfl hl rfl (Nat.le_of_ble_eq_true rfl) ⟨Nat.le_of_ble_eq_true rfl, Nat.le_of_ble_eq_true rfl⟩ ⟨(by show _ ≤ 1400; omega), (by show _ ≤ 12400; omega)⟩ dL_wordsOf_21) hW (fun r21 G21 H locs hp21 hW => ?_)
      obtain ⟨hG, rfl⟩ := hp21
      refine z_top (y := (zart a0).getD j.toNat 0) (sOut_in ⟨by omega, by omega⟩) ?_
      have hgz : 0 ≤ (zart a0).getD j.toNat 0 ∧ (zart a0).getD j.toNat 0 ≤ 127 := gD_rng (zart_rng hao (by omega)) _
      have hjz : j = zhd a0 → (zart a0).getD j.toNat 0 = 58 := fun z => by rw [z]; exact hz8.1
      refine z_bipush hx hb dL_wordsOf_24 (by decide) ?_
      refine z_icmp_eq (tgt := 35) hx hb dL_wordsOf_26 (by decide) (by omega) (by decide) (fun c_2 => ?_) (fun c_2 => ?_)
      · skip
        have hjE : j = zhd a0 := by
          by_cases z : j < zhd a0
          · exact absurd (by assumption) (zart_lt hao (by omega) hi18_0.1 z).1
          · omega
        have hzp0 : zpos a0.2.2 (0 : Int).toNat = 0 := rfl
        refine z_iinc (lv' := [(4, .int (iI (j + 1))), (3, .int (iI ((zart a0).length : Int))), (2, .ref q5), (0, .ref ob), (1, .int (iI x))]) hx hb dL_wordsOf_35 hl (k := 0) rfl (by decide) rfl (fun ls hl => ?_)
        rw [show (j + 1 : Int) = (zhd a0 : Int) + 1 + zpos a0.2.2 (0 : Int).toNat by omega] at hl
        refine z_iconst hx hb dL_wordsOf_38 ?_
        refine lv_istore (lv' := [(5, .int (iI 0)), (4, .int (iI ((zhd a0 : Int) + 1 + zpos a0.2.2 (0 : Int).toNat))), (3, .int (iI ((zart a0).length : Int))), (2, .ref q5), (0, .ref ob), (1, .int (iI x))]) hx hb dL_wordsOf_39 hl (by decide) rfl (fun ls hl => ?_)
        have L41_k_3 : ∀ (fu : Nat) (k : Int) (G1 X1 : zF) (hfu : ((a0.2.2.length : Int) - k).toNat < fu) (hi41_0 : 0 ≤ k ∧ k ≤ a0.2.2.length) (hG : lG cs G1 ob N tx inp (zart a0) c0 hs) (hle1 : zle X X1) (hA1 : oSk cs X1 q5 a0.2.2 k) (H : Heap) (locs : List Loc) (hW : zW3 D A s G1 zE X1 H locs) (ls : Array Slot) (hl : lv_has ls 7 [(5, .int (iI k)), (4, .int (iI ((zhd a0 : Int) + 1 + zpos a0.2.2 k.toNat))), (3, .int (iI ((zart a0).length : Int))), (2, .ref q5), (0, .ref ob), (1, .int (iI x))]), W p l e (zR 26 1400 12400) s m [.ref ob, .int (iI x)].toArray below meth c H locs (60 + 10 * (zhd a0 + 1 + zpos a0.2.2 k.toNat)) (1640 + 80 * (zhd a0 + 1 + zpos a0.2.2 k.toNat)) (MQ below (zQ D A (pGR (fun r G1 X1 => zle X X1 ∧ oSs7 cs X1 r a0.2.2 ∧ lG cs G1 ob N tx inp (zart a0) c0 hs))) [.ref ob, .int (iI x)].toArray s 1400 12400 A) (F0 m 41 ls []) := by
          intro fu
          induction fu with
          | zero =>
            intro k G1 X1 hfu
            exact absurd hfu (Nat.not_lt_zero _)
          | succ fu ih41 =>
            intro k G1 X1 hfu hi41_0 hG hle1 hA1 H locs hW ls hl
            refine lv_iload hx hb dL_wordsOf_41 (lv_at hl 0 rfl) ?_
            refine lv_aload_n hx hb dL_wordsOf_43 rfl (lv_at hl 3 rfl) ?_
            obtain ⟨fA, hA3, hA4⟩ := id hA1
            refine z_alen (t := 7) hC hW.x hA3 rfl dL_wordsOf_44 ?_
            refine z_icmp_ge (tgt := 117) hx hb dL_wordsOf_45 (by decide) (by omega) (by omega) (fun c_4 => ?_) (fun c_4 => ?_)
            · skip
              have hpb3 := zpos_b hao k.toNat
              refine lv_aload_n hx hb dL_wordsOf_117 rfl (lv_at hl 3 rfl) ?_
              exact z_aretG hC hr (Or.inr ⟨_, rfl⟩) hlk hW (by omega) (by omega) (⟨hle1, oSk_all hA1 (by omega), hG⟩) dL_wordsOf_118
            · skip
              refine z_ldcS1 hC (List.mem_of_getElem? (i := 0) rfl) dL_wordsOf_48 ?_
              refine lv_astore (lv' := [(6, .ref (cs (50 + 0))), (5, .int (iI k)), (4, .int (iI ((zhd a0 : Int) + 1 + zpos a0.2.2 k.toNat))), (3, .int (iI ((zart a0).length : Int))), (2, .ref q5), (0, .ref ob), (1, .int (iI x))]) hx hb dL_wordsOf_50 hl (by decide) rfl (fun ls hl => ?_)
              have L52_k_5 : ∀ (fu : Nat) (j : Int) (G1 X1 : zF) (w wv : Nat) (t : List Int) (hfu : (((a0.2.2.getD k.toNat []).length : Int) - j).toNat < fu) (hi52_0 : 0 ≤ j ∧ j ≤ (a0.2.2.getD k.toNat []).length) (hG : lG cs G1 ob N tx inp (zart a0) c0 hs) (hle2 : zle X X1) (hA2 : oSk cs X1 q5 a0.2.2 k) (hst : oSt cs X1 w wv t) (hhp : oHp X1 w t) (htj : t = (a0.2.2.getD k.toNat []).take j.toNat) (H : Heap) (locs : List Loc) (hW : zW3 D A s G1 zE X1 H locs) (ls : Array Slot) (hl : lv_has ls 7 [(6, .ref w), (5, .int (iI k)), (4, .int (iI ((zhd a0 : Int) + 1 + zpos a0.2.2 k.toNat + j))), (3, .int (iI ((zart a0).length : Int))), (2, .ref q5), (0, .ref ob), (1, .int (iI x))]), W p l e (zR 26 1400 12400) s m [.ref ob, .int (iI x)].toArray below meth c H locs (60 + 10 * (zhd a0 + 1 + zpos a0.2.2 k.toNat + j.toNat)) (1640 + 80 * (zhd a0 + 1 + zpos a0.2.2 k.toNat + j.toNat)) (MQ below (zQ D A (pGR (fun r G1 X1 => zle X X1 ∧ oSs7 cs X1 r a0.2.2 ∧ lG cs G1 ob N tx inp (zart a0) c0 hs))) [.ref ob, .int (iI x)].toArray s 1400 12400 A) (F0 m 52 ls []) := by
                intro fu
                induction fu with
                | zero =>
                  intro j G1 X1 w wv t hfu
                  exact absurd hfu (Nat.not_lt_zero _)
                | succ fu ih52 =>
                  intro j G1 X1 w wv t hfu hi52_0 hG hle2 hA2 hst hhp htj H locs hW ls hl
                  refine lv_iload hx hb dL_wordsOf_52 (lv_at hl 2 rfl) ?_
                  refine lv_iload_n hx hb dL_wordsOf_54 rfl (lv_at hl 3 rfl) ?_
                  have hzw := zart_w hao (k := k) (j := j) (by omega) (by omega) (by omega) (by omega)
                  have hpb2 := zpos_b hao k.toNat
                  refine z_icmp_ge (tgt := 102) hx hb dL_wordsOf_55 (by decide) (by omega) (by omega) (fun c_6 => ?_) (fun c_6 => ?_)
                  · skip
                    have hje : j = (a0.2.2.getD k.toNat []).length := by
                      rcases hzw with ⟨y1, y2, y3, y4⟩ | ⟨y1, y2, y3⟩
                      · omega
                      · exact y1
                    have htk : t = (a0.2.2.getD k.toNat []) := by rw [htj, show j.toNat = (a0.2.2.getD k.toNat []).length by omega, List.take_length]
                    have hw1 : 1 ≤ (a0.2.2.getD k.toNat []).length := by
                      have hkl : k.toNat < a0.2.2.length := by omega
                      rw [List.getD_eq_getElem?_getD, List.getElem?_eq_getElem hkl]
                      exact (hao.2.2.2 _ (List.getElem_mem hkl)).1.1
                    obtain ⟨fA, hA3, hA4⟩ := id hA2
                    obtain ⟨fsw, hfsw⟩ := hhp.resolve_left (fun z => by rw [htk] at z; rw [z] at hw1; exact absurd hw1 (by decide))
                    have hzk : (zpos a0.2.2 (k + 1).toNat : Int) = zpos a0.2.2 k.toNat + j + 1 := by
                      rcases hzw with ⟨y1, y2, y3, y4⟩ | ⟨y1, y2, y3⟩
                      · omega
                      · exact y2
                    refine lv_aload_n hx hb dL_wordsOf_102 rfl (lv_at hl 4 rfl) ?_
                    refine lv_iload hx hb dL_wordsOf_103 (lv_at hl 1 rfl) ?_
                    refine lv_aload hx hb dL_wordsOf_105 (lv_at hl 0 rfl) ?_
                    refine z_aast (ci := 0) (E := "java/lang/String") hC hW.all 7 (zal_x hW.dgx hW.dbx _ _ hA3) rfl (zal_x hW.dgx hW.dbx _ _ hfsw) rfl (Or.inl rfl) (by omega) (by omega) dL_wordsOf_107 (fun H locs hZ => ?_)
                    have hW := hW.uX hA3 hZ
                    refine z_iinc (lv' := [(4, .int (iI (((zhd a0 : Int) + 1 + zpos a0.2.2 k.toNat + j) + 1))), (6, .ref w), (5, .int (iI k)), (3, .int (iI ((zart a0).length : Int))), (2, .ref q5), (0, .ref ob), (1, .int (iI x))]) hx hb dL_wordsOf_108 hl (k := 2) rfl (by decide) rfl (fun ls hl => ?_)
                    refine z_iinc (lv' := [(5, .int (iI (k + 1))), (4, .int (iI (((zhd a0 : Int) + 1 + zpos a0.2.2 k.toNat + j) + 1))), (6, .ref w), (3, .int (iI ((zart a0).length : Int))), (2, .ref q5), (0, .ref ob), (1, .int (iI x))]) hx hb dL_wordsOf_111 hl (k := 2) rfl (by decide) rfl (fun ls hl => ?_)
                    rw [show (((zhd a0 : Int) + 1 + zpos a0.2.2 k.toNat + j) + 1 : Int) = (zhd a0 : Int) + 1 + zpos a0.2.2 (k + 1).toNat by omega] at hl
                    refine lv_goto (tgt := 41) hx hb dL_wordsOf_114 (by decide) ?_
                    skip
                    refine W.widen (k := (60 + 10 * (zhd a0 + 1 + zpos a0.2.2 (k + 1).toNat))) (n := (1640 + 80 * (zhd a0 + 1 + zpos a0.2.2 (k + 1).toNat))) (by omega) (by omega) ?_
                    exact ih41 (k + 1) G1 (zup X1 q5 (zO (cs 7) a0.2.2.length (upI fA k (some w)))) (by omega) (by omega) hG (hle2.up hqn) (oSk_put rfl hA3 hA4 hst htk) _ _ hW ls (lv_sub hl [0, 1, 3, 4, 5, 6] rfl)
                  · skip
                    refine lv_aload_n hx hb dL_wordsOf_58 rfl (lv_at hl 5 rfl) ?_
                    refine lv_iload hx hb dL_wordsOf_59 (lv_at hl 2 rfl) ?_
                    refine z_cGi hC (z_frSW (rest := []) (As := [.ref ob, .int (iI ((zhd a0 : Int) + 1 + zpos a0.2.2 k.toNat + j))]) (n := 2) hC hW.g (lw_outputAt l D cs (zfA G1 _) G1 ob ((zhd a0 : Int) + 1 + zpos a0.2.2 k.toNat + j) N tx inp (zart a0) c0 hs hlt hG (by omega)) (zgsW qm_L_212 qt_L_outputAt qn_L qc_L_outputAt) he_L_outputAt rfl hl rfl (Nat.le_of_ble_eq_true rfl) ⟨Nat.le_of_ble_eq_true rfl, Nat.le_of_ble_eq_true rfl⟩ ⟨(by show _ ≤ 1400; omega), (by show _ ≤ 12400; omega)⟩ dL_wordsOf_61) hW (fun r61 G61 H locs hp61 hW => ?_)
                    obtain ⟨hG, rfl⟩ := hp61
                    refine z_top (y := (zart a0).getD ((zhd a0 : Int) + 1 + zpos a0.2.2 k.toNat + j).toNat 0) (sOut_in ⟨by omega, by omega⟩) ?_
                    have hgz : 0 ≤ (zart a0).getD ((zhd a0 : Int) + 1 + zpos a0.2.2 k.toNat + j).toNat 0 ∧ (zart a0).getD ((zhd a0 : Int) + 1 + zpos a0.2.2 k.toNat + j).toNat 0 ≤ 127 := gD_rng (zart_rng hao (by omega)) _
                    refine z_bipush hx hb dL_wordsOf_64 (by decide) ?_
                    refine z_icmp_eq (tgt := 102) hx hb dL_wordsOf_66 (by decide) (by omega) (by decide) (fun c_7 => ?_) (fun c_7 => ?_)
                    · skip
                      have hje : j = (a0.2.2.getD k.toNat []).length := by
                        rcases hzw with ⟨y1, y2, y3, y4⟩ | ⟨y1, y2, y3⟩
                        · omega
                        · exact y1
                      have htk : t = (a0.2.2.getD k.toNat []) := by rw [htj, show j.toNat = (a0.2.2.getD k.toNat []).length by omega, List.take_length]
                      have hw1 : 1 ≤ (a0.2.2.getD k.toNat []).length := by
                        have hkl : k.toNat < a0.2.2.length := by omega
                        rw [List.getD_eq_getElem?_getD, List.getElem?_eq_getElem hkl]
                        exact (hao.2.2.2 _ (List.getElem_mem hkl)).1.1
                      obtain ⟨fA, hA3, hA4⟩ := id hA2
                      obtain ⟨fsw, hfsw⟩ := hhp.resolve_left (fun z => by rw [htk] at z; rw [z] at hw1; exact absurd hw1 (by decide))
                      have hzk : (zpos a0.2.2 (k + 1).toNat : Int) = zpos a0.2.2 k.toNat + j + 1 := by
                        rcases hzw with ⟨y1, y2, y3, y4⟩ | ⟨y1, y2, y3⟩
                        · omega
                        · exact y2
                      refine lv_aload_n hx hb dL_wordsOf_102 rfl (lv_at hl 4 rfl) ?_
                      refine lv_iload hx hb dL_wordsOf_103 (lv_at hl 1 rfl) ?_
                      refine lv_aload hx hb dL_wordsOf_105 (lv_at hl 0 rfl) ?_
                      refine z_aast (ci := 0) (E := "java/lang/String") hC hW.all 7 (zal_x hW.dgx hW.dbx _ _ hA3) rfl (zal_x hW.dgx hW.dbx _ _ hfsw) rfl (Or.inl rfl) (by omega) (by omega) dL_wordsOf_107 (fun H locs hZ => ?_)
                      have hW := hW.uX hA3 hZ
                      refine z_iinc (lv' := [(4, .int (iI (((zhd a0 : Int) + 1 + zpos a0.2.2 k.toNat + j) + 1))), (6, .ref w), (5, .int (iI k)), (3, .int (iI ((zart a0).length : Int))), (2, .ref q5), (0, .ref ob), (1, .int (iI x))]) hx hb dL_wordsOf_108 hl (k := 2) rfl (by decide) rfl (fun ls hl => ?_)
                      refine z_iinc (lv' := [(5, .int (iI (k + 1))), (4, .int (iI (((zhd a0 : Int) + 1 + zpos a0.2.2 k.toNat + j) + 1))), (6, .ref w), (3, .int (iI ((zart a0).length : Int))), (2, .ref q5), (0, .ref ob), (1, .int (iI x))]) hx hb dL_wordsOf_111 hl (k := 2) rfl (by decide) rfl (fun ls hl => ?_)
                      rw [show (((zhd a0 : Int) + 1 + zpos a0.2.2 k.toNat + j) + 1 : Int) = (zhd a0 : Int) + 1 + zpos a0.2.2 (k + 1).toNat by omega] at hl
                      refine lv_goto (tgt := 41) hx hb dL_wordsOf_114 (by decide) ?_
                      skip
                      refine W.widen (k := (60 + 10 * (zhd a0 + 1 + zpos a0.2.2 (k + 1).toNat))) (n := (1640 + 80 * (zhd a0 + 1 + zpos a0.2.2 (k + 1).toNat))) (by omega) (by omega) ?_
                      exact ih41 (k + 1) G61 (zup X1 q5 (zO (cs 7) a0.2.2.length (upI fA k (some w)))) (by omega) (by omega) hG (hle2.up hqn) (oSk_put rfl hA3 hA4 hst htk) _ _ hW ls (lv_sub hl [0, 1, 3, 4, 5, 6] rfl)
                    · skip
                      have hzw2 : j < (a0.2.2.getD k.toNat []).length ∧ (zart a0).getD ((zhd a0 : Int) + 1 + zpos a0.2.2 k.toNat + j).toNat 0 = (a0.2.2.getD k.toNat []).getD j.toNat 0 := by
                        rcases hzw with ⟨y1, y2, y3, y4⟩ | ⟨y1, y2, ⟨y3, y4, y5⟩ | ⟨y3, y4⟩⟩
                        · exact ⟨y1, y3⟩
                        · omega
                        · omega
                      have hw12 : (a0.2.2.getD k.toNat []).length ≤ 12 := by
                        have hkl : k.toNat < a0.2.2.length := by omega
                        rw [List.getD_eq_getElem?_getD, List.getElem?_eq_getElem hkl]
                        exact (hao.2.2.2 _ (List.getElem_mem hkl)).1.2
                      have htl : (t.length : Int) = j := by rw [htj, List.length_take]; omega
                      refine z_new (T := TJ4) (N := 4) (ci := 1) hC hW.all tyJ4 tyJ4_ok in_J4 rfl qk_L_162 qx_J4 qn_J4 [.null, .int (iI 0), .int (iI 0), .int (iI 0)] df_J4 (by show _ ≤ 1400; omega) (by show _ ≤ 12400; omega) dL_wordsOf_69 (fun b69 H hb69 hZ => ?_)
                      have hW := hW.nB hb69.1 hZ
                      refine lv_dup hx hb dL_wordsOf_72 rfl ?_
                      refine z_cBv hC (z_frI (rest := [.ref b69]) (As := []) (n := 0) hC hW.b (met_J4_init_da8c8 l D cs (zfA (zup zE b69 (.inr (1, [.null, .int (iI 0), .int (iI 0), .int (iI 0)]))) _) (zup zE b69 (.inr (1, [.null, .int (iI 0), .int (iI 0), .int (iI 0)]))) b69 zup_s) qc_J4_init_da8c8 qn_J4 qm_L_164 qi_J4_init_da8c8 rfl he_J4_init_da8c8 rfl hl rfl (Nat.le_of_ble_eq_true rfl) ⟨Nat.le_of_ble_eq_true rfl, Nat.le_of_ble_eq_true rfl⟩ ⟨(by show _ ≤ 1400; omega), (by show _ ≤ 12400; omega)⟩ dL_wordsOf_73) hW (fun B73 H locs hp73 hW => ?_)
                      obtain ⟨va73, -, -, hb73⟩ := hp73
                      have hnil : ([] : List Int).length = 0 := rfl
                      refine W.widen (k := (60 + 10 * (zhd a0 + 1 + zpos a0.2.2 k.toNat + j.toNat)) + 1 + 2) (n := (1640 + 80 * (zhd a0 + 1 + zpos a0.2.2 k.toNat + j.toNat)) + 6 + 20) (by omega) (by omega) ?_
                      refine lv_aload hx hb dL_wordsOf_76 (lv_at hl 0 rfl) ?_
                      have hcc78 := oSB.c hb73
                      have hgx78 := grx_le 16 (([] : List Int).length + t.length)
                      have hmc78 := mcS_le (cap := 16) (n := (([] : List Int).length + t.length))
                      obtain ⟨fs78, ho78⟩ := (oSB.mono hb73 zun_le1).o
                      refine z_cAp hC (z_frV (rest := []) (As := [.ref w]) (n := 1) (ci := 1) hC hW.bx (mes_append l D cs (zfA (zun B73 X1) _) (zun B73 X1) b69 va73 16 ([] : List Int) w wv t (oSB.mono hb73 zun_le1) (oSt.mono hst (zun_le2 hW.dbx)) (by omega)) gv_L_165 hd_J4_append_15ec4 rfl ho78 rfl hl rfl (Nat.le_of_ble_eq_true rfl) ⟨Nat.le_of_ble_eq_true rfl, Nat.le_of_ble_eq_true rfl⟩ ⟨(by show _ ≤ 1400; omega), (by show _ ≤ 12400; omega)⟩ dL_wordsOf_78) hW hb73 (fun B78 va78 H locs hb78 hW => ?_)
                      obtain ⟨ca78, hca78⟩ : ∃ c_ : Nat, c_ = grx 16 (([] : List Int).length + t.length) := ⟨_, rfl⟩
                      rw [← hca78] at hb78 hgx78
                      refine W.widen (k := (60 + 10 * (zhd a0 + 1 + zpos a0.2.2 k.toNat + j.toNat)) + 1 + 3) (n := (1640 + 80 * (zhd a0 + 1 + zpos a0.2.2 k.toNat + j.toNat)) + 6 + (20 + 2 * (ca78 - 16))) (by omega) (by omega) ?_
                      have hb78 : oSB cs B78 b69 va78 ca78 t := hb78
                      refine lv_aload_n hx hb dL_wordsOf_81 rfl (lv_at hl 5 rfl) ?_
                      refine lv_iload hx hb dL_wordsOf_82 (lv_at hl 2 rfl) ?_
                      refine z_cGi hC (z_frSW (rest := [.ref b69]) (As := [.ref ob, .int (iI ((zhd a0 : Int) + 1 + zpos a0.2.2 k.toNat + j))]) (n := 2) hC hW.g (lw_outputAt l D cs (zfA G61 _) G61 ob ((zhd a0 : Int) + 1 + zpos a0.2.2 k.toNat + j) N tx inp (zart a0) c0 hs hlt hG (by omega)) (zgsW qm_L_212 qt_L_outputAt qn_L qc_L_outputAt) he_L_outputAt rfl hl rfl (Nat.le_of_ble_eq_true rfl) ⟨Nat.le_of_ble_eq_true rfl, Nat.le_of_ble_eq_true rfl⟩ ⟨(by show _ ≤ 1400; omega), (by show _ ≤ 12400; omega)⟩ dL_wordsOf_84) hW (fun r84 G84 H locs hp84 hW => ?_)
                      obtain ⟨hG, rfl⟩ := hp84
                      refine z_top (y := (a0.2.2.getD k.toNat []).getD j.toNat 0) (by rw [sOut_in ⟨by omega, by omega⟩]; exact hzw2.2) ?_
                      rw [hzw2.2] at hgz
                      refine z_i2c hx hb dL_wordsOf_87 (by omega) ?_
                      have hcc88 := oSB.c hb78
                      have hgx88 := grw_f (cap := ca78) (n := (t.length + 1)) (by omega)
                      have hmc88 := mcS_le (cap := ca78) (n := (t.length + 1))
                      obtain ⟨fs88, ho88⟩ := (oSB.mono hb78 zun_le1).o
                      refine z_cAp hC (z_frV (rest := []) (As := [.int (iI ((a0.2.2.getD k.toNat []).getD j.toNat 0))]) (n := 1) (ci := 1) hC hW.bx (met_J4_append_cf468 l D cs (zfA (zun B78 X1) _) (zun B78 X1) b69 va78 ca78 t ((a0.2.2.getD k.toNat []).getD j.toNat 0) (oSB.mono hb78 zun_le1) (by omega) (by omega)) gv_L_171 hd_J4_append_cf468 rfl ho88 rfl hl rfl (Nat.le_of_ble_eq_true rfl) ⟨Nat.le_of_ble_eq_true rfl, Nat.le_of_ble_eq_true rfl⟩ ⟨(by show _ ≤ 1400; omega), (by show _ ≤ 12400; omega)⟩ dL_wordsOf_88) hW hb78 (fun B88 va88 H locs hb88 hW => ?_)
                      obtain ⟨ca88, hca88⟩ : ∃ c_ : Nat, c_ = grw ca78 (t.length + 1) := ⟨_, rfl⟩
                      rw [← hca88] at hb88 hgx88
                      refine W.widen (k := (60 + 10 * (zhd a0 + 1 + zpos a0.2.2 k.toNat + j.toNat)) + 1 + 1 + 4) (n := (1640 + 80 * (zhd a0 + 1 + zpos a0.2.2 k.toNat + j.toNat)) + 6 + 6 + (20 + 2 * (ca88 - 16))) (by omega) (by omega) ?_
                      have hlen88 : (t ++ [(a0.2.2.getD k.toNat []).getD j.toNat 0]).length = (t.length + 1) := by rw [List.length_append]; rfl
                      obtain ⟨fs91, ho91⟩ := (oSB.mono hb88 zun_le1).o
                      refine z_cTs hC (z_frV (rest := []) (As := []) (n := 0) (ci := 1) hC hW.bx (mes_toString l D cs (zfA (zun B88 X1) _) (zun B88 X1) b69 va88 ca88 (t ++ [(a0.2.2.getD k.toNat []).getD j.toNat 0]) (oSB.mono hb88 zun_le1) (by omega)) gv_L_174 hd_J4_toString_0e30d rfl ho91 rfl hl rfl (Nat.le_of_ble_eq_true rfl) ⟨Nat.le_of_ble_eq_true rfl, Nat.le_of_ble_eq_true rfl⟩ ⟨(by show _ ≤ 1400; omega), (by show _ ≤ 12400; omega)⟩ dL_wordsOf_91) hW hb88 (fun r91 v91 X91 H locs hl91 hq91 hh91 hW => ?_)
                      have hs_8 : oSt cs X91 w wv t := hst.mono hl91
                      have hle_9 : zle X X91 := hle2.trans hl91
                      refine W.widen (k := (60 + 10 * (zhd a0 + 1 + zpos a0.2.2 k.toNat + j.toNat) + 10)) (n := (1640 + 80 * (zhd a0 + 1 + zpos a0.2.2 k.toNat + j.toNat) + 80)) (by omega) (by omega) ?_
                      refine lv_astore (lv' := [(6, .ref r91), (5, .int (iI k)), (4, .int (iI ((zhd a0 : Int) + 1 + zpos a0.2.2 k.toNat + j))), (3, .int (iI ((zart a0).length : Int))), (2, .ref q5), (0, .ref ob), (1, .int (iI x))]) hx hb dL_wordsOf_94 hl (by decide) rfl (fun ls hl => ?_)
                      refine z_iinc (lv' := [(4, .int (iI (((zhd a0 : Int) + 1 + zpos a0.2.2 k.toNat + j) + 1))), (6, .ref r91), (5, .int (iI k)), (3, .int (iI ((zart a0).length : Int))), (2, .ref q5), (0, .ref ob), (1, .int (iI x))]) hx hb dL_wordsOf_96 hl (k := 2) rfl (by decide) rfl (fun ls hl => ?_)
                      rw [show (((zhd a0 : Int) + 1 + zpos a0.2.2 k.toNat + j) + 1 : Int) = (zhd a0 : Int) + 1 + zpos a0.2.2 k.toNat + (j + 1) by omega] at hl
                      refine lv_goto (tgt := 52) hx hb dL_wordsOf_99 (by decide) ?_
                      refine W.widen (k := (60 + 10 * (zhd a0 + 1 + zpos a0.2.2 k.toNat + (j + 1).toNat))) (n := (1640 + 80 * (zhd a0 + 1 + zpos a0.2.2 k.toNat + (j + 1).toNat))) (by omega) (by omega) ?_
                      exact ih52 (j + 1) G84 X91 r91 v91 (t ++ [(a0.2.2.getD k.toNat []).getD j.toNat 0]) (by omega) (by omega) hG hle_9 (hA2.mono hl91) hq91 (Or.inr ⟨_, hh91⟩) (by rw [htj, wd_take (by omega) (by omega)]) _ _ hW ls (lv_sub hl [1, 2, 0, 3, 4, 5, 6] rfl)
              refine W.widen (k := (60 + 10 * (zhd a0 + 1 + zpos a0.2.2 k.toNat + (0 : Int).toNat))) (n := (1640 + 80 * (zhd a0 + 1 + zpos a0.2.2 k.toNat + (0 : Int).toNat))) (by omega) (by omega) ?_
              exact L52_k_5 _ 0 G1 X1 (cs (50 + 0)) (cs (70 + 0)) [] (Nat.lt_succ_self _) (by omega) hG hle1 hA1 (zLw_st (j := 0) (by decide)) (Or.inl rfl) (by simp) _ _ hW ls (lv_sub hl [0, 1, 2, 3, 4, 5, 6] rfl)
        refine W.widen (k := (60 + 10 * (zhd a0 + 1 + zpos a0.2.2 (0 : Int).toNat))) (n := (1640 + 80 * (zhd a0 + 1 + zpos a0.2.2 (0 : Int).toNat))) (by omega) (by omega) ?_
        exact L41_k_3 _ 0 G21 (zup X q5 (zO (cs 7) a0.2.2.length (fun _ => none))) (Nat.lt_succ_self _) (by omega) hG (zle.fresh hqn) ⟨_, zup_s, fun i i0 i1 => absurd i1 (by omega)⟩ _ _ hW ls (lv_sub hl [0, 1, 2, 3, 4, 5] rfl)
      · skip
        have hjN : j ≠ zhd a0 := fun z => absurd (hjz z) (by assumption)
        refine z_iinc (lv' := [(4, .int (iI (j + 1))), (3, .int (iI ((zart a0).length : Int))), (2, .ref q5), (0, .ref ob), (1, .int (iI x))]) hx hb dL_wordsOf_29 hl (k := 0) rfl (by decide) rfl (fun ls hl => ?_)
        refine lv_goto (tgt := 18) hx hb dL_wordsOf_32 (by decide) ?_
        refine W.widen (k := (60 + 10 * (j + 1).toNat)) (n := (1640 + 80 * (j + 1).toNat)) (by omega) (by omega) ?_
        exact ih18 (j + 1) G21 (by omega) (by omega) hG _ _ hW ls (lv_sub hl [0, 1, 2, 3, 4] rfl)
  refine W.widen (k := (60 + 10 * (0 : Int).toNat)) (n := (1640 + 80 * (0 : Int).toNat)) (by omega) (by omega) ?_
  exact L18_k_1 _ 0 G11 (Nat.lt_succ_self _) (by omega) hG _ _ hW ls (lv_sub hl [0, 1, 2, 3, 4] rfl)

