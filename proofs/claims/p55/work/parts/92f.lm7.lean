/-- a cell of the script, halved -/
def dC (cs : Nat → ClassId) (k : Int) : Int := zcell cs k % 4294967296 / 2
theorem dC_b (cs : Nat → ClassId) (k : Int) : 0 ≤ dC cs k ∧ dC cs k ≤ 2147483647 := by unfold dC; omega
/-- n articles, their ids 0 to n - 1, none of more than nine words; at most k issues were printed -/
def dJ (n : Nat) (k : Int) (c : zCo) : Prop := (cAr c).length = n ∧ (∀ i : Nat, i < n → ∃ a : zAr, (cAr c)[i]? = some a ∧ a.1 = (i : Int)) ∧ (∀ a ∈ cAr c, a.2.2.length ≤ 9) ∧ cNi c = (n : Int) ∧ 0 ≤ cNn c ∧ cNn c ≤ k
def dI (n : Nat) (c : zCo) : Prop := dJ n 0 c ∧ cWi c = 12
theorem dI_0 : dI 0 cNew := ⟨⟨rfl, fun i h => absurd h (Nat.not_lt_zero _), fun a h => absurd h List.not_mem_nil, rfl, by decide, by decide⟩, rfl⟩
theorem dI_add {n : Nat} {c : zCo} {x : Int} {ws : List zWd} (h : dI n c) (hw : ws.length ≤ 9) : dI (n + 1) (cAdd c x ws) := by
  obtain ⟨⟨h1, h2, h3, h4, h5⟩, h6⟩ := h
  refine ⟨⟨?_, fun i hi => ?_, fun a ha => ?_, ?_, h5⟩, h6⟩
  · show (cAr c ++ [(cNi c, x, ws)]).length = n + 1
    rw [List.length_append, h1]; rfl
  · show ∃ a : zAr, (cAr c ++ [(cNi c, x, ws)])[i]? = some a ∧ a.1 = (i : Int)
    by_cases q : i < n
    · obtain ⟨a, e1, e2⟩ := h2 i q
      exact ⟨a, by rw [List.getElem?_append_left (by omega)]; exact e1, e2⟩
    · refine ⟨(cNi c, x, ws), ?_, by show cNi c = _; rw [h4]; omega⟩
      rw [List.getElem?_append_right (by omega), show i - (cAr c).length = 0 by omega]
      rfl
  · rcases List.mem_append.mp ha with z | z
    · exact h3 a z
    · rw [List.mem_singleton.mp z]; exact hw
  · show cNi c + 1 = _
    rw [h4]; omega
theorem dJ_mono {n : Nat} {k k1 : Int} {c : zCo} (h : dJ n k c) (hk : k ≤ k1) : dJ n k1 c := ⟨h.1, h.2.1, h.2.2.1, h.2.2.2.1, h.2.2.2.2.1, by have := h.2.2.2.2.2; omega⟩
theorem dJ_prt {n : Nat} {k : Int} {c : zCo} (h : dJ n k c) (hn : 1 ≤ n) : sPrt c = (0, cPrt c, cNn c) ∧ dJ n (k + 1) (cPrt c) := by
  obtain ⟨h1, h2, h3, h4, h5⟩ := h
  refine ⟨?_, h1, h2, h3, h4, by show 0 ≤ cNn c + 1 ∧ cNn c + 1 ≤ _; omega⟩
  unfold sPrt
  exact if_neg (by omega)
theorem dJ_day {n : Nat} {k d : Int} {c : zCo} (h : dJ n k c) (hd : 1 ≤ d ∧ d ≤ 30) : sDay c d = (0, cDay c d, zlost (cDa c) d (cIs c)) ∧ dJ n k (cDay c d) ∧ 0 ≤ zlost (cDa c) d (cIs c) ∧ zlost (cDa c) d (cIs c) ≤ (cIs c).length :=
  ⟨if_pos hd, h, Int.natCast_nonneg _, Int.ofNat_le.mpr List.countP_le_length⟩
theorem zix_d {n : Nat} {k : Int} {c : zCo} (h : dJ n k c) {x : Nat} (hx : x < n) : zix (cAr c) x = some x := by
  obtain ⟨h1, h2, -⟩ := h
  unfold zix
  rw [List.findIdx?_eq_some_iff_getElem]
  obtain ⟨a, e1, e2⟩ := h2 x hx
  obtain ⟨hl, e3⟩ := List.getElem?_eq_some_iff.mp e1
  refine ⟨hl, by rw [e3]; simpa using e2, fun j hj => ?_⟩
  obtain ⟨b, e4, e5⟩ := h2 j (by omega)
  obtain ⟨hl2, e6⟩ := List.getElem?_eq_some_iff.mp e4
  rw [e6]
  simp
  omega
theorem dJ_cor {N n : Nat} {k x : Int} {c : zCo} {w : List Int} (hK : cOK N c) (h : dJ n k c) (hx : 0 ≤ x ∧ x < n) (hw : zlet w) (hl : 1 ≤ w.length ∧ w.length ≤ 12) : ∃ (c1 : zCo) (z : Int), sCor c x 0 w = (0, c1, z) ∧ dJ n k c1 ∧ 0 ≤ z ∧ z ≤ 12 := by
  have hix := zix_d h (x := x.toNat) (by omega)
  rw [Int.toNat_of_nonneg hx.1] at hix
  obtain ⟨h1, h2, h3, h4, h5⟩ := h
  obtain ⟨a, e1, e2⟩ := h2 x.toNat (by omega)
  have hao := hK.2.2.1 a (List.mem_of_getElem? e1)
  have hl1 : 0 < a.2.2.length := hao.2.2.1.1
  have hw0 : a.2.2[0]? = some a.2.2[0] := List.getElem?_eq_getElem hao.2.2.1.1
  have hz : zwd a 0 = some a.2.2[0] := hw0
  have hzs := zsp_let hw
  have e : sCor c x 0 w = ((0 : Int), cCor c x.toNat a 0 w (zlate c x), (a.2.2[0].length : Int)) := by
    unfold sCor
    rw [hix]
    dsimp only
    rw [e1]
    dsimp only
    rw [hz]
    dsimp only
    rw [if_pos ⟨(zatB_iff w).mpr (fun y hy => by rw [hzs] at hy; rw [List.mem_singleton.mp hy]; exact hl), by rw [hzs]; rfl⟩, hzs]
    rfl
  have hwo := hao.2.2.2 _ (List.getElem_mem hao.2.2.1.1)
  refine ⟨_, _, e, ⟨?_, fun i hi => ?_, fun b hb => ?_, h4, h5⟩, Int.natCast_nonneg _, by have := hwo.1.2; omega⟩
  · show ((cAr c).set _ _).length = n
    rw [List.length_set, h1]
  · show ∃ b : zAr, ((cAr c).set x.toNat (a.1, a.2.1, a.2.2.set 0 w))[i]? = some b ∧ b.1 = (i : Int)
    by_cases q : i = x.toNat
    · refine ⟨(a.1, a.2.1, a.2.2.set 0 w), ?_, by show a.1 = _; rw [e2, q]⟩
      rw [q, List.getElem?_set_self (by omega)]
    · obtain ⟨b, e4, e5⟩ := h2 i hi
      exact ⟨b, by rw [List.getElem?_set_ne (Ne.symm q)]; exact e4, e5⟩
  · rcases List.mem_or_eq_of_mem_set hb with z | z
    · exact h3 b z
    · rw [z]
      show (a.2.2.set 0 w).length ≤ 9
      rw [List.length_set]
      exact h3 a (List.mem_of_getElem? e1)
theorem mul_b {x y : Int} (hx : 1 ≤ x ∧ x ≤ 4) (hy : 1 ≤ y ∧ y ≤ 20) : 1 ≤ x * y ∧ x * y ≤ 80 := by
  have h3 : x = 1 ∨ x = 2 ∨ x = 3 ∨ x = 4 := by omega
  rcases h3 with e | e | e | e <;> rw [e] <;> omega
theorem cNew_OK : cOK 0 cNew := ⟨by decide, by decide, fun a h => absurd h List.not_mem_nil, List.Pairwise.nil, fun a h => absurd h List.not_mem_nil, List.Pairwise.nil, by decide, by decide, by decide, by decide, by decide, by decide, by decide, by decide⟩
theorem lG_new {F0_ : zF} {cs : Nat → ClassId} {G : zF} {ob : Nat} (h : ∃ (g1 : Nat → Nat) (sa1 : Nat), zko [ob] F0_ G ∧ gOb cs G ob g1 sa1 none [] [] [] [] cNew none [] (-1) (-1)) : lG cs G ob 0 [] [] [] cNew [] := by
  obtain ⟨g1, sa1, -, hg⟩ := h
  exact ⟨⟨g1, sa1, none, [], none, -1, -1, hg⟩, cNew_OK, by decide, fun h hh => absurd hh List.not_mem_nil, fun x hx => absurd hx List.not_mem_nil, by decide, ⟨by decide, fun x hx => absurd hx List.not_mem_nil⟩, by decide⟩
set_option maxHeartbeats 4000000 in
set_option maxRecDepth 100000 in
theorem lm_drawn (l : Launch) (D : va_G) (cs : Nat → ClassId) (A : Nat → Prop) (X : zF)   (hlt : l.stackTraces = false) (hL : (cs 99 : Int) ≤ 260) : zM l D cs A yL_drawn cL_drawn 8 (some (FieldType.object "StoneGazette")) 20 5600 64000 [.ref (cs 98)] X (pGR (fun r G1 X1 => zle X X1 ∧ ∃ (N : Nat) (c0 : zCo) (hs : List zCo), lG cs G1 r N [] [] [] c0 hs ∧ N ≤ 12 ∧ dJ (1 + dC cs 0 % 5).toNat 5 c0)) := by
  refine zM_of (own := RL) (by decide) rfl (Nat.le_of_ble_eq_true rfl) ?_
  intro p e s m below meth c hC hr hlk hnm hZ ls hl
  have hx := hC.x
  have hb := hC.b
  have hl : lv_has ls 8 [(0, .ref (cs 98))] := hl
  have hW := zW3.ofX hZ
  refine z_new (T := TX12) (N := 11) (ci := 15) hC hW.all tyX12 tyX12_ok in_X12 rfl qk_L_9 qx_X12 qn_X12 [.null, .null, .null, .null, .null, .null, .null, .null, .null, .int (iI 0), .int (iI 0)] df_X12 (Nat.le_of_ble_eq_true rfl) (Nat.le_of_ble_eq_true rfl) dL_drawn_0 (fun ob H hob hZ => ?_)
  have hW := hW.nG hob.1 hZ
  refine lv_dup hx hb dL_drawn_3 rfl ?_
  refine z_cGv hC (z_frI (rest := [.ref ob]) (As := []) (n := 0) hC hW.g (met_X12_init l D cs (zfA (zup zE ob (.inr (15, [.null, .null, .null, .null, .null, .null, .null, .null, .null, .int (iI 0), .int (iI 0)]))) _) (zup zE ob (.inr (15, [.null, .null, .null, .null, .null, .null, .null, .null, .null, .int (iI 0), .int (iI 0)]))) ob zup_s) qc_X12_init qn_X12 qm_L_184 qi_X12_init rfl he_X12_init rfl hl rfl (Nat.le_of_ble_eq_true rfl) ⟨Nat.le_of_ble_eq_true rfl, Nat.le_of_ble_eq_true rfl⟩ ⟨Nat.le_of_ble_eq_true rfl, Nat.le_of_ble_eq_true rfl⟩ dL_drawn_4) hW (fun G4 H locs hp4 hW => ?_)
  have hG := lG_new hp4
  refine lv_astore_n (lv' := [(1, .ref ob), (0, .ref (cs 98))]) hx hb dL_drawn_7 rfl hl (by decide) rfl (fun ls hl => ?_)
  refine lv_aload_n hx hb dL_drawn_8 rfl (lv_at hl 1 rfl) ?_
  refine z_iconst hx hb dL_drawn_9 ?_
  refine z_cXi hC (z_frS (rest := []) (As := [.ref (cs 98), .int (iI 0)]) (n := 2) hC hW.x (lm_cell l D cs (zfA X _) X 0 (by omega) hL) gs_L_185 he_L_cell rfl hl rfl (Nat.le_of_ble_eq_true rfl) ⟨Nat.le_of_ble_eq_true rfl, Nat.le_of_ble_eq_true rfl⟩ ⟨Nat.le_of_ble_eq_true rfl, Nat.le_of_ble_eq_true rfl⟩ dL_drawn_10) hW (fun r10 X10 H locs hp10 hW => ?_)
  obtain ⟨rfl, rfl⟩ := hp10
  refine z_iconst hx hb dL_drawn_13 ?_
  refine lv_iushr (v := iI ((dC cs 0))) hx hb dL_drawn_14 (iI_ushr _ 1 (by decide)) ?_
  have hbc := dC_b cs 0
  refine lv_istore_n (lv' := [(2, .int (iI (dC cs 0))), (1, .ref ob), (0, .ref (cs 98))]) hx hb dL_drawn_15 rfl hl (by decide) rfl (fun ls hl => ?_)
  refine z_iconst hx hb dL_drawn_16 ?_
  refine lv_iload_n hx hb dL_drawn_17 rfl (lv_at hl 0 rfl) ?_
  refine z_iconst hx hb dL_drawn_18 ?_
  refine z_irem hx hb dL_drawn_19 (by omega) (by omega) ?_
  refine z_iadd hx hb dL_drawn_20 ?_
  refine lv_istore_n (lv' := [(3, .int (iI (1 + ((dC cs 0) % 5)))), (2, .int (iI (dC cs 0))), (1, .ref ob), (0, .ref (cs 98))]) hx hb dL_drawn_21 rfl hl (by decide) rfl (fun ls hl => ?_)
  refine z_iconst hx hb dL_drawn_22 ?_
  refine lv_istore (lv' := [(4, .int (iI 0)), (3, .int (iI (1 + ((dC cs 0) % 5)))), (2, .int (iI (dC cs 0))), (1, .ref ob), (0, .ref (cs 98))]) hx hb dL_drawn_23 hl (by decide) rfl (fun ls hl => ?_)
  have L25_k_1 : ∀ (fu : Nat) (k : Int) (G1 X1 : zF) (N : Nat) (c0 : zCo) (hs : List zCo) (hfu : ((1 + dC cs 0 % 5) - k).toNat < fu) (hi25_0 : 0 ≤ k ∧ k ≤ (1 + dC cs 0 % 5)) (hG : lG cs G1 ob N [] [] [] c0 hs) (hle1 : zle X X1) (hN : N ≤ k) (hdi : dI k.toNat c0) (H : Heap) (locs : List Loc) (hW : zW3 D A s G1 zE X1 H locs) (ls : Array Slot) (hl : lv_has ls 8 [(4, .int (iI k)), (3, .int (iI (1 + ((dC cs 0) % 5)))), (2, .int (iI (dC cs 0))), (1, .ref ob), (0, .ref (cs 98))]), W p l e (zR 20 5600 64000) s m [.ref (cs 98)].toArray below meth c H locs (21 + 900 * k.toNat) (1360 + 11000 * k.toNat) (MQ below (zQ D A (pGR (fun r G1 X1 => zle X X1 ∧ ∃ (N : Nat) (c0 : zCo) (hs : List zCo), lG cs G1 r N [] [] [] c0 hs ∧ N ≤ 12 ∧ dJ (1 + dC cs 0 % 5).toNat 5 c0))) [.ref (cs 98)].toArray s 5600 64000 A) (F0 m 25 ls []) := by
    intro fu
    induction fu with
    | zero =>
      intro k G1 X1 N c0 hs hfu
      exact absurd hfu (Nat.not_lt_zero _)
    | succ fu ih25 =>
      intro k G1 X1 N c0 hs hfu hi25_0 hG hle1 hN hdi H locs hW ls hl
      refine lv_iload hx hb dL_drawn_25 (lv_at hl 0 rfl) ?_
      refine lv_iload_n hx hb dL_drawn_27 rfl (lv_at hl 1 rfl) ?_
      refine z_icmp_ge (tgt := 82) hx hb dL_drawn_28 (by decide) (by omega) (by omega) (fun c_2 => ?_) (fun c_2 => ?_)
      · skip
        refine z_iconst hx hb dL_drawn_82 ?_
        refine lv_iload_n hx hb dL_drawn_83 rfl (lv_at hl 2 rfl) ?_
        refine z_iconst hx hb dL_drawn_84 ?_
        refine lv_iushr (v := iI (((dC cs 0) / 16))) hx hb dL_drawn_85 (iI_ushrN 4 (by decide) (by omega)) ?_
        refine z_bipush hx hb dL_drawn_86 (by decide) ?_
        refine z_irem hx hb dL_drawn_88 (by omega) (by omega) ?_
        refine z_iadd hx hb dL_drawn_89 ?_
        refine lv_istore (lv' := [(4, .int (iI (4 + (((dC cs 0) / 16) % 17)))), (3, .int (iI (1 + ((dC cs 0) % 5)))), (2, .int (iI (dC cs 0))), (1, .ref ob), (0, .ref (cs 98))]) hx hb dL_drawn_90 hl (by decide) rfl (fun ls hl => ?_)
        refine lv_aload_n hx hb dL_drawn_92 rfl (lv_at hl 3 rfl) ?_
        refine lv_iload hx hb dL_drawn_93 (lv_at hl 0 rfl) ?_
        have hsw : sWid c0 (4 + dC cs 0 / 16 % 17) = (0, cWid c0 (4 + dC cs 0 / 16 % 17), cWi c0) := if_pos (by omega)
        refine z_cGi hC (z_frSW (rest := []) (As := [.ref ob, .int (iI (4 + (((dC cs 0) / 16) % 17)))]) (n := 2) hC hW.g (lw_setWidth l D cs (zfA G1 _) G1 ob (4 + (((dC cs 0) / 16) % 17)) N ([] : List Int) ([] : List Int) ([] : List Int) c0 hs hlt hG (by omega) (by omega)) (zgsW qm_L_199 qt_L_setWidth qn_L qc_L_setWidth) he_L_setWidth rfl hl rfl (Nat.le_of_ble_eq_true rfl) ⟨Nat.le_of_ble_eq_true rfl, Nat.le_of_ble_eq_true rfl⟩ ⟨(by show _ ≤ 5600; omega), (by show _ ≤ 64000; omega)⟩ dL_drawn_95) hW (fun r95 G95 H locs hp95 hW => ?_)
        obtain ⟨hG, rfl⟩ := hp95
        have hG : lG cs G95 ob (N + 1) ([] : List Int) ([] : List Int) ([] : List Int) (cWid c0 (4 + dC cs 0 / 16 % 17)) (pushH hs c0) := (by have z9 := hG; rw [hsw] at z9; exact z9)
        refine z_top (y := 12) (by rw [hsw]; exact (wq_0 rfl).trans hdi.2) ?_
        refine z_bipush hx hb dL_drawn_98 (by decide) ?_
        refine z_icmp_ne (tgt := 128) hx hb dL_drawn_100 (by decide) (by decide) (by decide) (fun c_3 => ?_) (fun c_3 => ?_)
        · skip
          exfalso; omega
        · skip
          refine lv_aload_n hx hb dL_drawn_103 rfl (lv_at hl 3 rfl) ?_
          refine z_iconst hx hb dL_drawn_104 ?_
          refine lv_iload_n hx hb dL_drawn_105 rfl (lv_at hl 2 rfl) ?_
          refine z_bipush hx hb dL_drawn_106 (by decide) ?_
          refine lv_iushr (v := iI (((dC cs 0) / 512))) hx hb dL_drawn_108 (iI_ushrN 9 (by decide) (by omega)) ?_
          refine z_iconst hx hb dL_drawn_109 ?_
          refine z_irem hx hb dL_drawn_110 (by omega) (by omega) ?_
          refine z_iadd hx hb dL_drawn_111 ?_
          refine z_iconst hx hb dL_drawn_112 ?_
          refine lv_iload_n hx hb dL_drawn_113 rfl (lv_at hl 2 rfl) ?_
          refine z_bipush hx hb dL_drawn_114 (by decide) ?_
          refine lv_iushr (v := iI (((dC cs 0) / 2048))) hx hb dL_drawn_116 (iI_ushrN 11 (by decide) (by omega)) ?_
          refine z_bipush hx hb dL_drawn_117 (by decide) ?_
          refine z_irem hx hb dL_drawn_119 (by omega) (by omega) ?_
          refine z_iadd hx hb dL_drawn_120 ?_
          have hsp : sPag (cWid c0 (4 + dC cs 0 / 16 % 17)) (1 + dC cs 0 / 512 % 4) (1 + dC cs 0 / 2048 % 20) = (0, cPag (cWid c0 (4 + dC cs 0 / 16 % 17)) (1 + dC cs 0 / 512 % 4) (1 + dC cs 0 / 2048 % 20), (1 + dC cs 0 / 512 % 4) * (1 + dC cs 0 / 2048 % 20)) := if_pos ⟨by omega, by omega⟩
          have hmb := mul_b (x := (1 + dC cs 0 / 512 % 4)) (y := (1 + dC cs 0 / 2048 % 20)) (by omega) (by omega)
          obtain ⟨ab, hab⟩ : ∃ ab : Int, ab = (1 + dC cs 0 / 512 % 4) * (1 + dC cs 0 / 2048 % 20) := ⟨_, rfl⟩
          rw [← hab] at hsp hmb
          refine z_cGi hC (z_frSW (rest := []) (As := [.ref ob, .int (iI (1 + (((dC cs 0) / 512) % 4))), .int (iI (1 + (((dC cs 0) / 2048) % 20)))]) (n := 3) hC hW.g (lw_setPage l D cs (zfA G95 _) G95 ob (1 + (((dC cs 0) / 512) % 4)) (1 + (((dC cs 0) / 2048) % 20)) (N + 1) ([] : List Int) ([] : List Int) ([] : List Int) (cWid c0 (4 + dC cs 0 / 16 % 17)) (pushH hs c0) hlt hG (by omega) (by omega) (by omega)) (zgsW qm_L_201 qt_L_setPage qn_L qc_L_setPage) he_L_setPage rfl hl rfl (Nat.le_of_ble_eq_true rfl) ⟨Nat.le_of_ble_eq_true rfl, Nat.le_of_ble_eq_true rfl⟩ ⟨(by show _ ≤ 5600; omega), (by show _ ≤ 64000; omega)⟩ dL_drawn_121) hW (fun r121 G121 H locs hp121 hW => ?_)
          obtain ⟨hG, rfl⟩ := hp121
          have hG : lG cs G121 ob (N + 1 + 1) ([] : List Int) ([] : List Int) ([] : List Int) (cPag (cWid c0 (4 + dC cs 0 / 16 % 17)) (1 + dC cs 0 / 512 % 4) (1 + dC cs 0 / 2048 % 20)) (pushH (pushH hs c0) (cWid c0 (4 + dC cs 0 / 16 % 17))) := (by have z9 := hG; rw [hsp] at z9; exact z9)
          refine z_top (y := ab) (by rw [hsp]; exact wq_0 rfl) ?_
          refine z_iconst hx hb dL_drawn_124 ?_
          refine z_icmp_ge (tgt := 130) hx hb dL_drawn_125 (by decide) (by omega) (by decide) (fun c_4 => ?_) (fun c_4 => ?_)
          · skip
            refine z_iconst hx hb dL_drawn_130 ?_
            refine lv_istore (lv' := [(5, .int (iI 0)), (4, .int (iI (4 + (((dC cs 0) / 16) % 17)))), (3, .int (iI (1 + ((dC cs 0) % 5)))), (2, .int (iI (dC cs 0))), (1, .ref ob), (0, .ref (cs 98))]) hx hb dL_drawn_131 hl (by decide) rfl (fun ls hl => ?_)
            have L133_k_5 : ∀ (fu : Nat) (j : Int) (G1 X1 : zF) (N : Nat) (tx : List Int) (c0 : zCo) (hs : List zCo) (hfu : (5 - j).toNat < fu) (hi133_0 : 0 ≤ j ∧ j ≤ 5) (hG : lG cs G1 ob N tx [] [] c0 hs) (hle1 : zle X X1) (hN : N ≤ 7 + j) (hdi : dJ (1 + dC cs 0 % 5).toNat j c0) (H : Heap) (locs : List Loc) (hW : zW3 D A s G1 zE X1 H locs) (ls : Array Slot) (hl : lv_has ls 8 [(3, .int (iI (1 + ((dC cs 0) % 5)))), (2, .int (iI (dC cs 0))), (1, .ref ob), (0, .ref (cs 98)), (5, .int (iI j))]), W p l e (zR 20 5600 64000) s m [.ref (cs 98)].toArray below meth c H locs (4560 + 160 * j.toNat) (56700 + 1300 * j.toNat) (MQ below (zQ D A (pGR (fun r G1 X1 => zle X X1 ∧ ∃ (N : Nat) (c0 : zCo) (hs : List zCo), lG cs G1 r N [] [] [] c0 hs ∧ N ≤ 12 ∧ dJ (1 + dC cs 0 % 5).toNat 5 c0))) [.ref (cs 98)].toArray s 5600 64000 A) (F0 m 133 ls []) := by
              intro fu
              induction fu with
              | zero =>
                intro j G1 X1 N tx c0 hs hfu
                exact absurd hfu (Nat.not_lt_zero _)
              | succ fu ih133 =>
                intro j G1 X1 N tx c0 hs hfu hi133_0 hG hle1 hN hdi H locs hW ls hl
                refine lv_iload hx hb dL_drawn_133 (lv_at hl 4 rfl) ?_
                refine z_iconst hx hb dL_drawn_135 ?_
                refine z_icmp_ge (tgt := 244) hx hb dL_drawn_136 (by decide) (by omega) (by decide) (fun c_6 => ?_) (fun c_6 => ?_)
                · skip
                  refine lv_aload_n hx hb dL_drawn_244 rfl (lv_at hl 2 rfl) ?_
                  obtain ⟨⟨g, sa, so, hL, sv, er, fa, hg⟩, hK, hh8, hhs, htz, ht60, hin, hN9⟩ := id hG
                  obtain ⟨cap, hso⟩ := hg.2.2.2.2.1
                  have hwi := hK.2.2.2.2.2.2.2.2.1
                  refine z_cGi hC (z_frV (rest := []) (As := []) (n := 0) (ci := 15) hC hW.g (met_X12_clearText l D cs (zfA G1 _) G1 ob g sa so hL tx ([] : List Int) ([] : List Int) c0 sv hs er fa hg) gv_L_155 hd_X12_clearText rfl hg.1 rfl hl rfl (Nat.le_of_ble_eq_true rfl) ⟨Nat.le_of_ble_eq_true rfl, Nat.le_of_ble_eq_true rfl⟩ ⟨(by show _ ≤ 5600; omega), (by show _ ≤ 64000; omega)⟩ dL_drawn_245) hW (fun r245 G245 H locs hp245 hW => ?_)
                  obtain ⟨rfl, hg1⟩ := hp245
                  have hG : lG cs G245 ob N ([] : List Int) ([] : List Int) ([] : List Int) c0 hs := ⟨⟨g, sa, so, hL, sv, er, fa, hg1⟩, hK, hh8, hhs, fun _ h => absurd h List.not_mem_nil, Nat.zero_le _, hin, hN9⟩
                  refine z_if_ge (tgt := 255) hx hb dL_drawn_248 (by decide) (by omega) (fun c_7 => ?_) (fun c_7 => ?_)
                  · skip
                    refine lv_aload_n hx hb dL_drawn_255 rfl (lv_at hl 2 rfl) ?_
                    exact z_aretG hC hr (Or.inl ⟨_, rfl⟩) hlk hW (by omega) (by omega) (⟨hle1, N, c0, hs, hG, by omega, by rw [show j = 5 by omega] at hdi; exact hdi⟩) dL_drawn_256
                  · skip
                    exfalso; omega
                · skip
                  refine lv_aload_n hx hb dL_drawn_139 rfl (lv_at hl 3 rfl) ?_
                  refine z_bipush hx hb dL_drawn_140 (by decide) ?_
                  refine lv_iload hx hb dL_drawn_142 (lv_at hl 4 rfl) ?_
                  refine z_iadd hx hb dL_drawn_144 ?_
                  refine z_cXi hC (z_frS (rest := []) (As := [.ref (cs 98), .int (iI (7 + j))]) (n := 2) hC hW.x (lm_cell l D cs (zfA X1 _) X1 (7 + j) (by omega) hL) gs_L_185 he_L_cell rfl hl rfl (Nat.le_of_ble_eq_true rfl) ⟨Nat.le_of_ble_eq_true rfl, Nat.le_of_ble_eq_true rfl⟩ ⟨(by show _ ≤ 5600; omega), (by show _ ≤ 64000; omega)⟩ dL_drawn_145) hW (fun r145 X145 H locs hp145 hW => ?_)
                  obtain ⟨rfl, rfl⟩ := hp145
                  refine z_iconst hx hb dL_drawn_148 ?_
                  refine lv_iushr (v := iI ((dC cs (7 + j)))) hx hb dL_drawn_149 (iI_ushr _ 1 (by decide)) ?_
                  have hbj := dC_b cs (7 + j)
                  refine lv_istore (lv' := [(6, .int (iI (dC cs (7 + j)))), (3, .int (iI (1 + ((dC cs 0) % 5)))), (2, .int (iI (dC cs 0))), (1, .ref ob), (0, .ref (cs 98)), (5, .int (iI j))]) hx hb dL_drawn_150 hl (by decide) rfl (fun ls hl => ?_)
                  refine lv_iload hx hb dL_drawn_152 (lv_at hl 0 rfl) ?_
                  refine z_iconst hx hb dL_drawn_154 ?_
                  refine z_irem hx hb dL_drawn_155 (by omega) (by omega) ?_
                  refine z_if_ne (tgt := 166) hx hb dL_drawn_156 (by decide) (by omega) (fun c_8 => ?_) (fun c_8 => ?_)
                  · skip
                    refine lv_iload hx hb dL_drawn_166 (lv_at hl 0 rfl) ?_
                    refine z_iconst hx hb dL_drawn_168 ?_
                    refine z_irem hx hb dL_drawn_169 (by omega) (by omega) ?_
                    refine z_iconst hx hb dL_drawn_170 ?_
                    refine z_icmp_ne (tgt := 189) hx hb dL_drawn_171 (by decide) (by omega) (by decide) (fun c_9 => ?_) (fun c_9 => ?_)
                    · skip
                      refine lv_iload hx hb dL_drawn_189 (lv_at hl 0 rfl) ?_
                      refine z_iconst hx hb dL_drawn_191 ?_
                      refine z_irem hx hb dL_drawn_192 (by omega) (by omega) ?_
                      refine z_if_eq (tgt := 210) hx hb dL_drawn_193 (by decide) (by omega) (fun c_10 => ?_) (fun c_10 => ?_)
                      · skip
                        refine lv_aload_n hx hb dL_drawn_210 rfl (lv_at hl 3 rfl) ?_
                        obtain ⟨⟨g, sa, so, hL, sv, er, fa, hg⟩, hK, hh8, hhs, htz, ht60, hin, hN9⟩ := id hG
                        obtain ⟨cap, hso⟩ := hg.2.2.2.2.1
                        have hwi := hK.2.2.2.2.2.2.2.2.1
                        refine z_cGi hC (z_frV (rest := []) (As := []) (n := 0) (ci := 15) hC hW.g (met_X12_clearText l D cs (zfA G1 _) G1 ob g sa so hL tx ([] : List Int) ([] : List Int) c0 sv hs er fa hg) gv_L_155 hd_X12_clearText rfl hg.1 rfl hl rfl (Nat.le_of_ble_eq_true rfl) ⟨Nat.le_of_ble_eq_true rfl, Nat.le_of_ble_eq_true rfl⟩ ⟨(by show _ ≤ 5600; omega), (by show _ ≤ 64000; omega)⟩ dL_drawn_211) hW (fun r211 G211 H locs hp211 hW => ?_)
                        obtain ⟨rfl, hg1⟩ := hp211
                        have hG : lG cs G211 ob N ([] : List Int) ([] : List Int) ([] : List Int) c0 hs := ⟨⟨g, sa, so, hL, sv, er, fa, hg1⟩, hK, hh8, hhs, fun _ h => absurd h List.not_mem_nil, Nat.zero_le _, hin, hN9⟩
                        refine lv_goto (tgt := 228) hx hb dL_drawn_214 (by decide) ?_
                        refine lv_istore (lv' := [(7, .int (iI (tx.length : Int))), (6, .int (iI (dC cs (7 + j)))), (3, .int (iI (1 + ((dC cs 0) % 5)))), (2, .int (iI (dC cs 0))), (1, .ref ob), (0, .ref (cs 98)), (5, .int (iI j))]) hx hb dL_drawn_228 hl (by decide) rfl (fun ls hl => ?_)
                        refine lv_iload hx hb dL_drawn_230 (lv_at hl 0 rfl) ?_
                        refine z_iconst hx hb dL_drawn_232 ?_
                        refine z_icmp_ne (tgt := 238) hx hb dL_drawn_233 (by decide) (by omega) (by decide) (fun c_11 => ?_) (fun c_11 => ?_)
                        · skip
                          refine z_iinc (lv' := [(5, .int (iI (j + 1))), (7, .int (iI (tx.length : Int))), (6, .int (iI (dC cs (7 + j)))), (3, .int (iI (1 + ((dC cs 0) % 5)))), (2, .int (iI (dC cs 0))), (1, .ref ob), (0, .ref (cs 98))]) hx hb dL_drawn_238 hl (k := 6) rfl (by decide) rfl (fun ls hl => ?_)
                          refine lv_goto (tgt := 133) hx hb dL_drawn_241 (by decide) ?_
                          refine W.widen (k := (4560 + 160 * (j + 1).toNat)) (n := (56700 + 1300 * (j + 1).toNat)) (by omega) (by omega) ?_
                          exact ih133 (j + 1) G211 X1 N ([] : List Int) c0 hs (by omega) (by omega) hG hle1 (by omega) (dJ_mono hdi (by omega)) _ _ hW ls (lv_sub hl [3, 4, 5, 6, 0] rfl)
                        · skip
                          exfalso; omega
                      · skip
                        refine lv_aload_n hx hb dL_drawn_196 rfl (lv_at hl 3 rfl) ?_
                        refine lv_iload hx hb dL_drawn_197 (lv_at hl 0 rfl) ?_
                        refine z_iconst hx hb dL_drawn_199 ?_
                        refine lv_iushr (v := iI (((dC cs (7 + j)) / 8))) hx hb dL_drawn_200 (iI_ushrN 3 (by decide) (by omega)) ?_
                        refine z_cXr hC (z_frS (rest := [.ref ob]) (As := [.int (iI ((dC cs (7 + j)) / 8))]) (n := 1) hC hW.x (lm_drawnWord l D cs (zfA X1 _) X1 ((dC cs (7 + j)) / 8) (by omega)) gs_L_178 he_L_drawnWord rfl hl rfl (Nat.le_of_ble_eq_true rfl) ⟨Nat.le_of_ble_eq_true rfl, Nat.le_of_ble_eq_true rfl⟩ ⟨(by show _ ≤ 5600; omega), (by show _ ≤ 64000; omega)⟩ dL_drawn_201) hW (fun r201 X201 H locs hp201 hW => ?_)
                        obtain ⟨hl201, hd201⟩ := hp201
                        obtain ⟨v201, t201, hq201, hh201, hn201, hw201⟩ := hd201
                        have hle_12 : zle X X201 := hle1.trans hl201
                        refine z_cGXi hC (z_frS (rest := []) (As := [.ref ob, .ref r201]) (n := 2) hC hW.gx (lm_types l D cs (zfA (zun G1 X201) _) G1 X201 ob N tx ([] : List Int) ([] : List Int) c0 hs r201 v201 t201 hW.dgx hlt hG hq201 (by omega) (zlet_2 hw201)) gs_L_192 he_L_types rfl hl rfl (Nat.le_of_ble_eq_true rfl) ⟨Nat.le_of_ble_eq_true rfl, Nat.le_of_ble_eq_true rfl⟩ ⟨(by show _ ≤ 5600; omega), (by show _ ≤ 64000; omega)⟩ dL_drawn_204) hW (fun r204 G204 X204 H locs hp204 hW => ?_)
                        obtain ⟨rfl, hG, rfl⟩ := hp204
                        refine z_if_ne (tgt := 217) hx hb dL_drawn_207 (by decide) (by decide) (fun c_13 => ?_) (fun c_13 => ?_)
                        · skip
                          refine lv_aload_n hx hb dL_drawn_217 rfl (lv_at hl 3 rfl) ?_
                          refine lv_iload hx hb dL_drawn_218 (lv_at hl 0 rfl) ?_
                          refine z_iconst hx hb dL_drawn_220 ?_
                          refine lv_iushr (v := iI (((dC cs (7 + j)) / 32))) hx hb dL_drawn_221 (iI_ushrN 5 (by decide) (by omega)) ?_
                          refine lv_iload_n hx hb dL_drawn_222 rfl (lv_at hl 1 rfl) ?_
                          refine z_irem hx hb dL_drawn_223 (by omega) (by omega) ?_
                          refine z_iconst hx hb dL_drawn_224 ?_
                          have hme0 : 0 ≤ (dC cs (7 + j)) / 32 % (1 + dC cs 0 % 5) := Int.emod_nonneg _ (by omega)
                          have hme1 := Int.emod_lt_of_pos ((dC cs (7 + j)) / 32) (show 0 < (1 + dC cs 0 % 5) by omega)
                          obtain ⟨c1, z1, hcq, hdq, hz1⟩ := dJ_cor (x := (dC cs (7 + j)) / 32 % (1 + dC cs 0 % 5)) (w := t201) hG.k hdi (by omega) hw201 (by omega)
                          refine z_cGi hC (z_frSW (rest := []) (As := [.ref ob, .int (iI (((dC cs (7 + j)) / 32) % (1 + ((dC cs 0) % 5)))), .int (iI 0)]) (n := 3) hC hW.g (lw_correct l D cs (zfA G204 _) G204 ob (((dC cs (7 + j)) / 32) % (1 + ((dC cs 0) % 5))) 0 N t201 ([] : List Int) ([] : List Int) c0 hs hlt hG (by omega) (by decide) (by omega)) (zgsW qm_L_210 qt_L_correct qn_L qc_L_correct) he_L_correct rfl hl rfl (Nat.le_of_ble_eq_true rfl) ⟨Nat.le_of_ble_eq_true rfl, Nat.le_of_ble_eq_true rfl⟩ ⟨(by show _ ≤ 5600; omega), (by show _ ≤ 64000; omega)⟩ dL_drawn_225) hW (fun r225 G225 H locs hp225 hW => ?_)
                          obtain ⟨hG, rfl⟩ := hp225
                          have hG : lG cs G225 ob (N + 1) ([] : List Int) ([] : List Int) ([] : List Int) c1 (pushH hs c0) := (by have z9 := hG; rw [hcq] at z9; exact z9)
                          refine z_top (y := z1) (by rw [hcq]; exact wq_0 rfl) ?_
                          refine lv_istore (lv' := [(7, .int (iI z1)), (6, .int (iI (dC cs (7 + j)))), (3, .int (iI (1 + ((dC cs 0) % 5)))), (2, .int (iI (dC cs 0))), (1, .ref ob), (0, .ref (cs 98)), (5, .int (iI j))]) hx hb dL_drawn_228 hl (by decide) rfl (fun ls hl => ?_)
                          refine lv_iload hx hb dL_drawn_230 (lv_at hl 0 rfl) ?_
                          refine z_iconst hx hb dL_drawn_232 ?_
                          refine z_icmp_ne (tgt := 238) hx hb dL_drawn_233 (by decide) (by omega) (by decide) (fun c_14 => ?_) (fun c_14 => ?_)
                          · skip
                            refine z_iinc (lv' := [(5, .int (iI (j + 1))), (7, .int (iI z1)), (6, .int (iI (dC cs (7 + j)))), (3, .int (iI (1 + ((dC cs 0) % 5)))), (2, .int (iI (dC cs 0))), (1, .ref ob), (0, .ref (cs 98))]) hx hb dL_drawn_238 hl (k := 6) rfl (by decide) rfl (fun ls hl => ?_)
                            refine lv_goto (tgt := 133) hx hb dL_drawn_241 (by decide) ?_
                            refine W.widen (k := (4560 + 160 * (j + 1).toNat)) (n := (56700 + 1300 * (j + 1).toNat)) (by omega) (by omega) ?_
                            exact ih133 (j + 1) G225 X201 (N + 1) ([] : List Int) c1 (pushH hs c0) (by omega) (by omega) hG hle_12 (by omega) (dJ_mono hdq (by omega)) _ _ hW ls (lv_sub hl [3, 4, 5, 6, 0] rfl)
                          · skip
                            exfalso; omega
                        · skip
                          exfalso; omega
                    · skip
                      refine lv_aload_n hx hb dL_drawn_174 rfl (lv_at hl 3 rfl) ?_
                      refine z_iconst hx hb dL_drawn_175 ?_
                      refine lv_iload hx hb dL_drawn_176 (lv_at hl 0 rfl) ?_
                      refine z_iconst hx hb dL_drawn_178 ?_
                      refine lv_iushr (v := iI (((dC cs (7 + j)) / 16))) hx hb dL_drawn_179 (iI_ushrN 4 (by decide) (by omega)) ?_
                      refine z_iconst hx hb dL_drawn_180 ?_
                      refine z_irem hx hb dL_drawn_181 (by omega) (by omega) ?_
                      refine z_iadd hx hb dL_drawn_182 ?_
                      have hdq := dJ_day (d := 1 + (dC cs (7 + j)) / 16 % 3) hdi (by omega)
                      obtain ⟨zl, hzl⟩ : ∃ zl : Int, zl = zlost (cDa c0) (1 + (dC cs (7 + j)) / 16 % 3) (cIs c0) := ⟨_, rfl⟩
                      rw [← hzl] at hdq
                      have hki := hG.k.2.1
                      refine z_cGi hC (z_frSW (rest := []) (As := [.ref ob, .int (iI (1 + (((dC cs (7 + j)) / 16) % 3)))]) (n := 2) hC hW.g (lw_pass l D cs (zfA G1 _) G1 ob (1 + (((dC cs (7 + j)) / 16) % 3)) N tx ([] : List Int) ([] : List Int) c0 hs hlt hG (by omega) (by omega)) (zgsW qm_L_207 qt_L_pass qn_L qc_L_pass) he_L_pass rfl hl rfl (Nat.le_of_ble_eq_true rfl) ⟨Nat.le_of_ble_eq_true rfl, Nat.le_of_ble_eq_true rfl⟩ ⟨(by show _ ≤ 5600; omega), (by show _ ≤ 64000; omega)⟩ dL_drawn_183) hW (fun r183 G183 H locs hp183 hW => ?_)
                      obtain ⟨hG, rfl⟩ := hp183
                      have hG : lG cs G183 ob (N + 1) tx ([] : List Int) ([] : List Int) (cDay c0 (1 + (dC cs (7 + j)) / 16 % 3)) (pushH hs c0) := (by have z9 := hG; rw [hdq.1] at z9; exact z9)
                      refine z_top (y := zl) (by rw [hdq.1]; exact wq_0 rfl) ?_
                      have hnn := hdq.2.2
                      refine lv_goto (tgt := 228) hx hb dL_drawn_186 (by decide) ?_
                      refine lv_istore (lv' := [(7, .int (iI zl)), (6, .int (iI (dC cs (7 + j)))), (3, .int (iI (1 + ((dC cs 0) % 5)))), (2, .int (iI (dC cs 0))), (1, .ref ob), (0, .ref (cs 98)), (5, .int (iI j))]) hx hb dL_drawn_228 hl (by decide) rfl (fun ls hl => ?_)
                      refine lv_iload hx hb dL_drawn_230 (lv_at hl 0 rfl) ?_
                      refine z_iconst hx hb dL_drawn_232 ?_
                      refine z_icmp_ne (tgt := 238) hx hb dL_drawn_233 (by decide) (by omega) (by decide) (fun c_15 => ?_) (fun c_15 => ?_)
                      · skip
                        refine z_iinc (lv' := [(5, .int (iI (j + 1))), (7, .int (iI zl)), (6, .int (iI (dC cs (7 + j)))), (3, .int (iI (1 + ((dC cs 0) % 5)))), (2, .int (iI (dC cs 0))), (1, .ref ob), (0, .ref (cs 98))]) hx hb dL_drawn_238 hl (k := 6) rfl (by decide) rfl (fun ls hl => ?_)
                        refine lv_goto (tgt := 133) hx hb dL_drawn_241 (by decide) ?_
                        refine W.widen (k := (4560 + 160 * (j + 1).toNat)) (n := (56700 + 1300 * (j + 1).toNat)) (by omega) (by omega) ?_
                        exact ih133 (j + 1) G183 X1 (N + 1) tx (cDay c0 (1 + (dC cs (7 + j)) / 16 % 3)) (pushH hs c0) (by omega) (by omega) hG hle1 (by omega) (dJ_mono hdq.2.1 (by omega)) _ _ hW ls (lv_sub hl [3, 4, 5, 6, 0] rfl)
                      · skip
                        exfalso; omega
                  · skip
                    refine lv_aload_n hx hb dL_drawn_159 rfl (lv_at hl 3 rfl) ?_
                    have hpq := dJ_prt hdi (by omega)
                    refine z_cGi hC (z_frSW (rest := []) (As := [.ref ob]) (n := 1) hC hW.g (lw_prints l D cs (zfA G1 _) G1 ob  N tx ([] : List Int) ([] : List Int) c0 hs hlt hG (by omega)) (zgsW qm_L_204 qt_L_prints qn_L qc_L_prints) he_L_prints rfl hl rfl (Nat.le_of_ble_eq_true rfl) ⟨Nat.le_of_ble_eq_true rfl, Nat.le_of_ble_eq_true rfl⟩ ⟨(by show _ ≤ 5600; omega), (by show _ ≤ 64000; omega)⟩ dL_drawn_160) hW (fun r160 G160 H locs hp160 hW => ?_)
                    obtain ⟨hG, rfl⟩ := hp160
                    have hG : lG cs G160 ob (N + 1) tx ([] : List Int) ([] : List Int) (cPrt c0) (pushH hs c0) := (by have z9 := hG; rw [hpq.1] at z9; exact z9)
                    refine z_top (y := cNn c0) (by rw [hpq.1]; exact wq_0 rfl) ?_
                    have hnn := hdi.2.2.2.2
                    refine lv_goto (tgt := 228) hx hb dL_drawn_163 (by decide) ?_
                    refine lv_istore (lv' := [(7, .int (iI (cNn c0))), (6, .int (iI (dC cs (7 + j)))), (3, .int (iI (1 + ((dC cs 0) % 5)))), (2, .int (iI (dC cs 0))), (1, .ref ob), (0, .ref (cs 98)), (5, .int (iI j))]) hx hb dL_drawn_228 hl (by decide) rfl (fun ls hl => ?_)
                    refine lv_iload hx hb dL_drawn_230 (lv_at hl 0 rfl) ?_
                    refine z_iconst hx hb dL_drawn_232 ?_
                    refine z_icmp_ne (tgt := 238) hx hb dL_drawn_233 (by decide) (by omega) (by decide) (fun c_16 => ?_) (fun c_16 => ?_)
                    · skip
                      refine z_iinc (lv' := [(5, .int (iI (j + 1))), (7, .int (iI (cNn c0))), (6, .int (iI (dC cs (7 + j)))), (3, .int (iI (1 + ((dC cs 0) % 5)))), (2, .int (iI (dC cs 0))), (1, .ref ob), (0, .ref (cs 98))]) hx hb dL_drawn_238 hl (k := 6) rfl (by decide) rfl (fun ls hl => ?_)
                      refine lv_goto (tgt := 133) hx hb dL_drawn_241 (by decide) ?_
                      refine W.widen (k := (4560 + 160 * (j + 1).toNat)) (n := (56700 + 1300 * (j + 1).toNat)) (by omega) (by omega) ?_
                      exact ih133 (j + 1) G160 X1 (N + 1) tx (cPrt c0) (pushH hs c0) (by omega) (by omega) hG hle1 (by omega) (hpq.2) _ _ hW ls (lv_sub hl [3, 4, 5, 6, 0] rfl)
                    · skip
                      exfalso; omega
            refine W.widen (k := (4560 + 160 * (0 : Int).toNat)) (n := (56700 + 1300 * (0 : Int).toNat)) (by omega) (by omega) ?_
            exact L133_k_5 _ 0 G121 X1 (N + 1 + 1) ([] : List Int) (cPag (cWid c0 (4 + dC cs 0 / 16 % 17)) (1 + dC cs 0 / 512 % 4) (1 + dC cs 0 / 2048 % 20)) (pushH (pushH hs c0) (cWid c0 (4 + dC cs 0 / 16 % 17))) (Nat.lt_succ_self _) (by omega) hG hle1 (by omega) (by have z9 := hdi.1; rw [show k = (1 + dC cs 0 % 5) by omega] at z9; exact z9) _ _ hW ls (lv_sub hl [2, 3, 4, 5, 0] rfl)
          · skip
            exfalso; omega
      · skip
        refine lv_aload_n hx hb dL_drawn_31 rfl (lv_at hl 4 rfl) ?_
        refine z_iconst hx hb dL_drawn_32 ?_
        refine lv_iload hx hb dL_drawn_33 (lv_at hl 0 rfl) ?_
        refine z_iadd hx hb dL_drawn_35 ?_
        refine z_cXi hC (z_frS (rest := []) (As := [.ref (cs 98), .int (iI (1 + k))]) (n := 2) hC hW.x (lm_cell l D cs (zfA X1 _) X1 (1 + k) (by omega) hL) gs_L_185 he_L_cell rfl hl rfl (Nat.le_of_ble_eq_true rfl) ⟨Nat.le_of_ble_eq_true rfl, Nat.le_of_ble_eq_true rfl⟩ ⟨(by show _ ≤ 5600; omega), (by show _ ≤ 64000; omega)⟩ dL_drawn_36) hW (fun r36 X36 H locs hp36 hW => ?_)
        obtain ⟨rfl, rfl⟩ := hp36
        refine z_iconst hx hb dL_drawn_39 ?_
        refine lv_iushr (v := iI ((dC cs (1 + k)))) hx hb dL_drawn_40 (iI_ushr _ 1 (by decide)) ?_
        have hbk := dC_b cs (1 + k)
        refine lv_istore (lv' := [(5, .int (iI (dC cs (1 + k)))), (4, .int (iI k)), (3, .int (iI (1 + ((dC cs 0) % 5)))), (2, .int (iI (dC cs 0))), (1, .ref ob), (0, .ref (cs 98))]) hx hb dL_drawn_41 hl (by decide) rfl (fun ls hl => ?_)
        refine lv_aload_n hx hb dL_drawn_43 rfl (lv_at hl 4 rfl) ?_
        refine lv_iload hx hb dL_drawn_44 (lv_at hl 0 rfl) ?_
        refine z_cXr hC (z_frS (rest := [.ref ob]) (As := [.int (iI (dC cs (1 + k)))]) (n := 1) hC hW.x (lm_drawnText l D cs (zfA X1 _) X1 (dC cs (1 + k)) (by omega)) gs_L_189 he_L_drawnText rfl hl rfl (Nat.le_of_ble_eq_true rfl) ⟨Nat.le_of_ble_eq_true rfl, Nat.le_of_ble_eq_true rfl⟩ ⟨(by show _ ≤ 5600; omega), (by show _ ≤ 64000; omega)⟩ dL_drawn_46) hW (fun r46 X46 H locs hp46 hW => ?_)
        obtain ⟨hl46, hd46⟩ := hp46
        obtain ⟨v46, t46, hq46, htx46⟩ := hd46
        have hle_17 : zle X X46 := hle1.trans hl46
        refine z_cGXi hC (z_frS (rest := []) (As := [.ref ob, .ref r46]) (n := 2) hC hW.gx (lm_types l D cs (zfA (zun G1 X46) _) G1 X46 ob N ([] : List Int) ([] : List Int) ([] : List Int) c0 hs r46 v46 t46 hW.dgx hlt hG hq46 htx46.2.1 htx46.2.2.1) gs_L_192 he_L_types rfl hl rfl (Nat.le_of_ble_eq_true rfl) ⟨Nat.le_of_ble_eq_true rfl, Nat.le_of_ble_eq_true rfl⟩ ⟨(by show _ ≤ 5600; omega), (by show _ ≤ 64000; omega)⟩ dL_drawn_49) hW (fun r49 G49 X49 H locs hp49 hW => ?_)
        obtain ⟨rfl, hG, rfl⟩ := hp49
        refine z_if_eq (tgt := 74) hx hb dL_drawn_52 (by decide) (by decide) (fun c_18 => ?_) (fun c_18 => ?_)
        · skip
          exfalso; omega
        · skip
          refine lv_aload_n hx hb dL_drawn_55 rfl (lv_at hl 4 rfl) ?_
          refine z_iconst hx hb dL_drawn_56 ?_
          refine lv_iload hx hb dL_drawn_57 (lv_at hl 0 rfl) ?_
          refine z_bipush hx hb dL_drawn_59 (by decide) ?_
          refine lv_iushr (v := iI (((dC cs (1 + k)) / 128))) hx hb dL_drawn_61 (iI_ushrN 7 (by decide) (by omega)) ?_
          refine z_bipush hx hb dL_drawn_62 (by decide) ?_
          refine z_irem hx hb dL_drawn_64 (by omega) (by omega) ?_
          refine z_iadd hx hb dL_drawn_65 ?_
          have hsa : sAdd c0 (1 + (dC cs (1 + k)) / 128 % 9) t46 = (0, cAdd c0 (1 + (dC cs (1 + k)) / 128 % 9) (zsp t46), cNi c0) := sAdd_0 (by omega) (by rw [hdi.1.1]; omega) htx46.2.2.2.1
          have hni := hdi.1.2.2.2.1
          have hz9 := htx46.2.2.2.2
          refine z_cGi hC (z_frSW (rest := []) (As := [.ref ob, .int (iI (1 + (((dC cs (1 + k)) / 128) % 9)))]) (n := 2) hC hW.g (lw_addArticle l D cs (zfA G49 _) G49 ob (1 + (((dC cs (1 + k)) / 128) % 9)) N t46 ([] : List Int) ([] : List Int) c0 hs hlt hG (by omega) (by omega)) (zgsW qm_L_196 qt_L_addArticle qn_L qc_L_addArticle) he_L_addArticle rfl hl rfl (Nat.le_of_ble_eq_true rfl) ⟨Nat.le_of_ble_eq_true rfl, Nat.le_of_ble_eq_true rfl⟩ ⟨(by show _ ≤ 5600; omega), (by show _ ≤ 64000; omega)⟩ dL_drawn_66) hW (fun r66 G66 H locs hp66 hW => ?_)
          obtain ⟨hG, rfl⟩ := hp66
          have hG : lG cs G66 ob (N + 1) ([] : List Int) ([] : List Int) ([] : List Int) (cAdd c0 (1 + (dC cs (1 + k)) / 128 % 9) (zsp t46)) (pushH hs c0) := (by have z9 := hG; rw [hsa] at z9; exact z9)
          refine z_top (y := k) (by rw [hsa]; exact (wq_0 rfl).trans (by show cNi c0 = k; omega)) ?_
          refine lv_iload hx hb dL_drawn_69 (lv_at hl 1 rfl) ?_
          refine z_icmp_eq (tgt := 76) hx hb dL_drawn_71 (by decide) (by omega) (by omega) (fun c_19 => ?_) (fun c_19 => ?_)
          · skip
            refine z_iinc (lv' := [(4, .int (iI (k + 1))), (5, .int (iI (dC cs (1 + k)))), (3, .int (iI (1 + ((dC cs 0) % 5)))), (2, .int (iI (dC cs 0))), (1, .ref ob), (0, .ref (cs 98))]) hx hb dL_drawn_76 hl (k := 1) rfl (by decide) rfl (fun ls hl => ?_)
            refine lv_goto (tgt := 25) hx hb dL_drawn_79 (by decide) ?_
            refine W.widen (k := (21 + 900 * (k + 1).toNat)) (n := (1360 + 11000 * (k + 1).toNat)) (by omega) (by omega) ?_
            exact ih25 (k + 1) G66 X46 (N + 1) (cAdd c0 (1 + (dC cs (1 + k)) / 128 % 9) (zsp t46)) (pushH hs c0) (by omega) (by omega) hG hle_17 (by omega) (by rw [show (k + 1).toNat = k.toNat + 1 by omega]; exact dI_add hdi (by omega)) _ _ hW ls (lv_sub hl [0, 2, 3, 4, 5] rfl)
          · skip
            exfalso; omega
  refine W.widen (k := (21 + 900 * (0 : Int).toNat)) (n := (1360 + 11000 * (0 : Int).toNat)) (by omega) (by omega) ?_
  exact L25_k_1 _ 0 G4 X 0 cNew ([] : List zCo) (Nat.lt_succ_self _) (by omega) hG zle.refl (by omega) dI_0 _ _ hW ls (lv_sub hl [0, 1, 2, 3, 4] rfl)

