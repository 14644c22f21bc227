theorem bSt.mono {cs : Nat → ClassId} {F F1 : zF} {a la ra li ri : Nat} {c : zCo} (h : bSt cs F a la ra li ri c) (hl : zle F F1) : bSt cs F1 a la ra li ri c := by
  obtain ⟨aL, iL, h1, h2, h3, h4, h5, h6⟩ := h
  exact ⟨aL, iL, hl _ _ h1, h2.mono hl, h3.mono hl, h4.mono hl, h5.mono hl, h6⟩
theorem gMl_J {g : Nat → Nat} {ob : Nat} {J : List Nat} (hJ : ∀ j, j ∈ J → j < 16) : ∀ o, o ∈ J.map g → o ∈ gMl g ob := fun o ho => by
  obtain ⟨j, h1, h2⟩ := List.mem_map.mp ho
  rw [← h2]; exact gMl_g (hJ j h1)
theorem zsf_one (t : List Int) : zbl t = 0 → zsf t = ([], t) := by
  refine snoc_ind (P := fun t => zbl t = 0 → zsf t = ([], t)) (fun _ => rfl) (fun l x ih h => ?_) t
  have h1 : zbl (l ++ [x]) = zbl l + ((if x = 32 then 1 else 0 : Nat) : Int) := by
    unfold zbl
    rw [List.countP_append]
    by_cases q : x = 32
    · simp [q]
    · simp [q]
  have h2 := (zbl_le l).1
  by_cases q : x = 32
  · rw [if_pos q] at h1; omega
  · rw [if_neg q] at h1
    rw [zsf_snoc, if_neg q, ih (by omega)]
theorem zsp_one {t : List Int} (h : zbl t = 0) : zsp t = [t] := by
  unfold zsp; rw [zsf_one t h]; rfl
theorem zone_iff (t : List Int) : (1 ≤ t.length ∧ t.length ≤ 12 ∧ zbl t = 0) ↔ (zatB t = true ∧ (zsp t).length = 1) := by
  constructor
  · intro h
    rw [zatB_iff, zsp_one h.2.2]
    exact ⟨fun w hw => by rw [zsp_one h.2.2] at hw; rw [List.mem_singleton.mp hw]; exact ⟨h.1, h.2.1⟩, rfl⟩
  · intro h
    have h1 := zsp_bl t
    have h2 : zbl t = 0 := by omega
    have h3 := (zatB_iff t).mp h.1 t (by rw [zsp_one h2]; exact List.mem_singleton.mpr rfl)
    exact ⟨h3.1, h3.2, h2⟩
theorem zfa_ix2 {l : List zAr} {x : Int} {a : zAr} (h : zfa l x = some a) : ∃ i : Nat, zix l x = some i ∧ l[i]? = some a := by
  cases hz : zix l x with
  | none => rw [zfa_none hz] at h; cases h
  | some i =>
    have hz2 := List.of_findIdx?_eq_some (xs := l) (p := fun a => a.1 == x) hz
    refine ⟨i, rfl, ?_⟩
    cases hg : l[i]? with
    | none => rw [hg] at hz2; cases hz2
    | some b => rw [zfa_ix hz hg] at h; exact h
theorem zix_none {l : List zAr} {x : Int} (h : zfa l x = none) : zix l x = none := by
  cases hz : zix l x with
  | none => rfl
  | some i =>
    have hz2 := List.of_findIdx?_eq_some (xs := l) (p := fun a => a.1 == x) hz
    cases hg : l[i]? with
    | none => rw [hg] at hz2; cases hz2
    | some b => rw [zfa_ix hz hg] at h; cases h
theorem sCor_1 {c : zCo} {x z : Int} {tx : List Int} (h : zfa (cAr c) x = none) : sCor c x z tx = (1, c, 0) := by unfold sCor; rw [zix_none h]
theorem sCor_2 {c : zCo} {x z : Int} {tx : List Int} (h : ∃ y : zAr, zfa (cAr c) x = some y ∧ zwd y z = none) : sCor c x z tx = (2, c, 0) := by
  obtain ⟨y, h1, h2⟩ := h
  obtain ⟨i, h3, h4⟩ := zfa_ix2 h1
  unfold sCor; rw [h3]; simp only []; rw [h4]; simp only []; rw [h2]
theorem sCor_3 {c : zCo} {x z : Int} {tx : List Int} {y : zAr} {wd : zWd} (h1 : zfa (cAr c) x = some y) (h2 : zwd y z = some wd) (h : ¬ (1 ≤ tx.length ∧ tx.length ≤ 12 ∧ zbl tx = 0)) : sCor c x z tx = (3, c, 0) := by
  obtain ⟨i, h3, h4⟩ := zfa_ix2 h1
  unfold sCor; rw [h3]; simp only []; rw [h4]; simp only []; rw [h2]; simp only []; rw [if_neg (fun q => h ((zone_iff tx).mpr q))]
theorem sCor_0 {c : zCo} {x z : Int} {tx : List Int} {y : zAr} {wd : zWd} {i : Nat} (h3 : zix (cAr c) x = some i) (h4 : (cAr c)[i]? = some y) (h2 : zwd y z = some wd) (h : 1 ≤ tx.length ∧ tx.length ≤ 12 ∧ zbl tx = 0) : sCor c x z tx = (0, cCor c i y z.toNat tx (zlate c x), (wd.length : Int)) := by
  unfold sCor; rw [h3]; simp only []; rw [h4]; simp only []; rw [h2]; simp only []; rw [if_pos ((zone_iff tx).mp h), zsp_one h.2.2]; rfl
theorem zwd_in {a : zAr} {w : Int} {wd : zWd} (h : zwd a w = some wd) : 0 ≤ w ∧ w < (a.2.2.length : Int) := by
  unfold zwd at h
  by_cases q : 0 ≤ w
  · rw [if_pos q] at h
    obtain ⟨h1, -⟩ := List.getElem?_eq_some_iff.mp h
    omega
  · rw [if_neg q] at h; cases h
theorem zwd_OK {a : zAr} {ni w : Int} {wd : zWd} (hk : arOK ni a) (h : zwd a w = some wd) : wdOK wd := by
  unfold zwd at h
  by_cases q : 0 ≤ w
  · rw [if_pos q] at h
    exact hk.2.2.2 wd (List.mem_of_getElem? h)
  · rw [if_neg q] at h; cases h
set_option maxHeartbeats 4000000 in
set_option maxRecDepth 100000 in
theorem met_X12_addArticle (l : Launch) (D : va_G) (cs : Nat → ClassId) (A : Nat → Prop) (F : zF) (ob : Nat) (g : Nat → Nat) (sa : Nat) (so : Option Nat) (hL : List Nat) (tx inp out : List Int) (c0 : zCo) (sv : Option zCo) (hs : List zCo) (er fa : Int) (x : Int) (N : Nat) (hlt : l.stackTraces = false)  (hg : gOb cs F ob g sa so hL tx inp out c0 sv hs er fa) (hx0 : InR x) (htz : zlt2 tx) (hK : cOK N c0) (hN : N ≤ 900) (hh8 : hs.length ≤ 8) : zXM l D cs A yX12_addArticle cX12_addArticle 4 (some FieldType.int) 9 108 990 [.ref ob, .int (iI x)] F (pI (fun r F1 => (sAdd c0 x tx).1 = 0 ∧ (sAdd c0 x tx).2.2 = r ∧ ∃ (g1 : Nat → Nat) (sa1 : Nat) (hL1 : List Nat), gOb cs F1 ob g1 sa1 so hL1 [] inp out (sAdd c0 x tx).2.1 sv (pushH hs c0) er fa)) (fun E F1 => gOb cs F1 ob g sa so hL tx inp out c0 sv hs er fa ∧ (((sAdd c0 x tx).1 = 1 ∧ E = "java/lang/IllegalArgumentException") ∨ ((sAdd c0 x tx).1 = 2 ∧ E = "java/lang/IllegalStateException") ∨ ((sAdd c0 x tx).1 = 3 ∧ E = "java/lang/UnsupportedOperationException"))) := by
  refine zX_of (own := RX12) (by decide) rfl (Nat.le_of_ble_eq_true rfl) ?_
  intro p e s m below meth c hC hr hlk hT hZ ls hl
  have hx := hC.x
  have hb := hC.b
  have hl : lv_has ls 4 [(0, .ref ob), (1, .int (iI x))] := hl
  have h0 : F ob = some (.inr (15, [.ref (g 0), .ref (g 2), .ref (g 4), .ref (g 6), .ref (g 9), .ref (g 11), .ref (g 14), .ref sa, va_rf so, .int (iI er), .int (iI fa)])) := hg.1
  have hs1 := hg.st
  have h8 := z_c8 hC hZ
  obtain ⟨-, hDis, hTx, hI, ⟨cap, hO⟩, ⟨wd0, st0, hLs⟩, ⟨hE1, e0, hE2⟩, ⟨pos0, L0, hR1, hR2⟩, hH, hSt⟩ := id hg
  obtain ⟨la, li, aL, iL, h9, ⟨ra, hla⟩, ⟨ri, hli⟩, has, his⟩ := id hs1
  have haL := has.1
  have hiL := his.1
  have ha10 := oL_10 hla
  have hi10 := oL_10 hli
  obtain ⟨fT, oTx, -, hl60, -⟩ := id hTx
  have hni : 0 ≤ cNi c0 ∧ cNi c0 < 999999 := by have := hK.2.2.2.2.2.2.1; omega
  have h66 := hK.1
  refine lv_iload_n hx hb dX12_addArticle_0 rfl (lv_at hl 1 rfl) ?_
  refine z_iconst hx hb dX12_addArticle_1 ?_
  refine z_icmp_lt (tgt := 11) hx hb dX12_addArticle_2 (by decide) (by omega) (by decide) (fun c_1 => ?_) (fun c_1 => ?_)
  · skip
    exact z_throw (rest := []) hC hZ hlt hT hlk zth_e0 zth_g0 zth_o0 zth_k0 zth_i0 (by decide) (List.mem_of_getElem? (i := 2) rfl) hl (Nat.le_of_ble_eq_true rfl) (Nat.le_of_ble_eq_true rfl) (Nat.le_of_ble_eq_true rfl) (Nat.le_of_ble_eq_true rfl) (Nat.le_of_ble_eq_true rfl) (Nat.le_of_ble_eq_true rfl) (⟨hg, Or.inl ⟨by rw [sAdd_1 (by omega)], rfl⟩⟩) dX12_addArticle_11 dX12_addArticle_14 dX12_addArticle_15 dX12_addArticle_17 dX12_addArticle_20
  · skip
    refine lv_iload_n hx hb dX12_addArticle_5 rfl (lv_at hl 1 rfl) ?_
    refine z_bipush hx hb dX12_addArticle_6 (by decide) ?_
    refine z_icmp_le (tgt := 21) hx hb dX12_addArticle_8 (by decide) (by omega) (by decide) (fun c_2 => ?_) (fun c_2 => ?_)
    · skip
      refine lv_aload_n hx hb dX12_addArticle_21 rfl (lv_at hl 0 rfl) ?_
      refine z_get (T := TX12) (N := 11) (ci := 15) (k := 7) (fs := [.ref (g 0), .ref (g 2), .ref (g 4), .ref (g 6), .ref (g 9), .ref (g 11), .ref (g 14), .ref sa, va_rf so, .int (iI er), .int (iI fa)]) (v := .ref sa) hC hZ in_X12 rfl (by decide) ql_X12_59 rfl h0 rfl dX12_addArticle_22 ?_
      refine z_getN (T := TX10) (N := 9) (ci := 13) (k := 0) (fs := [.ref la, .ref li, .int (iI (cNi c0)), .int (iI (cNn c0)), .int (iI (cWi c0)), .int (iI (cCo c0)), .int (iI (cHe c0)), .int (iI (cDa c0)), .int (iI (cLa c0))]) (v := .ref la) hC hZ in_X10 rfl (by decide) ql_X12_98 rfl h9 rfl dX12_addArticle_25 ?_
      obtain ⟨fsho_3, ho_3⟩ := (hla).o
      refine z_calli (z_runV (rest := []) (As := []) (n := 0) (ci := 4) hC hZ (met_Jx4a65c_size_8abf5 l D cs A F la ra aL hla) gv_X12_101 hd_Jx4a65c_size_8abf5 rfl ho_3 rfl hl rfl (Nat.le_of_ble_eq_true rfl) ⟨Nat.le_of_ble_eq_true rfl, Nat.le_of_ble_eq_true rfl⟩ ⟨Nat.le_of_ble_eq_true rfl, Nat.le_of_ble_eq_true rfl⟩ dX12_addArticle_28) hZ (fun r28 F28 H locs hp28_c_4 hZ => ?_)
      obtain ⟨rfl, rfl⟩ := hp28_c_4
      refine z_bipush hx hb dX12_addArticle_31 (by decide) ?_
      refine z_icmp_lt (tgt := 46) hx hb dX12_addArticle_33 (by decide) (by omega) (by decide) (fun c_5 => ?_) (fun c_5 => ?_)
      · skip
        refine lv_aload_n hx hb dX12_addArticle_46 rfl (lv_at hl 0 rfl) ?_
        refine z_get (T := TX12) (N := 11) (ci := 15) (k := 0) (fs := [.ref (g 0), .ref (g 2), .ref (g 4), .ref (g 6), .ref (g 9), .ref (g 11), .ref (g 14), .ref sa, va_rf so, .int (iI er), .int (iI fa)]) (v := .ref (g 0)) hC hZ in_X12 rfl (by decide) ql_X12_14 rfl h0 rfl dX12_addArticle_47 ?_
        refine z_calli (z_runV (rest := []) (As := []) (n := 0) (ci := 6) hC hZ (met_X2_holdsWords l D cs A F (g 0) (g 1) tx hTx) gv_X12_106 hd_X2_holdsWords rfl oTx rfl hl rfl (Nat.le_of_ble_eq_true rfl) ⟨Nat.le_of_ble_eq_true rfl, Nat.le_of_ble_eq_true rfl⟩ ⟨Nat.le_of_ble_eq_true rfl, Nat.le_of_ble_eq_true rfl⟩ dX12_addArticle_50) hZ (fun r50 F50 H locs hp50_c_6 hZ => ?_)
        obtain ⟨rfl, hw50⟩ := hp50_c_6
        refine z_if_ne (tgt := 66) hx hb dX12_addArticle_53 (by decide) (by omega) (fun c_7 => ?_) (fun c_7 => ?_)
        · skip
          have hz50 : zat tx := hw50.elim (fun z => z.1) (fun z => absurd z.2 (by omega))
          refine lv_aload_n hx hb dX12_addArticle_66 rfl (lv_at hl 0 rfl) ?_
          refine z_get (T := TX12) (N := 11) (ci := 15) (k := 7) (fs := [.ref (g 0), .ref (g 2), .ref (g 4), .ref (g 6), .ref (g 9), .ref (g 11), .ref (g 14), .ref sa, va_rf so, .int (iI er), .int (iI fa)]) (v := .ref sa) hC hZ in_X12 rfl (by decide) ql_X12_59 rfl h0 rfl dX12_addArticle_67 ?_
          refine z_callr (z_runV (rest := []) (As := []) (n := 0) (ci := 13) hC hZ (met_X10_copied l D cs A F sa c0 hs1 hK.1 hK.2.1) gv_X12_115 hd_X10_copied rfl h9 rfl hl rfl (Nat.le_of_ble_eq_true rfl) ⟨Nat.le_of_ble_eq_true rfl, Nat.le_of_ble_eq_true rfl⟩ ⟨Nat.le_of_ble_eq_true rfl, Nat.le_of_ble_eq_true rfl⟩ dX12_addArticle_70) hZ (fun r70 F70 H locs hp70_c_8 hZ => ?_)
          obtain ⟨hle70, lb, rb, lj, rj, n1, n2, n3, n4, n5, hb70⟩ := hp70_c_8
          have hg70 := hg.le hle70
          have h070 : F70 ob = some (.inr (15, [.ref (g 0), .ref (g 2), .ref (g 4), .ref (g 6), .ref (g 9), .ref (g 11), .ref (g 14), .ref sa, va_rf so, .int (iI er), .int (iI fa)])) := hg70.1
          have hs170 := hg70.st
          have h870 := z_c8 hC hZ
          obtain ⟨aN70, iN70, hN70, -⟩ := id hb70
          obtain ⟨fT70, oT70, -⟩ := id hg70.2.2.1
          have h6 : (cAr c0).length < 6 := by omega
          have hxo : arOK 1000000 (cNi c0, x, zsp tx) := ⟨⟨hni.1, by show cNi c0 < 1000000; omega⟩, ⟨by show 1 ≤ x; omega, by show x ≤ 9; omega⟩, zat_30 hz50 hl60, fun w hw => by
            obtain ⟨i, hi⟩ := List.getElem?_of_mem hw
            exact zsp_wdOK hz50 htz hi⟩
          refine lv_astore_n (lv' := [(2, .ref r70), (0, .ref ob), (1, .int (iI x))]) hx hb dX12_addArticle_73 rfl hl (by decide) rfl (fun ls hl => ?_)
          refine lv_aload_n hx hb dX12_addArticle_74 rfl (lv_at hl 0 rfl) ?_
          refine lv_iload_n hx hb dX12_addArticle_75 rfl (lv_at hl 2 rfl) ?_
          refine lv_aload_n hx hb dX12_addArticle_76 rfl (lv_at hl 1 rfl) ?_
          refine z_get (T := TX12) (N := 11) (ci := 15) (k := 0) (fs := [.ref (g 0), .ref (g 2), .ref (g 4), .ref (g 6), .ref (g 9), .ref (g 11), .ref (g 14), .ref sa, va_rf so, .int (iI er), .int (iI fa)]) (v := .ref (g 0)) hC hZ in_X12 rfl (by decide) ql_X12_14 rfl h070 rfl dX12_addArticle_77 ?_
          refine z_callr (z_runV (rest := [.int (iI x), .ref r70]) (As := []) (n := 0) (ci := 6) hC hZ (met_X2_cutIntoWords l D cs A F70 (g 0) (g 1) tx hg70.2.2.1 hz50 htz) gv_X12_119 hd_X2_cutIntoWords rfl oT70 rfl hl rfl (Nat.le_of_ble_eq_true rfl) ⟨Nat.le_of_ble_eq_true rfl, Nat.le_of_ble_eq_true rfl⟩ ⟨Nat.le_of_ble_eq_true rfl, Nat.le_of_ble_eq_true rfl⟩ dX12_addArticle_80) hZ (fun r80 F80 H locs hp80_c_9 hZ => ?_)
          obtain ⟨hle80, n80, hws80⟩ := hp80_c_9
          have hb80 := hb70.mono hle80
          obtain ⟨aN80, iN80, hN80, -⟩ := id hb80
          have h080 : F80 ob = _ := hle80 _ _ h070
          have hlz80 := hle70.trans hle80
          refine z_calli (z_runV (rest := []) (As := [.int (iI x), .ref r80]) (n := 2) (ci := 13) hC hZ (met_X10_takeArticle l D cs A F80 r70 lb rb lj rj c0 x r80 (zsp tx) hb80 hws80 hni hxo h6) gv_X12_123 hd_X10_takeArticle rfl hN80 rfl hl rfl (Nat.le_of_ble_eq_true rfl) ⟨Nat.le_of_ble_eq_true rfl, Nat.le_of_ble_eq_true rfl⟩ ⟨Nat.le_of_ble_eq_true rfl, Nat.le_of_ble_eq_true rfl⟩ dX12_addArticle_83) hZ (fun r83 F83 H locs hp83_c_10 hZ => ?_)
          obtain ⟨rfl, rb83, hk83, ha83, hb83⟩ := hp83_c_10
          have hle83 : zle F F83 := hlz80.kod hk83 (znn1 n1 (znn1 n2 (znn1 n3 znn0)))
          have hg83 := hg.le hle83
          have h083 : F83 ob = some (.inr (15, [.ref (g 0), .ref (g 2), .ref (g 4), .ref (g 6), .ref (g 9), .ref (g 11), .ref (g 14), .ref sa, va_rf so, .int (iI er), .int (iI fa)])) := hg83.1
          have hs183 := hg83.st
          have h883 := z_c8 hC hZ
          have n383 : F rb83 = none := ha83.elim (fun z => by rw [z]; exact n3) (fun z => hlz80.nn z)
          have hnx83 := hg.nst hg83 hC.c54 h883 hb83 n1 n2 n4 n383 n5
          obtain ⟨fT83, oT83, -⟩ := id hg83.2.2.1
          refine lv_istore_n (lv' := [(3, .int (iI (cNi c0))), (2, .ref r70), (0, .ref ob), (1, .int (iI x))]) hx hb dX12_addArticle_86 rfl hl (by decide) rfl (fun ls hl => ?_)
          refine lv_aload_n hx hb dX12_addArticle_87 rfl (lv_at hl 2 rfl) ?_
          refine z_get (T := TX12) (N := 11) (ci := 15) (k := 0) (fs := [.ref (g 0), .ref (g 2), .ref (g 4), .ref (g 6), .ref (g 9), .ref (g 11), .ref (g 14), .ref sa, va_rf so, .int (iI er), .int (iI fa)]) (v := .ref (g 0)) hC hZ in_X12 rfl (by decide) ql_X12_14 rfl h083 rfl dX12_addArticle_88 ?_
          refine z_calli (z_runV (rest := []) (As := []) (n := 0) (ci := 6) hC hZ (met_X2_empty l D cs A F83 (g 0) (g 1) tx hg83.2.2.1) gv_X12_92 hd_X2_empty rfl oT83 rfl hl rfl (Nat.le_of_ble_eq_true rfl) ⟨Nat.le_of_ble_eq_true rfl, Nat.le_of_ble_eq_true rfl⟩ ⟨Nat.le_of_ble_eq_true rfl, Nat.le_of_ble_eq_true rfl⟩ dX12_addArticle_91) hZ (fun r91 F91 H locs hp91_c_11 hZ => ?_)
          obtain ⟨hr91, hk91, hb91⟩ := hp91_c_11
          have hg91 := hg83.sT h883 hk91 hb91
          have h091 : F91 ob = some (.inr (15, [.ref (g 0), .ref (g 2), .ref (g 4), .ref (g 6), .ref (g 9), .ref (g 11), .ref (g 14), .ref sa, va_rf so, .int (iI er), .int (iI fa)])) := hg91.1
          have hs191 := hg91.st
          have h891 := z_c8 hC hZ
          have hnx91 := hnx83.mono (hg83.mon (J := [0, 1]) (a := 0) (by decide) hk91 (by decide) (Or.inl rfl))
          rw [gup_id] at hnx91
          refine lv_pop hx hb dX12_addArticle_94 rfl ?_
          refine lv_aload_n hx hb dX12_addArticle_95 rfl (lv_at hl 2 rfl) ?_
          refine lv_aload_n hx hb dX12_addArticle_96 rfl (lv_at hl 1 rfl) ?_
          refine z_callv (z_runV (rest := []) (As := [.ref r70]) (n := 1) (ci := 15) hC hZ (met_X12_become l D cs A F91 ob g sa so hL [] inp out c0 sv hs er fa r70 (cAdd c0 x (zsp tx)) hg91 hnx91 hh8) gv_X12_127 hd_X12_become rfl h091 rfl hl rfl (Nat.le_of_ble_eq_true rfl) ⟨Nat.le_of_ble_eq_true rfl, Nat.le_of_ble_eq_true rfl⟩ ⟨Nat.le_of_ble_eq_true rfl, Nat.le_of_ble_eq_true rfl⟩ dX12_addArticle_97) hZ (fun F97 H locs hp97_c_12 hZ => ?_)
          obtain ⟨hk97, g1, hL1, hg97⟩ := hp97_c_12
          have h097 : F97 ob = some (.inr (15, [.ref (g1 0), .ref (g1 2), .ref (g1 4), .ref (g1 6), .ref (g1 9), .ref (g1 11), .ref (g1 14), .ref r70, va_rf so, .int (iI er), .int (iI fa)])) := hg97.1
          have hs197 := hg97.st
          have h897 := z_c8 hC hZ
          refine lv_iload_n hx hb dX12_addArticle_100 rfl (lv_at hl 0 rfl) ?_
          refine vx_ret ?_
          exact z_iret hC hr hlk hZ (by decide) (by decide) (⟨by rw [sAdd_0 (by omega) (by omega) hz50], by rw [sAdd_0 (by omega) (by omega) hz50], g1, r70, hL1, by rw [sAdd_0 (by omega) (by omega) hz50]; exact hg97⟩) dX12_addArticle_101
        · skip
          have hz50 : ¬ zat tx := hw50.elim (fun z => absurd z.2 (by omega)) (fun z => z.1)
          exact z_throw (rest := []) hC hZ hlt hT hlk zth_e2 zth_g2 zth_o2 zth_k2 zth_i2 (by decide) (List.mem_of_getElem? (i := 4) rfl) hl (Nat.le_of_ble_eq_true rfl) (Nat.le_of_ble_eq_true rfl) (Nat.le_of_ble_eq_true rfl) (Nat.le_of_ble_eq_true rfl) (Nat.le_of_ble_eq_true rfl) (Nat.le_of_ble_eq_true rfl) (⟨hg, Or.inr (Or.inr ⟨by rw [sAdd_3 (by omega) (by omega) hz50], rfl⟩)⟩) dX12_addArticle_56 dX12_addArticle_59 dX12_addArticle_60 dX12_addArticle_62 dX12_addArticle_65
      · skip
        exact z_throw (rest := []) hC hZ hlt hT hlk zth_e1 zth_g1 zth_o1 zth_k1 zth_i1 (by decide) (List.mem_of_getElem? (i := 3) rfl) hl (Nat.le_of_ble_eq_true rfl) (Nat.le_of_ble_eq_true rfl) (Nat.le_of_ble_eq_true rfl) (Nat.le_of_ble_eq_true rfl) (Nat.le_of_ble_eq_true rfl) (Nat.le_of_ble_eq_true rfl) (⟨hg, Or.inr (Or.inl ⟨by rw [sAdd_2 (by omega) (by omega)], rfl⟩)⟩) dX12_addArticle_36 dX12_addArticle_39 dX12_addArticle_40 dX12_addArticle_42 dX12_addArticle_45
    · skip
      exact z_throw (rest := []) hC hZ hlt hT hlk zth_e0 zth_g0 zth_o0 zth_k0 zth_i0 (by decide) (List.mem_of_getElem? (i := 2) rfl) hl (Nat.le_of_ble_eq_true rfl) (Nat.le_of_ble_eq_true rfl) (Nat.le_of_ble_eq_true rfl) (Nat.le_of_ble_eq_true rfl) (Nat.le_of_ble_eq_true rfl) (Nat.le_of_ble_eq_true rfl) (⟨hg, Or.inl ⟨by rw [sAdd_1 (by omega)], rfl⟩⟩) dX12_addArticle_11 dX12_addArticle_14 dX12_addArticle_15 dX12_addArticle_17 dX12_addArticle_20

set_option maxHeartbeats 4000000 in
set_option maxRecDepth 100000 in
theorem met_X12_correct (l : Launch) (D : va_G) (cs : Nat → ClassId) (A : Nat → Prop) (F : zF) (ob : Nat) (g : Nat → Nat) (sa : Nat) (so : Option Nat) (hL : List Nat) (tx inp out : List Int) (c0 : zCo) (sv : Option zCo) (hs : List zCo) (er fa : Int) (x z : Int) (N : Nat) (hlt : l.stackTraces = false)  (hg : gOb cs F ob g sa so hL tx inp out c0 sv hs er fa) (hx0 : InR x) (hz0 : InR z) (htz : zlt2 tx) (hK : cOK N c0) (hN : N ≤ 900) (hh8 : hs.length ≤ 8) : zXM l D cs A yX12_correct cX12_correct 5 (some FieldType.int) 9 24 210 [.ref ob, .int (iI x), .int (iI z)] F (pI (fun r F1 => (sCor c0 x z tx).1 = 0 ∧ (sCor c0 x z tx).2.2 = r ∧ ∃ (g1 : Nat → Nat) (sa1 : Nat) (hL1 : List Nat), gOb cs F1 ob g1 sa1 so hL1 [] inp out (sCor c0 x z tx).2.1 sv (pushH hs c0) er fa)) (fun E F1 => gOb cs F1 ob g sa so hL tx inp out c0 sv hs er fa ∧ (((sCor c0 x z tx).1 = 1 ∧ E = "java/util/NoSuchElementException") ∨ ((sCor c0 x z tx).1 = 2 ∧ E = "java/lang/IndexOutOfBoundsException") ∨ ((sCor c0 x z tx).1 = 3 ∧ E = "java/lang/UnsupportedOperationException"))) := by
  refine zX_of (own := RX12) (by decide) rfl (Nat.le_of_ble_eq_true rfl) ?_
  intro p e s m below meth c hC hr hlk hT hZ ls hl
  have hx := hC.x
  have hb := hC.b
  have hl : lv_has ls 5 [(0, .ref ob), (1, .int (iI x)), (2, .int (iI z))] := hl
  have h0 : F ob = some (.inr (15, [.ref (g 0), .ref (g 2), .ref (g 4), .ref (g 6), .ref (g 9), .ref (g 11), .ref (g 14), .ref sa, va_rf so, .int (iI er), .int (iI fa)])) := hg.1
  have hs1 := hg.st
  have h8 := z_c8 hC hZ
  obtain ⟨-, hDis, hTx, hI, ⟨cap, hO⟩, ⟨wd0, st0, hLs⟩, ⟨hE1, e0, hE2⟩, ⟨pos0, L0, hR1, hR2⟩, hH, hSt⟩ := id hg
  obtain ⟨la, li, aL, iL, h9, ⟨ra, hla⟩, ⟨ri, hli⟩, has, his⟩ := id hs1
  have haL := has.1
  have hiL := his.1
  have ha10 := oL_10 hla
  have hi10 := oL_10 hli
  obtain ⟨fT, oTx, -, hl60, -⟩ := id hTx
  have hla0 : 0 ≤ cLa c0 ∧ cLa c0 ≤ 1000000 := by have := hK.2.2.2.2.2.2.2.2.2.2.2.2; omega
  refine lv_aload_n hx hb dX12_correct_0 rfl (lv_at hl 0 rfl) ?_
  refine lv_iload_n hx hb dX12_correct_1 rfl (lv_at hl 1 rfl) ?_
  refine lv_iload_n hx hb dX12_correct_2 rfl (lv_at hl 2 rfl) ?_
  refine z_xcallr (z_xrunV (rest := []) (As := [.int (iI x), .int (iI z)]) (n := 2) (ci := 15) hC hZ (met_X12_knownWord l D cs A F ob g sa so er fa c0 x z hlt h0 hs1 hx0 hz0) gv_X12_140 hd_X12_knownWord rfl h0 rfl hl rfl (Nat.le_of_ble_eq_true rfl) ⟨Nat.le_of_ble_eq_true rfl, Nat.le_of_ble_eq_true rfl⟩ ⟨Nat.le_of_ble_eq_true rfl, Nat.le_of_ble_eq_true rfl⟩ dX12_correct_3) hZ hT hlk (Nat.le_of_ble_eq_true rfl) (Nat.le_of_ble_eq_true rfl) (fun E F1 q => ⟨by rw [← q.1]; exact hg, q.2.elim (fun y => Or.inl ⟨by rw [sCor_1 y.1], y.2⟩) (fun y => Or.inr (Or.inl ⟨by rw [sCor_2 y.1], y.2⟩))⟩) (fun r3 F3 H locs hp3_c_1 hZ => ?_)
  obtain ⟨rfl, y3, wd3, hz3, hw3, ho3⟩ := hp3_c_1
  refine lv_astore_n (lv' := [(3, .ref r3), (0, .ref ob), (1, .int (iI x)), (2, .int (iI z))]) hx hb dX12_correct_6 rfl hl (by decide) rfl (fun ls hl => ?_)
  refine lv_aload_n hx hb dX12_correct_7 rfl (lv_at hl 1 rfl) ?_
  refine z_get (T := TX12) (N := 11) (ci := 15) (k := 0) (fs := [.ref (g 0), .ref (g 2), .ref (g 4), .ref (g 6), .ref (g 9), .ref (g 11), .ref (g 14), .ref sa, va_rf so, .int (iI er), .int (iI fa)]) (v := .ref (g 0)) hC hZ in_X12 rfl (by decide) ql_X12_14 rfl h0 rfl dX12_correct_8 ?_
  refine z_calli (z_runV (rest := []) (As := []) (n := 0) (ci := 6) hC hZ (met_X2_holdsOneWord l D cs A F (g 0) (g 1) tx hTx) gv_X12_144 hd_X2_holdsOneWord rfl oTx rfl hl rfl (Nat.le_of_ble_eq_true rfl) ⟨Nat.le_of_ble_eq_true rfl, Nat.le_of_ble_eq_true rfl⟩ ⟨Nat.le_of_ble_eq_true rfl, Nat.le_of_ble_eq_true rfl⟩ dX12_correct_11) hZ (fun r11 F11 H locs hp11_c_2 hZ => ?_)
  obtain ⟨rfl, hw11⟩ := hp11_c_2
  refine z_if_ne (tgt := 27) hx hb dX12_correct_14 (by decide) (by omega) (fun c_3 => ?_) (fun c_3 => ?_)
  · skip
    have hw11 : 1 ≤ tx.length ∧ tx.length ≤ 12 ∧ zbl tx = 0 := hw11.elim (fun z => z.1) (fun z => absurd z.2 (by omega))
    refine lv_aload_n hx hb dX12_correct_27 rfl (lv_at hl 1 rfl) ?_
    refine z_get (T := TX12) (N := 11) (ci := 15) (k := 7) (fs := [.ref (g 0), .ref (g 2), .ref (g 4), .ref (g 6), .ref (g 9), .ref (g 11), .ref (g 14), .ref sa, va_rf so, .int (iI er), .int (iI fa)]) (v := .ref sa) hC hZ in_X12 rfl (by decide) ql_X12_59 rfl h0 rfl dX12_correct_28 ?_
    refine z_callr (z_runV (rest := []) (As := []) (n := 0) (ci := 13) hC hZ (met_X10_copied l D cs A F sa c0 hs1 hK.1 hK.2.1) gv_X12_115 hd_X10_copied rfl h9 rfl hl rfl (Nat.le_of_ble_eq_true rfl) ⟨Nat.le_of_ble_eq_true rfl, Nat.le_of_ble_eq_true rfl⟩ ⟨Nat.le_of_ble_eq_true rfl, Nat.le_of_ble_eq_true rfl⟩ dX12_correct_31) hZ (fun r31 F31 H locs hp31_c_4 hZ => ?_)
    obtain ⟨hle31, lb, rb, lj, rj, n1, n2, n3, n4, n5, hb31⟩ := hp31_c_4
    have hg31 := hg.le hle31
    have h031 : F31 ob = some (.inr (15, [.ref (g 0), .ref (g 2), .ref (g 4), .ref (g 6), .ref (g 9), .ref (g 11), .ref (g 14), .ref sa, va_rf so, .int (iI er), .int (iI fa)])) := hg31.1
    have hs131 := hg31.st
    have h831 := z_c8 hC hZ
    obtain ⟨aN31, iN31, hN31, -⟩ := id hb31
    obtain ⟨fT31, oT31, -⟩ := id hg31.2.2.1
    obtain ⟨i3, hix3, hge3⟩ := zfa_ix2 hz3
    have hgd3 : (cAr c0).getD i3 (0, 0, []) = y3 := by rw [List.getD_eq_getElem?_getD, hge3]; rfl
    have hy3 : 0 ≤ z ∧ z < (((cAr c0).getD i3 (0, 0, [])).2.2.length : Int) := by rw [hgd3]; exact zwd_in hw3
    have hzt3 := (zone_iff tx).mp hw11
    have hok3 : wdOK tx := zsp_wdOK ((zatB_iff tx).mp hzt3.1) htz (i := 0) (by rw [zsp_one hw11.2.2]; rfl)
    refine lv_astore (lv' := [(4, .ref r31), (3, .ref r3), (0, .ref ob), (1, .int (iI x)), (2, .int (iI z))]) hx hb dX12_correct_34 hl (by decide) rfl (fun ls hl => ?_)
    refine lv_aload hx hb dX12_correct_36 (lv_at hl 0 rfl) ?_
    refine lv_iload_n hx hb dX12_correct_38 rfl (lv_at hl 3 rfl) ?_
    refine lv_iload_n hx hb dX12_correct_39 rfl (lv_at hl 4 rfl) ?_
    refine lv_aload_n hx hb dX12_correct_40 rfl (lv_at hl 2 rfl) ?_
    refine z_get (T := TX12) (N := 11) (ci := 15) (k := 0) (fs := [.ref (g 0), .ref (g 2), .ref (g 4), .ref (g 6), .ref (g 9), .ref (g 11), .ref (g 14), .ref sa, va_rf so, .int (iI er), .int (iI fa)]) (v := .ref (g 0)) hC hZ in_X12 rfl (by decide) ql_X12_14 rfl h031 rfl dX12_correct_41 ?_
    refine z_iconst hx hb dX12_correct_44 ?_
    refine lv_aload_n hx hb dX12_correct_45 rfl (lv_at hl 2 rfl) ?_
    refine z_get (T := TX12) (N := 11) (ci := 15) (k := 0) (fs := [.ref (g 0), .ref (g 2), .ref (g 4), .ref (g 6), .ref (g 9), .ref (g 11), .ref (g 14), .ref sa, va_rf so, .int (iI er), .int (iI fa)]) (v := .ref (g 0)) hC hZ in_X12 rfl (by decide) ql_X12_14 rfl h031 rfl dX12_correct_46 ?_
    refine z_getN (T := TX2) (N := 2) (ci := 6) (k := 1) (fs := [.ref (g 1), .int (iI (tx.length : Int))]) (v := .int (iI (tx.length : Int))) hC hZ in_X2 rfl (by decide) ql_X12_89 rfl oT31 rfl dX12_correct_49 ?_
    refine z_callr (z_runV (rest := [.int (iI z), .int (iI x), .ref r31]) (As := [.int (iI 0), .int (iI (tx.length : Int))]) (n := 2) (ci := 6) hC hZ (met_X2_wordBetween l D cs A F31 (g 0) (g 1) tx 0 (tx.length : Int) tx hg31.2.2.1 ⟨by omega, by omega, by omega⟩ (by omega) (fun k _ _ => by rw [Int.zero_add]) hok3) gv_X12_149 hd_X2_wordBetween rfl oT31 rfl hl rfl (Nat.le_of_ble_eq_true rfl) ⟨Nat.le_of_ble_eq_true rfl, Nat.le_of_ble_eq_true rfl⟩ ⟨Nat.le_of_ble_eq_true rfl, Nat.le_of_ble_eq_true rfl⟩ dX12_correct_52) hZ (fun r52 F52 H locs hp52_c_5 hZ => ?_)
    obtain ⟨hle52, n52, hwd52⟩ := hp52_c_5
    have hb52 := hb31.mono hle52
    obtain ⟨aN52, iN52, hN52, -⟩ := id hb52
    have h052 : F52 ob = _ := hle52 _ _ h031
    have hlz52 := hle31.trans hle52
    refine z_callv (z_runV (rest := []) (As := [.int (iI x), .int (iI z), .ref r52]) (n := 3) (ci := 13) hC hZ (met_X10_replaceWord l D cs A F52 r31 lb rb lj rj c0 x z r52 tx i3 hb52 hx0 hix3 hy3 hwd52 hla0) gv_X12_152 hd_X10_replaceWord rfl hN52 rfl hl rfl (Nat.le_of_ble_eq_true rfl) ⟨Nat.le_of_ble_eq_true rfl, Nat.le_of_ble_eq_true rfl⟩ ⟨Nat.le_of_ble_eq_true rfl, Nat.le_of_ble_eq_true rfl⟩ dX12_correct_55) hZ (fun F55 H locs hp55_c_6 hZ => ?_)
    obtain ⟨hk55, hb55⟩ := hp55_c_6
    rw [hgd3] at hb55
    have hle55 : zle F F55 := hlz52.kod hk55 (znn1 n1 (znn1 n2 (znn1 n3 znn0)))
    have hg55 := hg.le hle55
    have h055 : F55 ob = some (.inr (15, [.ref (g 0), .ref (g 2), .ref (g 4), .ref (g 6), .ref (g 9), .ref (g 11), .ref (g 14), .ref sa, va_rf so, .int (iI er), .int (iI fa)])) := hg55.1
    have hs155 := hg55.st
    have h855 := z_c8 hC hZ
    have hnx55 := hg.nst hg55 hC.c54 h855 hb55 n1 n2 n4 n3 n5
    have ho55 := ho3.mono hle55
    obtain ⟨fT55, oT55, -⟩ := id hg55.2.2.1
    refine lv_aload_n hx hb dX12_correct_58 rfl (lv_at hl 2 rfl) ?_
    refine z_get (T := TX12) (N := 11) (ci := 15) (k := 0) (fs := [.ref (g 0), .ref (g 2), .ref (g 4), .ref (g 6), .ref (g 9), .ref (g 11), .ref (g 14), .ref sa, va_rf so, .int (iI er), .int (iI fa)]) (v := .ref (g 0)) hC hZ in_X12 rfl (by decide) ql_X12_14 rfl h055 rfl dX12_correct_59 ?_
    refine z_calli (z_runV (rest := []) (As := []) (n := 0) (ci := 6) hC hZ (met_X2_empty l D cs A F55 (g 0) (g 1) tx hg55.2.2.1) gv_X12_92 hd_X2_empty rfl oT55 rfl hl rfl (Nat.le_of_ble_eq_true rfl) ⟨Nat.le_of_ble_eq_true rfl, Nat.le_of_ble_eq_true rfl⟩ ⟨Nat.le_of_ble_eq_true rfl, Nat.le_of_ble_eq_true rfl⟩ dX12_correct_62) hZ (fun r62 F62 H locs hp62_c_7 hZ => ?_)
    obtain ⟨hr62, hk62, hb62⟩ := hp62_c_7
    have hg62 := hg55.sT h855 hk62 hb62
    have h062 : F62 ob = some (.inr (15, [.ref (g 0), .ref (g 2), .ref (g 4), .ref (g 6), .ref (g 9), .ref (g 11), .ref (g 14), .ref sa, va_rf so, .int (iI er), .int (iI fa)])) := hg62.1
    have hs162 := hg62.st
    have h862 := z_c8 hC hZ
    have hnx62 := hnx55.mono (hg55.mon (J := [0, 1]) (a := 0) (by decide) hk62 (by decide) (Or.inl rfl))
    rw [gup_id] at hnx62
    refine lv_pop hx hb dX12_correct_65 rfl ?_
    refine lv_aload_n hx hb dX12_correct_66 rfl (lv_at hl 2 rfl) ?_
    refine lv_aload hx hb dX12_correct_67 (lv_at hl 0 rfl) ?_
    refine z_callv (z_runV (rest := []) (As := [.ref r31]) (n := 1) (ci := 15) hC hZ (met_X12_become l D cs A F62 ob g sa so hL [] inp out c0 sv hs er fa r31 (cCor c0 i3 y3 z.toNat tx (zlate c0 x)) hg62 hnx62 hh8) gv_X12_127 hd_X12_become rfl h062 rfl hl rfl (Nat.le_of_ble_eq_true rfl) ⟨Nat.le_of_ble_eq_true rfl, Nat.le_of_ble_eq_true rfl⟩ ⟨Nat.le_of_ble_eq_true rfl, Nat.le_of_ble_eq_true rfl⟩ dX12_correct_69) hZ (fun F69 H locs hp69_c_8 hZ => ?_)
    obtain ⟨hk69, g1, hL1, hg69⟩ := hp69_c_8
    have h069 : F69 ob = some (.inr (15, [.ref (g1 0), .ref (g1 2), .ref (g1 4), .ref (g1 6), .ref (g1 9), .ref (g1 11), .ref (g1 14), .ref r31, va_rf so, .int (iI er), .int (iI fa)])) := hg69.1
    have hs169 := hg69.st
    have h869 := z_c8 hC hZ
    have ho62 := ho55.keepO hk62 (fun o ho => hg55.niM hC.c54 h855 o (gMl_J (J := [0, 1]) (by decide) o ho))
    have ho69 := ho62.keepO hk69 (fun o ho => hg62.niM hC.c54 h862 o ((List.mem_cons.mp ho).elim (fun z => by rw [z]; exact gMl_ob) (fun z => gMl_J (J := [14, 15]) (by decide) o z)))
    obtain ⟨_, _, _, _, ow69, -⟩ := id ho69
    refine lv_aload_n hx hb dX12_correct_72 rfl (lv_at hl 1 rfl) ?_
    obtain ⟨fsho_9, ho_9⟩ := (ho69).o
    refine z_calli (z_runV (rest := []) (As := []) (n := 0) (ci := 14) hC hZ (met_X11_letterCount l D cs A F69 r3 wd3 ho69) gv_X12_156 hd_X11_letterCount rfl ho_9 rfl hl rfl (Nat.le_of_ble_eq_true rfl) ⟨Nat.le_of_ble_eq_true rfl, Nat.le_of_ble_eq_true rfl⟩ ⟨Nat.le_of_ble_eq_true rfl, Nat.le_of_ble_eq_true rfl⟩ dX12_correct_73) hZ (fun r73 F73 H locs hp73_c_10 hZ => ?_)
    obtain ⟨rfl, rfl⟩ := hp73_c_10
    refine vx_ret ?_
    exact z_iret hC hr hlk hZ (by decide) (by decide) (⟨by rw [sCor_0 hix3 hge3 hw3 hw11], by rw [sCor_0 hix3 hge3 hw3 hw11], g1, r31, hL1, by rw [sCor_0 hix3 hge3 hw3 hw11]; exact hg69⟩) dX12_correct_76
  · skip
    have hw11 : ¬ (1 ≤ tx.length ∧ tx.length ≤ 12 ∧ zbl tx = 0) := hw11.elim (fun z => absurd z.2 (by omega)) (fun z => z.1)
    exact z_throw (rest := []) hC hZ hlt hT hlk zth_e2 zth_g2 zth_o2 zth_k2 zth_i2 (by decide) (List.mem_of_getElem? (i := 6) rfl) hl (Nat.le_of_ble_eq_true rfl) (Nat.le_of_ble_eq_true rfl) (Nat.le_of_ble_eq_true rfl) (Nat.le_of_ble_eq_true rfl) (Nat.le_of_ble_eq_true rfl) (Nat.le_of_ble_eq_true rfl) (⟨hg, Or.inr (Or.inr ⟨by rw [sCor_3 hz3 hw3 hw11], rfl⟩)⟩) dX12_correct_17 dX12_correct_20 dX12_correct_21 dX12_correct_23 dX12_correct_26
