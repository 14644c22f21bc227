/-- an article takes the place of another -/
def cSetA (c : zCo) (i : Nat) (x : zAr) : zCo := ((cAr c).set i x, cIs c, cNi c, cNn c, cWi c, cCo c, cHe c, cDa c, cLa c)
def cLat (c : zCo) : zCo := (cAr c, cIs c, cNi c, cNn c, cWi c, cCo c, cHe c, cDa c, cLa c + 1)
theorem cCor_f (c : zCo) (i : Nat) (a : zAr) (w : Nat) (wd : zWd) : cCor c i a w wd false = cSetA c i (a.1, a.2.1, a.2.2.set w wd) := by
  unfold cCor cSetA
  rw [if_neg (by decide), Int.add_zero]
theorem cCor_t (c : zCo) (i : Nat) (a : zAr) (w : Nat) (wd : zWd) : cCor c i a w wd true = cLat (cSetA c i (a.1, a.2.1, a.2.2.set w wd)) := by
  unfold cCor cSetA cLat
  rw [if_pos rfl]
  rfl
theorem gA_set {l : List zAr} {i : Nat} {k : Int} {x : zAr} (hi : i < l.length) (h0 : 0 ≤ k) : (l.set i x).getD k.toNat (0, 0, []) = if k = i then x else l.getD k.toNat (0, 0, []) := by
  rw [List.getD_eq_getElem?_getD, List.getElem?_set]
  by_cases h : k = i
  · rw [if_pos h, if_pos (by omega), if_pos (by omega)]
    rfl
  · rw [if_neg h, if_neg (by omega), List.getD_eq_getElem?_getD]
theorem oAs.set {cs : Nat → ClassId} {F : zF} {l : List Nat} {as : List zAr} {q i : Nat} {x : zAr} (h : oAs cs F l as) (hq : oAr cs F q x) (hi : i < as.length) : oAs cs F (l.set i q) (as.set i x) := by
  have hl := h.1
  refine ⟨by rw [List.length_set, List.length_set, hl], fun k k0 k1 => ?_⟩
  rw [List.length_set] at k1
  rw [show i = (i : Int).toNat from rfl, gD_set (i := (i : Int)) ⟨by omega, by omega⟩ k0, gA_set (i := (i : Int).toNat) (by omega) k0]
  by_cases c : k = i
  · rw [if_pos c, if_pos (by omega)]
    exact hq
  · rw [if_neg c, if_neg (by omega)]
    exact h.2 k k0 k1
set_option maxHeartbeats 4000000 in
set_option maxRecDepth 100000 in
theorem met_X10_replaceWord (l : Launch) (D : va_G) (cs : Nat → ClassId) (A : Nat → Prop) (F : zF) (a la ra li ri : Nat) (c0 : zCo) (x y : Int) (v : Nat) (w : zWd) (i : Nat)  (hs1 : bSt cs F a la ra li ri c0) (hx0 : InR x) (hix0 : zix (cAr c0) x = some i) (hy0 : 0 ≤ y ∧ y < (((cAr c0).getD i (0, 0, [])).2.2.length : Int)) (hv : oWd cs F v w) (hla0 : 0 ≤ cLa c0 ∧ cLa c0 ≤ 1000000) : zM l D cs A yX10_replaceWord cX10_replaceWord 5 (none : Option Jvm.ClassFile.FieldType) 5 2 33 [.ref a, .int (iI x), .int (iI y), .ref v] F (pV (fun F1 => zko [a, la, ra] F F1 ∧ bSt cs F1 a la ra li ri (cCor c0 i ((cAr c0).getD i (0, 0, [])) y.toNat w (zlate c0 x)))) := by
  refine zM_of (own := RX10) (by decide) rfl (Nat.le_of_ble_eq_true rfl) ?_
  intro p e s m below meth c hC hr hlk hnm hZ ls hl
  have hx := hC.x
  have hb := hC.b
  have hl : lv_has ls 5 [(0, .ref a), (1, .int (iI x)), (2, .int (iI y)), (3, .ref v)] := hl
  obtain ⟨aL, iL, h0, hla, hli, has, his, hne1, hne2⟩ := id hs1
  have hO1 : ∀ o, o ∈ [a] → zNi cs F o := fun o ho => by rw [List.mem_singleton.mp ho]; exact zNi.o h0 (by decide)
  have hO2 : ∀ o, o ∈ [a] → ∃ (ci : Nat) (fs : List Value), F o = some (.inr (ci, fs)) ∧ ci ≠ 4 := fun o ho => by rw [List.mem_singleton.mp ho]; exact ⟨13, _, h0, by decide⟩
  have haL := has.1
  have ha10 := oL_10 hla
  have h54 := hC.c54
  refine lv_aload_n hx hb dX10_replaceWord_0 rfl (lv_at hl 0 rfl) ?_
  refine lv_iload_n hx hb dX10_replaceWord_1 rfl (lv_at hl 1 rfl) ?_
  refine z_calli (z_runV (rest := []) (As := [.int (iI x)]) (n := 1) (ci := 13) hC hZ (met_X10_indexOf l D cs A F a c0 x hs1.r (by omega)) gv_X10_63 hd_X10_indexOf rfl h0 rfl hl rfl (Nat.le_of_ble_eq_true rfl) ⟨Nat.le_of_ble_eq_true rfl, Nat.le_of_ble_eq_true rfl⟩ ⟨Nat.le_of_ble_eq_true rfl, Nat.le_of_ble_eq_true rfl⟩ dX10_replaceWord_2) hZ (fun r2 F2 H locs hp2_c_1 hZ => ?_)
  obtain ⟨rfl, hp2_c_1⟩ := hp2_c_1
  obtain ⟨hii, hi0, hi1⟩ : i = r2.toNat ∧ 0 ≤ r2 ∧ r2 < ((cAr c0).length : Int) := hp2_c_1.elim (fun z => by have e := z.1; rw [hix0] at e; cases e) (fun z => ⟨by have e := z.1; rw [hix0] at e; exact Option.some.inj e, z.2⟩)
  subst hii
  refine lv_istore (lv' := [(4, .int (iI r2)), (0, .ref a), (1, .int (iI x)), (2, .int (iI y)), (3, .ref v)]) hx hb dX10_replaceWord_5 hl (by decide) rfl (fun ls hl => ?_)
  refine lv_iload hx hb dX10_replaceWord_7 (lv_at hl 0 rfl) ?_
  refine z_if_lt (tgt := 24) hx hb dX10_replaceWord_9 (by decide) (by omega) (fun c_2 => ?_) (fun c_2 => ?_)
  · skip
    exfalso; omega
  · skip
    refine lv_iload hx hb dX10_replaceWord_12 (lv_at hl 0 rfl) ?_
    refine lv_aload_n hx hb dX10_replaceWord_14 rfl (lv_at hl 1 rfl) ?_
    refine z_get (T := TX10) (N := 9) (ci := 13) (k := 0) (fs := [.ref la, .ref li, .int (iI (cNi c0)), .int (iI (cNn c0)), .int (iI (cWi c0)), .int (iI (cCo c0)), .int (iI (cHe c0)), .int (iI (cDa c0)), .int (iI (cLa c0))]) (v := .ref la) hC hZ in_X10 rfl (by decide) ql_X10_12 rfl h0 rfl dX10_replaceWord_15 ?_
    obtain ⟨fsho_3, ho_3⟩ := (hla).o
    refine z_calli (z_runV (rest := [.int (iI r2)]) (As := []) (n := 0) (ci := 4) hC hZ (met_Jx4a65c_size_8abf5 l D cs A F la ra aL hla) gv_X10_44 hd_Jx4a65c_size_8abf5 rfl ho_3 rfl hl rfl (Nat.le_of_ble_eq_true rfl) ⟨Nat.le_of_ble_eq_true rfl, Nat.le_of_ble_eq_true rfl⟩ ⟨Nat.le_of_ble_eq_true rfl, Nat.le_of_ble_eq_true rfl⟩ dX10_replaceWord_18) hZ (fun r18 F18 H locs hp18_c_4 hZ => ?_)
    obtain ⟨rfl, rfl⟩ := hp18_c_4
    refine z_icmp_lt (tgt := 25) hx hb dX10_replaceWord_21 (by decide) (by omega) (by omega) (fun c_5 => ?_) (fun c_5 => ?_)
    · skip
      refine lv_aload_n hx hb dX10_replaceWord_25 rfl (lv_at hl 1 rfl) ?_
      refine z_get (T := TX10) (N := 9) (ci := 13) (k := 0) (fs := [.ref la, .ref li, .int (iI (cNi c0)), .int (iI (cNn c0)), .int (iI (cWi c0)), .int (iI (cCo c0)), .int (iI (cHe c0)), .int (iI (cDa c0)), .int (iI (cLa c0))]) (v := .ref la) hC hZ in_X10 rfl (by decide) ql_X10_12 rfl h0 rfl dX10_replaceWord_26 ?_
      refine lv_iload hx hb dX10_replaceWord_29 (lv_at hl 0 rfl) ?_
      refine lv_aload_n hx hb dX10_replaceWord_31 rfl (lv_at hl 1 rfl) ?_
      refine z_get (T := TX10) (N := 9) (ci := 13) (k := 0) (fs := [.ref la, .ref li, .int (iI (cNi c0)), .int (iI (cNn c0)), .int (iI (cWi c0)), .int (iI (cCo c0)), .int (iI (cHe c0)), .int (iI (cDa c0)), .int (iI (cLa c0))]) (v := .ref la) hC hZ in_X10 rfl (by decide) ql_X10_12 rfl h0 rfl dX10_replaceWord_32 ?_
      refine lv_iload hx hb dX10_replaceWord_35 (lv_at hl 0 rfl) ?_
      obtain ⟨fsho_6, ho_6⟩ := (hla).o
      refine z_callr (z_runV (rest := [.int (iI r2), .ref la]) (As := [.int (iI r2)]) (n := 1) (ci := 4) hC hZ (met_Jx4a65c_get_915e3 l D cs A F la ra aL r2 hla (by omega)) gv_X10_48 hd_Jx4a65c_get_915e3 rfl ho_6 rfl hl rfl (Nat.le_of_ble_eq_true rfl) ⟨Nat.le_of_ble_eq_true rfl, Nat.le_of_ble_eq_true rfl⟩ ⟨Nat.le_of_ble_eq_true rfl, Nat.le_of_ble_eq_true rfl⟩ dX10_replaceWord_37) hZ (fun r37 F37 H locs hp37_c_7 hZ => ?_)
      obtain ⟨rfl, rfl⟩ := hp37_c_7
      have hoa37 := has.2 r2 (by omega) (by omega)
      obtain ⟨wa37, y037, -, hyo37⟩ := id hoa37
      refine z_castS (ci := 5) (N := 3) (T := TX1) hC hZ qk_X10_52 y037 rfl dX10_replaceWord_40 ?_
      refine lv_iload_n hx hb dX10_replaceWord_43 rfl (lv_at hl 3 rfl) ?_
      refine lv_aload_n hx hb dX10_replaceWord_44 rfl (lv_at hl 4 rfl) ?_
      refine z_callr (z_runV (rest := [.int (iI r2), .ref la]) (As := [.int (iI y), .ref v]) (n := 2) (ci := 5) hC hZ (met_X1_corrected l D cs A F (aL.getD r2.toNat 0) ((cAr c0).getD r2.toNat (0, 0, [])) y v w hoa37 ⟨by omega, hy0.2⟩ hv) gv_X10_97 hd_X1_corrected rfl y037 rfl hl rfl (Nat.le_of_ble_eq_true rfl) ⟨Nat.le_of_ble_eq_true rfl, Nat.le_of_ble_eq_true rfl⟩ ⟨Nat.le_of_ble_eq_true rfl, Nat.le_of_ble_eq_true rfl⟩ dX10_replaceWord_45) hZ (fun r45 F45 H locs hp45_c_8 hZ => ?_)
      obtain ⟨hle45, hn45, hoa45z⟩ := hp45_c_8
      have hf_9 : F45 a = some (.inr (13, [.ref la, .ref li, .int (iI (cNi c0)), .int (iI (cNn c0)), .int (iI (cWi c0)), .int (iI (cCo c0)), .int (iI (cHe c0)), .int (iI (cDa c0)), .int (iI (cLa c0))])) := hle45.ko _ _ h0 zni0
      have hf_10 : F45 (aL.getD r2.toNat 0) = some (.inr (5, [.int (iI (((cAr c0).getD r2.toNat (0, 0, [])).1)), .int (iI (((cAr c0).getD r2.toNat (0, 0, [])).2.1)), .ref wa37])) := hle45.ko _ _ y037 zni0
      have hla45 := hla.mono hle45
      have hli45 := hli.mono hle45
      have h845 := z_c8 hC hZ
      have ha45 : F45 a = _ := hle45 _ _ h0
      obtain ⟨wa45, y45, -⟩ := id hoa45z
      obtain ⟨fsho_11, ho_11⟩ := (hla45).o
      refine z_callr (z_runV (rest := []) (As := [.int (iI r2), .ref r45]) (n := 2) (ci := 4) hC hZ (met_Jx4a65c_set_bcc79 l D cs A F45 la ra aL r2 r45 hla45 ⟨by omega, by omega⟩ ⟨5, 3, RX1, TX1, _, y45, rfl, q_2170⟩) gv_X10_101 hd_Jx4a65c_set_bcc79 rfl ho_11 rfl hl rfl (Nat.le_of_ble_eq_true rfl) ⟨Nat.le_of_ble_eq_true rfl, Nat.le_of_ble_eq_true rfl⟩ ⟨Nat.le_of_ble_eq_true rfl, Nat.le_of_ble_eq_true rfl⟩ dX10_replaceWord_48) hZ (fun r48 F48 H locs hp48_c_12 hZ => ?_)
      obtain ⟨hk48, hl48, hr48⟩ := hp48_c_12
      have hO48 : ∀ o, o ∈ [ra] → zNi cs F45 o := fun o ho => by rw [List.mem_singleton.mp ho]; exact hla45.niR h54 h845
      have ha48 : F48 a = _ := hk48 _ _ ha45 (zni1 (hla45.ne ha45 h845) zni0)
      have hkk48 : zko [la, ra] F45 F48 := hk48.sub (fun q hq => List.mem_cons_of_mem _ hq)
      have hb48 : bSt cs F48 a la ra li ri (cSetA c0 r2.toNat (((cAr c0).getD r2.toNat (0, 0, [])).1, ((cAr c0).getD r2.toNat (0, 0, [])).2.1, ((cAr c0).getD r2.toNat (0, 0, [])).2.2.set y.toNat w)) := ⟨aL.set r2.toNat r45, iL, ha48, hl48, hli45.sep hla45 (Ne.symm hne1) (fun z => z.trans (hne2 z.symm)) h845 hkk48, ((has.mono hle45).set (i := r2.toNat) hoa45z (by omega)).keepO hk48 hO48, (his.mono hle45).keepO hk48 hO48, hne1, hne2⟩
      have hz48 : zko [a, la, ra] F F48 := hle45.ko.trans (hk48.sub (fun q hq => by rw [List.mem_singleton.mp hq]; simp))
      refine lv_pop hx hb dX10_replaceWord_51 rfl ?_
      refine lv_aload_n hx hb dX10_replaceWord_52 rfl (lv_at hl 1 rfl) ?_
      refine lv_iload_n hx hb dX10_replaceWord_53 rfl (lv_at hl 2 rfl) ?_
      refine z_calli (z_runV (rest := []) (As := [.int (iI x)]) (n := 1) (ci := 13) hC hZ (met_X10_isInKeptIssue l D cs A F48 a (cSetA c0 r2.toNat (((cAr c0).getD r2.toNat (0, 0, [])).1, ((cAr c0).getD r2.toNat (0, 0, [])).2.1, ((cAr c0).getD r2.toNat (0, 0, [])).2.2.set y.toNat w)) x hb48.r (by omega)) gv_X10_105 hd_X10_isInKeptIssue rfl ha48 rfl hl rfl (Nat.le_of_ble_eq_true rfl) ⟨Nat.le_of_ble_eq_true rfl, Nat.le_of_ble_eq_true rfl⟩ ⟨Nat.le_of_ble_eq_true rfl, Nat.le_of_ble_eq_true rfl⟩ dX10_replaceWord_54) hZ (fun r54 F54 H locs hp54_c_13 hZ => ?_)
      obtain ⟨rfl, hp54_c_13⟩ := hp54_c_13
      have hlt := hp54_c_13
      refine z_if_eq (tgt := 70) hx hb dX10_replaceWord_57 (by decide) (by omega) (fun c_14 => ?_) (fun c_14 => ?_)
      · skip
        have hlt0 : zlate c0 x = false := hlt.elim (fun z => absurd z.2 (by omega)) (fun z => z.1)
        exact z_vret hC hr hlk hZ (by decide) (by decide) (⟨hz48, by rw [hlt0, cCor_f]; exact hb48⟩) dX10_replaceWord_70
      · skip
        have hlt0 : zlate c0 x = true := hlt.elim (fun z => z.1) (fun z => absurd z.2 (by omega))
        refine lv_aload_n hx hb dX10_replaceWord_60 rfl (lv_at hl 1 rfl) ?_
        refine lv_dup hx hb dX10_replaceWord_61 rfl ?_
        refine z_get (T := TX10) (N := 9) (ci := 13) (k := 8) (fs := [.ref la, .ref li, .int (iI (cNi c0)), .int (iI (cNn c0)), .int (iI (cWi c0)), .int (iI (cCo c0)), .int (iI (cHe c0)), .int (iI (cDa c0)), .int (iI (cLa c0))]) (v := .int (iI (cLa c0))) hC hZ in_X10 rfl (by decide) ql_X10_40 rfl ha48 rfl dX10_replaceWord_62 ?_
        refine z_iconst hx hb dX10_replaceWord_65 ?_
        refine z_iadd hx hb dX10_replaceWord_66 ?_
        refine z_put (T := TX10) (N := 9) (ci := 13) (k := 8) (fs := [.ref la, .ref li, .int (iI (cNi c0)), .int (iI (cNn c0)), .int (iI (cWi c0)), .int (iI (cCo c0)), .int (iI (cHe c0)), .int (iI (cDa c0)), .int (iI (cLa c0))]) (v := .int (iI ((cLa c0) + 1))) hC hZ tyX10 tyX10_ok nmX10 in_X10 rfl (by decide) ql_X10_40 rfl (Or.inl rfl) rfl ha48 (by show 8 < 9; decide) rfl rfl dX10_replaceWord_67 (fun H locs hZ => ?_)
        have hf_15 : (zup F48 a (.inr (13, [.ref la, .ref li, .int (iI (cNi c0)), .int (iI (cNn c0)), .int (iI (cWi c0)), .int (iI (cCo c0)), .int (iI (cHe c0)), .int (iI (cDa c0)), .int (iI ((cLa c0) + 1))]))) a = some (.inr (13, [.ref la, .ref li, .int (iI (cNi c0)), .int (iI (cNn c0)), .int (iI (cWi c0)), .int (iI (cCo c0)), .int (iI (cHe c0)), .int (iI (cDa c0)), .int (iI ((cLa c0) + 1))])) := zup_s
        replace hZ : zS D A s (zup F48 a (.inr (13, [.ref la, .ref li, .int (iI (cNi c0)), .int (iI (cNn c0)), .int (iI (cWi c0)), .int (iI (cCo c0)), .int (iI (cHe c0)), .int (iI (cDa c0)), .int (iI ((cLa c0) + 1))]))) _ _ := hZ
        exact z_vret hC hr hlk hZ (by decide) (by decide) (⟨hz48.trans (((zko.refl : zko [a] F48 F48).up (by simp)).sub (fun q hq => by rw [List.mem_singleton.mp hq]; simp)), by
          rw [hlt0, cCor_t]
          obtain ⟨aM, iM, w0, w1, w2, w3, w4, w5, w6⟩ := hb48
          have hO1 : ∀ o, o ∈ [a] → zNi cs F48 o := fun o ho => by rw [List.mem_singleton.mp ho]; exact zNi.o w0 (by decide)
          have hO2 : ∀ o, o ∈ [a] → ∃ (ci : Nat) (fs : List Value), F48 o = some (.inr (ci, fs)) ∧ ci ≠ 4 := fun o ho => by rw [List.mem_singleton.mp ho]; exact ⟨13, _, w0, by decide⟩
          exact ⟨aM, iM, hf_15, w1.keepB ((zko.refl : zko [a] F48 F48).up (by simp)) hO2, w2.keepB ((zko.refl : zko [a] F48 F48).up (by simp)) hO2, w3.keepO ((zko.refl : zko [a] F48 F48).up (by simp)) hO1, w4.keepO ((zko.refl : zko [a] F48 F48).up (by simp)) hO1, w5, w6⟩⟩) dX10_replaceWord_70
    · skip
      exfalso; omega
