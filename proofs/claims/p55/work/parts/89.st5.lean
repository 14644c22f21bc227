theorem z_c8 {p : Program} {s : State} {m : MethodId} {args : Array Value} {c : Code} {cc : ByteArray} {nL : Nat} {own : String} {D : va_G} {cs : Nat → ClassId} {A : Nat → Prop} {F : zF} {H : Heap} {locs : List Loc} (hC : zC p s m args c cc nL own D cs A) (hZ : zS D A s F H locs) : F (cs 8) = none := by
  cases h : F (cs 8) with
  | none => rfl
  | some e => exact absurd (hZ.2.1 _ _ h) (hC.ar (List.mem_of_getElem? (i := 0) rfl)).out
theorem oLx.arr {cs : Nat → ClassId} {F : zF} {a arr : Nat} {l : List Nat} (h : oLx cs F a arr l) (hl : 0 < l.length) : ∃ f : Int → Option Nat, F arr = some (zO (cs 5) 10 f) := by
  obtain ⟨mc, -, h1⟩ := h
  rcases h1 with ⟨-, rfl⟩ | ⟨f, h2, -⟩
  · exact absurd hl (Nat.lt_irrefl _)
  · exact ⟨f, h2⟩
theorem oLx.keepC {cs : Nat → ClassId} {F F1 : zF} {a arr : Nat} {l O : List Nat} (h : oLx cs F a arr l) (hk : zko O F F1) (ha : a ∉ O) (hr : ∀ f : Int → Option Nat, F arr = some (zO (cs 5) 10 f) → arr ∉ O) : oLx cs F1 a arr l := by
  obtain ⟨mc, h1, h2⟩ := h
  refine ⟨mc, hk _ _ h1 ha, ?_⟩
  rcases h2 with h2 | ⟨f, h3, h4⟩
  · exact Or.inl h2
  · exact Or.inr ⟨f, hk _ _ h3 (hr f h3), h4⟩
theorem gA_era {l : List zAr} {i k : Int} (hi : 0 ≤ i ∧ i < l.length) (h0 : 0 ≤ k) : (l.eraseIdx i.toNat).getD k.toNat (0, 0, []) = if k < i then l.getD k.toNat (0, 0, []) else l.getD (k + 1).toNat (0, 0, []) := by
  rw [List.getD_eq_getElem?_getD, List.getElem?_eraseIdx]
  by_cases h : k < i
  · rw [if_pos (by omega), if_pos h, List.getD_eq_getElem?_getD]
  · rw [if_neg (by omega), if_neg h, List.getD_eq_getElem?_getD, show (k + 1).toNat = k.toNat + 1 by omega]
theorem oAs.era {cs : Nat → ClassId} {F : zF} {l : List Nat} {as : List zAr} {i : Int} (h : oAs cs F l as) (hi : 0 ≤ i ∧ i < as.length) : oAs cs F (l.eraseIdx i.toNat) (as.eraseIdx i.toNat) := by
  have hl := h.1
  refine ⟨by rw [List.length_eraseIdx, List.length_eraseIdx, hl], fun k k0 k1 => ?_⟩
  have h1 : (((as.eraseIdx i.toNat).length : Nat) : Int) = (as.length : Int) - 1 := by
    rw [List.length_eraseIdx, if_pos (by omega)]
    omega
  rw [gD_era (by omega) k0, gA_era hi k0]
  by_cases q : k < i
  · rw [if_pos q, if_pos q]; exact h.2 k k0 (by omega)
  · rw [if_neg q, if_neg q]; exact h.2 (k + 1) (by omega) (by omega)
theorem oAs.el {cs : Nat → ClassId} {F : zF} {l : List Nat} {as : List zAr} (h : oAs cs F l as) : ∀ k : Int, 0 ≤ k → k < l.length → zEl F (l.getD k.toNat 0) := fun k k0 k1 => by
  obtain ⟨wa, y0, -⟩ := h.2 k k0 (by rw [← h.1]; exact k1)
  exact ⟨5, 3, RX1, TX1, _, y0, rfl, q_2170⟩
/-- an article is dropped -/
def cDrop (c : zCo) (i : Nat) : zCo := ((cAr c).eraseIdx i, cIs c, cNi c, cNn c, cWi c, cCo c, cHe c, cDa c, cLa c)
set_option maxHeartbeats 4000000 in
set_option maxRecDepth 100000 in
theorem met_X10_dropArticle (l : Launch) (D : va_G) (cs : Nat → ClassId) (A : Nat → Prop) (F : zF) (a la ra li ri : Nat) (c0 : zCo) (x : Int)  (hs1 : bSt cs F a la ra li ri c0) (hx0 : InR x) : zM l D cs A yX10_dropArticle cX10_dropArticle 3 (some FieldType.boolean) 5 0 0 [.ref a, .int (iI x)] F (pI (fun r F1 => (zix (cAr c0) x = none ∧ r = 0 ∧ F = F1) ∨ (∃ i : Nat, zix (cAr c0) x = some i ∧ i < (cAr c0).length ∧ r = 1 ∧ zko [la, ra] F F1 ∧ bSt cs F1 a la ra li ri (cDrop c0 i)))) := by
  refine zM_of (own := RX10) (by decide) rfl (Nat.le_of_ble_eq_true rfl) ?_
  intro p e s m below meth c hC hr hlk hnm hZ ls hl
  have hx := hC.x
  have hb := hC.b
  have hl : lv_has ls 3 [(0, .ref a), (1, .int (iI x))] := hl
  obtain ⟨aL, iL, h0, hla, hli, has, his, hne1, hne2⟩ := id hs1
  have hO1 : ∀ o, o ∈ [a] → zNi cs F o := fun o ho => by rw [List.mem_singleton.mp ho]; exact zNi.o h0 (by decide)
  have hO2 : ∀ o, o ∈ [a] → ∃ (ci : Nat) (fs : List Value), F o = some (.inr (ci, fs)) ∧ ci ≠ 4 := fun o ho => by rw [List.mem_singleton.mp ho]; exact ⟨13, _, h0, by decide⟩
  have haL := has.1
  have ha10 := oL_10 hla
  have h54 := hC.c54
  have hc8 := z_c8 hC hZ
  refine lv_aload_n hx hb dX10_dropArticle_0 rfl (lv_at hl 0 rfl) ?_
  refine lv_iload_n hx hb dX10_dropArticle_1 rfl (lv_at hl 1 rfl) ?_
  refine z_calli (z_runV (rest := []) (As := [.int (iI x)]) (n := 1) (ci := 13) hC hZ (met_X10_indexOf l D cs A F a c0 x hs1.r (by omega)) gv_X10_63 hd_X10_indexOf rfl h0 rfl hl rfl (Nat.le_of_ble_eq_true rfl) ⟨Nat.le_of_ble_eq_true rfl, Nat.le_of_ble_eq_true rfl⟩ ⟨Nat.le_of_ble_eq_true rfl, Nat.le_of_ble_eq_true rfl⟩ dX10_dropArticle_2) hZ (fun r2 F2 H locs hp2_c_1 hZ => ?_)
  obtain ⟨rfl, hp2_c_1⟩ := hp2_c_1
  have hix := hp2_c_1
  refine lv_istore_n (lv' := [(2, .int (iI r2)), (0, .ref a), (1, .int (iI x))]) hx hb dX10_dropArticle_5 rfl hl (by decide) rfl (fun ls hl => ?_)
  refine lv_iload_n hx hb dX10_dropArticle_6 rfl (lv_at hl 0 rfl) ?_
  refine z_if_lt (tgt := 21) hx hb dX10_dropArticle_7 (by decide) (by omega) (fun c_2 => ?_) (fun c_2 => ?_)
  · skip
    have hno : zix (cAr c0) x = none := hix.elim (fun z => z.1) (fun z => absurd z.2.1 (by omega))
    refine z_iconst hx hb dX10_dropArticle_21 ?_
    exact z_zret hC hr hlk hZ rfl (by decide) (by decide) ((Or.inl ⟨hno, rfl, rfl⟩)) dX10_dropArticle_22
  · skip
    have hyes := hix.elim (fun z => absurd z.2 (by omega)) (fun z => z)
    refine lv_iload_n hx hb dX10_dropArticle_10 rfl (lv_at hl 0 rfl) ?_
    refine lv_aload_n hx hb dX10_dropArticle_11 rfl (lv_at hl 1 rfl) ?_
    refine z_get (T := TX10) (N := 9) (ci := 13) (k := 0) (fs := [.ref la, .ref li, .int (iI (cNi c0)), .int (iI (cNn c0)), .int (iI (cWi c0)), .int (iI (cCo c0)), .int (iI (cHe c0)), .int (iI (cDa c0)), .int (iI (cLa c0))]) (v := .ref la) hC hZ in_X10 rfl (by decide) ql_X10_12 rfl h0 rfl dX10_dropArticle_12 ?_
    obtain ⟨fsho_3, ho_3⟩ := (hla).o
    refine z_calli (z_runV (rest := [.int (iI r2)]) (As := []) (n := 0) (ci := 4) hC hZ (met_Jx4a65c_size_8abf5 l D cs A F la ra aL hla) gv_X10_44 hd_Jx4a65c_size_8abf5 rfl ho_3 rfl hl rfl (Nat.le_of_ble_eq_true rfl) ⟨Nat.le_of_ble_eq_true rfl, Nat.le_of_ble_eq_true rfl⟩ ⟨Nat.le_of_ble_eq_true rfl, Nat.le_of_ble_eq_true rfl⟩ dX10_dropArticle_15) hZ (fun r15 F15 H locs hp15_c_4 hZ => ?_)
    obtain ⟨rfl, rfl⟩ := hp15_c_4
    refine z_icmp_lt (tgt := 23) hx hb dX10_dropArticle_18 (by decide) (by omega) (by omega) (fun c_5 => ?_) (fun c_5 => ?_)
    · skip
      obtain ⟨fr, hfr⟩ := hla.arr (by omega)
      obtain ⟨fsa, hoa⟩ := hla.o
      obtain ⟨fsi, hoi⟩ := hli.o
      have hal : a ≠ la := zneK h0 hoa (by show 1000000 + 13 ≠ 1000000 + 4; decide)
      have har : a ≠ ra := zne h0 hfr (fun z => by cases z)
      have hlr : li ≠ ra := zne hoi hfr (fun z => by cases z)
      have hrr : ∀ f : Int → Option Nat, F ri = some (zO (cs 5) 10 f) → ri ∉ [la, ra] := fun f hf => zni1 (Ne.symm (zne hoa hf (fun z => by cases z))) (zni1 (fun q => by rw [hne2 q.symm, hc8] at hfr; cases hfr) zni0)
      have hO4 : ∀ o, o ∈ [la, ra] → zNi cs F o := fun o ho => by
        rcases List.mem_cons.mp ho with q | q
        · rw [q]; exact zNi.o hoa (by decide)
        · rw [List.mem_singleton.mp q]; exact zNi.r hfr h54
      refine lv_aload_n hx hb dX10_dropArticle_23 rfl (lv_at hl 1 rfl) ?_
      refine z_get (T := TX10) (N := 9) (ci := 13) (k := 0) (fs := [.ref la, .ref li, .int (iI (cNi c0)), .int (iI (cNn c0)), .int (iI (cWi c0)), .int (iI (cCo c0)), .int (iI (cHe c0)), .int (iI (cDa c0)), .int (iI (cLa c0))]) (v := .ref la) hC hZ in_X10 rfl (by decide) ql_X10_12 rfl h0 rfl dX10_dropArticle_24 ?_
      refine lv_iload_n hx hb dX10_dropArticle_27 rfl (lv_at hl 0 rfl) ?_
      obtain ⟨fsho_6, ho_6⟩ := (hla).o
      refine z_callr (z_runV (rest := []) (As := [.int (iI r2)]) (n := 1) (ci := 4) hC hZ (met_Jx4a65c_remove_915e3 l D cs A F la ra aL r2 hla ⟨by omega, by omega⟩ has.el) gv_X10_94 hd_Jx4a65c_remove_915e3 rfl ho_6 rfl hl rfl (Nat.le_of_ble_eq_true rfl) ⟨Nat.le_of_ble_eq_true rfl, Nat.le_of_ble_eq_true rfl⟩ ⟨Nat.le_of_ble_eq_true rfl, Nat.le_of_ble_eq_true rfl⟩ dX10_dropArticle_28) hZ (fun r28 F28 H locs hp28_c_7 hZ => ?_)
      obtain ⟨hk28, hl28, hr28⟩ := hp28_c_7
      refine lv_pop hx hb dX10_dropArticle_31 rfl ?_
      refine z_iconst hx hb dX10_dropArticle_32 ?_
      exact z_zret hC hr hlk hZ rfl (by decide) (by decide) ((Or.inr ⟨r2.toNat, hyes.1, by omega, rfl, hk28, aL.eraseIdx r2.toNat, iL, hk28 _ _ h0 (zni1 hal (zni1 har zni0)), hl28, hli.keepC hk28 (zni1 (Ne.symm hne1) (zni1 hlr zni0)) hrr, (has.era hyes.2).keepO hk28 hO4, his.keepO hk28 hO4, hne1, hne2⟩)) dX10_dropArticle_33
    · skip
      exfalso; omega
