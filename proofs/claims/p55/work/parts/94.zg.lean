theorem ofNat_u (x : Int32) : Int32.ofNat x.toUInt32.toNat = x := by
  apply Int32.toBitVec_inj.mp
  simp
theorem va_Ts {l : List Nat} {b L : Nat} {xs : Nat → Int32} {A : Nat → Prop} {s : State} (hl : l.length = 100) (hX : va_X b L xs s s.heap) (hA : ∀ a : Nat, a < s.heap.size → ¬ A a) : va_T .int b L (fun j => .int (Int32.ofNat ((fun k : Nat => l.getD k (xs (k - 100)).toUInt32.toNat) (100 + j)))) A s s.heap := by
  obtain ⟨scr, h1, h2, h3, h4, h5⟩ := hX
  refine ⟨scr, h1, h2, h3, by omega, by rw [h4], fun j hj => ?_, hA b (Array.getElem?_eq_some_iff.mp h1).1⟩
  rw [h5 j hj]
  have e : l.getD (100 + j) (xs (100 + j - 100)).toUInt32.toNat = (xs j).toUInt32.toNat := by
    rw [List.getD_eq_getElem?_getD, List.getElem?_eq_none (by omega), Nat.add_sub_cancel_left]
    rfl
  show some (Value.int (xs j)) = some (Value.int (Int32.ofNat (l.getD (100 + j) (xs (100 + j - 100)).toUInt32.toNat)))
  rw [e, ofNat_u]
theorem zg_DigitOnes : (List.range 100).all (fun j => decide ((flatC (Jvm.Cond.and given_1 narrow_1))[18 + j]? = some (Jvm.Cond.eq (Jvm.Term.elem (Jvm.Term.static "java/lang/Integer" "DigitOnes" "[B") (Jvm.Term.int (Int32.ofNat j))) (Jvm.Term.int (Int32.ofNat (48 + j % 10)))))) = true := by decide +kernel
theorem zg_DigitTens : (List.range 100).all (fun j => decide ((flatC (Jvm.Cond.and given_1 narrow_1))[121 + j]? = some (Jvm.Cond.eq (Jvm.Term.elem (Jvm.Term.static "java/lang/Integer" "DigitTens" "[B") (Jvm.Term.int (Int32.ofNat j))) (Jvm.Term.int (Int32.ofNat (48 + j / 10)))))) = true := by decide +kernel
set_option maxHeartbeats 4000000 in
set_option maxRecDepth 100000 in
/-- what never changes, at the law's start -/
theorem zg_start {s : State} {b L : Nat} {xs : Nat → Int32} (hX : va_X b L xs s s.heap) (hts : ∀ w ∈ lw_tbl, w.before #[Value.ref b] s = true) (hgv : (Jvm.Cond.and given_1 narrow_1).before #[Value.ref b] s = true) : ∃ (D : va_G) (cs : Nat → ClassId), va_K D vwCl (ztys cs) s ∧ zG cs (fun q => s.heap.size ≤ q) s s.heap ∧ cs 98 = b ∧ cs 99 = L := by
  have hw := flat_of_before _ hgv
  have hA : ∀ a : Nat, a < s.heap.size → ¬ (fun q : Nat => s.heap.size ≤ q) a := fun a h => Nat.not_le.mpr h
  have n6 : (Jvm.Cond.arrayOf (Jvm.Term.static "java/util/ArrayList" "DEFAULTCAPACITY_EMPTY_ELEMENTDATA" "[Ljava/lang/Object;") (Jvm.ClassFile.FieldType.object "java/lang/Object")).before #[Value.ref b] s = true := hw _ (List.mem_of_getElem? (i := 6) (by decide +kernel))
  have n8 : (Jvm.Cond.eq (Jvm.Term.length (Jvm.Term.static "java/util/ArrayList" "DEFAULTCAPACITY_EMPTY_ELEMENTDATA" "[Ljava/lang/Object;")) (Jvm.Term.int (0 : Int32))).before #[Value.ref b] s = true := hw _ (List.mem_of_getElem? (i := 8) (by decide +kernel))
  obtain ⟨a8, ea8, Ta8⟩ := va_Tof (A := fun q : Nat => s.heap.size ≤ q) (N := 0) (f := fun _ => .null) (by decide) n6 (va_eqv n8 rfl) (fun j hj => absurd hj (Nat.not_lt_zero j)) hA
  have ea8 : (Jvm.Term.static "java/util/ArrayList" "DEFAULTCAPACITY_EMPTY_ELEMENTDATA" "[Ljava/lang/Object;").eval #[Value.ref b] s none [] s = some (.ref a8) := ea8
  have n16 : (Jvm.Cond.arrayOf (Jvm.Term.static "java/lang/Integer" "DigitOnes" "[B") Jvm.ClassFile.FieldType.byte).before #[Value.ref b] s = true := hw _ (List.mem_of_getElem? (i := 16) (by decide +kernel))
  have n17 : (Jvm.Cond.eq (Jvm.Term.length (Jvm.Term.static "java/lang/Integer" "DigitOnes" "[B")) (Jvm.Term.int (100 : Int32))).before #[Value.ref b] s = true := hw _ (List.mem_of_getElem? (i := 17) (by decide +kernel))
  obtain ⟨a9, ea9, Ta9⟩ := va_Tof (A := fun q : Nat => s.heap.size ≤ q) (N := 100) (f := fun j => .int (Int32.ofNat (48 + j % 10))) (by decide) n16 (va_eqv n17 rfl) (fun j hj => va_eqv (u := .int (Int32.ofNat (48 + j % 10))) (hw _ (List.mem_of_getElem? (i := 18 + j) (of_decide_eq_true (List.all_eq_true.mp zg_DigitOnes j (List.mem_range.mpr hj))))) rfl) hA
  have ea9 : (Jvm.Term.static "java/lang/Integer" "DigitOnes" "[B").eval #[Value.ref b] s none [] s = some (.ref a9) := ea9
  have n119 : (Jvm.Cond.arrayOf (Jvm.Term.static "java/lang/Integer" "DigitTens" "[B") Jvm.ClassFile.FieldType.byte).before #[Value.ref b] s = true := hw _ (List.mem_of_getElem? (i := 119) (by decide +kernel))
  have n120 : (Jvm.Cond.eq (Jvm.Term.length (Jvm.Term.static "java/lang/Integer" "DigitTens" "[B")) (Jvm.Term.int (100 : Int32))).before #[Value.ref b] s = true := hw _ (List.mem_of_getElem? (i := 120) (by decide +kernel))
  obtain ⟨a10, ea10, Ta10⟩ := va_Tof (A := fun q : Nat => s.heap.size ≤ q) (N := 100) (f := fun j => .int (Int32.ofNat (48 + j / 10))) (by decide) n119 (va_eqv n120 rfl) (fun j hj => va_eqv (u := .int (Int32.ofNat (48 + j / 10))) (hw _ (List.mem_of_getElem? (i := 121 + j) (of_decide_eq_true (List.all_eq_true.mp zg_DigitTens j (List.mem_range.mpr hj))))) rfl) hA
  have ea10 : (Jvm.Term.static "java/lang/Integer" "DigitTens" "[B").eval #[Value.ref b] s none [] s = some (.ref a10) := ea10
  have n221 : (Jvm.Cond.exactly (Jvm.Term.static "StoneGazette$Keyword" "WIDTH" "LStoneGazette$Keyword;") "StoneGazette$Keyword").before #[Value.ref b] s = true := hw _ (List.mem_of_getElem? (i := 221) (by decide +kernel))
  obtain ⟨a20, _, _, _, ea20, -⟩ := Cond.exactly_spec n221
  have ea20 : (Jvm.Term.static "StoneGazette$Keyword" "WIDTH" "LStoneGazette$Keyword;").eval #[Value.ref b] s none [] s = some (.ref a20) := ea20
  have n243 : (Jvm.Cond.exactly (Jvm.Term.static "StoneGazette$Keyword" "PAGE" "LStoneGazette$Keyword;") "StoneGazette$Keyword").before #[Value.ref b] s = true := hw _ (List.mem_of_getElem? (i := 243) (by decide +kernel))
  obtain ⟨a21, _, _, _, ea21, -⟩ := Cond.exactly_spec n243
  have ea21 : (Jvm.Term.static "StoneGazette$Keyword" "PAGE" "LStoneGazette$Keyword;").eval #[Value.ref b] s none [] s = some (.ref a21) := ea21
  have n248 : (Jvm.Cond.exactly (Jvm.Term.static "StoneGazette$Keyword" "PRINT" "LStoneGazette$Keyword;") "StoneGazette$Keyword").before #[Value.ref b] s = true := hw _ (List.mem_of_getElem? (i := 248) (by decide +kernel))
  obtain ⟨a22, _, _, _, ea22, -⟩ := Cond.exactly_spec n248
  have ea22 : (Jvm.Term.static "StoneGazette$Keyword" "PRINT" "LStoneGazette$Keyword;").eval #[Value.ref b] s none [] s = some (.ref a22) := ea22
  have n254 : (Jvm.Cond.exactly (Jvm.Term.static "StoneGazette$Keyword" "DAYS" "LStoneGazette$Keyword;") "StoneGazette$Keyword").before #[Value.ref b] s = true := hw _ (List.mem_of_getElem? (i := 254) (by decide +kernel))
  obtain ⟨a23, _, _, _, ea23, -⟩ := Cond.exactly_spec n254
  have ea23 : (Jvm.Term.static "StoneGazette$Keyword" "DAYS" "LStoneGazette$Keyword;").eval #[Value.ref b] s none [] s = some (.ref a23) := ea23
  have n261 : (Jvm.Cond.exactly (Jvm.Term.static "StoneGazette$Keyword" "DROP" "LStoneGazette$Keyword;") "StoneGazette$Keyword").before #[Value.ref b] s = true := hw _ (List.mem_of_getElem? (i := 261) (by decide +kernel))
  obtain ⟨a24, _, _, _, ea24, -⟩ := Cond.exactly_spec n261
  have ea24 : (Jvm.Term.static "StoneGazette$Keyword" "DROP" "LStoneGazette$Keyword;").eval #[Value.ref b] s none [] s = some (.ref a24) := ea24
  have n230 : (Jvm.Cond.eq (Jvm.Term.elem (Jvm.Term.static "StoneGazette" "KEYWORDS" "[LStoneGazette$Keyword;") (Jvm.Term.int (0 : Int32))) (Jvm.Term.static "StoneGazette$Keyword" "WIDTH" "LStoneGazette$Keyword;")).before #[Value.ref b] s = true := hw _ (List.mem_of_getElem? (i := 230) (by decide +kernel))
  have n231 : (Jvm.Cond.eq (Jvm.Term.elem (Jvm.Term.static "StoneGazette" "KEYWORDS" "[LStoneGazette$Keyword;") (Jvm.Term.int (1 : Int32))) (Jvm.Term.static "StoneGazette$Keyword" "PAGE" "LStoneGazette$Keyword;")).before #[Value.ref b] s = true := hw _ (List.mem_of_getElem? (i := 231) (by decide +kernel))
  have n232 : (Jvm.Cond.eq (Jvm.Term.elem (Jvm.Term.static "StoneGazette" "KEYWORDS" "[LStoneGazette$Keyword;") (Jvm.Term.int (2 : Int32))) (Jvm.Term.static "StoneGazette$Keyword" "PRINT" "LStoneGazette$Keyword;")).before #[Value.ref b] s = true := hw _ (List.mem_of_getElem? (i := 232) (by decide +kernel))
  have n233 : (Jvm.Cond.eq (Jvm.Term.elem (Jvm.Term.static "StoneGazette" "KEYWORDS" "[LStoneGazette$Keyword;") (Jvm.Term.int (3 : Int32))) (Jvm.Term.static "StoneGazette$Keyword" "DAYS" "LStoneGazette$Keyword;")).before #[Value.ref b] s = true := hw _ (List.mem_of_getElem? (i := 233) (by decide +kernel))
  have n234 : (Jvm.Cond.eq (Jvm.Term.elem (Jvm.Term.static "StoneGazette" "KEYWORDS" "[LStoneGazette$Keyword;") (Jvm.Term.int (4 : Int32))) (Jvm.Term.static "StoneGazette$Keyword" "DROP" "LStoneGazette$Keyword;")).before #[Value.ref b] s = true := hw _ (List.mem_of_getElem? (i := 234) (by decide +kernel))
  have n227 : (Jvm.Cond.arrayOf (Jvm.Term.static "StoneGazette" "KEYWORDS" "[LStoneGazette$Keyword;") (Jvm.ClassFile.FieldType.object "StoneGazette$Keyword")).before #[Value.ref b] s = true := hw _ (List.mem_of_getElem? (i := 227) (by decide +kernel))
  have n228 : (Jvm.Cond.eq (Jvm.Term.length (Jvm.Term.static "StoneGazette" "KEYWORDS" "[LStoneGazette$Keyword;")) (Jvm.Term.int (5 : Int32))).before #[Value.ref b] s = true := hw _ (List.mem_of_getElem? (i := 228) (by decide +kernel))
  obtain ⟨a11, ea11, Ta11⟩ := va_Tof (A := fun q : Nat => s.heap.size ≤ q) (N := 5) (f := fun j => .ref ([a20, a21, a22, a23, a24].getD j 0)) (by decide) n227 (va_eqv n228 rfl) (fun j hj => by
      match j, hj with
      | 0, _ => exact va_eqv n230 ea20
      | 1, _ => exact va_eqv n231 ea21
      | 2, _ => exact va_eqv n232 ea22
      | 3, _ => exact va_eqv n233 ea23
      | 4, _ => exact va_eqv n234 ea24
      | k + 5, hj => exact absurd hj (by omega)) hA
  have ea11 : (Jvm.Term.static "StoneGazette" "KEYWORDS" "[LStoneGazette$Keyword;").eval #[Value.ref b] s none [] s = some (.ref a11) := ea11
  have n238 : (Jvm.Cond.eq (Jvm.Term.elem (Jvm.Term.static "StoneGazette$1" "$SwitchMap$StoneGazette$Keyword" "[I") (Jvm.Term.int (0 : Int32))) (Jvm.Term.int (1 : Int32))).before #[Value.ref b] s = true := hw _ (List.mem_of_getElem? (i := 238) (by decide +kernel))
  have n239 : (Jvm.Cond.eq (Jvm.Term.elem (Jvm.Term.static "StoneGazette$1" "$SwitchMap$StoneGazette$Keyword" "[I") (Jvm.Term.int (1 : Int32))) (Jvm.Term.int (2 : Int32))).before #[Value.ref b] s = true := hw _ (List.mem_of_getElem? (i := 239) (by decide +kernel))
  have n240 : (Jvm.Cond.eq (Jvm.Term.elem (Jvm.Term.static "StoneGazette$1" "$SwitchMap$StoneGazette$Keyword" "[I") (Jvm.Term.int (2 : Int32))) (Jvm.Term.int (3 : Int32))).before #[Value.ref b] s = true := hw _ (List.mem_of_getElem? (i := 240) (by decide +kernel))
  have n241 : (Jvm.Cond.eq (Jvm.Term.elem (Jvm.Term.static "StoneGazette$1" "$SwitchMap$StoneGazette$Keyword" "[I") (Jvm.Term.int (3 : Int32))) (Jvm.Term.int (4 : Int32))).before #[Value.ref b] s = true := hw _ (List.mem_of_getElem? (i := 241) (by decide +kernel))
  have n242 : (Jvm.Cond.eq (Jvm.Term.elem (Jvm.Term.static "StoneGazette$1" "$SwitchMap$StoneGazette$Keyword" "[I") (Jvm.Term.int (4 : Int32))) (Jvm.Term.int (5 : Int32))).before #[Value.ref b] s = true := hw _ (List.mem_of_getElem? (i := 242) (by decide +kernel))
  have n236 : (Jvm.Cond.arrayOf (Jvm.Term.static "StoneGazette$1" "$SwitchMap$StoneGazette$Keyword" "[I") Jvm.ClassFile.FieldType.int).before #[Value.ref b] s = true := hw _ (List.mem_of_getElem? (i := 236) (by decide +kernel))
  have n237 : (Jvm.Cond.eq (Jvm.Term.length (Jvm.Term.static "StoneGazette$1" "$SwitchMap$StoneGazette$Keyword" "[I")) (Jvm.Term.int (5 : Int32))).before #[Value.ref b] s = true := hw _ (List.mem_of_getElem? (i := 237) (by decide +kernel))
  obtain ⟨a12, ea12, Ta12⟩ := va_Tof (A := fun q : Nat => s.heap.size ≤ q) (N := 5) (f := fun j => .int (Int32.ofNat (j + 1))) (by decide) n236 (va_eqv n237 rfl) (fun j hj => by
      match j, hj with
      | 0, _ => exact va_eqv n238 rfl
      | 1, _ => exact va_eqv n239 rfl
      | 2, _ => exact va_eqv n240 rfl
      | 3, _ => exact va_eqv n241 rfl
      | 4, _ => exact va_eqv n242 rfl
      | k + 5, hj => exact absurd hj (by omega)) hA
  have ea12 : (Jvm.Term.static "StoneGazette$1" "$SwitchMap$StoneGazette$Keyword" "[I").eval #[Value.ref b] s none [] s = some (.ref a12) := ea12
  have n1373 : (Jvm.Cond.exactly (Jvm.Term.string "StoneGazette$Keyword" (62 : Nat)) "java/lang/String").before #[Value.ref b] s = true := hw _ (List.mem_of_getElem? (i := 1373) (by decide +kernel))
  obtain ⟨a30, _, _, _, ea30, -⟩ := Cond.exactly_spec n1373
  have ea30 : (Jvm.Term.string "StoneGazette$Keyword" (62 : Nat)).eval #[Value.ref b] s none [] s = some (.ref a30) := ea30
  have n1377 : (Jvm.Cond.eq (Jvm.Term.elem (Jvm.Term.field (Jvm.Term.string "StoneGazette$Keyword" (62 : Nat)) "java/lang/String" "value" "[B") (Jvm.Term.int (0 : Int32))) (Jvm.Term.int (119 : Int32))).before #[Value.ref b] s = true := hw _ (List.mem_of_getElem? (i := 1377) (by decide +kernel))
  have n1378 : (Jvm.Cond.eq (Jvm.Term.elem (Jvm.Term.field (Jvm.Term.string "StoneGazette$Keyword" (62 : Nat)) "java/lang/String" "value" "[B") (Jvm.Term.int (1 : Int32))) (Jvm.Term.int (105 : Int32))).before #[Value.ref b] s = true := hw _ (List.mem_of_getElem? (i := 1378) (by decide +kernel))
  have n1379 : (Jvm.Cond.eq (Jvm.Term.elem (Jvm.Term.field (Jvm.Term.string "StoneGazette$Keyword" (62 : Nat)) "java/lang/String" "value" "[B") (Jvm.Term.int (2 : Int32))) (Jvm.Term.int (100 : Int32))).before #[Value.ref b] s = true := hw _ (List.mem_of_getElem? (i := 1379) (by decide +kernel))
  have n1380 : (Jvm.Cond.eq (Jvm.Term.elem (Jvm.Term.field (Jvm.Term.string "StoneGazette$Keyword" (62 : Nat)) "java/lang/String" "value" "[B") (Jvm.Term.int (3 : Int32))) (Jvm.Term.int (116 : Int32))).before #[Value.ref b] s = true := hw _ (List.mem_of_getElem? (i := 1380) (by decide +kernel))
  have n1381 : (Jvm.Cond.eq (Jvm.Term.elem (Jvm.Term.field (Jvm.Term.string "StoneGazette$Keyword" (62 : Nat)) "java/lang/String" "value" "[B") (Jvm.Term.int (4 : Int32))) (Jvm.Term.int (104 : Int32))).before #[Value.ref b] s = true := hw _ (List.mem_of_getElem? (i := 1381) (by decide +kernel))
  have n1382 : (Jvm.Cond.eq (Jvm.Term.elem (Jvm.Term.field (Jvm.Term.string "StoneGazette$Keyword" (62 : Nat)) "java/lang/String" "value" "[B") (Jvm.Term.int (5 : Int32))) (Jvm.Term.int (32 : Int32))).before #[Value.ref b] s = true := hw _ (List.mem_of_getElem? (i := 1382) (by decide +kernel))
  have n1375 : (Jvm.Cond.arrayOf (Jvm.Term.field (Jvm.Term.string "StoneGazette$Keyword" (62 : Nat)) "java/lang/String" "value" "[B") Jvm.ClassFile.FieldType.byte).before #[Value.ref b] s = true := hw _ (List.mem_of_getElem? (i := 1375) (by decide +kernel))
  have n1376 : (Jvm.Cond.eq (Jvm.Term.length (Jvm.Term.field (Jvm.Term.string "StoneGazette$Keyword" (62 : Nat)) "java/lang/String" "value" "[B")) (Jvm.Term.int (6 : Int32))).before #[Value.ref b] s = true := hw _ (List.mem_of_getElem? (i := 1376) (by decide +kernel))
  obtain ⟨a40, ea40, Ta40⟩ := va_Tof (A := fun q : Nat => s.heap.size ≤ q) (N := 6) (f := fun k => .int (([119, 105, 100, 116, 104, 32] : List Int32).getD k 0)) (by decide) n1375 (va_eqv n1376 rfl) (fun j hj => by
      match j, hj with
      | 0, _ => exact va_eqv n1377 rfl
      | 1, _ => exact va_eqv n1378 rfl
      | 2, _ => exact va_eqv n1379 rfl
      | 3, _ => exact va_eqv n1380 rfl
      | 4, _ => exact va_eqv n1381 rfl
      | 5, _ => exact va_eqv n1382 rfl
      | k + 6, hj => exact absurd hj (by omega)) hA
  have ea40 : (Jvm.Term.field (Jvm.Term.string "StoneGazette$Keyword" (62 : Nat)) "java/lang/String" "value" "[B").eval #[Value.ref b] s none [] s = some (.ref a40) := ea40
  have n1384 : (Jvm.Cond.exactly (Jvm.Term.string "StoneGazette$Keyword" (68 : Nat)) "java/lang/String").before #[Value.ref b] s = true := hw _ (List.mem_of_getElem? (i := 1384) (by decide +kernel))
  obtain ⟨a31, _, _, _, ea31, -⟩ := Cond.exactly_spec n1384
  have ea31 : (Jvm.Term.string "StoneGazette$Keyword" (68 : Nat)).eval #[Value.ref b] s none [] s = some (.ref a31) := ea31
  have n1388 : (Jvm.Cond.eq (Jvm.Term.elem (Jvm.Term.field (Jvm.Term.string "StoneGazette$Keyword" (68 : Nat)) "java/lang/String" "value" "[B") (Jvm.Term.int (0 : Int32))) (Jvm.Term.int (112 : Int32))).before #[Value.ref b] s = true := hw _ (List.mem_of_getElem? (i := 1388) (by decide +kernel))
  have n1389 : (Jvm.Cond.eq (Jvm.Term.elem (Jvm.Term.field (Jvm.Term.string "StoneGazette$Keyword" (68 : Nat)) "java/lang/String" "value" "[B") (Jvm.Term.int (1 : Int32))) (Jvm.Term.int (97 : Int32))).before #[Value.ref b] s = true := hw _ (List.mem_of_getElem? (i := 1389) (by decide +kernel))
  have n1390 : (Jvm.Cond.eq (Jvm.Term.elem (Jvm.Term.field (Jvm.Term.string "StoneGazette$Keyword" (68 : Nat)) "java/lang/String" "value" "[B") (Jvm.Term.int (2 : Int32))) (Jvm.Term.int (103 : Int32))).before #[Value.ref b] s = true := hw _ (List.mem_of_getElem? (i := 1390) (by decide +kernel))
  have n1391 : (Jvm.Cond.eq (Jvm.Term.elem (Jvm.Term.field (Jvm.Term.string "StoneGazette$Keyword" (68 : Nat)) "java/lang/String" "value" "[B") (Jvm.Term.int (3 : Int32))) (Jvm.Term.int (101 : Int32))).before #[Value.ref b] s = true := hw _ (List.mem_of_getElem? (i := 1391) (by decide +kernel))
  have n1392 : (Jvm.Cond.eq (Jvm.Term.elem (Jvm.Term.field (Jvm.Term.string "StoneGazette$Keyword" (68 : Nat)) "java/lang/String" "value" "[B") (Jvm.Term.int (4 : Int32))) (Jvm.Term.int (32 : Int32))).before #[Value.ref b] s = true := hw _ (List.mem_of_getElem? (i := 1392) (by decide +kernel))
  have n1386 : (Jvm.Cond.arrayOf (Jvm.Term.field (Jvm.Term.string "StoneGazette$Keyword" (68 : Nat)) "java/lang/String" "value" "[B") Jvm.ClassFile.FieldType.byte).before #[Value.ref b] s = true := hw _ (List.mem_of_getElem? (i := 1386) (by decide +kernel))
  have n1387 : (Jvm.Cond.eq (Jvm.Term.length (Jvm.Term.field (Jvm.Term.string "StoneGazette$Keyword" (68 : Nat)) "java/lang/String" "value" "[B")) (Jvm.Term.int (5 : Int32))).before #[Value.ref b] s = true := hw _ (List.mem_of_getElem? (i := 1387) (by decide +kernel))
  obtain ⟨a41, ea41, Ta41⟩ := va_Tof (A := fun q : Nat => s.heap.size ≤ q) (N := 5) (f := fun k => .int (([112, 97, 103, 101, 32] : List Int32).getD k 0)) (by decide) n1386 (va_eqv n1387 rfl) (fun j hj => by
      match j, hj with
      | 0, _ => exact va_eqv n1388 rfl
      | 1, _ => exact va_eqv n1389 rfl
      | 2, _ => exact va_eqv n1390 rfl
      | 3, _ => exact va_eqv n1391 rfl
      | 4, _ => exact va_eqv n1392 rfl
      | k + 5, hj => exact absurd hj (by omega)) hA
  have ea41 : (Jvm.Term.field (Jvm.Term.string "StoneGazette$Keyword" (68 : Nat)) "java/lang/String" "value" "[B").eval #[Value.ref b] s none [] s = some (.ref a41) := ea41
  have n1393 : (Jvm.Cond.exactly (Jvm.Term.string "StoneGazette$Keyword" (71 : Nat)) "java/lang/String").before #[Value.ref b] s = true := hw _ (List.mem_of_getElem? (i := 1393) (by decide +kernel))
  obtain ⟨a32, _, _, _, ea32, -⟩ := Cond.exactly_spec n1393
  have ea32 : (Jvm.Term.string "StoneGazette$Keyword" (71 : Nat)).eval #[Value.ref b] s none [] s = some (.ref a32) := ea32
  have n1397 : (Jvm.Cond.eq (Jvm.Term.elem (Jvm.Term.field (Jvm.Term.string "StoneGazette$Keyword" (71 : Nat)) "java/lang/String" "value" "[B") (Jvm.Term.int (0 : Int32))) (Jvm.Term.int (112 : Int32))).before #[Value.ref b] s = true := hw _ (List.mem_of_getElem? (i := 1397) (by decide +kernel))
  have n1398 : (Jvm.Cond.eq (Jvm.Term.elem (Jvm.Term.field (Jvm.Term.string "StoneGazette$Keyword" (71 : Nat)) "java/lang/String" "value" "[B") (Jvm.Term.int (1 : Int32))) (Jvm.Term.int (114 : Int32))).before #[Value.ref b] s = true := hw _ (List.mem_of_getElem? (i := 1398) (by decide +kernel))
  have n1399 : (Jvm.Cond.eq (Jvm.Term.elem (Jvm.Term.field (Jvm.Term.string "StoneGazette$Keyword" (71 : Nat)) "java/lang/String" "value" "[B") (Jvm.Term.int (2 : Int32))) (Jvm.Term.int (105 : Int32))).before #[Value.ref b] s = true := hw _ (List.mem_of_getElem? (i := 1399) (by decide +kernel))
  have n1400 : (Jvm.Cond.eq (Jvm.Term.elem (Jvm.Term.field (Jvm.Term.string "StoneGazette$Keyword" (71 : Nat)) "java/lang/String" "value" "[B") (Jvm.Term.int (3 : Int32))) (Jvm.Term.int (110 : Int32))).before #[Value.ref b] s = true := hw _ (List.mem_of_getElem? (i := 1400) (by decide +kernel))
  have n1401 : (Jvm.Cond.eq (Jvm.Term.elem (Jvm.Term.field (Jvm.Term.string "StoneGazette$Keyword" (71 : Nat)) "java/lang/String" "value" "[B") (Jvm.Term.int (4 : Int32))) (Jvm.Term.int (116 : Int32))).before #[Value.ref b] s = true := hw _ (List.mem_of_getElem? (i := 1401) (by decide +kernel))
  have n1395 : (Jvm.Cond.arrayOf (Jvm.Term.field (Jvm.Term.string "StoneGazette$Keyword" (71 : Nat)) "java/lang/String" "value" "[B") Jvm.ClassFile.FieldType.byte).before #[Value.ref b] s = true := hw _ (List.mem_of_getElem? (i := 1395) (by decide +kernel))
  have n1396 : (Jvm.Cond.eq (Jvm.Term.length (Jvm.Term.field (Jvm.Term.string "StoneGazette$Keyword" (71 : Nat)) "java/lang/String" "value" "[B")) (Jvm.Term.int (5 : Int32))).before #[Value.ref b] s = true := hw _ (List.mem_of_getElem? (i := 1396) (by decide +kernel))
  obtain ⟨a42, ea42, Ta42⟩ := va_Tof (A := fun q : Nat => s.heap.size ≤ q) (N := 5) (f := fun k => .int (([112, 114, 105, 110, 116] : List Int32).getD k 0)) (by decide) n1395 (va_eqv n1396 rfl) (fun j hj => by
      match j, hj with
      | 0, _ => exact va_eqv n1397 rfl
      | 1, _ => exact va_eqv n1398 rfl
      | 2, _ => exact va_eqv n1399 rfl
      | 3, _ => exact va_eqv n1400 rfl
      | 4, _ => exact va_eqv n1401 rfl
      | k + 5, hj => exact absurd hj (by omega)) hA
  have ea42 : (Jvm.Term.field (Jvm.Term.string "StoneGazette$Keyword" (71 : Nat)) "java/lang/String" "value" "[B").eval #[Value.ref b] s none [] s = some (.ref a42) := ea42
  have n1402 : (Jvm.Cond.exactly (Jvm.Term.string "StoneGazette$Keyword" (74 : Nat)) "java/lang/String").before #[Value.ref b] s = true := hw _ (List.mem_of_getElem? (i := 1402) (by decide +kernel))
  obtain ⟨a33, _, _, _, ea33, -⟩ := Cond.exactly_spec n1402
  have ea33 : (Jvm.Term.string "StoneGazette$Keyword" (74 : Nat)).eval #[Value.ref b] s none [] s = some (.ref a33) := ea33
  have n1406 : (Jvm.Cond.eq (Jvm.Term.elem (Jvm.Term.field (Jvm.Term.string "StoneGazette$Keyword" (74 : Nat)) "java/lang/String" "value" "[B") (Jvm.Term.int (0 : Int32))) (Jvm.Term.int (100 : Int32))).before #[Value.ref b] s = true := hw _ (List.mem_of_getElem? (i := 1406) (by decide +kernel))
  have n1407 : (Jvm.Cond.eq (Jvm.Term.elem (Jvm.Term.field (Jvm.Term.string "StoneGazette$Keyword" (74 : Nat)) "java/lang/String" "value" "[B") (Jvm.Term.int (1 : Int32))) (Jvm.Term.int (97 : Int32))).before #[Value.ref b] s = true := hw _ (List.mem_of_getElem? (i := 1407) (by decide +kernel))
  have n1408 : (Jvm.Cond.eq (Jvm.Term.elem (Jvm.Term.field (Jvm.Term.string "StoneGazette$Keyword" (74 : Nat)) "java/lang/String" "value" "[B") (Jvm.Term.int (2 : Int32))) (Jvm.Term.int (121 : Int32))).before #[Value.ref b] s = true := hw _ (List.mem_of_getElem? (i := 1408) (by decide +kernel))
  have n1409 : (Jvm.Cond.eq (Jvm.Term.elem (Jvm.Term.field (Jvm.Term.string "StoneGazette$Keyword" (74 : Nat)) "java/lang/String" "value" "[B") (Jvm.Term.int (3 : Int32))) (Jvm.Term.int (115 : Int32))).before #[Value.ref b] s = true := hw _ (List.mem_of_getElem? (i := 1409) (by decide +kernel))
  have n1410 : (Jvm.Cond.eq (Jvm.Term.elem (Jvm.Term.field (Jvm.Term.string "StoneGazette$Keyword" (74 : Nat)) "java/lang/String" "value" "[B") (Jvm.Term.int (4 : Int32))) (Jvm.Term.int (32 : Int32))).before #[Value.ref b] s = true := hw _ (List.mem_of_getElem? (i := 1410) (by decide +kernel))
  have n1404 : (Jvm.Cond.arrayOf (Jvm.Term.field (Jvm.Term.string "StoneGazette$Keyword" (74 : Nat)) "java/lang/String" "value" "[B") Jvm.ClassFile.FieldType.byte).before #[Value.ref b] s = true := hw _ (List.mem_of_getElem? (i := 1404) (by decide +kernel))
  have n1405 : (Jvm.Cond.eq (Jvm.Term.length (Jvm.Term.field (Jvm.Term.string "StoneGazette$Keyword" (74 : Nat)) "java/lang/String" "value" "[B")) (Jvm.Term.int (5 : Int32))).before #[Value.ref b] s = true := hw _ (List.mem_of_getElem? (i := 1405) (by decide +kernel))
  obtain ⟨a43, ea43, Ta43⟩ := va_Tof (A := fun q : Nat => s.heap.size ≤ q) (N := 5) (f := fun k => .int (([100, 97, 121, 115, 32] : List Int32).getD k 0)) (by decide) n1404 (va_eqv n1405 rfl) (fun j hj => by
      match j, hj with
      | 0, _ => exact va_eqv n1406 rfl
      | 1, _ => exact va_eqv n1407 rfl
      | 2, _ => exact va_eqv n1408 rfl
      | 3, _ => exact va_eqv n1409 rfl
      | 4, _ => exact va_eqv n1410 rfl
      | k + 5, hj => exact absurd hj (by omega)) hA
  have ea43 : (Jvm.Term.field (Jvm.Term.string "StoneGazette$Keyword" (74 : Nat)) "java/lang/String" "value" "[B").eval #[Value.ref b] s none [] s = some (.ref a43) := ea43
  have n1411 : (Jvm.Cond.exactly (Jvm.Term.string "StoneGazette$Keyword" (77 : Nat)) "java/lang/String").before #[Value.ref b] s = true := hw _ (List.mem_of_getElem? (i := 1411) (by decide +kernel))
  obtain ⟨a34, _, _, _, ea34, -⟩ := Cond.exactly_spec n1411
  have ea34 : (Jvm.Term.string "StoneGazette$Keyword" (77 : Nat)).eval #[Value.ref b] s none [] s = some (.ref a34) := ea34
  have n1415 : (Jvm.Cond.eq (Jvm.Term.elem (Jvm.Term.field (Jvm.Term.string "StoneGazette$Keyword" (77 : Nat)) "java/lang/String" "value" "[B") (Jvm.Term.int (0 : Int32))) (Jvm.Term.int (100 : Int32))).before #[Value.ref b] s = true := hw _ (List.mem_of_getElem? (i := 1415) (by decide +kernel))
  have n1416 : (Jvm.Cond.eq (Jvm.Term.elem (Jvm.Term.field (Jvm.Term.string "StoneGazette$Keyword" (77 : Nat)) "java/lang/String" "value" "[B") (Jvm.Term.int (1 : Int32))) (Jvm.Term.int (114 : Int32))).before #[Value.ref b] s = true := hw _ (List.mem_of_getElem? (i := 1416) (by decide +kernel))
  have n1417 : (Jvm.Cond.eq (Jvm.Term.elem (Jvm.Term.field (Jvm.Term.string "StoneGazette$Keyword" (77 : Nat)) "java/lang/String" "value" "[B") (Jvm.Term.int (2 : Int32))) (Jvm.Term.int (111 : Int32))).before #[Value.ref b] s = true := hw _ (List.mem_of_getElem? (i := 1417) (by decide +kernel))
  have n1418 : (Jvm.Cond.eq (Jvm.Term.elem (Jvm.Term.field (Jvm.Term.string "StoneGazette$Keyword" (77 : Nat)) "java/lang/String" "value" "[B") (Jvm.Term.int (3 : Int32))) (Jvm.Term.int (112 : Int32))).before #[Value.ref b] s = true := hw _ (List.mem_of_getElem? (i := 1418) (by decide +kernel))
  have n1419 : (Jvm.Cond.eq (Jvm.Term.elem (Jvm.Term.field (Jvm.Term.string "StoneGazette$Keyword" (77 : Nat)) "java/lang/String" "value" "[B") (Jvm.Term.int (4 : Int32))) (Jvm.Term.int (32 : Int32))).before #[Value.ref b] s = true := hw _ (List.mem_of_getElem? (i := 1419) (by decide +kernel))
  have n1413 : (Jvm.Cond.arrayOf (Jvm.Term.field (Jvm.Term.string "StoneGazette$Keyword" (77 : Nat)) "java/lang/String" "value" "[B") Jvm.ClassFile.FieldType.byte).before #[Value.ref b] s = true := hw _ (List.mem_of_getElem? (i := 1413) (by decide +kernel))
  have n1414 : (Jvm.Cond.eq (Jvm.Term.length (Jvm.Term.field (Jvm.Term.string "StoneGazette$Keyword" (77 : Nat)) "java/lang/String" "value" "[B")) (Jvm.Term.int (5 : Int32))).before #[Value.ref b] s = true := hw _ (List.mem_of_getElem? (i := 1414) (by decide +kernel))
  obtain ⟨a44, ea44, Ta44⟩ := va_Tof (A := fun q : Nat => s.heap.size ≤ q) (N := 5) (f := fun k => .int (([100, 114, 111, 112, 32] : List Int32).getD k 0)) (by decide) n1413 (va_eqv n1414 rfl) (fun j hj => by
      match j, hj with
      | 0, _ => exact va_eqv n1415 rfl
      | 1, _ => exact va_eqv n1416 rfl
      | 2, _ => exact va_eqv n1417 rfl
      | 3, _ => exact va_eqv n1418 rfl
      | 4, _ => exact va_eqv n1419 rfl
      | k + 5, hj => exact absurd hj (by omega)) hA
  have ea44 : (Jvm.Term.field (Jvm.Term.string "StoneGazette$Keyword" (77 : Nat)) "java/lang/String" "value" "[B").eval #[Value.ref b] s none [] s = some (.ref a44) := ea44
  have n401 : (Jvm.Cond.exactly (Jvm.Term.string "StoneGazetteLaw" (160 : Nat)) "java/lang/String").before #[Value.ref b] s = true := hw _ (List.mem_of_getElem? (i := 401) (by decide +kernel))
  obtain ⟨a50, _, _, _, ea50, -⟩ := Cond.exactly_spec n401
  have ea50 : (Jvm.Term.string "StoneGazetteLaw" (160 : Nat)).eval #[Value.ref b] s none [] s = some (.ref a50) := ea50
  have n403 : (Jvm.Cond.arrayOf (Jvm.Term.field (Jvm.Term.string "StoneGazetteLaw" (160 : Nat)) "java/lang/String" "value" "[B") Jvm.ClassFile.FieldType.byte).before #[Value.ref b] s = true := hw _ (List.mem_of_getElem? (i := 403) (by decide +kernel))
  have n404 : (Jvm.Cond.eq (Jvm.Term.length (Jvm.Term.field (Jvm.Term.string "StoneGazetteLaw" (160 : Nat)) "java/lang/String" "value" "[B")) (Jvm.Term.int (0 : Int32))).before #[Value.ref b] s = true := hw _ (List.mem_of_getElem? (i := 404) (by decide +kernel))
  obtain ⟨a70, ea70, Ta70⟩ := va_Tof (A := fun q : Nat => s.heap.size ≤ q) (N := 0) (f := fun k => .int (([] : List Int32).getD k 0)) (by decide) n403 (va_eqv n404 rfl) (fun j hj => absurd hj (Nat.not_lt_zero j)) hA
  have ea70 : (Jvm.Term.field (Jvm.Term.string "StoneGazetteLaw" (160 : Nat)) "java/lang/String" "value" "[B").eval #[Value.ref b] s none [] s = some (.ref a70) := ea70
  have n405 : (Jvm.Cond.exactly (Jvm.Term.string "StoneGazetteLaw" (169 : Nat)) "java/lang/String").before #[Value.ref b] s = true := hw _ (List.mem_of_getElem? (i := 405) (by decide +kernel))
  obtain ⟨a51, _, _, _, ea51, -⟩ := Cond.exactly_spec n405
  have ea51 : (Jvm.Term.string "StoneGazetteLaw" (169 : Nat)).eval #[Value.ref b] s none [] s = some (.ref a51) := ea51
  have n409 : (Jvm.Cond.eq (Jvm.Term.elem (Jvm.Term.field (Jvm.Term.string "StoneGazetteLaw" (169 : Nat)) "java/lang/String" "value" "[B") (Jvm.Term.int (0 : Int32))) (Jvm.Term.int (116 : Int32))).before #[Value.ref b] s = true := hw _ (List.mem_of_getElem? (i := 409) (by decide +kernel))
  have n410 : (Jvm.Cond.eq (Jvm.Term.elem (Jvm.Term.field (Jvm.Term.string "StoneGazetteLaw" (169 : Nat)) "java/lang/String" "value" "[B") (Jvm.Term.int (1 : Int32))) (Jvm.Term.int (97 : Int32))).before #[Value.ref b] s = true := hw _ (List.mem_of_getElem? (i := 410) (by decide +kernel))
  have n411 : (Jvm.Cond.eq (Jvm.Term.elem (Jvm.Term.field (Jvm.Term.string "StoneGazetteLaw" (169 : Nat)) "java/lang/String" "value" "[B") (Jvm.Term.int (2 : Int32))) (Jvm.Term.int (101 : Int32))).before #[Value.ref b] s = true := hw _ (List.mem_of_getElem? (i := 411) (by decide +kernel))
  have n412 : (Jvm.Cond.eq (Jvm.Term.elem (Jvm.Term.field (Jvm.Term.string "StoneGazetteLaw" (169 : Nat)) "java/lang/String" "value" "[B") (Jvm.Term.int (3 : Int32))) (Jvm.Term.int (110 : Int32))).before #[Value.ref b] s = true := hw _ (List.mem_of_getElem? (i := 412) (by decide +kernel))
  have n413 : (Jvm.Cond.eq (Jvm.Term.elem (Jvm.Term.field (Jvm.Term.string "StoneGazetteLaw" (169 : Nat)) "java/lang/String" "value" "[B") (Jvm.Term.int (4 : Int32))) (Jvm.Term.int (111 : Int32))).before #[Value.ref b] s = true := hw _ (List.mem_of_getElem? (i := 413) (by decide +kernel))
  have n414 : (Jvm.Cond.eq (Jvm.Term.elem (Jvm.Term.field (Jvm.Term.string "StoneGazetteLaw" (169 : Nat)) "java/lang/String" "value" "[B") (Jvm.Term.int (5 : Int32))) (Jvm.Term.int (114 : Int32))).before #[Value.ref b] s = true := hw _ (List.mem_of_getElem? (i := 414) (by decide +kernel))
  have n415 : (Jvm.Cond.eq (Jvm.Term.elem (Jvm.Term.field (Jvm.Term.string "StoneGazetteLaw" (169 : Nat)) "java/lang/String" "value" "[B") (Jvm.Term.int (6 : Int32))) (Jvm.Term.int (105 : Int32))).before #[Value.ref b] s = true := hw _ (List.mem_of_getElem? (i := 415) (by decide +kernel))
  have n416 : (Jvm.Cond.eq (Jvm.Term.elem (Jvm.Term.field (Jvm.Term.string "StoneGazetteLaw" (169 : Nat)) "java/lang/String" "value" "[B") (Jvm.Term.int (7 : Int32))) (Jvm.Term.int (115 : Int32))).before #[Value.ref b] s = true := hw _ (List.mem_of_getElem? (i := 416) (by decide +kernel))
  have n417 : (Jvm.Cond.eq (Jvm.Term.elem (Jvm.Term.field (Jvm.Term.string "StoneGazetteLaw" (169 : Nat)) "java/lang/String" "value" "[B") (Jvm.Term.int (8 : Int32))) (Jvm.Term.int (117 : Int32))).before #[Value.ref b] s = true := hw _ (List.mem_of_getElem? (i := 417) (by decide +kernel))
  have n418 : (Jvm.Cond.eq (Jvm.Term.elem (Jvm.Term.field (Jvm.Term.string "StoneGazetteLaw" (169 : Nat)) "java/lang/String" "value" "[B") (Jvm.Term.int (9 : Int32))) (Jvm.Term.int (108 : Int32))).before #[Value.ref b] s = true := hw _ (List.mem_of_getElem? (i := 418) (by decide +kernel))
  have n419 : (Jvm.Cond.eq (Jvm.Term.elem (Jvm.Term.field (Jvm.Term.string "StoneGazetteLaw" (169 : Nat)) "java/lang/String" "value" "[B") (Jvm.Term.int (10 : Int32))) (Jvm.Term.int (98 : Int32))).before #[Value.ref b] s = true := hw _ (List.mem_of_getElem? (i := 419) (by decide +kernel))
  have n420 : (Jvm.Cond.eq (Jvm.Term.elem (Jvm.Term.field (Jvm.Term.string "StoneGazetteLaw" (169 : Nat)) "java/lang/String" "value" "[B") (Jvm.Term.int (11 : Int32))) (Jvm.Term.int (101 : Int32))).before #[Value.ref b] s = true := hw _ (List.mem_of_getElem? (i := 420) (by decide +kernel))
  have n407 : (Jvm.Cond.arrayOf (Jvm.Term.field (Jvm.Term.string "StoneGazetteLaw" (169 : Nat)) "java/lang/String" "value" "[B") Jvm.ClassFile.FieldType.byte).before #[Value.ref b] s = true := hw _ (List.mem_of_getElem? (i := 407) (by decide +kernel))
  have n408 : (Jvm.Cond.eq (Jvm.Term.length (Jvm.Term.field (Jvm.Term.string "StoneGazetteLaw" (169 : Nat)) "java/lang/String" "value" "[B")) (Jvm.Term.int (12 : Int32))).before #[Value.ref b] s = true := hw _ (List.mem_of_getElem? (i := 408) (by decide +kernel))
  obtain ⟨a71, ea71, Ta71⟩ := va_Tof (A := fun q : Nat => s.heap.size ≤ q) (N := 12) (f := fun k => .int (([116, 97, 101, 110, 111, 114, 105, 115, 117, 108, 98, 101] : List Int32).getD k 0)) (by decide) n407 (va_eqv n408 rfl) (fun j hj => by
      match j, hj with
      | 0, _ => exact va_eqv n409 rfl
      | 1, _ => exact va_eqv n410 rfl
      | 2, _ => exact va_eqv n411 rfl
      | 3, _ => exact va_eqv n412 rfl
      | 4, _ => exact va_eqv n413 rfl
      | 5, _ => exact va_eqv n414 rfl
      | 6, _ => exact va_eqv n415 rfl
      | 7, _ => exact va_eqv n416 rfl
      | 8, _ => exact va_eqv n417 rfl
      | 9, _ => exact va_eqv n418 rfl
      | 10, _ => exact va_eqv n419 rfl
      | 11, _ => exact va_eqv n420 rfl
      | k + 12, hj => exact absurd hj (by omega)) hA
  have ea71 : (Jvm.Term.field (Jvm.Term.string "StoneGazetteLaw" (169 : Nat)) "java/lang/String" "value" "[B").eval #[Value.ref b] s none [] s = some (.ref a71) := ea71
  have n428 : (Jvm.Cond.exactly (Jvm.Term.string "StoneGazetteLaw" (182 : Nat)) "java/lang/String").before #[Value.ref b] s = true := hw _ (List.mem_of_getElem? (i := 428) (by decide +kernel))
  obtain ⟨a52, _, _, _, ea52, -⟩ := Cond.exactly_spec n428
  have ea52 : (Jvm.Term.string "StoneGazetteLaw" (182 : Nat)).eval #[Value.ref b] s none [] s = some (.ref a52) := ea52
  have n432 : (Jvm.Cond.eq (Jvm.Term.elem (Jvm.Term.field (Jvm.Term.string "StoneGazetteLaw" (182 : Nat)) "java/lang/String" "value" "[B") (Jvm.Term.int (0 : Int32))) (Jvm.Term.int (32 : Int32))).before #[Value.ref b] s = true := hw _ (List.mem_of_getElem? (i := 432) (by decide +kernel))
  have n430 : (Jvm.Cond.arrayOf (Jvm.Term.field (Jvm.Term.string "StoneGazetteLaw" (182 : Nat)) "java/lang/String" "value" "[B") Jvm.ClassFile.FieldType.byte).before #[Value.ref b] s = true := hw _ (List.mem_of_getElem? (i := 430) (by decide +kernel))
  have n431 : (Jvm.Cond.eq (Jvm.Term.length (Jvm.Term.field (Jvm.Term.string "StoneGazetteLaw" (182 : Nat)) "java/lang/String" "value" "[B")) (Jvm.Term.int (1 : Int32))).before #[Value.ref b] s = true := hw _ (List.mem_of_getElem? (i := 431) (by decide +kernel))
  obtain ⟨a72, ea72, Ta72⟩ := va_Tof (A := fun q : Nat => s.heap.size ≤ q) (N := 1) (f := fun k => .int (([32] : List Int32).getD k 0)) (by decide) n430 (va_eqv n431 rfl) (fun j hj => by
      match j, hj with
      | 0, _ => exact va_eqv n432 rfl
      | k + 1, hj => exact absurd hj (by omega)) hA
  have ea72 : (Jvm.Term.field (Jvm.Term.string "StoneGazetteLaw" (182 : Nat)) "java/lang/String" "value" "[B").eval #[Value.ref b] s none [] s = some (.ref a72) := ea72
  have n963 : (Jvm.Cond.exactly (Jvm.Term.string "StoneGazetteLaw" (271 : Nat)) "java/lang/String").before #[Value.ref b] s = true := hw _ (List.mem_of_getElem? (i := 963) (by decide +kernel))
  obtain ⟨a53, _, _, _, ea53, -⟩ := Cond.exactly_spec n963
  have ea53 : (Jvm.Term.string "StoneGazetteLaw" (271 : Nat)).eval #[Value.ref b] s none [] s = some (.ref a53) := ea53
  have n967 : (Jvm.Cond.eq (Jvm.Term.elem (Jvm.Term.field (Jvm.Term.string "StoneGazetteLaw" (271 : Nat)) "java/lang/String" "value" "[B") (Jvm.Term.int (0 : Int32))) (Jvm.Term.int (33 : Int32))).before #[Value.ref b] s = true := hw _ (List.mem_of_getElem? (i := 967) (by decide +kernel))
  have n965 : (Jvm.Cond.arrayOf (Jvm.Term.field (Jvm.Term.string "StoneGazetteLaw" (271 : Nat)) "java/lang/String" "value" "[B") Jvm.ClassFile.FieldType.byte).before #[Value.ref b] s = true := hw _ (List.mem_of_getElem? (i := 965) (by decide +kernel))
  have n966 : (Jvm.Cond.eq (Jvm.Term.length (Jvm.Term.field (Jvm.Term.string "StoneGazetteLaw" (271 : Nat)) "java/lang/String" "value" "[B")) (Jvm.Term.int (1 : Int32))).before #[Value.ref b] s = true := hw _ (List.mem_of_getElem? (i := 966) (by decide +kernel))
  obtain ⟨a73, ea73, Ta73⟩ := va_Tof (A := fun q : Nat => s.heap.size ≤ q) (N := 1) (f := fun k => .int (([33] : List Int32).getD k 0)) (by decide) n965 (va_eqv n966 rfl) (fun j hj => by
      match j, hj with
      | 0, _ => exact va_eqv n967 rfl
      | k + 1, hj => exact absurd hj (by omega)) hA
  have ea73 : (Jvm.Term.field (Jvm.Term.string "StoneGazetteLaw" (271 : Nat)) "java/lang/String" "value" "[B").eval #[Value.ref b] s none [] s = some (.ref a73) := ea73
  have n968 : (Jvm.Cond.exactly (Jvm.Term.string "StoneGazetteLaw" (273 : Nat)) "java/lang/String").before #[Value.ref b] s = true := hw _ (List.mem_of_getElem? (i := 968) (by decide +kernel))
  obtain ⟨a54, _, _, _, ea54, -⟩ := Cond.exactly_spec n968
  have ea54 : (Jvm.Term.string "StoneGazetteLaw" (273 : Nat)).eval #[Value.ref b] s none [] s = some (.ref a54) := ea54
  have n972 : (Jvm.Cond.eq (Jvm.Term.elem (Jvm.Term.field (Jvm.Term.string "StoneGazetteLaw" (273 : Nat)) "java/lang/String" "value" "[B") (Jvm.Term.int (0 : Int32))) (Jvm.Term.int (58 : Int32))).before #[Value.ref b] s = true := hw _ (List.mem_of_getElem? (i := 972) (by decide +kernel))
  have n970 : (Jvm.Cond.arrayOf (Jvm.Term.field (Jvm.Term.string "StoneGazetteLaw" (273 : Nat)) "java/lang/String" "value" "[B") Jvm.ClassFile.FieldType.byte).before #[Value.ref b] s = true := hw _ (List.mem_of_getElem? (i := 970) (by decide +kernel))
  have n971 : (Jvm.Cond.eq (Jvm.Term.length (Jvm.Term.field (Jvm.Term.string "StoneGazetteLaw" (273 : Nat)) "java/lang/String" "value" "[B")) (Jvm.Term.int (1 : Int32))).before #[Value.ref b] s = true := hw _ (List.mem_of_getElem? (i := 971) (by decide +kernel))
  obtain ⟨a74, ea74, Ta74⟩ := va_Tof (A := fun q : Nat => s.heap.size ≤ q) (N := 1) (f := fun k => .int (([58] : List Int32).getD k 0)) (by decide) n970 (va_eqv n971 rfl) (fun j hj => by
      match j, hj with
      | 0, _ => exact va_eqv n972 rfl
      | k + 1, hj => exact absurd hj (by omega)) hA
  have ea74 : (Jvm.Term.field (Jvm.Term.string "StoneGazetteLaw" (273 : Nat)) "java/lang/String" "value" "[B").eval #[Value.ref b] s none [] s = some (.ref a74) := ea74
  have n973 : (Jvm.Cond.exactly (Jvm.Term.string "StoneGazetteLaw" (217 : Nat)) "java/lang/String").before #[Value.ref b] s = true := hw _ (List.mem_of_getElem? (i := 973) (by decide +kernel))
  obtain ⟨a55, _, _, _, ea55, -⟩ := Cond.exactly_spec n973
  have ea55 : (Jvm.Term.string "StoneGazetteLaw" (217 : Nat)).eval #[Value.ref b] s none [] s = some (.ref a55) := ea55
  have n977 : (Jvm.Cond.eq (Jvm.Term.elem (Jvm.Term.field (Jvm.Term.string "StoneGazetteLaw" (217 : Nat)) "java/lang/String" "value" "[B") (Jvm.Term.int (0 : Int32))) (Jvm.Term.int (97 : Int32))).before #[Value.ref b] s = true := hw _ (List.mem_of_getElem? (i := 977) (by decide +kernel))
  have n978 : (Jvm.Cond.eq (Jvm.Term.elem (Jvm.Term.field (Jvm.Term.string "StoneGazetteLaw" (217 : Nat)) "java/lang/String" "value" "[B") (Jvm.Term.int (1 : Int32))) (Jvm.Term.int (101 : Int32))).before #[Value.ref b] s = true := hw _ (List.mem_of_getElem? (i := 978) (by decide +kernel))
  have n979 : (Jvm.Cond.eq (Jvm.Term.elem (Jvm.Term.field (Jvm.Term.string "StoneGazetteLaw" (217 : Nat)) "java/lang/String" "value" "[B") (Jvm.Term.int (2 : Int32))) (Jvm.Term.int (105 : Int32))).before #[Value.ref b] s = true := hw _ (List.mem_of_getElem? (i := 979) (by decide +kernel))
  have n980 : (Jvm.Cond.eq (Jvm.Term.elem (Jvm.Term.field (Jvm.Term.string "StoneGazetteLaw" (217 : Nat)) "java/lang/String" "value" "[B") (Jvm.Term.int (3 : Int32))) (Jvm.Term.int (111 : Int32))).before #[Value.ref b] s = true := hw _ (List.mem_of_getElem? (i := 980) (by decide +kernel))
  have n981 : (Jvm.Cond.eq (Jvm.Term.elem (Jvm.Term.field (Jvm.Term.string "StoneGazetteLaw" (217 : Nat)) "java/lang/String" "value" "[B") (Jvm.Term.int (4 : Int32))) (Jvm.Term.int (117 : Int32))).before #[Value.ref b] s = true := hw _ (List.mem_of_getElem? (i := 981) (by decide +kernel))
  have n975 : (Jvm.Cond.arrayOf (Jvm.Term.field (Jvm.Term.string "StoneGazetteLaw" (217 : Nat)) "java/lang/String" "value" "[B") Jvm.ClassFile.FieldType.byte).before #[Value.ref b] s = true := hw _ (List.mem_of_getElem? (i := 975) (by decide +kernel))
  have n976 : (Jvm.Cond.eq (Jvm.Term.length (Jvm.Term.field (Jvm.Term.string "StoneGazetteLaw" (217 : Nat)) "java/lang/String" "value" "[B")) (Jvm.Term.int (5 : Int32))).before #[Value.ref b] s = true := hw _ (List.mem_of_getElem? (i := 976) (by decide +kernel))
  obtain ⟨a75, ea75, Ta75⟩ := va_Tof (A := fun q : Nat => s.heap.size ≤ q) (N := 5) (f := fun k => .int (([97, 101, 105, 111, 117] : List Int32).getD k 0)) (by decide) n975 (va_eqv n976 rfl) (fun j hj => by
      match j, hj with
      | 0, _ => exact va_eqv n977 rfl
      | 1, _ => exact va_eqv n978 rfl
      | 2, _ => exact va_eqv n979 rfl
      | 3, _ => exact va_eqv n980 rfl
      | 4, _ => exact va_eqv n981 rfl
      | k + 5, hj => exact absurd hj (by omega)) hA
  have ea75 : (Jvm.Term.field (Jvm.Term.string "StoneGazetteLaw" (217 : Nat)) "java/lang/String" "value" "[B").eval #[Value.ref b] s none [] s = some (.ref a75) := ea75
  have n1018 : (Jvm.Cond.exactly (Jvm.Term.string "StoneGazetteLaw" (236 : Nat)) "java/lang/String").before #[Value.ref b] s = true := hw _ (List.mem_of_getElem? (i := 1018) (by decide +kernel))
  obtain ⟨a56, _, _, _, ea56, -⟩ := Cond.exactly_spec n1018
  have ea56 : (Jvm.Term.string "StoneGazetteLaw" (236 : Nat)).eval #[Value.ref b] s none [] s = some (.ref a56) := ea56
  have n1022 : (Jvm.Cond.eq (Jvm.Term.elem (Jvm.Term.field (Jvm.Term.string "StoneGazetteLaw" (236 : Nat)) "java/lang/String" "value" "[B") (Jvm.Term.int (0 : Int32))) (Jvm.Term.int (45 : Int32))).before #[Value.ref b] s = true := hw _ (List.mem_of_getElem? (i := 1022) (by decide +kernel))
  have n1023 : (Jvm.Cond.eq (Jvm.Term.elem (Jvm.Term.field (Jvm.Term.string "StoneGazetteLaw" (236 : Nat)) "java/lang/String" "value" "[B") (Jvm.Term.int (1 : Int32))) (Jvm.Term.int (59 : Int32))).before #[Value.ref b] s = true := hw _ (List.mem_of_getElem? (i := 1023) (by decide +kernel))
  have n1020 : (Jvm.Cond.arrayOf (Jvm.Term.field (Jvm.Term.string "StoneGazetteLaw" (236 : Nat)) "java/lang/String" "value" "[B") Jvm.ClassFile.FieldType.byte).before #[Value.ref b] s = true := hw _ (List.mem_of_getElem? (i := 1020) (by decide +kernel))
  have n1021 : (Jvm.Cond.eq (Jvm.Term.length (Jvm.Term.field (Jvm.Term.string "StoneGazetteLaw" (236 : Nat)) "java/lang/String" "value" "[B")) (Jvm.Term.int (2 : Int32))).before #[Value.ref b] s = true := hw _ (List.mem_of_getElem? (i := 1021) (by decide +kernel))
  obtain ⟨a76, ea76, Ta76⟩ := va_Tof (A := fun q : Nat => s.heap.size ≤ q) (N := 2) (f := fun k => .int (([45, 59] : List Int32).getD k 0)) (by decide) n1020 (va_eqv n1021 rfl) (fun j hj => by
      match j, hj with
      | 0, _ => exact va_eqv n1022 rfl
      | 1, _ => exact va_eqv n1023 rfl
      | k + 2, hj => exact absurd hj (by omega)) hA
  have ea76 : (Jvm.Term.field (Jvm.Term.string "StoneGazetteLaw" (236 : Nat)) "java/lang/String" "value" "[B").eval #[Value.ref b] s none [] s = some (.ref a76) := ea76
  have n1024 : (Jvm.Cond.exactly (Jvm.Term.string "StoneGazetteLaw" (238 : Nat)) "java/lang/String").before #[Value.ref b] s = true := hw _ (List.mem_of_getElem? (i := 1024) (by decide +kernel))
  obtain ⟨a57, _, _, _, ea57, -⟩ := Cond.exactly_spec n1024
  have ea57 : (Jvm.Term.string "StoneGazetteLaw" (238 : Nat)).eval #[Value.ref b] s none [] s = some (.ref a57) := ea57
  have n1028 : (Jvm.Cond.eq (Jvm.Term.elem (Jvm.Term.field (Jvm.Term.string "StoneGazetteLaw" (238 : Nat)) "java/lang/String" "value" "[B") (Jvm.Term.int (0 : Int32))) (Jvm.Term.int (59 : Int32))).before #[Value.ref b] s = true := hw _ (List.mem_of_getElem? (i := 1028) (by decide +kernel))
  have n1026 : (Jvm.Cond.arrayOf (Jvm.Term.field (Jvm.Term.string "StoneGazetteLaw" (238 : Nat)) "java/lang/String" "value" "[B") Jvm.ClassFile.FieldType.byte).before #[Value.ref b] s = true := hw _ (List.mem_of_getElem? (i := 1026) (by decide +kernel))
  have n1027 : (Jvm.Cond.eq (Jvm.Term.length (Jvm.Term.field (Jvm.Term.string "StoneGazetteLaw" (238 : Nat)) "java/lang/String" "value" "[B")) (Jvm.Term.int (1 : Int32))).before #[Value.ref b] s = true := hw _ (List.mem_of_getElem? (i := 1027) (by decide +kernel))
  obtain ⟨a77, ea77, Ta77⟩ := va_Tof (A := fun q : Nat => s.heap.size ≤ q) (N := 1) (f := fun k => .int (([59] : List Int32).getD k 0)) (by decide) n1026 (va_eqv n1027 rfl) (fun j hj => by
      match j, hj with
      | 0, _ => exact va_eqv n1028 rfl
      | k + 1, hj => exact absurd hj (by omega)) hA
  have ea77 : (Jvm.Term.field (Jvm.Term.string "StoneGazetteLaw" (238 : Nat)) "java/lang/String" "value" "[B").eval #[Value.ref b] s none [] s = some (.ref a77) := ea77
  have n1224 : (Jvm.Cond.exactly (Jvm.Term.string "StoneGazetteLaw" (415 : Nat)) "java/lang/String").before #[Value.ref b] s = true := hw _ (List.mem_of_getElem? (i := 1224) (by decide +kernel))
  obtain ⟨a58, _, _, _, ea58, -⟩ := Cond.exactly_spec n1224
  have ea58 : (Jvm.Term.string "StoneGazetteLaw" (415 : Nat)).eval #[Value.ref b] s none [] s = some (.ref a58) := ea58
  have n1228 : (Jvm.Cond.eq (Jvm.Term.elem (Jvm.Term.field (Jvm.Term.string "StoneGazetteLaw" (415 : Nat)) "java/lang/String" "value" "[B") (Jvm.Term.int (0 : Int32))) (Jvm.Term.int (59 : Int32))).before #[Value.ref b] s = true := hw _ (List.mem_of_getElem? (i := 1228) (by decide +kernel))
  have n1229 : (Jvm.Cond.eq (Jvm.Term.elem (Jvm.Term.field (Jvm.Term.string "StoneGazetteLaw" (415 : Nat)) "java/lang/String" "value" "[B") (Jvm.Term.int (1 : Int32))) (Jvm.Term.int (112 : Int32))).before #[Value.ref b] s = true := hw _ (List.mem_of_getElem? (i := 1229) (by decide +kernel))
  have n1230 : (Jvm.Cond.eq (Jvm.Term.elem (Jvm.Term.field (Jvm.Term.string "StoneGazetteLaw" (415 : Nat)) "java/lang/String" "value" "[B") (Jvm.Term.int (2 : Int32))) (Jvm.Term.int (114 : Int32))).before #[Value.ref b] s = true := hw _ (List.mem_of_getElem? (i := 1230) (by decide +kernel))
  have n1231 : (Jvm.Cond.eq (Jvm.Term.elem (Jvm.Term.field (Jvm.Term.string "StoneGazetteLaw" (415 : Nat)) "java/lang/String" "value" "[B") (Jvm.Term.int (3 : Int32))) (Jvm.Term.int (105 : Int32))).before #[Value.ref b] s = true := hw _ (List.mem_of_getElem? (i := 1231) (by decide +kernel))
  have n1232 : (Jvm.Cond.eq (Jvm.Term.elem (Jvm.Term.field (Jvm.Term.string "StoneGazetteLaw" (415 : Nat)) "java/lang/String" "value" "[B") (Jvm.Term.int (4 : Int32))) (Jvm.Term.int (110 : Int32))).before #[Value.ref b] s = true := hw _ (List.mem_of_getElem? (i := 1232) (by decide +kernel))
  have n1233 : (Jvm.Cond.eq (Jvm.Term.elem (Jvm.Term.field (Jvm.Term.string "StoneGazetteLaw" (415 : Nat)) "java/lang/String" "value" "[B") (Jvm.Term.int (5 : Int32))) (Jvm.Term.int (116 : Int32))).before #[Value.ref b] s = true := hw _ (List.mem_of_getElem? (i := 1233) (by decide +kernel))
  have n1234 : (Jvm.Cond.eq (Jvm.Term.elem (Jvm.Term.field (Jvm.Term.string "StoneGazetteLaw" (415 : Nat)) "java/lang/String" "value" "[B") (Jvm.Term.int (6 : Int32))) (Jvm.Term.int (59 : Int32))).before #[Value.ref b] s = true := hw _ (List.mem_of_getElem? (i := 1234) (by decide +kernel))
  have n1235 : (Jvm.Cond.eq (Jvm.Term.elem (Jvm.Term.field (Jvm.Term.string "StoneGazetteLaw" (415 : Nat)) "java/lang/String" "value" "[B") (Jvm.Term.int (7 : Int32))) (Jvm.Term.int (100 : Int32))).before #[Value.ref b] s = true := hw _ (List.mem_of_getElem? (i := 1235) (by decide +kernel))
  have n1236 : (Jvm.Cond.eq (Jvm.Term.elem (Jvm.Term.field (Jvm.Term.string "StoneGazetteLaw" (415 : Nat)) "java/lang/String" "value" "[B") (Jvm.Term.int (8 : Int32))) (Jvm.Term.int (97 : Int32))).before #[Value.ref b] s = true := hw _ (List.mem_of_getElem? (i := 1236) (by decide +kernel))
  have n1237 : (Jvm.Cond.eq (Jvm.Term.elem (Jvm.Term.field (Jvm.Term.string "StoneGazetteLaw" (415 : Nat)) "java/lang/String" "value" "[B") (Jvm.Term.int (9 : Int32))) (Jvm.Term.int (121 : Int32))).before #[Value.ref b] s = true := hw _ (List.mem_of_getElem? (i := 1237) (by decide +kernel))
  have n1238 : (Jvm.Cond.eq (Jvm.Term.elem (Jvm.Term.field (Jvm.Term.string "StoneGazetteLaw" (415 : Nat)) "java/lang/String" "value" "[B") (Jvm.Term.int (10 : Int32))) (Jvm.Term.int (115 : Int32))).before #[Value.ref b] s = true := hw _ (List.mem_of_getElem? (i := 1238) (by decide +kernel))
  have n1239 : (Jvm.Cond.eq (Jvm.Term.elem (Jvm.Term.field (Jvm.Term.string "StoneGazetteLaw" (415 : Nat)) "java/lang/String" "value" "[B") (Jvm.Term.int (11 : Int32))) (Jvm.Term.int (32 : Int32))).before #[Value.ref b] s = true := hw _ (List.mem_of_getElem? (i := 1239) (by decide +kernel))
  have n1226 : (Jvm.Cond.arrayOf (Jvm.Term.field (Jvm.Term.string "StoneGazetteLaw" (415 : Nat)) "java/lang/String" "value" "[B") Jvm.ClassFile.FieldType.byte).before #[Value.ref b] s = true := hw _ (List.mem_of_getElem? (i := 1226) (by decide +kernel))
  have n1227 : (Jvm.Cond.eq (Jvm.Term.length (Jvm.Term.field (Jvm.Term.string "StoneGazetteLaw" (415 : Nat)) "java/lang/String" "value" "[B")) (Jvm.Term.int (12 : Int32))).before #[Value.ref b] s = true := hw _ (List.mem_of_getElem? (i := 1227) (by decide +kernel))
  obtain ⟨a78, ea78, Ta78⟩ := va_Tof (A := fun q : Nat => s.heap.size ≤ q) (N := 12) (f := fun k => .int (([59, 112, 114, 105, 110, 116, 59, 100, 97, 121, 115, 32] : List Int32).getD k 0)) (by decide) n1226 (va_eqv n1227 rfl) (fun j hj => by
      match j, hj with
      | 0, _ => exact va_eqv n1228 rfl
      | 1, _ => exact va_eqv n1229 rfl
      | 2, _ => exact va_eqv n1230 rfl
      | 3, _ => exact va_eqv n1231 rfl
      | 4, _ => exact va_eqv n1232 rfl
      | 5, _ => exact va_eqv n1233 rfl
      | 6, _ => exact va_eqv n1234 rfl
      | 7, _ => exact va_eqv n1235 rfl
      | 8, _ => exact va_eqv n1236 rfl
      | 9, _ => exact va_eqv n1237 rfl
      | 10, _ => exact va_eqv n1238 rfl
      | 11, _ => exact va_eqv n1239 rfl
      | k + 12, hj => exact absurd hj (by omega)) hA
  have ea78 : (Jvm.Term.field (Jvm.Term.string "StoneGazetteLaw" (415 : Nat)) "java/lang/String" "value" "[B").eval #[Value.ref b] s none [] s = some (.ref a78) := ea78
  have n1240 : (Jvm.Cond.exactly (Jvm.Term.string "StoneGazetteLaw" (417 : Nat)) "java/lang/String").before #[Value.ref b] s = true := hw _ (List.mem_of_getElem? (i := 1240) (by decide +kernel))
  obtain ⟨a59, _, _, _, ea59, -⟩ := Cond.exactly_spec n1240
  have ea59 : (Jvm.Term.string "StoneGazetteLaw" (417 : Nat)).eval #[Value.ref b] s none [] s = some (.ref a59) := ea59
  have n1244 : (Jvm.Cond.eq (Jvm.Term.elem (Jvm.Term.field (Jvm.Term.string "StoneGazetteLaw" (417 : Nat)) "java/lang/String" "value" "[B") (Jvm.Term.int (0 : Int32))) (Jvm.Term.int (59 : Int32))).before #[Value.ref b] s = true := hw _ (List.mem_of_getElem? (i := 1244) (by decide +kernel))
  have n1245 : (Jvm.Cond.eq (Jvm.Term.elem (Jvm.Term.field (Jvm.Term.string "StoneGazetteLaw" (417 : Nat)) "java/lang/String" "value" "[B") (Jvm.Term.int (1 : Int32))) (Jvm.Term.int (100 : Int32))).before #[Value.ref b] s = true := hw _ (List.mem_of_getElem? (i := 1245) (by decide +kernel))
  have n1246 : (Jvm.Cond.eq (Jvm.Term.elem (Jvm.Term.field (Jvm.Term.string "StoneGazetteLaw" (417 : Nat)) "java/lang/String" "value" "[B") (Jvm.Term.int (2 : Int32))) (Jvm.Term.int (114 : Int32))).before #[Value.ref b] s = true := hw _ (List.mem_of_getElem? (i := 1246) (by decide +kernel))
  have n1247 : (Jvm.Cond.eq (Jvm.Term.elem (Jvm.Term.field (Jvm.Term.string "StoneGazetteLaw" (417 : Nat)) "java/lang/String" "value" "[B") (Jvm.Term.int (3 : Int32))) (Jvm.Term.int (111 : Int32))).before #[Value.ref b] s = true := hw _ (List.mem_of_getElem? (i := 1247) (by decide +kernel))
  have n1248 : (Jvm.Cond.eq (Jvm.Term.elem (Jvm.Term.field (Jvm.Term.string "StoneGazetteLaw" (417 : Nat)) "java/lang/String" "value" "[B") (Jvm.Term.int (4 : Int32))) (Jvm.Term.int (112 : Int32))).before #[Value.ref b] s = true := hw _ (List.mem_of_getElem? (i := 1248) (by decide +kernel))
  have n1249 : (Jvm.Cond.eq (Jvm.Term.elem (Jvm.Term.field (Jvm.Term.string "StoneGazetteLaw" (417 : Nat)) "java/lang/String" "value" "[B") (Jvm.Term.int (5 : Int32))) (Jvm.Term.int (32 : Int32))).before #[Value.ref b] s = true := hw _ (List.mem_of_getElem? (i := 1249) (by decide +kernel))
  have n1242 : (Jvm.Cond.arrayOf (Jvm.Term.field (Jvm.Term.string "StoneGazetteLaw" (417 : Nat)) "java/lang/String" "value" "[B") Jvm.ClassFile.FieldType.byte).before #[Value.ref b] s = true := hw _ (List.mem_of_getElem? (i := 1242) (by decide +kernel))
  have n1243 : (Jvm.Cond.eq (Jvm.Term.length (Jvm.Term.field (Jvm.Term.string "StoneGazetteLaw" (417 : Nat)) "java/lang/String" "value" "[B")) (Jvm.Term.int (6 : Int32))).before #[Value.ref b] s = true := hw _ (List.mem_of_getElem? (i := 1243) (by decide +kernel))
  obtain ⟨a79, ea79, Ta79⟩ := va_Tof (A := fun q : Nat => s.heap.size ≤ q) (N := 6) (f := fun k => .int (([59, 100, 114, 111, 112, 32] : List Int32).getD k 0)) (by decide) n1242 (va_eqv n1243 rfl) (fun j hj => by
      match j, hj with
      | 0, _ => exact va_eqv n1244 rfl
      | 1, _ => exact va_eqv n1245 rfl
      | 2, _ => exact va_eqv n1246 rfl
      | 3, _ => exact va_eqv n1247 rfl
      | 4, _ => exact va_eqv n1248 rfl
      | 5, _ => exact va_eqv n1249 rfl
      | k + 6, hj => exact absurd hj (by omega)) hA
  have ea79 : (Jvm.Term.field (Jvm.Term.string "StoneGazetteLaw" (417 : Nat)) "java/lang/String" "value" "[B").eval #[Value.ref b] s none [] s = some (.ref a79) := ea79
  have n1007 : (Jvm.Cond.exactly (Jvm.Term.string "java/lang/StringLatin1" (151 : Nat)) "java/lang/String").before #[Value.ref b] s = true := hw _ (List.mem_of_getElem? (i := 1007) (by decide +kernel))
  obtain ⟨a60, _, _, _, ea60, -⟩ := Cond.exactly_spec n1007
  have ea60 : (Jvm.Term.string "java/lang/StringLatin1" (151 : Nat)).eval #[Value.ref b] s none [] s = some (.ref a60) := ea60
  have n1009 : (Jvm.Cond.arrayOf (Jvm.Term.field (Jvm.Term.string "java/lang/StringLatin1" (151 : Nat)) "java/lang/String" "value" "[B") Jvm.ClassFile.FieldType.byte).before #[Value.ref b] s = true := hw _ (List.mem_of_getElem? (i := 1009) (by decide +kernel))
  have n1010 : (Jvm.Cond.eq (Jvm.Term.length (Jvm.Term.field (Jvm.Term.string "java/lang/StringLatin1" (151 : Nat)) "java/lang/String" "value" "[B")) (Jvm.Term.int (0 : Int32))).before #[Value.ref b] s = true := hw _ (List.mem_of_getElem? (i := 1010) (by decide +kernel))
  obtain ⟨a80, ea80, Ta80⟩ := va_Tof (A := fun q : Nat => s.heap.size ≤ q) (N := 0) (f := fun k => .int (([] : List Int32).getD k 0)) (by decide) n1009 (va_eqv n1010 rfl) (fun j hj => absurd hj (Nat.not_lt_zero j)) hA
  have ea80 : (Jvm.Term.field (Jvm.Term.string "java/lang/StringLatin1" (151 : Nat)) "java/lang/String" "value" "[B").eval #[Value.ref b] s none [] s = some (.ref a80) := ea80
  have n1383 : (Jvm.Cond.eq (Jvm.Term.string "StoneGazetteLaw" (413 : Nat)) (Jvm.Term.string "StoneGazette$Keyword" (62 : Nat))).before #[Value.ref b] s = true := hw _ (List.mem_of_getElem? (i := 1383) (by decide +kernel))
  have em413 : (Jvm.Term.string "StoneGazetteLaw" (413 : Nat)).eval #[Value.ref b] s none [] s = some (.ref a30) := va_eqv n1383 ea30
  have t106 : (Jvm.Cond.arrayClass Jvm.ClassFile.FieldType.byte).before #[Value.ref b] s = true := hts _ (List.mem_append_right _ (List.mem_of_getElem? (i := 106) (by decide +kernel)))
  obtain ⟨c0, k0, p0, x0, y0, z0⟩ := Cond.arrayClass_spec t106
  have K0 : ArrOfT s c0 .byte ∧ va_RA s c0 .byte := ⟨fun n z => ⟨fun k h => (by cases h), k0, y0, p0, z0⟩, x0⟩
  have t73 : (Jvm.Cond.arrayClass Jvm.ClassFile.FieldType.char).before #[Value.ref b] s = true := hts _ (List.mem_append_right _ (List.mem_of_getElem? (i := 73) (by decide +kernel)))
  obtain ⟨c1, k1, p1, x1, y1, z1⟩ := Cond.arrayClass_spec t73
  have K1 : ArrOfT s c1 .char ∧ va_RA s c1 .char := ⟨fun n z => ⟨fun k h => (by cases h), k1, y1, p1, z1⟩, x1⟩
  have t131 : (Jvm.Cond.arrayClass Jvm.ClassFile.FieldType.int).before #[Value.ref b] s = true := hts _ (List.mem_append_right _ (List.mem_of_getElem? (i := 131) (by decide +kernel)))
  obtain ⟨c2, k2, p2, x2, y2, z2⟩ := Cond.arrayClass_spec t131
  have K2 : ArrOfT s c2 .int ∧ va_RA s c2 .int := ⟨fun n z => ⟨fun k h => (by cases h), k2, y2, p2, z2⟩, x2⟩
  have t784 : (Jvm.Cond.arrayClass Jvm.ClassFile.FieldType.boolean).before #[Value.ref b] s = true := hts _ (List.mem_append_right _ (List.mem_of_getElem? (i := 784) (by decide +kernel)))
  obtain ⟨c3, k3, p3, x3, y3, z3⟩ := Cond.arrayClass_spec t784
  have K3 : ArrOfT s c3 .boolean ∧ va_RA s c3 .boolean := ⟨fun n z => ⟨fun k h => (by cases h), k3, y3, p3, z3⟩, x3⟩
  have t759 : (Jvm.Cond.arrayOver (Jvm.ClassFile.FieldType.object "StoneGazette$Word")).before #[Value.ref b] s = true := hts _ (List.mem_append_right _ (List.mem_of_getElem? (i := 759) (by decide +kernel)))
  obtain ⟨p4, c4, k4, x4, -, y4, z4, w4⟩ := Cond.arrayOver_spec t759
  have K4 : ArrOfT s c4 (.object "StoneGazette$Word") ∧ va_RA s c4 (.object "StoneGazette$Word") := ⟨fun n z => ⟨fun k h => (by cases h), k4, y4, p4, z4⟩, k4, p4, y4, z4, x4, w4⟩
  have t745 : (Jvm.Cond.arrayOver (Jvm.ClassFile.FieldType.object "java/lang/Object")).before #[Value.ref b] s = true := hts _ (List.mem_append_right _ (List.mem_of_getElem? (i := 745) (by decide +kernel)))
  obtain ⟨p5, c5, k5, x5, -, y5, z5, w5⟩ := Cond.arrayOver_spec t745
  have K5 : ArrOfT s c5 (.object "java/lang/Object") ∧ va_RA s c5 (.object "java/lang/Object") := ⟨fun n z => ⟨fun k h => (by cases h), k5, y5, p5, z5⟩, k5, p5, y5, z5, x5, w5⟩
  have t1746 : (Jvm.Cond.arrayClass Jvm.ClassFile.FieldType.long).before #[Value.ref b] s = true := hts _ (List.mem_append_right _ (List.mem_of_getElem? (i := 1746) (by decide +kernel)))
  obtain ⟨c6, k6, p6, x6, y6, z6⟩ := Cond.arrayClass_spec t1746
  have K6 : ArrOfT s c6 .long ∧ va_RA s c6 .long := ⟨fun n z => ⟨fun k h => (by cases h), k6, y6, p6, z6⟩, x6⟩
  have t1122 : (Jvm.Cond.arrayOver (Jvm.ClassFile.FieldType.object "java/lang/String")).before #[Value.ref b] s = true := hts _ (List.mem_append_right _ (List.mem_of_getElem? (i := 1122) (by decide +kernel)))
  obtain ⟨p7, c7, k7, x7, -, y7, z7, w7⟩ := Cond.arrayOver_spec t1122
  have K7 : ArrOfT s c7 (.object "java/lang/String") ∧ va_RA s c7 (.object "java/lang/String") := ⟨fun n z => ⟨fun k h => (by cases h), k7, y7, p7, z7⟩, k7, p7, y7, z7, x7, w7⟩
  have hz : ∀ w ∈ ZALL, w.before #[Value.ref b] s = true := fun w h => hts w (zall_tbl h)
  have t438 : (Jvm.Cond.instantiable "java/lang/String" (4 : Nat)).before #[Value.ref b] s = true := hts _ (List.mem_append_right _ (List.mem_of_getElem? (i := 438) (by decide +kernel)))
  obtain ⟨d0, i0, u0⟩ := u_known (C := RJ0) (T := TJ0) (N := 4) (n := 4) hz in_J0 t438
  have t75 : (Jvm.Cond.instantiable "java/lang/StringBuilder" (4 : Nat)).before #[Value.ref b] s = true := hts _ (List.mem_append_right _ (List.mem_of_getElem? (i := 75) (by decide +kernel)))
  obtain ⟨d1, i1, u1⟩ := u_known (C := RJ4) (T := TJ4) (N := 4) (n := 4) hz in_J4 t75
  have t1000 : (Jvm.Cond.instantiable "java/lang/ArrayIndexOutOfBoundsException" (6 : Nat)).before #[Value.ref b] s = true := hts _ (List.mem_append_right _ (List.mem_of_getElem? (i := 1000) (by decide +kernel)))
  obtain ⟨d2, i2, u2⟩ := u_known (C := RJx00060) (T := TJx00060) (N := 6) (n := 6) hz in_Jx00060 t1000
  have t1138 : (Jvm.Cond.instantiable "java/lang/StringIndexOutOfBoundsException" (6 : Nat)).before #[Value.ref b] s = true := hts _ (List.mem_append_right _ (List.mem_of_getElem? (i := 1138) (by decide +kernel)))
  obtain ⟨d3, i3, u3⟩ := u_known (C := RJx7c733) (T := TJx7c733) (N := 6) (n := 6) hz in_Jx7c733 t1138
  have t149 : (Jvm.Cond.instantiable "java/util/ArrayList" (3 : Nat)).before #[Value.ref b] s = true := hts _ (List.mem_append_right _ (List.mem_of_getElem? (i := 149) (by decide +kernel)))
  obtain ⟨d4, i4, u4⟩ := u_known (C := RJx4a65c) (T := TJx4a65c) (N := 3) (n := 3) hz in_Jx4a65c t149
  have t789 : (Jvm.Cond.instantiable "StoneGazette$Article" (3 : Nat)).before #[Value.ref b] s = true := hts _ (List.mem_append_right _ (List.mem_of_getElem? (i := 789) (by decide +kernel)))
  obtain ⟨d5, i5, u5⟩ := u_known (C := RX1) (T := TX1) (N := 3) (n := 3) hz in_X1 t789
  have t56 : (Jvm.Cond.instantiable "StoneGazette$Buffer" (2 : Nat)).before #[Value.ref b] s = true := hts _ (List.mem_append_right _ (List.mem_of_getElem? (i := 56) (by decide +kernel)))
  obtain ⟨d6, i6, u6⟩ := u_known (C := RX2) (T := TX2) (N := 2) (n := 2) hz in_X2 t56
  have t1728 : (Jvm.Cond.instantiable "StoneGazette$Command" (3 : Nat)).before #[Value.ref b] s = true := hts _ (List.mem_append_right _ (List.mem_of_getElem? (i := 1728) (by decide +kernel)))
  obtain ⟨d7, i7, u7⟩ := u_known (C := RX3) (T := TX3) (N := 3) (n := 3) hz in_X3 t1728
  have t143 : (Jvm.Cond.instantiable "StoneGazette$CommandReader" (2 : Nat)).before #[Value.ref b] s = true := hts _ (List.mem_append_right _ (List.mem_of_getElem? (i := 143) (by decide +kernel)))
  obtain ⟨d8, i8, u8⟩ := u_known (C := RX4) (T := TX4) (N := 2) (n := 2) hz in_X4 t143
  have t133 : (Jvm.Cond.instantiable "StoneGazette$EvenBreaker" (1 : Nat)).before #[Value.ref b] s = true := hts _ (List.mem_append_right _ (List.mem_of_getElem? (i := 133) (by decide +kernel)))
  obtain ⟨d9, i9, u9⟩ := u_known (C := RX5) (T := TX5) (N := 1) (n := 1) hz in_X5 t133
  have t942 : (Jvm.Cond.instantiable "StoneGazette$Issue" (3 : Nat)).before #[Value.ref b] s = true := hts _ (List.mem_append_right _ (List.mem_of_getElem? (i := 942) (by decide +kernel)))
  obtain ⟨d10, i10, u10⟩ := u_known (C := RX6) (T := TX6) (N := 3) (n := 3) hz in_X6 t942
  have t108 : (Jvm.Cond.instantiable "StoneGazette$LineSetter" (5 : Nat)).before #[Value.ref b] s = true := hts _ (List.mem_append_right _ (List.mem_of_getElem? (i := 108) (by decide +kernel)))
  obtain ⟨d11, i11, u11⟩ := u_known (C := RX8) (T := TX8) (N := 5) (n := 5) hz in_X8 t108
  have t864 : (Jvm.Cond.instantiable "StoneGazette$Page" (6 : Nat)).before #[Value.ref b] s = true := hts _ (List.mem_append_right _ (List.mem_of_getElem? (i := 864) (by decide +kernel)))
  obtain ⟨d12, i12, u12⟩ := u_known (C := RX9) (T := TX9) (N := 6) (n := 6) hz in_X9 t864
  have t186 : (Jvm.Cond.instantiable "StoneGazette$State" (9 : Nat)).before #[Value.ref b] s = true := hts _ (List.mem_append_right _ (List.mem_of_getElem? (i := 186) (by decide +kernel)))
  obtain ⟨d13, i13, u13⟩ := u_known (C := RX10) (T := TX10) (N := 9) (n := 9) hz in_X10 t186
  have t768 : (Jvm.Cond.instantiable "StoneGazette$Word" (2 : Nat)).before #[Value.ref b] s = true := hts _ (List.mem_append_right _ (List.mem_of_getElem? (i := 768) (by decide +kernel)))
  obtain ⟨d14, i14, u14⟩ := u_known (C := RX11) (T := TX11) (N := 2) (n := 2) hz in_X11 t768
  have t48 : (Jvm.Cond.instantiable "StoneGazette" (11 : Nat)).before #[Value.ref b] s = true := hts _ (List.mem_append_right _ (List.mem_of_getElem? (i := 48) (by decide +kernel)))
  obtain ⟨d15, i15, u15⟩ := u_known (C := RX12) (T := TX12) (N := 11) (n := 11) hz in_X12 t48
  have t161 : (Jvm.Cond.laysStatic "java/util/ArrayList" "DEFAULTCAPACITY_EMPTY_ELEMENTDATA" "[Ljava/lang/Object;").before #[Value.ref b] s = true := hts _ (List.mem_append_right _ (List.mem_of_getElem? (i := 161) (by decide +kernel)))
  have t13 : (Jvm.Cond.initialized "java/util/ArrayList").before #[Value.ref b] s = true := hts _ (List.mem_append_right _ (List.mem_of_getElem? (i := 13) (by decide +kernel)))
  have n4 : (Jvm.Cond.eq (Jvm.Term.static "java/lang/String" "COMPACT_STRINGS" "Z") (Jvm.Term.int (1 : Int32))).before #[Value.ref b] s = true := hw _ (List.mem_of_getElem? (i := 4) (by decide +kernel))
  have t84 : (Jvm.Cond.laysStatic "java/lang/String" "COMPACT_STRINGS" "Z").before #[Value.ref b] s = true := hts _ (List.mem_append_right _ (List.mem_of_getElem? (i := 84) (by decide +kernel)))
  have t6 : (Jvm.Cond.initialized "java/lang/String").before #[Value.ref b] s = true := hts _ (List.mem_append_right _ (List.mem_of_getElem? (i := 6) (by decide +kernel)))
  have t531 : (Jvm.Cond.laysStatic "java/lang/Integer" "DigitOnes" "[B").before #[Value.ref b] s = true := hts _ (List.mem_append_right _ (List.mem_of_getElem? (i := 531) (by decide +kernel)))
  have t25 : (Jvm.Cond.initialized "java/lang/Integer").before #[Value.ref b] s = true := hts _ (List.mem_append_right _ (List.mem_of_getElem? (i := 25) (by decide +kernel)))
  have t533 : (Jvm.Cond.laysStatic "java/lang/Integer" "DigitTens" "[B").before #[Value.ref b] s = true := hts _ (List.mem_append_right _ (List.mem_of_getElem? (i := 533) (by decide +kernel)))
  have t1708 : (Jvm.Cond.laysStatic "StoneGazette" "KEYWORDS" "[LStoneGazette$Keyword;").before #[Value.ref b] s = true := hts _ (List.mem_append_right _ (List.mem_of_getElem? (i := 1708) (by decide +kernel)))
  have t1 : (Jvm.Cond.initialized "StoneGazette").before #[Value.ref b] s = true := hts _ (List.mem_append_right _ (List.mem_of_getElem? (i := 1) (by decide +kernel)))
  have t1755 : (Jvm.Cond.laysStatic "StoneGazette$1" "$SwitchMap$StoneGazette$Keyword" "[I").before #[Value.ref b] s = true := hts _ (List.mem_append_right _ (List.mem_of_getElem? (i := 1755) (by decide +kernel)))
  have t43 : (Jvm.Cond.initialized "StoneGazette$1").before #[Value.ref b] s = true := hts _ (List.mem_append_right _ (List.mem_of_getElem? (i := 43) (by decide +kernel)))
  have t1706 : (Jvm.Cond.laysStatic "StoneGazette$Keyword" "WIDTH" "LStoneGazette$Keyword;").before #[Value.ref b] s = true := hts _ (List.mem_append_right _ (List.mem_of_getElem? (i := 1706) (by decide +kernel)))
  have t41 : (Jvm.Cond.initialized "StoneGazette$Keyword").before #[Value.ref b] s = true := hts _ (List.mem_append_right _ (List.mem_of_getElem? (i := 41) (by decide +kernel)))
  have t1831 : (Jvm.Cond.laysStatic "StoneGazette$Keyword" "PAGE" "LStoneGazette$Keyword;").before #[Value.ref b] s = true := hts _ (List.mem_append_right _ (List.mem_of_getElem? (i := 1831) (by decide +kernel)))
  have t1832 : (Jvm.Cond.laysStatic "StoneGazette$Keyword" "PRINT" "LStoneGazette$Keyword;").before #[Value.ref b] s = true := hts _ (List.mem_append_right _ (List.mem_of_getElem? (i := 1832) (by decide +kernel)))
  have t1833 : (Jvm.Cond.laysStatic "StoneGazette$Keyword" "DAYS" "LStoneGazette$Keyword;").before #[Value.ref b] s = true := hts _ (List.mem_append_right _ (List.mem_of_getElem? (i := 1833) (by decide +kernel)))
  have t1834 : (Jvm.Cond.laysStatic "StoneGazette$Keyword" "DROP" "LStoneGazette$Keyword;").before #[Value.ref b] s = true := hts _ (List.mem_append_right _ (List.mem_of_getElem? (i := 1834) (by decide +kernel)))
  have n222 : (Jvm.Cond.eq (Jvm.Term.field (Jvm.Term.static "StoneGazette$Keyword" "WIDTH" "LStoneGazette$Keyword;") "java/lang/Enum" "ordinal" "I") (Jvm.Term.int (0 : Int32))).before #[Value.ref b] s = true := hw _ (List.mem_of_getElem? (i := 222) (by decide +kernel))
  have n224 : (Jvm.Cond.eq (Jvm.Term.field (Jvm.Term.static "StoneGazette$Keyword" "WIDTH" "LStoneGazette$Keyword;") "StoneGazette$Keyword" "numbers" "I") (Jvm.Term.int (1 : Int32))).before #[Value.ref b] s = true := hw _ (List.mem_of_getElem? (i := 224) (by decide +kernel))
  have n223 : (Jvm.Cond.eq (Jvm.Term.field (Jvm.Term.static "StoneGazette$Keyword" "WIDTH" "LStoneGazette$Keyword;") "StoneGazette$Keyword" "letters" "Ljava/lang/String;") (Jvm.Term.string "StoneGazette$Keyword" (62 : Nat))).before #[Value.ref b] s = true := hw _ (List.mem_of_getElem? (i := 223) (by decide +kernel))
  have n244 : (Jvm.Cond.eq (Jvm.Term.field (Jvm.Term.static "StoneGazette$Keyword" "PAGE" "LStoneGazette$Keyword;") "java/lang/Enum" "ordinal" "I") (Jvm.Term.int (1 : Int32))).before #[Value.ref b] s = true := hw _ (List.mem_of_getElem? (i := 244) (by decide +kernel))
  have n246 : (Jvm.Cond.eq (Jvm.Term.field (Jvm.Term.static "StoneGazette$Keyword" "PAGE" "LStoneGazette$Keyword;") "StoneGazette$Keyword" "numbers" "I") (Jvm.Term.int (2 : Int32))).before #[Value.ref b] s = true := hw _ (List.mem_of_getElem? (i := 246) (by decide +kernel))
  have n245 : (Jvm.Cond.eq (Jvm.Term.field (Jvm.Term.static "StoneGazette$Keyword" "PAGE" "LStoneGazette$Keyword;") "StoneGazette$Keyword" "letters" "Ljava/lang/String;") (Jvm.Term.string "StoneGazette$Keyword" (68 : Nat))).before #[Value.ref b] s = true := hw _ (List.mem_of_getElem? (i := 245) (by decide +kernel))
  have n249 : (Jvm.Cond.eq (Jvm.Term.field (Jvm.Term.static "StoneGazette$Keyword" "PRINT" "LStoneGazette$Keyword;") "java/lang/Enum" "ordinal" "I") (Jvm.Term.int (2 : Int32))).before #[Value.ref b] s = true := hw _ (List.mem_of_getElem? (i := 249) (by decide +kernel))
  have n251 : (Jvm.Cond.eq (Jvm.Term.field (Jvm.Term.static "StoneGazette$Keyword" "PRINT" "LStoneGazette$Keyword;") "StoneGazette$Keyword" "numbers" "I") (Jvm.Term.int (0 : Int32))).before #[Value.ref b] s = true := hw _ (List.mem_of_getElem? (i := 251) (by decide +kernel))
  have n250 : (Jvm.Cond.eq (Jvm.Term.field (Jvm.Term.static "StoneGazette$Keyword" "PRINT" "LStoneGazette$Keyword;") "StoneGazette$Keyword" "letters" "Ljava/lang/String;") (Jvm.Term.string "StoneGazette$Keyword" (71 : Nat))).before #[Value.ref b] s = true := hw _ (List.mem_of_getElem? (i := 250) (by decide +kernel))
  have n255 : (Jvm.Cond.eq (Jvm.Term.field (Jvm.Term.static "StoneGazette$Keyword" "DAYS" "LStoneGazette$Keyword;") "java/lang/Enum" "ordinal" "I") (Jvm.Term.int (3 : Int32))).before #[Value.ref b] s = true := hw _ (List.mem_of_getElem? (i := 255) (by decide +kernel))
  have n257 : (Jvm.Cond.eq (Jvm.Term.field (Jvm.Term.static "StoneGazette$Keyword" "DAYS" "LStoneGazette$Keyword;") "StoneGazette$Keyword" "numbers" "I") (Jvm.Term.int (1 : Int32))).before #[Value.ref b] s = true := hw _ (List.mem_of_getElem? (i := 257) (by decide +kernel))
  have n256 : (Jvm.Cond.eq (Jvm.Term.field (Jvm.Term.static "StoneGazette$Keyword" "DAYS" "LStoneGazette$Keyword;") "StoneGazette$Keyword" "letters" "Ljava/lang/String;") (Jvm.Term.string "StoneGazette$Keyword" (74 : Nat))).before #[Value.ref b] s = true := hw _ (List.mem_of_getElem? (i := 256) (by decide +kernel))
  have n262 : (Jvm.Cond.eq (Jvm.Term.field (Jvm.Term.static "StoneGazette$Keyword" "DROP" "LStoneGazette$Keyword;") "java/lang/Enum" "ordinal" "I") (Jvm.Term.int (4 : Int32))).before #[Value.ref b] s = true := hw _ (List.mem_of_getElem? (i := 262) (by decide +kernel))
  have n264 : (Jvm.Cond.eq (Jvm.Term.field (Jvm.Term.static "StoneGazette$Keyword" "DROP" "LStoneGazette$Keyword;") "StoneGazette$Keyword" "numbers" "I") (Jvm.Term.int (1 : Int32))).before #[Value.ref b] s = true := hw _ (List.mem_of_getElem? (i := 264) (by decide +kernel))
  have n263 : (Jvm.Cond.eq (Jvm.Term.field (Jvm.Term.static "StoneGazette$Keyword" "DROP" "LStoneGazette$Keyword;") "StoneGazette$Keyword" "letters" "Ljava/lang/String;") (Jvm.Term.string "StoneGazette$Keyword" (77 : Nat))).before #[Value.ref b] s = true := hw _ (List.mem_of_getElem? (i := 263) (by decide +kernel))
  have n1374 : (Jvm.Cond.eq (Jvm.Term.field (Jvm.Term.string "StoneGazette$Keyword" (62 : Nat)) "java/lang/String" "coder" "B") (Jvm.Term.int (0 : Int32))).before #[Value.ref b] s = true := hw _ (List.mem_of_getElem? (i := 1374) (by decide +kernel))
  have n1385 : (Jvm.Cond.eq (Jvm.Term.field (Jvm.Term.string "StoneGazette$Keyword" (68 : Nat)) "java/lang/String" "coder" "B") (Jvm.Term.int (0 : Int32))).before #[Value.ref b] s = true := hw _ (List.mem_of_getElem? (i := 1385) (by decide +kernel))
  have n1394 : (Jvm.Cond.eq (Jvm.Term.field (Jvm.Term.string "StoneGazette$Keyword" (71 : Nat)) "java/lang/String" "coder" "B") (Jvm.Term.int (0 : Int32))).before #[Value.ref b] s = true := hw _ (List.mem_of_getElem? (i := 1394) (by decide +kernel))
  have n1403 : (Jvm.Cond.eq (Jvm.Term.field (Jvm.Term.string "StoneGazette$Keyword" (74 : Nat)) "java/lang/String" "coder" "B") (Jvm.Term.int (0 : Int32))).before #[Value.ref b] s = true := hw _ (List.mem_of_getElem? (i := 1403) (by decide +kernel))
  have n1412 : (Jvm.Cond.eq (Jvm.Term.field (Jvm.Term.string "StoneGazette$Keyword" (77 : Nat)) "java/lang/String" "coder" "B") (Jvm.Term.int (0 : Int32))).before #[Value.ref b] s = true := hw _ (List.mem_of_getElem? (i := 1412) (by decide +kernel))
  have n402 : (Jvm.Cond.eq (Jvm.Term.field (Jvm.Term.string "StoneGazetteLaw" (160 : Nat)) "java/lang/String" "coder" "B") (Jvm.Term.int (0 : Int32))).before #[Value.ref b] s = true := hw _ (List.mem_of_getElem? (i := 402) (by decide +kernel))
  have n406 : (Jvm.Cond.eq (Jvm.Term.field (Jvm.Term.string "StoneGazetteLaw" (169 : Nat)) "java/lang/String" "coder" "B") (Jvm.Term.int (0 : Int32))).before #[Value.ref b] s = true := hw _ (List.mem_of_getElem? (i := 406) (by decide +kernel))
  have n429 : (Jvm.Cond.eq (Jvm.Term.field (Jvm.Term.string "StoneGazetteLaw" (182 : Nat)) "java/lang/String" "coder" "B") (Jvm.Term.int (0 : Int32))).before #[Value.ref b] s = true := hw _ (List.mem_of_getElem? (i := 429) (by decide +kernel))
  have n964 : (Jvm.Cond.eq (Jvm.Term.field (Jvm.Term.string "StoneGazetteLaw" (271 : Nat)) "java/lang/String" "coder" "B") (Jvm.Term.int (0 : Int32))).before #[Value.ref b] s = true := hw _ (List.mem_of_getElem? (i := 964) (by decide +kernel))
  have n969 : (Jvm.Cond.eq (Jvm.Term.field (Jvm.Term.string "StoneGazetteLaw" (273 : Nat)) "java/lang/String" "coder" "B") (Jvm.Term.int (0 : Int32))).before #[Value.ref b] s = true := hw _ (List.mem_of_getElem? (i := 969) (by decide +kernel))
  have n974 : (Jvm.Cond.eq (Jvm.Term.field (Jvm.Term.string "StoneGazetteLaw" (217 : Nat)) "java/lang/String" "coder" "B") (Jvm.Term.int (0 : Int32))).before #[Value.ref b] s = true := hw _ (List.mem_of_getElem? (i := 974) (by decide +kernel))
  have n1019 : (Jvm.Cond.eq (Jvm.Term.field (Jvm.Term.string "StoneGazetteLaw" (236 : Nat)) "java/lang/String" "coder" "B") (Jvm.Term.int (0 : Int32))).before #[Value.ref b] s = true := hw _ (List.mem_of_getElem? (i := 1019) (by decide +kernel))
  have n1025 : (Jvm.Cond.eq (Jvm.Term.field (Jvm.Term.string "StoneGazetteLaw" (238 : Nat)) "java/lang/String" "coder" "B") (Jvm.Term.int (0 : Int32))).before #[Value.ref b] s = true := hw _ (List.mem_of_getElem? (i := 1025) (by decide +kernel))
  have n1225 : (Jvm.Cond.eq (Jvm.Term.field (Jvm.Term.string "StoneGazetteLaw" (415 : Nat)) "java/lang/String" "coder" "B") (Jvm.Term.int (0 : Int32))).before #[Value.ref b] s = true := hw _ (List.mem_of_getElem? (i := 1225) (by decide +kernel))
  have n1241 : (Jvm.Cond.eq (Jvm.Term.field (Jvm.Term.string "StoneGazetteLaw" (417 : Nat)) "java/lang/String" "coder" "B") (Jvm.Term.int (0 : Int32))).before #[Value.ref b] s = true := hw _ (List.mem_of_getElem? (i := 1241) (by decide +kernel))
  have n1008 : (Jvm.Cond.eq (Jvm.Term.field (Jvm.Term.string "java/lang/StringLatin1" (151 : Nat)) "java/lang/String" "coder" "B") (Jvm.Term.int (0 : Int32))).before #[Value.ref b] s = true := hw _ (List.mem_of_getElem? (i := 1008) (by decide +kernel))
  have t271 : (Jvm.Cond.stringRef "StoneGazetteLaw" (160 : Nat) "").before #[Value.ref b] s = true := hts _ (List.mem_append_right _ (List.mem_of_getElem? (i := 271) (by decide +kernel)))
  have t392 : (Jvm.Cond.stringRef "StoneGazetteLaw" (169 : Nat) "taenorisulbe").before #[Value.ref b] s = true := hts _ (List.mem_append_right _ (List.mem_of_getElem? (i := 392) (by decide +kernel)))
  have t592 : (Jvm.Cond.stringRef "StoneGazetteLaw" (182 : Nat) " ").before #[Value.ref b] s = true := hts _ (List.mem_append_right _ (List.mem_of_getElem? (i := 592) (by decide +kernel)))
  have t1213 : (Jvm.Cond.stringRef "StoneGazetteLaw" (271 : Nat) "!").before #[Value.ref b] s = true := hts _ (List.mem_append_right _ (List.mem_of_getElem? (i := 1213) (by decide +kernel)))
  have t1218 : (Jvm.Cond.stringRef "StoneGazetteLaw" (273 : Nat) ":").before #[Value.ref b] s = true := hts _ (List.mem_append_right _ (List.mem_of_getElem? (i := 1218) (by decide +kernel)))
  have t1225 : (Jvm.Cond.stringRef "StoneGazetteLaw" (217 : Nat) "aeiou").before #[Value.ref b] s = true := hts _ (List.mem_append_right _ (List.mem_of_getElem? (i := 1225) (by decide +kernel)))
  have t1378 : (Jvm.Cond.stringRef "StoneGazetteLaw" (236 : Nat) "-;").before #[Value.ref b] s = true := hts _ (List.mem_append_right _ (List.mem_of_getElem? (i := 1378) (by decide +kernel)))
  have t1379 : (Jvm.Cond.stringRef "StoneGazetteLaw" (238 : Nat) ";").before #[Value.ref b] s = true := hts _ (List.mem_append_right _ (List.mem_of_getElem? (i := 1379) (by decide +kernel)))
  have t1669 : (Jvm.Cond.stringRef "StoneGazetteLaw" (415 : Nat) ";print;days ").before #[Value.ref b] s = true := hts _ (List.mem_append_right _ (List.mem_of_getElem? (i := 1669) (by decide +kernel)))
  have t1670 : (Jvm.Cond.stringRef "StoneGazetteLaw" (417 : Nat) ";drop ").before #[Value.ref b] s = true := hts _ (List.mem_append_right _ (List.mem_of_getElem? (i := 1670) (by decide +kernel)))
  have t1362 : (Jvm.Cond.stringRef "java/lang/StringLatin1" (151 : Nat) "").before #[Value.ref b] s = true := hts _ (List.mem_append_right _ (List.mem_of_getElem? (i := 1362) (by decide +kernel)))
  have t1668 : (Jvm.Cond.stringRef "StoneGazetteLaw" (413 : Nat) "width ").before #[Value.ref b] s = true := hts _ (List.mem_append_right _ (List.mem_of_getElem? (i := 1668) (by decide +kernel)))
  have n433 : (Jvm.Cond.exactly (Jvm.Term.string "StoneGazette" (75 : Nat)) "java/lang/String").before #[Value.ref b] s = true := hw _ (List.mem_of_getElem? (i := 433) (by decide +kernel))
  obtain ⟨h75, _, _, _, eh75, -⟩ := Cond.exactly_spec n433
  have eh75 : (Jvm.Term.string "StoneGazette" (75 : Nat)).eval #[Value.ref b] s none [] s = some (.ref h75) := eh75
  have t614 : (Jvm.Cond.stringRef "StoneGazette" (75 : Nat) "neither a letter from a to z nor a blank").before #[Value.ref b] s = true := hts _ (List.mem_append_right _ (List.mem_of_getElem? (i := 614) (by decide +kernel)))
  have n477 : (Jvm.Cond.exactly (Jvm.Term.string "StoneGazette" (86 : Nat)) "java/lang/String").before #[Value.ref b] s = true := hw _ (List.mem_of_getElem? (i := 477) (by decide +kernel))
  obtain ⟨h86, _, _, _, eh86, -⟩ := Cond.exactly_spec n477
  have eh86 : (Jvm.Term.string "StoneGazette" (86 : Nat)).eval #[Value.ref b] s none [] s = some (.ref h86) := eh86
  have t629 : (Jvm.Cond.stringRef "StoneGazette" (86 : Nat) "the text is full").before #[Value.ref b] s = true := hts _ (List.mem_append_right _ (List.mem_of_getElem? (i := 629) (by decide +kernel)))
  have n497 : (Jvm.Cond.exactly (Jvm.Term.string "StoneGazette" (96 : Nat)) "java/lang/String").before #[Value.ref b] s = true := hw _ (List.mem_of_getElem? (i := 497) (by decide +kernel))
  obtain ⟨h96, _, _, _, eh96, -⟩ := Cond.exactly_spec n497
  have eh96 : (Jvm.Term.string "StoneGazette" (96 : Nat)).eval #[Value.ref b] s none [] s = some (.ref h96) := eh96
  have t644 : (Jvm.Cond.stringRef "StoneGazette" (96 : Nat) "priority is not from 1 to 9").before #[Value.ref b] s = true := hts _ (List.mem_append_right _ (List.mem_of_getElem? (i := 644) (by decide +kernel)))
  have n528 : (Jvm.Cond.exactly (Jvm.Term.string "StoneGazette" (104 : Nat)) "java/lang/String").before #[Value.ref b] s = true := hw _ (List.mem_of_getElem? (i := 528) (by decide +kernel))
  obtain ⟨h104, _, _, _, eh104, -⟩ := Cond.exactly_spec n528
  have eh104 : (Jvm.Term.string "StoneGazette" (104 : Nat)).eval #[Value.ref b] s none [] s = some (.ref h104) := eh104
  have t649 : (Jvm.Cond.stringRef "StoneGazette" (104 : Nat) "there are 6 articles").before #[Value.ref b] s = true := hts _ (List.mem_append_right _ (List.mem_of_getElem? (i := 649) (by decide +kernel)))
  have n552 : (Jvm.Cond.exactly (Jvm.Term.string "StoneGazette" (112 : Nat)) "java/lang/String").before #[Value.ref b] s = true := hw _ (List.mem_of_getElem? (i := 552) (by decide +kernel))
  obtain ⟨h112, _, _, _, eh112, -⟩ := Cond.exactly_spec n552
  have eh112 : (Jvm.Term.string "StoneGazette" (112 : Nat)).eval #[Value.ref b] s none [] s = some (.ref h112) := eh112
  have t667 : (Jvm.Cond.stringRef "StoneGazette" (112 : Nat) "the text is not an article text").before #[Value.ref b] s = true := hts _ (List.mem_append_right _ (List.mem_of_getElem? (i := 667) (by decide +kernel)))
  have n729 : (Jvm.Cond.exactly (Jvm.Term.string "StoneGazette" (137 : Nat)) "java/lang/String").before #[Value.ref b] s = true := hw _ (List.mem_of_getElem? (i := 729) (by decide +kernel))
  obtain ⟨h137, _, _, _, eh137, -⟩ := Cond.exactly_spec n729
  have eh137 : (Jvm.Term.string "StoneGazette" (137 : Nat)).eval #[Value.ref b] s none [] s = some (.ref h137) := eh137
  have t1047 : (Jvm.Cond.stringRef "StoneGazette" (137 : Nat) "there is no such article").before #[Value.ref b] s = true := hts _ (List.mem_append_right _ (List.mem_of_getElem? (i := 1047) (by decide +kernel)))
  have n782 : (Jvm.Cond.exactly (Jvm.Term.string "StoneGazette" (147 : Nat)) "java/lang/String").before #[Value.ref b] s = true := hw _ (List.mem_of_getElem? (i := 782) (by decide +kernel))
  obtain ⟨h147, _, _, _, eh147, -⟩ := Cond.exactly_spec n782
  have eh147 : (Jvm.Term.string "StoneGazette" (147 : Nat)).eval #[Value.ref b] s none [] s = some (.ref h147) := eh147
  have t1071 : (Jvm.Cond.stringRef "StoneGazette" (147 : Nat) "the text is not a word").before #[Value.ref b] s = true := hts _ (List.mem_append_right _ (List.mem_of_getElem? (i := 1071) (by decide +kernel)))
  have n808 : (Jvm.Cond.exactly (Jvm.Term.string "StoneGazette" (163 : Nat)) "java/lang/String").before #[Value.ref b] s = true := hw _ (List.mem_of_getElem? (i := 808) (by decide +kernel))
  obtain ⟨h163, _, _, _, eh163, -⟩ := Cond.exactly_spec n808
  have eh163 : (Jvm.Term.string "StoneGazette" (163 : Nat)).eval #[Value.ref b] s none [] s = some (.ref h163) := eh163
  have t1111 : (Jvm.Cond.stringRef "StoneGazette" (163 : Nat) "there is no such position").before #[Value.ref b] s = true := hts _ (List.mem_append_right _ (List.mem_of_getElem? (i := 1111) (by decide +kernel)))
  have n982 : (Jvm.Cond.exactly (Jvm.Term.string "StoneGazette" (179 : Nat)) "java/lang/String").before #[Value.ref b] s = true := hw _ (List.mem_of_getElem? (i := 982) (by decide +kernel))
  obtain ⟨h179, _, _, _, eh179, -⟩ := Cond.exactly_spec n982
  have eh179 : (Jvm.Term.string "StoneGazette" (179 : Nat)).eval #[Value.ref b] s none [] s = some (.ref h179) := eh179
  have t1306 : (Jvm.Cond.stringRef "StoneGazette" (179 : Nat) "there is no such rank").before #[Value.ref b] s = true := hts _ (List.mem_append_right _ (List.mem_of_getElem? (i := 1306) (by decide +kernel)))
  have n587 : (Jvm.Cond.exactly (Jvm.Term.string "StoneGazette" (203 : Nat)) "java/lang/String").before #[Value.ref b] s = true := hw _ (List.mem_of_getElem? (i := 587) (by decide +kernel))
  obtain ⟨h203, _, _, _, eh203, -⟩ := Cond.exactly_spec n587
  have eh203 : (Jvm.Term.string "StoneGazette" (203 : Nat)).eval #[Value.ref b] s none [] s = some (.ref h203) := eh203
  have t835 : (Jvm.Cond.stringRef "StoneGazette" (203 : Nat) "width is not from 4 to 20").before #[Value.ref b] s = true := hts _ (List.mem_append_right _ (List.mem_of_getElem? (i := 835) (by decide +kernel)))
  have n616 : (Jvm.Cond.exactly (Jvm.Term.string "StoneGazette" (252 : Nat)) "java/lang/String").before #[Value.ref b] s = true := hw _ (List.mem_of_getElem? (i := 616) (by decide +kernel))
  obtain ⟨h252, _, _, _, eh252, -⟩ := Cond.exactly_spec n616
  have eh252 : (Jvm.Term.string "StoneGazette" (252 : Nat)).eval #[Value.ref b] s none [] s = some (.ref h252) := eh252
  have t847 : (Jvm.Cond.stringRef "StoneGazette" (252 : Nat) "columns is not from 1 to 4 or height is not from 1 to 20").before #[Value.ref b] s = true := hts _ (List.mem_append_right _ (List.mem_of_getElem? (i := 847) (by decide +kernel)))
  have n676 : (Jvm.Cond.exactly (Jvm.Term.string "StoneGazette" (261 : Nat)) "java/lang/String").before #[Value.ref b] s = true := hw _ (List.mem_of_getElem? (i := 676) (by decide +kernel))
  obtain ⟨h261, _, _, _, eh261, -⟩ := Cond.exactly_spec n676
  have eh261 : (Jvm.Term.string "StoneGazette" (261 : Nat)).eval #[Value.ref b] s none [] s = some (.ref h261) := eh261
  have t962 : (Jvm.Cond.stringRef "StoneGazette" (261 : Nat) "there are no articles").before #[Value.ref b] s = true := hts _ (List.mem_append_right _ (List.mem_of_getElem? (i := 962) (by decide +kernel)))
  have n701 : (Jvm.Cond.exactly (Jvm.Term.string "StoneGazette" (307 : Nat)) "java/lang/String").before #[Value.ref b] s = true := hw _ (List.mem_of_getElem? (i := 701) (by decide +kernel))
  obtain ⟨h307, _, _, _, eh307, -⟩ := Cond.exactly_spec n701
  have eh307 : (Jvm.Term.string "StoneGazette" (307 : Nat)).eval #[Value.ref b] s none [] s = some (.ref h307) := eh307
  have t985 : (Jvm.Cond.stringRef "StoneGazette" (307 : Nat) "days is not from 1 to 30").before #[Value.ref b] s = true := hts _ (List.mem_append_right _ (List.mem_of_getElem? (i := 985) (by decide +kernel)))
  have n1194 : (Jvm.Cond.exactly (Jvm.Term.string "StoneGazette" (335 : Nat)) "java/lang/String").before #[Value.ref b] s = true := hw _ (List.mem_of_getElem? (i := 1194) (by decide +kernel))
  obtain ⟨h335, _, _, _, eh335, -⟩ := Cond.exactly_spec n1194
  have eh335 : (Jvm.Term.string "StoneGazette" (335 : Nat)).eval #[Value.ref b] s none [] s = some (.ref h335) := eh335
  have t1630 : (Jvm.Cond.stringRef "StoneGazette" (335 : Nat) "no issue is kept").before #[Value.ref b] s = true := hts _ (List.mem_append_right _ (List.mem_of_getElem? (i := 1630) (by decide +kernel)))
  have n933 : (Jvm.Cond.exactly (Jvm.Term.string "StoneGazette" (340 : Nat)) "java/lang/String").before #[Value.ref b] s = true := hw _ (List.mem_of_getElem? (i := 933) (by decide +kernel))
  obtain ⟨h340, _, _, _, eh340, -⟩ := Cond.exactly_spec n933
  have eh340 : (Jvm.Term.string "StoneGazette" (340 : Nat)).eval #[Value.ref b] s none [] s = some (.ref h340) := eh340
  have t1201 : (Jvm.Cond.stringRef "StoneGazette" (340 : Nat) "there is no such character").before #[Value.ref b] s = true := hts _ (List.mem_append_right _ (List.mem_of_getElem? (i := 1201) (by decide +kernel)))
  have n1250 : (Jvm.Cond.exactly (Jvm.Term.string "StoneGazette" (353 : Nat)) "java/lang/String").before #[Value.ref b] s = true := hw _ (List.mem_of_getElem? (i := 1250) (by decide +kernel))
  obtain ⟨h353, _, _, _, eh353, -⟩ := Cond.exactly_spec n1250
  have eh353 : (Jvm.Term.string "StoneGazette" (353 : Nat)).eval #[Value.ref b] s none [] s = some (.ref h353) := eh353
  have t1681 : (Jvm.Cond.stringRef "StoneGazette" (353 : Nat) "the command buffer is full").before #[Value.ref b] s = true := hts _ (List.mem_append_right _ (List.mem_of_getElem? (i := 1681) (by decide +kernel)))
  have n1280 : (Jvm.Cond.exactly (Jvm.Term.string "StoneGazette" (362 : Nat)) "java/lang/String").before #[Value.ref b] s = true := hw _ (List.mem_of_getElem? (i := 1280) (by decide +kernel))
  obtain ⟨h362, _, _, _, eh362, -⟩ := Cond.exactly_spec n1280
  have eh362 : (Jvm.Term.string "StoneGazette" (362 : Nat)).eval #[Value.ref b] s none [] s = some (.ref h362) := eh362
  have t1748 : (Jvm.Cond.stringRef "StoneGazette" (362 : Nat) "the commands are malformed").before #[Value.ref b] s = true := hts _ (List.mem_append_right _ (List.mem_of_getElem? (i := 1748) (by decide +kernel)))
  have n1310 : (Jvm.Cond.exactly (Jvm.Term.string "StoneGazette" (373 : Nat)) "java/lang/String").before #[Value.ref b] s = true := hw _ (List.mem_of_getElem? (i := 1310) (by decide +kernel))
  obtain ⟨h373, _, _, _, eh373, -⟩ := Cond.exactly_spec n1310
  have eh373 : (Jvm.Term.string "StoneGazette" (373 : Nat)).eval #[Value.ref b] s none [] s = some (.ref h373) := eh373
  have t1762 : (Jvm.Cond.stringRef "StoneGazette" (373 : Nat) "a command throws an exception").before #[Value.ref b] s = true := hts _ (List.mem_append_right _ (List.mem_of_getElem? (i := 1762) (by decide +kernel)))
  have n1343 : (Jvm.Cond.exactly (Jvm.Term.string "StoneGazette" (379 : Nat)) "java/lang/String").before #[Value.ref b] s = true := hw _ (List.mem_of_getElem? (i := 1343) (by decide +kernel))
  obtain ⟨h379, _, _, _, eh379, -⟩ := Cond.exactly_spec n1343
  have eh379 : (Jvm.Term.string "StoneGazette" (379 : Nat)).eval #[Value.ref b] s none [] s = some (.ref h379) := eh379
  have t1774 : (Jvm.Cond.stringRef "StoneGazette" (379 : Nat) "there is no change to undo").before #[Value.ref b] s = true := hts _ (List.mem_append_right _ (List.mem_of_getElem? (i := 1774) (by decide +kernel)))
  have n757 : (Jvm.Cond.exactly (Jvm.Term.string "StoneGazette" (396 : Nat)) "java/lang/String").before #[Value.ref b] s = true := hw _ (List.mem_of_getElem? (i := 757) (by decide +kernel))
  obtain ⟨h396, _, _, _, eh396, -⟩ := Cond.exactly_spec n757
  have eh396 : (Jvm.Term.string "StoneGazette" (396 : Nat)).eval #[Value.ref b] s none [] s = some (.ref h396) := eh396
  have t1063 : (Jvm.Cond.stringRef "StoneGazette" (396 : Nat) "there is no such word").before #[Value.ref b] s = true := hts _ (List.mem_append_right _ (List.mem_of_getElem? (i := 1063) (by decide +kernel)))
  have n1029 : (Jvm.Cond.exactly (Jvm.Term.string "StoneGazette" (401 : Nat)) "java/lang/String").before #[Value.ref b] s = true := hw _ (List.mem_of_getElem? (i := 1029) (by decide +kernel))
  obtain ⟨h401, _, _, _, eh401, -⟩ := Cond.exactly_spec n1029
  have eh401 : (Jvm.Term.string "StoneGazette" (401 : Nat)).eval #[Value.ref b] s none [] s = some (.ref h401) := eh401
  have t1400 : (Jvm.Cond.stringRef "StoneGazette" (401 : Nat) "a word is longer than the column width").before #[Value.ref b] s = true := hts _ (List.mem_append_right _ (List.mem_of_getElem? (i := 1400) (by decide +kernel)))
  have n1071 : (Jvm.Cond.exactly (Jvm.Term.string "StoneGazette" (403 : Nat)) "java/lang/String").before #[Value.ref b] s = true := hw _ (List.mem_of_getElem? (i := 1071) (by decide +kernel))
  obtain ⟨h403, _, _, _, eh403, -⟩ := Cond.exactly_spec n1071
  have eh403 : (Jvm.Term.string "StoneGazette" (403 : Nat)).eval #[Value.ref b] s none [] s = some (.ref h403) := eh403
  have t1461 : (Jvm.Cond.stringRef "StoneGazette" (403 : Nat) "the article cannot be set").before #[Value.ref b] s = true := hts _ (List.mem_append_right _ (List.mem_of_getElem? (i := 1461) (by decide +kernel)))
  have n1100 : (Jvm.Cond.exactly (Jvm.Term.string "StoneGazette" (405 : Nat)) "java/lang/String").before #[Value.ref b] s = true := hw _ (List.mem_of_getElem? (i := 1100) (by decide +kernel))
  obtain ⟨h405, _, _, _, eh405, -⟩ := Cond.exactly_spec n1100
  have eh405 : (Jvm.Term.string "StoneGazette" (405 : Nat)).eval #[Value.ref b] s none [] s = some (.ref h405) := eh405
  have t1488 : (Jvm.Cond.stringRef "StoneGazette" (405 : Nat) "there is no such line").before #[Value.ref b] s = true := hts _ (List.mem_append_right _ (List.mem_of_getElem? (i := 1488) (by decide +kernel)))
  have n1125 : (Jvm.Cond.exactly (Jvm.Term.string "StoneGazette" (407 : Nat)) "java/lang/String").before #[Value.ref b] s = true := hw _ (List.mem_of_getElem? (i := 1125) (by decide +kernel))
  obtain ⟨h407, _, _, _, eh407, -⟩ := Cond.exactly_spec n1125
  have eh407 : (Jvm.Term.string "StoneGazette" (407 : Nat)).eval #[Value.ref b] s none [] s = some (.ref h407) := eh407
  have t1539 : (Jvm.Cond.stringRef "StoneGazette" (407 : Nat) "there is no such issue").before #[Value.ref b] s = true := hts _ (List.mem_append_right _ (List.mem_of_getElem? (i := 1539) (by decide +kernel)))
  have n1151 : (Jvm.Cond.exactly (Jvm.Term.string "StoneGazette" (409 : Nat)) "java/lang/String").before #[Value.ref b] s = true := hw _ (List.mem_of_getElem? (i := 1151) (by decide +kernel))
  obtain ⟨h409, _, _, _, eh409, -⟩ := Cond.exactly_spec n1151
  have eh409 : (Jvm.Term.string "StoneGazette" (409 : Nat)).eval #[Value.ref b] s none [] s = some (.ref h409) := eh409
  have t1584 : (Jvm.Cond.stringRef "StoneGazette" (409 : Nat) "the issue does not contain this article").before #[Value.ref b] s = true := hts _ (List.mem_append_right _ (List.mem_of_getElem? (i := 1584) (by decide +kernel)))
  have hne : ∀ {t u : Jvm.Term} {x y : Nat}, (Jvm.Cond.not (Jvm.Cond.eq t u)).before #[Value.ref b] s = true → t.eval #[Value.ref b] s none [] s = some (.ref x) → u.eval #[Value.ref b] s none [] s = some (.ref y) → x ≠ y := by
    intro t u x y h h1 h2 e
    subst e
    simp [Cond.before, Cond.holds, Cond.value, h1, h2] at h
  have n247 : (Jvm.Cond.not (Jvm.Cond.eq (Jvm.Term.static "StoneGazette$Keyword" "WIDTH" "LStoneGazette$Keyword;") (Jvm.Term.static "StoneGazette$Keyword" "PAGE" "LStoneGazette$Keyword;"))).before #[Value.ref b] s = true := hw _ (List.mem_of_getElem? (i := 247) (by decide +kernel))
  have ne01 : a20 ≠ a21 := hne n247 ea20 ea21
  have n252 : (Jvm.Cond.not (Jvm.Cond.eq (Jvm.Term.static "StoneGazette$Keyword" "WIDTH" "LStoneGazette$Keyword;") (Jvm.Term.static "StoneGazette$Keyword" "PRINT" "LStoneGazette$Keyword;"))).before #[Value.ref b] s = true := hw _ (List.mem_of_getElem? (i := 252) (by decide +kernel))
  have ne02 : a20 ≠ a22 := hne n252 ea20 ea22
  have n258 : (Jvm.Cond.not (Jvm.Cond.eq (Jvm.Term.static "StoneGazette$Keyword" "WIDTH" "LStoneGazette$Keyword;") (Jvm.Term.static "StoneGazette$Keyword" "DAYS" "LStoneGazette$Keyword;"))).before #[Value.ref b] s = true := hw _ (List.mem_of_getElem? (i := 258) (by decide +kernel))
  have ne03 : a20 ≠ a23 := hne n258 ea20 ea23
  have n265 : (Jvm.Cond.not (Jvm.Cond.eq (Jvm.Term.static "StoneGazette$Keyword" "WIDTH" "LStoneGazette$Keyword;") (Jvm.Term.static "StoneGazette$Keyword" "DROP" "LStoneGazette$Keyword;"))).before #[Value.ref b] s = true := hw _ (List.mem_of_getElem? (i := 265) (by decide +kernel))
  have ne04 : a20 ≠ a24 := hne n265 ea20 ea24
  have n253 : (Jvm.Cond.not (Jvm.Cond.eq (Jvm.Term.static "StoneGazette$Keyword" "PAGE" "LStoneGazette$Keyword;") (Jvm.Term.static "StoneGazette$Keyword" "PRINT" "LStoneGazette$Keyword;"))).before #[Value.ref b] s = true := hw _ (List.mem_of_getElem? (i := 253) (by decide +kernel))
  have ne12 : a21 ≠ a22 := hne n253 ea21 ea22
  have n259 : (Jvm.Cond.not (Jvm.Cond.eq (Jvm.Term.static "StoneGazette$Keyword" "PAGE" "LStoneGazette$Keyword;") (Jvm.Term.static "StoneGazette$Keyword" "DAYS" "LStoneGazette$Keyword;"))).before #[Value.ref b] s = true := hw _ (List.mem_of_getElem? (i := 259) (by decide +kernel))
  have ne13 : a21 ≠ a23 := hne n259 ea21 ea23
  have n266 : (Jvm.Cond.not (Jvm.Cond.eq (Jvm.Term.static "StoneGazette$Keyword" "PAGE" "LStoneGazette$Keyword;") (Jvm.Term.static "StoneGazette$Keyword" "DROP" "LStoneGazette$Keyword;"))).before #[Value.ref b] s = true := hw _ (List.mem_of_getElem? (i := 266) (by decide +kernel))
  have ne14 : a21 ≠ a24 := hne n266 ea21 ea24
  have n260 : (Jvm.Cond.not (Jvm.Cond.eq (Jvm.Term.static "StoneGazette$Keyword" "PRINT" "LStoneGazette$Keyword;") (Jvm.Term.static "StoneGazette$Keyword" "DAYS" "LStoneGazette$Keyword;"))).before #[Value.ref b] s = true := hw _ (List.mem_of_getElem? (i := 260) (by decide +kernel))
  have ne23 : a22 ≠ a23 := hne n260 ea22 ea23
  have n267 : (Jvm.Cond.not (Jvm.Cond.eq (Jvm.Term.static "StoneGazette$Keyword" "PRINT" "LStoneGazette$Keyword;") (Jvm.Term.static "StoneGazette$Keyword" "DROP" "LStoneGazette$Keyword;"))).before #[Value.ref b] s = true := hw _ (List.mem_of_getElem? (i := 267) (by decide +kernel))
  have ne24 : a22 ≠ a24 := hne n267 ea22 ea24
  have n268 : (Jvm.Cond.not (Jvm.Cond.eq (Jvm.Term.static "StoneGazette$Keyword" "DAYS" "LStoneGazette$Keyword;") (Jvm.Term.static "StoneGazette$Keyword" "DROP" "LStoneGazette$Keyword;"))).before #[Value.ref b] s = true := hw _ (List.mem_of_getElem? (i := 268) (by decide +kernel))
  have ne34 : a23 ≠ a24 := hne n268 ea23 ea24
  have t496 : (Jvm.Cond.laysStatic "java/lang/Throwable" "UNASSIGNED_STACK" "[Ljava/lang/StackTraceElement;").before #[Value.ref b] s = true := hts _ (List.mem_append_right _ (List.mem_of_getElem? (i := 496) (by decide +kernel)))
  have t20 : (Jvm.Cond.initialized "java/lang/Throwable").before #[Value.ref b] s = true := hts _ (List.mem_append_right _ (List.mem_of_getElem? (i := 20) (by decide +kernel)))
  have n13 : (Jvm.Cond.isRef (Jvm.Term.static "java/lang/Throwable" "UNASSIGNED_STACK" "[Ljava/lang/StackTraceElement;")).before #[Value.ref b] s = true := hw _ (List.mem_of_getElem? (i := 13) (by decide +kernel))
  have t498 : (Jvm.Cond.laysStatic "java/lang/Throwable" "SUPPRESSED_SENTINEL" "Ljava/util/List;").before #[Value.ref b] s = true := hts _ (List.mem_append_right _ (List.mem_of_getElem? (i := 498) (by decide +kernel)))
  have n14 : (Jvm.Cond.isRef (Jvm.Term.static "java/lang/Throwable" "SUPPRESSED_SENTINEL" "Ljava/util/List;")).before #[Value.ref b] s = true := hw _ (List.mem_of_getElem? (i := 14) (by decide +kernel))
  have t336 : (Jvm.Cond.laysStatic "jdk/internal/util/Preconditions" "SIOOBE_FORMATTER" "Ljava/util/function/BiFunction;").before #[Value.ref b] s = true := hts _ (List.mem_append_right _ (List.mem_of_getElem? (i := 336) (by decide +kernel)))
  have t18 : (Jvm.Cond.initialized "jdk/internal/util/Preconditions").before #[Value.ref b] s = true := hts _ (List.mem_append_right _ (List.mem_of_getElem? (i := 18) (by decide +kernel)))
  have n9 : (Jvm.Cond.isRef (Jvm.Term.static "jdk/internal/util/Preconditions" "SIOOBE_FORMATTER" "Ljava/util/function/BiFunction;")).before #[Value.ref b] s = true := hw _ (List.mem_of_getElem? (i := 9) (by decide +kernel))
  have n373 : (Jvm.Cond.not (Jvm.Cond.castable "java/util/NoSuchElementException" "java/lang/IndexOutOfBoundsException")).before #[Value.ref b] s = true := hw _ (List.mem_of_getElem? (i := 373) (by decide +kernel))
  have n329 : (Jvm.Cond.not (Jvm.Cond.castable "java/util/NoSuchElementException" "java/lang/UnsupportedOperationException")).before #[Value.ref b] s = true := hw _ (List.mem_of_getElem? (i := 329) (by decide +kernel))
  have n285 : (Jvm.Cond.not (Jvm.Cond.castable "java/util/NoSuchElementException" "java/lang/IllegalArgumentException")).before #[Value.ref b] s = true := hw _ (List.mem_of_getElem? (i := 285) (by decide +kernel))
  have n307 : (Jvm.Cond.not (Jvm.Cond.castable "java/util/NoSuchElementException" "java/lang/IllegalStateException")).before #[Value.ref b] s = true := hw _ (List.mem_of_getElem? (i := 307) (by decide +kernel))
  have n352 : (Jvm.Cond.not (Jvm.Cond.castable "java/lang/IndexOutOfBoundsException" "java/util/NoSuchElementException")).before #[Value.ref b] s = true := hw _ (List.mem_of_getElem? (i := 352) (by decide +kernel))
  have n330 : (Jvm.Cond.not (Jvm.Cond.castable "java/lang/IndexOutOfBoundsException" "java/lang/UnsupportedOperationException")).before #[Value.ref b] s = true := hw _ (List.mem_of_getElem? (i := 330) (by decide +kernel))
  have n286 : (Jvm.Cond.not (Jvm.Cond.castable "java/lang/IndexOutOfBoundsException" "java/lang/IllegalArgumentException")).before #[Value.ref b] s = true := hw _ (List.mem_of_getElem? (i := 286) (by decide +kernel))
  have n308 : (Jvm.Cond.not (Jvm.Cond.castable "java/lang/IndexOutOfBoundsException" "java/lang/IllegalStateException")).before #[Value.ref b] s = true := hw _ (List.mem_of_getElem? (i := 308) (by decide +kernel))
  have n346 : (Jvm.Cond.not (Jvm.Cond.castable "java/lang/UnsupportedOperationException" "java/util/NoSuchElementException")).before #[Value.ref b] s = true := hw _ (List.mem_of_getElem? (i := 346) (by decide +kernel))
  have n368 : (Jvm.Cond.not (Jvm.Cond.castable "java/lang/UnsupportedOperationException" "java/lang/IndexOutOfBoundsException")).before #[Value.ref b] s = true := hw _ (List.mem_of_getElem? (i := 368) (by decide +kernel))
  have n279 : (Jvm.Cond.not (Jvm.Cond.castable "java/lang/UnsupportedOperationException" "java/lang/IllegalArgumentException")).before #[Value.ref b] s = true := hw _ (List.mem_of_getElem? (i := 279) (by decide +kernel))
  have n301 : (Jvm.Cond.not (Jvm.Cond.castable "java/lang/UnsupportedOperationException" "java/lang/IllegalStateException")).before #[Value.ref b] s = true := hw _ (List.mem_of_getElem? (i := 301) (by decide +kernel))
  have n344 : (Jvm.Cond.not (Jvm.Cond.castable "java/lang/IllegalArgumentException" "java/util/NoSuchElementException")).before #[Value.ref b] s = true := hw _ (List.mem_of_getElem? (i := 344) (by decide +kernel))
  have n366 : (Jvm.Cond.not (Jvm.Cond.castable "java/lang/IllegalArgumentException" "java/lang/IndexOutOfBoundsException")).before #[Value.ref b] s = true := hw _ (List.mem_of_getElem? (i := 366) (by decide +kernel))
  have n322 : (Jvm.Cond.not (Jvm.Cond.castable "java/lang/IllegalArgumentException" "java/lang/UnsupportedOperationException")).before #[Value.ref b] s = true := hw _ (List.mem_of_getElem? (i := 322) (by decide +kernel))
  have n300 : (Jvm.Cond.not (Jvm.Cond.castable "java/lang/IllegalArgumentException" "java/lang/IllegalStateException")).before #[Value.ref b] s = true := hw _ (List.mem_of_getElem? (i := 300) (by decide +kernel))
  have n345 : (Jvm.Cond.not (Jvm.Cond.castable "java/lang/IllegalStateException" "java/util/NoSuchElementException")).before #[Value.ref b] s = true := hw _ (List.mem_of_getElem? (i := 345) (by decide +kernel))
  have n367 : (Jvm.Cond.not (Jvm.Cond.castable "java/lang/IllegalStateException" "java/lang/IndexOutOfBoundsException")).before #[Value.ref b] s = true := hw _ (List.mem_of_getElem? (i := 367) (by decide +kernel))
  have n323 : (Jvm.Cond.not (Jvm.Cond.castable "java/lang/IllegalStateException" "java/lang/UnsupportedOperationException")).before #[Value.ref b] s = true := hw _ (List.mem_of_getElem? (i := 323) (by decide +kernel))
  have n278 : (Jvm.Cond.not (Jvm.Cond.castable "java/lang/IllegalStateException" "java/lang/IllegalArgumentException")).before #[Value.ref b] s = true := hw _ (List.mem_of_getElem? (i := 278) (by decide +kernel))
  have hNc : zxNc s := fun x y hx hy hn => by
    have hx2 : x = "java/util/NoSuchElementException" ∨ x = "java/lang/IndexOutOfBoundsException" ∨ x = "java/lang/UnsupportedOperationException" ∨ x = "java/lang/IllegalArgumentException" ∨ x = "java/lang/IllegalStateException" := by simpa [znames] using hx
    have hy2 : y = "java/util/NoSuchElementException" ∨ y = "java/lang/IndexOutOfBoundsException" ∨ y = "java/lang/UnsupportedOperationException" ∨ y = "java/lang/IllegalArgumentException" ∨ y = "java/lang/IllegalStateException" := by simpa [znames] using hy
    rcases hx2 with rfl | rfl | rfl | rfl | rfl <;> rcases hy2 with rfl | rfl | rfl | rfl | rfl <;> first | exact absurd rfl hn | (refine va_Nc.of (args := #[Value.ref b]) ?_; assumption)
  have Tb11 : va_T (.object "StoneGazette$Keyword") a11 5 (fun j => .ref ((fun k : Nat => [c0, c1, c2, c3, c4, c5, c6, c7, a8, a9, a10, a11, a12, 0, 0, 0, 0, 0, 0, 0, a20, a21, a22, a23, a24, 0, 0, 0, 0, 0, a30, a31, a32, a33, a34, 0, 0, 0, 0, 0, a40, a41, a42, a43, a44, 0, 0, 0, 0, 0, a50, a51, a52, a53, a54, a55, a56, a57, a58, a59, a60, 0, 0, 0, 0, 0, 0, 0, 0, 0, a70, a71, a72, a73, a74, a75, a76, a77, a78, a79, a80, 0, 0, 0, 0, 0, 0, 0, 0, 0, 0, 0, 0, 0, 0, 0, 0, 0, b, L].getD k (xs (k - 100)).toUInt32.toNat) (20 + j))) (fun q : Nat => s.heap.size ≤ q) s s.heap := by
    obtain ⟨cell, h1, h2, h3, h4, h5, h6, h7⟩ := Ta11
    refine ⟨cell, h1, h2, h3, h4, h5, fun j hj => ?_, h7⟩
    match j, hj with
    | 0, hj => exact h6 0 hj
    | 1, hj => exact h6 1 hj
    | 2, hj => exact h6 2 hj
    | 3, hj => exact h6 3 hj
    | 4, hj => exact h6 4 hj
    | k + 5, hj => exact absurd hj (by omega)
  have hK : va_K ((fun k : Nat => [d0, d1, d2, d3, d4, d5, d6, d7, d8, d9, d10, d11, d12, d13, d14, d15].getD k 0), (fun k : Nat => [i0, i1, i2, i3, i4, i5, i6, i7, i8, i9, i10, i11, i12, i13, i14, i15].getD k (fun _ => 0))) vwCl (ztys (fun k : Nat => [c0, c1, c2, c3, c4, c5, c6, c7, a8, a9, a10, a11, a12, 0, 0, 0, 0, 0, 0, 0, a20, a21, a22, a23, a24, 0, 0, 0, 0, 0, a30, a31, a32, a33, a34, 0, 0, 0, 0, 0, a40, a41, a42, a43, a44, 0, 0, 0, 0, 0, a50, a51, a52, a53, a54, a55, a56, a57, a58, a59, a60, 0, 0, 0, 0, 0, 0, 0, 0, 0, a70, a71, a72, a73, a74, a75, a76, a77, a78, a79, a80, 0, 0, 0, 0, 0, 0, 0, 0, 0, 0, 0, 0, 0, 0, 0, 0, 0, b, L].getD k (xs (k - 100)).toUInt32.toNat)) s := by
    refine ⟨fun k q hq => ?_, fun k q hq => ?_⟩
    · match k, hq with
      | 0, hq => cases hq; exact u0
      | 1, hq => cases hq; exact u1
      | 2, hq => cases hq; exact u2
      | 3, hq => cases hq; exact u3
      | 4, hq => cases hq; exact u4
      | 5, hq => cases hq; exact u5
      | 6, hq => cases hq; exact u6
      | 7, hq => cases hq; exact u7
      | 8, hq => cases hq; exact u8
      | 9, hq => cases hq; exact u9
      | 10, hq => cases hq; exact u10
      | 11, hq => cases hq; exact u11
      | 12, hq => cases hq; exact u12
      | 13, hq => cases hq; exact u13
      | 14, hq => cases hq; exact u14
      | 15, hq => cases hq; exact u15
      | k + 16, hq => simp [vwCl] at hq
    · match k, hq with
      | 0, hq => cases hq; exact K0
      | 1, hq => cases hq; exact K1
      | 2, hq => cases hq; exact K2
      | 3, hq => cases hq; exact K3
      | 4, hq => cases hq; exact K4
      | 5, hq => cases hq; exact K5
      | 6, hq => cases hq; exact K6
      | 7, hq => cases hq; exact K7
      | k + 8, hq => simp [ztys] at hq
  have Ts : va_T .int b L (fun j => .int (Int32.ofNat ((fun k : Nat => [c0, c1, c2, c3, c4, c5, c6, c7, a8, a9, a10, a11, a12, 0, 0, 0, 0, 0, 0, 0, a20, a21, a22, a23, a24, 0, 0, 0, 0, 0, a30, a31, a32, a33, a34, 0, 0, 0, 0, 0, a40, a41, a42, a43, a44, 0, 0, 0, 0, 0, a50, a51, a52, a53, a54, a55, a56, a57, a58, a59, a60, 0, 0, 0, 0, 0, 0, 0, 0, 0, a70, a71, a72, a73, a74, a75, a76, a77, a78, a79, a80, 0, 0, 0, 0, 0, 0, 0, 0, 0, 0, 0, 0, 0, 0, 0, 0, 0, b, L].getD k (xs (k - 100)).toUInt32.toNat) (100 + j)))) (fun q : Nat => s.heap.size ≤ q) s s.heap := va_Ts (l := [c0, c1, c2, c3, c4, c5, c6, c7, a8, a9, a10, a11, a12, 0, 0, 0, 0, 0, 0, 0, a20, a21, a22, a23, a24, 0, 0, 0, 0, 0, a30, a31, a32, a33, a34, 0, 0, 0, 0, 0, a40, a41, a42, a43, a44, 0, 0, 0, 0, 0, a50, a51, a52, a53, a54, a55, a56, a57, a58, a59, a60, 0, 0, 0, 0, 0, 0, 0, 0, 0, a70, a71, a72, a73, a74, a75, a76, a77, a78, a79, a80, 0, 0, 0, 0, 0, 0, 0, 0, 0, 0, 0, 0, 0, 0, 0, 0, 0, b, L]) rfl hX hA
  refine ⟨_, (fun k : Nat => [c0, c1, c2, c3, c4, c5, c6, c7, a8, a9, a10, a11, a12, 0, 0, 0, 0, 0, 0, 0, a20, a21, a22, a23, a24, 0, 0, 0, 0, 0, a30, a31, a32, a33, a34, 0, 0, 0, 0, 0, a40, a41, a42, a43, a44, 0, 0, 0, 0, 0, a50, a51, a52, a53, a54, a55, a56, a57, a58, a59, a60, 0, 0, 0, 0, 0, 0, 0, 0, 0, a70, a71, a72, a73, a74, a75, a76, a77, a78, a79, a80, 0, 0, 0, 0, 0, 0, 0, 0, 0, 0, 0, 0, 0, 0, 0, 0, 0, b, L].getD k (xs (k - 100)).toUInt32.toNat), hK, ⟨⟨vx_Zqof t496 t20 n13 hA, vx_Zqof t498 t20 n14 hA, va_Zqof t336 t18 n9 hA⟩, fun w h => va_Nw.of (znk_tab (List.mem_filter.mp h).2) (hts w (List.mem_filter.mp h).1), ⟨va_AO.of t759, va_AO.of t745, va_AO.of t1122, hNc⟩, (List.forall_mem_cons.mpr ⟨⟨h75, vk_R.of t614 eh75⟩, List.forall_mem_cons.mpr ⟨⟨h86, vk_R.of t629 eh86⟩, List.forall_mem_cons.mpr ⟨⟨h96, vk_R.of t644 eh96⟩, List.forall_mem_cons.mpr ⟨⟨h104, vk_R.of t649 eh104⟩, List.forall_mem_cons.mpr ⟨⟨h112, vk_R.of t667 eh112⟩, List.forall_mem_cons.mpr ⟨⟨h137, vk_R.of t1047 eh137⟩, List.forall_mem_cons.mpr ⟨⟨h147, vk_R.of t1071 eh147⟩, List.forall_mem_cons.mpr ⟨⟨h163, vk_R.of t1111 eh163⟩, List.forall_mem_cons.mpr ⟨⟨h179, vk_R.of t1306 eh179⟩, List.forall_mem_cons.mpr ⟨⟨h203, vk_R.of t835 eh203⟩, List.forall_mem_cons.mpr ⟨⟨h252, vk_R.of t847 eh252⟩, List.forall_mem_cons.mpr ⟨⟨h261, vk_R.of t962 eh261⟩, List.forall_mem_cons.mpr ⟨⟨h307, vk_R.of t985 eh307⟩, List.forall_mem_cons.mpr ⟨⟨h335, vk_R.of t1630 eh335⟩, List.forall_mem_cons.mpr ⟨⟨h340, vk_R.of t1201 eh340⟩, List.forall_mem_cons.mpr ⟨⟨h353, vk_R.of t1681 eh353⟩, List.forall_mem_cons.mpr ⟨⟨h362, vk_R.of t1748 eh362⟩, List.forall_mem_cons.mpr ⟨⟨h373, vk_R.of t1762 eh373⟩, List.forall_mem_cons.mpr ⟨⟨h75, vk_R.of t614 eh75⟩, List.forall_mem_cons.mpr ⟨⟨h75, vk_R.of t614 eh75⟩, List.forall_mem_cons.mpr ⟨⟨h379, vk_R.of t1774 eh379⟩, List.forall_mem_cons.mpr ⟨⟨h75, vk_R.of t614 eh75⟩, List.forall_mem_cons.mpr ⟨⟨h396, vk_R.of t1063 eh396⟩, List.forall_mem_cons.mpr ⟨⟨h401, vk_R.of t1400 eh401⟩, List.forall_mem_cons.mpr ⟨⟨h403, vk_R.of t1461 eh403⟩, List.forall_mem_cons.mpr ⟨⟨h405, vk_R.of t1488 eh405⟩, List.forall_mem_cons.mpr ⟨⟨h407, vk_R.of t1539 eh407⟩, List.forall_mem_cons.mpr ⟨⟨h409, vk_R.of t1584 eh409⟩, fun _ h => absurd h List.not_mem_nil⟩⟩⟩⟩⟩⟩⟩⟩⟩⟩⟩⟩⟩⟩⟩⟩⟩⟩⟩⟩⟩⟩⟩⟩⟩⟩⟩⟩), (List.forall_mem_cons.mpr ⟨va_Zof t161 t13 (ea8) hA, List.forall_mem_cons.mpr ⟨va_Zof t84 t6 (va_eqv n4 rfl) hA, List.forall_mem_cons.mpr ⟨va_Zof t531 t25 (ea9) hA, List.forall_mem_cons.mpr ⟨va_Zof t533 t25 (ea10) hA, List.forall_mem_cons.mpr ⟨va_Zof t1708 t1 (ea11) hA, List.forall_mem_cons.mpr ⟨va_Zof t1755 t43 (ea12) hA, List.forall_mem_cons.mpr ⟨va_Zof t1706 t41 (ea20) hA, List.forall_mem_cons.mpr ⟨va_Zof t1831 t41 (ea21) hA, List.forall_mem_cons.mpr ⟨va_Zof t1832 t41 (ea22) hA, List.forall_mem_cons.mpr ⟨va_Zof t1833 t41 (ea23) hA, List.forall_mem_cons.mpr ⟨va_Zof t1834 t41 (ea24) hA, fun _ h => absurd h List.not_mem_nil⟩⟩⟩⟩⟩⟩⟩⟩⟩⟩⟩), (List.forall_mem_cons.mpr ⟨vk_OFof ea20 (va_eqv n222 rfl) hA, List.forall_mem_cons.mpr ⟨vk_OFof ea20 (va_eqv n224 rfl) hA, List.forall_mem_cons.mpr ⟨vk_OFof ea20 (va_eqv n223 ea30) hA, List.forall_mem_cons.mpr ⟨vk_OFof ea21 (va_eqv n244 rfl) hA, List.forall_mem_cons.mpr ⟨vk_OFof ea21 (va_eqv n246 rfl) hA, List.forall_mem_cons.mpr ⟨vk_OFof ea21 (va_eqv n245 ea31) hA, List.forall_mem_cons.mpr ⟨vk_OFof ea22 (va_eqv n249 rfl) hA, List.forall_mem_cons.mpr ⟨vk_OFof ea22 (va_eqv n251 rfl) hA, List.forall_mem_cons.mpr ⟨vk_OFof ea22 (va_eqv n250 ea32) hA, List.forall_mem_cons.mpr ⟨vk_OFof ea23 (va_eqv n255 rfl) hA, List.forall_mem_cons.mpr ⟨vk_OFof ea23 (va_eqv n257 rfl) hA, List.forall_mem_cons.mpr ⟨vk_OFof ea23 (va_eqv n256 ea33) hA, List.forall_mem_cons.mpr ⟨vk_OFof ea24 (va_eqv n262 rfl) hA, List.forall_mem_cons.mpr ⟨vk_OFof ea24 (va_eqv n264 rfl) hA, List.forall_mem_cons.mpr ⟨vk_OFof ea24 (va_eqv n263 ea34) hA, List.forall_mem_cons.mpr ⟨vk_OFof ea30 (va_eqv n1374 rfl) hA, List.forall_mem_cons.mpr ⟨vk_OFof ea30 (ea40) hA, List.forall_mem_cons.mpr ⟨vk_OFof ea31 (va_eqv n1385 rfl) hA, List.forall_mem_cons.mpr ⟨vk_OFof ea31 (ea41) hA, List.forall_mem_cons.mpr ⟨vk_OFof ea32 (va_eqv n1394 rfl) hA, List.forall_mem_cons.mpr ⟨vk_OFof ea32 (ea42) hA, List.forall_mem_cons.mpr ⟨vk_OFof ea33 (va_eqv n1403 rfl) hA, List.forall_mem_cons.mpr ⟨vk_OFof ea33 (ea43) hA, List.forall_mem_cons.mpr ⟨vk_OFof ea34 (va_eqv n1412 rfl) hA, List.forall_mem_cons.mpr ⟨vk_OFof ea34 (ea44) hA, List.forall_mem_cons.mpr ⟨vk_OFof ea50 (va_eqv n402 rfl) hA, List.forall_mem_cons.mpr ⟨vk_OFof ea50 (ea70) hA, List.forall_mem_cons.mpr ⟨vk_OFof ea51 (va_eqv n406 rfl) hA, List.forall_mem_cons.mpr ⟨vk_OFof ea51 (ea71) hA, List.forall_mem_cons.mpr ⟨vk_OFof ea52 (va_eqv n429 rfl) hA, List.forall_mem_cons.mpr ⟨vk_OFof ea52 (ea72) hA, List.forall_mem_cons.mpr ⟨vk_OFof ea53 (va_eqv n964 rfl) hA, List.forall_mem_cons.mpr ⟨vk_OFof ea53 (ea73) hA, List.forall_mem_cons.mpr ⟨vk_OFof ea54 (va_eqv n969 rfl) hA, List.forall_mem_cons.mpr ⟨vk_OFof ea54 (ea74) hA, List.forall_mem_cons.mpr ⟨vk_OFof ea55 (va_eqv n974 rfl) hA, List.forall_mem_cons.mpr ⟨vk_OFof ea55 (ea75) hA, List.forall_mem_cons.mpr ⟨vk_OFof ea56 (va_eqv n1019 rfl) hA, List.forall_mem_cons.mpr ⟨vk_OFof ea56 (ea76) hA, List.forall_mem_cons.mpr ⟨vk_OFof ea57 (va_eqv n1025 rfl) hA, List.forall_mem_cons.mpr ⟨vk_OFof ea57 (ea77) hA, List.forall_mem_cons.mpr ⟨vk_OFof ea58 (va_eqv n1225 rfl) hA, List.forall_mem_cons.mpr ⟨vk_OFof ea58 (ea78) hA, List.forall_mem_cons.mpr ⟨vk_OFof ea59 (va_eqv n1241 rfl) hA, List.forall_mem_cons.mpr ⟨vk_OFof ea59 (ea79) hA, List.forall_mem_cons.mpr ⟨vk_OFof ea60 (va_eqv n1008 rfl) hA, List.forall_mem_cons.mpr ⟨vk_OFof ea60 (ea80) hA, fun _ h => absurd h List.not_mem_nil⟩⟩⟩⟩⟩⟩⟩⟩⟩⟩⟩⟩⟩⟩⟩⟩⟩⟩⟩⟩⟩⟩⟩⟩⟩⟩⟩⟩⟩⟩⟩⟩⟩⟩⟩⟩⟩⟩⟩⟩⟩⟩⟩⟩⟩⟩⟩), (List.forall_mem_cons.mpr ⟨Ta8, List.forall_mem_cons.mpr ⟨Ta9, List.forall_mem_cons.mpr ⟨Ta10, List.forall_mem_cons.mpr ⟨Tb11, List.forall_mem_cons.mpr ⟨Ta12, List.forall_mem_cons.mpr ⟨Ta40, List.forall_mem_cons.mpr ⟨Ta41, List.forall_mem_cons.mpr ⟨Ta42, List.forall_mem_cons.mpr ⟨Ta43, List.forall_mem_cons.mpr ⟨Ta44, List.forall_mem_cons.mpr ⟨Ta70, List.forall_mem_cons.mpr ⟨Ta71, List.forall_mem_cons.mpr ⟨Ta72, List.forall_mem_cons.mpr ⟨Ta73, List.forall_mem_cons.mpr ⟨Ta74, List.forall_mem_cons.mpr ⟨Ta75, List.forall_mem_cons.mpr ⟨Ta76, List.forall_mem_cons.mpr ⟨Ta77, List.forall_mem_cons.mpr ⟨Ta78, List.forall_mem_cons.mpr ⟨Ta79, List.forall_mem_cons.mpr ⟨Ta80, List.forall_mem_cons.mpr ⟨Ts, fun _ h => absurd h List.not_mem_nil⟩⟩⟩⟩⟩⟩⟩⟩⟩⟩⟩⟩⟩⟩⟩⟩⟩⟩⟩⟩⟩⟩), (List.forall_mem_cons.mpr ⟨va_Oof n221 ea20 hA, List.forall_mem_cons.mpr ⟨va_Oof n243 ea21 hA, List.forall_mem_cons.mpr ⟨va_Oof n248 ea22 hA, List.forall_mem_cons.mpr ⟨va_Oof n254 ea23 hA, List.forall_mem_cons.mpr ⟨va_Oof n261 ea24 hA, List.forall_mem_cons.mpr ⟨va_Oof n1373 ea30 hA, List.forall_mem_cons.mpr ⟨va_Oof n1384 ea31 hA, List.forall_mem_cons.mpr ⟨va_Oof n1393 ea32 hA, List.forall_mem_cons.mpr ⟨va_Oof n1402 ea33 hA, List.forall_mem_cons.mpr ⟨va_Oof n1411 ea34 hA, List.forall_mem_cons.mpr ⟨va_Oof n401 ea50 hA, List.forall_mem_cons.mpr ⟨va_Oof n405 ea51 hA, List.forall_mem_cons.mpr ⟨va_Oof n428 ea52 hA, List.forall_mem_cons.mpr ⟨va_Oof n963 ea53 hA, List.forall_mem_cons.mpr ⟨va_Oof n968 ea54 hA, List.forall_mem_cons.mpr ⟨va_Oof n973 ea55 hA, List.forall_mem_cons.mpr ⟨va_Oof n1018 ea56 hA, List.forall_mem_cons.mpr ⟨va_Oof n1024 ea57 hA, List.forall_mem_cons.mpr ⟨va_Oof n1224 ea58 hA, List.forall_mem_cons.mpr ⟨va_Oof n1240 ea59 hA, List.forall_mem_cons.mpr ⟨va_Oof n1007 ea60 hA, fun _ h => absurd h List.not_mem_nil⟩⟩⟩⟩⟩⟩⟩⟩⟩⟩⟩⟩⟩⟩⟩⟩⟩⟩⟩⟩⟩), (List.forall_mem_cons.mpr ⟨vk_R.of t271 ea50, List.forall_mem_cons.mpr ⟨vk_R.of t392 ea51, List.forall_mem_cons.mpr ⟨vk_R.of t592 ea52, List.forall_mem_cons.mpr ⟨vk_R.of t1213 ea53, List.forall_mem_cons.mpr ⟨vk_R.of t1218 ea54, List.forall_mem_cons.mpr ⟨vk_R.of t1225 ea55, List.forall_mem_cons.mpr ⟨vk_R.of t1378 ea56, List.forall_mem_cons.mpr ⟨vk_R.of t1379 ea57, List.forall_mem_cons.mpr ⟨vk_R.of t1669 ea58, List.forall_mem_cons.mpr ⟨vk_R.of t1670 ea59, List.forall_mem_cons.mpr ⟨vk_R.of t1362 ea60, List.forall_mem_cons.mpr ⟨vk_R.of t1668 em413, fun _ h => absurd h List.not_mem_nil⟩⟩⟩⟩⟩⟩⟩⟩⟩⟩⟩⟩), fun i j hi hj h => by
      have hi2 : i = 0 ∨ i = 1 ∨ i = 2 ∨ i = 3 ∨ i = 4 := by omega
      have hj2 : j = 0 ∨ j = 1 ∨ j = 2 ∨ j = 3 ∨ j = 4 := by omega
      rcases hi2 with rfl | rfl | rfl | rfl | rfl <;> rcases hj2 with rfl | rfl | rfl | rfl | rfl <;> first | rfl | exact absurd h (by assumption) | exact absurd h (Ne.symm (by assumption))⟩, rfl, rfl⟩
