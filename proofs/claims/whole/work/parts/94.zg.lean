theorem zg_DigitOnes : (List.range 100).all (fun j => decide ((flatC (Jvm.Cond.and given_1 narrow_1))[18 + j]? = some (Jvm.Cond.eq (Jvm.Term.elem (Jvm.Term.static "java/lang/Integer" "DigitOnes" "[B") (Jvm.Term.int (Int32.ofNat j))) (Jvm.Term.int (Int32.ofNat (48 + j % 10)))))) = true := by decide +kernel
theorem zg_DigitTens : (List.range 100).all (fun j => decide ((flatC (Jvm.Cond.and given_1 narrow_1))[121 + j]? = some (Jvm.Cond.eq (Jvm.Term.elem (Jvm.Term.static "java/lang/Integer" "DigitTens" "[B") (Jvm.Term.int (Int32.ofNat j))) (Jvm.Term.int (Int32.ofNat (48 + j / 10)))))) = true := by decide +kernel
set_option maxHeartbeats 4000000 in
set_option maxRecDepth 100000 in
/-- what never changes, at the law's start -/
theorem zg_start {s : State} {b : Nat} (hts : ∀ w ∈ lw_tbl, w.before #[Value.ref b] s = true) (hgv : (Jvm.Cond.and given_1 narrow_1).before #[Value.ref b] s = true) : ∃ (D : va_G) (cs : Nat → ClassId), va_K D vwCl (ztys cs) s ∧ zG cs (fun q => s.heap.size ≤ q) s s.heap ∧ zxNc s := by
  have hw := flat_of_before _ hgv
  have hA : ∀ a : Nat, a < s.heap.size → ¬ (fun q : Nat => s.heap.size ≤ q) a := fun a h => Nat.not_le.mpr h
  have n6 : (Jvm.Cond.arrayOf (Jvm.Term.static "java/util/ArrayList" "DEFAULTCAPACITY_EMPTY_ELEMENTDATA" "[Ljava/lang/Object;") (Jvm.ClassFile.FieldType.object "java/lang/Object")).before #[Value.ref b] s = true := hw _ (List.mem_of_getElem? (i := 6) (by decide +kernel))
  have n8 : (Jvm.Cond.eq (Jvm.Term.length (Jvm.Term.static "java/util/ArrayList" "DEFAULTCAPACITY_EMPTY_ELEMENTDATA" "[Ljava/lang/Object;")) (Jvm.Term.int (0 : Int32))).before #[Value.ref b] s = true := hw _ (List.mem_of_getElem? (i := 8) (by decide +kernel))
  obtain ⟨a8, ea8, Ta8⟩ := va_Tof (A := fun q : Nat => s.heap.size ≤ q) (N := 0) (f := fun _ => .null) (by decide) n6 (va_eqv n8 rfl) (fun j hj => absurd hj (Nat.not_lt_zero j)) hA
  have ea8 : (Jvm.Term.static "java/util/ArrayList" "DEFAULTCAPACITY_EMPTY_ELEMENTDATA" "[Ljava/lang/Object;").eval #[Value.ref b] s none [] s = some (.ref a8) := ea8
  have n16 : (Jvm.Cond.arrayOf (Jvm.Term.static "java/lang/Integer" "DigitOnes" "[B") Jvm.ClassFile.FieldType.byte).before #[Value.ref b] s = true := hw _ (List.mem_of_getElem? (i := 16) (by decide +kernel))
  have n17 : (Jvm.Cond.eq (Jvm.Term.length (Jvm.Term.static "java/lang/Integer" "DigitOnes" "[B")) (Jvm.Term.int (100 : Int32))).before #[Value.ref b] s = true := hw _ (List.mem_of_getElem? (i := 17) (by decide +kernel))
  obtain ⟨a9, ea9, Ta9⟩ := va_Tof (A := fun q : Nat => s.heap.size ≤ q) (N := 100) (f := fun j => .int (Int32.ofNat (48 + j % 10))) (by decide) n16 (va_eqv n17 rfl) (fun j hj => va_eqv (u := .int (Int32.ofNat (48 + j % 10))) (hw _ (List.mem_of_getElem? (i := 18 + j) (of_decide_eq_true (List.all_eq_true.mp zg_DigitOnes j (List.mem_range.mpr hj))))) rfl) hA
  have ea9 : (Jvm.Term.static "java/lang/Integer" "DigitOnes" "[B").eval #[Value.ref b] s none [] s = some (.ref a9) := ea9
  have n119 : (Jvm.Cond.arrayOf (Jvm.Term.static "java/lang/Integer" "DigitTens" "[B") Jvm.ClassFile.FieldType.byte).before #[Value.ref b] s = true := hw _ (List.mem_of_getElem? (i := 119) (by decide +kernel))
  have n120 : (Jvm.Cond.eq (Jvm.Term.length (Jvm.Term.static "java/lang/Integer" "DigitTens" "[B")) (Jvm.Term.int (100 : Int32))).before #[Value.ref b] s = true := hw _ (List.mem_of_getElem? (i := 120) (by decide +kernel))
  obtain ⟨a10, ea10, Ta10⟩ := va_Tof (A := fun q : Nat => s.heap.size ≤ q) (N := 100) (f := fun j => .int (Int32.ofNat (48 + j / 10))) (by decide) n119 (va_eqv n120 rfl) (fun j hj => va_eqv (u := .int (Int32.ofNat (48 + j / 10))) (hw _ (List.mem_of_getElem? (i := 121 + j) (of_decide_eq_true (List.all_eq_true.mp zg_DigitTens j (List.mem_range.mpr hj))))) rfl) hA
  have ea10 : (Jvm.Term.static "java/lang/Integer" "DigitTens" "[B").eval #[Value.ref b] s none [] s = some (.ref a10) := ea10
  have n221 : (Jvm.Cond.exactly (Jvm.Term.static "StoneGazette$Keyword" "WIDTH" "LStoneGazette$Keyword;") "StoneGazette$Keyword").before #[Value.ref b] s = true := hw _ (List.mem_of_getElem? (i := 221) (by decide +kernel))
  obtain ⟨a20, _, _, _, ea20, -⟩ := Cond.exactly_spec n221
  have ea20 : (Jvm.Term.static "StoneGazette$Keyword" "WIDTH" "LStoneGazette$Keyword;").eval #[Value.ref b] s none [] s = some (.ref a20) := ea20
  have n243 : (Jvm.Cond.exactly (Jvm.Term.static "StoneGazette$Keyword" "PAGE" "LStoneGazette$Keyword;") "StoneGazette$Keyword").before #[Value.ref b] s = true := hw _ (List.mem_of_getElem? (i := 243) (by decide +kernel))
  obtain ⟨a21, _, _, _, ea21, -⟩ := Cond.exactly_spec n243
  have ea21 : (Jvm.Term.static "StoneGazette$Keyword" "PAGE" "LStoneGazette$Keyword;").eval #[Value.ref b] s none [] s = some (.ref a21) := ea21
  have n248 : (Jvm.Cond.exactly (Jvm.Term.static "StoneGazette$Keyword" "PRINT" "LStoneGazette$Keyword;") "StoneGazette$Keyword").before #[Value.ref b] s = true := hw _ (List.mem_of_getElem? (i := 248) (by decide +kernel))
  obtain ⟨a22, _, _, _, ea22, -⟩ := Cond.exactly_spec n248
  have ea22 : (Jvm.Term.static "StoneGazette$Keyword" "PRINT" "LStoneGazette$Keyword;").eval #[Value.ref b] s none [] s = some (.ref a22) := ea22
  have n254 : (Jvm.Cond.exactly (Jvm.Term.static "StoneGazette$Keyword" "DAYS" "LStoneGazette$Keyword;") "StoneGazette$Keyword").before #[Value.ref b] s = true := hw _ (List.mem_of_getElem? (i := 254) (by decide +kernel))
  obtain ⟨a23, _, _, _, ea23, -⟩ := Cond.exactly_spec n254
  have ea23 : (Jvm.Term.static "StoneGazette$Keyword" "DAYS" "LStoneGazette$Keyword;").eval #[Value.ref b] s none [] s = some (.ref a23) := ea23
  have n261 : (Jvm.Cond.exactly (Jvm.Term.static "StoneGazette$Keyword" "DROP" "LStoneGazette$Keyword;") "StoneGazette$Keyword").before #[Value.ref b] s = true := hw _ (List.mem_of_getElem? (i := 261) (by decide +kernel))
  obtain ⟨a24, _, _, _, ea24, -⟩ := Cond.exactly_spec n261
  have ea24 : (Jvm.Term.static "StoneGazette$Keyword" "DROP" "LStoneGazette$Keyword;").eval #[Value.ref b] s none [] s = some (.ref a24) := ea24
  have n230 : (Jvm.Cond.eq (Jvm.Term.elem (Jvm.Term.static "StoneGazette" "KEYWORDS" "[LStoneGazette$Keyword;") (Jvm.Term.int (0 : Int32))) (Jvm.Term.static "StoneGazette$Keyword" "WIDTH" "LStoneGazette$Keyword;")).before #[Value.ref b] s = true := hw _ (List.mem_of_getElem? (i := 230) (by decide +kernel))
  have n231 : (Jvm.Cond.eq (Jvm.Term.elem (Jvm.Term.static "StoneGazette" "KEYWORDS" "[LStoneGazette$Keyword;") (Jvm.Term.int (1 : Int32))) (Jvm.Term.static "StoneGazette$Keyword" "PAGE" "LStoneGazette$Keyword;")).before #[Value.ref b] s = true := hw _ (List.mem_of_getElem? (i := 231) (by decide +kernel))
  have n232 : (Jvm.Cond.eq (Jvm.Term.elem (Jvm.Term.static "StoneGazette" "KEYWORDS" "[LStoneGazette$Keyword;") (Jvm.Term.int (2 : Int32))) (Jvm.Term.static "StoneGazette$Keyword" "PRINT" "LStoneGazette$Keyword;")).before #[Value.ref b] s = true := hw _ (List.mem_of_getElem? (i := 232) (by decide +kernel))
  have n233 : (Jvm.Cond.eq (Jvm.Term.elem (Jvm.Term.static "StoneGazette" "KEYWORDS" "[LStoneGazette$Keyword;") (Jvm.Term.int (3 : Int32))) (Jvm.Term.static "StoneGazette$Keyword" "DAYS" "LStoneGazette$Keyword;")).before #[Value.ref b] s = true := hw _ (List.mem_of_getElem? (i := 233) (by decide +kernel))
  have n234 : (Jvm.Cond.eq (Jvm.Term.elem (Jvm.Term.static "StoneGazette" "KEYWORDS" "[LStoneGazette$Keyword;") (Jvm.Term.int (4 : Int32))) (Jvm.Term.static "StoneGazette$Keyword" "DROP" "LStoneGazette$Keyword;")).before #[Value.ref b] s = true := hw _ (List.mem_of_getElem? (i := 234) (by decide +kernel))
  have n227 : (Jvm.Cond.arrayOf (Jvm.Term.static "StoneGazette" "KEYWORDS" "[LStoneGazette$Keyword;") (Jvm.ClassFile.FieldType.object "StoneGazette$Keyword")).before #[Value.ref b] s = true := hw _ (List.mem_of_getElem? (i := 227) (by decide +kernel))
  have n228 : (Jvm.Cond.eq (Jvm.Term.length (Jvm.Term.static "StoneGazette" "KEYWORDS" "[LStoneGazette$Keyword;")) (Jvm.Term.int (5 : Int32))).before #[Value.ref b] s = true := hw _ (List.mem_of_getElem? (i := 228) (by decide +kernel))
  obtain ⟨a11, ea11, Ta11⟩ := va_Tof (A := fun q : Nat => s.heap.size ≤ q) (N := 5) (f := fun j => .ref ([a20, a21, a22, a23, a24].getD j 0)) (by decide) n227 (va_eqv n228 rfl) (fun j hj => by
      match j, hj with
      | 0, _ => exact va_eqv n230 ea20
      | 1, _ => exact va_eqv n231 ea21
      | 2, _ => exact va_eqv n232 ea22
      | 3, _ => exact va_eqv n233 ea23
      | 4, _ => exact va_eqv n234 ea24
      | k + 5, hj => exact absurd hj (by omega)) hA
  have ea11 : (Jvm.Term.static "StoneGazette" "KEYWORDS" "[LStoneGazette$Keyword;").eval #[Value.ref b] s none [] s = some (.ref a11) := ea11
  have n238 : (Jvm.Cond.eq (Jvm.Term.elem (Jvm.Term.static "StoneGazette$1" "$SwitchMap$StoneGazette$Keyword" "[I") (Jvm.Term.int (0 : Int32))) (Jvm.Term.int (1 : Int32))).before #[Value.ref b] s = true := hw _ (List.mem_of_getElem? (i := 238) (by decide +kernel))
  have n239 : (Jvm.Cond.eq (Jvm.Term.elem (Jvm.Term.static "StoneGazette$1" "$SwitchMap$StoneGazette$Keyword" "[I") (Jvm.Term.int (1 : Int32))) (Jvm.Term.int (2 : Int32))).before #[Value.ref b] s = true := hw _ (List.mem_of_getElem? (i := 239) (by decide +kernel))
  have n240 : (Jvm.Cond.eq (Jvm.Term.elem (Jvm.Term.static "StoneGazette$1" "$SwitchMap$StoneGazette$Keyword" "[I") (Jvm.Term.int (2 : Int32))) (Jvm.Term.int (3 : Int32))).before #[Value.ref b] s = true := hw _ (List.mem_of_getElem? (i := 240) (by decide +kernel))
  have n241 : (Jvm.Cond.eq (Jvm.Term.elem (Jvm.Term.static "StoneGazette$1" "$SwitchMap$StoneGazette$Keyword" "[I") (Jvm.Term.int (3 : Int32))) (Jvm.Term.int (4 : Int32))).before #[Value.ref b] s = true := hw _ (List.mem_of_getElem? (i := 241) (by decide +kernel))
  have n242 : (Jvm.Cond.eq (Jvm.Term.elem (Jvm.Term.static "StoneGazette$1" "$SwitchMap$StoneGazette$Keyword" "[I") (Jvm.Term.int (4 : Int32))) (Jvm.Term.int (5 : Int32))).before #[Value.ref b] s = true := hw _ (List.mem_of_getElem? (i := 242) (by decide +kernel))
  have n236 : (Jvm.Cond.arrayOf (Jvm.Term.static "StoneGazette$1" "$SwitchMap$StoneGazette$Keyword" "[I") Jvm.ClassFile.FieldType.int).before #[Value.ref b] s = true := hw _ (List.mem_of_getElem? (i := 236) (by decide +kernel))
  have n237 : (Jvm.Cond.eq (Jvm.Term.length (Jvm.Term.static "StoneGazette$1" "$SwitchMap$StoneGazette$Keyword" "[I")) (Jvm.Term.int (5 : Int32))).before #[Value.ref b] s = true := hw _ (List.mem_of_getElem? (i := 237) (by decide +kernel))
  obtain ⟨a12, ea12, Ta12⟩ := va_Tof (A := fun q : Nat => s.heap.size ≤ q) (N := 5) (f := fun j => .int (Int32.ofNat (j + 1))) (by decide) n236 (va_eqv n237 rfl) (fun j hj => by
      match j, hj with
      | 0, _ => exact va_eqv n238 rfl
      | 1, _ => exact va_eqv n239 rfl
      | 2, _ => exact va_eqv n240 rfl
      | 3, _ => exact va_eqv n241 rfl
      | 4, _ => exact va_eqv n242 rfl
      | k + 5, hj => exact absurd hj (by omega)) hA
  have ea12 : (Jvm.Term.static "StoneGazette$1" "$SwitchMap$StoneGazette$Keyword" "[I").eval #[Value.ref b] s none [] s = some (.ref a12) := ea12
  have n1432 : (Jvm.Cond.exactly (Jvm.Term.string "StoneGazette$Keyword" (62 : Nat)) "java/lang/String").before #[Value.ref b] s = true := hw _ (List.mem_of_getElem? (i := 1432) (by decide +kernel))
  obtain ⟨a30, _, _, _, ea30, -⟩ := Cond.exactly_spec n1432
  have ea30 : (Jvm.Term.string "StoneGazette$Keyword" (62 : Nat)).eval #[Value.ref b] s none [] s = some (.ref a30) := ea30
  have n1436 : (Jvm.Cond.eq (Jvm.Term.elem (Jvm.Term.field (Jvm.Term.string "StoneGazette$Keyword" (62 : Nat)) "java/lang/String" "value" "[B") (Jvm.Term.int (0 : Int32))) (Jvm.Term.int (119 : Int32))).before #[Value.ref b] s = true := hw _ (List.mem_of_getElem? (i := 1436) (by decide +kernel))
  have n1437 : (Jvm.Cond.eq (Jvm.Term.elem (Jvm.Term.field (Jvm.Term.string "StoneGazette$Keyword" (62 : Nat)) "java/lang/String" "value" "[B") (Jvm.Term.int (1 : Int32))) (Jvm.Term.int (105 : Int32))).before #[Value.ref b] s = true := hw _ (List.mem_of_getElem? (i := 1437) (by decide +kernel))
  have n1438 : (Jvm.Cond.eq (Jvm.Term.elem (Jvm.Term.field (Jvm.Term.string "StoneGazette$Keyword" (62 : Nat)) "java/lang/String" "value" "[B") (Jvm.Term.int (2 : Int32))) (Jvm.Term.int (100 : Int32))).before #[Value.ref b] s = true := hw _ (List.mem_of_getElem? (i := 1438) (by decide +kernel))
  have n1439 : (Jvm.Cond.eq (Jvm.Term.elem (Jvm.Term.field (Jvm.Term.string "StoneGazette$Keyword" (62 : Nat)) "java/lang/String" "value" "[B") (Jvm.Term.int (3 : Int32))) (Jvm.Term.int (116 : Int32))).before #[Value.ref b] s = true := hw _ (List.mem_of_getElem? (i := 1439) (by decide +kernel))
  have n1440 : (Jvm.Cond.eq (Jvm.Term.elem (Jvm.Term.field (Jvm.Term.string "StoneGazette$Keyword" (62 : Nat)) "java/lang/String" "value" "[B") (Jvm.Term.int (4 : Int32))) (Jvm.Term.int (104 : Int32))).before #[Value.ref b] s = true := hw _ (List.mem_of_getElem? (i := 1440) (by decide +kernel))
  have n1441 : (Jvm.Cond.eq (Jvm.Term.elem (Jvm.Term.field (Jvm.Term.string "StoneGazette$Keyword" (62 : Nat)) "java/lang/String" "value" "[B") (Jvm.Term.int (5 : Int32))) (Jvm.Term.int (32 : Int32))).before #[Value.ref b] s = true := hw _ (List.mem_of_getElem? (i := 1441) (by decide +kernel))
  have n1434 : (Jvm.Cond.arrayOf (Jvm.Term.field (Jvm.Term.string "StoneGazette$Keyword" (62 : Nat)) "java/lang/String" "value" "[B") Jvm.ClassFile.FieldType.byte).before #[Value.ref b] s = true := hw _ (List.mem_of_getElem? (i := 1434) (by decide +kernel))
  have n1435 : (Jvm.Cond.eq (Jvm.Term.length (Jvm.Term.field (Jvm.Term.string "StoneGazette$Keyword" (62 : Nat)) "java/lang/String" "value" "[B")) (Jvm.Term.int (6 : Int32))).before #[Value.ref b] s = true := hw _ (List.mem_of_getElem? (i := 1435) (by decide +kernel))
  obtain ⟨a40, ea40, Ta40⟩ := va_Tof (A := fun q : Nat => s.heap.size ≤ q) (N := 6) (f := fun k => .int (([119, 105, 100, 116, 104, 32] : List Int32).getD k 0)) (by decide) n1434 (va_eqv n1435 rfl) (fun j hj => by
      match j, hj with
      | 0, _ => exact va_eqv n1436 rfl
      | 1, _ => exact va_eqv n1437 rfl
      | 2, _ => exact va_eqv n1438 rfl
      | 3, _ => exact va_eqv n1439 rfl
      | 4, _ => exact va_eqv n1440 rfl
      | 5, _ => exact va_eqv n1441 rfl
      | k + 6, hj => exact absurd hj (by omega)) hA
  have ea40 : (Jvm.Term.field (Jvm.Term.string "StoneGazette$Keyword" (62 : Nat)) "java/lang/String" "value" "[B").eval #[Value.ref b] s none [] s = some (.ref a40) := ea40
  have n1442 : (Jvm.Cond.eq (Jvm.Term.string "StoneGazetteModel" (278 : Nat)) (Jvm.Term.string "StoneGazette$Keyword" (62 : Nat))).before #[Value.ref b] s = true := hw _ (List.mem_of_getElem? (i := 1442) (by decide +kernel))
  have em0 : (Jvm.Term.string "StoneGazetteModel" (278 : Nat)).eval #[Value.ref b] s none [] s = some (.ref a30) := va_eqv n1442 ea30
  have n1443 : (Jvm.Cond.exactly (Jvm.Term.string "StoneGazette$Keyword" (68 : Nat)) "java/lang/String").before #[Value.ref b] s = true := hw _ (List.mem_of_getElem? (i := 1443) (by decide +kernel))
  obtain ⟨a31, _, _, _, ea31, -⟩ := Cond.exactly_spec n1443
  have ea31 : (Jvm.Term.string "StoneGazette$Keyword" (68 : Nat)).eval #[Value.ref b] s none [] s = some (.ref a31) := ea31
  have n1447 : (Jvm.Cond.eq (Jvm.Term.elem (Jvm.Term.field (Jvm.Term.string "StoneGazette$Keyword" (68 : Nat)) "java/lang/String" "value" "[B") (Jvm.Term.int (0 : Int32))) (Jvm.Term.int (112 : Int32))).before #[Value.ref b] s = true := hw _ (List.mem_of_getElem? (i := 1447) (by decide +kernel))
  have n1448 : (Jvm.Cond.eq (Jvm.Term.elem (Jvm.Term.field (Jvm.Term.string "StoneGazette$Keyword" (68 : Nat)) "java/lang/String" "value" "[B") (Jvm.Term.int (1 : Int32))) (Jvm.Term.int (97 : Int32))).before #[Value.ref b] s = true := hw _ (List.mem_of_getElem? (i := 1448) (by decide +kernel))
  have n1449 : (Jvm.Cond.eq (Jvm.Term.elem (Jvm.Term.field (Jvm.Term.string "StoneGazette$Keyword" (68 : Nat)) "java/lang/String" "value" "[B") (Jvm.Term.int (2 : Int32))) (Jvm.Term.int (103 : Int32))).before #[Value.ref b] s = true := hw _ (List.mem_of_getElem? (i := 1449) (by decide +kernel))
  have n1450 : (Jvm.Cond.eq (Jvm.Term.elem (Jvm.Term.field (Jvm.Term.string "StoneGazette$Keyword" (68 : Nat)) "java/lang/String" "value" "[B") (Jvm.Term.int (3 : Int32))) (Jvm.Term.int (101 : Int32))).before #[Value.ref b] s = true := hw _ (List.mem_of_getElem? (i := 1450) (by decide +kernel))
  have n1451 : (Jvm.Cond.eq (Jvm.Term.elem (Jvm.Term.field (Jvm.Term.string "StoneGazette$Keyword" (68 : Nat)) "java/lang/String" "value" "[B") (Jvm.Term.int (4 : Int32))) (Jvm.Term.int (32 : Int32))).before #[Value.ref b] s = true := hw _ (List.mem_of_getElem? (i := 1451) (by decide +kernel))
  have n1445 : (Jvm.Cond.arrayOf (Jvm.Term.field (Jvm.Term.string "StoneGazette$Keyword" (68 : Nat)) "java/lang/String" "value" "[B") Jvm.ClassFile.FieldType.byte).before #[Value.ref b] s = true := hw _ (List.mem_of_getElem? (i := 1445) (by decide +kernel))
  have n1446 : (Jvm.Cond.eq (Jvm.Term.length (Jvm.Term.field (Jvm.Term.string "StoneGazette$Keyword" (68 : Nat)) "java/lang/String" "value" "[B")) (Jvm.Term.int (5 : Int32))).before #[Value.ref b] s = true := hw _ (List.mem_of_getElem? (i := 1446) (by decide +kernel))
  obtain ⟨a41, ea41, Ta41⟩ := va_Tof (A := fun q : Nat => s.heap.size ≤ q) (N := 5) (f := fun k => .int (([112, 97, 103, 101, 32] : List Int32).getD k 0)) (by decide) n1445 (va_eqv n1446 rfl) (fun j hj => by
      match j, hj with
      | 0, _ => exact va_eqv n1447 rfl
      | 1, _ => exact va_eqv n1448 rfl
      | 2, _ => exact va_eqv n1449 rfl
      | 3, _ => exact va_eqv n1450 rfl
      | 4, _ => exact va_eqv n1451 rfl
      | k + 5, hj => exact absurd hj (by omega)) hA
  have ea41 : (Jvm.Term.field (Jvm.Term.string "StoneGazette$Keyword" (68 : Nat)) "java/lang/String" "value" "[B").eval #[Value.ref b] s none [] s = some (.ref a41) := ea41
  have n1452 : (Jvm.Cond.eq (Jvm.Term.string "StoneGazetteModel" (266 : Nat)) (Jvm.Term.string "StoneGazette$Keyword" (68 : Nat))).before #[Value.ref b] s = true := hw _ (List.mem_of_getElem? (i := 1452) (by decide +kernel))
  have em1 : (Jvm.Term.string "StoneGazetteModel" (266 : Nat)).eval #[Value.ref b] s none [] s = some (.ref a31) := va_eqv n1452 ea31
  have n1453 : (Jvm.Cond.exactly (Jvm.Term.string "StoneGazette$Keyword" (71 : Nat)) "java/lang/String").before #[Value.ref b] s = true := hw _ (List.mem_of_getElem? (i := 1453) (by decide +kernel))
  obtain ⟨a32, _, _, _, ea32, -⟩ := Cond.exactly_spec n1453
  have ea32 : (Jvm.Term.string "StoneGazette$Keyword" (71 : Nat)).eval #[Value.ref b] s none [] s = some (.ref a32) := ea32
  have n1457 : (Jvm.Cond.eq (Jvm.Term.elem (Jvm.Term.field (Jvm.Term.string "StoneGazette$Keyword" (71 : Nat)) "java/lang/String" "value" "[B") (Jvm.Term.int (0 : Int32))) (Jvm.Term.int (112 : Int32))).before #[Value.ref b] s = true := hw _ (List.mem_of_getElem? (i := 1457) (by decide +kernel))
  have n1458 : (Jvm.Cond.eq (Jvm.Term.elem (Jvm.Term.field (Jvm.Term.string "StoneGazette$Keyword" (71 : Nat)) "java/lang/String" "value" "[B") (Jvm.Term.int (1 : Int32))) (Jvm.Term.int (114 : Int32))).before #[Value.ref b] s = true := hw _ (List.mem_of_getElem? (i := 1458) (by decide +kernel))
  have n1459 : (Jvm.Cond.eq (Jvm.Term.elem (Jvm.Term.field (Jvm.Term.string "StoneGazette$Keyword" (71 : Nat)) "java/lang/String" "value" "[B") (Jvm.Term.int (2 : Int32))) (Jvm.Term.int (105 : Int32))).before #[Value.ref b] s = true := hw _ (List.mem_of_getElem? (i := 1459) (by decide +kernel))
  have n1460 : (Jvm.Cond.eq (Jvm.Term.elem (Jvm.Term.field (Jvm.Term.string "StoneGazette$Keyword" (71 : Nat)) "java/lang/String" "value" "[B") (Jvm.Term.int (3 : Int32))) (Jvm.Term.int (110 : Int32))).before #[Value.ref b] s = true := hw _ (List.mem_of_getElem? (i := 1460) (by decide +kernel))
  have n1461 : (Jvm.Cond.eq (Jvm.Term.elem (Jvm.Term.field (Jvm.Term.string "StoneGazette$Keyword" (71 : Nat)) "java/lang/String" "value" "[B") (Jvm.Term.int (4 : Int32))) (Jvm.Term.int (116 : Int32))).before #[Value.ref b] s = true := hw _ (List.mem_of_getElem? (i := 1461) (by decide +kernel))
  have n1455 : (Jvm.Cond.arrayOf (Jvm.Term.field (Jvm.Term.string "StoneGazette$Keyword" (71 : Nat)) "java/lang/String" "value" "[B") Jvm.ClassFile.FieldType.byte).before #[Value.ref b] s = true := hw _ (List.mem_of_getElem? (i := 1455) (by decide +kernel))
  have n1456 : (Jvm.Cond.eq (Jvm.Term.length (Jvm.Term.field (Jvm.Term.string "StoneGazette$Keyword" (71 : Nat)) "java/lang/String" "value" "[B")) (Jvm.Term.int (5 : Int32))).before #[Value.ref b] s = true := hw _ (List.mem_of_getElem? (i := 1456) (by decide +kernel))
  obtain ⟨a42, ea42, Ta42⟩ := va_Tof (A := fun q : Nat => s.heap.size ≤ q) (N := 5) (f := fun k => .int (([112, 114, 105, 110, 116] : List Int32).getD k 0)) (by decide) n1455 (va_eqv n1456 rfl) (fun j hj => by
      match j, hj with
      | 0, _ => exact va_eqv n1457 rfl
      | 1, _ => exact va_eqv n1458 rfl
      | 2, _ => exact va_eqv n1459 rfl
      | 3, _ => exact va_eqv n1460 rfl
      | 4, _ => exact va_eqv n1461 rfl
      | k + 5, hj => exact absurd hj (by omega)) hA
  have ea42 : (Jvm.Term.field (Jvm.Term.string "StoneGazette$Keyword" (71 : Nat)) "java/lang/String" "value" "[B").eval #[Value.ref b] s none [] s = some (.ref a42) := ea42
  have n1462 : (Jvm.Cond.eq (Jvm.Term.string "StoneGazetteModel" (264 : Nat)) (Jvm.Term.string "StoneGazette$Keyword" (71 : Nat))).before #[Value.ref b] s = true := hw _ (List.mem_of_getElem? (i := 1462) (by decide +kernel))
  have em2 : (Jvm.Term.string "StoneGazetteModel" (264 : Nat)).eval #[Value.ref b] s none [] s = some (.ref a32) := va_eqv n1462 ea32
  have n1463 : (Jvm.Cond.exactly (Jvm.Term.string "StoneGazette$Keyword" (74 : Nat)) "java/lang/String").before #[Value.ref b] s = true := hw _ (List.mem_of_getElem? (i := 1463) (by decide +kernel))
  obtain ⟨a33, _, _, _, ea33, -⟩ := Cond.exactly_spec n1463
  have ea33 : (Jvm.Term.string "StoneGazette$Keyword" (74 : Nat)).eval #[Value.ref b] s none [] s = some (.ref a33) := ea33
  have n1467 : (Jvm.Cond.eq (Jvm.Term.elem (Jvm.Term.field (Jvm.Term.string "StoneGazette$Keyword" (74 : Nat)) "java/lang/String" "value" "[B") (Jvm.Term.int (0 : Int32))) (Jvm.Term.int (100 : Int32))).before #[Value.ref b] s = true := hw _ (List.mem_of_getElem? (i := 1467) (by decide +kernel))
  have n1468 : (Jvm.Cond.eq (Jvm.Term.elem (Jvm.Term.field (Jvm.Term.string "StoneGazette$Keyword" (74 : Nat)) "java/lang/String" "value" "[B") (Jvm.Term.int (1 : Int32))) (Jvm.Term.int (97 : Int32))).before #[Value.ref b] s = true := hw _ (List.mem_of_getElem? (i := 1468) (by decide +kernel))
  have n1469 : (Jvm.Cond.eq (Jvm.Term.elem (Jvm.Term.field (Jvm.Term.string "StoneGazette$Keyword" (74 : Nat)) "java/lang/String" "value" "[B") (Jvm.Term.int (2 : Int32))) (Jvm.Term.int (121 : Int32))).before #[Value.ref b] s = true := hw _ (List.mem_of_getElem? (i := 1469) (by decide +kernel))
  have n1470 : (Jvm.Cond.eq (Jvm.Term.elem (Jvm.Term.field (Jvm.Term.string "StoneGazette$Keyword" (74 : Nat)) "java/lang/String" "value" "[B") (Jvm.Term.int (3 : Int32))) (Jvm.Term.int (115 : Int32))).before #[Value.ref b] s = true := hw _ (List.mem_of_getElem? (i := 1470) (by decide +kernel))
  have n1471 : (Jvm.Cond.eq (Jvm.Term.elem (Jvm.Term.field (Jvm.Term.string "StoneGazette$Keyword" (74 : Nat)) "java/lang/String" "value" "[B") (Jvm.Term.int (4 : Int32))) (Jvm.Term.int (32 : Int32))).before #[Value.ref b] s = true := hw _ (List.mem_of_getElem? (i := 1471) (by decide +kernel))
  have n1465 : (Jvm.Cond.arrayOf (Jvm.Term.field (Jvm.Term.string "StoneGazette$Keyword" (74 : Nat)) "java/lang/String" "value" "[B") Jvm.ClassFile.FieldType.byte).before #[Value.ref b] s = true := hw _ (List.mem_of_getElem? (i := 1465) (by decide +kernel))
  have n1466 : (Jvm.Cond.eq (Jvm.Term.length (Jvm.Term.field (Jvm.Term.string "StoneGazette$Keyword" (74 : Nat)) "java/lang/String" "value" "[B")) (Jvm.Term.int (5 : Int32))).before #[Value.ref b] s = true := hw _ (List.mem_of_getElem? (i := 1466) (by decide +kernel))
  obtain ⟨a43, ea43, Ta43⟩ := va_Tof (A := fun q : Nat => s.heap.size ≤ q) (N := 5) (f := fun k => .int (([100, 97, 121, 115, 32] : List Int32).getD k 0)) (by decide) n1465 (va_eqv n1466 rfl) (fun j hj => by
      match j, hj with
      | 0, _ => exact va_eqv n1467 rfl
      | 1, _ => exact va_eqv n1468 rfl
      | 2, _ => exact va_eqv n1469 rfl
      | 3, _ => exact va_eqv n1470 rfl
      | 4, _ => exact va_eqv n1471 rfl
      | k + 5, hj => exact absurd hj (by omega)) hA
  have ea43 : (Jvm.Term.field (Jvm.Term.string "StoneGazette$Keyword" (74 : Nat)) "java/lang/String" "value" "[B").eval #[Value.ref b] s none [] s = some (.ref a43) := ea43
  have n1472 : (Jvm.Cond.eq (Jvm.Term.string "StoneGazetteModel" (276 : Nat)) (Jvm.Term.string "StoneGazette$Keyword" (74 : Nat))).before #[Value.ref b] s = true := hw _ (List.mem_of_getElem? (i := 1472) (by decide +kernel))
  have em3 : (Jvm.Term.string "StoneGazetteModel" (276 : Nat)).eval #[Value.ref b] s none [] s = some (.ref a33) := va_eqv n1472 ea33
  have n1473 : (Jvm.Cond.exactly (Jvm.Term.string "StoneGazette$Keyword" (77 : Nat)) "java/lang/String").before #[Value.ref b] s = true := hw _ (List.mem_of_getElem? (i := 1473) (by decide +kernel))
  obtain ⟨a34, _, _, _, ea34, -⟩ := Cond.exactly_spec n1473
  have ea34 : (Jvm.Term.string "StoneGazette$Keyword" (77 : Nat)).eval #[Value.ref b] s none [] s = some (.ref a34) := ea34
  have n1477 : (Jvm.Cond.eq (Jvm.Term.elem (Jvm.Term.field (Jvm.Term.string "StoneGazette$Keyword" (77 : Nat)) "java/lang/String" "value" "[B") (Jvm.Term.int (0 : Int32))) (Jvm.Term.int (100 : Int32))).before #[Value.ref b] s = true := hw _ (List.mem_of_getElem? (i := 1477) (by decide +kernel))
  have n1478 : (Jvm.Cond.eq (Jvm.Term.elem (Jvm.Term.field (Jvm.Term.string "StoneGazette$Keyword" (77 : Nat)) "java/lang/String" "value" "[B") (Jvm.Term.int (1 : Int32))) (Jvm.Term.int (114 : Int32))).before #[Value.ref b] s = true := hw _ (List.mem_of_getElem? (i := 1478) (by decide +kernel))
  have n1479 : (Jvm.Cond.eq (Jvm.Term.elem (Jvm.Term.field (Jvm.Term.string "StoneGazette$Keyword" (77 : Nat)) "java/lang/String" "value" "[B") (Jvm.Term.int (2 : Int32))) (Jvm.Term.int (111 : Int32))).before #[Value.ref b] s = true := hw _ (List.mem_of_getElem? (i := 1479) (by decide +kernel))
  have n1480 : (Jvm.Cond.eq (Jvm.Term.elem (Jvm.Term.field (Jvm.Term.string "StoneGazette$Keyword" (77 : Nat)) "java/lang/String" "value" "[B") (Jvm.Term.int (3 : Int32))) (Jvm.Term.int (112 : Int32))).before #[Value.ref b] s = true := hw _ (List.mem_of_getElem? (i := 1480) (by decide +kernel))
  have n1481 : (Jvm.Cond.eq (Jvm.Term.elem (Jvm.Term.field (Jvm.Term.string "StoneGazette$Keyword" (77 : Nat)) "java/lang/String" "value" "[B") (Jvm.Term.int (4 : Int32))) (Jvm.Term.int (32 : Int32))).before #[Value.ref b] s = true := hw _ (List.mem_of_getElem? (i := 1481) (by decide +kernel))
  have n1475 : (Jvm.Cond.arrayOf (Jvm.Term.field (Jvm.Term.string "StoneGazette$Keyword" (77 : Nat)) "java/lang/String" "value" "[B") Jvm.ClassFile.FieldType.byte).before #[Value.ref b] s = true := hw _ (List.mem_of_getElem? (i := 1475) (by decide +kernel))
  have n1476 : (Jvm.Cond.eq (Jvm.Term.length (Jvm.Term.field (Jvm.Term.string "StoneGazette$Keyword" (77 : Nat)) "java/lang/String" "value" "[B")) (Jvm.Term.int (5 : Int32))).before #[Value.ref b] s = true := hw _ (List.mem_of_getElem? (i := 1476) (by decide +kernel))
  obtain ⟨a44, ea44, Ta44⟩ := va_Tof (A := fun q : Nat => s.heap.size ≤ q) (N := 5) (f := fun k => .int (([100, 114, 111, 112, 32] : List Int32).getD k 0)) (by decide) n1475 (va_eqv n1476 rfl) (fun j hj => by
      match j, hj with
      | 0, _ => exact va_eqv n1477 rfl
      | 1, _ => exact va_eqv n1478 rfl
      | 2, _ => exact va_eqv n1479 rfl
      | 3, _ => exact va_eqv n1480 rfl
      | 4, _ => exact va_eqv n1481 rfl
      | k + 5, hj => exact absurd hj (by omega)) hA
  have ea44 : (Jvm.Term.field (Jvm.Term.string "StoneGazette$Keyword" (77 : Nat)) "java/lang/String" "value" "[B").eval #[Value.ref b] s none [] s = some (.ref a44) := ea44
  have n1482 : (Jvm.Cond.eq (Jvm.Term.string "StoneGazetteModel" (274 : Nat)) (Jvm.Term.string "StoneGazette$Keyword" (77 : Nat))).before #[Value.ref b] s = true := hw _ (List.mem_of_getElem? (i := 1482) (by decide +kernel))
  have em4 : (Jvm.Term.string "StoneGazetteModel" (274 : Nat)).eval #[Value.ref b] s none [] s = some (.ref a34) := va_eqv n1482 ea34
  have n1399 : (Jvm.Cond.exactly (Jvm.Term.string "StoneGazetteModel" (272 : Nat)) "java/lang/String").before #[Value.ref b] s = true := hw _ (List.mem_of_getElem? (i := 1399) (by decide +kernel))
  obtain ⟨a35, _, _, _, ea35, -⟩ := Cond.exactly_spec n1399
  have ea35 : (Jvm.Term.string "StoneGazetteModel" (272 : Nat)).eval #[Value.ref b] s none [] s = some (.ref a35) := ea35
  have n1403 : (Jvm.Cond.eq (Jvm.Term.elem (Jvm.Term.field (Jvm.Term.string "StoneGazetteModel" (272 : Nat)) "java/lang/String" "value" "[B") (Jvm.Term.int (0 : Int32))) (Jvm.Term.int (42 : Int32))).before #[Value.ref b] s = true := hw _ (List.mem_of_getElem? (i := 1403) (by decide +kernel))
  have n1401 : (Jvm.Cond.arrayOf (Jvm.Term.field (Jvm.Term.string "StoneGazetteModel" (272 : Nat)) "java/lang/String" "value" "[B") Jvm.ClassFile.FieldType.byte).before #[Value.ref b] s = true := hw _ (List.mem_of_getElem? (i := 1401) (by decide +kernel))
  have n1402 : (Jvm.Cond.eq (Jvm.Term.length (Jvm.Term.field (Jvm.Term.string "StoneGazetteModel" (272 : Nat)) "java/lang/String" "value" "[B")) (Jvm.Term.int (1 : Int32))).before #[Value.ref b] s = true := hw _ (List.mem_of_getElem? (i := 1402) (by decide +kernel))
  obtain ⟨a45, ea45, Ta45⟩ := va_Tof (A := fun q : Nat => s.heap.size ≤ q) (N := 1) (f := fun k => .int (([42] : List Int32).getD k 0)) (by decide) n1401 (va_eqv n1402 rfl) (fun j hj => by
      match j, hj with
      | 0, _ => exact va_eqv n1403 rfl
      | k + 1, hj => exact absurd hj (by omega)) hA
  have ea45 : (Jvm.Term.field (Jvm.Term.string "StoneGazetteModel" (272 : Nat)) "java/lang/String" "value" "[B").eval #[Value.ref b] s none [] s = some (.ref a45) := ea45
  have em5 := ea35
  have t103 : (Jvm.Cond.arrayClass Jvm.ClassFile.FieldType.byte).before #[Value.ref b] s = true := hts _ (List.mem_append_right _ (List.mem_of_getElem? (i := 103) (by decide +kernel)))
  obtain ⟨c0, k0, p0, x0, y0, z0⟩ := Cond.arrayClass_spec t103
  have K0 : ArrOfT s c0 .byte ∧ va_RA s c0 .byte := ⟨fun n z => ⟨fun k h => (by cases h), k0, y0, p0, z0⟩, x0⟩
  have t70 : (Jvm.Cond.arrayClass Jvm.ClassFile.FieldType.char).before #[Value.ref b] s = true := hts _ (List.mem_append_right _ (List.mem_of_getElem? (i := 70) (by decide +kernel)))
  obtain ⟨c1, k1, p1, x1, y1, z1⟩ := Cond.arrayClass_spec t70
  have K1 : ArrOfT s c1 .char ∧ va_RA s c1 .char := ⟨fun n z => ⟨fun k h => (by cases h), k1, y1, p1, z1⟩, x1⟩
  have t128 : (Jvm.Cond.arrayClass Jvm.ClassFile.FieldType.int).before #[Value.ref b] s = true := hts _ (List.mem_append_right _ (List.mem_of_getElem? (i := 128) (by decide +kernel)))
  obtain ⟨c2, k2, p2, x2, y2, z2⟩ := Cond.arrayClass_spec t128
  have K2 : ArrOfT s c2 .int ∧ va_RA s c2 .int := ⟨fun n z => ⟨fun k h => (by cases h), k2, y2, p2, z2⟩, x2⟩
  have t653 : (Jvm.Cond.arrayClass Jvm.ClassFile.FieldType.boolean).before #[Value.ref b] s = true := hts _ (List.mem_append_right _ (List.mem_of_getElem? (i := 653) (by decide +kernel)))
  obtain ⟨c3, k3, p3, x3, y3, z3⟩ := Cond.arrayClass_spec t653
  have K3 : ArrOfT s c3 .boolean ∧ va_RA s c3 .boolean := ⟨fun n z => ⟨fun k h => (by cases h), k3, y3, p3, z3⟩, x3⟩
  have t628 : (Jvm.Cond.arrayOver (Jvm.ClassFile.FieldType.object "StoneGazette$Word")).before #[Value.ref b] s = true := hts _ (List.mem_append_right _ (List.mem_of_getElem? (i := 628) (by decide +kernel)))
  obtain ⟨p4, c4, k4, x4, -, y4, z4, w4⟩ := Cond.arrayOver_spec t628
  have K4 : ArrOfT s c4 (.object "StoneGazette$Word") ∧ va_RA s c4 (.object "StoneGazette$Word") := ⟨fun n z => ⟨fun k h => (by cases h), k4, y4, p4, z4⟩, k4, p4, y4, z4, x4, w4⟩
  have t611 : (Jvm.Cond.arrayOver (Jvm.ClassFile.FieldType.object "java/lang/Object")).before #[Value.ref b] s = true := hts _ (List.mem_append_right _ (List.mem_of_getElem? (i := 611) (by decide +kernel)))
  obtain ⟨p5, c5, k5, x5, -, y5, z5, w5⟩ := Cond.arrayOver_spec t611
  have K5 : ArrOfT s c5 (.object "java/lang/Object") ∧ va_RA s c5 (.object "java/lang/Object") := ⟨fun n z => ⟨fun k h => (by cases h), k5, y5, p5, z5⟩, k5, p5, y5, z5, x5, w5⟩
  have t2139 : (Jvm.Cond.arrayClass Jvm.ClassFile.FieldType.long).before #[Value.ref b] s = true := hts _ (List.mem_append_right _ (List.mem_of_getElem? (i := 2139) (by decide +kernel)))
  obtain ⟨c6, k6, p6, x6, y6, z6⟩ := Cond.arrayClass_spec t2139
  have K6 : ArrOfT s c6 .long ∧ va_RA s c6 .long := ⟨fun n z => ⟨fun k h => (by cases h), k6, y6, p6, z6⟩, x6⟩
  have t2140 : (Jvm.Cond.arrayClass Jvm.ClassFile.FieldType.double).before #[Value.ref b] s = true := hts _ (List.mem_append_right _ (List.mem_of_getElem? (i := 2140) (by decide +kernel)))
  obtain ⟨c7, k7, p7, x7, y7, z7⟩ := Cond.arrayClass_spec t2140
  have K7 : ArrOfT s c7 .double ∧ va_RA s c7 .double := ⟨fun n z => ⟨fun k h => (by cases h), k7, y7, p7, z7⟩, x7⟩
  have hz : ∀ w ∈ ZALL, w.before #[Value.ref b] s = true := fun w h => hts w (zall_tbl h)
  have t748 : (Jvm.Cond.instantiable "java/lang/String" (4 : Nat)).before #[Value.ref b] s = true := hts _ (List.mem_append_right _ (List.mem_of_getElem? (i := 748) (by decide +kernel)))
  obtain ⟨d0, i0, u0⟩ := u_known (C := RJ0) (T := TJ0) (N := 4) (n := 4) hz in_J0 t748
  have t72 : (Jvm.Cond.instantiable "java/lang/StringBuilder" (4 : Nat)).before #[Value.ref b] s = true := hts _ (List.mem_append_right _ (List.mem_of_getElem? (i := 72) (by decide +kernel)))
  obtain ⟨d1, i1, u1⟩ := u_known (C := RJ4) (T := TJ4) (N := 4) (n := 4) hz in_J4 t72
  have t730 : (Jvm.Cond.instantiable "java/lang/ArrayIndexOutOfBoundsException" (6 : Nat)).before #[Value.ref b] s = true := hts _ (List.mem_append_right _ (List.mem_of_getElem? (i := 730) (by decide +kernel)))
  obtain ⟨d2, i2, u2⟩ := u_known (C := RJx00060) (T := TJx00060) (N := 6) (n := 6) hz in_Jx00060 t730
  have t955 : (Jvm.Cond.instantiable "java/lang/StringIndexOutOfBoundsException" (6 : Nat)).before #[Value.ref b] s = true := hts _ (List.mem_append_right _ (List.mem_of_getElem? (i := 955) (by decide +kernel)))
  obtain ⟨d3, i3, u3⟩ := u_known (C := RJx7c733) (T := TJx7c733) (N := 6) (n := 6) hz in_Jx7c733 t955
  have t146 : (Jvm.Cond.instantiable "java/util/ArrayList" (3 : Nat)).before #[Value.ref b] s = true := hts _ (List.mem_append_right _ (List.mem_of_getElem? (i := 146) (by decide +kernel)))
  obtain ⟨d4, i4, u4⟩ := u_known (C := RJx4a65c) (T := TJx4a65c) (N := 3) (n := 3) hz in_Jx4a65c t146
  have t658 : (Jvm.Cond.instantiable "StoneGazette$Article" (3 : Nat)).before #[Value.ref b] s = true := hts _ (List.mem_append_right _ (List.mem_of_getElem? (i := 658) (by decide +kernel)))
  obtain ⟨d5, i5, u5⟩ := u_known (C := RX1) (T := TX1) (N := 3) (n := 3) hz in_X1 t658
  have t53 : (Jvm.Cond.instantiable "StoneGazette$Buffer" (2 : Nat)).before #[Value.ref b] s = true := hts _ (List.mem_append_right _ (List.mem_of_getElem? (i := 53) (by decide +kernel)))
  obtain ⟨d6, i6, u6⟩ := u_known (C := RX2) (T := TX2) (N := 2) (n := 2) hz in_X2 t53
  have t1578 : (Jvm.Cond.instantiable "StoneGazette$Command" (3 : Nat)).before #[Value.ref b] s = true := hts _ (List.mem_append_right _ (List.mem_of_getElem? (i := 1578) (by decide +kernel)))
  obtain ⟨d7, i7, u7⟩ := u_known (C := RX3) (T := TX3) (N := 3) (n := 3) hz in_X3 t1578
  have t140 : (Jvm.Cond.instantiable "StoneGazette$CommandReader" (2 : Nat)).before #[Value.ref b] s = true := hts _ (List.mem_append_right _ (List.mem_of_getElem? (i := 140) (by decide +kernel)))
  obtain ⟨d8, i8, u8⟩ := u_known (C := RX4) (T := TX4) (N := 2) (n := 2) hz in_X4 t140
  have t130 : (Jvm.Cond.instantiable "StoneGazette$EvenBreaker" (1 : Nat)).before #[Value.ref b] s = true := hts _ (List.mem_append_right _ (List.mem_of_getElem? (i := 130) (by decide +kernel)))
  obtain ⟨d9, i9, u9⟩ := u_known (C := RX5) (T := TX5) (N := 1) (n := 1) hz in_X5 t130
  have t1298 : (Jvm.Cond.instantiable "StoneGazette$Issue" (3 : Nat)).before #[Value.ref b] s = true := hts _ (List.mem_append_right _ (List.mem_of_getElem? (i := 1298) (by decide +kernel)))
  obtain ⟨d10, i10, u10⟩ := u_known (C := RX6) (T := TX6) (N := 3) (n := 3) hz in_X6 t1298
  have t105 : (Jvm.Cond.instantiable "StoneGazette$LineSetter" (5 : Nat)).before #[Value.ref b] s = true := hts _ (List.mem_append_right _ (List.mem_of_getElem? (i := 105) (by decide +kernel)))
  obtain ⟨d11, i11, u11⟩ := u_known (C := RX8) (T := TX8) (N := 5) (n := 5) hz in_X8 t105
  have t1266 : (Jvm.Cond.instantiable "StoneGazette$Page" (6 : Nat)).before #[Value.ref b] s = true := hts _ (List.mem_append_right _ (List.mem_of_getElem? (i := 1266) (by decide +kernel)))
  obtain ⟨d12, i12, u12⟩ := u_known (C := RX9) (T := TX9) (N := 6) (n := 6) hz in_X9 t1266
  have t183 : (Jvm.Cond.instantiable "StoneGazette$State" (9 : Nat)).before #[Value.ref b] s = true := hts _ (List.mem_append_right _ (List.mem_of_getElem? (i := 183) (by decide +kernel)))
  obtain ⟨d13, i13, u13⟩ := u_known (C := RX10) (T := TX10) (N := 9) (n := 9) hz in_X10 t183
  have t637 : (Jvm.Cond.instantiable "StoneGazette$Word" (2 : Nat)).before #[Value.ref b] s = true := hts _ (List.mem_append_right _ (List.mem_of_getElem? (i := 637) (by decide +kernel)))
  obtain ⟨d14, i14, u14⟩ := u_known (C := RX11) (T := TX11) (N := 2) (n := 2) hz in_X11 t637
  have t45 : (Jvm.Cond.instantiable "StoneGazette" (11 : Nat)).before #[Value.ref b] s = true := hts _ (List.mem_append_right _ (List.mem_of_getElem? (i := 45) (by decide +kernel)))
  obtain ⟨d15, i15, u15⟩ := u_known (C := RX12) (T := TX12) (N := 11) (n := 11) hz in_X12 t45
  have t1646 : (Jvm.Cond.instantiable "StoneGazetteModel" (24 : Nat)).before #[Value.ref b] s = true := hts _ (List.mem_append_right _ (List.mem_of_getElem? (i := 1646) (by decide +kernel)))
  obtain ⟨d16, i16, u16⟩ := u_known (C := RX13) (T := TX13) (N := 24) (n := 24) hz in_X13 t1646
  have t158 : (Jvm.Cond.laysStatic "java/util/ArrayList" "DEFAULTCAPACITY_EMPTY_ELEMENTDATA" "[Ljava/lang/Object;").before #[Value.ref b] s = true := hts _ (List.mem_append_right _ (List.mem_of_getElem? (i := 158) (by decide +kernel)))
  have t13 : (Jvm.Cond.initialized "java/util/ArrayList").before #[Value.ref b] s = true := hts _ (List.mem_append_right _ (List.mem_of_getElem? (i := 13) (by decide +kernel)))
  have n4 : (Jvm.Cond.eq (Jvm.Term.static "java/lang/String" "COMPACT_STRINGS" "Z") (Jvm.Term.int (1 : Int32))).before #[Value.ref b] s = true := hw _ (List.mem_of_getElem? (i := 4) (by decide +kernel))
  have t81 : (Jvm.Cond.laysStatic "java/lang/String" "COMPACT_STRINGS" "Z").before #[Value.ref b] s = true := hts _ (List.mem_append_right _ (List.mem_of_getElem? (i := 81) (by decide +kernel)))
  have t6 : (Jvm.Cond.initialized "java/lang/String").before #[Value.ref b] s = true := hts _ (List.mem_append_right _ (List.mem_of_getElem? (i := 6) (by decide +kernel)))
  have t1079 : (Jvm.Cond.laysStatic "java/lang/Integer" "DigitOnes" "[B").before #[Value.ref b] s = true := hts _ (List.mem_append_right _ (List.mem_of_getElem? (i := 1079) (by decide +kernel)))
  have t35 : (Jvm.Cond.initialized "java/lang/Integer").before #[Value.ref b] s = true := hts _ (List.mem_append_right _ (List.mem_of_getElem? (i := 35) (by decide +kernel)))
  have t1081 : (Jvm.Cond.laysStatic "java/lang/Integer" "DigitTens" "[B").before #[Value.ref b] s = true := hts _ (List.mem_append_right _ (List.mem_of_getElem? (i := 1081) (by decide +kernel)))
  have t1544 : (Jvm.Cond.laysStatic "StoneGazette" "KEYWORDS" "[LStoneGazette$Keyword;").before #[Value.ref b] s = true := hts _ (List.mem_append_right _ (List.mem_of_getElem? (i := 1544) (by decide +kernel)))
  have t1 : (Jvm.Cond.initialized "StoneGazette").before #[Value.ref b] s = true := hts _ (List.mem_append_right _ (List.mem_of_getElem? (i := 1) (by decide +kernel)))
  have t1604 : (Jvm.Cond.laysStatic "StoneGazette$1" "$SwitchMap$StoneGazette$Keyword" "[I").before #[Value.ref b] s = true := hts _ (List.mem_append_right _ (List.mem_of_getElem? (i := 1604) (by decide +kernel)))
  have t43 : (Jvm.Cond.initialized "StoneGazette$1").before #[Value.ref b] s = true := hts _ (List.mem_append_right _ (List.mem_of_getElem? (i := 43) (by decide +kernel)))
  have t1542 : (Jvm.Cond.laysStatic "StoneGazette$Keyword" "WIDTH" "LStoneGazette$Keyword;").before #[Value.ref b] s = true := hts _ (List.mem_append_right _ (List.mem_of_getElem? (i := 1542) (by decide +kernel)))
  have t41 : (Jvm.Cond.initialized "StoneGazette$Keyword").before #[Value.ref b] s = true := hts _ (List.mem_append_right _ (List.mem_of_getElem? (i := 41) (by decide +kernel)))
  have t2198 : (Jvm.Cond.laysStatic "StoneGazette$Keyword" "PAGE" "LStoneGazette$Keyword;").before #[Value.ref b] s = true := hts _ (List.mem_append_right _ (List.mem_of_getElem? (i := 2198) (by decide +kernel)))
  have t2199 : (Jvm.Cond.laysStatic "StoneGazette$Keyword" "PRINT" "LStoneGazette$Keyword;").before #[Value.ref b] s = true := hts _ (List.mem_append_right _ (List.mem_of_getElem? (i := 2199) (by decide +kernel)))
  have t2200 : (Jvm.Cond.laysStatic "StoneGazette$Keyword" "DAYS" "LStoneGazette$Keyword;").before #[Value.ref b] s = true := hts _ (List.mem_append_right _ (List.mem_of_getElem? (i := 2200) (by decide +kernel)))
  have t2201 : (Jvm.Cond.laysStatic "StoneGazette$Keyword" "DROP" "LStoneGazette$Keyword;").before #[Value.ref b] s = true := hts _ (List.mem_append_right _ (List.mem_of_getElem? (i := 2201) (by decide +kernel)))
  have n222 : (Jvm.Cond.eq (Jvm.Term.field (Jvm.Term.static "StoneGazette$Keyword" "WIDTH" "LStoneGazette$Keyword;") "java/lang/Enum" "ordinal" "I") (Jvm.Term.int (0 : Int32))).before #[Value.ref b] s = true := hw _ (List.mem_of_getElem? (i := 222) (by decide +kernel))
  have n224 : (Jvm.Cond.eq (Jvm.Term.field (Jvm.Term.static "StoneGazette$Keyword" "WIDTH" "LStoneGazette$Keyword;") "StoneGazette$Keyword" "numbers" "I") (Jvm.Term.int (1 : Int32))).before #[Value.ref b] s = true := hw _ (List.mem_of_getElem? (i := 224) (by decide +kernel))
  have n223 : (Jvm.Cond.eq (Jvm.Term.field (Jvm.Term.static "StoneGazette$Keyword" "WIDTH" "LStoneGazette$Keyword;") "StoneGazette$Keyword" "letters" "Ljava/lang/String;") (Jvm.Term.string "StoneGazette$Keyword" (62 : Nat))).before #[Value.ref b] s = true := hw _ (List.mem_of_getElem? (i := 223) (by decide +kernel))
  have n244 : (Jvm.Cond.eq (Jvm.Term.field (Jvm.Term.static "StoneGazette$Keyword" "PAGE" "LStoneGazette$Keyword;") "java/lang/Enum" "ordinal" "I") (Jvm.Term.int (1 : Int32))).before #[Value.ref b] s = true := hw _ (List.mem_of_getElem? (i := 244) (by decide +kernel))
  have n246 : (Jvm.Cond.eq (Jvm.Term.field (Jvm.Term.static "StoneGazette$Keyword" "PAGE" "LStoneGazette$Keyword;") "StoneGazette$Keyword" "numbers" "I") (Jvm.Term.int (2 : Int32))).before #[Value.ref b] s = true := hw _ (List.mem_of_getElem? (i := 246) (by decide +kernel))
  have n245 : (Jvm.Cond.eq (Jvm.Term.field (Jvm.Term.static "StoneGazette$Keyword" "PAGE" "LStoneGazette$Keyword;") "StoneGazette$Keyword" "letters" "Ljava/lang/String;") (Jvm.Term.string "StoneGazette$Keyword" (68 : Nat))).before #[Value.ref b] s = true := hw _ (List.mem_of_getElem? (i := 245) (by decide +kernel))
  have n249 : (Jvm.Cond.eq (Jvm.Term.field (Jvm.Term.static "StoneGazette$Keyword" "PRINT" "LStoneGazette$Keyword;") "java/lang/Enum" "ordinal" "I") (Jvm.Term.int (2 : Int32))).before #[Value.ref b] s = true := hw _ (List.mem_of_getElem? (i := 249) (by decide +kernel))
  have n251 : (Jvm.Cond.eq (Jvm.Term.field (Jvm.Term.static "StoneGazette$Keyword" "PRINT" "LStoneGazette$Keyword;") "StoneGazette$Keyword" "numbers" "I") (Jvm.Term.int (0 : Int32))).before #[Value.ref b] s = true := hw _ (List.mem_of_getElem? (i := 251) (by decide +kernel))
  have n250 : (Jvm.Cond.eq (Jvm.Term.field (Jvm.Term.static "StoneGazette$Keyword" "PRINT" "LStoneGazette$Keyword;") "StoneGazette$Keyword" "letters" "Ljava/lang/String;") (Jvm.Term.string "StoneGazette$Keyword" (71 : Nat))).before #[Value.ref b] s = true := hw _ (List.mem_of_getElem? (i := 250) (by decide +kernel))
  have n255 : (Jvm.Cond.eq (Jvm.Term.field (Jvm.Term.static "StoneGazette$Keyword" "DAYS" "LStoneGazette$Keyword;") "java/lang/Enum" "ordinal" "I") (Jvm.Term.int (3 : Int32))).before #[Value.ref b] s = true := hw _ (List.mem_of_getElem? (i := 255) (by decide +kernel))
  have n257 : (Jvm.Cond.eq (Jvm.Term.field (Jvm.Term.static "StoneGazette$Keyword" "DAYS" "LStoneGazette$Keyword;") "StoneGazette$Keyword" "numbers" "I") (Jvm.Term.int (1 : Int32))).before #[Value.ref b] s = true := hw _ (List.mem_of_getElem? (i := 257) (by decide +kernel))
  have n256 : (Jvm.Cond.eq (Jvm.Term.field (Jvm.Term.static "StoneGazette$Keyword" "DAYS" "LStoneGazette$Keyword;") "StoneGazette$Keyword" "letters" "Ljava/lang/String;") (Jvm.Term.string "StoneGazette$Keyword" (74 : Nat))).before #[Value.ref b] s = true := hw _ (List.mem_of_getElem? (i := 256) (by decide +kernel))
  have n262 : (Jvm.Cond.eq (Jvm.Term.field (Jvm.Term.static "StoneGazette$Keyword" "DROP" "LStoneGazette$Keyword;") "java/lang/Enum" "ordinal" "I") (Jvm.Term.int (4 : Int32))).before #[Value.ref b] s = true := hw _ (List.mem_of_getElem? (i := 262) (by decide +kernel))
  have n264 : (Jvm.Cond.eq (Jvm.Term.field (Jvm.Term.static "StoneGazette$Keyword" "DROP" "LStoneGazette$Keyword;") "StoneGazette$Keyword" "numbers" "I") (Jvm.Term.int (1 : Int32))).before #[Value.ref b] s = true := hw _ (List.mem_of_getElem? (i := 264) (by decide +kernel))
  have n263 : (Jvm.Cond.eq (Jvm.Term.field (Jvm.Term.static "StoneGazette$Keyword" "DROP" "LStoneGazette$Keyword;") "StoneGazette$Keyword" "letters" "Ljava/lang/String;") (Jvm.Term.string "StoneGazette$Keyword" (77 : Nat))).before #[Value.ref b] s = true := hw _ (List.mem_of_getElem? (i := 263) (by decide +kernel))
  have n1433 : (Jvm.Cond.eq (Jvm.Term.field (Jvm.Term.string "StoneGazette$Keyword" (62 : Nat)) "java/lang/String" "coder" "B") (Jvm.Term.int (0 : Int32))).before #[Value.ref b] s = true := hw _ (List.mem_of_getElem? (i := 1433) (by decide +kernel))
  have n1444 : (Jvm.Cond.eq (Jvm.Term.field (Jvm.Term.string "StoneGazette$Keyword" (68 : Nat)) "java/lang/String" "coder" "B") (Jvm.Term.int (0 : Int32))).before #[Value.ref b] s = true := hw _ (List.mem_of_getElem? (i := 1444) (by decide +kernel))
  have n1454 : (Jvm.Cond.eq (Jvm.Term.field (Jvm.Term.string "StoneGazette$Keyword" (71 : Nat)) "java/lang/String" "coder" "B") (Jvm.Term.int (0 : Int32))).before #[Value.ref b] s = true := hw _ (List.mem_of_getElem? (i := 1454) (by decide +kernel))
  have n1464 : (Jvm.Cond.eq (Jvm.Term.field (Jvm.Term.string "StoneGazette$Keyword" (74 : Nat)) "java/lang/String" "coder" "B") (Jvm.Term.int (0 : Int32))).before #[Value.ref b] s = true := hw _ (List.mem_of_getElem? (i := 1464) (by decide +kernel))
  have n1474 : (Jvm.Cond.eq (Jvm.Term.field (Jvm.Term.string "StoneGazette$Keyword" (77 : Nat)) "java/lang/String" "coder" "B") (Jvm.Term.int (0 : Int32))).before #[Value.ref b] s = true := hw _ (List.mem_of_getElem? (i := 1474) (by decide +kernel))
  have n1400 : (Jvm.Cond.eq (Jvm.Term.field (Jvm.Term.string "StoneGazetteModel" (272 : Nat)) "java/lang/String" "coder" "B") (Jvm.Term.int (0 : Int32))).before #[Value.ref b] s = true := hw _ (List.mem_of_getElem? (i := 1400) (by decide +kernel))
  have t2110 : (Jvm.Cond.stringRef "StoneGazetteModel" (278 : Nat) "width ").before #[Value.ref b] s = true := hts _ (List.mem_append_right _ (List.mem_of_getElem? (i := 2110) (by decide +kernel)))
  have t2098 : (Jvm.Cond.stringRef "StoneGazetteModel" (266 : Nat) "page ").before #[Value.ref b] s = true := hts _ (List.mem_append_right _ (List.mem_of_getElem? (i := 2098) (by decide +kernel)))
  have t2091 : (Jvm.Cond.stringRef "StoneGazetteModel" (264 : Nat) "print").before #[Value.ref b] s = true := hts _ (List.mem_append_right _ (List.mem_of_getElem? (i := 2091) (by decide +kernel)))
  have t2109 : (Jvm.Cond.stringRef "StoneGazetteModel" (276 : Nat) "days ").before #[Value.ref b] s = true := hts _ (List.mem_append_right _ (List.mem_of_getElem? (i := 2109) (by decide +kernel)))
  have t2108 : (Jvm.Cond.stringRef "StoneGazetteModel" (274 : Nat) "drop ").before #[Value.ref b] s = true := hts _ (List.mem_append_right _ (List.mem_of_getElem? (i := 2108) (by decide +kernel)))
  have t2107 : (Jvm.Cond.stringRef "StoneGazetteModel" (272 : Nat) "*").before #[Value.ref b] s = true := hts _ (List.mem_append_right _ (List.mem_of_getElem? (i := 2107) (by decide +kernel)))
  have n430 : (Jvm.Cond.exactly (Jvm.Term.string "StoneGazette" (75 : Nat)) "java/lang/String").before #[Value.ref b] s = true := hw _ (List.mem_of_getElem? (i := 430) (by decide +kernel))
  obtain ⟨h75, _, _, _, eh75, -⟩ := Cond.exactly_spec n430
  have eh75 : (Jvm.Term.string "StoneGazette" (75 : Nat)).eval #[Value.ref b] s none [] s = some (.ref h75) := eh75
  have t465 : (Jvm.Cond.stringRef "StoneGazette" (75 : Nat) "neither a letter from a to z nor a blank").before #[Value.ref b] s = true := hts _ (List.mem_append_right _ (List.mem_of_getElem? (i := 465) (by decide +kernel)))
  have n474 : (Jvm.Cond.exactly (Jvm.Term.string "StoneGazette" (86 : Nat)) "java/lang/String").before #[Value.ref b] s = true := hw _ (List.mem_of_getElem? (i := 474) (by decide +kernel))
  obtain ⟨h86, _, _, _, eh86, -⟩ := Cond.exactly_spec n474
  have eh86 : (Jvm.Term.string "StoneGazette" (86 : Nat)).eval #[Value.ref b] s none [] s = some (.ref h86) := eh86
  have t504 : (Jvm.Cond.stringRef "StoneGazette" (86 : Nat) "the text is full").before #[Value.ref b] s = true := hts _ (List.mem_append_right _ (List.mem_of_getElem? (i := 504) (by decide +kernel)))
  have n494 : (Jvm.Cond.exactly (Jvm.Term.string "StoneGazette" (96 : Nat)) "java/lang/String").before #[Value.ref b] s = true := hw _ (List.mem_of_getElem? (i := 494) (by decide +kernel))
  obtain ⟨h96, _, _, _, eh96, -⟩ := Cond.exactly_spec n494
  have eh96 : (Jvm.Term.string "StoneGazette" (96 : Nat)).eval #[Value.ref b] s none [] s = some (.ref h96) := eh96
  have t519 : (Jvm.Cond.stringRef "StoneGazette" (96 : Nat) "priority is not from 1 to 9").before #[Value.ref b] s = true := hts _ (List.mem_append_right _ (List.mem_of_getElem? (i := 519) (by decide +kernel)))
  have n525 : (Jvm.Cond.exactly (Jvm.Term.string "StoneGazette" (104 : Nat)) "java/lang/String").before #[Value.ref b] s = true := hw _ (List.mem_of_getElem? (i := 525) (by decide +kernel))
  obtain ⟨h104, _, _, _, eh104, -⟩ := Cond.exactly_spec n525
  have eh104 : (Jvm.Term.string "StoneGazette" (104 : Nat)).eval #[Value.ref b] s none [] s = some (.ref h104) := eh104
  have t520 : (Jvm.Cond.stringRef "StoneGazette" (104 : Nat) "there are 6 articles").before #[Value.ref b] s = true := hts _ (List.mem_append_right _ (List.mem_of_getElem? (i := 520) (by decide +kernel)))
  have n549 : (Jvm.Cond.exactly (Jvm.Term.string "StoneGazette" (112 : Nat)) "java/lang/String").before #[Value.ref b] s = true := hw _ (List.mem_of_getElem? (i := 549) (by decide +kernel))
  obtain ⟨h112, _, _, _, eh112, -⟩ := Cond.exactly_spec n549
  have eh112 : (Jvm.Term.string "StoneGazette" (112 : Nat)).eval #[Value.ref b] s none [] s = some (.ref h112) := eh112
  have t538 : (Jvm.Cond.stringRef "StoneGazette" (112 : Nat) "the text is not an article text").before #[Value.ref b] s = true := hts _ (List.mem_append_right _ (List.mem_of_getElem? (i := 538) (by decide +kernel)))
  have n584 : (Jvm.Cond.exactly (Jvm.Term.string "StoneGazette" (137 : Nat)) "java/lang/String").before #[Value.ref b] s = true := hw _ (List.mem_of_getElem? (i := 584) (by decide +kernel))
  obtain ⟨h137, _, _, _, eh137, -⟩ := Cond.exactly_spec n584
  have eh137 : (Jvm.Term.string "StoneGazette" (137 : Nat)).eval #[Value.ref b] s none [] s = some (.ref h137) := eh137
  have t719 : (Jvm.Cond.stringRef "StoneGazette" (137 : Nat) "there is no such article").before #[Value.ref b] s = true := hts _ (List.mem_append_right _ (List.mem_of_getElem? (i := 719) (by decide +kernel)))
  have n637 : (Jvm.Cond.exactly (Jvm.Term.string "StoneGazette" (147 : Nat)) "java/lang/String").before #[Value.ref b] s = true := hw _ (List.mem_of_getElem? (i := 637) (by decide +kernel))
  obtain ⟨h147, _, _, _, eh147, -⟩ := Cond.exactly_spec n637
  have eh147 : (Jvm.Term.string "StoneGazette" (147 : Nat)).eval #[Value.ref b] s none [] s = some (.ref h147) := eh147
  have t786 : (Jvm.Cond.stringRef "StoneGazette" (147 : Nat) "the text is not a word").before #[Value.ref b] s = true := hts _ (List.mem_append_right _ (List.mem_of_getElem? (i := 786) (by decide +kernel)))
  have n663 : (Jvm.Cond.exactly (Jvm.Term.string "StoneGazette" (163 : Nat)) "java/lang/String").before #[Value.ref b] s = true := hw _ (List.mem_of_getElem? (i := 663) (by decide +kernel))
  obtain ⟨h163, _, _, _, eh163, -⟩ := Cond.exactly_spec n663
  have eh163 : (Jvm.Term.string "StoneGazette" (163 : Nat)).eval #[Value.ref b] s none [] s = some (.ref h163) := eh163
  have t825 : (Jvm.Cond.stringRef "StoneGazette" (163 : Nat) "there is no such position").before #[Value.ref b] s = true := hts _ (List.mem_append_right _ (List.mem_of_getElem? (i := 825) (by decide +kernel)))
  have n692 : (Jvm.Cond.exactly (Jvm.Term.string "StoneGazette" (179 : Nat)) "java/lang/String").before #[Value.ref b] s = true := hw _ (List.mem_of_getElem? (i := 692) (by decide +kernel))
  obtain ⟨h179, _, _, _, eh179, -⟩ := Cond.exactly_spec n692
  have eh179 : (Jvm.Term.string "StoneGazette" (179 : Nat)).eval #[Value.ref b] s none [] s = some (.ref h179) := eh179
  have t845 : (Jvm.Cond.stringRef "StoneGazette" (179 : Nat) "there is no such rank").before #[Value.ref b] s = true := hts _ (List.mem_append_right _ (List.mem_of_getElem? (i := 845) (by decide +kernel)))
  have n717 : (Jvm.Cond.exactly (Jvm.Term.string "StoneGazette" (203 : Nat)) "java/lang/String").before #[Value.ref b] s = true := hw _ (List.mem_of_getElem? (i := 717) (by decide +kernel))
  obtain ⟨h203, _, _, _, eh203, -⟩ := Cond.exactly_spec n717
  have eh203 : (Jvm.Term.string "StoneGazette" (203 : Nat)).eval #[Value.ref b] s none [] s = some (.ref h203) := eh203
  have t897 : (Jvm.Cond.stringRef "StoneGazette" (203 : Nat) "width is not from 4 to 20").before #[Value.ref b] s = true := hts _ (List.mem_append_right _ (List.mem_of_getElem? (i := 897) (by decide +kernel)))
  have n945 : (Jvm.Cond.exactly (Jvm.Term.string "StoneGazette" (252 : Nat)) "java/lang/String").before #[Value.ref b] s = true := hw _ (List.mem_of_getElem? (i := 945) (by decide +kernel))
  obtain ⟨h252, _, _, _, eh252, -⟩ := Cond.exactly_spec n945
  have eh252 : (Jvm.Term.string "StoneGazette" (252 : Nat)).eval #[Value.ref b] s none [] s = some (.ref h252) := eh252
  have t1249 : (Jvm.Cond.stringRef "StoneGazette" (252 : Nat) "columns is not from 1 to 4 or height is not from 1 to 20").before #[Value.ref b] s = true := hts _ (List.mem_append_right _ (List.mem_of_getElem? (i := 1249) (by decide +kernel)))
  have n1005 : (Jvm.Cond.exactly (Jvm.Term.string "StoneGazette" (261 : Nat)) "java/lang/String").before #[Value.ref b] s = true := hw _ (List.mem_of_getElem? (i := 1005) (by decide +kernel))
  obtain ⟨h261, _, _, _, eh261, -⟩ := Cond.exactly_spec n1005
  have eh261 : (Jvm.Term.string "StoneGazette" (261 : Nat)).eval #[Value.ref b] s none [] s = some (.ref h261) := eh261
  have t1317 : (Jvm.Cond.stringRef "StoneGazette" (261 : Nat) "there are no articles").before #[Value.ref b] s = true := hts _ (List.mem_append_right _ (List.mem_of_getElem? (i := 1317) (by decide +kernel)))
  have n1099 : (Jvm.Cond.exactly (Jvm.Term.string "StoneGazette" (307 : Nat)) "java/lang/String").before #[Value.ref b] s = true := hw _ (List.mem_of_getElem? (i := 1099) (by decide +kernel))
  obtain ⟨h307, _, _, _, eh307, -⟩ := Cond.exactly_spec n1099
  have eh307 : (Jvm.Term.string "StoneGazette" (307 : Nat)).eval #[Value.ref b] s none [] s = some (.ref h307) := eh307
  have t1394 : (Jvm.Cond.stringRef "StoneGazette" (307 : Nat) "days is not from 1 to 30").before #[Value.ref b] s = true := hts _ (List.mem_append_right _ (List.mem_of_getElem? (i := 1394) (by decide +kernel)))
  have n1127 : (Jvm.Cond.exactly (Jvm.Term.string "StoneGazette" (335 : Nat)) "java/lang/String").before #[Value.ref b] s = true := hw _ (List.mem_of_getElem? (i := 1127) (by decide +kernel))
  obtain ⟨h335, _, _, _, eh335, -⟩ := Cond.exactly_spec n1127
  have eh335 : (Jvm.Term.string "StoneGazette" (335 : Nat)).eval #[Value.ref b] s none [] s = some (.ref h335) := eh335
  have t1472 : (Jvm.Cond.stringRef "StoneGazette" (335 : Nat) "no issue is kept").before #[Value.ref b] s = true := hts _ (List.mem_append_right _ (List.mem_of_getElem? (i := 1472) (by decide +kernel)))
  have n1147 : (Jvm.Cond.exactly (Jvm.Term.string "StoneGazette" (340 : Nat)) "java/lang/String").before #[Value.ref b] s = true := hw _ (List.mem_of_getElem? (i := 1147) (by decide +kernel))
  obtain ⟨h340, _, _, _, eh340, -⟩ := Cond.exactly_spec n1147
  have eh340 : (Jvm.Term.string "StoneGazette" (340 : Nat)).eval #[Value.ref b] s none [] s = some (.ref h340) := eh340
  have t1499 : (Jvm.Cond.stringRef "StoneGazette" (340 : Nat) "there is no such character").before #[Value.ref b] s = true := hts _ (List.mem_append_right _ (List.mem_of_getElem? (i := 1499) (by decide +kernel)))
  have n1177 : (Jvm.Cond.exactly (Jvm.Term.string "StoneGazette" (353 : Nat)) "java/lang/String").before #[Value.ref b] s = true := hw _ (List.mem_of_getElem? (i := 1177) (by decide +kernel))
  obtain ⟨h353, _, _, _, eh353, -⟩ := Cond.exactly_spec n1177
  have eh353 : (Jvm.Term.string "StoneGazette" (353 : Nat)).eval #[Value.ref b] s none [] s = some (.ref h353) := eh353
  have t1517 : (Jvm.Cond.stringRef "StoneGazette" (353 : Nat) "the command buffer is full").before #[Value.ref b] s = true := hts _ (List.mem_append_right _ (List.mem_of_getElem? (i := 1517) (by decide +kernel)))
  have n1207 : (Jvm.Cond.exactly (Jvm.Term.string "StoneGazette" (362 : Nat)) "java/lang/String").before #[Value.ref b] s = true := hw _ (List.mem_of_getElem? (i := 1207) (by decide +kernel))
  obtain ⟨h362, _, _, _, eh362, -⟩ := Cond.exactly_spec n1207
  have eh362 : (Jvm.Term.string "StoneGazette" (362 : Nat)).eval #[Value.ref b] s none [] s = some (.ref h362) := eh362
  have t1597 : (Jvm.Cond.stringRef "StoneGazette" (362 : Nat) "the commands are malformed").before #[Value.ref b] s = true := hts _ (List.mem_append_right _ (List.mem_of_getElem? (i := 1597) (by decide +kernel)))
  have n1237 : (Jvm.Cond.exactly (Jvm.Term.string "StoneGazette" (373 : Nat)) "java/lang/String").before #[Value.ref b] s = true := hw _ (List.mem_of_getElem? (i := 1237) (by decide +kernel))
  obtain ⟨h373, _, _, _, eh373, -⟩ := Cond.exactly_spec n1237
  have eh373 : (Jvm.Term.string "StoneGazette" (373 : Nat)).eval #[Value.ref b] s none [] s = some (.ref h373) := eh373
  have t1611 : (Jvm.Cond.stringRef "StoneGazette" (373 : Nat) "a command throws an exception").before #[Value.ref b] s = true := hts _ (List.mem_append_right _ (List.mem_of_getElem? (i := 1611) (by decide +kernel)))
  have n1270 : (Jvm.Cond.exactly (Jvm.Term.string "StoneGazette" (375 : Nat)) "java/lang/String").before #[Value.ref b] s = true := hw _ (List.mem_of_getElem? (i := 1270) (by decide +kernel))
  obtain ⟨h375, _, _, _, eh375, -⟩ := Cond.exactly_spec n1270
  have eh375 : (Jvm.Term.string "StoneGazette" (375 : Nat)).eval #[Value.ref b] s none [] s = some (.ref h375) := eh375
  have t1619 : (Jvm.Cond.stringRef "StoneGazette" (375 : Nat) "no error position was kept").before #[Value.ref b] s = true := hts _ (List.mem_append_right _ (List.mem_of_getElem? (i := 1619) (by decide +kernel)))
  have n1300 : (Jvm.Cond.exactly (Jvm.Term.string "StoneGazette" (377 : Nat)) "java/lang/String").before #[Value.ref b] s = true := hw _ (List.mem_of_getElem? (i := 1300) (by decide +kernel))
  obtain ⟨h377, _, _, _, eh377, -⟩ := Cond.exactly_spec n1300
  have eh377 : (Jvm.Term.string "StoneGazette" (377 : Nat)).eval #[Value.ref b] s none [] s = some (.ref h377) := eh377
  have t1627 : (Jvm.Cond.stringRef "StoneGazette" (377 : Nat) "no failed command was kept").before #[Value.ref b] s = true := hts _ (List.mem_append_right _ (List.mem_of_getElem? (i := 1627) (by decide +kernel)))
  have n1330 : (Jvm.Cond.exactly (Jvm.Term.string "StoneGazette" (379 : Nat)) "java/lang/String").before #[Value.ref b] s = true := hw _ (List.mem_of_getElem? (i := 1330) (by decide +kernel))
  obtain ⟨h379, _, _, _, eh379, -⟩ := Cond.exactly_spec n1330
  have eh379 : (Jvm.Term.string "StoneGazette" (379 : Nat)).eval #[Value.ref b] s none [] s = some (.ref h379) := eh379
  have t1635 : (Jvm.Cond.stringRef "StoneGazette" (379 : Nat) "there is no change to undo").before #[Value.ref b] s = true := hts _ (List.mem_append_right _ (List.mem_of_getElem? (i := 1635) (by decide +kernel)))
  have n1360 : (Jvm.Cond.exactly (Jvm.Term.string "StoneGazette" (384 : Nat)) "java/lang/String").before #[Value.ref b] s = true := hw _ (List.mem_of_getElem? (i := 1360) (by decide +kernel))
  obtain ⟨h384, _, _, _, eh384, -⟩ := Cond.exactly_spec n1360
  have eh384 : (Jvm.Term.string "StoneGazette" (384 : Nat)).eval #[Value.ref b] s none [] s = some (.ref h384) := eh384
  have t1643 : (Jvm.Cond.stringRef "StoneGazette" (384 : Nat) "nothing was saved").before #[Value.ref b] s = true := hts _ (List.mem_append_right _ (List.mem_of_getElem? (i := 1643) (by decide +kernel)))
  have n612 : (Jvm.Cond.exactly (Jvm.Term.string "StoneGazette" (396 : Nat)) "java/lang/String").before #[Value.ref b] s = true := hw _ (List.mem_of_getElem? (i := 612) (by decide +kernel))
  obtain ⟨h396, _, _, _, eh396, -⟩ := Cond.exactly_spec n612
  have eh396 : (Jvm.Term.string "StoneGazette" (396 : Nat)).eval #[Value.ref b] s none [] s = some (.ref h396) := eh396
  have t778 : (Jvm.Cond.stringRef "StoneGazette" (396 : Nat) "there is no such word").before #[Value.ref b] s = true := hts _ (List.mem_append_right _ (List.mem_of_getElem? (i := 778) (by decide +kernel)))
  have n903 : (Jvm.Cond.exactly (Jvm.Term.string "StoneGazette" (401 : Nat)) "java/lang/String").before #[Value.ref b] s = true := hw _ (List.mem_of_getElem? (i := 903) (by decide +kernel))
  obtain ⟨h401, _, _, _, eh401, -⟩ := Cond.exactly_spec n903
  have eh401 : (Jvm.Term.string "StoneGazette" (401 : Nat)).eval #[Value.ref b] s none [] s = some (.ref h401) := eh401
  have t1230 : (Jvm.Cond.stringRef "StoneGazette" (401 : Nat) "a word is longer than the column width").before #[Value.ref b] s = true := hts _ (List.mem_append_right _ (List.mem_of_getElem? (i := 1230) (by decide +kernel)))
  have n746 : (Jvm.Cond.exactly (Jvm.Term.string "StoneGazette" (403 : Nat)) "java/lang/String").before #[Value.ref b] s = true := hw _ (List.mem_of_getElem? (i := 746) (by decide +kernel))
  obtain ⟨h403, _, _, _, eh403, -⟩ := Cond.exactly_spec n746
  have eh403 : (Jvm.Term.string "StoneGazette" (403 : Nat)).eval #[Value.ref b] s none [] s = some (.ref h403) := eh403
  have t916 : (Jvm.Cond.stringRef "StoneGazette" (403 : Nat) "the article cannot be set").before #[Value.ref b] s = true := hts _ (List.mem_append_right _ (List.mem_of_getElem? (i := 916) (by decide +kernel)))
  have n775 : (Jvm.Cond.exactly (Jvm.Term.string "StoneGazette" (405 : Nat)) "java/lang/String").before #[Value.ref b] s = true := hw _ (List.mem_of_getElem? (i := 775) (by decide +kernel))
  obtain ⟨h405, _, _, _, eh405, -⟩ := Cond.exactly_spec n775
  have eh405 : (Jvm.Term.string "StoneGazette" (405 : Nat)).eval #[Value.ref b] s none [] s = some (.ref h405) := eh405
  have t928 : (Jvm.Cond.stringRef "StoneGazette" (405 : Nat) "there is no such line").before #[Value.ref b] s = true := hts _ (List.mem_append_right _ (List.mem_of_getElem? (i := 928) (by decide +kernel)))
  have n1030 : (Jvm.Cond.exactly (Jvm.Term.string "StoneGazette" (407 : Nat)) "java/lang/String").before #[Value.ref b] s = true := hw _ (List.mem_of_getElem? (i := 1030) (by decide +kernel))
  obtain ⟨h407, _, _, _, eh407, -⟩ := Cond.exactly_spec n1030
  have eh407 : (Jvm.Term.string "StoneGazette" (407 : Nat)).eval #[Value.ref b] s none [] s = some (.ref h407) := eh407
  have t1329 : (Jvm.Cond.stringRef "StoneGazette" (407 : Nat) "there is no such issue").before #[Value.ref b] s = true := hts _ (List.mem_append_right _ (List.mem_of_getElem? (i := 1329) (by decide +kernel)))
  have n1056 : (Jvm.Cond.exactly (Jvm.Term.string "StoneGazette" (409 : Nat)) "java/lang/String").before #[Value.ref b] s = true := hw _ (List.mem_of_getElem? (i := 1056) (by decide +kernel))
  obtain ⟨h409, _, _, _, eh409, -⟩ := Cond.exactly_spec n1056
  have eh409 : (Jvm.Term.string "StoneGazette" (409 : Nat)).eval #[Value.ref b] s none [] s = some (.ref h409) := eh409
  have t1349 : (Jvm.Cond.stringRef "StoneGazette" (409 : Nat) "the issue does not contain this article").before #[Value.ref b] s = true := hts _ (List.mem_append_right _ (List.mem_of_getElem? (i := 1349) (by decide +kernel)))
  have hne : ∀ {t u : Jvm.Term} {x y : Nat}, (Jvm.Cond.not (Jvm.Cond.eq t u)).before #[Value.ref b] s = true → t.eval #[Value.ref b] s none [] s = some (.ref x) → u.eval #[Value.ref b] s none [] s = some (.ref y) → x ≠ y := by
    intro t u x y h h1 h2 e
    subst e
    simp [Cond.before, Cond.holds, Cond.value, h1, h2] at h
  have n247 : (Jvm.Cond.not (Jvm.Cond.eq (Jvm.Term.static "StoneGazette$Keyword" "WIDTH" "LStoneGazette$Keyword;") (Jvm.Term.static "StoneGazette$Keyword" "PAGE" "LStoneGazette$Keyword;"))).before #[Value.ref b] s = true := hw _ (List.mem_of_getElem? (i := 247) (by decide +kernel))
  have ne01 : a20 ≠ a21 := hne n247 ea20 ea21
  have n252 : (Jvm.Cond.not (Jvm.Cond.eq (Jvm.Term.static "StoneGazette$Keyword" "WIDTH" "LStoneGazette$Keyword;") (Jvm.Term.static "StoneGazette$Keyword" "PRINT" "LStoneGazette$Keyword;"))).before #[Value.ref b] s = true := hw _ (List.mem_of_getElem? (i := 252) (by decide +kernel))
  have ne02 : a20 ≠ a22 := hne n252 ea20 ea22
  have n258 : (Jvm.Cond.not (Jvm.Cond.eq (Jvm.Term.static "StoneGazette$Keyword" "WIDTH" "LStoneGazette$Keyword;") (Jvm.Term.static "StoneGazette$Keyword" "DAYS" "LStoneGazette$Keyword;"))).before #[Value.ref b] s = true := hw _ (List.mem_of_getElem? (i := 258) (by decide +kernel))
  have ne03 : a20 ≠ a23 := hne n258 ea20 ea23
  have n265 : (Jvm.Cond.not (Jvm.Cond.eq (Jvm.Term.static "StoneGazette$Keyword" "WIDTH" "LStoneGazette$Keyword;") (Jvm.Term.static "StoneGazette$Keyword" "DROP" "LStoneGazette$Keyword;"))).before #[Value.ref b] s = true := hw _ (List.mem_of_getElem? (i := 265) (by decide +kernel))
  have ne04 : a20 ≠ a24 := hne n265 ea20 ea24
  have n253 : (Jvm.Cond.not (Jvm.Cond.eq (Jvm.Term.static "StoneGazette$Keyword" "PAGE" "LStoneGazette$Keyword;") (Jvm.Term.static "StoneGazette$Keyword" "PRINT" "LStoneGazette$Keyword;"))).before #[Value.ref b] s = true := hw _ (List.mem_of_getElem? (i := 253) (by decide +kernel))
  have ne12 : a21 ≠ a22 := hne n253 ea21 ea22
  have n259 : (Jvm.Cond.not (Jvm.Cond.eq (Jvm.Term.static "StoneGazette$Keyword" "PAGE" "LStoneGazette$Keyword;") (Jvm.Term.static "StoneGazette$Keyword" "DAYS" "LStoneGazette$Keyword;"))).before #[Value.ref b] s = true := hw _ (List.mem_of_getElem? (i := 259) (by decide +kernel))
  have ne13 : a21 ≠ a23 := hne n259 ea21 ea23
  have n266 : (Jvm.Cond.not (Jvm.Cond.eq (Jvm.Term.static "StoneGazette$Keyword" "PAGE" "LStoneGazette$Keyword;") (Jvm.Term.static "StoneGazette$Keyword" "DROP" "LStoneGazette$Keyword;"))).before #[Value.ref b] s = true := hw _ (List.mem_of_getElem? (i := 266) (by decide +kernel))
  have ne14 : a21 ≠ a24 := hne n266 ea21 ea24
  have n260 : (Jvm.Cond.not (Jvm.Cond.eq (Jvm.Term.static "StoneGazette$Keyword" "PRINT" "LStoneGazette$Keyword;") (Jvm.Term.static "StoneGazette$Keyword" "DAYS" "LStoneGazette$Keyword;"))).before #[Value.ref b] s = true := hw _ (List.mem_of_getElem? (i := 260) (by decide +kernel))
  have ne23 : a22 ≠ a23 := hne n260 ea22 ea23
  have n267 : (Jvm.Cond.not (Jvm.Cond.eq (Jvm.Term.static "StoneGazette$Keyword" "PRINT" "LStoneGazette$Keyword;") (Jvm.Term.static "StoneGazette$Keyword" "DROP" "LStoneGazette$Keyword;"))).before #[Value.ref b] s = true := hw _ (List.mem_of_getElem? (i := 267) (by decide +kernel))
  have ne24 : a22 ≠ a24 := hne n267 ea22 ea24
  have n268 : (Jvm.Cond.not (Jvm.Cond.eq (Jvm.Term.static "StoneGazette$Keyword" "DAYS" "LStoneGazette$Keyword;") (Jvm.Term.static "StoneGazette$Keyword" "DROP" "LStoneGazette$Keyword;"))).before #[Value.ref b] s = true := hw _ (List.mem_of_getElem? (i := 268) (by decide +kernel))
  have ne34 : a23 ≠ a24 := hne n268 ea23 ea24
  have t446 : (Jvm.Cond.laysStatic "java/lang/Throwable" "UNASSIGNED_STACK" "[Ljava/lang/StackTraceElement;").before #[Value.ref b] s = true := hts _ (List.mem_append_right _ (List.mem_of_getElem? (i := 446) (by decide +kernel)))
  have t16 : (Jvm.Cond.initialized "java/lang/Throwable").before #[Value.ref b] s = true := hts _ (List.mem_append_right _ (List.mem_of_getElem? (i := 16) (by decide +kernel)))
  have n9 : (Jvm.Cond.isRef (Jvm.Term.static "java/lang/Throwable" "UNASSIGNED_STACK" "[Ljava/lang/StackTraceElement;")).before #[Value.ref b] s = true := hw _ (List.mem_of_getElem? (i := 9) (by decide +kernel))
  have t448 : (Jvm.Cond.laysStatic "java/lang/Throwable" "SUPPRESSED_SENTINEL" "Ljava/util/List;").before #[Value.ref b] s = true := hts _ (List.mem_append_right _ (List.mem_of_getElem? (i := 448) (by decide +kernel)))
  have n10 : (Jvm.Cond.isRef (Jvm.Term.static "java/lang/Throwable" "SUPPRESSED_SENTINEL" "Ljava/util/List;")).before #[Value.ref b] s = true := hw _ (List.mem_of_getElem? (i := 10) (by decide +kernel))
  have t1009 : (Jvm.Cond.laysStatic "jdk/internal/util/Preconditions" "SIOOBE_FORMATTER" "Ljava/util/function/BiFunction;").before #[Value.ref b] s = true := hts _ (List.mem_append_right _ (List.mem_of_getElem? (i := 1009) (by decide +kernel)))
  have t23 : (Jvm.Cond.initialized "jdk/internal/util/Preconditions").before #[Value.ref b] s = true := hts _ (List.mem_append_right _ (List.mem_of_getElem? (i := 23) (by decide +kernel)))
  have n11 : (Jvm.Cond.isRef (Jvm.Term.static "jdk/internal/util/Preconditions" "SIOOBE_FORMATTER" "Ljava/util/function/BiFunction;")).before #[Value.ref b] s = true := hw _ (List.mem_of_getElem? (i := 11) (by decide +kernel))
  have n375 : (Jvm.Cond.not (Jvm.Cond.castable "java/util/NoSuchElementException" "java/lang/IndexOutOfBoundsException")).before #[Value.ref b] s = true := hw _ (List.mem_of_getElem? (i := 375) (by decide +kernel))
  have n328 : (Jvm.Cond.not (Jvm.Cond.castable "java/util/NoSuchElementException" "java/lang/UnsupportedOperationException")).before #[Value.ref b] s = true := hw _ (List.mem_of_getElem? (i := 328) (by decide +kernel))
  have n282 : (Jvm.Cond.not (Jvm.Cond.castable "java/util/NoSuchElementException" "java/lang/IllegalArgumentException")).before #[Value.ref b] s = true := hw _ (List.mem_of_getElem? (i := 282) (by decide +kernel))
  have n305 : (Jvm.Cond.not (Jvm.Cond.castable "java/util/NoSuchElementException" "java/lang/IllegalStateException")).before #[Value.ref b] s = true := hw _ (List.mem_of_getElem? (i := 305) (by decide +kernel))
  have n396 : (Jvm.Cond.not (Jvm.Cond.castable "java/util/NoSuchElementException" "java/lang/ArithmeticException")).before #[Value.ref b] s = true := hw _ (List.mem_of_getElem? (i := 396) (by decide +kernel))
  have n353 : (Jvm.Cond.not (Jvm.Cond.castable "java/lang/IndexOutOfBoundsException" "java/util/NoSuchElementException")).before #[Value.ref b] s = true := hw _ (List.mem_of_getElem? (i := 353) (by decide +kernel))
  have n330 : (Jvm.Cond.not (Jvm.Cond.castable "java/lang/IndexOutOfBoundsException" "java/lang/UnsupportedOperationException")).before #[Value.ref b] s = true := hw _ (List.mem_of_getElem? (i := 330) (by decide +kernel))
  have n284 : (Jvm.Cond.not (Jvm.Cond.castable "java/lang/IndexOutOfBoundsException" "java/lang/IllegalArgumentException")).before #[Value.ref b] s = true := hw _ (List.mem_of_getElem? (i := 284) (by decide +kernel))
  have n307 : (Jvm.Cond.not (Jvm.Cond.castable "java/lang/IndexOutOfBoundsException" "java/lang/IllegalStateException")).before #[Value.ref b] s = true := hw _ (List.mem_of_getElem? (i := 307) (by decide +kernel))
  have n398 : (Jvm.Cond.not (Jvm.Cond.castable "java/lang/IndexOutOfBoundsException" "java/lang/ArithmeticException")).before #[Value.ref b] s = true := hw _ (List.mem_of_getElem? (i := 398) (by decide +kernel))
  have n349 : (Jvm.Cond.not (Jvm.Cond.castable "java/lang/UnsupportedOperationException" "java/util/NoSuchElementException")).before #[Value.ref b] s = true := hw _ (List.mem_of_getElem? (i := 349) (by decide +kernel))
  have n372 : (Jvm.Cond.not (Jvm.Cond.castable "java/lang/UnsupportedOperationException" "java/lang/IndexOutOfBoundsException")).before #[Value.ref b] s = true := hw _ (List.mem_of_getElem? (i := 372) (by decide +kernel))
  have n279 : (Jvm.Cond.not (Jvm.Cond.castable "java/lang/UnsupportedOperationException" "java/lang/IllegalArgumentException")).before #[Value.ref b] s = true := hw _ (List.mem_of_getElem? (i := 279) (by decide +kernel))
  have n302 : (Jvm.Cond.not (Jvm.Cond.castable "java/lang/UnsupportedOperationException" "java/lang/IllegalStateException")).before #[Value.ref b] s = true := hw _ (List.mem_of_getElem? (i := 302) (by decide +kernel))
  have n393 : (Jvm.Cond.not (Jvm.Cond.castable "java/lang/UnsupportedOperationException" "java/lang/ArithmeticException")).before #[Value.ref b] s = true := hw _ (List.mem_of_getElem? (i := 393) (by decide +kernel))
  have n347 : (Jvm.Cond.not (Jvm.Cond.castable "java/lang/IllegalArgumentException" "java/util/NoSuchElementException")).before #[Value.ref b] s = true := hw _ (List.mem_of_getElem? (i := 347) (by decide +kernel))
  have n370 : (Jvm.Cond.not (Jvm.Cond.castable "java/lang/IllegalArgumentException" "java/lang/IndexOutOfBoundsException")).before #[Value.ref b] s = true := hw _ (List.mem_of_getElem? (i := 370) (by decide +kernel))
  have n324 : (Jvm.Cond.not (Jvm.Cond.castable "java/lang/IllegalArgumentException" "java/lang/UnsupportedOperationException")).before #[Value.ref b] s = true := hw _ (List.mem_of_getElem? (i := 324) (by decide +kernel))
  have n301 : (Jvm.Cond.not (Jvm.Cond.castable "java/lang/IllegalArgumentException" "java/lang/IllegalStateException")).before #[Value.ref b] s = true := hw _ (List.mem_of_getElem? (i := 301) (by decide +kernel))
  have n391 : (Jvm.Cond.not (Jvm.Cond.castable "java/lang/IllegalArgumentException" "java/lang/ArithmeticException")).before #[Value.ref b] s = true := hw _ (List.mem_of_getElem? (i := 391) (by decide +kernel))
  have n348 : (Jvm.Cond.not (Jvm.Cond.castable "java/lang/IllegalStateException" "java/util/NoSuchElementException")).before #[Value.ref b] s = true := hw _ (List.mem_of_getElem? (i := 348) (by decide +kernel))
  have n371 : (Jvm.Cond.not (Jvm.Cond.castable "java/lang/IllegalStateException" "java/lang/IndexOutOfBoundsException")).before #[Value.ref b] s = true := hw _ (List.mem_of_getElem? (i := 371) (by decide +kernel))
  have n325 : (Jvm.Cond.not (Jvm.Cond.castable "java/lang/IllegalStateException" "java/lang/UnsupportedOperationException")).before #[Value.ref b] s = true := hw _ (List.mem_of_getElem? (i := 325) (by decide +kernel))
  have n278 : (Jvm.Cond.not (Jvm.Cond.castable "java/lang/IllegalStateException" "java/lang/IllegalArgumentException")).before #[Value.ref b] s = true := hw _ (List.mem_of_getElem? (i := 278) (by decide +kernel))
  have n392 : (Jvm.Cond.not (Jvm.Cond.castable "java/lang/IllegalStateException" "java/lang/ArithmeticException")).before #[Value.ref b] s = true := hw _ (List.mem_of_getElem? (i := 392) (by decide +kernel))
  have n358 : (Jvm.Cond.not (Jvm.Cond.castable "java/lang/ArithmeticException" "java/util/NoSuchElementException")).before #[Value.ref b] s = true := hw _ (List.mem_of_getElem? (i := 358) (by decide +kernel))
  have n379 : (Jvm.Cond.not (Jvm.Cond.castable "java/lang/ArithmeticException" "java/lang/IndexOutOfBoundsException")).before #[Value.ref b] s = true := hw _ (List.mem_of_getElem? (i := 379) (by decide +kernel))
  have n335 : (Jvm.Cond.not (Jvm.Cond.castable "java/lang/ArithmeticException" "java/lang/UnsupportedOperationException")).before #[Value.ref b] s = true := hw _ (List.mem_of_getElem? (i := 335) (by decide +kernel))
  have n289 : (Jvm.Cond.not (Jvm.Cond.castable "java/lang/ArithmeticException" "java/lang/IllegalArgumentException")).before #[Value.ref b] s = true := hw _ (List.mem_of_getElem? (i := 289) (by decide +kernel))
  have n312 : (Jvm.Cond.not (Jvm.Cond.castable "java/lang/ArithmeticException" "java/lang/IllegalStateException")).before #[Value.ref b] s = true := hw _ (List.mem_of_getElem? (i := 312) (by decide +kernel))
  have hNc : zxNc s := fun x y hx hy hn => by
    have hx2 : x = "java/util/NoSuchElementException" ∨ x = "java/lang/IndexOutOfBoundsException" ∨ x = "java/lang/UnsupportedOperationException" ∨ x = "java/lang/IllegalArgumentException" ∨ x = "java/lang/IllegalStateException" ∨ x = "java/lang/ArithmeticException" := by simpa [znames] using hx
    have hy2 : y = "java/util/NoSuchElementException" ∨ y = "java/lang/IndexOutOfBoundsException" ∨ y = "java/lang/UnsupportedOperationException" ∨ y = "java/lang/IllegalArgumentException" ∨ y = "java/lang/IllegalStateException" ∨ y = "java/lang/ArithmeticException" := by simpa [znames] using hy
    rcases hx2 with rfl | rfl | rfl | rfl | rfl | rfl <;> rcases hy2 with rfl | rfl | rfl | rfl | rfl | rfl <;> first | exact absurd rfl hn | (refine va_Nc.of (args := #[Value.ref b]) ?_; assumption)
  have Tb11 : va_T (.object "StoneGazette$Keyword") a11 5 (fun j => .ref ((fun k : Nat => [c0, c1, c2, c3, c4, c5, c6, c7, a8, a9, a10, a11, a12, 0, 0, 0, 0, 0, 0, 0, a20, a21, a22, a23, a24, 0, 0, 0, 0, 0, a30, a31, a32, a33, a34, a35, 0, 0, 0, 0, a40, a41, a42, a43, a44, a45].getD k 0) (20 + j))) (fun q : Nat => s.heap.size ≤ q) s s.heap := by
    obtain ⟨cell, h1, h2, h3, h4, h5, h6, h7⟩ := Ta11
    refine ⟨cell, h1, h2, h3, h4, h5, fun j hj => ?_, h7⟩
    match j, hj with
    | 0, hj => exact h6 0 hj
    | 1, hj => exact h6 1 hj
    | 2, hj => exact h6 2 hj
    | 3, hj => exact h6 3 hj
    | 4, hj => exact h6 4 hj
    | k + 5, hj => exact absurd hj (by omega)
  have hK : va_K ((fun k : Nat => [d0, d1, d2, d3, d4, d5, d6, d7, d8, d9, d10, d11, d12, d13, d14, d15, d16].getD k 0), (fun k : Nat => [i0, i1, i2, i3, i4, i5, i6, i7, i8, i9, i10, i11, i12, i13, i14, i15, i16].getD k (fun _ => 0))) vwCl (ztys (fun k : Nat => [c0, c1, c2, c3, c4, c5, c6, c7, a8, a9, a10, a11, a12, 0, 0, 0, 0, 0, 0, 0, a20, a21, a22, a23, a24, 0, 0, 0, 0, 0, a30, a31, a32, a33, a34, a35, 0, 0, 0, 0, a40, a41, a42, a43, a44, a45].getD k 0)) s := by
    refine ⟨fun k q hq => ?_, fun k q hq => ?_⟩
    · match k, hq with
      | 0, hq => cases hq; exact u0
      | 1, hq => cases hq; exact u1
      | 2, hq => cases hq; exact u2
      | 3, hq => cases hq; exact u3
      | 4, hq => cases hq; exact u4
      | 5, hq => cases hq; exact u5
      | 6, hq => cases hq; exact u6
      | 7, hq => cases hq; exact u7
      | 8, hq => cases hq; exact u8
      | 9, hq => cases hq; exact u9
      | 10, hq => cases hq; exact u10
      | 11, hq => cases hq; exact u11
      | 12, hq => cases hq; exact u12
      | 13, hq => cases hq; exact u13
      | 14, hq => cases hq; exact u14
      | 15, hq => cases hq; exact u15
      | 16, hq => cases hq; exact u16
      | k + 17, hq => simp [vwCl] at hq
    · match k, hq with
      | 0, hq => cases hq; exact K0
      | 1, hq => cases hq; exact K1
      | 2, hq => cases hq; exact K2
      | 3, hq => cases hq; exact K3
      | 4, hq => cases hq; exact K4
      | 5, hq => cases hq; exact K5
      | 6, hq => cases hq; exact K6
      | 7, hq => cases hq; exact K7
      | k + 8, hq => simp [ztys] at hq
  refine ⟨_, (fun k : Nat => [c0, c1, c2, c3, c4, c5, c6, c7, a8, a9, a10, a11, a12, 0, 0, 0, 0, 0, 0, 0, a20, a21, a22, a23, a24, 0, 0, 0, 0, 0, a30, a31, a32, a33, a34, a35, 0, 0, 0, 0, a40, a41, a42, a43, a44, a45].getD k 0), hK, ⟨⟨vx_Zqof t446 t16 n9 hA, vx_Zqof t448 t16 n10 hA, va_Zqof t1009 t23 n11 hA⟩, fun w h => va_Nw.of (znk_tab (List.mem_filter.mp h).2) (hts w (List.mem_filter.mp h).1), ⟨va_AO.of t628, va_AO.of t611⟩, (List.forall_mem_cons.mpr ⟨⟨h75, vk_R.of t465 eh75⟩, List.forall_mem_cons.mpr ⟨⟨h86, vk_R.of t504 eh86⟩, List.forall_mem_cons.mpr ⟨⟨h96, vk_R.of t519 eh96⟩, List.forall_mem_cons.mpr ⟨⟨h104, vk_R.of t520 eh104⟩, List.forall_mem_cons.mpr ⟨⟨h112, vk_R.of t538 eh112⟩, List.forall_mem_cons.mpr ⟨⟨h137, vk_R.of t719 eh137⟩, List.forall_mem_cons.mpr ⟨⟨h147, vk_R.of t786 eh147⟩, List.forall_mem_cons.mpr ⟨⟨h163, vk_R.of t825 eh163⟩, List.forall_mem_cons.mpr ⟨⟨h179, vk_R.of t845 eh179⟩, List.forall_mem_cons.mpr ⟨⟨h203, vk_R.of t897 eh203⟩, List.forall_mem_cons.mpr ⟨⟨h252, vk_R.of t1249 eh252⟩, List.forall_mem_cons.mpr ⟨⟨h261, vk_R.of t1317 eh261⟩, List.forall_mem_cons.mpr ⟨⟨h307, vk_R.of t1394 eh307⟩, List.forall_mem_cons.mpr ⟨⟨h335, vk_R.of t1472 eh335⟩, List.forall_mem_cons.mpr ⟨⟨h340, vk_R.of t1499 eh340⟩, List.forall_mem_cons.mpr ⟨⟨h353, vk_R.of t1517 eh353⟩, List.forall_mem_cons.mpr ⟨⟨h362, vk_R.of t1597 eh362⟩, List.forall_mem_cons.mpr ⟨⟨h373, vk_R.of t1611 eh373⟩, List.forall_mem_cons.mpr ⟨⟨h375, vk_R.of t1619 eh375⟩, List.forall_mem_cons.mpr ⟨⟨h377, vk_R.of t1627 eh377⟩, List.forall_mem_cons.mpr ⟨⟨h379, vk_R.of t1635 eh379⟩, List.forall_mem_cons.mpr ⟨⟨h384, vk_R.of t1643 eh384⟩, List.forall_mem_cons.mpr ⟨⟨h396, vk_R.of t778 eh396⟩, List.forall_mem_cons.mpr ⟨⟨h401, vk_R.of t1230 eh401⟩, List.forall_mem_cons.mpr ⟨⟨h403, vk_R.of t916 eh403⟩, List.forall_mem_cons.mpr ⟨⟨h405, vk_R.of t928 eh405⟩, List.forall_mem_cons.mpr ⟨⟨h407, vk_R.of t1329 eh407⟩, List.forall_mem_cons.mpr ⟨⟨h409, vk_R.of t1349 eh409⟩, fun _ h => absurd h List.not_mem_nil⟩⟩⟩⟩⟩⟩⟩⟩⟩⟩⟩⟩⟩⟩⟩⟩⟩⟩⟩⟩⟩⟩⟩⟩⟩⟩⟩⟩), (List.forall_mem_cons.mpr ⟨va_Zof t158 t13 (ea8) hA, List.forall_mem_cons.mpr ⟨va_Zof t81 t6 (va_eqv n4 rfl) hA, List.forall_mem_cons.mpr ⟨va_Zof t1079 t35 (ea9) hA, List.forall_mem_cons.mpr ⟨va_Zof t1081 t35 (ea10) hA, List.forall_mem_cons.mpr ⟨va_Zof t1544 t1 (ea11) hA, List.forall_mem_cons.mpr ⟨va_Zof t1604 t43 (ea12) hA, List.forall_mem_cons.mpr ⟨va_Zof t1542 t41 (ea20) hA, List.forall_mem_cons.mpr ⟨va_Zof t2198 t41 (ea21) hA, List.forall_mem_cons.mpr ⟨va_Zof t2199 t41 (ea22) hA, List.forall_mem_cons.mpr ⟨va_Zof t2200 t41 (ea23) hA, List.forall_mem_cons.mpr ⟨va_Zof t2201 t41 (ea24) hA, fun _ h => absurd h List.not_mem_nil⟩⟩⟩⟩⟩⟩⟩⟩⟩⟩⟩), (List.forall_mem_cons.mpr ⟨vk_OFof ea20 (va_eqv n222 rfl) hA, List.forall_mem_cons.mpr ⟨vk_OFof ea20 (va_eqv n224 rfl) hA, List.forall_mem_cons.mpr ⟨vk_OFof ea20 (va_eqv n223 ea30) hA, List.forall_mem_cons.mpr ⟨vk_OFof ea21 (va_eqv n244 rfl) hA, List.forall_mem_cons.mpr ⟨vk_OFof ea21 (va_eqv n246 rfl) hA, List.forall_mem_cons.mpr ⟨vk_OFof ea21 (va_eqv n245 ea31) hA, List.forall_mem_cons.mpr ⟨vk_OFof ea22 (va_eqv n249 rfl) hA, List.forall_mem_cons.mpr ⟨vk_OFof ea22 (va_eqv n251 rfl) hA, List.forall_mem_cons.mpr ⟨vk_OFof ea22 (va_eqv n250 ea32) hA, List.forall_mem_cons.mpr ⟨vk_OFof ea23 (va_eqv n255 rfl) hA, List.forall_mem_cons.mpr ⟨vk_OFof ea23 (va_eqv n257 rfl) hA, List.forall_mem_cons.mpr ⟨vk_OFof ea23 (va_eqv n256 ea33) hA, List.forall_mem_cons.mpr ⟨vk_OFof ea24 (va_eqv n262 rfl) hA, List.forall_mem_cons.mpr ⟨vk_OFof ea24 (va_eqv n264 rfl) hA, List.forall_mem_cons.mpr ⟨vk_OFof ea24 (va_eqv n263 ea34) hA, List.forall_mem_cons.mpr ⟨vk_OFof ea30 (va_eqv n1433 rfl) hA, List.forall_mem_cons.mpr ⟨vk_OFof ea30 ea40 hA, List.forall_mem_cons.mpr ⟨vk_OFof ea31 (va_eqv n1444 rfl) hA, List.forall_mem_cons.mpr ⟨vk_OFof ea31 ea41 hA, List.forall_mem_cons.mpr ⟨vk_OFof ea32 (va_eqv n1454 rfl) hA, List.forall_mem_cons.mpr ⟨vk_OFof ea32 ea42 hA, List.forall_mem_cons.mpr ⟨vk_OFof ea33 (va_eqv n1464 rfl) hA, List.forall_mem_cons.mpr ⟨vk_OFof ea33 ea43 hA, List.forall_mem_cons.mpr ⟨vk_OFof ea34 (va_eqv n1474 rfl) hA, List.forall_mem_cons.mpr ⟨vk_OFof ea34 ea44 hA, List.forall_mem_cons.mpr ⟨vk_OFof ea35 (va_eqv n1400 rfl) hA, List.forall_mem_cons.mpr ⟨vk_OFof ea35 ea45 hA, fun _ h => absurd h List.not_mem_nil⟩⟩⟩⟩⟩⟩⟩⟩⟩⟩⟩⟩⟩⟩⟩⟩⟩⟩⟩⟩⟩⟩⟩⟩⟩⟩⟩), (List.forall_mem_cons.mpr ⟨Ta8, List.forall_mem_cons.mpr ⟨Ta9, List.forall_mem_cons.mpr ⟨Ta10, List.forall_mem_cons.mpr ⟨Tb11, List.forall_mem_cons.mpr ⟨Ta12, List.forall_mem_cons.mpr ⟨Ta40, List.forall_mem_cons.mpr ⟨Ta41, List.forall_mem_cons.mpr ⟨Ta42, List.forall_mem_cons.mpr ⟨Ta43, List.forall_mem_cons.mpr ⟨Ta44, List.forall_mem_cons.mpr ⟨Ta45, fun _ h => absurd h List.not_mem_nil⟩⟩⟩⟩⟩⟩⟩⟩⟩⟩⟩), (List.forall_mem_cons.mpr ⟨va_Oof n221 ea20 hA, List.forall_mem_cons.mpr ⟨va_Oof n243 ea21 hA, List.forall_mem_cons.mpr ⟨va_Oof n248 ea22 hA, List.forall_mem_cons.mpr ⟨va_Oof n254 ea23 hA, List.forall_mem_cons.mpr ⟨va_Oof n261 ea24 hA, List.forall_mem_cons.mpr ⟨va_Oof n1432 ea30 hA, List.forall_mem_cons.mpr ⟨va_Oof n1443 ea31 hA, List.forall_mem_cons.mpr ⟨va_Oof n1453 ea32 hA, List.forall_mem_cons.mpr ⟨va_Oof n1463 ea33 hA, List.forall_mem_cons.mpr ⟨va_Oof n1473 ea34 hA, List.forall_mem_cons.mpr ⟨va_Oof n1399 ea35 hA, fun _ h => absurd h List.not_mem_nil⟩⟩⟩⟩⟩⟩⟩⟩⟩⟩⟩), (List.forall_mem_cons.mpr ⟨vk_R.of t2110 em0, List.forall_mem_cons.mpr ⟨vk_R.of t2098 em1, List.forall_mem_cons.mpr ⟨vk_R.of t2091 em2, List.forall_mem_cons.mpr ⟨vk_R.of t2109 em3, List.forall_mem_cons.mpr ⟨vk_R.of t2108 em4, List.forall_mem_cons.mpr ⟨vk_R.of t2107 em5, fun _ h => absurd h List.not_mem_nil⟩⟩⟩⟩⟩⟩), fun i j hi hj h => by
      have hi2 : i = 0 ∨ i = 1 ∨ i = 2 ∨ i = 3 ∨ i = 4 := by omega
      have hj2 : j = 0 ∨ j = 1 ∨ j = 2 ∨ j = 3 ∨ j = 4 := by omega
      rcases hi2 with rfl | rfl | rfl | rfl | rfl <;> rcases hj2 with rfl | rfl | rfl | rfl | rfl <;> first | rfl | exact absurd h (by assumption) | exact absurd h (Ne.symm (by assumption))⟩, hNc⟩
