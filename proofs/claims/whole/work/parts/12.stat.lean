/-! The world as a partial function F of addresses. -/
def ZALL : List Cond := lw_tbl.filter goodWord
theorem zall_tbl {w : Cond} (h : w ∈ ZALL) : w ∈ lw_tbl := (List.mem_filter.mp h).1
theorem zall_good {w : Cond} (h : w ∈ ZALL) : goodWord w = true := (List.mem_filter.mp h).2
theorem zin {i : Nat} {w : Cond} (h : tables_1[i]? = some w) (hg : goodWord w = true) : w ∈ ZALL :=
  List.mem_filter.mpr ⟨List.mem_append_right _ (List.mem_of_getElem? h), hg⟩
theorem zinS {q : MethodName × Nat} (h : q ∈ lw_privs) (hg : goodWord (Cond.selects q.1.cls q.1 q.1) = true) : Cond.selects q.1.cls q.1 q.1 ∈ ZALL :=
  List.mem_filter.mpr ⟨List.mem_append_left _ (List.mem_map.mpr ⟨q, h, rfl⟩), hg⟩
/-- a method's words: its own code, and all -/
def zws (y : MethodName) (b : ByteArray) (n : Nat) (r : Option FieldType) : List Cond := .code y b n r :: ZALL
theorem zgood {y : MethodName} {b : ByteArray} {n : Nat} {r : Option FieldType} (h : Cond.code y b n r ∈ ZALL) : GoodIn ZALL (zws y b n r) := by
  intro w hw
  have h1 : w ∈ ZALL := by
    rcases List.mem_cons.mp hw with rfl | h2
    · exact h
    · exact h2
  exact ⟨h1, good_of_word (zall_good h1)⟩
/-! What of the statics, constants and tables never changes and lies outside A; addresses by cs: 8 ArrayList's empty row, 9 DigitOnes, 10 DigitTens, 11 KEYWORDS, 12 the switch map, 20 + i the keywords, 30 + j the texts, 40 + j their bytes. -/
def znk : Cond → Bool
  | .fieldLinkNest .. => true
  | .methodLinkNest .. => true
  | .castable .. => true
  | .declares _ => true
  | .privateMethod _ => true
  | _ => false
def ZNW : List Cond := lw_tbl.filter znk
theorem znin {i : Nat} {w : Cond} (h : tables_1[i]? = some w) (hg : znk w = true) : w ∈ ZNW :=
  List.mem_filter.mpr ⟨List.mem_append_right _ (List.mem_of_getElem? h), hg⟩
theorem znk_tab {w : Cond} (hw : znk w = true) : w.onTables = true := by
  cases w <;> first | rfl | (exfalso; revert hw; simp [znk])
theorem va_Nw.warmP {x : MethodName} {s U : State} (hW : s.WarmedH U.vm) (hZ : va_Nw (.privateMethod x) s) : va_Nw (.privateMethod x) U := va_tabs rfl (rfl : (s.setVm U.vm).vm = U.vm) (by rw [Cond.privateMethod_setVm hW.alike]; exact hZ)
theorem znw_warm {w : Cond} (hw : znk w = true) {s U : State} (hW : s.WarmedH U.vm) (h : va_Nw w s) : va_Nw w U := by
  cases w <;> first | exact va_Nw.warmF hW h | exact va_Nw.warmM hW h | exact va_Nw.warmC hW h | exact va_Nw.warmD hW h | exact va_Nw.warmP hW h | (exfalso; revert hw; simp [znk])
def zthr : List (String × Nat × String) := [("StoneGazette", 75, "neither a letter from a to z nor a blank"), ("StoneGazette", 86, "the text is full"), ("StoneGazette", 96, "priority is not from 1 to 9"), ("StoneGazette", 104, "there are 6 articles"), ("StoneGazette", 112, "the text is not an article text"), ("StoneGazette", 137, "there is no such article"), ("StoneGazette", 147, "the text is not a word"), ("StoneGazette", 163, "there is no such position"), ("StoneGazette", 179, "there is no such rank"), ("StoneGazette", 203, "width is not from 4 to 20"), ("StoneGazette", 252, "columns is not from 1 to 4 or height is not from 1 to 20"), ("StoneGazette", 261, "there are no articles"), ("StoneGazette", 307, "days is not from 1 to 30"), ("StoneGazette", 335, "no issue is kept"), ("StoneGazette", 340, "there is no such character"), ("StoneGazette", 353, "the command buffer is full"), ("StoneGazette", 362, "the commands are malformed"), ("StoneGazette", 373, "a command throws an exception"), ("StoneGazette", 375, "no error position was kept"), ("StoneGazette", 377, "no failed command was kept"), ("StoneGazette", 379, "there is no change to undo"), ("StoneGazette", 384, "nothing was saved"), ("StoneGazette", 396, "there is no such word"), ("StoneGazette", 401, "a word is longer than the column width"), ("StoneGazette", 403, "the article cannot be set"), ("StoneGazette", 405, "there is no such line"), ("StoneGazette", 407, "there is no such issue"), ("StoneGazette", 409, "the issue does not contain this article")]
def zstat (cs : Nat → Nat) : List (String × String × String × Value) := [("java/util/ArrayList", "DEFAULTCAPACITY_EMPTY_ELEMENTDATA", "[Ljava/lang/Object;", .ref (cs 8)), ("java/lang/String", "COMPACT_STRINGS", "Z", .int 1), ("java/lang/Integer", "DigitOnes", "[B", .ref (cs 9)), ("java/lang/Integer", "DigitTens", "[B", .ref (cs 10)), ("StoneGazette", "KEYWORDS", "[LStoneGazette$Keyword;", .ref (cs 11)), ("StoneGazette$1", "$SwitchMap$StoneGazette$Keyword", "[I", .ref (cs 12)), ("StoneGazette$Keyword", "WIDTH", "LStoneGazette$Keyword;", .ref (cs 20)), ("StoneGazette$Keyword", "PAGE", "LStoneGazette$Keyword;", .ref (cs 21)), ("StoneGazette$Keyword", "PRINT", "LStoneGazette$Keyword;", .ref (cs 22)), ("StoneGazette$Keyword", "DAYS", "LStoneGazette$Keyword;", .ref (cs 23)), ("StoneGazette$Keyword", "DROP", "LStoneGazette$Keyword;", .ref (cs 24))]
def zfld (cs : Nat → Nat) : List (String × String × String × Value × Nat) := [("java/lang/Enum", "ordinal", "I", .int 0, cs 20), ("StoneGazette$Keyword", "numbers", "I", .int 1, cs 20), ("StoneGazette$Keyword", "letters", "Ljava/lang/String;", .ref (cs 30), cs 20), ("java/lang/Enum", "ordinal", "I", .int 1, cs 21), ("StoneGazette$Keyword", "numbers", "I", .int 2, cs 21), ("StoneGazette$Keyword", "letters", "Ljava/lang/String;", .ref (cs 31), cs 21), ("java/lang/Enum", "ordinal", "I", .int 2, cs 22), ("StoneGazette$Keyword", "numbers", "I", .int 0, cs 22), ("StoneGazette$Keyword", "letters", "Ljava/lang/String;", .ref (cs 32), cs 22), ("java/lang/Enum", "ordinal", "I", .int 3, cs 23), ("StoneGazette$Keyword", "numbers", "I", .int 1, cs 23), ("StoneGazette$Keyword", "letters", "Ljava/lang/String;", .ref (cs 33), cs 23), ("java/lang/Enum", "ordinal", "I", .int 4, cs 24), ("StoneGazette$Keyword", "numbers", "I", .int 1, cs 24), ("StoneGazette$Keyword", "letters", "Ljava/lang/String;", .ref (cs 34), cs 24), ("java/lang/String", "coder", "B", .int 0, cs 30), ("java/lang/String", "value", "[B", .ref (cs 40), cs 30), ("java/lang/String", "coder", "B", .int 0, cs 31), ("java/lang/String", "value", "[B", .ref (cs 41), cs 31), ("java/lang/String", "coder", "B", .int 0, cs 32), ("java/lang/String", "value", "[B", .ref (cs 42), cs 32), ("java/lang/String", "coder", "B", .int 0, cs 33), ("java/lang/String", "value", "[B", .ref (cs 43), cs 33), ("java/lang/String", "coder", "B", .int 0, cs 34), ("java/lang/String", "value", "[B", .ref (cs 44), cs 34), ("java/lang/String", "coder", "B", .int 0, cs 35), ("java/lang/String", "value", "[B", .ref (cs 45), cs 35)]
def zarr (cs : Nat → Nat) : List (FieldType × Nat × Nat × (Nat → Value)) := [(.object "java/lang/Object", cs 8, 0, fun _ => .null), (.byte, cs 9, 100, fun j => .int (Int32.ofNat (48 + j % 10))), (.byte, cs 10, 100, fun j => .int (Int32.ofNat (48 + j / 10))), (.object "StoneGazette$Keyword", cs 11, 5, fun j => .ref (cs (20 + j))), (.int, cs 12, 5, fun j => .int (Int32.ofNat (j + 1))), (.byte, cs 40, 6, fun k => .int (([119, 105, 100, 116, 104, 32] : List Int32).getD k 0)), (.byte, cs 41, 5, fun k => .int (([112, 97, 103, 101, 32] : List Int32).getD k 0)), (.byte, cs 42, 5, fun k => .int (([112, 114, 105, 110, 116] : List Int32).getD k 0)), (.byte, cs 43, 5, fun k => .int (([100, 97, 121, 115, 32] : List Int32).getD k 0)), (.byte, cs 44, 5, fun k => .int (([100, 114, 111, 112, 32] : List Int32).getD k 0)), (.byte, cs 45, 1, fun k => .int (([42] : List Int32).getD k 0))]
def zobj (cs : Nat → Nat) : List (String × Nat) := [("StoneGazette$Keyword", cs 20), ("StoneGazette$Keyword", cs 21), ("StoneGazette$Keyword", cs 22), ("StoneGazette$Keyword", cs 23), ("StoneGazette$Keyword", cs 24), ("java/lang/String", cs 30), ("java/lang/String", cs 31), ("java/lang/String", cs 32), ("java/lang/String", cs 33), ("java/lang/String", cs 34), ("java/lang/String", cs 35)]
def zldc (cs : Nat → Nat) : List (String × Nat × String × Nat) := [("StoneGazetteModel", 278, "width ", cs 30), ("StoneGazetteModel", 266, "page ", cs 31), ("StoneGazetteModel", 264, "print", cs 32), ("StoneGazetteModel", 276, "days ", cs 33), ("StoneGazetteModel", 274, "drop ", cs 34), ("StoneGazetteModel", 272, "*", cs 35)]
def zG (cs : Nat → Nat) (A : Nat → Prop) (U : State) (H : Heap) : Prop :=
  (vx_Zq Bundle.tN "UNASSIGNED_STACK" Bundle.steD A U H ∧ vx_Zq Bundle.tN "SUPPRESSED_SENTINEL" Bundle.listD A U H ∧ va_Zq "jdk/internal/util/Preconditions" "SIOOBE_FORMATTER" "Ljava/util/function/BiFunction;" A U H) ∧ (∀ w ∈ ZNW, va_Nw w U) ∧ (va_AO "StoneGazette$Word" U ∧ va_AO "java/lang/Object" U) ∧ (∀ q ∈ zthr, ∃ sa, vk_R q.1 q.2.1 q.2.2 sa U) ∧
  (∀ q ∈ zstat cs, va_Z q.1 q.2.1 q.2.2.1 q.2.2.2 A U H) ∧ (∀ q ∈ zfld cs, va_OF q.1 q.2.1 q.2.2.1 q.2.2.2.1 q.2.2.2.2 A U H) ∧ (∀ q ∈ zarr cs, va_T q.1 q.2.1 q.2.2.1 q.2.2.2 A U H) ∧ (∀ q ∈ zobj cs, va_O q.1 q.2 A U H) ∧ (∀ q ∈ zldc cs, vk_R q.1 q.2.1 q.2.2.1 q.2.2.2 U) ∧ (∀ i j : Nat, i < 5 → j < 5 → cs (20 + i) = cs (20 + j) → i = j)
theorem zG.warm {cs : Nat → Nat} {A : Nat → Prop} {u U : State} {H : Heap} (hW : u.WarmedH U.vm) (h : zG cs A u H) : zG cs A U H := by
  obtain ⟨⟨a1, a2, a0⟩, a3, ⟨a4, a5⟩, a6, a7, a8, a9, b1, b2, b3⟩ := h
  have hvm := hW.alike
  exact ⟨⟨a1.moved hvm, a2.moved hvm, a0.moved hvm⟩, fun w hw => znw_warm (List.mem_filter.mp hw).2 hW (a3 w hw), ⟨a4.moved hvm, a5.moved hvm⟩, fun q hq => (a6 q hq).elim fun sa h => ⟨sa, h.warm hW⟩, fun q hq => (a7 q hq).moved hvm, fun q hq => (a8 q hq).moved hvm, fun q hq => (a9 q hq).moved hvm, fun q hq => (b1 q hq).moved hvm, fun q hq => (b2 q hq).warm hW, b3⟩
theorem zG.same {cs : Nat → Nat} {A : Nat → Prop} {u U : State} {H : Heap} (hv : U.vm = u.vm) (h : zG cs A u H) : zG cs A U H := by
  obtain ⟨⟨a1, a2, a0⟩, a3, ⟨a4, a5⟩, a6, a7, a8, a9, b1, b2, b3⟩ := h
  have hvm : u.vm.Alike U.vm := by rw [hv]; exact Vm.Alike.refl u.vm
  exact ⟨⟨a1.moved hvm, a2.moved hvm, a0.moved hvm⟩, fun w hw => va_Nw.same (znk_tab (List.mem_filter.mp hw).2) hv.symm (a3 w hw), ⟨a4.moved hvm, a5.moved hvm⟩, fun q hq => (a6 q hq).elim fun sa h => ⟨sa, h.same hv⟩, fun q hq => (a7 q hq).moved hvm, fun q hq => (a8 q hq).moved hvm, fun q hq => (a9 q hq).moved hvm, fun q hq => (b1 q hq).moved hvm, fun q hq => (b2 q hq).same hv, b3⟩
theorem zG.kept {cs : Nat → Nat} {A : Nat → Prop} {U : State} {H H1 : Heap} (h : zG cs A U H) (hq : ∀ a : Nat, a < H.size → ¬ A a → H1[a]? = H[a]?) : zG cs A U H1 := by
  obtain ⟨⟨a1, a2, a0⟩, a3, a4, a6, a7, a8, a9, b1, b2, b3⟩ := h
  exact ⟨⟨a1.kept hq, a2.kept hq, a0.kept hq⟩, a3, a4, a6, fun q h => (a7 q h).kept hq, fun q h => (a8 q h).kept hq, fun q h => (a9 q h).kept hq, fun q h => (b1 q h).kept hq, b2, b3⟩
