def RX0 : String := "StoneGazette$1"
def TX0 : u_T := fun k => match k with
  | _ => ("", "", "", false)
def tyX0 : Nat → FieldType := fun k => match k with
  | _ => .int
abbrev wsX00 : List Cond := u_ws RX0 TX0 0
theorem nmX0 : ∀ a, a < 0 → ∀ b, b < 0 → a ≠ b → (TX0 a).2.1 ≠ (TX0 b).2.1 := by decide +kernel
theorem tyX0_ok : ∀ k, k < 0 → parseFieldDescriptor (TX0 k).2.2.1 = some (tyX0 k) := by decide +kernel
def RX1 : String := "StoneGazette$Article"
def TX1 : u_T := fun k => match k with
  | 0 => ("StoneGazette$Article", "id", "I", true)
  | 1 => ("StoneGazette$Article", "priority", "I", true)
  | _ => ("StoneGazette$Article", "words", "[LStoneGazette$Word;", true)
def tyX1 : Nat → FieldType := fun k => match k with
  | 0 => .int
  | 1 => .int
  | _ => .array (.object "StoneGazette$Word")
abbrev wsX10 : List Cond := u_ws RX1 TX1 3
theorem nmX1 : ∀ a, a < 3 → ∀ b, b < 3 → a ≠ b → (TX1 a).2.1 ≠ (TX1 b).2.1 := by decide +kernel
theorem tyX1_ok : ∀ k, k < 3 → parseFieldDescriptor (TX1 k).2.2.1 = some (tyX1 k) := by decide +kernel
abbrev cX1_init : ByteArray := prog_3_method_1_code
def yX1_init : MethodName := ⟨RX1, "<init>", "(II[LStoneGazette$Word;)V"⟩
abbrev cX1_corrected : ByteArray := prog_3_method_2_code
def yX1_corrected : MethodName := ⟨RX1, "corrected", "(ILStoneGazette$Word;)LStoneGazette$Article;"⟩
abbrev cX1_comesBefore : ByteArray := prog_3_method_3_code
def yX1_comesBefore : MethodName := ⟨RX1, "comesBefore", "(LStoneGazette$Article;)Z"⟩
abbrev cX1_countLetters : ByteArray := prog_3_method_4_code
def yX1_countLetters : MethodName := ⟨RX1, "countLetters", "()I"⟩
abbrev cX1_longestWord : ByteArray := prog_3_method_5_code
def yX1_longestWord : MethodName := ⟨RX1, "longestWord", "()I"⟩
abbrev cX1_writeTo : ByteArray := prog_3_method_6_code
def yX1_writeTo : MethodName := ⟨RX1, "writeTo", "(Ljava/lang/StringBuilder;)V"⟩
def RX2 : String := "StoneGazette$Buffer"
def TX2 : u_T := fun k => match k with
  | 0 => ("StoneGazette$Buffer", "signs", "[C", true)
  | _ => ("StoneGazette$Buffer", "length", "I", false)
def tyX2 : Nat → FieldType := fun k => match k with
  | 0 => .array .char
  | _ => .int
abbrev wsX20 : List Cond := u_ws RX2 TX2 2
theorem nmX2 : ∀ a, a < 2 → ∀ b, b < 2 → a ≠ b → (TX2 a).2.1 ≠ (TX2 b).2.1 := by decide +kernel
theorem tyX2_ok : ∀ k, k < 2 → parseFieldDescriptor (TX2 k).2.2.1 = some (tyX2 k) := by decide +kernel
abbrev cX2_init : ByteArray := prog_4_method_1_code
def yX2_init : MethodName := ⟨RX2, "<init>", "(I)V"⟩
abbrev cX2_append : ByteArray := prog_4_method_2_code
def yX2_append : MethodName := ⟨RX2, "append", "(C)Z"⟩
abbrev cX2_empty : ByteArray := prog_4_method_3_code
def yX2_empty : MethodName := ⟨RX2, "empty", "()I"⟩
abbrev cX2_signAt : ByteArray := prog_4_method_4_code
def yX2_signAt : MethodName := ⟨RX2, "signAt", "(I)C"⟩
abbrev cX2_holdsOneWord : ByteArray := prog_4_method_5_code
def yX2_holdsOneWord : MethodName := ⟨RX2, "holdsOneWord", "()Z"⟩
abbrev cX2_holdsWords : ByteArray := prog_4_method_6_code
def yX2_holdsWords : MethodName := ⟨RX2, "holdsWords", "()Z"⟩
abbrev cX2_countBlanks : ByteArray := prog_4_method_7_code
def yX2_countBlanks : MethodName := ⟨RX2, "countBlanks", "()I"⟩
abbrev cX2_endOfWord : ByteArray := prog_4_method_8_code
def yX2_endOfWord : MethodName := ⟨RX2, "endOfWord", "(I)I"⟩
abbrev cX2_cutIntoWords : ByteArray := prog_4_method_9_code
def yX2_cutIntoWords : MethodName := ⟨RX2, "cutIntoWords", "()[LStoneGazette$Word;"⟩
abbrev cX2_wordBetween : ByteArray := prog_4_method_10_code
def yX2_wordBetween : MethodName := ⟨RX2, "wordBetween", "(II)LStoneGazette$Word;"⟩
def RX3 : String := "StoneGazette$Command"
def TX3 : u_T := fun k => match k with
  | 0 => ("StoneGazette$Command", "keyword", "LStoneGazette$Keyword;", true)
  | 1 => ("StoneGazette$Command", "first", "I", true)
  | _ => ("StoneGazette$Command", "second", "I", true)
def tyX3 : Nat → FieldType := fun k => match k with
  | 0 => .object "StoneGazette$Keyword"
  | 1 => .int
  | _ => .int
abbrev wsX30 : List Cond := u_ws RX3 TX3 3
theorem nmX3 : ∀ a, a < 3 → ∀ b, b < 3 → a ≠ b → (TX3 a).2.1 ≠ (TX3 b).2.1 := by decide +kernel
theorem tyX3_ok : ∀ k, k < 3 → parseFieldDescriptor (TX3 k).2.2.1 = some (tyX3 k) := by decide +kernel
abbrev cX3_init : ByteArray := prog_5_method_1_code
def yX3_init : MethodName := ⟨RX3, "<init>", "(LStoneGazette$Keyword;II)V"⟩
def RX4 : String := "StoneGazette$CommandReader"
def TX4 : u_T := fun k => match k with
  | 0 => ("StoneGazette$CommandReader", "commands", "Ljava/util/ArrayList;", true)
  | _ => ("StoneGazette$CommandReader", "position", "I", false)
def tyX4 : Nat → FieldType := fun k => match k with
  | 0 => .object "java/util/ArrayList"
  | _ => .int
abbrev wsX40 : List Cond := u_ws RX4 TX4 2
theorem nmX4 : ∀ a, a < 2 → ∀ b, b < 2 → a ≠ b → (TX4 a).2.1 ≠ (TX4 b).2.1 := by decide +kernel
theorem tyX4_ok : ∀ k, k < 2 → parseFieldDescriptor (TX4 k).2.2.1 = some (tyX4 k) := by decide +kernel
abbrev cX4_init : ByteArray := prog_6_method_1_code
def yX4_init : MethodName := ⟨RX4, "<init>", "()V"⟩
abbrev cX4_readAll : ByteArray := prog_6_method_2_code
def yX4_readAll : MethodName := ⟨RX4, "readAll", "(LStoneGazette$Buffer;)Z"⟩
abbrev cX4_readCommand : ByteArray := prog_6_method_3_code
def yX4_readCommand : MethodName := ⟨RX4, "readCommand", "(LStoneGazette$Buffer;)Z"⟩
abbrev cX4_bestKeyword : ByteArray := prog_6_method_4_code
def yX4_bestKeyword : MethodName := ⟨RX4, "bestKeyword", "(LStoneGazette$Buffer;)LStoneGazette$Keyword;"⟩
abbrev cX4_readSign : ByteArray := prog_6_method_5_code
def yX4_readSign : MethodName := ⟨RX4, "readSign", "(LStoneGazette$Buffer;C)Z"⟩
abbrev cX4_readNumber : ByteArray := prog_6_method_6_code
def yX4_readNumber : MethodName := ⟨RX4, "readNumber", "(LStoneGazette$Buffer;)I"⟩
def RX5 : String := "StoneGazette$EvenBreaker"
def TX5 : u_T := fun k => match k with
  | _ => ("StoneGazette$EvenBreaker", "least", "[I", true)
def tyX5 : Nat → FieldType := fun k => match k with
  | _ => .array .int
abbrev wsX50 : List Cond := u_ws RX5 TX5 1
theorem nmX5 : ∀ a, a < 1 → ∀ b, b < 1 → a ≠ b → (TX5 a).2.1 ≠ (TX5 b).2.1 := by decide +kernel
theorem tyX5_ok : ∀ k, k < 1 → parseFieldDescriptor (TX5 k).2.2.1 = some (tyX5 k) := by decide +kernel
abbrev cX5_init : ByteArray := prog_7_method_1_code
def yX5_init : MethodName := ⟨RX5, "<init>", "()V"⟩
abbrev cX5_fromLastWord : ByteArray := prog_7_method_2_code
def yX5_fromLastWord : MethodName := ⟨RX5, "fromLastWord", "(LStoneGazette$Article;I)I"⟩
abbrev cX5_leastBehind : ByteArray := prog_7_method_3_code
def yX5_leastBehind : MethodName := ⟨RX5, "leastBehind", "(LStoneGazette$Article;II)I"⟩
abbrev cX5_fromFirstWord : ByteArray := prog_7_method_4_code
def yX5_fromFirstWord : MethodName := ⟨RX5, "fromFirstWord", "(LStoneGazette$Article;I)I"⟩
abbrev cX5_leastBefore : ByteArray := prog_7_method_5_code
def yX5_leastBefore : MethodName := ⟨RX5, "leastBefore", "(LStoneGazette$Article;II)I"⟩
abbrev cX5_square : ByteArray := prog_7_method_6_code
def yX5_square : MethodName := ⟨RX5, "square", "(I)I"⟩
def RX6 : String := "StoneGazette$Issue"
def TX6 : u_T := fun k => match k with
  | 0 => ("StoneGazette$Issue", "number", "I", true)
  | 1 => ("StoneGazette$Issue", "page", "LStoneGazette$Page;", true)
  | _ => ("StoneGazette$Issue", "freshness", "F", true)
def tyX6 : Nat → FieldType := fun k => match k with
  | 0 => .int
  | 1 => .object "StoneGazette$Page"
  | _ => .float
abbrev wsX60 : List Cond := u_ws RX6 TX6 3
theorem nmX6 : ∀ a, a < 3 → ∀ b, b < 3 → a ≠ b → (TX6 a).2.1 ≠ (TX6 b).2.1 := by decide +kernel
theorem tyX6_ok : ∀ k, k < 3 → parseFieldDescriptor (TX6 k).2.2.1 = some (tyX6 k) := by decide +kernel
abbrev cX6_init : ByteArray := prog_8_method_1_code
def yX6_init : MethodName := ⟨RX6, "<init>", "(ILStoneGazette$Page;F)V"⟩
abbrev cX6_faded : ByteArray := prog_8_method_2_code
def yX6_faded : MethodName := ⟨RX6, "faded", "(I)LStoneGazette$Issue;"⟩
abbrev cX6_canBeRead : ByteArray := prog_8_method_3_code
def yX6_canBeRead : MethodName := ⟨RX6, "canBeRead", "()Z"⟩
def RX7 : String := "StoneGazette$Keyword"
def TX7 : u_T := fun k => match k with
  | _ => ("", "", "", false)
def tyX7 : Nat → FieldType := fun k => match k with
  | _ => .int
abbrev wsX70 : List Cond := u_ws RX7 TX7 0
theorem nmX7 : ∀ a, a < 0 → ∀ b, b < 0 → a ≠ b → (TX7 a).2.1 ≠ (TX7 b).2.1 := by decide +kernel
theorem tyX7_ok : ∀ k, k < 0 → parseFieldDescriptor (TX7 k).2.2.1 = some (tyX7 k) := by decide +kernel
abbrev cX7_countShared : ByteArray := prog_9_method_4_code
def yX7_countShared : MethodName := ⟨RX7, "countShared", "(LStoneGazette$Buffer;I)I"⟩
def RX8 : String := "StoneGazette$LineSetter"
def TX8 : u_T := fun k => match k with
  | 0 => ("StoneGazette$LineSetter", "signs", "[C", true)
  | 1 => ("StoneGazette$LineSetter", "ends", "[I", true)
  | 2 => ("StoneGazette$LineSetter", "used", "I", false)
  | 3 => ("StoneGazette$LineSetter", "lines", "I", false)
  | _ => ("StoneGazette$LineSetter", "columnWidth", "I", false)
def tyX8 : Nat → FieldType := fun k => match k with
  | 0 => .array .char
  | 1 => .array .int
  | 2 => .int
  | 3 => .int
  | _ => .int
abbrev wsX80 : List Cond := u_ws RX8 TX8 5
theorem nmX8 : ∀ a, a < 5 → ∀ b, b < 5 → a ≠ b → (TX8 a).2.1 ≠ (TX8 b).2.1 := by decide +kernel
theorem tyX8_ok : ∀ k, k < 5 → parseFieldDescriptor (TX8 k).2.2.1 = some (tyX8 k) := by decide +kernel
abbrev cX8_init : ByteArray := prog_10_method_1_code
def yX8_init : MethodName := ⟨RX8, "<init>", "()V"⟩
abbrev cX8_arrange : ByteArray := prog_10_method_2_code
def yX8_arrange : MethodName := ⟨RX8, "arrange", "(LStoneGazette$Article;I)Z"⟩
abbrev cX8_place : ByteArray := prog_10_method_3_code
def yX8_place : MethodName := ⟨RX8, "place", "(LStoneGazette$Word;)Z"⟩
abbrev cX8_putPart : ByteArray := prog_10_method_4_code
def yX8_putPart : MethodName := ⟨RX8, "putPart", "(LStoneGazette$Word;II)V"⟩
abbrev cX8_putSign : ByteArray := prog_10_method_5_code
def yX8_putSign : MethodName := ⟨RX8, "putSign", "(C)V"⟩
abbrev cX8_closeLine : ByteArray := prog_10_method_6_code
def yX8_closeLine : MethodName := ⟨RX8, "closeLine", "()V"⟩
abbrev cX8_startOf : ByteArray := prog_10_method_7_code
def yX8_startOf : MethodName := ⟨RX8, "startOf", "(I)I"⟩
abbrev cX8_endOf : ByteArray := prog_10_method_8_code
def yX8_endOf : MethodName := ⟨RX8, "endOf", "(I)I"⟩
abbrev cX8_lengthOf : ByteArray := prog_10_method_9_code
def yX8_lengthOf : MethodName := ⟨RX8, "lengthOf", "(I)I"⟩
abbrev cX8_countHyphens : ByteArray := prog_10_method_10_code
def yX8_countHyphens : MethodName := ⟨RX8, "countHyphens", "()I"⟩
abbrev cX8_writeTo : ByteArray := prog_10_method_11_code
def yX8_writeTo : MethodName := ⟨RX8, "writeTo", "(Ljava/lang/StringBuilder;I)V"⟩
def RX9 : String := "StoneGazette$Page"
def TX9 : u_T := fun k => match k with
  | 0 => ("StoneGazette$Page", "columns", "I", true)
  | 1 => ("StoneGazette$Page", "height", "I", true)
  | 2 => ("StoneGazette$Page", "ids", "[I", true)
  | 3 => ("StoneGazette$Page", "firstLines", "[I", true)
  | 4 => ("StoneGazette$Page", "taken", "I", false)
  | _ => ("StoneGazette$Page", "usedLines", "I", false)
def tyX9 : Nat → FieldType := fun k => match k with
  | 0 => .int
  | 1 => .int
  | 2 => .array .int
  | 3 => .array .int
  | 4 => .int
  | _ => .int
abbrev wsX90 : List Cond := u_ws RX9 TX9 6
theorem nmX9 : ∀ a, a < 6 → ∀ b, b < 6 → a ≠ b → (TX9 a).2.1 ≠ (TX9 b).2.1 := by decide +kernel
theorem tyX9_ok : ∀ k, k < 6 → parseFieldDescriptor (TX9 k).2.2.1 = some (tyX9 k) := by decide +kernel
abbrev cX9_init : ByteArray := prog_11_method_1_code
def yX9_init : MethodName := ⟨RX9, "<init>", "(II)V"⟩
abbrev cX9_offer : ByteArray := prog_11_method_2_code
def yX9_offer : MethodName := ⟨RX9, "offer", "(II)V"⟩
abbrev cX9_firstLineOf : ByteArray := prog_11_method_3_code
def yX9_firstLineOf : MethodName := ⟨RX9, "firstLineOf", "(I)I"⟩
abbrev cX9_columnAt : ByteArray := prog_11_method_4_code
def yX9_columnAt : MethodName := ⟨RX9, "columnAt", "(I)I"⟩
abbrev cX9_rowAt : ByteArray := prog_11_method_5_code
def yX9_rowAt : MethodName := ⟨RX9, "rowAt", "(I)I"⟩
abbrev cX9_coveredPart : ByteArray := prog_11_method_6_code
def yX9_coveredPart : MethodName := ⟨RX9, "coveredPart", "()F"⟩
def RX10 : String := "StoneGazette$State"
def TX10 : u_T := fun k => match k with
  | 0 => ("StoneGazette$State", "articles", "Ljava/util/ArrayList;", true)
  | 1 => ("StoneGazette$State", "issues", "Ljava/util/ArrayList;", true)
  | 2 => ("StoneGazette$State", "nextId", "I", false)
  | 3 => ("StoneGazette$State", "nextNumber", "I", false)
  | 4 => ("StoneGazette$State", "columnWidth", "I", false)
  | 5 => ("StoneGazette$State", "pageColumns", "I", false)
  | 6 => ("StoneGazette$State", "pageHeight", "I", false)
  | 7 => ("StoneGazette$State", "today", "I", false)
  | _ => ("StoneGazette$State", "lateOnes", "I", false)
def tyX10 : Nat → FieldType := fun k => match k with
  | 0 => .object "java/util/ArrayList"
  | 1 => .object "java/util/ArrayList"
  | 2 => .int
  | 3 => .int
  | 4 => .int
  | 5 => .int
  | 6 => .int
  | 7 => .int
  | _ => .int
abbrev wsX100 : List Cond := u_ws RX10 TX10 9
theorem nmX10 : ∀ a, a < 9 → ∀ b, b < 9 → a ≠ b → (TX10 a).2.1 ≠ (TX10 b).2.1 := by decide +kernel
theorem tyX10_ok : ∀ k, k < 9 → parseFieldDescriptor (TX10 k).2.2.1 = some (tyX10 k) := by decide +kernel
abbrev cX10_init : ByteArray := prog_12_method_1_code
def yX10_init : MethodName := ⟨RX10, "<init>", "()V"⟩
abbrev cX10_copied : ByteArray := prog_12_method_2_code
def yX10_copied : MethodName := ⟨RX10, "copied", "()LStoneGazette$State;"⟩
abbrev cX10_indexOf : ByteArray := prog_12_method_3_code
def yX10_indexOf : MethodName := ⟨RX10, "indexOf", "(I)I"⟩
abbrev cX10_findArticle : ByteArray := prog_12_method_4_code
def yX10_findArticle : MethodName := ⟨RX10, "findArticle", "(I)LStoneGazette$Article;"⟩
abbrev cX10_findIssue : ByteArray := prog_12_method_5_code
def yX10_findIssue : MethodName := ⟨RX10, "findIssue", "(I)LStoneGazette$Issue;"⟩
abbrev cX10_ranked : ByteArray := prog_12_method_6_code
def yX10_ranked : MethodName := ⟨RX10, "ranked", "(I)LStoneGazette$Article;"⟩
abbrev cX10_countBefore : ByteArray := prog_12_method_7_code
def yX10_countBefore : MethodName := ⟨RX10, "countBefore", "(LStoneGazette$Article;)I"⟩
abbrev cX10_isInKeptIssue : ByteArray := prog_12_method_8_code
def yX10_isInKeptIssue : MethodName := ⟨RX10, "isInKeptIssue", "(I)Z"⟩
abbrev cX10_countReadable : ByteArray := prog_12_method_9_code
def yX10_countReadable : MethodName := ⟨RX10, "countReadable", "()I"⟩
abbrev cX10_takeArticle : ByteArray := prog_12_method_10_code
def yX10_takeArticle : MethodName := ⟨RX10, "takeArticle", "(I[LStoneGazette$Word;)I"⟩
abbrev cX10_dropArticle : ByteArray := prog_12_method_11_code
def yX10_dropArticle : MethodName := ⟨RX10, "dropArticle", "(I)Z"⟩
abbrev cX10_replaceWord : ByteArray := prog_12_method_12_code
def yX10_replaceWord : MethodName := ⟨RX10, "replaceWord", "(IILStoneGazette$Word;)V"⟩
abbrev cX10_takeWidth : ByteArray := prog_12_method_13_code
def yX10_takeWidth : MethodName := ⟨RX10, "takeWidth", "(I)Z"⟩
abbrev cX10_takePage : ByteArray := prog_12_method_14_code
def yX10_takePage : MethodName := ⟨RX10, "takePage", "(II)Z"⟩
abbrev cX10_printIssue : ByteArray := prog_12_method_15_code
def yX10_printIssue : MethodName := ⟨RX10, "printIssue", "(LStoneGazette$LineSetter;)Z"⟩
abbrev cX10_letDaysPass : ByteArray := prog_12_method_16_code
def yX10_letDaysPass : MethodName := ⟨RX10, "letDaysPass", "(I)Z"⟩
def RX11 : String := "StoneGazette$Word"
def TX11 : u_T := fun k => match k with
  | 0 => ("StoneGazette$Word", "letters", "[C", true)
  | _ => ("StoneGazette$Word", "cuts", "[Z", true)
def tyX11 : Nat → FieldType := fun k => match k with
  | 0 => .array .char
  | _ => .array .boolean
abbrev wsX110 : List Cond := u_ws RX11 TX11 2
theorem nmX11 : ∀ a, a < 2 → ∀ b, b < 2 → a ≠ b → (TX11 a).2.1 ≠ (TX11 b).2.1 := by decide +kernel
theorem tyX11_ok : ∀ k, k < 2 → parseFieldDescriptor (TX11 k).2.2.1 = some (tyX11 k) := by decide +kernel
abbrev cX11_init : ByteArray := prog_13_method_1_code
def yX11_init : MethodName := ⟨RX11, "<init>", "([C)V"⟩
abbrev cX11_isVowel : ByteArray := prog_13_method_2_code
def yX11_isVowel : MethodName := ⟨RX11, "isVowel", "(C)Z"⟩
abbrev cX11_letterCount : ByteArray := prog_13_method_3_code
def yX11_letterCount : MethodName := ⟨RX11, "letterCount", "()I"⟩
abbrev cX11_hasCutAt : ByteArray := prog_13_method_4_code
def yX11_hasCutAt : MethodName := ⟨RX11, "hasCutAt", "(I)Z"⟩
abbrev cX11_countCuts : ByteArray := prog_13_method_5_code
def yX11_countCuts : MethodName := ⟨RX11, "countCuts", "()I"⟩
abbrev cX11_lastCut : ByteArray := prog_13_method_6_code
def yX11_lastCut : MethodName := ⟨RX11, "lastCut", "(II)I"⟩
abbrev cX11_writeTo : ByteArray := prog_13_method_7_code
def yX11_writeTo : MethodName := ⟨RX11, "writeTo", "(Ljava/lang/StringBuilder;)V"⟩
def RX12 : String := "StoneGazette"
def TX12 : u_T := fun k => match k with
  | 0 => ("StoneGazette", "text", "LStoneGazette$Buffer;", true)
  | 1 => ("StoneGazette", "commandBuffer", "LStoneGazette$Buffer;", true)
  | 2 => ("StoneGazette", "output", "Ljava/lang/StringBuilder;", true)
  | 3 => ("StoneGazette", "lineSetter", "LStoneGazette$LineSetter;", true)
  | 4 => ("StoneGazette", "evenBreaker", "LStoneGazette$EvenBreaker;", true)
  | 5 => ("StoneGazette", "commandReader", "LStoneGazette$CommandReader;", true)
  | 6 => ("StoneGazette", "history", "Ljava/util/ArrayList;", true)
  | 7 => ("StoneGazette", "state", "LStoneGazette$State;", false)
  | 8 => ("StoneGazette", "saved", "LStoneGazette$State;", false)
  | 9 => ("StoneGazette", "keptErrorPosition", "I", false)
  | _ => ("StoneGazette", "keptFailedCommand", "I", false)
def tyX12 : Nat → FieldType := fun k => match k with
  | 0 => .object "StoneGazette$Buffer"
  | 1 => .object "StoneGazette$Buffer"
  | 2 => .object "java/lang/StringBuilder"
  | 3 => .object "StoneGazette$LineSetter"
  | 4 => .object "StoneGazette$EvenBreaker"
  | 5 => .object "StoneGazette$CommandReader"
  | 6 => .object "java/util/ArrayList"
  | 7 => .object "StoneGazette$State"
  | 8 => .object "StoneGazette$State"
  | 9 => .int
  | _ => .int
abbrev wsX120 : List Cond := u_ws RX12 TX12 11
theorem nmX12 : ∀ a, a < 11 → ∀ b, b < 11 → a ≠ b → (TX12 a).2.1 ≠ (TX12 b).2.1 := by decide +kernel
theorem tyX12_ok : ∀ k, k < 11 → parseFieldDescriptor (TX12 k).2.2.1 = some (tyX12 k) := by decide +kernel
abbrev cX12_init : ByteArray := prog_1_method_1_code
def yX12_init : MethodName := ⟨RX12, "<init>", "()V"⟩
abbrev cX12_type : ByteArray := prog_1_method_2_code
def yX12_type : MethodName := ⟨RX12, "type", "(C)I"⟩
abbrev cX12_clearText : ByteArray := prog_1_method_3_code
def yX12_clearText : MethodName := ⟨RX12, "clearText", "()I"⟩
abbrev cX12_addArticle : ByteArray := prog_1_method_4_code
def yX12_addArticle : MethodName := ⟨RX12, "addArticle", "(I)I"⟩
abbrev cX12_removeArticle : ByteArray := prog_1_method_5_code
def yX12_removeArticle : MethodName := ⟨RX12, "removeArticle", "(I)I"⟩
abbrev cX12_correct : ByteArray := prog_1_method_6_code
def yX12_correct : MethodName := ⟨RX12, "correct", "(II)I"⟩
abbrev cX12_articleCount : ByteArray := prog_1_method_7_code
def yX12_articleCount : MethodName := ⟨RX12, "articleCount", "()I"⟩
abbrev cX12_article : ByteArray := prog_1_method_8_code
def yX12_article : MethodName := ⟨RX12, "article", "(I)I"⟩
abbrev cX12_articleByPriority : ByteArray := prog_1_method_9_code
def yX12_articleByPriority : MethodName := ⟨RX12, "articleByPriority", "(I)I"⟩
abbrev cX12_priority : ByteArray := prog_1_method_10_code
def yX12_priority : MethodName := ⟨RX12, "priority", "(I)I"⟩
abbrev cX12_wordCount : ByteArray := prog_1_method_11_code
def yX12_wordCount : MethodName := ⟨RX12, "wordCount", "(I)I"⟩
abbrev cX12_wordLength : ByteArray := prog_1_method_12_code
def yX12_wordLength : MethodName := ⟨RX12, "wordLength", "(II)I"⟩
abbrev cX12_divisions : ByteArray := prog_1_method_13_code
def yX12_divisions : MethodName := ⟨RX12, "divisions", "(II)I"⟩
abbrev cX12_canDivide : ByteArray := prog_1_method_14_code
def yX12_canDivide : MethodName := ⟨RX12, "canDivide", "(III)Z"⟩
abbrev cX12_lateCorrections : ByteArray := prog_1_method_15_code
def yX12_lateCorrections : MethodName := ⟨RX12, "lateCorrections", "()I"⟩
abbrev cX12_setWidth : ByteArray := prog_1_method_16_code
def yX12_setWidth : MethodName := ⟨RX12, "setWidth", "(I)I"⟩
abbrev cX12_width : ByteArray := prog_1_method_17_code
def yX12_width : MethodName := ⟨RX12, "width", "()I"⟩
abbrev cX12_canBeSet : ByteArray := prog_1_method_18_code
def yX12_canBeSet : MethodName := ⟨RX12, "canBeSet", "(I)Z"⟩
abbrev cX12_lineCount : ByteArray := prog_1_method_19_code
def yX12_lineCount : MethodName := ⟨RX12, "lineCount", "(I)I"⟩
abbrev cX12_lineLength : ByteArray := prog_1_method_20_code
def yX12_lineLength : MethodName := ⟨RX12, "lineLength", "(II)I"⟩
abbrev cX12_hyphenCount : ByteArray := prog_1_method_21_code
def yX12_hyphenCount : MethodName := ⟨RX12, "hyphenCount", "(I)I"⟩
abbrev cX12_writeLine : ByteArray := prog_1_method_22_code
def yX12_writeLine : MethodName := ⟨RX12, "writeLine", "(II)I"⟩
abbrev cX12_smallestWidth : ByteArray := prog_1_method_23_code
def yX12_smallestWidth : MethodName := ⟨RX12, "smallestWidth", "(I)I"⟩
abbrev cX12_leastBadness : ByteArray := prog_1_method_24_code
def yX12_leastBadness : MethodName := ⟨RX12, "leastBadness", "(I)I"⟩
abbrev cX12_leastBadnessForward : ByteArray := prog_1_method_25_code
def yX12_leastBadnessForward : MethodName := ⟨RX12, "leastBadnessForward", "(I)I"⟩
abbrev cX12_setPage : ByteArray := prog_1_method_26_code
def yX12_setPage : MethodName := ⟨RX12, "setPage", "(II)I"⟩
abbrev cX12_print : ByteArray := prog_1_method_27_code
def yX12_print : MethodName := ⟨RX12, "print", "()I"⟩
abbrev cX12_issueCount : ByteArray := prog_1_method_28_code
def yX12_issueCount : MethodName := ⟨RX12, "issueCount", "()I"⟩
abbrev cX12_isKept : ByteArray := prog_1_method_29_code
def yX12_isKept : MethodName := ⟨RX12, "isKept", "(I)Z"⟩
abbrev cX12_articlesIn : ByteArray := prog_1_method_30_code
def yX12_articlesIn : MethodName := ⟨RX12, "articlesIn", "(I)I"⟩
abbrev cX12_linesIn : ByteArray := prog_1_method_31_code
def yX12_linesIn : MethodName := ⟨RX12, "linesIn", "(I)I"⟩
abbrev cX12_columnOf : ByteArray := prog_1_method_32_code
def yX12_columnOf : MethodName := ⟨RX12, "columnOf", "(II)I"⟩
abbrev cX12_rowOf : ByteArray := prog_1_method_33_code
def yX12_rowOf : MethodName := ⟨RX12, "rowOf", "(II)I"⟩
abbrev cX12_coverage : ByteArray := prog_1_method_34_code
def yX12_coverage : MethodName := ⟨RX12, "coverage", "(I)F"⟩
abbrev cX12_passDays : ByteArray := prog_1_method_35_code
def yX12_passDays : MethodName := ⟨RX12, "passDays", "(I)I"⟩
abbrev cX12_day : ByteArray := prog_1_method_36_code
def yX12_day : MethodName := ⟨RX12, "day", "()I"⟩
abbrev cX12_freshness : ByteArray := prog_1_method_37_code
def yX12_freshness : MethodName := ⟨RX12, "freshness", "(I)F"⟩
abbrev cX12_freshnessBits : ByteArray := prog_1_method_38_code
def yX12_freshnessBits : MethodName := ⟨RX12, "freshnessBits", "(I)I"⟩
abbrev cX12_isReadable : ByteArray := prog_1_method_39_code
def yX12_isReadable : MethodName := ⟨RX12, "isReadable", "(I)Z"⟩
abbrev cX12_daysUntilUnreadable : ByteArray := prog_1_method_40_code
def yX12_daysUntilUnreadable : MethodName := ⟨RX12, "daysUntilUnreadable", "(I)I"⟩
abbrev cX12_meanWordLength : ByteArray := prog_1_method_41_code
def yX12_meanWordLength : MethodName := ⟨RX12, "meanWordLength", "()D"⟩
abbrev cX12_meanFreshness : ByteArray := prog_1_method_42_code
def yX12_meanFreshness : MethodName := ⟨RX12, "meanFreshness", "()F"⟩
abbrev cX12_writeArticle : ByteArray := prog_1_method_43_code
def yX12_writeArticle : MethodName := ⟨RX12, "writeArticle", "(I)I"⟩
abbrev cX12_outputCharacter : ByteArray := prog_1_method_44_code
def yX12_outputCharacter : MethodName := ⟨RX12, "outputCharacter", "(I)C"⟩
abbrev cX12_isConsistent : ByteArray := prog_1_method_45_code
def yX12_isConsistent : MethodName := ⟨RX12, "isConsistent", "()Z"⟩
abbrev cX12_feed : ByteArray := prog_1_method_46_code
def yX12_feed : MethodName := ⟨RX12, "feed", "(C)I"⟩
abbrev cX12_execute : ByteArray := prog_1_method_47_code
def yX12_execute : MethodName := ⟨RX12, "execute", "()I"⟩
abbrev cX12_undo : ByteArray := prog_1_method_50_code
def yX12_undo : MethodName := ⟨RX12, "undo", "()I"⟩
abbrev cX12_undoCount : ByteArray := prog_1_method_51_code
def yX12_undoCount : MethodName := ⟨RX12, "undoCount", "()I"⟩
abbrev cX12_become : ByteArray := prog_1_method_54_code
def yX12_become : MethodName := ⟨RX12, "become", "(LStoneGazette$State;)V"⟩
abbrev cX12_knownArticle : ByteArray := prog_1_method_55_code
def yX12_knownArticle : MethodName := ⟨RX12, "knownArticle", "(I)LStoneGazette$Article;"⟩
abbrev cX12_knownWord : ByteArray := prog_1_method_56_code
def yX12_knownWord : MethodName := ⟨RX12, "knownWord", "(II)LStoneGazette$Word;"⟩
abbrev cX12_knownNarrowArticle : ByteArray := prog_1_method_57_code
def yX12_knownNarrowArticle : MethodName := ⟨RX12, "knownNarrowArticle", "(I)LStoneGazette$Article;"⟩
abbrev cX12_arrangeKnown : ByteArray := prog_1_method_58_code
def yX12_arrangeKnown : MethodName := ⟨RX12, "arrangeKnown", "(I)V"⟩
abbrev cX12_arrangeKnownLine : ByteArray := prog_1_method_59_code
def yX12_arrangeKnownLine : MethodName := ⟨RX12, "arrangeKnownLine", "(II)V"⟩
abbrev cX12_knownIssue : ByteArray := prog_1_method_60_code
def yX12_knownIssue : MethodName := ⟨RX12, "knownIssue", "(I)LStoneGazette$Issue;"⟩
abbrev cX12_knownPage : ByteArray := prog_1_method_61_code
def yX12_knownPage : MethodName := ⟨RX12, "knownPage", "(II)LStoneGazette$Page;"⟩
abbrev cX12_bitsOf : ByteArray := prog_1_method_62_code
def yX12_bitsOf : MethodName := ⟨RX12, "bitsOf", "(F)I"⟩
abbrev cX12_linesKeepWidth : ByteArray := prog_1_method_63_code
def yX12_linesKeepWidth : MethodName := ⟨RX12, "linesKeepWidth", "(LStoneGazette$Article;)Z"⟩
abbrev cX12_badnessesAgree : ByteArray := prog_1_method_64_code
def yX12_badnessesAgree : MethodName := ⟨RX12, "badnessesAgree", "(LStoneGazette$Article;)Z"⟩
abbrev cX12_carryOut : ByteArray := prog_1_method_65_code
def yX12_carryOut : MethodName := ⟨RX12, "carryOut", "(LStoneGazette$Command;LStoneGazette$State;)Z"⟩
def RX13 : String := "StoneGazetteModel"
def TX13 : u_T := fun k => match k with
  | _ => ("", "", "", false)
def tyX13 : Nat → FieldType := fun k => match k with
  | _ => .int
abbrev wsX130 : List Cond := u_ws RX13 TX13 0
theorem nmX13 : ∀ a, a < 0 → ∀ b, b < 0 → a ≠ b → (TX13 a).2.1 ≠ (TX13 b).2.1 := by decide +kernel
theorem tyX13_ok : ∀ k, k < 0 → parseFieldDescriptor (TX13 k).2.2.1 = some (tyX13 k) := by decide +kernel
def RJx145de : String := "java/io/Serializable"
def TJx145de : u_T := fun k => match k with
  | _ => ("", "", "", false)
def tyJx145de : Nat → FieldType := fun k => match k with
  | _ => .int
abbrev wsJx145de0 : List Cond := u_ws RJx145de TJx145de 0
theorem nmJx145de : ∀ a, a < 0 → ∀ b, b < 0 → a ≠ b → (TJx145de a).2.1 ≠ (TJx145de b).2.1 := by decide +kernel
theorem tyJx145de_ok : ∀ k, k < 0 → parseFieldDescriptor (TJx145de k).2.2.1 = some (tyJx145de k) := by decide +kernel
def RJ5 : String := "java/lang/AbstractStringBuilder"
def TJ5 : u_T := fun k => match k with
  | _ => ("", "", "", false)
def tyJ5 : Nat → FieldType := fun k => match k with
  | _ => .int
abbrev wsJ50 : List Cond := u_ws RJ5 TJ5 0
theorem nmJ5 : ∀ a, a < 0 → ∀ b, b < 0 → a ≠ b → (TJ5 a).2.1 ≠ (TJ5 b).2.1 := by decide +kernel
theorem tyJ5_ok : ∀ k, k < 0 → parseFieldDescriptor (TJ5 k).2.2.1 = some (tyJ5 k) := by decide +kernel
abbrev cJ5_init_d00df : ByteArray := prog_17_method_2_code
def yJ5_init_d00df : MethodName := ⟨RJ5, "<init>", "(I)V"⟩
abbrev cJ5_length_8abf5 : ByteArray := prog_17_method_6_code
def yJ5_length_8abf5 : MethodName := ⟨RJ5, "length", "()I"⟩
abbrev cJ5_ensureCapacityInternal_d00df : ByteArray := prog_17_method_9_code
def yJ5_ensureCapacityInternal_d00df : MethodName := ⟨RJ5, "ensureCapacityInternal", "(I)V"⟩
abbrev cJ5_newCapacity_0f7a4 : ByteArray := prog_17_method_10_code
def yJ5_newCapacity_0f7a4 : MethodName := ⟨RJ5, "newCapacity", "(I)I"⟩
abbrev cJ5_inflate_da8c8 : ByteArray := prog_17_method_11_code
def yJ5_inflate_da8c8 : MethodName := ⟨RJ5, "inflate", "()V"⟩
abbrev cJ5_setLength_d00df : ByteArray := prog_17_method_13_code
def yJ5_setLength_d00df : MethodName := ⟨RJ5, "setLength", "(I)V"⟩
abbrev cJ5_charAt_5068e : ByteArray := prog_17_method_14_code
def yJ5_charAt_5068e : MethodName := ⟨RJ5, "charAt", "(I)C"⟩
abbrev cJ5_append_cf1ce : ByteArray := prog_17_method_22_code
def yJ5_append_cf1ce : MethodName := ⟨RJ5, "append", "(Ljava/lang/String;)Ljava/lang/AbstractStringBuilder;"⟩
abbrev cJ5_appendNull_278bc : ByteArray := prog_17_method_26_code
def yJ5_appendNull_278bc : MethodName := ⟨RJ5, "appendNull", "()Ljava/lang/AbstractStringBuilder;"⟩
abbrev cJ5_append_3fe6f : ByteArray := prog_17_method_31_code
def yJ5_append_3fe6f : MethodName := ⟨RJ5, "append", "(C)Ljava/lang/AbstractStringBuilder;"⟩
abbrev cJ5_append_c97b9 : ByteArray := prog_17_method_32_code
def yJ5_append_c97b9 : MethodName := ⟨RJ5, "append", "(I)Ljava/lang/AbstractStringBuilder;"⟩
abbrev cJ5_getValue_6d5f1 : ByteArray := prog_17_method_64_code
def yJ5_getValue_6d5f1 : MethodName := ⟨RJ5, "getValue", "()[B"⟩
abbrev cJ5_isLatin1_aae02 : ByteArray := prog_17_method_68_code
def yJ5_isLatin1_aae02 : MethodName := ⟨RJ5, "isLatin1", "()Z"⟩
abbrev cJ5_inflateIfNeededFor_a7421 : ByteArray := prog_17_method_71_code
def yJ5_inflateIfNeededFor_a7421 : MethodName := ⟨RJ5, "inflateIfNeededFor", "(Ljava/lang/String;)V"⟩
abbrev cJ5_putStringAt_47b60 : ByteArray := prog_17_method_73_code
def yJ5_putStringAt_47b60 : MethodName := ⟨RJ5, "putStringAt", "(ILjava/lang/String;)V"⟩
def RJx2cfe8 : String := "java/lang/Appendable"
def TJx2cfe8 : u_T := fun k => match k with
  | _ => ("", "", "", false)
def tyJx2cfe8 : Nat → FieldType := fun k => match k with
  | _ => .int
abbrev wsJx2cfe80 : List Cond := u_ws RJx2cfe8 TJx2cfe8 0
theorem nmJx2cfe8 : ∀ a, a < 0 → ∀ b, b < 0 → a ≠ b → (TJx2cfe8 a).2.1 ≠ (TJx2cfe8 b).2.1 := by decide +kernel
theorem tyJx2cfe8_ok : ∀ k, k < 0 → parseFieldDescriptor (TJx2cfe8 k).2.2.1 = some (tyJx2cfe8 k) := by decide +kernel
def RJx00060 : String := "java/lang/ArrayIndexOutOfBoundsException"
def TJx00060 : u_T := fun k => match k with
  | 0 => ("java/lang/Throwable", "backtrace", "Ljava/lang/Object;", false)
  | 1 => ("java/lang/Throwable", "detailMessage", "Ljava/lang/String;", false)
  | 2 => ("java/lang/Throwable", "cause", "Ljava/lang/Throwable;", false)
  | 3 => ("java/lang/Throwable", "stackTrace", "[Ljava/lang/StackTraceElement;", false)
  | 4 => ("java/lang/Throwable", "depth", "I", false)
  | _ => ("java/lang/Throwable", "suppressedExceptions", "Ljava/util/List;", false)
def tyJx00060 : Nat → FieldType := fun k => match k with
  | 0 => .object "java/lang/Object"
  | 1 => .object "java/lang/String"
  | 2 => .object "java/lang/Throwable"
  | 3 => .array (.object "java/lang/StackTraceElement")
  | 4 => .int
  | _ => .object "java/util/List"
abbrev wsJx000600 : List Cond := u_ws RJx00060 TJx00060 6
theorem nmJx00060 : ∀ a, a < 6 → ∀ b, b < 6 → a ≠ b → (TJx00060 a).2.1 ≠ (TJx00060 b).2.1 := by decide +kernel
theorem tyJx00060_ok : ∀ k, k < 6 → parseFieldDescriptor (TJx00060 k).2.2.1 = some (tyJx00060 k) := by decide +kernel
abbrev cJx00060_init_a7421 : ByteArray := prog_20_method_2_code
def yJx00060_init_a7421 : MethodName := ⟨RJx00060, "<init>", "(Ljava/lang/String;)V"⟩
abbrev cJx00060_init_d00df : ByteArray := prog_20_method_3_code
def yJx00060_init_d00df : MethodName := ⟨RJx00060, "<init>", "(I)V"⟩
def RJx9f9b0 : String := "java/lang/CharSequence"
def TJx9f9b0 : u_T := fun k => match k with
  | _ => ("", "", "", false)
def tyJx9f9b0 : Nat → FieldType := fun k => match k with
  | _ => .int
abbrev wsJx9f9b00 : List Cond := u_ws RJx9f9b0 TJx9f9b0 0
theorem nmJx9f9b0 : ∀ a, a < 0 → ∀ b, b < 0 → a ≠ b → (TJx9f9b0 a).2.1 ≠ (TJx9f9b0 b).2.1 := by decide +kernel
theorem tyJx9f9b0_ok : ∀ k, k < 0 → parseFieldDescriptor (TJx9f9b0 k).2.2.1 = some (tyJx9f9b0 k) := by decide +kernel
def RJ11 : String := "java/lang/Character"
def TJ11 : u_T := fun k => match k with
  | _ => ("", "", "", false)
def tyJ11 : Nat → FieldType := fun k => match k with
  | _ => .int
abbrev wsJ110 : List Cond := u_ws RJ11 TJ11 0
theorem nmJ11 : ∀ a, a < 0 → ∀ b, b < 0 → a ≠ b → (TJ11 a).2.1 ≠ (TJ11 b).2.1 := by decide +kernel
theorem tyJ11_ok : ∀ k, k < 0 → parseFieldDescriptor (TJ11 k).2.2.1 = some (tyJ11 k) := by decide +kernel
abbrev cJ11_isValidCodePoint_9a6ad : ByteArray := prog_22_method_11_code
def yJ11_isValidCodePoint_9a6ad : MethodName := ⟨RJ11, "isValidCodePoint", "(I)Z"⟩
abbrev cJ11_highSurrogate_5068e : ByteArray := prog_22_method_28_code
def yJ11_highSurrogate_5068e : MethodName := ⟨RJ11, "highSurrogate", "(I)C"⟩
abbrev cJ11_lowSurrogate_5068e : ByteArray := prog_22_method_29_code
def yJ11_lowSurrogate_5068e : MethodName := ⟨RJ11, "lowSurrogate", "(I)C"⟩
def RJx8e188 : String := "java/lang/Cloneable"
def TJx8e188 : u_T := fun k => match k with
  | _ => ("", "", "", false)
def tyJx8e188 : Nat → FieldType := fun k => match k with
  | _ => .int
abbrev wsJx8e1880 : List Cond := u_ws RJx8e188 TJx8e188 0
theorem nmJx8e188 : ∀ a, a < 0 → ∀ b, b < 0 → a ≠ b → (TJx8e188 a).2.1 ≠ (TJx8e188 b).2.1 := by decide +kernel
theorem tyJx8e188_ok : ∀ k, k < 0 → parseFieldDescriptor (TJx8e188 k).2.2.1 = some (tyJx8e188 k) := by decide +kernel
def RJxb160c : String := "java/lang/Comparable"
def TJxb160c : u_T := fun k => match k with
  | _ => ("", "", "", false)
def tyJxb160c : Nat → FieldType := fun k => match k with
  | _ => .int
abbrev wsJxb160c0 : List Cond := u_ws RJxb160c TJxb160c 0
theorem nmJxb160c : ∀ a, a < 0 → ∀ b, b < 0 → a ≠ b → (TJxb160c a).2.1 ≠ (TJxb160c b).2.1 := by decide +kernel
theorem tyJxb160c_ok : ∀ k, k < 0 → parseFieldDescriptor (TJxb160c k).2.2.1 = some (tyJxb160c k) := by decide +kernel
def RJx29ce0 : String := "java/lang/Enum"
def TJx29ce0 : u_T := fun k => match k with
  | _ => ("", "", "", false)
def tyJx29ce0 : Nat → FieldType := fun k => match k with
  | _ => .int
abbrev wsJx29ce00 : List Cond := u_ws RJx29ce0 TJx29ce0 0
theorem nmJx29ce0 : ∀ a, a < 0 → ∀ b, b < 0 → a ≠ b → (TJx29ce0 a).2.1 ≠ (TJx29ce0 b).2.1 := by decide +kernel
theorem tyJx29ce0_ok : ∀ k, k < 0 → parseFieldDescriptor (TJx29ce0 k).2.2.1 = some (tyJx29ce0 k) := by decide +kernel
abbrev cJx29ce0_ordinal_8abf5 : ByteArray := prog_25_method_2_code
def yJx29ce0_ordinal_8abf5 : MethodName := ⟨RJx29ce0, "ordinal", "()I"⟩
def RJxf58ca : String := "java/lang/Float"
def TJxf58ca : u_T := fun k => match k with
  | _ => ("", "", "", false)
def tyJxf58ca : Nat → FieldType := fun k => match k with
  | _ => .int
abbrev wsJxf58ca0 : List Cond := u_ws RJxf58ca TJxf58ca 0
theorem nmJxf58ca : ∀ a, a < 0 → ∀ b, b < 0 → a ≠ b → (TJxf58ca a).2.1 ≠ (TJxf58ca b).2.1 := by decide +kernel
theorem tyJxf58ca_ok : ∀ k, k < 0 → parseFieldDescriptor (TJxf58ca k).2.2.1 = some (tyJxf58ca k) := by decide +kernel
abbrev cJxf58ca_isNaN_12338 : ByteArray := prog_27_method_6_code
def yJxf58ca_isNaN_12338 : MethodName := ⟨RJxf58ca, "isNaN", "(F)Z"⟩
abbrev cJxf58ca_floatToIntBits_5c35a : ByteArray := prog_27_method_24_code
def yJxf58ca_floatToIntBits_5c35a : MethodName := ⟨RJxf58ca, "floatToIntBits", "(F)I"⟩
def RJ6 : String := "java/lang/Integer"
def TJ6 : u_T := fun k => match k with
  | _ => ("", "", "", false)
def tyJ6 : Nat → FieldType := fun k => match k with
  | _ => .int
abbrev wsJ60 : List Cond := u_ws RJ6 TJ6 0
theorem nmJ6 : ∀ a, a < 0 → ∀ b, b < 0 → a ≠ b → (TJ6 a).2.1 ≠ (TJ6 b).2.1 := by decide +kernel
theorem tyJ6_ok : ∀ k, k < 0 → parseFieldDescriptor (TJ6 k).2.2.1 = some (tyJ6 k) := by decide +kernel
abbrev cJ6_getChars_ba4f3 : ByteArray := prog_31_method_12_code
def yJ6_getChars_ba4f3 : MethodName := ⟨RJ6, "getChars", "(II[B)I"⟩
abbrev cJ6_stringSize_0f7a4 : ByteArray := prog_31_method_13_code
def yJ6_stringSize_0f7a4 : MethodName := ⟨RJ6, "stringSize", "(I)I"⟩
def RJxab1ab : String := "java/lang/Iterable"
def TJxab1ab : u_T := fun k => match k with
  | _ => ("", "", "", false)
def tyJxab1ab : Nat → FieldType := fun k => match k with
  | _ => .int
abbrev wsJxab1ab0 : List Cond := u_ws RJxab1ab TJxab1ab 0
theorem nmJxab1ab : ∀ a, a < 0 → ∀ b, b < 0 → a ≠ b → (TJxab1ab a).2.1 ≠ (TJxab1ab b).2.1 := by decide +kernel
theorem tyJxab1ab_ok : ∀ k, k < 0 → parseFieldDescriptor (TJxab1ab k).2.2.1 = some (tyJxab1ab k) := by decide +kernel
def RJ9 : String := "java/lang/Math"
def TJ9 : u_T := fun k => match k with
  | _ => ("", "", "", false)
def tyJ9 : Nat → FieldType := fun k => match k with
  | _ => .int
abbrev wsJ90 : List Cond := u_ws RJ9 TJ9 0
theorem nmJ9 : ∀ a, a < 0 → ∀ b, b < 0 → a ≠ b → (TJ9 a).2.1 ≠ (TJ9 b).2.1 := by decide +kernel
theorem tyJ9_ok : ∀ k, k < 0 → parseFieldDescriptor (TJ9 k).2.2.1 = some (tyJ9 k) := by decide +kernel
abbrev cJ9_max_7cf53 : ByteArray := prog_33_method_65_code
def yJ9_max_7cf53 : MethodName := ⟨RJ9, "max", "(II)I"⟩
abbrev cJ9_min_7cf53 : ByteArray := prog_33_method_69_code
def yJ9_min_7cf53 : MethodName := ⟨RJ9, "min", "(II)I"⟩
def RJxd2413 : String := "java/lang/Number"
def TJxd2413 : u_T := fun k => match k with
  | _ => ("", "", "", false)
def tyJxd2413 : Nat → FieldType := fun k => match k with
  | _ => .int
abbrev wsJxd24130 : List Cond := u_ws RJxd2413 TJxd2413 0
theorem nmJxd2413 : ∀ a, a < 0 → ∀ b, b < 0 → a ≠ b → (TJxd2413 a).2.1 ≠ (TJxd2413 b).2.1 := by decide +kernel
theorem tyJxd2413_ok : ∀ k, k < 0 → parseFieldDescriptor (TJxd2413 k).2.2.1 = some (tyJxd2413 k) := by decide +kernel
def RJ0 : String := "java/lang/String"
def TJ0 : u_T := fun k => match k with
  | 0 => ("java/lang/String", "value", "[B", true)
  | 1 => ("java/lang/String", "coder", "B", true)
  | 2 => ("java/lang/String", "hash", "I", false)
  | _ => ("java/lang/String", "hashIsZero", "Z", false)
def tyJ0 : Nat → FieldType := fun k => match k with
  | 0 => .array .byte
  | 1 => .byte
  | 2 => .int
  | _ => .boolean
abbrev wsJ00 : List Cond := u_ws RJ0 TJ0 4
theorem nmJ0 : ∀ a, a < 4 → ∀ b, b < 4 → a ≠ b → (TJ0 a).2.1 ≠ (TJ0 b).2.1 := by decide +kernel
theorem tyJ0_ok : ∀ k, k < 4 → parseFieldDescriptor (TJ0 k).2.2.1 = some (tyJ0 k) := by decide +kernel
abbrev cJ0_init_81219 : ByteArray := prog_36_method_53_code
def yJ0_init_81219 : MethodName := ⟨RJ0, "<init>", "(Ljava/lang/StringBuilder;)V"⟩
abbrev cJ0_length_8abf5 : ByteArray := prog_36_method_54_code
def yJ0_length_8abf5 : MethodName := ⟨RJ0, "length", "()I"⟩
abbrev cJ0_charAt_5068e : ByteArray := prog_36_method_56_code
def yJ0_charAt_5068e : MethodName := ⟨RJ0, "charAt", "(I)C"⟩
abbrev cJ0_indexOf_0f7a4 : ByteArray := prog_36_method_79_code
def yJ0_indexOf_0f7a4 : MethodName := ⟨RJ0, "indexOf", "(I)I"⟩
abbrev cJ0_indexOf_7cf53 : ByteArray := prog_36_method_80_code
def yJ0_indexOf_7cf53 : MethodName := ⟨RJ0, "indexOf", "(II)I"⟩
abbrev cJ0_substring_b52d3 : ByteArray := prog_36_method_91_code
def yJ0_substring_b52d3 : MethodName := ⟨RJ0, "substring", "(I)Ljava/lang/String;"⟩
abbrev cJ0_substring_37a41 : ByteArray := prog_36_method_92_code
def yJ0_substring_37a41 : MethodName := ⟨RJ0, "substring", "(II)Ljava/lang/String;"⟩
abbrev cJ0_getBytes_840e7 : ByteArray := prog_36_method_147_code
def yJ0_getBytes_840e7 : MethodName := ⟨RJ0, "getBytes", "([BIB)V"⟩
abbrev cJ0_init_db425 : ByteArray := prog_36_method_150_code
def yJ0_init_db425 : MethodName := ⟨RJ0, "<init>", "(Ljava/lang/AbstractStringBuilder;Ljava/lang/Void;)V"⟩
abbrev cJ0_init_031fb : ByteArray := prog_36_method_151_code
def yJ0_init_031fb : MethodName := ⟨RJ0, "<init>", "([BB)V"⟩
abbrev cJ0_coder_7d493 : ByteArray := prog_36_method_152_code
def yJ0_coder_7d493 : MethodName := ⟨RJ0, "coder", "()B"⟩
abbrev cJ0_isLatin1_aae02 : ByteArray := prog_36_method_154_code
def yJ0_isLatin1_aae02 : MethodName := ⟨RJ0, "isLatin1", "()Z"⟩
abbrev cJ0_checkIndex_df160 : ByteArray := prog_36_method_155_code
def yJ0_checkIndex_df160 : MethodName := ⟨RJ0, "checkIndex", "(II)V"⟩
abbrev cJ0_checkBoundsOffCount_cabcc : ByteArray := prog_36_method_157_code
def yJ0_checkBoundsOffCount_cabcc : MethodName := ⟨RJ0, "checkBoundsOffCount", "(III)I"⟩
abbrev cJ0_checkBoundsBeginEnd_23922 : ByteArray := prog_36_method_158_code
def yJ0_checkBoundsBeginEnd_23922 : MethodName := ⟨RJ0, "checkBoundsBeginEnd", "(III)V"⟩
def RJ4 : String := "java/lang/StringBuilder"
def TJ4 : u_T := fun k => match k with
  | 0 => ("java/lang/AbstractStringBuilder", "value", "[B", false)
  | 1 => ("java/lang/AbstractStringBuilder", "coder", "B", false)
  | 2 => ("java/lang/AbstractStringBuilder", "maybeLatin1", "Z", false)
  | _ => ("java/lang/AbstractStringBuilder", "count", "I", false)
def tyJ4 : Nat → FieldType := fun k => match k with
  | 0 => .array .byte
  | 1 => .byte
  | 2 => .boolean
  | _ => .int
abbrev wsJ40 : List Cond := u_ws RJ4 TJ4 4
theorem nmJ4 : ∀ a, a < 4 → ∀ b, b < 4 → a ≠ b → (TJ4 a).2.1 ≠ (TJ4 b).2.1 := by decide +kernel
theorem tyJ4_ok : ∀ k, k < 4 → parseFieldDescriptor (TJ4 k).2.2.1 = some (tyJ4 k) := by decide +kernel
abbrev cJ4_init_da8c8 : ByteArray := prog_37_method_1_code
def yJ4_init_da8c8 : MethodName := ⟨RJ4, "<init>", "()V"⟩
abbrev cJ4_append_15ec4 : ByteArray := prog_37_method_7_code
def yJ4_append_15ec4 : MethodName := ⟨RJ4, "append", "(Ljava/lang/String;)Ljava/lang/StringBuilder;"⟩
abbrev cJ4_append_cf468 : ByteArray := prog_37_method_14_code
def yJ4_append_cf468 : MethodName := ⟨RJ4, "append", "(C)Ljava/lang/StringBuilder;"⟩
abbrev cJ4_append_bf812 : ByteArray := prog_37_method_15_code
def yJ4_append_bf812 : MethodName := ⟨RJ4, "append", "(I)Ljava/lang/StringBuilder;"⟩
abbrev cJ4_toString_0e30d : ByteArray := prog_37_method_42_code
def yJ4_toString_0e30d : MethodName := ⟨RJ4, "toString", "()Ljava/lang/String;"⟩
abbrev cJ4_charAt_5068e : ByteArray := prog_37_method_88_code
def yJ4_charAt_5068e : MethodName := ⟨RJ4, "charAt", "(I)C"⟩
abbrev cJ4_setLength_d00df : ByteArray := prog_37_method_89_code
def yJ4_setLength_d00df : MethodName := ⟨RJ4, "setLength", "(I)V"⟩
abbrev cJ4_length_8abf5 : ByteArray := prog_37_method_93_code
def yJ4_length_8abf5 : MethodName := ⟨RJ4, "length", "()I"⟩
def RJx7c733 : String := "java/lang/StringIndexOutOfBoundsException"
def TJx7c733 : u_T := fun k => match k with
  | 0 => ("java/lang/Throwable", "backtrace", "Ljava/lang/Object;", false)
  | 1 => ("java/lang/Throwable", "detailMessage", "Ljava/lang/String;", false)
  | 2 => ("java/lang/Throwable", "cause", "Ljava/lang/Throwable;", false)
  | 3 => ("java/lang/Throwable", "stackTrace", "[Ljava/lang/StackTraceElement;", false)
  | 4 => ("java/lang/Throwable", "depth", "I", false)
  | _ => ("java/lang/Throwable", "suppressedExceptions", "Ljava/util/List;", false)
def tyJx7c733 : Nat → FieldType := fun k => match k with
  | 0 => .object "java/lang/Object"
  | 1 => .object "java/lang/String"
  | 2 => .object "java/lang/Throwable"
  | 3 => .array (.object "java/lang/StackTraceElement")
  | 4 => .int
  | _ => .object "java/util/List"
abbrev wsJx7c7330 : List Cond := u_ws RJx7c733 TJx7c733 6
theorem nmJx7c733 : ∀ a, a < 6 → ∀ b, b < 6 → a ≠ b → (TJx7c733 a).2.1 ≠ (TJx7c733 b).2.1 := by decide +kernel
theorem tyJx7c733_ok : ∀ k, k < 6 → parseFieldDescriptor (TJx7c733 k).2.2.1 = some (tyJx7c733 k) := by decide +kernel
abbrev cJx7c733_init_d00df : ByteArray := prog_38_method_3_code
def yJx7c733_init_d00df : MethodName := ⟨RJx7c733, "<init>", "(I)V"⟩
def RJ1 : String := "java/lang/StringLatin1"
def TJ1 : u_T := fun k => match k with
  | _ => ("", "", "", false)
def tyJ1 : Nat → FieldType := fun k => match k with
  | _ => .int
abbrev wsJ10 : List Cond := u_ws RJ1 TJ1 0
theorem nmJ1 : ∀ a, a < 0 → ∀ b, b < 0 → a ≠ b → (TJ1 a).2.1 ≠ (TJ1 b).2.1 := by decide +kernel
theorem tyJ1_ok : ∀ k, k < 0 → parseFieldDescriptor (TJ1 k).2.2.1 = some (tyJ1 k) := by decide +kernel
abbrev cJ1_charAt_3b067 : ByteArray := prog_39_method_2_code
def yJ1_charAt_3b067 : MethodName := ⟨RJ1, "charAt", "([BI)C"⟩
abbrev cJ1_canEncode_fc78d : ByteArray := prog_39_method_3_code
def yJ1_canEncode_fc78d : MethodName := ⟨RJ1, "canEncode", "(C)Z"⟩
abbrev cJ1_canEncode_9a6ad : ByteArray := prog_39_method_4_code
def yJ1_canEncode_9a6ad : MethodName := ⟨RJ1, "canEncode", "(I)Z"⟩
abbrev cJ1_indexOf_4cfef : ByteArray := prog_39_method_22_code
def yJ1_indexOf_4cfef : MethodName := ⟨RJ1, "indexOf", "([BIII)I"⟩
abbrev cJ1_indexOfChar_4cfef : ByteArray := prog_39_method_23_code
def yJ1_indexOfChar_4cfef : MethodName := ⟨RJ1, "indexOfChar", "([BIII)I"⟩
abbrev cJ1_newString_b4f7a : ByteArray := prog_39_method_47_code
def yJ1_newString_b4f7a : MethodName := ⟨RJ1, "newString", "([BII)Ljava/lang/String;"⟩
abbrev cJ1_fillNull_b72d1 : ByteArray := prog_39_method_48_code
def yJ1_fillNull_b72d1 : MethodName := ⟨RJ1, "fillNull", "([BII)V"⟩
abbrev cJ1_inflate_0e8fd : ByteArray := prog_39_method_50_code
def yJ1_inflate_0e8fd : MethodName := ⟨RJ1, "inflate", "([BI[BII)V"⟩
def RJ2 : String := "java/lang/StringUTF16"
def TJ2 : u_T := fun k => match k with
  | _ => ("", "", "", false)
def tyJ2 : Nat → FieldType := fun k => match k with
  | _ => .int
abbrev wsJ20 : List Cond := u_ws RJ2 TJ2 0
theorem nmJ2 : ∀ a, a < 0 → ∀ b, b < 0 → a ≠ b → (TJ2 a).2.1 ≠ (TJ2 b).2.1 := by decide +kernel
theorem tyJ2_ok : ∀ k, k < 0 → parseFieldDescriptor (TJ2 k).2.2.1 = some (tyJ2 k) := by decide +kernel
abbrev cJ2_newBytesFor_77867 : ByteArray := prog_40_method_2_code
def yJ2_newBytesFor_77867 : MethodName := ⟨RJ2, "newBytesFor", "(I)[B"⟩
abbrev cJ2_newBytesLength_0f7a4 : ByteArray := prog_40_method_3_code
def yJ2_newBytesLength_0f7a4 : MethodName := ⟨RJ2, "newBytesLength", "(I)I"⟩
abbrev cJ2_putChar_b72d1 : ByteArray := prog_40_method_4_code
def yJ2_putChar_b72d1 : MethodName := ⟨RJ2, "putChar", "([BII)V"⟩
abbrev cJ2_getChar_3b067 : ByteArray := prog_40_method_5_code
def yJ2_getChar_3b067 : MethodName := ⟨RJ2, "getChar", "([BI)C"⟩
abbrev cJ2_length_9d52b : ByteArray := prog_40_method_6_code
def yJ2_length_9d52b : MethodName := ⟨RJ2, "length", "([B)I"⟩
abbrev cJ2_coderFromArrayLen_85cad : ByteArray := prog_40_method_15_code
def yJ2_coderFromArrayLen_85cad : MethodName := ⟨RJ2, "coderFromArrayLen", "([BI)B"⟩
abbrev cJ2_compress_39247 : ByteArray := prog_40_method_17_code
def yJ2_compress_39247 : MethodName := ⟨RJ2, "compress", "([BII)[B"⟩
abbrev cJ2_compress_5af95 : ByteArray := prog_40_method_22_code
def yJ2_compress_5af95 : MethodName := ⟨RJ2, "compress", "([BI[BII)I"⟩
abbrev cJ2_indexOf_4cfef : ByteArray := prog_40_method_40_code
def yJ2_indexOf_4cfef : MethodName := ⟨RJ2, "indexOf", "([BIII)I"⟩
abbrev cJ2_indexOfChar_4cfef : ByteArray := prog_40_method_47_code
def yJ2_indexOfChar_4cfef : MethodName := ⟨RJ2, "indexOfChar", "([BIII)I"⟩
abbrev cJ2_indexOfCharUnsafe_4cfef : ByteArray := prog_40_method_48_code
def yJ2_indexOfCharUnsafe_4cfef : MethodName := ⟨RJ2, "indexOfCharUnsafe", "([BIII)I"⟩
abbrev cJ2_indexOfSupplementary_4cfef : ByteArray := prog_40_method_49_code
def yJ2_indexOfSupplementary_4cfef : MethodName := ⟨RJ2, "indexOfSupplementary", "([BIII)I"⟩
abbrev cJ2_newString_b4f7a : ByteArray := prog_40_method_69_code
def yJ2_newString_b4f7a : MethodName := ⟨RJ2, "newString", "([BII)Ljava/lang/String;"⟩
abbrev cJ2_fillNull_b72d1 : ByteArray := prog_40_method_70_code
def yJ2_fillNull_b72d1 : MethodName := ⟨RJ2, "fillNull", "([BII)V"⟩
abbrev cJ2_putCharSB_b72d1 : ByteArray := prog_40_method_71_code
def yJ2_putCharSB_b72d1 : MethodName := ⟨RJ2, "putCharSB", "([BII)V"⟩
abbrev cJ2_getChars_46870 : ByteArray := prog_40_method_77_code
def yJ2_getChars_46870 : MethodName := ⟨RJ2, "getChars", "(III[B)I"⟩
abbrev cJ2_putCharsAt_cd4e5 : ByteArray := prog_40_method_81_code
def yJ2_putCharsAt_cd4e5 : MethodName := ⟨RJ2, "putCharsAt", "([BICCCC)I"⟩
abbrev cJ2_charAt_3b067 : ByteArray := prog_40_method_83_code
def yJ2_charAt_3b067 : MethodName := ⟨RJ2, "charAt", "([BI)C"⟩
abbrev cJ2_inflate_0e8fd : ByteArray := prog_40_method_86_code
def yJ2_inflate_0e8fd : MethodName := ⟨RJ2, "inflate", "([BI[BII)V"⟩
abbrev cJ2_getChars_ba4f3 : ByteArray := prog_40_method_89_code
def yJ2_getChars_ba4f3 : MethodName := ⟨RJ2, "getChars", "(II[B)I"⟩
abbrev cJ2_checkIndex_2214a : ByteArray := prog_40_method_91_code
def yJ2_checkIndex_2214a : MethodName := ⟨RJ2, "checkIndex", "(I[B)V"⟩
abbrev cJ2_checkBoundsBeginEnd_d044e : ByteArray := prog_40_method_93_code
def yJ2_checkBoundsBeginEnd_d044e : MethodName := ⟨RJ2, "checkBoundsBeginEnd", "(II[B)V"⟩
abbrev cJ2_checkBoundsOffCount_d044e : ByteArray := prog_40_method_94_code
def yJ2_checkBoundsOffCount_d044e : MethodName := ⟨RJ2, "checkBoundsOffCount", "(II[B)V"⟩
def RJ10 : String := "java/lang/System"
def TJ10 : u_T := fun k => match k with
  | _ => ("", "", "", false)
def tyJ10 : Nat → FieldType := fun k => match k with
  | _ => .int
abbrev wsJ100 : List Cond := u_ws RJ10 TJ10 0
theorem nmJ10 : ∀ a, a < 0 → ∀ b, b < 0 → a ≠ b → (TJ10 a).2.1 ≠ (TJ10 b).2.1 := by decide +kernel
theorem tyJ10_ok : ∀ k, k < 0 → parseFieldDescriptor (TJ10 k).2.2.1 = some (tyJ10 k) := by decide +kernel
def RJxfd54e : String := "java/lang/constant/Constable"
def TJxfd54e : u_T := fun k => match k with
  | _ => ("", "", "", false)
def tyJxfd54e : Nat → FieldType := fun k => match k with
  | _ => .int
abbrev wsJxfd54e0 : List Cond := u_ws RJxfd54e TJxfd54e 0
theorem nmJxfd54e : ∀ a, a < 0 → ∀ b, b < 0 → a ≠ b → (TJxfd54e a).2.1 ≠ (TJxfd54e b).2.1 := by decide +kernel
theorem tyJxfd54e_ok : ∀ k, k < 0 → parseFieldDescriptor (TJxfd54e k).2.2.1 = some (tyJxfd54e k) := by decide +kernel
def RJx3cf43 : String := "java/lang/constant/ConstantDesc"
def TJx3cf43 : u_T := fun k => match k with
  | _ => ("", "", "", false)
def tyJx3cf43 : Nat → FieldType := fun k => match k with
  | _ => .int
abbrev wsJx3cf430 : List Cond := u_ws RJx3cf43 TJx3cf43 0
theorem nmJx3cf43 : ∀ a, a < 0 → ∀ b, b < 0 → a ≠ b → (TJx3cf43 a).2.1 ≠ (TJx3cf43 b).2.1 := by decide +kernel
theorem tyJx3cf43_ok : ∀ k, k < 0 → parseFieldDescriptor (TJx3cf43 k).2.2.1 = some (tyJx3cf43 k) := by decide +kernel
def RJxa1e45 : String := "java/util/AbstractCollection"
def TJxa1e45 : u_T := fun k => match k with
  | _ => ("", "", "", false)
def tyJxa1e45 : Nat → FieldType := fun k => match k with
  | _ => .int
abbrev wsJxa1e450 : List Cond := u_ws RJxa1e45 TJxa1e45 0
theorem nmJxa1e45 : ∀ a, a < 0 → ∀ b, b < 0 → a ≠ b → (TJxa1e45 a).2.1 ≠ (TJxa1e45 b).2.1 := by decide +kernel
theorem tyJxa1e45_ok : ∀ k, k < 0 → parseFieldDescriptor (TJxa1e45 k).2.2.1 = some (tyJxa1e45 k) := by decide +kernel
abbrev cJxa1e45_init_da8c8 : ByteArray := prog_46_method_1_code
def yJxa1e45_init_da8c8 : MethodName := ⟨RJxa1e45, "<init>", "()V"⟩
def RJxc12de : String := "java/util/AbstractList"
def TJxc12de : u_T := fun k => match k with
  | _ => ("", "", "", false)
def tyJxc12de : Nat → FieldType := fun k => match k with
  | _ => .int
abbrev wsJxc12de0 : List Cond := u_ws RJxc12de TJxc12de 0
theorem nmJxc12de : ∀ a, a < 0 → ∀ b, b < 0 → a ≠ b → (TJxc12de a).2.1 ≠ (TJxc12de b).2.1 := by decide +kernel
theorem tyJxc12de_ok : ∀ k, k < 0 → parseFieldDescriptor (TJxc12de k).2.2.1 = some (tyJxc12de k) := by decide +kernel
abbrev cJxc12de_init_da8c8 : ByteArray := prog_47_method_1_code
def yJxc12de_init_da8c8 : MethodName := ⟨RJxc12de, "<init>", "()V"⟩
def RJx4a65c : String := "java/util/ArrayList"
def TJx4a65c : u_T := fun k => match k with
  | 0 => ("java/util/AbstractList", "modCount", "I", false)
  | 1 => ("java/util/ArrayList", "elementData", "[Ljava/lang/Object;", false)
  | _ => ("java/util/ArrayList", "size", "I", false)
def tyJx4a65c : Nat → FieldType := fun k => match k with
  | 0 => .int
  | 1 => .array (.object "java/lang/Object")
  | _ => .int
abbrev wsJx4a65c0 : List Cond := u_ws RJx4a65c TJx4a65c 3
theorem nmJx4a65c : ∀ a, a < 3 → ∀ b, b < 3 → a ≠ b → (TJx4a65c a).2.1 ≠ (TJx4a65c b).2.1 := by decide +kernel
theorem tyJx4a65c_ok : ∀ k, k < 3 → parseFieldDescriptor (TJx4a65c k).2.2.1 = some (tyJx4a65c k) := by decide +kernel
abbrev cJx4a65c_init_da8c8 : ByteArray := prog_48_method_2_code
def yJx4a65c_init_da8c8 : MethodName := ⟨RJx4a65c, "<init>", "()V"⟩
abbrev cJx4a65c_grow_92f84 : ByteArray := prog_48_method_6_code
def yJx4a65c_grow_92f84 : MethodName := ⟨RJx4a65c, "grow", "(I)[Ljava/lang/Object;"⟩
abbrev cJx4a65c_grow_d5877 : ByteArray := prog_48_method_7_code
def yJx4a65c_grow_d5877 : MethodName := ⟨RJx4a65c, "grow", "()[Ljava/lang/Object;"⟩
abbrev cJx4a65c_size_8abf5 : ByteArray := prog_48_method_8_code
def yJx4a65c_size_8abf5 : MethodName := ⟨RJx4a65c, "size", "()I"⟩
abbrev cJx4a65c_isEmpty_aae02 : ByteArray := prog_48_method_9_code
def yJx4a65c_isEmpty_aae02 : MethodName := ⟨RJx4a65c, "isEmpty", "()Z"⟩
abbrev cJx4a65c_elementData_915e3 : ByteArray := prog_48_method_18_code
def yJx4a65c_elementData_915e3 : MethodName := ⟨RJx4a65c, "elementData", "(I)Ljava/lang/Object;"⟩
abbrev cJx4a65c_get_915e3 : ByteArray := prog_48_method_20_code
def yJx4a65c_get_915e3 : MethodName := ⟨RJx4a65c, "get", "(I)Ljava/lang/Object;"⟩
abbrev cJx4a65c_set_bcc79 : ByteArray := prog_48_method_23_code
def yJx4a65c_set_bcc79 : MethodName := ⟨RJx4a65c, "set", "(ILjava/lang/Object;)Ljava/lang/Object;"⟩
abbrev cJx4a65c_add_72be8 : ByteArray := prog_48_method_24_code
def yJx4a65c_add_72be8 : MethodName := ⟨RJx4a65c, "add", "(Ljava/lang/Object;[Ljava/lang/Object;I)V"⟩
abbrev cJx4a65c_add_9ea2d : ByteArray := prog_48_method_25_code
def yJx4a65c_add_9ea2d : MethodName := ⟨RJx4a65c, "add", "(Ljava/lang/Object;)Z"⟩
abbrev cJx4a65c_remove_915e3 : ByteArray := prog_48_method_29_code
def yJx4a65c_remove_915e3 : MethodName := ⟨RJx4a65c, "remove", "(I)Ljava/lang/Object;"⟩
abbrev cJx4a65c_fastRemove_b59b0 : ByteArray := prog_48_method_39_code
def yJx4a65c_fastRemove_b59b0 : MethodName := ⟨RJx4a65c, "fastRemove", "([Ljava/lang/Object;I)V"⟩
abbrev cJx4a65c_clear_da8c8 : ByteArray := prog_48_method_40_code
def yJx4a65c_clear_da8c8 : MethodName := ⟨RJx4a65c, "clear", "()V"⟩
def RJ7 : String := "java/util/Arrays"
def TJ7 : u_T := fun k => match k with
  | _ => ("", "", "", false)
def tyJ7 : Nat → FieldType := fun k => match k with
  | _ => .int
abbrev wsJ70 : List Cond := u_ws RJ7 TJ7 0
theorem nmJ7 : ∀ a, a < 0 → ∀ b, b < 0 → a ≠ b → (TJ7 a).2.1 ≠ (TJ7 b).2.1 := by decide +kernel
theorem tyJ7_ok : ∀ k, k < 0 → parseFieldDescriptor (TJ7 k).2.2.1 = some (tyJ7 k) := by decide +kernel
abbrev cJ7_rangeCheck_23922 : ByteArray := prog_49_method_30_code
def yJ7_rangeCheck_23922 : MethodName := ⟨RJ7, "rangeCheck", "(III)V"⟩
abbrev cJ7_fill_eb02e : ByteArray := prog_49_method_110_code
def yJ7_fill_eb02e : MethodName := ⟨RJ7, "fill", "([BIIB)V"⟩
abbrev cJ7_copyOf_1904c : ByteArray := prog_49_method_119_code
def yJ7_copyOf_1904c : MethodName := ⟨RJ7, "copyOf", "([Ljava/lang/Object;I)[Ljava/lang/Object;"⟩
abbrev cJ7_copyOf_6403c : ByteArray := prog_49_method_120_code
def yJ7_copyOf_6403c : MethodName := ⟨RJ7, "copyOf", "([Ljava/lang/Object;ILjava/lang/Class;)[Ljava/lang/Object;"⟩
abbrev cJ7_copyOf_9075b : ByteArray := prog_49_method_121_code
def yJ7_copyOf_9075b : MethodName := ⟨RJ7, "copyOf", "([BI)[B"⟩
abbrev cJ7_checkLength_df160 : ByteArray := prog_49_method_131_code
def yJ7_checkLength_df160 : MethodName := ⟨RJ7, "checkLength", "(II)V"⟩
abbrev cJ7_copyOfRange_39247 : ByteArray := prog_49_method_132_code
def yJ7_copyOfRange_39247 : MethodName := ⟨RJ7, "copyOfRange", "([BII)[B"⟩
abbrev cJ7_copyOfRangeByte_39247 : ByteArray := prog_49_method_133_code
def yJ7_copyOfRangeByte_39247 : MethodName := ⟨RJ7, "copyOfRangeByte", "([BII)[B"⟩
def RJx5ef63 : String := "java/util/Collection"
def TJx5ef63 : u_T := fun k => match k with
  | _ => ("", "", "", false)
def tyJx5ef63 : Nat → FieldType := fun k => match k with
  | _ => .int
abbrev wsJx5ef630 : List Cond := u_ws RJx5ef63 TJx5ef63 0
theorem nmJx5ef63 : ∀ a, a < 0 → ∀ b, b < 0 → a ≠ b → (TJx5ef63 a).2.1 ≠ (TJx5ef63 b).2.1 := by decide +kernel
theorem tyJx5ef63_ok : ∀ k, k < 0 → parseFieldDescriptor (TJx5ef63 k).2.2.1 = some (tyJx5ef63 k) := by decide +kernel
def RJxbd725 : String := "java/util/List"
def TJxbd725 : u_T := fun k => match k with
  | _ => ("", "", "", false)
def tyJxbd725 : Nat → FieldType := fun k => match k with
  | _ => .int
abbrev wsJxbd7250 : List Cond := u_ws RJxbd725 TJxbd725 0
theorem nmJxbd725 : ∀ a, a < 0 → ∀ b, b < 0 → a ≠ b → (TJxbd725 a).2.1 ≠ (TJxbd725 b).2.1 := by decide +kernel
theorem tyJxbd725_ok : ∀ k, k < 0 → parseFieldDescriptor (TJxbd725 k).2.2.1 = some (tyJxbd725 k) := by decide +kernel
def RJ15 : String := "java/util/Objects"
def TJ15 : u_T := fun k => match k with
  | _ => ("", "", "", false)
def tyJ15 : Nat → FieldType := fun k => match k with
  | _ => .int
abbrev wsJ150 : List Cond := u_ws RJ15 TJ15 0
theorem nmJ15 : ∀ a, a < 0 → ∀ b, b < 0 → a ≠ b → (TJ15 a).2.1 ≠ (TJ15 b).2.1 := by decide +kernel
theorem tyJ15_ok : ∀ k, k < 0 → parseFieldDescriptor (TJ15 k).2.2.1 = some (tyJ15 k) := by decide +kernel
abbrev cJ15_checkIndex_7cf53 : ByteArray := prog_53_method_17_code
def yJ15_checkIndex_7cf53 : MethodName := ⟨RJ15, "checkIndex", "(II)I"⟩
def RJxf0a74 : String := "java/util/RandomAccess"
def TJxf0a74 : u_T := fun k => match k with
  | _ => ("", "", "", false)
def tyJxf0a74 : Nat → FieldType := fun k => match k with
  | _ => .int
abbrev wsJxf0a740 : List Cond := u_ws RJxf0a74 TJxf0a74 0
theorem nmJxf0a74 : ∀ a, a < 0 → ∀ b, b < 0 → a ≠ b → (TJxf0a74 a).2.1 ≠ (TJxf0a74 b).2.1 := by decide +kernel
theorem tyJxf0a74_ok : ∀ k, k < 0 → parseFieldDescriptor (TJxf0a74 k).2.2.1 = some (tyJxf0a74 k) := by decide +kernel
def RJxa66e6 : String := "java/util/SequencedCollection"
def TJxa66e6 : u_T := fun k => match k with
  | _ => ("", "", "", false)
def tyJxa66e6 : Nat → FieldType := fun k => match k with
  | _ => .int
abbrev wsJxa66e60 : List Cond := u_ws RJxa66e6 TJxa66e6 0
theorem nmJxa66e6 : ∀ a, a < 0 → ∀ b, b < 0 → a ≠ b → (TJxa66e6 a).2.1 ≠ (TJxa66e6 b).2.1 := by decide +kernel
theorem tyJxa66e6_ok : ∀ k, k < 0 → parseFieldDescriptor (TJxa66e6 k).2.2.1 = some (tyJxa66e6 k) := by decide +kernel
def RJ8 : String := "jdk/internal/util/ArraysSupport"
def TJ8 : u_T := fun k => match k with
  | _ => ("", "", "", false)
def tyJ8 : Nat → FieldType := fun k => match k with
  | _ => .int
abbrev wsJ80 : List Cond := u_ws RJ8 TJ8 0
theorem nmJ8 : ∀ a, a < 0 → ∀ b, b < 0 → a ≠ b → (TJ8 a).2.1 ≠ (TJ8 b).2.1 := by decide +kernel
theorem tyJ8_ok : ∀ k, k < 0 → parseFieldDescriptor (TJ8 k).2.2.1 = some (tyJ8 k) := by decide +kernel
abbrev cJ8_newLength_cabcc : ByteArray := prog_56_method_27_code
def yJ8_newLength_cabcc : MethodName := ⟨RJ8, "newLength", "(III)I"⟩
abbrev cJ8_hugeLength_7cf53 : ByteArray := prog_56_method_28_code
def yJ8_hugeLength_7cf53 : MethodName := ⟨RJ8, "hugeLength", "(II)I"⟩
def RJ3 : String := "jdk/internal/util/Preconditions"
def TJ3 : u_T := fun k => match k with
  | _ => ("", "", "", false)
def tyJ3 : Nat → FieldType := fun k => match k with
  | _ => .int
abbrev wsJ30 : List Cond := u_ws RJ3 TJ3 0
theorem nmJ3 : ∀ a, a < 0 → ∀ b, b < 0 → a ≠ b → (TJ3 a).2.1 ≠ (TJ3 b).2.1 := by decide +kernel
theorem tyJ3_ok : ∀ k, k < 0 → parseFieldDescriptor (TJ3 k).2.2.1 = some (tyJ3 k) := by decide +kernel
abbrev cJ3_checkIndex_8e157 : ByteArray := prog_57_method_11_code
def yJ3_checkIndex_8e157 : MethodName := ⟨RJ3, "checkIndex", "(IILjava/util/function/BiFunction;)I"⟩
abbrev cJ3_checkFromToIndex_8c36e : ByteArray := prog_57_method_12_code
def yJ3_checkFromToIndex_8c36e : MethodName := ⟨RJ3, "checkFromToIndex", "(IIILjava/util/function/BiFunction;)I"⟩
abbrev cJ3_checkFromIndexSize_8c36e : ByteArray := prog_57_method_13_code
def yJ3_checkFromIndexSize_8c36e : MethodName := ⟨RJ3, "checkFromIndexSize", "(IIILjava/util/function/BiFunction;)I"⟩
def RL : String := "StoneGazetteLaw"
abbrev cL_cell : ByteArray := method_2_code
def yL_cell : MethodName := ⟨RL, "cell", "([II)I"⟩
abbrev cL_type : ByteArray := method_3_code
def yL_type : MethodName := ⟨RL, "type", "(LStoneGazette;C)I"⟩
abbrev cL_addArticle : ByteArray := method_4_code
def yL_addArticle : MethodName := ⟨RL, "addArticle", "(LStoneGazette;I)I"⟩
abbrev cL_remove : ByteArray := method_5_code
def yL_remove : MethodName := ⟨RL, "remove", "(LStoneGazette;I)I"⟩
abbrev cL_correct : ByteArray := method_6_code
def yL_correct : MethodName := ⟨RL, "correct", "(LStoneGazette;II)I"⟩
abbrev cL_articleAt : ByteArray := method_7_code
def yL_articleAt : MethodName := ⟨RL, "articleAt", "(LStoneGazette;I)I"⟩
abbrev cL_byPriority : ByteArray := method_8_code
def yL_byPriority : MethodName := ⟨RL, "byPriority", "(LStoneGazette;I)I"⟩
abbrev cL_priority : ByteArray := method_9_code
def yL_priority : MethodName := ⟨RL, "priority", "(LStoneGazette;I)I"⟩
abbrev cL_wordCount : ByteArray := method_10_code
def yL_wordCount : MethodName := ⟨RL, "wordCount", "(LStoneGazette;I)I"⟩
abbrev cL_wordLength : ByteArray := method_11_code
def yL_wordLength : MethodName := ⟨RL, "wordLength", "(LStoneGazette;II)I"⟩
abbrev cL_divisions : ByteArray := method_12_code
def yL_divisions : MethodName := ⟨RL, "divisions", "(LStoneGazette;II)I"⟩
abbrev cL_canDivide : ByteArray := method_13_code
def yL_canDivide : MethodName := ⟨RL, "canDivide", "(LStoneGazette;III)I"⟩
abbrev cL_setWidth : ByteArray := method_14_code
def yL_setWidth : MethodName := ⟨RL, "setWidth", "(LStoneGazette;I)I"⟩
abbrev cL_canBeSet : ByteArray := method_15_code
def yL_canBeSet : MethodName := ⟨RL, "canBeSet", "(LStoneGazette;I)I"⟩
abbrev cL_lineCount : ByteArray := method_16_code
def yL_lineCount : MethodName := ⟨RL, "lineCount", "(LStoneGazette;I)I"⟩
abbrev cL_lineLength : ByteArray := method_17_code
def yL_lineLength : MethodName := ⟨RL, "lineLength", "(LStoneGazette;II)I"⟩
abbrev cL_hyphens : ByteArray := method_18_code
def yL_hyphens : MethodName := ⟨RL, "hyphens", "(LStoneGazette;I)I"⟩
abbrev cL_writeLine : ByteArray := method_19_code
def yL_writeLine : MethodName := ⟨RL, "writeLine", "(LStoneGazette;II)I"⟩
abbrev cL_smallest : ByteArray := method_20_code
def yL_smallest : MethodName := ⟨RL, "smallest", "(LStoneGazette;I)I"⟩
abbrev cL_badness : ByteArray := method_21_code
def yL_badness : MethodName := ⟨RL, "badness", "(LStoneGazette;I)I"⟩
abbrev cL_forward : ByteArray := method_22_code
def yL_forward : MethodName := ⟨RL, "forward", "(LStoneGazette;I)I"⟩
abbrev cL_setPage : ByteArray := method_23_code
def yL_setPage : MethodName := ⟨RL, "setPage", "(LStoneGazette;II)I"⟩
abbrev cL_prints : ByteArray := method_24_code
def yL_prints : MethodName := ⟨RL, "prints", "(LStoneGazette;)I"⟩
abbrev cL_articlesIn : ByteArray := method_25_code
def yL_articlesIn : MethodName := ⟨RL, "articlesIn", "(LStoneGazette;I)I"⟩
abbrev cL_linesIn : ByteArray := method_26_code
def yL_linesIn : MethodName := ⟨RL, "linesIn", "(LStoneGazette;I)I"⟩
abbrev cL_columnOf : ByteArray := method_27_code
def yL_columnOf : MethodName := ⟨RL, "columnOf", "(LStoneGazette;II)I"⟩
abbrev cL_rowOf : ByteArray := method_28_code
def yL_rowOf : MethodName := ⟨RL, "rowOf", "(LStoneGazette;II)I"⟩
abbrev cL_pass : ByteArray := method_29_code
def yL_pass : MethodName := ⟨RL, "pass", "(LStoneGazette;I)I"⟩
abbrev cL_freshBits : ByteArray := method_30_code
def yL_freshBits : MethodName := ⟨RL, "freshBits", "(LStoneGazette;I)I"⟩
abbrev cL_isReadable : ByteArray := method_31_code
def yL_isReadable : MethodName := ⟨RL, "isReadable", "(LStoneGazette;I)I"⟩
abbrev cL_daysUntil : ByteArray := method_32_code
def yL_daysUntil : MethodName := ⟨RL, "daysUntil", "(LStoneGazette;I)I"⟩
abbrev cL_writeArticle : ByteArray := method_33_code
def yL_writeArticle : MethodName := ⟨RL, "writeArticle", "(LStoneGazette;I)I"⟩
abbrev cL_outputAt : ByteArray := method_34_code
def yL_outputAt : MethodName := ⟨RL, "outputAt", "(LStoneGazette;I)I"⟩
abbrev cL_feed : ByteArray := method_35_code
def yL_feed : MethodName := ⟨RL, "feed", "(LStoneGazette;C)I"⟩
abbrev cL_executes : ByteArray := method_36_code
def yL_executes : MethodName := ⟨RL, "executes", "(LStoneGazette;)I"⟩
abbrev cL_undo : ByteArray := method_39_code
def yL_undo : MethodName := ⟨RL, "undo", "(LStoneGazette;)I"⟩
abbrev cL_execute : ByteArray := method_40_code
def yL_execute : MethodName := ⟨RL, "execute", "(LStoneGazette;Ljava/lang/String;)I"⟩
abbrev cL_types : ByteArray := method_41_code
def yL_types : MethodName := ⟨RL, "types", "(LStoneGazette;Ljava/lang/String;)Z"⟩
abbrev cL_drawnWord : ByteArray := method_42_code
def yL_drawnWord : MethodName := ⟨RL, "drawnWord", "(I)Ljava/lang/String;"⟩
abbrev cL_drawnText : ByteArray := method_43_code
def yL_drawnText : MethodName := ⟨RL, "drawnText", "(I)Ljava/lang/String;"⟩
abbrev cL_drawn : ByteArray := method_44_code
def yL_drawn : MethodName := ⟨RL, "drawn", "([I)LStoneGazette;"⟩
abbrev cL_spells : ByteArray := method_45_code
def yL_spells : MethodName := ⟨RL, "spells", "(LStoneGazette;ILjava/lang/String;)Z"⟩
abbrev cL_wordsOf : ByteArray := method_46_code
def yL_wordsOf : MethodName := ⟨RL, "wordsOf", "(LStoneGazette;I)[Ljava/lang/String;"⟩
abbrev cL_isVowel : ByteArray := method_47_code
def yL_isVowel : MethodName := ⟨RL, "isVowel", "(C)Z"⟩
abbrev cL_divides : ByteArray := method_48_code
def yL_divides : MethodName := ⟨RL, "divides", "(Ljava/lang/String;I)Z"⟩
abbrev cL_linesOf : ByteArray := method_49_code
def yL_linesOf : MethodName := ⟨RL, "linesOf", "([Ljava/lang/String;I)Ljava/lang/String;"⟩
abbrev cL_many : ByteArray := method_50_code
def yL_many : MethodName := ⟨RL, "many", "(Ljava/lang/String;C)I"⟩
abbrev cL_law : ByteArray := code
def yL_law : MethodName := ⟨RL, "law", "([I)Z"⟩
abbrev cL_articles : ByteArray := method_52_code
def yL_articles : MethodName := ⟨RL, "articles", "(LStoneGazette;)Z"⟩
abbrev cL_leastOf : ByteArray := method_53_code
def yL_leastOf : MethodName := ⟨RL, "leastOf", "([Ljava/lang/String;II)I"⟩
abbrev cL_lines : ByteArray := method_54_code
def yL_lines : MethodName := ⟨RL, "lines", "(LStoneGazette;)Z"⟩
abbrev cL_issues : ByteArray := method_55_code
def yL_issues : MethodName := ⟨RL, "issues", "(LStoneGazette;)Z"⟩
abbrev cL_sum : ByteArray := method_56_code
def yL_sum : MethodName := ⟨RL, "sum", "(LStoneGazette;)J"⟩
abbrev cL_undone : ByteArray := method_57_code
def yL_undone : MethodName := ⟨RL, "undone", "([ILStoneGazette;)Z"⟩
abbrev vwCl : List vw_C := [(RJ0, TJ0, 4), (RJ4, TJ4, 4), (RJx00060, TJx00060, 6), (RJx7c733, TJx7c733, 6), (RJx4a65c, TJx4a65c, 3), (RX1, TX1, 3), (RX2, TX2, 2), (RX3, TX3, 3), (RX4, TX4, 2), (RX5, TX5, 1), (RX6, TX6, 3), (RX8, TX8, 5), (RX9, TX9, 6), (RX10, TX10, 9), (RX11, TX11, 2), (RX12, TX12, 11)]
