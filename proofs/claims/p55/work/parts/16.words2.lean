theorem qt_L_byPriority : Cond.static yL_byPriority ∈ ZALL := zin (i := 1299) (by decide +kernel) rfl
theorem qc_L_byPriority : Cond.codeWith ({ cls := "StoneGazetteLaw", name := "byPriority", desc := "(LStoneGazette;I)I" } : MethodName) method_8_code (3 : Nat) (Option.some FieldType.int) [((0 : Nat), (5 : Nat), (6 : Nat), (33 : Nat))] ∈ ZALL := zin (i := 1300) (by decide +kernel) rfl
theorem qm_L_38 : Cond.methodLink RL 38 yX12_articleByPriority  ∈ ZALL := zin (i := 1301) (by decide +kernel) rfl
theorem qi_X12_articleByPriority : Cond.instanceMethod yX12_articleByPriority ∈ ZALL := zin (i := 1302) (by decide +kernel) rfl
theorem qs_X12_articleByPriority : Cond.selects RX12 yX12_articleByPriority yX12_articleByPriority ∈ ZALL := zin (i := 1303) (by decide +kernel) rfl
theorem qc_X12_articleByPriority : Cond.code yX12_articleByPriority cX12_articleByPriority (3 : Nat) (Option.some FieldType.int) ∈ ZALL := zin (i := 1304) (by decide +kernel) rfl
theorem qm_X12_175 : Cond.methodLink RX12 175 yX10_ranked  ∈ ZALL := zin (i := 1305) (by decide +kernel) rfl
theorem qm_L_285 : Cond.methodLink RL 285 yL_priority  ∈ ZALL := zin (i := 1307) (by decide +kernel) rfl
theorem qt_L_priority : Cond.static yL_priority ∈ ZALL := zin (i := 1308) (by decide +kernel) rfl
theorem qc_L_priority : Cond.codeWith ({ cls := "StoneGazetteLaw", name := "priority", desc := "(LStoneGazette;I)I" } : MethodName) method_9_code (3 : Nat) (Option.some FieldType.int) [((0 : Nat), (5 : Nat), (6 : Nat), (27 : Nat))] ∈ ZALL := zin (i := 1309) (by decide +kernel) rfl
theorem qm_L_287 : Cond.methodLink RL 287 yL_spells  ∈ ZALL := zin (i := 1310) (by decide +kernel) rfl
theorem qt_L_spells : Cond.static yL_spells ∈ ZALL := zin (i := 1311) (by decide +kernel) rfl
theorem qc_L_spells : Cond.code yL_spells cL_spells (5 : Nat) (Option.some FieldType.boolean) ∈ ZALL := zin (i := 1312) (by decide +kernel) rfl
theorem qm_L_291 : Cond.methodLink RL 291 yX12_meanWordLength  ∈ ZALL := zin (i := 1313) (by decide +kernel) rfl
theorem qi_X12_meanWordLength : Cond.instanceMethod yX12_meanWordLength ∈ ZALL := zin (i := 1314) (by decide +kernel) rfl
theorem qs_X12_meanWordLength : Cond.selects RX12 yX12_meanWordLength yX12_meanWordLength ∈ ZALL := zin (i := 1315) (by decide +kernel) rfl
theorem qc_X12_meanWordLength : Cond.code yX12_meanWordLength cX12_meanWordLength (5 : Nat) (Option.some FieldType.double) ∈ ZALL := zin (i := 1316) (by decide +kernel) rfl
theorem qm_X12_329 : Cond.methodLink RX12 329 yX1_countLetters  ∈ ZALL := zin (i := 1317) (by decide +kernel) rfl
theorem qi_X1_countLetters : Cond.instanceMethod yX1_countLetters ∈ ZALL := zin (i := 1318) (by decide +kernel) rfl
theorem qs_X1_countLetters : Cond.selects RX1 yX1_countLetters yX1_countLetters ∈ ZALL := zin (i := 1319) (by decide +kernel) rfl
theorem qc_X1_countLetters : Cond.code yX1_countLetters cX1_countLetters (6 : Nat) (Option.some FieldType.int) ∈ ZALL := zin (i := 1320) (by decide +kernel) rfl
theorem qm_X1_28 : Cond.methodLink RX1 28 yX11_letterCount  ∈ ZALL := zin (i := 1321) (by decide +kernel) rfl
theorem qk_X12_332 : Cond.classLink RX12 332 "java/lang/ArithmeticException" ∈ ZALL := zin (i := 1322) (by decide +kernel) rfl
theorem qx_java_lang_ArithmeticException : Cond.instantiable "java/lang/ArithmeticException" 6 ∈ ZALL := zin (i := 1323) (by decide +kernel) rfl
theorem q_1453 : Cond.castable "java/lang/ArithmeticException" "java/lang/ArithmeticException" ∈ ZNW := znin (i := 1324) (by decide +kernel) rfl
theorem qs_java_lang_Throwable_fillInStackTrace_ad160_java_lang_ArithmeticException : Cond.selects "java/lang/ArithmeticException" ⟨"java/lang/Throwable", "fillInStackTrace", "(I)Ljava/lang/Throwable;"⟩ ⟨"java/lang/Throwable", "fillInStackTrace", "(I)Ljava/lang/Throwable;"⟩ ∈ ZALL := zin (i := 1325) (by decide +kernel) rfl
theorem qm_X12_334 : Cond.methodLink RX12 334 ⟨"java/lang/ArithmeticException", "<init>", "(Ljava/lang/String;)V"⟩  ∈ ZALL := zin (i := 1331) (by decide +kernel) rfl
theorem qi_java_lang_ArithmeticException_init_a7421 : Cond.instanceMethod ⟨"java/lang/ArithmeticException", "<init>", "(Ljava/lang/String;)V"⟩ ∈ ZALL := zin (i := 1332) (by decide +kernel) rfl
theorem qc_java_lang_ArithmeticException_init_a7421 : Cond.code ⟨"java/lang/ArithmeticException", "<init>", "(Ljava/lang/String;)V"⟩ prog_19_method_2_code (2 : Nat) (Option.none : Option Jvm.ClassFile.FieldType) ∈ ZALL := zin (i := 1333) (by decide +kernel) rfl
theorem qm_java_lang_ArithmeticException_7 : Cond.methodLink "java/lang/ArithmeticException" 7 ⟨"java/lang/RuntimeException", "<init>", "(Ljava/lang/String;)V"⟩  ∈ ZALL := zin (i := 1334) (by decide +kernel) rfl
theorem q_1452 : Cond.superclass "java/lang/ArithmeticException" "java/lang/RuntimeException" ∈ ZALL := zin (i := 1336) (by decide +kernel) rfl
theorem qm_L_295 : Cond.methodLink RL 295 yL_wordCount  ∈ ZALL := zin (i := 1337) (by decide +kernel) rfl
theorem qt_L_wordCount : Cond.static yL_wordCount ∈ ZALL := zin (i := 1338) (by decide +kernel) rfl
theorem qc_L_wordCount : Cond.codeWith ({ cls := "StoneGazetteLaw", name := "wordCount", desc := "(LStoneGazette;I)I" } : MethodName) method_10_code (3 : Nat) (Option.some FieldType.int) [((0 : Nat), (5 : Nat), (6 : Nat), (27 : Nat))] ∈ ZALL := zin (i := 1339) (by decide +kernel) rfl
theorem qm_L_248 : Cond.methodLink RL 248 yL_lines  ∈ ZALL := zin (i := 1340) (by decide +kernel) rfl
theorem qt_L_lines : Cond.static yL_lines ∈ ZALL := zin (i := 1341) (by decide +kernel) rfl
theorem qc_L_lines : Cond.code yL_lines cL_lines (12 : Nat) (Option.some FieldType.boolean) ∈ ZALL := zin (i := 1342) (by decide +kernel) rfl
theorem qm_L_307 : Cond.methodLink RL 307 yX12_width  ∈ ZALL := zin (i := 1343) (by decide +kernel) rfl
theorem qi_X12_width : Cond.instanceMethod yX12_width ∈ ZALL := zin (i := 1344) (by decide +kernel) rfl
theorem qs_X12_width : Cond.selects RX12 yX12_width yX12_width ∈ ZALL := zin (i := 1345) (by decide +kernel) rfl
theorem qc_X12_width : Cond.code yX12_width cX12_width (1 : Nat) (Option.some FieldType.int) ∈ ZALL := zin (i := 1346) (by decide +kernel) rfl
theorem qm_L_310 : Cond.methodLink RL 310 yL_linesOf  ∈ ZALL := zin (i := 1347) (by decide +kernel) rfl
theorem qt_L_linesOf : Cond.static yL_linesOf ∈ ZALL := zin (i := 1348) (by decide +kernel) rfl
theorem qc_L_linesOf : Cond.code yL_linesOf cL_linesOf (13 : Nat) (Option.some (FieldType.object "java/lang/String")) ∈ ZALL := zin (i := 1349) (by decide +kernel) rfl
theorem qm_L_230 : Cond.methodLink RL 230 yJ0_substring_b52d3  ∈ ZALL := zin (i := 1350) (by decide +kernel) rfl
theorem qi_J0_substring_b52d3 : Cond.instanceMethod yJ0_substring_b52d3 ∈ ZALL := zin (i := 1351) (by decide +kernel) rfl
theorem qs_J0_substring_b52d3 : Cond.selects RJ0 yJ0_substring_b52d3 yJ0_substring_b52d3 ∈ ZALL := zin (i := 1352) (by decide +kernel) rfl
theorem qc_J0_substring_b52d3 : Cond.code yJ0_substring_b52d3 cJ0_substring_b52d3 (2 : Nat) (Option.some (FieldType.object "java/lang/String")) ∈ ZALL := zin (i := 1353) (by decide +kernel) rfl
theorem qm_J0_681 : Cond.methodLink RJ0 681 yJ0_substring_37a41  ∈ ZALL := zin (i := 1354) (by decide +kernel) rfl
theorem qi_J0_substring_37a41 : Cond.instanceMethod yJ0_substring_37a41 ∈ ZALL := zin (i := 1355) (by decide +kernel) rfl
theorem qs_J0_substring_37a41 : Cond.selects RJ0 yJ0_substring_37a41 yJ0_substring_37a41 ∈ ZALL := zin (i := 1356) (by decide +kernel) rfl
theorem qc_J0_substring_37a41 : Cond.code yJ0_substring_37a41 cJ0_substring_37a41 (5 : Nat) (Option.some (FieldType.object "java/lang/String")) ∈ ZALL := zin (i := 1357) (by decide +kernel) rfl
theorem qm_J0_521 : Cond.methodLink RJ0 521 yJ0_checkBoundsBeginEnd_23922  ∈ ZALL := zin (i := 1358) (by decide +kernel) rfl
theorem qm_J0_685 : Cond.methodLink RJ0 685 yJ1_newString_b4f7a  ∈ ZALL := zin (i := 1359) (by decide +kernel) rfl
theorem qt_J1_newString_b4f7a : Cond.static yJ1_newString_b4f7a ∈ ZALL := zin (i := 1360) (by decide +kernel) rfl
theorem qc_J1_newString_b4f7a : Cond.code yJ1_newString_b4f7a cJ1_newString_b4f7a (3 : Nat) (Option.some (FieldType.object "java/lang/String")) ∈ ZALL := zin (i := 1361) (by decide +kernel) rfl
theorem qk_J1_1 : Cond.classLink RJ1 1 RJ0 ∈ ZALL := zin (i := 1363) (by decide +kernel) rfl
theorem qm_J1_232 : Cond.methodLink RJ1 232 yJ7_copyOfRange_39247  ∈ ZALL := zin (i := 1364) (by decide +kernel) rfl
theorem qm_J1_112 : Cond.methodLink RJ1 112 yJ0_init_031fb  ∈ ZALL := zin (i := 1365) (by decide +kernel) rfl
theorem qi_J0_init_031fb : Cond.instanceMethod yJ0_init_031fb ∈ ZALL := zin (i := 1366) (by decide +kernel) rfl
theorem qc_J0_init_031fb : Cond.code yJ0_init_031fb cJ0_init_031fb (3 : Nat) (Option.none : Option Jvm.ClassFile.FieldType) ∈ ZALL := zin (i := 1367) (by decide +kernel) rfl
theorem qm_J0_689 : Cond.methodLink RJ0 689 yJ2_newString_b4f7a  ∈ ZALL := zin (i := 1368) (by decide +kernel) rfl
theorem qt_J2_newString_b4f7a : Cond.static yJ2_newString_b4f7a ∈ ZALL := zin (i := 1369) (by decide +kernel) rfl
theorem qc_J2_newString_b4f7a : Cond.code yJ2_newString_b4f7a cJ2_newString_b4f7a (5 : Nat) (Option.some (FieldType.object "java/lang/String")) ∈ ZALL := zin (i := 1370) (by decide +kernel) rfl
theorem ql_J2_251 : Cond.fieldLink RJ2 251 "java/lang/String" "COMPACT_STRINGS" "Z" ∈ ZALL := zin (i := 1372) (by decide +kernel) rfl
theorem qm_J2_257 : Cond.methodLink RJ2 257 yJ2_compress_39247  ∈ ZALL := zin (i := 1373) (by decide +kernel) rfl
theorem qm_J2_259 : Cond.methodLink RJ2 259 yJ2_coderFromArrayLen_85cad  ∈ ZALL := zin (i := 1374) (by decide +kernel) rfl
theorem qk_J2_3 : Cond.classLink RJ2 3 RJ0 ∈ ZALL := zin (i := 1375) (by decide +kernel) rfl
theorem qm_J2_263 : Cond.methodLink RJ2 263 yJ0_init_031fb  ∈ ZALL := zin (i := 1376) (by decide +kernel) rfl
theorem qm_L_233 : Cond.methodLink RL 233 yJ0_substring_37a41  ∈ ZALL := zin (i := 1377) (by decide +kernel) rfl
theorem qm_L_314 : Cond.methodLink RL 314 yL_many  ∈ ZALL := zin (i := 1380) (by decide +kernel) rfl
theorem qt_L_many : Cond.static yL_many ∈ ZALL := zin (i := 1381) (by decide +kernel) rfl
theorem qc_L_many : Cond.code yL_many cL_many (4 : Nat) (Option.some FieldType.int) ∈ ZALL := zin (i := 1382) (by decide +kernel) rfl
theorem qm_L_318 : Cond.methodLink RL 318 yJ9_max_7cf53  ∈ ZALL := zin (i := 1383) (by decide +kernel) rfl
theorem qm_L_321 : Cond.methodLink RL 321 yL_badness  ∈ ZALL := zin (i := 1384) (by decide +kernel) rfl
theorem qt_L_badness : Cond.static yL_badness ∈ ZALL := zin (i := 1385) (by decide +kernel) rfl
theorem qc_L_badness : Cond.codeWith ({ cls := "StoneGazetteLaw", name := "badness", desc := "(LStoneGazette;I)I" } : MethodName) method_21_code (3 : Nat) (Option.some FieldType.int) [((0 : Nat), (5 : Nat), (6 : Nat), (27 : Nat)), ((0 : Nat), (5 : Nat), (10 : Nat), (22 : Nat))] ∈ ZALL := zin (i := 1386) (by decide +kernel) rfl
theorem qm_L_79 : Cond.methodLink RL 79 yX12_leastBadness  ∈ ZALL := zin (i := 1387) (by decide +kernel) rfl
theorem qi_X12_leastBadness : Cond.instanceMethod yX12_leastBadness ∈ ZALL := zin (i := 1388) (by decide +kernel) rfl
theorem qs_X12_leastBadness : Cond.selects RX12 yX12_leastBadness yX12_leastBadness ∈ ZALL := zin (i := 1389) (by decide +kernel) rfl
theorem qc_X12_leastBadness : Cond.code yX12_leastBadness cX12_leastBadness (2 : Nat) (Option.some FieldType.int) ∈ ZALL := zin (i := 1390) (by decide +kernel) rfl
theorem qm_X12_238 : Cond.methodLink RX12 238 yX12_knownNarrowArticle  ∈ ZALL := zin (i := 1391) (by decide +kernel) rfl
theorem qp_X12_knownNarrowArticle : Cond.privateMethod yX12_knownNarrowArticle ∈ ZNW := znin (i := 1392) (by decide +kernel) rfl
theorem qi_X12_knownNarrowArticle : Cond.instanceMethod yX12_knownNarrowArticle ∈ ZALL := zin (i := 1393) (by decide +kernel) rfl
theorem qc_X12_knownNarrowArticle : Cond.code yX12_knownNarrowArticle cX12_knownNarrowArticle (3 : Nat) (Option.some (FieldType.object "StoneGazette$Article")) ∈ ZALL := zin (i := 1394) (by decide +kernel) rfl
theorem qm_X12_398 : Cond.methodLink RX12 398 yX1_longestWord  ∈ ZALL := zin (i := 1395) (by decide +kernel) rfl
theorem qi_X1_longestWord : Cond.instanceMethod yX1_longestWord ∈ ZALL := zin (i := 1396) (by decide +kernel) rfl
theorem qs_X1_longestWord : Cond.selects RX1 yX1_longestWord yX1_longestWord ∈ ZALL := zin (i := 1397) (by decide +kernel) rfl
theorem qc_X1_longestWord : Cond.code yX1_longestWord cX1_longestWord (6 : Nat) (Option.some FieldType.int) ∈ ZALL := zin (i := 1398) (by decide +kernel) rfl
theorem qm_X1_34 : Cond.methodLink RX1 34 yJ9_max_7cf53  ∈ ZALL := zin (i := 1399) (by decide +kernel) rfl
theorem qm_X12_241 : Cond.methodLink RX12 241 yX5_fromLastWord  ∈ ZALL := zin (i := 1401) (by decide +kernel) rfl
theorem qi_X5_fromLastWord : Cond.instanceMethod yX5_fromLastWord ∈ ZALL := zin (i := 1402) (by decide +kernel) rfl
theorem qs_X5_fromLastWord : Cond.selects RX5 yX5_fromLastWord yX5_fromLastWord ∈ ZALL := zin (i := 1403) (by decide +kernel) rfl
theorem qc_X5_fromLastWord : Cond.code yX5_fromLastWord cX5_fromLastWord (5 : Nat) (Option.some FieldType.int) ∈ ZALL := zin (i := 1404) (by decide +kernel) rfl
theorem qm_X5_21 : Cond.methodLink RX5 21 yJ9_min_7cf53  ∈ ZALL := zin (i := 1405) (by decide +kernel) rfl
theorem qm_X5_27 : Cond.methodLink RX5 27 yX5_leastBehind  ∈ ZALL := zin (i := 1406) (by decide +kernel) rfl
theorem qp_X5_leastBehind : Cond.privateMethod yX5_leastBehind ∈ ZNW := znin (i := 1407) (by decide +kernel) rfl
theorem qi_X5_leastBehind : Cond.instanceMethod yX5_leastBehind ∈ ZALL := zin (i := 1408) (by decide +kernel) rfl
theorem qc_X5_leastBehind : Cond.code yX5_leastBehind cX5_leastBehind (9 : Nat) (Option.some FieldType.int) ∈ ZALL := zin (i := 1409) (by decide +kernel) rfl
theorem q_389 : Cond.constant "StoneGazette$EvenBreaker" (31 : Nat) (1000000 : Int32) ∈ ZALL := zin (i := 1410) (by decide +kernel) rfl
theorem qm_X5_32 : Cond.methodLink RX5 32 yX11_letterCount  ∈ ZALL := zin (i := 1411) (by decide +kernel) rfl
theorem qm_X5_38 : Cond.methodLink RX5 38 yX5_square  ∈ ZALL := zin (i := 1412) (by decide +kernel) rfl
theorem qt_X5_square : Cond.static yX5_square ∈ ZALL := zin (i := 1413) (by decide +kernel) rfl
theorem qc_X5_square : Cond.code yX5_square cX5_square (1 : Nat) (Option.some FieldType.int) ∈ ZALL := zin (i := 1414) (by decide +kernel) rfl
theorem qm_L_298 : Cond.methodLink RL 298 yL_leastOf  ∈ ZALL := zin (i := 1415) (by decide +kernel) rfl
theorem qt_L_leastOf : Cond.static yL_leastOf ∈ ZALL := zin (i := 1416) (by decide +kernel) rfl
theorem qc_L_leastOf : Cond.code yL_leastOf cL_leastOf (7 : Nat) (Option.some FieldType.int) ∈ ZALL := zin (i := 1417) (by decide +kernel) rfl
theorem qz_1418 : Cond.constant "StoneGazetteLaw" (297 : Nat) (999999 : Int32) ∈ ZALL := zin (i := 1418) (by decide +kernel) rfl
theorem qm_L_302 : Cond.methodLink RL 302 yJ9_min_7cf53  ∈ ZALL := zin (i := 1419) (by decide +kernel) rfl
theorem qm_L_324 : Cond.methodLink RL 324 yL_smallest  ∈ ZALL := zin (i := 1420) (by decide +kernel) rfl
theorem qt_L_smallest : Cond.static yL_smallest ∈ ZALL := zin (i := 1421) (by decide +kernel) rfl
theorem qc_L_smallest : Cond.codeWith ({ cls := "StoneGazetteLaw", name := "smallest", desc := "(LStoneGazette;I)I" } : MethodName) method_20_code (3 : Nat) (Option.some FieldType.int) [((0 : Nat), (5 : Nat), (6 : Nat), (27 : Nat))] ∈ ZALL := zin (i := 1422) (by decide +kernel) rfl
theorem qm_L_76 : Cond.methodLink RL 76 yX12_smallestWidth  ∈ ZALL := zin (i := 1423) (by decide +kernel) rfl
theorem qi_X12_smallestWidth : Cond.instanceMethod yX12_smallestWidth ∈ ZALL := zin (i := 1424) (by decide +kernel) rfl
theorem qs_X12_smallestWidth : Cond.selects RX12 yX12_smallestWidth yX12_smallestWidth ∈ ZALL := zin (i := 1425) (by decide +kernel) rfl
theorem qc_X12_smallestWidth : Cond.code yX12_smallestWidth cX12_smallestWidth (4 : Nat) (Option.some FieldType.int) ∈ ZALL := zin (i := 1426) (by decide +kernel) rfl
theorem qm_X12_208 : Cond.methodLink RX12 208 yX8_arrange  ∈ ZALL := zin (i := 1427) (by decide +kernel) rfl
theorem qm_L_327 : Cond.methodLink RL 327 yL_canBeSet  ∈ ZALL := zin (i := 1428) (by decide +kernel) rfl
theorem qt_L_canBeSet : Cond.static yL_canBeSet ∈ ZALL := zin (i := 1429) (by decide +kernel) rfl
theorem qc_L_canBeSet : Cond.codeWith ({ cls := "StoneGazetteLaw", name := "canBeSet", desc := "(LStoneGazette;I)I" } : MethodName) method_15_code (3 : Nat) (Option.some FieldType.int) [((0 : Nat), (13 : Nat), (14 : Nat), (27 : Nat))] ∈ ZALL := zin (i := 1430) (by decide +kernel) rfl
theorem qm_L_60 : Cond.methodLink RL 60 yX12_canBeSet  ∈ ZALL := zin (i := 1431) (by decide +kernel) rfl
theorem qi_X12_canBeSet : Cond.instanceMethod yX12_canBeSet ∈ ZALL := zin (i := 1432) (by decide +kernel) rfl
theorem qs_X12_canBeSet : Cond.selects RX12 yX12_canBeSet yX12_canBeSet ∈ ZALL := zin (i := 1433) (by decide +kernel) rfl
theorem qc_X12_canBeSet : Cond.code yX12_canBeSet cX12_canBeSet (2 : Nat) (Option.some FieldType.boolean) ∈ ZALL := zin (i := 1434) (by decide +kernel) rfl
theorem qm_L_329 : Cond.methodLink RL 329 yL_forward  ∈ ZALL := zin (i := 1435) (by decide +kernel) rfl
theorem qt_L_forward : Cond.static yL_forward ∈ ZALL := zin (i := 1436) (by decide +kernel) rfl
theorem qc_L_forward : Cond.codeWith ({ cls := "StoneGazetteLaw", name := "forward", desc := "(LStoneGazette;I)I" } : MethodName) method_22_code (3 : Nat) (Option.some FieldType.int) [((0 : Nat), (5 : Nat), (6 : Nat), (27 : Nat)), ((0 : Nat), (5 : Nat), (10 : Nat), (22 : Nat))] ∈ ZALL := zin (i := 1437) (by decide +kernel) rfl
theorem qm_L_82 : Cond.methodLink RL 82 yX12_leastBadnessForward  ∈ ZALL := zin (i := 1438) (by decide +kernel) rfl
theorem qi_X12_leastBadnessForward : Cond.instanceMethod yX12_leastBadnessForward ∈ ZALL := zin (i := 1439) (by decide +kernel) rfl
theorem qs_X12_leastBadnessForward : Cond.selects RX12 yX12_leastBadnessForward yX12_leastBadnessForward ∈ ZALL := zin (i := 1440) (by decide +kernel) rfl
theorem qc_X12_leastBadnessForward : Cond.code yX12_leastBadnessForward cX12_leastBadnessForward (2 : Nat) (Option.some FieldType.int) ∈ ZALL := zin (i := 1441) (by decide +kernel) rfl
theorem qm_X12_245 : Cond.methodLink RX12 245 yX5_fromFirstWord  ∈ ZALL := zin (i := 1442) (by decide +kernel) rfl
theorem qi_X5_fromFirstWord : Cond.instanceMethod yX5_fromFirstWord ∈ ZALL := zin (i := 1443) (by decide +kernel) rfl
theorem qs_X5_fromFirstWord : Cond.selects RX5 yX5_fromFirstWord yX5_fromFirstWord ∈ ZALL := zin (i := 1444) (by decide +kernel) rfl
theorem qc_X5_fromFirstWord : Cond.code yX5_fromFirstWord cX5_fromFirstWord (5 : Nat) (Option.some FieldType.int) ∈ ZALL := zin (i := 1445) (by decide +kernel) rfl
theorem qm_X5_42 : Cond.methodLink RX5 42 yX5_leastBefore  ∈ ZALL := zin (i := 1446) (by decide +kernel) rfl
theorem qp_X5_leastBefore : Cond.privateMethod yX5_leastBefore ∈ ZNW := znin (i := 1447) (by decide +kernel) rfl
theorem qi_X5_leastBefore : Cond.instanceMethod yX5_leastBefore ∈ ZALL := zin (i := 1448) (by decide +kernel) rfl
theorem qc_X5_leastBefore : Cond.code yX5_leastBefore cX5_leastBefore (9 : Nat) (Option.some FieldType.int) ∈ ZALL := zin (i := 1449) (by decide +kernel) rfl
theorem qm_L_332 : Cond.methodLink RL 332 yL_lineCount  ∈ ZALL := zin (i := 1450) (by decide +kernel) rfl
theorem qt_L_lineCount : Cond.static yL_lineCount ∈ ZALL := zin (i := 1451) (by decide +kernel) rfl
theorem qc_L_lineCount : Cond.codeWith ({ cls := "StoneGazetteLaw", name := "lineCount", desc := "(LStoneGazette;I)I" } : MethodName) method_16_code (3 : Nat) (Option.some FieldType.int) [((0 : Nat), (5 : Nat), (6 : Nat), (27 : Nat)), ((0 : Nat), (5 : Nat), (10 : Nat), (22 : Nat))] ∈ ZALL := zin (i := 1452) (by decide +kernel) rfl
theorem qm_L_64 : Cond.methodLink RL 64 yX12_lineCount  ∈ ZALL := zin (i := 1453) (by decide +kernel) rfl
theorem qi_X12_lineCount : Cond.instanceMethod yX12_lineCount ∈ ZALL := zin (i := 1454) (by decide +kernel) rfl
theorem qs_X12_lineCount : Cond.selects RX12 yX12_lineCount yX12_lineCount ∈ ZALL := zin (i := 1455) (by decide +kernel) rfl
theorem qc_X12_lineCount : Cond.code yX12_lineCount cX12_lineCount (2 : Nat) (Option.some FieldType.int) ∈ ZALL := zin (i := 1456) (by decide +kernel) rfl
theorem qm_X12_212 : Cond.methodLink RX12 212 yX12_arrangeKnown  ∈ ZALL := zin (i := 1457) (by decide +kernel) rfl
theorem qp_X12_arrangeKnown : Cond.privateMethod yX12_arrangeKnown ∈ ZNW := znin (i := 1458) (by decide +kernel) rfl
theorem qi_X12_arrangeKnown : Cond.instanceMethod yX12_arrangeKnown ∈ ZALL := zin (i := 1459) (by decide +kernel) rfl
theorem qc_X12_arrangeKnown : Cond.code yX12_arrangeKnown cX12_arrangeKnown (2 : Nat) (Option.none : Option Jvm.ClassFile.FieldType) ∈ ZALL := zin (i := 1460) (by decide +kernel) rfl
theorem qm_L_334 : Cond.methodLink RL 334 yL_hyphens  ∈ ZALL := zin (i := 1462) (by decide +kernel) rfl
theorem qt_L_hyphens : Cond.static yL_hyphens ∈ ZALL := zin (i := 1463) (by decide +kernel) rfl
theorem qc_L_hyphens : Cond.codeWith ({ cls := "StoneGazetteLaw", name := "hyphens", desc := "(LStoneGazette;I)I" } : MethodName) method_18_code (3 : Nat) (Option.some FieldType.int) [((0 : Nat), (5 : Nat), (6 : Nat), (27 : Nat)), ((0 : Nat), (5 : Nat), (10 : Nat), (22 : Nat))] ∈ ZALL := zin (i := 1464) (by decide +kernel) rfl
theorem qm_L_70 : Cond.methodLink RL 70 yX12_hyphenCount  ∈ ZALL := zin (i := 1465) (by decide +kernel) rfl
theorem qi_X12_hyphenCount : Cond.instanceMethod yX12_hyphenCount ∈ ZALL := zin (i := 1466) (by decide +kernel) rfl
theorem qs_X12_hyphenCount : Cond.selects RX12 yX12_hyphenCount yX12_hyphenCount ∈ ZALL := zin (i := 1467) (by decide +kernel) rfl
theorem qc_X12_hyphenCount : Cond.code yX12_hyphenCount cX12_hyphenCount (2 : Nat) (Option.some FieldType.int) ∈ ZALL := zin (i := 1468) (by decide +kernel) rfl
theorem qm_X12_226 : Cond.methodLink RX12 226 yX8_countHyphens  ∈ ZALL := zin (i := 1469) (by decide +kernel) rfl
theorem qi_X8_countHyphens : Cond.instanceMethod yX8_countHyphens ∈ ZALL := zin (i := 1470) (by decide +kernel) rfl
theorem qs_X8_countHyphens : Cond.selects RX8 yX8_countHyphens yX8_countHyphens ∈ ZALL := zin (i := 1471) (by decide +kernel) rfl
theorem qc_X8_countHyphens : Cond.code yX8_countHyphens cX8_countHyphens (4 : Nat) (Option.some FieldType.int) ∈ ZALL := zin (i := 1472) (by decide +kernel) rfl
theorem qm_X8_67 : Cond.methodLink RX8 67 yX8_endOf  ∈ ZALL := zin (i := 1473) (by decide +kernel) rfl
theorem qp_X8_endOf : Cond.privateMethod yX8_endOf ∈ ZNW := znin (i := 1474) (by decide +kernel) rfl
theorem qi_X8_endOf : Cond.instanceMethod yX8_endOf ∈ ZALL := zin (i := 1475) (by decide +kernel) rfl
theorem qc_X8_endOf : Cond.code yX8_endOf cX8_endOf (2 : Nat) (Option.some FieldType.int) ∈ ZALL := zin (i := 1476) (by decide +kernel) rfl
theorem qm_L_337 : Cond.methodLink RL 337 yL_lineLength  ∈ ZALL := zin (i := 1477) (by decide +kernel) rfl
theorem qt_L_lineLength : Cond.static yL_lineLength ∈ ZALL := zin (i := 1478) (by decide +kernel) rfl
theorem qc_L_lineLength : Cond.codeWith ({ cls := "StoneGazetteLaw", name := "lineLength", desc := "(LStoneGazette;II)I" } : MethodName) method_17_code (4 : Nat) (Option.some FieldType.int) [((0 : Nat), (6 : Nat), (7 : Nat), (27 : Nat)), ((0 : Nat), (6 : Nat), (11 : Nat), (22 : Nat)), ((0 : Nat), (6 : Nat), (15 : Nat), (33 : Nat))] ∈ ZALL := zin (i := 1479) (by decide +kernel) rfl
theorem qm_L_67 : Cond.methodLink RL 67 yX12_lineLength  ∈ ZALL := zin (i := 1480) (by decide +kernel) rfl
theorem qi_X12_lineLength : Cond.instanceMethod yX12_lineLength ∈ ZALL := zin (i := 1481) (by decide +kernel) rfl
theorem qs_X12_lineLength : Cond.selects RX12 yX12_lineLength yX12_lineLength ∈ ZALL := zin (i := 1482) (by decide +kernel) rfl
theorem qc_X12_lineLength : Cond.code yX12_lineLength cX12_lineLength (3 : Nat) (Option.some FieldType.int) ∈ ZALL := zin (i := 1483) (by decide +kernel) rfl
theorem qm_X12_218 : Cond.methodLink RX12 218 yX12_arrangeKnownLine  ∈ ZALL := zin (i := 1484) (by decide +kernel) rfl
theorem qp_X12_arrangeKnownLine : Cond.privateMethod yX12_arrangeKnownLine ∈ ZNW := znin (i := 1485) (by decide +kernel) rfl
theorem qi_X12_arrangeKnownLine : Cond.instanceMethod yX12_arrangeKnownLine ∈ ZALL := zin (i := 1486) (by decide +kernel) rfl
theorem qc_X12_arrangeKnownLine : Cond.code yX12_arrangeKnownLine cX12_arrangeKnownLine (3 : Nat) (Option.none : Option Jvm.ClassFile.FieldType) ∈ ZALL := zin (i := 1487) (by decide +kernel) rfl
theorem qm_X12_222 : Cond.methodLink RX12 222 yX8_lengthOf  ∈ ZALL := zin (i := 1489) (by decide +kernel) rfl
theorem qi_X8_lengthOf : Cond.instanceMethod yX8_lengthOf ∈ ZALL := zin (i := 1490) (by decide +kernel) rfl
theorem qs_X8_lengthOf : Cond.selects RX8 yX8_lengthOf yX8_lengthOf ∈ ZALL := zin (i := 1491) (by decide +kernel) rfl
theorem qc_X8_lengthOf : Cond.code yX8_lengthOf cX8_lengthOf (2 : Nat) (Option.some FieldType.int) ∈ ZALL := zin (i := 1492) (by decide +kernel) rfl
theorem qm_L_339 : Cond.methodLink RL 339 yL_writeLine  ∈ ZALL := zin (i := 1493) (by decide +kernel) rfl
theorem qt_L_writeLine : Cond.static yL_writeLine ∈ ZALL := zin (i := 1494) (by decide +kernel) rfl
theorem qc_L_writeLine : Cond.codeWith ({ cls := "StoneGazetteLaw", name := "writeLine", desc := "(LStoneGazette;II)I" } : MethodName) method_19_code (4 : Nat) (Option.some FieldType.int) [((0 : Nat), (6 : Nat), (7 : Nat), (27 : Nat)), ((0 : Nat), (6 : Nat), (11 : Nat), (22 : Nat)), ((0 : Nat), (6 : Nat), (15 : Nat), (33 : Nat))] ∈ ZALL := zin (i := 1495) (by decide +kernel) rfl
theorem qm_L_73 : Cond.methodLink RL 73 yX12_writeLine  ∈ ZALL := zin (i := 1496) (by decide +kernel) rfl
theorem qi_X12_writeLine : Cond.instanceMethod yX12_writeLine ∈ ZALL := zin (i := 1497) (by decide +kernel) rfl
theorem qs_X12_writeLine : Cond.selects RX12 yX12_writeLine yX12_writeLine ∈ ZALL := zin (i := 1498) (by decide +kernel) rfl
theorem qc_X12_writeLine : Cond.code yX12_writeLine cX12_writeLine (3 : Nat) (Option.some FieldType.int) ∈ ZALL := zin (i := 1499) (by decide +kernel) rfl
theorem qm_X12_232 : Cond.methodLink RX12 232 yX8_writeTo  ∈ ZALL := zin (i := 1500) (by decide +kernel) rfl
theorem qi_X8_writeTo : Cond.instanceMethod yX8_writeTo ∈ ZALL := zin (i := 1501) (by decide +kernel) rfl
theorem qs_X8_writeTo : Cond.selects RX8 yX8_writeTo yX8_writeTo ∈ ZALL := zin (i := 1502) (by decide +kernel) rfl
theorem qc_X8_writeTo : Cond.code yX8_writeTo cX8_writeTo (5 : Nat) (Option.none : Option Jvm.ClassFile.FieldType) ∈ ZALL := zin (i := 1503) (by decide +kernel) rfl
theorem qm_X8_70 : Cond.methodLink RX8 70 yJ4_append_cf468  ∈ ZALL := zin (i := 1504) (by decide +kernel) rfl
theorem qm_L_341 : Cond.methodLink RL 341 yX12_isConsistent  ∈ ZALL := zin (i := 1505) (by decide +kernel) rfl
theorem qi_X12_isConsistent : Cond.instanceMethod yX12_isConsistent ∈ ZALL := zin (i := 1506) (by decide +kernel) rfl
theorem qs_X12_isConsistent : Cond.selects RX12 yX12_isConsistent yX12_isConsistent ∈ ZALL := zin (i := 1507) (by decide +kernel) rfl
theorem qc_X12_isConsistent : Cond.code yX12_isConsistent cX12_isConsistent (3 : Nat) (Option.some FieldType.boolean) ∈ ZALL := zin (i := 1508) (by decide +kernel) rfl
theorem qm_X12_346 : Cond.methodLink RX12 346 yX12_linesKeepWidth  ∈ ZALL := zin (i := 1509) (by decide +kernel) rfl
theorem qp_X12_linesKeepWidth : Cond.privateMethod yX12_linesKeepWidth ∈ ZNW := znin (i := 1510) (by decide +kernel) rfl
theorem qi_X12_linesKeepWidth : Cond.instanceMethod yX12_linesKeepWidth ∈ ZALL := zin (i := 1511) (by decide +kernel) rfl
theorem qc_X12_linesKeepWidth : Cond.code yX12_linesKeepWidth cX12_linesKeepWidth (3 : Nat) (Option.some FieldType.boolean) ∈ ZALL := zin (i := 1512) (by decide +kernel) rfl
theorem qm_X12_350 : Cond.methodLink RX12 350 yX12_badnessesAgree  ∈ ZALL := zin (i := 1513) (by decide +kernel) rfl
theorem qp_X12_badnessesAgree : Cond.privateMethod yX12_badnessesAgree ∈ ZNW := znin (i := 1514) (by decide +kernel) rfl
theorem qi_X12_badnessesAgree : Cond.instanceMethod yX12_badnessesAgree ∈ ZALL := zin (i := 1515) (by decide +kernel) rfl
theorem qc_X12_badnessesAgree : Cond.code yX12_badnessesAgree cX12_badnessesAgree (3 : Nat) (Option.some FieldType.boolean) ∈ ZALL := zin (i := 1516) (by decide +kernel) rfl
theorem qm_L_251 : Cond.methodLink RL 251 yL_issues  ∈ ZALL := zin (i := 1517) (by decide +kernel) rfl
theorem qt_L_issues : Cond.static yL_issues ∈ ZALL := zin (i := 1518) (by decide +kernel) rfl
theorem qc_L_issues : Cond.code yL_issues cL_issues (9 : Nat) (Option.some FieldType.boolean) ∈ ZALL := zin (i := 1519) (by decide +kernel) rfl
theorem qm_L_345 : Cond.methodLink RL 345 yX12_isKept  ∈ ZALL := zin (i := 1520) (by decide +kernel) rfl
theorem qi_X12_isKept : Cond.instanceMethod yX12_isKept ∈ ZALL := zin (i := 1521) (by decide +kernel) rfl
theorem qs_X12_isKept : Cond.selects RX12 yX12_isKept yX12_isKept ∈ ZALL := zin (i := 1522) (by decide +kernel) rfl
theorem qc_X12_isKept : Cond.code yX12_isKept cX12_isKept (2 : Nat) (Option.some FieldType.boolean) ∈ ZALL := zin (i := 1523) (by decide +kernel) rfl
theorem qm_X12_266 : Cond.methodLink RX12 266 yX10_findIssue  ∈ ZALL := zin (i := 1524) (by decide +kernel) rfl
theorem qi_X10_findIssue : Cond.instanceMethod yX10_findIssue ∈ ZALL := zin (i := 1525) (by decide +kernel) rfl
theorem qs_X10_findIssue : Cond.selects RX10 yX10_findIssue yX10_findIssue ∈ ZALL := zin (i := 1526) (by decide +kernel) rfl
theorem qc_X10_findIssue : Cond.code yX10_findIssue cX10_findIssue (4 : Nat) (Option.some (FieldType.object "StoneGazette$Issue")) ∈ ZALL := zin (i := 1527) (by decide +kernel) rfl
theorem qm_L_348 : Cond.methodLink RL 348 yL_articlesIn  ∈ ZALL := zin (i := 1528) (by decide +kernel) rfl
theorem qt_L_articlesIn : Cond.static yL_articlesIn ∈ ZALL := zin (i := 1529) (by decide +kernel) rfl
theorem qc_L_articlesIn : Cond.codeWith ({ cls := "StoneGazetteLaw", name := "articlesIn", desc := "(LStoneGazette;I)I" } : MethodName) method_25_code (3 : Nat) (Option.some FieldType.int) [((0 : Nat), (5 : Nat), (6 : Nat), (27 : Nat))] ∈ ZALL := zin (i := 1530) (by decide +kernel) rfl
theorem qm_L_92 : Cond.methodLink RL 92 yX12_articlesIn  ∈ ZALL := zin (i := 1531) (by decide +kernel) rfl
theorem qi_X12_articlesIn : Cond.instanceMethod yX12_articlesIn ∈ ZALL := zin (i := 1532) (by decide +kernel) rfl
theorem qs_X12_articlesIn : Cond.selects RX12 yX12_articlesIn yX12_articlesIn ∈ ZALL := zin (i := 1533) (by decide +kernel) rfl
theorem qc_X12_articlesIn : Cond.code yX12_articlesIn cX12_articlesIn (2 : Nat) (Option.some FieldType.int) ∈ ZALL := zin (i := 1534) (by decide +kernel) rfl
theorem qm_X12_270 : Cond.methodLink RX12 270 yX12_knownIssue  ∈ ZALL := zin (i := 1535) (by decide +kernel) rfl
theorem qp_X12_knownIssue : Cond.privateMethod yX12_knownIssue ∈ ZNW := znin (i := 1536) (by decide +kernel) rfl
theorem qi_X12_knownIssue : Cond.instanceMethod yX12_knownIssue ∈ ZALL := zin (i := 1537) (by decide +kernel) rfl
theorem qc_X12_knownIssue : Cond.code yX12_knownIssue cX12_knownIssue (3 : Nat) (Option.some (FieldType.object "StoneGazette$Issue")) ∈ ZALL := zin (i := 1538) (by decide +kernel) rfl
theorem qm_L_350 : Cond.methodLink RL 350 yL_linesIn  ∈ ZALL := zin (i := 1540) (by decide +kernel) rfl
theorem qt_L_linesIn : Cond.static yL_linesIn ∈ ZALL := zin (i := 1541) (by decide +kernel) rfl
theorem qc_L_linesIn : Cond.codeWith ({ cls := "StoneGazetteLaw", name := "linesIn", desc := "(LStoneGazette;I)I" } : MethodName) method_26_code (3 : Nat) (Option.some FieldType.int) [((0 : Nat), (5 : Nat), (6 : Nat), (27 : Nat))] ∈ ZALL := zin (i := 1542) (by decide +kernel) rfl
theorem qm_L_95 : Cond.methodLink RL 95 yX12_linesIn  ∈ ZALL := zin (i := 1543) (by decide +kernel) rfl
theorem qi_X12_linesIn : Cond.instanceMethod yX12_linesIn ∈ ZALL := zin (i := 1544) (by decide +kernel) rfl
theorem qs_X12_linesIn : Cond.selects RX12 yX12_linesIn yX12_linesIn ∈ ZALL := zin (i := 1545) (by decide +kernel) rfl
theorem qc_X12_linesIn : Cond.code yX12_linesIn cX12_linesIn (2 : Nat) (Option.some FieldType.int) ∈ ZALL := zin (i := 1546) (by decide +kernel) rfl
theorem qm_L_352 : Cond.methodLink RL 352 yL_isReadable  ∈ ZALL := zin (i := 1547) (by decide +kernel) rfl
theorem qt_L_isReadable : Cond.static yL_isReadable ∈ ZALL := zin (i := 1548) (by decide +kernel) rfl
theorem qc_L_isReadable : Cond.codeWith ({ cls := "StoneGazetteLaw", name := "isReadable", desc := "(LStoneGazette;I)I" } : MethodName) method_31_code (3 : Nat) (Option.some FieldType.int) [((0 : Nat), (13 : Nat), (14 : Nat), (27 : Nat))] ∈ ZALL := zin (i := 1549) (by decide +kernel) rfl
theorem qm_L_110 : Cond.methodLink RL 110 yX12_isReadable  ∈ ZALL := zin (i := 1550) (by decide +kernel) rfl
theorem qi_X12_isReadable : Cond.instanceMethod yX12_isReadable ∈ ZALL := zin (i := 1551) (by decide +kernel) rfl
theorem qs_X12_isReadable : Cond.selects RX12 yX12_isReadable yX12_isReadable ∈ ZALL := zin (i := 1552) (by decide +kernel) rfl
theorem qc_X12_isReadable : Cond.code yX12_isReadable cX12_isReadable (2 : Nat) (Option.some FieldType.boolean) ∈ ZALL := zin (i := 1553) (by decide +kernel) rfl
theorem qm_X12_323 : Cond.methodLink RX12 323 yX6_canBeRead  ∈ ZALL := zin (i := 1554) (by decide +kernel) rfl
theorem qm_L_354 : Cond.methodLink RL 354 yL_freshBits  ∈ ZALL := zin (i := 1555) (by decide +kernel) rfl
theorem qt_L_freshBits : Cond.static yL_freshBits ∈ ZALL := zin (i := 1556) (by decide +kernel) rfl
theorem qc_L_freshBits : Cond.codeWith ({ cls := "StoneGazetteLaw", name := "freshBits", desc := "(LStoneGazette;I)I" } : MethodName) method_30_code (3 : Nat) (Option.some FieldType.int) [((0 : Nat), (5 : Nat), (6 : Nat), (27 : Nat))] ∈ ZALL := zin (i := 1557) (by decide +kernel) rfl
theorem qm_L_107 : Cond.methodLink RL 107 yX12_freshnessBits  ∈ ZALL := zin (i := 1558) (by decide +kernel) rfl
theorem qi_X12_freshnessBits : Cond.instanceMethod yX12_freshnessBits ∈ ZALL := zin (i := 1559) (by decide +kernel) rfl
theorem qs_X12_freshnessBits : Cond.selects RX12 yX12_freshnessBits yX12_freshnessBits ∈ ZALL := zin (i := 1560) (by decide +kernel) rfl
theorem qc_X12_freshnessBits : Cond.code yX12_freshnessBits cX12_freshnessBits (2 : Nat) (Option.some FieldType.int) ∈ ZALL := zin (i := 1561) (by decide +kernel) rfl
theorem qm_X12_319 : Cond.methodLink RX12 319 yX12_bitsOf  ∈ ZALL := zin (i := 1562) (by decide +kernel) rfl
theorem qt_X12_bitsOf : Cond.static yX12_bitsOf ∈ ZALL := zin (i := 1563) (by decide +kernel) rfl
theorem qc_X12_bitsOf : Cond.code yX12_bitsOf cX12_bitsOf (3 : Nat) (Option.some FieldType.int) ∈ ZALL := zin (i := 1564) (by decide +kernel) rfl
theorem q_1421 : Cond.constantFloat "StoneGazette" (411 : Nat) (1258291200 : UInt32) ∈ ZALL := zin (i := 1565) (by decide +kernel) rfl
theorem qm_L_357 : Cond.methodLink RL 357 yX12_freshness  ∈ ZALL := zin (i := 1566) (by decide +kernel) rfl
theorem qi_X12_freshness : Cond.instanceMethod yX12_freshness ∈ ZALL := zin (i := 1567) (by decide +kernel) rfl
theorem qs_X12_freshness : Cond.selects RX12 yX12_freshness yX12_freshness ∈ ZALL := zin (i := 1568) (by decide +kernel) rfl
theorem qc_X12_freshness : Cond.code yX12_freshness cX12_freshness (2 : Nat) (Option.some FieldType.float) ∈ ZALL := zin (i := 1569) (by decide +kernel) rfl
theorem qz_1570 : Cond.constantFloat "StoneGazetteLaw" (361 : Nat) (1048576000 : UInt32) ∈ ZALL := zin (i := 1570) (by decide +kernel) rfl
theorem qz_1571 : Cond.constantFloat "StoneGazetteLaw" (362 : Nat) (1061158912 : UInt32) ∈ ZALL := zin (i := 1571) (by decide +kernel) rfl
theorem qm_L_363 : Cond.methodLink RL 363 yL_columnOf  ∈ ZALL := zin (i := 1572) (by decide +kernel) rfl
theorem qt_L_columnOf : Cond.static yL_columnOf ∈ ZALL := zin (i := 1573) (by decide +kernel) rfl
theorem qc_L_columnOf : Cond.codeWith ({ cls := "StoneGazetteLaw", name := "columnOf", desc := "(LStoneGazette;II)I" } : MethodName) method_27_code (4 : Nat) (Option.some FieldType.int) [((0 : Nat), (6 : Nat), (7 : Nat), (27 : Nat))] ∈ ZALL := zin (i := 1574) (by decide +kernel) rfl
theorem qm_L_98 : Cond.methodLink RL 98 yX12_columnOf  ∈ ZALL := zin (i := 1575) (by decide +kernel) rfl
theorem qi_X12_columnOf : Cond.instanceMethod yX12_columnOf ∈ ZALL := zin (i := 1576) (by decide +kernel) rfl
theorem qs_X12_columnOf : Cond.selects RX12 yX12_columnOf yX12_columnOf ∈ ZALL := zin (i := 1577) (by decide +kernel) rfl
theorem qc_X12_columnOf : Cond.code yX12_columnOf cX12_columnOf (4 : Nat) (Option.some FieldType.int) ∈ ZALL := zin (i := 1578) (by decide +kernel) rfl
theorem qm_X12_287 : Cond.methodLink RX12 287 yX12_knownPage  ∈ ZALL := zin (i := 1579) (by decide +kernel) rfl
theorem qp_X12_knownPage : Cond.privateMethod yX12_knownPage ∈ ZNW := znin (i := 1580) (by decide +kernel) rfl
theorem qi_X12_knownPage : Cond.instanceMethod yX12_knownPage ∈ ZALL := zin (i := 1581) (by decide +kernel) rfl
theorem qc_X12_knownPage : Cond.code yX12_knownPage cX12_knownPage (4 : Nat) (Option.some (FieldType.object "StoneGazette$Page")) ∈ ZALL := zin (i := 1582) (by decide +kernel) rfl
theorem qm_X12_291 : Cond.methodLink RX12 291 yX9_firstLineOf  ∈ ZALL := zin (i := 1583) (by decide +kernel) rfl
theorem qm_X12_294 : Cond.methodLink RX12 294 yX9_columnAt  ∈ ZALL := zin (i := 1585) (by decide +kernel) rfl
theorem qi_X9_columnAt : Cond.instanceMethod yX9_columnAt ∈ ZALL := zin (i := 1586) (by decide +kernel) rfl
theorem qs_X9_columnAt : Cond.selects RX9 yX9_columnAt yX9_columnAt ∈ ZALL := zin (i := 1587) (by decide +kernel) rfl
theorem qc_X9_columnAt : Cond.code yX9_columnAt cX9_columnAt (2 : Nat) (Option.some FieldType.int) ∈ ZALL := zin (i := 1588) (by decide +kernel) rfl
theorem qm_L_365 : Cond.methodLink RL 365 yL_rowOf  ∈ ZALL := zin (i := 1589) (by decide +kernel) rfl
theorem qt_L_rowOf : Cond.static yL_rowOf ∈ ZALL := zin (i := 1590) (by decide +kernel) rfl
theorem qc_L_rowOf : Cond.codeWith ({ cls := "StoneGazetteLaw", name := "rowOf", desc := "(LStoneGazette;II)I" } : MethodName) method_28_code (4 : Nat) (Option.some FieldType.int) [((0 : Nat), (6 : Nat), (7 : Nat), (27 : Nat))] ∈ ZALL := zin (i := 1591) (by decide +kernel) rfl
theorem qm_L_101 : Cond.methodLink RL 101 yX12_rowOf  ∈ ZALL := zin (i := 1592) (by decide +kernel) rfl
theorem qi_X12_rowOf : Cond.instanceMethod yX12_rowOf ∈ ZALL := zin (i := 1593) (by decide +kernel) rfl
theorem qs_X12_rowOf : Cond.selects RX12 yX12_rowOf yX12_rowOf ∈ ZALL := zin (i := 1594) (by decide +kernel) rfl
theorem qc_X12_rowOf : Cond.code yX12_rowOf cX12_rowOf (4 : Nat) (Option.some FieldType.int) ∈ ZALL := zin (i := 1595) (by decide +kernel) rfl
theorem qm_X12_297 : Cond.methodLink RX12 297 yX9_rowAt  ∈ ZALL := zin (i := 1596) (by decide +kernel) rfl
theorem qi_X9_rowAt : Cond.instanceMethod yX9_rowAt ∈ ZALL := zin (i := 1597) (by decide +kernel) rfl
theorem qs_X9_rowAt : Cond.selects RX9 yX9_rowAt yX9_rowAt ∈ ZALL := zin (i := 1598) (by decide +kernel) rfl
theorem qc_X9_rowAt : Cond.code yX9_rowAt cX9_rowAt (2 : Nat) (Option.some FieldType.int) ∈ ZALL := zin (i := 1599) (by decide +kernel) rfl
theorem qm_L_367 : Cond.methodLink RL 367 yL_daysUntil  ∈ ZALL := zin (i := 1600) (by decide +kernel) rfl
theorem qt_L_daysUntil : Cond.static yL_daysUntil ∈ ZALL := zin (i := 1601) (by decide +kernel) rfl
theorem qc_L_daysUntil : Cond.codeWith ({ cls := "StoneGazetteLaw", name := "daysUntil", desc := "(LStoneGazette;I)I" } : MethodName) method_32_code (3 : Nat) (Option.some FieldType.int) [((0 : Nat), (5 : Nat), (6 : Nat), (27 : Nat))] ∈ ZALL := zin (i := 1602) (by decide +kernel) rfl
theorem qm_L_113 : Cond.methodLink RL 113 yX12_daysUntilUnreadable  ∈ ZALL := zin (i := 1603) (by decide +kernel) rfl
theorem qi_X12_daysUntilUnreadable : Cond.instanceMethod yX12_daysUntilUnreadable ∈ ZALL := zin (i := 1604) (by decide +kernel) rfl
theorem qs_X12_daysUntilUnreadable : Cond.selects RX12 yX12_daysUntilUnreadable yX12_daysUntilUnreadable ∈ ZALL := zin (i := 1605) (by decide +kernel) rfl
theorem qc_X12_daysUntilUnreadable : Cond.code yX12_daysUntilUnreadable cX12_daysUntilUnreadable (4 : Nat) (Option.some FieldType.int) ∈ ZALL := zin (i := 1606) (by decide +kernel) rfl
theorem qm_X12_326 : Cond.methodLink RX12 326 yX6_faded  ∈ ZALL := zin (i := 1607) (by decide +kernel) rfl
theorem qm_L_370 : Cond.methodLink RL 370 yJxf58ca_floatToIntBits_5c35a  ∈ ZALL := zin (i := 1608) (by decide +kernel) rfl
theorem qt_Jxf58ca_floatToIntBits_5c35a : Cond.static yJxf58ca_floatToIntBits_5c35a ∈ ZALL := zin (i := 1609) (by decide +kernel) rfl
theorem qc_Jxf58ca_floatToIntBits_5c35a : Cond.code yJxf58ca_floatToIntBits_5c35a cJxf58ca_floatToIntBits_5c35a (1 : Nat) (Option.some FieldType.int) ∈ ZALL := zin (i := 1610) (by decide +kernel) rfl
theorem qm_Jxf58ca_59 : Cond.methodLink RJxf58ca 59 yJxf58ca_isNaN_12338  ∈ ZALL := zin (i := 1611) (by decide +kernel) rfl
theorem qt_Jxf58ca_isNaN_12338 : Cond.static yJxf58ca_isNaN_12338 ∈ ZALL := zin (i := 1612) (by decide +kernel) rfl
theorem qc_Jxf58ca_isNaN_12338 : Cond.code yJxf58ca_isNaN_12338 cJxf58ca_isNaN_12338 (1 : Nat) (Option.some FieldType.boolean) ∈ ZALL := zin (i := 1613) (by decide +kernel) rfl
theorem qm_Jxf58ca_74 : Cond.methodLink RJxf58ca 74 ⟨"java/lang/Float", "floatToRawIntBits", "(F)I"⟩  ∈ ZALL := zin (i := 1614) (by decide +kernel) rfl
theorem qt_Jxf58ca_floatToRawIntBits_5c35a : Cond.static ⟨"java/lang/Float", "floatToRawIntBits", "(F)I"⟩ ∈ ZALL := zin (i := 1615) (by decide +kernel) rfl
theorem qv_Jxf58ca_floatToRawIntBits_5c35a : Cond.native ⟨"java/lang/Float", "floatToRawIntBits", "(F)I"⟩ ∈ ZALL := zin (i := 1616) (by decide +kernel) rfl
theorem q_2034 : Cond.constant "java/lang/Float" (77 : Nat) (2143289344 : Int32) ∈ ZALL := zin (i := 1617) (by decide +kernel) rfl
theorem qm_L_376 : Cond.methodLink RL 376 yX12_coverage  ∈ ZALL := zin (i := 1618) (by decide +kernel) rfl
theorem qi_X12_coverage : Cond.instanceMethod yX12_coverage ∈ ZALL := zin (i := 1619) (by decide +kernel) rfl
theorem qs_X12_coverage : Cond.selects RX12 yX12_coverage yX12_coverage ∈ ZALL := zin (i := 1620) (by decide +kernel) rfl
theorem qc_X12_coverage : Cond.code yX12_coverage cX12_coverage (2 : Nat) (Option.some FieldType.float) ∈ ZALL := zin (i := 1621) (by decide +kernel) rfl
theorem qm_X12_300 : Cond.methodLink RX12 300 yX9_coveredPart  ∈ ZALL := zin (i := 1622) (by decide +kernel) rfl
theorem qi_X9_coveredPart : Cond.instanceMethod yX9_coveredPart ∈ ZALL := zin (i := 1623) (by decide +kernel) rfl
theorem qs_X9_coveredPart : Cond.selects RX9 yX9_coveredPart yX9_coveredPart ∈ ZALL := zin (i := 1624) (by decide +kernel) rfl
theorem qc_X9_coveredPart : Cond.code yX9_coveredPart cX9_coveredPart (2 : Nat) (Option.some FieldType.float) ∈ ZALL := zin (i := 1625) (by decide +kernel) rfl
theorem qm_L_379 : Cond.methodLink RL 379 yX12_meanFreshness  ∈ ZALL := zin (i := 1626) (by decide +kernel) rfl
theorem qi_X12_meanFreshness : Cond.instanceMethod yX12_meanFreshness ∈ ZALL := zin (i := 1627) (by decide +kernel) rfl
theorem qs_X12_meanFreshness : Cond.selects RX12 yX12_meanFreshness yX12_meanFreshness ∈ ZALL := zin (i := 1628) (by decide +kernel) rfl
theorem qc_X12_meanFreshness : Cond.code yX12_meanFreshness cX12_meanFreshness (4 : Nat) (Option.some FieldType.float) ∈ ZALL := zin (i := 1629) (by decide +kernel) rfl
theorem qk_X12_274 : Cond.classLink RX12 274 RX6 ∈ ZALL := zin (i := 1631) (by decide +kernel) rfl
theorem qm_L_383 : Cond.methodLink RL 383 yX12_issueCount  ∈ ZALL := zin (i := 1632) (by decide +kernel) rfl
theorem qi_X12_issueCount : Cond.instanceMethod yX12_issueCount ∈ ZALL := zin (i := 1633) (by decide +kernel) rfl
theorem qs_X12_issueCount : Cond.selects RX12 yX12_issueCount yX12_issueCount ∈ ZALL := zin (i := 1634) (by decide +kernel) rfl
theorem qc_X12_issueCount : Cond.code yX12_issueCount cX12_issueCount (1 : Nat) (Option.some FieldType.int) ∈ ZALL := zin (i := 1635) (by decide +kernel) rfl
theorem qm_L_254 : Cond.methodLink RL 254 yL_undone  ∈ ZALL := zin (i := 1636) (by decide +kernel) rfl
theorem qt_L_undone : Cond.static yL_undone ∈ ZALL := zin (i := 1637) (by decide +kernel) rfl
theorem qc_L_undone : Cond.code yL_undone cL_undone (8 : Nat) (Option.some FieldType.boolean) ∈ ZALL := zin (i := 1638) (by decide +kernel) rfl
theorem qm_L_406 : Cond.methodLink RL 406 yL_sum  ∈ ZALL := zin (i := 1639) (by decide +kernel) rfl
theorem qt_L_sum : Cond.static yL_sum ∈ ZALL := zin (i := 1640) (by decide +kernel) rfl
theorem qc_L_sum : Cond.code yL_sum cL_sum (7 : Nat) (Option.some FieldType.long) ∈ ZALL := zin (i := 1641) (by decide +kernel) rfl
theorem qz_1642 : Cond.constantLong "StoneGazetteLaw" (386 : Nat) (7 : Int64) ∈ ZALL := zin (i := 1642) (by decide +kernel) rfl
theorem qz_1643 : Cond.constantLong "StoneGazetteLaw" (388 : Nat) (31 : Int64) ∈ ZALL := zin (i := 1643) (by decide +kernel) rfl
theorem qm_L_390 : Cond.methodLink RL 390 yX12_day  ∈ ZALL := zin (i := 1644) (by decide +kernel) rfl
theorem qi_X12_day : Cond.instanceMethod yX12_day ∈ ZALL := zin (i := 1645) (by decide +kernel) rfl
theorem qs_X12_day : Cond.selects RX12 yX12_day yX12_day ∈ ZALL := zin (i := 1646) (by decide +kernel) rfl
theorem qc_X12_day : Cond.code yX12_day cX12_day (1 : Nat) (Option.some FieldType.int) ∈ ZALL := zin (i := 1647) (by decide +kernel) rfl
theorem qm_L_393 : Cond.methodLink RL 393 yX12_lateCorrections  ∈ ZALL := zin (i := 1648) (by decide +kernel) rfl
theorem qi_X12_lateCorrections : Cond.instanceMethod yX12_lateCorrections ∈ ZALL := zin (i := 1649) (by decide +kernel) rfl
theorem qs_X12_lateCorrections : Cond.selects RX12 yX12_lateCorrections yX12_lateCorrections ∈ ZALL := zin (i := 1650) (by decide +kernel) rfl
theorem qc_X12_lateCorrections : Cond.code yX12_lateCorrections cX12_lateCorrections (1 : Nat) (Option.some FieldType.int) ∈ ZALL := zin (i := 1651) (by decide +kernel) rfl
theorem qz_1652 : Cond.constantLong "StoneGazetteLaw" (396 : Nat) (37 : Int64) ∈ ZALL := zin (i := 1652) (by decide +kernel) rfl
theorem qz_1653 : Cond.constantLong "StoneGazetteLaw" (398 : Nat) (3 : Int64) ∈ ZALL := zin (i := 1653) (by decide +kernel) rfl
theorem qz_1654 : Cond.constantLong "StoneGazetteLaw" (400 : Nat) (41 : Int64) ∈ ZALL := zin (i := 1654) (by decide +kernel) rfl
theorem qz_1655 : Cond.constantLong "StoneGazetteLaw" (402 : Nat) (43 : Int64) ∈ ZALL := zin (i := 1655) (by decide +kernel) rfl
theorem qz_1656 : Cond.constantLong "StoneGazetteLaw" (404 : Nat) (5 : Int64) ∈ ZALL := zin (i := 1656) (by decide +kernel) rfl
theorem qm_L_410 : Cond.methodLink RL 410 yL_remove  ∈ ZALL := zin (i := 1657) (by decide +kernel) rfl
theorem qt_L_remove : Cond.static yL_remove ∈ ZALL := zin (i := 1658) (by decide +kernel) rfl
theorem qc_L_remove : Cond.codeWith ({ cls := "StoneGazetteLaw", name := "remove", desc := "(LStoneGazette;I)I" } : MethodName) method_5_code (3 : Nat) (Option.some FieldType.int) [((0 : Nat), (5 : Nat), (6 : Nat), (27 : Nat))] ∈ ZALL := zin (i := 1659) (by decide +kernel) rfl
theorem qm_L_24 : Cond.methodLink RL 24 yX12_removeArticle  ∈ ZALL := zin (i := 1660) (by decide +kernel) rfl
theorem qi_X12_removeArticle : Cond.instanceMethod yX12_removeArticle ∈ ZALL := zin (i := 1661) (by decide +kernel) rfl
theorem qs_X12_removeArticle : Cond.selects RX12 yX12_removeArticle yX12_removeArticle ∈ ZALL := zin (i := 1662) (by decide +kernel) rfl
theorem qc_X12_removeArticle : Cond.code yX12_removeArticle cX12_removeArticle (3 : Nat) (Option.some FieldType.int) ∈ ZALL := zin (i := 1663) (by decide +kernel) rfl
theorem qm_X12_131 : Cond.methodLink RX12 131 yX10_dropArticle  ∈ ZALL := zin (i := 1664) (by decide +kernel) rfl
theorem qi_X10_dropArticle : Cond.instanceMethod yX10_dropArticle ∈ ZALL := zin (i := 1665) (by decide +kernel) rfl
theorem qs_X10_dropArticle : Cond.selects RX10 yX10_dropArticle yX10_dropArticle ∈ ZALL := zin (i := 1666) (by decide +kernel) rfl
theorem qc_X10_dropArticle : Cond.code yX10_dropArticle cX10_dropArticle (3 : Nat) (Option.some FieldType.boolean) ∈ ZALL := zin (i := 1667) (by decide +kernel) rfl
theorem qm_L_419 : Cond.methodLink RL 419 yL_execute  ∈ ZALL := zin (i := 1671) (by decide +kernel) rfl
theorem qt_L_execute : Cond.static yL_execute ∈ ZALL := zin (i := 1672) (by decide +kernel) rfl
theorem qc_L_execute : Cond.code yL_execute cL_execute (3 : Nat) (Option.some FieldType.int) ∈ ZALL := zin (i := 1673) (by decide +kernel) rfl
theorem qm_L_146 : Cond.methodLink RL 146 yL_feed  ∈ ZALL := zin (i := 1674) (by decide +kernel) rfl
theorem qt_L_feed : Cond.static yL_feed ∈ ZALL := zin (i := 1675) (by decide +kernel) rfl
theorem qc_L_feed : Cond.codeWith ({ cls := "StoneGazetteLaw", name := "feed", desc := "(LStoneGazette;C)I" } : MethodName) method_35_code (3 : Nat) (Option.some FieldType.int) [((0 : Nat), (5 : Nat), (6 : Nat), (16 : Nat))] ∈ ZALL := zin (i := 1676) (by decide +kernel) rfl
theorem qm_L_123 : Cond.methodLink RL 123 yX12_feed  ∈ ZALL := zin (i := 1677) (by decide +kernel) rfl
theorem qi_X12_feed : Cond.instanceMethod yX12_feed ∈ ZALL := zin (i := 1678) (by decide +kernel) rfl
theorem qs_X12_feed : Cond.selects RX12 yX12_feed yX12_feed ∈ ZALL := zin (i := 1679) (by decide +kernel) rfl
theorem qc_X12_feed : Cond.code yX12_feed cX12_feed (2 : Nat) (Option.some FieldType.int) ∈ ZALL := zin (i := 1680) (by decide +kernel) rfl
theorem qm_L_151 : Cond.methodLink RL 151 yL_executes  ∈ ZALL := zin (i := 1682) (by decide +kernel) rfl
theorem qt_L_executes : Cond.static yL_executes ∈ ZALL := zin (i := 1683) (by decide +kernel) rfl
theorem qc_L_executes : Cond.codeWith ({ cls := "StoneGazetteLaw", name := "executes", desc := "(LStoneGazette;)I" } : MethodName) method_36_code (2 : Nat) (Option.some FieldType.int) [((0 : Nat), (4 : Nat), (5 : Nat), (14 : Nat)), ((0 : Nat), (4 : Nat), (8 : Nat), (22 : Nat))] ∈ ZALL := zin (i := 1684) (by decide +kernel) rfl
theorem qm_L_126 : Cond.methodLink RL 126 yX12_execute  ∈ ZALL := zin (i := 1685) (by decide +kernel) rfl
theorem qi_X12_execute : Cond.instanceMethod yX12_execute ∈ ZALL := zin (i := 1686) (by decide +kernel) rfl
theorem qs_X12_execute : Cond.selects RX12 yX12_execute yX12_execute ∈ ZALL := zin (i := 1687) (by decide +kernel) rfl
theorem qc_X12_execute : Cond.code yX12_execute cX12_execute (5 : Nat) (Option.some FieldType.int) ∈ ZALL := zin (i := 1688) (by decide +kernel) rfl
theorem qm_X12_355 : Cond.methodLink RX12 355 yX4_readAll  ∈ ZALL := zin (i := 1689) (by decide +kernel) rfl
theorem qi_X4_readAll : Cond.instanceMethod yX4_readAll ∈ ZALL := zin (i := 1690) (by decide +kernel) rfl
theorem qs_X4_readAll : Cond.selects RX4 yX4_readAll yX4_readAll ∈ ZALL := zin (i := 1691) (by decide +kernel) rfl
theorem qc_X4_readAll : Cond.code yX4_readAll cX4_readAll (3 : Nat) (Option.some FieldType.boolean) ∈ ZALL := zin (i := 1692) (by decide +kernel) rfl
theorem qm_X4_22 : Cond.methodLink RX4 22 yJx4a65c_clear_da8c8  ∈ ZALL := zin (i := 1693) (by decide +kernel) rfl
theorem qi_Jx4a65c_clear_da8c8 : Cond.instanceMethod yJx4a65c_clear_da8c8 ∈ ZALL := zin (i := 1694) (by decide +kernel) rfl
theorem qs_Jx4a65c_clear_da8c8 : Cond.selects RJx4a65c yJx4a65c_clear_da8c8 yJx4a65c_clear_da8c8 ∈ ZALL := zin (i := 1695) (by decide +kernel) rfl
theorem qc_Jx4a65c_clear_da8c8 : Cond.code yJx4a65c_clear_da8c8 cJx4a65c_clear_da8c8 (4 : Nat) (Option.none : Option Jvm.ClassFile.FieldType) ∈ ZALL := zin (i := 1696) (by decide +kernel) rfl
theorem qm_X4_30 : Cond.methodLink RX4 30 yX4_readCommand  ∈ ZALL := zin (i := 1697) (by decide +kernel) rfl
theorem qp_X4_readCommand : Cond.privateMethod yX4_readCommand ∈ ZNW := znin (i := 1698) (by decide +kernel) rfl
theorem qi_X4_readCommand : Cond.instanceMethod yX4_readCommand ∈ ZALL := zin (i := 1699) (by decide +kernel) rfl
theorem qc_X4_readCommand : Cond.code yX4_readCommand cX4_readCommand (6 : Nat) (Option.some FieldType.boolean) ∈ ZALL := zin (i := 1700) (by decide +kernel) rfl
theorem qm_X4_38 : Cond.methodLink RX4 38 yX4_bestKeyword  ∈ ZALL := zin (i := 1701) (by decide +kernel) rfl
theorem qp_X4_bestKeyword : Cond.privateMethod yX4_bestKeyword ∈ ZNW := znin (i := 1702) (by decide +kernel) rfl
theorem qi_X4_bestKeyword : Cond.instanceMethod yX4_bestKeyword ∈ ZALL := zin (i := 1703) (by decide +kernel) rfl
theorem qc_X4_bestKeyword : Cond.code yX4_bestKeyword cX4_bestKeyword (7 : Nat) (Option.some (FieldType.object "StoneGazette$Keyword")) ∈ ZALL := zin (i := 1704) (by decide +kernel) rfl
theorem ql_X4_73 : Cond.fieldLink RX4 73 "StoneGazette$Keyword" "WIDTH" "LStoneGazette$Keyword;" ∈ ZALL := zin (i := 1705) (by decide +kernel) rfl
theorem ql_X4_77 : Cond.fieldLinkNest RX4 77 "StoneGazette" "KEYWORDS" "[LStoneGazette$Keyword;" "StoneGazette" ∈ ZNW := znin (i := 1707) (by decide +kernel) rfl
theorem qm_X4_42 : Cond.methodLink RX4 42 yX7_countShared  ∈ ZALL := zin (i := 1709) (by decide +kernel) rfl
theorem qi_X7_countShared : Cond.instanceMethod yX7_countShared ∈ ZALL := zin (i := 1710) (by decide +kernel) rfl
theorem qs_X7_countShared : Cond.selects RX7 yX7_countShared yX7_countShared ∈ ZALL := zin (i := 1711) (by decide +kernel) rfl
theorem qc_X7_countShared : Cond.code yX7_countShared cX7_countShared (4 : Nat) (Option.some FieldType.int) ∈ ZALL := zin (i := 1712) (by decide +kernel) rfl
theorem qm_X7_46 : Cond.methodLink RX7 46 yJ0_length_8abf5  ∈ ZALL := zin (i := 1713) (by decide +kernel) rfl
theorem qm_X7_52 : Cond.methodLink RX7 52 yX2_signAt  ∈ ZALL := zin (i := 1714) (by decide +kernel) rfl
theorem qm_X7_58 : Cond.methodLink RX7 58 yJ0_charAt_5068e  ∈ ZALL := zin (i := 1715) (by decide +kernel) rfl
theorem qm_X4_52 : Cond.methodLink RX4 52 yJ0_length_8abf5  ∈ ZALL := zin (i := 1716) (by decide +kernel) rfl
theorem qm_X4_60 : Cond.methodLink RX4 60 yX4_readNumber  ∈ ZALL := zin (i := 1717) (by decide +kernel) rfl
theorem qp_X4_readNumber : Cond.privateMethod yX4_readNumber ∈ ZNW := znin (i := 1718) (by decide +kernel) rfl
theorem qi_X4_readNumber : Cond.instanceMethod yX4_readNumber ∈ ZALL := zin (i := 1719) (by decide +kernel) rfl
theorem qc_X4_readNumber : Cond.code yX4_readNumber cX4_readNumber (5 : Nat) (Option.some FieldType.int) ∈ ZALL := zin (i := 1720) (by decide +kernel) rfl
theorem qm_X4_81 : Cond.methodLink RX4 81 yX2_signAt  ∈ ZALL := zin (i := 1721) (by decide +kernel) rfl
theorem qm_X4_85 : Cond.methodLink RX4 85 yJ9_max_7cf53  ∈ ZALL := zin (i := 1722) (by decide +kernel) rfl
theorem qm_X4_34 : Cond.methodLink RX4 34 yX4_readSign  ∈ ZALL := zin (i := 1723) (by decide +kernel) rfl
theorem qp_X4_readSign : Cond.privateMethod yX4_readSign ∈ ZNW := znin (i := 1724) (by decide +kernel) rfl
theorem qi_X4_readSign : Cond.instanceMethod yX4_readSign ∈ ZALL := zin (i := 1725) (by decide +kernel) rfl
theorem qc_X4_readSign : Cond.code yX4_readSign cX4_readSign (3 : Nat) (Option.some FieldType.boolean) ∈ ZALL := zin (i := 1726) (by decide +kernel) rfl
theorem qk_X4_64 : Cond.classLink RX4 64 RX3 ∈ ZALL := zin (i := 1727) (by decide +kernel) rfl
theorem qx_X3 : Cond.instantiable RX3 3 ∈ ZALL := zin (i := 1728) (by decide +kernel) rfl
theorem qm_X4_66 : Cond.methodLink RX4 66 yX3_init  ∈ ZALL := zin (i := 1729) (by decide +kernel) rfl
theorem qi_X3_init : Cond.instanceMethod yX3_init ∈ ZALL := zin (i := 1730) (by decide +kernel) rfl
theorem qc_X3_init : Cond.code yX3_init cX3_init (4 : Nat) (Option.none : Option Jvm.ClassFile.FieldType) ∈ ZALL := zin (i := 1731) (by decide +kernel) rfl
theorem qm_X3_1 : Cond.methodLink RX3 1 ⟨"java/lang/Object", "<init>", "()V"⟩  ∈ ZALL := zin (i := 1732) (by decide +kernel) rfl
theorem ql_X3_7 : Cond.fieldLink RX3 7 "StoneGazette$Command" "keyword" "LStoneGazette$Keyword;" ∈ ZALL := zin (i := 1733) (by decide +kernel) rfl
theorem ql_X12_418 : Cond.fieldLinkNest RX12 418 "StoneGazette$Command" "keyword" "LStoneGazette$Keyword;" "StoneGazette" ∈ ZNW := znin (i := 1734) (by decide +kernel) rfl
theorem ql_X3_13 : Cond.fieldLink RX3 13 "StoneGazette$Command" "first" "I" ∈ ZALL := zin (i := 1735) (by decide +kernel) rfl
theorem ql_X12_427 : Cond.fieldLinkNest RX12 427 "StoneGazette$Command" "first" "I" "StoneGazette" ∈ ZNW := znin (i := 1736) (by decide +kernel) rfl
theorem ql_X3_17 : Cond.fieldLink RX3 17 "StoneGazette$Command" "second" "I" ∈ ZALL := zin (i := 1737) (by decide +kernel) rfl
theorem ql_X12_430 : Cond.fieldLinkNest RX12 430 "StoneGazette$Command" "second" "I" "StoneGazette" ∈ ZNW := znin (i := 1738) (by decide +kernel) rfl
theorem q_1595 : Cond.superclass "StoneGazette$Command" "java/lang/Object" ∈ ZALL := zin (i := 1745) (by decide +kernel) rfl
theorem q_2139 : Cond.arrayClass FieldType.long ∈ ZALL := zin (i := 1746) (by decide +kernel) rfl
theorem qm_X4_69 : Cond.methodLink RX4 69 yJx4a65c_add_9ea2d  ∈ ZALL := zin (i := 1747) (by decide +kernel) rfl
theorem qk_X12_367 : Cond.classLink RX12 367 RX3 ∈ ZALL := zin (i := 1749) (by decide +kernel) rfl
theorem qm_X12_369 : Cond.methodLink RX12 369 yX12_carryOut  ∈ ZALL := zin (i := 1750) (by decide +kernel) rfl
theorem qp_X12_carryOut : Cond.privateMethod yX12_carryOut ∈ ZNW := znin (i := 1751) (by decide +kernel) rfl
theorem qi_X12_carryOut : Cond.instanceMethod yX12_carryOut ∈ ZALL := zin (i := 1752) (by decide +kernel) rfl
theorem qc_X12_carryOut : Cond.code yX12_carryOut cX12_carryOut (3 : Nat) (Option.some FieldType.boolean) ∈ ZALL := zin (i := 1753) (by decide +kernel) rfl
theorem ql_X12_412 : Cond.fieldLink RX12 412 "StoneGazette$1" "$SwitchMap$StoneGazette$Keyword" "[I" ∈ ZALL := zin (i := 1754) (by decide +kernel) rfl
theorem qm_X12_422 : Cond.methodLink RX12 422 ⟨"StoneGazette$Keyword", "ordinal", "()I"⟩  ∈ ZALL := zin (i := 1756) (by decide +kernel) rfl
theorem q_1606 : Cond.sameMethod "StoneGazette$Keyword" "java/lang/Enum" "ordinal" "()I" ∈ ZALL := zin (i := 1757) (by decide +kernel) rfl
theorem qd_Jx29ce0_ordinal_8abf5 : Cond.declares yJx29ce0_ordinal_8abf5 ∈ ZNW := znin (i := 1758) (by decide +kernel) rfl
theorem qs_Jx29ce0_ordinal_8abf5_X7 : Cond.selects RX7 ⟨"StoneGazette$Keyword", "ordinal", "()I"⟩ yJx29ce0_ordinal_8abf5 ∈ ZALL := zin (i := 1759) (by decide +kernel) rfl
theorem qi_Jx29ce0_ordinal_8abf5 : Cond.instanceMethod yJx29ce0_ordinal_8abf5 ∈ ZALL := zin (i := 1760) (by decide +kernel) rfl
theorem qc_Jx29ce0_ordinal_8abf5 : Cond.code yJx29ce0_ordinal_8abf5 cJx29ce0_ordinal_8abf5 (1 : Nat) (Option.some FieldType.int) ∈ ZALL := zin (i := 1761) (by decide +kernel) rfl
theorem qm_L_422 : Cond.methodLink RL 422 yX12_undoCount  ∈ ZALL := zin (i := 1763) (by decide +kernel) rfl
theorem qi_X12_undoCount : Cond.instanceMethod yX12_undoCount ∈ ZALL := zin (i := 1764) (by decide +kernel) rfl
theorem qs_X12_undoCount : Cond.selects RX12 yX12_undoCount yX12_undoCount ∈ ZALL := zin (i := 1765) (by decide +kernel) rfl
theorem qc_X12_undoCount : Cond.code yX12_undoCount cX12_undoCount (1 : Nat) (Option.some FieldType.int) ∈ ZALL := zin (i := 1766) (by decide +kernel) rfl
theorem qm_L_425 : Cond.methodLink RL 425 yL_undo  ∈ ZALL := zin (i := 1767) (by decide +kernel) rfl
theorem qt_L_undo : Cond.static yL_undo ∈ ZALL := zin (i := 1768) (by decide +kernel) rfl
theorem qc_L_undo : Cond.codeWith ({ cls := "StoneGazetteLaw", name := "undo", desc := "(LStoneGazette;)I" } : MethodName) method_39_code (2 : Nat) (Option.some FieldType.int) [((0 : Nat), (4 : Nat), (5 : Nat), (16 : Nat))] ∈ ZALL := zin (i := 1769) (by decide +kernel) rfl
theorem qm_L_135 : Cond.methodLink RL 135 yX12_undo  ∈ ZALL := zin (i := 1770) (by decide +kernel) rfl
theorem qi_X12_undo : Cond.instanceMethod yX12_undo ∈ ZALL := zin (i := 1771) (by decide +kernel) rfl
theorem qs_X12_undo : Cond.selects RX12 yX12_undo yX12_undo ∈ ZALL := zin (i := 1772) (by decide +kernel) rfl
theorem qc_X12_undo : Cond.code yX12_undo cX12_undo (2 : Nat) (Option.some FieldType.int) ∈ ZALL := zin (i := 1773) (by decide +kernel) rfl
theorem q_2143 : Cond.sameMethod "java/lang/AbstractStringBuilder" "java/lang/AbstractStringBuilder" "append" "(Ljava/lang/String;)Ljava/lang/AbstractStringBuilder;" ∈ ZALL := zin (i := 1775) (by decide +kernel) rfl
theorem q_2144 : Cond.sameMethod "java/lang/AbstractStringBuilder" "java/lang/AbstractStringBuilder" "appendNull" "()Ljava/lang/AbstractStringBuilder;" ∈ ZALL := zin (i := 1776) (by decide +kernel) rfl
theorem q_2145 : Cond.sameMethod "java/lang/AbstractStringBuilder" "java/lang/AbstractStringBuilder" "ensureCapacityInternal" "(I)V" ∈ ZALL := zin (i := 1777) (by decide +kernel) rfl
theorem q_2146 : Cond.sameMethod "java/lang/AbstractStringBuilder" "java/lang/AbstractStringBuilder" "newCapacity" "(I)I" ∈ ZALL := zin (i := 1778) (by decide +kernel) rfl
theorem q_2147 : Cond.sameMethod "java/lang/AbstractStringBuilder" "java/lang/AbstractStringBuilder" "putStringAt" "(ILjava/lang/String;)V" ∈ ZALL := zin (i := 1779) (by decide +kernel) rfl
theorem q_2148 : Cond.sameMethod "java/lang/AbstractStringBuilder" "java/lang/AbstractStringBuilder" "inflateIfNeededFor" "(Ljava/lang/String;)V" ∈ ZALL := zin (i := 1780) (by decide +kernel) rfl
theorem q_2149 : Cond.sameMethod "java/lang/AbstractStringBuilder" "java/lang/AbstractStringBuilder" "inflate" "()V" ∈ ZALL := zin (i := 1781) (by decide +kernel) rfl
theorem q_2151 : Cond.sameMethod "java/lang/AbstractStringBuilder" "java/lang/AbstractStringBuilder" "append" "(C)Ljava/lang/AbstractStringBuilder;" ∈ ZALL := zin (i := 1782) (by decide +kernel) rfl
theorem q_2141 : Cond.sameMethod "java/lang/Throwable" "java/lang/Throwable" "fillInStackTrace" "(I)Ljava/lang/Throwable;" ∈ ZALL := zin (i := 1783) (by decide +kernel) rfl
theorem q_2150 : Cond.sameMethod "java/lang/AbstractStringBuilder" "java/lang/AbstractStringBuilder" "append" "(I)Ljava/lang/AbstractStringBuilder;" ∈ ZALL := zin (i := 1784) (by decide +kernel) rfl
theorem q_2142 : Cond.sameMethod "java/lang/AbstractStringBuilder" "java/lang/AbstractStringBuilder" "setLength" "(I)V" ∈ ZALL := zin (i := 1785) (by decide +kernel) rfl
theorem qs_J4_length_8abf5 : Cond.selects RJ4 yJ4_length_8abf5 yJ4_length_8abf5 ∈ ZALL := zin (i := 1786) (by decide +kernel) rfl
theorem q_2153 : Cond.sameMethod "java/lang/AbstractStringBuilder" "java/lang/AbstractStringBuilder" "charAt" "(I)C" ∈ ZALL := zin (i := 1787) (by decide +kernel) rfl
theorem q_2154 : Cond.castable "java/lang/ArrayIndexOutOfBoundsException" "java/lang/IndexOutOfBoundsException" ∈ ZNW := znin (i := 1788) (by decide +kernel) rfl
theorem q_2155 : Cond.castable "java/lang/StringIndexOutOfBoundsException" "java/lang/IndexOutOfBoundsException" ∈ ZNW := znin (i := 1789) (by decide +kernel) rfl
theorem q_2156 : Cond.castable "StoneGazette$Word" "java/lang/Object" ∈ ZNW := znin (i := 1790) (by decide +kernel) rfl
theorem q_2175 : Cond.castable "java/lang/String" "java/lang/Object" ∈ ZNW := znin (i := 1791) (by decide +kernel) rfl
theorem q_2157 : Cond.castable "StoneGazette$Keyword" "java/lang/Object" ∈ ZNW := znin (i := 1792) (by decide +kernel) rfl
theorem q_2158 : Cond.castable "StoneGazette" "java/lang/Object" ∈ ZNW := znin (i := 1793) (by decide +kernel) rfl
theorem q_2159 : Cond.castable "StoneGazette$Buffer" "java/lang/Object" ∈ ZNW := znin (i := 1794) (by decide +kernel) rfl
theorem q_2160 : Cond.castable "java/lang/StringBuilder" "java/lang/Object" ∈ ZNW := znin (i := 1795) (by decide +kernel) rfl
theorem q_2161 : Cond.castable "StoneGazette$LineSetter" "java/lang/Object" ∈ ZNW := znin (i := 1796) (by decide +kernel) rfl
theorem q_2162 : Cond.castable "StoneGazette$EvenBreaker" "java/lang/Object" ∈ ZNW := znin (i := 1797) (by decide +kernel) rfl
theorem q_2163 : Cond.castable "StoneGazette$CommandReader" "java/lang/Object" ∈ ZNW := znin (i := 1798) (by decide +kernel) rfl
theorem q_2164 : Cond.castable "java/util/ArrayList" "java/lang/Object" ∈ ZNW := znin (i := 1799) (by decide +kernel) rfl
theorem q_2165 : Cond.castable "StoneGazette$State" "java/lang/Object" ∈ ZNW := znin (i := 1800) (by decide +kernel) rfl
theorem q_2167 : Cond.castable "java/lang/IllegalArgumentException" "java/lang/Object" ∈ ZNW := znin (i := 1801) (by decide +kernel) rfl
theorem q_2168 : Cond.castable "java/lang/IllegalStateException" "java/lang/Object" ∈ ZNW := znin (i := 1802) (by decide +kernel) rfl
theorem q_2169 : Cond.castable "java/lang/UnsupportedOperationException" "java/lang/Object" ∈ ZNW := znin (i := 1803) (by decide +kernel) rfl
theorem q_2170 : Cond.castable "StoneGazette$Article" "java/lang/Object" ∈ ZNW := znin (i := 1804) (by decide +kernel) rfl
theorem q_2176 : Cond.castable "StoneGazette$Page" "java/lang/Object" ∈ ZNW := znin (i := 1805) (by decide +kernel) rfl
theorem q_2177 : Cond.castable "StoneGazette$Issue" "java/lang/Object" ∈ ZNW := znin (i := 1806) (by decide +kernel) rfl
theorem q_2172 : Cond.castable "java/lang/ArrayIndexOutOfBoundsException" "java/lang/Object" ∈ ZNW := znin (i := 1807) (by decide +kernel) rfl
theorem q_2171 : Cond.castable "java/util/NoSuchElementException" "java/lang/Object" ∈ ZNW := znin (i := 1808) (by decide +kernel) rfl
theorem q_2173 : Cond.castable "java/lang/IndexOutOfBoundsException" "java/lang/Object" ∈ ZNW := znin (i := 1809) (by decide +kernel) rfl
theorem q_2174 : Cond.castable "java/lang/StringIndexOutOfBoundsException" "java/lang/Object" ∈ ZNW := znin (i := 1810) (by decide +kernel) rfl
theorem q_2178 : Cond.castable "java/lang/ArithmeticException" "java/lang/Object" ∈ ZNW := znin (i := 1811) (by decide +kernel) rfl
theorem q_2179 : Cond.castable "StoneGazette$Command" "java/lang/Object" ∈ ZNW := znin (i := 1812) (by decide +kernel) rfl
theorem q_2180 : Cond.castable "java/lang/Throwable" "java/lang/Object" ∈ ZNW := znin (i := 1813) (by decide +kernel) rfl
theorem q_2181 : Cond.sameMethod "[Ljava/lang/Object;" "java/lang/Object" "getClass" "()Ljava/lang/Class;" ∈ ZALL := zin (i := 1814) (by decide +kernel) rfl
theorem qs_java_lang_Object_getClass_d423e__Ljava_lang_Object_ : Cond.selects "[Ljava/lang/Object;" ⟨"java/lang/Object", "getClass", "()Ljava/lang/Class;"⟩ ⟨"java/lang/Object", "getClass", "()Ljava/lang/Class;"⟩ ∈ ZALL := zin (i := 1815) (by decide +kernel) rfl
theorem qd_java_lang_Object_getClass_d423e : Cond.declares ⟨"java/lang/Object", "getClass", "()Ljava/lang/Class;"⟩ ∈ ZNW := znin (i := 1816) (by decide +kernel) rfl
theorem q_2184 : Cond.castable "[C" "java/lang/Object" ∈ ZNW := znin (i := 1817) (by decide +kernel) rfl
theorem q_2185 : Cond.castable "[B" "java/lang/Object" ∈ ZNW := znin (i := 1818) (by decide +kernel) rfl
theorem q_2186 : Cond.castable "[I" "java/lang/Object" ∈ ZNW := znin (i := 1819) (by decide +kernel) rfl
theorem q_2187 : Cond.castable "[Ljava/lang/Object;" "java/lang/Object" ∈ ZNW := znin (i := 1820) (by decide +kernel) rfl
theorem q_2188 : Cond.castable "[LStoneGazette$Word;" "java/lang/Object" ∈ ZNW := znin (i := 1821) (by decide +kernel) rfl
theorem q_2189 : Cond.castable "[Z" "java/lang/Object" ∈ ZNW := znin (i := 1822) (by decide +kernel) rfl
theorem qz_1823 : Cond.castable "[Ljava/lang/String;" "java/lang/Object" ∈ ZNW := znin (i := 1823) (by decide +kernel) rfl
theorem q_2190 : Cond.castable "[J" "java/lang/Object" ∈ ZNW := znin (i := 1824) (by decide +kernel) rfl
theorem q_2192 : Cond.castable "[LStoneGazette$Keyword;" "java/lang/Object" ∈ ZNW := znin (i := 1825) (by decide +kernel) rfl
theorem ql_X7_38 : Cond.fieldLink RX7 38 "StoneGazette$Keyword" "letters" "Ljava/lang/String;" ∈ ZALL := zin (i := 1826) (by decide +kernel) rfl
theorem ql_X4_48 : Cond.fieldLinkNest RX4 48 "StoneGazette$Keyword" "letters" "Ljava/lang/String;" "StoneGazette" ∈ ZNW := znin (i := 1827) (by decide +kernel) rfl
theorem ql_X4_57 : Cond.fieldLinkNest RX4 57 "StoneGazette$Keyword" "numbers" "I" "StoneGazette" ∈ ZNW := znin (i := 1828) (by decide +kernel) rfl
theorem ql_Jx29ce0_7 : Cond.fieldLink RJx29ce0 7 "java/lang/Enum" "ordinal" "I" ∈ ZALL := zin (i := 1829) (by decide +kernel) rfl
theorem qs_java_lang_Throwable_fillInStackTrace_ad160 : Cond.selects "java/lang/Throwable" ⟨"java/lang/Throwable", "fillInStackTrace", "(I)Ljava/lang/Throwable;"⟩ ⟨"java/lang/Throwable", "fillInStackTrace", "(I)Ljava/lang/Throwable;"⟩ ∈ ZALL := List.mem_filter.mpr ⟨List.mem_append_left _ (List.mem_of_getElem? (i := 0) (by decide +kernel)), rfl⟩
theorem qs_Jx4a65c_add_72be8 : Cond.selects RJx4a65c yJx4a65c_add_72be8 yJx4a65c_add_72be8 ∈ ZALL := List.mem_filter.mpr ⟨List.mem_append_left _ (List.mem_of_getElem? (i := 1) (by decide +kernel)), rfl⟩
theorem qs_Jx4a65c_grow_d5877 : Cond.selects RJx4a65c yJx4a65c_grow_d5877 yJx4a65c_grow_d5877 ∈ ZALL := List.mem_filter.mpr ⟨List.mem_append_left _ (List.mem_of_getElem? (i := 2) (by decide +kernel)), rfl⟩
theorem qs_Jx4a65c_grow_92f84 : Cond.selects RJx4a65c yJx4a65c_grow_92f84 yJx4a65c_grow_92f84 ∈ ZALL := List.mem_filter.mpr ⟨List.mem_append_left _ (List.mem_of_getElem? (i := 3) (by decide +kernel)), rfl⟩
theorem qs_X2_countBlanks : Cond.selects RX2 yX2_countBlanks yX2_countBlanks ∈ ZALL := List.mem_filter.mpr ⟨List.mem_append_left _ (List.mem_of_getElem? (i := 4) (by decide +kernel)), rfl⟩
theorem qs_X2_endOfWord : Cond.selects RX2 yX2_endOfWord yX2_endOfWord ∈ ZALL := List.mem_filter.mpr ⟨List.mem_append_left _ (List.mem_of_getElem? (i := 5) (by decide +kernel)), rfl⟩
theorem qs_X12_become : Cond.selects RX12 yX12_become yX12_become ∈ ZALL := List.mem_filter.mpr ⟨List.mem_append_left _ (List.mem_of_getElem? (i := 6) (by decide +kernel)), rfl⟩
theorem qs_Jx4a65c_fastRemove_b59b0 : Cond.selects RJx4a65c yJx4a65c_fastRemove_b59b0 yJx4a65c_fastRemove_b59b0 ∈ ZALL := List.mem_filter.mpr ⟨List.mem_append_left _ (List.mem_of_getElem? (i := 7) (by decide +kernel)), rfl⟩
theorem qs_X10_countBefore : Cond.selects RX10 yX10_countBefore yX10_countBefore ∈ ZALL := List.mem_filter.mpr ⟨List.mem_append_left _ (List.mem_of_getElem? (i := 8) (by decide +kernel)), rfl⟩
theorem qs_X8_place : Cond.selects RX8 yX8_place yX8_place ∈ ZALL := List.mem_filter.mpr ⟨List.mem_append_left _ (List.mem_of_getElem? (i := 9) (by decide +kernel)), rfl⟩
theorem qs_X8_startOf : Cond.selects RX8 yX8_startOf yX8_startOf ∈ ZALL := List.mem_filter.mpr ⟨List.mem_append_left _ (List.mem_of_getElem? (i := 10) (by decide +kernel)), rfl⟩
theorem qs_X8_putPart : Cond.selects RX8 yX8_putPart yX8_putPart ∈ ZALL := List.mem_filter.mpr ⟨List.mem_append_left _ (List.mem_of_getElem? (i := 11) (by decide +kernel)), rfl⟩
theorem qs_X8_putSign : Cond.selects RX8 yX8_putSign yX8_putSign ∈ ZALL := List.mem_filter.mpr ⟨List.mem_append_left _ (List.mem_of_getElem? (i := 12) (by decide +kernel)), rfl⟩
theorem qs_X8_closeLine : Cond.selects RX8 yX8_closeLine yX8_closeLine ∈ ZALL := List.mem_filter.mpr ⟨List.mem_append_left _ (List.mem_of_getElem? (i := 13) (by decide +kernel)), rfl⟩
theorem qs_X12_knownWord : Cond.selects RX12 yX12_knownWord yX12_knownWord ∈ ZALL := List.mem_filter.mpr ⟨List.mem_append_left _ (List.mem_of_getElem? (i := 14) (by decide +kernel)), rfl⟩
theorem qs_X12_knownArticle : Cond.selects RX12 yX12_knownArticle yX12_knownArticle ∈ ZALL := List.mem_filter.mpr ⟨List.mem_append_left _ (List.mem_of_getElem? (i := 15) (by decide +kernel)), rfl⟩
theorem qs_X10_indexOf : Cond.selects RX10 yX10_indexOf yX10_indexOf ∈ ZALL := List.mem_filter.mpr ⟨List.mem_append_left _ (List.mem_of_getElem? (i := 16) (by decide +kernel)), rfl⟩
theorem qs_X10_isInKeptIssue : Cond.selects RX10 yX10_isInKeptIssue yX10_isInKeptIssue ∈ ZALL := List.mem_filter.mpr ⟨List.mem_append_left _ (List.mem_of_getElem? (i := 17) (by decide +kernel)), rfl⟩
theorem qs_X12_knownNarrowArticle : Cond.selects RX12 yX12_knownNarrowArticle yX12_knownNarrowArticle ∈ ZALL := List.mem_filter.mpr ⟨List.mem_append_left _ (List.mem_of_getElem? (i := 18) (by decide +kernel)), rfl⟩
theorem qs_X5_leastBehind : Cond.selects RX5 yX5_leastBehind yX5_leastBehind ∈ ZALL := List.mem_filter.mpr ⟨List.mem_append_left _ (List.mem_of_getElem? (i := 19) (by decide +kernel)), rfl⟩
theorem qs_X5_leastBefore : Cond.selects RX5 yX5_leastBefore yX5_leastBefore ∈ ZALL := List.mem_filter.mpr ⟨List.mem_append_left _ (List.mem_of_getElem? (i := 20) (by decide +kernel)), rfl⟩
theorem qs_X12_arrangeKnown : Cond.selects RX12 yX12_arrangeKnown yX12_arrangeKnown ∈ ZALL := List.mem_filter.mpr ⟨List.mem_append_left _ (List.mem_of_getElem? (i := 21) (by decide +kernel)), rfl⟩
theorem qs_X8_endOf : Cond.selects RX8 yX8_endOf yX8_endOf ∈ ZALL := List.mem_filter.mpr ⟨List.mem_append_left _ (List.mem_of_getElem? (i := 22) (by decide +kernel)), rfl⟩
theorem qs_X12_arrangeKnownLine : Cond.selects RX12 yX12_arrangeKnownLine yX12_arrangeKnownLine ∈ ZALL := List.mem_filter.mpr ⟨List.mem_append_left _ (List.mem_of_getElem? (i := 23) (by decide +kernel)), rfl⟩
theorem qs_X12_linesKeepWidth : Cond.selects RX12 yX12_linesKeepWidth yX12_linesKeepWidth ∈ ZALL := List.mem_filter.mpr ⟨List.mem_append_left _ (List.mem_of_getElem? (i := 24) (by decide +kernel)), rfl⟩
theorem qs_X12_badnessesAgree : Cond.selects RX12 yX12_badnessesAgree yX12_badnessesAgree ∈ ZALL := List.mem_filter.mpr ⟨List.mem_append_left _ (List.mem_of_getElem? (i := 25) (by decide +kernel)), rfl⟩
theorem qs_X12_knownIssue : Cond.selects RX12 yX12_knownIssue yX12_knownIssue ∈ ZALL := List.mem_filter.mpr ⟨List.mem_append_left _ (List.mem_of_getElem? (i := 26) (by decide +kernel)), rfl⟩
theorem qs_X12_knownPage : Cond.selects RX12 yX12_knownPage yX12_knownPage ∈ ZALL := List.mem_filter.mpr ⟨List.mem_append_left _ (List.mem_of_getElem? (i := 27) (by decide +kernel)), rfl⟩
theorem qs_X4_readCommand : Cond.selects RX4 yX4_readCommand yX4_readCommand ∈ ZALL := List.mem_filter.mpr ⟨List.mem_append_left _ (List.mem_of_getElem? (i := 28) (by decide +kernel)), rfl⟩
theorem qs_X4_bestKeyword : Cond.selects RX4 yX4_bestKeyword yX4_bestKeyword ∈ ZALL := List.mem_filter.mpr ⟨List.mem_append_left _ (List.mem_of_getElem? (i := 29) (by decide +kernel)), rfl⟩
theorem qs_X4_readNumber : Cond.selects RX4 yX4_readNumber yX4_readNumber ∈ ZALL := List.mem_filter.mpr ⟨List.mem_append_left _ (List.mem_of_getElem? (i := 30) (by decide +kernel)), rfl⟩
theorem qs_X4_readSign : Cond.selects RX4 yX4_readSign yX4_readSign ∈ ZALL := List.mem_filter.mpr ⟨List.mem_append_left _ (List.mem_of_getElem? (i := 31) (by decide +kernel)), rfl⟩
theorem qs_X12_carryOut : Cond.selects RX12 yX12_carryOut yX12_carryOut ∈ ZALL := List.mem_filter.mpr ⟨List.mem_append_left _ (List.mem_of_getElem? (i := 32) (by decide +kernel)), rfl⟩
theorem in_X1 : ∀ w ∈ wsX10, w ∈ ZALL := by
  intro w hw
  obtain ⟨k, hk, rfl⟩ := List.mem_map.mp hw
  have hk := List.mem_range.mp hk
  match k, hk with
  | 0, _ => exact zin (i := 803) (by decide +kernel) rfl
  | 1, _ => exact zin (i := 805) (by decide +kernel) rfl
  | 2, _ => exact zin (i := 807) (by decide +kernel) rfl
  | k + 3, hk => exact absurd hk (by omega)
theorem in_X2 : ∀ w ∈ wsX20, w ∈ ZALL := by
  intro w hw
  obtain ⟨k, hk, rfl⟩ := List.mem_map.mp hw
  have hk := List.mem_range.mp hk
  match k, hk with
  | 0, _ => exact zin (i := 68) (by decide +kernel) rfl
  | 1, _ => exact zin (i := 70) (by decide +kernel) rfl
  | k + 2, hk => exact absurd hk (by omega)
theorem in_X3 : ∀ w ∈ wsX30, w ∈ ZALL := by
  intro w hw
  obtain ⟨k, hk, rfl⟩ := List.mem_map.mp hw
  have hk := List.mem_range.mp hk
  match k, hk with
  | 0, _ => exact zin (i := 1739) (by decide +kernel) rfl
  | 1, _ => exact zin (i := 1741) (by decide +kernel) rfl
  | 2, _ => exact zin (i := 1743) (by decide +kernel) rfl
  | k + 3, hk => exact absurd hk (by omega)
theorem in_X4 : ∀ w ∈ wsX40, w ∈ ZALL := by
  intro w hw
  obtain ⟨k, hk, rfl⟩ := List.mem_map.mp hw
  have hk := List.mem_range.mp hk
  match k, hk with
  | 0, _ => exact zin (i := 178) (by decide +kernel) rfl
  | 1, _ => exact zin (i := 180) (by decide +kernel) rfl
  | k + 2, hk => exact absurd hk (by omega)
theorem in_X5 : ∀ w ∈ wsX50, w ∈ ZALL := by
  intro w hw
  obtain ⟨k, hk, rfl⟩ := List.mem_map.mp hw
  have hk := List.mem_range.mp hk
  match k, hk with
  | 0, _ => exact zin (i := 139) (by decide +kernel) rfl
  | k + 1, hk => exact absurd hk (by omega)
theorem in_X6 : ∀ w ∈ wsX60, w ∈ ZALL := by
  intro w hw
  obtain ⟨k, hk, rfl⟩ := List.mem_map.mp hw
  have hk := List.mem_range.mp hk
  match k, hk with
  | 0, _ => exact zin (i := 954) (by decide +kernel) rfl
  | 1, _ => exact zin (i := 956) (by decide +kernel) rfl
  | 2, _ => exact zin (i := 958) (by decide +kernel) rfl
  | k + 3, hk => exact absurd hk (by omega)
theorem in_X8 : ∀ w ∈ wsX80, w ∈ ZALL := by
  intro w hw
  obtain ⟨k, hk, rfl⟩ := List.mem_map.mp hw
  have hk := List.mem_range.mp hk
  match k, hk with
  | 0, _ => exact zin (i := 120) (by decide +kernel) rfl
  | 1, _ => exact zin (i := 122) (by decide +kernel) rfl
  | 2, _ => exact zin (i := 124) (by decide +kernel) rfl
  | 3, _ => exact zin (i := 126) (by decide +kernel) rfl
  | 4, _ => exact zin (i := 128) (by decide +kernel) rfl
  | k + 5, hk => exact absurd hk (by omega)
theorem in_X9 : ∀ w ∈ wsX90, w ∈ ZALL := by
  intro w hw
  obtain ⟨k, hk, rfl⟩ := List.mem_map.mp hw
  have hk := List.mem_range.mp hk
  match k, hk with
  | 0, _ => exact zin (i := 877) (by decide +kernel) rfl
  | 1, _ => exact zin (i := 879) (by decide +kernel) rfl
  | 2, _ => exact zin (i := 881) (by decide +kernel) rfl
  | 3, _ => exact zin (i := 883) (by decide +kernel) rfl
  | 4, _ => exact zin (i := 885) (by decide +kernel) rfl
  | 5, _ => exact zin (i := 887) (by decide +kernel) rfl
  | k + 6, hk => exact absurd hk (by omega)
theorem in_X10 : ∀ w ∈ wsX100, w ∈ ZALL := by
  intro w hw
  obtain ⟨k, hk, rfl⟩ := List.mem_map.mp hw
  have hk := List.mem_range.mp hk
  match k, hk with
  | 0, _ => exact zin (i := 208) (by decide +kernel) rfl
  | 1, _ => exact zin (i := 210) (by decide +kernel) rfl
  | 2, _ => exact zin (i := 212) (by decide +kernel) rfl
  | 3, _ => exact zin (i := 214) (by decide +kernel) rfl
  | 4, _ => exact zin (i := 216) (by decide +kernel) rfl
  | 5, _ => exact zin (i := 218) (by decide +kernel) rfl
  | 6, _ => exact zin (i := 220) (by decide +kernel) rfl
  | 7, _ => exact zin (i := 222) (by decide +kernel) rfl
  | 8, _ => exact zin (i := 224) (by decide +kernel) rfl
  | k + 9, hk => exact absurd hk (by omega)
theorem in_X11 : ∀ w ∈ wsX110, w ∈ ZALL := by
  intro w hw
  obtain ⟨k, hk, rfl⟩ := List.mem_map.mp hw
  have hk := List.mem_range.mp hk
  match k, hk with
  | 0, _ => exact zin (i := 779) (by decide +kernel) rfl
  | 1, _ => exact zin (i := 781) (by decide +kernel) rfl
  | k + 2, hk => exact absurd hk (by omega)
theorem in_X12 : ∀ w ∈ wsX120, w ∈ ZALL := by
  intro w hw
  obtain ⟨k, hk, rfl⟩ := List.mem_map.mp hw
  have hk := List.mem_range.mp hk
  match k, hk with
  | 0, _ => exact zin (i := 238) (by decide +kernel) rfl
  | 1, _ => exact zin (i := 240) (by decide +kernel) rfl
  | 2, _ => exact zin (i := 242) (by decide +kernel) rfl
  | 3, _ => exact zin (i := 244) (by decide +kernel) rfl
  | 4, _ => exact zin (i := 246) (by decide +kernel) rfl
  | 5, _ => exact zin (i := 248) (by decide +kernel) rfl
  | 6, _ => exact zin (i := 250) (by decide +kernel) rfl
  | 7, _ => exact zin (i := 252) (by decide +kernel) rfl
  | 8, _ => exact zin (i := 254) (by decide +kernel) rfl
  | 9, _ => exact zin (i := 256) (by decide +kernel) rfl
  | 10, _ => exact zin (i := 258) (by decide +kernel) rfl
  | k + 11, hk => exact absurd hk (by omega)
theorem in_Jx00060 : ∀ w ∈ wsJx000600, w ∈ ZALL := by
  intro w hw
  obtain ⟨k, hk, rfl⟩ := List.mem_map.mp hw
  have hk := List.mem_range.mp hk
  match k, hk with
  | 0, _ => exact zin (i := 1007) (by decide +kernel) rfl
  | 1, _ => exact zin (i := 1008) (by decide +kernel) rfl
  | 2, _ => exact zin (i := 1009) (by decide +kernel) rfl
  | 3, _ => exact zin (i := 1010) (by decide +kernel) rfl
  | 4, _ => exact zin (i := 1011) (by decide +kernel) rfl
  | 5, _ => exact zin (i := 1012) (by decide +kernel) rfl
  | k + 6, hk => exact absurd hk (by omega)
theorem in_J0 : ∀ w ∈ wsJ00, w ∈ ZALL := by
  intro w hw
  obtain ⟨k, hk, rfl⟩ := List.mem_map.mp hw
  have hk := List.mem_range.mp hk
  match k, hk with
  | 0, _ => exact zin (i := 582) (by decide +kernel) rfl
  | 1, _ => exact zin (i := 584) (by decide +kernel) rfl
  | 2, _ => exact zin (i := 586) (by decide +kernel) rfl
  | 3, _ => exact zin (i := 588) (by decide +kernel) rfl
  | k + 4, hk => exact absurd hk (by omega)
theorem in_J4 : ∀ w ∈ wsJ40, w ∈ ZALL := by
  intro w hw
  obtain ⟨k, hk, rfl⟩ := List.mem_map.mp hw
  have hk := List.mem_range.mp hk
  match k, hk with
  | 0, _ => exact zin (i := 97) (by decide +kernel) rfl
  | 1, _ => exact zin (i := 99) (by decide +kernel) rfl
  | 2, _ => exact zin (i := 101) (by decide +kernel) rfl
  | 3, _ => exact zin (i := 103) (by decide +kernel) rfl
  | k + 4, hk => exact absurd hk (by omega)
theorem in_Jx7c733 : ∀ w ∈ wsJx7c7330, w ∈ ZALL := by
  intro w hw
  obtain ⟨k, hk, rfl⟩ := List.mem_map.mp hw
  have hk := List.mem_range.mp hk
  match k, hk with
  | 0, _ => exact zin (i := 1149) (by decide +kernel) rfl
  | 1, _ => exact zin (i := 1150) (by decide +kernel) rfl
  | 2, _ => exact zin (i := 1151) (by decide +kernel) rfl
  | 3, _ => exact zin (i := 1152) (by decide +kernel) rfl
  | 4, _ => exact zin (i := 1153) (by decide +kernel) rfl
  | 5, _ => exact zin (i := 1154) (by decide +kernel) rfl
  | k + 6, hk => exact absurd hk (by omega)
theorem in_Jx4a65c : ∀ w ∈ wsJx4a65c0, w ∈ ZALL := by
  intro w hw
  obtain ⟨k, hk, rfl⟩ := List.mem_map.mp hw
  have hk := List.mem_range.mp hk
  match k, hk with
  | 0, _ => exact zin (i := 171) (by decide +kernel) rfl
  | 1, _ => exact zin (i := 167) (by decide +kernel) rfl
  | 2, _ => exact zin (i := 169) (by decide +kernel) rfl
  | k + 3, hk => exact absurd hk (by omega)
