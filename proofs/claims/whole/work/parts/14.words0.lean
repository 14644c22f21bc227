theorem qn_L : Cond.initialized RL ∈ ZALL := zin (i := 0) (by decide +kernel) rfl
theorem qn_X12 : Cond.initialized RX12 ∈ ZALL := zin (i := 1) (by decide +kernel) rfl
theorem qn_X2 : Cond.initialized RX2 ∈ ZALL := zin (i := 2) (by decide +kernel) rfl
theorem qn_J9 : Cond.initialized RJ9 ∈ ZALL := zin (i := 3) (by decide +kernel) rfl
theorem qn_J5 : Cond.initialized RJ5 ∈ ZALL := zin (i := 4) (by decide +kernel) rfl
theorem qn_J4 : Cond.initialized RJ4 ∈ ZALL := zin (i := 5) (by decide +kernel) rfl
theorem qn_J0 : Cond.initialized RJ0 ∈ ZALL := zin (i := 6) (by decide +kernel) rfl
theorem qn_J2 : Cond.initialized RJ2 ∈ ZALL := zin (i := 7) (by decide +kernel) rfl
theorem qn_X8 : Cond.initialized RX8 ∈ ZALL := zin (i := 8) (by decide +kernel) rfl
theorem qn_X5 : Cond.initialized RX5 ∈ ZALL := zin (i := 9) (by decide +kernel) rfl
theorem qn_X4 : Cond.initialized RX4 ∈ ZALL := zin (i := 10) (by decide +kernel) rfl
theorem qn_Jxa1e45 : Cond.initialized RJxa1e45 ∈ ZALL := zin (i := 11) (by decide +kernel) rfl
theorem qn_Jxc12de : Cond.initialized RJxc12de ∈ ZALL := zin (i := 12) (by decide +kernel) rfl
theorem qn_Jx4a65c : Cond.initialized RJx4a65c ∈ ZALL := zin (i := 13) (by decide +kernel) rfl
theorem qn_X10 : Cond.initialized RX10 ∈ ZALL := zin (i := 14) (by decide +kernel) rfl
theorem qn_X13 : Cond.initialized RX13 ∈ ZALL := zin (i := 15) (by decide +kernel) rfl
theorem qn_java_lang_Throwable : Cond.initialized "java/lang/Throwable" ∈ ZALL := zin (i := 16) (by decide +kernel) rfl
theorem qn_java_lang_Exception : Cond.initialized "java/lang/Exception" ∈ ZALL := zin (i := 17) (by decide +kernel) rfl
theorem qn_java_lang_RuntimeException : Cond.initialized "java/lang/RuntimeException" ∈ ZALL := zin (i := 18) (by decide +kernel) rfl
theorem qn_java_lang_IllegalArgumentException : Cond.initialized "java/lang/IllegalArgumentException" ∈ ZALL := zin (i := 19) (by decide +kernel) rfl
theorem qn_java_lang_IllegalStateException : Cond.initialized "java/lang/IllegalStateException" ∈ ZALL := zin (i := 20) (by decide +kernel) rfl
theorem qn_java_lang_UnsupportedOperationException : Cond.initialized "java/lang/UnsupportedOperationException" ∈ ZALL := zin (i := 21) (by decide +kernel) rfl
theorem qn_J15 : Cond.initialized RJ15 ∈ ZALL := zin (i := 22) (by decide +kernel) rfl
theorem qn_J3 : Cond.initialized RJ3 ∈ ZALL := zin (i := 23) (by decide +kernel) rfl
theorem qn_J8 : Cond.initialized RJ8 ∈ ZALL := zin (i := 24) (by decide +kernel) rfl
theorem qn_J7 : Cond.initialized RJ7 ∈ ZALL := zin (i := 25) (by decide +kernel) rfl
theorem qn_J10 : Cond.initialized RJ10 ∈ ZALL := zin (i := 26) (by decide +kernel) rfl
theorem qn_X11 : Cond.initialized RX11 ∈ ZALL := zin (i := 27) (by decide +kernel) rfl
theorem qn_X1 : Cond.initialized RX1 ∈ ZALL := zin (i := 28) (by decide +kernel) rfl
theorem qn_java_util_NoSuchElementException : Cond.initialized "java/util/NoSuchElementException" ∈ ZALL := zin (i := 29) (by decide +kernel) rfl
theorem qn_java_lang_IndexOutOfBoundsException : Cond.initialized "java/lang/IndexOutOfBoundsException" ∈ ZALL := zin (i := 30) (by decide +kernel) rfl
theorem qn_Jx00060 : Cond.initialized RJx00060 ∈ ZALL := zin (i := 31) (by decide +kernel) rfl
theorem qn_Jx7c733 : Cond.initialized RJx7c733 ∈ ZALL := zin (i := 32) (by decide +kernel) rfl
theorem qn_J1 : Cond.initialized RJ1 ∈ ZALL := zin (i := 33) (by decide +kernel) rfl
theorem qn_Jxd2413 : Cond.initialized RJxd2413 ∈ ZALL := zin (i := 34) (by decide +kernel) rfl
theorem qn_J6 : Cond.initialized RJ6 ∈ ZALL := zin (i := 35) (by decide +kernel) rfl
theorem qn_X9 : Cond.initialized RX9 ∈ ZALL := zin (i := 36) (by decide +kernel) rfl
theorem qn_X6 : Cond.initialized RX6 ∈ ZALL := zin (i := 37) (by decide +kernel) rfl
theorem qn_Jxf58ca : Cond.initialized RJxf58ca ∈ ZALL := zin (i := 38) (by decide +kernel) rfl
theorem qn_java_lang_ArithmeticException : Cond.initialized "java/lang/ArithmeticException" ∈ ZALL := zin (i := 39) (by decide +kernel) rfl
theorem qn_Jx29ce0 : Cond.initialized RJx29ce0 ∈ ZALL := zin (i := 40) (by decide +kernel) rfl
theorem qn_X7 : Cond.initialized RX7 ∈ ZALL := zin (i := 41) (by decide +kernel) rfl
theorem qn_X3 : Cond.initialized RX3 ∈ ZALL := zin (i := 42) (by decide +kernel) rfl
theorem qn_X0 : Cond.initialized RX0 ∈ ZALL := zin (i := 43) (by decide +kernel) rfl
theorem qk_L_8 : Cond.classLink RL 8 RX12 ∈ ZALL := zin (i := 44) (by decide +kernel) rfl
theorem qx_X12 : Cond.instantiable RX12 11 ∈ ZALL := zin (i := 45) (by decide +kernel) rfl
theorem qm_L_157 : Cond.methodLink RL 157 yX12_init  ∈ ZALL := zin (i := 46) (by decide +kernel) rfl
theorem qi_X12_init : Cond.instanceMethod yX12_init ∈ ZALL := zin (i := 47) (by decide +kernel) rfl
theorem qc_X12_init : Cond.code yX12_init cX12_init (1 : Nat) (Option.none : Option Jvm.ClassFile.FieldType) ∈ ZALL := zin (i := 48) (by decide +kernel) rfl
theorem qm_X12_1 : Cond.methodLink RX12 1 ⟨"java/lang/Object", "<init>", "()V"⟩  ∈ ZALL := zin (i := 49) (by decide +kernel) rfl
theorem qi_java_lang_Object_init_da8c8 : Cond.instanceMethod ⟨"java/lang/Object", "<init>", "()V"⟩ ∈ ZALL := zin (i := 50) (by decide +kernel) rfl
theorem qc_java_lang_Object_init_da8c8 : Cond.code ⟨"java/lang/Object", "<init>", "()V"⟩ object_method_1_code (1 : Nat) (Option.none : Option Jvm.ClassFile.FieldType) ∈ ZALL := zin (i := 51) (by decide +kernel) rfl
theorem qk_X12_7 : Cond.classLink RX12 7 RX2 ∈ ZALL := zin (i := 52) (by decide +kernel) rfl
theorem qx_X2 : Cond.instantiable RX2 2 ∈ ZALL := zin (i := 53) (by decide +kernel) rfl
theorem qm_X12_11 : Cond.methodLink RX12 11 yX2_init  ∈ ZALL := zin (i := 54) (by decide +kernel) rfl
theorem qi_X2_init : Cond.instanceMethod yX2_init ∈ ZALL := zin (i := 55) (by decide +kernel) rfl
theorem qc_X2_init : Cond.code yX2_init cX2_init (2 : Nat) (Option.none : Option Jvm.ClassFile.FieldType) ∈ ZALL := zin (i := 56) (by decide +kernel) rfl
theorem qm_X2_3 : Cond.methodLink RX2 3 ⟨"java/lang/Object", "<init>", "()V"⟩  ∈ ZALL := zin (i := 57) (by decide +kernel) rfl
theorem qm_X2_15 : Cond.methodLink RX2 15 yJ9_max_7cf53  ∈ ZALL := zin (i := 58) (by decide +kernel) rfl
theorem qt_J9_max_7cf53 : Cond.static yJ9_max_7cf53 ∈ ZALL := zin (i := 59) (by decide +kernel) rfl
theorem qc_J9_max_7cf53 : Cond.code yJ9_max_7cf53 cJ9_max_7cf53 (2 : Nat) (Option.some FieldType.int) ∈ ZALL := zin (i := 60) (by decide +kernel) rfl
theorem ql_X2_21 : Cond.fieldLink RX2 21 "StoneGazette$Buffer" "signs" "[C" ∈ ZALL := zin (i := 61) (by decide +kernel) rfl
theorem ql_X2_9 : Cond.fieldLink RX2 9 "StoneGazette$Buffer" "length" "I" ∈ ZALL := zin (i := 62) (by decide +kernel) rfl
theorem ql_X4_25 : Cond.fieldLinkNest RX4 25 "StoneGazette$Buffer" "length" "I" "StoneGazette" ∈ ZNW := znin (i := 63) (by decide +kernel) rfl
theorem ql_X12_89 : Cond.fieldLinkNest RX12 89 "StoneGazette$Buffer" "length" "I" "StoneGazette" ∈ ZNW := znin (i := 64) (by decide +kernel) rfl
theorem q_69 : Cond.superclass "StoneGazette$Buffer" "java/lang/Object" ∈ ZALL := zin (i := 69) (by decide +kernel) rfl
theorem q_70 : Cond.arrayClass FieldType.char ∈ ZALL := zin (i := 70) (by decide +kernel) rfl
theorem qk_X12_21 : Cond.classLink RX12 21 RJ4 ∈ ZALL := zin (i := 71) (by decide +kernel) rfl
theorem qx_J4 : Cond.instantiable RJ4 4 ∈ ZALL := zin (i := 72) (by decide +kernel) rfl
theorem qm_X12_23 : Cond.methodLink RX12 23 yJ4_init_da8c8  ∈ ZALL := zin (i := 73) (by decide +kernel) rfl
theorem qi_J4_init_da8c8 : Cond.instanceMethod yJ4_init_da8c8 ∈ ZALL := zin (i := 74) (by decide +kernel) rfl
theorem qc_J4_init_da8c8 : Cond.code yJ4_init_da8c8 cJ4_init_da8c8 (1 : Nat) (Option.none : Option Jvm.ClassFile.FieldType) ∈ ZALL := zin (i := 75) (by decide +kernel) rfl
theorem qm_J4_1 : Cond.methodLink RJ4 1 yJ5_init_d00df  ∈ ZALL := zin (i := 76) (by decide +kernel) rfl
theorem qi_J5_init_d00df : Cond.instanceMethod yJ5_init_d00df ∈ ZALL := zin (i := 77) (by decide +kernel) rfl
theorem qc_J5_init_d00df : Cond.code yJ5_init_d00df cJ5_init_d00df (2 : Nat) (Option.none : Option Jvm.ClassFile.FieldType) ∈ ZALL := zin (i := 78) (by decide +kernel) rfl
theorem qm_J5_3 : Cond.methodLink RJ5 3 ⟨"java/lang/Object", "<init>", "()V"⟩  ∈ ZALL := zin (i := 79) (by decide +kernel) rfl
theorem ql_J5_18 : Cond.fieldLink RJ5 18 "java/lang/String" "COMPACT_STRINGS" "Z" ∈ ZALL := zin (i := 80) (by decide +kernel) rfl
theorem qm_J5_26 : Cond.methodLink RJ5 26 yJ2_newBytesFor_77867  ∈ ZALL := zin (i := 82) (by decide +kernel) rfl
theorem qt_J2_newBytesFor_77867 : Cond.static yJ2_newBytesFor_77867 ∈ ZALL := zin (i := 83) (by decide +kernel) rfl
theorem qc_J2_newBytesFor_77867 : Cond.code yJ2_newBytesFor_77867 cJ2_newBytesFor_77867 (1 : Nat) (Option.some (FieldType.array FieldType.byte)) ∈ ZALL := zin (i := 84) (by decide +kernel) rfl
theorem qm_J2_11 : Cond.methodLink RJ2 11 yJ2_newBytesLength_0f7a4  ∈ ZALL := zin (i := 85) (by decide +kernel) rfl
theorem qt_J2_newBytesLength_0f7a4 : Cond.static yJ2_newBytesLength_0f7a4 ∈ ZALL := zin (i := 86) (by decide +kernel) rfl
theorem qc_J2_newBytesLength_0f7a4 : Cond.code yJ2_newBytesLength_0f7a4 cJ2_newBytesLength_0f7a4 (1 : Nat) (Option.some FieldType.int) ∈ ZALL := zin (i := 87) (by decide +kernel) rfl
theorem q_88 : Cond.constant "java/lang/StringUTF16" (20 : Nat) (1073741823 : Int32) ∈ ZALL := zin (i := 88) (by decide +kernel) rfl
theorem ql_J5_15 : Cond.fieldLink RJ5 15 "java/lang/AbstractStringBuilder" "value" "[B" ∈ ZALL := zin (i := 89) (by decide +kernel) rfl
theorem ql_J5_22 : Cond.fieldLink RJ5 22 "java/lang/AbstractStringBuilder" "coder" "B" ∈ ZALL := zin (i := 90) (by decide +kernel) rfl
theorem ql_J5_73 : Cond.fieldLink RJ5 73 "java/lang/AbstractStringBuilder" "maybeLatin1" "Z" ∈ ZALL := zin (i := 91) (by decide +kernel) rfl
theorem ql_J0_1048 : Cond.fieldLink RJ0 1048 "java/lang/AbstractStringBuilder" "maybeLatin1" "Z" ∈ ZALL := zin (i := 92) (by decide +kernel) rfl
theorem ql_J5_79 : Cond.fieldLink RJ5 79 "java/lang/AbstractStringBuilder" "count" "I" ∈ ZALL := zin (i := 93) (by decide +kernel) rfl
theorem q_102 : Cond.superclass "java/lang/StringBuilder" "java/lang/AbstractStringBuilder" ∈ ZALL := zin (i := 102) (by decide +kernel) rfl
theorem q_103 : Cond.arrayClass FieldType.byte ∈ ZALL := zin (i := 103) (by decide +kernel) rfl
theorem qk_X12_28 : Cond.classLink RX12 28 RX8 ∈ ZALL := zin (i := 104) (by decide +kernel) rfl
theorem qx_X8 : Cond.instantiable RX8 5 ∈ ZALL := zin (i := 105) (by decide +kernel) rfl
theorem qm_X12_30 : Cond.methodLinkNest RX12 30 yX8_init "StoneGazette" ∈ ZNW := znin (i := 106) (by decide +kernel) rfl
theorem qi_X8_init : Cond.instanceMethod yX8_init ∈ ZALL := zin (i := 107) (by decide +kernel) rfl
theorem qc_X8_init : Cond.code yX8_init cX8_init (1 : Nat) (Option.none : Option Jvm.ClassFile.FieldType) ∈ ZALL := zin (i := 108) (by decide +kernel) rfl
theorem qm_X8_3 : Cond.methodLink RX8 3 ⟨"java/lang/Object", "<init>", "()V"⟩  ∈ ZALL := zin (i := 109) (by decide +kernel) rfl
theorem ql_X8_11 : Cond.fieldLink RX8 11 "StoneGazette$LineSetter" "signs" "[C" ∈ ZALL := zin (i := 110) (by decide +kernel) rfl
theorem ql_X8_15 : Cond.fieldLink RX8 15 "StoneGazette$LineSetter" "ends" "[I" ∈ ZALL := zin (i := 111) (by decide +kernel) rfl
theorem ql_X8_19 : Cond.fieldLink RX8 19 "StoneGazette$LineSetter" "used" "I" ∈ ZALL := zin (i := 112) (by decide +kernel) rfl
theorem ql_X8_23 : Cond.fieldLink RX8 23 "StoneGazette$LineSetter" "lines" "I" ∈ ZALL := zin (i := 113) (by decide +kernel) rfl
theorem ql_X10_125 : Cond.fieldLinkNest RX10 125 "StoneGazette$LineSetter" "lines" "I" "StoneGazette" ∈ ZNW := znin (i := 114) (by decide +kernel) rfl
theorem ql_X12_215 : Cond.fieldLinkNest RX12 215 "StoneGazette$LineSetter" "lines" "I" "StoneGazette" ∈ ZNW := znin (i := 115) (by decide +kernel) rfl
theorem ql_X8_26 : Cond.fieldLink RX8 26 "StoneGazette$LineSetter" "columnWidth" "I" ∈ ZALL := zin (i := 116) (by decide +kernel) rfl
theorem q_127 : Cond.superclass "StoneGazette$LineSetter" "java/lang/Object" ∈ ZALL := zin (i := 127) (by decide +kernel) rfl
theorem q_128 : Cond.arrayClass FieldType.int ∈ ZALL := zin (i := 128) (by decide +kernel) rfl
theorem qk_X12_35 : Cond.classLink RX12 35 RX5 ∈ ZALL := zin (i := 129) (by decide +kernel) rfl
theorem qx_X5 : Cond.instantiable RX5 1 ∈ ZALL := zin (i := 130) (by decide +kernel) rfl
theorem qm_X12_37 : Cond.methodLinkNest RX12 37 yX5_init "StoneGazette" ∈ ZNW := znin (i := 131) (by decide +kernel) rfl
theorem qi_X5_init : Cond.instanceMethod yX5_init ∈ ZALL := zin (i := 132) (by decide +kernel) rfl
theorem qc_X5_init : Cond.code yX5_init cX5_init (1 : Nat) (Option.none : Option Jvm.ClassFile.FieldType) ∈ ZALL := zin (i := 133) (by decide +kernel) rfl
theorem qm_X5_3 : Cond.methodLink RX5 3 ⟨"java/lang/Object", "<init>", "()V"⟩  ∈ ZALL := zin (i := 134) (by decide +kernel) rfl
theorem ql_X5_9 : Cond.fieldLink RX5 9 "StoneGazette$EvenBreaker" "least" "[I" ∈ ZALL := zin (i := 135) (by decide +kernel) rfl
theorem q_138 : Cond.superclass "StoneGazette$EvenBreaker" "java/lang/Object" ∈ ZALL := zin (i := 138) (by decide +kernel) rfl
theorem qk_X12_42 : Cond.classLink RX12 42 RX4 ∈ ZALL := zin (i := 139) (by decide +kernel) rfl
theorem qx_X4 : Cond.instantiable RX4 2 ∈ ZALL := zin (i := 140) (by decide +kernel) rfl
theorem qm_X12_44 : Cond.methodLinkNest RX12 44 yX4_init "StoneGazette" ∈ ZNW := znin (i := 141) (by decide +kernel) rfl
theorem qi_X4_init : Cond.instanceMethod yX4_init ∈ ZALL := zin (i := 142) (by decide +kernel) rfl
theorem qc_X4_init : Cond.code yX4_init cX4_init (1 : Nat) (Option.none : Option Jvm.ClassFile.FieldType) ∈ ZALL := zin (i := 143) (by decide +kernel) rfl
theorem qm_X4_3 : Cond.methodLink RX4 3 ⟨"java/lang/Object", "<init>", "()V"⟩  ∈ ZALL := zin (i := 144) (by decide +kernel) rfl
theorem qk_X4_9 : Cond.classLink RX4 9 RJx4a65c ∈ ZALL := zin (i := 145) (by decide +kernel) rfl
theorem qx_Jx4a65c : Cond.instantiable RJx4a65c 3 ∈ ZALL := zin (i := 146) (by decide +kernel) rfl
theorem qm_X4_11 : Cond.methodLink RX4 11 yJx4a65c_init_da8c8  ∈ ZALL := zin (i := 147) (by decide +kernel) rfl
theorem qi_Jx4a65c_init_da8c8 : Cond.instanceMethod yJx4a65c_init_da8c8 ∈ ZALL := zin (i := 148) (by decide +kernel) rfl
theorem qc_Jx4a65c_init_da8c8 : Cond.code yJx4a65c_init_da8c8 cJx4a65c_init_da8c8 (1 : Nat) (Option.none : Option Jvm.ClassFile.FieldType) ∈ ZALL := zin (i := 149) (by decide +kernel) rfl
theorem qm_Jx4a65c_1 : Cond.methodLink RJx4a65c 1 yJxc12de_init_da8c8  ∈ ZALL := zin (i := 150) (by decide +kernel) rfl
theorem qi_Jxc12de_init_da8c8 : Cond.instanceMethod yJxc12de_init_da8c8 ∈ ZALL := zin (i := 151) (by decide +kernel) rfl
theorem qc_Jxc12de_init_da8c8 : Cond.code yJxc12de_init_da8c8 cJxc12de_init_da8c8 (1 : Nat) (Option.none : Option Jvm.ClassFile.FieldType) ∈ ZALL := zin (i := 152) (by decide +kernel) rfl
theorem qm_Jxc12de_1 : Cond.methodLink RJxc12de 1 yJxa1e45_init_da8c8  ∈ ZALL := zin (i := 153) (by decide +kernel) rfl
theorem qi_Jxa1e45_init_da8c8 : Cond.instanceMethod yJxa1e45_init_da8c8 ∈ ZALL := zin (i := 154) (by decide +kernel) rfl
theorem qc_Jxa1e45_init_da8c8 : Cond.code yJxa1e45_init_da8c8 cJxa1e45_init_da8c8 (1 : Nat) (Option.none : Option Jvm.ClassFile.FieldType) ∈ ZALL := zin (i := 155) (by decide +kernel) rfl
theorem qm_Jxa1e45_1 : Cond.methodLink RJxa1e45 1 ⟨"java/lang/Object", "<init>", "()V"⟩  ∈ ZALL := zin (i := 156) (by decide +kernel) rfl
theorem ql_Jx4a65c_39 : Cond.fieldLink RJx4a65c 39 "java/util/ArrayList" "DEFAULTCAPACITY_EMPTY_ELEMENTDATA" "[Ljava/lang/Object;" ∈ ZALL := zin (i := 157) (by decide +kernel) rfl
theorem ql_Jx4a65c_9 : Cond.fieldLink RJx4a65c 9 "java/util/ArrayList" "elementData" "[Ljava/lang/Object;" ∈ ZALL := zin (i := 159) (by decide +kernel) rfl
theorem ql_Jx4a65c_48 : Cond.fieldLink RJx4a65c 48 "java/util/ArrayList" "size" "I" ∈ ZALL := zin (i := 160) (by decide +kernel) rfl
theorem ql_Jxc12de_7 : Cond.fieldLink RJxc12de 7 "java/util/AbstractList" "modCount" "I" ∈ ZALL := zin (i := 161) (by decide +kernel) rfl
theorem ql_Jx4a65c_63 : Cond.fieldLink RJx4a65c 63 "java/util/ArrayList" "modCount" "I" ∈ ZALL := zin (i := 162) (by decide +kernel) rfl
theorem q_163 : Cond.sameField "java/util/ArrayList" "java/util/AbstractList" "modCount" "I" ∈ ZALL := zin (i := 163) (by decide +kernel) rfl
theorem q_170 : Cond.superclass "java/util/ArrayList" "java/util/AbstractList" ∈ ZALL := zin (i := 170) (by decide +kernel) rfl
theorem ql_X4_12 : Cond.fieldLink RX4 12 "StoneGazette$CommandReader" "commands" "Ljava/util/ArrayList;" ∈ ZALL := zin (i := 171) (by decide +kernel) rfl
theorem ql_X12_364 : Cond.fieldLinkNest RX12 364 "StoneGazette$CommandReader" "commands" "Ljava/util/ArrayList;" "StoneGazette" ∈ ZNW := znin (i := 172) (by decide +kernel) rfl
theorem ql_X4_18 : Cond.fieldLink RX4 18 "StoneGazette$CommandReader" "position" "I" ∈ ZALL := zin (i := 173) (by decide +kernel) rfl
theorem ql_X12_359 : Cond.fieldLinkNest RX12 359 "StoneGazette$CommandReader" "position" "I" "StoneGazette" ∈ ZNW := znin (i := 174) (by decide +kernel) rfl
theorem q_179 : Cond.superclass "StoneGazette$CommandReader" "java/lang/Object" ∈ ZALL := zin (i := 179) (by decide +kernel) rfl
theorem qk_X12_49 : Cond.classLink RX12 49 RJx4a65c ∈ ZALL := zin (i := 180) (by decide +kernel) rfl
theorem qm_X12_51 : Cond.methodLink RX12 51 yJx4a65c_init_da8c8  ∈ ZALL := zin (i := 181) (by decide +kernel) rfl
theorem qk_X12_56 : Cond.classLink RX12 56 RX10 ∈ ZALL := zin (i := 182) (by decide +kernel) rfl
theorem qx_X10 : Cond.instantiable RX10 9 ∈ ZALL := zin (i := 183) (by decide +kernel) rfl
theorem qm_X12_58 : Cond.methodLinkNest RX12 58 yX10_init "StoneGazette" ∈ ZNW := znin (i := 184) (by decide +kernel) rfl
theorem qi_X10_init : Cond.instanceMethod yX10_init ∈ ZALL := zin (i := 185) (by decide +kernel) rfl
theorem qc_X10_init : Cond.code yX10_init cX10_init (1 : Nat) (Option.none : Option Jvm.ClassFile.FieldType) ∈ ZALL := zin (i := 186) (by decide +kernel) rfl
theorem qm_X10_3 : Cond.methodLink RX10 3 ⟨"java/lang/Object", "<init>", "()V"⟩  ∈ ZALL := zin (i := 187) (by decide +kernel) rfl
theorem qk_X10_9 : Cond.classLink RX10 9 RJx4a65c ∈ ZALL := zin (i := 188) (by decide +kernel) rfl
theorem qm_X10_11 : Cond.methodLink RX10 11 yJx4a65c_init_da8c8  ∈ ZALL := zin (i := 189) (by decide +kernel) rfl
theorem ql_X10_12 : Cond.fieldLink RX10 12 "StoneGazette$State" "articles" "Ljava/util/ArrayList;" ∈ ZALL := zin (i := 190) (by decide +kernel) rfl
theorem ql_X12_98 : Cond.fieldLinkNest RX12 98 "StoneGazette$State" "articles" "Ljava/util/ArrayList;" "StoneGazette" ∈ ZNW := znin (i := 191) (by decide +kernel) rfl
theorem ql_X10_18 : Cond.fieldLink RX10 18 "StoneGazette$State" "issues" "Ljava/util/ArrayList;" ∈ ZALL := zin (i := 192) (by decide +kernel) rfl
theorem ql_X12_263 : Cond.fieldLinkNest RX12 263 "StoneGazette$State" "issues" "Ljava/util/ArrayList;" "StoneGazette" ∈ ZNW := znin (i := 193) (by decide +kernel) rfl
theorem ql_X10_21 : Cond.fieldLink RX10 21 "StoneGazette$State" "nextId" "I" ∈ ZALL := zin (i := 194) (by decide +kernel) rfl
theorem ql_X10_25 : Cond.fieldLink RX10 25 "StoneGazette$State" "nextNumber" "I" ∈ ZALL := zin (i := 195) (by decide +kernel) rfl
theorem ql_X12_254 : Cond.fieldLinkNest RX12 254 "StoneGazette$State" "nextNumber" "I" "StoneGazette" ∈ ZNW := znin (i := 196) (by decide +kernel) rfl
theorem ql_X10_28 : Cond.fieldLink RX10 28 "StoneGazette$State" "columnWidth" "I" ∈ ZALL := zin (i := 197) (by decide +kernel) rfl
theorem ql_X12_205 : Cond.fieldLinkNest RX12 205 "StoneGazette$State" "columnWidth" "I" "StoneGazette" ∈ ZNW := znin (i := 198) (by decide +kernel) rfl
theorem ql_X10_31 : Cond.fieldLink RX10 31 "StoneGazette$State" "pageColumns" "I" ∈ ZALL := zin (i := 199) (by decide +kernel) rfl
theorem ql_X10_34 : Cond.fieldLink RX10 34 "StoneGazette$State" "pageHeight" "I" ∈ ZALL := zin (i := 200) (by decide +kernel) rfl
theorem ql_X10_37 : Cond.fieldLink RX10 37 "StoneGazette$State" "today" "I" ∈ ZALL := zin (i := 201) (by decide +kernel) rfl
theorem ql_X12_312 : Cond.fieldLinkNest RX12 312 "StoneGazette$State" "today" "I" "StoneGazette" ∈ ZNW := znin (i := 202) (by decide +kernel) rfl
theorem ql_X10_40 : Cond.fieldLink RX10 40 "StoneGazette$State" "lateOnes" "I" ∈ ZALL := zin (i := 203) (by decide +kernel) rfl
theorem ql_X12_197 : Cond.fieldLinkNest RX12 197 "StoneGazette$State" "lateOnes" "I" "StoneGazette" ∈ ZNW := znin (i := 204) (by decide +kernel) rfl
theorem q_223 : Cond.superclass "StoneGazette$State" "java/lang/Object" ∈ ZALL := zin (i := 223) (by decide +kernel) rfl
theorem ql_X12_14 : Cond.fieldLink RX12 14 "StoneGazette" "text" "LStoneGazette$Buffer;" ∈ ZALL := zin (i := 224) (by decide +kernel) rfl
theorem ql_X12_18 : Cond.fieldLink RX12 18 "StoneGazette" "commandBuffer" "LStoneGazette$Buffer;" ∈ ZALL := zin (i := 225) (by decide +kernel) rfl
theorem ql_X12_24 : Cond.fieldLink RX12 24 "StoneGazette" "output" "Ljava/lang/StringBuilder;" ∈ ZALL := zin (i := 226) (by decide +kernel) rfl
theorem ql_X12_31 : Cond.fieldLink RX12 31 "StoneGazette" "lineSetter" "LStoneGazette$LineSetter;" ∈ ZALL := zin (i := 227) (by decide +kernel) rfl
theorem ql_X12_38 : Cond.fieldLink RX12 38 "StoneGazette" "evenBreaker" "LStoneGazette$EvenBreaker;" ∈ ZALL := zin (i := 228) (by decide +kernel) rfl
theorem ql_X12_45 : Cond.fieldLink RX12 45 "StoneGazette" "commandReader" "LStoneGazette$CommandReader;" ∈ ZALL := zin (i := 229) (by decide +kernel) rfl
theorem ql_X12_52 : Cond.fieldLink RX12 52 "StoneGazette" "history" "Ljava/util/ArrayList;" ∈ ZALL := zin (i := 230) (by decide +kernel) rfl
theorem ql_X12_59 : Cond.fieldLink RX12 59 "StoneGazette" "state" "LStoneGazette$State;" ∈ ZALL := zin (i := 231) (by decide +kernel) rfl
theorem ql_X12_63 : Cond.fieldLink RX12 63 "StoneGazette" "saved" "LStoneGazette$State;" ∈ ZALL := zin (i := 232) (by decide +kernel) rfl
theorem ql_X12_66 : Cond.fieldLink RX12 66 "StoneGazette" "keptErrorPosition" "I" ∈ ZALL := zin (i := 233) (by decide +kernel) rfl
theorem ql_X12_70 : Cond.fieldLink RX12 70 "StoneGazette" "keptFailedCommand" "I" ∈ ZALL := zin (i := 234) (by decide +kernel) rfl
theorem q_257 : Cond.superclass "StoneGazette" "java/lang/Object" ∈ ZALL := zin (i := 257) (by decide +kernel) rfl
theorem qm_L_170 : Cond.methodLink RL 170 yX12_clearText  ∈ ZALL := zin (i := 258) (by decide +kernel) rfl
theorem qi_X12_clearText : Cond.instanceMethod yX12_clearText ∈ ZALL := zin (i := 259) (by decide +kernel) rfl
theorem qs_X12_clearText : Cond.selects RX12 yX12_clearText yX12_clearText ∈ ZALL := zin (i := 260) (by decide +kernel) rfl
theorem qc_X12_clearText : Cond.code yX12_clearText cX12_clearText (1 : Nat) (Option.some FieldType.int) ∈ ZALL := zin (i := 261) (by decide +kernel) rfl
theorem qm_X12_92 : Cond.methodLink RX12 92 yX2_empty  ∈ ZALL := zin (i := 262) (by decide +kernel) rfl
theorem qi_X2_empty : Cond.instanceMethod yX2_empty ∈ ZALL := zin (i := 263) (by decide +kernel) rfl
theorem qs_X2_empty : Cond.selects RX2 yX2_empty yX2_empty ∈ ZALL := zin (i := 264) (by decide +kernel) rfl
theorem qc_X2_empty : Cond.code yX2_empty cX2_empty (2 : Nat) (Option.some FieldType.int) ∈ ZALL := zin (i := 265) (by decide +kernel) rfl
theorem qm_L_185 : Cond.methodLink RL 185 yX12_articleCount  ∈ ZALL := zin (i := 266) (by decide +kernel) rfl
theorem qi_X12_articleCount : Cond.instanceMethod yX12_articleCount ∈ ZALL := zin (i := 267) (by decide +kernel) rfl
theorem qs_X12_articleCount : Cond.selects RX12 yX12_articleCount yX12_articleCount ∈ ZALL := zin (i := 268) (by decide +kernel) rfl
theorem qc_X12_articleCount : Cond.code yX12_articleCount cX12_articleCount (1 : Nat) (Option.some FieldType.int) ∈ ZALL := zin (i := 269) (by decide +kernel) rfl
theorem qm_X12_101 : Cond.methodLink RX12 101 yJx4a65c_size_8abf5  ∈ ZALL := zin (i := 270) (by decide +kernel) rfl
theorem qi_Jx4a65c_size_8abf5 : Cond.instanceMethod yJx4a65c_size_8abf5 ∈ ZALL := zin (i := 271) (by decide +kernel) rfl
theorem qs_Jx4a65c_size_8abf5 : Cond.selects RJx4a65c yJx4a65c_size_8abf5 yJx4a65c_size_8abf5 ∈ ZALL := zin (i := 272) (by decide +kernel) rfl
theorem qc_Jx4a65c_size_8abf5 : Cond.code yJx4a65c_size_8abf5 cJx4a65c_size_8abf5 (1 : Nat) (Option.some FieldType.int) ∈ ZALL := zin (i := 273) (by decide +kernel) rfl
theorem qm_L_211 : Cond.methodLink RL 211 yX12_lateCorrections  ∈ ZALL := zin (i := 274) (by decide +kernel) rfl
theorem qi_X12_lateCorrections : Cond.instanceMethod yX12_lateCorrections ∈ ZALL := zin (i := 275) (by decide +kernel) rfl
theorem qs_X12_lateCorrections : Cond.selects RX12 yX12_lateCorrections yX12_lateCorrections ∈ ZALL := zin (i := 276) (by decide +kernel) rfl
theorem qc_X12_lateCorrections : Cond.code yX12_lateCorrections cX12_lateCorrections (1 : Nat) (Option.some FieldType.int) ∈ ZALL := zin (i := 277) (by decide +kernel) rfl
theorem qm_L_218 : Cond.methodLink RL 218 yX12_width  ∈ ZALL := zin (i := 278) (by decide +kernel) rfl
theorem qi_X12_width : Cond.instanceMethod yX12_width ∈ ZALL := zin (i := 279) (by decide +kernel) rfl
theorem qs_X12_width : Cond.selects RX12 yX12_width yX12_width ∈ ZALL := zin (i := 280) (by decide +kernel) rfl
theorem qc_X12_width : Cond.code yX12_width cX12_width (1 : Nat) (Option.some FieldType.int) ∈ ZALL := zin (i := 281) (by decide +kernel) rfl
theorem qm_L_253 : Cond.methodLink RL 253 yX12_issueCount  ∈ ZALL := zin (i := 282) (by decide +kernel) rfl
theorem qi_X12_issueCount : Cond.instanceMethod yX12_issueCount ∈ ZALL := zin (i := 283) (by decide +kernel) rfl
theorem qs_X12_issueCount : Cond.selects RX12 yX12_issueCount yX12_issueCount ∈ ZALL := zin (i := 284) (by decide +kernel) rfl
theorem qc_X12_issueCount : Cond.code yX12_issueCount cX12_issueCount (1 : Nat) (Option.some FieldType.int) ∈ ZALL := zin (i := 285) (by decide +kernel) rfl
theorem qm_L_257 : Cond.methodLink RL 257 yX12_isKept  ∈ ZALL := zin (i := 286) (by decide +kernel) rfl
theorem qi_X12_isKept : Cond.instanceMethod yX12_isKept ∈ ZALL := zin (i := 287) (by decide +kernel) rfl
theorem qs_X12_isKept : Cond.selects RX12 yX12_isKept yX12_isKept ∈ ZALL := zin (i := 288) (by decide +kernel) rfl
theorem qc_X12_isKept : Cond.code yX12_isKept cX12_isKept (2 : Nat) (Option.some FieldType.boolean) ∈ ZALL := zin (i := 289) (by decide +kernel) rfl
theorem qm_X12_266 : Cond.methodLink RX12 266 yX10_findIssue  ∈ ZALL := zin (i := 290) (by decide +kernel) rfl
theorem qi_X10_findIssue : Cond.instanceMethod yX10_findIssue ∈ ZALL := zin (i := 291) (by decide +kernel) rfl
theorem qs_X10_findIssue : Cond.selects RX10 yX10_findIssue yX10_findIssue ∈ ZALL := zin (i := 292) (by decide +kernel) rfl
theorem qc_X10_findIssue : Cond.code yX10_findIssue cX10_findIssue (4 : Nat) (Option.some (FieldType.object "StoneGazette$Issue")) ∈ ZALL := zin (i := 293) (by decide +kernel) rfl
theorem qm_X10_44 : Cond.methodLink RX10 44 yJx4a65c_size_8abf5  ∈ ZALL := zin (i := 294) (by decide +kernel) rfl
theorem qm_X10_48 : Cond.methodLink RX10 48 yJx4a65c_get_915e3  ∈ ZALL := zin (i := 295) (by decide +kernel) rfl
theorem qi_Jx4a65c_get_915e3 : Cond.instanceMethod yJx4a65c_get_915e3 ∈ ZALL := zin (i := 296) (by decide +kernel) rfl
theorem qs_Jx4a65c_get_915e3 : Cond.selects RJx4a65c yJx4a65c_get_915e3 yJx4a65c_get_915e3 ∈ ZALL := zin (i := 297) (by decide +kernel) rfl
theorem qc_Jx4a65c_get_915e3 : Cond.code yJx4a65c_get_915e3 cJx4a65c_get_915e3 (2 : Nat) (Option.some (FieldType.object "java/lang/Object")) ∈ ZALL := zin (i := 298) (by decide +kernel) rfl
theorem qm_Jx4a65c_118 : Cond.methodLink RJx4a65c 118 yJ15_checkIndex_7cf53  ∈ ZALL := zin (i := 299) (by decide +kernel) rfl
theorem qt_J15_checkIndex_7cf53 : Cond.static yJ15_checkIndex_7cf53 ∈ ZALL := zin (i := 300) (by decide +kernel) rfl
theorem qc_J15_checkIndex_7cf53 : Cond.code yJ15_checkIndex_7cf53 cJ15_checkIndex_7cf53 (2 : Nat) (Option.some FieldType.int) ∈ ZALL := zin (i := 301) (by decide +kernel) rfl
theorem qm_J15_105 : Cond.methodLink RJ15 105 yJ3_checkIndex_8e157  ∈ ZALL := zin (i := 302) (by decide +kernel) rfl
theorem qt_J3_checkIndex_8e157 : Cond.static yJ3_checkIndex_8e157 ∈ ZALL := zin (i := 303) (by decide +kernel) rfl
theorem qc_J3_checkIndex_8e157 : Cond.code yJ3_checkIndex_8e157 cJ3_checkIndex_8e157 (3 : Nat) (Option.some FieldType.int) ∈ ZALL := zin (i := 304) (by decide +kernel) rfl
theorem qm_Jx4a65c_123 : Cond.methodLink RJx4a65c 123 yJx4a65c_elementData_915e3  ∈ ZALL := zin (i := 305) (by decide +kernel) rfl
theorem qi_Jx4a65c_elementData_915e3 : Cond.instanceMethod yJx4a65c_elementData_915e3 ∈ ZALL := zin (i := 306) (by decide +kernel) rfl
theorem qs_Jx4a65c_elementData_915e3 : Cond.selects RJx4a65c yJx4a65c_elementData_915e3 yJx4a65c_elementData_915e3 ∈ ZALL := zin (i := 307) (by decide +kernel) rfl
theorem qc_Jx4a65c_elementData_915e3 : Cond.code yJx4a65c_elementData_915e3 cJx4a65c_elementData_915e3 (2 : Nat) (Option.some (FieldType.object "java/lang/Object")) ∈ ZALL := zin (i := 308) (by decide +kernel) rfl
theorem qk_X10_58 : Cond.classLink RX10 58 RX6 ∈ ZALL := zin (i := 309) (by decide +kernel) rfl
theorem qm_L_280 : Cond.methodLink RL 280 yX12_day  ∈ ZALL := zin (i := 310) (by decide +kernel) rfl
theorem qi_X12_day : Cond.instanceMethod yX12_day ∈ ZALL := zin (i := 311) (by decide +kernel) rfl
theorem qs_X12_day : Cond.selects RX12 yX12_day yX12_day ∈ ZALL := zin (i := 312) (by decide +kernel) rfl
theorem qc_X12_day : Cond.code yX12_day cX12_day (1 : Nat) (Option.some FieldType.int) ∈ ZALL := zin (i := 313) (by decide +kernel) rfl
theorem qm_L_309 : Cond.methodLink RL 309 yX12_isConsistent  ∈ ZALL := zin (i := 314) (by decide +kernel) rfl
theorem qi_X12_isConsistent : Cond.instanceMethod yX12_isConsistent ∈ ZALL := zin (i := 315) (by decide +kernel) rfl
theorem qs_X12_isConsistent : Cond.selects RX12 yX12_isConsistent yX12_isConsistent ∈ ZALL := zin (i := 316) (by decide +kernel) rfl
theorem qc_X12_isConsistent : Cond.code yX12_isConsistent cX12_isConsistent (3 : Nat) (Option.some FieldType.boolean) ∈ ZALL := zin (i := 317) (by decide +kernel) rfl
theorem qm_X12_166 : Cond.methodLink RX12 166 yJx4a65c_get_915e3  ∈ ZALL := zin (i := 318) (by decide +kernel) rfl
theorem qk_X12_170 : Cond.classLink RX12 170 RX1 ∈ ZALL := zin (i := 319) (by decide +kernel) rfl
theorem qm_X12_346 : Cond.methodLink RX12 346 yX12_linesKeepWidth  ∈ ZALL := zin (i := 320) (by decide +kernel) rfl
theorem qp_X12_linesKeepWidth : Cond.privateMethod yX12_linesKeepWidth ∈ ZNW := znin (i := 321) (by decide +kernel) rfl
theorem qi_X12_linesKeepWidth : Cond.instanceMethod yX12_linesKeepWidth ∈ ZALL := zin (i := 322) (by decide +kernel) rfl
theorem qc_X12_linesKeepWidth : Cond.code yX12_linesKeepWidth cX12_linesKeepWidth (3 : Nat) (Option.some FieldType.boolean) ∈ ZALL := zin (i := 323) (by decide +kernel) rfl
theorem qm_X12_208 : Cond.methodLink RX12 208 yX8_arrange  ∈ ZALL := zin (i := 324) (by decide +kernel) rfl
theorem qi_X8_arrange : Cond.instanceMethod yX8_arrange ∈ ZALL := zin (i := 325) (by decide +kernel) rfl
theorem qs_X8_arrange : Cond.selects RX8 yX8_arrange yX8_arrange ∈ ZALL := zin (i := 326) (by decide +kernel) rfl
theorem qc_X8_arrange : Cond.code yX8_arrange cX8_arrange (7 : Nat) (Option.some FieldType.boolean) ∈ ZALL := zin (i := 327) (by decide +kernel) rfl
theorem qm_X8_35 : Cond.methodLink RX8 35 yX8_place  ∈ ZALL := zin (i := 328) (by decide +kernel) rfl
theorem qp_X8_place : Cond.privateMethod yX8_place ∈ ZNW := znin (i := 329) (by decide +kernel) rfl
theorem qi_X8_place : Cond.instanceMethod yX8_place ∈ ZALL := zin (i := 330) (by decide +kernel) rfl
theorem qc_X8_place : Cond.code yX8_place cX8_place (7 : Nat) (Option.some FieldType.boolean) ∈ ZALL := zin (i := 331) (by decide +kernel) rfl
theorem qm_X8_42 : Cond.methodLink RX8 42 yX8_startOf  ∈ ZALL := zin (i := 332) (by decide +kernel) rfl
theorem qp_X8_startOf : Cond.privateMethod yX8_startOf ∈ ZNW := znin (i := 333) (by decide +kernel) rfl
theorem qi_X8_startOf : Cond.instanceMethod yX8_startOf ∈ ZALL := zin (i := 334) (by decide +kernel) rfl
theorem qc_X8_startOf : Cond.code yX8_startOf cX8_startOf (2 : Nat) (Option.some FieldType.int) ∈ ZALL := zin (i := 335) (by decide +kernel) rfl
theorem qm_X8_46 : Cond.methodLink RX8 46 yX11_letterCount  ∈ ZALL := zin (i := 336) (by decide +kernel) rfl
theorem qi_X11_letterCount : Cond.instanceMethod yX11_letterCount ∈ ZALL := zin (i := 337) (by decide +kernel) rfl
theorem qs_X11_letterCount : Cond.selects RX11 yX11_letterCount yX11_letterCount ∈ ZALL := zin (i := 338) (by decide +kernel) rfl
theorem qc_X11_letterCount : Cond.code yX11_letterCount cX11_letterCount (1 : Nat) (Option.some FieldType.int) ∈ ZALL := zin (i := 339) (by decide +kernel) rfl
theorem qm_X8_52 : Cond.methodLink RX8 52 yX8_putPart  ∈ ZALL := zin (i := 340) (by decide +kernel) rfl
theorem qp_X8_putPart : Cond.privateMethod yX8_putPart ∈ ZNW := znin (i := 341) (by decide +kernel) rfl
theorem qi_X8_putPart : Cond.instanceMethod yX8_putPart ∈ ZALL := zin (i := 342) (by decide +kernel) rfl
theorem qc_X8_putPart : Cond.code yX8_putPart cX8_putPart (5 : Nat) (Option.none : Option Jvm.ClassFile.FieldType) ∈ ZALL := zin (i := 343) (by decide +kernel) rfl
theorem qm_X8_60 : Cond.methodLink RX8 60 yX8_putSign  ∈ ZALL := zin (i := 344) (by decide +kernel) rfl
theorem qp_X8_putSign : Cond.privateMethod yX8_putSign ∈ ZNW := znin (i := 345) (by decide +kernel) rfl
theorem qi_X8_putSign : Cond.instanceMethod yX8_putSign ∈ ZALL := zin (i := 346) (by decide +kernel) rfl
theorem qc_X8_putSign : Cond.code yX8_putSign cX8_putSign (2 : Nat) (Option.none : Option Jvm.ClassFile.FieldType) ∈ ZALL := zin (i := 347) (by decide +kernel) rfl
theorem qm_X8_56 : Cond.methodLink RX8 56 yX11_lastCut  ∈ ZALL := zin (i := 348) (by decide +kernel) rfl
theorem qi_X11_lastCut : Cond.instanceMethod yX11_lastCut ∈ ZALL := zin (i := 349) (by decide +kernel) rfl
theorem qs_X11_lastCut : Cond.selects RX11 yX11_lastCut yX11_lastCut ∈ ZALL := zin (i := 350) (by decide +kernel) rfl
theorem qc_X11_lastCut : Cond.code yX11_lastCut cX11_lastCut (4 : Nat) (Option.some FieldType.int) ∈ ZALL := zin (i := 351) (by decide +kernel) rfl
theorem qm_X11_23 : Cond.methodLink RX11 23 yX11_hasCutAt  ∈ ZALL := zin (i := 352) (by decide +kernel) rfl
theorem qi_X11_hasCutAt : Cond.instanceMethod yX11_hasCutAt ∈ ZALL := zin (i := 353) (by decide +kernel) rfl
theorem qs_X11_hasCutAt : Cond.selects RX11 yX11_hasCutAt yX11_hasCutAt ∈ ZALL := zin (i := 354) (by decide +kernel) rfl
theorem qc_X11_hasCutAt : Cond.code yX11_hasCutAt cX11_hasCutAt (2 : Nat) (Option.some FieldType.boolean) ∈ ZALL := zin (i := 355) (by decide +kernel) rfl
theorem qm_X8_39 : Cond.methodLink RX8 39 yX8_closeLine  ∈ ZALL := zin (i := 356) (by decide +kernel) rfl
theorem qp_X8_closeLine : Cond.privateMethod yX8_closeLine ∈ ZNW := znin (i := 357) (by decide +kernel) rfl
theorem qi_X8_closeLine : Cond.instanceMethod yX8_closeLine ∈ ZALL := zin (i := 358) (by decide +kernel) rfl
theorem qc_X8_closeLine : Cond.code yX8_closeLine cX8_closeLine (1 : Nat) (Option.none : Option Jvm.ClassFile.FieldType) ∈ ZALL := zin (i := 359) (by decide +kernel) rfl
theorem qm_X12_222 : Cond.methodLink RX12 222 yX8_lengthOf  ∈ ZALL := zin (i := 360) (by decide +kernel) rfl
theorem qi_X8_lengthOf : Cond.instanceMethod yX8_lengthOf ∈ ZALL := zin (i := 361) (by decide +kernel) rfl
theorem qs_X8_lengthOf : Cond.selects RX8 yX8_lengthOf yX8_lengthOf ∈ ZALL := zin (i := 362) (by decide +kernel) rfl
theorem qc_X8_lengthOf : Cond.code yX8_lengthOf cX8_lengthOf (2 : Nat) (Option.some FieldType.int) ∈ ZALL := zin (i := 363) (by decide +kernel) rfl
theorem qm_X8_67 : Cond.methodLink RX8 67 yX8_endOf  ∈ ZALL := zin (i := 364) (by decide +kernel) rfl
theorem qp_X8_endOf : Cond.privateMethod yX8_endOf ∈ ZNW := znin (i := 365) (by decide +kernel) rfl
theorem qi_X8_endOf : Cond.instanceMethod yX8_endOf ∈ ZALL := zin (i := 366) (by decide +kernel) rfl
theorem qc_X8_endOf : Cond.code yX8_endOf cX8_endOf (2 : Nat) (Option.some FieldType.int) ∈ ZALL := zin (i := 367) (by decide +kernel) rfl
theorem qm_X12_350 : Cond.methodLink RX12 350 yX12_badnessesAgree  ∈ ZALL := zin (i := 368) (by decide +kernel) rfl
theorem qp_X12_badnessesAgree : Cond.privateMethod yX12_badnessesAgree ∈ ZNW := znin (i := 369) (by decide +kernel) rfl
theorem qi_X12_badnessesAgree : Cond.instanceMethod yX12_badnessesAgree ∈ ZALL := zin (i := 370) (by decide +kernel) rfl
theorem qc_X12_badnessesAgree : Cond.code yX12_badnessesAgree cX12_badnessesAgree (3 : Nat) (Option.some FieldType.boolean) ∈ ZALL := zin (i := 371) (by decide +kernel) rfl
theorem qm_X12_398 : Cond.methodLink RX12 398 yX1_longestWord  ∈ ZALL := zin (i := 372) (by decide +kernel) rfl
theorem qi_X1_longestWord : Cond.instanceMethod yX1_longestWord ∈ ZALL := zin (i := 373) (by decide +kernel) rfl
theorem qs_X1_longestWord : Cond.selects RX1 yX1_longestWord yX1_longestWord ∈ ZALL := zin (i := 374) (by decide +kernel) rfl
theorem qc_X1_longestWord : Cond.code yX1_longestWord cX1_longestWord (6 : Nat) (Option.some FieldType.int) ∈ ZALL := zin (i := 375) (by decide +kernel) rfl
theorem qm_X1_28 : Cond.methodLink RX1 28 yX11_letterCount  ∈ ZALL := zin (i := 376) (by decide +kernel) rfl
theorem qm_X1_34 : Cond.methodLink RX1 34 yJ9_max_7cf53  ∈ ZALL := zin (i := 377) (by decide +kernel) rfl
theorem qm_X12_241 : Cond.methodLink RX12 241 yX5_fromLastWord  ∈ ZALL := zin (i := 378) (by decide +kernel) rfl
theorem qi_X5_fromLastWord : Cond.instanceMethod yX5_fromLastWord ∈ ZALL := zin (i := 379) (by decide +kernel) rfl
theorem qs_X5_fromLastWord : Cond.selects RX5 yX5_fromLastWord yX5_fromLastWord ∈ ZALL := zin (i := 380) (by decide +kernel) rfl
theorem qc_X5_fromLastWord : Cond.code yX5_fromLastWord cX5_fromLastWord (5 : Nat) (Option.some FieldType.int) ∈ ZALL := zin (i := 381) (by decide +kernel) rfl
theorem qm_X5_21 : Cond.methodLink RX5 21 yJ9_min_7cf53  ∈ ZALL := zin (i := 382) (by decide +kernel) rfl
theorem qt_J9_min_7cf53 : Cond.static yJ9_min_7cf53 ∈ ZALL := zin (i := 383) (by decide +kernel) rfl
theorem qc_J9_min_7cf53 : Cond.code yJ9_min_7cf53 cJ9_min_7cf53 (2 : Nat) (Option.some FieldType.int) ∈ ZALL := zin (i := 384) (by decide +kernel) rfl
theorem qm_X5_27 : Cond.methodLink RX5 27 yX5_leastBehind  ∈ ZALL := zin (i := 385) (by decide +kernel) rfl
theorem qp_X5_leastBehind : Cond.privateMethod yX5_leastBehind ∈ ZNW := znin (i := 386) (by decide +kernel) rfl
theorem qi_X5_leastBehind : Cond.instanceMethod yX5_leastBehind ∈ ZALL := zin (i := 387) (by decide +kernel) rfl
theorem qc_X5_leastBehind : Cond.code yX5_leastBehind cX5_leastBehind (9 : Nat) (Option.some FieldType.int) ∈ ZALL := zin (i := 388) (by decide +kernel) rfl
theorem q_389 : Cond.constant "StoneGazette$EvenBreaker" (31 : Nat) (1000000 : Int32) ∈ ZALL := zin (i := 389) (by decide +kernel) rfl
theorem qm_X5_32 : Cond.methodLink RX5 32 yX11_letterCount  ∈ ZALL := zin (i := 390) (by decide +kernel) rfl
theorem qm_X5_38 : Cond.methodLink RX5 38 yX5_square  ∈ ZALL := zin (i := 391) (by decide +kernel) rfl
theorem qt_X5_square : Cond.static yX5_square ∈ ZALL := zin (i := 392) (by decide +kernel) rfl
theorem qc_X5_square : Cond.code yX5_square cX5_square (1 : Nat) (Option.some FieldType.int) ∈ ZALL := zin (i := 393) (by decide +kernel) rfl
theorem qm_X12_245 : Cond.methodLink RX12 245 yX5_fromFirstWord  ∈ ZALL := zin (i := 394) (by decide +kernel) rfl
theorem qi_X5_fromFirstWord : Cond.instanceMethod yX5_fromFirstWord ∈ ZALL := zin (i := 395) (by decide +kernel) rfl
theorem qs_X5_fromFirstWord : Cond.selects RX5 yX5_fromFirstWord yX5_fromFirstWord ∈ ZALL := zin (i := 396) (by decide +kernel) rfl
theorem qc_X5_fromFirstWord : Cond.code yX5_fromFirstWord cX5_fromFirstWord (5 : Nat) (Option.some FieldType.int) ∈ ZALL := zin (i := 397) (by decide +kernel) rfl
theorem qm_X5_42 : Cond.methodLink RX5 42 yX5_leastBefore  ∈ ZALL := zin (i := 398) (by decide +kernel) rfl
theorem qp_X5_leastBefore : Cond.privateMethod yX5_leastBefore ∈ ZNW := znin (i := 399) (by decide +kernel) rfl
theorem qi_X5_leastBefore : Cond.instanceMethod yX5_leastBefore ∈ ZALL := zin (i := 400) (by decide +kernel) rfl
theorem qc_X5_leastBefore : Cond.code yX5_leastBefore cX5_leastBefore (9 : Nat) (Option.some FieldType.int) ∈ ZALL := zin (i := 401) (by decide +kernel) rfl
theorem qm_L_329 : Cond.methodLink RL 329 yX12_undoCount  ∈ ZALL := zin (i := 402) (by decide +kernel) rfl
theorem qi_X12_undoCount : Cond.instanceMethod yX12_undoCount ∈ ZALL := zin (i := 403) (by decide +kernel) rfl
theorem qs_X12_undoCount : Cond.selects RX12 yX12_undoCount yX12_undoCount ∈ ZALL := zin (i := 404) (by decide +kernel) rfl
theorem qc_X12_undoCount : Cond.code yX12_undoCount cX12_undoCount (1 : Nat) (Option.some FieldType.int) ∈ ZALL := zin (i := 405) (by decide +kernel) rfl
theorem qm_L_333 : Cond.methodLink RL 333 yX12_save  ∈ ZALL := zin (i := 406) (by decide +kernel) rfl
theorem qi_X12_save : Cond.instanceMethod yX12_save ∈ ZALL := zin (i := 407) (by decide +kernel) rfl
theorem qs_X12_save : Cond.selects RX12 yX12_save yX12_save ∈ ZALL := zin (i := 408) (by decide +kernel) rfl
theorem qc_X12_save : Cond.code yX12_save cX12_save (1 : Nat) (Option.some FieldType.int) ∈ ZALL := zin (i := 409) (by decide +kernel) rfl
theorem qm_L_161 : Cond.methodLink RL 161 yL_type  ∈ ZALL := zin (i := 410) (by decide +kernel) rfl
theorem qt_L_type : Cond.static yL_type ∈ ZALL := zin (i := 411) (by decide +kernel) rfl
theorem qc_L_type : Cond.codeWith ({ cls := "StoneGazetteLaw", name := "type", desc := "(LStoneGazette;C[J)I" } : MethodName) method_3_code (4 : Nat) (Option.some FieldType.int) [((0 : Nat), (9 : Nat), (12 : Nat), (13 : Nat)), ((0 : Nat), (9 : Nat), (15 : Nat), (15 : Nat))] ∈ ZALL := zin (i := 412) (by decide +kernel) rfl
theorem qk_L_13 : Cond.classLink RL 13 "java/lang/IllegalArgumentException" ∈ ZALL := zin (i := 413) (by decide +kernel) rfl
theorem qk_L_15 : Cond.classLink RL 15 "java/lang/IllegalStateException" ∈ ZALL := zin (i := 414) (by decide +kernel) rfl
theorem qm_L_7 : Cond.methodLink RL 7 yX12_type  ∈ ZALL := zin (i := 415) (by decide +kernel) rfl
theorem qi_X12_type : Cond.instanceMethod yX12_type ∈ ZALL := zin (i := 416) (by decide +kernel) rfl
theorem qs_X12_type : Cond.selects RX12 yX12_type yX12_type ∈ ZALL := zin (i := 417) (by decide +kernel) rfl
theorem qc_X12_type : Cond.code yX12_type cX12_type (2 : Nat) (Option.some FieldType.int) ∈ ZALL := zin (i := 418) (by decide +kernel) rfl
theorem qk_X12_73 : Cond.classLink RX12 73 "java/lang/IllegalArgumentException" ∈ ZALL := zin (i := 419) (by decide +kernel) rfl
theorem qx_java_lang_IllegalArgumentException : Cond.instantiable "java/lang/IllegalArgumentException" 6 ∈ ZALL := zin (i := 420) (by decide +kernel) rfl
theorem q_421 : Cond.castable "java/lang/IllegalArgumentException" "java/lang/IllegalArgumentException" ∈ ZNW := znin (i := 421) (by decide +kernel) rfl
theorem qd_java_lang_RuntimeException_init_da8c8 : Cond.declares ⟨"java/lang/RuntimeException", "<init>", "()V"⟩ ∈ ZNW := znin (i := 422) (by decide +kernel) rfl
theorem qd_java_lang_RuntimeException_init_a7421 : Cond.declares ⟨"java/lang/RuntimeException", "<init>", "(Ljava/lang/String;)V"⟩ ∈ ZNW := znin (i := 423) (by decide +kernel) rfl
theorem qd_java_lang_Exception_init_da8c8 : Cond.declares ⟨"java/lang/Exception", "<init>", "()V"⟩ ∈ ZNW := znin (i := 424) (by decide +kernel) rfl
theorem qd_java_lang_Exception_init_a7421 : Cond.declares ⟨"java/lang/Exception", "<init>", "(Ljava/lang/String;)V"⟩ ∈ ZNW := znin (i := 425) (by decide +kernel) rfl
theorem qd_java_lang_Throwable_init_da8c8 : Cond.declares ⟨"java/lang/Throwable", "<init>", "()V"⟩ ∈ ZNW := znin (i := 426) (by decide +kernel) rfl
theorem qd_java_lang_Throwable_init_a7421 : Cond.declares ⟨"java/lang/Throwable", "<init>", "(Ljava/lang/String;)V"⟩ ∈ ZNW := znin (i := 427) (by decide +kernel) rfl
theorem qs_java_lang_Throwable_fillInStackTrace_ad160_java_lang_IllegalArgumentException : Cond.selects "java/lang/IllegalArgumentException" ⟨"java/lang/Throwable", "fillInStackTrace", "(I)Ljava/lang/Throwable;"⟩ ⟨"java/lang/Throwable", "fillInStackTrace", "(I)Ljava/lang/Throwable;"⟩ ∈ ZALL := zin (i := 428) (by decide +kernel) rfl
theorem qs_java_lang_Throwable_fillInStackTrace_cddbd_java_lang_IllegalArgumentException : Cond.selects "java/lang/IllegalArgumentException" ⟨"java/lang/Throwable", "fillInStackTrace", "()Ljava/lang/Throwable;"⟩ ⟨"java/lang/Throwable", "fillInStackTrace", "()Ljava/lang/Throwable;"⟩ ∈ ZALL := zin (i := 429) (by decide +kernel) rfl
theorem ql_java_lang_Throwable_198 : Cond.fieldLink "java/lang/Throwable" 198 "java/lang/Throwable" "backtrace" "Ljava/lang/Object;" ∈ ZALL := zin (i := 440) (by decide +kernel) rfl
theorem q_441 : Cond.superclass "java/lang/Throwable" "java/lang/Object" ∈ ZALL := zin (i := 441) (by decide +kernel) rfl
theorem qi_java_lang_Throwable_init_da8c8 : Cond.instanceMethod ⟨"java/lang/Throwable", "<init>", "()V"⟩ ∈ ZALL := zin (i := 442) (by decide +kernel) rfl
theorem qc_java_lang_Throwable_init_da8c8 : Cond.code ⟨"java/lang/Throwable", "<init>", "()V"⟩ prog_41_method_1_code (1 : Nat) (Option.none : Option Jvm.ClassFile.FieldType) ∈ ZALL := zin (i := 443) (by decide +kernel) rfl
theorem qm_java_lang_Throwable_1 : Cond.methodLink "java/lang/Throwable" 1 ⟨"java/lang/Object", "<init>", "()V"⟩  ∈ ZALL := zin (i := 444) (by decide +kernel) rfl
theorem ql_java_lang_Throwable_13 : Cond.fieldLink "java/lang/Throwable" 13 "java/lang/Throwable" "UNASSIGNED_STACK" "[Ljava/lang/StackTraceElement;" ∈ ZALL := zin (i := 445) (by decide +kernel) rfl
theorem ql_java_lang_Throwable_20 : Cond.fieldLink "java/lang/Throwable" 20 "java/lang/Throwable" "SUPPRESSED_SENTINEL" "Ljava/util/List;" ∈ ZALL := zin (i := 447) (by decide +kernel) rfl
theorem qm_java_lang_Throwable_27 : Cond.methodLink "java/lang/Throwable" 27 ⟨"java/lang/Throwable", "fillInStackTrace", "()Ljava/lang/Throwable;"⟩  ∈ ZALL := zin (i := 449) (by decide +kernel) rfl
theorem qi_java_lang_Throwable_fillInStackTrace_cddbd : Cond.instanceMethod ⟨"java/lang/Throwable", "fillInStackTrace", "()Ljava/lang/Throwable;"⟩ ∈ ZALL := zin (i := 450) (by decide +kernel) rfl
theorem q_451 : Cond.sameMethod "java/lang/Throwable" "java/lang/Throwable" "fillInStackTrace" "()Ljava/lang/Throwable;" ∈ ZALL := zin (i := 451) (by decide +kernel) rfl
theorem qs_java_lang_Throwable_fillInStackTrace_cddbd_java_lang_ArithmeticException : Cond.selects "java/lang/ArithmeticException" ⟨"java/lang/Throwable", "fillInStackTrace", "()Ljava/lang/Throwable;"⟩ ⟨"java/lang/Throwable", "fillInStackTrace", "()Ljava/lang/Throwable;"⟩ ∈ ZALL := zin (i := 452) (by decide +kernel) rfl
theorem qs_java_lang_Throwable_fillInStackTrace_cddbd_Jx00060 : Cond.selects RJx00060 ⟨"java/lang/Throwable", "fillInStackTrace", "()Ljava/lang/Throwable;"⟩ ⟨"java/lang/Throwable", "fillInStackTrace", "()Ljava/lang/Throwable;"⟩ ∈ ZALL := zin (i := 453) (by decide +kernel) rfl
theorem qs_java_lang_Throwable_fillInStackTrace_cddbd_java_lang_IllegalStateException : Cond.selects "java/lang/IllegalStateException" ⟨"java/lang/Throwable", "fillInStackTrace", "()Ljava/lang/Throwable;"⟩ ⟨"java/lang/Throwable", "fillInStackTrace", "()Ljava/lang/Throwable;"⟩ ∈ ZALL := zin (i := 454) (by decide +kernel) rfl
theorem qs_java_lang_Throwable_fillInStackTrace_cddbd_java_lang_IndexOutOfBoundsException : Cond.selects "java/lang/IndexOutOfBoundsException" ⟨"java/lang/Throwable", "fillInStackTrace", "()Ljava/lang/Throwable;"⟩ ⟨"java/lang/Throwable", "fillInStackTrace", "()Ljava/lang/Throwable;"⟩ ∈ ZALL := zin (i := 455) (by decide +kernel) rfl
theorem qs_java_lang_Throwable_fillInStackTrace_cddbd_Jx7c733 : Cond.selects RJx7c733 ⟨"java/lang/Throwable", "fillInStackTrace", "()Ljava/lang/Throwable;"⟩ ⟨"java/lang/Throwable", "fillInStackTrace", "()Ljava/lang/Throwable;"⟩ ∈ ZALL := zin (i := 456) (by decide +kernel) rfl
theorem qs_java_lang_Throwable_fillInStackTrace_cddbd_java_lang_UnsupportedOperationException : Cond.selects "java/lang/UnsupportedOperationException" ⟨"java/lang/Throwable", "fillInStackTrace", "()Ljava/lang/Throwable;"⟩ ⟨"java/lang/Throwable", "fillInStackTrace", "()Ljava/lang/Throwable;"⟩ ∈ ZALL := zin (i := 457) (by decide +kernel) rfl
theorem qs_java_lang_Throwable_fillInStackTrace_cddbd_java_util_NoSuchElementException : Cond.selects "java/util/NoSuchElementException" ⟨"java/lang/Throwable", "fillInStackTrace", "()Ljava/lang/Throwable;"⟩ ⟨"java/lang/Throwable", "fillInStackTrace", "()Ljava/lang/Throwable;"⟩ ∈ ZALL := zin (i := 458) (by decide +kernel) rfl
theorem qc_java_lang_Throwable_fillInStackTrace_cddbd : Cond.codeSync ({ cls := "java/lang/Throwable", name := "fillInStackTrace", desc := "()Ljava/lang/Throwable;" } : MethodName) prog_41_method_18_code (1 : Nat) (Option.some (FieldType.object "java/lang/Throwable")) ∈ ZALL := zin (i := 459) (by decide +kernel) rfl
theorem qm_java_lang_Throwable_202 : Cond.methodLink "java/lang/Throwable" 202 ⟨"java/lang/Throwable", "fillInStackTrace", "(I)Ljava/lang/Throwable;"⟩  ∈ ZALL := zin (i := 460) (by decide +kernel) rfl
theorem qp_java_lang_Throwable_fillInStackTrace_ad160 : Cond.privateMethod ⟨"java/lang/Throwable", "fillInStackTrace", "(I)Ljava/lang/Throwable;"⟩ ∈ ZNW := znin (i := 461) (by decide +kernel) rfl
theorem qi_java_lang_Throwable_fillInStackTrace_ad160 : Cond.instanceMethod ⟨"java/lang/Throwable", "fillInStackTrace", "(I)Ljava/lang/Throwable;"⟩ ∈ ZALL := zin (i := 462) (by decide +kernel) rfl
theorem qx_java_lang_Throwable : Cond.instantiable "java/lang/Throwable" 6 ∈ ZALL := zin (i := 463) (by decide +kernel) rfl
theorem qv_java_lang_Throwable_fillInStackTrace_ad160 : Cond.native ⟨"java/lang/Throwable", "fillInStackTrace", "(I)Ljava/lang/Throwable;"⟩ ∈ ZALL := zin (i := 464) (by decide +kernel) rfl
theorem qm_X12_77 : Cond.methodLink RX12 77 ⟨"java/lang/IllegalArgumentException", "<init>", "(Ljava/lang/String;)V"⟩  ∈ ZALL := zin (i := 466) (by decide +kernel) rfl
theorem qi_java_lang_IllegalArgumentException_init_a7421 : Cond.instanceMethod ⟨"java/lang/IllegalArgumentException", "<init>", "(Ljava/lang/String;)V"⟩ ∈ ZALL := zin (i := 467) (by decide +kernel) rfl
theorem qc_java_lang_IllegalArgumentException_init_a7421 : Cond.code ⟨"java/lang/IllegalArgumentException", "<init>", "(Ljava/lang/String;)V"⟩ prog_27_method_2_code (2 : Nat) (Option.none : Option Jvm.ClassFile.FieldType) ∈ ZALL := zin (i := 468) (by decide +kernel) rfl
theorem qm_java_lang_IllegalArgumentException_7 : Cond.methodLink "java/lang/IllegalArgumentException" 7 ⟨"java/lang/RuntimeException", "<init>", "(Ljava/lang/String;)V"⟩  ∈ ZALL := zin (i := 469) (by decide +kernel) rfl
theorem qi_java_lang_RuntimeException_init_a7421 : Cond.instanceMethod ⟨"java/lang/RuntimeException", "<init>", "(Ljava/lang/String;)V"⟩ ∈ ZALL := zin (i := 470) (by decide +kernel) rfl
theorem qc_java_lang_RuntimeException_init_a7421 : Cond.code ⟨"java/lang/RuntimeException", "<init>", "(Ljava/lang/String;)V"⟩ prog_34_method_2_code (2 : Nat) (Option.none : Option Jvm.ClassFile.FieldType) ∈ ZALL := zin (i := 471) (by decide +kernel) rfl
theorem qm_java_lang_RuntimeException_7 : Cond.methodLink "java/lang/RuntimeException" 7 ⟨"java/lang/Exception", "<init>", "(Ljava/lang/String;)V"⟩  ∈ ZALL := zin (i := 472) (by decide +kernel) rfl
theorem qi_java_lang_Exception_init_a7421 : Cond.instanceMethod ⟨"java/lang/Exception", "<init>", "(Ljava/lang/String;)V"⟩ ∈ ZALL := zin (i := 473) (by decide +kernel) rfl
theorem qc_java_lang_Exception_init_a7421 : Cond.code ⟨"java/lang/Exception", "<init>", "(Ljava/lang/String;)V"⟩ prog_25_method_2_code (2 : Nat) (Option.none : Option Jvm.ClassFile.FieldType) ∈ ZALL := zin (i := 474) (by decide +kernel) rfl
theorem qm_java_lang_Exception_7 : Cond.methodLink "java/lang/Exception" 7 ⟨"java/lang/Throwable", "<init>", "(Ljava/lang/String;)V"⟩  ∈ ZALL := zin (i := 475) (by decide +kernel) rfl
theorem qi_java_lang_Throwable_init_a7421 : Cond.instanceMethod ⟨"java/lang/Throwable", "<init>", "(Ljava/lang/String;)V"⟩ ∈ ZALL := zin (i := 476) (by decide +kernel) rfl
theorem qc_java_lang_Throwable_init_a7421 : Cond.code ⟨"java/lang/Throwable", "<init>", "(Ljava/lang/String;)V"⟩ prog_41_method_2_code (2 : Nat) (Option.none : Option Jvm.ClassFile.FieldType) ∈ ZALL := zin (i := 477) (by decide +kernel) rfl
theorem ql_java_lang_Throwable_31 : Cond.fieldLink "java/lang/Throwable" 31 "java/lang/Throwable" "detailMessage" "Ljava/lang/String;" ∈ ZALL := zin (i := 479) (by decide +kernel) rfl
theorem ql_java_lang_Throwable_7 : Cond.fieldLink "java/lang/Throwable" 7 "java/lang/Throwable" "cause" "Ljava/lang/Throwable;" ∈ ZALL := zin (i := 480) (by decide +kernel) rfl
theorem ql_java_lang_Throwable_17 : Cond.fieldLink "java/lang/Throwable" 17 "java/lang/Throwable" "stackTrace" "[Ljava/lang/StackTraceElement;" ∈ ZALL := zin (i := 481) (by decide +kernel) rfl
theorem ql_java_lang_Throwable_24 : Cond.fieldLink "java/lang/Throwable" 24 "java/lang/Throwable" "suppressedExceptions" "Ljava/util/List;" ∈ ZALL := zin (i := 482) (by decide +kernel) rfl
theorem q_490 : Cond.superclass "java/lang/IllegalArgumentException" "java/lang/RuntimeException" ∈ ZALL := zin (i := 490) (by decide +kernel) rfl
theorem qm_X12_80 : Cond.methodLink RX12 80 yX2_append  ∈ ZALL := zin (i := 491) (by decide +kernel) rfl
theorem qi_X2_append : Cond.instanceMethod yX2_append ∈ ZALL := zin (i := 492) (by decide +kernel) rfl
theorem qs_X2_append : Cond.selects RX2 yX2_append yX2_append ∈ ZALL := zin (i := 493) (by decide +kernel) rfl
theorem qc_X2_append : Cond.code yX2_append cX2_append (2 : Nat) (Option.some FieldType.boolean) ∈ ZALL := zin (i := 494) (by decide +kernel) rfl
theorem qk_X12_84 : Cond.classLink RX12 84 "java/lang/IllegalStateException" ∈ ZALL := zin (i := 495) (by decide +kernel) rfl
theorem qx_java_lang_IllegalStateException : Cond.instantiable "java/lang/IllegalStateException" 6 ∈ ZALL := zin (i := 496) (by decide +kernel) rfl
theorem q_497 : Cond.castable "java/lang/IllegalStateException" "java/lang/IllegalStateException" ∈ ZNW := znin (i := 497) (by decide +kernel) rfl
theorem qs_java_lang_Throwable_fillInStackTrace_ad160_java_lang_IllegalStateException : Cond.selects "java/lang/IllegalStateException" ⟨"java/lang/Throwable", "fillInStackTrace", "(I)Ljava/lang/Throwable;"⟩ ⟨"java/lang/Throwable", "fillInStackTrace", "(I)Ljava/lang/Throwable;"⟩ ∈ ZALL := zin (i := 498) (by decide +kernel) rfl
theorem qm_X12_88 : Cond.methodLink RX12 88 ⟨"java/lang/IllegalStateException", "<init>", "(Ljava/lang/String;)V"⟩  ∈ ZALL := zin (i := 505) (by decide +kernel) rfl
theorem qi_java_lang_IllegalStateException_init_a7421 : Cond.instanceMethod ⟨"java/lang/IllegalStateException", "<init>", "(Ljava/lang/String;)V"⟩ ∈ ZALL := zin (i := 506) (by decide +kernel) rfl
theorem qc_java_lang_IllegalStateException_init_a7421 : Cond.code ⟨"java/lang/IllegalStateException", "<init>", "(Ljava/lang/String;)V"⟩ prog_28_method_2_code (2 : Nat) (Option.none : Option Jvm.ClassFile.FieldType) ∈ ZALL := zin (i := 507) (by decide +kernel) rfl
theorem qm_java_lang_IllegalStateException_7 : Cond.methodLink "java/lang/IllegalStateException" 7 ⟨"java/lang/RuntimeException", "<init>", "(Ljava/lang/String;)V"⟩  ∈ ZALL := zin (i := 508) (by decide +kernel) rfl
theorem q_510 : Cond.superclass "java/lang/IllegalStateException" "java/lang/RuntimeException" ∈ ZALL := zin (i := 510) (by decide +kernel) rfl
theorem qm_L_174 : Cond.methodLink RL 174 yL_addArticle  ∈ ZALL := zin (i := 511) (by decide +kernel) rfl
theorem qt_L_addArticle : Cond.static yL_addArticle ∈ ZALL := zin (i := 512) (by decide +kernel) rfl
theorem qc_L_addArticle : Cond.codeWith ({ cls := "StoneGazetteLaw", name := "addArticle", desc := "(LStoneGazette;I[J)I" } : MethodName) method_4_code (4 : Nat) (Option.some FieldType.int) [((0 : Nat), (9 : Nat), (12 : Nat), (13 : Nat)), ((0 : Nat), (9 : Nat), (15 : Nat), (15 : Nat)), ((0 : Nat), (9 : Nat), (18 : Nat), (21 : Nat))] ∈ ZALL := zin (i := 513) (by decide +kernel) rfl
theorem qk_L_21 : Cond.classLink RL 21 "java/lang/UnsupportedOperationException" ∈ ZALL := zin (i := 514) (by decide +kernel) rfl
theorem qm_L_17 : Cond.methodLink RL 17 yX12_addArticle  ∈ ZALL := zin (i := 515) (by decide +kernel) rfl
theorem qi_X12_addArticle : Cond.instanceMethod yX12_addArticle ∈ ZALL := zin (i := 516) (by decide +kernel) rfl
theorem qs_X12_addArticle : Cond.selects RX12 yX12_addArticle yX12_addArticle ∈ ZALL := zin (i := 517) (by decide +kernel) rfl
theorem qc_X12_addArticle : Cond.code yX12_addArticle cX12_addArticle (4 : Nat) (Option.some FieldType.int) ∈ ZALL := zin (i := 518) (by decide +kernel) rfl
theorem qm_X12_106 : Cond.methodLink RX12 106 yX2_holdsWords  ∈ ZALL := zin (i := 521) (by decide +kernel) rfl
theorem qi_X2_holdsWords : Cond.instanceMethod yX2_holdsWords ∈ ZALL := zin (i := 522) (by decide +kernel) rfl
theorem qs_X2_holdsWords : Cond.selects RX2 yX2_holdsWords yX2_holdsWords ∈ ZALL := zin (i := 523) (by decide +kernel) rfl
theorem qc_X2_holdsWords : Cond.code yX2_holdsWords cX2_holdsWords (3 : Nat) (Option.some FieldType.boolean) ∈ ZALL := zin (i := 524) (by decide +kernel) rfl
theorem qm_X2_29 : Cond.methodLink RX2 29 yX2_signAt  ∈ ZALL := zin (i := 525) (by decide +kernel) rfl
theorem qi_X2_signAt : Cond.instanceMethod yX2_signAt ∈ ZALL := zin (i := 526) (by decide +kernel) rfl
theorem qs_X2_signAt : Cond.selects RX2 yX2_signAt yX2_signAt ∈ ZALL := zin (i := 527) (by decide +kernel) rfl
theorem qc_X2_signAt : Cond.code yX2_signAt cX2_signAt (2 : Nat) (Option.some FieldType.char) ∈ ZALL := zin (i := 528) (by decide +kernel) rfl
theorem qk_X12_110 : Cond.classLink RX12 110 "java/lang/UnsupportedOperationException" ∈ ZALL := zin (i := 529) (by decide +kernel) rfl
theorem qx_java_lang_UnsupportedOperationException : Cond.instantiable "java/lang/UnsupportedOperationException" 6 ∈ ZALL := zin (i := 530) (by decide +kernel) rfl
theorem q_531 : Cond.castable "java/lang/UnsupportedOperationException" "java/lang/UnsupportedOperationException" ∈ ZNW := znin (i := 531) (by decide +kernel) rfl
theorem qs_java_lang_Throwable_fillInStackTrace_ad160_java_lang_UnsupportedOperationException : Cond.selects "java/lang/UnsupportedOperationException" ⟨"java/lang/Throwable", "fillInStackTrace", "(I)Ljava/lang/Throwable;"⟩ ⟨"java/lang/Throwable", "fillInStackTrace", "(I)Ljava/lang/Throwable;"⟩ ∈ ZALL := zin (i := 532) (by decide +kernel) rfl
theorem qm_X12_114 : Cond.methodLink RX12 114 ⟨"java/lang/UnsupportedOperationException", "<init>", "(Ljava/lang/String;)V"⟩  ∈ ZALL := zin (i := 539) (by decide +kernel) rfl
theorem qi_java_lang_UnsupportedOperationException_init_a7421 : Cond.instanceMethod ⟨"java/lang/UnsupportedOperationException", "<init>", "(Ljava/lang/String;)V"⟩ ∈ ZALL := zin (i := 540) (by decide +kernel) rfl
theorem qc_java_lang_UnsupportedOperationException_init_a7421 : Cond.code ⟨"java/lang/UnsupportedOperationException", "<init>", "(Ljava/lang/String;)V"⟩ prog_42_method_2_code (2 : Nat) (Option.none : Option Jvm.ClassFile.FieldType) ∈ ZALL := zin (i := 541) (by decide +kernel) rfl
theorem qm_java_lang_UnsupportedOperationException_7 : Cond.methodLink "java/lang/UnsupportedOperationException" 7 ⟨"java/lang/RuntimeException", "<init>", "(Ljava/lang/String;)V"⟩  ∈ ZALL := zin (i := 542) (by decide +kernel) rfl
theorem q_544 : Cond.superclass "java/lang/UnsupportedOperationException" "java/lang/RuntimeException" ∈ ZALL := zin (i := 544) (by decide +kernel) rfl
theorem qm_X12_115 : Cond.methodLink RX12 115 yX10_copied  ∈ ZALL := zin (i := 545) (by decide +kernel) rfl
theorem qi_X10_copied : Cond.instanceMethod yX10_copied ∈ ZALL := zin (i := 546) (by decide +kernel) rfl
theorem qs_X10_copied : Cond.selects RX10 yX10_copied yX10_copied ∈ ZALL := zin (i := 547) (by decide +kernel) rfl
theorem qc_X10_copied : Cond.code yX10_copied cX10_copied (3 : Nat) (Option.some (FieldType.object "StoneGazette$State")) ∈ ZALL := zin (i := 548) (by decide +kernel) rfl
theorem qk_X10_13 : Cond.classLink RX10 13 RX10 ∈ ZALL := zin (i := 549) (by decide +kernel) rfl
theorem qm_X10_43 : Cond.methodLink RX10 43 yX10_init  ∈ ZALL := zin (i := 550) (by decide +kernel) rfl
theorem qk_X10_52 : Cond.classLink RX10 52 RX1 ∈ ZALL := zin (i := 551) (by decide +kernel) rfl
theorem qm_X10_54 : Cond.methodLink RX10 54 yJx4a65c_add_9ea2d  ∈ ZALL := zin (i := 552) (by decide +kernel) rfl
theorem qi_Jx4a65c_add_9ea2d : Cond.instanceMethod yJx4a65c_add_9ea2d ∈ ZALL := zin (i := 553) (by decide +kernel) rfl
theorem qs_Jx4a65c_add_9ea2d : Cond.selects RJx4a65c yJx4a65c_add_9ea2d yJx4a65c_add_9ea2d ∈ ZALL := zin (i := 554) (by decide +kernel) rfl
theorem qc_Jx4a65c_add_9ea2d : Cond.code yJx4a65c_add_9ea2d cJx4a65c_add_9ea2d (2 : Nat) (Option.some FieldType.boolean) ∈ ZALL := zin (i := 555) (by decide +kernel) rfl
theorem qm_Jx4a65c_131 : Cond.methodLink RJx4a65c 131 yJx4a65c_add_72be8  ∈ ZALL := zin (i := 556) (by decide +kernel) rfl
theorem qp_Jx4a65c_add_72be8 : Cond.privateMethod yJx4a65c_add_72be8 ∈ ZNW := znin (i := 557) (by decide +kernel) rfl
theorem qi_Jx4a65c_add_72be8 : Cond.instanceMethod yJx4a65c_add_72be8 ∈ ZALL := zin (i := 558) (by decide +kernel) rfl
theorem qc_Jx4a65c_add_72be8 : Cond.code yJx4a65c_add_72be8 cJx4a65c_add_72be8 (4 : Nat) (Option.none : Option Jvm.ClassFile.FieldType) ∈ ZALL := zin (i := 559) (by decide +kernel) rfl
theorem qm_Jx4a65c_129 : Cond.methodLink RJx4a65c 129 yJx4a65c_grow_d5877  ∈ ZALL := zin (i := 560) (by decide +kernel) rfl
theorem qp_Jx4a65c_grow_d5877 : Cond.privateMethod yJx4a65c_grow_d5877 ∈ ZNW := znin (i := 561) (by decide +kernel) rfl
theorem qi_Jx4a65c_grow_d5877 : Cond.instanceMethod yJx4a65c_grow_d5877 ∈ ZALL := zin (i := 562) (by decide +kernel) rfl
theorem qc_Jx4a65c_grow_d5877 : Cond.code yJx4a65c_grow_d5877 cJx4a65c_grow_d5877 (1 : Nat) (Option.some (FieldType.array (FieldType.object "java/lang/Object"))) ∈ ZALL := zin (i := 563) (by decide +kernel) rfl
theorem qm_Jx4a65c_69 : Cond.methodLink RJx4a65c 69 yJx4a65c_grow_92f84  ∈ ZALL := zin (i := 564) (by decide +kernel) rfl
theorem qp_Jx4a65c_grow_92f84 : Cond.privateMethod yJx4a65c_grow_92f84 ∈ ZNW := znin (i := 565) (by decide +kernel) rfl
theorem qi_Jx4a65c_grow_92f84 : Cond.instanceMethod yJx4a65c_grow_92f84 ∈ ZALL := zin (i := 566) (by decide +kernel) rfl
theorem qc_Jx4a65c_grow_92f84 : Cond.code yJx4a65c_grow_92f84 cJx4a65c_grow_92f84 (4 : Nat) (Option.some (FieldType.array (FieldType.object "java/lang/Object"))) ∈ ZALL := zin (i := 567) (by decide +kernel) rfl
theorem qm_Jx4a65c_73 : Cond.methodLink RJx4a65c 73 yJ8_newLength_cabcc  ∈ ZALL := zin (i := 568) (by decide +kernel) rfl
theorem qt_J8_newLength_cabcc : Cond.static yJ8_newLength_cabcc ∈ ZALL := zin (i := 569) (by decide +kernel) rfl
theorem qc_J8_newLength_cabcc : Cond.code yJ8_newLength_cabcc cJ8_newLength_cabcc (4 : Nat) (Option.some FieldType.int) ∈ ZALL := zin (i := 570) (by decide +kernel) rfl
theorem qm_J8_194 : Cond.methodLink RJ8 194 yJ9_max_7cf53  ∈ ZALL := zin (i := 571) (by decide +kernel) rfl
theorem q_572 : Cond.constant "jdk/internal/util/ArraysSupport" (200 : Nat) (2147483639 : Int32) ∈ ZALL := zin (i := 572) (by decide +kernel) rfl
theorem qm_J8_201 : Cond.methodLink RJ8 201 yJ8_hugeLength_7cf53  ∈ ZALL := zin (i := 573) (by decide +kernel) rfl
theorem qt_J8_hugeLength_7cf53 : Cond.static yJ8_hugeLength_7cf53 ∈ ZALL := zin (i := 574) (by decide +kernel) rfl
theorem qc_J8_hugeLength_7cf53 : Cond.code yJ8_hugeLength_7cf53 cJ8_hugeLength_7cf53 (3 : Nat) (Option.some FieldType.int) ∈ ZALL := zin (i := 575) (by decide +kernel) rfl
theorem qm_Jx4a65c_66 : Cond.methodLink RJx4a65c 66 yJ7_copyOf_1904c  ∈ ZALL := zin (i := 576) (by decide +kernel) rfl
theorem qt_J7_copyOf_1904c : Cond.static yJ7_copyOf_1904c ∈ ZALL := zin (i := 577) (by decide +kernel) rfl
theorem qc_J7_copyOf_1904c : Cond.code yJ7_copyOf_1904c cJ7_copyOf_1904c (2 : Nat) (Option.some (FieldType.array (FieldType.object "java/lang/Object"))) ∈ ZALL := zin (i := 578) (by decide +kernel) rfl
theorem qm_J7_86 : Cond.methodLink RJ7 86 ⟨"java/lang/Object", "getClass", "()Ljava/lang/Class;"⟩  ∈ ZALL := zin (i := 579) (by decide +kernel) rfl
theorem qi_java_lang_Object_getClass_d423e : Cond.instanceMethod ⟨"java/lang/Object", "getClass", "()Ljava/lang/Class;"⟩ ∈ ZALL := zin (i := 580) (by decide +kernel) rfl
theorem q_581 : Cond.sameMethod "java/lang/Object" "java/lang/Object" "getClass" "()Ljava/lang/Class;" ∈ ZALL := zin (i := 581) (by decide +kernel) rfl
theorem qs_java_lang_Object_getClass_d423e_X12 : Cond.selects RX12 ⟨"java/lang/Object", "getClass", "()Ljava/lang/Class;"⟩ ⟨"java/lang/Object", "getClass", "()Ljava/lang/Class;"⟩ ∈ ZALL := zin (i := 582) (by decide +kernel) rfl
theorem qs_java_lang_Object_getClass_d423e_X1 : Cond.selects RX1 ⟨"java/lang/Object", "getClass", "()Ljava/lang/Class;"⟩ ⟨"java/lang/Object", "getClass", "()Ljava/lang/Class;"⟩ ∈ ZALL := zin (i := 583) (by decide +kernel) rfl
theorem qs_java_lang_Object_getClass_d423e_X2 : Cond.selects RX2 ⟨"java/lang/Object", "getClass", "()Ljava/lang/Class;"⟩ ⟨"java/lang/Object", "getClass", "()Ljava/lang/Class;"⟩ ∈ ZALL := zin (i := 584) (by decide +kernel) rfl
theorem qs_java_lang_Object_getClass_d423e_X3 : Cond.selects RX3 ⟨"java/lang/Object", "getClass", "()Ljava/lang/Class;"⟩ ⟨"java/lang/Object", "getClass", "()Ljava/lang/Class;"⟩ ∈ ZALL := zin (i := 585) (by decide +kernel) rfl
theorem qs_java_lang_Object_getClass_d423e_X4 : Cond.selects RX4 ⟨"java/lang/Object", "getClass", "()Ljava/lang/Class;"⟩ ⟨"java/lang/Object", "getClass", "()Ljava/lang/Class;"⟩ ∈ ZALL := zin (i := 586) (by decide +kernel) rfl
theorem qs_java_lang_Object_getClass_d423e_X5 : Cond.selects RX5 ⟨"java/lang/Object", "getClass", "()Ljava/lang/Class;"⟩ ⟨"java/lang/Object", "getClass", "()Ljava/lang/Class;"⟩ ∈ ZALL := zin (i := 587) (by decide +kernel) rfl
theorem qs_java_lang_Object_getClass_d423e_X6 : Cond.selects RX6 ⟨"java/lang/Object", "getClass", "()Ljava/lang/Class;"⟩ ⟨"java/lang/Object", "getClass", "()Ljava/lang/Class;"⟩ ∈ ZALL := zin (i := 588) (by decide +kernel) rfl
theorem qs_java_lang_Object_getClass_d423e_X7 : Cond.selects RX7 ⟨"java/lang/Object", "getClass", "()Ljava/lang/Class;"⟩ ⟨"java/lang/Object", "getClass", "()Ljava/lang/Class;"⟩ ∈ ZALL := zin (i := 589) (by decide +kernel) rfl
theorem qs_java_lang_Object_getClass_d423e_X8 : Cond.selects RX8 ⟨"java/lang/Object", "getClass", "()Ljava/lang/Class;"⟩ ⟨"java/lang/Object", "getClass", "()Ljava/lang/Class;"⟩ ∈ ZALL := zin (i := 590) (by decide +kernel) rfl
theorem qs_java_lang_Object_getClass_d423e_X9 : Cond.selects RX9 ⟨"java/lang/Object", "getClass", "()Ljava/lang/Class;"⟩ ⟨"java/lang/Object", "getClass", "()Ljava/lang/Class;"⟩ ∈ ZALL := zin (i := 591) (by decide +kernel) rfl
theorem qs_java_lang_Object_getClass_d423e_X10 : Cond.selects RX10 ⟨"java/lang/Object", "getClass", "()Ljava/lang/Class;"⟩ ⟨"java/lang/Object", "getClass", "()Ljava/lang/Class;"⟩ ∈ ZALL := zin (i := 592) (by decide +kernel) rfl
theorem qs_java_lang_Object_getClass_d423e_X11 : Cond.selects RX11 ⟨"java/lang/Object", "getClass", "()Ljava/lang/Class;"⟩ ⟨"java/lang/Object", "getClass", "()Ljava/lang/Class;"⟩ ∈ ZALL := zin (i := 593) (by decide +kernel) rfl
theorem qs_java_lang_Object_getClass_d423e_X13 : Cond.selects RX13 ⟨"java/lang/Object", "getClass", "()Ljava/lang/Class;"⟩ ⟨"java/lang/Object", "getClass", "()Ljava/lang/Class;"⟩ ∈ ZALL := zin (i := 594) (by decide +kernel) rfl
theorem qs_java_lang_Object_getClass_d423e_java_lang_ArithmeticException : Cond.selects "java/lang/ArithmeticException" ⟨"java/lang/Object", "getClass", "()Ljava/lang/Class;"⟩ ⟨"java/lang/Object", "getClass", "()Ljava/lang/Class;"⟩ ∈ ZALL := zin (i := 595) (by decide +kernel) rfl
theorem qs_java_lang_Object_getClass_d423e_Jx00060 : Cond.selects RJx00060 ⟨"java/lang/Object", "getClass", "()Ljava/lang/Class;"⟩ ⟨"java/lang/Object", "getClass", "()Ljava/lang/Class;"⟩ ∈ ZALL := zin (i := 596) (by decide +kernel) rfl
theorem qs_java_lang_Object_getClass_d423e_java_lang_IllegalArgumentException : Cond.selects "java/lang/IllegalArgumentException" ⟨"java/lang/Object", "getClass", "()Ljava/lang/Class;"⟩ ⟨"java/lang/Object", "getClass", "()Ljava/lang/Class;"⟩ ∈ ZALL := zin (i := 597) (by decide +kernel) rfl
theorem qs_java_lang_Object_getClass_d423e_java_lang_IllegalStateException : Cond.selects "java/lang/IllegalStateException" ⟨"java/lang/Object", "getClass", "()Ljava/lang/Class;"⟩ ⟨"java/lang/Object", "getClass", "()Ljava/lang/Class;"⟩ ∈ ZALL := zin (i := 598) (by decide +kernel) rfl
theorem qs_java_lang_Object_getClass_d423e_java_lang_IndexOutOfBoundsException : Cond.selects "java/lang/IndexOutOfBoundsException" ⟨"java/lang/Object", "getClass", "()Ljava/lang/Class;"⟩ ⟨"java/lang/Object", "getClass", "()Ljava/lang/Class;"⟩ ∈ ZALL := zin (i := 599) (by decide +kernel) rfl
theorem qs_java_lang_Object_getClass_d423e_J0 : Cond.selects RJ0 ⟨"java/lang/Object", "getClass", "()Ljava/lang/Class;"⟩ ⟨"java/lang/Object", "getClass", "()Ljava/lang/Class;"⟩ ∈ ZALL := zin (i := 600) (by decide +kernel) rfl
theorem qs_java_lang_Object_getClass_d423e_J4 : Cond.selects RJ4 ⟨"java/lang/Object", "getClass", "()Ljava/lang/Class;"⟩ ⟨"java/lang/Object", "getClass", "()Ljava/lang/Class;"⟩ ∈ ZALL := zin (i := 601) (by decide +kernel) rfl
theorem qs_java_lang_Object_getClass_d423e_Jx7c733 : Cond.selects RJx7c733 ⟨"java/lang/Object", "getClass", "()Ljava/lang/Class;"⟩ ⟨"java/lang/Object", "getClass", "()Ljava/lang/Class;"⟩ ∈ ZALL := zin (i := 602) (by decide +kernel) rfl
theorem qs_java_lang_Object_getClass_d423e_java_lang_UnsupportedOperationException : Cond.selects "java/lang/UnsupportedOperationException" ⟨"java/lang/Object", "getClass", "()Ljava/lang/Class;"⟩ ⟨"java/lang/Object", "getClass", "()Ljava/lang/Class;"⟩ ∈ ZALL := zin (i := 603) (by decide +kernel) rfl
theorem qs_java_lang_Object_getClass_d423e_Jx4a65c : Cond.selects RJx4a65c ⟨"java/lang/Object", "getClass", "()Ljava/lang/Class;"⟩ ⟨"java/lang/Object", "getClass", "()Ljava/lang/Class;"⟩ ∈ ZALL := zin (i := 604) (by decide +kernel) rfl
theorem qs_java_lang_Object_getClass_d423e_java_util_NoSuchElementException : Cond.selects "java/util/NoSuchElementException" ⟨"java/lang/Object", "getClass", "()Ljava/lang/Class;"⟩ ⟨"java/lang/Object", "getClass", "()Ljava/lang/Class;"⟩ ∈ ZALL := zin (i := 605) (by decide +kernel) rfl
theorem qv_java_lang_Object_getClass_d423e : Cond.native ⟨"java/lang/Object", "getClass", "()Ljava/lang/Class;"⟩ ∈ ZALL := zin (i := 606) (by decide +kernel) rfl
theorem qm_J7_300 : Cond.methodLink RJ7 300 yJ7_copyOf_6403c  ∈ ZALL := zin (i := 607) (by decide +kernel) rfl
theorem qt_J7_copyOf_6403c : Cond.static yJ7_copyOf_6403c ∈ ZALL := zin (i := 608) (by decide +kernel) rfl
theorem qc_J7_copyOf_6403c : Cond.code yJ7_copyOf_6403c cJ7_copyOf_6403c (4 : Nat) (Option.some (FieldType.array (FieldType.object "java/lang/Object"))) ∈ ZALL := zin (i := 609) (by decide +kernel) rfl
theorem qk_J7_110 : Cond.classLink RJ7 110 "[Ljava/lang/Object;" ∈ ZALL := zin (i := 610) (by decide +kernel) rfl
theorem qk_J7_2 : Cond.classLink RJ7 2 "java/lang/Object" ∈ ZALL := zin (i := 612) (by decide +kernel) rfl
theorem qm_J7_304 : Cond.methodLink RJ7 304 yJ9_min_7cf53  ∈ ZALL := zin (i := 613) (by decide +kernel) rfl
theorem qm_J7_150 : Cond.methodLink RJ7 150 ⟨"java/lang/System", "arraycopy", "(Ljava/lang/Object;ILjava/lang/Object;II)V"⟩  ∈ ZALL := zin (i := 614) (by decide +kernel) rfl
theorem qt_J10_arraycopy_1e247 : Cond.static ⟨"java/lang/System", "arraycopy", "(Ljava/lang/Object;ILjava/lang/Object;II)V"⟩ ∈ ZALL := zin (i := 615) (by decide +kernel) rfl
theorem qv_J10_arraycopy_1e247 : Cond.native ⟨"java/lang/System", "arraycopy", "(Ljava/lang/Object;ILjava/lang/Object;II)V"⟩ ∈ ZALL := zin (i := 616) (by decide +kernel) rfl
theorem qm_Jx4a65c_79 : Cond.methodLink RJx4a65c 79 yJ9_max_7cf53  ∈ ZALL := zin (i := 617) (by decide +kernel) rfl
theorem qk_Jx4a65c_7 : Cond.classLink RJx4a65c 7 "java/lang/Object" ∈ ZALL := zin (i := 618) (by decide +kernel) rfl
theorem qm_X12_119 : Cond.methodLink RX12 119 yX2_cutIntoWords  ∈ ZALL := zin (i := 619) (by decide +kernel) rfl
theorem qi_X2_cutIntoWords : Cond.instanceMethod yX2_cutIntoWords ∈ ZALL := zin (i := 620) (by decide +kernel) rfl
theorem qs_X2_cutIntoWords : Cond.selects RX2 yX2_cutIntoWords yX2_cutIntoWords ∈ ZALL := zin (i := 621) (by decide +kernel) rfl
theorem qc_X2_cutIntoWords : Cond.code yX2_cutIntoWords cX2_cutIntoWords (5 : Nat) (Option.some (FieldType.array (FieldType.object "StoneGazette$Word"))) ∈ ZALL := zin (i := 622) (by decide +kernel) rfl
theorem qm_X2_25 : Cond.methodLink RX2 25 yX2_countBlanks  ∈ ZALL := zin (i := 623) (by decide +kernel) rfl
theorem qp_X2_countBlanks : Cond.privateMethod yX2_countBlanks ∈ ZNW := znin (i := 624) (by decide +kernel) rfl
theorem qi_X2_countBlanks : Cond.instanceMethod yX2_countBlanks ∈ ZALL := zin (i := 625) (by decide +kernel) rfl
theorem qc_X2_countBlanks : Cond.code yX2_countBlanks cX2_countBlanks (3 : Nat) (Option.some FieldType.int) ∈ ZALL := zin (i := 626) (by decide +kernel) rfl
theorem qk_X2_33 : Cond.classLink RX2 33 RX11 ∈ ZALL := zin (i := 627) (by decide +kernel) rfl
theorem qm_X2_35 : Cond.methodLink RX2 35 yX2_endOfWord  ∈ ZALL := zin (i := 629) (by decide +kernel) rfl
theorem qp_X2_endOfWord : Cond.privateMethod yX2_endOfWord ∈ ZNW := znin (i := 630) (by decide +kernel) rfl
theorem qi_X2_endOfWord : Cond.instanceMethod yX2_endOfWord ∈ ZALL := zin (i := 631) (by decide +kernel) rfl
theorem qc_X2_endOfWord : Cond.code yX2_endOfWord cX2_endOfWord (3 : Nat) (Option.some FieldType.int) ∈ ZALL := zin (i := 632) (by decide +kernel) rfl
theorem qm_X2_39 : Cond.methodLink RX2 39 yX2_wordBetween  ∈ ZALL := zin (i := 633) (by decide +kernel) rfl
theorem qi_X2_wordBetween : Cond.instanceMethod yX2_wordBetween ∈ ZALL := zin (i := 634) (by decide +kernel) rfl
theorem qs_X2_wordBetween : Cond.selects RX2 yX2_wordBetween yX2_wordBetween ∈ ZALL := zin (i := 635) (by decide +kernel) rfl
theorem qc_X2_wordBetween : Cond.code yX2_wordBetween cX2_wordBetween (5 : Nat) (Option.some (FieldType.object "StoneGazette$Word")) ∈ ZALL := zin (i := 636) (by decide +kernel) rfl
theorem qx_X11 : Cond.instantiable RX11 2 ∈ ZALL := zin (i := 637) (by decide +kernel) rfl
theorem qm_X2_43 : Cond.methodLink RX2 43 yX11_init  ∈ ZALL := zin (i := 638) (by decide +kernel) rfl
theorem qi_X11_init : Cond.instanceMethod yX11_init ∈ ZALL := zin (i := 639) (by decide +kernel) rfl
theorem qc_X11_init : Cond.code yX11_init cX11_init (3 : Nat) (Option.none : Option Jvm.ClassFile.FieldType) ∈ ZALL := zin (i := 640) (by decide +kernel) rfl
theorem qm_X11_3 : Cond.methodLink RX11 3 ⟨"java/lang/Object", "<init>", "()V"⟩  ∈ ZALL := zin (i := 641) (by decide +kernel) rfl
theorem qm_X11_19 : Cond.methodLink RX11 19 yX11_isVowel  ∈ ZALL := zin (i := 642) (by decide +kernel) rfl
theorem qt_X11_isVowel : Cond.static yX11_isVowel ∈ ZALL := zin (i := 643) (by decide +kernel) rfl
theorem qc_X11_isVowel : Cond.code yX11_isVowel cX11_isVowel (1 : Nat) (Option.some FieldType.boolean) ∈ ZALL := zin (i := 644) (by decide +kernel) rfl
theorem ql_X11_9 : Cond.fieldLink RX11 9 "StoneGazette$Word" "letters" "[C" ∈ ZALL := zin (i := 645) (by decide +kernel) rfl
theorem ql_X8_64 : Cond.fieldLinkNest RX8 64 "StoneGazette$Word" "letters" "[C" "StoneGazette" ∈ ZNW := znin (i := 646) (by decide +kernel) rfl
theorem ql_X11_15 : Cond.fieldLink RX11 15 "StoneGazette$Word" "cuts" "[Z" ∈ ZALL := zin (i := 647) (by decide +kernel) rfl
theorem q_652 : Cond.superclass "StoneGazette$Word" "java/lang/Object" ∈ ZALL := zin (i := 652) (by decide +kernel) rfl
theorem q_653 : Cond.arrayClass FieldType.boolean ∈ ZALL := zin (i := 653) (by decide +kernel) rfl
theorem qm_X12_123 : Cond.methodLink RX12 123 yX10_takeArticle  ∈ ZALL := zin (i := 654) (by decide +kernel) rfl
theorem qi_X10_takeArticle : Cond.instanceMethod yX10_takeArticle ∈ ZALL := zin (i := 655) (by decide +kernel) rfl
theorem qs_X10_takeArticle : Cond.selects RX10 yX10_takeArticle yX10_takeArticle ∈ ZALL := zin (i := 656) (by decide +kernel) rfl
theorem qc_X10_takeArticle : Cond.code yX10_takeArticle cX10_takeArticle (4 : Nat) (Option.some FieldType.int) ∈ ZALL := zin (i := 657) (by decide +kernel) rfl
theorem qx_X1 : Cond.instantiable RX1 3 ∈ ZALL := zin (i := 658) (by decide +kernel) rfl
theorem qm_X10_91 : Cond.methodLink RX10 91 yX1_init  ∈ ZALL := zin (i := 659) (by decide +kernel) rfl
theorem qi_X1_init : Cond.instanceMethod yX1_init ∈ ZALL := zin (i := 660) (by decide +kernel) rfl
theorem qc_X1_init : Cond.code yX1_init cX1_init (4 : Nat) (Option.none : Option Jvm.ClassFile.FieldType) ∈ ZALL := zin (i := 661) (by decide +kernel) rfl
theorem qm_X1_1 : Cond.methodLink RX1 1 ⟨"java/lang/Object", "<init>", "()V"⟩  ∈ ZALL := zin (i := 662) (by decide +kernel) rfl
theorem ql_X1_7 : Cond.fieldLink RX1 7 "StoneGazette$Article" "id" "I" ∈ ZALL := zin (i := 663) (by decide +kernel) rfl
theorem ql_X10_60 : Cond.fieldLinkNest RX10 60 "StoneGazette$Article" "id" "I" "StoneGazette" ∈ ZNW := znin (i := 664) (by decide +kernel) rfl
theorem ql_X12_172 : Cond.fieldLinkNest RX12 172 "StoneGazette$Article" "id" "I" "StoneGazette" ∈ ZNW := znin (i := 665) (by decide +kernel) rfl
theorem ql_X1_13 : Cond.fieldLink RX1 13 "StoneGazette$Article" "priority" "I" ∈ ZALL := zin (i := 666) (by decide +kernel) rfl
theorem ql_X12_184 : Cond.fieldLinkNest RX12 184 "StoneGazette$Article" "priority" "I" "StoneGazette" ∈ ZNW := znin (i := 667) (by decide +kernel) rfl
theorem ql_X1_16 : Cond.fieldLink RX1 16 "StoneGazette$Article" "words" "[LStoneGazette$Word;" ∈ ZALL := zin (i := 668) (by decide +kernel) rfl
theorem ql_X5_15 : Cond.fieldLinkNest RX5 15 "StoneGazette$Article" "words" "[LStoneGazette$Word;" "StoneGazette" ∈ ZNW := znin (i := 669) (by decide +kernel) rfl
theorem ql_X8_29 : Cond.fieldLinkNest RX8 29 "StoneGazette$Article" "words" "[LStoneGazette$Word;" "StoneGazette" ∈ ZNW := znin (i := 670) (by decide +kernel) rfl
theorem ql_X12_187 : Cond.fieldLinkNest RX12 187 "StoneGazette$Article" "words" "[LStoneGazette$Word;" "StoneGazette" ∈ ZNW := znin (i := 671) (by decide +kernel) rfl
theorem q_678 : Cond.superclass "StoneGazette$Article" "java/lang/Object" ∈ ZALL := zin (i := 678) (by decide +kernel) rfl
theorem qm_X12_127 : Cond.methodLink RX12 127 yX12_become  ∈ ZALL := zin (i := 679) (by decide +kernel) rfl
theorem qp_X12_become : Cond.privateMethod yX12_become ∈ ZNW := znin (i := 680) (by decide +kernel) rfl
theorem qi_X12_become : Cond.instanceMethod yX12_become ∈ ZALL := zin (i := 681) (by decide +kernel) rfl
theorem qc_X12_become : Cond.code yX12_become cX12_become (2 : Nat) (Option.none : Option Jvm.ClassFile.FieldType) ∈ ZALL := zin (i := 682) (by decide +kernel) rfl
theorem qm_X12_389 : Cond.methodLink RX12 389 yJx4a65c_add_9ea2d  ∈ ZALL := zin (i := 683) (by decide +kernel) rfl
theorem qm_X12_381 : Cond.methodLink RX12 381 yJx4a65c_remove_915e3  ∈ ZALL := zin (i := 684) (by decide +kernel) rfl
theorem qi_Jx4a65c_remove_915e3 : Cond.instanceMethod yJx4a65c_remove_915e3 ∈ ZALL := zin (i := 685) (by decide +kernel) rfl
theorem qs_Jx4a65c_remove_915e3 : Cond.selects RJx4a65c yJx4a65c_remove_915e3 yJx4a65c_remove_915e3 ∈ ZALL := zin (i := 686) (by decide +kernel) rfl
theorem qc_Jx4a65c_remove_915e3 : Cond.code yJx4a65c_remove_915e3 cJx4a65c_remove_915e3 (4 : Nat) (Option.some (FieldType.object "java/lang/Object")) ∈ ZALL := zin (i := 687) (by decide +kernel) rfl
theorem qm_Jx4a65c_144 : Cond.methodLink RJx4a65c 144 yJx4a65c_fastRemove_b59b0  ∈ ZALL := zin (i := 688) (by decide +kernel) rfl
theorem qp_Jx4a65c_fastRemove_b59b0 : Cond.privateMethod yJx4a65c_fastRemove_b59b0 ∈ ZNW := znin (i := 689) (by decide +kernel) rfl
theorem qi_Jx4a65c_fastRemove_b59b0 : Cond.instanceMethod yJx4a65c_fastRemove_b59b0 ∈ ZALL := zin (i := 690) (by decide +kernel) rfl
theorem qc_Jx4a65c_fastRemove_b59b0 : Cond.code yJx4a65c_fastRemove_b59b0 cJx4a65c_fastRemove_b59b0 (4 : Nat) (Option.none : Option Jvm.ClassFile.FieldType) ∈ ZALL := zin (i := 691) (by decide +kernel) rfl
theorem qm_Jx4a65c_112 : Cond.methodLink RJx4a65c 112 ⟨"java/lang/System", "arraycopy", "(Ljava/lang/Object;ILjava/lang/Object;II)V"⟩  ∈ ZALL := zin (i := 692) (by decide +kernel) rfl
theorem qm_L_178 : Cond.methodLink RL 178 yL_removeArticle  ∈ ZALL := zin (i := 693) (by decide +kernel) rfl
theorem qt_L_removeArticle : Cond.static yL_removeArticle ∈ ZALL := zin (i := 694) (by decide +kernel) rfl
theorem qc_L_removeArticle : Cond.codeWith ({ cls := "StoneGazetteLaw", name := "removeArticle", desc := "(LStoneGazette;I[J)I" } : MethodName) method_5_code (4 : Nat) (Option.some FieldType.int) [((0 : Nat), (9 : Nat), (12 : Nat), (26 : Nat))] ∈ ZALL := zin (i := 695) (by decide +kernel) rfl
theorem qk_L_26 : Cond.classLink RL 26 "java/util/NoSuchElementException" ∈ ZALL := zin (i := 696) (by decide +kernel) rfl
theorem qm_L_23 : Cond.methodLink RL 23 yX12_removeArticle  ∈ ZALL := zin (i := 697) (by decide +kernel) rfl
theorem qi_X12_removeArticle : Cond.instanceMethod yX12_removeArticle ∈ ZALL := zin (i := 698) (by decide +kernel) rfl
theorem qs_X12_removeArticle : Cond.selects RX12 yX12_removeArticle yX12_removeArticle ∈ ZALL := zin (i := 699) (by decide +kernel) rfl
theorem qc_X12_removeArticle : Cond.code yX12_removeArticle cX12_removeArticle (3 : Nat) (Option.some FieldType.int) ∈ ZALL := zin (i := 700) (by decide +kernel) rfl
theorem qm_X12_131 : Cond.methodLink RX12 131 yX10_dropArticle  ∈ ZALL := zin (i := 701) (by decide +kernel) rfl
theorem qi_X10_dropArticle : Cond.instanceMethod yX10_dropArticle ∈ ZALL := zin (i := 702) (by decide +kernel) rfl
theorem qs_X10_dropArticle : Cond.selects RX10 yX10_dropArticle yX10_dropArticle ∈ ZALL := zin (i := 703) (by decide +kernel) rfl
theorem qc_X10_dropArticle : Cond.code yX10_dropArticle cX10_dropArticle (3 : Nat) (Option.some FieldType.boolean) ∈ ZALL := zin (i := 704) (by decide +kernel) rfl
theorem qm_X10_63 : Cond.methodLink RX10 63 yX10_indexOf  ∈ ZALL := zin (i := 705) (by decide +kernel) rfl
theorem qp_X10_indexOf : Cond.privateMethod yX10_indexOf ∈ ZNW := znin (i := 706) (by decide +kernel) rfl
theorem qi_X10_indexOf : Cond.instanceMethod yX10_indexOf ∈ ZALL := zin (i := 707) (by decide +kernel) rfl
theorem qc_X10_indexOf : Cond.code yX10_indexOf cX10_indexOf (3 : Nat) (Option.some FieldType.int) ∈ ZALL := zin (i := 708) (by decide +kernel) rfl
theorem qm_X10_94 : Cond.methodLink RX10 94 yJx4a65c_remove_915e3  ∈ ZALL := zin (i := 709) (by decide +kernel) rfl
theorem qk_X12_135 : Cond.classLink RX12 135 "java/util/NoSuchElementException" ∈ ZALL := zin (i := 710) (by decide +kernel) rfl
theorem qx_java_util_NoSuchElementException : Cond.instantiable "java/util/NoSuchElementException" 6 ∈ ZALL := zin (i := 711) (by decide +kernel) rfl
theorem q_712 : Cond.castable "java/util/NoSuchElementException" "java/util/NoSuchElementException" ∈ ZNW := znin (i := 712) (by decide +kernel) rfl
theorem qs_java_lang_Throwable_fillInStackTrace_ad160_java_util_NoSuchElementException : Cond.selects "java/util/NoSuchElementException" ⟨"java/lang/Throwable", "fillInStackTrace", "(I)Ljava/lang/Throwable;"⟩ ⟨"java/lang/Throwable", "fillInStackTrace", "(I)Ljava/lang/Throwable;"⟩ ∈ ZALL := zin (i := 713) (by decide +kernel) rfl
theorem qm_X12_139 : Cond.methodLink RX12 139 ⟨"java/util/NoSuchElementException", "<init>", "(Ljava/lang/String;)V"⟩  ∈ ZALL := zin (i := 720) (by decide +kernel) rfl
theorem qi_java_util_NoSuchElementException_init_a7421 : Cond.instanceMethod ⟨"java/util/NoSuchElementException", "<init>", "(Ljava/lang/String;)V"⟩ ∈ ZALL := zin (i := 721) (by decide +kernel) rfl
theorem qc_java_util_NoSuchElementException_init_a7421 : Cond.code ⟨"java/util/NoSuchElementException", "<init>", "(Ljava/lang/String;)V"⟩ prog_51_method_4_code (2 : Nat) (Option.none : Option Jvm.ClassFile.FieldType) ∈ ZALL := zin (i := 722) (by decide +kernel) rfl
theorem qm_java_util_NoSuchElementException_13 : Cond.methodLink "java/util/NoSuchElementException" 13 ⟨"java/lang/RuntimeException", "<init>", "(Ljava/lang/String;)V"⟩  ∈ ZALL := zin (i := 723) (by decide +kernel) rfl
theorem q_725 : Cond.superclass "java/util/NoSuchElementException" "java/lang/RuntimeException" ∈ ZALL := zin (i := 725) (by decide +kernel) rfl
theorem qm_L_181 : Cond.methodLink RL 181 yL_correct  ∈ ZALL := zin (i := 726) (by decide +kernel) rfl
theorem qt_L_correct : Cond.static yL_correct ∈ ZALL := zin (i := 727) (by decide +kernel) rfl
theorem qc_L_correct : Cond.codeWith ({ cls := "StoneGazetteLaw", name := "correct", desc := "(LStoneGazette;II[J)I" } : MethodName) method_6_code (5 : Nat) (Option.some FieldType.int) [((0 : Nat), (10 : Nat), (13 : Nat), (26 : Nat)), ((0 : Nat), (10 : Nat), (17 : Nat), (32 : Nat)), ((0 : Nat), (10 : Nat), (21 : Nat), (21 : Nat))] ∈ ZALL := zin (i := 728) (by decide +kernel) rfl
theorem qk_L_32 : Cond.classLink RL 32 "java/lang/IndexOutOfBoundsException" ∈ ZALL := zin (i := 729) (by decide +kernel) rfl
theorem qx_Jx00060 : Cond.instantiable RJx00060 6 ∈ ZALL := zin (i := 730) (by decide +kernel) rfl
theorem qi_Jx00060_init_a7421 : Cond.instanceMethod yJx00060_init_a7421 ∈ ZALL := zin (i := 731) (by decide +kernel) rfl
theorem qc_Jx00060_init_a7421 : Cond.code yJx00060_init_a7421 cJx00060_init_a7421 (2 : Nat) (Option.none : Option Jvm.ClassFile.FieldType) ∈ ZALL := zin (i := 732) (by decide +kernel) rfl
theorem qm_Jx00060_7 : Cond.methodLink RJx00060 7 ⟨"java/lang/IndexOutOfBoundsException", "<init>", "(Ljava/lang/String;)V"⟩  ∈ ZALL := zin (i := 733) (by decide +kernel) rfl
theorem qi_java_lang_IndexOutOfBoundsException_init_a7421 : Cond.instanceMethod ⟨"java/lang/IndexOutOfBoundsException", "<init>", "(Ljava/lang/String;)V"⟩ ∈ ZALL := zin (i := 734) (by decide +kernel) rfl
theorem qc_java_lang_IndexOutOfBoundsException_init_a7421 : Cond.code ⟨"java/lang/IndexOutOfBoundsException", "<init>", "(Ljava/lang/String;)V"⟩ prog_29_method_2_code (2 : Nat) (Option.none : Option Jvm.ClassFile.FieldType) ∈ ZALL := zin (i := 735) (by decide +kernel) rfl
theorem qm_java_lang_IndexOutOfBoundsException_7 : Cond.methodLink "java/lang/IndexOutOfBoundsException" 7 ⟨"java/lang/RuntimeException", "<init>", "(Ljava/lang/String;)V"⟩  ∈ ZALL := zin (i := 736) (by decide +kernel) rfl
theorem q_743 : Cond.superclass "java/lang/ArrayIndexOutOfBoundsException" "java/lang/IndexOutOfBoundsException" ∈ ZALL := zin (i := 743) (by decide +kernel) rfl
theorem q_744 : Cond.castable "java/lang/ArrayIndexOutOfBoundsException" "java/lang/ArrayIndexOutOfBoundsException" ∈ ZNW := znin (i := 744) (by decide +kernel) rfl
theorem qd_java_lang_IndexOutOfBoundsException_init_da8c8 : Cond.declares ⟨"java/lang/IndexOutOfBoundsException", "<init>", "()V"⟩ ∈ ZNW := znin (i := 745) (by decide +kernel) rfl
theorem qd_java_lang_IndexOutOfBoundsException_init_a7421 : Cond.declares ⟨"java/lang/IndexOutOfBoundsException", "<init>", "(Ljava/lang/String;)V"⟩ ∈ ZNW := znin (i := 746) (by decide +kernel) rfl
theorem qs_java_lang_Throwable_fillInStackTrace_ad160_Jx00060 : Cond.selects RJx00060 ⟨"java/lang/Throwable", "fillInStackTrace", "(I)Ljava/lang/Throwable;"⟩ ⟨"java/lang/Throwable", "fillInStackTrace", "(I)Ljava/lang/Throwable;"⟩ ∈ ZALL := zin (i := 747) (by decide +kernel) rfl
theorem qx_J0 : Cond.instantiable RJ0 4 ∈ ZALL := zin (i := 748) (by decide +kernel) rfl
theorem qm_L_28 : Cond.methodLink RL 28 yX12_correct  ∈ ZALL := zin (i := 753) (by decide +kernel) rfl
theorem qi_X12_correct : Cond.instanceMethod yX12_correct ∈ ZALL := zin (i := 754) (by decide +kernel) rfl
theorem qs_X12_correct : Cond.selects RX12 yX12_correct yX12_correct ∈ ZALL := zin (i := 755) (by decide +kernel) rfl
theorem qc_X12_correct : Cond.code yX12_correct cX12_correct (5 : Nat) (Option.some FieldType.int) ∈ ZALL := zin (i := 756) (by decide +kernel) rfl
theorem qm_X12_140 : Cond.methodLink RX12 140 yX12_knownWord  ∈ ZALL := zin (i := 757) (by decide +kernel) rfl
theorem qp_X12_knownWord : Cond.privateMethod yX12_knownWord ∈ ZNW := znin (i := 758) (by decide +kernel) rfl
theorem qi_X12_knownWord : Cond.instanceMethod yX12_knownWord ∈ ZALL := zin (i := 759) (by decide +kernel) rfl
theorem qc_X12_knownWord : Cond.code yX12_knownWord cX12_knownWord (4 : Nat) (Option.some (FieldType.object "StoneGazette$Word")) ∈ ZALL := zin (i := 760) (by decide +kernel) rfl
theorem qm_X12_181 : Cond.methodLink RX12 181 yX12_knownArticle  ∈ ZALL := zin (i := 761) (by decide +kernel) rfl
theorem qp_X12_knownArticle : Cond.privateMethod yX12_knownArticle ∈ ZNW := znin (i := 762) (by decide +kernel) rfl
theorem qi_X12_knownArticle : Cond.instanceMethod yX12_knownArticle ∈ ZALL := zin (i := 763) (by decide +kernel) rfl
theorem qc_X12_knownArticle : Cond.code yX12_knownArticle cX12_knownArticle (3 : Nat) (Option.some (FieldType.object "StoneGazette$Article")) ∈ ZALL := zin (i := 764) (by decide +kernel) rfl
theorem qm_X12_393 : Cond.methodLink RX12 393 yX10_findArticle  ∈ ZALL := zin (i := 765) (by decide +kernel) rfl
theorem qi_X10_findArticle : Cond.instanceMethod yX10_findArticle ∈ ZALL := zin (i := 766) (by decide +kernel) rfl
theorem qs_X10_findArticle : Cond.selects RX10 yX10_findArticle yX10_findArticle ∈ ZALL := zin (i := 767) (by decide +kernel) rfl
theorem qc_X10_findArticle : Cond.code yX10_findArticle cX10_findArticle (3 : Nat) (Option.some (FieldType.object "StoneGazette$Article")) ∈ ZALL := zin (i := 768) (by decide +kernel) rfl
theorem qk_X12_161 : Cond.classLink RX12 161 "java/lang/IndexOutOfBoundsException" ∈ ZALL := zin (i := 769) (by decide +kernel) rfl
theorem qx_java_lang_IndexOutOfBoundsException : Cond.instantiable "java/lang/IndexOutOfBoundsException" 6 ∈ ZALL := zin (i := 770) (by decide +kernel) rfl
theorem q_771 : Cond.castable "java/lang/IndexOutOfBoundsException" "java/lang/IndexOutOfBoundsException" ∈ ZNW := znin (i := 771) (by decide +kernel) rfl
theorem qs_java_lang_Throwable_fillInStackTrace_ad160_java_lang_IndexOutOfBoundsException : Cond.selects "java/lang/IndexOutOfBoundsException" ⟨"java/lang/Throwable", "fillInStackTrace", "(I)Ljava/lang/Throwable;"⟩ ⟨"java/lang/Throwable", "fillInStackTrace", "(I)Ljava/lang/Throwable;"⟩ ∈ ZALL := zin (i := 772) (by decide +kernel) rfl
theorem qm_X12_165 : Cond.methodLink RX12 165 ⟨"java/lang/IndexOutOfBoundsException", "<init>", "(Ljava/lang/String;)V"⟩  ∈ ZALL := zin (i := 779) (by decide +kernel) rfl
theorem q_781 : Cond.superclass "java/lang/IndexOutOfBoundsException" "java/lang/RuntimeException" ∈ ZALL := zin (i := 781) (by decide +kernel) rfl
theorem qm_X12_144 : Cond.methodLink RX12 144 yX2_holdsOneWord  ∈ ZALL := zin (i := 782) (by decide +kernel) rfl
theorem qi_X2_holdsOneWord : Cond.instanceMethod yX2_holdsOneWord ∈ ZALL := zin (i := 783) (by decide +kernel) rfl
theorem qs_X2_holdsOneWord : Cond.selects RX2 yX2_holdsOneWord yX2_holdsOneWord ∈ ZALL := zin (i := 784) (by decide +kernel) rfl
theorem qc_X2_holdsOneWord : Cond.code yX2_holdsOneWord cX2_holdsOneWord (1 : Nat) (Option.some FieldType.boolean) ∈ ZALL := zin (i := 785) (by decide +kernel) rfl
theorem qm_X12_149 : Cond.methodLink RX12 149 yX2_wordBetween  ∈ ZALL := zin (i := 787) (by decide +kernel) rfl
theorem qm_X12_152 : Cond.methodLink RX12 152 yX10_replaceWord  ∈ ZALL := zin (i := 788) (by decide +kernel) rfl
theorem qi_X10_replaceWord : Cond.instanceMethod yX10_replaceWord ∈ ZALL := zin (i := 789) (by decide +kernel) rfl
theorem qs_X10_replaceWord : Cond.selects RX10 yX10_replaceWord yX10_replaceWord ∈ ZALL := zin (i := 790) (by decide +kernel) rfl
theorem qc_X10_replaceWord : Cond.code yX10_replaceWord cX10_replaceWord (5 : Nat) (Option.none : Option Jvm.ClassFile.FieldType) ∈ ZALL := zin (i := 791) (by decide +kernel) rfl
theorem qm_X10_97 : Cond.methodLink RX10 97 yX1_corrected  ∈ ZALL := zin (i := 792) (by decide +kernel) rfl
theorem qi_X1_corrected : Cond.instanceMethod yX1_corrected ∈ ZALL := zin (i := 793) (by decide +kernel) rfl
theorem qs_X1_corrected : Cond.selects RX1 yX1_corrected yX1_corrected ∈ ZALL := zin (i := 794) (by decide +kernel) rfl
theorem qc_X1_corrected : Cond.code yX1_corrected cX1_corrected (4 : Nat) (Option.some (FieldType.object "StoneGazette$Article")) ∈ ZALL := zin (i := 795) (by decide +kernel) rfl
theorem qm_X1_20 : Cond.methodLink RX1 20 ⟨"[LStoneGazette$Word;", "clone", "()Ljava/lang/Object;"⟩  ∈ ZALL := zin (i := 796) (by decide +kernel) rfl
theorem q_797 : Cond.sameMethod "[LStoneGazette$Word;" "java/lang/Object" "clone" "()Ljava/lang/Object;" ∈ ZALL := zin (i := 797) (by decide +kernel) rfl
theorem qv_java_lang_Object_clone_0502b : Cond.native ⟨"java/lang/Object", "clone", "()Ljava/lang/Object;"⟩ ∈ ZALL := zin (i := 798) (by decide +kernel) rfl
theorem qi_java_lang_Object_clone_0502b : Cond.instanceMethod ⟨"java/lang/Object", "clone", "()Ljava/lang/Object;"⟩ ∈ ZALL := zin (i := 799) (by decide +kernel) rfl
theorem qs_java_lang_Object_clone_0502b__LStoneGazette_Word_ : Cond.selects "[LStoneGazette$Word;" ⟨"[LStoneGazette$Word;", "clone", "()Ljava/lang/Object;"⟩ ⟨"java/lang/Object", "clone", "()Ljava/lang/Object;"⟩ ∈ ZALL := zin (i := 800) (by decide +kernel) rfl
theorem q_801 : Cond.castable "[LStoneGazette$Word;" "java/lang/Cloneable" ∈ ZNW := znin (i := 801) (by decide +kernel) rfl
theorem qk_X1_21 : Cond.classLink RX1 21 "[LStoneGazette$Word;" ∈ ZALL := zin (i := 802) (by decide +kernel) rfl
theorem qk_X1_8 : Cond.classLink RX1 8 RX1 ∈ ZALL := zin (i := 803) (by decide +kernel) rfl
theorem qm_X1_25 : Cond.methodLink RX1 25 yX1_init  ∈ ZALL := zin (i := 804) (by decide +kernel) rfl
theorem qm_X10_101 : Cond.methodLink RX10 101 yJx4a65c_set_bcc79  ∈ ZALL := zin (i := 805) (by decide +kernel) rfl
theorem qi_Jx4a65c_set_bcc79 : Cond.instanceMethod yJx4a65c_set_bcc79 ∈ ZALL := zin (i := 806) (by decide +kernel) rfl
theorem qs_Jx4a65c_set_bcc79 : Cond.selects RJx4a65c yJx4a65c_set_bcc79 yJx4a65c_set_bcc79 ∈ ZALL := zin (i := 807) (by decide +kernel) rfl
theorem qc_Jx4a65c_set_bcc79 : Cond.code yJx4a65c_set_bcc79 cJx4a65c_set_bcc79 (4 : Nat) (Option.some (FieldType.object "java/lang/Object")) ∈ ZALL := zin (i := 808) (by decide +kernel) rfl
theorem qm_X10_105 : Cond.methodLink RX10 105 yX10_isInKeptIssue  ∈ ZALL := zin (i := 809) (by decide +kernel) rfl
theorem qp_X10_isInKeptIssue : Cond.privateMethod yX10_isInKeptIssue ∈ ZNW := znin (i := 810) (by decide +kernel) rfl
theorem qi_X10_isInKeptIssue : Cond.instanceMethod yX10_isInKeptIssue ∈ ZALL := zin (i := 811) (by decide +kernel) rfl
theorem qc_X10_isInKeptIssue : Cond.code yX10_isInKeptIssue cX10_isInKeptIssue (3 : Nat) (Option.some FieldType.boolean) ∈ ZALL := zin (i := 812) (by decide +kernel) rfl
theorem qm_X10_82 : Cond.methodLink RX10 82 yX9_firstLineOf  ∈ ZALL := zin (i := 813) (by decide +kernel) rfl
theorem qi_X9_firstLineOf : Cond.instanceMethod yX9_firstLineOf ∈ ZALL := zin (i := 814) (by decide +kernel) rfl
theorem qs_X9_firstLineOf : Cond.selects RX9 yX9_firstLineOf yX9_firstLineOf ∈ ZALL := zin (i := 815) (by decide +kernel) rfl
theorem qc_X9_firstLineOf : Cond.code yX9_firstLineOf cX9_firstLineOf (3 : Nat) (Option.some FieldType.int) ∈ ZALL := zin (i := 816) (by decide +kernel) rfl
theorem qm_X12_156 : Cond.methodLink RX12 156 yX11_letterCount  ∈ ZALL := zin (i := 817) (by decide +kernel) rfl
theorem qm_L_189 : Cond.methodLink RL 189 yL_article  ∈ ZALL := zin (i := 818) (by decide +kernel) rfl
theorem qt_L_article : Cond.static yL_article ∈ ZALL := zin (i := 819) (by decide +kernel) rfl
theorem qc_L_article : Cond.codeWith ({ cls := "StoneGazetteLaw", name := "article", desc := "(LStoneGazette;I[J)I" } : MethodName) method_7_code (4 : Nat) (Option.some FieldType.int) [((0 : Nat), (9 : Nat), (12 : Nat), (32 : Nat))] ∈ ZALL := zin (i := 820) (by decide +kernel) rfl
