theorem qn_L : Cond.initialized RL ∈ ZALL := zin (i := 0) (by decide +kernel) rfl
theorem qn_X12 : Cond.initialized RX12 ∈ ZALL := zin (i := 1) (by decide +kernel) rfl
theorem qn_X2 : Cond.initialized RX2 ∈ ZALL := zin (i := 2) (by decide +kernel) rfl
theorem qn_J9 : Cond.initialized RJ9 ∈ ZALL := zin (i := 3) (by decide +kernel) rfl
theorem qn_J5 : Cond.initialized RJ5 ∈ ZALL := zin (i := 4) (by decide +kernel) rfl
theorem qn_J4 : Cond.initialized RJ4 ∈ ZALL := zin (i := 5) (by decide +kernel) rfl
theorem qn_J0 : Cond.initialized RJ0 ∈ ZALL := zin (i := 6) (by decide +kernel) rfl
theorem qn_J2 : Cond.initialized RJ2 ∈ ZALL := zin (i := 7) (by decide +kernel) rfl
theorem qn_X8 : Cond.initialized RX8 ∈ ZALL := zin (i := 8) (by decide +kernel) rfl
theorem qn_X5 : Cond.initialized RX5 ∈ ZALL := zin (i := 9) (by decide +kernel) rfl
theorem qn_X4 : Cond.initialized RX4 ∈ ZALL := zin (i := 10) (by decide +kernel) rfl
theorem qn_Jxa1e45 : Cond.initialized RJxa1e45 ∈ ZALL := zin (i := 11) (by decide +kernel) rfl
theorem qn_Jxc12de : Cond.initialized RJxc12de ∈ ZALL := zin (i := 12) (by decide +kernel) rfl
theorem qn_Jx4a65c : Cond.initialized RJx4a65c ∈ ZALL := zin (i := 13) (by decide +kernel) rfl
theorem qn_X10 : Cond.initialized RX10 ∈ ZALL := zin (i := 14) (by decide +kernel) rfl
theorem qn_J8 : Cond.initialized RJ8 ∈ ZALL := zin (i := 15) (by decide +kernel) rfl
theorem qn_J7 : Cond.initialized RJ7 ∈ ZALL := zin (i := 16) (by decide +kernel) rfl
theorem qn_J10 : Cond.initialized RJ10 ∈ ZALL := zin (i := 17) (by decide +kernel) rfl
theorem qn_J3 : Cond.initialized RJ3 ∈ ZALL := zin (i := 18) (by decide +kernel) rfl
theorem qn_J1 : Cond.initialized RJ1 ∈ ZALL := zin (i := 19) (by decide +kernel) rfl
theorem qn_java_lang_Throwable : Cond.initialized "java/lang/Throwable" ∈ ZALL := zin (i := 20) (by decide +kernel) rfl
theorem qn_java_lang_Exception : Cond.initialized "java/lang/Exception" ∈ ZALL := zin (i := 21) (by decide +kernel) rfl
theorem qn_java_lang_RuntimeException : Cond.initialized "java/lang/RuntimeException" ∈ ZALL := zin (i := 22) (by decide +kernel) rfl
theorem qn_java_lang_IllegalArgumentException : Cond.initialized "java/lang/IllegalArgumentException" ∈ ZALL := zin (i := 23) (by decide +kernel) rfl
theorem qn_Jxd2413 : Cond.initialized RJxd2413 ∈ ZALL := zin (i := 24) (by decide +kernel) rfl
theorem qn_J6 : Cond.initialized RJ6 ∈ ZALL := zin (i := 25) (by decide +kernel) rfl
theorem qn_java_lang_IllegalStateException : Cond.initialized "java/lang/IllegalStateException" ∈ ZALL := zin (i := 26) (by decide +kernel) rfl
theorem qn_java_lang_UnsupportedOperationException : Cond.initialized "java/lang/UnsupportedOperationException" ∈ ZALL := zin (i := 27) (by decide +kernel) rfl
theorem qn_J15 : Cond.initialized RJ15 ∈ ZALL := zin (i := 28) (by decide +kernel) rfl
theorem qn_X11 : Cond.initialized RX11 ∈ ZALL := zin (i := 29) (by decide +kernel) rfl
theorem qn_X1 : Cond.initialized RX1 ∈ ZALL := zin (i := 30) (by decide +kernel) rfl
theorem qn_X9 : Cond.initialized RX9 ∈ ZALL := zin (i := 31) (by decide +kernel) rfl
theorem qn_X6 : Cond.initialized RX6 ∈ ZALL := zin (i := 32) (by decide +kernel) rfl
theorem qn_java_lang_IndexOutOfBoundsException : Cond.initialized "java/lang/IndexOutOfBoundsException" ∈ ZALL := zin (i := 33) (by decide +kernel) rfl
theorem qn_Jx00060 : Cond.initialized RJx00060 ∈ ZALL := zin (i := 34) (by decide +kernel) rfl
theorem qn_java_util_NoSuchElementException : Cond.initialized "java/util/NoSuchElementException" ∈ ZALL := zin (i := 35) (by decide +kernel) rfl
theorem qn_Jx7c733 : Cond.initialized RJx7c733 ∈ ZALL := zin (i := 36) (by decide +kernel) rfl
theorem qn_J11 : Cond.initialized RJ11 ∈ ZALL := zin (i := 37) (by decide +kernel) rfl
theorem qn_java_lang_ArithmeticException : Cond.initialized "java/lang/ArithmeticException" ∈ ZALL := zin (i := 38) (by decide +kernel) rfl
theorem qn_Jxf58ca : Cond.initialized RJxf58ca ∈ ZALL := zin (i := 39) (by decide +kernel) rfl
theorem qn_Jx29ce0 : Cond.initialized RJx29ce0 ∈ ZALL := zin (i := 40) (by decide +kernel) rfl
theorem qn_X7 : Cond.initialized RX7 ∈ ZALL := zin (i := 41) (by decide +kernel) rfl
theorem qn_X3 : Cond.initialized RX3 ∈ ZALL := zin (i := 42) (by decide +kernel) rfl
theorem qn_X0 : Cond.initialized RX0 ∈ ZALL := zin (i := 43) (by decide +kernel) rfl
theorem qm_L_240 : Cond.methodLink RL 240 yL_drawn  ∈ ZALL := zin (i := 44) (by decide +kernel) rfl
theorem qt_L_drawn : Cond.static yL_drawn ∈ ZALL := zin (i := 45) (by decide +kernel) rfl
theorem qc_L_drawn : Cond.code yL_drawn cL_drawn (8 : Nat) (Option.some (FieldType.object "StoneGazette")) ∈ ZALL := zin (i := 46) (by decide +kernel) rfl
theorem qk_L_9 : Cond.classLink RL 9 RX12 ∈ ZALL := zin (i := 47) (by decide +kernel) rfl
theorem qx_X12 : Cond.instantiable RX12 11 ∈ ZALL := zin (i := 48) (by decide +kernel) rfl
theorem qm_L_184 : Cond.methodLink RL 184 yX12_init  ∈ ZALL := zin (i := 49) (by decide +kernel) rfl
theorem qi_X12_init : Cond.instanceMethod yX12_init ∈ ZALL := zin (i := 50) (by decide +kernel) rfl
theorem qc_X12_init : Cond.code yX12_init cX12_init (1 : Nat) (Option.none : Option Jvm.ClassFile.FieldType) ∈ ZALL := zin (i := 51) (by decide +kernel) rfl
theorem qm_X12_1 : Cond.methodLink RX12 1 ⟨"java/lang/Object", "<init>", "()V"⟩  ∈ ZALL := zin (i := 52) (by decide +kernel) rfl
theorem qi_java_lang_Object_init_da8c8 : Cond.instanceMethod ⟨"java/lang/Object", "<init>", "()V"⟩ ∈ ZALL := zin (i := 53) (by decide +kernel) rfl
theorem qc_java_lang_Object_init_da8c8 : Cond.code ⟨"java/lang/Object", "<init>", "()V"⟩ object_method_1_code (1 : Nat) (Option.none : Option Jvm.ClassFile.FieldType) ∈ ZALL := zin (i := 54) (by decide +kernel) rfl
theorem qk_X12_7 : Cond.classLink RX12 7 RX2 ∈ ZALL := zin (i := 55) (by decide +kernel) rfl
theorem qx_X2 : Cond.instantiable RX2 2 ∈ ZALL := zin (i := 56) (by decide +kernel) rfl
theorem qm_X12_11 : Cond.methodLink RX12 11 yX2_init  ∈ ZALL := zin (i := 57) (by decide +kernel) rfl
theorem qi_X2_init : Cond.instanceMethod yX2_init ∈ ZALL := zin (i := 58) (by decide +kernel) rfl
theorem qc_X2_init : Cond.code yX2_init cX2_init (2 : Nat) (Option.none : Option Jvm.ClassFile.FieldType) ∈ ZALL := zin (i := 59) (by decide +kernel) rfl
theorem qm_X2_3 : Cond.methodLink RX2 3 ⟨"java/lang/Object", "<init>", "()V"⟩  ∈ ZALL := zin (i := 60) (by decide +kernel) rfl
theorem qm_X2_15 : Cond.methodLink RX2 15 yJ9_max_7cf53  ∈ ZALL := zin (i := 61) (by decide +kernel) rfl
theorem qt_J9_max_7cf53 : Cond.static yJ9_max_7cf53 ∈ ZALL := zin (i := 62) (by decide +kernel) rfl
theorem qc_J9_max_7cf53 : Cond.code yJ9_max_7cf53 cJ9_max_7cf53 (2 : Nat) (Option.some FieldType.int) ∈ ZALL := zin (i := 63) (by decide +kernel) rfl
theorem ql_X2_21 : Cond.fieldLink RX2 21 "StoneGazette$Buffer" "signs" "[C" ∈ ZALL := zin (i := 64) (by decide +kernel) rfl
theorem ql_X2_9 : Cond.fieldLink RX2 9 "StoneGazette$Buffer" "length" "I" ∈ ZALL := zin (i := 65) (by decide +kernel) rfl
theorem ql_X4_25 : Cond.fieldLinkNest RX4 25 "StoneGazette$Buffer" "length" "I" "StoneGazette" ∈ ZNW := znin (i := 66) (by decide +kernel) rfl
theorem ql_X12_89 : Cond.fieldLinkNest RX12 89 "StoneGazette$Buffer" "length" "I" "StoneGazette" ∈ ZNW := znin (i := 67) (by decide +kernel) rfl
theorem q_69 : Cond.superclass "StoneGazette$Buffer" "java/lang/Object" ∈ ZALL := zin (i := 72) (by decide +kernel) rfl
theorem q_70 : Cond.arrayClass FieldType.char ∈ ZALL := zin (i := 73) (by decide +kernel) rfl
theorem qk_X12_21 : Cond.classLink RX12 21 RJ4 ∈ ZALL := zin (i := 74) (by decide +kernel) rfl
theorem qx_J4 : Cond.instantiable RJ4 4 ∈ ZALL := zin (i := 75) (by decide +kernel) rfl
theorem qm_X12_23 : Cond.methodLink RX12 23 yJ4_init_da8c8  ∈ ZALL := zin (i := 76) (by decide +kernel) rfl
theorem qi_J4_init_da8c8 : Cond.instanceMethod yJ4_init_da8c8 ∈ ZALL := zin (i := 77) (by decide +kernel) rfl
theorem qc_J4_init_da8c8 : Cond.code yJ4_init_da8c8 cJ4_init_da8c8 (1 : Nat) (Option.none : Option Jvm.ClassFile.FieldType) ∈ ZALL := zin (i := 78) (by decide +kernel) rfl
theorem qm_J4_1 : Cond.methodLink RJ4 1 yJ5_init_d00df  ∈ ZALL := zin (i := 79) (by decide +kernel) rfl
theorem qi_J5_init_d00df : Cond.instanceMethod yJ5_init_d00df ∈ ZALL := zin (i := 80) (by decide +kernel) rfl
theorem qc_J5_init_d00df : Cond.code yJ5_init_d00df cJ5_init_d00df (2 : Nat) (Option.none : Option Jvm.ClassFile.FieldType) ∈ ZALL := zin (i := 81) (by decide +kernel) rfl
theorem qm_J5_3 : Cond.methodLink RJ5 3 ⟨"java/lang/Object", "<init>", "()V"⟩  ∈ ZALL := zin (i := 82) (by decide +kernel) rfl
theorem ql_J5_18 : Cond.fieldLink RJ5 18 "java/lang/String" "COMPACT_STRINGS" "Z" ∈ ZALL := zin (i := 83) (by decide +kernel) rfl
theorem qm_J5_26 : Cond.methodLink RJ5 26 yJ2_newBytesFor_77867  ∈ ZALL := zin (i := 85) (by decide +kernel) rfl
theorem qt_J2_newBytesFor_77867 : Cond.static yJ2_newBytesFor_77867 ∈ ZALL := zin (i := 86) (by decide +kernel) rfl
theorem qc_J2_newBytesFor_77867 : Cond.code yJ2_newBytesFor_77867 cJ2_newBytesFor_77867 (1 : Nat) (Option.some (FieldType.array FieldType.byte)) ∈ ZALL := zin (i := 87) (by decide +kernel) rfl
theorem qm_J2_11 : Cond.methodLink RJ2 11 yJ2_newBytesLength_0f7a4  ∈ ZALL := zin (i := 88) (by decide +kernel) rfl
theorem qt_J2_newBytesLength_0f7a4 : Cond.static yJ2_newBytesLength_0f7a4 ∈ ZALL := zin (i := 89) (by decide +kernel) rfl
theorem qc_J2_newBytesLength_0f7a4 : Cond.code yJ2_newBytesLength_0f7a4 cJ2_newBytesLength_0f7a4 (1 : Nat) (Option.some FieldType.int) ∈ ZALL := zin (i := 90) (by decide +kernel) rfl
theorem q_88 : Cond.constant "java/lang/StringUTF16" (20 : Nat) (1073741823 : Int32) ∈ ZALL := zin (i := 91) (by decide +kernel) rfl
theorem ql_J5_15 : Cond.fieldLink RJ5 15 "java/lang/AbstractStringBuilder" "value" "[B" ∈ ZALL := zin (i := 92) (by decide +kernel) rfl
theorem ql_J5_22 : Cond.fieldLink RJ5 22 "java/lang/AbstractStringBuilder" "coder" "B" ∈ ZALL := zin (i := 93) (by decide +kernel) rfl
theorem ql_J5_73 : Cond.fieldLink RJ5 73 "java/lang/AbstractStringBuilder" "maybeLatin1" "Z" ∈ ZALL := zin (i := 94) (by decide +kernel) rfl
theorem ql_J0_1048 : Cond.fieldLink RJ0 1048 "java/lang/AbstractStringBuilder" "maybeLatin1" "Z" ∈ ZALL := zin (i := 95) (by decide +kernel) rfl
theorem ql_J5_79 : Cond.fieldLink RJ5 79 "java/lang/AbstractStringBuilder" "count" "I" ∈ ZALL := zin (i := 96) (by decide +kernel) rfl
theorem q_102 : Cond.superclass "java/lang/StringBuilder" "java/lang/AbstractStringBuilder" ∈ ZALL := zin (i := 105) (by decide +kernel) rfl
theorem q_103 : Cond.arrayClass FieldType.byte ∈ ZALL := zin (i := 106) (by decide +kernel) rfl
theorem qk_X12_28 : Cond.classLink RX12 28 RX8 ∈ ZALL := zin (i := 107) (by decide +kernel) rfl
theorem qx_X8 : Cond.instantiable RX8 5 ∈ ZALL := zin (i := 108) (by decide +kernel) rfl
theorem qm_X12_30 : Cond.methodLinkNest RX12 30 yX8_init "StoneGazette" ∈ ZNW := znin (i := 109) (by decide +kernel) rfl
theorem qi_X8_init : Cond.instanceMethod yX8_init ∈ ZALL := zin (i := 110) (by decide +kernel) rfl
theorem qc_X8_init : Cond.code yX8_init cX8_init (1 : Nat) (Option.none : Option Jvm.ClassFile.FieldType) ∈ ZALL := zin (i := 111) (by decide +kernel) rfl
theorem qm_X8_3 : Cond.methodLink RX8 3 ⟨"java/lang/Object", "<init>", "()V"⟩  ∈ ZALL := zin (i := 112) (by decide +kernel) rfl
theorem ql_X8_11 : Cond.fieldLink RX8 11 "StoneGazette$LineSetter" "signs" "[C" ∈ ZALL := zin (i := 113) (by decide +kernel) rfl
theorem ql_X8_15 : Cond.fieldLink RX8 15 "StoneGazette$LineSetter" "ends" "[I" ∈ ZALL := zin (i := 114) (by decide +kernel) rfl
theorem ql_X8_19 : Cond.fieldLink RX8 19 "StoneGazette$LineSetter" "used" "I" ∈ ZALL := zin (i := 115) (by decide +kernel) rfl
theorem ql_X8_23 : Cond.fieldLink RX8 23 "StoneGazette$LineSetter" "lines" "I" ∈ ZALL := zin (i := 116) (by decide +kernel) rfl
theorem ql_X10_125 : Cond.fieldLinkNest RX10 125 "StoneGazette$LineSetter" "lines" "I" "StoneGazette" ∈ ZNW := znin (i := 117) (by decide +kernel) rfl
theorem ql_X12_215 : Cond.fieldLinkNest RX12 215 "StoneGazette$LineSetter" "lines" "I" "StoneGazette" ∈ ZNW := znin (i := 118) (by decide +kernel) rfl
theorem ql_X8_26 : Cond.fieldLink RX8 26 "StoneGazette$LineSetter" "columnWidth" "I" ∈ ZALL := zin (i := 119) (by decide +kernel) rfl
theorem q_127 : Cond.superclass "StoneGazette$LineSetter" "java/lang/Object" ∈ ZALL := zin (i := 130) (by decide +kernel) rfl
theorem q_128 : Cond.arrayClass FieldType.int ∈ ZALL := zin (i := 131) (by decide +kernel) rfl
theorem qk_X12_35 : Cond.classLink RX12 35 RX5 ∈ ZALL := zin (i := 132) (by decide +kernel) rfl
theorem qx_X5 : Cond.instantiable RX5 1 ∈ ZALL := zin (i := 133) (by decide +kernel) rfl
theorem qm_X12_37 : Cond.methodLinkNest RX12 37 yX5_init "StoneGazette" ∈ ZNW := znin (i := 134) (by decide +kernel) rfl
theorem qi_X5_init : Cond.instanceMethod yX5_init ∈ ZALL := zin (i := 135) (by decide +kernel) rfl
theorem qc_X5_init : Cond.code yX5_init cX5_init (1 : Nat) (Option.none : Option Jvm.ClassFile.FieldType) ∈ ZALL := zin (i := 136) (by decide +kernel) rfl
theorem qm_X5_3 : Cond.methodLink RX5 3 ⟨"java/lang/Object", "<init>", "()V"⟩  ∈ ZALL := zin (i := 137) (by decide +kernel) rfl
theorem ql_X5_9 : Cond.fieldLink RX5 9 "StoneGazette$EvenBreaker" "least" "[I" ∈ ZALL := zin (i := 138) (by decide +kernel) rfl
theorem q_138 : Cond.superclass "StoneGazette$EvenBreaker" "java/lang/Object" ∈ ZALL := zin (i := 141) (by decide +kernel) rfl
theorem qk_X12_42 : Cond.classLink RX12 42 RX4 ∈ ZALL := zin (i := 142) (by decide +kernel) rfl
theorem qx_X4 : Cond.instantiable RX4 2 ∈ ZALL := zin (i := 143) (by decide +kernel) rfl
theorem qm_X12_44 : Cond.methodLinkNest RX12 44 yX4_init "StoneGazette" ∈ ZNW := znin (i := 144) (by decide +kernel) rfl
theorem qi_X4_init : Cond.instanceMethod yX4_init ∈ ZALL := zin (i := 145) (by decide +kernel) rfl
theorem qc_X4_init : Cond.code yX4_init cX4_init (1 : Nat) (Option.none : Option Jvm.ClassFile.FieldType) ∈ ZALL := zin (i := 146) (by decide +kernel) rfl
theorem qm_X4_3 : Cond.methodLink RX4 3 ⟨"java/lang/Object", "<init>", "()V"⟩  ∈ ZALL := zin (i := 147) (by decide +kernel) rfl
theorem qk_X4_9 : Cond.classLink RX4 9 RJx4a65c ∈ ZALL := zin (i := 148) (by decide +kernel) rfl
theorem qx_Jx4a65c : Cond.instantiable RJx4a65c 3 ∈ ZALL := zin (i := 149) (by decide +kernel) rfl
theorem qm_X4_11 : Cond.methodLink RX4 11 yJx4a65c_init_da8c8  ∈ ZALL := zin (i := 150) (by decide +kernel) rfl
theorem qi_Jx4a65c_init_da8c8 : Cond.instanceMethod yJx4a65c_init_da8c8 ∈ ZALL := zin (i := 151) (by decide +kernel) rfl
theorem qc_Jx4a65c_init_da8c8 : Cond.code yJx4a65c_init_da8c8 cJx4a65c_init_da8c8 (1 : Nat) (Option.none : Option Jvm.ClassFile.FieldType) ∈ ZALL := zin (i := 152) (by decide +kernel) rfl
theorem qm_Jx4a65c_1 : Cond.methodLink RJx4a65c 1 yJxc12de_init_da8c8  ∈ ZALL := zin (i := 153) (by decide +kernel) rfl
theorem qi_Jxc12de_init_da8c8 : Cond.instanceMethod yJxc12de_init_da8c8 ∈ ZALL := zin (i := 154) (by decide +kernel) rfl
theorem qc_Jxc12de_init_da8c8 : Cond.code yJxc12de_init_da8c8 cJxc12de_init_da8c8 (1 : Nat) (Option.none : Option Jvm.ClassFile.FieldType) ∈ ZALL := zin (i := 155) (by decide +kernel) rfl
theorem qm_Jxc12de_1 : Cond.methodLink RJxc12de 1 yJxa1e45_init_da8c8  ∈ ZALL := zin (i := 156) (by decide +kernel) rfl
theorem qi_Jxa1e45_init_da8c8 : Cond.instanceMethod yJxa1e45_init_da8c8 ∈ ZALL := zin (i := 157) (by decide +kernel) rfl
theorem qc_Jxa1e45_init_da8c8 : Cond.code yJxa1e45_init_da8c8 cJxa1e45_init_da8c8 (1 : Nat) (Option.none : Option Jvm.ClassFile.FieldType) ∈ ZALL := zin (i := 158) (by decide +kernel) rfl
theorem qm_Jxa1e45_1 : Cond.methodLink RJxa1e45 1 ⟨"java/lang/Object", "<init>", "()V"⟩  ∈ ZALL := zin (i := 159) (by decide +kernel) rfl
theorem ql_Jx4a65c_39 : Cond.fieldLink RJx4a65c 39 "java/util/ArrayList" "DEFAULTCAPACITY_EMPTY_ELEMENTDATA" "[Ljava/lang/Object;" ∈ ZALL := zin (i := 160) (by decide +kernel) rfl
theorem ql_Jx4a65c_9 : Cond.fieldLink RJx4a65c 9 "java/util/ArrayList" "elementData" "[Ljava/lang/Object;" ∈ ZALL := zin (i := 162) (by decide +kernel) rfl
theorem ql_Jx4a65c_48 : Cond.fieldLink RJx4a65c 48 "java/util/ArrayList" "size" "I" ∈ ZALL := zin (i := 163) (by decide +kernel) rfl
theorem ql_Jxc12de_7 : Cond.fieldLink RJxc12de 7 "java/util/AbstractList" "modCount" "I" ∈ ZALL := zin (i := 164) (by decide +kernel) rfl
theorem ql_Jx4a65c_63 : Cond.fieldLink RJx4a65c 63 "java/util/ArrayList" "modCount" "I" ∈ ZALL := zin (i := 165) (by decide +kernel) rfl
theorem q_163 : Cond.sameField "java/util/ArrayList" "java/util/AbstractList" "modCount" "I" ∈ ZALL := zin (i := 166) (by decide +kernel) rfl
theorem q_170 : Cond.superclass "java/util/ArrayList" "java/util/AbstractList" ∈ ZALL := zin (i := 173) (by decide +kernel) rfl
theorem ql_X4_12 : Cond.fieldLink RX4 12 "StoneGazette$CommandReader" "commands" "Ljava/util/ArrayList;" ∈ ZALL := zin (i := 174) (by decide +kernel) rfl
theorem ql_X12_364 : Cond.fieldLinkNest RX12 364 "StoneGazette$CommandReader" "commands" "Ljava/util/ArrayList;" "StoneGazette" ∈ ZNW := znin (i := 175) (by decide +kernel) rfl
theorem ql_X4_18 : Cond.fieldLink RX4 18 "StoneGazette$CommandReader" "position" "I" ∈ ZALL := zin (i := 176) (by decide +kernel) rfl
theorem ql_X12_359 : Cond.fieldLinkNest RX12 359 "StoneGazette$CommandReader" "position" "I" "StoneGazette" ∈ ZNW := znin (i := 177) (by decide +kernel) rfl
theorem q_179 : Cond.superclass "StoneGazette$CommandReader" "java/lang/Object" ∈ ZALL := zin (i := 182) (by decide +kernel) rfl
theorem qk_X12_49 : Cond.classLink RX12 49 RJx4a65c ∈ ZALL := zin (i := 183) (by decide +kernel) rfl
theorem qm_X12_51 : Cond.methodLink RX12 51 yJx4a65c_init_da8c8  ∈ ZALL := zin (i := 184) (by decide +kernel) rfl
theorem qk_X12_56 : Cond.classLink RX12 56 RX10 ∈ ZALL := zin (i := 185) (by decide +kernel) rfl
theorem qx_X10 : Cond.instantiable RX10 9 ∈ ZALL := zin (i := 186) (by decide +kernel) rfl
theorem qm_X12_58 : Cond.methodLinkNest RX12 58 yX10_init "StoneGazette" ∈ ZNW := znin (i := 187) (by decide +kernel) rfl
theorem qi_X10_init : Cond.instanceMethod yX10_init ∈ ZALL := zin (i := 188) (by decide +kernel) rfl
theorem qc_X10_init : Cond.code yX10_init cX10_init (1 : Nat) (Option.none : Option Jvm.ClassFile.FieldType) ∈ ZALL := zin (i := 189) (by decide +kernel) rfl
theorem qm_X10_3 : Cond.methodLink RX10 3 ⟨"java/lang/Object", "<init>", "()V"⟩  ∈ ZALL := zin (i := 190) (by decide +kernel) rfl
theorem qk_X10_9 : Cond.classLink RX10 9 RJx4a65c ∈ ZALL := zin (i := 191) (by decide +kernel) rfl
theorem qm_X10_11 : Cond.methodLink RX10 11 yJx4a65c_init_da8c8  ∈ ZALL := zin (i := 192) (by decide +kernel) rfl
theorem ql_X10_12 : Cond.fieldLink RX10 12 "StoneGazette$State" "articles" "Ljava/util/ArrayList;" ∈ ZALL := zin (i := 193) (by decide +kernel) rfl
theorem ql_X12_98 : Cond.fieldLinkNest RX12 98 "StoneGazette$State" "articles" "Ljava/util/ArrayList;" "StoneGazette" ∈ ZNW := znin (i := 194) (by decide +kernel) rfl
theorem ql_X10_18 : Cond.fieldLink RX10 18 "StoneGazette$State" "issues" "Ljava/util/ArrayList;" ∈ ZALL := zin (i := 195) (by decide +kernel) rfl
theorem ql_X12_263 : Cond.fieldLinkNest RX12 263 "StoneGazette$State" "issues" "Ljava/util/ArrayList;" "StoneGazette" ∈ ZNW := znin (i := 196) (by decide +kernel) rfl
theorem ql_X10_21 : Cond.fieldLink RX10 21 "StoneGazette$State" "nextId" "I" ∈ ZALL := zin (i := 197) (by decide +kernel) rfl
theorem ql_X10_25 : Cond.fieldLink RX10 25 "StoneGazette$State" "nextNumber" "I" ∈ ZALL := zin (i := 198) (by decide +kernel) rfl
theorem ql_X12_254 : Cond.fieldLinkNest RX12 254 "StoneGazette$State" "nextNumber" "I" "StoneGazette" ∈ ZNW := znin (i := 199) (by decide +kernel) rfl
theorem ql_X10_28 : Cond.fieldLink RX10 28 "StoneGazette$State" "columnWidth" "I" ∈ ZALL := zin (i := 200) (by decide +kernel) rfl
theorem ql_X12_205 : Cond.fieldLinkNest RX12 205 "StoneGazette$State" "columnWidth" "I" "StoneGazette" ∈ ZNW := znin (i := 201) (by decide +kernel) rfl
theorem ql_X10_31 : Cond.fieldLink RX10 31 "StoneGazette$State" "pageColumns" "I" ∈ ZALL := zin (i := 202) (by decide +kernel) rfl
theorem ql_X10_34 : Cond.fieldLink RX10 34 "StoneGazette$State" "pageHeight" "I" ∈ ZALL := zin (i := 203) (by decide +kernel) rfl
theorem ql_X10_37 : Cond.fieldLink RX10 37 "StoneGazette$State" "today" "I" ∈ ZALL := zin (i := 204) (by decide +kernel) rfl
theorem ql_X12_312 : Cond.fieldLinkNest RX12 312 "StoneGazette$State" "today" "I" "StoneGazette" ∈ ZNW := znin (i := 205) (by decide +kernel) rfl
theorem ql_X10_40 : Cond.fieldLink RX10 40 "StoneGazette$State" "lateOnes" "I" ∈ ZALL := zin (i := 206) (by decide +kernel) rfl
theorem ql_X12_197 : Cond.fieldLinkNest RX12 197 "StoneGazette$State" "lateOnes" "I" "StoneGazette" ∈ ZNW := znin (i := 207) (by decide +kernel) rfl
theorem q_223 : Cond.superclass "StoneGazette$State" "java/lang/Object" ∈ ZALL := zin (i := 226) (by decide +kernel) rfl
theorem ql_X12_14 : Cond.fieldLink RX12 14 "StoneGazette" "text" "LStoneGazette$Buffer;" ∈ ZALL := zin (i := 227) (by decide +kernel) rfl
theorem ql_X12_18 : Cond.fieldLink RX12 18 "StoneGazette" "commandBuffer" "LStoneGazette$Buffer;" ∈ ZALL := zin (i := 228) (by decide +kernel) rfl
theorem ql_X12_24 : Cond.fieldLink RX12 24 "StoneGazette" "output" "Ljava/lang/StringBuilder;" ∈ ZALL := zin (i := 229) (by decide +kernel) rfl
theorem ql_X12_31 : Cond.fieldLink RX12 31 "StoneGazette" "lineSetter" "LStoneGazette$LineSetter;" ∈ ZALL := zin (i := 230) (by decide +kernel) rfl
theorem ql_X12_38 : Cond.fieldLink RX12 38 "StoneGazette" "evenBreaker" "LStoneGazette$EvenBreaker;" ∈ ZALL := zin (i := 231) (by decide +kernel) rfl
theorem ql_X12_45 : Cond.fieldLink RX12 45 "StoneGazette" "commandReader" "LStoneGazette$CommandReader;" ∈ ZALL := zin (i := 232) (by decide +kernel) rfl
theorem ql_X12_52 : Cond.fieldLink RX12 52 "StoneGazette" "history" "Ljava/util/ArrayList;" ∈ ZALL := zin (i := 233) (by decide +kernel) rfl
theorem ql_X12_59 : Cond.fieldLink RX12 59 "StoneGazette" "state" "LStoneGazette$State;" ∈ ZALL := zin (i := 234) (by decide +kernel) rfl
theorem ql_X12_63 : Cond.fieldLink RX12 63 "StoneGazette" "saved" "LStoneGazette$State;" ∈ ZALL := zin (i := 235) (by decide +kernel) rfl
theorem ql_X12_66 : Cond.fieldLink RX12 66 "StoneGazette" "keptErrorPosition" "I" ∈ ZALL := zin (i := 236) (by decide +kernel) rfl
theorem ql_X12_70 : Cond.fieldLink RX12 70 "StoneGazette" "keptFailedCommand" "I" ∈ ZALL := zin (i := 237) (by decide +kernel) rfl
theorem q_257 : Cond.superclass "StoneGazette" "java/lang/Object" ∈ ZALL := zin (i := 260) (by decide +kernel) rfl
theorem qm_L_185 : Cond.methodLink RL 185 yL_cell  ∈ ZALL := zin (i := 261) (by decide +kernel) rfl
theorem qt_L_cell : Cond.static yL_cell ∈ ZALL := zin (i := 262) (by decide +kernel) rfl
theorem qc_L_cell : Cond.code yL_cell cL_cell (2 : Nat) (Option.some FieldType.int) ∈ ZALL := zin (i := 263) (by decide +kernel) rfl
theorem qz_264 : Cond.constant "StoneGazetteLaw" (7 : Nat) (40503 : Int32) ∈ ZALL := zin (i := 264) (by decide +kernel) rfl
theorem qm_L_189 : Cond.methodLink RL 189 yL_drawnText  ∈ ZALL := zin (i := 265) (by decide +kernel) rfl
theorem qt_L_drawnText : Cond.static yL_drawnText ∈ ZALL := zin (i := 266) (by decide +kernel) rfl
theorem qc_L_drawnText : Cond.code yL_drawnText cL_drawnText (4 : Nat) (Option.some (FieldType.object "java/lang/String")) ∈ ZALL := zin (i := 267) (by decide +kernel) rfl
theorem qm_L_178 : Cond.methodLink RL 178 yL_drawnWord  ∈ ZALL := zin (i := 268) (by decide +kernel) rfl
theorem qt_L_drawnWord : Cond.static yL_drawnWord ∈ ZALL := zin (i := 269) (by decide +kernel) rfl
theorem qc_L_drawnWord : Cond.code yL_drawnWord cL_drawnWord (4 : Nat) (Option.some (FieldType.object "java/lang/String")) ∈ ZALL := zin (i := 270) (by decide +kernel) rfl
theorem qk_L_162 : Cond.classLink RL 162 RJ4 ∈ ZALL := zin (i := 272) (by decide +kernel) rfl
theorem qm_L_164 : Cond.methodLink RL 164 yJ4_init_da8c8  ∈ ZALL := zin (i := 273) (by decide +kernel) rfl
theorem qm_L_165 : Cond.methodLink RL 165 yJ4_append_15ec4  ∈ ZALL := zin (i := 274) (by decide +kernel) rfl
theorem qi_J4_append_15ec4 : Cond.instanceMethod yJ4_append_15ec4 ∈ ZALL := zin (i := 275) (by decide +kernel) rfl
theorem qs_J4_append_15ec4 : Cond.selects RJ4 yJ4_append_15ec4 yJ4_append_15ec4 ∈ ZALL := zin (i := 276) (by decide +kernel) rfl
theorem qc_J4_append_15ec4 : Cond.code yJ4_append_15ec4 cJ4_append_15ec4 (2 : Nat) (Option.some (FieldType.object "java/lang/StringBuilder")) ∈ ZALL := zin (i := 277) (by decide +kernel) rfl
theorem qm_J4_29 : Cond.methodLink RJ4 29 yJ5_append_cf1ce  ∈ ZALL := zin (i := 278) (by decide +kernel) rfl
theorem qi_J5_append_cf1ce : Cond.instanceMethod yJ5_append_cf1ce ∈ ZALL := zin (i := 279) (by decide +kernel) rfl
theorem qc_J5_append_cf1ce : Cond.code yJ5_append_cf1ce cJ5_append_cf1ce (3 : Nat) (Option.some (FieldType.object "java/lang/AbstractStringBuilder")) ∈ ZALL := zin (i := 280) (by decide +kernel) rfl
theorem qm_J5_204 : Cond.methodLink RJ5 204 yJ5_appendNull_278bc  ∈ ZALL := zin (i := 281) (by decide +kernel) rfl
theorem qp_J5_appendNull_278bc : Cond.privateMethod yJ5_appendNull_278bc ∈ ZNW := znin (i := 282) (by decide +kernel) rfl
theorem qi_J5_appendNull_278bc : Cond.instanceMethod yJ5_appendNull_278bc ∈ ZALL := zin (i := 283) (by decide +kernel) rfl
theorem qc_J5_appendNull_278bc : Cond.code yJ5_appendNull_278bc cJ5_appendNull_278bc (3 : Nat) (Option.some (FieldType.object "java/lang/AbstractStringBuilder")) ∈ ZALL := zin (i := 284) (by decide +kernel) rfl
theorem qm_J5_100 : Cond.methodLink RJ5 100 yJ5_ensureCapacityInternal_d00df  ∈ ZALL := zin (i := 285) (by decide +kernel) rfl
theorem qp_J5_ensureCapacityInternal_d00df : Cond.privateMethod yJ5_ensureCapacityInternal_d00df ∈ ZNW := znin (i := 286) (by decide +kernel) rfl
theorem qi_J5_ensureCapacityInternal_d00df : Cond.instanceMethod yJ5_ensureCapacityInternal_d00df ∈ ZALL := zin (i := 287) (by decide +kernel) rfl
theorem qc_J5_ensureCapacityInternal_d00df : Cond.code yJ5_ensureCapacityInternal_d00df cJ5_ensureCapacityInternal_d00df (3 : Nat) (Option.none : Option Jvm.ClassFile.FieldType) ∈ ZALL := zin (i := 288) (by decide +kernel) rfl
theorem qm_J5_104 : Cond.methodLink RJ5 104 yJ5_newCapacity_0f7a4  ∈ ZALL := zin (i := 289) (by decide +kernel) rfl
theorem qp_J5_newCapacity_0f7a4 : Cond.privateMethod yJ5_newCapacity_0f7a4 ∈ ZNW := znin (i := 290) (by decide +kernel) rfl
theorem qi_J5_newCapacity_0f7a4 : Cond.instanceMethod yJ5_newCapacity_0f7a4 ∈ ZALL := zin (i := 291) (by decide +kernel) rfl
theorem qc_J5_newCapacity_0f7a4 : Cond.code yJ5_newCapacity_0f7a4 cJ5_newCapacity_0f7a4 (6 : Nat) (Option.some FieldType.int) ∈ ZALL := zin (i := 292) (by decide +kernel) rfl
theorem qm_J5_114 : Cond.methodLink RJ5 114 yJ8_newLength_cabcc  ∈ ZALL := zin (i := 293) (by decide +kernel) rfl
theorem qt_J8_newLength_cabcc : Cond.static yJ8_newLength_cabcc ∈ ZALL := zin (i := 294) (by decide +kernel) rfl
theorem qc_J8_newLength_cabcc : Cond.code yJ8_newLength_cabcc cJ8_newLength_cabcc (4 : Nat) (Option.some FieldType.int) ∈ ZALL := zin (i := 295) (by decide +kernel) rfl
theorem qm_J8_194 : Cond.methodLink RJ8 194 yJ9_max_7cf53  ∈ ZALL := zin (i := 296) (by decide +kernel) rfl
theorem q_572 : Cond.constant "jdk/internal/util/ArraysSupport" (200 : Nat) (2147483639 : Int32) ∈ ZALL := zin (i := 297) (by decide +kernel) rfl
theorem qm_J8_201 : Cond.methodLink RJ8 201 yJ8_hugeLength_7cf53  ∈ ZALL := zin (i := 298) (by decide +kernel) rfl
theorem qt_J8_hugeLength_7cf53 : Cond.static yJ8_hugeLength_7cf53 ∈ ZALL := zin (i := 299) (by decide +kernel) rfl
theorem qc_J8_hugeLength_7cf53 : Cond.code yJ8_hugeLength_7cf53 cJ8_hugeLength_7cf53 (3 : Nat) (Option.some FieldType.int) ∈ ZALL := zin (i := 300) (by decide +kernel) rfl
theorem q_982 : Cond.constant "java/lang/AbstractStringBuilder" (39 : Nat) (2147483647 : Int32) ∈ ZALL := zin (i := 301) (by decide +kernel) rfl
theorem qm_J5_108 : Cond.methodLink RJ5 108 yJ7_copyOf_9075b  ∈ ZALL := zin (i := 302) (by decide +kernel) rfl
theorem qt_J7_copyOf_9075b : Cond.static yJ7_copyOf_9075b ∈ ZALL := zin (i := 303) (by decide +kernel) rfl
theorem qc_J7_copyOf_9075b : Cond.code yJ7_copyOf_9075b cJ7_copyOf_9075b (3 : Nat) (Option.some (FieldType.array FieldType.byte)) ∈ ZALL := zin (i := 304) (by decide +kernel) rfl
theorem qm_J7_310 : Cond.methodLink RJ7 310 ⟨"[B", "clone", "()Ljava/lang/Object;"⟩  ∈ ZALL := zin (i := 305) (by decide +kernel) rfl
theorem q_987 : Cond.sameMethod "[B" "java/lang/Object" "clone" "()Ljava/lang/Object;" ∈ ZALL := zin (i := 306) (by decide +kernel) rfl
theorem qv_java_lang_Object_clone_0502b : Cond.native ⟨"java/lang/Object", "clone", "()Ljava/lang/Object;"⟩ ∈ ZALL := zin (i := 307) (by decide +kernel) rfl
theorem qi_java_lang_Object_clone_0502b : Cond.instanceMethod ⟨"java/lang/Object", "clone", "()Ljava/lang/Object;"⟩ ∈ ZALL := zin (i := 308) (by decide +kernel) rfl
theorem qs_java_lang_Object_clone_0502b__B : Cond.selects "[B" ⟨"[B", "clone", "()Ljava/lang/Object;"⟩ ⟨"java/lang/Object", "clone", "()Ljava/lang/Object;"⟩ ∈ ZALL := zin (i := 309) (by decide +kernel) rfl
theorem q_989 : Cond.castable "[B" "java/lang/Cloneable" ∈ ZNW := znin (i := 310) (by decide +kernel) rfl
theorem qk_J7_311 : Cond.classLink RJ7 311 "[B" ∈ ZALL := zin (i := 311) (by decide +kernel) rfl
theorem qm_J7_304 : Cond.methodLink RJ7 304 yJ9_min_7cf53  ∈ ZALL := zin (i := 312) (by decide +kernel) rfl
theorem qt_J9_min_7cf53 : Cond.static yJ9_min_7cf53 ∈ ZALL := zin (i := 313) (by decide +kernel) rfl
theorem qc_J9_min_7cf53 : Cond.code yJ9_min_7cf53 cJ9_min_7cf53 (2 : Nat) (Option.some FieldType.int) ∈ ZALL := zin (i := 314) (by decide +kernel) rfl
theorem qm_J7_150 : Cond.methodLink RJ7 150 ⟨"java/lang/System", "arraycopy", "(Ljava/lang/Object;ILjava/lang/Object;II)V"⟩  ∈ ZALL := zin (i := 315) (by decide +kernel) rfl
theorem qt_J10_arraycopy_1e247 : Cond.static ⟨"java/lang/System", "arraycopy", "(Ljava/lang/Object;ILjava/lang/Object;II)V"⟩ ∈ ZALL := zin (i := 316) (by decide +kernel) rfl
theorem qv_J10_arraycopy_1e247 : Cond.native ⟨"java/lang/System", "arraycopy", "(Ljava/lang/Object;ILjava/lang/Object;II)V"⟩ ∈ ZALL := zin (i := 317) (by decide +kernel) rfl
theorem qm_J5_83 : Cond.methodLink RJ5 83 yJ5_isLatin1_aae02  ∈ ZALL := zin (i := 318) (by decide +kernel) rfl
theorem qi_J5_isLatin1_aae02 : Cond.instanceMethod yJ5_isLatin1_aae02 ∈ ZALL := zin (i := 319) (by decide +kernel) rfl
theorem q_993 : Cond.sameMethod "java/lang/AbstractStringBuilder" "java/lang/AbstractStringBuilder" "isLatin1" "()Z" ∈ ZALL := zin (i := 320) (by decide +kernel) rfl
theorem qs_J5_isLatin1_aae02_J4 : Cond.selects RJ4 yJ5_isLatin1_aae02 yJ5_isLatin1_aae02 ∈ ZALL := zin (i := 321) (by decide +kernel) rfl
theorem qc_J5_isLatin1_aae02 : Cond.code yJ5_isLatin1_aae02 cJ5_isLatin1_aae02 (1 : Nat) (Option.some FieldType.boolean) ∈ ZALL := zin (i := 322) (by decide +kernel) rfl
theorem qm_J5_226 : Cond.methodLink RJ5 226 yJ2_putCharsAt_cd4e5  ∈ ZALL := zin (i := 323) (by decide +kernel) rfl
theorem qt_J2_putCharsAt_cd4e5 : Cond.static yJ2_putCharsAt_cd4e5 ∈ ZALL := zin (i := 324) (by decide +kernel) rfl
theorem qc_J2_putCharsAt_cd4e5 : Cond.code yJ2_putCharsAt_cd4e5 cJ2_putCharsAt_cd4e5 (7 : Nat) (Option.some FieldType.int) ∈ ZALL := zin (i := 325) (by decide +kernel) rfl
theorem qm_J2_96 : Cond.methodLink RJ2 96 yJ2_checkBoundsBeginEnd_d044e  ∈ ZALL := zin (i := 326) (by decide +kernel) rfl
theorem qt_J2_checkBoundsBeginEnd_d044e : Cond.static yJ2_checkBoundsBeginEnd_d044e ∈ ZALL := zin (i := 327) (by decide +kernel) rfl
theorem qc_J2_checkBoundsBeginEnd_d044e : Cond.code yJ2_checkBoundsBeginEnd_d044e cJ2_checkBoundsBeginEnd_d044e (3 : Nat) (Option.none : Option Jvm.ClassFile.FieldType) ∈ ZALL := zin (i := 328) (by decide +kernel) rfl
theorem qm_J2_48 : Cond.methodLink RJ2 48 yJ2_length_9d52b  ∈ ZALL := zin (i := 329) (by decide +kernel) rfl
theorem qt_J2_length_9d52b : Cond.static yJ2_length_9d52b ∈ ZALL := zin (i := 330) (by decide +kernel) rfl
theorem qc_J2_length_9d52b : Cond.code yJ2_length_9d52b cJ2_length_9d52b (1 : Nat) (Option.some FieldType.int) ∈ ZALL := zin (i := 331) (by decide +kernel) rfl
theorem qm_J2_241 : Cond.methodLink RJ2 241 yJ0_checkBoundsBeginEnd_23922  ∈ ZALL := zin (i := 332) (by decide +kernel) rfl
theorem qt_J0_checkBoundsBeginEnd_23922 : Cond.static yJ0_checkBoundsBeginEnd_23922 ∈ ZALL := zin (i := 333) (by decide +kernel) rfl
theorem qc_J0_checkBoundsBeginEnd_23922 : Cond.code yJ0_checkBoundsBeginEnd_23922 cJ0_checkBoundsBeginEnd_23922 (3 : Nat) (Option.none : Option Jvm.ClassFile.FieldType) ∈ ZALL := zin (i := 334) (by decide +kernel) rfl
theorem ql_J0_1053 : Cond.fieldLink RJ0 1053 "jdk/internal/util/Preconditions" "SIOOBE_FORMATTER" "Ljava/util/function/BiFunction;" ∈ ZALL := zin (i := 335) (by decide +kernel) rfl
theorem qm_J0_1062 : Cond.methodLink RJ0 1062 yJ3_checkFromToIndex_8c36e  ∈ ZALL := zin (i := 337) (by decide +kernel) rfl
theorem qt_J3_checkFromToIndex_8c36e : Cond.static yJ3_checkFromToIndex_8c36e ∈ ZALL := zin (i := 338) (by decide +kernel) rfl
theorem qc_J3_checkFromToIndex_8c36e : Cond.code yJ3_checkFromToIndex_8c36e cJ3_checkFromToIndex_8c36e (4 : Nat) (Option.some FieldType.int) ∈ ZALL := zin (i := 339) (by decide +kernel) rfl
theorem qm_J2_111 : Cond.methodLink RJ2 111 yJ2_putChar_b72d1  ∈ ZALL := zin (i := 340) (by decide +kernel) rfl
theorem qt_J2_putChar_b72d1 : Cond.static yJ2_putChar_b72d1 ∈ ZALL := zin (i := 341) (by decide +kernel) rfl
theorem qc_J2_putChar_b72d1 : Cond.code yJ2_putChar_b72d1 cJ2_putChar_b72d1 (3 : Nat) (Option.none : Option Jvm.ClassFile.FieldType) ∈ ZALL := zin (i := 342) (by decide +kernel) rfl
theorem ql_J2_44 : Cond.fieldLink RJ2 44 "java/lang/StringUTF16" "$assertionsDisabled" "Z" ∈ ZALL := zin (i := 343) (by decide +kernel) rfl
theorem ql_J2_59 : Cond.fieldLink RJ2 59 "java/lang/StringUTF16" "HI_BYTE_SHIFT" "I" ∈ ZALL := zin (i := 345) (by decide +kernel) rfl
theorem ql_J2_63 : Cond.fieldLink RJ2 63 "java/lang/StringUTF16" "LO_BYTE_SHIFT" "I" ∈ ZALL := zin (i := 347) (by decide +kernel) rfl
theorem qm_J5_32 : Cond.methodLink RJ5 32 yJ0_length_8abf5  ∈ ZALL := zin (i := 349) (by decide +kernel) rfl
theorem qi_J0_length_8abf5 : Cond.instanceMethod yJ0_length_8abf5 ∈ ZALL := zin (i := 350) (by decide +kernel) rfl
theorem qs_J0_length_8abf5 : Cond.selects RJ0 yJ0_length_8abf5 yJ0_length_8abf5 ∈ ZALL := zin (i := 351) (by decide +kernel) rfl
theorem qc_J0_length_8abf5 : Cond.code yJ0_length_8abf5 cJ0_length_8abf5 (1 : Nat) (Option.some FieldType.int) ∈ ZALL := zin (i := 352) (by decide +kernel) rfl
theorem qm_J0_335 : Cond.methodLink RJ0 335 yJ0_coder_7d493  ∈ ZALL := zin (i := 353) (by decide +kernel) rfl
theorem qi_J0_coder_7d493 : Cond.instanceMethod yJ0_coder_7d493 ∈ ZALL := zin (i := 354) (by decide +kernel) rfl
theorem qs_J0_coder_7d493 : Cond.selects RJ0 yJ0_coder_7d493 yJ0_coder_7d493 ∈ ZALL := zin (i := 355) (by decide +kernel) rfl
theorem qc_J0_coder_7d493 : Cond.code yJ0_coder_7d493 cJ0_coder_7d493 (1 : Nat) (Option.some FieldType.byte) ∈ ZALL := zin (i := 356) (by decide +kernel) rfl
theorem ql_J0_38 : Cond.fieldLink RJ0 38 "java/lang/String" "COMPACT_STRINGS" "Z" ∈ ZALL := zin (i := 357) (by decide +kernel) rfl
theorem qm_J5_208 : Cond.methodLink RJ5 208 yJ5_putStringAt_47b60  ∈ ZALL := zin (i := 358) (by decide +kernel) rfl
theorem qp_J5_putStringAt_47b60 : Cond.privateMethod yJ5_putStringAt_47b60 ∈ ZNW := znin (i := 359) (by decide +kernel) rfl
theorem qi_J5_putStringAt_47b60 : Cond.instanceMethod yJ5_putStringAt_47b60 ∈ ZALL := zin (i := 360) (by decide +kernel) rfl
theorem qc_J5_putStringAt_47b60 : Cond.code yJ5_putStringAt_47b60 cJ5_putStringAt_47b60 (3 : Nat) (Option.none : Option Jvm.ClassFile.FieldType) ∈ ZALL := zin (i := 361) (by decide +kernel) rfl
theorem qm_J5_397 : Cond.methodLink RJ5 397 yJ5_inflateIfNeededFor_a7421  ∈ ZALL := zin (i := 362) (by decide +kernel) rfl
theorem qp_J5_inflateIfNeededFor_a7421 : Cond.privateMethod yJ5_inflateIfNeededFor_a7421 ∈ ZNW := znin (i := 363) (by decide +kernel) rfl
theorem qi_J5_inflateIfNeededFor_a7421 : Cond.instanceMethod yJ5_inflateIfNeededFor_a7421 ∈ ZALL := zin (i := 364) (by decide +kernel) rfl
theorem qc_J5_inflateIfNeededFor_a7421 : Cond.code yJ5_inflateIfNeededFor_a7421 cJ5_inflateIfNeededFor_a7421 (2 : Nat) (Option.none : Option Jvm.ClassFile.FieldType) ∈ ZALL := zin (i := 365) (by decide +kernel) rfl
theorem qm_J5_40 : Cond.methodLink RJ5 40 yJ0_coder_7d493  ∈ ZALL := zin (i := 366) (by decide +kernel) rfl
theorem qm_J5_195 : Cond.methodLink RJ5 195 yJ5_inflate_da8c8  ∈ ZALL := zin (i := 367) (by decide +kernel) rfl
theorem qp_J5_inflate_da8c8 : Cond.privateMethod yJ5_inflate_da8c8 ∈ ZNW := znin (i := 368) (by decide +kernel) rfl
theorem qi_J5_inflate_da8c8 : Cond.instanceMethod yJ5_inflate_da8c8 ∈ ZALL := zin (i := 369) (by decide +kernel) rfl
theorem qc_J5_inflate_da8c8 : Cond.code yJ5_inflate_da8c8 cJ5_inflate_da8c8 (2 : Nat) (Option.none : Option Jvm.ClassFile.FieldType) ∈ ZALL := zin (i := 370) (by decide +kernel) rfl
theorem qm_J5_125 : Cond.methodLink RJ5 125 yJ1_inflate_0e8fd  ∈ ZALL := zin (i := 371) (by decide +kernel) rfl
theorem qt_J1_inflate_0e8fd : Cond.static yJ1_inflate_0e8fd ∈ ZALL := zin (i := 372) (by decide +kernel) rfl
theorem qc_J1_inflate_0e8fd : Cond.code yJ1_inflate_0e8fd cJ1_inflate_0e8fd (5 : Nat) (Option.none : Option Jvm.ClassFile.FieldType) ∈ ZALL := zin (i := 373) (by decide +kernel) rfl
theorem qm_J1_240 : Cond.methodLink RJ1 240 yJ2_inflate_0e8fd  ∈ ZALL := zin (i := 374) (by decide +kernel) rfl
theorem qt_J2_inflate_0e8fd : Cond.static yJ2_inflate_0e8fd ∈ ZALL := zin (i := 375) (by decide +kernel) rfl
theorem qc_J2_inflate_0e8fd : Cond.code yJ2_inflate_0e8fd cJ2_inflate_0e8fd (6 : Nat) (Option.none : Option Jvm.ClassFile.FieldType) ∈ ZALL := zin (i := 376) (by decide +kernel) rfl
theorem qm_J2_173 : Cond.methodLink RJ2 173 yJ2_checkBoundsOffCount_d044e  ∈ ZALL := zin (i := 377) (by decide +kernel) rfl
theorem qt_J2_checkBoundsOffCount_d044e : Cond.static yJ2_checkBoundsOffCount_d044e ∈ ZALL := zin (i := 378) (by decide +kernel) rfl
theorem qc_J2_checkBoundsOffCount_d044e : Cond.code yJ2_checkBoundsOffCount_d044e cJ2_checkBoundsOffCount_d044e (3 : Nat) (Option.none : Option Jvm.ClassFile.FieldType) ∈ ZALL := zin (i := 379) (by decide +kernel) rfl
theorem qm_J2_419 : Cond.methodLink RJ2 419 yJ0_checkBoundsOffCount_cabcc  ∈ ZALL := zin (i := 380) (by decide +kernel) rfl
theorem qt_J0_checkBoundsOffCount_cabcc : Cond.static yJ0_checkBoundsOffCount_cabcc ∈ ZALL := zin (i := 381) (by decide +kernel) rfl
theorem qc_J0_checkBoundsOffCount_cabcc : Cond.code yJ0_checkBoundsOffCount_cabcc cJ0_checkBoundsOffCount_cabcc (3 : Nat) (Option.some FieldType.int) ∈ ZALL := zin (i := 382) (by decide +kernel) rfl
theorem qm_J0_1065 : Cond.methodLink RJ0 1065 yJ3_checkFromIndexSize_8c36e  ∈ ZALL := zin (i := 383) (by decide +kernel) rfl
theorem qt_J3_checkFromIndexSize_8c36e : Cond.static yJ3_checkFromIndexSize_8c36e ∈ ZALL := zin (i := 384) (by decide +kernel) rfl
theorem qc_J3_checkFromIndexSize_8c36e : Cond.code yJ3_checkFromIndexSize_8c36e cJ3_checkFromIndexSize_8c36e (4 : Nat) (Option.some FieldType.int) ∈ ZALL := zin (i := 385) (by decide +kernel) rfl
theorem qm_J5_399 : Cond.methodLink RJ5 399 yJ0_getBytes_840e7  ∈ ZALL := zin (i := 386) (by decide +kernel) rfl
theorem qi_J0_getBytes_840e7 : Cond.instanceMethod yJ0_getBytes_840e7 ∈ ZALL := zin (i := 387) (by decide +kernel) rfl
theorem qs_J0_getBytes_840e7 : Cond.selects RJ0 yJ0_getBytes_840e7 yJ0_getBytes_840e7 ∈ ZALL := zin (i := 388) (by decide +kernel) rfl
theorem qc_J0_getBytes_840e7 : Cond.code yJ0_getBytes_840e7 cJ0_getBytes_840e7 (4 : Nat) (Option.none : Option Jvm.ClassFile.FieldType) ∈ ZALL := zin (i := 389) (by decide +kernel) rfl
theorem qm_J0_212 : Cond.methodLink RJ0 212 ⟨"java/lang/System", "arraycopy", "(Ljava/lang/Object;ILjava/lang/Object;II)V"⟩  ∈ ZALL := zin (i := 390) (by decide +kernel) rfl
theorem qm_J0_106 : Cond.methodLink RJ0 106 yJ1_inflate_0e8fd  ∈ ZALL := zin (i := 391) (by decide +kernel) rfl
theorem qm_L_143 : Cond.methodLink RL 143 yJ0_charAt_5068e  ∈ ZALL := zin (i := 393) (by decide +kernel) rfl
theorem qi_J0_charAt_5068e : Cond.instanceMethod yJ0_charAt_5068e ∈ ZALL := zin (i := 394) (by decide +kernel) rfl
theorem qs_J0_charAt_5068e : Cond.selects RJ0 yJ0_charAt_5068e yJ0_charAt_5068e ∈ ZALL := zin (i := 395) (by decide +kernel) rfl
theorem qc_J0_charAt_5068e : Cond.code yJ0_charAt_5068e cJ0_charAt_5068e (2 : Nat) (Option.some FieldType.char) ∈ ZALL := zin (i := 396) (by decide +kernel) rfl
theorem qm_J0_492 : Cond.methodLink RJ0 492 yJ0_isLatin1_aae02  ∈ ZALL := zin (i := 397) (by decide +kernel) rfl
theorem qi_J0_isLatin1_aae02 : Cond.instanceMethod yJ0_isLatin1_aae02 ∈ ZALL := zin (i := 398) (by decide +kernel) rfl
theorem qs_J0_isLatin1_aae02 : Cond.selects RJ0 yJ0_isLatin1_aae02 yJ0_isLatin1_aae02 ∈ ZALL := zin (i := 399) (by decide +kernel) rfl
theorem qc_J0_isLatin1_aae02 : Cond.code yJ0_isLatin1_aae02 cJ0_isLatin1_aae02 (1 : Nat) (Option.some FieldType.boolean) ∈ ZALL := zin (i := 400) (by decide +kernel) rfl
theorem qm_J0_495 : Cond.methodLink RJ0 495 yJ1_charAt_3b067  ∈ ZALL := zin (i := 401) (by decide +kernel) rfl
theorem qt_J1_charAt_3b067 : Cond.static yJ1_charAt_3b067 ∈ ZALL := zin (i := 402) (by decide +kernel) rfl
theorem qc_J1_charAt_3b067 : Cond.code yJ1_charAt_3b067 cJ1_charAt_3b067 (2 : Nat) (Option.some FieldType.char) ∈ ZALL := zin (i := 403) (by decide +kernel) rfl
theorem qm_J1_9 : Cond.methodLink RJ1 9 yJ0_checkIndex_df160  ∈ ZALL := zin (i := 404) (by decide +kernel) rfl
theorem qt_J0_checkIndex_df160 : Cond.static yJ0_checkIndex_df160 ∈ ZALL := zin (i := 405) (by decide +kernel) rfl
theorem qc_J0_checkIndex_df160 : Cond.code yJ0_checkIndex_df160 cJ0_checkIndex_df160 (2 : Nat) (Option.none : Option Jvm.ClassFile.FieldType) ∈ ZALL := zin (i := 406) (by decide +kernel) rfl
theorem qm_J0_1059 : Cond.methodLink RJ0 1059 yJ3_checkIndex_8e157  ∈ ZALL := zin (i := 407) (by decide +kernel) rfl
theorem qt_J3_checkIndex_8e157 : Cond.static yJ3_checkIndex_8e157 ∈ ZALL := zin (i := 408) (by decide +kernel) rfl
theorem qc_J3_checkIndex_8e157 : Cond.code yJ3_checkIndex_8e157 cJ3_checkIndex_8e157 (3 : Nat) (Option.some FieldType.int) ∈ ZALL := zin (i := 409) (by decide +kernel) rfl
theorem qm_J0_498 : Cond.methodLink RJ0 498 yJ2_charAt_3b067  ∈ ZALL := zin (i := 410) (by decide +kernel) rfl
theorem qt_J2_charAt_3b067 : Cond.static yJ2_charAt_3b067 ∈ ZALL := zin (i := 411) (by decide +kernel) rfl
theorem qc_J2_charAt_3b067 : Cond.code yJ2_charAt_3b067 cJ2_charAt_3b067 (2 : Nat) (Option.some FieldType.char) ∈ ZALL := zin (i := 412) (by decide +kernel) rfl
theorem qm_J2_67 : Cond.methodLink RJ2 67 yJ2_checkIndex_2214a  ∈ ZALL := zin (i := 413) (by decide +kernel) rfl
theorem qt_J2_checkIndex_2214a : Cond.static yJ2_checkIndex_2214a ∈ ZALL := zin (i := 414) (by decide +kernel) rfl
theorem qc_J2_checkIndex_2214a : Cond.code yJ2_checkIndex_2214a cJ2_checkIndex_2214a (2 : Nat) (Option.none : Option Jvm.ClassFile.FieldType) ∈ ZALL := zin (i := 415) (by decide +kernel) rfl
theorem qm_J2_414 : Cond.methodLink RJ2 414 yJ0_checkIndex_df160  ∈ ZALL := zin (i := 416) (by decide +kernel) rfl
theorem qm_J2_71 : Cond.methodLink RJ2 71 yJ2_getChar_3b067  ∈ ZALL := zin (i := 417) (by decide +kernel) rfl
theorem qt_J2_getChar_3b067 : Cond.static yJ2_getChar_3b067 ∈ ZALL := zin (i := 418) (by decide +kernel) rfl
theorem qc_J2_getChar_3b067 : Cond.code yJ2_getChar_3b067 cJ2_getChar_3b067 (2 : Nat) (Option.some FieldType.char) ∈ ZALL := zin (i := 419) (by decide +kernel) rfl
theorem qm_L_171 : Cond.methodLink RL 171 yJ4_append_cf468  ∈ ZALL := zin (i := 420) (by decide +kernel) rfl
theorem qi_J4_append_cf468 : Cond.instanceMethod yJ4_append_cf468 ∈ ZALL := zin (i := 421) (by decide +kernel) rfl
theorem qs_J4_append_cf468 : Cond.selects RJ4 yJ4_append_cf468 yJ4_append_cf468 ∈ ZALL := zin (i := 422) (by decide +kernel) rfl
theorem qc_J4_append_cf468 : Cond.code yJ4_append_cf468 cJ4_append_cf468 (2 : Nat) (Option.some (FieldType.object "java/lang/StringBuilder")) ∈ ZALL := zin (i := 423) (by decide +kernel) rfl
theorem qm_J4_50 : Cond.methodLink RJ4 50 yJ5_append_3fe6f  ∈ ZALL := zin (i := 424) (by decide +kernel) rfl
theorem qi_J5_append_3fe6f : Cond.instanceMethod yJ5_append_3fe6f ∈ ZALL := zin (i := 425) (by decide +kernel) rfl
theorem qc_J5_append_3fe6f : Cond.code yJ5_append_3fe6f cJ5_append_3fe6f (2 : Nat) (Option.some (FieldType.object "java/lang/AbstractStringBuilder")) ∈ ZALL := zin (i := 426) (by decide +kernel) rfl
theorem qm_J5_191 : Cond.methodLink RJ5 191 yJ1_canEncode_fc78d  ∈ ZALL := zin (i := 427) (by decide +kernel) rfl
theorem qt_J1_canEncode_fc78d : Cond.static yJ1_canEncode_fc78d ∈ ZALL := zin (i := 428) (by decide +kernel) rfl
theorem qc_J1_canEncode_fc78d : Cond.code yJ1_canEncode_fc78d cJ1_canEncode_fc78d (1 : Nat) (Option.some FieldType.boolean) ∈ ZALL := zin (i := 429) (by decide +kernel) rfl
theorem qm_J5_197 : Cond.methodLink RJ5 197 yJ2_putCharSB_b72d1  ∈ ZALL := zin (i := 430) (by decide +kernel) rfl
theorem qt_J2_putCharSB_b72d1 : Cond.static yJ2_putCharSB_b72d1 ∈ ZALL := zin (i := 431) (by decide +kernel) rfl
theorem qc_J2_putCharSB_b72d1 : Cond.code yJ2_putCharSB_b72d1 cJ2_putCharSB_b72d1 (3 : Nat) (Option.none : Option Jvm.ClassFile.FieldType) ∈ ZALL := zin (i := 432) (by decide +kernel) rfl
theorem qm_L_174 : Cond.methodLink RL 174 yJ4_toString_0e30d  ∈ ZALL := zin (i := 433) (by decide +kernel) rfl
theorem qi_J4_toString_0e30d : Cond.instanceMethod yJ4_toString_0e30d ∈ ZALL := zin (i := 434) (by decide +kernel) rfl
theorem qs_J4_toString_0e30d : Cond.selects RJ4 yJ4_toString_0e30d yJ4_toString_0e30d ∈ ZALL := zin (i := 435) (by decide +kernel) rfl
theorem qc_J4_toString_0e30d : Cond.code yJ4_toString_0e30d cJ4_toString_0e30d (1 : Nat) (Option.some (FieldType.object "java/lang/String")) ∈ ZALL := zin (i := 436) (by decide +kernel) rfl
theorem qk_J4_18 : Cond.classLink RJ4 18 RJ0 ∈ ZALL := zin (i := 437) (by decide +kernel) rfl
theorem qx_J0 : Cond.instantiable RJ0 4 ∈ ZALL := zin (i := 438) (by decide +kernel) rfl
theorem qm_J4_137 : Cond.methodLink RJ4 137 yJ0_init_81219  ∈ ZALL := zin (i := 439) (by decide +kernel) rfl
theorem qi_J0_init_81219 : Cond.instanceMethod yJ0_init_81219 ∈ ZALL := zin (i := 440) (by decide +kernel) rfl
theorem qc_J0_init_81219 : Cond.code yJ0_init_81219 cJ0_init_81219 (2 : Nat) (Option.none : Option Jvm.ClassFile.FieldType) ∈ ZALL := zin (i := 441) (by decide +kernel) rfl
theorem qm_J0_489 : Cond.methodLink RJ0 489 yJ0_init_db425  ∈ ZALL := zin (i := 442) (by decide +kernel) rfl
theorem qi_J0_init_db425 : Cond.instanceMethod yJ0_init_db425 ∈ ZALL := zin (i := 443) (by decide +kernel) rfl
theorem qc_J0_init_db425 : Cond.code yJ0_init_db425 cJ0_init_db425 (5 : Nat) (Option.none : Option Jvm.ClassFile.FieldType) ∈ ZALL := zin (i := 444) (by decide +kernel) rfl
theorem qm_J0_1 : Cond.methodLink RJ0 1 ⟨"java/lang/Object", "<init>", "()V"⟩  ∈ ZALL := zin (i := 445) (by decide +kernel) rfl
theorem qm_J0_552 : Cond.methodLink RJ0 552 yJ5_getValue_6d5f1  ∈ ZALL := zin (i := 446) (by decide +kernel) rfl
theorem qi_J5_getValue_6d5f1 : Cond.instanceMethod yJ5_getValue_6d5f1 ∈ ZALL := zin (i := 447) (by decide +kernel) rfl
theorem q_1104 : Cond.sameMethod "java/lang/AbstractStringBuilder" "java/lang/AbstractStringBuilder" "getValue" "()[B" ∈ ZALL := zin (i := 448) (by decide +kernel) rfl
theorem qs_J5_getValue_6d5f1_J4 : Cond.selects RJ4 yJ5_getValue_6d5f1 yJ5_getValue_6d5f1 ∈ ZALL := zin (i := 449) (by decide +kernel) rfl
theorem qc_J5_getValue_6d5f1 : Cond.code yJ5_getValue_6d5f1 cJ5_getValue_6d5f1 (1 : Nat) (Option.some (FieldType.array FieldType.byte)) ∈ ZALL := zin (i := 450) (by decide +kernel) rfl
theorem qm_J0_549 : Cond.methodLink RJ0 549 yJ5_length_8abf5  ∈ ZALL := zin (i := 451) (by decide +kernel) rfl
theorem qi_J5_length_8abf5 : Cond.instanceMethod yJ5_length_8abf5 ∈ ZALL := zin (i := 452) (by decide +kernel) rfl
theorem q_1109 : Cond.sameMethod "java/lang/AbstractStringBuilder" "java/lang/AbstractStringBuilder" "length" "()I" ∈ ZALL := zin (i := 453) (by decide +kernel) rfl
theorem qs_J4_length_8abf5_J4 : Cond.selects RJ4 yJ5_length_8abf5 yJ4_length_8abf5 ∈ ZALL := zin (i := 454) (by decide +kernel) rfl
theorem qi_J4_length_8abf5 : Cond.instanceMethod yJ4_length_8abf5 ∈ ZALL := zin (i := 455) (by decide +kernel) rfl
theorem qc_J4_length_8abf5 : Cond.code yJ4_length_8abf5 cJ4_length_8abf5 (1 : Nat) (Option.some FieldType.int) ∈ ZALL := zin (i := 456) (by decide +kernel) rfl
theorem qm_J4_343 : Cond.methodLink RJ4 343 yJ5_length_8abf5  ∈ ZALL := zin (i := 457) (by decide +kernel) rfl
theorem qc_J5_length_8abf5 : Cond.code yJ5_length_8abf5 cJ5_length_8abf5 (1 : Nat) (Option.some FieldType.int) ∈ ZALL := zin (i := 458) (by decide +kernel) rfl
theorem qm_J0_1047 : Cond.methodLink RJ0 1047 yJ5_isLatin1_aae02  ∈ ZALL := zin (i := 459) (by decide +kernel) rfl
theorem qm_J0_54 : Cond.methodLink RJ0 54 yJ7_copyOfRange_39247  ∈ ZALL := zin (i := 460) (by decide +kernel) rfl
theorem qt_J7_copyOfRange_39247 : Cond.static yJ7_copyOfRange_39247 ∈ ZALL := zin (i := 461) (by decide +kernel) rfl
theorem qc_J7_copyOfRange_39247 : Cond.code yJ7_copyOfRange_39247 cJ7_copyOfRange_39247 (3 : Nat) (Option.some (FieldType.array FieldType.byte)) ∈ ZALL := zin (i := 462) (by decide +kernel) rfl
theorem qm_J7_339 : Cond.methodLink RJ7 339 yJ7_copyOfRangeByte_39247  ∈ ZALL := zin (i := 463) (by decide +kernel) rfl
theorem qt_J7_copyOfRangeByte_39247 : Cond.static yJ7_copyOfRangeByte_39247 ∈ ZALL := zin (i := 464) (by decide +kernel) rfl
theorem qc_J7_copyOfRangeByte_39247 : Cond.code yJ7_copyOfRangeByte_39247 cJ7_copyOfRangeByte_39247 (5 : Nat) (Option.some (FieldType.array FieldType.byte)) ∈ ZALL := zin (i := 465) (by decide +kernel) rfl
theorem qm_J7_343 : Cond.methodLink RJ7 343 yJ7_checkLength_df160  ∈ ZALL := zin (i := 466) (by decide +kernel) rfl
theorem qt_J7_checkLength_df160 : Cond.static yJ7_checkLength_df160 ∈ ZALL := zin (i := 467) (by decide +kernel) rfl
theorem qc_J7_checkLength_df160 : Cond.code yJ7_checkLength_df160 cJ7_checkLength_df160 (2 : Nat) (Option.none : Option Jvm.ClassFile.FieldType) ∈ ZALL := zin (i := 468) (by decide +kernel) rfl
theorem qk_J7_43 : Cond.classLink RJ7 43 "java/lang/IllegalArgumentException" ∈ ZALL := zin (i := 469) (by decide +kernel) rfl
theorem qx_java_lang_IllegalArgumentException : Cond.instantiable "java/lang/IllegalArgumentException" 6 ∈ ZALL := zin (i := 470) (by decide +kernel) rfl
theorem q_421 : Cond.castable "java/lang/IllegalArgumentException" "java/lang/IllegalArgumentException" ∈ ZNW := znin (i := 471) (by decide +kernel) rfl
theorem qd_java_lang_RuntimeException_init_da8c8 : Cond.declares ⟨"java/lang/RuntimeException", "<init>", "()V"⟩ ∈ ZNW := znin (i := 472) (by decide +kernel) rfl
theorem qd_java_lang_RuntimeException_init_a7421 : Cond.declares ⟨"java/lang/RuntimeException", "<init>", "(Ljava/lang/String;)V"⟩ ∈ ZNW := znin (i := 473) (by decide +kernel) rfl
theorem qd_java_lang_Exception_init_da8c8 : Cond.declares ⟨"java/lang/Exception", "<init>", "()V"⟩ ∈ ZNW := znin (i := 474) (by decide +kernel) rfl
theorem qd_java_lang_Exception_init_a7421 : Cond.declares ⟨"java/lang/Exception", "<init>", "(Ljava/lang/String;)V"⟩ ∈ ZNW := znin (i := 475) (by decide +kernel) rfl
theorem qd_java_lang_Throwable_init_da8c8 : Cond.declares ⟨"java/lang/Throwable", "<init>", "()V"⟩ ∈ ZNW := znin (i := 476) (by decide +kernel) rfl
theorem qd_java_lang_Throwable_init_a7421 : Cond.declares ⟨"java/lang/Throwable", "<init>", "(Ljava/lang/String;)V"⟩ ∈ ZNW := znin (i := 477) (by decide +kernel) rfl
theorem qs_java_lang_Throwable_fillInStackTrace_ad160_java_lang_IllegalArgumentException : Cond.selects "java/lang/IllegalArgumentException" ⟨"java/lang/Throwable", "fillInStackTrace", "(I)Ljava/lang/Throwable;"⟩ ⟨"java/lang/Throwable", "fillInStackTrace", "(I)Ljava/lang/Throwable;"⟩ ∈ ZALL := zin (i := 478) (by decide +kernel) rfl
theorem qs_java_lang_Throwable_fillInStackTrace_cddbd_java_lang_IllegalArgumentException : Cond.selects "java/lang/IllegalArgumentException" ⟨"java/lang/Throwable", "fillInStackTrace", "()Ljava/lang/Throwable;"⟩ ⟨"java/lang/Throwable", "fillInStackTrace", "()Ljava/lang/Throwable;"⟩ ∈ ZALL := zin (i := 479) (by decide +kernel) rfl
theorem ql_java_lang_Throwable_198 : Cond.fieldLink "java/lang/Throwable" 198 "java/lang/Throwable" "backtrace" "Ljava/lang/Object;" ∈ ZALL := zin (i := 490) (by decide +kernel) rfl
theorem q_441 : Cond.superclass "java/lang/Throwable" "java/lang/Object" ∈ ZALL := zin (i := 491) (by decide +kernel) rfl
theorem qi_java_lang_Throwable_init_da8c8 : Cond.instanceMethod ⟨"java/lang/Throwable", "<init>", "()V"⟩ ∈ ZALL := zin (i := 492) (by decide +kernel) rfl
theorem qc_java_lang_Throwable_init_da8c8 : Cond.code ⟨"java/lang/Throwable", "<init>", "()V"⟩ prog_42_method_1_code (1 : Nat) (Option.none : Option Jvm.ClassFile.FieldType) ∈ ZALL := zin (i := 493) (by decide +kernel) rfl
theorem qm_java_lang_Throwable_1 : Cond.methodLink "java/lang/Throwable" 1 ⟨"java/lang/Object", "<init>", "()V"⟩  ∈ ZALL := zin (i := 494) (by decide +kernel) rfl
theorem ql_java_lang_Throwable_13 : Cond.fieldLink "java/lang/Throwable" 13 "java/lang/Throwable" "UNASSIGNED_STACK" "[Ljava/lang/StackTraceElement;" ∈ ZALL := zin (i := 495) (by decide +kernel) rfl
theorem ql_java_lang_Throwable_20 : Cond.fieldLink "java/lang/Throwable" 20 "java/lang/Throwable" "SUPPRESSED_SENTINEL" "Ljava/util/List;" ∈ ZALL := zin (i := 497) (by decide +kernel) rfl
theorem qm_java_lang_Throwable_27 : Cond.methodLink "java/lang/Throwable" 27 ⟨"java/lang/Throwable", "fillInStackTrace", "()Ljava/lang/Throwable;"⟩  ∈ ZALL := zin (i := 499) (by decide +kernel) rfl
theorem qi_java_lang_Throwable_fillInStackTrace_cddbd : Cond.instanceMethod ⟨"java/lang/Throwable", "fillInStackTrace", "()Ljava/lang/Throwable;"⟩ ∈ ZALL := zin (i := 500) (by decide +kernel) rfl
theorem q_451 : Cond.sameMethod "java/lang/Throwable" "java/lang/Throwable" "fillInStackTrace" "()Ljava/lang/Throwable;" ∈ ZALL := zin (i := 501) (by decide +kernel) rfl
theorem qs_java_lang_Throwable_fillInStackTrace_cddbd_java_lang_ArithmeticException : Cond.selects "java/lang/ArithmeticException" ⟨"java/lang/Throwable", "fillInStackTrace", "()Ljava/lang/Throwable;"⟩ ⟨"java/lang/Throwable", "fillInStackTrace", "()Ljava/lang/Throwable;"⟩ ∈ ZALL := zin (i := 502) (by decide +kernel) rfl
theorem qs_java_lang_Throwable_fillInStackTrace_cddbd_Jx00060 : Cond.selects RJx00060 ⟨"java/lang/Throwable", "fillInStackTrace", "()Ljava/lang/Throwable;"⟩ ⟨"java/lang/Throwable", "fillInStackTrace", "()Ljava/lang/Throwable;"⟩ ∈ ZALL := zin (i := 503) (by decide +kernel) rfl
theorem qs_java_lang_Throwable_fillInStackTrace_cddbd_java_lang_IllegalStateException : Cond.selects "java/lang/IllegalStateException" ⟨"java/lang/Throwable", "fillInStackTrace", "()Ljava/lang/Throwable;"⟩ ⟨"java/lang/Throwable", "fillInStackTrace", "()Ljava/lang/Throwable;"⟩ ∈ ZALL := zin (i := 504) (by decide +kernel) rfl
theorem qs_java_lang_Throwable_fillInStackTrace_cddbd_java_lang_IndexOutOfBoundsException : Cond.selects "java/lang/IndexOutOfBoundsException" ⟨"java/lang/Throwable", "fillInStackTrace", "()Ljava/lang/Throwable;"⟩ ⟨"java/lang/Throwable", "fillInStackTrace", "()Ljava/lang/Throwable;"⟩ ∈ ZALL := zin (i := 505) (by decide +kernel) rfl
theorem qs_java_lang_Throwable_fillInStackTrace_cddbd_Jx7c733 : Cond.selects RJx7c733 ⟨"java/lang/Throwable", "fillInStackTrace", "()Ljava/lang/Throwable;"⟩ ⟨"java/lang/Throwable", "fillInStackTrace", "()Ljava/lang/Throwable;"⟩ ∈ ZALL := zin (i := 506) (by decide +kernel) rfl
theorem qs_java_lang_Throwable_fillInStackTrace_cddbd_java_lang_UnsupportedOperationException : Cond.selects "java/lang/UnsupportedOperationException" ⟨"java/lang/Throwable", "fillInStackTrace", "()Ljava/lang/Throwable;"⟩ ⟨"java/lang/Throwable", "fillInStackTrace", "()Ljava/lang/Throwable;"⟩ ∈ ZALL := zin (i := 507) (by decide +kernel) rfl
theorem qs_java_lang_Throwable_fillInStackTrace_cddbd_java_util_NoSuchElementException : Cond.selects "java/util/NoSuchElementException" ⟨"java/lang/Throwable", "fillInStackTrace", "()Ljava/lang/Throwable;"⟩ ⟨"java/lang/Throwable", "fillInStackTrace", "()Ljava/lang/Throwable;"⟩ ∈ ZALL := zin (i := 508) (by decide +kernel) rfl
theorem qc_java_lang_Throwable_fillInStackTrace_cddbd : Cond.codeSync ({ cls := "java/lang/Throwable", name := "fillInStackTrace", desc := "()Ljava/lang/Throwable;" } : MethodName) prog_42_method_18_code (1 : Nat) (Option.some (FieldType.object "java/lang/Throwable")) ∈ ZALL := zin (i := 509) (by decide +kernel) rfl
theorem qm_java_lang_Throwable_202 : Cond.methodLink "java/lang/Throwable" 202 ⟨"java/lang/Throwable", "fillInStackTrace", "(I)Ljava/lang/Throwable;"⟩  ∈ ZALL := zin (i := 510) (by decide +kernel) rfl
theorem qp_java_lang_Throwable_fillInStackTrace_ad160 : Cond.privateMethod ⟨"java/lang/Throwable", "fillInStackTrace", "(I)Ljava/lang/Throwable;"⟩ ∈ ZNW := znin (i := 511) (by decide +kernel) rfl
theorem qi_java_lang_Throwable_fillInStackTrace_ad160 : Cond.instanceMethod ⟨"java/lang/Throwable", "fillInStackTrace", "(I)Ljava/lang/Throwable;"⟩ ∈ ZALL := zin (i := 512) (by decide +kernel) rfl
theorem qx_java_lang_Throwable : Cond.instantiable "java/lang/Throwable" 6 ∈ ZALL := zin (i := 513) (by decide +kernel) rfl
theorem qv_java_lang_Throwable_fillInStackTrace_ad160 : Cond.native ⟨"java/lang/Throwable", "fillInStackTrace", "(I)Ljava/lang/Throwable;"⟩ ∈ ZALL := zin (i := 514) (by decide +kernel) rfl
theorem qk_J7_45 : Cond.classLink RJ7 45 RJ4 ∈ ZALL := zin (i := 515) (by decide +kernel) rfl
theorem qm_J7_47 : Cond.methodLink RJ7 47 yJ4_init_da8c8  ∈ ZALL := zin (i := 516) (by decide +kernel) rfl
theorem qm_J7_54 : Cond.methodLink RJ7 54 yJ4_append_bf812  ∈ ZALL := zin (i := 517) (by decide +kernel) rfl
theorem qi_J4_append_bf812 : Cond.instanceMethod yJ4_append_bf812 ∈ ZALL := zin (i := 518) (by decide +kernel) rfl
theorem qs_J4_append_bf812 : Cond.selects RJ4 yJ4_append_bf812 yJ4_append_bf812 ∈ ZALL := zin (i := 519) (by decide +kernel) rfl
theorem qc_J4_append_bf812 : Cond.code yJ4_append_bf812 cJ4_append_bf812 (2 : Nat) (Option.some (FieldType.object "java/lang/StringBuilder")) ∈ ZALL := zin (i := 520) (by decide +kernel) rfl
theorem qm_J4_53 : Cond.methodLink RJ4 53 yJ5_append_c97b9  ∈ ZALL := zin (i := 521) (by decide +kernel) rfl
theorem qi_J5_append_c97b9 : Cond.instanceMethod yJ5_append_c97b9 ∈ ZALL := zin (i := 522) (by decide +kernel) rfl
theorem qc_J5_append_c97b9 : Cond.code yJ5_append_c97b9 cJ5_append_c97b9 (4 : Nat) (Option.some (FieldType.object "java/lang/AbstractStringBuilder")) ∈ ZALL := zin (i := 523) (by decide +kernel) rfl
theorem qm_J5_245 : Cond.methodLink RJ5 245 yJ6_stringSize_0f7a4  ∈ ZALL := zin (i := 524) (by decide +kernel) rfl
theorem qt_J6_stringSize_0f7a4 : Cond.static yJ6_stringSize_0f7a4 ∈ ZALL := zin (i := 525) (by decide +kernel) rfl
theorem qc_J6_stringSize_0f7a4 : Cond.code yJ6_stringSize_0f7a4 cJ6_stringSize_0f7a4 (4 : Nat) (Option.some FieldType.int) ∈ ZALL := zin (i := 526) (by decide +kernel) rfl
theorem qm_J5_248 : Cond.methodLink RJ5 248 yJ6_getChars_ba4f3  ∈ ZALL := zin (i := 527) (by decide +kernel) rfl
theorem qt_J6_getChars_ba4f3 : Cond.static yJ6_getChars_ba4f3 ∈ ZALL := zin (i := 528) (by decide +kernel) rfl
theorem qc_J6_getChars_ba4f3 : Cond.code yJ6_getChars_ba4f3 cJ6_getChars_ba4f3 (7 : Nat) (Option.some FieldType.int) ∈ ZALL := zin (i := 529) (by decide +kernel) rfl
theorem ql_J6_83 : Cond.fieldLink RJ6 83 "java/lang/Integer" "DigitOnes" "[B" ∈ ZALL := zin (i := 530) (by decide +kernel) rfl
theorem ql_J6_87 : Cond.fieldLink RJ6 87 "java/lang/Integer" "DigitTens" "[B" ∈ ZALL := zin (i := 532) (by decide +kernel) rfl
theorem qm_J5_251 : Cond.methodLink RJ5 251 yJ2_getChars_46870  ∈ ZALL := zin (i := 534) (by decide +kernel) rfl
theorem qt_J2_getChars_46870 : Cond.static yJ2_getChars_46870 ∈ ZALL := zin (i := 535) (by decide +kernel) rfl
theorem qc_J2_getChars_46870 : Cond.code yJ2_getChars_46870 cJ2_getChars_46870 (5 : Nat) (Option.some FieldType.int) ∈ ZALL := zin (i := 536) (by decide +kernel) rfl
theorem qm_J2_393 : Cond.methodLink RJ2 393 yJ2_getChars_ba4f3  ∈ ZALL := zin (i := 537) (by decide +kernel) rfl
theorem qt_J2_getChars_ba4f3 : Cond.static yJ2_getChars_ba4f3 ∈ ZALL := zin (i := 538) (by decide +kernel) rfl
theorem qc_J2_getChars_ba4f3 : Cond.code yJ2_getChars_ba4f3 cJ2_getChars_ba4f3 (7 : Nat) (Option.some FieldType.int) ∈ ZALL := zin (i := 539) (by decide +kernel) rfl
theorem ql_J2_403 : Cond.fieldLink RJ2 403 "java/lang/Integer" "DigitOnes" "[B" ∈ ZALL := zin (i := 540) (by decide +kernel) rfl
theorem ql_J2_407 : Cond.fieldLink RJ2 407 "java/lang/Integer" "DigitTens" "[B" ∈ ZALL := zin (i := 541) (by decide +kernel) rfl
theorem qm_J7_50 : Cond.methodLink RJ7 50 yJ4_append_15ec4  ∈ ZALL := zin (i := 543) (by decide +kernel) rfl
theorem qm_J7_61 : Cond.methodLink RJ7 61 yJ4_toString_0e30d  ∈ ZALL := zin (i := 544) (by decide +kernel) rfl
theorem qm_J7_65 : Cond.methodLink RJ7 65 ⟨"java/lang/IllegalArgumentException", "<init>", "(Ljava/lang/String;)V"⟩  ∈ ZALL := zin (i := 545) (by decide +kernel) rfl
theorem qi_java_lang_IllegalArgumentException_init_a7421 : Cond.instanceMethod ⟨"java/lang/IllegalArgumentException", "<init>", "(Ljava/lang/String;)V"⟩ ∈ ZALL := zin (i := 546) (by decide +kernel) rfl
theorem qc_java_lang_IllegalArgumentException_init_a7421 : Cond.code ⟨"java/lang/IllegalArgumentException", "<init>", "(Ljava/lang/String;)V"⟩ prog_28_method_2_code (2 : Nat) (Option.none : Option Jvm.ClassFile.FieldType) ∈ ZALL := zin (i := 547) (by decide +kernel) rfl
theorem qm_java_lang_IllegalArgumentException_7 : Cond.methodLink "java/lang/IllegalArgumentException" 7 ⟨"java/lang/RuntimeException", "<init>", "(Ljava/lang/String;)V"⟩  ∈ ZALL := zin (i := 548) (by decide +kernel) rfl
theorem qi_java_lang_RuntimeException_init_a7421 : Cond.instanceMethod ⟨"java/lang/RuntimeException", "<init>", "(Ljava/lang/String;)V"⟩ ∈ ZALL := zin (i := 549) (by decide +kernel) rfl
theorem qc_java_lang_RuntimeException_init_a7421 : Cond.code ⟨"java/lang/RuntimeException", "<init>", "(Ljava/lang/String;)V"⟩ prog_35_method_2_code (2 : Nat) (Option.none : Option Jvm.ClassFile.FieldType) ∈ ZALL := zin (i := 550) (by decide +kernel) rfl
theorem qm_java_lang_RuntimeException_7 : Cond.methodLink "java/lang/RuntimeException" 7 ⟨"java/lang/Exception", "<init>", "(Ljava/lang/String;)V"⟩  ∈ ZALL := zin (i := 551) (by decide +kernel) rfl
theorem qi_java_lang_Exception_init_a7421 : Cond.instanceMethod ⟨"java/lang/Exception", "<init>", "(Ljava/lang/String;)V"⟩ ∈ ZALL := zin (i := 552) (by decide +kernel) rfl
theorem qc_java_lang_Exception_init_a7421 : Cond.code ⟨"java/lang/Exception", "<init>", "(Ljava/lang/String;)V"⟩ prog_26_method_2_code (2 : Nat) (Option.none : Option Jvm.ClassFile.FieldType) ∈ ZALL := zin (i := 553) (by decide +kernel) rfl
theorem qm_java_lang_Exception_7 : Cond.methodLink "java/lang/Exception" 7 ⟨"java/lang/Throwable", "<init>", "(Ljava/lang/String;)V"⟩  ∈ ZALL := zin (i := 554) (by decide +kernel) rfl
theorem qi_java_lang_Throwable_init_a7421 : Cond.instanceMethod ⟨"java/lang/Throwable", "<init>", "(Ljava/lang/String;)V"⟩ ∈ ZALL := zin (i := 555) (by decide +kernel) rfl
theorem qc_java_lang_Throwable_init_a7421 : Cond.code ⟨"java/lang/Throwable", "<init>", "(Ljava/lang/String;)V"⟩ prog_42_method_2_code (2 : Nat) (Option.none : Option Jvm.ClassFile.FieldType) ∈ ZALL := zin (i := 556) (by decide +kernel) rfl
theorem ql_java_lang_Throwable_31 : Cond.fieldLink "java/lang/Throwable" 31 "java/lang/Throwable" "detailMessage" "Ljava/lang/String;" ∈ ZALL := zin (i := 558) (by decide +kernel) rfl
theorem ql_java_lang_Throwable_7 : Cond.fieldLink "java/lang/Throwable" 7 "java/lang/Throwable" "cause" "Ljava/lang/Throwable;" ∈ ZALL := zin (i := 559) (by decide +kernel) rfl
theorem ql_java_lang_Throwable_17 : Cond.fieldLink "java/lang/Throwable" 17 "java/lang/Throwable" "stackTrace" "[Ljava/lang/StackTraceElement;" ∈ ZALL := zin (i := 560) (by decide +kernel) rfl
theorem ql_java_lang_Throwable_24 : Cond.fieldLink "java/lang/Throwable" 24 "java/lang/Throwable" "suppressedExceptions" "Ljava/util/List;" ∈ ZALL := zin (i := 561) (by decide +kernel) rfl
theorem q_490 : Cond.superclass "java/lang/IllegalArgumentException" "java/lang/RuntimeException" ∈ ZALL := zin (i := 569) (by decide +kernel) rfl
theorem qm_J0_1051 : Cond.methodLink RJ0 1051 yJ2_compress_39247  ∈ ZALL := zin (i := 570) (by decide +kernel) rfl
theorem qt_J2_compress_39247 : Cond.static yJ2_compress_39247 ∈ ZALL := zin (i := 571) (by decide +kernel) rfl
theorem qc_J2_compress_39247 : Cond.code yJ2_compress_39247 cJ2_compress_39247 (6 : Nat) (Option.some (FieldType.array FieldType.byte)) ∈ ZALL := zin (i := 572) (by decide +kernel) rfl
theorem qm_J2_123 : Cond.methodLink RJ2 123 yJ2_compress_5af95  ∈ ZALL := zin (i := 573) (by decide +kernel) rfl
theorem qt_J2_compress_5af95 : Cond.static yJ2_compress_5af95 ∈ ZALL := zin (i := 574) (by decide +kernel) rfl
theorem qc_J2_compress_5af95 : Cond.code yJ2_compress_5af95 cJ2_compress_5af95 (7 : Nat) (Option.some FieldType.int) ∈ ZALL := zin (i := 575) (by decide +kernel) rfl
theorem qm_J2_126 : Cond.methodLink RJ2 126 yJ7_copyOfRange_39247  ∈ ZALL := zin (i := 576) (by decide +kernel) rfl
theorem qm_J0_47 : Cond.methodLink RJ0 47 yJ2_coderFromArrayLen_85cad  ∈ ZALL := zin (i := 577) (by decide +kernel) rfl
theorem qt_J2_coderFromArrayLen_85cad : Cond.static yJ2_coderFromArrayLen_85cad ∈ ZALL := zin (i := 578) (by decide +kernel) rfl
theorem qc_J2_coderFromArrayLen_85cad : Cond.code yJ2_coderFromArrayLen_85cad cJ2_coderFromArrayLen_85cad (2 : Nat) (Option.some FieldType.byte) ∈ ZALL := zin (i := 579) (by decide +kernel) rfl
theorem ql_J0_9 : Cond.fieldLink RJ0 9 "java/lang/String" "value" "[B" ∈ ZALL := zin (i := 580) (by decide +kernel) rfl
theorem ql_J0_15 : Cond.fieldLink RJ0 15 "java/lang/String" "coder" "B" ∈ ZALL := zin (i := 581) (by decide +kernel) rfl
theorem q_1152 : Cond.superclass "java/lang/String" "java/lang/Object" ∈ ZALL := zin (i := 590) (by decide +kernel) rfl
theorem qm_L_138 : Cond.methodLink RL 138 yJ0_length_8abf5  ∈ ZALL := zin (i := 591) (by decide +kernel) rfl
theorem qm_L_192 : Cond.methodLink RL 192 yL_types  ∈ ZALL := zin (i := 593) (by decide +kernel) rfl
theorem qt_L_types : Cond.static yL_types ∈ ZALL := zin (i := 594) (by decide +kernel) rfl
theorem qc_L_types : Cond.code yL_types cL_types (5 : Nat) (Option.some FieldType.boolean) ∈ ZALL := zin (i := 595) (by decide +kernel) rfl
theorem qm_L_155 : Cond.methodLink RL 155 yX12_clearText  ∈ ZALL := zin (i := 596) (by decide +kernel) rfl
theorem qi_X12_clearText : Cond.instanceMethod yX12_clearText ∈ ZALL := zin (i := 597) (by decide +kernel) rfl
theorem qs_X12_clearText : Cond.selects RX12 yX12_clearText yX12_clearText ∈ ZALL := zin (i := 598) (by decide +kernel) rfl
theorem qc_X12_clearText : Cond.code yX12_clearText cX12_clearText (1 : Nat) (Option.some FieldType.int) ∈ ZALL := zin (i := 599) (by decide +kernel) rfl
theorem qm_X12_92 : Cond.methodLink RX12 92 yX2_empty  ∈ ZALL := zin (i := 600) (by decide +kernel) rfl
theorem qi_X2_empty : Cond.instanceMethod yX2_empty ∈ ZALL := zin (i := 601) (by decide +kernel) rfl
theorem qs_X2_empty : Cond.selects RX2 yX2_empty yX2_empty ∈ ZALL := zin (i := 602) (by decide +kernel) rfl
theorem qc_X2_empty : Cond.code yX2_empty cX2_empty (2 : Nat) (Option.some FieldType.int) ∈ ZALL := zin (i := 603) (by decide +kernel) rfl
theorem qm_L_158 : Cond.methodLink RL 158 yL_type  ∈ ZALL := zin (i := 604) (by decide +kernel) rfl
theorem qt_L_type : Cond.static yL_type ∈ ZALL := zin (i := 605) (by decide +kernel) rfl
theorem qc_L_type : Cond.codeWith ({ cls := "StoneGazetteLaw", name := "type", desc := "(LStoneGazette;C)I" } : MethodName) method_3_code (3 : Nat) (Option.some FieldType.int) [((0 : Nat), (5 : Nat), (6 : Nat), (14 : Nat)), ((0 : Nat), (5 : Nat), (10 : Nat), (16 : Nat))] ∈ ZALL := zin (i := 606) (by decide +kernel) rfl
theorem qk_L_14 : Cond.classLink RL 14 "java/lang/IllegalArgumentException" ∈ ZALL := zin (i := 607) (by decide +kernel) rfl
theorem qk_L_16 : Cond.classLink RL 16 "java/lang/IllegalStateException" ∈ ZALL := zin (i := 608) (by decide +kernel) rfl
theorem qm_L_8 : Cond.methodLink RL 8 yX12_type  ∈ ZALL := zin (i := 609) (by decide +kernel) rfl
theorem qi_X12_type : Cond.instanceMethod yX12_type ∈ ZALL := zin (i := 610) (by decide +kernel) rfl
theorem qs_X12_type : Cond.selects RX12 yX12_type yX12_type ∈ ZALL := zin (i := 611) (by decide +kernel) rfl
theorem qc_X12_type : Cond.code yX12_type cX12_type (2 : Nat) (Option.some FieldType.int) ∈ ZALL := zin (i := 612) (by decide +kernel) rfl
theorem qk_X12_73 : Cond.classLink RX12 73 "java/lang/IllegalArgumentException" ∈ ZALL := zin (i := 613) (by decide +kernel) rfl
theorem qm_X12_77 : Cond.methodLink RX12 77 ⟨"java/lang/IllegalArgumentException", "<init>", "(Ljava/lang/String;)V"⟩  ∈ ZALL := zin (i := 615) (by decide +kernel) rfl
theorem qm_X12_80 : Cond.methodLink RX12 80 yX2_append  ∈ ZALL := zin (i := 616) (by decide +kernel) rfl
theorem qi_X2_append : Cond.instanceMethod yX2_append ∈ ZALL := zin (i := 617) (by decide +kernel) rfl
theorem qs_X2_append : Cond.selects RX2 yX2_append yX2_append ∈ ZALL := zin (i := 618) (by decide +kernel) rfl
theorem qc_X2_append : Cond.code yX2_append cX2_append (2 : Nat) (Option.some FieldType.boolean) ∈ ZALL := zin (i := 619) (by decide +kernel) rfl
theorem qk_X12_84 : Cond.classLink RX12 84 "java/lang/IllegalStateException" ∈ ZALL := zin (i := 620) (by decide +kernel) rfl
theorem qx_java_lang_IllegalStateException : Cond.instantiable "java/lang/IllegalStateException" 6 ∈ ZALL := zin (i := 621) (by decide +kernel) rfl
theorem q_497 : Cond.castable "java/lang/IllegalStateException" "java/lang/IllegalStateException" ∈ ZNW := znin (i := 622) (by decide +kernel) rfl
theorem qs_java_lang_Throwable_fillInStackTrace_ad160_java_lang_IllegalStateException : Cond.selects "java/lang/IllegalStateException" ⟨"java/lang/Throwable", "fillInStackTrace", "(I)Ljava/lang/Throwable;"⟩ ⟨"java/lang/Throwable", "fillInStackTrace", "(I)Ljava/lang/Throwable;"⟩ ∈ ZALL := zin (i := 623) (by decide +kernel) rfl
theorem qm_X12_88 : Cond.methodLink RX12 88 ⟨"java/lang/IllegalStateException", "<init>", "(Ljava/lang/String;)V"⟩  ∈ ZALL := zin (i := 630) (by decide +kernel) rfl
theorem qi_java_lang_IllegalStateException_init_a7421 : Cond.instanceMethod ⟨"java/lang/IllegalStateException", "<init>", "(Ljava/lang/String;)V"⟩ ∈ ZALL := zin (i := 631) (by decide +kernel) rfl
theorem qc_java_lang_IllegalStateException_init_a7421 : Cond.code ⟨"java/lang/IllegalStateException", "<init>", "(Ljava/lang/String;)V"⟩ prog_29_method_2_code (2 : Nat) (Option.none : Option Jvm.ClassFile.FieldType) ∈ ZALL := zin (i := 632) (by decide +kernel) rfl
theorem qm_java_lang_IllegalStateException_7 : Cond.methodLink "java/lang/IllegalStateException" 7 ⟨"java/lang/RuntimeException", "<init>", "(Ljava/lang/String;)V"⟩  ∈ ZALL := zin (i := 633) (by decide +kernel) rfl
theorem q_510 : Cond.superclass "java/lang/IllegalStateException" "java/lang/RuntimeException" ∈ ZALL := zin (i := 635) (by decide +kernel) rfl
theorem qm_L_196 : Cond.methodLink RL 196 yL_addArticle  ∈ ZALL := zin (i := 636) (by decide +kernel) rfl
theorem qt_L_addArticle : Cond.static yL_addArticle ∈ ZALL := zin (i := 637) (by decide +kernel) rfl
theorem qc_L_addArticle : Cond.codeWith ({ cls := "StoneGazetteLaw", name := "addArticle", desc := "(LStoneGazette;I)I" } : MethodName) method_4_code (3 : Nat) (Option.some FieldType.int) [((0 : Nat), (5 : Nat), (6 : Nat), (14 : Nat)), ((0 : Nat), (5 : Nat), (9 : Nat), (16 : Nat)), ((0 : Nat), (5 : Nat), (13 : Nat), (22 : Nat))] ∈ ZALL := zin (i := 638) (by decide +kernel) rfl
theorem qk_L_22 : Cond.classLink RL 22 "java/lang/UnsupportedOperationException" ∈ ZALL := zin (i := 639) (by decide +kernel) rfl
theorem qm_L_18 : Cond.methodLink RL 18 yX12_addArticle  ∈ ZALL := zin (i := 640) (by decide +kernel) rfl
theorem qi_X12_addArticle : Cond.instanceMethod yX12_addArticle ∈ ZALL := zin (i := 641) (by decide +kernel) rfl
theorem qs_X12_addArticle : Cond.selects RX12 yX12_addArticle yX12_addArticle ∈ ZALL := zin (i := 642) (by decide +kernel) rfl
theorem qc_X12_addArticle : Cond.code yX12_addArticle cX12_addArticle (4 : Nat) (Option.some FieldType.int) ∈ ZALL := zin (i := 643) (by decide +kernel) rfl
theorem qm_X12_101 : Cond.methodLink RX12 101 yJx4a65c_size_8abf5  ∈ ZALL := zin (i := 645) (by decide +kernel) rfl
theorem qi_Jx4a65c_size_8abf5 : Cond.instanceMethod yJx4a65c_size_8abf5 ∈ ZALL := zin (i := 646) (by decide +kernel) rfl
theorem qs_Jx4a65c_size_8abf5 : Cond.selects RJx4a65c yJx4a65c_size_8abf5 yJx4a65c_size_8abf5 ∈ ZALL := zin (i := 647) (by decide +kernel) rfl
theorem qc_Jx4a65c_size_8abf5 : Cond.code yJx4a65c_size_8abf5 cJx4a65c_size_8abf5 (1 : Nat) (Option.some FieldType.int) ∈ ZALL := zin (i := 648) (by decide +kernel) rfl
theorem qm_X12_106 : Cond.methodLink RX12 106 yX2_holdsWords  ∈ ZALL := zin (i := 650) (by decide +kernel) rfl
theorem qi_X2_holdsWords : Cond.instanceMethod yX2_holdsWords ∈ ZALL := zin (i := 651) (by decide +kernel) rfl
theorem qs_X2_holdsWords : Cond.selects RX2 yX2_holdsWords yX2_holdsWords ∈ ZALL := zin (i := 652) (by decide +kernel) rfl
theorem qc_X2_holdsWords : Cond.code yX2_holdsWords cX2_holdsWords (3 : Nat) (Option.some FieldType.boolean) ∈ ZALL := zin (i := 653) (by decide +kernel) rfl
theorem qm_X2_29 : Cond.methodLink RX2 29 yX2_signAt  ∈ ZALL := zin (i := 654) (by decide +kernel) rfl
theorem qi_X2_signAt : Cond.instanceMethod yX2_signAt ∈ ZALL := zin (i := 655) (by decide +kernel) rfl
theorem qs_X2_signAt : Cond.selects RX2 yX2_signAt yX2_signAt ∈ ZALL := zin (i := 656) (by decide +kernel) rfl
theorem qc_X2_signAt : Cond.code yX2_signAt cX2_signAt (2 : Nat) (Option.some FieldType.char) ∈ ZALL := zin (i := 657) (by decide +kernel) rfl
theorem qk_X12_110 : Cond.classLink RX12 110 "java/lang/UnsupportedOperationException" ∈ ZALL := zin (i := 658) (by decide +kernel) rfl
theorem qx_java_lang_UnsupportedOperationException : Cond.instantiable "java/lang/UnsupportedOperationException" 6 ∈ ZALL := zin (i := 659) (by decide +kernel) rfl
theorem q_531 : Cond.castable "java/lang/UnsupportedOperationException" "java/lang/UnsupportedOperationException" ∈ ZNW := znin (i := 660) (by decide +kernel) rfl
theorem qs_java_lang_Throwable_fillInStackTrace_ad160_java_lang_UnsupportedOperationException : Cond.selects "java/lang/UnsupportedOperationException" ⟨"java/lang/Throwable", "fillInStackTrace", "(I)Ljava/lang/Throwable;"⟩ ⟨"java/lang/Throwable", "fillInStackTrace", "(I)Ljava/lang/Throwable;"⟩ ∈ ZALL := zin (i := 661) (by decide +kernel) rfl
theorem qm_X12_114 : Cond.methodLink RX12 114 ⟨"java/lang/UnsupportedOperationException", "<init>", "(Ljava/lang/String;)V"⟩  ∈ ZALL := zin (i := 668) (by decide +kernel) rfl
theorem qi_java_lang_UnsupportedOperationException_init_a7421 : Cond.instanceMethod ⟨"java/lang/UnsupportedOperationException", "<init>", "(Ljava/lang/String;)V"⟩ ∈ ZALL := zin (i := 669) (by decide +kernel) rfl
theorem qc_java_lang_UnsupportedOperationException_init_a7421 : Cond.code ⟨"java/lang/UnsupportedOperationException", "<init>", "(Ljava/lang/String;)V"⟩ prog_43_method_2_code (2 : Nat) (Option.none : Option Jvm.ClassFile.FieldType) ∈ ZALL := zin (i := 670) (by decide +kernel) rfl
theorem qm_java_lang_UnsupportedOperationException_7 : Cond.methodLink "java/lang/UnsupportedOperationException" 7 ⟨"java/lang/RuntimeException", "<init>", "(Ljava/lang/String;)V"⟩  ∈ ZALL := zin (i := 671) (by decide +kernel) rfl
theorem q_544 : Cond.superclass "java/lang/UnsupportedOperationException" "java/lang/RuntimeException" ∈ ZALL := zin (i := 673) (by decide +kernel) rfl
theorem qm_X12_115 : Cond.methodLink RX12 115 yX10_copied  ∈ ZALL := zin (i := 674) (by decide +kernel) rfl
theorem qi_X10_copied : Cond.instanceMethod yX10_copied ∈ ZALL := zin (i := 675) (by decide +kernel) rfl
theorem qs_X10_copied : Cond.selects RX10 yX10_copied yX10_copied ∈ ZALL := zin (i := 676) (by decide +kernel) rfl
theorem qc_X10_copied : Cond.code yX10_copied cX10_copied (3 : Nat) (Option.some (FieldType.object "StoneGazette$State")) ∈ ZALL := zin (i := 677) (by decide +kernel) rfl
theorem qk_X10_13 : Cond.classLink RX10 13 RX10 ∈ ZALL := zin (i := 678) (by decide +kernel) rfl
