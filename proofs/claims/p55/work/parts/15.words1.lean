theorem qm_X10_43 : Cond.methodLink RX10 43 yX10_init  ∈ ZALL := zin (i := 679) (by decide +kernel) rfl
theorem qm_X10_44 : Cond.methodLink RX10 44 yJx4a65c_size_8abf5  ∈ ZALL := zin (i := 680) (by decide +kernel) rfl
theorem qm_X10_48 : Cond.methodLink RX10 48 yJx4a65c_get_915e3  ∈ ZALL := zin (i := 681) (by decide +kernel) rfl
theorem qi_Jx4a65c_get_915e3 : Cond.instanceMethod yJx4a65c_get_915e3 ∈ ZALL := zin (i := 682) (by decide +kernel) rfl
theorem qs_Jx4a65c_get_915e3 : Cond.selects RJx4a65c yJx4a65c_get_915e3 yJx4a65c_get_915e3 ∈ ZALL := zin (i := 683) (by decide +kernel) rfl
theorem qc_Jx4a65c_get_915e3 : Cond.code yJx4a65c_get_915e3 cJx4a65c_get_915e3 (2 : Nat) (Option.some (FieldType.object "java/lang/Object")) ∈ ZALL := zin (i := 684) (by decide +kernel) rfl
theorem qm_Jx4a65c_118 : Cond.methodLink RJx4a65c 118 yJ15_checkIndex_7cf53  ∈ ZALL := zin (i := 685) (by decide +kernel) rfl
theorem qt_J15_checkIndex_7cf53 : Cond.static yJ15_checkIndex_7cf53 ∈ ZALL := zin (i := 686) (by decide +kernel) rfl
theorem qc_J15_checkIndex_7cf53 : Cond.code yJ15_checkIndex_7cf53 cJ15_checkIndex_7cf53 (2 : Nat) (Option.some FieldType.int) ∈ ZALL := zin (i := 687) (by decide +kernel) rfl
theorem qm_J15_105 : Cond.methodLink RJ15 105 yJ3_checkIndex_8e157  ∈ ZALL := zin (i := 688) (by decide +kernel) rfl
theorem qm_Jx4a65c_123 : Cond.methodLink RJx4a65c 123 yJx4a65c_elementData_915e3  ∈ ZALL := zin (i := 689) (by decide +kernel) rfl
theorem qi_Jx4a65c_elementData_915e3 : Cond.instanceMethod yJx4a65c_elementData_915e3 ∈ ZALL := zin (i := 690) (by decide +kernel) rfl
theorem qs_Jx4a65c_elementData_915e3 : Cond.selects RJx4a65c yJx4a65c_elementData_915e3 yJx4a65c_elementData_915e3 ∈ ZALL := zin (i := 691) (by decide +kernel) rfl
theorem qc_Jx4a65c_elementData_915e3 : Cond.code yJx4a65c_elementData_915e3 cJx4a65c_elementData_915e3 (2 : Nat) (Option.some (FieldType.object "java/lang/Object")) ∈ ZALL := zin (i := 692) (by decide +kernel) rfl
theorem qk_X10_52 : Cond.classLink RX10 52 RX1 ∈ ZALL := zin (i := 693) (by decide +kernel) rfl
theorem qm_X10_54 : Cond.methodLink RX10 54 yJx4a65c_add_9ea2d  ∈ ZALL := zin (i := 694) (by decide +kernel) rfl
theorem qi_Jx4a65c_add_9ea2d : Cond.instanceMethod yJx4a65c_add_9ea2d ∈ ZALL := zin (i := 695) (by decide +kernel) rfl
theorem qs_Jx4a65c_add_9ea2d : Cond.selects RJx4a65c yJx4a65c_add_9ea2d yJx4a65c_add_9ea2d ∈ ZALL := zin (i := 696) (by decide +kernel) rfl
theorem qc_Jx4a65c_add_9ea2d : Cond.code yJx4a65c_add_9ea2d cJx4a65c_add_9ea2d (2 : Nat) (Option.some FieldType.boolean) ∈ ZALL := zin (i := 697) (by decide +kernel) rfl
theorem qm_Jx4a65c_131 : Cond.methodLink RJx4a65c 131 yJx4a65c_add_72be8  ∈ ZALL := zin (i := 698) (by decide +kernel) rfl
theorem qp_Jx4a65c_add_72be8 : Cond.privateMethod yJx4a65c_add_72be8 ∈ ZNW := znin (i := 699) (by decide +kernel) rfl
theorem qi_Jx4a65c_add_72be8 : Cond.instanceMethod yJx4a65c_add_72be8 ∈ ZALL := zin (i := 700) (by decide +kernel) rfl
theorem qc_Jx4a65c_add_72be8 : Cond.code yJx4a65c_add_72be8 cJx4a65c_add_72be8 (4 : Nat) (Option.none : Option Jvm.ClassFile.FieldType) ∈ ZALL := zin (i := 701) (by decide +kernel) rfl
theorem qm_Jx4a65c_129 : Cond.methodLink RJx4a65c 129 yJx4a65c_grow_d5877  ∈ ZALL := zin (i := 702) (by decide +kernel) rfl
theorem qp_Jx4a65c_grow_d5877 : Cond.privateMethod yJx4a65c_grow_d5877 ∈ ZNW := znin (i := 703) (by decide +kernel) rfl
theorem qi_Jx4a65c_grow_d5877 : Cond.instanceMethod yJx4a65c_grow_d5877 ∈ ZALL := zin (i := 704) (by decide +kernel) rfl
theorem qc_Jx4a65c_grow_d5877 : Cond.code yJx4a65c_grow_d5877 cJx4a65c_grow_d5877 (1 : Nat) (Option.some (FieldType.array (FieldType.object "java/lang/Object"))) ∈ ZALL := zin (i := 705) (by decide +kernel) rfl
theorem qm_Jx4a65c_69 : Cond.methodLink RJx4a65c 69 yJx4a65c_grow_92f84  ∈ ZALL := zin (i := 706) (by decide +kernel) rfl
theorem qp_Jx4a65c_grow_92f84 : Cond.privateMethod yJx4a65c_grow_92f84 ∈ ZNW := znin (i := 707) (by decide +kernel) rfl
theorem qi_Jx4a65c_grow_92f84 : Cond.instanceMethod yJx4a65c_grow_92f84 ∈ ZALL := zin (i := 708) (by decide +kernel) rfl
theorem qc_Jx4a65c_grow_92f84 : Cond.code yJx4a65c_grow_92f84 cJx4a65c_grow_92f84 (4 : Nat) (Option.some (FieldType.array (FieldType.object "java/lang/Object"))) ∈ ZALL := zin (i := 709) (by decide +kernel) rfl
theorem qm_Jx4a65c_73 : Cond.methodLink RJx4a65c 73 yJ8_newLength_cabcc  ∈ ZALL := zin (i := 710) (by decide +kernel) rfl
theorem qm_Jx4a65c_66 : Cond.methodLink RJx4a65c 66 yJ7_copyOf_1904c  ∈ ZALL := zin (i := 711) (by decide +kernel) rfl
theorem qt_J7_copyOf_1904c : Cond.static yJ7_copyOf_1904c ∈ ZALL := zin (i := 712) (by decide +kernel) rfl
theorem qc_J7_copyOf_1904c : Cond.code yJ7_copyOf_1904c cJ7_copyOf_1904c (2 : Nat) (Option.some (FieldType.array (FieldType.object "java/lang/Object"))) ∈ ZALL := zin (i := 713) (by decide +kernel) rfl
theorem qm_J7_86 : Cond.methodLink RJ7 86 ⟨"java/lang/Object", "getClass", "()Ljava/lang/Class;"⟩  ∈ ZALL := zin (i := 714) (by decide +kernel) rfl
theorem qi_java_lang_Object_getClass_d423e : Cond.instanceMethod ⟨"java/lang/Object", "getClass", "()Ljava/lang/Class;"⟩ ∈ ZALL := zin (i := 715) (by decide +kernel) rfl
theorem q_581 : Cond.sameMethod "java/lang/Object" "java/lang/Object" "getClass" "()Ljava/lang/Class;" ∈ ZALL := zin (i := 716) (by decide +kernel) rfl
theorem qs_java_lang_Object_getClass_d423e_X12 : Cond.selects RX12 ⟨"java/lang/Object", "getClass", "()Ljava/lang/Class;"⟩ ⟨"java/lang/Object", "getClass", "()Ljava/lang/Class;"⟩ ∈ ZALL := zin (i := 717) (by decide +kernel) rfl
theorem qs_java_lang_Object_getClass_d423e_X1 : Cond.selects RX1 ⟨"java/lang/Object", "getClass", "()Ljava/lang/Class;"⟩ ⟨"java/lang/Object", "getClass", "()Ljava/lang/Class;"⟩ ∈ ZALL := zin (i := 718) (by decide +kernel) rfl
theorem qs_java_lang_Object_getClass_d423e_X2 : Cond.selects RX2 ⟨"java/lang/Object", "getClass", "()Ljava/lang/Class;"⟩ ⟨"java/lang/Object", "getClass", "()Ljava/lang/Class;"⟩ ∈ ZALL := zin (i := 719) (by decide +kernel) rfl
theorem qs_java_lang_Object_getClass_d423e_X3 : Cond.selects RX3 ⟨"java/lang/Object", "getClass", "()Ljava/lang/Class;"⟩ ⟨"java/lang/Object", "getClass", "()Ljava/lang/Class;"⟩ ∈ ZALL := zin (i := 720) (by decide +kernel) rfl
theorem qs_java_lang_Object_getClass_d423e_X4 : Cond.selects RX4 ⟨"java/lang/Object", "getClass", "()Ljava/lang/Class;"⟩ ⟨"java/lang/Object", "getClass", "()Ljava/lang/Class;"⟩ ∈ ZALL := zin (i := 721) (by decide +kernel) rfl
theorem qs_java_lang_Object_getClass_d423e_X5 : Cond.selects RX5 ⟨"java/lang/Object", "getClass", "()Ljava/lang/Class;"⟩ ⟨"java/lang/Object", "getClass", "()Ljava/lang/Class;"⟩ ∈ ZALL := zin (i := 722) (by decide +kernel) rfl
theorem qs_java_lang_Object_getClass_d423e_X6 : Cond.selects RX6 ⟨"java/lang/Object", "getClass", "()Ljava/lang/Class;"⟩ ⟨"java/lang/Object", "getClass", "()Ljava/lang/Class;"⟩ ∈ ZALL := zin (i := 723) (by decide +kernel) rfl
theorem qs_java_lang_Object_getClass_d423e_X7 : Cond.selects RX7 ⟨"java/lang/Object", "getClass", "()Ljava/lang/Class;"⟩ ⟨"java/lang/Object", "getClass", "()Ljava/lang/Class;"⟩ ∈ ZALL := zin (i := 724) (by decide +kernel) rfl
theorem qs_java_lang_Object_getClass_d423e_X8 : Cond.selects RX8 ⟨"java/lang/Object", "getClass", "()Ljava/lang/Class;"⟩ ⟨"java/lang/Object", "getClass", "()Ljava/lang/Class;"⟩ ∈ ZALL := zin (i := 725) (by decide +kernel) rfl
theorem qs_java_lang_Object_getClass_d423e_X9 : Cond.selects RX9 ⟨"java/lang/Object", "getClass", "()Ljava/lang/Class;"⟩ ⟨"java/lang/Object", "getClass", "()Ljava/lang/Class;"⟩ ∈ ZALL := zin (i := 726) (by decide +kernel) rfl
theorem qs_java_lang_Object_getClass_d423e_X10 : Cond.selects RX10 ⟨"java/lang/Object", "getClass", "()Ljava/lang/Class;"⟩ ⟨"java/lang/Object", "getClass", "()Ljava/lang/Class;"⟩ ∈ ZALL := zin (i := 727) (by decide +kernel) rfl
theorem qs_java_lang_Object_getClass_d423e_X11 : Cond.selects RX11 ⟨"java/lang/Object", "getClass", "()Ljava/lang/Class;"⟩ ⟨"java/lang/Object", "getClass", "()Ljava/lang/Class;"⟩ ∈ ZALL := zin (i := 728) (by decide +kernel) rfl
theorem qs_java_lang_Object_getClass_d423e_java_lang_ArithmeticException : Cond.selects "java/lang/ArithmeticException" ⟨"java/lang/Object", "getClass", "()Ljava/lang/Class;"⟩ ⟨"java/lang/Object", "getClass", "()Ljava/lang/Class;"⟩ ∈ ZALL := zin (i := 729) (by decide +kernel) rfl
theorem qs_java_lang_Object_getClass_d423e_Jx00060 : Cond.selects RJx00060 ⟨"java/lang/Object", "getClass", "()Ljava/lang/Class;"⟩ ⟨"java/lang/Object", "getClass", "()Ljava/lang/Class;"⟩ ∈ ZALL := zin (i := 730) (by decide +kernel) rfl
theorem qs_java_lang_Object_getClass_d423e_java_lang_IllegalArgumentException : Cond.selects "java/lang/IllegalArgumentException" ⟨"java/lang/Object", "getClass", "()Ljava/lang/Class;"⟩ ⟨"java/lang/Object", "getClass", "()Ljava/lang/Class;"⟩ ∈ ZALL := zin (i := 731) (by decide +kernel) rfl
theorem qs_java_lang_Object_getClass_d423e_java_lang_IllegalStateException : Cond.selects "java/lang/IllegalStateException" ⟨"java/lang/Object", "getClass", "()Ljava/lang/Class;"⟩ ⟨"java/lang/Object", "getClass", "()Ljava/lang/Class;"⟩ ∈ ZALL := zin (i := 732) (by decide +kernel) rfl
theorem qs_java_lang_Object_getClass_d423e_java_lang_IndexOutOfBoundsException : Cond.selects "java/lang/IndexOutOfBoundsException" ⟨"java/lang/Object", "getClass", "()Ljava/lang/Class;"⟩ ⟨"java/lang/Object", "getClass", "()Ljava/lang/Class;"⟩ ∈ ZALL := zin (i := 733) (by decide +kernel) rfl
theorem qs_java_lang_Object_getClass_d423e_J0 : Cond.selects RJ0 ⟨"java/lang/Object", "getClass", "()Ljava/lang/Class;"⟩ ⟨"java/lang/Object", "getClass", "()Ljava/lang/Class;"⟩ ∈ ZALL := zin (i := 734) (by decide +kernel) rfl
theorem qs_java_lang_Object_getClass_d423e_J4 : Cond.selects RJ4 ⟨"java/lang/Object", "getClass", "()Ljava/lang/Class;"⟩ ⟨"java/lang/Object", "getClass", "()Ljava/lang/Class;"⟩ ∈ ZALL := zin (i := 735) (by decide +kernel) rfl
theorem qs_java_lang_Object_getClass_d423e_Jx7c733 : Cond.selects RJx7c733 ⟨"java/lang/Object", "getClass", "()Ljava/lang/Class;"⟩ ⟨"java/lang/Object", "getClass", "()Ljava/lang/Class;"⟩ ∈ ZALL := zin (i := 736) (by decide +kernel) rfl
theorem qs_java_lang_Object_getClass_d423e_java_lang_UnsupportedOperationException : Cond.selects "java/lang/UnsupportedOperationException" ⟨"java/lang/Object", "getClass", "()Ljava/lang/Class;"⟩ ⟨"java/lang/Object", "getClass", "()Ljava/lang/Class;"⟩ ∈ ZALL := zin (i := 737) (by decide +kernel) rfl
theorem qs_java_lang_Object_getClass_d423e_Jx4a65c : Cond.selects RJx4a65c ⟨"java/lang/Object", "getClass", "()Ljava/lang/Class;"⟩ ⟨"java/lang/Object", "getClass", "()Ljava/lang/Class;"⟩ ∈ ZALL := zin (i := 738) (by decide +kernel) rfl
theorem qs_java_lang_Object_getClass_d423e_java_util_NoSuchElementException : Cond.selects "java/util/NoSuchElementException" ⟨"java/lang/Object", "getClass", "()Ljava/lang/Class;"⟩ ⟨"java/lang/Object", "getClass", "()Ljava/lang/Class;"⟩ ∈ ZALL := zin (i := 739) (by decide +kernel) rfl
theorem qv_java_lang_Object_getClass_d423e : Cond.native ⟨"java/lang/Object", "getClass", "()Ljava/lang/Class;"⟩ ∈ ZALL := zin (i := 740) (by decide +kernel) rfl
theorem qm_J7_300 : Cond.methodLink RJ7 300 yJ7_copyOf_6403c  ∈ ZALL := zin (i := 741) (by decide +kernel) rfl
theorem qt_J7_copyOf_6403c : Cond.static yJ7_copyOf_6403c ∈ ZALL := zin (i := 742) (by decide +kernel) rfl
theorem qc_J7_copyOf_6403c : Cond.code yJ7_copyOf_6403c cJ7_copyOf_6403c (4 : Nat) (Option.some (FieldType.array (FieldType.object "java/lang/Object"))) ∈ ZALL := zin (i := 743) (by decide +kernel) rfl
theorem qk_J7_110 : Cond.classLink RJ7 110 "[Ljava/lang/Object;" ∈ ZALL := zin (i := 744) (by decide +kernel) rfl
theorem qk_J7_2 : Cond.classLink RJ7 2 "java/lang/Object" ∈ ZALL := zin (i := 746) (by decide +kernel) rfl
theorem qm_Jx4a65c_79 : Cond.methodLink RJx4a65c 79 yJ9_max_7cf53  ∈ ZALL := zin (i := 747) (by decide +kernel) rfl
theorem qk_Jx4a65c_7 : Cond.classLink RJx4a65c 7 "java/lang/Object" ∈ ZALL := zin (i := 748) (by decide +kernel) rfl
theorem qk_X10_58 : Cond.classLink RX10 58 RX6 ∈ ZALL := zin (i := 749) (by decide +kernel) rfl
theorem qm_X12_119 : Cond.methodLink RX12 119 yX2_cutIntoWords  ∈ ZALL := zin (i := 750) (by decide +kernel) rfl
theorem qi_X2_cutIntoWords : Cond.instanceMethod yX2_cutIntoWords ∈ ZALL := zin (i := 751) (by decide +kernel) rfl
theorem qs_X2_cutIntoWords : Cond.selects RX2 yX2_cutIntoWords yX2_cutIntoWords ∈ ZALL := zin (i := 752) (by decide +kernel) rfl
theorem qc_X2_cutIntoWords : Cond.code yX2_cutIntoWords cX2_cutIntoWords (5 : Nat) (Option.some (FieldType.array (FieldType.object "StoneGazette$Word"))) ∈ ZALL := zin (i := 753) (by decide +kernel) rfl
theorem qm_X2_25 : Cond.methodLink RX2 25 yX2_countBlanks  ∈ ZALL := zin (i := 754) (by decide +kernel) rfl
theorem qp_X2_countBlanks : Cond.privateMethod yX2_countBlanks ∈ ZNW := znin (i := 755) (by decide +kernel) rfl
theorem qi_X2_countBlanks : Cond.instanceMethod yX2_countBlanks ∈ ZALL := zin (i := 756) (by decide +kernel) rfl
theorem qc_X2_countBlanks : Cond.code yX2_countBlanks cX2_countBlanks (3 : Nat) (Option.some FieldType.int) ∈ ZALL := zin (i := 757) (by decide +kernel) rfl
theorem qk_X2_33 : Cond.classLink RX2 33 RX11 ∈ ZALL := zin (i := 758) (by decide +kernel) rfl
theorem qm_X2_35 : Cond.methodLink RX2 35 yX2_endOfWord  ∈ ZALL := zin (i := 760) (by decide +kernel) rfl
theorem qp_X2_endOfWord : Cond.privateMethod yX2_endOfWord ∈ ZNW := znin (i := 761) (by decide +kernel) rfl
theorem qi_X2_endOfWord : Cond.instanceMethod yX2_endOfWord ∈ ZALL := zin (i := 762) (by decide +kernel) rfl
theorem qc_X2_endOfWord : Cond.code yX2_endOfWord cX2_endOfWord (3 : Nat) (Option.some FieldType.int) ∈ ZALL := zin (i := 763) (by decide +kernel) rfl
theorem qm_X2_39 : Cond.methodLink RX2 39 yX2_wordBetween  ∈ ZALL := zin (i := 764) (by decide +kernel) rfl
theorem qi_X2_wordBetween : Cond.instanceMethod yX2_wordBetween ∈ ZALL := zin (i := 765) (by decide +kernel) rfl
theorem qs_X2_wordBetween : Cond.selects RX2 yX2_wordBetween yX2_wordBetween ∈ ZALL := zin (i := 766) (by decide +kernel) rfl
theorem qc_X2_wordBetween : Cond.code yX2_wordBetween cX2_wordBetween (5 : Nat) (Option.some (FieldType.object "StoneGazette$Word")) ∈ ZALL := zin (i := 767) (by decide +kernel) rfl
theorem qx_X11 : Cond.instantiable RX11 2 ∈ ZALL := zin (i := 768) (by decide +kernel) rfl
theorem qm_X2_43 : Cond.methodLink RX2 43 yX11_init  ∈ ZALL := zin (i := 769) (by decide +kernel) rfl
theorem qi_X11_init : Cond.instanceMethod yX11_init ∈ ZALL := zin (i := 770) (by decide +kernel) rfl
theorem qc_X11_init : Cond.code yX11_init cX11_init (3 : Nat) (Option.none : Option Jvm.ClassFile.FieldType) ∈ ZALL := zin (i := 771) (by decide +kernel) rfl
theorem qm_X11_3 : Cond.methodLink RX11 3 ⟨"java/lang/Object", "<init>", "()V"⟩  ∈ ZALL := zin (i := 772) (by decide +kernel) rfl
theorem qm_X11_19 : Cond.methodLink RX11 19 yX11_isVowel  ∈ ZALL := zin (i := 773) (by decide +kernel) rfl
theorem qt_X11_isVowel : Cond.static yX11_isVowel ∈ ZALL := zin (i := 774) (by decide +kernel) rfl
theorem qc_X11_isVowel : Cond.code yX11_isVowel cX11_isVowel (1 : Nat) (Option.some FieldType.boolean) ∈ ZALL := zin (i := 775) (by decide +kernel) rfl
theorem ql_X11_9 : Cond.fieldLink RX11 9 "StoneGazette$Word" "letters" "[C" ∈ ZALL := zin (i := 776) (by decide +kernel) rfl
theorem ql_X8_64 : Cond.fieldLinkNest RX8 64 "StoneGazette$Word" "letters" "[C" "StoneGazette" ∈ ZNW := znin (i := 777) (by decide +kernel) rfl
theorem ql_X11_15 : Cond.fieldLink RX11 15 "StoneGazette$Word" "cuts" "[Z" ∈ ZALL := zin (i := 778) (by decide +kernel) rfl
theorem q_652 : Cond.superclass "StoneGazette$Word" "java/lang/Object" ∈ ZALL := zin (i := 783) (by decide +kernel) rfl
theorem q_653 : Cond.arrayClass FieldType.boolean ∈ ZALL := zin (i := 784) (by decide +kernel) rfl
theorem qm_X12_123 : Cond.methodLink RX12 123 yX10_takeArticle  ∈ ZALL := zin (i := 785) (by decide +kernel) rfl
theorem qi_X10_takeArticle : Cond.instanceMethod yX10_takeArticle ∈ ZALL := zin (i := 786) (by decide +kernel) rfl
theorem qs_X10_takeArticle : Cond.selects RX10 yX10_takeArticle yX10_takeArticle ∈ ZALL := zin (i := 787) (by decide +kernel) rfl
theorem qc_X10_takeArticle : Cond.code yX10_takeArticle cX10_takeArticle (4 : Nat) (Option.some FieldType.int) ∈ ZALL := zin (i := 788) (by decide +kernel) rfl
theorem qx_X1 : Cond.instantiable RX1 3 ∈ ZALL := zin (i := 789) (by decide +kernel) rfl
theorem qm_X10_91 : Cond.methodLink RX10 91 yX1_init  ∈ ZALL := zin (i := 790) (by decide +kernel) rfl
theorem qi_X1_init : Cond.instanceMethod yX1_init ∈ ZALL := zin (i := 791) (by decide +kernel) rfl
theorem qc_X1_init : Cond.code yX1_init cX1_init (4 : Nat) (Option.none : Option Jvm.ClassFile.FieldType) ∈ ZALL := zin (i := 792) (by decide +kernel) rfl
theorem qm_X1_1 : Cond.methodLink RX1 1 ⟨"java/lang/Object", "<init>", "()V"⟩  ∈ ZALL := zin (i := 793) (by decide +kernel) rfl
theorem ql_X1_7 : Cond.fieldLink RX1 7 "StoneGazette$Article" "id" "I" ∈ ZALL := zin (i := 794) (by decide +kernel) rfl
theorem ql_X10_60 : Cond.fieldLinkNest RX10 60 "StoneGazette$Article" "id" "I" "StoneGazette" ∈ ZNW := znin (i := 795) (by decide +kernel) rfl
theorem ql_X12_172 : Cond.fieldLinkNest RX12 172 "StoneGazette$Article" "id" "I" "StoneGazette" ∈ ZNW := znin (i := 796) (by decide +kernel) rfl
theorem ql_X1_13 : Cond.fieldLink RX1 13 "StoneGazette$Article" "priority" "I" ∈ ZALL := zin (i := 797) (by decide +kernel) rfl
theorem ql_X12_184 : Cond.fieldLinkNest RX12 184 "StoneGazette$Article" "priority" "I" "StoneGazette" ∈ ZNW := znin (i := 798) (by decide +kernel) rfl
theorem ql_X1_16 : Cond.fieldLink RX1 16 "StoneGazette$Article" "words" "[LStoneGazette$Word;" ∈ ZALL := zin (i := 799) (by decide +kernel) rfl
theorem ql_X5_15 : Cond.fieldLinkNest RX5 15 "StoneGazette$Article" "words" "[LStoneGazette$Word;" "StoneGazette" ∈ ZNW := znin (i := 800) (by decide +kernel) rfl
theorem ql_X8_29 : Cond.fieldLinkNest RX8 29 "StoneGazette$Article" "words" "[LStoneGazette$Word;" "StoneGazette" ∈ ZNW := znin (i := 801) (by decide +kernel) rfl
theorem ql_X12_187 : Cond.fieldLinkNest RX12 187 "StoneGazette$Article" "words" "[LStoneGazette$Word;" "StoneGazette" ∈ ZNW := znin (i := 802) (by decide +kernel) rfl
theorem q_678 : Cond.superclass "StoneGazette$Article" "java/lang/Object" ∈ ZALL := zin (i := 809) (by decide +kernel) rfl
theorem qm_X12_127 : Cond.methodLink RX12 127 yX12_become  ∈ ZALL := zin (i := 810) (by decide +kernel) rfl
theorem qp_X12_become : Cond.privateMethod yX12_become ∈ ZNW := znin (i := 811) (by decide +kernel) rfl
theorem qi_X12_become : Cond.instanceMethod yX12_become ∈ ZALL := zin (i := 812) (by decide +kernel) rfl
theorem qc_X12_become : Cond.code yX12_become cX12_become (2 : Nat) (Option.none : Option Jvm.ClassFile.FieldType) ∈ ZALL := zin (i := 813) (by decide +kernel) rfl
theorem qm_X12_389 : Cond.methodLink RX12 389 yJx4a65c_add_9ea2d  ∈ ZALL := zin (i := 814) (by decide +kernel) rfl
theorem qm_X12_381 : Cond.methodLink RX12 381 yJx4a65c_remove_915e3  ∈ ZALL := zin (i := 815) (by decide +kernel) rfl
theorem qi_Jx4a65c_remove_915e3 : Cond.instanceMethod yJx4a65c_remove_915e3 ∈ ZALL := zin (i := 816) (by decide +kernel) rfl
theorem qs_Jx4a65c_remove_915e3 : Cond.selects RJx4a65c yJx4a65c_remove_915e3 yJx4a65c_remove_915e3 ∈ ZALL := zin (i := 817) (by decide +kernel) rfl
theorem qc_Jx4a65c_remove_915e3 : Cond.code yJx4a65c_remove_915e3 cJx4a65c_remove_915e3 (4 : Nat) (Option.some (FieldType.object "java/lang/Object")) ∈ ZALL := zin (i := 818) (by decide +kernel) rfl
theorem qm_Jx4a65c_144 : Cond.methodLink RJx4a65c 144 yJx4a65c_fastRemove_b59b0  ∈ ZALL := zin (i := 819) (by decide +kernel) rfl
theorem qp_Jx4a65c_fastRemove_b59b0 : Cond.privateMethod yJx4a65c_fastRemove_b59b0 ∈ ZNW := znin (i := 820) (by decide +kernel) rfl
theorem qi_Jx4a65c_fastRemove_b59b0 : Cond.instanceMethod yJx4a65c_fastRemove_b59b0 ∈ ZALL := zin (i := 821) (by decide +kernel) rfl
theorem qc_Jx4a65c_fastRemove_b59b0 : Cond.code yJx4a65c_fastRemove_b59b0 cJx4a65c_fastRemove_b59b0 (4 : Nat) (Option.none : Option Jvm.ClassFile.FieldType) ∈ ZALL := zin (i := 822) (by decide +kernel) rfl
theorem qm_Jx4a65c_112 : Cond.methodLink RJx4a65c 112 ⟨"java/lang/System", "arraycopy", "(Ljava/lang/Object;ILjava/lang/Object;II)V"⟩  ∈ ZALL := zin (i := 823) (by decide +kernel) rfl
theorem qm_L_199 : Cond.methodLink RL 199 yL_setWidth  ∈ ZALL := zin (i := 824) (by decide +kernel) rfl
theorem qt_L_setWidth : Cond.static yL_setWidth ∈ ZALL := zin (i := 825) (by decide +kernel) rfl
theorem qc_L_setWidth : Cond.codeWith ({ cls := "StoneGazetteLaw", name := "setWidth", desc := "(LStoneGazette;I)I" } : MethodName) method_14_code (3 : Nat) (Option.some FieldType.int) [((0 : Nat), (5 : Nat), (6 : Nat), (14 : Nat))] ∈ ZALL := zin (i := 826) (by decide +kernel) rfl
theorem qm_L_57 : Cond.methodLink RL 57 yX12_setWidth  ∈ ZALL := zin (i := 827) (by decide +kernel) rfl
theorem qi_X12_setWidth : Cond.instanceMethod yX12_setWidth ∈ ZALL := zin (i := 828) (by decide +kernel) rfl
theorem qs_X12_setWidth : Cond.selects RX12 yX12_setWidth yX12_setWidth ∈ ZALL := zin (i := 829) (by decide +kernel) rfl
theorem qc_X12_setWidth : Cond.code yX12_setWidth cX12_setWidth (4 : Nat) (Option.some FieldType.int) ∈ ZALL := zin (i := 830) (by decide +kernel) rfl
theorem qm_X12_200 : Cond.methodLink RX12 200 yX10_takeWidth  ∈ ZALL := zin (i := 831) (by decide +kernel) rfl
theorem qi_X10_takeWidth : Cond.instanceMethod yX10_takeWidth ∈ ZALL := zin (i := 832) (by decide +kernel) rfl
theorem qs_X10_takeWidth : Cond.selects RX10 yX10_takeWidth yX10_takeWidth ∈ ZALL := zin (i := 833) (by decide +kernel) rfl
theorem qc_X10_takeWidth : Cond.code yX10_takeWidth cX10_takeWidth (2 : Nat) (Option.some FieldType.boolean) ∈ ZALL := zin (i := 834) (by decide +kernel) rfl
theorem qm_L_201 : Cond.methodLink RL 201 yL_setPage  ∈ ZALL := zin (i := 836) (by decide +kernel) rfl
theorem qt_L_setPage : Cond.static yL_setPage ∈ ZALL := zin (i := 837) (by decide +kernel) rfl
theorem qc_L_setPage : Cond.codeWith ({ cls := "StoneGazetteLaw", name := "setPage", desc := "(LStoneGazette;II)I" } : MethodName) method_23_code (4 : Nat) (Option.some FieldType.int) [((0 : Nat), (6 : Nat), (7 : Nat), (14 : Nat))] ∈ ZALL := zin (i := 838) (by decide +kernel) rfl
theorem qm_L_85 : Cond.methodLink RL 85 yX12_setPage  ∈ ZALL := zin (i := 839) (by decide +kernel) rfl
theorem qi_X12_setPage : Cond.instanceMethod yX12_setPage ∈ ZALL := zin (i := 840) (by decide +kernel) rfl
theorem qs_X12_setPage : Cond.selects RX12 yX12_setPage yX12_setPage ∈ ZALL := zin (i := 841) (by decide +kernel) rfl
theorem qc_X12_setPage : Cond.code yX12_setPage cX12_setPage (4 : Nat) (Option.some FieldType.int) ∈ ZALL := zin (i := 842) (by decide +kernel) rfl
theorem qm_X12_248 : Cond.methodLink RX12 248 yX10_takePage  ∈ ZALL := zin (i := 843) (by decide +kernel) rfl
theorem qi_X10_takePage : Cond.instanceMethod yX10_takePage ∈ ZALL := zin (i := 844) (by decide +kernel) rfl
theorem qs_X10_takePage : Cond.selects RX10 yX10_takePage yX10_takePage ∈ ZALL := zin (i := 845) (by decide +kernel) rfl
theorem qc_X10_takePage : Cond.code yX10_takePage cX10_takePage (3 : Nat) (Option.some FieldType.boolean) ∈ ZALL := zin (i := 846) (by decide +kernel) rfl
theorem qm_L_204 : Cond.methodLink RL 204 yL_prints  ∈ ZALL := zin (i := 848) (by decide +kernel) rfl
theorem qt_L_prints : Cond.static yL_prints ∈ ZALL := zin (i := 849) (by decide +kernel) rfl
theorem qc_L_prints : Cond.codeWith ({ cls := "StoneGazetteLaw", name := "prints", desc := "(LStoneGazette;)I" } : MethodName) method_24_code (2 : Nat) (Option.some FieldType.int) [((0 : Nat), (4 : Nat), (5 : Nat), (16 : Nat))] ∈ ZALL := zin (i := 850) (by decide +kernel) rfl
theorem qm_L_88 : Cond.methodLink RL 88 yX12_print  ∈ ZALL := zin (i := 851) (by decide +kernel) rfl
theorem qi_X12_print : Cond.instanceMethod yX12_print ∈ ZALL := zin (i := 852) (by decide +kernel) rfl
theorem qs_X12_print : Cond.selects RX12 yX12_print yX12_print ∈ ZALL := zin (i := 853) (by decide +kernel) rfl
theorem qc_X12_print : Cond.code yX12_print cX12_print (3 : Nat) (Option.some FieldType.int) ∈ ZALL := zin (i := 854) (by decide +kernel) rfl
theorem qm_X12_257 : Cond.methodLink RX12 257 yX10_printIssue  ∈ ZALL := zin (i := 855) (by decide +kernel) rfl
theorem qi_X10_printIssue : Cond.instanceMethod yX10_printIssue ∈ ZALL := zin (i := 856) (by decide +kernel) rfl
theorem qs_X10_printIssue : Cond.selects RX10 yX10_printIssue yX10_printIssue ∈ ZALL := zin (i := 857) (by decide +kernel) rfl
theorem qc_X10_printIssue : Cond.code yX10_printIssue cX10_printIssue (5 : Nat) (Option.some FieldType.boolean) ∈ ZALL := zin (i := 858) (by decide +kernel) rfl
theorem qm_X10_109 : Cond.methodLink RX10 109 yJx4a65c_isEmpty_aae02  ∈ ZALL := zin (i := 859) (by decide +kernel) rfl
theorem qi_Jx4a65c_isEmpty_aae02 : Cond.instanceMethod yJx4a65c_isEmpty_aae02 ∈ ZALL := zin (i := 860) (by decide +kernel) rfl
theorem qs_Jx4a65c_isEmpty_aae02 : Cond.selects RJx4a65c yJx4a65c_isEmpty_aae02 yJx4a65c_isEmpty_aae02 ∈ ZALL := zin (i := 861) (by decide +kernel) rfl
theorem qc_Jx4a65c_isEmpty_aae02 : Cond.code yJx4a65c_isEmpty_aae02 cJx4a65c_isEmpty_aae02 (1 : Nat) (Option.some FieldType.boolean) ∈ ZALL := zin (i := 862) (by decide +kernel) rfl
theorem qk_X10_83 : Cond.classLink RX10 83 RX9 ∈ ZALL := zin (i := 863) (by decide +kernel) rfl
theorem qx_X9 : Cond.instantiable RX9 6 ∈ ZALL := zin (i := 864) (by decide +kernel) rfl
theorem qm_X10_112 : Cond.methodLink RX10 112 yX9_init  ∈ ZALL := zin (i := 865) (by decide +kernel) rfl
theorem qi_X9_init : Cond.instanceMethod yX9_init ∈ ZALL := zin (i := 866) (by decide +kernel) rfl
theorem qc_X9_init : Cond.code yX9_init cX9_init (3 : Nat) (Option.none : Option Jvm.ClassFile.FieldType) ∈ ZALL := zin (i := 867) (by decide +kernel) rfl
theorem qm_X9_3 : Cond.methodLink RX9 3 ⟨"java/lang/Object", "<init>", "()V"⟩  ∈ ZALL := zin (i := 868) (by decide +kernel) rfl
theorem ql_X9_25 : Cond.fieldLink RX9 25 "StoneGazette$Page" "columns" "I" ∈ ZALL := zin (i := 869) (by decide +kernel) rfl
theorem ql_X9_28 : Cond.fieldLink RX9 28 "StoneGazette$Page" "height" "I" ∈ ZALL := zin (i := 870) (by decide +kernel) rfl
theorem ql_X9_9 : Cond.fieldLink RX9 9 "StoneGazette$Page" "ids" "[I" ∈ ZALL := zin (i := 871) (by decide +kernel) rfl
theorem ql_X9_15 : Cond.fieldLink RX9 15 "StoneGazette$Page" "firstLines" "[I" ∈ ZALL := zin (i := 872) (by decide +kernel) rfl
theorem ql_X9_18 : Cond.fieldLink RX9 18 "StoneGazette$Page" "taken" "I" ∈ ZALL := zin (i := 873) (by decide +kernel) rfl
theorem ql_X12_279 : Cond.fieldLinkNest RX12 279 "StoneGazette$Page" "taken" "I" "StoneGazette" ∈ ZNW := znin (i := 874) (by decide +kernel) rfl
theorem ql_X9_22 : Cond.fieldLink RX9 22 "StoneGazette$Page" "usedLines" "I" ∈ ZALL := zin (i := 875) (by decide +kernel) rfl
theorem ql_X12_284 : Cond.fieldLinkNest RX12 284 "StoneGazette$Page" "usedLines" "I" "StoneGazette" ∈ ZNW := znin (i := 876) (by decide +kernel) rfl
theorem q_1291 : Cond.superclass "StoneGazette$Page" "java/lang/Object" ∈ ZALL := zin (i := 889) (by decide +kernel) rfl
theorem qm_X10_115 : Cond.methodLink RX10 115 yX10_ranked  ∈ ZALL := zin (i := 890) (by decide +kernel) rfl
theorem qi_X10_ranked : Cond.instanceMethod yX10_ranked ∈ ZALL := zin (i := 891) (by decide +kernel) rfl
theorem qs_X10_ranked : Cond.selects RX10 yX10_ranked yX10_ranked ∈ ZALL := zin (i := 892) (by decide +kernel) rfl
theorem qc_X10_ranked : Cond.code yX10_ranked cX10_ranked (4 : Nat) (Option.some (FieldType.object "StoneGazette$Article")) ∈ ZALL := zin (i := 893) (by decide +kernel) rfl
theorem qm_X10_70 : Cond.methodLink RX10 70 yX10_countBefore  ∈ ZALL := zin (i := 894) (by decide +kernel) rfl
theorem qp_X10_countBefore : Cond.privateMethod yX10_countBefore ∈ ZNW := znin (i := 895) (by decide +kernel) rfl
theorem qi_X10_countBefore : Cond.instanceMethod yX10_countBefore ∈ ZALL := zin (i := 896) (by decide +kernel) rfl
theorem qc_X10_countBefore : Cond.code yX10_countBefore cX10_countBefore (4 : Nat) (Option.some FieldType.int) ∈ ZALL := zin (i := 897) (by decide +kernel) rfl
theorem qm_X10_74 : Cond.methodLink RX10 74 yX1_comesBefore  ∈ ZALL := zin (i := 898) (by decide +kernel) rfl
theorem qi_X1_comesBefore : Cond.instanceMethod yX1_comesBefore ∈ ZALL := zin (i := 899) (by decide +kernel) rfl
theorem qs_X1_comesBefore : Cond.selects RX1 yX1_comesBefore yX1_comesBefore ∈ ZALL := zin (i := 900) (by decide +kernel) rfl
theorem qc_X1_comesBefore : Cond.code yX1_comesBefore cX1_comesBefore (2 : Nat) (Option.some FieldType.boolean) ∈ ZALL := zin (i := 901) (by decide +kernel) rfl
theorem qm_X10_119 : Cond.methodLink RX10 119 yX8_arrange  ∈ ZALL := zin (i := 902) (by decide +kernel) rfl
theorem qi_X8_arrange : Cond.instanceMethod yX8_arrange ∈ ZALL := zin (i := 903) (by decide +kernel) rfl
theorem qs_X8_arrange : Cond.selects RX8 yX8_arrange yX8_arrange ∈ ZALL := zin (i := 904) (by decide +kernel) rfl
theorem qc_X8_arrange : Cond.code yX8_arrange cX8_arrange (7 : Nat) (Option.some FieldType.boolean) ∈ ZALL := zin (i := 905) (by decide +kernel) rfl
theorem qm_X8_35 : Cond.methodLink RX8 35 yX8_place  ∈ ZALL := zin (i := 906) (by decide +kernel) rfl
theorem qp_X8_place : Cond.privateMethod yX8_place ∈ ZNW := znin (i := 907) (by decide +kernel) rfl
theorem qi_X8_place : Cond.instanceMethod yX8_place ∈ ZALL := zin (i := 908) (by decide +kernel) rfl
theorem qc_X8_place : Cond.code yX8_place cX8_place (7 : Nat) (Option.some FieldType.boolean) ∈ ZALL := zin (i := 909) (by decide +kernel) rfl
theorem qm_X8_42 : Cond.methodLink RX8 42 yX8_startOf  ∈ ZALL := zin (i := 910) (by decide +kernel) rfl
theorem qp_X8_startOf : Cond.privateMethod yX8_startOf ∈ ZNW := znin (i := 911) (by decide +kernel) rfl
theorem qi_X8_startOf : Cond.instanceMethod yX8_startOf ∈ ZALL := zin (i := 912) (by decide +kernel) rfl
theorem qc_X8_startOf : Cond.code yX8_startOf cX8_startOf (2 : Nat) (Option.some FieldType.int) ∈ ZALL := zin (i := 913) (by decide +kernel) rfl
theorem qm_X8_46 : Cond.methodLink RX8 46 yX11_letterCount  ∈ ZALL := zin (i := 914) (by decide +kernel) rfl
theorem qi_X11_letterCount : Cond.instanceMethod yX11_letterCount ∈ ZALL := zin (i := 915) (by decide +kernel) rfl
theorem qs_X11_letterCount : Cond.selects RX11 yX11_letterCount yX11_letterCount ∈ ZALL := zin (i := 916) (by decide +kernel) rfl
theorem qc_X11_letterCount : Cond.code yX11_letterCount cX11_letterCount (1 : Nat) (Option.some FieldType.int) ∈ ZALL := zin (i := 917) (by decide +kernel) rfl
theorem qm_X8_52 : Cond.methodLink RX8 52 yX8_putPart  ∈ ZALL := zin (i := 918) (by decide +kernel) rfl
theorem qp_X8_putPart : Cond.privateMethod yX8_putPart ∈ ZNW := znin (i := 919) (by decide +kernel) rfl
theorem qi_X8_putPart : Cond.instanceMethod yX8_putPart ∈ ZALL := zin (i := 920) (by decide +kernel) rfl
theorem qc_X8_putPart : Cond.code yX8_putPart cX8_putPart (5 : Nat) (Option.none : Option Jvm.ClassFile.FieldType) ∈ ZALL := zin (i := 921) (by decide +kernel) rfl
theorem qm_X8_60 : Cond.methodLink RX8 60 yX8_putSign  ∈ ZALL := zin (i := 922) (by decide +kernel) rfl
theorem qp_X8_putSign : Cond.privateMethod yX8_putSign ∈ ZNW := znin (i := 923) (by decide +kernel) rfl
theorem qi_X8_putSign : Cond.instanceMethod yX8_putSign ∈ ZALL := zin (i := 924) (by decide +kernel) rfl
theorem qc_X8_putSign : Cond.code yX8_putSign cX8_putSign (2 : Nat) (Option.none : Option Jvm.ClassFile.FieldType) ∈ ZALL := zin (i := 925) (by decide +kernel) rfl
theorem qm_X8_56 : Cond.methodLink RX8 56 yX11_lastCut  ∈ ZALL := zin (i := 926) (by decide +kernel) rfl
theorem qi_X11_lastCut : Cond.instanceMethod yX11_lastCut ∈ ZALL := zin (i := 927) (by decide +kernel) rfl
theorem qs_X11_lastCut : Cond.selects RX11 yX11_lastCut yX11_lastCut ∈ ZALL := zin (i := 928) (by decide +kernel) rfl
theorem qc_X11_lastCut : Cond.code yX11_lastCut cX11_lastCut (4 : Nat) (Option.some FieldType.int) ∈ ZALL := zin (i := 929) (by decide +kernel) rfl
theorem qm_X11_23 : Cond.methodLink RX11 23 yX11_hasCutAt  ∈ ZALL := zin (i := 930) (by decide +kernel) rfl
theorem qi_X11_hasCutAt : Cond.instanceMethod yX11_hasCutAt ∈ ZALL := zin (i := 931) (by decide +kernel) rfl
theorem qs_X11_hasCutAt : Cond.selects RX11 yX11_hasCutAt yX11_hasCutAt ∈ ZALL := zin (i := 932) (by decide +kernel) rfl
theorem qc_X11_hasCutAt : Cond.code yX11_hasCutAt cX11_hasCutAt (2 : Nat) (Option.some FieldType.boolean) ∈ ZALL := zin (i := 933) (by decide +kernel) rfl
theorem qm_X8_39 : Cond.methodLink RX8 39 yX8_closeLine  ∈ ZALL := zin (i := 934) (by decide +kernel) rfl
theorem qp_X8_closeLine : Cond.privateMethod yX8_closeLine ∈ ZNW := znin (i := 935) (by decide +kernel) rfl
theorem qi_X8_closeLine : Cond.instanceMethod yX8_closeLine ∈ ZALL := zin (i := 936) (by decide +kernel) rfl
theorem qc_X8_closeLine : Cond.code yX8_closeLine cX8_closeLine (1 : Nat) (Option.none : Option Jvm.ClassFile.FieldType) ∈ ZALL := zin (i := 937) (by decide +kernel) rfl
theorem qm_X10_128 : Cond.methodLink RX10 128 yX9_offer  ∈ ZALL := zin (i := 938) (by decide +kernel) rfl
theorem qi_X9_offer : Cond.instanceMethod yX9_offer ∈ ZALL := zin (i := 939) (by decide +kernel) rfl
theorem qs_X9_offer : Cond.selects RX9 yX9_offer yX9_offer ∈ ZALL := zin (i := 940) (by decide +kernel) rfl
theorem qc_X9_offer : Cond.code yX9_offer cX9_offer (3 : Nat) (Option.none : Option Jvm.ClassFile.FieldType) ∈ ZALL := zin (i := 941) (by decide +kernel) rfl
theorem qx_X6 : Cond.instantiable RX6 3 ∈ ZALL := zin (i := 942) (by decide +kernel) rfl
theorem qm_X10_131 : Cond.methodLink RX10 131 yX6_init  ∈ ZALL := zin (i := 943) (by decide +kernel) rfl
theorem qi_X6_init : Cond.instanceMethod yX6_init ∈ ZALL := zin (i := 944) (by decide +kernel) rfl
theorem qc_X6_init : Cond.code yX6_init cX6_init (4 : Nat) (Option.none : Option Jvm.ClassFile.FieldType) ∈ ZALL := zin (i := 945) (by decide +kernel) rfl
theorem qm_X6_1 : Cond.methodLink RX6 1 ⟨"java/lang/Object", "<init>", "()V"⟩  ∈ ZALL := zin (i := 946) (by decide +kernel) rfl
theorem ql_X6_7 : Cond.fieldLink RX6 7 "StoneGazette$Issue" "number" "I" ∈ ZALL := zin (i := 947) (by decide +kernel) rfl
theorem ql_X10_67 : Cond.fieldLinkNest RX10 67 "StoneGazette$Issue" "number" "I" "StoneGazette" ∈ ZNW := znin (i := 948) (by decide +kernel) rfl
theorem ql_X6_13 : Cond.fieldLink RX6 13 "StoneGazette$Issue" "page" "LStoneGazette$Page;" ∈ ZALL := zin (i := 949) (by decide +kernel) rfl
theorem ql_X10_78 : Cond.fieldLinkNest RX10 78 "StoneGazette$Issue" "page" "LStoneGazette$Page;" "StoneGazette" ∈ ZNW := znin (i := 950) (by decide +kernel) rfl
theorem ql_X12_273 : Cond.fieldLinkNest RX12 273 "StoneGazette$Issue" "page" "LStoneGazette$Page;" "StoneGazette" ∈ ZNW := znin (i := 951) (by decide +kernel) rfl
theorem ql_X6_17 : Cond.fieldLink RX6 17 "StoneGazette$Issue" "freshness" "F" ∈ ZALL := zin (i := 952) (by decide +kernel) rfl
theorem ql_X12_315 : Cond.fieldLinkNest RX12 315 "StoneGazette$Issue" "freshness" "F" "StoneGazette" ∈ ZNW := znin (i := 953) (by decide +kernel) rfl
theorem q_1316 : Cond.superclass "StoneGazette$Issue" "java/lang/Object" ∈ ZALL := zin (i := 960) (by decide +kernel) rfl
theorem qm_X10_94 : Cond.methodLink RX10 94 yJx4a65c_remove_915e3  ∈ ZALL := zin (i := 961) (by decide +kernel) rfl
theorem qm_L_207 : Cond.methodLink RL 207 yL_pass  ∈ ZALL := zin (i := 963) (by decide +kernel) rfl
theorem qt_L_pass : Cond.static yL_pass ∈ ZALL := zin (i := 964) (by decide +kernel) rfl
theorem qc_L_pass : Cond.codeWith ({ cls := "StoneGazetteLaw", name := "pass", desc := "(LStoneGazette;I)I" } : MethodName) method_29_code (3 : Nat) (Option.some FieldType.int) [((0 : Nat), (5 : Nat), (6 : Nat), (14 : Nat))] ∈ ZALL := zin (i := 965) (by decide +kernel) rfl
theorem qm_L_104 : Cond.methodLink RL 104 yX12_passDays  ∈ ZALL := zin (i := 966) (by decide +kernel) rfl
theorem qi_X12_passDays : Cond.instanceMethod yX12_passDays ∈ ZALL := zin (i := 967) (by decide +kernel) rfl
theorem qs_X12_passDays : Cond.selects RX12 yX12_passDays yX12_passDays ∈ ZALL := zin (i := 968) (by decide +kernel) rfl
theorem qc_X12_passDays : Cond.code yX12_passDays cX12_passDays (4 : Nat) (Option.some FieldType.int) ∈ ZALL := zin (i := 969) (by decide +kernel) rfl
theorem qm_X12_304 : Cond.methodLink RX12 304 yX10_letDaysPass  ∈ ZALL := zin (i := 970) (by decide +kernel) rfl
theorem qi_X10_letDaysPass : Cond.instanceMethod yX10_letDaysPass ∈ ZALL := zin (i := 971) (by decide +kernel) rfl
theorem qs_X10_letDaysPass : Cond.selects RX10 yX10_letDaysPass yX10_letDaysPass ∈ ZALL := zin (i := 972) (by decide +kernel) rfl
theorem qc_X10_letDaysPass : Cond.code yX10_letDaysPass cX10_letDaysPass (3 : Nat) (Option.some FieldType.boolean) ∈ ZALL := zin (i := 973) (by decide +kernel) rfl
theorem qm_X10_134 : Cond.methodLink RX10 134 yX6_faded  ∈ ZALL := zin (i := 974) (by decide +kernel) rfl
theorem qi_X6_faded : Cond.instanceMethod yX6_faded ∈ ZALL := zin (i := 975) (by decide +kernel) rfl
theorem qs_X6_faded : Cond.selects RX6 yX6_faded yX6_faded ∈ ZALL := zin (i := 976) (by decide +kernel) rfl
theorem qc_X6_faded : Cond.code yX6_faded cX6_faded (4 : Nat) (Option.some (FieldType.object "StoneGazette$Issue")) ∈ ZALL := zin (i := 977) (by decide +kernel) rfl
theorem q_1391 : Cond.constantFloat "StoneGazette$Issue" (21 : Nat) (1061158912 : UInt32) ∈ ZALL := zin (i := 978) (by decide +kernel) rfl
theorem qk_X6_8 : Cond.classLink RX6 8 RX6 ∈ ZALL := zin (i := 979) (by decide +kernel) rfl
theorem qm_X6_22 : Cond.methodLink RX6 22 yX6_init  ∈ ZALL := zin (i := 980) (by decide +kernel) rfl
theorem qm_X10_101 : Cond.methodLink RX10 101 yJx4a65c_set_bcc79  ∈ ZALL := zin (i := 981) (by decide +kernel) rfl
theorem qi_Jx4a65c_set_bcc79 : Cond.instanceMethod yJx4a65c_set_bcc79 ∈ ZALL := zin (i := 982) (by decide +kernel) rfl
theorem qs_Jx4a65c_set_bcc79 : Cond.selects RJx4a65c yJx4a65c_set_bcc79 yJx4a65c_set_bcc79 ∈ ZALL := zin (i := 983) (by decide +kernel) rfl
theorem qc_Jx4a65c_set_bcc79 : Cond.code yJx4a65c_set_bcc79 cJx4a65c_set_bcc79 (4 : Nat) (Option.some (FieldType.object "java/lang/Object")) ∈ ZALL := zin (i := 984) (by decide +kernel) rfl
theorem qm_X12_309 : Cond.methodLink RX12 309 yX10_countReadable  ∈ ZALL := zin (i := 986) (by decide +kernel) rfl
theorem qi_X10_countReadable : Cond.instanceMethod yX10_countReadable ∈ ZALL := zin (i := 987) (by decide +kernel) rfl
theorem qs_X10_countReadable : Cond.selects RX10 yX10_countReadable yX10_countReadable ∈ ZALL := zin (i := 988) (by decide +kernel) rfl
theorem qc_X10_countReadable : Cond.code yX10_countReadable cX10_countReadable (3 : Nat) (Option.some FieldType.int) ∈ ZALL := zin (i := 989) (by decide +kernel) rfl
theorem qm_X10_87 : Cond.methodLink RX10 87 yX6_canBeRead  ∈ ZALL := zin (i := 990) (by decide +kernel) rfl
theorem qi_X6_canBeRead : Cond.instanceMethod yX6_canBeRead ∈ ZALL := zin (i := 991) (by decide +kernel) rfl
theorem qs_X6_canBeRead : Cond.selects RX6 yX6_canBeRead yX6_canBeRead ∈ ZALL := zin (i := 992) (by decide +kernel) rfl
theorem qc_X6_canBeRead : Cond.code yX6_canBeRead cX6_canBeRead (1 : Nat) (Option.some FieldType.boolean) ∈ ZALL := zin (i := 993) (by decide +kernel) rfl
theorem q_1403 : Cond.constantFloat "StoneGazette$Issue" (25 : Nat) (1048576000 : UInt32) ∈ ZALL := zin (i := 994) (by decide +kernel) rfl
theorem qm_L_210 : Cond.methodLink RL 210 yL_correct  ∈ ZALL := zin (i := 995) (by decide +kernel) rfl
theorem qt_L_correct : Cond.static yL_correct ∈ ZALL := zin (i := 996) (by decide +kernel) rfl
theorem qc_L_correct : Cond.codeWith ({ cls := "StoneGazetteLaw", name := "correct", desc := "(LStoneGazette;II)I" } : MethodName) method_6_code (4 : Nat) (Option.some FieldType.int) [((0 : Nat), (6 : Nat), (7 : Nat), (27 : Nat)), ((0 : Nat), (6 : Nat), (10 : Nat), (33 : Nat)), ((0 : Nat), (6 : Nat), (14 : Nat), (22 : Nat))] ∈ ZALL := zin (i := 997) (by decide +kernel) rfl
theorem qk_L_27 : Cond.classLink RL 27 "java/util/NoSuchElementException" ∈ ZALL := zin (i := 998) (by decide +kernel) rfl
theorem qk_L_33 : Cond.classLink RL 33 "java/lang/IndexOutOfBoundsException" ∈ ZALL := zin (i := 999) (by decide +kernel) rfl
theorem qx_Jx00060 : Cond.instantiable RJx00060 6 ∈ ZALL := zin (i := 1000) (by decide +kernel) rfl
theorem qi_Jx00060_init_a7421 : Cond.instanceMethod yJx00060_init_a7421 ∈ ZALL := zin (i := 1001) (by decide +kernel) rfl
theorem qc_Jx00060_init_a7421 : Cond.code yJx00060_init_a7421 cJx00060_init_a7421 (2 : Nat) (Option.none : Option Jvm.ClassFile.FieldType) ∈ ZALL := zin (i := 1002) (by decide +kernel) rfl
theorem qm_Jx00060_7 : Cond.methodLink RJx00060 7 ⟨"java/lang/IndexOutOfBoundsException", "<init>", "(Ljava/lang/String;)V"⟩  ∈ ZALL := zin (i := 1003) (by decide +kernel) rfl
theorem qi_java_lang_IndexOutOfBoundsException_init_a7421 : Cond.instanceMethod ⟨"java/lang/IndexOutOfBoundsException", "<init>", "(Ljava/lang/String;)V"⟩ ∈ ZALL := zin (i := 1004) (by decide +kernel) rfl
theorem qc_java_lang_IndexOutOfBoundsException_init_a7421 : Cond.code ⟨"java/lang/IndexOutOfBoundsException", "<init>", "(Ljava/lang/String;)V"⟩ prog_30_method_2_code (2 : Nat) (Option.none : Option Jvm.ClassFile.FieldType) ∈ ZALL := zin (i := 1005) (by decide +kernel) rfl
theorem qm_java_lang_IndexOutOfBoundsException_7 : Cond.methodLink "java/lang/IndexOutOfBoundsException" 7 ⟨"java/lang/RuntimeException", "<init>", "(Ljava/lang/String;)V"⟩  ∈ ZALL := zin (i := 1006) (by decide +kernel) rfl
theorem q_743 : Cond.superclass "java/lang/ArrayIndexOutOfBoundsException" "java/lang/IndexOutOfBoundsException" ∈ ZALL := zin (i := 1013) (by decide +kernel) rfl
theorem q_744 : Cond.castable "java/lang/ArrayIndexOutOfBoundsException" "java/lang/ArrayIndexOutOfBoundsException" ∈ ZNW := znin (i := 1014) (by decide +kernel) rfl
theorem qd_java_lang_IndexOutOfBoundsException_init_da8c8 : Cond.declares ⟨"java/lang/IndexOutOfBoundsException", "<init>", "()V"⟩ ∈ ZNW := znin (i := 1015) (by decide +kernel) rfl
theorem qd_java_lang_IndexOutOfBoundsException_init_a7421 : Cond.declares ⟨"java/lang/IndexOutOfBoundsException", "<init>", "(Ljava/lang/String;)V"⟩ ∈ ZNW := znin (i := 1016) (by decide +kernel) rfl
theorem qs_java_lang_Throwable_fillInStackTrace_ad160_Jx00060 : Cond.selects RJx00060 ⟨"java/lang/Throwable", "fillInStackTrace", "(I)Ljava/lang/Throwable;"⟩ ⟨"java/lang/Throwable", "fillInStackTrace", "(I)Ljava/lang/Throwable;"⟩ ∈ ZALL := zin (i := 1017) (by decide +kernel) rfl
theorem qm_L_29 : Cond.methodLink RL 29 yX12_correct  ∈ ZALL := zin (i := 1018) (by decide +kernel) rfl
theorem qi_X12_correct : Cond.instanceMethod yX12_correct ∈ ZALL := zin (i := 1019) (by decide +kernel) rfl
theorem qs_X12_correct : Cond.selects RX12 yX12_correct yX12_correct ∈ ZALL := zin (i := 1020) (by decide +kernel) rfl
theorem qc_X12_correct : Cond.code yX12_correct cX12_correct (5 : Nat) (Option.some FieldType.int) ∈ ZALL := zin (i := 1021) (by decide +kernel) rfl
theorem qm_X12_140 : Cond.methodLink RX12 140 yX12_knownWord  ∈ ZALL := zin (i := 1022) (by decide +kernel) rfl
theorem qp_X12_knownWord : Cond.privateMethod yX12_knownWord ∈ ZNW := znin (i := 1023) (by decide +kernel) rfl
theorem qi_X12_knownWord : Cond.instanceMethod yX12_knownWord ∈ ZALL := zin (i := 1024) (by decide +kernel) rfl
theorem qc_X12_knownWord : Cond.code yX12_knownWord cX12_knownWord (4 : Nat) (Option.some (FieldType.object "StoneGazette$Word")) ∈ ZALL := zin (i := 1025) (by decide +kernel) rfl
theorem qm_X12_181 : Cond.methodLink RX12 181 yX12_knownArticle  ∈ ZALL := zin (i := 1026) (by decide +kernel) rfl
theorem qp_X12_knownArticle : Cond.privateMethod yX12_knownArticle ∈ ZNW := znin (i := 1027) (by decide +kernel) rfl
theorem qi_X12_knownArticle : Cond.instanceMethod yX12_knownArticle ∈ ZALL := zin (i := 1028) (by decide +kernel) rfl
theorem qc_X12_knownArticle : Cond.code yX12_knownArticle cX12_knownArticle (3 : Nat) (Option.some (FieldType.object "StoneGazette$Article")) ∈ ZALL := zin (i := 1029) (by decide +kernel) rfl
theorem qm_X12_393 : Cond.methodLink RX12 393 yX10_findArticle  ∈ ZALL := zin (i := 1030) (by decide +kernel) rfl
theorem qi_X10_findArticle : Cond.instanceMethod yX10_findArticle ∈ ZALL := zin (i := 1031) (by decide +kernel) rfl
theorem qs_X10_findArticle : Cond.selects RX10 yX10_findArticle yX10_findArticle ∈ ZALL := zin (i := 1032) (by decide +kernel) rfl
theorem qc_X10_findArticle : Cond.code yX10_findArticle cX10_findArticle (3 : Nat) (Option.some (FieldType.object "StoneGazette$Article")) ∈ ZALL := zin (i := 1033) (by decide +kernel) rfl
theorem qm_X10_63 : Cond.methodLink RX10 63 yX10_indexOf  ∈ ZALL := zin (i := 1034) (by decide +kernel) rfl
theorem qp_X10_indexOf : Cond.privateMethod yX10_indexOf ∈ ZNW := znin (i := 1035) (by decide +kernel) rfl
theorem qi_X10_indexOf : Cond.instanceMethod yX10_indexOf ∈ ZALL := zin (i := 1036) (by decide +kernel) rfl
theorem qc_X10_indexOf : Cond.code yX10_indexOf cX10_indexOf (3 : Nat) (Option.some FieldType.int) ∈ ZALL := zin (i := 1037) (by decide +kernel) rfl
theorem qk_X12_135 : Cond.classLink RX12 135 "java/util/NoSuchElementException" ∈ ZALL := zin (i := 1038) (by decide +kernel) rfl
theorem qx_java_util_NoSuchElementException : Cond.instantiable "java/util/NoSuchElementException" 6 ∈ ZALL := zin (i := 1039) (by decide +kernel) rfl
theorem q_712 : Cond.castable "java/util/NoSuchElementException" "java/util/NoSuchElementException" ∈ ZNW := znin (i := 1040) (by decide +kernel) rfl
theorem qs_java_lang_Throwable_fillInStackTrace_ad160_java_util_NoSuchElementException : Cond.selects "java/util/NoSuchElementException" ⟨"java/lang/Throwable", "fillInStackTrace", "(I)Ljava/lang/Throwable;"⟩ ⟨"java/lang/Throwable", "fillInStackTrace", "(I)Ljava/lang/Throwable;"⟩ ∈ ZALL := zin (i := 1041) (by decide +kernel) rfl
theorem qm_X12_139 : Cond.methodLink RX12 139 ⟨"java/util/NoSuchElementException", "<init>", "(Ljava/lang/String;)V"⟩  ∈ ZALL := zin (i := 1048) (by decide +kernel) rfl
theorem qi_java_util_NoSuchElementException_init_a7421 : Cond.instanceMethod ⟨"java/util/NoSuchElementException", "<init>", "(Ljava/lang/String;)V"⟩ ∈ ZALL := zin (i := 1049) (by decide +kernel) rfl
theorem qc_java_util_NoSuchElementException_init_a7421 : Cond.code ⟨"java/util/NoSuchElementException", "<init>", "(Ljava/lang/String;)V"⟩ prog_52_method_4_code (2 : Nat) (Option.none : Option Jvm.ClassFile.FieldType) ∈ ZALL := zin (i := 1050) (by decide +kernel) rfl
theorem qm_java_util_NoSuchElementException_13 : Cond.methodLink "java/util/NoSuchElementException" 13 ⟨"java/lang/RuntimeException", "<init>", "(Ljava/lang/String;)V"⟩  ∈ ZALL := zin (i := 1051) (by decide +kernel) rfl
theorem q_725 : Cond.superclass "java/util/NoSuchElementException" "java/lang/RuntimeException" ∈ ZALL := zin (i := 1053) (by decide +kernel) rfl
theorem qk_X12_161 : Cond.classLink RX12 161 "java/lang/IndexOutOfBoundsException" ∈ ZALL := zin (i := 1054) (by decide +kernel) rfl
theorem qx_java_lang_IndexOutOfBoundsException : Cond.instantiable "java/lang/IndexOutOfBoundsException" 6 ∈ ZALL := zin (i := 1055) (by decide +kernel) rfl
theorem q_771 : Cond.castable "java/lang/IndexOutOfBoundsException" "java/lang/IndexOutOfBoundsException" ∈ ZNW := znin (i := 1056) (by decide +kernel) rfl
theorem qs_java_lang_Throwable_fillInStackTrace_ad160_java_lang_IndexOutOfBoundsException : Cond.selects "java/lang/IndexOutOfBoundsException" ⟨"java/lang/Throwable", "fillInStackTrace", "(I)Ljava/lang/Throwable;"⟩ ⟨"java/lang/Throwable", "fillInStackTrace", "(I)Ljava/lang/Throwable;"⟩ ∈ ZALL := zin (i := 1057) (by decide +kernel) rfl
theorem qm_X12_165 : Cond.methodLink RX12 165 ⟨"java/lang/IndexOutOfBoundsException", "<init>", "(Ljava/lang/String;)V"⟩  ∈ ZALL := zin (i := 1064) (by decide +kernel) rfl
theorem q_781 : Cond.superclass "java/lang/IndexOutOfBoundsException" "java/lang/RuntimeException" ∈ ZALL := zin (i := 1066) (by decide +kernel) rfl
theorem qm_X12_144 : Cond.methodLink RX12 144 yX2_holdsOneWord  ∈ ZALL := zin (i := 1067) (by decide +kernel) rfl
theorem qi_X2_holdsOneWord : Cond.instanceMethod yX2_holdsOneWord ∈ ZALL := zin (i := 1068) (by decide +kernel) rfl
theorem qs_X2_holdsOneWord : Cond.selects RX2 yX2_holdsOneWord yX2_holdsOneWord ∈ ZALL := zin (i := 1069) (by decide +kernel) rfl
theorem qc_X2_holdsOneWord : Cond.code yX2_holdsOneWord cX2_holdsOneWord (1 : Nat) (Option.some FieldType.boolean) ∈ ZALL := zin (i := 1070) (by decide +kernel) rfl
theorem qm_X12_149 : Cond.methodLink RX12 149 yX2_wordBetween  ∈ ZALL := zin (i := 1072) (by decide +kernel) rfl
theorem qm_X12_152 : Cond.methodLink RX12 152 yX10_replaceWord  ∈ ZALL := zin (i := 1073) (by decide +kernel) rfl
theorem qi_X10_replaceWord : Cond.instanceMethod yX10_replaceWord ∈ ZALL := zin (i := 1074) (by decide +kernel) rfl
theorem qs_X10_replaceWord : Cond.selects RX10 yX10_replaceWord yX10_replaceWord ∈ ZALL := zin (i := 1075) (by decide +kernel) rfl
theorem qc_X10_replaceWord : Cond.code yX10_replaceWord cX10_replaceWord (5 : Nat) (Option.none : Option Jvm.ClassFile.FieldType) ∈ ZALL := zin (i := 1076) (by decide +kernel) rfl
theorem qm_X10_97 : Cond.methodLink RX10 97 yX1_corrected  ∈ ZALL := zin (i := 1077) (by decide +kernel) rfl
theorem qi_X1_corrected : Cond.instanceMethod yX1_corrected ∈ ZALL := zin (i := 1078) (by decide +kernel) rfl
theorem qs_X1_corrected : Cond.selects RX1 yX1_corrected yX1_corrected ∈ ZALL := zin (i := 1079) (by decide +kernel) rfl
theorem qc_X1_corrected : Cond.code yX1_corrected cX1_corrected (4 : Nat) (Option.some (FieldType.object "StoneGazette$Article")) ∈ ZALL := zin (i := 1080) (by decide +kernel) rfl
theorem qm_X1_20 : Cond.methodLink RX1 20 ⟨"[LStoneGazette$Word;", "clone", "()Ljava/lang/Object;"⟩  ∈ ZALL := zin (i := 1081) (by decide +kernel) rfl
theorem q_797 : Cond.sameMethod "[LStoneGazette$Word;" "java/lang/Object" "clone" "()Ljava/lang/Object;" ∈ ZALL := zin (i := 1082) (by decide +kernel) rfl
theorem qs_java_lang_Object_clone_0502b__LStoneGazette_Word_ : Cond.selects "[LStoneGazette$Word;" ⟨"[LStoneGazette$Word;", "clone", "()Ljava/lang/Object;"⟩ ⟨"java/lang/Object", "clone", "()Ljava/lang/Object;"⟩ ∈ ZALL := zin (i := 1083) (by decide +kernel) rfl
theorem q_801 : Cond.castable "[LStoneGazette$Word;" "java/lang/Cloneable" ∈ ZNW := znin (i := 1084) (by decide +kernel) rfl
theorem qk_X1_21 : Cond.classLink RX1 21 "[LStoneGazette$Word;" ∈ ZALL := zin (i := 1085) (by decide +kernel) rfl
theorem qk_X1_8 : Cond.classLink RX1 8 RX1 ∈ ZALL := zin (i := 1086) (by decide +kernel) rfl
theorem qm_X1_25 : Cond.methodLink RX1 25 yX1_init  ∈ ZALL := zin (i := 1087) (by decide +kernel) rfl
theorem qm_X10_105 : Cond.methodLink RX10 105 yX10_isInKeptIssue  ∈ ZALL := zin (i := 1088) (by decide +kernel) rfl
theorem qp_X10_isInKeptIssue : Cond.privateMethod yX10_isInKeptIssue ∈ ZNW := znin (i := 1089) (by decide +kernel) rfl
theorem qi_X10_isInKeptIssue : Cond.instanceMethod yX10_isInKeptIssue ∈ ZALL := zin (i := 1090) (by decide +kernel) rfl
theorem qc_X10_isInKeptIssue : Cond.code yX10_isInKeptIssue cX10_isInKeptIssue (3 : Nat) (Option.some FieldType.boolean) ∈ ZALL := zin (i := 1091) (by decide +kernel) rfl
theorem qm_X10_82 : Cond.methodLink RX10 82 yX9_firstLineOf  ∈ ZALL := zin (i := 1092) (by decide +kernel) rfl
theorem qi_X9_firstLineOf : Cond.instanceMethod yX9_firstLineOf ∈ ZALL := zin (i := 1093) (by decide +kernel) rfl
theorem qs_X9_firstLineOf : Cond.selects RX9 yX9_firstLineOf yX9_firstLineOf ∈ ZALL := zin (i := 1094) (by decide +kernel) rfl
theorem qc_X9_firstLineOf : Cond.code yX9_firstLineOf cX9_firstLineOf (3 : Nat) (Option.some FieldType.int) ∈ ZALL := zin (i := 1095) (by decide +kernel) rfl
theorem qm_X12_156 : Cond.methodLink RX12 156 yX11_letterCount  ∈ ZALL := zin (i := 1096) (by decide +kernel) rfl
theorem qm_L_244 : Cond.methodLink RL 244 yL_articles  ∈ ZALL := zin (i := 1097) (by decide +kernel) rfl
theorem qt_L_articles : Cond.static yL_articles ∈ ZALL := zin (i := 1098) (by decide +kernel) rfl
theorem qc_L_articles : Cond.code yL_articles cL_articles (12 : Nat) (Option.some FieldType.boolean) ∈ ZALL := zin (i := 1099) (by decide +kernel) rfl
theorem qm_L_258 : Cond.methodLink RL 258 yX12_articleCount  ∈ ZALL := zin (i := 1100) (by decide +kernel) rfl
theorem qi_X12_articleCount : Cond.instanceMethod yX12_articleCount ∈ ZALL := zin (i := 1101) (by decide +kernel) rfl
theorem qs_X12_articleCount : Cond.selects RX12 yX12_articleCount yX12_articleCount ∈ ZALL := zin (i := 1102) (by decide +kernel) rfl
theorem qc_X12_articleCount : Cond.code yX12_articleCount cX12_articleCount (1 : Nat) (Option.some FieldType.int) ∈ ZALL := zin (i := 1103) (by decide +kernel) rfl
theorem qm_L_261 : Cond.methodLink RL 261 yL_articleAt  ∈ ZALL := zin (i := 1104) (by decide +kernel) rfl
theorem qt_L_articleAt : Cond.static yL_articleAt ∈ ZALL := zin (i := 1105) (by decide +kernel) rfl
theorem qc_L_articleAt : Cond.codeWith ({ cls := "StoneGazetteLaw", name := "articleAt", desc := "(LStoneGazette;I)I" } : MethodName) method_7_code (3 : Nat) (Option.some FieldType.int) [((0 : Nat), (5 : Nat), (6 : Nat), (33 : Nat))] ∈ ZALL := zin (i := 1106) (by decide +kernel) rfl
theorem qm_L_35 : Cond.methodLink RL 35 yX12_article  ∈ ZALL := zin (i := 1107) (by decide +kernel) rfl
theorem qi_X12_article : Cond.instanceMethod yX12_article ∈ ZALL := zin (i := 1108) (by decide +kernel) rfl
theorem qs_X12_article : Cond.selects RX12 yX12_article yX12_article ∈ ZALL := zin (i := 1109) (by decide +kernel) rfl
theorem qc_X12_article : Cond.code yX12_article cX12_article (2 : Nat) (Option.some FieldType.int) ∈ ZALL := zin (i := 1110) (by decide +kernel) rfl
theorem qm_X12_166 : Cond.methodLink RX12 166 yJx4a65c_get_915e3  ∈ ZALL := zin (i := 1112) (by decide +kernel) rfl
theorem qk_X12_170 : Cond.classLink RX12 170 RX1 ∈ ZALL := zin (i := 1113) (by decide +kernel) rfl
theorem qm_L_264 : Cond.methodLink RL 264 yL_wordsOf  ∈ ZALL := zin (i := 1114) (by decide +kernel) rfl
theorem qt_L_wordsOf : Cond.static yL_wordsOf ∈ ZALL := zin (i := 1115) (by decide +kernel) rfl
theorem qc_L_wordsOf : Cond.code yL_wordsOf cL_wordsOf (7 : Nat) (Option.some (FieldType.array (FieldType.object "java/lang/String"))) ∈ ZALL := zin (i := 1116) (by decide +kernel) rfl
theorem qm_L_44 : Cond.methodLink RL 44 yX12_wordCount  ∈ ZALL := zin (i := 1117) (by decide +kernel) rfl
theorem qi_X12_wordCount : Cond.instanceMethod yX12_wordCount ∈ ZALL := zin (i := 1118) (by decide +kernel) rfl
theorem qs_X12_wordCount : Cond.selects RX12 yX12_wordCount yX12_wordCount ∈ ZALL := zin (i := 1119) (by decide +kernel) rfl
theorem qc_X12_wordCount : Cond.code yX12_wordCount cX12_wordCount (2 : Nat) (Option.some FieldType.int) ∈ ZALL := zin (i := 1120) (by decide +kernel) rfl
theorem qk_L_139 : Cond.classLink RL 139 RJ0 ∈ ZALL := zin (i := 1121) (by decide +kernel) rfl
theorem qm_L_215 : Cond.methodLink RL 215 yL_writeArticle  ∈ ZALL := zin (i := 1123) (by decide +kernel) rfl
theorem qt_L_writeArticle : Cond.static yL_writeArticle ∈ ZALL := zin (i := 1124) (by decide +kernel) rfl
theorem qc_L_writeArticle : Cond.codeWith ({ cls := "StoneGazetteLaw", name := "writeArticle", desc := "(LStoneGazette;I)I" } : MethodName) method_33_code (3 : Nat) (Option.some FieldType.int) [((0 : Nat), (5 : Nat), (6 : Nat), (27 : Nat))] ∈ ZALL := zin (i := 1125) (by decide +kernel) rfl
theorem qm_L_116 : Cond.methodLink RL 116 yX12_writeArticle  ∈ ZALL := zin (i := 1126) (by decide +kernel) rfl
theorem qi_X12_writeArticle : Cond.instanceMethod yX12_writeArticle ∈ ZALL := zin (i := 1127) (by decide +kernel) rfl
theorem qs_X12_writeArticle : Cond.selects RX12 yX12_writeArticle yX12_writeArticle ∈ ZALL := zin (i := 1128) (by decide +kernel) rfl
theorem qc_X12_writeArticle : Cond.code yX12_writeArticle cX12_writeArticle (3 : Nat) (Option.some FieldType.int) ∈ ZALL := zin (i := 1129) (by decide +kernel) rfl
theorem qm_X12_229 : Cond.methodLink RX12 229 yJ4_setLength_d00df  ∈ ZALL := zin (i := 1130) (by decide +kernel) rfl
theorem qi_J4_setLength_d00df : Cond.instanceMethod yJ4_setLength_d00df ∈ ZALL := zin (i := 1131) (by decide +kernel) rfl
theorem qs_J4_setLength_d00df : Cond.selects RJ4 yJ4_setLength_d00df yJ4_setLength_d00df ∈ ZALL := zin (i := 1132) (by decide +kernel) rfl
theorem qc_J4_setLength_d00df : Cond.code yJ4_setLength_d00df cJ4_setLength_d00df (2 : Nat) (Option.none : Option Jvm.ClassFile.FieldType) ∈ ZALL := zin (i := 1133) (by decide +kernel) rfl
theorem qm_J4_333 : Cond.methodLink RJ4 333 yJ5_setLength_d00df  ∈ ZALL := zin (i := 1134) (by decide +kernel) rfl
theorem qi_J5_setLength_d00df : Cond.instanceMethod yJ5_setLength_d00df ∈ ZALL := zin (i := 1135) (by decide +kernel) rfl
theorem qc_J5_setLength_d00df : Cond.code yJ5_setLength_d00df cJ5_setLength_d00df (2 : Nat) (Option.none : Option Jvm.ClassFile.FieldType) ∈ ZALL := zin (i := 1136) (by decide +kernel) rfl
theorem qk_J5_129 : Cond.classLink RJ5 129 RJx7c733 ∈ ZALL := zin (i := 1137) (by decide +kernel) rfl
theorem qx_Jx7c733 : Cond.instantiable RJx7c733 6 ∈ ZALL := zin (i := 1138) (by decide +kernel) rfl
theorem qm_J5_131 : Cond.methodLink RJ5 131 yJx7c733_init_d00df  ∈ ZALL := zin (i := 1139) (by decide +kernel) rfl
theorem qi_Jx7c733_init_d00df : Cond.instanceMethod yJx7c733_init_d00df ∈ ZALL := zin (i := 1140) (by decide +kernel) rfl
theorem qc_Jx7c733_init_d00df : Cond.code yJx7c733_init_d00df cJx7c733_init_d00df (2 : Nat) (Option.none : Option Jvm.ClassFile.FieldType) ∈ ZALL := zin (i := 1141) (by decide +kernel) rfl
theorem qk_Jx7c733_10 : Cond.classLink RJx7c733 10 RJ4 ∈ ZALL := zin (i := 1142) (by decide +kernel) rfl
theorem qm_Jx7c733_12 : Cond.methodLink RJx7c733 12 yJ4_init_da8c8  ∈ ZALL := zin (i := 1143) (by decide +kernel) rfl
theorem qm_Jx7c733_15 : Cond.methodLink RJx7c733 15 yJ4_append_15ec4  ∈ ZALL := zin (i := 1145) (by decide +kernel) rfl
theorem qm_Jx7c733_19 : Cond.methodLink RJx7c733 19 yJ4_append_bf812  ∈ ZALL := zin (i := 1146) (by decide +kernel) rfl
theorem qm_Jx7c733_22 : Cond.methodLink RJx7c733 22 yJ4_toString_0e30d  ∈ ZALL := zin (i := 1147) (by decide +kernel) rfl
theorem qm_Jx7c733_7 : Cond.methodLink RJx7c733 7 ⟨"java/lang/IndexOutOfBoundsException", "<init>", "(Ljava/lang/String;)V"⟩  ∈ ZALL := zin (i := 1148) (by decide +kernel) rfl
theorem q_1160 : Cond.superclass "java/lang/StringIndexOutOfBoundsException" "java/lang/IndexOutOfBoundsException" ∈ ZALL := zin (i := 1155) (by decide +kernel) rfl
theorem qm_J5_133 : Cond.methodLink RJ5 133 yJ1_fillNull_b72d1  ∈ ZALL := zin (i := 1156) (by decide +kernel) rfl
theorem qt_J1_fillNull_b72d1 : Cond.static yJ1_fillNull_b72d1 ∈ ZALL := zin (i := 1157) (by decide +kernel) rfl
theorem qc_J1_fillNull_b72d1 : Cond.code yJ1_fillNull_b72d1 cJ1_fillNull_b72d1 (3 : Nat) (Option.none : Option Jvm.ClassFile.FieldType) ∈ ZALL := zin (i := 1158) (by decide +kernel) rfl
theorem qm_J1_236 : Cond.methodLink RJ1 236 yJ7_fill_eb02e  ∈ ZALL := zin (i := 1159) (by decide +kernel) rfl
theorem qt_J7_fill_eb02e : Cond.static yJ7_fill_eb02e ∈ ZALL := zin (i := 1160) (by decide +kernel) rfl
theorem qc_J7_fill_eb02e : Cond.code yJ7_fill_eb02e cJ7_fill_eb02e (5 : Nat) (Option.none : Option Jvm.ClassFile.FieldType) ∈ ZALL := zin (i := 1161) (by decide +kernel) rfl
theorem qm_J7_13 : Cond.methodLink RJ7 13 yJ7_rangeCheck_23922  ∈ ZALL := zin (i := 1162) (by decide +kernel) rfl
theorem qt_J7_rangeCheck_23922 : Cond.static yJ7_rangeCheck_23922 ∈ ZALL := zin (i := 1163) (by decide +kernel) rfl
theorem qc_J7_rangeCheck_23922 : Cond.code yJ7_rangeCheck_23922 cJ7_rangeCheck_23922 (3 : Nat) (Option.none : Option Jvm.ClassFile.FieldType) ∈ ZALL := zin (i := 1164) (by decide +kernel) rfl
theorem qk_J7_68 : Cond.classLink RJ7 68 RJx00060 ∈ ZALL := zin (i := 1168) (by decide +kernel) rfl
theorem qm_J7_70 : Cond.methodLink RJ7 70 yJx00060_init_d00df  ∈ ZALL := zin (i := 1169) (by decide +kernel) rfl
theorem qi_Jx00060_init_d00df : Cond.instanceMethod yJx00060_init_d00df ∈ ZALL := zin (i := 1170) (by decide +kernel) rfl
theorem qc_Jx00060_init_d00df : Cond.code yJx00060_init_d00df cJx00060_init_d00df (2 : Nat) (Option.none : Option Jvm.ClassFile.FieldType) ∈ ZALL := zin (i := 1171) (by decide +kernel) rfl
theorem qk_Jx00060_10 : Cond.classLink RJx00060 10 RJ4 ∈ ZALL := zin (i := 1172) (by decide +kernel) rfl
theorem qm_Jx00060_12 : Cond.methodLink RJx00060 12 yJ4_init_da8c8  ∈ ZALL := zin (i := 1173) (by decide +kernel) rfl
theorem qm_Jx00060_15 : Cond.methodLink RJx00060 15 yJ4_append_15ec4  ∈ ZALL := zin (i := 1175) (by decide +kernel) rfl
theorem qm_Jx00060_19 : Cond.methodLink RJx00060 19 yJ4_append_bf812  ∈ ZALL := zin (i := 1176) (by decide +kernel) rfl
theorem qm_Jx00060_22 : Cond.methodLink RJx00060 22 yJ4_toString_0e30d  ∈ ZALL := zin (i := 1177) (by decide +kernel) rfl
theorem qm_J5_137 : Cond.methodLink RJ5 137 yJ2_fillNull_b72d1  ∈ ZALL := zin (i := 1178) (by decide +kernel) rfl
theorem qt_J2_fillNull_b72d1 : Cond.static yJ2_fillNull_b72d1 ∈ ZALL := zin (i := 1179) (by decide +kernel) rfl
theorem qc_J2_fillNull_b72d1 : Cond.code yJ2_fillNull_b72d1 cJ2_fillNull_b72d1 (3 : Nat) (Option.none : Option Jvm.ClassFile.FieldType) ∈ ZALL := zin (i := 1180) (by decide +kernel) rfl
theorem qm_J2_380 : Cond.methodLink RJ2 380 yJ7_fill_eb02e  ∈ ZALL := zin (i := 1181) (by decide +kernel) rfl
theorem qm_X12_337 : Cond.methodLink RX12 337 yX1_writeTo  ∈ ZALL := zin (i := 1182) (by decide +kernel) rfl
theorem qi_X1_writeTo : Cond.instanceMethod yX1_writeTo ∈ ZALL := zin (i := 1183) (by decide +kernel) rfl
theorem qs_X1_writeTo : Cond.selects RX1 yX1_writeTo yX1_writeTo ∈ ZALL := zin (i := 1184) (by decide +kernel) rfl
theorem qc_X1_writeTo : Cond.code yX1_writeTo cX1_writeTo (7 : Nat) (Option.none : Option Jvm.ClassFile.FieldType) ∈ ZALL := zin (i := 1185) (by decide +kernel) rfl
theorem qm_X1_40 : Cond.methodLink RX1 40 yJ4_append_bf812  ∈ ZALL := zin (i := 1186) (by decide +kernel) rfl
theorem qm_X1_46 : Cond.methodLink RX1 46 yJ4_append_cf468  ∈ ZALL := zin (i := 1187) (by decide +kernel) rfl
theorem qm_X1_49 : Cond.methodLink RX1 49 yX11_writeTo  ∈ ZALL := zin (i := 1188) (by decide +kernel) rfl
theorem qi_X11_writeTo : Cond.instanceMethod yX11_writeTo ∈ ZALL := zin (i := 1189) (by decide +kernel) rfl
theorem qs_X11_writeTo : Cond.selects RX11 yX11_writeTo yX11_writeTo ∈ ZALL := zin (i := 1190) (by decide +kernel) rfl
theorem qc_X11_writeTo : Cond.code yX11_writeTo cX11_writeTo (6 : Nat) (Option.none : Option Jvm.ClassFile.FieldType) ∈ ZALL := zin (i := 1191) (by decide +kernel) rfl
theorem qm_X11_27 : Cond.methodLink RX11 27 yJ4_append_cf468  ∈ ZALL := zin (i := 1192) (by decide +kernel) rfl
theorem qm_X12_236 : Cond.methodLink RX12 236 yJ4_length_8abf5  ∈ ZALL := zin (i := 1193) (by decide +kernel) rfl
theorem qm_L_212 : Cond.methodLink RL 212 yL_outputAt  ∈ ZALL := zin (i := 1194) (by decide +kernel) rfl
theorem qt_L_outputAt : Cond.static yL_outputAt ∈ ZALL := zin (i := 1195) (by decide +kernel) rfl
theorem qc_L_outputAt : Cond.codeWith ({ cls := "StoneGazetteLaw", name := "outputAt", desc := "(LStoneGazette;I)I" } : MethodName) method_34_code (3 : Nat) (Option.some FieldType.int) [((0 : Nat), (5 : Nat), (6 : Nat), (33 : Nat))] ∈ ZALL := zin (i := 1196) (by decide +kernel) rfl
theorem qm_L_119 : Cond.methodLink RL 119 yX12_outputCharacter  ∈ ZALL := zin (i := 1197) (by decide +kernel) rfl
theorem qi_X12_outputCharacter : Cond.instanceMethod yX12_outputCharacter ∈ ZALL := zin (i := 1198) (by decide +kernel) rfl
theorem qs_X12_outputCharacter : Cond.selects RX12 yX12_outputCharacter yX12_outputCharacter ∈ ZALL := zin (i := 1199) (by decide +kernel) rfl
theorem qc_X12_outputCharacter : Cond.code yX12_outputCharacter cX12_outputCharacter (2 : Nat) (Option.some FieldType.char) ∈ ZALL := zin (i := 1200) (by decide +kernel) rfl
theorem qm_X12_342 : Cond.methodLink RX12 342 yJ4_charAt_5068e  ∈ ZALL := zin (i := 1202) (by decide +kernel) rfl
theorem qi_J4_charAt_5068e : Cond.instanceMethod yJ4_charAt_5068e ∈ ZALL := zin (i := 1203) (by decide +kernel) rfl
theorem qs_J4_charAt_5068e : Cond.selects RJ4 yJ4_charAt_5068e yJ4_charAt_5068e ∈ ZALL := zin (i := 1204) (by decide +kernel) rfl
theorem qc_J4_charAt_5068e : Cond.code yJ4_charAt_5068e cJ4_charAt_5068e (2 : Nat) (Option.some FieldType.char) ∈ ZALL := zin (i := 1205) (by decide +kernel) rfl
theorem qm_J4_329 : Cond.methodLink RJ4 329 yJ5_charAt_5068e  ∈ ZALL := zin (i := 1206) (by decide +kernel) rfl
theorem qi_J5_charAt_5068e : Cond.instanceMethod yJ5_charAt_5068e ∈ ZALL := zin (i := 1207) (by decide +kernel) rfl
theorem qc_J5_charAt_5068e : Cond.code yJ5_charAt_5068e cJ5_charAt_5068e (5 : Nat) (Option.some FieldType.char) ∈ ZALL := zin (i := 1208) (by decide +kernel) rfl
theorem qm_J5_138 : Cond.methodLink RJ5 138 yJ9_min_7cf53  ∈ ZALL := zin (i := 1209) (by decide +kernel) rfl
theorem qm_J5_144 : Cond.methodLink RJ5 144 yJ0_checkIndex_df160  ∈ ZALL := zin (i := 1210) (by decide +kernel) rfl
theorem qm_J5_148 : Cond.methodLink RJ5 148 yJ2_getChar_3b067  ∈ ZALL := zin (i := 1211) (by decide +kernel) rfl
theorem qm_L_268 : Cond.methodLink RL 268 yJ4_append_bf812  ∈ ZALL := zin (i := 1212) (by decide +kernel) rfl
theorem qm_L_41 : Cond.methodLink RL 41 yX12_priority  ∈ ZALL := zin (i := 1214) (by decide +kernel) rfl
theorem qi_X12_priority : Cond.instanceMethod yX12_priority ∈ ZALL := zin (i := 1215) (by decide +kernel) rfl
theorem qs_X12_priority : Cond.selects RX12 yX12_priority yX12_priority ∈ ZALL := zin (i := 1216) (by decide +kernel) rfl
theorem qc_X12_priority : Cond.code yX12_priority cX12_priority (2 : Nat) (Option.some FieldType.int) ∈ ZALL := zin (i := 1217) (by decide +kernel) rfl
theorem qm_L_226 : Cond.methodLink RL 226 yL_divides  ∈ ZALL := zin (i := 1219) (by decide +kernel) rfl
theorem qt_L_divides : Cond.static yL_divides ∈ ZALL := zin (i := 1220) (by decide +kernel) rfl
theorem qc_L_divides : Cond.code yL_divides cL_divides (2 : Nat) (Option.some FieldType.boolean) ∈ ZALL := zin (i := 1221) (by decide +kernel) rfl
theorem qm_L_222 : Cond.methodLink RL 222 yL_isVowel  ∈ ZALL := zin (i := 1222) (by decide +kernel) rfl
theorem qt_L_isVowel : Cond.static yL_isVowel ∈ ZALL := zin (i := 1223) (by decide +kernel) rfl
theorem qc_L_isVowel : Cond.code yL_isVowel cL_isVowel (1 : Nat) (Option.some FieldType.boolean) ∈ ZALL := zin (i := 1224) (by decide +kernel) rfl
theorem qm_L_219 : Cond.methodLink RL 219 yJ0_indexOf_0f7a4  ∈ ZALL := zin (i := 1226) (by decide +kernel) rfl
theorem qi_J0_indexOf_0f7a4 : Cond.instanceMethod yJ0_indexOf_0f7a4 ∈ ZALL := zin (i := 1227) (by decide +kernel) rfl
theorem qs_J0_indexOf_0f7a4 : Cond.selects RJ0 yJ0_indexOf_0f7a4 yJ0_indexOf_0f7a4 ∈ ZALL := zin (i := 1228) (by decide +kernel) rfl
theorem qc_J0_indexOf_0f7a4 : Cond.code yJ0_indexOf_0f7a4 cJ0_indexOf_0f7a4 (2 : Nat) (Option.some FieldType.int) ∈ ZALL := zin (i := 1229) (by decide +kernel) rfl
theorem qm_J0_633 : Cond.methodLink RJ0 633 yJ0_indexOf_7cf53  ∈ ZALL := zin (i := 1230) (by decide +kernel) rfl
theorem qi_J0_indexOf_7cf53 : Cond.instanceMethod yJ0_indexOf_7cf53 ∈ ZALL := zin (i := 1231) (by decide +kernel) rfl
theorem qs_J0_indexOf_7cf53 : Cond.selects RJ0 yJ0_indexOf_7cf53 yJ0_indexOf_7cf53 ∈ ZALL := zin (i := 1232) (by decide +kernel) rfl
theorem qc_J0_indexOf_7cf53 : Cond.code yJ0_indexOf_7cf53 cJ0_indexOf_7cf53 (3 : Nat) (Option.some FieldType.int) ∈ ZALL := zin (i := 1233) (by decide +kernel) rfl
theorem qm_J0_505 : Cond.methodLink RJ0 505 yJ0_length_8abf5  ∈ ZALL := zin (i := 1234) (by decide +kernel) rfl
theorem qm_J0_637 : Cond.methodLink RJ0 637 yJ1_indexOf_4cfef  ∈ ZALL := zin (i := 1235) (by decide +kernel) rfl
theorem qt_J1_indexOf_4cfef : Cond.static yJ1_indexOf_4cfef ∈ ZALL := zin (i := 1236) (by decide +kernel) rfl
theorem qc_J1_indexOf_4cfef : Cond.code yJ1_indexOf_4cfef cJ1_indexOf_4cfef (4 : Nat) (Option.some FieldType.int) ∈ ZALL := zin (i := 1237) (by decide +kernel) rfl
theorem qm_J1_88 : Cond.methodLink RJ1 88 yJ1_canEncode_9a6ad  ∈ ZALL := zin (i := 1238) (by decide +kernel) rfl
theorem qt_J1_canEncode_9a6ad : Cond.static yJ1_canEncode_9a6ad ∈ ZALL := zin (i := 1239) (by decide +kernel) rfl
theorem qc_J1_canEncode_9a6ad : Cond.code yJ1_canEncode_9a6ad cJ1_canEncode_9a6ad (1 : Nat) (Option.some FieldType.boolean) ∈ ZALL := zin (i := 1240) (by decide +kernel) rfl
theorem qm_J1_92 : Cond.methodLink RJ1 92 yJ9_max_7cf53  ∈ ZALL := zin (i := 1241) (by decide +kernel) rfl
theorem qm_J1_38 : Cond.methodLink RJ1 38 yJ9_min_7cf53  ∈ ZALL := zin (i := 1242) (by decide +kernel) rfl
theorem qm_J1_95 : Cond.methodLink RJ1 95 yJ1_indexOfChar_4cfef  ∈ ZALL := zin (i := 1243) (by decide +kernel) rfl
theorem qt_J1_indexOfChar_4cfef : Cond.static yJ1_indexOfChar_4cfef ∈ ZALL := zin (i := 1244) (by decide +kernel) rfl
theorem qc_J1_indexOfChar_4cfef : Cond.code yJ1_indexOfChar_4cfef cJ1_indexOfChar_4cfef (6 : Nat) (Option.some FieldType.int) ∈ ZALL := zin (i := 1245) (by decide +kernel) rfl
theorem qm_J0_640 : Cond.methodLink RJ0 640 yJ2_indexOf_4cfef  ∈ ZALL := zin (i := 1246) (by decide +kernel) rfl
theorem qt_J2_indexOf_4cfef : Cond.static yJ2_indexOf_4cfef ∈ ZALL := zin (i := 1247) (by decide +kernel) rfl
theorem qc_J2_indexOf_4cfef : Cond.code yJ2_indexOf_4cfef cJ2_indexOf_4cfef (4 : Nat) (Option.some FieldType.int) ∈ ZALL := zin (i := 1248) (by decide +kernel) rfl
theorem qm_J2_224 : Cond.methodLink RJ2 224 yJ9_max_7cf53  ∈ ZALL := zin (i := 1249) (by decide +kernel) rfl
theorem qm_J2_183 : Cond.methodLink RJ2 183 yJ9_min_7cf53  ∈ ZALL := zin (i := 1250) (by decide +kernel) rfl
theorem qz_1251 : Cond.constant "java/lang/StringUTF16" (227 : Nat) (65536 : Int32) ∈ ZALL := zin (i := 1251) (by decide +kernel) rfl
theorem qm_J2_228 : Cond.methodLink RJ2 228 yJ2_indexOfChar_4cfef  ∈ ZALL := zin (i := 1252) (by decide +kernel) rfl
theorem qt_J2_indexOfChar_4cfef : Cond.static yJ2_indexOfChar_4cfef ∈ ZALL := zin (i := 1253) (by decide +kernel) rfl
theorem qc_J2_indexOfChar_4cfef : Cond.code yJ2_indexOfChar_4cfef cJ2_indexOfChar_4cfef (4 : Nat) (Option.some FieldType.int) ∈ ZALL := zin (i := 1254) (by decide +kernel) rfl
theorem qm_J2_244 : Cond.methodLink RJ2 244 yJ2_indexOfCharUnsafe_4cfef  ∈ ZALL := zin (i := 1255) (by decide +kernel) rfl
theorem qt_J2_indexOfCharUnsafe_4cfef : Cond.static yJ2_indexOfCharUnsafe_4cfef ∈ ZALL := zin (i := 1256) (by decide +kernel) rfl
theorem qc_J2_indexOfCharUnsafe_4cfef : Cond.code yJ2_indexOfCharUnsafe_4cfef cJ2_indexOfCharUnsafe_4cfef (5 : Nat) (Option.some FieldType.int) ∈ ZALL := zin (i := 1257) (by decide +kernel) rfl
theorem qm_J2_232 : Cond.methodLink RJ2 232 yJ2_indexOfSupplementary_4cfef  ∈ ZALL := zin (i := 1258) (by decide +kernel) rfl
theorem qt_J2_indexOfSupplementary_4cfef : Cond.static yJ2_indexOfSupplementary_4cfef ∈ ZALL := zin (i := 1259) (by decide +kernel) rfl
theorem qc_J2_indexOfSupplementary_4cfef : Cond.code yJ2_indexOfSupplementary_4cfef cJ2_indexOfSupplementary_4cfef (7 : Nat) (Option.some FieldType.int) ∈ ZALL := zin (i := 1260) (by decide +kernel) rfl
theorem qm_J2_164 : Cond.methodLink RJ2 164 yJ11_isValidCodePoint_9a6ad  ∈ ZALL := zin (i := 1261) (by decide +kernel) rfl
theorem qt_J11_isValidCodePoint_9a6ad : Cond.static yJ11_isValidCodePoint_9a6ad ∈ ZALL := zin (i := 1262) (by decide +kernel) rfl
theorem qc_J11_isValidCodePoint_9a6ad : Cond.code yJ11_isValidCodePoint_9a6ad cJ11_isValidCodePoint_9a6ad (2 : Nat) (Option.some FieldType.boolean) ∈ ZALL := zin (i := 1263) (by decide +kernel) rfl
theorem qm_J2_157 : Cond.methodLink RJ2 157 yJ11_highSurrogate_5068e  ∈ ZALL := zin (i := 1264) (by decide +kernel) rfl
theorem qt_J11_highSurrogate_5068e : Cond.static yJ11_highSurrogate_5068e ∈ ZALL := zin (i := 1265) (by decide +kernel) rfl
theorem qc_J11_highSurrogate_5068e : Cond.code yJ11_highSurrogate_5068e cJ11_highSurrogate_5068e (1 : Nat) (Option.some FieldType.char) ∈ ZALL := zin (i := 1266) (by decide +kernel) rfl
theorem qz_1267 : Cond.constant "java/lang/Character" (110 : Nat) (55232 : Int32) ∈ ZALL := zin (i := 1267) (by decide +kernel) rfl
theorem qm_J2_161 : Cond.methodLink RJ2 161 yJ11_lowSurrogate_5068e  ∈ ZALL := zin (i := 1268) (by decide +kernel) rfl
theorem qt_J11_lowSurrogate_5068e : Cond.static yJ11_lowSurrogate_5068e ∈ ZALL := zin (i := 1269) (by decide +kernel) rfl
theorem qc_J11_lowSurrogate_5068e : Cond.code yJ11_lowSurrogate_5068e cJ11_lowSurrogate_5068e (1 : Nat) (Option.some FieldType.char) ∈ ZALL := zin (i := 1270) (by decide +kernel) rfl
theorem qz_1271 : Cond.constant "java/lang/Character" (76 : Nat) (56320 : Int32) ∈ ZALL := zin (i := 1271) (by decide +kernel) rfl
theorem qm_L_275 : Cond.methodLink RL 275 yL_canDivide  ∈ ZALL := zin (i := 1272) (by decide +kernel) rfl
theorem qt_L_canDivide : Cond.static yL_canDivide ∈ ZALL := zin (i := 1273) (by decide +kernel) rfl
theorem qc_L_canDivide : Cond.codeWith ({ cls := "StoneGazetteLaw", name := "canDivide", desc := "(LStoneGazette;III)I" } : MethodName) method_13_code (5 : Nat) (Option.some FieldType.int) [((0 : Nat), (15 : Nat), (16 : Nat), (27 : Nat)), ((0 : Nat), (15 : Nat), (21 : Nat), (33 : Nat))] ∈ ZALL := zin (i := 1274) (by decide +kernel) rfl
theorem qm_L_53 : Cond.methodLink RL 53 yX12_canDivide  ∈ ZALL := zin (i := 1275) (by decide +kernel) rfl
theorem qi_X12_canDivide : Cond.instanceMethod yX12_canDivide ∈ ZALL := zin (i := 1276) (by decide +kernel) rfl
theorem qs_X12_canDivide : Cond.selects RX12 yX12_canDivide yX12_canDivide ∈ ZALL := zin (i := 1277) (by decide +kernel) rfl
theorem qc_X12_canDivide : Cond.code yX12_canDivide cX12_canDivide (4 : Nat) (Option.some FieldType.boolean) ∈ ZALL := zin (i := 1278) (by decide +kernel) rfl
theorem qm_X12_194 : Cond.methodLink RX12 194 yX11_hasCutAt  ∈ ZALL := zin (i := 1279) (by decide +kernel) rfl
theorem qm_L_278 : Cond.methodLink RL 278 yL_wordLength  ∈ ZALL := zin (i := 1280) (by decide +kernel) rfl
theorem qt_L_wordLength : Cond.static yL_wordLength ∈ ZALL := zin (i := 1281) (by decide +kernel) rfl
theorem qc_L_wordLength : Cond.codeWith ({ cls := "StoneGazetteLaw", name := "wordLength", desc := "(LStoneGazette;II)I" } : MethodName) method_11_code (4 : Nat) (Option.some FieldType.int) [((0 : Nat), (6 : Nat), (7 : Nat), (27 : Nat)), ((0 : Nat), (6 : Nat), (11 : Nat), (33 : Nat))] ∈ ZALL := zin (i := 1282) (by decide +kernel) rfl
theorem qm_L_47 : Cond.methodLink RL 47 yX12_wordLength  ∈ ZALL := zin (i := 1283) (by decide +kernel) rfl
theorem qi_X12_wordLength : Cond.instanceMethod yX12_wordLength ∈ ZALL := zin (i := 1284) (by decide +kernel) rfl
theorem qs_X12_wordLength : Cond.selects RX12 yX12_wordLength yX12_wordLength ∈ ZALL := zin (i := 1285) (by decide +kernel) rfl
theorem qc_X12_wordLength : Cond.code yX12_wordLength cX12_wordLength (3 : Nat) (Option.some FieldType.int) ∈ ZALL := zin (i := 1286) (by decide +kernel) rfl
theorem qm_L_280 : Cond.methodLink RL 280 yL_divisions  ∈ ZALL := zin (i := 1287) (by decide +kernel) rfl
theorem qt_L_divisions : Cond.static yL_divisions ∈ ZALL := zin (i := 1288) (by decide +kernel) rfl
theorem qc_L_divisions : Cond.codeWith ({ cls := "StoneGazetteLaw", name := "divisions", desc := "(LStoneGazette;II)I" } : MethodName) method_12_code (4 : Nat) (Option.some FieldType.int) [((0 : Nat), (6 : Nat), (7 : Nat), (27 : Nat)), ((0 : Nat), (6 : Nat), (11 : Nat), (33 : Nat))] ∈ ZALL := zin (i := 1289) (by decide +kernel) rfl
theorem qm_L_50 : Cond.methodLink RL 50 yX12_divisions  ∈ ZALL := zin (i := 1290) (by decide +kernel) rfl
theorem qi_X12_divisions : Cond.instanceMethod yX12_divisions ∈ ZALL := zin (i := 1291) (by decide +kernel) rfl
theorem qs_X12_divisions : Cond.selects RX12 yX12_divisions yX12_divisions ∈ ZALL := zin (i := 1292) (by decide +kernel) rfl
theorem qc_X12_divisions : Cond.code yX12_divisions cX12_divisions (3 : Nat) (Option.some FieldType.int) ∈ ZALL := zin (i := 1293) (by decide +kernel) rfl
theorem qm_X12_191 : Cond.methodLink RX12 191 yX11_countCuts  ∈ ZALL := zin (i := 1294) (by decide +kernel) rfl
theorem qi_X11_countCuts : Cond.instanceMethod yX11_countCuts ∈ ZALL := zin (i := 1295) (by decide +kernel) rfl
theorem qs_X11_countCuts : Cond.selects RX11 yX11_countCuts yX11_countCuts ∈ ZALL := zin (i := 1296) (by decide +kernel) rfl
theorem qc_X11_countCuts : Cond.code yX11_countCuts cX11_countCuts (6 : Nat) (Option.some FieldType.int) ∈ ZALL := zin (i := 1297) (by decide +kernel) rfl
theorem qm_L_282 : Cond.methodLink RL 282 yL_byPriority  ∈ ZALL := zin (i := 1298) (by decide +kernel) rfl
