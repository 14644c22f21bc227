theorem qm_L_34 : Cond.methodLink RL 34 yX12_article  ∈ ZALL := zin (i := 821) (by decide +kernel) rfl
theorem qi_X12_article : Cond.instanceMethod yX12_article ∈ ZALL := zin (i := 822) (by decide +kernel) rfl
theorem qs_X12_article : Cond.selects RX12 yX12_article yX12_article ∈ ZALL := zin (i := 823) (by decide +kernel) rfl
theorem qc_X12_article : Cond.code yX12_article cX12_article (2 : Nat) (Option.some FieldType.int) ∈ ZALL := zin (i := 824) (by decide +kernel) rfl
theorem qm_L_192 : Cond.methodLink RL 192 yL_articleByPriority  ∈ ZALL := zin (i := 826) (by decide +kernel) rfl
theorem qt_L_articleByPriority : Cond.static yL_articleByPriority ∈ ZALL := zin (i := 827) (by decide +kernel) rfl
theorem qc_L_articleByPriority : Cond.codeWith ({ cls := "StoneGazetteLaw", name := "articleByPriority", desc := "(LStoneGazette;I[J)I" } : MethodName) method_8_code (4 : Nat) (Option.some FieldType.int) [((0 : Nat), (9 : Nat), (12 : Nat), (32 : Nat))] ∈ ZALL := zin (i := 828) (by decide +kernel) rfl
theorem qm_L_37 : Cond.methodLink RL 37 yX12_articleByPriority  ∈ ZALL := zin (i := 829) (by decide +kernel) rfl
theorem qi_X12_articleByPriority : Cond.instanceMethod yX12_articleByPriority ∈ ZALL := zin (i := 830) (by decide +kernel) rfl
theorem qs_X12_articleByPriority : Cond.selects RX12 yX12_articleByPriority yX12_articleByPriority ∈ ZALL := zin (i := 831) (by decide +kernel) rfl
theorem qc_X12_articleByPriority : Cond.code yX12_articleByPriority cX12_articleByPriority (3 : Nat) (Option.some FieldType.int) ∈ ZALL := zin (i := 832) (by decide +kernel) rfl
theorem qm_X12_175 : Cond.methodLink RX12 175 yX10_ranked  ∈ ZALL := zin (i := 833) (by decide +kernel) rfl
theorem qi_X10_ranked : Cond.instanceMethod yX10_ranked ∈ ZALL := zin (i := 834) (by decide +kernel) rfl
theorem qs_X10_ranked : Cond.selects RX10 yX10_ranked yX10_ranked ∈ ZALL := zin (i := 835) (by decide +kernel) rfl
theorem qc_X10_ranked : Cond.code yX10_ranked cX10_ranked (4 : Nat) (Option.some (FieldType.object "StoneGazette$Article")) ∈ ZALL := zin (i := 836) (by decide +kernel) rfl
theorem qm_X10_70 : Cond.methodLink RX10 70 yX10_countBefore  ∈ ZALL := zin (i := 837) (by decide +kernel) rfl
theorem qp_X10_countBefore : Cond.privateMethod yX10_countBefore ∈ ZNW := znin (i := 838) (by decide +kernel) rfl
theorem qi_X10_countBefore : Cond.instanceMethod yX10_countBefore ∈ ZALL := zin (i := 839) (by decide +kernel) rfl
theorem qc_X10_countBefore : Cond.code yX10_countBefore cX10_countBefore (4 : Nat) (Option.some FieldType.int) ∈ ZALL := zin (i := 840) (by decide +kernel) rfl
theorem qm_X10_74 : Cond.methodLink RX10 74 yX1_comesBefore  ∈ ZALL := zin (i := 841) (by decide +kernel) rfl
theorem qi_X1_comesBefore : Cond.instanceMethod yX1_comesBefore ∈ ZALL := zin (i := 842) (by decide +kernel) rfl
theorem qs_X1_comesBefore : Cond.selects RX1 yX1_comesBefore yX1_comesBefore ∈ ZALL := zin (i := 843) (by decide +kernel) rfl
theorem qc_X1_comesBefore : Cond.code yX1_comesBefore cX1_comesBefore (2 : Nat) (Option.some FieldType.boolean) ∈ ZALL := zin (i := 844) (by decide +kernel) rfl
theorem qm_L_195 : Cond.methodLink RL 195 yL_priority  ∈ ZALL := zin (i := 846) (by decide +kernel) rfl
theorem qt_L_priority : Cond.static yL_priority ∈ ZALL := zin (i := 847) (by decide +kernel) rfl
theorem qc_L_priority : Cond.codeWith ({ cls := "StoneGazetteLaw", name := "priority", desc := "(LStoneGazette;I[J)I" } : MethodName) method_9_code (4 : Nat) (Option.some FieldType.int) [((0 : Nat), (9 : Nat), (12 : Nat), (26 : Nat))] ∈ ZALL := zin (i := 848) (by decide +kernel) rfl
theorem qm_L_40 : Cond.methodLink RL 40 yX12_priority  ∈ ZALL := zin (i := 849) (by decide +kernel) rfl
theorem qi_X12_priority : Cond.instanceMethod yX12_priority ∈ ZALL := zin (i := 850) (by decide +kernel) rfl
theorem qs_X12_priority : Cond.selects RX12 yX12_priority yX12_priority ∈ ZALL := zin (i := 851) (by decide +kernel) rfl
theorem qc_X12_priority : Cond.code yX12_priority cX12_priority (2 : Nat) (Option.some FieldType.int) ∈ ZALL := zin (i := 852) (by decide +kernel) rfl
theorem qm_L_198 : Cond.methodLink RL 198 yL_wordCount  ∈ ZALL := zin (i := 853) (by decide +kernel) rfl
theorem qt_L_wordCount : Cond.static yL_wordCount ∈ ZALL := zin (i := 854) (by decide +kernel) rfl
theorem qc_L_wordCount : Cond.codeWith ({ cls := "StoneGazetteLaw", name := "wordCount", desc := "(LStoneGazette;I[J)I" } : MethodName) method_10_code (4 : Nat) (Option.some FieldType.int) [((0 : Nat), (9 : Nat), (12 : Nat), (26 : Nat))] ∈ ZALL := zin (i := 855) (by decide +kernel) rfl
theorem qm_L_43 : Cond.methodLink RL 43 yX12_wordCount  ∈ ZALL := zin (i := 856) (by decide +kernel) rfl
theorem qi_X12_wordCount : Cond.instanceMethod yX12_wordCount ∈ ZALL := zin (i := 857) (by decide +kernel) rfl
theorem qs_X12_wordCount : Cond.selects RX12 yX12_wordCount yX12_wordCount ∈ ZALL := zin (i := 858) (by decide +kernel) rfl
theorem qc_X12_wordCount : Cond.code yX12_wordCount cX12_wordCount (2 : Nat) (Option.some FieldType.int) ∈ ZALL := zin (i := 859) (by decide +kernel) rfl
theorem qm_L_201 : Cond.methodLink RL 201 yL_wordLength  ∈ ZALL := zin (i := 860) (by decide +kernel) rfl
theorem qt_L_wordLength : Cond.static yL_wordLength ∈ ZALL := zin (i := 861) (by decide +kernel) rfl
theorem qc_L_wordLength : Cond.codeWith ({ cls := "StoneGazetteLaw", name := "wordLength", desc := "(LStoneGazette;II[J)I" } : MethodName) method_11_code (5 : Nat) (Option.some FieldType.int) [((0 : Nat), (10 : Nat), (13 : Nat), (26 : Nat)), ((0 : Nat), (10 : Nat), (17 : Nat), (32 : Nat))] ∈ ZALL := zin (i := 862) (by decide +kernel) rfl
theorem qm_L_46 : Cond.methodLink RL 46 yX12_wordLength  ∈ ZALL := zin (i := 863) (by decide +kernel) rfl
theorem qi_X12_wordLength : Cond.instanceMethod yX12_wordLength ∈ ZALL := zin (i := 864) (by decide +kernel) rfl
theorem qs_X12_wordLength : Cond.selects RX12 yX12_wordLength yX12_wordLength ∈ ZALL := zin (i := 865) (by decide +kernel) rfl
theorem qc_X12_wordLength : Cond.code yX12_wordLength cX12_wordLength (3 : Nat) (Option.some FieldType.int) ∈ ZALL := zin (i := 866) (by decide +kernel) rfl
theorem qm_L_204 : Cond.methodLink RL 204 yL_divisions  ∈ ZALL := zin (i := 867) (by decide +kernel) rfl
theorem qt_L_divisions : Cond.static yL_divisions ∈ ZALL := zin (i := 868) (by decide +kernel) rfl
theorem qc_L_divisions : Cond.codeWith ({ cls := "StoneGazetteLaw", name := "divisions", desc := "(LStoneGazette;II[J)I" } : MethodName) method_12_code (5 : Nat) (Option.some FieldType.int) [((0 : Nat), (10 : Nat), (13 : Nat), (26 : Nat)), ((0 : Nat), (10 : Nat), (17 : Nat), (32 : Nat))] ∈ ZALL := zin (i := 869) (by decide +kernel) rfl
theorem qm_L_49 : Cond.methodLink RL 49 yX12_divisions  ∈ ZALL := zin (i := 870) (by decide +kernel) rfl
theorem qi_X12_divisions : Cond.instanceMethod yX12_divisions ∈ ZALL := zin (i := 871) (by decide +kernel) rfl
theorem qs_X12_divisions : Cond.selects RX12 yX12_divisions yX12_divisions ∈ ZALL := zin (i := 872) (by decide +kernel) rfl
theorem qc_X12_divisions : Cond.code yX12_divisions cX12_divisions (3 : Nat) (Option.some FieldType.int) ∈ ZALL := zin (i := 873) (by decide +kernel) rfl
theorem qm_X12_191 : Cond.methodLink RX12 191 yX11_countCuts  ∈ ZALL := zin (i := 874) (by decide +kernel) rfl
theorem qi_X11_countCuts : Cond.instanceMethod yX11_countCuts ∈ ZALL := zin (i := 875) (by decide +kernel) rfl
theorem qs_X11_countCuts : Cond.selects RX11 yX11_countCuts yX11_countCuts ∈ ZALL := zin (i := 876) (by decide +kernel) rfl
theorem qc_X11_countCuts : Cond.code yX11_countCuts cX11_countCuts (6 : Nat) (Option.some FieldType.int) ∈ ZALL := zin (i := 877) (by decide +kernel) rfl
theorem qm_L_207 : Cond.methodLink RL 207 yL_canDivide  ∈ ZALL := zin (i := 878) (by decide +kernel) rfl
theorem qt_L_canDivide : Cond.static yL_canDivide ∈ ZALL := zin (i := 879) (by decide +kernel) rfl
theorem qc_L_canDivide : Cond.codeWith ({ cls := "StoneGazetteLaw", name := "canDivide", desc := "(LStoneGazette;III[J)I" } : MethodName) method_13_code (6 : Nat) (Option.some FieldType.int) [((0 : Nat), (19 : Nat), (22 : Nat), (26 : Nat)), ((0 : Nat), (19 : Nat), (26 : Nat), (32 : Nat))] ∈ ZALL := zin (i := 880) (by decide +kernel) rfl
theorem qm_L_52 : Cond.methodLink RL 52 yX12_canDivide  ∈ ZALL := zin (i := 881) (by decide +kernel) rfl
theorem qi_X12_canDivide : Cond.instanceMethod yX12_canDivide ∈ ZALL := zin (i := 882) (by decide +kernel) rfl
theorem qs_X12_canDivide : Cond.selects RX12 yX12_canDivide yX12_canDivide ∈ ZALL := zin (i := 883) (by decide +kernel) rfl
theorem qc_X12_canDivide : Cond.code yX12_canDivide cX12_canDivide (4 : Nat) (Option.some FieldType.boolean) ∈ ZALL := zin (i := 884) (by decide +kernel) rfl
theorem qm_X12_194 : Cond.methodLink RX12 194 yX11_hasCutAt  ∈ ZALL := zin (i := 885) (by decide +kernel) rfl
theorem qm_L_215 : Cond.methodLink RL 215 yL_setWidth  ∈ ZALL := zin (i := 886) (by decide +kernel) rfl
theorem qt_L_setWidth : Cond.static yL_setWidth ∈ ZALL := zin (i := 887) (by decide +kernel) rfl
theorem qc_L_setWidth : Cond.codeWith ({ cls := "StoneGazetteLaw", name := "setWidth", desc := "(LStoneGazette;I[J)I" } : MethodName) method_14_code (4 : Nat) (Option.some FieldType.int) [((0 : Nat), (9 : Nat), (12 : Nat), (13 : Nat))] ∈ ZALL := zin (i := 888) (by decide +kernel) rfl
theorem qm_L_56 : Cond.methodLink RL 56 yX12_setWidth  ∈ ZALL := zin (i := 889) (by decide +kernel) rfl
theorem qi_X12_setWidth : Cond.instanceMethod yX12_setWidth ∈ ZALL := zin (i := 890) (by decide +kernel) rfl
theorem qs_X12_setWidth : Cond.selects RX12 yX12_setWidth yX12_setWidth ∈ ZALL := zin (i := 891) (by decide +kernel) rfl
theorem qc_X12_setWidth : Cond.code yX12_setWidth cX12_setWidth (4 : Nat) (Option.some FieldType.int) ∈ ZALL := zin (i := 892) (by decide +kernel) rfl
theorem qm_X12_200 : Cond.methodLink RX12 200 yX10_takeWidth  ∈ ZALL := zin (i := 893) (by decide +kernel) rfl
theorem qi_X10_takeWidth : Cond.instanceMethod yX10_takeWidth ∈ ZALL := zin (i := 894) (by decide +kernel) rfl
theorem qs_X10_takeWidth : Cond.selects RX10 yX10_takeWidth yX10_takeWidth ∈ ZALL := zin (i := 895) (by decide +kernel) rfl
theorem qc_X10_takeWidth : Cond.code yX10_takeWidth cX10_takeWidth (2 : Nat) (Option.some FieldType.boolean) ∈ ZALL := zin (i := 896) (by decide +kernel) rfl
theorem qm_L_222 : Cond.methodLink RL 222 yL_canBeSet  ∈ ZALL := zin (i := 898) (by decide +kernel) rfl
theorem qt_L_canBeSet : Cond.static yL_canBeSet ∈ ZALL := zin (i := 899) (by decide +kernel) rfl
theorem qc_L_canBeSet : Cond.codeWith ({ cls := "StoneGazetteLaw", name := "canBeSet", desc := "(LStoneGazette;I[J)I" } : MethodName) method_15_code (4 : Nat) (Option.some FieldType.int) [((0 : Nat), (16 : Nat), (19 : Nat), (26 : Nat))] ∈ ZALL := zin (i := 900) (by decide +kernel) rfl
theorem qm_L_59 : Cond.methodLink RL 59 yX12_canBeSet  ∈ ZALL := zin (i := 901) (by decide +kernel) rfl
theorem qi_X12_canBeSet : Cond.instanceMethod yX12_canBeSet ∈ ZALL := zin (i := 902) (by decide +kernel) rfl
theorem qs_X12_canBeSet : Cond.selects RX12 yX12_canBeSet yX12_canBeSet ∈ ZALL := zin (i := 903) (by decide +kernel) rfl
theorem qc_X12_canBeSet : Cond.code yX12_canBeSet cX12_canBeSet (2 : Nat) (Option.some FieldType.boolean) ∈ ZALL := zin (i := 904) (by decide +kernel) rfl
theorem qm_L_225 : Cond.methodLink RL 225 yL_lineCount  ∈ ZALL := zin (i := 905) (by decide +kernel) rfl
theorem qt_L_lineCount : Cond.static yL_lineCount ∈ ZALL := zin (i := 906) (by decide +kernel) rfl
theorem qc_L_lineCount : Cond.codeWith ({ cls := "StoneGazetteLaw", name := "lineCount", desc := "(LStoneGazette;I[J)I" } : MethodName) method_16_code (4 : Nat) (Option.some FieldType.int) [((0 : Nat), (9 : Nat), (12 : Nat), (26 : Nat)), ((0 : Nat), (9 : Nat), (15 : Nat), (21 : Nat))] ∈ ZALL := zin (i := 907) (by decide +kernel) rfl
theorem qm_L_63 : Cond.methodLink RL 63 yX12_lineCount  ∈ ZALL := zin (i := 908) (by decide +kernel) rfl
theorem qi_X12_lineCount : Cond.instanceMethod yX12_lineCount ∈ ZALL := zin (i := 909) (by decide +kernel) rfl
theorem qs_X12_lineCount : Cond.selects RX12 yX12_lineCount yX12_lineCount ∈ ZALL := zin (i := 910) (by decide +kernel) rfl
theorem qc_X12_lineCount : Cond.code yX12_lineCount cX12_lineCount (2 : Nat) (Option.some FieldType.int) ∈ ZALL := zin (i := 911) (by decide +kernel) rfl
theorem qm_X12_212 : Cond.methodLink RX12 212 yX12_arrangeKnown  ∈ ZALL := zin (i := 912) (by decide +kernel) rfl
theorem qp_X12_arrangeKnown : Cond.privateMethod yX12_arrangeKnown ∈ ZNW := znin (i := 913) (by decide +kernel) rfl
theorem qi_X12_arrangeKnown : Cond.instanceMethod yX12_arrangeKnown ∈ ZALL := zin (i := 914) (by decide +kernel) rfl
theorem qc_X12_arrangeKnown : Cond.code yX12_arrangeKnown cX12_arrangeKnown (2 : Nat) (Option.none : Option Jvm.ClassFile.FieldType) ∈ ZALL := zin (i := 915) (by decide +kernel) rfl
theorem qm_L_228 : Cond.methodLink RL 228 yL_lineLength  ∈ ZALL := zin (i := 917) (by decide +kernel) rfl
theorem qt_L_lineLength : Cond.static yL_lineLength ∈ ZALL := zin (i := 918) (by decide +kernel) rfl
theorem qc_L_lineLength : Cond.codeWith ({ cls := "StoneGazetteLaw", name := "lineLength", desc := "(LStoneGazette;II[J)I" } : MethodName) method_17_code (5 : Nat) (Option.some FieldType.int) [((0 : Nat), (10 : Nat), (13 : Nat), (26 : Nat)), ((0 : Nat), (10 : Nat), (17 : Nat), (21 : Nat)), ((0 : Nat), (10 : Nat), (21 : Nat), (32 : Nat))] ∈ ZALL := zin (i := 919) (by decide +kernel) rfl
theorem qm_L_66 : Cond.methodLink RL 66 yX12_lineLength  ∈ ZALL := zin (i := 920) (by decide +kernel) rfl
theorem qi_X12_lineLength : Cond.instanceMethod yX12_lineLength ∈ ZALL := zin (i := 921) (by decide +kernel) rfl
theorem qs_X12_lineLength : Cond.selects RX12 yX12_lineLength yX12_lineLength ∈ ZALL := zin (i := 922) (by decide +kernel) rfl
theorem qc_X12_lineLength : Cond.code yX12_lineLength cX12_lineLength (3 : Nat) (Option.some FieldType.int) ∈ ZALL := zin (i := 923) (by decide +kernel) rfl
theorem qm_X12_218 : Cond.methodLink RX12 218 yX12_arrangeKnownLine  ∈ ZALL := zin (i := 924) (by decide +kernel) rfl
theorem qp_X12_arrangeKnownLine : Cond.privateMethod yX12_arrangeKnownLine ∈ ZNW := znin (i := 925) (by decide +kernel) rfl
theorem qi_X12_arrangeKnownLine : Cond.instanceMethod yX12_arrangeKnownLine ∈ ZALL := zin (i := 926) (by decide +kernel) rfl
theorem qc_X12_arrangeKnownLine : Cond.code yX12_arrangeKnownLine cX12_arrangeKnownLine (3 : Nat) (Option.none : Option Jvm.ClassFile.FieldType) ∈ ZALL := zin (i := 927) (by decide +kernel) rfl
theorem qm_L_231 : Cond.methodLink RL 231 yL_hyphenCount  ∈ ZALL := zin (i := 929) (by decide +kernel) rfl
theorem qt_L_hyphenCount : Cond.static yL_hyphenCount ∈ ZALL := zin (i := 930) (by decide +kernel) rfl
theorem qc_L_hyphenCount : Cond.codeWith ({ cls := "StoneGazetteLaw", name := "hyphenCount", desc := "(LStoneGazette;I[J)I" } : MethodName) method_18_code (4 : Nat) (Option.some FieldType.int) [((0 : Nat), (9 : Nat), (12 : Nat), (26 : Nat)), ((0 : Nat), (9 : Nat), (15 : Nat), (21 : Nat))] ∈ ZALL := zin (i := 931) (by decide +kernel) rfl
theorem qm_L_69 : Cond.methodLink RL 69 yX12_hyphenCount  ∈ ZALL := zin (i := 932) (by decide +kernel) rfl
theorem qi_X12_hyphenCount : Cond.instanceMethod yX12_hyphenCount ∈ ZALL := zin (i := 933) (by decide +kernel) rfl
theorem qs_X12_hyphenCount : Cond.selects RX12 yX12_hyphenCount yX12_hyphenCount ∈ ZALL := zin (i := 934) (by decide +kernel) rfl
theorem qc_X12_hyphenCount : Cond.code yX12_hyphenCount cX12_hyphenCount (2 : Nat) (Option.some FieldType.int) ∈ ZALL := zin (i := 935) (by decide +kernel) rfl
theorem qm_X12_226 : Cond.methodLink RX12 226 yX8_countHyphens  ∈ ZALL := zin (i := 936) (by decide +kernel) rfl
theorem qi_X8_countHyphens : Cond.instanceMethod yX8_countHyphens ∈ ZALL := zin (i := 937) (by decide +kernel) rfl
theorem qs_X8_countHyphens : Cond.selects RX8 yX8_countHyphens yX8_countHyphens ∈ ZALL := zin (i := 938) (by decide +kernel) rfl
theorem qc_X8_countHyphens : Cond.code yX8_countHyphens cX8_countHyphens (4 : Nat) (Option.some FieldType.int) ∈ ZALL := zin (i := 939) (by decide +kernel) rfl
theorem qm_L_234 : Cond.methodLink RL 234 yL_writeLine  ∈ ZALL := zin (i := 940) (by decide +kernel) rfl
theorem qt_L_writeLine : Cond.static yL_writeLine ∈ ZALL := zin (i := 941) (by decide +kernel) rfl
theorem qc_L_writeLine : Cond.codeWith ({ cls := "StoneGazetteLaw", name := "writeLine", desc := "(LStoneGazette;II[J)I" } : MethodName) method_19_code (5 : Nat) (Option.some FieldType.int) [((0 : Nat), (10 : Nat), (13 : Nat), (26 : Nat)), ((0 : Nat), (10 : Nat), (17 : Nat), (21 : Nat)), ((0 : Nat), (10 : Nat), (21 : Nat), (32 : Nat))] ∈ ZALL := zin (i := 942) (by decide +kernel) rfl
theorem qm_L_72 : Cond.methodLink RL 72 yX12_writeLine  ∈ ZALL := zin (i := 943) (by decide +kernel) rfl
theorem qi_X12_writeLine : Cond.instanceMethod yX12_writeLine ∈ ZALL := zin (i := 944) (by decide +kernel) rfl
theorem qs_X12_writeLine : Cond.selects RX12 yX12_writeLine yX12_writeLine ∈ ZALL := zin (i := 945) (by decide +kernel) rfl
theorem qc_X12_writeLine : Cond.code yX12_writeLine cX12_writeLine (3 : Nat) (Option.some FieldType.int) ∈ ZALL := zin (i := 946) (by decide +kernel) rfl
theorem qm_X12_229 : Cond.methodLink RX12 229 yJ4_setLength_d00df  ∈ ZALL := zin (i := 947) (by decide +kernel) rfl
theorem qi_J4_setLength_d00df : Cond.instanceMethod yJ4_setLength_d00df ∈ ZALL := zin (i := 948) (by decide +kernel) rfl
theorem qs_J4_setLength_d00df : Cond.selects RJ4 yJ4_setLength_d00df yJ4_setLength_d00df ∈ ZALL := zin (i := 949) (by decide +kernel) rfl
theorem qc_J4_setLength_d00df : Cond.code yJ4_setLength_d00df cJ4_setLength_d00df (2 : Nat) (Option.none : Option Jvm.ClassFile.FieldType) ∈ ZALL := zin (i := 950) (by decide +kernel) rfl
theorem qm_J4_333 : Cond.methodLink RJ4 333 yJ5_setLength_d00df  ∈ ZALL := zin (i := 951) (by decide +kernel) rfl
theorem qi_J5_setLength_d00df : Cond.instanceMethod yJ5_setLength_d00df ∈ ZALL := zin (i := 952) (by decide +kernel) rfl
theorem qc_J5_setLength_d00df : Cond.code yJ5_setLength_d00df cJ5_setLength_d00df (2 : Nat) (Option.none : Option Jvm.ClassFile.FieldType) ∈ ZALL := zin (i := 953) (by decide +kernel) rfl
theorem qk_J5_129 : Cond.classLink RJ5 129 RJx7c733 ∈ ZALL := zin (i := 954) (by decide +kernel) rfl
theorem qx_Jx7c733 : Cond.instantiable RJx7c733 6 ∈ ZALL := zin (i := 955) (by decide +kernel) rfl
theorem qm_J5_131 : Cond.methodLink RJ5 131 yJx7c733_init_d00df  ∈ ZALL := zin (i := 956) (by decide +kernel) rfl
theorem qi_Jx7c733_init_d00df : Cond.instanceMethod yJx7c733_init_d00df ∈ ZALL := zin (i := 957) (by decide +kernel) rfl
theorem qc_Jx7c733_init_d00df : Cond.code yJx7c733_init_d00df cJx7c733_init_d00df (2 : Nat) (Option.none : Option Jvm.ClassFile.FieldType) ∈ ZALL := zin (i := 958) (by decide +kernel) rfl
theorem qk_Jx7c733_10 : Cond.classLink RJx7c733 10 RJ4 ∈ ZALL := zin (i := 959) (by decide +kernel) rfl
theorem qm_Jx7c733_12 : Cond.methodLink RJx7c733 12 yJ4_init_da8c8  ∈ ZALL := zin (i := 960) (by decide +kernel) rfl
theorem qm_Jx7c733_15 : Cond.methodLink RJx7c733 15 yJ4_append_15ec4  ∈ ZALL := zin (i := 962) (by decide +kernel) rfl
theorem qi_J4_append_15ec4 : Cond.instanceMethod yJ4_append_15ec4 ∈ ZALL := zin (i := 963) (by decide +kernel) rfl
theorem qs_J4_append_15ec4 : Cond.selects RJ4 yJ4_append_15ec4 yJ4_append_15ec4 ∈ ZALL := zin (i := 964) (by decide +kernel) rfl
theorem qc_J4_append_15ec4 : Cond.code yJ4_append_15ec4 cJ4_append_15ec4 (2 : Nat) (Option.some (FieldType.object "java/lang/StringBuilder")) ∈ ZALL := zin (i := 965) (by decide +kernel) rfl
theorem qm_J4_29 : Cond.methodLink RJ4 29 yJ5_append_cf1ce  ∈ ZALL := zin (i := 966) (by decide +kernel) rfl
theorem qi_J5_append_cf1ce : Cond.instanceMethod yJ5_append_cf1ce ∈ ZALL := zin (i := 967) (by decide +kernel) rfl
theorem qc_J5_append_cf1ce : Cond.code yJ5_append_cf1ce cJ5_append_cf1ce (3 : Nat) (Option.some (FieldType.object "java/lang/AbstractStringBuilder")) ∈ ZALL := zin (i := 968) (by decide +kernel) rfl
theorem qm_J5_204 : Cond.methodLink RJ5 204 yJ5_appendNull_278bc  ∈ ZALL := zin (i := 969) (by decide +kernel) rfl
theorem qp_J5_appendNull_278bc : Cond.privateMethod yJ5_appendNull_278bc ∈ ZNW := znin (i := 970) (by decide +kernel) rfl
theorem qi_J5_appendNull_278bc : Cond.instanceMethod yJ5_appendNull_278bc ∈ ZALL := zin (i := 971) (by decide +kernel) rfl
theorem qc_J5_appendNull_278bc : Cond.code yJ5_appendNull_278bc cJ5_appendNull_278bc (3 : Nat) (Option.some (FieldType.object "java/lang/AbstractStringBuilder")) ∈ ZALL := zin (i := 972) (by decide +kernel) rfl
theorem qm_J5_100 : Cond.methodLink RJ5 100 yJ5_ensureCapacityInternal_d00df  ∈ ZALL := zin (i := 973) (by decide +kernel) rfl
theorem qp_J5_ensureCapacityInternal_d00df : Cond.privateMethod yJ5_ensureCapacityInternal_d00df ∈ ZNW := znin (i := 974) (by decide +kernel) rfl
theorem qi_J5_ensureCapacityInternal_d00df : Cond.instanceMethod yJ5_ensureCapacityInternal_d00df ∈ ZALL := zin (i := 975) (by decide +kernel) rfl
theorem qc_J5_ensureCapacityInternal_d00df : Cond.code yJ5_ensureCapacityInternal_d00df cJ5_ensureCapacityInternal_d00df (3 : Nat) (Option.none : Option Jvm.ClassFile.FieldType) ∈ ZALL := zin (i := 976) (by decide +kernel) rfl
theorem qm_J5_104 : Cond.methodLink RJ5 104 yJ5_newCapacity_0f7a4  ∈ ZALL := zin (i := 977) (by decide +kernel) rfl
theorem qp_J5_newCapacity_0f7a4 : Cond.privateMethod yJ5_newCapacity_0f7a4 ∈ ZNW := znin (i := 978) (by decide +kernel) rfl
theorem qi_J5_newCapacity_0f7a4 : Cond.instanceMethod yJ5_newCapacity_0f7a4 ∈ ZALL := zin (i := 979) (by decide +kernel) rfl
theorem qc_J5_newCapacity_0f7a4 : Cond.code yJ5_newCapacity_0f7a4 cJ5_newCapacity_0f7a4 (6 : Nat) (Option.some FieldType.int) ∈ ZALL := zin (i := 980) (by decide +kernel) rfl
theorem qm_J5_114 : Cond.methodLink RJ5 114 yJ8_newLength_cabcc  ∈ ZALL := zin (i := 981) (by decide +kernel) rfl
theorem q_982 : Cond.constant "java/lang/AbstractStringBuilder" (39 : Nat) (2147483647 : Int32) ∈ ZALL := zin (i := 982) (by decide +kernel) rfl
theorem qm_J5_108 : Cond.methodLink RJ5 108 yJ7_copyOf_9075b  ∈ ZALL := zin (i := 983) (by decide +kernel) rfl
theorem qt_J7_copyOf_9075b : Cond.static yJ7_copyOf_9075b ∈ ZALL := zin (i := 984) (by decide +kernel) rfl
theorem qc_J7_copyOf_9075b : Cond.code yJ7_copyOf_9075b cJ7_copyOf_9075b (3 : Nat) (Option.some (FieldType.array FieldType.byte)) ∈ ZALL := zin (i := 985) (by decide +kernel) rfl
theorem qm_J7_310 : Cond.methodLink RJ7 310 ⟨"[B", "clone", "()Ljava/lang/Object;"⟩  ∈ ZALL := zin (i := 986) (by decide +kernel) rfl
theorem q_987 : Cond.sameMethod "[B" "java/lang/Object" "clone" "()Ljava/lang/Object;" ∈ ZALL := zin (i := 987) (by decide +kernel) rfl
theorem qs_java_lang_Object_clone_0502b__B : Cond.selects "[B" ⟨"[B", "clone", "()Ljava/lang/Object;"⟩ ⟨"java/lang/Object", "clone", "()Ljava/lang/Object;"⟩ ∈ ZALL := zin (i := 988) (by decide +kernel) rfl
theorem q_989 : Cond.castable "[B" "java/lang/Cloneable" ∈ ZNW := znin (i := 989) (by decide +kernel) rfl
theorem qk_J7_311 : Cond.classLink RJ7 311 "[B" ∈ ZALL := zin (i := 990) (by decide +kernel) rfl
theorem qm_J5_83 : Cond.methodLink RJ5 83 yJ5_isLatin1_aae02  ∈ ZALL := zin (i := 991) (by decide +kernel) rfl
theorem qi_J5_isLatin1_aae02 : Cond.instanceMethod yJ5_isLatin1_aae02 ∈ ZALL := zin (i := 992) (by decide +kernel) rfl
theorem q_993 : Cond.sameMethod "java/lang/AbstractStringBuilder" "java/lang/AbstractStringBuilder" "isLatin1" "()Z" ∈ ZALL := zin (i := 993) (by decide +kernel) rfl
theorem qs_J5_isLatin1_aae02_J4 : Cond.selects RJ4 yJ5_isLatin1_aae02 yJ5_isLatin1_aae02 ∈ ZALL := zin (i := 994) (by decide +kernel) rfl
theorem qc_J5_isLatin1_aae02 : Cond.code yJ5_isLatin1_aae02 cJ5_isLatin1_aae02 (1 : Nat) (Option.some FieldType.boolean) ∈ ZALL := zin (i := 995) (by decide +kernel) rfl
theorem qm_J5_226 : Cond.methodLink RJ5 226 yJ2_putCharsAt_cd4e5  ∈ ZALL := zin (i := 996) (by decide +kernel) rfl
theorem qt_J2_putCharsAt_cd4e5 : Cond.static yJ2_putCharsAt_cd4e5 ∈ ZALL := zin (i := 997) (by decide +kernel) rfl
theorem qc_J2_putCharsAt_cd4e5 : Cond.code yJ2_putCharsAt_cd4e5 cJ2_putCharsAt_cd4e5 (7 : Nat) (Option.some FieldType.int) ∈ ZALL := zin (i := 998) (by decide +kernel) rfl
theorem qm_J2_96 : Cond.methodLink RJ2 96 yJ2_checkBoundsBeginEnd_d044e  ∈ ZALL := zin (i := 999) (by decide +kernel) rfl
theorem qt_J2_checkBoundsBeginEnd_d044e : Cond.static yJ2_checkBoundsBeginEnd_d044e ∈ ZALL := zin (i := 1000) (by decide +kernel) rfl
theorem qc_J2_checkBoundsBeginEnd_d044e : Cond.code yJ2_checkBoundsBeginEnd_d044e cJ2_checkBoundsBeginEnd_d044e (3 : Nat) (Option.none : Option Jvm.ClassFile.FieldType) ∈ ZALL := zin (i := 1001) (by decide +kernel) rfl
theorem qm_J2_48 : Cond.methodLink RJ2 48 yJ2_length_9d52b  ∈ ZALL := zin (i := 1002) (by decide +kernel) rfl
theorem qt_J2_length_9d52b : Cond.static yJ2_length_9d52b ∈ ZALL := zin (i := 1003) (by decide +kernel) rfl
theorem qc_J2_length_9d52b : Cond.code yJ2_length_9d52b cJ2_length_9d52b (1 : Nat) (Option.some FieldType.int) ∈ ZALL := zin (i := 1004) (by decide +kernel) rfl
theorem qm_J2_241 : Cond.methodLink RJ2 241 yJ0_checkBoundsBeginEnd_23922  ∈ ZALL := zin (i := 1005) (by decide +kernel) rfl
theorem qt_J0_checkBoundsBeginEnd_23922 : Cond.static yJ0_checkBoundsBeginEnd_23922 ∈ ZALL := zin (i := 1006) (by decide +kernel) rfl
theorem qc_J0_checkBoundsBeginEnd_23922 : Cond.code yJ0_checkBoundsBeginEnd_23922 cJ0_checkBoundsBeginEnd_23922 (3 : Nat) (Option.none : Option Jvm.ClassFile.FieldType) ∈ ZALL := zin (i := 1007) (by decide +kernel) rfl
theorem ql_J0_1053 : Cond.fieldLink RJ0 1053 "jdk/internal/util/Preconditions" "SIOOBE_FORMATTER" "Ljava/util/function/BiFunction;" ∈ ZALL := zin (i := 1008) (by decide +kernel) rfl
theorem qm_J0_1062 : Cond.methodLink RJ0 1062 yJ3_checkFromToIndex_8c36e  ∈ ZALL := zin (i := 1010) (by decide +kernel) rfl
theorem qt_J3_checkFromToIndex_8c36e : Cond.static yJ3_checkFromToIndex_8c36e ∈ ZALL := zin (i := 1011) (by decide +kernel) rfl
theorem qc_J3_checkFromToIndex_8c36e : Cond.code yJ3_checkFromToIndex_8c36e cJ3_checkFromToIndex_8c36e (4 : Nat) (Option.some FieldType.int) ∈ ZALL := zin (i := 1012) (by decide +kernel) rfl
theorem qm_J2_111 : Cond.methodLink RJ2 111 yJ2_putChar_b72d1  ∈ ZALL := zin (i := 1013) (by decide +kernel) rfl
theorem qt_J2_putChar_b72d1 : Cond.static yJ2_putChar_b72d1 ∈ ZALL := zin (i := 1014) (by decide +kernel) rfl
theorem qc_J2_putChar_b72d1 : Cond.code yJ2_putChar_b72d1 cJ2_putChar_b72d1 (3 : Nat) (Option.none : Option Jvm.ClassFile.FieldType) ∈ ZALL := zin (i := 1015) (by decide +kernel) rfl
theorem ql_J2_44 : Cond.fieldLink RJ2 44 "java/lang/StringUTF16" "$assertionsDisabled" "Z" ∈ ZALL := zin (i := 1016) (by decide +kernel) rfl
theorem ql_J2_59 : Cond.fieldLink RJ2 59 "java/lang/StringUTF16" "HI_BYTE_SHIFT" "I" ∈ ZALL := zin (i := 1018) (by decide +kernel) rfl
theorem ql_J2_63 : Cond.fieldLink RJ2 63 "java/lang/StringUTF16" "LO_BYTE_SHIFT" "I" ∈ ZALL := zin (i := 1020) (by decide +kernel) rfl
theorem qm_J5_32 : Cond.methodLink RJ5 32 yJ0_length_8abf5  ∈ ZALL := zin (i := 1022) (by decide +kernel) rfl
theorem qi_J0_length_8abf5 : Cond.instanceMethod yJ0_length_8abf5 ∈ ZALL := zin (i := 1023) (by decide +kernel) rfl
theorem qs_J0_length_8abf5 : Cond.selects RJ0 yJ0_length_8abf5 yJ0_length_8abf5 ∈ ZALL := zin (i := 1024) (by decide +kernel) rfl
theorem qc_J0_length_8abf5 : Cond.code yJ0_length_8abf5 cJ0_length_8abf5 (1 : Nat) (Option.some FieldType.int) ∈ ZALL := zin (i := 1025) (by decide +kernel) rfl
theorem qm_J0_335 : Cond.methodLink RJ0 335 yJ0_coder_7d493  ∈ ZALL := zin (i := 1026) (by decide +kernel) rfl
theorem qi_J0_coder_7d493 : Cond.instanceMethod yJ0_coder_7d493 ∈ ZALL := zin (i := 1027) (by decide +kernel) rfl
theorem qs_J0_coder_7d493 : Cond.selects RJ0 yJ0_coder_7d493 yJ0_coder_7d493 ∈ ZALL := zin (i := 1028) (by decide +kernel) rfl
theorem qc_J0_coder_7d493 : Cond.code yJ0_coder_7d493 cJ0_coder_7d493 (1 : Nat) (Option.some FieldType.byte) ∈ ZALL := zin (i := 1029) (by decide +kernel) rfl
theorem ql_J0_38 : Cond.fieldLink RJ0 38 "java/lang/String" "COMPACT_STRINGS" "Z" ∈ ZALL := zin (i := 1030) (by decide +kernel) rfl
theorem qm_J5_208 : Cond.methodLink RJ5 208 yJ5_putStringAt_47b60  ∈ ZALL := zin (i := 1031) (by decide +kernel) rfl
theorem qp_J5_putStringAt_47b60 : Cond.privateMethod yJ5_putStringAt_47b60 ∈ ZNW := znin (i := 1032) (by decide +kernel) rfl
theorem qi_J5_putStringAt_47b60 : Cond.instanceMethod yJ5_putStringAt_47b60 ∈ ZALL := zin (i := 1033) (by decide +kernel) rfl
theorem qc_J5_putStringAt_47b60 : Cond.code yJ5_putStringAt_47b60 cJ5_putStringAt_47b60 (3 : Nat) (Option.none : Option Jvm.ClassFile.FieldType) ∈ ZALL := zin (i := 1034) (by decide +kernel) rfl
theorem qm_J5_397 : Cond.methodLink RJ5 397 yJ5_inflateIfNeededFor_a7421  ∈ ZALL := zin (i := 1035) (by decide +kernel) rfl
theorem qp_J5_inflateIfNeededFor_a7421 : Cond.privateMethod yJ5_inflateIfNeededFor_a7421 ∈ ZNW := znin (i := 1036) (by decide +kernel) rfl
theorem qi_J5_inflateIfNeededFor_a7421 : Cond.instanceMethod yJ5_inflateIfNeededFor_a7421 ∈ ZALL := zin (i := 1037) (by decide +kernel) rfl
theorem qc_J5_inflateIfNeededFor_a7421 : Cond.code yJ5_inflateIfNeededFor_a7421 cJ5_inflateIfNeededFor_a7421 (2 : Nat) (Option.none : Option Jvm.ClassFile.FieldType) ∈ ZALL := zin (i := 1038) (by decide +kernel) rfl
theorem qm_J5_40 : Cond.methodLink RJ5 40 yJ0_coder_7d493  ∈ ZALL := zin (i := 1039) (by decide +kernel) rfl
theorem qm_J5_195 : Cond.methodLink RJ5 195 yJ5_inflate_da8c8  ∈ ZALL := zin (i := 1040) (by decide +kernel) rfl
theorem qp_J5_inflate_da8c8 : Cond.privateMethod yJ5_inflate_da8c8 ∈ ZNW := znin (i := 1041) (by decide +kernel) rfl
theorem qi_J5_inflate_da8c8 : Cond.instanceMethod yJ5_inflate_da8c8 ∈ ZALL := zin (i := 1042) (by decide +kernel) rfl
theorem qc_J5_inflate_da8c8 : Cond.code yJ5_inflate_da8c8 cJ5_inflate_da8c8 (2 : Nat) (Option.none : Option Jvm.ClassFile.FieldType) ∈ ZALL := zin (i := 1043) (by decide +kernel) rfl
theorem qm_J5_125 : Cond.methodLink RJ5 125 yJ1_inflate_0e8fd  ∈ ZALL := zin (i := 1044) (by decide +kernel) rfl
theorem qt_J1_inflate_0e8fd : Cond.static yJ1_inflate_0e8fd ∈ ZALL := zin (i := 1045) (by decide +kernel) rfl
theorem qc_J1_inflate_0e8fd : Cond.code yJ1_inflate_0e8fd cJ1_inflate_0e8fd (5 : Nat) (Option.none : Option Jvm.ClassFile.FieldType) ∈ ZALL := zin (i := 1046) (by decide +kernel) rfl
theorem qm_J1_240 : Cond.methodLink RJ1 240 yJ2_inflate_0e8fd  ∈ ZALL := zin (i := 1047) (by decide +kernel) rfl
theorem qt_J2_inflate_0e8fd : Cond.static yJ2_inflate_0e8fd ∈ ZALL := zin (i := 1048) (by decide +kernel) rfl
theorem qc_J2_inflate_0e8fd : Cond.code yJ2_inflate_0e8fd cJ2_inflate_0e8fd (6 : Nat) (Option.none : Option Jvm.ClassFile.FieldType) ∈ ZALL := zin (i := 1049) (by decide +kernel) rfl
theorem qm_J2_173 : Cond.methodLink RJ2 173 yJ2_checkBoundsOffCount_d044e  ∈ ZALL := zin (i := 1050) (by decide +kernel) rfl
theorem qt_J2_checkBoundsOffCount_d044e : Cond.static yJ2_checkBoundsOffCount_d044e ∈ ZALL := zin (i := 1051) (by decide +kernel) rfl
theorem qc_J2_checkBoundsOffCount_d044e : Cond.code yJ2_checkBoundsOffCount_d044e cJ2_checkBoundsOffCount_d044e (3 : Nat) (Option.none : Option Jvm.ClassFile.FieldType) ∈ ZALL := zin (i := 1052) (by decide +kernel) rfl
theorem qm_J2_419 : Cond.methodLink RJ2 419 yJ0_checkBoundsOffCount_cabcc  ∈ ZALL := zin (i := 1053) (by decide +kernel) rfl
theorem qt_J0_checkBoundsOffCount_cabcc : Cond.static yJ0_checkBoundsOffCount_cabcc ∈ ZALL := zin (i := 1054) (by decide +kernel) rfl
theorem qc_J0_checkBoundsOffCount_cabcc : Cond.code yJ0_checkBoundsOffCount_cabcc cJ0_checkBoundsOffCount_cabcc (3 : Nat) (Option.some FieldType.int) ∈ ZALL := zin (i := 1055) (by decide +kernel) rfl
theorem qm_J0_1065 : Cond.methodLink RJ0 1065 yJ3_checkFromIndexSize_8c36e  ∈ ZALL := zin (i := 1056) (by decide +kernel) rfl
theorem qt_J3_checkFromIndexSize_8c36e : Cond.static yJ3_checkFromIndexSize_8c36e ∈ ZALL := zin (i := 1057) (by decide +kernel) rfl
theorem qc_J3_checkFromIndexSize_8c36e : Cond.code yJ3_checkFromIndexSize_8c36e cJ3_checkFromIndexSize_8c36e (4 : Nat) (Option.some FieldType.int) ∈ ZALL := zin (i := 1058) (by decide +kernel) rfl
theorem qm_J5_399 : Cond.methodLink RJ5 399 yJ0_getBytes_840e7  ∈ ZALL := zin (i := 1059) (by decide +kernel) rfl
theorem qi_J0_getBytes_840e7 : Cond.instanceMethod yJ0_getBytes_840e7 ∈ ZALL := zin (i := 1060) (by decide +kernel) rfl
theorem qs_J0_getBytes_840e7 : Cond.selects RJ0 yJ0_getBytes_840e7 yJ0_getBytes_840e7 ∈ ZALL := zin (i := 1061) (by decide +kernel) rfl
theorem qc_J0_getBytes_840e7 : Cond.code yJ0_getBytes_840e7 cJ0_getBytes_840e7 (4 : Nat) (Option.none : Option Jvm.ClassFile.FieldType) ∈ ZALL := zin (i := 1062) (by decide +kernel) rfl
theorem qm_J0_212 : Cond.methodLink RJ0 212 ⟨"java/lang/System", "arraycopy", "(Ljava/lang/Object;ILjava/lang/Object;II)V"⟩  ∈ ZALL := zin (i := 1063) (by decide +kernel) rfl
theorem qm_J0_106 : Cond.methodLink RJ0 106 yJ1_inflate_0e8fd  ∈ ZALL := zin (i := 1064) (by decide +kernel) rfl
theorem qm_Jx7c733_19 : Cond.methodLink RJx7c733 19 yJ4_append_bf812  ∈ ZALL := zin (i := 1065) (by decide +kernel) rfl
theorem qi_J4_append_bf812 : Cond.instanceMethod yJ4_append_bf812 ∈ ZALL := zin (i := 1066) (by decide +kernel) rfl
theorem qs_J4_append_bf812 : Cond.selects RJ4 yJ4_append_bf812 yJ4_append_bf812 ∈ ZALL := zin (i := 1067) (by decide +kernel) rfl
theorem qc_J4_append_bf812 : Cond.code yJ4_append_bf812 cJ4_append_bf812 (2 : Nat) (Option.some (FieldType.object "java/lang/StringBuilder")) ∈ ZALL := zin (i := 1068) (by decide +kernel) rfl
theorem qm_J4_53 : Cond.methodLink RJ4 53 yJ5_append_c97b9  ∈ ZALL := zin (i := 1069) (by decide +kernel) rfl
theorem qi_J5_append_c97b9 : Cond.instanceMethod yJ5_append_c97b9 ∈ ZALL := zin (i := 1070) (by decide +kernel) rfl
theorem qc_J5_append_c97b9 : Cond.code yJ5_append_c97b9 cJ5_append_c97b9 (4 : Nat) (Option.some (FieldType.object "java/lang/AbstractStringBuilder")) ∈ ZALL := zin (i := 1071) (by decide +kernel) rfl
theorem qm_J5_245 : Cond.methodLink RJ5 245 yJ6_stringSize_0f7a4  ∈ ZALL := zin (i := 1072) (by decide +kernel) rfl
theorem qt_J6_stringSize_0f7a4 : Cond.static yJ6_stringSize_0f7a4 ∈ ZALL := zin (i := 1073) (by decide +kernel) rfl
theorem qc_J6_stringSize_0f7a4 : Cond.code yJ6_stringSize_0f7a4 cJ6_stringSize_0f7a4 (4 : Nat) (Option.some FieldType.int) ∈ ZALL := zin (i := 1074) (by decide +kernel) rfl
theorem qm_J5_248 : Cond.methodLink RJ5 248 yJ6_getChars_ba4f3  ∈ ZALL := zin (i := 1075) (by decide +kernel) rfl
theorem qt_J6_getChars_ba4f3 : Cond.static yJ6_getChars_ba4f3 ∈ ZALL := zin (i := 1076) (by decide +kernel) rfl
theorem qc_J6_getChars_ba4f3 : Cond.code yJ6_getChars_ba4f3 cJ6_getChars_ba4f3 (7 : Nat) (Option.some FieldType.int) ∈ ZALL := zin (i := 1077) (by decide +kernel) rfl
theorem ql_J6_83 : Cond.fieldLink RJ6 83 "java/lang/Integer" "DigitOnes" "[B" ∈ ZALL := zin (i := 1078) (by decide +kernel) rfl
theorem ql_J6_87 : Cond.fieldLink RJ6 87 "java/lang/Integer" "DigitTens" "[B" ∈ ZALL := zin (i := 1080) (by decide +kernel) rfl
theorem qm_J5_251 : Cond.methodLink RJ5 251 yJ2_getChars_46870  ∈ ZALL := zin (i := 1082) (by decide +kernel) rfl
theorem qt_J2_getChars_46870 : Cond.static yJ2_getChars_46870 ∈ ZALL := zin (i := 1083) (by decide +kernel) rfl
theorem qc_J2_getChars_46870 : Cond.code yJ2_getChars_46870 cJ2_getChars_46870 (5 : Nat) (Option.some FieldType.int) ∈ ZALL := zin (i := 1084) (by decide +kernel) rfl
theorem qm_J2_393 : Cond.methodLink RJ2 393 yJ2_getChars_ba4f3  ∈ ZALL := zin (i := 1085) (by decide +kernel) rfl
theorem qt_J2_getChars_ba4f3 : Cond.static yJ2_getChars_ba4f3 ∈ ZALL := zin (i := 1086) (by decide +kernel) rfl
theorem qc_J2_getChars_ba4f3 : Cond.code yJ2_getChars_ba4f3 cJ2_getChars_ba4f3 (7 : Nat) (Option.some FieldType.int) ∈ ZALL := zin (i := 1087) (by decide +kernel) rfl
theorem ql_J2_403 : Cond.fieldLink RJ2 403 "java/lang/Integer" "DigitOnes" "[B" ∈ ZALL := zin (i := 1088) (by decide +kernel) rfl
theorem ql_J2_407 : Cond.fieldLink RJ2 407 "java/lang/Integer" "DigitTens" "[B" ∈ ZALL := zin (i := 1089) (by decide +kernel) rfl
theorem qm_Jx7c733_22 : Cond.methodLink RJx7c733 22 yJ4_toString_0e30d  ∈ ZALL := zin (i := 1090) (by decide +kernel) rfl
theorem qi_J4_toString_0e30d : Cond.instanceMethod yJ4_toString_0e30d ∈ ZALL := zin (i := 1091) (by decide +kernel) rfl
theorem qs_J4_toString_0e30d : Cond.selects RJ4 yJ4_toString_0e30d yJ4_toString_0e30d ∈ ZALL := zin (i := 1092) (by decide +kernel) rfl
theorem qc_J4_toString_0e30d : Cond.code yJ4_toString_0e30d cJ4_toString_0e30d (1 : Nat) (Option.some (FieldType.object "java/lang/String")) ∈ ZALL := zin (i := 1093) (by decide +kernel) rfl
theorem qk_J4_18 : Cond.classLink RJ4 18 RJ0 ∈ ZALL := zin (i := 1094) (by decide +kernel) rfl
theorem qm_J4_137 : Cond.methodLink RJ4 137 yJ0_init_81219  ∈ ZALL := zin (i := 1095) (by decide +kernel) rfl
theorem qi_J0_init_81219 : Cond.instanceMethod yJ0_init_81219 ∈ ZALL := zin (i := 1096) (by decide +kernel) rfl
theorem qc_J0_init_81219 : Cond.code yJ0_init_81219 cJ0_init_81219 (2 : Nat) (Option.none : Option Jvm.ClassFile.FieldType) ∈ ZALL := zin (i := 1097) (by decide +kernel) rfl
theorem qm_J0_489 : Cond.methodLink RJ0 489 yJ0_init_db425  ∈ ZALL := zin (i := 1098) (by decide +kernel) rfl
theorem qi_J0_init_db425 : Cond.instanceMethod yJ0_init_db425 ∈ ZALL := zin (i := 1099) (by decide +kernel) rfl
theorem qc_J0_init_db425 : Cond.code yJ0_init_db425 cJ0_init_db425 (5 : Nat) (Option.none : Option Jvm.ClassFile.FieldType) ∈ ZALL := zin (i := 1100) (by decide +kernel) rfl
theorem qm_J0_1 : Cond.methodLink RJ0 1 ⟨"java/lang/Object", "<init>", "()V"⟩  ∈ ZALL := zin (i := 1101) (by decide +kernel) rfl
theorem qm_J0_552 : Cond.methodLink RJ0 552 yJ5_getValue_6d5f1  ∈ ZALL := zin (i := 1102) (by decide +kernel) rfl
theorem qi_J5_getValue_6d5f1 : Cond.instanceMethod yJ5_getValue_6d5f1 ∈ ZALL := zin (i := 1103) (by decide +kernel) rfl
theorem q_1104 : Cond.sameMethod "java/lang/AbstractStringBuilder" "java/lang/AbstractStringBuilder" "getValue" "()[B" ∈ ZALL := zin (i := 1104) (by decide +kernel) rfl
theorem qs_J5_getValue_6d5f1_J4 : Cond.selects RJ4 yJ5_getValue_6d5f1 yJ5_getValue_6d5f1 ∈ ZALL := zin (i := 1105) (by decide +kernel) rfl
theorem qc_J5_getValue_6d5f1 : Cond.code yJ5_getValue_6d5f1 cJ5_getValue_6d5f1 (1 : Nat) (Option.some (FieldType.array FieldType.byte)) ∈ ZALL := zin (i := 1106) (by decide +kernel) rfl
theorem qm_J0_549 : Cond.methodLink RJ0 549 yJ5_length_8abf5  ∈ ZALL := zin (i := 1107) (by decide +kernel) rfl
theorem qi_J5_length_8abf5 : Cond.instanceMethod yJ5_length_8abf5 ∈ ZALL := zin (i := 1108) (by decide +kernel) rfl
theorem q_1109 : Cond.sameMethod "java/lang/AbstractStringBuilder" "java/lang/AbstractStringBuilder" "length" "()I" ∈ ZALL := zin (i := 1109) (by decide +kernel) rfl
theorem qs_J4_length_8abf5_J4 : Cond.selects RJ4 yJ5_length_8abf5 yJ4_length_8abf5 ∈ ZALL := zin (i := 1110) (by decide +kernel) rfl
theorem qi_J4_length_8abf5 : Cond.instanceMethod yJ4_length_8abf5 ∈ ZALL := zin (i := 1111) (by decide +kernel) rfl
theorem qc_J4_length_8abf5 : Cond.code yJ4_length_8abf5 cJ4_length_8abf5 (1 : Nat) (Option.some FieldType.int) ∈ ZALL := zin (i := 1112) (by decide +kernel) rfl
theorem qm_J4_343 : Cond.methodLink RJ4 343 yJ5_length_8abf5  ∈ ZALL := zin (i := 1113) (by decide +kernel) rfl
theorem qc_J5_length_8abf5 : Cond.code yJ5_length_8abf5 cJ5_length_8abf5 (1 : Nat) (Option.some FieldType.int) ∈ ZALL := zin (i := 1114) (by decide +kernel) rfl
theorem qm_J0_1047 : Cond.methodLink RJ0 1047 yJ5_isLatin1_aae02  ∈ ZALL := zin (i := 1115) (by decide +kernel) rfl
theorem qm_J0_54 : Cond.methodLink RJ0 54 yJ7_copyOfRange_39247  ∈ ZALL := zin (i := 1116) (by decide +kernel) rfl
theorem qt_J7_copyOfRange_39247 : Cond.static yJ7_copyOfRange_39247 ∈ ZALL := zin (i := 1117) (by decide +kernel) rfl
theorem qc_J7_copyOfRange_39247 : Cond.code yJ7_copyOfRange_39247 cJ7_copyOfRange_39247 (3 : Nat) (Option.some (FieldType.array FieldType.byte)) ∈ ZALL := zin (i := 1118) (by decide +kernel) rfl
theorem qm_J7_339 : Cond.methodLink RJ7 339 yJ7_copyOfRangeByte_39247  ∈ ZALL := zin (i := 1119) (by decide +kernel) rfl
theorem qt_J7_copyOfRangeByte_39247 : Cond.static yJ7_copyOfRangeByte_39247 ∈ ZALL := zin (i := 1120) (by decide +kernel) rfl
theorem qc_J7_copyOfRangeByte_39247 : Cond.code yJ7_copyOfRangeByte_39247 cJ7_copyOfRangeByte_39247 (5 : Nat) (Option.some (FieldType.array FieldType.byte)) ∈ ZALL := zin (i := 1121) (by decide +kernel) rfl
theorem qm_J7_343 : Cond.methodLink RJ7 343 yJ7_checkLength_df160  ∈ ZALL := zin (i := 1122) (by decide +kernel) rfl
theorem qt_J7_checkLength_df160 : Cond.static yJ7_checkLength_df160 ∈ ZALL := zin (i := 1123) (by decide +kernel) rfl
theorem qc_J7_checkLength_df160 : Cond.code yJ7_checkLength_df160 cJ7_checkLength_df160 (2 : Nat) (Option.none : Option Jvm.ClassFile.FieldType) ∈ ZALL := zin (i := 1124) (by decide +kernel) rfl
theorem qk_J7_43 : Cond.classLink RJ7 43 "java/lang/IllegalArgumentException" ∈ ZALL := zin (i := 1125) (by decide +kernel) rfl
theorem qk_J7_45 : Cond.classLink RJ7 45 RJ4 ∈ ZALL := zin (i := 1126) (by decide +kernel) rfl
theorem qm_J7_47 : Cond.methodLink RJ7 47 yJ4_init_da8c8  ∈ ZALL := zin (i := 1127) (by decide +kernel) rfl
theorem qm_J7_54 : Cond.methodLink RJ7 54 yJ4_append_bf812  ∈ ZALL := zin (i := 1128) (by decide +kernel) rfl
theorem qm_J7_50 : Cond.methodLink RJ7 50 yJ4_append_15ec4  ∈ ZALL := zin (i := 1130) (by decide +kernel) rfl
theorem qm_J7_61 : Cond.methodLink RJ7 61 yJ4_toString_0e30d  ∈ ZALL := zin (i := 1131) (by decide +kernel) rfl
theorem qm_J7_65 : Cond.methodLink RJ7 65 ⟨"java/lang/IllegalArgumentException", "<init>", "(Ljava/lang/String;)V"⟩  ∈ ZALL := zin (i := 1132) (by decide +kernel) rfl
theorem qm_J0_1051 : Cond.methodLink RJ0 1051 yJ2_compress_39247  ∈ ZALL := zin (i := 1133) (by decide +kernel) rfl
theorem qt_J2_compress_39247 : Cond.static yJ2_compress_39247 ∈ ZALL := zin (i := 1134) (by decide +kernel) rfl
theorem qc_J2_compress_39247 : Cond.code yJ2_compress_39247 cJ2_compress_39247 (6 : Nat) (Option.some (FieldType.array FieldType.byte)) ∈ ZALL := zin (i := 1135) (by decide +kernel) rfl
theorem qm_J2_123 : Cond.methodLink RJ2 123 yJ2_compress_5af95  ∈ ZALL := zin (i := 1136) (by decide +kernel) rfl
theorem qt_J2_compress_5af95 : Cond.static yJ2_compress_5af95 ∈ ZALL := zin (i := 1137) (by decide +kernel) rfl
theorem qc_J2_compress_5af95 : Cond.code yJ2_compress_5af95 cJ2_compress_5af95 (7 : Nat) (Option.some FieldType.int) ∈ ZALL := zin (i := 1138) (by decide +kernel) rfl
theorem qm_J2_71 : Cond.methodLink RJ2 71 yJ2_getChar_3b067  ∈ ZALL := zin (i := 1139) (by decide +kernel) rfl
theorem qt_J2_getChar_3b067 : Cond.static yJ2_getChar_3b067 ∈ ZALL := zin (i := 1140) (by decide +kernel) rfl
theorem qc_J2_getChar_3b067 : Cond.code yJ2_getChar_3b067 cJ2_getChar_3b067 (2 : Nat) (Option.some FieldType.char) ∈ ZALL := zin (i := 1141) (by decide +kernel) rfl
theorem qm_J2_126 : Cond.methodLink RJ2 126 yJ7_copyOfRange_39247  ∈ ZALL := zin (i := 1142) (by decide +kernel) rfl
theorem qm_J0_47 : Cond.methodLink RJ0 47 yJ2_coderFromArrayLen_85cad  ∈ ZALL := zin (i := 1143) (by decide +kernel) rfl
theorem qt_J2_coderFromArrayLen_85cad : Cond.static yJ2_coderFromArrayLen_85cad ∈ ZALL := zin (i := 1144) (by decide +kernel) rfl
theorem qc_J2_coderFromArrayLen_85cad : Cond.code yJ2_coderFromArrayLen_85cad cJ2_coderFromArrayLen_85cad (2 : Nat) (Option.some FieldType.byte) ∈ ZALL := zin (i := 1145) (by decide +kernel) rfl
theorem ql_J0_9 : Cond.fieldLink RJ0 9 "java/lang/String" "value" "[B" ∈ ZALL := zin (i := 1146) (by decide +kernel) rfl
theorem ql_J0_15 : Cond.fieldLink RJ0 15 "java/lang/String" "coder" "B" ∈ ZALL := zin (i := 1147) (by decide +kernel) rfl
theorem q_1152 : Cond.superclass "java/lang/String" "java/lang/Object" ∈ ZALL := zin (i := 1152) (by decide +kernel) rfl
theorem qm_Jx7c733_7 : Cond.methodLink RJx7c733 7 ⟨"java/lang/IndexOutOfBoundsException", "<init>", "(Ljava/lang/String;)V"⟩  ∈ ZALL := zin (i := 1153) (by decide +kernel) rfl
theorem q_1160 : Cond.superclass "java/lang/StringIndexOutOfBoundsException" "java/lang/IndexOutOfBoundsException" ∈ ZALL := zin (i := 1160) (by decide +kernel) rfl
theorem qm_J5_133 : Cond.methodLink RJ5 133 yJ1_fillNull_b72d1  ∈ ZALL := zin (i := 1161) (by decide +kernel) rfl
theorem qt_J1_fillNull_b72d1 : Cond.static yJ1_fillNull_b72d1 ∈ ZALL := zin (i := 1162) (by decide +kernel) rfl
theorem qc_J1_fillNull_b72d1 : Cond.code yJ1_fillNull_b72d1 cJ1_fillNull_b72d1 (3 : Nat) (Option.none : Option Jvm.ClassFile.FieldType) ∈ ZALL := zin (i := 1163) (by decide +kernel) rfl
theorem qm_J1_236 : Cond.methodLink RJ1 236 yJ7_fill_eb02e  ∈ ZALL := zin (i := 1164) (by decide +kernel) rfl
theorem qt_J7_fill_eb02e : Cond.static yJ7_fill_eb02e ∈ ZALL := zin (i := 1165) (by decide +kernel) rfl
theorem qc_J7_fill_eb02e : Cond.code yJ7_fill_eb02e cJ7_fill_eb02e (5 : Nat) (Option.none : Option Jvm.ClassFile.FieldType) ∈ ZALL := zin (i := 1166) (by decide +kernel) rfl
theorem qm_J7_13 : Cond.methodLink RJ7 13 yJ7_rangeCheck_23922  ∈ ZALL := zin (i := 1167) (by decide +kernel) rfl
theorem qt_J7_rangeCheck_23922 : Cond.static yJ7_rangeCheck_23922 ∈ ZALL := zin (i := 1168) (by decide +kernel) rfl
theorem qc_J7_rangeCheck_23922 : Cond.code yJ7_rangeCheck_23922 cJ7_rangeCheck_23922 (3 : Nat) (Option.none : Option Jvm.ClassFile.FieldType) ∈ ZALL := zin (i := 1169) (by decide +kernel) rfl
theorem qk_J7_68 : Cond.classLink RJ7 68 RJx00060 ∈ ZALL := zin (i := 1173) (by decide +kernel) rfl
theorem qm_J7_70 : Cond.methodLink RJ7 70 yJx00060_init_d00df  ∈ ZALL := zin (i := 1174) (by decide +kernel) rfl
theorem qi_Jx00060_init_d00df : Cond.instanceMethod yJx00060_init_d00df ∈ ZALL := zin (i := 1175) (by decide +kernel) rfl
theorem qc_Jx00060_init_d00df : Cond.code yJx00060_init_d00df cJx00060_init_d00df (2 : Nat) (Option.none : Option Jvm.ClassFile.FieldType) ∈ ZALL := zin (i := 1176) (by decide +kernel) rfl
theorem qk_Jx00060_10 : Cond.classLink RJx00060 10 RJ4 ∈ ZALL := zin (i := 1177) (by decide +kernel) rfl
theorem qm_Jx00060_12 : Cond.methodLink RJx00060 12 yJ4_init_da8c8  ∈ ZALL := zin (i := 1178) (by decide +kernel) rfl
theorem qm_Jx00060_15 : Cond.methodLink RJx00060 15 yJ4_append_15ec4  ∈ ZALL := zin (i := 1180) (by decide +kernel) rfl
theorem qm_Jx00060_19 : Cond.methodLink RJx00060 19 yJ4_append_bf812  ∈ ZALL := zin (i := 1181) (by decide +kernel) rfl
theorem qm_Jx00060_22 : Cond.methodLink RJx00060 22 yJ4_toString_0e30d  ∈ ZALL := zin (i := 1182) (by decide +kernel) rfl
theorem qm_J5_137 : Cond.methodLink RJ5 137 yJ2_fillNull_b72d1  ∈ ZALL := zin (i := 1183) (by decide +kernel) rfl
theorem qt_J2_fillNull_b72d1 : Cond.static yJ2_fillNull_b72d1 ∈ ZALL := zin (i := 1184) (by decide +kernel) rfl
theorem qc_J2_fillNull_b72d1 : Cond.code yJ2_fillNull_b72d1 cJ2_fillNull_b72d1 (3 : Nat) (Option.none : Option Jvm.ClassFile.FieldType) ∈ ZALL := zin (i := 1185) (by decide +kernel) rfl
theorem qm_J2_380 : Cond.methodLink RJ2 380 yJ7_fill_eb02e  ∈ ZALL := zin (i := 1186) (by decide +kernel) rfl
theorem qm_X12_232 : Cond.methodLink RX12 232 yX8_writeTo  ∈ ZALL := zin (i := 1187) (by decide +kernel) rfl
theorem qi_X8_writeTo : Cond.instanceMethod yX8_writeTo ∈ ZALL := zin (i := 1188) (by decide +kernel) rfl
theorem qs_X8_writeTo : Cond.selects RX8 yX8_writeTo yX8_writeTo ∈ ZALL := zin (i := 1189) (by decide +kernel) rfl
theorem qc_X8_writeTo : Cond.code yX8_writeTo cX8_writeTo (5 : Nat) (Option.none : Option Jvm.ClassFile.FieldType) ∈ ZALL := zin (i := 1190) (by decide +kernel) rfl
theorem qm_X8_70 : Cond.methodLink RX8 70 yJ4_append_cf468  ∈ ZALL := zin (i := 1191) (by decide +kernel) rfl
theorem qi_J4_append_cf468 : Cond.instanceMethod yJ4_append_cf468 ∈ ZALL := zin (i := 1192) (by decide +kernel) rfl
theorem qs_J4_append_cf468 : Cond.selects RJ4 yJ4_append_cf468 yJ4_append_cf468 ∈ ZALL := zin (i := 1193) (by decide +kernel) rfl
theorem qc_J4_append_cf468 : Cond.code yJ4_append_cf468 cJ4_append_cf468 (2 : Nat) (Option.some (FieldType.object "java/lang/StringBuilder")) ∈ ZALL := zin (i := 1194) (by decide +kernel) rfl
theorem qm_J4_50 : Cond.methodLink RJ4 50 yJ5_append_3fe6f  ∈ ZALL := zin (i := 1195) (by decide +kernel) rfl
theorem qi_J5_append_3fe6f : Cond.instanceMethod yJ5_append_3fe6f ∈ ZALL := zin (i := 1196) (by decide +kernel) rfl
theorem qc_J5_append_3fe6f : Cond.code yJ5_append_3fe6f cJ5_append_3fe6f (2 : Nat) (Option.some (FieldType.object "java/lang/AbstractStringBuilder")) ∈ ZALL := zin (i := 1197) (by decide +kernel) rfl
theorem qm_J5_191 : Cond.methodLink RJ5 191 yJ1_canEncode_fc78d  ∈ ZALL := zin (i := 1198) (by decide +kernel) rfl
theorem qt_J1_canEncode_fc78d : Cond.static yJ1_canEncode_fc78d ∈ ZALL := zin (i := 1199) (by decide +kernel) rfl
theorem qc_J1_canEncode_fc78d : Cond.code yJ1_canEncode_fc78d cJ1_canEncode_fc78d (1 : Nat) (Option.some FieldType.boolean) ∈ ZALL := zin (i := 1200) (by decide +kernel) rfl
theorem qm_J5_197 : Cond.methodLink RJ5 197 yJ2_putCharSB_b72d1  ∈ ZALL := zin (i := 1201) (by decide +kernel) rfl
theorem qt_J2_putCharSB_b72d1 : Cond.static yJ2_putCharSB_b72d1 ∈ ZALL := zin (i := 1202) (by decide +kernel) rfl
theorem qc_J2_putCharSB_b72d1 : Cond.code yJ2_putCharSB_b72d1 cJ2_putCharSB_b72d1 (3 : Nat) (Option.none : Option Jvm.ClassFile.FieldType) ∈ ZALL := zin (i := 1203) (by decide +kernel) rfl
theorem qm_J2_67 : Cond.methodLink RJ2 67 yJ2_checkIndex_2214a  ∈ ZALL := zin (i := 1204) (by decide +kernel) rfl
theorem qt_J2_checkIndex_2214a : Cond.static yJ2_checkIndex_2214a ∈ ZALL := zin (i := 1205) (by decide +kernel) rfl
theorem qc_J2_checkIndex_2214a : Cond.code yJ2_checkIndex_2214a cJ2_checkIndex_2214a (2 : Nat) (Option.none : Option Jvm.ClassFile.FieldType) ∈ ZALL := zin (i := 1206) (by decide +kernel) rfl
theorem qm_J2_414 : Cond.methodLink RJ2 414 yJ0_checkIndex_df160  ∈ ZALL := zin (i := 1207) (by decide +kernel) rfl
theorem qt_J0_checkIndex_df160 : Cond.static yJ0_checkIndex_df160 ∈ ZALL := zin (i := 1208) (by decide +kernel) rfl
theorem qc_J0_checkIndex_df160 : Cond.code yJ0_checkIndex_df160 cJ0_checkIndex_df160 (2 : Nat) (Option.none : Option Jvm.ClassFile.FieldType) ∈ ZALL := zin (i := 1209) (by decide +kernel) rfl
theorem qm_J0_1059 : Cond.methodLink RJ0 1059 yJ3_checkIndex_8e157  ∈ ZALL := zin (i := 1210) (by decide +kernel) rfl
theorem qm_X12_236 : Cond.methodLink RX12 236 yJ4_length_8abf5  ∈ ZALL := zin (i := 1211) (by decide +kernel) rfl
theorem qm_L_237 : Cond.methodLink RL 237 yL_smallestWidth  ∈ ZALL := zin (i := 1212) (by decide +kernel) rfl
theorem qt_L_smallestWidth : Cond.static yL_smallestWidth ∈ ZALL := zin (i := 1213) (by decide +kernel) rfl
theorem qc_L_smallestWidth : Cond.codeWith ({ cls := "StoneGazetteLaw", name := "smallestWidth", desc := "(LStoneGazette;I[J)I" } : MethodName) method_20_code (4 : Nat) (Option.some FieldType.int) [((0 : Nat), (9 : Nat), (12 : Nat), (26 : Nat))] ∈ ZALL := zin (i := 1214) (by decide +kernel) rfl
theorem qm_L_75 : Cond.methodLink RL 75 yX12_smallestWidth  ∈ ZALL := zin (i := 1215) (by decide +kernel) rfl
theorem qi_X12_smallestWidth : Cond.instanceMethod yX12_smallestWidth ∈ ZALL := zin (i := 1216) (by decide +kernel) rfl
theorem qs_X12_smallestWidth : Cond.selects RX12 yX12_smallestWidth yX12_smallestWidth ∈ ZALL := zin (i := 1217) (by decide +kernel) rfl
theorem qc_X12_smallestWidth : Cond.code yX12_smallestWidth cX12_smallestWidth (4 : Nat) (Option.some FieldType.int) ∈ ZALL := zin (i := 1218) (by decide +kernel) rfl
theorem qm_L_240 : Cond.methodLink RL 240 yL_leastBadness  ∈ ZALL := zin (i := 1219) (by decide +kernel) rfl
theorem qt_L_leastBadness : Cond.static yL_leastBadness ∈ ZALL := zin (i := 1220) (by decide +kernel) rfl
theorem qc_L_leastBadness : Cond.codeWith ({ cls := "StoneGazetteLaw", name := "leastBadness", desc := "(LStoneGazette;I[J)I" } : MethodName) method_21_code (4 : Nat) (Option.some FieldType.int) [((0 : Nat), (9 : Nat), (12 : Nat), (26 : Nat)), ((0 : Nat), (9 : Nat), (15 : Nat), (21 : Nat))] ∈ ZALL := zin (i := 1221) (by decide +kernel) rfl
theorem qm_L_78 : Cond.methodLink RL 78 yX12_leastBadness  ∈ ZALL := zin (i := 1222) (by decide +kernel) rfl
theorem qi_X12_leastBadness : Cond.instanceMethod yX12_leastBadness ∈ ZALL := zin (i := 1223) (by decide +kernel) rfl
theorem qs_X12_leastBadness : Cond.selects RX12 yX12_leastBadness yX12_leastBadness ∈ ZALL := zin (i := 1224) (by decide +kernel) rfl
theorem qc_X12_leastBadness : Cond.code yX12_leastBadness cX12_leastBadness (2 : Nat) (Option.some FieldType.int) ∈ ZALL := zin (i := 1225) (by decide +kernel) rfl
theorem qm_X12_238 : Cond.methodLink RX12 238 yX12_knownNarrowArticle  ∈ ZALL := zin (i := 1226) (by decide +kernel) rfl
theorem qp_X12_knownNarrowArticle : Cond.privateMethod yX12_knownNarrowArticle ∈ ZNW := znin (i := 1227) (by decide +kernel) rfl
theorem qi_X12_knownNarrowArticle : Cond.instanceMethod yX12_knownNarrowArticle ∈ ZALL := zin (i := 1228) (by decide +kernel) rfl
theorem qc_X12_knownNarrowArticle : Cond.code yX12_knownNarrowArticle cX12_knownNarrowArticle (3 : Nat) (Option.some (FieldType.object "StoneGazette$Article")) ∈ ZALL := zin (i := 1229) (by decide +kernel) rfl
theorem qm_L_243 : Cond.methodLink RL 243 yL_leastBadnessForward  ∈ ZALL := zin (i := 1231) (by decide +kernel) rfl
theorem qt_L_leastBadnessForward : Cond.static yL_leastBadnessForward ∈ ZALL := zin (i := 1232) (by decide +kernel) rfl
theorem qc_L_leastBadnessForward : Cond.codeWith ({ cls := "StoneGazetteLaw", name := "leastBadnessForward", desc := "(LStoneGazette;I[J)I" } : MethodName) method_22_code (4 : Nat) (Option.some FieldType.int) [((0 : Nat), (9 : Nat), (12 : Nat), (26 : Nat)), ((0 : Nat), (9 : Nat), (15 : Nat), (21 : Nat))] ∈ ZALL := zin (i := 1233) (by decide +kernel) rfl
theorem qm_L_81 : Cond.methodLink RL 81 yX12_leastBadnessForward  ∈ ZALL := zin (i := 1234) (by decide +kernel) rfl
theorem qi_X12_leastBadnessForward : Cond.instanceMethod yX12_leastBadnessForward ∈ ZALL := zin (i := 1235) (by decide +kernel) rfl
theorem qs_X12_leastBadnessForward : Cond.selects RX12 yX12_leastBadnessForward yX12_leastBadnessForward ∈ ZALL := zin (i := 1236) (by decide +kernel) rfl
theorem qc_X12_leastBadnessForward : Cond.code yX12_leastBadnessForward cX12_leastBadnessForward (2 : Nat) (Option.some FieldType.int) ∈ ZALL := zin (i := 1237) (by decide +kernel) rfl
theorem qm_L_246 : Cond.methodLink RL 246 yL_setPage  ∈ ZALL := zin (i := 1238) (by decide +kernel) rfl
theorem qt_L_setPage : Cond.static yL_setPage ∈ ZALL := zin (i := 1239) (by decide +kernel) rfl
theorem qc_L_setPage : Cond.codeWith ({ cls := "StoneGazetteLaw", name := "setPage", desc := "(LStoneGazette;II[J)I" } : MethodName) method_23_code (5 : Nat) (Option.some FieldType.int) [((0 : Nat), (10 : Nat), (13 : Nat), (13 : Nat))] ∈ ZALL := zin (i := 1240) (by decide +kernel) rfl
theorem qm_L_84 : Cond.methodLink RL 84 yX12_setPage  ∈ ZALL := zin (i := 1241) (by decide +kernel) rfl
theorem qi_X12_setPage : Cond.instanceMethod yX12_setPage ∈ ZALL := zin (i := 1242) (by decide +kernel) rfl
theorem qs_X12_setPage : Cond.selects RX12 yX12_setPage yX12_setPage ∈ ZALL := zin (i := 1243) (by decide +kernel) rfl
theorem qc_X12_setPage : Cond.code yX12_setPage cX12_setPage (4 : Nat) (Option.some FieldType.int) ∈ ZALL := zin (i := 1244) (by decide +kernel) rfl
theorem qm_X12_248 : Cond.methodLink RX12 248 yX10_takePage  ∈ ZALL := zin (i := 1245) (by decide +kernel) rfl
theorem qi_X10_takePage : Cond.instanceMethod yX10_takePage ∈ ZALL := zin (i := 1246) (by decide +kernel) rfl
theorem qs_X10_takePage : Cond.selects RX10 yX10_takePage yX10_takePage ∈ ZALL := zin (i := 1247) (by decide +kernel) rfl
theorem qc_X10_takePage : Cond.code yX10_takePage cX10_takePage (3 : Nat) (Option.some FieldType.boolean) ∈ ZALL := zin (i := 1248) (by decide +kernel) rfl
theorem qm_L_249 : Cond.methodLink RL 249 yL_print  ∈ ZALL := zin (i := 1250) (by decide +kernel) rfl
theorem qt_L_print : Cond.static yL_print ∈ ZALL := zin (i := 1251) (by decide +kernel) rfl
theorem qc_L_print : Cond.codeWith ({ cls := "StoneGazetteLaw", name := "print", desc := "(LStoneGazette;[J)I" } : MethodName) method_24_code (3 : Nat) (Option.some FieldType.int) [((0 : Nat), (8 : Nat), (11 : Nat), (15 : Nat))] ∈ ZALL := zin (i := 1252) (by decide +kernel) rfl
theorem qm_L_87 : Cond.methodLink RL 87 yX12_print  ∈ ZALL := zin (i := 1253) (by decide +kernel) rfl
theorem qi_X12_print : Cond.instanceMethod yX12_print ∈ ZALL := zin (i := 1254) (by decide +kernel) rfl
theorem qs_X12_print : Cond.selects RX12 yX12_print yX12_print ∈ ZALL := zin (i := 1255) (by decide +kernel) rfl
theorem qc_X12_print : Cond.code yX12_print cX12_print (3 : Nat) (Option.some FieldType.int) ∈ ZALL := zin (i := 1256) (by decide +kernel) rfl
theorem qm_X12_257 : Cond.methodLink RX12 257 yX10_printIssue  ∈ ZALL := zin (i := 1257) (by decide +kernel) rfl
theorem qi_X10_printIssue : Cond.instanceMethod yX10_printIssue ∈ ZALL := zin (i := 1258) (by decide +kernel) rfl
theorem qs_X10_printIssue : Cond.selects RX10 yX10_printIssue yX10_printIssue ∈ ZALL := zin (i := 1259) (by decide +kernel) rfl
theorem qc_X10_printIssue : Cond.code yX10_printIssue cX10_printIssue (5 : Nat) (Option.some FieldType.boolean) ∈ ZALL := zin (i := 1260) (by decide +kernel) rfl
theorem qm_X10_109 : Cond.methodLink RX10 109 yJx4a65c_isEmpty_aae02  ∈ ZALL := zin (i := 1261) (by decide +kernel) rfl
theorem qi_Jx4a65c_isEmpty_aae02 : Cond.instanceMethod yJx4a65c_isEmpty_aae02 ∈ ZALL := zin (i := 1262) (by decide +kernel) rfl
theorem qs_Jx4a65c_isEmpty_aae02 : Cond.selects RJx4a65c yJx4a65c_isEmpty_aae02 yJx4a65c_isEmpty_aae02 ∈ ZALL := zin (i := 1263) (by decide +kernel) rfl
theorem qc_Jx4a65c_isEmpty_aae02 : Cond.code yJx4a65c_isEmpty_aae02 cJx4a65c_isEmpty_aae02 (1 : Nat) (Option.some FieldType.boolean) ∈ ZALL := zin (i := 1264) (by decide +kernel) rfl
theorem qk_X10_83 : Cond.classLink RX10 83 RX9 ∈ ZALL := zin (i := 1265) (by decide +kernel) rfl
theorem qx_X9 : Cond.instantiable RX9 6 ∈ ZALL := zin (i := 1266) (by decide +kernel) rfl
theorem qm_X10_112 : Cond.methodLink RX10 112 yX9_init  ∈ ZALL := zin (i := 1267) (by decide +kernel) rfl
theorem qi_X9_init : Cond.instanceMethod yX9_init ∈ ZALL := zin (i := 1268) (by decide +kernel) rfl
theorem qc_X9_init : Cond.code yX9_init cX9_init (3 : Nat) (Option.none : Option Jvm.ClassFile.FieldType) ∈ ZALL := zin (i := 1269) (by decide +kernel) rfl
theorem qm_X9_3 : Cond.methodLink RX9 3 ⟨"java/lang/Object", "<init>", "()V"⟩  ∈ ZALL := zin (i := 1270) (by decide +kernel) rfl
theorem ql_X9_25 : Cond.fieldLink RX9 25 "StoneGazette$Page" "columns" "I" ∈ ZALL := zin (i := 1271) (by decide +kernel) rfl
theorem ql_X9_28 : Cond.fieldLink RX9 28 "StoneGazette$Page" "height" "I" ∈ ZALL := zin (i := 1272) (by decide +kernel) rfl
theorem ql_X9_9 : Cond.fieldLink RX9 9 "StoneGazette$Page" "ids" "[I" ∈ ZALL := zin (i := 1273) (by decide +kernel) rfl
theorem ql_X9_15 : Cond.fieldLink RX9 15 "StoneGazette$Page" "firstLines" "[I" ∈ ZALL := zin (i := 1274) (by decide +kernel) rfl
theorem ql_X9_18 : Cond.fieldLink RX9 18 "StoneGazette$Page" "taken" "I" ∈ ZALL := zin (i := 1275) (by decide +kernel) rfl
theorem ql_X12_279 : Cond.fieldLinkNest RX12 279 "StoneGazette$Page" "taken" "I" "StoneGazette" ∈ ZNW := znin (i := 1276) (by decide +kernel) rfl
theorem ql_X9_22 : Cond.fieldLink RX9 22 "StoneGazette$Page" "usedLines" "I" ∈ ZALL := zin (i := 1277) (by decide +kernel) rfl
theorem ql_X12_284 : Cond.fieldLinkNest RX12 284 "StoneGazette$Page" "usedLines" "I" "StoneGazette" ∈ ZNW := znin (i := 1278) (by decide +kernel) rfl
theorem q_1291 : Cond.superclass "StoneGazette$Page" "java/lang/Object" ∈ ZALL := zin (i := 1291) (by decide +kernel) rfl
theorem qm_X10_115 : Cond.methodLink RX10 115 yX10_ranked  ∈ ZALL := zin (i := 1292) (by decide +kernel) rfl
theorem qm_X10_119 : Cond.methodLink RX10 119 yX8_arrange  ∈ ZALL := zin (i := 1293) (by decide +kernel) rfl
theorem qm_X10_128 : Cond.methodLink RX10 128 yX9_offer  ∈ ZALL := zin (i := 1294) (by decide +kernel) rfl
theorem qi_X9_offer : Cond.instanceMethod yX9_offer ∈ ZALL := zin (i := 1295) (by decide +kernel) rfl
theorem qs_X9_offer : Cond.selects RX9 yX9_offer yX9_offer ∈ ZALL := zin (i := 1296) (by decide +kernel) rfl
theorem qc_X9_offer : Cond.code yX9_offer cX9_offer (3 : Nat) (Option.none : Option Jvm.ClassFile.FieldType) ∈ ZALL := zin (i := 1297) (by decide +kernel) rfl
theorem qx_X6 : Cond.instantiable RX6 3 ∈ ZALL := zin (i := 1298) (by decide +kernel) rfl
theorem qm_X10_131 : Cond.methodLink RX10 131 yX6_init  ∈ ZALL := zin (i := 1299) (by decide +kernel) rfl
theorem qi_X6_init : Cond.instanceMethod yX6_init ∈ ZALL := zin (i := 1300) (by decide +kernel) rfl
theorem qc_X6_init : Cond.code yX6_init cX6_init (4 : Nat) (Option.none : Option Jvm.ClassFile.FieldType) ∈ ZALL := zin (i := 1301) (by decide +kernel) rfl
theorem qm_X6_1 : Cond.methodLink RX6 1 ⟨"java/lang/Object", "<init>", "()V"⟩  ∈ ZALL := zin (i := 1302) (by decide +kernel) rfl
theorem ql_X6_7 : Cond.fieldLink RX6 7 "StoneGazette$Issue" "number" "I" ∈ ZALL := zin (i := 1303) (by decide +kernel) rfl
theorem ql_X10_67 : Cond.fieldLinkNest RX10 67 "StoneGazette$Issue" "number" "I" "StoneGazette" ∈ ZNW := znin (i := 1304) (by decide +kernel) rfl
theorem ql_X6_13 : Cond.fieldLink RX6 13 "StoneGazette$Issue" "page" "LStoneGazette$Page;" ∈ ZALL := zin (i := 1305) (by decide +kernel) rfl
theorem ql_X10_78 : Cond.fieldLinkNest RX10 78 "StoneGazette$Issue" "page" "LStoneGazette$Page;" "StoneGazette" ∈ ZNW := znin (i := 1306) (by decide +kernel) rfl
theorem ql_X12_273 : Cond.fieldLinkNest RX12 273 "StoneGazette$Issue" "page" "LStoneGazette$Page;" "StoneGazette" ∈ ZNW := znin (i := 1307) (by decide +kernel) rfl
theorem ql_X6_17 : Cond.fieldLink RX6 17 "StoneGazette$Issue" "freshness" "F" ∈ ZALL := zin (i := 1308) (by decide +kernel) rfl
theorem ql_X12_315 : Cond.fieldLinkNest RX12 315 "StoneGazette$Issue" "freshness" "F" "StoneGazette" ∈ ZNW := znin (i := 1309) (by decide +kernel) rfl
theorem q_1316 : Cond.superclass "StoneGazette$Issue" "java/lang/Object" ∈ ZALL := zin (i := 1316) (by decide +kernel) rfl
theorem qm_L_261 : Cond.methodLink RL 261 yL_articlesIn  ∈ ZALL := zin (i := 1318) (by decide +kernel) rfl
theorem qt_L_articlesIn : Cond.static yL_articlesIn ∈ ZALL := zin (i := 1319) (by decide +kernel) rfl
theorem qc_L_articlesIn : Cond.codeWith ({ cls := "StoneGazetteLaw", name := "articlesIn", desc := "(LStoneGazette;I[J)I" } : MethodName) method_25_code (4 : Nat) (Option.some FieldType.int) [((0 : Nat), (9 : Nat), (12 : Nat), (26 : Nat))] ∈ ZALL := zin (i := 1320) (by decide +kernel) rfl
theorem qm_L_91 : Cond.methodLink RL 91 yX12_articlesIn  ∈ ZALL := zin (i := 1321) (by decide +kernel) rfl
theorem qi_X12_articlesIn : Cond.instanceMethod yX12_articlesIn ∈ ZALL := zin (i := 1322) (by decide +kernel) rfl
theorem qs_X12_articlesIn : Cond.selects RX12 yX12_articlesIn yX12_articlesIn ∈ ZALL := zin (i := 1323) (by decide +kernel) rfl
theorem qc_X12_articlesIn : Cond.code yX12_articlesIn cX12_articlesIn (2 : Nat) (Option.some FieldType.int) ∈ ZALL := zin (i := 1324) (by decide +kernel) rfl
theorem qm_X12_270 : Cond.methodLink RX12 270 yX12_knownIssue  ∈ ZALL := zin (i := 1325) (by decide +kernel) rfl
theorem qp_X12_knownIssue : Cond.privateMethod yX12_knownIssue ∈ ZNW := znin (i := 1326) (by decide +kernel) rfl
theorem qi_X12_knownIssue : Cond.instanceMethod yX12_knownIssue ∈ ZALL := zin (i := 1327) (by decide +kernel) rfl
theorem qc_X12_knownIssue : Cond.code yX12_knownIssue cX12_knownIssue (3 : Nat) (Option.some (FieldType.object "StoneGazette$Issue")) ∈ ZALL := zin (i := 1328) (by decide +kernel) rfl
theorem qm_L_264 : Cond.methodLink RL 264 yL_linesIn  ∈ ZALL := zin (i := 1330) (by decide +kernel) rfl
theorem qt_L_linesIn : Cond.static yL_linesIn ∈ ZALL := zin (i := 1331) (by decide +kernel) rfl
theorem qc_L_linesIn : Cond.codeWith ({ cls := "StoneGazetteLaw", name := "linesIn", desc := "(LStoneGazette;I[J)I" } : MethodName) method_26_code (4 : Nat) (Option.some FieldType.int) [((0 : Nat), (9 : Nat), (12 : Nat), (26 : Nat))] ∈ ZALL := zin (i := 1332) (by decide +kernel) rfl
theorem qm_L_94 : Cond.methodLink RL 94 yX12_linesIn  ∈ ZALL := zin (i := 1333) (by decide +kernel) rfl
theorem qi_X12_linesIn : Cond.instanceMethod yX12_linesIn ∈ ZALL := zin (i := 1334) (by decide +kernel) rfl
theorem qs_X12_linesIn : Cond.selects RX12 yX12_linesIn yX12_linesIn ∈ ZALL := zin (i := 1335) (by decide +kernel) rfl
theorem qc_X12_linesIn : Cond.code yX12_linesIn cX12_linesIn (2 : Nat) (Option.some FieldType.int) ∈ ZALL := zin (i := 1336) (by decide +kernel) rfl
theorem qm_L_267 : Cond.methodLink RL 267 yL_columnOf  ∈ ZALL := zin (i := 1337) (by decide +kernel) rfl
theorem qt_L_columnOf : Cond.static yL_columnOf ∈ ZALL := zin (i := 1338) (by decide +kernel) rfl
theorem qc_L_columnOf : Cond.codeWith ({ cls := "StoneGazetteLaw", name := "columnOf", desc := "(LStoneGazette;II[J)I" } : MethodName) method_27_code (5 : Nat) (Option.some FieldType.int) [((0 : Nat), (10 : Nat), (13 : Nat), (26 : Nat))] ∈ ZALL := zin (i := 1339) (by decide +kernel) rfl
theorem qm_L_97 : Cond.methodLink RL 97 yX12_columnOf  ∈ ZALL := zin (i := 1340) (by decide +kernel) rfl
theorem qi_X12_columnOf : Cond.instanceMethod yX12_columnOf ∈ ZALL := zin (i := 1341) (by decide +kernel) rfl
theorem qs_X12_columnOf : Cond.selects RX12 yX12_columnOf yX12_columnOf ∈ ZALL := zin (i := 1342) (by decide +kernel) rfl
theorem qc_X12_columnOf : Cond.code yX12_columnOf cX12_columnOf (4 : Nat) (Option.some FieldType.int) ∈ ZALL := zin (i := 1343) (by decide +kernel) rfl
theorem qm_X12_287 : Cond.methodLink RX12 287 yX12_knownPage  ∈ ZALL := zin (i := 1344) (by decide +kernel) rfl
theorem qp_X12_knownPage : Cond.privateMethod yX12_knownPage ∈ ZNW := znin (i := 1345) (by decide +kernel) rfl
theorem qi_X12_knownPage : Cond.instanceMethod yX12_knownPage ∈ ZALL := zin (i := 1346) (by decide +kernel) rfl
theorem qc_X12_knownPage : Cond.code yX12_knownPage cX12_knownPage (4 : Nat) (Option.some (FieldType.object "StoneGazette$Page")) ∈ ZALL := zin (i := 1347) (by decide +kernel) rfl
theorem qm_X12_291 : Cond.methodLink RX12 291 yX9_firstLineOf  ∈ ZALL := zin (i := 1348) (by decide +kernel) rfl
theorem qm_X12_294 : Cond.methodLink RX12 294 yX9_columnAt  ∈ ZALL := zin (i := 1350) (by decide +kernel) rfl
theorem qi_X9_columnAt : Cond.instanceMethod yX9_columnAt ∈ ZALL := zin (i := 1351) (by decide +kernel) rfl
theorem qs_X9_columnAt : Cond.selects RX9 yX9_columnAt yX9_columnAt ∈ ZALL := zin (i := 1352) (by decide +kernel) rfl
theorem qc_X9_columnAt : Cond.code yX9_columnAt cX9_columnAt (2 : Nat) (Option.some FieldType.int) ∈ ZALL := zin (i := 1353) (by decide +kernel) rfl
theorem qm_L_270 : Cond.methodLink RL 270 yL_rowOf  ∈ ZALL := zin (i := 1354) (by decide +kernel) rfl
theorem qt_L_rowOf : Cond.static yL_rowOf ∈ ZALL := zin (i := 1355) (by decide +kernel) rfl
theorem qc_L_rowOf : Cond.codeWith ({ cls := "StoneGazetteLaw", name := "rowOf", desc := "(LStoneGazette;II[J)I" } : MethodName) method_28_code (5 : Nat) (Option.some FieldType.int) [((0 : Nat), (10 : Nat), (13 : Nat), (26 : Nat))] ∈ ZALL := zin (i := 1356) (by decide +kernel) rfl
theorem qm_L_100 : Cond.methodLink RL 100 yX12_rowOf  ∈ ZALL := zin (i := 1357) (by decide +kernel) rfl
theorem qi_X12_rowOf : Cond.instanceMethod yX12_rowOf ∈ ZALL := zin (i := 1358) (by decide +kernel) rfl
theorem qs_X12_rowOf : Cond.selects RX12 yX12_rowOf yX12_rowOf ∈ ZALL := zin (i := 1359) (by decide +kernel) rfl
theorem qc_X12_rowOf : Cond.code yX12_rowOf cX12_rowOf (4 : Nat) (Option.some FieldType.int) ∈ ZALL := zin (i := 1360) (by decide +kernel) rfl
theorem qm_X12_297 : Cond.methodLink RX12 297 yX9_rowAt  ∈ ZALL := zin (i := 1361) (by decide +kernel) rfl
theorem qi_X9_rowAt : Cond.instanceMethod yX9_rowAt ∈ ZALL := zin (i := 1362) (by decide +kernel) rfl
theorem qs_X9_rowAt : Cond.selects RX9 yX9_rowAt yX9_rowAt ∈ ZALL := zin (i := 1363) (by decide +kernel) rfl
theorem qc_X9_rowAt : Cond.code yX9_rowAt cX9_rowAt (2 : Nat) (Option.some FieldType.int) ∈ ZALL := zin (i := 1364) (by decide +kernel) rfl
theorem qm_L_273 : Cond.methodLink RL 273 yL_coverage  ∈ ZALL := zin (i := 1365) (by decide +kernel) rfl
theorem qt_L_coverage : Cond.static yL_coverage ∈ ZALL := zin (i := 1366) (by decide +kernel) rfl
theorem qc_L_coverage : Cond.codeWith ({ cls := "StoneGazetteLaw", name := "coverage", desc := "(LStoneGazette;I[D)I" } : MethodName) method_29_code (4 : Nat) (Option.some FieldType.int) [((0 : Nat), (9 : Nat), (12 : Nat), (26 : Nat))] ∈ ZALL := zin (i := 1367) (by decide +kernel) rfl
theorem qm_L_103 : Cond.methodLink RL 103 yX12_coverage  ∈ ZALL := zin (i := 1368) (by decide +kernel) rfl
theorem qi_X12_coverage : Cond.instanceMethod yX12_coverage ∈ ZALL := zin (i := 1369) (by decide +kernel) rfl
theorem qs_X12_coverage : Cond.selects RX12 yX12_coverage yX12_coverage ∈ ZALL := zin (i := 1370) (by decide +kernel) rfl
theorem qc_X12_coverage : Cond.code yX12_coverage cX12_coverage (2 : Nat) (Option.some FieldType.float) ∈ ZALL := zin (i := 1371) (by decide +kernel) rfl
theorem qm_X12_300 : Cond.methodLink RX12 300 yX9_coveredPart  ∈ ZALL := zin (i := 1372) (by decide +kernel) rfl
theorem qi_X9_coveredPart : Cond.instanceMethod yX9_coveredPart ∈ ZALL := zin (i := 1373) (by decide +kernel) rfl
theorem qs_X9_coveredPart : Cond.selects RX9 yX9_coveredPart yX9_coveredPart ∈ ZALL := zin (i := 1374) (by decide +kernel) rfl
theorem qc_X9_coveredPart : Cond.code yX9_coveredPart cX9_coveredPart (2 : Nat) (Option.some FieldType.float) ∈ ZALL := zin (i := 1375) (by decide +kernel) rfl
theorem qm_L_277 : Cond.methodLink RL 277 yL_passDays  ∈ ZALL := zin (i := 1376) (by decide +kernel) rfl
theorem qt_L_passDays : Cond.static yL_passDays ∈ ZALL := zin (i := 1377) (by decide +kernel) rfl
theorem qc_L_passDays : Cond.codeWith ({ cls := "StoneGazetteLaw", name := "passDays", desc := "(LStoneGazette;I[J)I" } : MethodName) method_30_code (4 : Nat) (Option.some FieldType.int) [((0 : Nat), (9 : Nat), (12 : Nat), (13 : Nat))] ∈ ZALL := zin (i := 1378) (by decide +kernel) rfl
theorem qm_L_107 : Cond.methodLink RL 107 yX12_passDays  ∈ ZALL := zin (i := 1379) (by decide +kernel) rfl
theorem qi_X12_passDays : Cond.instanceMethod yX12_passDays ∈ ZALL := zin (i := 1380) (by decide +kernel) rfl
theorem qs_X12_passDays : Cond.selects RX12 yX12_passDays yX12_passDays ∈ ZALL := zin (i := 1381) (by decide +kernel) rfl
theorem qc_X12_passDays : Cond.code yX12_passDays cX12_passDays (4 : Nat) (Option.some FieldType.int) ∈ ZALL := zin (i := 1382) (by decide +kernel) rfl
theorem qm_X12_304 : Cond.methodLink RX12 304 yX10_letDaysPass  ∈ ZALL := zin (i := 1383) (by decide +kernel) rfl
theorem qi_X10_letDaysPass : Cond.instanceMethod yX10_letDaysPass ∈ ZALL := zin (i := 1384) (by decide +kernel) rfl
theorem qs_X10_letDaysPass : Cond.selects RX10 yX10_letDaysPass yX10_letDaysPass ∈ ZALL := zin (i := 1385) (by decide +kernel) rfl
theorem qc_X10_letDaysPass : Cond.code yX10_letDaysPass cX10_letDaysPass (3 : Nat) (Option.some FieldType.boolean) ∈ ZALL := zin (i := 1386) (by decide +kernel) rfl
theorem qm_X10_134 : Cond.methodLink RX10 134 yX6_faded  ∈ ZALL := zin (i := 1387) (by decide +kernel) rfl
theorem qi_X6_faded : Cond.instanceMethod yX6_faded ∈ ZALL := zin (i := 1388) (by decide +kernel) rfl
theorem qs_X6_faded : Cond.selects RX6 yX6_faded yX6_faded ∈ ZALL := zin (i := 1389) (by decide +kernel) rfl
theorem qc_X6_faded : Cond.code yX6_faded cX6_faded (4 : Nat) (Option.some (FieldType.object "StoneGazette$Issue")) ∈ ZALL := zin (i := 1390) (by decide +kernel) rfl
theorem q_1391 : Cond.constantFloat "StoneGazette$Issue" (21 : Nat) (1061158912 : UInt32) ∈ ZALL := zin (i := 1391) (by decide +kernel) rfl
theorem qk_X6_8 : Cond.classLink RX6 8 RX6 ∈ ZALL := zin (i := 1392) (by decide +kernel) rfl
theorem qm_X6_22 : Cond.methodLink RX6 22 yX6_init  ∈ ZALL := zin (i := 1393) (by decide +kernel) rfl
theorem qm_X12_309 : Cond.methodLink RX12 309 yX10_countReadable  ∈ ZALL := zin (i := 1395) (by decide +kernel) rfl
theorem qi_X10_countReadable : Cond.instanceMethod yX10_countReadable ∈ ZALL := zin (i := 1396) (by decide +kernel) rfl
theorem qs_X10_countReadable : Cond.selects RX10 yX10_countReadable yX10_countReadable ∈ ZALL := zin (i := 1397) (by decide +kernel) rfl
theorem qc_X10_countReadable : Cond.code yX10_countReadable cX10_countReadable (3 : Nat) (Option.some FieldType.int) ∈ ZALL := zin (i := 1398) (by decide +kernel) rfl
theorem qm_X10_87 : Cond.methodLink RX10 87 yX6_canBeRead  ∈ ZALL := zin (i := 1399) (by decide +kernel) rfl
theorem qi_X6_canBeRead : Cond.instanceMethod yX6_canBeRead ∈ ZALL := zin (i := 1400) (by decide +kernel) rfl
theorem qs_X6_canBeRead : Cond.selects RX6 yX6_canBeRead yX6_canBeRead ∈ ZALL := zin (i := 1401) (by decide +kernel) rfl
theorem qc_X6_canBeRead : Cond.code yX6_canBeRead cX6_canBeRead (1 : Nat) (Option.some FieldType.boolean) ∈ ZALL := zin (i := 1402) (by decide +kernel) rfl
theorem q_1403 : Cond.constantFloat "StoneGazette$Issue" (25 : Nat) (1048576000 : UInt32) ∈ ZALL := zin (i := 1403) (by decide +kernel) rfl
theorem qm_L_284 : Cond.methodLink RL 284 yL_freshness  ∈ ZALL := zin (i := 1404) (by decide +kernel) rfl
theorem qt_L_freshness : Cond.static yL_freshness ∈ ZALL := zin (i := 1405) (by decide +kernel) rfl
theorem qc_L_freshness : Cond.codeWith ({ cls := "StoneGazetteLaw", name := "freshness", desc := "(LStoneGazette;I[D)I" } : MethodName) method_31_code (4 : Nat) (Option.some FieldType.int) [((0 : Nat), (9 : Nat), (12 : Nat), (26 : Nat))] ∈ ZALL := zin (i := 1406) (by decide +kernel) rfl
theorem qm_L_110 : Cond.methodLink RL 110 yX12_freshness  ∈ ZALL := zin (i := 1407) (by decide +kernel) rfl
theorem qi_X12_freshness : Cond.instanceMethod yX12_freshness ∈ ZALL := zin (i := 1408) (by decide +kernel) rfl
theorem qs_X12_freshness : Cond.selects RX12 yX12_freshness yX12_freshness ∈ ZALL := zin (i := 1409) (by decide +kernel) rfl
theorem qc_X12_freshness : Cond.code yX12_freshness cX12_freshness (2 : Nat) (Option.some FieldType.float) ∈ ZALL := zin (i := 1410) (by decide +kernel) rfl
theorem qm_L_287 : Cond.methodLink RL 287 yL_freshnessBits  ∈ ZALL := zin (i := 1411) (by decide +kernel) rfl
theorem qt_L_freshnessBits : Cond.static yL_freshnessBits ∈ ZALL := zin (i := 1412) (by decide +kernel) rfl
theorem qc_L_freshnessBits : Cond.codeWith ({ cls := "StoneGazetteLaw", name := "freshnessBits", desc := "(LStoneGazette;I[J)I" } : MethodName) method_32_code (4 : Nat) (Option.some FieldType.int) [((0 : Nat), (9 : Nat), (12 : Nat), (26 : Nat))] ∈ ZALL := zin (i := 1413) (by decide +kernel) rfl
theorem qm_L_113 : Cond.methodLink RL 113 yX12_freshnessBits  ∈ ZALL := zin (i := 1414) (by decide +kernel) rfl
theorem qi_X12_freshnessBits : Cond.instanceMethod yX12_freshnessBits ∈ ZALL := zin (i := 1415) (by decide +kernel) rfl
theorem qs_X12_freshnessBits : Cond.selects RX12 yX12_freshnessBits yX12_freshnessBits ∈ ZALL := zin (i := 1416) (by decide +kernel) rfl
theorem qc_X12_freshnessBits : Cond.code yX12_freshnessBits cX12_freshnessBits (2 : Nat) (Option.some FieldType.int) ∈ ZALL := zin (i := 1417) (by decide +kernel) rfl
theorem qm_X12_319 : Cond.methodLink RX12 319 yX12_bitsOf  ∈ ZALL := zin (i := 1418) (by decide +kernel) rfl
theorem qt_X12_bitsOf : Cond.static yX12_bitsOf ∈ ZALL := zin (i := 1419) (by decide +kernel) rfl
theorem qc_X12_bitsOf : Cond.code yX12_bitsOf cX12_bitsOf (3 : Nat) (Option.some FieldType.int) ∈ ZALL := zin (i := 1420) (by decide +kernel) rfl
theorem q_1421 : Cond.constantFloat "StoneGazette" (411 : Nat) (1258291200 : UInt32) ∈ ZALL := zin (i := 1421) (by decide +kernel) rfl
theorem qm_L_290 : Cond.methodLink RL 290 yL_isReadable  ∈ ZALL := zin (i := 1422) (by decide +kernel) rfl
theorem qt_L_isReadable : Cond.static yL_isReadable ∈ ZALL := zin (i := 1423) (by decide +kernel) rfl
theorem qc_L_isReadable : Cond.codeWith ({ cls := "StoneGazetteLaw", name := "isReadable", desc := "(LStoneGazette;I[J)I" } : MethodName) method_33_code (4 : Nat) (Option.some FieldType.int) [((0 : Nat), (16 : Nat), (19 : Nat), (26 : Nat))] ∈ ZALL := zin (i := 1424) (by decide +kernel) rfl
theorem qm_L_116 : Cond.methodLink RL 116 yX12_isReadable  ∈ ZALL := zin (i := 1425) (by decide +kernel) rfl
theorem qi_X12_isReadable : Cond.instanceMethod yX12_isReadable ∈ ZALL := zin (i := 1426) (by decide +kernel) rfl
theorem qs_X12_isReadable : Cond.selects RX12 yX12_isReadable yX12_isReadable ∈ ZALL := zin (i := 1427) (by decide +kernel) rfl
theorem qc_X12_isReadable : Cond.code yX12_isReadable cX12_isReadable (2 : Nat) (Option.some FieldType.boolean) ∈ ZALL := zin (i := 1428) (by decide +kernel) rfl
theorem qm_X12_323 : Cond.methodLink RX12 323 yX6_canBeRead  ∈ ZALL := zin (i := 1429) (by decide +kernel) rfl
theorem qm_L_293 : Cond.methodLink RL 293 yL_daysUntilUnreadable  ∈ ZALL := zin (i := 1430) (by decide +kernel) rfl
theorem qt_L_daysUntilUnreadable : Cond.static yL_daysUntilUnreadable ∈ ZALL := zin (i := 1431) (by decide +kernel) rfl
theorem qc_L_daysUntilUnreadable : Cond.codeWith ({ cls := "StoneGazetteLaw", name := "daysUntilUnreadable", desc := "(LStoneGazette;I[J)I" } : MethodName) method_34_code (4 : Nat) (Option.some FieldType.int) [((0 : Nat), (9 : Nat), (12 : Nat), (26 : Nat))] ∈ ZALL := zin (i := 1432) (by decide +kernel) rfl
theorem qm_L_119 : Cond.methodLink RL 119 yX12_daysUntilUnreadable  ∈ ZALL := zin (i := 1433) (by decide +kernel) rfl
theorem qi_X12_daysUntilUnreadable : Cond.instanceMethod yX12_daysUntilUnreadable ∈ ZALL := zin (i := 1434) (by decide +kernel) rfl
theorem qs_X12_daysUntilUnreadable : Cond.selects RX12 yX12_daysUntilUnreadable yX12_daysUntilUnreadable ∈ ZALL := zin (i := 1435) (by decide +kernel) rfl
theorem qc_X12_daysUntilUnreadable : Cond.code yX12_daysUntilUnreadable cX12_daysUntilUnreadable (4 : Nat) (Option.some FieldType.int) ∈ ZALL := zin (i := 1436) (by decide +kernel) rfl
theorem qm_X12_326 : Cond.methodLink RX12 326 yX6_faded  ∈ ZALL := zin (i := 1437) (by decide +kernel) rfl
theorem qm_L_296 : Cond.methodLink RL 296 yL_meanWordLength  ∈ ZALL := zin (i := 1438) (by decide +kernel) rfl
theorem qt_L_meanWordLength : Cond.static yL_meanWordLength ∈ ZALL := zin (i := 1439) (by decide +kernel) rfl
theorem qc_L_meanWordLength : Cond.codeWith ({ cls := "StoneGazetteLaw", name := "meanWordLength", desc := "(LStoneGazette;[D)I" } : MethodName) method_35_code (3 : Nat) (Option.some FieldType.int) [((0 : Nat), (7 : Nat), (10 : Nat), (126 : Nat))] ∈ ZALL := zin (i := 1440) (by decide +kernel) rfl
theorem qk_L_126 : Cond.classLink RL 126 "java/lang/ArithmeticException" ∈ ZALL := zin (i := 1441) (by decide +kernel) rfl
theorem qx_java_lang_ArithmeticException : Cond.instantiable "java/lang/ArithmeticException" 6 ∈ ZALL := zin (i := 1442) (by decide +kernel) rfl
theorem qi_java_lang_ArithmeticException_init_a7421 : Cond.instanceMethod ⟨"java/lang/ArithmeticException", "<init>", "(Ljava/lang/String;)V"⟩ ∈ ZALL := zin (i := 1443) (by decide +kernel) rfl
theorem qc_java_lang_ArithmeticException_init_a7421 : Cond.code ⟨"java/lang/ArithmeticException", "<init>", "(Ljava/lang/String;)V"⟩ prog_19_method_2_code (2 : Nat) (Option.none : Option Jvm.ClassFile.FieldType) ∈ ZALL := zin (i := 1444) (by decide +kernel) rfl
theorem qm_java_lang_ArithmeticException_7 : Cond.methodLink "java/lang/ArithmeticException" 7 ⟨"java/lang/RuntimeException", "<init>", "(Ljava/lang/String;)V"⟩  ∈ ZALL := zin (i := 1445) (by decide +kernel) rfl
theorem q_1452 : Cond.superclass "java/lang/ArithmeticException" "java/lang/RuntimeException" ∈ ZALL := zin (i := 1452) (by decide +kernel) rfl
theorem q_1453 : Cond.castable "java/lang/ArithmeticException" "java/lang/ArithmeticException" ∈ ZNW := znin (i := 1453) (by decide +kernel) rfl
theorem qs_java_lang_Throwable_fillInStackTrace_ad160_java_lang_ArithmeticException : Cond.selects "java/lang/ArithmeticException" ⟨"java/lang/Throwable", "fillInStackTrace", "(I)Ljava/lang/Throwable;"⟩ ⟨"java/lang/Throwable", "fillInStackTrace", "(I)Ljava/lang/Throwable;"⟩ ∈ ZALL := zin (i := 1454) (by decide +kernel) rfl
theorem qm_L_122 : Cond.methodLink RL 122 yX12_meanWordLength  ∈ ZALL := zin (i := 1455) (by decide +kernel) rfl
theorem qi_X12_meanWordLength : Cond.instanceMethod yX12_meanWordLength ∈ ZALL := zin (i := 1456) (by decide +kernel) rfl
theorem qs_X12_meanWordLength : Cond.selects RX12 yX12_meanWordLength yX12_meanWordLength ∈ ZALL := zin (i := 1457) (by decide +kernel) rfl
theorem qc_X12_meanWordLength : Cond.code yX12_meanWordLength cX12_meanWordLength (5 : Nat) (Option.some FieldType.double) ∈ ZALL := zin (i := 1458) (by decide +kernel) rfl
theorem qm_X12_329 : Cond.methodLink RX12 329 yX1_countLetters  ∈ ZALL := zin (i := 1459) (by decide +kernel) rfl
theorem qi_X1_countLetters : Cond.instanceMethod yX1_countLetters ∈ ZALL := zin (i := 1460) (by decide +kernel) rfl
theorem qs_X1_countLetters : Cond.selects RX1 yX1_countLetters yX1_countLetters ∈ ZALL := zin (i := 1461) (by decide +kernel) rfl
theorem qc_X1_countLetters : Cond.code yX1_countLetters cX1_countLetters (6 : Nat) (Option.some FieldType.int) ∈ ZALL := zin (i := 1462) (by decide +kernel) rfl
theorem qk_X12_332 : Cond.classLink RX12 332 "java/lang/ArithmeticException" ∈ ZALL := zin (i := 1463) (by decide +kernel) rfl
theorem qm_X12_334 : Cond.methodLink RX12 334 ⟨"java/lang/ArithmeticException", "<init>", "(Ljava/lang/String;)V"⟩  ∈ ZALL := zin (i := 1464) (by decide +kernel) rfl
theorem qm_L_300 : Cond.methodLink RL 300 yL_meanFreshness  ∈ ZALL := zin (i := 1465) (by decide +kernel) rfl
theorem qt_L_meanFreshness : Cond.static yL_meanFreshness ∈ ZALL := zin (i := 1466) (by decide +kernel) rfl
theorem qc_L_meanFreshness : Cond.codeWith ({ cls := "StoneGazetteLaw", name := "meanFreshness", desc := "(LStoneGazette;[D)I" } : MethodName) method_36_code (3 : Nat) (Option.some FieldType.int) [((0 : Nat), (8 : Nat), (11 : Nat), (126 : Nat))] ∈ ZALL := zin (i := 1467) (by decide +kernel) rfl
theorem qm_L_128 : Cond.methodLink RL 128 yX12_meanFreshness  ∈ ZALL := zin (i := 1468) (by decide +kernel) rfl
theorem qi_X12_meanFreshness : Cond.instanceMethod yX12_meanFreshness ∈ ZALL := zin (i := 1469) (by decide +kernel) rfl
theorem qs_X12_meanFreshness : Cond.selects RX12 yX12_meanFreshness yX12_meanFreshness ∈ ZALL := zin (i := 1470) (by decide +kernel) rfl
theorem qc_X12_meanFreshness : Cond.code yX12_meanFreshness cX12_meanFreshness (4 : Nat) (Option.some FieldType.float) ∈ ZALL := zin (i := 1471) (by decide +kernel) rfl
theorem qk_X12_274 : Cond.classLink RX12 274 RX6 ∈ ZALL := zin (i := 1473) (by decide +kernel) rfl
theorem qm_L_303 : Cond.methodLink RL 303 yL_writeArticle  ∈ ZALL := zin (i := 1474) (by decide +kernel) rfl
theorem qt_L_writeArticle : Cond.static yL_writeArticle ∈ ZALL := zin (i := 1475) (by decide +kernel) rfl
theorem qc_L_writeArticle : Cond.codeWith ({ cls := "StoneGazetteLaw", name := "writeArticle", desc := "(LStoneGazette;I[J)I" } : MethodName) method_37_code (4 : Nat) (Option.some FieldType.int) [((0 : Nat), (9 : Nat), (12 : Nat), (26 : Nat))] ∈ ZALL := zin (i := 1476) (by decide +kernel) rfl
theorem qm_L_132 : Cond.methodLink RL 132 yX12_writeArticle  ∈ ZALL := zin (i := 1477) (by decide +kernel) rfl
theorem qi_X12_writeArticle : Cond.instanceMethod yX12_writeArticle ∈ ZALL := zin (i := 1478) (by decide +kernel) rfl
theorem qs_X12_writeArticle : Cond.selects RX12 yX12_writeArticle yX12_writeArticle ∈ ZALL := zin (i := 1479) (by decide +kernel) rfl
theorem qc_X12_writeArticle : Cond.code yX12_writeArticle cX12_writeArticle (3 : Nat) (Option.some FieldType.int) ∈ ZALL := zin (i := 1480) (by decide +kernel) rfl
theorem qm_X12_337 : Cond.methodLink RX12 337 yX1_writeTo  ∈ ZALL := zin (i := 1481) (by decide +kernel) rfl
theorem qi_X1_writeTo : Cond.instanceMethod yX1_writeTo ∈ ZALL := zin (i := 1482) (by decide +kernel) rfl
theorem qs_X1_writeTo : Cond.selects RX1 yX1_writeTo yX1_writeTo ∈ ZALL := zin (i := 1483) (by decide +kernel) rfl
theorem qc_X1_writeTo : Cond.code yX1_writeTo cX1_writeTo (7 : Nat) (Option.none : Option Jvm.ClassFile.FieldType) ∈ ZALL := zin (i := 1484) (by decide +kernel) rfl
theorem qm_X1_40 : Cond.methodLink RX1 40 yJ4_append_bf812  ∈ ZALL := zin (i := 1485) (by decide +kernel) rfl
theorem qm_X1_46 : Cond.methodLink RX1 46 yJ4_append_cf468  ∈ ZALL := zin (i := 1486) (by decide +kernel) rfl
theorem qm_X1_49 : Cond.methodLink RX1 49 yX11_writeTo  ∈ ZALL := zin (i := 1487) (by decide +kernel) rfl
theorem qi_X11_writeTo : Cond.instanceMethod yX11_writeTo ∈ ZALL := zin (i := 1488) (by decide +kernel) rfl
theorem qs_X11_writeTo : Cond.selects RX11 yX11_writeTo yX11_writeTo ∈ ZALL := zin (i := 1489) (by decide +kernel) rfl
theorem qc_X11_writeTo : Cond.code yX11_writeTo cX11_writeTo (6 : Nat) (Option.none : Option Jvm.ClassFile.FieldType) ∈ ZALL := zin (i := 1490) (by decide +kernel) rfl
theorem qm_X11_27 : Cond.methodLink RX11 27 yJ4_append_cf468  ∈ ZALL := zin (i := 1491) (by decide +kernel) rfl
theorem qm_L_306 : Cond.methodLink RL 306 yL_outputCharacter  ∈ ZALL := zin (i := 1492) (by decide +kernel) rfl
theorem qt_L_outputCharacter : Cond.static yL_outputCharacter ∈ ZALL := zin (i := 1493) (by decide +kernel) rfl
theorem qc_L_outputCharacter : Cond.codeWith ({ cls := "StoneGazetteLaw", name := "outputCharacter", desc := "(LStoneGazette;I[J)I" } : MethodName) method_38_code (4 : Nat) (Option.some FieldType.int) [((0 : Nat), (9 : Nat), (12 : Nat), (32 : Nat))] ∈ ZALL := zin (i := 1494) (by decide +kernel) rfl
theorem qm_L_135 : Cond.methodLink RL 135 yX12_outputCharacter  ∈ ZALL := zin (i := 1495) (by decide +kernel) rfl
theorem qi_X12_outputCharacter : Cond.instanceMethod yX12_outputCharacter ∈ ZALL := zin (i := 1496) (by decide +kernel) rfl
theorem qs_X12_outputCharacter : Cond.selects RX12 yX12_outputCharacter yX12_outputCharacter ∈ ZALL := zin (i := 1497) (by decide +kernel) rfl
theorem qc_X12_outputCharacter : Cond.code yX12_outputCharacter cX12_outputCharacter (2 : Nat) (Option.some FieldType.char) ∈ ZALL := zin (i := 1498) (by decide +kernel) rfl
theorem qm_X12_342 : Cond.methodLink RX12 342 yJ4_charAt_5068e  ∈ ZALL := zin (i := 1500) (by decide +kernel) rfl
theorem qi_J4_charAt_5068e : Cond.instanceMethod yJ4_charAt_5068e ∈ ZALL := zin (i := 1501) (by decide +kernel) rfl
theorem qs_J4_charAt_5068e : Cond.selects RJ4 yJ4_charAt_5068e yJ4_charAt_5068e ∈ ZALL := zin (i := 1502) (by decide +kernel) rfl
theorem qc_J4_charAt_5068e : Cond.code yJ4_charAt_5068e cJ4_charAt_5068e (2 : Nat) (Option.some FieldType.char) ∈ ZALL := zin (i := 1503) (by decide +kernel) rfl
theorem qm_J4_329 : Cond.methodLink RJ4 329 yJ5_charAt_5068e  ∈ ZALL := zin (i := 1504) (by decide +kernel) rfl
theorem qi_J5_charAt_5068e : Cond.instanceMethod yJ5_charAt_5068e ∈ ZALL := zin (i := 1505) (by decide +kernel) rfl
theorem qc_J5_charAt_5068e : Cond.code yJ5_charAt_5068e cJ5_charAt_5068e (5 : Nat) (Option.some FieldType.char) ∈ ZALL := zin (i := 1506) (by decide +kernel) rfl
theorem qm_J5_138 : Cond.methodLink RJ5 138 yJ9_min_7cf53  ∈ ZALL := zin (i := 1507) (by decide +kernel) rfl
theorem qm_J5_144 : Cond.methodLink RJ5 144 yJ0_checkIndex_df160  ∈ ZALL := zin (i := 1508) (by decide +kernel) rfl
theorem qm_J5_148 : Cond.methodLink RJ5 148 yJ2_getChar_3b067  ∈ ZALL := zin (i := 1509) (by decide +kernel) rfl
theorem qm_L_314 : Cond.methodLink RL 314 yL_feed  ∈ ZALL := zin (i := 1510) (by decide +kernel) rfl
theorem qt_L_feed : Cond.static yL_feed ∈ ZALL := zin (i := 1511) (by decide +kernel) rfl
theorem qc_L_feed : Cond.codeWith ({ cls := "StoneGazetteLaw", name := "feed", desc := "(LStoneGazette;C[J)I" } : MethodName) method_39_code (4 : Nat) (Option.some FieldType.int) [((0 : Nat), (9 : Nat), (12 : Nat), (15 : Nat))] ∈ ZALL := zin (i := 1512) (by decide +kernel) rfl
theorem qm_L_139 : Cond.methodLink RL 139 yX12_feed  ∈ ZALL := zin (i := 1513) (by decide +kernel) rfl
theorem qi_X12_feed : Cond.instanceMethod yX12_feed ∈ ZALL := zin (i := 1514) (by decide +kernel) rfl
theorem qs_X12_feed : Cond.selects RX12 yX12_feed yX12_feed ∈ ZALL := zin (i := 1515) (by decide +kernel) rfl
theorem qc_X12_feed : Cond.code yX12_feed cX12_feed (2 : Nat) (Option.some FieldType.int) ∈ ZALL := zin (i := 1516) (by decide +kernel) rfl
theorem qm_L_317 : Cond.methodLink RL 317 yL_execute  ∈ ZALL := zin (i := 1518) (by decide +kernel) rfl
theorem qt_L_execute : Cond.static yL_execute ∈ ZALL := zin (i := 1519) (by decide +kernel) rfl
theorem qc_L_execute : Cond.codeWith ({ cls := "StoneGazetteLaw", name := "execute", desc := "(LStoneGazette;[J)I" } : MethodName) method_40_code (3 : Nat) (Option.some FieldType.int) [((0 : Nat), (8 : Nat), (11 : Nat), (13 : Nat)), ((0 : Nat), (8 : Nat), (14 : Nat), (21 : Nat))] ∈ ZALL := zin (i := 1520) (by decide +kernel) rfl
theorem qm_L_142 : Cond.methodLink RL 142 yX12_execute  ∈ ZALL := zin (i := 1521) (by decide +kernel) rfl
theorem qi_X12_execute : Cond.instanceMethod yX12_execute ∈ ZALL := zin (i := 1522) (by decide +kernel) rfl
theorem qs_X12_execute : Cond.selects RX12 yX12_execute yX12_execute ∈ ZALL := zin (i := 1523) (by decide +kernel) rfl
theorem qc_X12_execute : Cond.code yX12_execute cX12_execute (5 : Nat) (Option.some FieldType.int) ∈ ZALL := zin (i := 1524) (by decide +kernel) rfl
theorem qm_X12_355 : Cond.methodLink RX12 355 yX4_readAll  ∈ ZALL := zin (i := 1525) (by decide +kernel) rfl
theorem qi_X4_readAll : Cond.instanceMethod yX4_readAll ∈ ZALL := zin (i := 1526) (by decide +kernel) rfl
theorem qs_X4_readAll : Cond.selects RX4 yX4_readAll yX4_readAll ∈ ZALL := zin (i := 1527) (by decide +kernel) rfl
theorem qc_X4_readAll : Cond.code yX4_readAll cX4_readAll (3 : Nat) (Option.some FieldType.boolean) ∈ ZALL := zin (i := 1528) (by decide +kernel) rfl
theorem qm_X4_22 : Cond.methodLink RX4 22 yJx4a65c_clear_da8c8  ∈ ZALL := zin (i := 1529) (by decide +kernel) rfl
theorem qi_Jx4a65c_clear_da8c8 : Cond.instanceMethod yJx4a65c_clear_da8c8 ∈ ZALL := zin (i := 1530) (by decide +kernel) rfl
theorem qs_Jx4a65c_clear_da8c8 : Cond.selects RJx4a65c yJx4a65c_clear_da8c8 yJx4a65c_clear_da8c8 ∈ ZALL := zin (i := 1531) (by decide +kernel) rfl
theorem qc_Jx4a65c_clear_da8c8 : Cond.code yJx4a65c_clear_da8c8 cJx4a65c_clear_da8c8 (4 : Nat) (Option.none : Option Jvm.ClassFile.FieldType) ∈ ZALL := zin (i := 1532) (by decide +kernel) rfl
theorem qm_X4_30 : Cond.methodLink RX4 30 yX4_readCommand  ∈ ZALL := zin (i := 1533) (by decide +kernel) rfl
theorem qp_X4_readCommand : Cond.privateMethod yX4_readCommand ∈ ZNW := znin (i := 1534) (by decide +kernel) rfl
theorem qi_X4_readCommand : Cond.instanceMethod yX4_readCommand ∈ ZALL := zin (i := 1535) (by decide +kernel) rfl
theorem qc_X4_readCommand : Cond.code yX4_readCommand cX4_readCommand (6 : Nat) (Option.some FieldType.boolean) ∈ ZALL := zin (i := 1536) (by decide +kernel) rfl
theorem qm_X4_38 : Cond.methodLink RX4 38 yX4_bestKeyword  ∈ ZALL := zin (i := 1537) (by decide +kernel) rfl
theorem qp_X4_bestKeyword : Cond.privateMethod yX4_bestKeyword ∈ ZNW := znin (i := 1538) (by decide +kernel) rfl
theorem qi_X4_bestKeyword : Cond.instanceMethod yX4_bestKeyword ∈ ZALL := zin (i := 1539) (by decide +kernel) rfl
theorem qc_X4_bestKeyword : Cond.code yX4_bestKeyword cX4_bestKeyword (7 : Nat) (Option.some (FieldType.object "StoneGazette$Keyword")) ∈ ZALL := zin (i := 1540) (by decide +kernel) rfl
theorem ql_X4_73 : Cond.fieldLink RX4 73 "StoneGazette$Keyword" "WIDTH" "LStoneGazette$Keyword;" ∈ ZALL := zin (i := 1541) (by decide +kernel) rfl
theorem ql_X4_77 : Cond.fieldLinkNest RX4 77 "StoneGazette" "KEYWORDS" "[LStoneGazette$Keyword;" "StoneGazette" ∈ ZNW := znin (i := 1543) (by decide +kernel) rfl
theorem qm_X4_42 : Cond.methodLink RX4 42 yX7_countShared  ∈ ZALL := zin (i := 1545) (by decide +kernel) rfl
theorem qi_X7_countShared : Cond.instanceMethod yX7_countShared ∈ ZALL := zin (i := 1546) (by decide +kernel) rfl
theorem qs_X7_countShared : Cond.selects RX7 yX7_countShared yX7_countShared ∈ ZALL := zin (i := 1547) (by decide +kernel) rfl
theorem qc_X7_countShared : Cond.code yX7_countShared cX7_countShared (4 : Nat) (Option.some FieldType.int) ∈ ZALL := zin (i := 1548) (by decide +kernel) rfl
theorem qm_X7_46 : Cond.methodLink RX7 46 yJ0_length_8abf5  ∈ ZALL := zin (i := 1549) (by decide +kernel) rfl
theorem qm_X7_52 : Cond.methodLink RX7 52 yX2_signAt  ∈ ZALL := zin (i := 1550) (by decide +kernel) rfl
theorem qm_X7_58 : Cond.methodLink RX7 58 yJ0_charAt_5068e  ∈ ZALL := zin (i := 1551) (by decide +kernel) rfl
theorem qi_J0_charAt_5068e : Cond.instanceMethod yJ0_charAt_5068e ∈ ZALL := zin (i := 1552) (by decide +kernel) rfl
theorem qs_J0_charAt_5068e : Cond.selects RJ0 yJ0_charAt_5068e yJ0_charAt_5068e ∈ ZALL := zin (i := 1553) (by decide +kernel) rfl
