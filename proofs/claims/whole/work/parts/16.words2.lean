theorem qc_J0_charAt_5068e : Cond.code yJ0_charAt_5068e cJ0_charAt_5068e (2 : Nat) (Option.some FieldType.char) ∈ ZALL := zin (i := 1554) (by decide +kernel) rfl
theorem qm_J0_492 : Cond.methodLink RJ0 492 yJ0_isLatin1_aae02  ∈ ZALL := zin (i := 1555) (by decide +kernel) rfl
theorem qi_J0_isLatin1_aae02 : Cond.instanceMethod yJ0_isLatin1_aae02 ∈ ZALL := zin (i := 1556) (by decide +kernel) rfl
theorem qs_J0_isLatin1_aae02 : Cond.selects RJ0 yJ0_isLatin1_aae02 yJ0_isLatin1_aae02 ∈ ZALL := zin (i := 1557) (by decide +kernel) rfl
theorem qc_J0_isLatin1_aae02 : Cond.code yJ0_isLatin1_aae02 cJ0_isLatin1_aae02 (1 : Nat) (Option.some FieldType.boolean) ∈ ZALL := zin (i := 1558) (by decide +kernel) rfl
theorem qm_J0_495 : Cond.methodLink RJ0 495 yJ1_charAt_3b067  ∈ ZALL := zin (i := 1559) (by decide +kernel) rfl
theorem qt_J1_charAt_3b067 : Cond.static yJ1_charAt_3b067 ∈ ZALL := zin (i := 1560) (by decide +kernel) rfl
theorem qc_J1_charAt_3b067 : Cond.code yJ1_charAt_3b067 cJ1_charAt_3b067 (2 : Nat) (Option.some FieldType.char) ∈ ZALL := zin (i := 1561) (by decide +kernel) rfl
theorem qm_J1_9 : Cond.methodLink RJ1 9 yJ0_checkIndex_df160  ∈ ZALL := zin (i := 1562) (by decide +kernel) rfl
theorem qm_J0_498 : Cond.methodLink RJ0 498 yJ2_charAt_3b067  ∈ ZALL := zin (i := 1563) (by decide +kernel) rfl
theorem qt_J2_charAt_3b067 : Cond.static yJ2_charAt_3b067 ∈ ZALL := zin (i := 1564) (by decide +kernel) rfl
theorem qc_J2_charAt_3b067 : Cond.code yJ2_charAt_3b067 cJ2_charAt_3b067 (2 : Nat) (Option.some FieldType.char) ∈ ZALL := zin (i := 1565) (by decide +kernel) rfl
theorem qm_X4_52 : Cond.methodLink RX4 52 yJ0_length_8abf5  ∈ ZALL := zin (i := 1566) (by decide +kernel) rfl
theorem qm_X4_60 : Cond.methodLink RX4 60 yX4_readNumber  ∈ ZALL := zin (i := 1567) (by decide +kernel) rfl
theorem qp_X4_readNumber : Cond.privateMethod yX4_readNumber ∈ ZNW := znin (i := 1568) (by decide +kernel) rfl
theorem qi_X4_readNumber : Cond.instanceMethod yX4_readNumber ∈ ZALL := zin (i := 1569) (by decide +kernel) rfl
theorem qc_X4_readNumber : Cond.code yX4_readNumber cX4_readNumber (5 : Nat) (Option.some FieldType.int) ∈ ZALL := zin (i := 1570) (by decide +kernel) rfl
theorem qm_X4_81 : Cond.methodLink RX4 81 yX2_signAt  ∈ ZALL := zin (i := 1571) (by decide +kernel) rfl
theorem qm_X4_85 : Cond.methodLink RX4 85 yJ9_max_7cf53  ∈ ZALL := zin (i := 1572) (by decide +kernel) rfl
theorem qm_X4_34 : Cond.methodLink RX4 34 yX4_readSign  ∈ ZALL := zin (i := 1573) (by decide +kernel) rfl
theorem qp_X4_readSign : Cond.privateMethod yX4_readSign ∈ ZNW := znin (i := 1574) (by decide +kernel) rfl
theorem qi_X4_readSign : Cond.instanceMethod yX4_readSign ∈ ZALL := zin (i := 1575) (by decide +kernel) rfl
theorem qc_X4_readSign : Cond.code yX4_readSign cX4_readSign (3 : Nat) (Option.some FieldType.boolean) ∈ ZALL := zin (i := 1576) (by decide +kernel) rfl
theorem qk_X4_64 : Cond.classLink RX4 64 RX3 ∈ ZALL := zin (i := 1577) (by decide +kernel) rfl
theorem qx_X3 : Cond.instantiable RX3 3 ∈ ZALL := zin (i := 1578) (by decide +kernel) rfl
theorem qm_X4_66 : Cond.methodLink RX4 66 yX3_init  ∈ ZALL := zin (i := 1579) (by decide +kernel) rfl
theorem qi_X3_init : Cond.instanceMethod yX3_init ∈ ZALL := zin (i := 1580) (by decide +kernel) rfl
theorem qc_X3_init : Cond.code yX3_init cX3_init (4 : Nat) (Option.none : Option Jvm.ClassFile.FieldType) ∈ ZALL := zin (i := 1581) (by decide +kernel) rfl
theorem qm_X3_1 : Cond.methodLink RX3 1 ⟨"java/lang/Object", "<init>", "()V"⟩  ∈ ZALL := zin (i := 1582) (by decide +kernel) rfl
theorem ql_X3_7 : Cond.fieldLink RX3 7 "StoneGazette$Command" "keyword" "LStoneGazette$Keyword;" ∈ ZALL := zin (i := 1583) (by decide +kernel) rfl
theorem ql_X12_418 : Cond.fieldLinkNest RX12 418 "StoneGazette$Command" "keyword" "LStoneGazette$Keyword;" "StoneGazette" ∈ ZNW := znin (i := 1584) (by decide +kernel) rfl
theorem ql_X3_13 : Cond.fieldLink RX3 13 "StoneGazette$Command" "first" "I" ∈ ZALL := zin (i := 1585) (by decide +kernel) rfl
theorem ql_X12_427 : Cond.fieldLinkNest RX12 427 "StoneGazette$Command" "first" "I" "StoneGazette" ∈ ZNW := znin (i := 1586) (by decide +kernel) rfl
theorem ql_X3_17 : Cond.fieldLink RX3 17 "StoneGazette$Command" "second" "I" ∈ ZALL := zin (i := 1587) (by decide +kernel) rfl
theorem ql_X12_430 : Cond.fieldLinkNest RX12 430 "StoneGazette$Command" "second" "I" "StoneGazette" ∈ ZNW := znin (i := 1588) (by decide +kernel) rfl
theorem q_1595 : Cond.superclass "StoneGazette$Command" "java/lang/Object" ∈ ZALL := zin (i := 1595) (by decide +kernel) rfl
theorem qm_X4_69 : Cond.methodLink RX4 69 yJx4a65c_add_9ea2d  ∈ ZALL := zin (i := 1596) (by decide +kernel) rfl
theorem qk_X12_367 : Cond.classLink RX12 367 RX3 ∈ ZALL := zin (i := 1598) (by decide +kernel) rfl
theorem qm_X12_369 : Cond.methodLink RX12 369 yX12_carryOut  ∈ ZALL := zin (i := 1599) (by decide +kernel) rfl
theorem qp_X12_carryOut : Cond.privateMethod yX12_carryOut ∈ ZNW := znin (i := 1600) (by decide +kernel) rfl
theorem qi_X12_carryOut : Cond.instanceMethod yX12_carryOut ∈ ZALL := zin (i := 1601) (by decide +kernel) rfl
theorem qc_X12_carryOut : Cond.code yX12_carryOut cX12_carryOut (3 : Nat) (Option.some FieldType.boolean) ∈ ZALL := zin (i := 1602) (by decide +kernel) rfl
theorem ql_X12_412 : Cond.fieldLink RX12 412 "StoneGazette$1" "$SwitchMap$StoneGazette$Keyword" "[I" ∈ ZALL := zin (i := 1603) (by decide +kernel) rfl
theorem qm_X12_422 : Cond.methodLink RX12 422 ⟨"StoneGazette$Keyword", "ordinal", "()I"⟩  ∈ ZALL := zin (i := 1605) (by decide +kernel) rfl
theorem q_1606 : Cond.sameMethod "StoneGazette$Keyword" "java/lang/Enum" "ordinal" "()I" ∈ ZALL := zin (i := 1606) (by decide +kernel) rfl
theorem qd_Jx29ce0_ordinal_8abf5 : Cond.declares yJx29ce0_ordinal_8abf5 ∈ ZNW := znin (i := 1607) (by decide +kernel) rfl
theorem qs_Jx29ce0_ordinal_8abf5_X7 : Cond.selects RX7 ⟨"StoneGazette$Keyword", "ordinal", "()I"⟩ yJx29ce0_ordinal_8abf5 ∈ ZALL := zin (i := 1608) (by decide +kernel) rfl
theorem qi_Jx29ce0_ordinal_8abf5 : Cond.instanceMethod yJx29ce0_ordinal_8abf5 ∈ ZALL := zin (i := 1609) (by decide +kernel) rfl
theorem qc_Jx29ce0_ordinal_8abf5 : Cond.code yJx29ce0_ordinal_8abf5 cJx29ce0_ordinal_8abf5 (1 : Nat) (Option.some FieldType.int) ∈ ZALL := zin (i := 1610) (by decide +kernel) rfl
theorem qm_L_320 : Cond.methodLink RL 320 yL_errorPosition  ∈ ZALL := zin (i := 1612) (by decide +kernel) rfl
theorem qt_L_errorPosition : Cond.static yL_errorPosition ∈ ZALL := zin (i := 1613) (by decide +kernel) rfl
theorem qc_L_errorPosition : Cond.codeWith ({ cls := "StoneGazetteLaw", name := "errorPosition", desc := "(LStoneGazette;[J)I" } : MethodName) method_41_code (3 : Nat) (Option.some FieldType.int) [((0 : Nat), (8 : Nat), (11 : Nat), (26 : Nat))] ∈ ZALL := zin (i := 1614) (by decide +kernel) rfl
theorem qm_L_145 : Cond.methodLink RL 145 yX12_errorPosition  ∈ ZALL := zin (i := 1615) (by decide +kernel) rfl
theorem qi_X12_errorPosition : Cond.instanceMethod yX12_errorPosition ∈ ZALL := zin (i := 1616) (by decide +kernel) rfl
theorem qs_X12_errorPosition : Cond.selects RX12 yX12_errorPosition yX12_errorPosition ∈ ZALL := zin (i := 1617) (by decide +kernel) rfl
theorem qc_X12_errorPosition : Cond.code yX12_errorPosition cX12_errorPosition (1 : Nat) (Option.some FieldType.int) ∈ ZALL := zin (i := 1618) (by decide +kernel) rfl
theorem qm_L_323 : Cond.methodLink RL 323 yL_failedCommand  ∈ ZALL := zin (i := 1620) (by decide +kernel) rfl
theorem qt_L_failedCommand : Cond.static yL_failedCommand ∈ ZALL := zin (i := 1621) (by decide +kernel) rfl
theorem qc_L_failedCommand : Cond.codeWith ({ cls := "StoneGazetteLaw", name := "failedCommand", desc := "(LStoneGazette;[J)I" } : MethodName) method_42_code (3 : Nat) (Option.some FieldType.int) [((0 : Nat), (8 : Nat), (11 : Nat), (26 : Nat))] ∈ ZALL := zin (i := 1622) (by decide +kernel) rfl
theorem qm_L_148 : Cond.methodLink RL 148 yX12_failedCommand  ∈ ZALL := zin (i := 1623) (by decide +kernel) rfl
theorem qi_X12_failedCommand : Cond.instanceMethod yX12_failedCommand ∈ ZALL := zin (i := 1624) (by decide +kernel) rfl
theorem qs_X12_failedCommand : Cond.selects RX12 yX12_failedCommand yX12_failedCommand ∈ ZALL := zin (i := 1625) (by decide +kernel) rfl
theorem qc_X12_failedCommand : Cond.code yX12_failedCommand cX12_failedCommand (1 : Nat) (Option.some FieldType.int) ∈ ZALL := zin (i := 1626) (by decide +kernel) rfl
theorem qm_L_326 : Cond.methodLink RL 326 yL_undo  ∈ ZALL := zin (i := 1628) (by decide +kernel) rfl
theorem qt_L_undo : Cond.static yL_undo ∈ ZALL := zin (i := 1629) (by decide +kernel) rfl
theorem qc_L_undo : Cond.codeWith ({ cls := "StoneGazetteLaw", name := "undo", desc := "(LStoneGazette;[J)I" } : MethodName) method_43_code (3 : Nat) (Option.some FieldType.int) [((0 : Nat), (8 : Nat), (11 : Nat), (15 : Nat))] ∈ ZALL := zin (i := 1630) (by decide +kernel) rfl
theorem qm_L_151 : Cond.methodLink RL 151 yX12_undo  ∈ ZALL := zin (i := 1631) (by decide +kernel) rfl
theorem qi_X12_undo : Cond.instanceMethod yX12_undo ∈ ZALL := zin (i := 1632) (by decide +kernel) rfl
theorem qs_X12_undo : Cond.selects RX12 yX12_undo yX12_undo ∈ ZALL := zin (i := 1633) (by decide +kernel) rfl
theorem qc_X12_undo : Cond.code yX12_undo cX12_undo (2 : Nat) (Option.some FieldType.int) ∈ ZALL := zin (i := 1634) (by decide +kernel) rfl
theorem qm_L_337 : Cond.methodLink RL 337 yL_restore  ∈ ZALL := zin (i := 1636) (by decide +kernel) rfl
theorem qt_L_restore : Cond.static yL_restore ∈ ZALL := zin (i := 1637) (by decide +kernel) rfl
theorem qc_L_restore : Cond.codeWith ({ cls := "StoneGazetteLaw", name := "restore", desc := "(LStoneGazette;[J)I" } : MethodName) method_44_code (3 : Nat) (Option.some FieldType.int) [((0 : Nat), (8 : Nat), (11 : Nat), (15 : Nat))] ∈ ZALL := zin (i := 1638) (by decide +kernel) rfl
theorem qm_L_154 : Cond.methodLink RL 154 yX12_restore  ∈ ZALL := zin (i := 1639) (by decide +kernel) rfl
theorem qi_X12_restore : Cond.instanceMethod yX12_restore ∈ ZALL := zin (i := 1640) (by decide +kernel) rfl
theorem qs_X12_restore : Cond.selects RX12 yX12_restore yX12_restore ∈ ZALL := zin (i := 1641) (by decide +kernel) rfl
theorem qc_X12_restore : Cond.code yX12_restore cX12_restore (1 : Nat) (Option.some FieldType.int) ∈ ZALL := zin (i := 1642) (by decide +kernel) rfl
theorem qm_X12_386 : Cond.methodLink RX12 386 yJx4a65c_clear_da8c8  ∈ ZALL := zin (i := 1644) (by decide +kernel) rfl
theorem qk_L_158 : Cond.classLink RL 158 RX13 ∈ ZALL := zin (i := 1645) (by decide +kernel) rfl
theorem qx_X13 : Cond.instantiable RX13 24 ∈ ZALL := zin (i := 1646) (by decide +kernel) rfl
theorem qm_L_160 : Cond.methodLink RL 160 yX13_init  ∈ ZALL := zin (i := 1647) (by decide +kernel) rfl
theorem qi_X13_init : Cond.instanceMethod yX13_init ∈ ZALL := zin (i := 1648) (by decide +kernel) rfl
theorem qc_X13_init : Cond.code yX13_init cX13_init (1 : Nat) (Option.none : Option Jvm.ClassFile.FieldType) ∈ ZALL := zin (i := 1649) (by decide +kernel) rfl
theorem qm_X13_3 : Cond.methodLink RX13 3 ⟨"java/lang/Object", "<init>", "()V"⟩  ∈ ZALL := zin (i := 1650) (by decide +kernel) rfl
theorem ql_X13_9 : Cond.fieldLink RX13 9 "StoneGazetteModel" "s" "[I" ∈ ZALL := zin (i := 1651) (by decide +kernel) rfl
theorem ql_X13_13 : Cond.fieldLink RX13 13 "StoneGazetteModel" "before" "[I" ∈ ZALL := zin (i := 1652) (by decide +kernel) rfl
theorem ql_X13_16 : Cond.fieldLink RX13 16 "StoneGazetteModel" "saved" "[I" ∈ ZALL := zin (i := 1653) (by decide +kernel) rfl
theorem ql_X13_286 : Cond.fieldLink RX13 286 "StoneGazetteModel" "isSaved" "Z" ∈ ZALL := zin (i := 1654) (by decide +kernel) rfl
theorem ql_X13_19 : Cond.fieldLink RX13 19 "StoneGazetteModel" "past" "[I" ∈ ZALL := zin (i := 1655) (by decide +kernel) rfl
theorem ql_X13_64 : Cond.fieldLink RX13 64 "StoneGazetteModel" "pastMany" "I" ∈ ZALL := zin (i := 1656) (by decide +kernel) rfl
theorem ql_X13_55 : Cond.fieldLink RX13 55 "StoneGazetteModel" "thrown" "I" ∈ ZALL := zin (i := 1657) (by decide +kernel) rfl
theorem ql_X13_22 : Cond.fieldLink RX13 22 "StoneGazetteModel" "text" "[C" ∈ ZALL := zin (i := 1658) (by decide +kernel) rfl
theorem ql_X13_75 : Cond.fieldLink RX13 75 "StoneGazetteModel" "length" "I" ∈ ZALL := zin (i := 1659) (by decide +kernel) rfl
theorem ql_X13_26 : Cond.fieldLink RX13 26 "StoneGazetteModel" "lines" "[C" ∈ ZALL := zin (i := 1660) (by decide +kernel) rfl
theorem ql_X13_29 : Cond.fieldLink RX13 29 "StoneGazetteModel" "lineLong" "[I" ∈ ZALL := zin (i := 1661) (by decide +kernel) rfl
theorem ql_X13_32 : Cond.fieldLink RX13 32 "StoneGazetteModel" "isDivided" "[Z" ∈ ZALL := zin (i := 1662) (by decide +kernel) rfl
theorem ql_X13_147 : Cond.fieldLink RX13 147 "StoneGazetteModel" "lineMany" "I" ∈ ZALL := zin (i := 1663) (by decide +kernel) rfl
theorem ql_X13_36 : Cond.fieldLink RX13 36 "StoneGazetteModel" "least" "[I" ∈ ZALL := zin (i := 1664) (by decide +kernel) rfl
theorem ql_X13_39 : Cond.fieldLink RX13 39 "StoneGazetteModel" "output" "[C" ∈ ZALL := zin (i := 1665) (by decide +kernel) rfl
theorem ql_X13_223 : Cond.fieldLink RX13 223 "StoneGazetteModel" "outputMany" "I" ∈ ZALL := zin (i := 1666) (by decide +kernel) rfl
theorem ql_X13_42 : Cond.fieldLink RX13 42 "StoneGazetteModel" "input" "[C" ∈ ZALL := zin (i := 1667) (by decide +kernel) rfl
theorem ql_X13_232 : Cond.fieldLink RX13 232 "StoneGazetteModel" "inputMany" "I" ∈ ZALL := zin (i := 1668) (by decide +kernel) rfl
theorem ql_X13_235 : Cond.fieldLink RX13 235 "StoneGazetteModel" "at" "I" ∈ ZALL := zin (i := 1669) (by decide +kernel) rfl
theorem ql_X13_242 : Cond.fieldLink RX13 242 "StoneGazetteModel" "isWrong" "Z" ∈ ZALL := zin (i := 1670) (by decide +kernel) rfl
theorem ql_X13_45 : Cond.fieldLink RX13 45 "StoneGazetteModel" "errorAt" "I" ∈ ZALL := zin (i := 1671) (by decide +kernel) rfl
theorem ql_X13_49 : Cond.fieldLink RX13 49 "StoneGazetteModel" "failedAt" "I" ∈ ZALL := zin (i := 1672) (by decide +kernel) rfl
theorem ql_X13_52 : Cond.fieldLink RX13 52 "StoneGazetteModel" "commands" "[I" ∈ ZALL := zin (i := 1673) (by decide +kernel) rfl
theorem ql_X13_261 : Cond.fieldLink RX13 261 "StoneGazetteModel" "commandMany" "I" ∈ ZALL := zin (i := 1674) (by decide +kernel) rfl
theorem q_1723 : Cond.superclass "StoneGazetteModel" "java/lang/Object" ∈ ZALL := zin (i := 1723) (by decide +kernel) rfl
theorem qm_L_167 : Cond.methodLink RL 167 yX13_thrown  ∈ ZALL := zin (i := 1724) (by decide +kernel) rfl
theorem qi_X13_thrown : Cond.instanceMethod yX13_thrown ∈ ZALL := zin (i := 1725) (by decide +kernel) rfl
theorem qs_X13_thrown : Cond.selects RX13 yX13_thrown yX13_thrown ∈ ZALL := zin (i := 1726) (by decide +kernel) rfl
theorem qc_X13_thrown : Cond.code yX13_thrown cX13_thrown (1 : Nat) (Option.some FieldType.int) ∈ ZALL := zin (i := 1727) (by decide +kernel) rfl
theorem qm_L_166 : Cond.methodLink RL 166 yX13_type  ∈ ZALL := zin (i := 1728) (by decide +kernel) rfl
theorem qi_X13_type : Cond.instanceMethod yX13_type ∈ ZALL := zin (i := 1729) (by decide +kernel) rfl
theorem qs_X13_type : Cond.selects RX13 yX13_type yX13_type ∈ ZALL := zin (i := 1730) (by decide +kernel) rfl
theorem qc_X13_type : Cond.code yX13_type cX13_type (3 : Nat) (Option.some FieldType.int) ∈ ZALL := zin (i := 1731) (by decide +kernel) rfl
theorem qm_X13_71 : Cond.methodLink RX13 71 yX13_in  ∈ ZALL := zin (i := 1732) (by decide +kernel) rfl
theorem qt_X13_in : Cond.static yX13_in ∈ ZALL := zin (i := 1733) (by decide +kernel) rfl
theorem qc_X13_in : Cond.code yX13_in cX13_in (3 : Nat) (Option.some FieldType.boolean) ∈ ZALL := zin (i := 1734) (by decide +kernel) rfl
theorem qm_L_173 : Cond.methodLink RL 173 yX13_clearText  ∈ ZALL := zin (i := 1735) (by decide +kernel) rfl
theorem qi_X13_clearText : Cond.instanceMethod yX13_clearText ∈ ZALL := zin (i := 1736) (by decide +kernel) rfl
theorem qs_X13_clearText : Cond.selects RX13 yX13_clearText yX13_clearText ∈ ZALL := zin (i := 1737) (by decide +kernel) rfl
theorem qc_X13_clearText : Cond.code yX13_clearText cX13_clearText (2 : Nat) (Option.some FieldType.int) ∈ ZALL := zin (i := 1738) (by decide +kernel) rfl
theorem qm_L_177 : Cond.methodLink RL 177 yX13_addArticle  ∈ ZALL := zin (i := 1739) (by decide +kernel) rfl
theorem qi_X13_addArticle : Cond.instanceMethod yX13_addArticle ∈ ZALL := zin (i := 1740) (by decide +kernel) rfl
theorem qs_X13_addArticle : Cond.selects RX13 yX13_addArticle yX13_addArticle ∈ ZALL := zin (i := 1741) (by decide +kernel) rfl
theorem qc_X13_addArticle : Cond.code yX13_addArticle cX13_addArticle (2 : Nat) (Option.some FieldType.int) ∈ ZALL := zin (i := 1742) (by decide +kernel) rfl
theorem qm_X13_94 : Cond.methodLink RX13 94 yX13_keep  ∈ ZALL := zin (i := 1743) (by decide +kernel) rfl
theorem qp_X13_keep : Cond.privateMethod yX13_keep ∈ ZNW := znin (i := 1744) (by decide +kernel) rfl
theorem qi_X13_keep : Cond.instanceMethod yX13_keep ∈ ZALL := zin (i := 1745) (by decide +kernel) rfl
theorem qc_X13_keep : Cond.code yX13_keep cX13_keep (1 : Nat) (Option.none : Option Jvm.ClassFile.FieldType) ∈ ZALL := zin (i := 1746) (by decide +kernel) rfl
theorem qm_X13_58 : Cond.methodLink RX13 58 ⟨"java/lang/System", "arraycopy", "(Ljava/lang/Object;ILjava/lang/Object;II)V"⟩  ∈ ZALL := zin (i := 1747) (by decide +kernel) rfl
theorem qm_X13_97 : Cond.methodLink RX13 97 yX13_doAddArticle  ∈ ZALL := zin (i := 1748) (by decide +kernel) rfl
theorem qp_X13_doAddArticle : Cond.privateMethod yX13_doAddArticle ∈ ZNW := znin (i := 1749) (by decide +kernel) rfl
theorem qi_X13_doAddArticle : Cond.instanceMethod yX13_doAddArticle ∈ ZALL := zin (i := 1750) (by decide +kernel) rfl
theorem qc_X13_doAddArticle : Cond.code yX13_doAddArticle cX13_doAddArticle (6 : Nat) (Option.some FieldType.int) ∈ ZALL := zin (i := 1751) (by decide +kernel) rfl
theorem qm_X13_82 : Cond.methodLink RX13 82 yX13_fails  ∈ ZALL := zin (i := 1752) (by decide +kernel) rfl
theorem qp_X13_fails : Cond.privateMethod yX13_fails ∈ ZNW := znin (i := 1753) (by decide +kernel) rfl
theorem qi_X13_fails : Cond.instanceMethod yX13_fails ∈ ZALL := zin (i := 1754) (by decide +kernel) rfl
theorem qc_X13_fails : Cond.code yX13_fails cX13_fails (2 : Nat) (Option.some FieldType.int) ∈ ZALL := zin (i := 1755) (by decide +kernel) rfl
theorem qm_X13_86 : Cond.methodLink RX13 86 yX13_words  ∈ ZALL := zin (i := 1756) (by decide +kernel) rfl
theorem qp_X13_words : Cond.privateMethod yX13_words ∈ ZNW := znin (i := 1757) (by decide +kernel) rfl
theorem qi_X13_words : Cond.instanceMethod yX13_words ∈ ZALL := zin (i := 1758) (by decide +kernel) rfl
theorem qc_X13_words : Cond.code yX13_words cX13_words (6 : Nat) (Option.some FieldType.int) ∈ ZALL := zin (i := 1759) (by decide +kernel) rfl
theorem qm_X13_78 : Cond.methodLink RX13 78 yX13_sets  ∈ ZALL := zin (i := 1760) (by decide +kernel) rfl
theorem qp_X13_sets : Cond.privateMethod yX13_sets ∈ ZNW := znin (i := 1761) (by decide +kernel) rfl
theorem qi_X13_sets : Cond.instanceMethod yX13_sets ∈ ZALL := zin (i := 1762) (by decide +kernel) rfl
theorem qc_X13_sets : Cond.code yX13_sets cX13_sets (4 : Nat) (Option.none : Option Jvm.ClassFile.FieldType) ∈ ZALL := zin (i := 1763) (by decide +kernel) rfl
theorem qm_X13_90 : Cond.methodLink RX13 90 yX13_takes  ∈ ZALL := zin (i := 1764) (by decide +kernel) rfl
theorem qp_X13_takes : Cond.privateMethod yX13_takes ∈ ZNW := znin (i := 1765) (by decide +kernel) rfl
theorem qi_X13_takes : Cond.instanceMethod yX13_takes ∈ ZALL := zin (i := 1766) (by decide +kernel) rfl
theorem qc_X13_takes : Cond.code yX13_takes cX13_takes (5 : Nat) (Option.some FieldType.int) ∈ ZALL := zin (i := 1767) (by decide +kernel) rfl
theorem qm_X13_100 : Cond.methodLink RX13 100 yX13_ends  ∈ ZALL := zin (i := 1768) (by decide +kernel) rfl
theorem qp_X13_ends : Cond.privateMethod yX13_ends ∈ ZNW := znin (i := 1769) (by decide +kernel) rfl
theorem qi_X13_ends : Cond.instanceMethod yX13_ends ∈ ZALL := zin (i := 1770) (by decide +kernel) rfl
theorem qc_X13_ends : Cond.code yX13_ends cX13_ends (2 : Nat) (Option.some FieldType.int) ∈ ZALL := zin (i := 1771) (by decide +kernel) rfl
theorem qm_L_180 : Cond.methodLink RL 180 yX13_removeArticle  ∈ ZALL := zin (i := 1772) (by decide +kernel) rfl
theorem qi_X13_removeArticle : Cond.instanceMethod yX13_removeArticle ∈ ZALL := zin (i := 1773) (by decide +kernel) rfl
theorem qs_X13_removeArticle : Cond.selects RX13 yX13_removeArticle yX13_removeArticle ∈ ZALL := zin (i := 1774) (by decide +kernel) rfl
theorem qc_X13_removeArticle : Cond.code yX13_removeArticle cX13_removeArticle (2 : Nat) (Option.some FieldType.int) ∈ ZALL := zin (i := 1775) (by decide +kernel) rfl
theorem qm_X13_106 : Cond.methodLink RX13 106 yX13_doRemoveArticle  ∈ ZALL := zin (i := 1776) (by decide +kernel) rfl
theorem qp_X13_doRemoveArticle : Cond.privateMethod yX13_doRemoveArticle ∈ ZNW := znin (i := 1777) (by decide +kernel) rfl
theorem qi_X13_doRemoveArticle : Cond.instanceMethod yX13_doRemoveArticle ∈ ZALL := zin (i := 1778) (by decide +kernel) rfl
theorem qc_X13_doRemoveArticle : Cond.code yX13_doRemoveArticle cX13_doRemoveArticle (4 : Nat) (Option.some FieldType.int) ∈ ZALL := zin (i := 1779) (by decide +kernel) rfl
theorem qm_X13_103 : Cond.methodLink RX13 103 yX13_placeOf  ∈ ZALL := zin (i := 1780) (by decide +kernel) rfl
theorem qp_X13_placeOf : Cond.privateMethod yX13_placeOf ∈ ZNW := znin (i := 1781) (by decide +kernel) rfl
theorem qi_X13_placeOf : Cond.instanceMethod yX13_placeOf ∈ ZALL := zin (i := 1782) (by decide +kernel) rfl
theorem qc_X13_placeOf : Cond.code yX13_placeOf cX13_placeOf (4 : Nat) (Option.some FieldType.int) ∈ ZALL := zin (i := 1783) (by decide +kernel) rfl
theorem qm_X13_67 : Cond.methodLink RX13 67 yX13_of  ∈ ZALL := zin (i := 1784) (by decide +kernel) rfl
theorem qp_X13_of : Cond.privateMethod yX13_of ∈ ZNW := znin (i := 1785) (by decide +kernel) rfl
theorem qi_X13_of : Cond.instanceMethod yX13_of ∈ ZALL := zin (i := 1786) (by decide +kernel) rfl
theorem qc_X13_of : Cond.code yX13_of cX13_of (3 : Nat) (Option.some FieldType.int) ∈ ZALL := zin (i := 1787) (by decide +kernel) rfl
theorem qm_L_184 : Cond.methodLink RL 184 yX13_correct  ∈ ZALL := zin (i := 1788) (by decide +kernel) rfl
theorem qi_X13_correct : Cond.instanceMethod yX13_correct ∈ ZALL := zin (i := 1789) (by decide +kernel) rfl
theorem qs_X13_correct : Cond.selects RX13 yX13_correct yX13_correct ∈ ZALL := zin (i := 1790) (by decide +kernel) rfl
theorem qc_X13_correct : Cond.code yX13_correct cX13_correct (3 : Nat) (Option.some FieldType.int) ∈ ZALL := zin (i := 1791) (by decide +kernel) rfl
theorem qm_X13_119 : Cond.methodLink RX13 119 yX13_doCorrect  ∈ ZALL := zin (i := 1792) (by decide +kernel) rfl
theorem qp_X13_doCorrect : Cond.privateMethod yX13_doCorrect ∈ ZNW := znin (i := 1793) (by decide +kernel) rfl
theorem qi_X13_doCorrect : Cond.instanceMethod yX13_doCorrect ∈ ZALL := zin (i := 1794) (by decide +kernel) rfl
theorem qc_X13_doCorrect : Cond.code yX13_doCorrect cX13_doCorrect (7 : Nat) (Option.some FieldType.int) ∈ ZALL := zin (i := 1795) (by decide +kernel) rfl
theorem qm_X13_109 : Cond.methodLink RX13 109 yX13_isWord  ∈ ZALL := zin (i := 1796) (by decide +kernel) rfl
theorem qp_X13_isWord : Cond.privateMethod yX13_isWord ∈ ZNW := znin (i := 1797) (by decide +kernel) rfl
theorem qi_X13_isWord : Cond.instanceMethod yX13_isWord ∈ ZALL := zin (i := 1798) (by decide +kernel) rfl
theorem qc_X13_isWord : Cond.code yX13_isWord cX13_isWord (3 : Nat) (Option.some FieldType.boolean) ∈ ZALL := zin (i := 1799) (by decide +kernel) rfl
theorem qm_X13_113 : Cond.methodLink RX13 113 yX13_long1  ∈ ZALL := zin (i := 1800) (by decide +kernel) rfl
theorem qp_X13_long1 : Cond.privateMethod yX13_long1 ∈ ZNW := znin (i := 1801) (by decide +kernel) rfl
theorem qi_X13_long1 : Cond.instanceMethod yX13_long1 ∈ ZALL := zin (i := 1802) (by decide +kernel) rfl
theorem qc_X13_long1 : Cond.code yX13_long1 cX13_long1 (3 : Nat) (Option.some FieldType.int) ∈ ZALL := zin (i := 1803) (by decide +kernel) rfl
theorem qm_X13_116 : Cond.methodLink RX13 116 yX13_firstLine  ∈ ZALL := zin (i := 1804) (by decide +kernel) rfl
theorem qp_X13_firstLine : Cond.privateMethod yX13_firstLine ∈ ZNW := znin (i := 1805) (by decide +kernel) rfl
theorem qi_X13_firstLine : Cond.instanceMethod yX13_firstLine ∈ ZALL := zin (i := 1806) (by decide +kernel) rfl
theorem qc_X13_firstLine : Cond.code yX13_firstLine cX13_firstLine (5 : Nat) (Option.some FieldType.int) ∈ ZALL := zin (i := 1807) (by decide +kernel) rfl
theorem qm_X13_194 : Cond.methodLink RX13 194 yX13_ofIssue  ∈ ZALL := zin (i := 1808) (by decide +kernel) rfl
theorem qp_X13_ofIssue : Cond.privateMethod yX13_ofIssue ∈ ZNW := znin (i := 1809) (by decide +kernel) rfl
theorem qi_X13_ofIssue : Cond.instanceMethod yX13_ofIssue ∈ ZALL := zin (i := 1810) (by decide +kernel) rfl
theorem qc_X13_ofIssue : Cond.code yX13_ofIssue cX13_ofIssue (3 : Nat) (Option.some FieldType.int) ∈ ZALL := zin (i := 1811) (by decide +kernel) rfl
theorem qm_L_188 : Cond.methodLink RL 188 yX13_articleCount  ∈ ZALL := zin (i := 1812) (by decide +kernel) rfl
theorem qi_X13_articleCount : Cond.instanceMethod yX13_articleCount ∈ ZALL := zin (i := 1813) (by decide +kernel) rfl
theorem qs_X13_articleCount : Cond.selects RX13 yX13_articleCount yX13_articleCount ∈ ZALL := zin (i := 1814) (by decide +kernel) rfl
theorem qc_X13_articleCount : Cond.code yX13_articleCount cX13_articleCount (1 : Nat) (Option.some FieldType.int) ∈ ZALL := zin (i := 1815) (by decide +kernel) rfl
theorem qm_L_191 : Cond.methodLink RL 191 yX13_article  ∈ ZALL := zin (i := 1816) (by decide +kernel) rfl
theorem qi_X13_article : Cond.instanceMethod yX13_article ∈ ZALL := zin (i := 1817) (by decide +kernel) rfl
theorem qs_X13_article : Cond.selects RX13 yX13_article yX13_article ∈ ZALL := zin (i := 1818) (by decide +kernel) rfl
theorem qc_X13_article : Cond.code yX13_article cX13_article (2 : Nat) (Option.some FieldType.int) ∈ ZALL := zin (i := 1819) (by decide +kernel) rfl
theorem qm_X13_122 : Cond.methodLink RX13 122 yX13_isPosition  ∈ ZALL := zin (i := 1820) (by decide +kernel) rfl
theorem qp_X13_isPosition : Cond.privateMethod yX13_isPosition ∈ ZNW := znin (i := 1821) (by decide +kernel) rfl
theorem qi_X13_isPosition : Cond.instanceMethod yX13_isPosition ∈ ZALL := zin (i := 1822) (by decide +kernel) rfl
theorem qc_X13_isPosition : Cond.code yX13_isPosition cX13_isPosition (2 : Nat) (Option.some FieldType.boolean) ∈ ZALL := zin (i := 1823) (by decide +kernel) rfl
theorem qm_X13_126 : Cond.methodLink RX13 126 yX13_isThere  ∈ ZALL := zin (i := 1824) (by decide +kernel) rfl
theorem qp_X13_isThere : Cond.privateMethod yX13_isThere ∈ ZNW := znin (i := 1825) (by decide +kernel) rfl
theorem qi_X13_isThere : Cond.instanceMethod yX13_isThere ∈ ZALL := zin (i := 1826) (by decide +kernel) rfl
theorem qc_X13_isThere : Cond.code yX13_isThere cX13_isThere (2 : Nat) (Option.some FieldType.boolean) ∈ ZALL := zin (i := 1827) (by decide +kernel) rfl
theorem qm_L_194 : Cond.methodLink RL 194 yX13_articleByPriority  ∈ ZALL := zin (i := 1828) (by decide +kernel) rfl
theorem qi_X13_articleByPriority : Cond.instanceMethod yX13_articleByPriority ∈ ZALL := zin (i := 1829) (by decide +kernel) rfl
theorem qs_X13_articleByPriority : Cond.selects RX13 yX13_articleByPriority yX13_articleByPriority ∈ ZALL := zin (i := 1830) (by decide +kernel) rfl
theorem qc_X13_articleByPriority : Cond.code yX13_articleByPriority cX13_articleByPriority (2 : Nat) (Option.some FieldType.int) ∈ ZALL := zin (i := 1831) (by decide +kernel) rfl
theorem qm_X13_130 : Cond.methodLink RX13 130 yX13_ranked  ∈ ZALL := zin (i := 1832) (by decide +kernel) rfl
theorem qp_X13_ranked : Cond.privateMethod yX13_ranked ∈ ZNW := znin (i := 1833) (by decide +kernel) rfl
theorem qi_X13_ranked : Cond.instanceMethod yX13_ranked ∈ ZALL := zin (i := 1834) (by decide +kernel) rfl
theorem qc_X13_ranked : Cond.code yX13_ranked cX13_ranked (7 : Nat) (Option.some FieldType.int) ∈ ZALL := zin (i := 1835) (by decide +kernel) rfl
theorem qm_L_197 : Cond.methodLink RL 197 yX13_priority  ∈ ZALL := zin (i := 1836) (by decide +kernel) rfl
theorem qi_X13_priority : Cond.instanceMethod yX13_priority ∈ ZALL := zin (i := 1837) (by decide +kernel) rfl
theorem qs_X13_priority : Cond.selects RX13 yX13_priority yX13_priority ∈ ZALL := zin (i := 1838) (by decide +kernel) rfl
theorem qc_X13_priority : Cond.code yX13_priority cX13_priority (3 : Nat) (Option.some FieldType.int) ∈ ZALL := zin (i := 1839) (by decide +kernel) rfl
theorem qm_L_200 : Cond.methodLink RL 200 yX13_wordCount  ∈ ZALL := zin (i := 1840) (by decide +kernel) rfl
theorem qi_X13_wordCount : Cond.instanceMethod yX13_wordCount ∈ ZALL := zin (i := 1841) (by decide +kernel) rfl
theorem qs_X13_wordCount : Cond.selects RX13 yX13_wordCount yX13_wordCount ∈ ZALL := zin (i := 1842) (by decide +kernel) rfl
theorem qc_X13_wordCount : Cond.code yX13_wordCount cX13_wordCount (3 : Nat) (Option.some FieldType.int) ∈ ZALL := zin (i := 1843) (by decide +kernel) rfl
theorem qm_L_203 : Cond.methodLink RL 203 yX13_wordLength  ∈ ZALL := zin (i := 1844) (by decide +kernel) rfl
theorem qi_X13_wordLength : Cond.instanceMethod yX13_wordLength ∈ ZALL := zin (i := 1845) (by decide +kernel) rfl
theorem qs_X13_wordLength : Cond.selects RX13 yX13_wordLength yX13_wordLength ∈ ZALL := zin (i := 1846) (by decide +kernel) rfl
theorem qc_X13_wordLength : Cond.code yX13_wordLength cX13_wordLength (4 : Nat) (Option.some FieldType.int) ∈ ZALL := zin (i := 1847) (by decide +kernel) rfl
theorem qm_X13_133 : Cond.methodLink RX13 133 yX13_asksWord  ∈ ZALL := zin (i := 1848) (by decide +kernel) rfl
theorem qp_X13_asksWord : Cond.privateMethod yX13_asksWord ∈ ZNW := znin (i := 1849) (by decide +kernel) rfl
theorem qi_X13_asksWord : Cond.instanceMethod yX13_asksWord ∈ ZALL := zin (i := 1850) (by decide +kernel) rfl
theorem qc_X13_asksWord : Cond.code yX13_asksWord cX13_asksWord (4 : Nat) (Option.some FieldType.int) ∈ ZALL := zin (i := 1851) (by decide +kernel) rfl
theorem qm_L_206 : Cond.methodLink RL 206 yX13_divisions  ∈ ZALL := zin (i := 1852) (by decide +kernel) rfl
theorem qi_X13_divisions : Cond.instanceMethod yX13_divisions ∈ ZALL := zin (i := 1853) (by decide +kernel) rfl
theorem qs_X13_divisions : Cond.selects RX13 yX13_divisions yX13_divisions ∈ ZALL := zin (i := 1854) (by decide +kernel) rfl
theorem qc_X13_divisions : Cond.code yX13_divisions cX13_divisions (6 : Nat) (Option.some FieldType.int) ∈ ZALL := zin (i := 1855) (by decide +kernel) rfl
theorem qm_X13_144 : Cond.methodLink RX13 144 yX13_divides  ∈ ZALL := zin (i := 1856) (by decide +kernel) rfl
theorem qp_X13_divides : Cond.privateMethod yX13_divides ∈ ZNW := znin (i := 1857) (by decide +kernel) rfl
theorem qi_X13_divides : Cond.instanceMethod yX13_divides ∈ ZALL := zin (i := 1858) (by decide +kernel) rfl
theorem qc_X13_divides : Cond.code yX13_divides cX13_divides (4 : Nat) (Option.some FieldType.boolean) ∈ ZALL := zin (i := 1859) (by decide +kernel) rfl
theorem qm_X13_136 : Cond.methodLink RX13 136 yX13_letter  ∈ ZALL := zin (i := 1860) (by decide +kernel) rfl
theorem qp_X13_letter : Cond.privateMethod yX13_letter ∈ ZNW := znin (i := 1861) (by decide +kernel) rfl
theorem qi_X13_letter : Cond.instanceMethod yX13_letter ∈ ZALL := zin (i := 1862) (by decide +kernel) rfl
theorem qc_X13_letter : Cond.code yX13_letter cX13_letter (4 : Nat) (Option.some FieldType.char) ∈ ZALL := zin (i := 1863) (by decide +kernel) rfl
theorem qm_X13_140 : Cond.methodLink RX13 140 yX13_isVowel  ∈ ZALL := zin (i := 1864) (by decide +kernel) rfl
theorem qt_X13_isVowel : Cond.static yX13_isVowel ∈ ZALL := zin (i := 1865) (by decide +kernel) rfl
theorem qc_X13_isVowel : Cond.code yX13_isVowel cX13_isVowel (1 : Nat) (Option.some FieldType.boolean) ∈ ZALL := zin (i := 1866) (by decide +kernel) rfl
theorem qm_L_210 : Cond.methodLink RL 210 yX13_canDivide  ∈ ZALL := zin (i := 1867) (by decide +kernel) rfl
theorem qi_X13_canDivide : Cond.instanceMethod yX13_canDivide ∈ ZALL := zin (i := 1868) (by decide +kernel) rfl
theorem qs_X13_canDivide : Cond.selects RX13 yX13_canDivide yX13_canDivide ∈ ZALL := zin (i := 1869) (by decide +kernel) rfl
theorem qc_X13_canDivide : Cond.code yX13_canDivide cX13_canDivide (5 : Nat) (Option.some FieldType.boolean) ∈ ZALL := zin (i := 1870) (by decide +kernel) rfl
theorem qm_L_214 : Cond.methodLink RL 214 yX13_lateCorrections  ∈ ZALL := zin (i := 1871) (by decide +kernel) rfl
theorem qi_X13_lateCorrections : Cond.instanceMethod yX13_lateCorrections ∈ ZALL := zin (i := 1872) (by decide +kernel) rfl
theorem qs_X13_lateCorrections : Cond.selects RX13 yX13_lateCorrections yX13_lateCorrections ∈ ZALL := zin (i := 1873) (by decide +kernel) rfl
theorem qc_X13_lateCorrections : Cond.code yX13_lateCorrections cX13_lateCorrections (1 : Nat) (Option.some FieldType.int) ∈ ZALL := zin (i := 1874) (by decide +kernel) rfl
theorem qm_L_217 : Cond.methodLink RL 217 yX13_setWidth  ∈ ZALL := zin (i := 1875) (by decide +kernel) rfl
theorem qi_X13_setWidth : Cond.instanceMethod yX13_setWidth ∈ ZALL := zin (i := 1876) (by decide +kernel) rfl
theorem qs_X13_setWidth : Cond.selects RX13 yX13_setWidth yX13_setWidth ∈ ZALL := zin (i := 1877) (by decide +kernel) rfl
theorem qc_X13_setWidth : Cond.code yX13_setWidth cX13_setWidth (2 : Nat) (Option.some FieldType.int) ∈ ZALL := zin (i := 1878) (by decide +kernel) rfl
theorem qm_X13_165 : Cond.methodLink RX13 165 yX13_doSetWidth  ∈ ZALL := zin (i := 1879) (by decide +kernel) rfl
theorem qp_X13_doSetWidth : Cond.privateMethod yX13_doSetWidth ∈ ZNW := znin (i := 1880) (by decide +kernel) rfl
theorem qi_X13_doSetWidth : Cond.instanceMethod yX13_doSetWidth ∈ ZALL := zin (i := 1881) (by decide +kernel) rfl
theorem qc_X13_doSetWidth : Cond.code yX13_doSetWidth cX13_doSetWidth (3 : Nat) (Option.some FieldType.int) ∈ ZALL := zin (i := 1882) (by decide +kernel) rfl
theorem qm_L_221 : Cond.methodLink RL 221 yX13_width  ∈ ZALL := zin (i := 1883) (by decide +kernel) rfl
theorem qi_X13_width : Cond.instanceMethod yX13_width ∈ ZALL := zin (i := 1884) (by decide +kernel) rfl
theorem qs_X13_width : Cond.selects RX13 yX13_width yX13_width ∈ ZALL := zin (i := 1885) (by decide +kernel) rfl
theorem qc_X13_width : Cond.code yX13_width cX13_width (1 : Nat) (Option.some FieldType.int) ∈ ZALL := zin (i := 1886) (by decide +kernel) rfl
theorem qm_L_224 : Cond.methodLink RL 224 yX13_canBeSet  ∈ ZALL := zin (i := 1887) (by decide +kernel) rfl
theorem qi_X13_canBeSet : Cond.instanceMethod yX13_canBeSet ∈ ZALL := zin (i := 1888) (by decide +kernel) rfl
theorem qs_X13_canBeSet : Cond.selects RX13 yX13_canBeSet yX13_canBeSet ∈ ZALL := zin (i := 1889) (by decide +kernel) rfl
theorem qc_X13_canBeSet : Cond.code yX13_canBeSet cX13_canBeSet (3 : Nat) (Option.some FieldType.boolean) ∈ ZALL := zin (i := 1890) (by decide +kernel) rfl
theorem qm_X13_168 : Cond.methodLink RX13 168 yX13_setsArticle  ∈ ZALL := zin (i := 1891) (by decide +kernel) rfl
theorem qp_X13_setsArticle : Cond.privateMethod yX13_setsArticle ∈ ZNW := znin (i := 1892) (by decide +kernel) rfl
theorem qi_X13_setsArticle : Cond.instanceMethod yX13_setsArticle ∈ ZALL := zin (i := 1893) (by decide +kernel) rfl
theorem qc_X13_setsArticle : Cond.code yX13_setsArticle cX13_setsArticle (5 : Nat) (Option.some FieldType.int) ∈ ZALL := zin (i := 1894) (by decide +kernel) rfl
theorem qm_X13_158 : Cond.methodLink RX13 158 yX13_begins  ∈ ZALL := zin (i := 1895) (by decide +kernel) rfl
theorem qp_X13_begins : Cond.privateMethod yX13_begins ∈ ZNW := znin (i := 1896) (by decide +kernel) rfl
theorem qi_X13_begins : Cond.instanceMethod yX13_begins ∈ ZALL := zin (i := 1897) (by decide +kernel) rfl
theorem qc_X13_begins : Cond.code yX13_begins cX13_begins (2 : Nat) (Option.none : Option Jvm.ClassFile.FieldType) ∈ ZALL := zin (i := 1898) (by decide +kernel) rfl
theorem qm_X13_162 : Cond.methodLink RX13 162 yX13_setsWord  ∈ ZALL := zin (i := 1899) (by decide +kernel) rfl
theorem qp_X13_setsWord : Cond.privateMethod yX13_setsWord ∈ ZNW := znin (i := 1900) (by decide +kernel) rfl
theorem qi_X13_setsWord : Cond.instanceMethod yX13_setsWord ∈ ZALL := zin (i := 1901) (by decide +kernel) rfl
theorem qc_X13_setsWord : Cond.code yX13_setsWord cX13_setsWord (10 : Nat) (Option.some FieldType.boolean) ∈ ZALL := zin (i := 1902) (by decide +kernel) rfl
theorem qm_X13_154 : Cond.methodLink RX13 154 yX13_putsPart  ∈ ZALL := zin (i := 1903) (by decide +kernel) rfl
theorem qp_X13_putsPart : Cond.privateMethod yX13_putsPart ∈ ZNW := znin (i := 1904) (by decide +kernel) rfl
theorem qi_X13_putsPart : Cond.instanceMethod yX13_putsPart ∈ ZALL := zin (i := 1905) (by decide +kernel) rfl
theorem qc_X13_putsPart : Cond.code yX13_putsPart cX13_putsPart (6 : Nat) (Option.none : Option Jvm.ClassFile.FieldType) ∈ ZALL := zin (i := 1906) (by decide +kernel) rfl
theorem qm_X13_150 : Cond.methodLink RX13 150 yX13_puts  ∈ ZALL := zin (i := 1907) (by decide +kernel) rfl
theorem qp_X13_puts : Cond.privateMethod yX13_puts ∈ ZNW := znin (i := 1908) (by decide +kernel) rfl
theorem qi_X13_puts : Cond.instanceMethod yX13_puts ∈ ZALL := zin (i := 1909) (by decide +kernel) rfl
theorem qc_X13_puts : Cond.code yX13_puts cX13_puts (2 : Nat) (Option.none : Option Jvm.ClassFile.FieldType) ∈ ZALL := zin (i := 1910) (by decide +kernel) rfl
theorem qm_L_227 : Cond.methodLink RL 227 yX13_lineCount  ∈ ZALL := zin (i := 1911) (by decide +kernel) rfl
theorem qi_X13_lineCount : Cond.instanceMethod yX13_lineCount ∈ ZALL := zin (i := 1912) (by decide +kernel) rfl
theorem qs_X13_lineCount : Cond.selects RX13 yX13_lineCount yX13_lineCount ∈ ZALL := zin (i := 1913) (by decide +kernel) rfl
theorem qc_X13_lineCount : Cond.code yX13_lineCount cX13_lineCount (2 : Nat) (Option.some FieldType.int) ∈ ZALL := zin (i := 1914) (by decide +kernel) rfl
theorem qm_X13_171 : Cond.methodLink RX13 171 yX13_asksLines  ∈ ZALL := zin (i := 1915) (by decide +kernel) rfl
theorem qp_X13_asksLines : Cond.privateMethod yX13_asksLines ∈ ZNW := znin (i := 1916) (by decide +kernel) rfl
theorem qi_X13_asksLines : Cond.instanceMethod yX13_asksLines ∈ ZALL := zin (i := 1917) (by decide +kernel) rfl
theorem qc_X13_asksLines : Cond.code yX13_asksLines cX13_asksLines (4 : Nat) (Option.some FieldType.int) ∈ ZALL := zin (i := 1918) (by decide +kernel) rfl
theorem qm_X13_174 : Cond.methodLink RX13 174 yJ9_max_7cf53  ∈ ZALL := zin (i := 1919) (by decide +kernel) rfl
theorem qm_L_230 : Cond.methodLink RL 230 yX13_lineLength  ∈ ZALL := zin (i := 1920) (by decide +kernel) rfl
theorem qi_X13_lineLength : Cond.instanceMethod yX13_lineLength ∈ ZALL := zin (i := 1921) (by decide +kernel) rfl
theorem qs_X13_lineLength : Cond.selects RX13 yX13_lineLength yX13_lineLength ∈ ZALL := zin (i := 1922) (by decide +kernel) rfl
theorem qc_X13_lineLength : Cond.code yX13_lineLength cX13_lineLength (3 : Nat) (Option.some FieldType.int) ∈ ZALL := zin (i := 1923) (by decide +kernel) rfl
theorem qm_X13_179 : Cond.methodLink RX13 179 yX13_asksLine  ∈ ZALL := zin (i := 1924) (by decide +kernel) rfl
theorem qp_X13_asksLine : Cond.privateMethod yX13_asksLine ∈ ZNW := znin (i := 1925) (by decide +kernel) rfl
theorem qi_X13_asksLine : Cond.instanceMethod yX13_asksLine ∈ ZALL := zin (i := 1926) (by decide +kernel) rfl
theorem qc_X13_asksLine : Cond.code yX13_asksLine cX13_asksLine (4 : Nat) (Option.some FieldType.boolean) ∈ ZALL := zin (i := 1927) (by decide +kernel) rfl
theorem qm_L_233 : Cond.methodLink RL 233 yX13_hyphenCount  ∈ ZALL := zin (i := 1928) (by decide +kernel) rfl
theorem qi_X13_hyphenCount : Cond.instanceMethod yX13_hyphenCount ∈ ZALL := zin (i := 1929) (by decide +kernel) rfl
theorem qs_X13_hyphenCount : Cond.selects RX13 yX13_hyphenCount yX13_hyphenCount ∈ ZALL := zin (i := 1930) (by decide +kernel) rfl
theorem qc_X13_hyphenCount : Cond.code yX13_hyphenCount cX13_hyphenCount (5 : Nat) (Option.some FieldType.int) ∈ ZALL := zin (i := 1931) (by decide +kernel) rfl
theorem qm_L_239 : Cond.methodLink RL 239 yX13_smallestWidth  ∈ ZALL := zin (i := 1932) (by decide +kernel) rfl
theorem qi_X13_smallestWidth : Cond.instanceMethod yX13_smallestWidth ∈ ZALL := zin (i := 1933) (by decide +kernel) rfl
theorem qs_X13_smallestWidth : Cond.selects RX13 yX13_smallestWidth yX13_smallestWidth ∈ ZALL := zin (i := 1934) (by decide +kernel) rfl
theorem qc_X13_smallestWidth : Cond.code yX13_smallestWidth cX13_smallestWidth (5 : Nat) (Option.some FieldType.int) ∈ ZALL := zin (i := 1935) (by decide +kernel) rfl
theorem qm_L_242 : Cond.methodLink RL 242 yX13_leastBadness  ∈ ZALL := zin (i := 1936) (by decide +kernel) rfl
theorem qi_X13_leastBadness : Cond.instanceMethod yX13_leastBadness ∈ ZALL := zin (i := 1937) (by decide +kernel) rfl
theorem qs_X13_leastBadness : Cond.selects RX13 yX13_leastBadness yX13_leastBadness ∈ ZALL := zin (i := 1938) (by decide +kernel) rfl
theorem qc_X13_leastBadness : Cond.code yX13_leastBadness cX13_leastBadness (10 : Nat) (Option.some FieldType.int) ∈ ZALL := zin (i := 1939) (by decide +kernel) rfl
theorem q_1940 : Cond.constant "StoneGazetteModel" (184 : Nat) (2147483647 : Int32) ∈ ZALL := zin (i := 1940) (by decide +kernel) rfl
theorem qm_X13_185 : Cond.methodLink RX13 185 yJ9_min_7cf53  ∈ ZALL := zin (i := 1941) (by decide +kernel) rfl
theorem qm_L_245 : Cond.methodLink RL 245 yX13_leastBadnessForward  ∈ ZALL := zin (i := 1942) (by decide +kernel) rfl
theorem qi_X13_leastBadnessForward : Cond.instanceMethod yX13_leastBadnessForward ∈ ZALL := zin (i := 1943) (by decide +kernel) rfl
theorem qs_X13_leastBadnessForward : Cond.selects RX13 yX13_leastBadnessForward yX13_leastBadnessForward ∈ ZALL := zin (i := 1944) (by decide +kernel) rfl
theorem qc_X13_leastBadnessForward : Cond.code yX13_leastBadnessForward cX13_leastBadnessForward (2 : Nat) (Option.some FieldType.int) ∈ ZALL := zin (i := 1945) (by decide +kernel) rfl
theorem qm_X13_188 : Cond.methodLink RX13 188 yX13_leastBadness  ∈ ZALL := zin (i := 1946) (by decide +kernel) rfl
theorem qm_L_248 : Cond.methodLink RL 248 yX13_setPage  ∈ ZALL := zin (i := 1947) (by decide +kernel) rfl
theorem qi_X13_setPage : Cond.instanceMethod yX13_setPage ∈ ZALL := zin (i := 1948) (by decide +kernel) rfl
theorem qs_X13_setPage : Cond.selects RX13 yX13_setPage yX13_setPage ∈ ZALL := zin (i := 1949) (by decide +kernel) rfl
theorem qc_X13_setPage : Cond.code yX13_setPage cX13_setPage (3 : Nat) (Option.some FieldType.int) ∈ ZALL := zin (i := 1950) (by decide +kernel) rfl
theorem qm_X13_191 : Cond.methodLink RX13 191 yX13_doSetPage  ∈ ZALL := zin (i := 1951) (by decide +kernel) rfl
theorem qp_X13_doSetPage : Cond.privateMethod yX13_doSetPage ∈ ZNW := znin (i := 1952) (by decide +kernel) rfl
theorem qi_X13_doSetPage : Cond.instanceMethod yX13_doSetPage ∈ ZALL := zin (i := 1953) (by decide +kernel) rfl
theorem qc_X13_doSetPage : Cond.code yX13_doSetPage cX13_doSetPage (3 : Nat) (Option.some FieldType.int) ∈ ZALL := zin (i := 1954) (by decide +kernel) rfl
theorem qm_L_252 : Cond.methodLink RL 252 yX13_print  ∈ ZALL := zin (i := 1955) (by decide +kernel) rfl
theorem qi_X13_print : Cond.instanceMethod yX13_print ∈ ZALL := zin (i := 1956) (by decide +kernel) rfl
theorem qs_X13_print : Cond.selects RX13 yX13_print yX13_print ∈ ZALL := zin (i := 1957) (by decide +kernel) rfl
theorem qc_X13_print : Cond.code yX13_print cX13_print (1 : Nat) (Option.some FieldType.int) ∈ ZALL := zin (i := 1958) (by decide +kernel) rfl
theorem qm_X13_197 : Cond.methodLink RX13 197 yX13_doPrint  ∈ ZALL := zin (i := 1959) (by decide +kernel) rfl
theorem qp_X13_doPrint : Cond.privateMethod yX13_doPrint ∈ ZNW := znin (i := 1960) (by decide +kernel) rfl
theorem qi_X13_doPrint : Cond.instanceMethod yX13_doPrint ∈ ZALL := zin (i := 1961) (by decide +kernel) rfl
theorem qc_X13_doPrint : Cond.code yX13_doPrint cX13_doPrint (5 : Nat) (Option.some FieldType.int) ∈ ZALL := zin (i := 1962) (by decide +kernel) rfl
theorem qm_L_256 : Cond.methodLink RL 256 yX13_issueCount  ∈ ZALL := zin (i := 1963) (by decide +kernel) rfl
theorem qi_X13_issueCount : Cond.instanceMethod yX13_issueCount ∈ ZALL := zin (i := 1964) (by decide +kernel) rfl
theorem qs_X13_issueCount : Cond.selects RX13 yX13_issueCount yX13_issueCount ∈ ZALL := zin (i := 1965) (by decide +kernel) rfl
theorem qc_X13_issueCount : Cond.code yX13_issueCount cX13_issueCount (1 : Nat) (Option.some FieldType.int) ∈ ZALL := zin (i := 1966) (by decide +kernel) rfl
theorem qm_L_260 : Cond.methodLink RL 260 yX13_isKept  ∈ ZALL := zin (i := 1967) (by decide +kernel) rfl
theorem qi_X13_isKept : Cond.instanceMethod yX13_isKept ∈ ZALL := zin (i := 1968) (by decide +kernel) rfl
theorem qs_X13_isKept : Cond.selects RX13 yX13_isKept yX13_isKept ∈ ZALL := zin (i := 1969) (by decide +kernel) rfl
theorem qc_X13_isKept : Cond.code yX13_isKept cX13_isKept (2 : Nat) (Option.some FieldType.boolean) ∈ ZALL := zin (i := 1970) (by decide +kernel) rfl
theorem qm_X13_200 : Cond.methodLink RX13 200 yX13_issueAt  ∈ ZALL := zin (i := 1971) (by decide +kernel) rfl
theorem qp_X13_issueAt : Cond.privateMethod yX13_issueAt ∈ ZNW := znin (i := 1972) (by decide +kernel) rfl
theorem qi_X13_issueAt : Cond.instanceMethod yX13_issueAt ∈ ZALL := zin (i := 1973) (by decide +kernel) rfl
theorem qc_X13_issueAt : Cond.code yX13_issueAt cX13_issueAt (4 : Nat) (Option.some FieldType.int) ∈ ZALL := zin (i := 1974) (by decide +kernel) rfl
theorem qm_L_263 : Cond.methodLink RL 263 yX13_articlesIn  ∈ ZALL := zin (i := 1975) (by decide +kernel) rfl
theorem qi_X13_articlesIn : Cond.instanceMethod yX13_articlesIn ∈ ZALL := zin (i := 1976) (by decide +kernel) rfl
theorem qs_X13_articlesIn : Cond.selects RX13 yX13_articlesIn yX13_articlesIn ∈ ZALL := zin (i := 1977) (by decide +kernel) rfl
theorem qc_X13_articlesIn : Cond.code yX13_articlesIn cX13_articlesIn (3 : Nat) (Option.some FieldType.int) ∈ ZALL := zin (i := 1978) (by decide +kernel) rfl
theorem qm_L_266 : Cond.methodLink RL 266 yX13_linesIn  ∈ ZALL := zin (i := 1979) (by decide +kernel) rfl
theorem qi_X13_linesIn : Cond.instanceMethod yX13_linesIn ∈ ZALL := zin (i := 1980) (by decide +kernel) rfl
theorem qs_X13_linesIn : Cond.selects RX13 yX13_linesIn yX13_linesIn ∈ ZALL := zin (i := 1981) (by decide +kernel) rfl
theorem qc_X13_linesIn : Cond.code yX13_linesIn cX13_linesIn (3 : Nat) (Option.some FieldType.int) ∈ ZALL := zin (i := 1982) (by decide +kernel) rfl
theorem qm_L_269 : Cond.methodLink RL 269 yX13_columnOf  ∈ ZALL := zin (i := 1983) (by decide +kernel) rfl
theorem qi_X13_columnOf : Cond.instanceMethod yX13_columnOf ∈ ZALL := zin (i := 1984) (by decide +kernel) rfl
theorem qs_X13_columnOf : Cond.selects RX13 yX13_columnOf yX13_columnOf ∈ ZALL := zin (i := 1985) (by decide +kernel) rfl
theorem qc_X13_columnOf : Cond.code yX13_columnOf cX13_columnOf (5 : Nat) (Option.some FieldType.int) ∈ ZALL := zin (i := 1986) (by decide +kernel) rfl
theorem qm_L_272 : Cond.methodLink RL 272 yX13_rowOf  ∈ ZALL := zin (i := 1987) (by decide +kernel) rfl
theorem qi_X13_rowOf : Cond.instanceMethod yX13_rowOf ∈ ZALL := zin (i := 1988) (by decide +kernel) rfl
theorem qs_X13_rowOf : Cond.selects RX13 yX13_rowOf yX13_rowOf ∈ ZALL := zin (i := 1989) (by decide +kernel) rfl
theorem qc_X13_rowOf : Cond.code yX13_rowOf cX13_rowOf (5 : Nat) (Option.some FieldType.int) ∈ ZALL := zin (i := 1990) (by decide +kernel) rfl
theorem qm_L_276 : Cond.methodLink RL 276 yX13_coverage  ∈ ZALL := zin (i := 1991) (by decide +kernel) rfl
theorem qi_X13_coverage : Cond.instanceMethod yX13_coverage ∈ ZALL := zin (i := 1992) (by decide +kernel) rfl
theorem qs_X13_coverage : Cond.selects RX13 yX13_coverage yX13_coverage ∈ ZALL := zin (i := 1993) (by decide +kernel) rfl
theorem qc_X13_coverage : Cond.code yX13_coverage cX13_coverage (3 : Nat) (Option.some FieldType.float) ∈ ZALL := zin (i := 1994) (by decide +kernel) rfl
theorem qm_L_279 : Cond.methodLink RL 279 yX13_passDays  ∈ ZALL := zin (i := 1995) (by decide +kernel) rfl
theorem qi_X13_passDays : Cond.instanceMethod yX13_passDays ∈ ZALL := zin (i := 1996) (by decide +kernel) rfl
theorem qs_X13_passDays : Cond.selects RX13 yX13_passDays yX13_passDays ∈ ZALL := zin (i := 1997) (by decide +kernel) rfl
theorem qc_X13_passDays : Cond.code yX13_passDays cX13_passDays (2 : Nat) (Option.some FieldType.int) ∈ ZALL := zin (i := 1998) (by decide +kernel) rfl
theorem qm_X13_206 : Cond.methodLink RX13 206 yX13_doPassDays  ∈ ZALL := zin (i := 1999) (by decide +kernel) rfl
theorem qp_X13_doPassDays : Cond.privateMethod yX13_doPassDays ∈ ZNW := znin (i := 2000) (by decide +kernel) rfl
theorem qi_X13_doPassDays : Cond.instanceMethod yX13_doPassDays ∈ ZALL := zin (i := 2001) (by decide +kernel) rfl
theorem qc_X13_doPassDays : Cond.code yX13_doPassDays cX13_doPassDays (4 : Nat) (Option.some FieldType.int) ∈ ZALL := zin (i := 2002) (by decide +kernel) rfl
theorem qm_X13_203 : Cond.methodLink RX13 203 yX13_age  ∈ ZALL := zin (i := 2003) (by decide +kernel) rfl
theorem qp_X13_age : Cond.privateMethod yX13_age ∈ ZNW := znin (i := 2004) (by decide +kernel) rfl
theorem qi_X13_age : Cond.instanceMethod yX13_age ∈ ZALL := zin (i := 2005) (by decide +kernel) rfl
theorem qc_X13_age : Cond.code yX13_age cX13_age (2 : Nat) (Option.some FieldType.int) ∈ ZALL := zin (i := 2006) (by decide +kernel) rfl
theorem qm_L_283 : Cond.methodLink RL 283 yX13_day  ∈ ZALL := zin (i := 2007) (by decide +kernel) rfl
theorem qi_X13_day : Cond.instanceMethod yX13_day ∈ ZALL := zin (i := 2008) (by decide +kernel) rfl
theorem qs_X13_day : Cond.selects RX13 yX13_day yX13_day ∈ ZALL := zin (i := 2009) (by decide +kernel) rfl
theorem qc_X13_day : Cond.code yX13_day cX13_day (1 : Nat) (Option.some FieldType.int) ∈ ZALL := zin (i := 2010) (by decide +kernel) rfl
theorem qm_L_286 : Cond.methodLink RL 286 yX13_freshness  ∈ ZALL := zin (i := 2011) (by decide +kernel) rfl
theorem qi_X13_freshness : Cond.instanceMethod yX13_freshness ∈ ZALL := zin (i := 2012) (by decide +kernel) rfl
theorem qs_X13_freshness : Cond.selects RX13 yX13_freshness yX13_freshness ∈ ZALL := zin (i := 2013) (by decide +kernel) rfl
theorem qc_X13_freshness : Cond.code yX13_freshness cX13_freshness (3 : Nat) (Option.some FieldType.float) ∈ ZALL := zin (i := 2014) (by decide +kernel) rfl
theorem qm_X13_210 : Cond.methodLink RX13 210 yX13_fresh  ∈ ZALL := zin (i := 2015) (by decide +kernel) rfl
theorem qp_X13_fresh : Cond.privateMethod yX13_fresh ∈ ZNW := znin (i := 2016) (by decide +kernel) rfl
theorem qi_X13_fresh : Cond.instanceMethod yX13_fresh ∈ ZALL := zin (i := 2017) (by decide +kernel) rfl
theorem qc_X13_fresh : Cond.code yX13_fresh cX13_fresh (4 : Nat) (Option.some FieldType.float) ∈ ZALL := zin (i := 2018) (by decide +kernel) rfl
theorem q_2019 : Cond.constantFloat "StoneGazetteModel" (209 : Nat) (1061158912 : UInt32) ∈ ZALL := zin (i := 2019) (by decide +kernel) rfl
theorem qm_L_289 : Cond.methodLink RL 289 yX13_freshnessBits  ∈ ZALL := zin (i := 2020) (by decide +kernel) rfl
theorem qi_X13_freshnessBits : Cond.instanceMethod yX13_freshnessBits ∈ ZALL := zin (i := 2021) (by decide +kernel) rfl
theorem qs_X13_freshnessBits : Cond.selects RX13 yX13_freshnessBits yX13_freshnessBits ∈ ZALL := zin (i := 2022) (by decide +kernel) rfl
theorem qc_X13_freshnessBits : Cond.code yX13_freshnessBits cX13_freshnessBits (3 : Nat) (Option.some FieldType.int) ∈ ZALL := zin (i := 2023) (by decide +kernel) rfl
theorem qm_X13_214 : Cond.methodLink RX13 214 yX13_freshness  ∈ ZALL := zin (i := 2024) (by decide +kernel) rfl
theorem qm_X13_217 : Cond.methodLink RX13 217 yJxf58ca_floatToIntBits_5c35a  ∈ ZALL := zin (i := 2025) (by decide +kernel) rfl
theorem qt_Jxf58ca_floatToIntBits_5c35a : Cond.static yJxf58ca_floatToIntBits_5c35a ∈ ZALL := zin (i := 2026) (by decide +kernel) rfl
theorem qc_Jxf58ca_floatToIntBits_5c35a : Cond.code yJxf58ca_floatToIntBits_5c35a cJxf58ca_floatToIntBits_5c35a (1 : Nat) (Option.some FieldType.int) ∈ ZALL := zin (i := 2027) (by decide +kernel) rfl
theorem qm_Jxf58ca_59 : Cond.methodLink RJxf58ca 59 yJxf58ca_isNaN_12338  ∈ ZALL := zin (i := 2028) (by decide +kernel) rfl
theorem qt_Jxf58ca_isNaN_12338 : Cond.static yJxf58ca_isNaN_12338 ∈ ZALL := zin (i := 2029) (by decide +kernel) rfl
theorem qc_Jxf58ca_isNaN_12338 : Cond.code yJxf58ca_isNaN_12338 cJxf58ca_isNaN_12338 (1 : Nat) (Option.some FieldType.boolean) ∈ ZALL := zin (i := 2030) (by decide +kernel) rfl
theorem qm_Jxf58ca_74 : Cond.methodLink RJxf58ca 74 ⟨"java/lang/Float", "floatToRawIntBits", "(F)I"⟩  ∈ ZALL := zin (i := 2031) (by decide +kernel) rfl
theorem qt_Jxf58ca_floatToRawIntBits_5c35a : Cond.static ⟨"java/lang/Float", "floatToRawIntBits", "(F)I"⟩ ∈ ZALL := zin (i := 2032) (by decide +kernel) rfl
theorem qv_Jxf58ca_floatToRawIntBits_5c35a : Cond.native ⟨"java/lang/Float", "floatToRawIntBits", "(F)I"⟩ ∈ ZALL := zin (i := 2033) (by decide +kernel) rfl
theorem q_2034 : Cond.constant "java/lang/Float" (77 : Nat) (2143289344 : Int32) ∈ ZALL := zin (i := 2034) (by decide +kernel) rfl
theorem qm_L_292 : Cond.methodLink RL 292 yX13_isReadable  ∈ ZALL := zin (i := 2035) (by decide +kernel) rfl
theorem qi_X13_isReadable : Cond.instanceMethod yX13_isReadable ∈ ZALL := zin (i := 2036) (by decide +kernel) rfl
theorem qs_X13_isReadable : Cond.selects RX13 yX13_isReadable yX13_isReadable ∈ ZALL := zin (i := 2037) (by decide +kernel) rfl
theorem qc_X13_isReadable : Cond.code yX13_isReadable cX13_isReadable (3 : Nat) (Option.some FieldType.boolean) ∈ ZALL := zin (i := 2038) (by decide +kernel) rfl
theorem qm_L_295 : Cond.methodLink RL 295 yX13_daysUntilUnreadable  ∈ ZALL := zin (i := 2039) (by decide +kernel) rfl
theorem qi_X13_daysUntilUnreadable : Cond.instanceMethod yX13_daysUntilUnreadable ∈ ZALL := zin (i := 2040) (by decide +kernel) rfl
theorem qs_X13_daysUntilUnreadable : Cond.selects RX13 yX13_daysUntilUnreadable yX13_daysUntilUnreadable ∈ ZALL := zin (i := 2041) (by decide +kernel) rfl
theorem qc_X13_daysUntilUnreadable : Cond.code yX13_daysUntilUnreadable cX13_daysUntilUnreadable (3 : Nat) (Option.some FieldType.int) ∈ ZALL := zin (i := 2042) (by decide +kernel) rfl
theorem qm_L_299 : Cond.methodLink RL 299 yX13_meanWordLength  ∈ ZALL := zin (i := 2043) (by decide +kernel) rfl
theorem qi_X13_meanWordLength : Cond.instanceMethod yX13_meanWordLength ∈ ZALL := zin (i := 2044) (by decide +kernel) rfl
theorem qs_X13_meanWordLength : Cond.selects RX13 yX13_meanWordLength yX13_meanWordLength ∈ ZALL := zin (i := 2045) (by decide +kernel) rfl
theorem qc_X13_meanWordLength : Cond.code yX13_meanWordLength cX13_meanWordLength (5 : Nat) (Option.some FieldType.double) ∈ ZALL := zin (i := 2046) (by decide +kernel) rfl
theorem qm_L_302 : Cond.methodLink RL 302 yX13_meanFreshness  ∈ ZALL := zin (i := 2047) (by decide +kernel) rfl
theorem qi_X13_meanFreshness : Cond.instanceMethod yX13_meanFreshness ∈ ZALL := zin (i := 2048) (by decide +kernel) rfl
theorem qs_X13_meanFreshness : Cond.selects RX13 yX13_meanFreshness yX13_meanFreshness ∈ ZALL := zin (i := 2049) (by decide +kernel) rfl
theorem qc_X13_meanFreshness : Cond.code yX13_meanFreshness cX13_meanFreshness (3 : Nat) (Option.some FieldType.float) ∈ ZALL := zin (i := 2050) (by decide +kernel) rfl
theorem qm_L_313 : Cond.methodLink RL 313 yX13_isConsistent  ∈ ZALL := zin (i := 2051) (by decide +kernel) rfl
theorem qi_X13_isConsistent : Cond.instanceMethod yX13_isConsistent ∈ ZALL := zin (i := 2052) (by decide +kernel) rfl
theorem qs_X13_isConsistent : Cond.selects RX13 yX13_isConsistent yX13_isConsistent ∈ ZALL := zin (i := 2053) (by decide +kernel) rfl
theorem qc_X13_isConsistent : Cond.code yX13_isConsistent cX13_isConsistent (1 : Nat) (Option.some FieldType.boolean) ∈ ZALL := zin (i := 2054) (by decide +kernel) rfl
theorem qm_L_236 : Cond.methodLink RL 236 yX13_writeLine  ∈ ZALL := zin (i := 2055) (by decide +kernel) rfl
theorem qi_X13_writeLine : Cond.instanceMethod yX13_writeLine ∈ ZALL := zin (i := 2056) (by decide +kernel) rfl
theorem qs_X13_writeLine : Cond.selects RX13 yX13_writeLine yX13_writeLine ∈ ZALL := zin (i := 2057) (by decide +kernel) rfl
theorem qc_X13_writeLine : Cond.code yX13_writeLine cX13_writeLine (4 : Nat) (Option.some FieldType.int) ∈ ZALL := zin (i := 2058) (by decide +kernel) rfl
theorem qm_X13_229 : Cond.methodLink RX13 229 yX13_says  ∈ ZALL := zin (i := 2059) (by decide +kernel) rfl
theorem qp_X13_says : Cond.privateMethod yX13_says ∈ ZNW := znin (i := 2060) (by decide +kernel) rfl
theorem qi_X13_says : Cond.instanceMethod yX13_says ∈ ZALL := zin (i := 2061) (by decide +kernel) rfl
theorem qc_X13_says : Cond.code yX13_says cX13_says (2 : Nat) (Option.none : Option Jvm.ClassFile.FieldType) ∈ ZALL := zin (i := 2062) (by decide +kernel) rfl
theorem qm_L_305 : Cond.methodLink RL 305 yX13_writeArticle  ∈ ZALL := zin (i := 2063) (by decide +kernel) rfl
theorem qi_X13_writeArticle : Cond.instanceMethod yX13_writeArticle ∈ ZALL := zin (i := 2064) (by decide +kernel) rfl
theorem qs_X13_writeArticle : Cond.selects RX13 yX13_writeArticle yX13_writeArticle ∈ ZALL := zin (i := 2065) (by decide +kernel) rfl
theorem qc_X13_writeArticle : Cond.code yX13_writeArticle cX13_writeArticle (5 : Nat) (Option.some FieldType.int) ∈ ZALL := zin (i := 2066) (by decide +kernel) rfl
theorem qm_X13_226 : Cond.methodLink RX13 226 yX13_saysNumber  ∈ ZALL := zin (i := 2067) (by decide +kernel) rfl
theorem qp_X13_saysNumber : Cond.privateMethod yX13_saysNumber ∈ ZNW := znin (i := 2068) (by decide +kernel) rfl
theorem qi_X13_saysNumber : Cond.instanceMethod yX13_saysNumber ∈ ZALL := zin (i := 2069) (by decide +kernel) rfl
theorem qc_X13_saysNumber : Cond.code yX13_saysNumber cX13_saysNumber (2 : Nat) (Option.none : Option Jvm.ClassFile.FieldType) ∈ ZALL := zin (i := 2070) (by decide +kernel) rfl
theorem qm_L_308 : Cond.methodLink RL 308 yX13_outputCharacter  ∈ ZALL := zin (i := 2071) (by decide +kernel) rfl
theorem qi_X13_outputCharacter : Cond.instanceMethod yX13_outputCharacter ∈ ZALL := zin (i := 2072) (by decide +kernel) rfl
theorem qs_X13_outputCharacter : Cond.selects RX13 yX13_outputCharacter yX13_outputCharacter ∈ ZALL := zin (i := 2073) (by decide +kernel) rfl
theorem qc_X13_outputCharacter : Cond.code yX13_outputCharacter cX13_outputCharacter (2 : Nat) (Option.some FieldType.char) ∈ ZALL := zin (i := 2074) (by decide +kernel) rfl
theorem qm_L_316 : Cond.methodLink RL 316 yX13_feed  ∈ ZALL := zin (i := 2075) (by decide +kernel) rfl
theorem qi_X13_feed : Cond.instanceMethod yX13_feed ∈ ZALL := zin (i := 2076) (by decide +kernel) rfl
theorem qs_X13_feed : Cond.selects RX13 yX13_feed yX13_feed ∈ ZALL := zin (i := 2077) (by decide +kernel) rfl
theorem qc_X13_feed : Cond.code yX13_feed cX13_feed (2 : Nat) (Option.some FieldType.int) ∈ ZALL := zin (i := 2078) (by decide +kernel) rfl
theorem qm_L_319 : Cond.methodLink RL 319 yX13_execute  ∈ ZALL := zin (i := 2079) (by decide +kernel) rfl
theorem qi_X13_execute : Cond.instanceMethod yX13_execute ∈ ZALL := zin (i := 2080) (by decide +kernel) rfl
theorem qs_X13_execute : Cond.selects RX13 yX13_execute yX13_execute ∈ ZALL := zin (i := 2081) (by decide +kernel) rfl
theorem qc_X13_execute : Cond.code yX13_execute cX13_execute (2 : Nat) (Option.some FieldType.int) ∈ ZALL := zin (i := 2082) (by decide +kernel) rfl
theorem qm_X13_280 : Cond.methodLink RX13 280 yX13_readCommand  ∈ ZALL := zin (i := 2083) (by decide +kernel) rfl
theorem qp_X13_readCommand : Cond.privateMethod yX13_readCommand ∈ ZNW := znin (i := 2084) (by decide +kernel) rfl
theorem qi_X13_readCommand : Cond.instanceMethod yX13_readCommand ∈ ZALL := zin (i := 2085) (by decide +kernel) rfl
theorem qc_X13_readCommand : Cond.code yX13_readCommand cX13_readCommand (4 : Nat) (Option.none : Option Jvm.ClassFile.FieldType) ∈ ZALL := zin (i := 2086) (by decide +kernel) rfl
theorem qm_X13_246 : Cond.methodLink RX13 246 yX13_behind  ∈ ZALL := zin (i := 2087) (by decide +kernel) rfl
theorem qp_X13_behind : Cond.privateMethod yX13_behind ∈ ZNW := znin (i := 2088) (by decide +kernel) rfl
theorem qi_X13_behind : Cond.instanceMethod yX13_behind ∈ ZALL := zin (i := 2089) (by decide +kernel) rfl
theorem qc_X13_behind : Cond.code yX13_behind cX13_behind (2 : Nat) (Option.some FieldType.int) ∈ ZALL := zin (i := 2090) (by decide +kernel) rfl
theorem qm_X13_253 : Cond.methodLink RX13 253 yX13_skip  ∈ ZALL := zin (i := 2092) (by decide +kernel) rfl
theorem qp_X13_skip : Cond.privateMethod yX13_skip ∈ ZNW := znin (i := 2093) (by decide +kernel) rfl
theorem qi_X13_skip : Cond.instanceMethod yX13_skip ∈ ZALL := zin (i := 2094) (by decide +kernel) rfl
theorem qc_X13_skip : Cond.code yX13_skip cX13_skip (3 : Nat) (Option.none : Option Jvm.ClassFile.FieldType) ∈ ZALL := zin (i := 2095) (by decide +kernel) rfl
theorem qm_X13_238 : Cond.methodLink RX13 238 yJ0_length_8abf5  ∈ ZALL := zin (i := 2096) (by decide +kernel) rfl
theorem qm_X13_249 : Cond.methodLink RX13 249 yJ0_charAt_5068e  ∈ ZALL := zin (i := 2097) (by decide +kernel) rfl
theorem qm_X13_268 : Cond.methodLink RX13 268 yX13_readNumber  ∈ ZALL := zin (i := 2099) (by decide +kernel) rfl
theorem qp_X13_readNumber : Cond.privateMethod yX13_readNumber ∈ ZNW := znin (i := 2100) (by decide +kernel) rfl
theorem qi_X13_readNumber : Cond.instanceMethod yX13_readNumber ∈ ZALL := zin (i := 2101) (by decide +kernel) rfl
theorem qc_X13_readNumber : Cond.code yX13_readNumber cX13_readNumber (4 : Nat) (Option.some FieldType.int) ∈ ZALL := zin (i := 2102) (by decide +kernel) rfl
theorem qm_X13_257 : Cond.methodLink RX13 257 yX13_isDigit  ∈ ZALL := zin (i := 2103) (by decide +kernel) rfl
theorem qp_X13_isDigit : Cond.privateMethod yX13_isDigit ∈ ZNW := znin (i := 2104) (by decide +kernel) rfl
theorem qi_X13_isDigit : Cond.instanceMethod yX13_isDigit ∈ ZALL := zin (i := 2105) (by decide +kernel) rfl
theorem qc_X13_isDigit : Cond.code yX13_isDigit cX13_isDigit (1 : Nat) (Option.some FieldType.boolean) ∈ ZALL := zin (i := 2106) (by decide +kernel) rfl
theorem qm_X13_283 : Cond.methodLink RX13 283 yX13_does  ∈ ZALL := zin (i := 2111) (by decide +kernel) rfl
theorem qp_X13_does : Cond.privateMethod yX13_does ∈ ZNW := znin (i := 2112) (by decide +kernel) rfl
theorem qi_X13_does : Cond.instanceMethod yX13_does ∈ ZALL := zin (i := 2113) (by decide +kernel) rfl
theorem qc_X13_does : Cond.code yX13_does cX13_does (4 : Nat) (Option.none : Option Jvm.ClassFile.FieldType) ∈ ZALL := zin (i := 2114) (by decide +kernel) rfl
theorem qm_L_322 : Cond.methodLink RL 322 yX13_errorPosition  ∈ ZALL := zin (i := 2115) (by decide +kernel) rfl
theorem qi_X13_errorPosition : Cond.instanceMethod yX13_errorPosition ∈ ZALL := zin (i := 2116) (by decide +kernel) rfl
theorem qs_X13_errorPosition : Cond.selects RX13 yX13_errorPosition yX13_errorPosition ∈ ZALL := zin (i := 2117) (by decide +kernel) rfl
theorem qc_X13_errorPosition : Cond.code yX13_errorPosition cX13_errorPosition (1 : Nat) (Option.some FieldType.int) ∈ ZALL := zin (i := 2118) (by decide +kernel) rfl
theorem qm_L_325 : Cond.methodLink RL 325 yX13_failedCommand  ∈ ZALL := zin (i := 2119) (by decide +kernel) rfl
theorem qi_X13_failedCommand : Cond.instanceMethod yX13_failedCommand ∈ ZALL := zin (i := 2120) (by decide +kernel) rfl
theorem qs_X13_failedCommand : Cond.selects RX13 yX13_failedCommand yX13_failedCommand ∈ ZALL := zin (i := 2121) (by decide +kernel) rfl
theorem qc_X13_failedCommand : Cond.code yX13_failedCommand cX13_failedCommand (1 : Nat) (Option.some FieldType.int) ∈ ZALL := zin (i := 2122) (by decide +kernel) rfl
theorem qm_L_328 : Cond.methodLink RL 328 yX13_undo  ∈ ZALL := zin (i := 2123) (by decide +kernel) rfl
theorem qi_X13_undo : Cond.instanceMethod yX13_undo ∈ ZALL := zin (i := 2124) (by decide +kernel) rfl
theorem qs_X13_undo : Cond.selects RX13 yX13_undo yX13_undo ∈ ZALL := zin (i := 2125) (by decide +kernel) rfl
theorem qc_X13_undo : Cond.code yX13_undo cX13_undo (1 : Nat) (Option.some FieldType.int) ∈ ZALL := zin (i := 2126) (by decide +kernel) rfl
theorem qm_L_332 : Cond.methodLink RL 332 yX13_undoCount  ∈ ZALL := zin (i := 2127) (by decide +kernel) rfl
theorem qi_X13_undoCount : Cond.instanceMethod yX13_undoCount ∈ ZALL := zin (i := 2128) (by decide +kernel) rfl
theorem qs_X13_undoCount : Cond.selects RX13 yX13_undoCount yX13_undoCount ∈ ZALL := zin (i := 2129) (by decide +kernel) rfl
theorem qc_X13_undoCount : Cond.code yX13_undoCount cX13_undoCount (1 : Nat) (Option.some FieldType.int) ∈ ZALL := zin (i := 2130) (by decide +kernel) rfl
theorem qm_L_336 : Cond.methodLink RL 336 yX13_save  ∈ ZALL := zin (i := 2131) (by decide +kernel) rfl
theorem qi_X13_save : Cond.instanceMethod yX13_save ∈ ZALL := zin (i := 2132) (by decide +kernel) rfl
theorem qs_X13_save : Cond.selects RX13 yX13_save yX13_save ∈ ZALL := zin (i := 2133) (by decide +kernel) rfl
theorem qc_X13_save : Cond.code yX13_save cX13_save (1 : Nat) (Option.some FieldType.int) ∈ ZALL := zin (i := 2134) (by decide +kernel) rfl
theorem qm_L_339 : Cond.methodLink RL 339 yX13_restore  ∈ ZALL := zin (i := 2135) (by decide +kernel) rfl
theorem qi_X13_restore : Cond.instanceMethod yX13_restore ∈ ZALL := zin (i := 2136) (by decide +kernel) rfl
theorem qs_X13_restore : Cond.selects RX13 yX13_restore yX13_restore ∈ ZALL := zin (i := 2137) (by decide +kernel) rfl
theorem qc_X13_restore : Cond.code yX13_restore cX13_restore (1 : Nat) (Option.some FieldType.int) ∈ ZALL := zin (i := 2138) (by decide +kernel) rfl
theorem q_2139 : Cond.arrayClass FieldType.long ∈ ZALL := zin (i := 2139) (by decide +kernel) rfl
theorem q_2140 : Cond.arrayClass FieldType.double ∈ ZALL := zin (i := 2140) (by decide +kernel) rfl
theorem q_2141 : Cond.sameMethod "java/lang/Throwable" "java/lang/Throwable" "fillInStackTrace" "(I)Ljava/lang/Throwable;" ∈ ZALL := zin (i := 2141) (by decide +kernel) rfl
theorem q_2142 : Cond.sameMethod "java/lang/AbstractStringBuilder" "java/lang/AbstractStringBuilder" "setLength" "(I)V" ∈ ZALL := zin (i := 2142) (by decide +kernel) rfl
theorem q_2143 : Cond.sameMethod "java/lang/AbstractStringBuilder" "java/lang/AbstractStringBuilder" "append" "(Ljava/lang/String;)Ljava/lang/AbstractStringBuilder;" ∈ ZALL := zin (i := 2143) (by decide +kernel) rfl
theorem q_2144 : Cond.sameMethod "java/lang/AbstractStringBuilder" "java/lang/AbstractStringBuilder" "appendNull" "()Ljava/lang/AbstractStringBuilder;" ∈ ZALL := zin (i := 2144) (by decide +kernel) rfl
theorem q_2145 : Cond.sameMethod "java/lang/AbstractStringBuilder" "java/lang/AbstractStringBuilder" "ensureCapacityInternal" "(I)V" ∈ ZALL := zin (i := 2145) (by decide +kernel) rfl
theorem q_2146 : Cond.sameMethod "java/lang/AbstractStringBuilder" "java/lang/AbstractStringBuilder" "newCapacity" "(I)I" ∈ ZALL := zin (i := 2146) (by decide +kernel) rfl
theorem q_2147 : Cond.sameMethod "java/lang/AbstractStringBuilder" "java/lang/AbstractStringBuilder" "putStringAt" "(ILjava/lang/String;)V" ∈ ZALL := zin (i := 2147) (by decide +kernel) rfl
theorem q_2148 : Cond.sameMethod "java/lang/AbstractStringBuilder" "java/lang/AbstractStringBuilder" "inflateIfNeededFor" "(Ljava/lang/String;)V" ∈ ZALL := zin (i := 2148) (by decide +kernel) rfl
theorem q_2149 : Cond.sameMethod "java/lang/AbstractStringBuilder" "java/lang/AbstractStringBuilder" "inflate" "()V" ∈ ZALL := zin (i := 2149) (by decide +kernel) rfl
theorem q_2150 : Cond.sameMethod "java/lang/AbstractStringBuilder" "java/lang/AbstractStringBuilder" "append" "(I)Ljava/lang/AbstractStringBuilder;" ∈ ZALL := zin (i := 2150) (by decide +kernel) rfl
theorem q_2151 : Cond.sameMethod "java/lang/AbstractStringBuilder" "java/lang/AbstractStringBuilder" "append" "(C)Ljava/lang/AbstractStringBuilder;" ∈ ZALL := zin (i := 2151) (by decide +kernel) rfl
theorem qs_J4_length_8abf5 : Cond.selects RJ4 yJ4_length_8abf5 yJ4_length_8abf5 ∈ ZALL := zin (i := 2152) (by decide +kernel) rfl
theorem q_2153 : Cond.sameMethod "java/lang/AbstractStringBuilder" "java/lang/AbstractStringBuilder" "charAt" "(I)C" ∈ ZALL := zin (i := 2153) (by decide +kernel) rfl
theorem q_2154 : Cond.castable "java/lang/ArrayIndexOutOfBoundsException" "java/lang/IndexOutOfBoundsException" ∈ ZNW := znin (i := 2154) (by decide +kernel) rfl
theorem q_2155 : Cond.castable "java/lang/StringIndexOutOfBoundsException" "java/lang/IndexOutOfBoundsException" ∈ ZNW := znin (i := 2155) (by decide +kernel) rfl
theorem q_2156 : Cond.castable "StoneGazette$Word" "java/lang/Object" ∈ ZNW := znin (i := 2156) (by decide +kernel) rfl
theorem q_2157 : Cond.castable "StoneGazette$Keyword" "java/lang/Object" ∈ ZNW := znin (i := 2157) (by decide +kernel) rfl
theorem q_2158 : Cond.castable "StoneGazette" "java/lang/Object" ∈ ZNW := znin (i := 2158) (by decide +kernel) rfl
theorem q_2159 : Cond.castable "StoneGazette$Buffer" "java/lang/Object" ∈ ZNW := znin (i := 2159) (by decide +kernel) rfl
theorem q_2160 : Cond.castable "java/lang/StringBuilder" "java/lang/Object" ∈ ZNW := znin (i := 2160) (by decide +kernel) rfl
theorem q_2161 : Cond.castable "StoneGazette$LineSetter" "java/lang/Object" ∈ ZNW := znin (i := 2161) (by decide +kernel) rfl
theorem q_2162 : Cond.castable "StoneGazette$EvenBreaker" "java/lang/Object" ∈ ZNW := znin (i := 2162) (by decide +kernel) rfl
theorem q_2163 : Cond.castable "StoneGazette$CommandReader" "java/lang/Object" ∈ ZNW := znin (i := 2163) (by decide +kernel) rfl
theorem q_2164 : Cond.castable "java/util/ArrayList" "java/lang/Object" ∈ ZNW := znin (i := 2164) (by decide +kernel) rfl
theorem q_2165 : Cond.castable "StoneGazette$State" "java/lang/Object" ∈ ZNW := znin (i := 2165) (by decide +kernel) rfl
theorem q_2166 : Cond.castable "StoneGazetteModel" "java/lang/Object" ∈ ZNW := znin (i := 2166) (by decide +kernel) rfl
theorem q_2167 : Cond.castable "java/lang/IllegalArgumentException" "java/lang/Object" ∈ ZNW := znin (i := 2167) (by decide +kernel) rfl
theorem q_2168 : Cond.castable "java/lang/IllegalStateException" "java/lang/Object" ∈ ZNW := znin (i := 2168) (by decide +kernel) rfl
theorem q_2169 : Cond.castable "java/lang/UnsupportedOperationException" "java/lang/Object" ∈ ZNW := znin (i := 2169) (by decide +kernel) rfl
theorem q_2170 : Cond.castable "StoneGazette$Article" "java/lang/Object" ∈ ZNW := znin (i := 2170) (by decide +kernel) rfl
theorem q_2171 : Cond.castable "java/util/NoSuchElementException" "java/lang/Object" ∈ ZNW := znin (i := 2171) (by decide +kernel) rfl
theorem q_2172 : Cond.castable "java/lang/ArrayIndexOutOfBoundsException" "java/lang/Object" ∈ ZNW := znin (i := 2172) (by decide +kernel) rfl
theorem q_2173 : Cond.castable "java/lang/IndexOutOfBoundsException" "java/lang/Object" ∈ ZNW := znin (i := 2173) (by decide +kernel) rfl
theorem q_2174 : Cond.castable "java/lang/StringIndexOutOfBoundsException" "java/lang/Object" ∈ ZNW := znin (i := 2174) (by decide +kernel) rfl
theorem q_2175 : Cond.castable "java/lang/String" "java/lang/Object" ∈ ZNW := znin (i := 2175) (by decide +kernel) rfl
theorem q_2176 : Cond.castable "StoneGazette$Page" "java/lang/Object" ∈ ZNW := znin (i := 2176) (by decide +kernel) rfl
theorem q_2177 : Cond.castable "StoneGazette$Issue" "java/lang/Object" ∈ ZNW := znin (i := 2177) (by decide +kernel) rfl
theorem q_2178 : Cond.castable "java/lang/ArithmeticException" "java/lang/Object" ∈ ZNW := znin (i := 2178) (by decide +kernel) rfl
theorem q_2179 : Cond.castable "StoneGazette$Command" "java/lang/Object" ∈ ZNW := znin (i := 2179) (by decide +kernel) rfl
theorem q_2180 : Cond.castable "java/lang/Throwable" "java/lang/Object" ∈ ZNW := znin (i := 2180) (by decide +kernel) rfl
theorem q_2181 : Cond.sameMethod "[Ljava/lang/Object;" "java/lang/Object" "getClass" "()Ljava/lang/Class;" ∈ ZALL := zin (i := 2181) (by decide +kernel) rfl
theorem qs_java_lang_Object_getClass_d423e__Ljava_lang_Object_ : Cond.selects "[Ljava/lang/Object;" ⟨"java/lang/Object", "getClass", "()Ljava/lang/Class;"⟩ ⟨"java/lang/Object", "getClass", "()Ljava/lang/Class;"⟩ ∈ ZALL := zin (i := 2182) (by decide +kernel) rfl
theorem qd_java_lang_Object_getClass_d423e : Cond.declares ⟨"java/lang/Object", "getClass", "()Ljava/lang/Class;"⟩ ∈ ZNW := znin (i := 2183) (by decide +kernel) rfl
theorem q_2184 : Cond.castable "[C" "java/lang/Object" ∈ ZNW := znin (i := 2184) (by decide +kernel) rfl
theorem q_2185 : Cond.castable "[B" "java/lang/Object" ∈ ZNW := znin (i := 2185) (by decide +kernel) rfl
theorem q_2186 : Cond.castable "[I" "java/lang/Object" ∈ ZNW := znin (i := 2186) (by decide +kernel) rfl
theorem q_2187 : Cond.castable "[Ljava/lang/Object;" "java/lang/Object" ∈ ZNW := znin (i := 2187) (by decide +kernel) rfl
theorem q_2188 : Cond.castable "[LStoneGazette$Word;" "java/lang/Object" ∈ ZNW := znin (i := 2188) (by decide +kernel) rfl
theorem q_2189 : Cond.castable "[Z" "java/lang/Object" ∈ ZNW := znin (i := 2189) (by decide +kernel) rfl
theorem q_2190 : Cond.castable "[J" "java/lang/Object" ∈ ZNW := znin (i := 2190) (by decide +kernel) rfl
theorem q_2191 : Cond.castable "[D" "java/lang/Object" ∈ ZNW := znin (i := 2191) (by decide +kernel) rfl
theorem q_2192 : Cond.castable "[LStoneGazette$Keyword;" "java/lang/Object" ∈ ZNW := znin (i := 2192) (by decide +kernel) rfl
theorem ql_X7_38 : Cond.fieldLink RX7 38 "StoneGazette$Keyword" "letters" "Ljava/lang/String;" ∈ ZALL := zin (i := 2193) (by decide +kernel) rfl
theorem ql_X4_48 : Cond.fieldLinkNest RX4 48 "StoneGazette$Keyword" "letters" "Ljava/lang/String;" "StoneGazette" ∈ ZNW := znin (i := 2194) (by decide +kernel) rfl
theorem ql_X4_57 : Cond.fieldLinkNest RX4 57 "StoneGazette$Keyword" "numbers" "I" "StoneGazette" ∈ ZNW := znin (i := 2195) (by decide +kernel) rfl
theorem ql_Jx29ce0_7 : Cond.fieldLink RJx29ce0 7 "java/lang/Enum" "ordinal" "I" ∈ ZALL := zin (i := 2196) (by decide +kernel) rfl
theorem qs_X12_linesKeepWidth : Cond.selects RX12 yX12_linesKeepWidth yX12_linesKeepWidth ∈ ZALL := List.mem_filter.mpr ⟨List.mem_append_left _ (List.mem_of_getElem? (i := 0) (by decide +kernel)), rfl⟩
theorem qs_X8_place : Cond.selects RX8 yX8_place yX8_place ∈ ZALL := List.mem_filter.mpr ⟨List.mem_append_left _ (List.mem_of_getElem? (i := 1) (by decide +kernel)), rfl⟩
theorem qs_X8_startOf : Cond.selects RX8 yX8_startOf yX8_startOf ∈ ZALL := List.mem_filter.mpr ⟨List.mem_append_left _ (List.mem_of_getElem? (i := 2) (by decide +kernel)), rfl⟩
theorem qs_X8_putPart : Cond.selects RX8 yX8_putPart yX8_putPart ∈ ZALL := List.mem_filter.mpr ⟨List.mem_append_left _ (List.mem_of_getElem? (i := 3) (by decide +kernel)), rfl⟩
theorem qs_X8_putSign : Cond.selects RX8 yX8_putSign yX8_putSign ∈ ZALL := List.mem_filter.mpr ⟨List.mem_append_left _ (List.mem_of_getElem? (i := 4) (by decide +kernel)), rfl⟩
theorem qs_X8_closeLine : Cond.selects RX8 yX8_closeLine yX8_closeLine ∈ ZALL := List.mem_filter.mpr ⟨List.mem_append_left _ (List.mem_of_getElem? (i := 5) (by decide +kernel)), rfl⟩
theorem qs_X8_endOf : Cond.selects RX8 yX8_endOf yX8_endOf ∈ ZALL := List.mem_filter.mpr ⟨List.mem_append_left _ (List.mem_of_getElem? (i := 6) (by decide +kernel)), rfl⟩
theorem qs_X12_badnessesAgree : Cond.selects RX12 yX12_badnessesAgree yX12_badnessesAgree ∈ ZALL := List.mem_filter.mpr ⟨List.mem_append_left _ (List.mem_of_getElem? (i := 7) (by decide +kernel)), rfl⟩
theorem qs_X5_leastBehind : Cond.selects RX5 yX5_leastBehind yX5_leastBehind ∈ ZALL := List.mem_filter.mpr ⟨List.mem_append_left _ (List.mem_of_getElem? (i := 8) (by decide +kernel)), rfl⟩
theorem qs_X5_leastBefore : Cond.selects RX5 yX5_leastBefore yX5_leastBefore ∈ ZALL := List.mem_filter.mpr ⟨List.mem_append_left _ (List.mem_of_getElem? (i := 9) (by decide +kernel)), rfl⟩
theorem qs_java_lang_Throwable_fillInStackTrace_ad160 : Cond.selects "java/lang/Throwable" ⟨"java/lang/Throwable", "fillInStackTrace", "(I)Ljava/lang/Throwable;"⟩ ⟨"java/lang/Throwable", "fillInStackTrace", "(I)Ljava/lang/Throwable;"⟩ ∈ ZALL := List.mem_filter.mpr ⟨List.mem_append_left _ (List.mem_of_getElem? (i := 10) (by decide +kernel)), rfl⟩
theorem qs_Jx4a65c_add_72be8 : Cond.selects RJx4a65c yJx4a65c_add_72be8 yJx4a65c_add_72be8 ∈ ZALL := List.mem_filter.mpr ⟨List.mem_append_left _ (List.mem_of_getElem? (i := 11) (by decide +kernel)), rfl⟩
theorem qs_Jx4a65c_grow_d5877 : Cond.selects RJx4a65c yJx4a65c_grow_d5877 yJx4a65c_grow_d5877 ∈ ZALL := List.mem_filter.mpr ⟨List.mem_append_left _ (List.mem_of_getElem? (i := 12) (by decide +kernel)), rfl⟩
theorem qs_Jx4a65c_grow_92f84 : Cond.selects RJx4a65c yJx4a65c_grow_92f84 yJx4a65c_grow_92f84 ∈ ZALL := List.mem_filter.mpr ⟨List.mem_append_left _ (List.mem_of_getElem? (i := 13) (by decide +kernel)), rfl⟩
theorem qs_X2_countBlanks : Cond.selects RX2 yX2_countBlanks yX2_countBlanks ∈ ZALL := List.mem_filter.mpr ⟨List.mem_append_left _ (List.mem_of_getElem? (i := 14) (by decide +kernel)), rfl⟩
theorem qs_X2_endOfWord : Cond.selects RX2 yX2_endOfWord yX2_endOfWord ∈ ZALL := List.mem_filter.mpr ⟨List.mem_append_left _ (List.mem_of_getElem? (i := 15) (by decide +kernel)), rfl⟩
theorem qs_X12_become : Cond.selects RX12 yX12_become yX12_become ∈ ZALL := List.mem_filter.mpr ⟨List.mem_append_left _ (List.mem_of_getElem? (i := 16) (by decide +kernel)), rfl⟩
theorem qs_Jx4a65c_fastRemove_b59b0 : Cond.selects RJx4a65c yJx4a65c_fastRemove_b59b0 yJx4a65c_fastRemove_b59b0 ∈ ZALL := List.mem_filter.mpr ⟨List.mem_append_left _ (List.mem_of_getElem? (i := 17) (by decide +kernel)), rfl⟩
theorem qs_X10_indexOf : Cond.selects RX10 yX10_indexOf yX10_indexOf ∈ ZALL := List.mem_filter.mpr ⟨List.mem_append_left _ (List.mem_of_getElem? (i := 18) (by decide +kernel)), rfl⟩
theorem qs_X12_knownWord : Cond.selects RX12 yX12_knownWord yX12_knownWord ∈ ZALL := List.mem_filter.mpr ⟨List.mem_append_left _ (List.mem_of_getElem? (i := 19) (by decide +kernel)), rfl⟩
theorem qs_X12_knownArticle : Cond.selects RX12 yX12_knownArticle yX12_knownArticle ∈ ZALL := List.mem_filter.mpr ⟨List.mem_append_left _ (List.mem_of_getElem? (i := 20) (by decide +kernel)), rfl⟩
theorem qs_X10_isInKeptIssue : Cond.selects RX10 yX10_isInKeptIssue yX10_isInKeptIssue ∈ ZALL := List.mem_filter.mpr ⟨List.mem_append_left _ (List.mem_of_getElem? (i := 21) (by decide +kernel)), rfl⟩
theorem qs_X10_countBefore : Cond.selects RX10 yX10_countBefore yX10_countBefore ∈ ZALL := List.mem_filter.mpr ⟨List.mem_append_left _ (List.mem_of_getElem? (i := 22) (by decide +kernel)), rfl⟩
theorem qs_X12_arrangeKnown : Cond.selects RX12 yX12_arrangeKnown yX12_arrangeKnown ∈ ZALL := List.mem_filter.mpr ⟨List.mem_append_left _ (List.mem_of_getElem? (i := 23) (by decide +kernel)), rfl⟩
theorem qs_X12_arrangeKnownLine : Cond.selects RX12 yX12_arrangeKnownLine yX12_arrangeKnownLine ∈ ZALL := List.mem_filter.mpr ⟨List.mem_append_left _ (List.mem_of_getElem? (i := 24) (by decide +kernel)), rfl⟩
theorem qs_X12_knownNarrowArticle : Cond.selects RX12 yX12_knownNarrowArticle yX12_knownNarrowArticle ∈ ZALL := List.mem_filter.mpr ⟨List.mem_append_left _ (List.mem_of_getElem? (i := 25) (by decide +kernel)), rfl⟩
theorem qs_X12_knownIssue : Cond.selects RX12 yX12_knownIssue yX12_knownIssue ∈ ZALL := List.mem_filter.mpr ⟨List.mem_append_left _ (List.mem_of_getElem? (i := 26) (by decide +kernel)), rfl⟩
theorem qs_X12_knownPage : Cond.selects RX12 yX12_knownPage yX12_knownPage ∈ ZALL := List.mem_filter.mpr ⟨List.mem_append_left _ (List.mem_of_getElem? (i := 27) (by decide +kernel)), rfl⟩
theorem qs_X4_readCommand : Cond.selects RX4 yX4_readCommand yX4_readCommand ∈ ZALL := List.mem_filter.mpr ⟨List.mem_append_left _ (List.mem_of_getElem? (i := 28) (by decide +kernel)), rfl⟩
theorem qs_X4_bestKeyword : Cond.selects RX4 yX4_bestKeyword yX4_bestKeyword ∈ ZALL := List.mem_filter.mpr ⟨List.mem_append_left _ (List.mem_of_getElem? (i := 29) (by decide +kernel)), rfl⟩
theorem qs_X4_readNumber : Cond.selects RX4 yX4_readNumber yX4_readNumber ∈ ZALL := List.mem_filter.mpr ⟨List.mem_append_left _ (List.mem_of_getElem? (i := 30) (by decide +kernel)), rfl⟩
theorem qs_X4_readSign : Cond.selects RX4 yX4_readSign yX4_readSign ∈ ZALL := List.mem_filter.mpr ⟨List.mem_append_left _ (List.mem_of_getElem? (i := 31) (by decide +kernel)), rfl⟩
theorem qs_X12_carryOut : Cond.selects RX12 yX12_carryOut yX12_carryOut ∈ ZALL := List.mem_filter.mpr ⟨List.mem_append_left _ (List.mem_of_getElem? (i := 32) (by decide +kernel)), rfl⟩
theorem qs_X13_keep : Cond.selects RX13 yX13_keep yX13_keep ∈ ZALL := List.mem_filter.mpr ⟨List.mem_append_left _ (List.mem_of_getElem? (i := 33) (by decide +kernel)), rfl⟩
theorem qs_X13_doAddArticle : Cond.selects RX13 yX13_doAddArticle yX13_doAddArticle ∈ ZALL := List.mem_filter.mpr ⟨List.mem_append_left _ (List.mem_of_getElem? (i := 34) (by decide +kernel)), rfl⟩
theorem qs_X13_fails : Cond.selects RX13 yX13_fails yX13_fails ∈ ZALL := List.mem_filter.mpr ⟨List.mem_append_left _ (List.mem_of_getElem? (i := 35) (by decide +kernel)), rfl⟩
theorem qs_X13_words : Cond.selects RX13 yX13_words yX13_words ∈ ZALL := List.mem_filter.mpr ⟨List.mem_append_left _ (List.mem_of_getElem? (i := 36) (by decide +kernel)), rfl⟩
theorem qs_X13_sets : Cond.selects RX13 yX13_sets yX13_sets ∈ ZALL := List.mem_filter.mpr ⟨List.mem_append_left _ (List.mem_of_getElem? (i := 37) (by decide +kernel)), rfl⟩
theorem qs_X13_takes : Cond.selects RX13 yX13_takes yX13_takes ∈ ZALL := List.mem_filter.mpr ⟨List.mem_append_left _ (List.mem_of_getElem? (i := 38) (by decide +kernel)), rfl⟩
theorem qs_X13_ends : Cond.selects RX13 yX13_ends yX13_ends ∈ ZALL := List.mem_filter.mpr ⟨List.mem_append_left _ (List.mem_of_getElem? (i := 39) (by decide +kernel)), rfl⟩
theorem qs_X13_doRemoveArticle : Cond.selects RX13 yX13_doRemoveArticle yX13_doRemoveArticle ∈ ZALL := List.mem_filter.mpr ⟨List.mem_append_left _ (List.mem_of_getElem? (i := 40) (by decide +kernel)), rfl⟩
theorem qs_X13_placeOf : Cond.selects RX13 yX13_placeOf yX13_placeOf ∈ ZALL := List.mem_filter.mpr ⟨List.mem_append_left _ (List.mem_of_getElem? (i := 41) (by decide +kernel)), rfl⟩
theorem qs_X13_of : Cond.selects RX13 yX13_of yX13_of ∈ ZALL := List.mem_filter.mpr ⟨List.mem_append_left _ (List.mem_of_getElem? (i := 42) (by decide +kernel)), rfl⟩
theorem qs_X13_doCorrect : Cond.selects RX13 yX13_doCorrect yX13_doCorrect ∈ ZALL := List.mem_filter.mpr ⟨List.mem_append_left _ (List.mem_of_getElem? (i := 43) (by decide +kernel)), rfl⟩
theorem qs_X13_isWord : Cond.selects RX13 yX13_isWord yX13_isWord ∈ ZALL := List.mem_filter.mpr ⟨List.mem_append_left _ (List.mem_of_getElem? (i := 44) (by decide +kernel)), rfl⟩
theorem qs_X13_long1 : Cond.selects RX13 yX13_long1 yX13_long1 ∈ ZALL := List.mem_filter.mpr ⟨List.mem_append_left _ (List.mem_of_getElem? (i := 45) (by decide +kernel)), rfl⟩
theorem qs_X13_firstLine : Cond.selects RX13 yX13_firstLine yX13_firstLine ∈ ZALL := List.mem_filter.mpr ⟨List.mem_append_left _ (List.mem_of_getElem? (i := 46) (by decide +kernel)), rfl⟩
theorem qs_X13_ofIssue : Cond.selects RX13 yX13_ofIssue yX13_ofIssue ∈ ZALL := List.mem_filter.mpr ⟨List.mem_append_left _ (List.mem_of_getElem? (i := 47) (by decide +kernel)), rfl⟩
theorem qs_X13_isPosition : Cond.selects RX13 yX13_isPosition yX13_isPosition ∈ ZALL := List.mem_filter.mpr ⟨List.mem_append_left _ (List.mem_of_getElem? (i := 48) (by decide +kernel)), rfl⟩
theorem qs_X13_isThere : Cond.selects RX13 yX13_isThere yX13_isThere ∈ ZALL := List.mem_filter.mpr ⟨List.mem_append_left _ (List.mem_of_getElem? (i := 49) (by decide +kernel)), rfl⟩
theorem qs_X13_ranked : Cond.selects RX13 yX13_ranked yX13_ranked ∈ ZALL := List.mem_filter.mpr ⟨List.mem_append_left _ (List.mem_of_getElem? (i := 50) (by decide +kernel)), rfl⟩
theorem qs_X13_asksWord : Cond.selects RX13 yX13_asksWord yX13_asksWord ∈ ZALL := List.mem_filter.mpr ⟨List.mem_append_left _ (List.mem_of_getElem? (i := 51) (by decide +kernel)), rfl⟩
theorem qs_X13_divides : Cond.selects RX13 yX13_divides yX13_divides ∈ ZALL := List.mem_filter.mpr ⟨List.mem_append_left _ (List.mem_of_getElem? (i := 52) (by decide +kernel)), rfl⟩
theorem qs_X13_letter : Cond.selects RX13 yX13_letter yX13_letter ∈ ZALL := List.mem_filter.mpr ⟨List.mem_append_left _ (List.mem_of_getElem? (i := 53) (by decide +kernel)), rfl⟩
theorem qs_X13_doSetWidth : Cond.selects RX13 yX13_doSetWidth yX13_doSetWidth ∈ ZALL := List.mem_filter.mpr ⟨List.mem_append_left _ (List.mem_of_getElem? (i := 54) (by decide +kernel)), rfl⟩
theorem qs_X13_setsArticle : Cond.selects RX13 yX13_setsArticle yX13_setsArticle ∈ ZALL := List.mem_filter.mpr ⟨List.mem_append_left _ (List.mem_of_getElem? (i := 55) (by decide +kernel)), rfl⟩
theorem qs_X13_begins : Cond.selects RX13 yX13_begins yX13_begins ∈ ZALL := List.mem_filter.mpr ⟨List.mem_append_left _ (List.mem_of_getElem? (i := 56) (by decide +kernel)), rfl⟩
theorem qs_X13_setsWord : Cond.selects RX13 yX13_setsWord yX13_setsWord ∈ ZALL := List.mem_filter.mpr ⟨List.mem_append_left _ (List.mem_of_getElem? (i := 57) (by decide +kernel)), rfl⟩
theorem qs_X13_putsPart : Cond.selects RX13 yX13_putsPart yX13_putsPart ∈ ZALL := List.mem_filter.mpr ⟨List.mem_append_left _ (List.mem_of_getElem? (i := 58) (by decide +kernel)), rfl⟩
theorem qs_X13_puts : Cond.selects RX13 yX13_puts yX13_puts ∈ ZALL := List.mem_filter.mpr ⟨List.mem_append_left _ (List.mem_of_getElem? (i := 59) (by decide +kernel)), rfl⟩
theorem qs_X13_asksLines : Cond.selects RX13 yX13_asksLines yX13_asksLines ∈ ZALL := List.mem_filter.mpr ⟨List.mem_append_left _ (List.mem_of_getElem? (i := 60) (by decide +kernel)), rfl⟩
theorem qs_X13_asksLine : Cond.selects RX13 yX13_asksLine yX13_asksLine ∈ ZALL := List.mem_filter.mpr ⟨List.mem_append_left _ (List.mem_of_getElem? (i := 61) (by decide +kernel)), rfl⟩
theorem qs_X13_doSetPage : Cond.selects RX13 yX13_doSetPage yX13_doSetPage ∈ ZALL := List.mem_filter.mpr ⟨List.mem_append_left _ (List.mem_of_getElem? (i := 62) (by decide +kernel)), rfl⟩
theorem qs_X13_doPrint : Cond.selects RX13 yX13_doPrint yX13_doPrint ∈ ZALL := List.mem_filter.mpr ⟨List.mem_append_left _ (List.mem_of_getElem? (i := 63) (by decide +kernel)), rfl⟩
theorem qs_X13_issueAt : Cond.selects RX13 yX13_issueAt yX13_issueAt ∈ ZALL := List.mem_filter.mpr ⟨List.mem_append_left _ (List.mem_of_getElem? (i := 64) (by decide +kernel)), rfl⟩
theorem qs_X13_doPassDays : Cond.selects RX13 yX13_doPassDays yX13_doPassDays ∈ ZALL := List.mem_filter.mpr ⟨List.mem_append_left _ (List.mem_of_getElem? (i := 65) (by decide +kernel)), rfl⟩
theorem qs_X13_age : Cond.selects RX13 yX13_age yX13_age ∈ ZALL := List.mem_filter.mpr ⟨List.mem_append_left _ (List.mem_of_getElem? (i := 66) (by decide +kernel)), rfl⟩
theorem qs_X13_fresh : Cond.selects RX13 yX13_fresh yX13_fresh ∈ ZALL := List.mem_filter.mpr ⟨List.mem_append_left _ (List.mem_of_getElem? (i := 67) (by decide +kernel)), rfl⟩
theorem qs_X13_says : Cond.selects RX13 yX13_says yX13_says ∈ ZALL := List.mem_filter.mpr ⟨List.mem_append_left _ (List.mem_of_getElem? (i := 68) (by decide +kernel)), rfl⟩
theorem qs_X13_saysNumber : Cond.selects RX13 yX13_saysNumber yX13_saysNumber ∈ ZALL := List.mem_filter.mpr ⟨List.mem_append_left _ (List.mem_of_getElem? (i := 69) (by decide +kernel)), rfl⟩
theorem qs_X13_readCommand : Cond.selects RX13 yX13_readCommand yX13_readCommand ∈ ZALL := List.mem_filter.mpr ⟨List.mem_append_left _ (List.mem_of_getElem? (i := 70) (by decide +kernel)), rfl⟩
theorem qs_X13_behind : Cond.selects RX13 yX13_behind yX13_behind ∈ ZALL := List.mem_filter.mpr ⟨List.mem_append_left _ (List.mem_of_getElem? (i := 71) (by decide +kernel)), rfl⟩
theorem qs_X13_skip : Cond.selects RX13 yX13_skip yX13_skip ∈ ZALL := List.mem_filter.mpr ⟨List.mem_append_left _ (List.mem_of_getElem? (i := 72) (by decide +kernel)), rfl⟩
theorem qs_X13_readNumber : Cond.selects RX13 yX13_readNumber yX13_readNumber ∈ ZALL := List.mem_filter.mpr ⟨List.mem_append_left _ (List.mem_of_getElem? (i := 73) (by decide +kernel)), rfl⟩
theorem qs_X13_isDigit : Cond.selects RX13 yX13_isDigit yX13_isDigit ∈ ZALL := List.mem_filter.mpr ⟨List.mem_append_left _ (List.mem_of_getElem? (i := 74) (by decide +kernel)), rfl⟩
theorem qs_X13_does : Cond.selects RX13 yX13_does yX13_does ∈ ZALL := List.mem_filter.mpr ⟨List.mem_append_left _ (List.mem_of_getElem? (i := 75) (by decide +kernel)), rfl⟩
theorem in_X1 : ∀ w ∈ wsX10, w ∈ ZALL := by
  intro w hw
  obtain ⟨k, hk, rfl⟩ := List.mem_map.mp hw
  have hk := List.mem_range.mp hk
  match k, hk with
  | 0, _ => exact zin (i := 672) (by decide +kernel) rfl
  | 1, _ => exact zin (i := 674) (by decide +kernel) rfl
  | 2, _ => exact zin (i := 676) (by decide +kernel) rfl
  | k + 3, hk => exact absurd hk (by omega)
theorem in_X2 : ∀ w ∈ wsX20, w ∈ ZALL := by
  intro w hw
  obtain ⟨k, hk, rfl⟩ := List.mem_map.mp hw
  have hk := List.mem_range.mp hk
  match k, hk with
  | 0, _ => exact zin (i := 65) (by decide +kernel) rfl
  | 1, _ => exact zin (i := 67) (by decide +kernel) rfl
  | k + 2, hk => exact absurd hk (by omega)
theorem in_X3 : ∀ w ∈ wsX30, w ∈ ZALL := by
  intro w hw
  obtain ⟨k, hk, rfl⟩ := List.mem_map.mp hw
  have hk := List.mem_range.mp hk
  match k, hk with
  | 0, _ => exact zin (i := 1589) (by decide +kernel) rfl
  | 1, _ => exact zin (i := 1591) (by decide +kernel) rfl
  | 2, _ => exact zin (i := 1593) (by decide +kernel) rfl
  | k + 3, hk => exact absurd hk (by omega)
theorem in_X4 : ∀ w ∈ wsX40, w ∈ ZALL := by
  intro w hw
  obtain ⟨k, hk, rfl⟩ := List.mem_map.mp hw
  have hk := List.mem_range.mp hk
  match k, hk with
  | 0, _ => exact zin (i := 175) (by decide +kernel) rfl
  | 1, _ => exact zin (i := 177) (by decide +kernel) rfl
  | k + 2, hk => exact absurd hk (by omega)
theorem in_X5 : ∀ w ∈ wsX50, w ∈ ZALL := by
  intro w hw
  obtain ⟨k, hk, rfl⟩ := List.mem_map.mp hw
  have hk := List.mem_range.mp hk
  match k, hk with
  | 0, _ => exact zin (i := 136) (by decide +kernel) rfl
  | k + 1, hk => exact absurd hk (by omega)
theorem in_X6 : ∀ w ∈ wsX60, w ∈ ZALL := by
  intro w hw
  obtain ⟨k, hk, rfl⟩ := List.mem_map.mp hw
  have hk := List.mem_range.mp hk
  match k, hk with
  | 0, _ => exact zin (i := 1310) (by decide +kernel) rfl
  | 1, _ => exact zin (i := 1312) (by decide +kernel) rfl
  | 2, _ => exact zin (i := 1314) (by decide +kernel) rfl
  | k + 3, hk => exact absurd hk (by omega)
theorem in_X8 : ∀ w ∈ wsX80, w ∈ ZALL := by
  intro w hw
  obtain ⟨k, hk, rfl⟩ := List.mem_map.mp hw
  have hk := List.mem_range.mp hk
  match k, hk with
  | 0, _ => exact zin (i := 117) (by decide +kernel) rfl
  | 1, _ => exact zin (i := 119) (by decide +kernel) rfl
  | 2, _ => exact zin (i := 121) (by decide +kernel) rfl
  | 3, _ => exact zin (i := 123) (by decide +kernel) rfl
  | 4, _ => exact zin (i := 125) (by decide +kernel) rfl
  | k + 5, hk => exact absurd hk (by omega)
theorem in_X9 : ∀ w ∈ wsX90, w ∈ ZALL := by
  intro w hw
  obtain ⟨k, hk, rfl⟩ := List.mem_map.mp hw
  have hk := List.mem_range.mp hk
  match k, hk with
  | 0, _ => exact zin (i := 1279) (by decide +kernel) rfl
  | 1, _ => exact zin (i := 1281) (by decide +kernel) rfl
  | 2, _ => exact zin (i := 1283) (by decide +kernel) rfl
  | 3, _ => exact zin (i := 1285) (by decide +kernel) rfl
  | 4, _ => exact zin (i := 1287) (by decide +kernel) rfl
  | 5, _ => exact zin (i := 1289) (by decide +kernel) rfl
  | k + 6, hk => exact absurd hk (by omega)
theorem in_X10 : ∀ w ∈ wsX100, w ∈ ZALL := by
  intro w hw
  obtain ⟨k, hk, rfl⟩ := List.mem_map.mp hw
  have hk := List.mem_range.mp hk
  match k, hk with
  | 0, _ => exact zin (i := 205) (by decide +kernel) rfl
  | 1, _ => exact zin (i := 207) (by decide +kernel) rfl
  | 2, _ => exact zin (i := 209) (by decide +kernel) rfl
  | 3, _ => exact zin (i := 211) (by decide +kernel) rfl
  | 4, _ => exact zin (i := 213) (by decide +kernel) rfl
  | 5, _ => exact zin (i := 215) (by decide +kernel) rfl
  | 6, _ => exact zin (i := 217) (by decide +kernel) rfl
  | 7, _ => exact zin (i := 219) (by decide +kernel) rfl
  | 8, _ => exact zin (i := 221) (by decide +kernel) rfl
  | k + 9, hk => exact absurd hk (by omega)
theorem in_X11 : ∀ w ∈ wsX110, w ∈ ZALL := by
  intro w hw
  obtain ⟨k, hk, rfl⟩ := List.mem_map.mp hw
  have hk := List.mem_range.mp hk
  match k, hk with
  | 0, _ => exact zin (i := 648) (by decide +kernel) rfl
  | 1, _ => exact zin (i := 650) (by decide +kernel) rfl
  | k + 2, hk => exact absurd hk (by omega)
theorem in_X12 : ∀ w ∈ wsX120, w ∈ ZALL := by
  intro w hw
  obtain ⟨k, hk, rfl⟩ := List.mem_map.mp hw
  have hk := List.mem_range.mp hk
  match k, hk with
  | 0, _ => exact zin (i := 235) (by decide +kernel) rfl
  | 1, _ => exact zin (i := 237) (by decide +kernel) rfl
  | 2, _ => exact zin (i := 239) (by decide +kernel) rfl
  | 3, _ => exact zin (i := 241) (by decide +kernel) rfl
  | 4, _ => exact zin (i := 243) (by decide +kernel) rfl
  | 5, _ => exact zin (i := 245) (by decide +kernel) rfl
  | 6, _ => exact zin (i := 247) (by decide +kernel) rfl
  | 7, _ => exact zin (i := 249) (by decide +kernel) rfl
  | 8, _ => exact zin (i := 251) (by decide +kernel) rfl
  | 9, _ => exact zin (i := 253) (by decide +kernel) rfl
  | 10, _ => exact zin (i := 255) (by decide +kernel) rfl
  | k + 11, hk => exact absurd hk (by omega)
theorem in_X13 : ∀ w ∈ wsX130, w ∈ ZALL := by
  intro w hw
  obtain ⟨k, hk, rfl⟩ := List.mem_map.mp hw
  have hk := List.mem_range.mp hk
  match k, hk with
  | 0, _ => exact zin (i := 1675) (by decide +kernel) rfl
  | 1, _ => exact zin (i := 1677) (by decide +kernel) rfl
  | 2, _ => exact zin (i := 1679) (by decide +kernel) rfl
  | 3, _ => exact zin (i := 1681) (by decide +kernel) rfl
  | 4, _ => exact zin (i := 1683) (by decide +kernel) rfl
  | 5, _ => exact zin (i := 1685) (by decide +kernel) rfl
  | 6, _ => exact zin (i := 1687) (by decide +kernel) rfl
  | 7, _ => exact zin (i := 1689) (by decide +kernel) rfl
  | 8, _ => exact zin (i := 1691) (by decide +kernel) rfl
  | 9, _ => exact zin (i := 1693) (by decide +kernel) rfl
  | 10, _ => exact zin (i := 1695) (by decide +kernel) rfl
  | 11, _ => exact zin (i := 1697) (by decide +kernel) rfl
  | 12, _ => exact zin (i := 1699) (by decide +kernel) rfl
  | 13, _ => exact zin (i := 1701) (by decide +kernel) rfl
  | 14, _ => exact zin (i := 1703) (by decide +kernel) rfl
  | 15, _ => exact zin (i := 1705) (by decide +kernel) rfl
  | 16, _ => exact zin (i := 1707) (by decide +kernel) rfl
  | 17, _ => exact zin (i := 1709) (by decide +kernel) rfl
  | 18, _ => exact zin (i := 1711) (by decide +kernel) rfl
  | 19, _ => exact zin (i := 1713) (by decide +kernel) rfl
  | 20, _ => exact zin (i := 1715) (by decide +kernel) rfl
  | 21, _ => exact zin (i := 1717) (by decide +kernel) rfl
  | 22, _ => exact zin (i := 1719) (by decide +kernel) rfl
  | 23, _ => exact zin (i := 1721) (by decide +kernel) rfl
  | k + 24, hk => exact absurd hk (by omega)
theorem in_Jx00060 : ∀ w ∈ wsJx000600, w ∈ ZALL := by
  intro w hw
  obtain ⟨k, hk, rfl⟩ := List.mem_map.mp hw
  have hk := List.mem_range.mp hk
  match k, hk with
  | 0, _ => exact zin (i := 737) (by decide +kernel) rfl
  | 1, _ => exact zin (i := 738) (by decide +kernel) rfl
  | 2, _ => exact zin (i := 739) (by decide +kernel) rfl
  | 3, _ => exact zin (i := 740) (by decide +kernel) rfl
  | 4, _ => exact zin (i := 741) (by decide +kernel) rfl
  | 5, _ => exact zin (i := 742) (by decide +kernel) rfl
  | k + 6, hk => exact absurd hk (by omega)
theorem in_J0 : ∀ w ∈ wsJ00, w ∈ ZALL := by
  intro w hw
  obtain ⟨k, hk, rfl⟩ := List.mem_map.mp hw
  have hk := List.mem_range.mp hk
  match k, hk with
  | 0, _ => exact zin (i := 749) (by decide +kernel) rfl
  | 1, _ => exact zin (i := 751) (by decide +kernel) rfl
  | 2, _ => exact zin (i := 1148) (by decide +kernel) rfl
  | 3, _ => exact zin (i := 1150) (by decide +kernel) rfl
  | k + 4, hk => exact absurd hk (by omega)
theorem in_J4 : ∀ w ∈ wsJ40, w ∈ ZALL := by
  intro w hw
  obtain ⟨k, hk, rfl⟩ := List.mem_map.mp hw
  have hk := List.mem_range.mp hk
  match k, hk with
  | 0, _ => exact zin (i := 94) (by decide +kernel) rfl
  | 1, _ => exact zin (i := 96) (by decide +kernel) rfl
  | 2, _ => exact zin (i := 98) (by decide +kernel) rfl
  | 3, _ => exact zin (i := 100) (by decide +kernel) rfl
  | k + 4, hk => exact absurd hk (by omega)
theorem in_Jx7c733 : ∀ w ∈ wsJx7c7330, w ∈ ZALL := by
  intro w hw
  obtain ⟨k, hk, rfl⟩ := List.mem_map.mp hw
  have hk := List.mem_range.mp hk
  match k, hk with
  | 0, _ => exact zin (i := 1154) (by decide +kernel) rfl
  | 1, _ => exact zin (i := 1155) (by decide +kernel) rfl
  | 2, _ => exact zin (i := 1156) (by decide +kernel) rfl
  | 3, _ => exact zin (i := 1157) (by decide +kernel) rfl
  | 4, _ => exact zin (i := 1158) (by decide +kernel) rfl
  | 5, _ => exact zin (i := 1159) (by decide +kernel) rfl
  | k + 6, hk => exact absurd hk (by omega)
theorem in_Jx4a65c : ∀ w ∈ wsJx4a65c0, w ∈ ZALL := by
  intro w hw
  obtain ⟨k, hk, rfl⟩ := List.mem_map.mp hw
  have hk := List.mem_range.mp hk
  match k, hk with
  | 0, _ => exact zin (i := 168) (by decide +kernel) rfl
  | 1, _ => exact zin (i := 164) (by decide +kernel) rfl
  | 2, _ => exact zin (i := 166) (by decide +kernel) rfl
  | k + 3, hk => exact absurd hk (by omega)
