/-! the rows of the methods, by name -/
abbrev y_0 : mc_T := ((⟨"CascadeStore", "<init>", "()V"⟩, prog_1_method_1_code, 1, none, []), 0, cd_0)
set_option maxRecDepth 100000 in
theorem my_0 : mc[0]? = some y_0 := rfl
abbrev y_1 : mc_T := ((⟨"CascadeStore$Tape", "<init>", "()V"⟩, prog_11_method_1_code, 1, none, []), 1, cd_1)
set_option maxRecDepth 100000 in
theorem my_1 : mc[1]? = some y_1 := rfl
abbrev y_2 : mc_T := ((⟨"CascadeStore$Store", "<init>", "()V"⟩, prog_10_method_1_code, 1, none, []), 2, cd_2)
set_option maxRecDepth 100000 in
theorem my_2 : mc[2]? = some y_2 := rfl
abbrev y_3 : mc_T := ((⟨"CascadeStore$Rows", "<init>", "()V"⟩, prog_7_method_1_code, 1, none, []), 3, cd_3)
set_option maxRecDepth 100000 in
theorem my_3 : mc[3]? = some y_3 := rfl
abbrev y_4 : mc_T := ((⟨"CascadeStore$StatementReader", "<init>", "(LCascadeStore$Tape;LCascadeStore$Store;)V"⟩, prog_9_method_1_code, 3, none, []), 4, cd_4)
set_option maxRecDepth 100000 in
theorem my_4 : mc[4]? = some y_4 := rfl
abbrev y_5 : mc_T := ((⟨"CascadeStore$FormulaReader", "<init>", "(LCascadeStore$Tape;LCascadeStore$Store;)V"⟩, prog_6_method_1_code, 3, none, []), 5, cd_5)
set_option maxRecDepth 100000 in
theorem my_5 : mc[5]? = some y_5 := rfl
abbrev y_6 : mc_T := ((⟨"CascadeStore$Engine", "<init>", "(LCascadeStore$Store;)V"⟩, prog_4_method_1_code, 2, none, []), 6, cd_6)
set_option maxRecDepth 100000 in
theorem my_6 : mc[6]? = some y_6 := rfl
abbrev y_7 : mc_T := ((⟨"java/util/Arrays", "fill", "([IIII)V"⟩, prog_33_method_104_code, 5, none, []), 17, cd_7)
set_option maxRecDepth 100000 in
theorem my_7 : mc[7]? = some y_7 := rfl
abbrev y_8 : mc_T := ((⟨"java/util/Arrays", "rangeCheck", "(III)V"⟩, prog_33_method_30_code, 3, none, []), 17, cd_8)
set_option maxRecDepth 100000 in
theorem my_8 : mc[8]? = some y_8 := rfl
abbrev y_9 : mc_T := ((⟨"CascadeStore", "run", "()I"⟩, prog_1_method_3_code, 4, (some .int), [(20, 29, 32, 64)]), 0, cd_9)
set_option maxRecDepth 100000 in
theorem my_9 : mc[9]? = some y_9 := rfl
abbrev y_10 : mc_T := ((⟨"CascadeStore$Rows", "total", "()I"⟩, prog_7_method_3_code, 3, (some .int), []), 3, cd_10)
set_option maxRecDepth 100000 in
theorem my_10 : mc[10]? = some y_10 := rfl
abbrev y_11 : mc_T := ((⟨"CascadeStore$Engine", "startAnew", "()V"⟩, prog_4_method_2_code, 1, none, []), 6, cd_11)
set_option maxRecDepth 100000 in
theorem my_11 : mc[11]? = some y_11 := rfl
abbrev y_12 : mc_T := ((⟨"CascadeStore$StatementReader", "read", "()V"⟩, prog_9_method_3_code, 1, none, []), 4, cd_12)
set_option maxRecDepth 100000 in
theorem my_12 : mc[12]? = some y_12 := rfl
abbrev y_13 : mc_T := ((⟨"CascadeStore$Tape", "scan", "()V"⟩, prog_11_method_3_code, 5, none, []), 1, cd_13)
set_option maxRecDepth 100000 in
theorem my_13 : mc[13]? = some y_13 := rfl
abbrev y_14 : mc_T := ((⟨"CascadeStore$Tape", "behindBlanks", "(I)I"⟩, prog_11_method_8_code, 3, (some .int), []), 1, cd_14)
set_option maxRecDepth 100000 in
theorem my_14 : mc[14]? = some y_14 := rfl
abbrev y_15 : mc_T := ((⟨"CascadeStore$Tape", "behindToken", "(I)I"⟩, prog_11_method_9_code, 3, (some .int), []), 1, cd_15)
set_option maxRecDepth 100000 in
theorem my_15 : mc[15]? = some y_15 := rfl
abbrev y_16 : mc_T := ((⟨"CascadeStore$Tape", "isLetter", "(I)Z"⟩, prog_11_method_12_code, 2, (some .boolean), []), 1, cd_16)
set_option maxRecDepth 100000 in
theorem my_16 : mc[16]? = some y_16 := rfl
abbrev y_17 : mc_T := ((⟨"CascadeStore$Tape", "isFigure", "(I)Z"⟩, prog_11_method_13_code, 2, (some .boolean), []), 1, cd_17)
set_option maxRecDepth 100000 in
theorem my_17 : mc[17]? = some y_17 := rfl
abbrev y_18 : mc_T := ((⟨"CascadeStore$Tape", "valueOf", "(II)J"⟩, prog_11_method_10_code, 7, (some .long), []), 1, cd_18)
set_option maxRecDepth 100000 in
theorem my_18 : mc[18]? = some y_18 := rfl
abbrev y_19 : mc_T := ((⟨"CascadeStore$Tape", "kindOf", "(IIJ)LCascadeStore$Token;"⟩, prog_11_method_11_code, 6, (some (.object "CascadeStore$Token")), []), 1, cd_19)
set_option maxRecDepth 100000 in
theorem my_19 : mc[19]? = some y_19 := rfl
abbrev y_20 : mc_T := ((⟨"CascadeStore$Token", "spelt", "(J)LCascadeStore$Token;"⟩, prog_12_method_4_code, 3, (some (.object "CascadeStore$Token")), []), 15, cd_20)
set_option maxRecDepth 100000 in
theorem my_20 : mc[20]? = some y_20 := rfl
abbrev y_21 : mc_T := ((⟨"CascadeStore$Tape", "next", "()V"⟩, prog_11_method_4_code, 1, none, []), 1, cd_21)
set_option maxRecDepth 100000 in
theorem my_21 : mc[21]? = some y_21 := rfl
abbrev y_22 : mc_T := ((⟨"CascadeStore$FormulaReader", "startStatement", "(Z)V"⟩, prog_6_method_2_code, 2, none, []), 5, cd_22)
set_option maxRecDepth 100000 in
theorem my_22 : mc[22]? = some y_22 := rfl
abbrev y_23 : mc_T := ((⟨"CascadeStore$Store", "nodes", "()I"⟩, prog_10_method_18_code, 3, (some .int), []), 2, cd_23)
set_option maxRecDepth 100000 in
theorem my_23 : mc[23]? = some y_23 := rfl
abbrev y_24 : mc_T := ((⟨"CascadeStore$Rule", "nodes", "()I"⟩, prog_8_method_3_code, 1, (some .int), []), 7, cd_24)
set_option maxRecDepth 100000 in
theorem my_24 : mc[24]? = some y_24 := rfl
abbrev y_25 : mc_T := ((⟨"CascadeStore$Formula", "nodes", "()I"⟩, prog_5_method_2_code, 1, (some .int), []), 8, cd_25)
set_option maxRecDepth 100000 in
theorem my_25 : mc[25]? = some y_25 := rfl
abbrev y_26 : mc_T := ((⟨"CascadeStore$Trigger", "nodes", "()I"⟩, prog_13_method_2_code, 1, (some .int), []), 10, cd_26)
set_option maxRecDepth 100000 in
theorem my_26 : mc[26]? = some y_26 := rfl
abbrev y_27 : mc_T := ((⟨"CascadeStore$Act", "nodes", "()I"⟩, prog_3_method_2_code, 3, (some .int), []), 9, cd_27)
set_option maxRecDepth 100000 in
theorem my_27 : mc[27]? = some y_27 := rfl
abbrev y_28 : mc_T := ((⟨"java/lang/Enum", "ordinal", "()I"⟩, prog_19_method_2_code, 1, (some .int), []), 18, cd_28)
set_option maxRecDepth 100000 in
theorem my_28 : mc[28]? = some y_28 := rfl
abbrev y_29 : mc_T := ((⟨"CascadeStore$StatementReader", "readTable", "()V"⟩, prog_9_method_4_code, 4, none, []), 4, cd_29)
set_option maxRecDepth 100000 in
theorem my_29 : mc[29]? = some y_29 := rfl
abbrev y_30 : mc_T := ((⟨"CascadeStore$StatementReader", "readNewName", "(LCascadeStore$Token;)J"⟩, prog_9_method_5_code, 5, (some .long), []), 4, cd_30)
set_option maxRecDepth 100000 in
theorem my_30 : mc[30]? = some y_30 := rfl
abbrev y_31 : mc_T := ((⟨"CascadeStore$Tape", "refuse", "(I)V"⟩, prog_11_method_7_code, 2, none, []), 1, cd_31)
set_option maxRecDepth 100000 in
theorem my_31 : mc[31]? = some y_31 := rfl
abbrev y_32 : mc_T := ((⟨"CascadeStore$Store", "tableNamed", "(J)I"⟩, prog_10_method_8_code, 4, (some .int), []), 2, cd_32)
set_option maxRecDepth 100000 in
theorem my_32 : mc[32]? = some y_32 := rfl
abbrev y_33 : mc_T := ((⟨"CascadeStore$Store", "hasTable", "(I)Z"⟩, prog_10_method_3_code, 2, (some .boolean), []), 2, cd_33)
set_option maxRecDepth 100000 in
theorem my_33 : mc[33]? = some y_33 := rfl
abbrev y_34 : mc_T := ((⟨"CascadeStore$Store", "triggerNamed", "(J)I"⟩, prog_10_method_10_code, 4, (some .int), []), 2, cd_34)
set_option maxRecDepth 100000 in
theorem my_34 : mc[34]? = some y_34 := rfl
abbrev y_35 : mc_T := ((⟨"CascadeStore$Store", "freeTable", "()I"⟩, prog_10_method_12_code, 2, (some .int), []), 2, cd_35)
set_option maxRecDepth 100000 in
theorem my_35 : mc[35]? = some y_35 := rfl
abbrev y_36 : mc_T := ((⟨"CascadeStore$Store", "freeTrigger", "()I"⟩, prog_10_method_14_code, 2, (some .int), []), 2, cd_36)
set_option maxRecDepth 100000 in
theorem my_36 : mc[36]? = some y_36 := rfl
abbrev y_37 : mc_T := ((⟨"CascadeStore$Store", "addTable", "(J)I"⟩, prog_10_method_19_code, 4, (some .int), []), 2, cd_37)
set_option maxRecDepth 100000 in
theorem my_37 : mc[37]? = some y_37 := rfl
abbrev y_38 : mc_T := ((⟨"CascadeStore$Tape", "expect", "(LCascadeStore$Token;)V"⟩, prog_11_method_6_code, 2, none, []), 1, cd_38)
set_option maxRecDepth 100000 in
theorem my_38 : mc[38]? = some y_38 := rfl
abbrev y_39 : mc_T := ((⟨"CascadeStore$StatementReader", "readItem", "()V"⟩, prog_9_method_6_code, 2, none, []), 4, cd_39)
set_option maxRecDepth 100000 in
theorem my_39 : mc[39]? = some y_39 := rfl
abbrev y_40 : mc_T := ((⟨"CascadeStore$StatementReader", "readNewColumn", "()V"⟩, prog_9_method_7_code, 3, none, []), 4, cd_40)
set_option maxRecDepth 100000 in
theorem my_40 : mc[40]? = some y_40 := rfl
abbrev y_41 : mc_T := ((⟨"CascadeStore$Store", "columnNamed", "(IJ)I"⟩, prog_10_method_9_code, 5, (some .int), []), 2, cd_41)
set_option maxRecDepth 100000 in
theorem my_41 : mc[41]? = some y_41 := rfl
abbrev y_42 : mc_T := ((⟨"CascadeStore$Store", "addColumn", "(IJ)I"⟩, prog_10_method_20_code, 5, (some .int), []), 2, cd_42)
set_option maxRecDepth 100000 in
theorem my_42 : mc[42]? = some y_42 := rfl
abbrev y_43 : mc_T := ((⟨"CascadeStore$Store", "widthOf", "(I)I"⟩, prog_10_method_5_code, 2, (some .int), []), 2, cd_43)
set_option maxRecDepth 100000 in
theorem my_43 : mc[43]? = some y_43 := rfl
abbrev y_44 : mc_T := ((⟨"CascadeStore$Tape", "skip", "(LCascadeStore$Token;)Z"⟩, prog_11_method_5_code, 2, (some .boolean), []), 1, cd_44)
set_option maxRecDepth 100000 in
theorem my_44 : mc[44]? = some y_44 := rfl
abbrev y_45 : mc_T := ((⟨"CascadeStore$StatementReader", "readInt", "()J"⟩, prog_9_method_8_code, 4, (some .long), []), 4, cd_45)
set_option maxRecDepth 100000 in
theorem my_45 : mc[45]? = some y_45 := rfl
abbrev y_46 : mc_T := ((⟨"CascadeStore$Store", "setDefault", "(IIJ)V"⟩, prog_10_method_21_code, 5, none, []), 2, cd_46)
set_option maxRecDepth 100000 in
theorem my_46 : mc[46]? = some y_46 := rfl
abbrev y_47 : mc_T := ((⟨"CascadeStore$Store", "hasColumn", "(II)Z"⟩, prog_10_method_4_code, 3, (some .boolean), []), 2, cd_47)
set_option maxRecDepth 100000 in
theorem my_47 : mc[47]? = some y_47 := rfl
abbrev y_48 : mc_T := ((⟨"CascadeStore$StatementReader", "addRule", "(I)LCascadeStore$Rule;"⟩, prog_9_method_9_code, 3, (some (.object "CascadeStore$Rule")), []), 4, cd_48)
set_option maxRecDepth 100000 in
theorem my_48 : mc[48]? = some y_48 := rfl
abbrev y_49 : mc_T := ((⟨"CascadeStore$Store", "freeRule", "()I"⟩, prog_10_method_13_code, 2, (some .int), []), 2, cd_49)
set_option maxRecDepth 100000 in
theorem my_49 : mc[49]? = some y_49 := rfl
abbrev y_50 : mc_T := ((⟨"CascadeStore$Store", "addRule", "(III)LCascadeStore$Rule;"⟩, prog_10_method_23_code, 5, (some (.object "CascadeStore$Rule")), []), 2, cd_50)
set_option maxRecDepth 100000 in
theorem my_50 : mc[50]? = some y_50 := rfl
abbrev y_51 : mc_T := ((⟨"CascadeStore$Rule", "<init>", "(II)V"⟩, prog_8_method_1_code, 3, none, []), 7, cd_51)
set_option maxRecDepth 100000 in
theorem my_51 : mc[51]? = some y_51 := rfl
abbrev y_52 : mc_T := ((⟨"CascadeStore$StatementReader", "readKey", "(I)V"⟩, prog_9_method_10_code, 3, none, []), 4, cd_52)
set_option maxRecDepth 100000 in
theorem my_52 : mc[52]? = some y_52 := rfl
abbrev y_53 : mc_T := ((⟨"CascadeStore$StatementReader", "readNames", "(I[I)I"⟩, prog_9_method_13_code, 6, (some .int), []), 4, cd_53)
set_option maxRecDepth 100000 in
theorem my_53 : mc[53]? = some y_53 := rfl
abbrev y_54 : mc_T := ((⟨"CascadeStore$StatementReader", "readColumnName", "(I[II)I"⟩, prog_9_method_14_code, 6, (some .int), []), 4, cd_54)
set_option maxRecDepth 100000 in
theorem my_54 : mc[54]? = some y_54 := rfl
abbrev y_55 : mc_T := ((⟨"CascadeStore$FormulaReader", "wholeTest", "()LCascadeStore$Formula;"⟩, prog_6_method_3_code, 1, (some (.object "CascadeStore$Formula")), []), 5, cd_55)
set_option maxRecDepth 100000 in
theorem my_55 : mc[55]? = some y_55 := rfl
abbrev y_56 : mc_T := ((⟨"CascadeStore$FormulaReader", "readTest", "()V"⟩, prog_6_method_6_code, 2, none, []), 5, cd_56)
set_option maxRecDepth 100000 in
theorem my_56 : mc[56]? = some y_56 := rfl
abbrev y_57 : mc_T := ((⟨"CascadeStore$FormulaReader", "readBoth", "()V"⟩, prog_6_method_7_code, 2, none, []), 5, cd_57)
set_option maxRecDepth 100000 in
theorem my_57 : mc[57]? = some y_57 := rfl
abbrev y_58 : mc_T := ((⟨"CascadeStore$FormulaReader", "readUnit", "()V"⟩, prog_6_method_8_code, 2, none, []), 5, cd_58)
set_option maxRecDepth 100000 in
theorem my_58 : mc[58]? = some y_58 := rfl
abbrev y_59 : mc_T := ((⟨"CascadeStore$FormulaReader", "goIn", "()V"⟩, prog_6_method_17_code, 1, none, []), 5, cd_59)
set_option maxRecDepth 100000 in
theorem my_59 : mc[59]? = some y_59 := rfl
abbrev y_60 : mc_T := ((⟨"CascadeStore$FormulaReader", "spendNode", "()V"⟩, prog_6_method_18_code, 1, none, []), 5, cd_60)
set_option maxRecDepth 100000 in
theorem my_60 : mc[60]? = some y_60 := rfl
abbrev y_61 : mc_T := ((⟨"CascadeStore$FormulaReader", "emit", "(II)V"⟩, prog_6_method_19_code, 3, none, []), 5, cd_61)
set_option maxRecDepth 100000 in
theorem my_61 : mc[61]? = some y_61 := rfl
abbrev y_62 : mc_T := ((⟨"CascadeStore$FormulaReader", "readSum", "()V"⟩, prog_6_method_11_code, 3, none, []), 5, cd_62)
set_option maxRecDepth 100000 in
theorem my_62 : mc[62]? = some y_62 := rfl
abbrev y_63 : mc_T := ((⟨"CascadeStore$FormulaReader", "readTerm", "()V"⟩, prog_6_method_12_code, 3, none, []), 5, cd_63)
set_option maxRecDepth 100000 in
theorem my_63 : mc[63]? = some y_63 := rfl
abbrev y_64 : mc_T := ((⟨"CascadeStore$FormulaReader", "readFactor", "()V"⟩, prog_6_method_13_code, 3, none, []), 5, cd_64)
set_option maxRecDepth 100000 in
theorem my_64 : mc[64]? = some y_64 := rfl
abbrev y_65 : mc_T := ((⟨"CascadeStore$FormulaReader", "columnOf", "(I)I"⟩, prog_6_method_16_code, 3, (some .int), []), 5, cd_65)
set_option maxRecDepth 100000 in
theorem my_65 : mc[65]? = some y_65 := rfl
abbrev y_66 : mc_T := ((⟨"CascadeStore$FormulaReader", "refuseWithoutRow", "(I)V"⟩, prog_6_method_15_code, 2, none, []), 5, cd_66)
set_option maxRecDepth 100000 in
theorem my_66 : mc[66]? = some y_66 := rfl
abbrev y_67 : mc_T := ((⟨"CascadeStore$FormulaReader", "readInner", "()V"⟩, prog_6_method_14_code, 1, none, []), 5, cd_67)
set_option maxRecDepth 100000 in
theorem my_67 : mc[67]? = some y_67 := rfl
abbrev y_68 : mc_T := ((⟨"CascadeStore$FormulaReader", "comparisonMeant", "()I"⟩, prog_6_method_10_code, 1, (some .int), []), 5, cd_68)
set_option maxRecDepth 100000 in
theorem my_68 : mc[68]? = some y_68 := rfl
abbrev y_69 : mc_T := ((⟨"CascadeStore$FormulaReader", "readNullOrSome", "()V"⟩, prog_6_method_9_code, 2, none, []), 5, cd_69)
set_option maxRecDepth 100000 in
theorem my_69 : mc[69]? = some y_69 := rfl
abbrev y_70 : mc_T := ((⟨"CascadeStore$FormulaReader", "built", "()LCascadeStore$Formula;"⟩, prog_6_method_5_code, 2, (some (.object "CascadeStore$Formula")), []), 5, cd_70)
set_option maxRecDepth 100000 in
theorem my_70 : mc[70]? = some y_70 := rfl
abbrev y_71 : mc_T := ((⟨"java/util/Arrays", "copyOf", "([II)[I"⟩, prog_33_method_123_code, 3, (some (.array .int)), []), 17, cd_71)
set_option maxRecDepth 100000 in
theorem my_71 : mc[71]? = some y_71 := rfl
abbrev y_72 : mc_T := ((⟨"CascadeStore$Formula", "<init>", "([I[IZ)V"⟩, prog_5_method_1_code, 4, none, []), 8, cd_72)
set_option maxRecDepth 100000 in
theorem my_72 : mc[72]? = some y_72 := rfl
abbrev y_73 : mc_T := ((⟨"CascadeStore$StatementReader", "readRefer", "()V"⟩, prog_9_method_11_code, 3, none, []), 4, cd_73)
set_option maxRecDepth 100000 in
theorem my_73 : mc[73]? = some y_73 := rfl
abbrev y_74 : mc_T := ((⟨"CascadeStore$StatementReader", "readTableName", "()I"⟩, prog_9_method_15_code, 2, (some .int), []), 4, cd_74)
set_option maxRecDepth 100000 in
theorem my_74 : mc[74]? = some y_74 := rfl
abbrev y_75 : mc_T := ((⟨"CascadeStore$Store", "isKey", "(I[II)Z"⟩, prog_10_method_26_code, 5, (some .boolean), []), 2, cd_75)
set_option maxRecDepth 100000 in
theorem my_75 : mc[75]? = some y_75 := rfl
abbrev y_76 : mc_T := ((⟨"CascadeStore$Rule", "isKeyOf", "([II)Z"⟩, prog_8_method_4_code, 4, (some .boolean), []), 7, cd_76)
set_option maxRecDepth 100000 in
theorem my_76 : mc[76]? = some y_76 := rfl
abbrev y_77 : mc_T := ((⟨"CascadeStore$StatementReader", "readAction", "()I"⟩, prog_9_method_12_code, 2, (some .int), []), 4, cd_77)
set_option maxRecDepth 100000 in
theorem my_77 : mc[77]? = some y_77 := rfl
abbrev y_78 : mc_T := ((⟨"CascadeStore$StatementReader", "readTrigger", "()V"⟩, prog_9_method_16_code, 8, none, []), 4, cd_78)
set_option maxRecDepth 100000 in
theorem my_78 : mc[78]? = some y_78 := rfl
abbrev y_79 : mc_T := ((⟨"CascadeStore$StatementReader", "readEvent", "()I"⟩, prog_9_method_17_code, 2, (some .int), []), 4, cd_79)
set_option maxRecDepth 100000 in
theorem my_79 : mc[79]? = some y_79 := rfl
abbrev y_80 : mc_T := ((⟨"CascadeStore$StatementReader", "eventMeant", "()I"⟩, prog_9_method_18_code, 1, (some .int), []), 4, cd_80)
set_option maxRecDepth 100000 in
theorem my_80 : mc[80]? = some y_80 := rfl
abbrev y_81 : mc_T := ((⟨"CascadeStore$StatementReader", "readLet", "(III)LCascadeStore$Act;"⟩, prog_9_method_19_code, 5, (some (.object "CascadeStore$Act")), []), 4, cd_81)
set_option maxRecDepth 100000 in
theorem my_81 : mc[81]? = some y_81 := rfl
abbrev y_82 : mc_T := ((⟨"CascadeStore$Act", "<init>", "(II)V"⟩, prog_3_method_1_code, 3, none, []), 9, cd_82)
set_option maxRecDepth 100000 in
theorem my_82 : mc[82]? = some y_82 := rfl
abbrev y_83 : mc_T := ((⟨"CascadeStore$FormulaReader", "wholeSum", "()LCascadeStore$Formula;"⟩, prog_6_method_4_code, 1, (some (.object "CascadeStore$Formula")), []), 5, cd_83)
set_option maxRecDepth 100000 in
theorem my_83 : mc[83]? = some y_83 := rfl
abbrev y_84 : mc_T := ((⟨"CascadeStore$StatementReader", "readRaise", "()LCascadeStore$Act;"⟩, prog_9_method_20_code, 2, (some (.object "CascadeStore$Act")), []), 4, cd_84)
set_option maxRecDepth 100000 in
theorem my_84 : mc[84]? = some y_84 := rfl
abbrev y_85 : mc_T := ((⟨"CascadeStore$StatementReader", "readChange", "()LCascadeStore$Act;"⟩, prog_9_method_21_code, 3, (some (.object "CascadeStore$Act")), []), 4, cd_85)
set_option maxRecDepth 100000 in
theorem my_85 : mc[85]? = some y_85 := rfl
abbrev y_86 : mc_T := ((⟨"CascadeStore$StatementReader", "readParts", "(LCascadeStore$Act;)V"⟩, prog_9_method_22_code, 6, none, []), 4, cd_86)
set_option maxRecDepth 100000 in
theorem my_86 : mc[86]? = some y_86 := rfl
abbrev y_87 : mc_T := ((⟨"CascadeStore$StatementReader", "readSettings", "(LCascadeStore$Act;)V"⟩, prog_9_method_23_code, 4, none, []), 4, cd_87)
set_option maxRecDepth 100000 in
theorem my_87 : mc[87]? = some y_87 := rfl
abbrev y_88 : mc_T := ((⟨"CascadeStore$Trigger", "<init>", "(JIIILCascadeStore$Formula;LCascadeStore$Act;)V"⟩, prog_13_method_1_code, 8, none, []), 10, cd_88)
set_option maxRecDepth 100000 in
theorem my_88 : mc[88]? = some y_88 := rfl
abbrev y_89 : mc_T := ((⟨"CascadeStore$StatementReader", "readDrop", "()V"⟩, prog_9_method_24_code, 1, none, []), 4, cd_89)
set_option maxRecDepth 100000 in
theorem my_89 : mc[89]? = some y_89 := rfl
abbrev y_90 : mc_T := ((⟨"CascadeStore$StatementReader", "readNameThere", "()V"⟩, prog_9_method_26_code, 1, none, []), 4, cd_90)
set_option maxRecDepth 100000 in
theorem my_90 : mc[90]? = some y_90 := rfl
abbrev y_91 : mc_T := ((⟨"CascadeStore$StatementReader", "readBack", "()V"⟩, prog_9_method_25_code, 1, none, []), 4, cd_91)
set_option maxRecDepth 100000 in
theorem my_91 : mc[91]? = some y_91 := rfl
abbrev y_92 : mc_T := ((⟨"CascadeStore$Store", "markNamed", "(J)I"⟩, prog_10_method_11_code, 4, (some .int), []), 2, cd_92)
set_option maxRecDepth 100000 in
theorem my_92 : mc[92]? = some y_92 := rfl
abbrev y_93 : mc_T := ((⟨"CascadeStore$StatementReader", "readMark", "()V"⟩, prog_9_method_27_code, 1, none, []), 4, cd_93)
set_option maxRecDepth 100000 in
theorem my_93 : mc[93]? = some y_93 := rfl
abbrev y_94 : mc_T := ((⟨"CascadeStore$StatementReader", "readWhich", "()V"⟩, prog_9_method_28_code, 3, none, []), 4, cd_94)
set_option maxRecDepth 100000 in
theorem my_94 : mc[94]? = some y_94 := rfl
abbrev y_95 : mc_T := ((⟨"CascadeStore$StatementReader", "readRuleNumber", "()V"⟩, prog_9_method_29_code, 3, none, []), 4, cd_95)
set_option maxRecDepth 100000 in
theorem my_95 : mc[95]? = some y_95 := rfl
abbrev y_96 : mc_T := ((⟨"CascadeStore$Store", "ruleAt", "(I)LCascadeStore$Rule;"⟩, prog_10_method_6_code, 2, (some (.object "CascadeStore$Rule")), []), 2, cd_96)
set_option maxRecDepth 100000 in
theorem my_96 : mc[96]? = some y_96 := rfl
abbrev y_97 : mc_T := ((⟨"CascadeStore$StatementReader", "undo", "()V"⟩, prog_9_method_2_code, 1, none, []), 4, cd_97)
set_option maxRecDepth 100000 in
theorem my_97 : mc[97]? = some y_97 := rfl
abbrev y_98 : mc_T := ((⟨"CascadeStore$Store", "dropTable", "(I)V"⟩, prog_10_method_28_code, 3, none, []), 2, cd_98)
set_option maxRecDepth 100000 in
theorem my_98 : mc[98]? = some y_98 := rfl
abbrev y_99 : mc_T := ((⟨"CascadeStore$Rows", "empty", "(I)V"⟩, prog_7_method_15_code, 2, none, []), 3, cd_99)
set_option maxRecDepth 100000 in
theorem my_99 : mc[99]? = some y_99 := rfl
abbrev y_100 : mc_T := ((⟨"CascadeStore", "carryOut", "()I"⟩, prog_1_method_14_code, 1, (some .int), []), 0, cd_100)
set_option maxRecDepth 100000 in
theorem my_100 : mc[100]? = some y_100 := rfl
abbrev y_101 : mc_T := ((⟨"CascadeStore", "isPossible", "()Z"⟩, prog_1_method_13_code, 1, (some .boolean), []), 0, cd_101)
set_option maxRecDepth 100000 in
theorem my_101 : mc[101]? = some y_101 := rfl
abbrev y_102 : mc_T := ((⟨"CascadeStore$Store", "isFreeToGo", "(I)Z"⟩, prog_10_method_27_code, 3, (some .boolean), []), 2, cd_102)
set_option maxRecDepth 100000 in
theorem my_102 : mc[102]? = some y_102 := rfl
abbrev y_103 : mc_T := ((⟨"CascadeStore$Store", "addTrigger", "(ILCascadeStore$Trigger;)V"⟩, prog_10_method_24_code, 3, none, []), 2, cd_103)
set_option maxRecDepth 100000 in
theorem my_103 : mc[103]? = some y_103 := rfl
abbrev y_104 : mc_T := ((⟨"CascadeStore$Store", "dropTrigger", "(I)V"⟩, prog_10_method_25_code, 2, none, []), 2, cd_104)
set_option maxRecDepth 100000 in
theorem my_104 : mc[104]? = some y_104 := rfl
abbrev y_105 : mc_T := ((⟨"CascadeStore$Engine", "change", "(LCascadeStore$Act;)I"⟩, prog_4_method_3_code, 3, (some .int), [(11, 17, 20, 56)]), 6, cd_105)
set_option maxRecDepth 100000 in
theorem my_105 : mc[105]? = some y_105 := rfl
abbrev y_106 : mc_T := ((⟨"CascadeStore$Rows", "copyFrom", "(LCascadeStore$Rows;)V"⟩, prog_7_method_14_code, 5, none, []), 3, cd_106)
set_option maxRecDepth 100000 in
theorem my_106 : mc[106]? = some y_106 := rfl
abbrev y_107 : mc_T := ((⟨"CascadeStore$Rows", "sizeOf", "(I)I"⟩, prog_7_method_4_code, 2, (some .int), []), 3, cd_107)
set_option maxRecDepth 100000 in
theorem my_107 : mc[107]? = some y_107 := rfl
abbrev y_108 : mc_T := ((⟨"CascadeStore$Rows", "placeOf", "(II)I"⟩, prog_7_method_2_code, 2, (some .int), []), 3, cd_108)
set_option maxRecDepth 100000 in
theorem my_108 : mc[108]? = some y_108 := rfl
abbrev y_109 : mc_T := ((⟨"CascadeStore$Engine", "perform", "(LCascadeStore$Act;I)V"⟩, prog_4_method_6_code, 4, none, []), 6, cd_109)
set_option maxRecDepth 100000 in
theorem my_109 : mc[109]? = some y_109 := rfl
abbrev y_110 : mc_T := ((⟨"CascadeStore$Store", "defaultOf", "(II)J"⟩, prog_10_method_22_code, 3, (some .long), []), 2, cd_110)
set_option maxRecDepth 100000 in
theorem my_110 : mc[110]? = some y_110 := rfl
abbrev y_111 : mc_T := ((⟨"CascadeStore$Engine", "worked", "(LCascadeStore$Formula;II)J"⟩, prog_4_method_9_code, 6, (some .long), []), 6, cd_111)
set_option maxRecDepth 100000 in
theorem my_111 : mc[111]? = some y_111 := rfl
abbrev y_112 : mc_T := ((⟨"CascadeStore$Formula", "work", "([JI[J[J)J"⟩, prog_5_method_3_code, 8, (some .long), []), 8, cd_112)
set_option maxRecDepth 100000 in
theorem my_112 : mc[112]? = some y_112 := rfl
abbrev y_113 : mc_T := ((⟨"CascadeStore$Formula", "leaf", "(II[JI[J[J)J"⟩, prog_5_method_4_code, 7, (some .long), []), 8, cd_113)
set_option maxRecDepth 100000 in
theorem my_113 : mc[113]? = some y_113 := rfl
abbrev y_114 : mc_T := ((⟨"CascadeStore$Formula", "element", "([JI)J"⟩, prog_5_method_5_code, 2, (some .long), []), 8, cd_114)
set_option maxRecDepth 100000 in
theorem my_114 : mc[114]? = some y_114 := rfl
abbrev y_115 : mc_T := ((⟨"CascadeStore$Formula", "ofOne", "(IJ)J"⟩, prog_5_method_6_code, 3, (some .long), []), 8, cd_115)
set_option maxRecDepth 100000 in
theorem my_115 : mc[115]? = some y_115 := rfl
abbrev y_116 : mc_T := ((⟨"CascadeStore$Formula", "ofTwo", "(IJJ)J"⟩, prog_5_method_7_code, 6, (some .long), []), 8, cd_116)
set_option maxRecDepth 100000 in
theorem my_116 : mc[116]? = some y_116 := rfl
abbrev y_117 : mc_T := ((⟨"CascadeStore$Formula", "compared", "(IJJ)Z"⟩, prog_5_method_8_code, 5, (some .boolean), []), 8, cd_117)
set_option maxRecDepth 100000 in
theorem my_117 : mc[117]? = some y_117 := rfl
abbrev y_118 : mc_T := ((⟨"CascadeStore$Formula", "reckoned", "(IJJ)J"⟩, prog_5_method_9_code, 6, (some .long), []), 8, cd_118)
set_option maxRecDepth 100000 in
theorem my_118 : mc[118]? = some y_118 := rfl
abbrev y_119 : mc_T := ((⟨"CascadeStore$Engine", "stop", "(I)V"⟩, prog_4_method_5_code, 2, none, []), 6, cd_119)
set_option maxRecDepth 100000 in
theorem my_119 : mc[119]? = some y_119 := rfl
abbrev y_120 : mc_T := ((⟨"CascadeStore$Engine", "insertRow", "(II)V"⟩, prog_4_method_12_code, 3, none, []), 6, cd_120)
set_option maxRecDepth 100000 in
theorem my_120 : mc[120]? = some y_120 := rfl
abbrev y_121 : mc_T := ((⟨"CascadeStore$Engine", "beginStep", "(I)V"⟩, prog_4_method_11_code, 2, none, []), 6, cd_121)
set_option maxRecDepth 100000 in
theorem my_121 : mc[121]? = some y_121 := rfl
abbrev y_122 : mc_T := ((⟨"CascadeStore$Engine", "fire", "(IIII)V"⟩, prog_4_method_15_code, 7, none, []), 6, cd_122)
set_option maxRecDepth 100000 in
theorem my_122 : mc[122]? = some y_122 := rfl
abbrev y_123 : mc_T := ((⟨"CascadeStore$Store", "triggerAt", "(I)LCascadeStore$Trigger;"⟩, prog_10_method_7_code, 2, (some (.object "CascadeStore$Trigger")), []), 2, cd_123)
set_option maxRecDepth 100000 in
theorem my_123 : mc[123]? = some y_123 := rfl
abbrev y_124 : mc_T := ((⟨"CascadeStore$Trigger", "isFor", "(III)Z"⟩, prog_13_method_3_code, 4, (some .boolean), []), 10, cd_124)
set_option maxRecDepth 100000 in
theorem my_124 : mc[124]? = some y_124 := rfl
abbrev y_125 : mc_T := ((⟨"CascadeStore$Engine", "isYes", "(LCascadeStore$Formula;II)Z"⟩, prog_4_method_10_code, 4, (some .boolean), []), 6, cd_125)
set_option maxRecDepth 100000 in
theorem my_125 : mc[125]? = some y_125 := rfl
abbrev y_126 : mc_T := ((⟨"CascadeStore$Rows", "isFull", "(I)Z"⟩, prog_7_method_9_code, 2, (some .boolean), []), 3, cd_126)
set_option maxRecDepth 100000 in
theorem my_126 : mc[126]? = some y_126 := rfl
abbrev y_127 : mc_T := ((⟨"CascadeStore$Rows", "append", "(I[J)V"⟩, prog_7_method_10_code, 4, none, []), 3, cd_127)
set_option maxRecDepth 100000 in
theorem my_127 : mc[127]? = some y_127 := rfl
abbrev y_128 : mc_T := ((⟨"CascadeStore$Rows", "write", "(II[J)V"⟩, prog_7_method_11_code, 4, none, []), 3, cd_128)
set_option maxRecDepth 100000 in
theorem my_128 : mc[128]? = some y_128 := rfl
abbrev y_129 : mc_T := ((⟨"CascadeStore$Rows", "hasRow", "(II)Z"⟩, prog_7_method_5_code, 3, (some .boolean), []), 3, cd_129)
set_option maxRecDepth 100000 in
theorem my_129 : mc[129]? = some y_129 := rfl
abbrev y_130 : mc_T := ((⟨"CascadeStore$Engine", "changeFound", "(LCascadeStore$Act;I)V"⟩, prog_4_method_7_code, 7, none, []), 6, cd_130)
set_option maxRecDepth 100000 in
theorem my_130 : mc[130]? = some y_130 := rfl
abbrev y_131 : mc_T := ((⟨"CascadeStore$Rows", "rowId", "(II)I"⟩, prog_7_method_6_code, 3, (some .int), []), 3, cd_131)
set_option maxRecDepth 100000 in
theorem my_131 : mc[131]? = some y_131 := rfl
abbrev y_132 : mc_T := ((⟨"CascadeStore$Rows", "rowWith", "(II)I"⟩, prog_7_method_8_code, 4, (some .int), []), 3, cd_132)
set_option maxRecDepth 100000 in
theorem my_132 : mc[132]? = some y_132 := rfl
abbrev y_133 : mc_T := ((⟨"CascadeStore$Rows", "load", "(II[J)V"⟩, prog_7_method_12_code, 4, none, []), 3, cd_133)
set_option maxRecDepth 100000 in
theorem my_133 : mc[133]? = some y_133 := rfl
abbrev y_134 : mc_T := ((⟨"CascadeStore$Engine", "deleteRow", "(III)V"⟩, prog_4_method_14_code, 5, none, []), 6, cd_134)
set_option maxRecDepth 100000 in
theorem my_134 : mc[134]? = some y_134 := rfl
abbrev y_135 : mc_T := ((⟨"CascadeStore$Rows", "remove", "(II)V"⟩, prog_7_method_13_code, 5, none, []), 3, cd_135)
set_option maxRecDepth 100000 in
theorem my_135 : mc[135]? = some y_135 := rfl
abbrev y_136 : mc_T := ((⟨"CascadeStore$Engine", "follow", "(IIII)V"⟩, prog_4_method_16_code, 8, none, []), 6, cd_136)
set_option maxRecDepth 100000 in
theorem my_136 : mc[136]? = some y_136 := rfl
abbrev y_137 : mc_T := ((⟨"CascadeStore$Rule", "isTouched", "([J[J)Z"⟩, prog_8_method_8_code, 6, (some .boolean), []), 7, cd_137)
set_option maxRecDepth 100000 in
theorem my_137 : mc[137]? = some y_137 := rfl
abbrev y_138 : mc_T := ((⟨"CascadeStore$Engine", "followRule", "(ILCascadeStore$Rule;IIII)V"⟩, prog_4_method_17_code, 11, none, []), 6, cd_138)
set_option maxRecDepth 100000 in
theorem my_138 : mc[138]? = some y_138 := rfl
abbrev y_139 : mc_T := ((⟨"CascadeStore$Rule", "isReferring", "(LCascadeStore$Rows;I[J)Z"⟩, prog_8_method_9_code, 6, (some .boolean), []), 7, cd_139)
set_option maxRecDepth 100000 in
theorem my_139 : mc[139]? = some y_139 := rfl
abbrev y_140 : mc_T := ((⟨"CascadeStore$Rows", "cell", "(III)J"⟩, prog_7_method_7_code, 4, (some .long), []), 3, cd_140)
set_option maxRecDepth 100000 in
theorem my_140 : mc[140]? = some y_140 := rfl
abbrev y_141 : mc_T := ((⟨"CascadeStore$Engine", "setReferring", "(LCascadeStore$Rule;II)V"⟩, prog_4_method_18_code, 7, none, []), 6, cd_141)
set_option maxRecDepth 100000 in
theorem my_141 : mc[141]? = some y_141 := rfl
abbrev y_142 : mc_T := ((⟨"CascadeStore$Engine", "put", "([JIJ)V"⟩, prog_4_method_19_code, 4, none, []), 6, cd_142)
set_option maxRecDepth 100000 in
theorem my_142 : mc[142]? = some y_142 := rfl
abbrev y_143 : mc_T := ((⟨"CascadeStore$Engine", "updateRow", "(III)V"⟩, prog_4_method_13_code, 5, none, []), 6, cd_143)
set_option maxRecDepth 100000 in
theorem my_143 : mc[143]? = some y_143 := rfl
abbrev y_144 : mc_T := ((⟨"CascadeStore$Engine", "setColumns", "(LCascadeStore$Act;II)V"⟩, prog_4_method_8_code, 5, none, []), 6, cd_144)
set_option maxRecDepth 100000 in
theorem my_144 : mc[144]? = some y_144 := rfl
abbrev y_145 : mc_T := ((⟨"CascadeStore$Engine", "look", "(I)I"⟩, prog_4_method_4_code, 5, (some .int), []), 6, cd_145)
set_option maxRecDepth 100000 in
theorem my_145 : mc[145]? = some y_145 := rfl
abbrev y_146 : mc_T := ((⟨"CascadeStore$Rule", "firstBreaker", "(LCascadeStore$Rows;)I"⟩, prog_8_method_5_code, 4, (some .int), []), 7, cd_146)
set_option maxRecDepth 100000 in
theorem my_146 : mc[146]? = some y_146 := rfl
abbrev y_147 : mc_T := ((⟨"CascadeStore$Rule", "hasNull", "(LCascadeStore$Rows;I)Z"⟩, prog_8_method_6_code, 4, (some .boolean), []), 7, cd_147)
set_option maxRecDepth 100000 in
theorem my_147 : mc[147]? = some y_147 := rfl
abbrev y_148 : mc_T := ((⟨"CascadeStore$Rule", "isThere", "(LCascadeStore$Rows;II[II)Z"⟩, prog_8_method_7_code, 9, (some .boolean), []), 7, cd_148)
set_option maxRecDepth 100000 in
theorem my_148 : mc[148]? = some y_148 := rfl
abbrev y_149 : mc_T := ((⟨"CascadeStore$Store", "begin", "()V"⟩, prog_10_method_30_code, 1, none, []), 2, cd_149)
set_option maxRecDepth 100000 in
theorem my_149 : mc[149]? = some y_149 := rfl
abbrev y_150 : mc_T := ((⟨"CascadeStore$Store", "rulesThatMayWait", "()I"⟩, prog_10_method_29_code, 3, (some .int), []), 2, cd_150)
set_option maxRecDepth 100000 in
theorem my_150 : mc[150]? = some y_150 := rfl
abbrev y_151 : mc_T := ((⟨"CascadeStore$Store", "copyInto", "(LCascadeStore$Rows;)LCascadeStore$Rows;"⟩, prog_10_method_37_code, 3, (some (.object "CascadeStore$Rows")), []), 2, cd_151)
set_option maxRecDepth 100000 in
theorem my_151 : mc[151]? = some y_151 := rfl
abbrev y_152 : mc_T := ((⟨"CascadeStore$Store", "afterCommit", "(I)I"⟩, prog_10_method_32_code, 2, (some .int), []), 2, cd_152)
set_option maxRecDepth 100000 in
theorem my_152 : mc[152]? = some y_152 := rfl
abbrev y_153 : mc_T := ((⟨"CascadeStore$Store", "endTransaction", "()V"⟩, prog_10_method_34_code, 1, none, []), 2, cd_153)
set_option maxRecDepth 100000 in
theorem my_153 : mc[153]? = some y_153 := rfl
abbrev y_154 : mc_T := ((⟨"CascadeStore$Store", "back", "()V"⟩, prog_10_method_31_code, 1, none, []), 2, cd_154)
set_option maxRecDepth 100000 in
theorem my_154 : mc[154]? = some y_154 := rfl
abbrev y_155 : mc_T := ((⟨"CascadeStore$Store", "backTo", "(I)V"⟩, prog_10_method_36_code, 2, none, []), 2, cd_155)
set_option maxRecDepth 100000 in
theorem my_155 : mc[155]? = some y_155 := rfl
abbrev y_156 : mc_T := ((⟨"CascadeStore$Store", "addMark", "(J)V"⟩, prog_10_method_35_code, 6, none, []), 2, cd_156)
set_option maxRecDepth 100000 in
theorem my_156 : mc[156]? = some y_156 := rfl
abbrev y_157 : mc_T := ((⟨"CascadeStore$Store", "afterNow", "(II)I"⟩, prog_10_method_33_code, 3, (some .int), []), 2, cd_157)
set_option maxRecDepth 100000 in
theorem my_157 : mc[157]? = some y_157 := rfl
abbrev y_158 : mc_T := ((⟨"CascadeStore", "note", "(II)V"⟩, prog_1_method_15_code, 3, none, []), 0, cd_158)
set_option maxRecDepth 100000 in
theorem my_158 : mc[158]? = some y_158 := rfl
abbrev y_159 : mc_T := ((⟨"CascadeStore", "clear", "()V"⟩, prog_1_method_12_code, 1, none, []), 0, cd_159)
set_option maxRecDepth 100000 in
theorem my_159 : mc[159]? = some y_159 := rfl
abbrev y_160 : mc_T := ((⟨"CascadeStore$Store", "reset", "()V"⟩, prog_10_method_2_code, 2, none, []), 2, cd_160)
set_option maxRecDepth 100000 in
theorem my_160 : mc[160]? = some y_160 := rfl
abbrev y_161 : mc_T := ((⟨"java/util/Arrays", "fill", "([II)V"⟩, prog_33_method_103_code, 4, none, []), 17, cd_161)
set_option maxRecDepth 100000 in
theorem my_161 : mc[161]? = some y_161 := rfl
abbrev y_162 : mc_T := ((⟨"CascadeStoreLaw", "feed", "(LCascadeStore;JI[J)I"⟩, method_3_code, 6, (some .int), [(0, 11, 14, 13), (0, 11, 18, 15)]), 16, cd_162)
set_option maxRecDepth 100000 in
theorem my_162 : mc[162]? = some y_162 := rfl
abbrev y_163 : mc_T := ((⟨"CascadeStore", "feed", "(JI)I"⟩, prog_1_method_2_code, 4, (some .int), []), 0, cd_163)
set_option maxRecDepth 100000 in
theorem my_163 : mc[163]? = some y_163 := rfl
abbrev y_164 : mc_T := ((⟨"CascadeStore$Tape", "append", "(JI)V"⟩, prog_11_method_2_code, 5, none, []), 1, cd_164)
set_option maxRecDepth 100000 in
theorem my_164 : mc[164]? = some y_164 := rfl
abbrev y_165 : mc_T := ((⟨"CascadeStoreLaw", "told", "(LCascadeStore;I[J)I"⟩, method_4_code, 4, (some .int), [(0, 9, 12, 13)]), 16, cd_165)
set_option maxRecDepth 100000 in
theorem my_165 : mc[165]? = some y_165 := rfl
abbrev y_166 : mc_T := ((⟨"CascadeStore", "told", "(I)I"⟩, prog_1_method_4_code, 2, (some .int), []), 0, cd_166)
set_option maxRecDepth 100000 in
theorem my_166 : mc[166]? = some y_166 := rfl
abbrev y_167 : mc_T := ((⟨"CascadeStoreLaw", "count", "(LCascadeStore;I[J)I"⟩, method_5_code, 4, (some .int), [(0, 9, 12, 13)]), 16, cd_167)
set_option maxRecDepth 100000 in
theorem my_167 : mc[167]? = some y_167 := rfl
abbrev y_168 : mc_T := ((⟨"CascadeStore", "count", "(I)I"⟩, prog_1_method_5_code, 2, (some .int), []), 0, cd_168)
set_option maxRecDepth 100000 in
theorem my_168 : mc[168]? = some y_168 := rfl
abbrev y_169 : mc_T := ((⟨"CascadeStore$Store", "tablesThere", "()I"⟩, prog_10_method_15_code, 3, (some .int), []), 2, cd_169)
set_option maxRecDepth 100000 in
theorem my_169 : mc[169]? = some y_169 := rfl
abbrev y_170 : mc_T := ((⟨"CascadeStore$Store", "rulesThere", "()I"⟩, prog_10_method_16_code, 3, (some .int), []), 2, cd_170)
set_option maxRecDepth 100000 in
theorem my_170 : mc[170]? = some y_170 := rfl
abbrev y_171 : mc_T := ((⟨"CascadeStore$Store", "triggersThere", "()I"⟩, prog_10_method_17_code, 3, (some .int), []), 2, cd_171)
set_option maxRecDepth 100000 in
theorem my_171 : mc[171]? = some y_171 := rfl
abbrev y_172 : mc_T := ((⟨"CascadeStoreLaw", "find", "(LCascadeStore;IJ[J)I"⟩, method_6_code, 6, (some .int), [(0, 11, 14, 13)]), 16, cd_172)
set_option maxRecDepth 100000 in
theorem my_172 : mc[172]? = some y_172 := rfl
abbrev y_173 : mc_T := ((⟨"CascadeStore", "find", "(IJ)I"⟩, prog_1_method_6_code, 4, (some .int), []), 0, cd_173)
set_option maxRecDepth 100000 in
theorem my_173 : mc[173]? = some y_173 := rfl
abbrev y_174 : mc_T := ((⟨"CascadeStoreLaw", "table", "(LCascadeStore;II[J)I"⟩, method_7_code, 5, (some .int), [(0, 9, 12, 32), (0, 9, 16, 13)]), 16, cd_174)
set_option maxRecDepth 100000 in
theorem my_174 : mc[174]? = some y_174 := rfl
abbrev y_175 : mc_T := ((⟨"CascadeStore", "table", "(II)J"⟩, prog_1_method_7_code, 3, (some .long), []), 0, cd_175)
set_option maxRecDepth 100000 in
theorem my_175 : mc[175]? = some y_175 := rfl
abbrev y_176 : mc_T := ((⟨"CascadeStoreLaw", "value", "(LCascadeStore;III[J)I"⟩, method_8_code, 6, (some .int), [(0, 11, 14, 32)]), 16, cd_176)
set_option maxRecDepth 100000 in
theorem my_176 : mc[176]? = some y_176 := rfl
abbrev y_177 : mc_T := ((⟨"CascadeStore", "value", "(III)J"⟩, prog_1_method_8_code, 4, (some .long), []), 0, cd_177)
set_option maxRecDepth 100000 in
theorem my_177 : mc[177]? = some y_177 := rfl
abbrev y_178 : mc_T := ((⟨"CascadeStoreLaw", "rule", "(LCascadeStore;II[J)I"⟩, method_9_code, 5, (some .int), [(0, 10, 13, 32), (0, 10, 17, 13)]), 16, cd_178)
set_option maxRecDepth 100000 in
theorem my_178 : mc[178]? = some y_178 := rfl
abbrev y_179 : mc_T := ((⟨"CascadeStore", "rule", "(II)I"⟩, prog_1_method_9_code, 4, (some .int), []), 0, cd_179)
set_option maxRecDepth 100000 in
theorem my_179 : mc[179]? = some y_179 := rfl
abbrev y_180 : mc_T := ((⟨"CascadeStore$Rule", "columnBits", "()I"⟩, prog_8_method_2_code, 3, (some .int), []), 7, cd_180)
set_option maxRecDepth 100000 in
theorem my_180 : mc[180]? = some y_180 := rfl
abbrev y_181 : mc_T := ((⟨"CascadeStoreLaw", "trigger", "(LCascadeStore;II[J)I"⟩, method_10_code, 5, (some .int), [(0, 9, 12, 32), (0, 9, 16, 13)]), 16, cd_181)
set_option maxRecDepth 100000 in
theorem my_181 : mc[181]? = some y_181 := rfl
abbrev y_182 : mc_T := ((⟨"CascadeStore", "trigger", "(II)J"⟩, prog_1_method_10_code, 4, (some .long), []), 0, cd_182)
set_option maxRecDepth 100000 in
theorem my_182 : mc[182]? = some y_182 := rfl
abbrev y_183 : mc_T := ((⟨"CascadeStoreLaw", "broken", "(LCascadeStore;I[J)I"⟩, method_11_code, 4, (some .int), [(0, 9, 12, 32)]), 16, cd_183)
set_option maxRecDepth 100000 in
theorem my_183 : mc[183]? = some y_183 := rfl
abbrev y_184 : mc_T := ((⟨"CascadeStore", "broken", "(I)I"⟩, prog_1_method_11_code, 3, (some .int), []), 0, cd_184)
set_option maxRecDepth 100000 in
theorem my_184 : mc[184]? = some y_184 := rfl
abbrev y_185 : mc_T := ((⟨"CascadeStoreModel", "<init>", "()V"⟩, prog_15_method_1_code, 1, none, []), 11, cd_185)
set_option maxRecDepth 100000 in
theorem my_185 : mc[185]? = some y_185 := rfl
abbrev y_186 : mc_T := ((⟨"CascadeStoreModel", "clearAll", "()V"⟩, prog_15_method_110_code, 2, none, []), 11, cd_186)
set_option maxRecDepth 100000 in
theorem my_186 : mc[186]? = some y_186 := rfl
abbrev y_187 : mc_T := ((⟨"CascadeStoreModel", "thrown", "()I"⟩, prog_15_method_2_code, 1, (some .int), []), 11, cd_187)
set_option maxRecDepth 100000 in
theorem my_187 : mc[187]? = some y_187 := rfl
abbrev y_188 : mc_T := ((⟨"CascadeStoreModel", "feed", "(JI)I"⟩, prog_15_method_5_code, 5, (some .int), []), 11, cd_188)
set_option maxRecDepth 100000 in
theorem my_188 : mc[188]? = some y_188 := rfl
abbrev y_189 : mc_T := ((⟨"CascadeStoreModel", "isIn", "(JJJ)Z"⟩, prog_15_method_3_code, 6, (some .boolean), []), 11, cd_189)
set_option maxRecDepth 100000 in
theorem my_189 : mc[189]? = some y_189 := rfl
abbrev y_190 : mc_T := ((⟨"CascadeStoreModel", "may", "(ZZ)Z"⟩, prog_15_method_4_code, 3, (some .boolean), []), 11, cd_190)
set_option maxRecDepth 100000 in
theorem my_190 : mc[190]? = some y_190 := rfl
abbrev y_191 : mc_T := ((⟨"CascadeStoreModel", "run", "()I"⟩, prog_15_method_101_code, 2, (some .int), []), 11, cd_191)
set_option maxRecDepth 100000 in
theorem my_191 : mc[191]? = some y_191 := rfl
abbrev y_192 : mc_T := ((⟨"CascadeStoreModel", "rows", "()I"⟩, prog_15_method_57_code, 3, (some .int), []), 11, cd_192)
set_option maxRecDepth 100000 in
theorem my_192 : mc[192]? = some y_192 := rfl
abbrev y_193 : mc_T := ((⟨"CascadeStoreModel", "readStatement", "()V"⟩, prog_15_method_91_code, 1, none, []), 11, cd_193)
set_option maxRecDepth 100000 in
theorem my_193 : mc[193]? = some y_193 := rfl
abbrev y_194 : mc_T := ((⟨"CascadeStoreModel", "countNodes", "()I"⟩, prog_15_method_92_code, 3, (some .int), []), 11, cd_194)
set_option maxRecDepth 100000 in
theorem my_194 : mc[194]? = some y_194 := rfl
abbrev y_195 : mc_T := ((⟨"CascadeStoreModel", "next", "()V"⟩, prog_15_method_15_code, 3, none, []), 11, cd_195)
set_option maxRecDepth 100000 in
theorem my_195 : mc[195]? = some y_195 := rfl
abbrev y_196 : mc_T := ((⟨"CascadeStoreModel", "byteAt", "(I)I"⟩, prog_15_method_10_code, 2, (some .int), []), 11, cd_196)
set_option maxRecDepth 100000 in
theorem my_196 : mc[196]? = some y_196 := rfl
abbrev y_197 : mc_T := ((⟨"CascadeStoreModel", "isLetter", "(I)Z"⟩, prog_15_method_8_code, 1, (some .boolean), []), 11, cd_197)
set_option maxRecDepth 100000 in
theorem my_197 : mc[197]? = some y_197 := rfl
abbrev y_198 : mc_T := ((⟨"CascadeStoreModel", "readLetters", "()V"⟩, prog_15_method_12_code, 2, none, []), 11, cd_198)
set_option maxRecDepth 100000 in
theorem my_198 : mc[198]? = some y_198 := rfl
abbrev y_199 : mc_T := ((⟨"CascadeStoreModel", "isFigure", "(I)Z"⟩, prog_15_method_9_code, 1, (some .boolean), []), 11, cd_199)
set_option maxRecDepth 100000 in
theorem my_199 : mc[199]? = some y_199 := rfl
abbrev y_200 : mc_T := ((⟨"CascadeStoreModel", "failHere", "(I)V"⟩, prog_15_method_7_code, 2, none, []), 11, cd_200)
set_option maxRecDepth 100000 in
theorem my_200 : mc[200]? = some y_200 := rfl
abbrev y_201 : mc_T := ((⟨"CascadeStoreModel", "fail", "(II)V"⟩, prog_15_method_6_code, 4, none, []), 11, cd_201)
set_option maxRecDepth 100000 in
theorem my_201 : mc[201]? = some y_201 := rfl
abbrev y_202 : mc_T := ((⟨"CascadeStoreModel", "isWord", "(J)Z"⟩, prog_15_method_11_code, 5, (some .boolean), []), 11, cd_202)
set_option maxRecDepth 100000 in
theorem my_202 : mc[202]? = some y_202 := rfl
abbrev y_203 : mc_T := ((⟨"CascadeStoreModel", "readFigures", "()V"⟩, prog_15_method_13_code, 2, none, []), 11, cd_203)
set_option maxRecDepth 100000 in
theorem my_203 : mc[203]? = some y_203 := rfl
abbrev y_204 : mc_T := ((⟨"CascadeStoreModel", "isSign", "(I)Z"⟩, prog_15_method_14_code, 1, (some .boolean), []), 11, cd_204)
set_option maxRecDepth 100000 in
theorem my_204 : mc[204]? = some y_204 := rfl
abbrev y_205 : mc_T := ((⟨"CascadeStoreModel", "word", "(J)Z"⟩, prog_15_method_16_code, 3, (some .boolean), []), 11, cd_205)
set_option maxRecDepth 100000 in
theorem my_205 : mc[205]? = some y_205 := rfl
abbrev y_206 : mc_T := ((⟨"CascadeStoreModel", "readTable", "()V"⟩, prog_15_method_51_code, 3, none, []), 11, cd_206)
set_option maxRecDepth 100000 in
theorem my_206 : mc[206]? = some y_206 := rfl
abbrev y_207 : mc_T := ((⟨"CascadeStoreModel", "isName", "()Z"⟩, prog_15_method_20_code, 1, (some .boolean), []), 11, cd_207)
set_option maxRecDepth 100000 in
theorem my_207 : mc[207]? = some y_207 := rfl
abbrev y_208 : mc_T := ((⟨"CascadeStoreModel", "tableNamed", "(J)I"⟩, prog_15_method_35_code, 4, (some .int), []), 11, cd_208)
set_option maxRecDepth 100000 in
theorem my_208 : mc[208]? = some y_208 := rfl
abbrev y_209 : mc_T := ((⟨"CascadeStoreModel", "takeSign", "(I)V"⟩, prog_15_method_18_code, 2, none, []), 11, cd_209)
set_option maxRecDepth 100000 in
theorem my_209 : mc[209]? = some y_209 := rfl
abbrev y_210 : mc_T := ((⟨"CascadeStoreModel", "sign", "(I)Z"⟩, prog_15_method_17_code, 2, (some .boolean), []), 11, cd_210)
set_option maxRecDepth 100000 in
theorem my_210 : mc[210]? = some y_210 := rfl
abbrev y_211 : mc_T := ((⟨"CascadeStoreModel", "readItem", "()V"⟩, prog_15_method_50_code, 4, none, []), 11, cd_211)
set_option maxRecDepth 100000 in
theorem my_211 : mc[211]? = some y_211 := rfl
abbrev y_212 : mc_T := ((⟨"CascadeStoreModel", "readColumn", "()V"⟩, prog_15_method_43_code, 4, none, []), 11, cd_212)
set_option maxRecDepth 100000 in
theorem my_212 : mc[212]? = some y_212 := rfl
abbrev y_213 : mc_T := ((⟨"CascadeStoreModel", "column", "(IJ)I"⟩, prog_15_method_24_code, 5, (some .int), []), 11, cd_213)
set_option maxRecDepth 100000 in
theorem my_213 : mc[213]? = some y_213 := rfl
abbrev y_214 : mc_T := ((⟨"CascadeStoreModel", "oneRule", "(I)I"⟩, prog_15_method_42_code, 3, (some .int), []), 11, cd_214)
set_option maxRecDepth 100000 in
theorem my_214 : mc[214]? = some y_214 := rfl
abbrev y_215 : mc_T := ((⟨"CascadeStoreModel", "freeRule", "()I"⟩, prog_15_method_41_code, 4, (some .int), []), 11, cd_215)
set_option maxRecDepth 100000 in
theorem my_215 : mc[215]? = some y_215 := rfl
abbrev y_216 : mc_T := ((⟨"CascadeStoreModel", "readNames", "(I[II)I"⟩, prog_15_method_44_code, 8, (some .int), []), 11, cd_216)
set_option maxRecDepth 100000 in
theorem my_216 : mc[216]? = some y_216 := rfl
abbrev y_217 : mc_T := ((⟨"CascadeStoreModel", "readLate", "(I)V"⟩, prog_15_method_45_code, 2, none, []), 11, cd_217)
set_option maxRecDepth 100000 in
theorem my_217 : mc[217]? = some y_217 := rfl
abbrev y_218 : mc_T := ((⟨"CascadeStoreModel", "readRefer", "(I)V"⟩, prog_15_method_49_code, 4, none, []), 11, cd_218)
set_option maxRecDepth 100000 in
theorem my_218 : mc[218]? = some y_218 := rfl
abbrev y_219 : mc_T := ((⟨"CascadeStoreModel", "takeWord", "(J)V"⟩, prog_15_method_19_code, 3, none, []), 11, cd_219)
set_option maxRecDepth 100000 in
theorem my_219 : mc[219]? = some y_219 := rfl
abbrev y_220 : mc_T := ((⟨"CascadeStoreModel", "isKey", "(III)Z"⟩, prog_15_method_47_code, 7, (some .boolean), []), 11, cd_220)
set_option maxRecDepth 100000 in
theorem my_220 : mc[220]? = some y_220 := rfl
abbrev y_221 : mc_T := ((⟨"CascadeStoreModel", "isTold", "(I)Z"⟩, prog_15_method_46_code, 4, (some .boolean), []), 11, cd_221)
set_option maxRecDepth 100000 in
theorem my_221 : mc[221]? = some y_221 := rfl
abbrev y_222 : mc_T := ((⟨"CascadeStoreModel", "readAction", "()I"⟩, prog_15_method_48_code, 2, (some .int), []), 11, cd_222)
set_option maxRecDepth 100000 in
theorem my_222 : mc[222]? = some y_222 := rfl
abbrev y_223 : mc_T := ((⟨"CascadeStoreModel", "readTest", "()V"⟩, prog_15_method_34_code, 4, none, []), 11, cd_223)
set_option maxRecDepth 100000 in
theorem my_223 : mc[223]? = some y_223 := rfl
abbrev y_224 : mc_T := ((⟨"CascadeStoreModel", "push", "(IJ)V"⟩, prog_15_method_25_code, 4, none, []), 11, cd_224)
set_option maxRecDepth 100000 in
theorem my_224 : mc[224]? = some y_224 := rfl
abbrev y_225 : mc_T := ((⟨"CascadeStoreModel", "opens", "()V"⟩, prog_15_method_23_code, 1, none, []), 11, cd_225)
set_option maxRecDepth 100000 in
theorem my_225 : mc[225]? = some y_225 := rfl
abbrev y_226 : mc_T := ((⟨"CascadeStoreModel", "node", "()V"⟩, prog_15_method_22_code, 1, none, []), 11, cd_226)
set_option maxRecDepth 100000 in
theorem my_226 : mc[226]? = some y_226 := rfl
abbrev y_227 : mc_T := ((⟨"CascadeStoreModel", "readUnit", "()V"⟩, prog_15_method_33_code, 3, none, []), 11, cd_227)
set_option maxRecDepth 100000 in
theorem my_227 : mc[227]? = some y_227 := rfl
abbrev y_228 : mc_T := ((⟨"CascadeStoreModel", "readSum", "()V"⟩, prog_15_method_31_code, 5, none, []), 11, cd_228)
set_option maxRecDepth 100000 in
theorem my_228 : mc[228]? = some y_228 := rfl
abbrev y_229 : mc_T := ((⟨"CascadeStoreModel", "factor", "()Z"⟩, prog_15_method_30_code, 2, (some .boolean), []), 11, cd_229)
set_option maxRecDepth 100000 in
theorem my_229 : mc[229]? = some y_229 := rfl
abbrev y_230 : mc_T := ((⟨"CascadeStoreModel", "step", "(IJ)V"⟩, prog_15_method_21_code, 4, none, []), 11, cd_230)
set_option maxRecDepth 100000 in
theorem my_230 : mc[230]? = some y_230 := rfl
abbrev y_231 : mc_T := ((⟨"CascadeStoreModel", "factorName", "(Z)V"⟩, prog_15_method_29_code, 5, none, []), 11, cd_231)
set_option maxRecDepth 100000 in
theorem my_231 : mc[231]? = some y_231 := rfl
abbrev y_232 : mc_T := ((⟨"CascadeStoreModel", "doneTo", "(I)V"⟩, prog_15_method_28_code, 2, none, []), 11, cd_232)
set_option maxRecDepth 100000 in
theorem my_232 : mc[232]? = some y_232 := rfl
abbrev y_233 : mc_T := ((⟨"CascadeStoreModel", "top", "()I"⟩, prog_15_method_26_code, 1, (some .int), []), 11, cd_233)
set_option maxRecDepth 100000 in
theorem my_233 : mc[233]? = some y_233 := rfl
abbrev y_234 : mc_T := ((⟨"CascadeStoreModel", "done", "()V"⟩, prog_15_method_27_code, 1, none, []), 11, cd_234)
set_option maxRecDepth 100000 in
theorem my_234 : mc[234]? = some y_234 := rfl
abbrev y_235 : mc_T := ((⟨"CascadeStoreModel", "isComparison", "()Z"⟩, prog_15_method_32_code, 1, (some .boolean), []), 11, cd_235)
set_option maxRecDepth 100000 in
theorem my_235 : mc[235]? = some y_235 := rfl
abbrev y_236 : mc_T := ((⟨"CascadeStoreModel", "readTrigger", "()V"⟩, prog_15_method_52_code, 2, none, []), 11, cd_236)
set_option maxRecDepth 100000 in
theorem my_236 : mc[236]? = some y_236 := rfl
abbrev y_237 : mc_T := ((⟨"CascadeStoreModel", "triggerNamed", "(J)I"⟩, prog_15_method_36_code, 4, (some .int), []), 11, cd_237)
set_option maxRecDepth 100000 in
theorem my_237 : mc[237]? = some y_237 := rfl
abbrev y_238 : mc_T := ((⟨"CascadeStoreModel", "takeTable", "()I"⟩, prog_15_method_37_code, 2, (some .int), []), 11, cd_238)
set_option maxRecDepth 100000 in
theorem my_238 : mc[238]? = some y_238 := rfl
abbrev y_239 : mc_T := ((⟨"CascadeStoreModel", "readAct", "(I)V"⟩, prog_15_method_53_code, 2, none, []), 11, cd_239)
set_option maxRecDepth 100000 in
theorem my_239 : mc[239]? = some y_239 := rfl
abbrev y_240 : mc_T := ((⟨"CascadeStoreModel", "readChange", "(I)V"⟩, prog_15_method_38_code, 4, none, []), 11, cd_240)
set_option maxRecDepth 100000 in
theorem my_240 : mc[240]? = some y_240 := rfl
abbrev y_241 : mc_T := ((⟨"CascadeStoreModel", "readParts", "(I)V"⟩, prog_15_method_39_code, 4, none, []), 11, cd_241)
set_option maxRecDepth 100000 in
theorem my_241 : mc[241]? = some y_241 := rfl
abbrev y_242 : mc_T := ((⟨"CascadeStoreModel", "readSets", "(I)V"⟩, prog_15_method_40_code, 5, none, []), 11, cd_242)
set_option maxRecDepth 100000 in
theorem my_242 : mc[242]? = some y_242 := rfl
abbrev y_243 : mc_T := ((⟨"CascadeStoreModel", "readDrop", "()V"⟩, prog_15_method_89_code, 2, none, []), 11, cd_243)
set_option maxRecDepth 100000 in
theorem my_243 : mc[243]? = some y_243 := rfl
abbrev y_244 : mc_T := ((⟨"CascadeStoreModel", "readSimple", "()V"⟩, prog_15_method_90_code, 1, none, []), 11, cd_244)
set_option maxRecDepth 100000 in
theorem my_244 : mc[244]? = some y_244 := rfl
abbrev y_245 : mc_T := ((⟨"CascadeStoreModel", "readMark", "(Z)V"⟩, prog_15_method_88_code, 2, none, []), 11, cd_245)
set_option maxRecDepth 100000 in
theorem my_245 : mc[245]? = some y_245 := rfl
abbrev y_246 : mc_T := ((⟨"CascadeStoreModel", "mark", "(J)I"⟩, prog_15_method_87_code, 4, (some .int), []), 11, cd_246)
set_option maxRecDepth 100000 in
theorem my_246 : mc[246]? = some y_246 := rfl
abbrev y_247 : mc_T := ((⟨"CascadeStoreModel", "readWhich", "()V"⟩, prog_15_method_86_code, 3, none, []), 11, cd_247)
set_option maxRecDepth 100000 in
theorem my_247 : mc[247]? = some y_247 := rfl
abbrev y_248 : mc_T := ((⟨"CascadeStoreModel", "change", "()I"⟩, prog_15_method_95_code, 1, (some .int), []), 11, cd_248)
set_option maxRecDepth 100000 in
theorem my_248 : mc[248]? = some y_248 := rfl
abbrev y_249 : mc_T := ((⟨"CascadeStoreModel", "keep", "(I)V"⟩, prog_15_method_54_code, 3, none, []), 11, cd_249)
set_option maxRecDepth 100000 in
theorem my_249 : mc[249]? = some y_249 := rfl
abbrev y_250 : mc_T := ((⟨"CascadeStoreModel", "beginChange", "(II)V"⟩, prog_15_method_66_code, 8, none, []), 11, cd_250)
set_option maxRecDepth 100000 in
theorem my_250 : mc[250]? = some y_250 := rfl
abbrev y_251 : mc_T := ((⟨"CascadeStoreModel", "worked", "(IIIIIZ)J"⟩, prog_15_method_64_code, 8, (some .long), []), 11, cd_251)
set_option maxRecDepth 100000 in
theorem my_251 : mc[251]? = some y_251 := rfl
abbrev y_252 : mc_T := ((⟨"CascadeStoreModel", "work", "(IIIIZ)V"⟩, prog_15_method_63_code, 8, none, []), 11, cd_252)
set_option maxRecDepth 100000 in
theorem my_252 : mc[252]? = some y_252 := rfl
abbrev y_253 : mc_T := ((⟨"CascadeStoreModel", "both", "(ZJJ)J"⟩, prog_15_method_62_code, 7, (some .long), []), 11, cd_253)
set_option maxRecDepth 100000 in
theorem my_253 : mc[253]? = some y_253 := rfl
abbrev y_254 : mc_T := ((⟨"CascadeStoreModel", "signed", "(JJJZ)J"⟩, prog_15_method_61_code, 8, (some .long), []), 11, cd_254)
set_option maxRecDepth 100000 in
theorem my_254 : mc[254]? = some y_254 := rfl
abbrev y_255 : mc_T := ((⟨"CascadeStoreModel", "compared", "(JJJ)J"⟩, prog_15_method_60_code, 7, (some .long), []), 11, cd_255)
set_option maxRecDepth 100000 in
theorem my_255 : mc[255]? = some y_255 := rfl
abbrev y_256 : mc_T := ((⟨"CascadeStoreModel", "end", "(I)V"⟩, prog_15_method_65_code, 2, none, []), 11, cd_256)
set_option maxRecDepth 100000 in
theorem my_256 : mc[256]? = some y_256 := rfl
abbrev y_257 : mc_T := ((⟨"CascadeStoreModel", "goOn", "()V"⟩, prog_15_method_80_code, 2, none, []), 11, cd_257)
set_option maxRecDepth 100000 in
theorem my_257 : mc[257]? = some y_257 := rfl
abbrev y_258 : mc_T := ((⟨"CascadeStoreModel", "goChange", "(I)V"⟩, prog_15_method_69_code, 7, none, []), 11, cd_258)
set_option maxRecDepth 100000 in
theorem my_258 : mc[258]? = some y_258 := rfl
abbrev y_259 : mc_T := ((⟨"CascadeStoreModel", "insertOne", "(III)V"⟩, prog_15_method_70_code, 6, none, []), 11, cd_259)
set_option maxRecDepth 100000 in
theorem my_259 : mc[259]? = some y_259 := rfl
abbrev y_260 : mc_T := ((⟨"CascadeStoreModel", "beginStep", "(III)I"⟩, prog_15_method_67_code, 5, (some .int), []), 11, cd_260)
set_option maxRecDepth 100000 in
theorem my_260 : mc[260]? = some y_260 := rfl
abbrev y_261 : mc_T := ((⟨"CascadeStoreModel", "findRow", "(II)I"⟩, prog_15_method_58_code, 4, (some .int), []), 11, cd_261)
set_option maxRecDepth 100000 in
theorem my_261 : mc[261]? = some y_261 := rfl
abbrev y_262 : mc_T := ((⟨"CascadeStoreModel", "takeOld", "(III)V"⟩, prog_15_method_68_code, 5, none, []), 11, cd_262)
set_option maxRecDepth 100000 in
theorem my_262 : mc[262]? = some y_262 := rfl
abbrev y_263 : mc_T := ((⟨"CascadeStoreModel", "valueAt", "(III)J"⟩, prog_15_method_59_code, 4, (some .long), []), 11, cd_263)
set_option maxRecDepth 100000 in
theorem my_263 : mc[263]? = some y_263 := rfl
abbrev y_264 : mc_T := ((⟨"CascadeStoreModel", "updateOne", "(IIIII)V"⟩, prog_15_method_71_code, 9, none, []), 11, cd_264)
set_option maxRecDepth 100000 in
theorem my_264 : mc[264]? = some y_264 := rfl
abbrev y_265 : mc_T := ((⟨"CascadeStoreModel", "goStep", "(I)V"⟩, prog_15_method_72_code, 2, none, []), 11, cd_265)
set_option maxRecDepth 100000 in
theorem my_265 : mc[265]? = some y_265 := rfl
abbrev y_266 : mc_T := ((⟨"CascadeStoreModel", "goTriggers", "(II)V"⟩, prog_15_method_73_code, 7, none, []), 11, cd_266)
set_option maxRecDepth 100000 in
theorem my_266 : mc[266]? = some y_266 := rfl
abbrev y_267 : mc_T := ((⟨"CascadeStoreModel", "doRow", "(I)V"⟩, prog_15_method_74_code, 5, none, []), 11, cd_267)
set_option maxRecDepth 100000 in
theorem my_267 : mc[267]? = some y_267 := rfl
abbrev y_268 : mc_T := ((⟨"CascadeStoreModel", "takeAway", "(II)V"⟩, prog_15_method_75_code, 5, none, []), 11, cd_268)
set_option maxRecDepth 100000 in
theorem my_268 : mc[268]? = some y_268 := rfl
abbrev y_269 : mc_T := ((⟨"CascadeStoreModel", "goRules", "(I)V"⟩, prog_15_method_78_code, 6, none, []), 11, cd_269)
set_option maxRecDepth 100000 in
theorem my_269 : mc[269]? = some y_269 := rfl
abbrev y_270 : mc_T := ((⟨"CascadeStoreModel", "isMet", "(II)Z"⟩, prog_15_method_77_code, 6, (some .boolean), []), 11, cd_270)
set_option maxRecDepth 100000 in
theorem my_270 : mc[270]? = some y_270 := rfl
abbrev y_271 : mc_T := ((⟨"CascadeStoreModel", "refers", "(III)Z"⟩, prog_15_method_76_code, 6, (some .boolean), []), 11, cd_271)
set_option maxRecDepth 100000 in
theorem my_271 : mc[271]? = some y_271 := rfl
abbrev y_272 : mc_T := ((⟨"CascadeStoreModel", "goReferring", "(I)V"⟩, prog_15_method_79_code, 11, none, []), 11, cd_272)
set_option maxRecDepth 100000 in
theorem my_272 : mc[272]? = some y_272 := rfl
abbrev y_273 : mc_T := ((⟨"CascadeStoreModel", "lookAt", "(I)Z"⟩, prog_15_method_85_code, 5, (some .boolean), []), 11, cd_273)
set_option maxRecDepth 100000 in
theorem my_273 : mc[273]? = some y_273 := rfl
abbrev y_274 : mc_T := ((⟨"CascadeStoreModel", "firstBroken", "(I)I"⟩, prog_15_method_84_code, 3, (some .int), []), 11, cd_274)
set_option maxRecDepth 100000 in
theorem my_274 : mc[274]? = some y_274 := rfl
abbrev y_275 : mc_T := ((⟨"CascadeStoreModel", "isBroken", "(II)Z"⟩, prog_15_method_82_code, 6, (some .boolean), []), 11, cd_275)
set_option maxRecDepth 100000 in
theorem my_275 : mc[275]? = some y_275 := rfl
abbrev y_276 : mc_T := ((⟨"CascadeStoreModel", "isThere", "(III)Z"⟩, prog_15_method_83_code, 8, (some .boolean), []), 11, cd_276)
set_option maxRecDepth 100000 in
theorem my_276 : mc[276]? = some y_276 := rfl
abbrev y_277 : mc_T := ((⟨"CascadeStoreModel", "isAlike", "(IIII)Z"⟩, prog_15_method_81_code, 7, (some .boolean), []), 11, cd_277)
set_option maxRecDepth 100000 in
theorem my_277 : mc[277]? = some y_277 := rfl
abbrev y_278 : mc_T := ((⟨"CascadeStoreModel", "bringBack", "(I)V"⟩, prog_15_method_55_code, 3, none, []), 11, cd_278)
set_option maxRecDepth 100000 in
theorem my_278 : mc[278]? = some y_278 := rfl
abbrev y_279 : mc_T := ((⟨"CascadeStoreModel", "doInside", "()I"⟩, prog_15_method_99_code, 3, (some .int), []), 11, cd_279)
set_option maxRecDepth 100000 in
theorem my_279 : mc[279]? = some y_279 := rfl
abbrev y_280 : mc_T := ((⟨"CascadeStoreModel", "over", "()V"⟩, prog_15_method_96_code, 2, none, []), 11, cd_280)
set_option maxRecDepth 100000 in
theorem my_280 : mc[280]? = some y_280 := rfl
abbrev y_281 : mc_T := ((⟨"CascadeStoreModel", "setMark", "()V"⟩, prog_15_method_97_code, 3, none, []), 11, cd_281)
set_option maxRecDepth 100000 in
theorem my_281 : mc[281]? = some y_281 := rfl
abbrev y_282 : mc_T := ((⟨"CascadeStoreModel", "copyState", "(II)V"⟩, prog_15_method_56_code, 4, none, []), 11, cd_282)
set_option maxRecDepth 100000 in
theorem my_282 : mc[282]? = some y_282 := rfl
abbrev y_283 : mc_T := ((⟨"CascadeStoreModel", "doNow", "()I"⟩, prog_15_method_98_code, 2, (some .int), []), 11, cd_283)
set_option maxRecDepth 100000 in
theorem my_283 : mc[283]? = some y_283 := rfl
abbrev y_284 : mc_T := ((⟨"CascadeStoreModel", "doOutside", "()I"⟩, prog_15_method_100_code, 2, (some .int), []), 11, cd_284)
set_option maxRecDepth 100000 in
theorem my_284 : mc[284]? = some y_284 := rfl
abbrev y_285 : mc_T := ((⟨"CascadeStoreModel", "isUsed", "(I)Z"⟩, prog_15_method_93_code, 4, (some .boolean), []), 11, cd_285)
set_option maxRecDepth 100000 in
theorem my_285 : mc[285]? = some y_285 := rfl
abbrev y_286 : mc_T := ((⟨"CascadeStoreModel", "dropTable", "(I)V"⟩, prog_15_method_94_code, 3, none, []), 11, cd_286)
set_option maxRecDepth 100000 in
theorem my_286 : mc[286]? = some y_286 := rfl
abbrev y_287 : mc_T := ((⟨"CascadeStoreModel", "told", "(I)I"⟩, prog_15_method_102_code, 2, (some .int), []), 11, cd_287)
set_option maxRecDepth 100000 in
theorem my_287 : mc[287]? = some y_287 := rfl
abbrev y_288 : mc_T := ((⟨"CascadeStoreModel", "count", "(I)I"⟩, prog_15_method_103_code, 6, (some .int), []), 11, cd_288)
set_option maxRecDepth 100000 in
theorem my_288 : mc[288]? = some y_288 := rfl
abbrev y_289 : mc_T := ((⟨"CascadeStoreModel", "find", "(IJ)I"⟩, prog_15_method_104_code, 4, (some .int), []), 11, cd_289)
set_option maxRecDepth 100000 in
theorem my_289 : mc[289]? = some y_289 := rfl
abbrev y_290 : mc_T := ((⟨"CascadeStoreModel", "table", "(II)J"⟩, prog_15_method_105_code, 5, (some .long), []), 11, cd_290)
set_option maxRecDepth 100000 in
theorem my_290 : mc[290]? = some y_290 := rfl
abbrev y_291 : mc_T := ((⟨"CascadeStoreModel", "value", "(III)J"⟩, prog_15_method_106_code, 5, (some .long), []), 11, cd_291)
set_option maxRecDepth 100000 in
theorem my_291 : mc[291]? = some y_291 := rfl
abbrev y_292 : mc_T := ((⟨"CascadeStoreModel", "rule", "(II)I"⟩, prog_15_method_107_code, 5, (some .int), []), 11, cd_292)
set_option maxRecDepth 100000 in
theorem my_292 : mc[292]? = some y_292 := rfl
abbrev y_293 : mc_T := ((⟨"CascadeStoreModel", "trigger", "(II)J"⟩, prog_15_method_108_code, 3, (some .long), []), 11, cd_293)
set_option maxRecDepth 100000 in
theorem my_293 : mc[293]? = some y_293 := rfl
abbrev y_294 : mc_T := ((⟨"CascadeStoreModel", "broken", "(I)I"⟩, prog_15_method_109_code, 2, (some .int), []), 11, cd_294)
set_option maxRecDepth 100000 in
theorem my_294 : mc[294]? = some y_294 := rfl
abbrev y_295 : mc_T := ((⟨"CascadeStoreModel", "clear", "()V"⟩, prog_15_method_111_code, 1, none, []), 11, cd_295)
set_option maxRecDepth 100000 in
theorem my_295 : mc[295]? = some y_295 := rfl
abbrev y_296 : mc_T := ((x, code, maxLocals, ret, []), 16, cd_296)
set_option maxRecDepth 100000 in
theorem my_296 : mc[296]? = some y_296 := rfl
