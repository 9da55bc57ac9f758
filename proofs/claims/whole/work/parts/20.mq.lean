set_option maxRecDepth 20000 in
theorem mq_0 : tb_mt 0 = some (⟨"NineSailLaw", "law", "([I)Z"⟩, code, 4, (some (Jvm.ClassFile.FieldType.boolean)), 20) := rfl
set_option maxRecDepth 20000 in
theorem mq_1 : tb_mt 1 = some (⟨"NineSail", "<init>", "()V"⟩, prog_1_method_1_code, 5, none, 11) := rfl
set_option maxRecDepth 20000 in
theorem mq_2 : tb_mt 2 = some (⟨"NineSail$Tape", "<init>", "()V"⟩, prog_10_method_1_code, 1, none, 8) := rfl
set_option maxRecDepth 20000 in
theorem mq_3 : tb_mt 3 = some (⟨"NineSail$Kind", "<init>", "(ILNineSail$Kind;)V"⟩, prog_3_method_1_code, 3, none, 1) := rfl
set_option maxRecDepth 20000 in
theorem mq_4 : tb_mt 4 = some (⟨"NineSail$Proud", "<init>", "(ILNineSail$Kind;)V"⟩, prog_6_method_1_code, 3, none, 4) := rfl
set_option maxRecDepth 20000 in
theorem mq_5 : tb_mt 5 = some (⟨"NineSail$Slow", "<init>", "(ILNineSail$Kind;)V"⟩, prog_9_method_1_code, 3, none, 7) := rfl
set_option maxRecDepth 20000 in
theorem mq_6 : tb_mt 6 = some (⟨"NineSail$Leader", "<init>", "(ILNineSail$Kind;)V"⟩, prog_4_method_1_code, 3, none, 2) := rfl
set_option maxRecDepth 20000 in
theorem mq_7 : tb_mt 7 = some (⟨"NineSail$Ninth", "<init>", "(ILNineSail$Kind;)V"⟩, prog_5_method_1_code, 3, none, 3) := rfl
set_option maxRecDepth 20000 in
theorem mq_8 : tb_mt 8 = some (⟨"NineSail$Tent", "<init>", "(ILNineSail$Kind;)V"⟩, prog_11_method_1_code, 3, none, 9) := rfl
set_option maxRecDepth 20000 in
theorem mq_9 : tb_mt 9 = some (⟨"NineSail$Sea", "<init>", "(LNineSail$Kind;)V"⟩, prog_7_method_1_code, 3, none, 5) := rfl
set_option maxRecDepth 20000 in
theorem mq_10 : tb_mt 10 = some (⟨"NineSail$Boat", "<init>", "(LNineSail$Kind;)V"⟩, prog_2_method_1_code, 2, none, 0) := rfl
set_option maxRecDepth 20000 in
theorem mq_11 : tb_mt 11 = some (⟨"java/util/Arrays", "fill", "([II)V"⟩, prog_22_method_103_code, 4, none, 16) := rfl
set_option maxRecDepth 20000 in
theorem mq_12 : tb_mt 12 = some (⟨"NineSail$Sheet", "<init>", "()V"⟩, prog_8_method_1_code, 1, none, 6) := rfl
set_option maxRecDepth 20000 in
theorem mq_13 : tb_mt 13 = some (⟨"NineSail", "boat", "(III)I"⟩, prog_1_method_2_code, 4, (some (Jvm.ClassFile.FieldType.int)), 11) := rfl
set_option maxRecDepth 20000 in
theorem mq_14 : tb_mt 14 = some (⟨"NineSail", "isKind", "(I)Z"⟩, prog_1_method_43_code, 1, (some (Jvm.ClassFile.FieldType.boolean)), 11) := rfl
set_option maxRecDepth 20000 in
theorem mq_15 : tb_mt 15 = some (⟨"NineSail", "isWeight", "(I)Z"⟩, prog_1_method_44_code, 1, (some (Jvm.ClassFile.FieldType.boolean)), 11) := rfl
set_option maxRecDepth 20000 in
theorem mq_16 : tb_mt 16 = some (⟨"NineSail", "isPlace", "(I)Z"⟩, prog_1_method_45_code, 1, (some (Jvm.ClassFile.FieldType.boolean)), 11) := rfl
set_option maxRecDepth 20000 in
theorem mq_17 : tb_mt 17 = some (⟨"NineSail$Sea", "launch", "(LNineSail$Kind;II)V"⟩, prog_7_method_4_code, 4, none, 5) := rfl
set_option maxRecDepth 20000 in
theorem mq_18 : tb_mt 18 = some (⟨"NineSail$Boat", "begin", "(LNineSail$Kind;II)V"⟩, prog_2_method_2_code, 4, none, 0) := rfl
set_option maxRecDepth 20000 in
theorem mq_19 : tb_mt 19 = some (⟨"NineSail", "told", "(II)I"⟩, prog_1_method_3_code, 4, (some (Jvm.ClassFile.FieldType.int)), 11) := rfl
set_option maxRecDepth 20000 in
theorem mq_20 : tb_mt 20 = some (⟨"NineSail$Sea", "has", "(I)Z"⟩, prog_7_method_3_code, 2, (some (Jvm.ClassFile.FieldType.boolean)), 5) := rfl
set_option maxRecDepth 20000 in
theorem mq_21 : tb_mt 21 = some (⟨"NineSail$Sea", "pullOf", "(LNineSail$Boat;)I"⟩, prog_7_method_9_code, 5, (some (Jvm.ClassFile.FieldType.int)), 5) := rfl
set_option maxRecDepth 20000 in
theorem mq_22 : tb_mt 22 = some (⟨"NineSail$Sea", "textFor", "(I)LNineSail$Text;"⟩, prog_7_method_8_code, 3, (some ((Jvm.ClassFile.FieldType.object "NineSail$Text"))), 5) := rfl
set_option maxRecDepth 20000 in
theorem mq_23 : tb_mt 23 = some (⟨"NineSail$Text", "gives", "(III)I"⟩, prog_12_method_2_code, 7, (some (Jvm.ClassFile.FieldType.int)), 10) := rfl
set_option maxRecDepth 20000 in
theorem mq_24 : tb_mt 24 = some (⟨"NineSail$Text", "join", "(III)I"⟩, prog_12_method_3_code, 3, (some (Jvm.ClassFile.FieldType.int)), 10) := rfl
set_option maxRecDepth 20000 in
theorem mq_25 : tb_mt 25 = some (⟨"NineSail", "within", "(II)I"⟩, prog_1_method_49_code, 2, (some (Jvm.ClassFile.FieldType.int)), 11) := rfl
set_option maxRecDepth 20000 in
theorem mq_26 : tb_mt 26 = some (⟨"NineSail$Leader", "pulls", "(I)I"⟩, prog_4_method_2_code, 2, (some (Jvm.ClassFile.FieldType.int)), 2) := rfl
set_option maxRecDepth 20000 in
theorem mq_27 : tb_mt 27 = some (⟨"NineSail$Proud", "pulls", "(I)I"⟩, prog_6_method_2_code, 2, (some (Jvm.ClassFile.FieldType.int)), 4) := rfl
set_option maxRecDepth 20000 in
theorem mq_28 : tb_mt 28 = some (⟨"NineSail$Ninth", "pulls", "(I)I"⟩, prog_5_method_2_code, 2, (some (Jvm.ClassFile.FieldType.int)), 3) := rfl
set_option maxRecDepth 20000 in
theorem mq_29 : tb_mt 29 = some (⟨"NineSail$Slow", "pulls", "(I)I"⟩, prog_9_method_2_code, 2, (some (Jvm.ClassFile.FieldType.int)), 7) := rfl
set_option maxRecDepth 20000 in
theorem mq_30 : tb_mt 30 = some (⟨"NineSail$Tent", "pulls", "(I)I"⟩, prog_11_method_2_code, 2, (some (Jvm.ClassFile.FieldType.int)), 9) := rfl
set_option maxRecDepth 20000 in
theorem mq_31 : tb_mt 31 = some (⟨"NineSail$Kind", "pulls", "(I)I"⟩, prog_3_method_3_code, 2, (some (Jvm.ClassFile.FieldType.int)), 1) := rfl
set_option maxRecDepth 20000 in
theorem mq_32 : tb_mt 32 = some (⟨"NineSail$Proud", "drags", "(I)I"⟩, prog_6_method_3_code, 2, (some (Jvm.ClassFile.FieldType.int)), 4) := rfl
set_option maxRecDepth 20000 in
theorem mq_33 : tb_mt 33 = some (⟨"NineSail$Ninth", "drags", "(I)I"⟩, prog_5_method_3_code, 2, (some (Jvm.ClassFile.FieldType.int)), 3) := rfl
set_option maxRecDepth 20000 in
theorem mq_34 : tb_mt 34 = some (⟨"NineSail$Slow", "drags", "(I)I"⟩, prog_9_method_3_code, 2, (some (Jvm.ClassFile.FieldType.int)), 7) := rfl
set_option maxRecDepth 20000 in
theorem mq_35 : tb_mt 35 = some (⟨"NineSail$Kind", "drags", "(I)I"⟩, prog_3_method_4_code, 2, (some (Jvm.ClassFile.FieldType.int)), 1) := rfl
set_option maxRecDepth 20000 in
theorem mq_36 : tb_mt 36 = some (⟨"NineSail$Leader", "rows", "()I"⟩, prog_4_method_3_code, 1, (some (Jvm.ClassFile.FieldType.int)), 2) := rfl
set_option maxRecDepth 20000 in
theorem mq_37 : tb_mt 37 = some (⟨"NineSail$Proud", "rows", "()I"⟩, prog_6_method_4_code, 1, (some (Jvm.ClassFile.FieldType.int)), 4) := rfl
set_option maxRecDepth 20000 in
theorem mq_38 : tb_mt 38 = some (⟨"NineSail$Ninth", "rows", "()I"⟩, prog_5_method_4_code, 1, (some (Jvm.ClassFile.FieldType.int)), 3) := rfl
set_option maxRecDepth 20000 in
theorem mq_39 : tb_mt 39 = some (⟨"NineSail$Kind", "rows", "()I"⟩, prog_3_method_5_code, 1, (some (Jvm.ClassFile.FieldType.int)), 1) := rfl
set_option maxRecDepth 20000 in
theorem mq_40 : tb_mt 40 = some (⟨"NineSail$Leader", "worth", "(I)I"⟩, prog_4_method_4_code, 2, (some (Jvm.ClassFile.FieldType.int)), 2) := rfl
set_option maxRecDepth 20000 in
theorem mq_41 : tb_mt 41 = some (⟨"NineSail$Proud", "worth", "(I)I"⟩, prog_6_method_5_code, 2, (some (Jvm.ClassFile.FieldType.int)), 4) := rfl
set_option maxRecDepth 20000 in
theorem mq_42 : tb_mt 42 = some (⟨"NineSail$Ninth", "worth", "(I)I"⟩, prog_5_method_5_code, 2, (some (Jvm.ClassFile.FieldType.int)), 3) := rfl
set_option maxRecDepth 20000 in
theorem mq_43 : tb_mt 43 = some (⟨"NineSail$Slow", "worth", "(I)I"⟩, prog_9_method_4_code, 2, (some (Jvm.ClassFile.FieldType.int)), 7) := rfl
set_option maxRecDepth 20000 in
theorem mq_44 : tb_mt 44 = some (⟨"NineSail$Tent", "worth", "(I)I"⟩, prog_11_method_3_code, 2, (some (Jvm.ClassFile.FieldType.int)), 9) := rfl
set_option maxRecDepth 20000 in
theorem mq_45 : tb_mt 45 = some (⟨"NineSail$Kind", "worth", "(I)I"⟩, prog_3_method_6_code, 2, (some (Jvm.ClassFile.FieldType.int)), 1) := rfl
set_option maxRecDepth 20000 in
theorem mq_46 : tb_mt 46 = some (⟨"NineSail", "as", "(II)I"⟩, prog_1_method_4_code, 4, (some (Jvm.ClassFile.FieldType.int)), 11) := rfl
set_option maxRecDepth 20000 in
theorem mq_47 : tb_mt 47 = some (⟨"NineSail$Kind", "isOf", "(I)Z"⟩, prog_3_method_2_code, 3, (some (Jvm.ClassFile.FieldType.boolean)), 1) := rfl
set_option maxRecDepth 20000 in
theorem mq_48 : tb_mt 48 = some (⟨"NineSail", "turns", "(II)I"⟩, prog_1_method_5_code, 5, (some (Jvm.ClassFile.FieldType.int)), 11) := rfl
set_option maxRecDepth 20000 in
theorem mq_49 : tb_mt 49 = some (⟨"NineSail", "set", "(III)I"⟩, prog_1_method_6_code, 6, (some (Jvm.ClassFile.FieldType.int)), 11) := rfl
set_option maxRecDepth 20000 in
theorem mq_50 : tb_mt 50 = some (⟨"NineSail", "ties", "(II)I"⟩, prog_1_method_7_code, 5, (some (Jvm.ClassFile.FieldType.int)), 11) := rfl
set_option maxRecDepth 20000 in
theorem mq_51 : tb_mt 51 = some (⟨"NineSail", "hands", "(I)I"⟩, prog_1_method_8_code, 3, (some (Jvm.ClassFile.FieldType.int)), 11) := rfl
set_option maxRecDepth 20000 in
theorem mq_52 : tb_mt 52 = some (⟨"NineSail$Sea", "giveSail", "(I)V"⟩, prog_7_method_5_code, 2, none, 5) := rfl
set_option maxRecDepth 20000 in
theorem mq_53 : tb_mt 53 = some (⟨"NineSail", "rule", "(II)I"⟩, prog_1_method_9_code, 4, (some (Jvm.ClassFile.FieldType.int)), 11) := rfl
set_option maxRecDepth 20000 in
theorem mq_54 : tb_mt 54 = some (⟨"NineSail", "deal", "(I)I"⟩, prog_1_method_10_code, 7, (some (Jvm.ClassFile.FieldType.int)), 11) := rfl
set_option maxRecDepth 20000 in
theorem mq_55 : tb_mt 55 = some (⟨"NineSail$Sea", "draw", "()I"⟩, prog_7_method_6_code, 1, (some (Jvm.ClassFile.FieldType.int)), 5) := rfl
set_option maxRecDepth 20000 in
theorem mq_56 : tb_mt 56 = some (⟨"NineSail", "seed", "(I)I"⟩, prog_1_method_11_code, 3, (some (Jvm.ClassFile.FieldType.int)), 11) := rfl
set_option maxRecDepth 20000 in
theorem mq_57 : tb_mt 57 = some (⟨"NineSail", "speed", "()I"⟩, prog_1_method_12_code, 1, (some (Jvm.ClassFile.FieldType.int)), 11) := rfl
set_option maxRecDepth 20000 in
theorem mq_58 : tb_mt 58 = some (⟨"NineSail$Sea", "pace", "()I"⟩, prog_7_method_10_code, 3, (some (Jvm.ClassFile.FieldType.int)), 5) := rfl
set_option maxRecDepth 20000 in
theorem mq_59 : tb_mt 59 = some (⟨"NineSail", "hours", "(I)I"⟩, prog_1_method_13_code, 3, (some (Jvm.ClassFile.FieldType.int)), 11) := rfl
set_option maxRecDepth 20000 in
theorem mq_60 : tb_mt 60 = some (⟨"NineSail$Sea", "allCaught", "()I"⟩, prog_7_method_20_code, 3, (some (Jvm.ClassFile.FieldType.int)), 5) := rfl
set_option maxRecDepth 20000 in
theorem mq_61 : tb_mt 61 = some (⟨"NineSail$Sea", "letPass", "(I)V"⟩, prog_7_method_11_code, 3, none, 5) := rfl
set_option maxRecDepth 20000 in
theorem mq_62 : tb_mt 62 = some (⟨"NineSail$Sea", "passHour", "()V"⟩, prog_7_method_12_code, 2, none, 5) := rfl
set_option maxRecDepth 20000 in
theorem mq_63 : tb_mt 63 = some (⟨"NineSail$Sea", "tear", "()V"⟩, prog_7_method_13_code, 2, none, 5) := rfl
set_option maxRecDepth 20000 in
theorem mq_64 : tb_mt 64 = some (⟨"NineSail$Sea", "heaviest", "()I"⟩, prog_7_method_17_code, 3, (some (Jvm.ClassFile.FieldType.int)), 5) := rfl
set_option maxRecDepth 20000 in
theorem mq_65 : tb_mt 65 = some (⟨"NineSail$Sea", "moveAll", "(I)V"⟩, prog_7_method_14_code, 4, none, 5) := rfl
set_option maxRecDepth 20000 in
theorem mq_66 : tb_mt 66 = some (⟨"NineSail$Boat", "moveBy", "(I)V"⟩, prog_2_method_4_code, 2, none, 0) := rfl
set_option maxRecDepth 20000 in
theorem mq_67 : tb_mt 67 = some (⟨"NineSail$Sea", "fishAll", "()V"⟩, prog_7_method_15_code, 3, none, 5) := rfl
set_option maxRecDepth 20000 in
theorem mq_68 : tb_mt 68 = some (⟨"NineSail$Sea", "passSail", "()V"⟩, prog_7_method_16_code, 2, none, 5) := rfl
set_option maxRecDepth 20000 in
theorem mq_69 : tb_mt 69 = some (⟨"NineSail$Sea", "lastPlaced", "()I"⟩, prog_7_method_18_code, 3, (some (Jvm.ClassFile.FieldType.int)), 5) := rfl
set_option maxRecDepth 20000 in
theorem mq_70 : tb_mt 70 = some (⟨"NineSail$Sea", "farthestFromWant", "()I"⟩, prog_7_method_19_code, 3, (some (Jvm.ClassFile.FieldType.int)), 5) := rfl
set_option maxRecDepth 20000 in
theorem mq_71 : tb_mt 71 = some (⟨"NineSail$Boat", "toGo", "()I"⟩, prog_2_method_5_code, 1, (some (Jvm.ClassFile.FieldType.int)), 0) := rfl
set_option maxRecDepth 20000 in
theorem mq_72 : tb_mt 72 = some (⟨"NineSail", "fleet", "(I)I"⟩, prog_1_method_14_code, 2, (some (Jvm.ClassFile.FieldType.int)), 11) := rfl
set_option maxRecDepth 20000 in
theorem mq_73 : tb_mt 73 = some (⟨"NineSail$Sea", "allPlaces", "()I"⟩, prog_7_method_21_code, 3, (some (Jvm.ClassFile.FieldType.int)), 5) := rfl
set_option maxRecDepth 20000 in
theorem mq_74 : tb_mt 74 = some (⟨"NineSail$Sea", "tiedSet", "()I"⟩, prog_7_method_22_code, 3, (some (Jvm.ClassFile.FieldType.int)), 5) := rfl
set_option maxRecDepth 20000 in
theorem mq_75 : tb_mt 75 = some (⟨"NineSail$Sea", "homeSet", "()I"⟩, prog_7_method_23_code, 3, (some (Jvm.ClassFile.FieldType.int)), 5) := rfl
set_option maxRecDepth 20000 in
theorem mq_76 : tb_mt 76 = some (⟨"NineSail", "behind", "(II)I"⟩, prog_1_method_15_code, 3, (some (Jvm.ClassFile.FieldType.int)), 11) := rfl
set_option maxRecDepth 20000 in
theorem mq_77 : tb_mt 77 = some (⟨"NineSail$Sea", "become", "(LNineSail$Sea;)V"⟩, prog_7_method_2_code, 3, none, 5) := rfl
set_option maxRecDepth 20000 in
theorem mq_78 : tb_mt 78 = some (⟨"NineSail$Boat", "become", "(LNineSail$Boat;)V"⟩, prog_2_method_3_code, 2, none, 0) := rfl
set_option maxRecDepth 20000 in
theorem mq_79 : tb_mt 79 = some (⟨"NineSail", "home", "()I"⟩, prog_1_method_16_code, 2, (some (Jvm.ClassFile.FieldType.int)), 11) := rfl
set_option maxRecDepth 20000 in
theorem mq_80 : tb_mt 80 = some (⟨"NineSail$Sea", "areAllHome", "()Z"⟩, prog_7_method_24_code, 1, (some (Jvm.ClassFile.FieldType.boolean)), 5) := rfl
set_option maxRecDepth 20000 in
theorem mq_81 : tb_mt 81 = some (⟨"NineSail", "bestLaw", "(II)I"⟩, prog_1_method_17_code, 7, (some (Jvm.ClassFile.FieldType.int)), 11) := rfl
set_option maxRecDepth 20000 in
theorem mq_82 : tb_mt 82 = some (⟨"NineSail", "isChoice", "(I)Z"⟩, prog_1_method_48_code, 1, (some (Jvm.ClassFile.FieldType.boolean)), 11) := rfl
set_option maxRecDepth 20000 in
theorem mq_83 : tb_mt 83 = some (⟨"NineSail", "turned", "(II)I"⟩, prog_1_method_18_code, 7, (some (Jvm.ClassFile.FieldType.int)), 11) := rfl
set_option maxRecDepth 20000 in
theorem mq_84 : tb_mt 84 = some (⟨"NineSail", "cutOff", "(I)I"⟩, prog_1_method_19_code, 4, (some (Jvm.ClassFile.FieldType.int)), 11) := rfl
set_option maxRecDepth 20000 in
theorem mq_85 : tb_mt 85 = some (⟨"NineSail$Boat", "gain", "()I"⟩, prog_2_method_6_code, 1, (some (Jvm.ClassFile.FieldType.int)), 0) := rfl
set_option maxRecDepth 20000 in
theorem mq_86 : tb_mt 86 = some (⟨"NineSail", "wishes", "(II)I"⟩, prog_1_method_20_code, 7, (some (Jvm.ClassFile.FieldType.int)), 11) := rfl
set_option maxRecDepth 20000 in
theorem mq_87 : tb_mt 87 = some (⟨"NineSail", "whose", "(III)I"⟩, prog_1_method_21_code, 8, (some (Jvm.ClassFile.FieldType.int)), 11) := rfl
set_option maxRecDepth 20000 in
theorem mq_88 : tb_mt 88 = some (⟨"NineSail", "isSheet", "(I)Z"⟩, prog_1_method_46_code, 1, (some (Jvm.ClassFile.FieldType.boolean)), 11) := rfl
set_option maxRecDepth 20000 in
theorem mq_89 : tb_mt 89 = some (⟨"NineSail$Sheet", "isMissing", "()Z"⟩, prog_8_method_2_code, 1, (some (Jvm.ClassFile.FieldType.boolean)), 6) := rfl
set_option maxRecDepth 20000 in
theorem mq_90 : tb_mt 90 = some (⟨"NineSail$Sea", "differenceFrom", "(LNineSail$Sheet;)I"⟩, prog_7_method_25_code, 5, (some (Jvm.ClassFile.FieldType.int)), 5) := rfl
set_option maxRecDepth 20000 in
theorem mq_91 : tb_mt 91 = some (⟨"NineSail$Sheet", "isNumber", "(I)Z"⟩, prog_8_method_8_code, 2, (some (Jvm.ClassFile.FieldType.boolean)), 6) := rfl
set_option maxRecDepth 20000 in
theorem mq_92 : tb_mt 92 = some (⟨"NineSail$Sheet", "has", "(I)Z"⟩, prog_8_method_6_code, 2, (some (Jvm.ClassFile.FieldType.boolean)), 6) := rfl
set_option maxRecDepth 20000 in
theorem mq_93 : tb_mt 93 = some (⟨"NineSail$Sheet", "valueAt", "(I)I"⟩, prog_8_method_9_code, 2, (some (Jvm.ClassFile.FieldType.int)), 6) := rfl
set_option maxRecDepth 20000 in
theorem mq_94 : tb_mt 94 = some (⟨"NineSail", "fee", "()I"⟩, prog_1_method_22_code, 2, (some (Jvm.ClassFile.FieldType.int)), 11) := rfl
set_option maxRecDepth 20000 in
theorem mq_95 : tb_mt 95 = some (⟨"NineSail", "fine", "(I)I"⟩, prog_1_method_23_code, 4, (some (Jvm.ClassFile.FieldType.int)), 11) := rfl
set_option maxRecDepth 20000 in
theorem mq_96 : tb_mt 96 = some (⟨"NineSail", "feed", "(III)I"⟩, prog_1_method_24_code, 4, (some (Jvm.ClassFile.FieldType.int)), 11) := rfl
set_option maxRecDepth 20000 in
theorem mq_97 : tb_mt 97 = some (⟨"NineSail$Tape", "add", "(I)V"⟩, prog_10_method_2_code, 3, none, 8) := rfl
set_option maxRecDepth 20000 in
theorem mq_98 : tb_mt 98 = some (⟨"NineSail", "trim", "(I)I"⟩, prog_1_method_25_code, 2, (some (Jvm.ClassFile.FieldType.int)), 11) := rfl
set_option maxRecDepth 20000 in
theorem mq_99 : tb_mt 99 = some (⟨"NineSail", "text", "()I"⟩, prog_1_method_26_code, 1, (some (Jvm.ClassFile.FieldType.int)), 11) := rfl
set_option maxRecDepth 20000 in
theorem mq_100 : tb_mt 100 = some (⟨"NineSail$Tape", "parse", "()V"⟩, prog_10_method_3_code, 1, none, 8) := rfl
set_option maxRecDepth 20000 in
theorem mq_101 : tb_mt 101 = some (⟨"NineSail$Tape", "next", "()V"⟩, prog_10_method_5_code, 4, none, 8) := rfl
set_option maxRecDepth 20000 in
theorem mq_102 : tb_mt 102 = some (⟨"NineSail$Tape", "byteAt", "(I)I"⟩, prog_10_method_6_code, 2, (some (Jvm.ClassFile.FieldType.int)), 8) := rfl
set_option maxRecDepth 20000 in
theorem mq_103 : tb_mt 103 = some (⟨"NineSail$Tape", "sortOf", "(I)I"⟩, prog_10_method_7_code, 1, (some (Jvm.ClassFile.FieldType.int)), 8) := rfl
set_option maxRecDepth 20000 in
theorem mq_104 : tb_mt 104 = some (⟨"NineSail$Tape", "parseKey", "()V"⟩, prog_10_method_11_code, 1, none, 8) := rfl
set_option maxRecDepth 20000 in
theorem mq_105 : tb_mt 105 = some (⟨"NineSail$Tape", "isWord", "(Ljava/lang/String;)Z"⟩, prog_10_method_9_code, 3, (some (Jvm.ClassFile.FieldType.boolean)), 8) := rfl
set_option maxRecDepth 20000 in
theorem mq_106 : tb_mt 106 = some (⟨"java/lang/String", "length", "()I"⟩, prog_18_method_54_code, 1, (some (Jvm.ClassFile.FieldType.int)), 13) := rfl
set_option maxRecDepth 20000 in
theorem mq_107 : tb_mt 107 = some (⟨"java/lang/String", "coder", "()B"⟩, prog_18_method_152_code, 1, (some (Jvm.ClassFile.FieldType.byte)), 13) := rfl
set_option maxRecDepth 20000 in
theorem mq_108 : tb_mt 108 = some (⟨"java/lang/String", "charAt", "(I)C"⟩, prog_18_method_56_code, 2, (some (Jvm.ClassFile.FieldType.char)), 13) := rfl
set_option maxRecDepth 20000 in
theorem mq_109 : tb_mt 109 = some (⟨"java/lang/String", "isLatin1", "()Z"⟩, prog_18_method_154_code, 1, (some (Jvm.ClassFile.FieldType.boolean)), 13) := rfl
set_option maxRecDepth 20000 in
theorem mq_110 : tb_mt 110 = some (⟨"java/lang/StringLatin1", "charAt", "([BI)C"⟩, prog_19_method_2_code, 2, (some (Jvm.ClassFile.FieldType.char)), 14) := rfl
set_option maxRecDepth 20000 in
theorem mq_111 : tb_mt 111 = some (⟨"java/lang/String", "checkIndex", "(II)V"⟩, prog_18_method_155_code, 2, none, 13) := rfl
set_option maxRecDepth 20000 in
theorem mq_112 : tb_mt 112 = some (⟨"jdk/internal/util/Preconditions", "checkIndex", "(IILjava/util/function/BiFunction;)I"⟩, prog_23_method_11_code, 3, (some (Jvm.ClassFile.FieldType.int)), 17) := rfl
set_option maxRecDepth 20000 in
theorem mq_117 : tb_mt 117 = some (⟨"NineSail$Tape", "parseOr", "(II)V"⟩, prog_10_method_12_code, 4, none, 8) := rfl
set_option maxRecDepth 20000 in
theorem mq_118 : tb_mt 118 = some (⟨"NineSail$Tape", "parseAnd", "(II)V"⟩, prog_10_method_13_code, 4, none, 8) := rfl
set_option maxRecDepth 20000 in
theorem mq_119 : tb_mt 119 = some (⟨"NineSail$Tape", "parseTest", "(II)V"⟩, prog_10_method_14_code, 4, none, 8) := rfl
set_option maxRecDepth 20000 in
theorem mq_120 : tb_mt 120 = some (⟨"NineSail$Tape", "parseSum", "(II)V"⟩, prog_10_method_15_code, 5, none, 8) := rfl
set_option maxRecDepth 20000 in
theorem mq_121 : tb_mt 121 = some (⟨"NineSail$Tape", "parseTerm", "(II)V"⟩, prog_10_method_16_code, 5, none, 8) := rfl
set_option maxRecDepth 20000 in
theorem mq_122 : tb_mt 122 = some (⟨"NineSail$Tape", "parsePiece", "(II)V"⟩, prog_10_method_17_code, 3, none, 8) := rfl
set_option maxRecDepth 20000 in
theorem mq_123 : tb_mt 123 = some (⟨"NineSail$Tape", "number", "()I"⟩, prog_10_method_20_code, 3, (some (Jvm.ClassFile.FieldType.int)), 8) := rfl
set_option maxRecDepth 20000 in
theorem mq_124 : tb_mt 124 = some (⟨"NineSail$Tape", "putOperand", "(I)V"⟩, prog_10_method_19_code, 2, none, 8) := rfl
set_option maxRecDepth 20000 in
theorem mq_125 : tb_mt 125 = some (⟨"NineSail$Tape", "put", "(I)V"⟩, prog_10_method_10_code, 2, none, 8) := rfl
set_option maxRecDepth 20000 in
theorem mq_126 : tb_mt 126 = some (⟨"NineSail$Tape", "nameIndex", "()I"⟩, prog_10_method_21_code, 2, (some (Jvm.ClassFile.FieldType.int)), 8) := rfl
set_option maxRecDepth 20000 in
theorem mq_127 : tb_mt 127 = some (⟨"java/lang/String", "indexOf", "(I)I"⟩, prog_18_method_79_code, 2, (some (Jvm.ClassFile.FieldType.int)), 13) := rfl
set_option maxRecDepth 20000 in
theorem mq_128 : tb_mt 128 = some (⟨"java/lang/String", "indexOf", "(II)I"⟩, prog_18_method_80_code, 3, (some (Jvm.ClassFile.FieldType.int)), 13) := rfl
set_option maxRecDepth 20000 in
theorem mq_129 : tb_mt 129 = some (⟨"java/lang/StringLatin1", "indexOf", "([BIII)I"⟩, prog_19_method_22_code, 4, (some (Jvm.ClassFile.FieldType.int)), 14) := rfl
set_option maxRecDepth 20000 in
theorem mq_130 : tb_mt 130 = some (⟨"java/lang/StringLatin1", "canEncode", "(I)Z"⟩, prog_19_method_4_code, 1, (some (Jvm.ClassFile.FieldType.boolean)), 14) := rfl
set_option maxRecDepth 20000 in
theorem mq_131 : tb_mt 131 = some (⟨"java/lang/StringLatin1", "indexOfChar", "([BIII)I"⟩, prog_19_method_23_code, 6, (some (Jvm.ClassFile.FieldType.int)), 14) := rfl
set_option maxRecDepth 20000 in
theorem mq_135 : tb_mt 135 = some (⟨"java/lang/String", "checkBoundsBeginEnd", "(III)V"⟩, prog_18_method_158_code, 3, none, 13) := rfl
set_option maxRecDepth 20000 in
theorem mq_136 : tb_mt 136 = some (⟨"jdk/internal/util/Preconditions", "checkFromToIndex", "(IIILjava/util/function/BiFunction;)I"⟩, prog_23_method_12_code, 4, (some (Jvm.ClassFile.FieldType.int)), 17) := rfl
set_option maxRecDepth 20000 in
theorem mq_142 : tb_mt 142 = some (⟨"NineSail$Tape", "isSign", "(C)Z"⟩, prog_10_method_8_code, 2, (some (Jvm.ClassFile.FieldType.boolean)), 8) := rfl
set_option maxRecDepth 20000 in
theorem mq_143 : tb_mt 143 = some (⟨"NineSail$Tape", "parseClose", "()V"⟩, prog_10_method_18_code, 1, none, 8) := rfl
set_option maxRecDepth 20000 in
theorem mq_144 : tb_mt 144 = some (⟨"NineSail$Tape", "made", "()LNineSail$Text;"⟩, prog_10_method_4_code, 1, (some ((Jvm.ClassFile.FieldType.object "NineSail$Text"))), 8) := rfl
set_option maxRecDepth 20000 in
theorem mq_145 : tb_mt 145 = some (⟨"java/util/Arrays", "copyOf", "([II)[I"⟩, prog_22_method_123_code, 3, (some ((Jvm.ClassFile.FieldType.array Jvm.ClassFile.FieldType.int))), 16) := rfl
set_option maxRecDepth 20000 in
theorem mq_146 : tb_mt 146 = some (⟨"NineSail$Text", "<init>", "(II[I)V"⟩, prog_12_method_1_code, 4, none, 10) := rfl
set_option maxRecDepth 20000 in
theorem mq_147 : tb_mt 147 = some (⟨"NineSail$Sea", "addText", "(LNineSail$Text;)V"⟩, prog_7_method_7_code, 2, none, 5) := rfl
set_option maxRecDepth 20000 in
theorem mq_148 : tb_mt 148 = some (⟨"NineSail", "textTold", "(II)I"⟩, prog_1_method_27_code, 4, (some (Jvm.ClassFile.FieldType.int)), 11) := rfl
set_option maxRecDepth 20000 in
theorem mq_149 : tb_mt 149 = some (⟨"NineSail", "why", "(I)I"⟩, prog_1_method_28_code, 3, (some (Jvm.ClassFile.FieldType.int)), 11) := rfl
set_option maxRecDepth 20000 in
theorem mq_150 : tb_mt 150 = some (⟨"NineSail", "sheet", "(III)I"⟩, prog_1_method_29_code, 4, (some (Jvm.ClassFile.FieldType.int)), 11) := rfl
set_option maxRecDepth 20000 in
theorem mq_151 : tb_mt 151 = some (⟨"NineSail$Sheet", "lose", "()V"⟩, prog_8_method_3_code, 1, none, 6) := rfl
set_option maxRecDepth 20000 in
theorem mq_152 : tb_mt 152 = some (⟨"NineSail$Sheet", "start", "(II)V"⟩, prog_8_method_4_code, 4, none, 6) := rfl
set_option maxRecDepth 20000 in
theorem mq_153 : tb_mt 153 = some (⟨"NineSail", "mark", "(III)I"⟩, prog_1_method_30_code, 5, (some (Jvm.ClassFile.FieldType.int)), 11) := rfl
set_option maxRecDepth 20000 in
theorem mq_154 : tb_mt 154 = some (⟨"NineSail$Sheet", "put", "(II)V"⟩, prog_8_method_10_code, 3, none, 6) := rfl
set_option maxRecDepth 20000 in
theorem mq_155 : tb_mt 155 = some (⟨"NineSail", "pour", "(I)I"⟩, prog_1_method_31_code, 6, (some (Jvm.ClassFile.FieldType.int)), 11) := rfl
set_option maxRecDepth 20000 in
theorem mq_156 : tb_mt 156 = some (⟨"NineSail", "reads", "(I)I"⟩, prog_1_method_32_code, 4, (some (Jvm.ClassFile.FieldType.int)), 11) := rfl
set_option maxRecDepth 20000 in
theorem mq_157 : tb_mt 157 = some (⟨"NineSail", "copy", "(IIIII)I"⟩, prog_1_method_33_code, 8, (some (Jvm.ClassFile.FieldType.int)), 11) := rfl
set_option maxRecDepth 20000 in
theorem mq_158 : tb_mt 158 = some (⟨"NineSail$Sheet", "hasRun", "(II)Z"⟩, prog_8_method_7_code, 3, (some (Jvm.ClassFile.FieldType.boolean)), 6) := rfl
set_option maxRecDepth 20000 in
theorem mq_159 : tb_mt 159 = some (⟨"NineSail$Sheet", "take", "(LNineSail$Sheet;III)V"⟩, prog_8_method_11_code, 5, none, 6) := rfl
set_option maxRecDepth 20000 in
theorem mq_160 : tb_mt 160 = some (⟨"NineSail", "lay", "(III)I"⟩, prog_1_method_34_code, 5, (some (Jvm.ClassFile.FieldType.int)), 11) := rfl
set_option maxRecDepth 20000 in
theorem mq_161 : tb_mt 161 = some (⟨"NineSail", "isSlot", "(I)Z"⟩, prog_1_method_47_code, 1, (some (Jvm.ClassFile.FieldType.boolean)), 11) := rfl
set_option maxRecDepth 20000 in
theorem mq_162 : tb_mt 162 = some (⟨"NineSail$Sheet", "become", "(LNineSail$Sheet;)V"⟩, prog_8_method_5_code, 3, none, 6) := rfl
set_option maxRecDepth 20000 in
theorem mq_163 : tb_mt 163 = some (⟨"NineSail", "ask", "(II)I"⟩, prog_1_method_35_code, 5, (some (Jvm.ClassFile.FieldType.int)), 11) := rfl
set_option maxRecDepth 20000 in
theorem mq_164 : tb_mt 164 = some (⟨"NineSail", "findingOf", "(II)I"⟩, prog_1_method_50_code, 4, (some (Jvm.ClassFile.FieldType.int)), 11) := rfl
set_option maxRecDepth 20000 in
theorem mq_165 : tb_mt 165 = some (⟨"NineSail", "item", "(II)I"⟩, prog_1_method_36_code, 5, (some (Jvm.ClassFile.FieldType.int)), 11) := rfl
set_option maxRecDepth 20000 in
theorem mq_166 : tb_mt 166 = some (⟨"NineSail", "rest", "(II)I"⟩, prog_1_method_37_code, 4, (some (Jvm.ClassFile.FieldType.int)), 11) := rfl
set_option maxRecDepth 20000 in
theorem mq_167 : tb_mt 167 = some (⟨"NineSail", "tell", "(I)I"⟩, prog_1_method_38_code, 2, (some (Jvm.ClassFile.FieldType.int)), 11) := rfl
set_option maxRecDepth 20000 in
theorem mq_168 : tb_mt 168 = some (⟨"NineSail", "check", "(I)I"⟩, prog_1_method_39_code, 7, (some (Jvm.ClassFile.FieldType.int)), 11) := rfl
set_option maxRecDepth 20000 in
theorem mq_169 : tb_mt 169 = some (⟨"NineSail", "keep", "()I"⟩, prog_1_method_40_code, 1, (some (Jvm.ClassFile.FieldType.int)), 11) := rfl
set_option maxRecDepth 20000 in
theorem mq_170 : tb_mt 170 = some (⟨"NineSail", "back", "()I"⟩, prog_1_method_41_code, 1, (some (Jvm.ClassFile.FieldType.int)), 11) := rfl
set_option maxRecDepth 20000 in
theorem mq_171 : tb_mt 171 = some (⟨"NineSail", "count", "(I)I"⟩, prog_1_method_42_code, 2, (some (Jvm.ClassFile.FieldType.int)), 11) := rfl
set_option maxRecDepth 20000 in
theorem mq_172 : tb_mt 172 = some (⟨"NineSailModel", "<init>", "()V"⟩, prog_14_method_1_code, 2, none, 12) := rfl
set_option maxRecDepth 20000 in
theorem mq_173 : tb_mt 173 = some (⟨"NineSailModel", "boat", "(III)I"⟩, prog_14_method_14_code, 4, (some (Jvm.ClassFile.FieldType.int)), 12) := rfl
set_option maxRecDepth 20000 in
theorem mq_175 : tb_mt 175 = some (⟨"NineSailModel", "comes", "(III)V"⟩, prog_14_method_13_code, 5, none, 12) := rfl
set_option maxRecDepth 20000 in
theorem mq_176 : tb_mt 176 = some (⟨"NineSailModel", "sets", "(III)V"⟩, prog_14_method_9_code, 4, none, 12) := rfl
set_option maxRecDepth 20000 in
theorem mq_177 : tb_mt 177 = some (⟨"NineSailModel", "told", "(II)I"⟩, prog_14_method_19_code, 3, (some (Jvm.ClassFile.FieldType.int)), 12) := rfl
set_option maxRecDepth 20000 in
theorem mq_178 : tb_mt 178 = some (⟨"NineSailModel", "isBoat", "(I)Z"⟩, prog_14_method_10_code, 2, (some (Jvm.ClassFile.FieldType.boolean)), 12) := rfl
set_option maxRecDepth 20000 in
theorem mq_179 : tb_mt 179 = some (⟨"NineSailModel", "of", "(II)I"⟩, prog_14_method_8_code, 3, (some (Jvm.ClassFile.FieldType.int)), 12) := rfl
set_option maxRecDepth 20000 in
theorem mq_180 : tb_mt 180 = some (⟨"NineSailModel", "pulls", "(I)I"⟩, prog_14_method_15_code, 4, (some (Jvm.ClassFile.FieldType.int)), 12) := rfl
set_option maxRecDepth 20000 in
theorem mq_181 : tb_mt 181 = some (⟨"NineSailModel", "within", "(II)I"⟩, prog_14_method_4_code, 2, (some (Jvm.ClassFile.FieldType.int)), 12) := rfl
set_option maxRecDepth 20000 in
theorem mq_182 : tb_mt 182 = some (⟨"NineSailModel", "counts", "(I)I"⟩, prog_14_method_73_code, 4, (some (Jvm.ClassFile.FieldType.int)), 12) := rfl
set_option maxRecDepth 20000 in
theorem mq_183 : tb_mt 183 = some (⟨"NineSailModel", "textAt", "(I)I"⟩, prog_14_method_7_code, 2, (some (Jvm.ClassFile.FieldType.int)), 12) := rfl
set_option maxRecDepth 20000 in
theorem mq_184 : tb_mt 184 = some (⟨"NineSailModel", "worked", "(I)I"⟩, prog_14_method_76_code, 6, (some (Jvm.ClassFile.FieldType.int)), 12) := rfl
set_option maxRecDepth 20000 in
theorem mq_185 : tb_mt 185 = some (⟨"NineSailModel", "joined", "(III)I"⟩, prog_14_method_75_code, 3, (some (Jvm.ClassFile.FieldType.int)), 12) := rfl
set_option maxRecDepth 20000 in
theorem mq_186 : tb_mt 186 = some (⟨"NineSailModel", "drags", "(I)I"⟩, prog_14_method_16_code, 3, (some (Jvm.ClassFile.FieldType.int)), 12) := rfl
set_option maxRecDepth 20000 in
theorem mq_187 : tb_mt 187 = some (⟨"NineSailModel", "rows", "(I)I"⟩, prog_14_method_17_code, 2, (some (Jvm.ClassFile.FieldType.int)), 12) := rfl
set_option maxRecDepth 20000 in
theorem mq_188 : tb_mt 188 = some (⟨"NineSailModel", "worth", "(I)I"⟩, prog_14_method_18_code, 3, (some (Jvm.ClassFile.FieldType.int)), 12) := rfl
set_option maxRecDepth 20000 in
theorem mq_189 : tb_mt 189 = some (⟨"NineSailModel", "as", "(II)I"⟩, prog_14_method_21_code, 3, (some (Jvm.ClassFile.FieldType.int)), 12) := rfl
set_option maxRecDepth 20000 in
theorem mq_190 : tb_mt 190 = some (⟨"NineSailModel", "isOf", "(II)Z"⟩, prog_14_method_20_code, 2, (some (Jvm.ClassFile.FieldType.boolean)), 12) := rfl
set_option maxRecDepth 20000 in
theorem mq_191 : tb_mt 191 = some (⟨"NineSailModel", "turns", "(II)I"⟩, prog_14_method_22_code, 3, (some (Jvm.ClassFile.FieldType.int)), 12) := rfl
set_option maxRecDepth 20000 in
theorem mq_192 : tb_mt 192 = some (⟨"NineSailModel", "becomes", "(II)I"⟩, prog_14_method_6_code, 4, (some (Jvm.ClassFile.FieldType.int)), 12) := rfl
set_option maxRecDepth 20000 in
theorem mq_193 : tb_mt 193 = some (⟨"NineSailModel", "set", "(III)I"⟩, prog_14_method_23_code, 4, (some (Jvm.ClassFile.FieldType.int)), 12) := rfl
set_option maxRecDepth 20000 in
theorem mq_194 : tb_mt 194 = some (⟨"NineSailModel", "ties", "(II)I"⟩, prog_14_method_24_code, 3, (some (Jvm.ClassFile.FieldType.int)), 12) := rfl
set_option maxRecDepth 20000 in
theorem mq_195 : tb_mt 195 = some (⟨"NineSailModel", "hands", "(I)I"⟩, prog_14_method_26_code, 2, (some (Jvm.ClassFile.FieldType.int)), 12) := rfl
set_option maxRecDepth 20000 in
theorem mq_196 : tb_mt 196 = some (⟨"NineSailModel", "goesTo", "(I)I"⟩, prog_14_method_25_code, 2, (some (Jvm.ClassFile.FieldType.int)), 12) := rfl
set_option maxRecDepth 20000 in
theorem mq_197 : tb_mt 197 = some (⟨"NineSailModel", "rule", "(II)I"⟩, prog_14_method_28_code, 3, (some (Jvm.ClassFile.FieldType.int)), 12) := rfl
set_option maxRecDepth 20000 in
theorem mq_198 : tb_mt 198 = some (⟨"NineSailModel", "mostOf", "(I)I"⟩, prog_14_method_27_code, 1, (some (Jvm.ClassFile.FieldType.int)), 12) := rfl
set_option maxRecDepth 20000 in
theorem mq_199 : tb_mt 199 = some (⟨"NineSailModel", "deal", "(I)I"⟩, prog_14_method_29_code, 5, (some (Jvm.ClassFile.FieldType.int)), 12) := rfl
set_option maxRecDepth 20000 in
theorem mq_200 : tb_mt 200 = some (⟨"NineSailModel", "drawn", "()I"⟩, prog_14_method_12_code, 1, (some (Jvm.ClassFile.FieldType.int)), 12) := rfl
set_option maxRecDepth 20000 in
theorem mq_201 : tb_mt 201 = some (⟨"NineSailModel", "seed", "(I)I"⟩, prog_14_method_30_code, 2, (some (Jvm.ClassFile.FieldType.int)), 12) := rfl
set_option maxRecDepth 20000 in
theorem mq_202 : tb_mt 202 = some (⟨"NineSailModel", "speed", "()I"⟩, prog_14_method_31_code, 3, (some (Jvm.ClassFile.FieldType.int)), 12) := rfl
set_option maxRecDepth 20000 in
theorem mq_203 : tb_mt 203 = some (⟨"NineSailModel", "speedBy", "(II)I"⟩, prog_14_method_32_code, 3, (some (Jvm.ClassFile.FieldType.int)), 12) := rfl
set_option maxRecDepth 20000 in
theorem mq_204 : tb_mt 204 = some (⟨"NineSailModel", "hours", "(I)I"⟩, prog_14_method_40_code, 4, (some (Jvm.ClassFile.FieldType.int)), 12) := rfl
set_option maxRecDepth 20000 in
theorem mq_205 : tb_mt 205 = some (⟨"NineSailModel", "allOf", "(I)I"⟩, prog_14_method_39_code, 4, (some (Jvm.ClassFile.FieldType.int)), 12) := rfl
set_option maxRecDepth 20000 in
theorem mq_206 : tb_mt 206 = some (⟨"NineSailModel", "goesOn", "()V"⟩, prog_14_method_37_code, 5, none, 12) := rfl
set_option maxRecDepth 20000 in
theorem mq_207 : tb_mt 207 = some (⟨"NineSailModel", "heaviest", "()I"⟩, prog_14_method_33_code, 3, (some (Jvm.ClassFile.FieldType.int)), 12) := rfl
set_option maxRecDepth 20000 in
theorem mq_208 : tb_mt 208 = some (⟨"NineSailModel", "leastPlace", "()I"⟩, prog_14_method_34_code, 3, (some (Jvm.ClassFile.FieldType.int)), 12) := rfl
set_option maxRecDepth 20000 in
theorem mq_209 : tb_mt 209 = some (⟨"NineSailModel", "mostToGo", "()I"⟩, prog_14_method_36_code, 3, (some (Jvm.ClassFile.FieldType.int)), 12) := rfl
set_option maxRecDepth 20000 in
theorem mq_210 : tb_mt 210 = some (⟨"NineSailModel", "toGo", "(I)I"⟩, prog_14_method_35_code, 2, (some (Jvm.ClassFile.FieldType.int)), 12) := rfl
set_option maxRecDepth 20000 in
theorem mq_211 : tb_mt 211 = some (⟨"NineSailModel", "fleet", "(I)I"⟩, prog_14_method_43_code, 2, (some (Jvm.ClassFile.FieldType.int)), 12) := rfl
set_option maxRecDepth 20000 in
theorem mq_212 : tb_mt 212 = some (⟨"NineSailModel", "tiedOnes", "()I"⟩, prog_14_method_41_code, 3, (some (Jvm.ClassFile.FieldType.int)), 12) := rfl
set_option maxRecDepth 20000 in
theorem mq_213 : tb_mt 213 = some (⟨"NineSailModel", "homeOnes", "()I"⟩, prog_14_method_42_code, 3, (some (Jvm.ClassFile.FieldType.int)), 12) := rfl
set_option maxRecDepth 20000 in
theorem mq_214 : tb_mt 214 = some (⟨"NineSailModel", "behind", "(II)I"⟩, prog_14_method_46_code, 4, (some (Jvm.ClassFile.FieldType.int)), 12) := rfl
set_option maxRecDepth 20000 in
theorem mq_215 : tb_mt 215 = some (⟨"NineSailModel", "laysBy", "()V"⟩, prog_14_method_44_code, 2, none, 12) := rfl
set_option maxRecDepth 20000 in
theorem mq_216 : tb_mt 216 = some (⟨"NineSailModel", "goesOnMany", "(I)V"⟩, prog_14_method_38_code, 3, none, 12) := rfl
set_option maxRecDepth 20000 in
theorem mq_217 : tb_mt 217 = some (⟨"NineSailModel", "laysBack", "()V"⟩, prog_14_method_45_code, 2, none, 12) := rfl
set_option maxRecDepth 20000 in
theorem mq_218 : tb_mt 218 = some (⟨"NineSailModel", "home", "()I"⟩, prog_14_method_47_code, 4, (some (Jvm.ClassFile.FieldType.int)), 12) := rfl
set_option maxRecDepth 20000 in
theorem mq_219 : tb_mt 219 = some (⟨"NineSailModel", "orNone", "(I)I"⟩, prog_14_method_3_code, 1, (some (Jvm.ClassFile.FieldType.int)), 12) := rfl
set_option maxRecDepth 20000 in
theorem mq_220 : tb_mt 220 = some (⟨"NineSailModel", "bestLaw", "(II)I"⟩, prog_14_method_48_code, 7, (some (Jvm.ClassFile.FieldType.int)), 12) := rfl
set_option maxRecDepth 20000 in
theorem mq_221 : tb_mt 221 = some (⟨"NineSailModel", "turned", "(II)I"⟩, prog_14_method_49_code, 7, (some (Jvm.ClassFile.FieldType.int)), 12) := rfl
set_option maxRecDepth 20000 in
theorem mq_222 : tb_mt 222 = some (⟨"NineSailModel", "cutOff", "(I)I"⟩, prog_14_method_50_code, 5, (some (Jvm.ClassFile.FieldType.int)), 12) := rfl
set_option maxRecDepth 20000 in
theorem mq_223 : tb_mt 223 = some (⟨"NineSailModel", "wishes", "(II)I"⟩, prog_14_method_51_code, 8, (some (Jvm.ClassFile.FieldType.int)), 12) := rfl
set_option maxRecDepth 20000 in
theorem mq_224 : tb_mt 224 = some (⟨"NineSailModel", "fee", "()I"⟩, prog_14_method_52_code, 2, (some (Jvm.ClassFile.FieldType.int)), 12) := rfl
set_option maxRecDepth 20000 in
theorem mq_225 : tb_mt 225 = some (⟨"NineSailModel", "fine", "(I)I"⟩, prog_14_method_53_code, 3, (some (Jvm.ClassFile.FieldType.int)), 12) := rfl
set_option maxRecDepth 20000 in
theorem mq_226 : tb_mt 226 = some (⟨"NineSailModel", "feed", "(III)I"⟩, prog_14_method_54_code, 6, (some (Jvm.ClassFile.FieldType.int)), 12) := rfl
set_option maxRecDepth 20000 in
theorem mq_227 : tb_mt 227 = some (⟨"NineSailModel", "trim", "(I)I"⟩, prog_14_method_55_code, 2, (some (Jvm.ClassFile.FieldType.int)), 12) := rfl
set_option maxRecDepth 20000 in
theorem mq_228 : tb_mt 228 = some (⟨"NineSailModel", "text", "()I"⟩, prog_14_method_71_code, 3, (some (Jvm.ClassFile.FieldType.int)), 12) := rfl
set_option maxRecDepth 20000 in
theorem mq_229 : tb_mt 229 = some (⟨"NineSailModel", "parse", "()I"⟩, prog_14_method_70_code, 3, (some (Jvm.ClassFile.FieldType.int)), 12) := rfl
set_option maxRecDepth 20000 in
theorem mq_230 : tb_mt 230 = some (⟨"NineSailModel", "nextToken", "()V"⟩, prog_14_method_58_code, 3, none, 12) := rfl
set_option maxRecDepth 20000 in
theorem mq_231 : tb_mt 231 = some (⟨"NineSailModel", "isLetter", "(I)Z"⟩, prog_14_method_56_code, 2, (some (Jvm.ClassFile.FieldType.boolean)), 12) := rfl
set_option maxRecDepth 20000 in
theorem mq_232 : tb_mt 232 = some (⟨"NineSailModel", "isDigit", "(I)Z"⟩, prog_14_method_57_code, 2, (some (Jvm.ClassFile.FieldType.boolean)), 12) := rfl
set_option maxRecDepth 20000 in
theorem mq_233 : tb_mt 233 = some (⟨"NineSailModel", "key", "()I"⟩, prog_14_method_61_code, 1, (some (Jvm.ClassFile.FieldType.int)), 12) := rfl
set_option maxRecDepth 20000 in
theorem mq_234 : tb_mt 234 = some (⟨"NineSailModel", "isWordAt", "(IIII)Z"⟩, prog_14_method_60_code, 6, (some (Jvm.ClassFile.FieldType.boolean)), 12) := rfl
set_option maxRecDepth 20000 in
theorem mq_235 : tb_mt 235 = some (⟨"NineSailModel", "either", "(I)Z"⟩, prog_14_method_64_code, 2, (some (Jvm.ClassFile.FieldType.boolean)), 12) := rfl
set_option maxRecDepth 20000 in
theorem mq_236 : tb_mt 236 = some (⟨"NineSailModel", "both", "(I)Z"⟩, prog_14_method_65_code, 2, (some (Jvm.ClassFile.FieldType.boolean)), 12) := rfl
set_option maxRecDepth 20000 in
theorem mq_237 : tb_mt 237 = some (⟨"NineSailModel", "test", "(I)Z"⟩, prog_14_method_66_code, 3, (some (Jvm.ClassFile.FieldType.boolean)), 12) := rfl
set_option maxRecDepth 20000 in
theorem mq_238 : tb_mt 238 = some (⟨"NineSailModel", "sum", "(I)Z"⟩, prog_14_method_67_code, 3, (some (Jvm.ClassFile.FieldType.boolean)), 12) := rfl
set_option maxRecDepth 20000 in
theorem mq_239 : tb_mt 239 = some (⟨"NineSailModel", "term", "(I)Z"⟩, prog_14_method_68_code, 3, (some (Jvm.ClassFile.FieldType.boolean)), 12) := rfl
set_option maxRecDepth 20000 in
theorem mq_240 : tb_mt 240 = some (⟨"NineSailModel", "part0", "(I)Z"⟩, prog_14_method_69_code, 2, (some (Jvm.ClassFile.FieldType.boolean)), 12) := rfl
set_option maxRecDepth 20000 in
theorem mq_241 : tb_mt 241 = some (⟨"NineSailModel", "step", "(II)V"⟩, prog_14_method_63_code, 3, none, 12) := rfl
set_option maxRecDepth 20000 in
theorem mq_242 : tb_mt 242 = some (⟨"NineSailModel", "isName", "(II)Z"⟩, prog_14_method_62_code, 2, (some (Jvm.ClassFile.FieldType.boolean)), 12) := rfl
set_option maxRecDepth 20000 in
theorem mq_243 : tb_mt 243 = some (⟨"NineSailModel", "isSign", "(I)Z"⟩, prog_14_method_59_code, 2, (some (Jvm.ClassFile.FieldType.boolean)), 12) := rfl
set_option maxRecDepth 20000 in
theorem mq_244 : tb_mt 244 = some (⟨"NineSailModel", "textTold", "(II)I"⟩, prog_14_method_72_code, 3, (some (Jvm.ClassFile.FieldType.int)), 12) := rfl
set_option maxRecDepth 20000 in
theorem mq_245 : tb_mt 245 = some (⟨"NineSailModel", "isText", "(I)Z"⟩, prog_14_method_11_code, 2, (some (Jvm.ClassFile.FieldType.boolean)), 12) := rfl
set_option maxRecDepth 20000 in
theorem mq_246 : tb_mt 246 = some (⟨"NineSailModel", "why", "(I)I"⟩, prog_14_method_74_code, 2, (some (Jvm.ClassFile.FieldType.int)), 12) := rfl
set_option maxRecDepth 20000 in
theorem mq_247 : tb_mt 247 = some (⟨"NineSailModel", "sheet", "(III)I"⟩, prog_14_method_78_code, 5, (some (Jvm.ClassFile.FieldType.int)), 12) := rfl
set_option maxRecDepth 20000 in
theorem mq_248 : tb_mt 248 = some (⟨"NineSailModel", "isSheet", "(I)Z"⟩, prog_14_method_77_code, 1, (some (Jvm.ClassFile.FieldType.boolean)), 12) := rfl
set_option maxRecDepth 20000 in
theorem mq_249 : tb_mt 249 = some (⟨"NineSailModel", "mark", "(III)I"⟩, prog_14_method_79_code, 4, (some (Jvm.ClassFile.FieldType.int)), 12) := rfl
set_option maxRecDepth 20000 in
theorem mq_250 : tb_mt 250 = some (⟨"NineSailModel", "pour", "(I)I"⟩, prog_14_method_80_code, 6, (some (Jvm.ClassFile.FieldType.int)), 12) := rfl
set_option maxRecDepth 20000 in
theorem mq_251 : tb_mt 251 = some (⟨"NineSailModel", "reads", "(I)I"⟩, prog_14_method_81_code, 4, (some (Jvm.ClassFile.FieldType.int)), 12) := rfl
set_option maxRecDepth 20000 in
theorem mq_252 : tb_mt 252 = some (⟨"NineSailModel", "whose", "(III)I"⟩, prog_14_method_82_code, 10, (some (Jvm.ClassFile.FieldType.int)), 12) := rfl
set_option maxRecDepth 20000 in
theorem mq_253 : tb_mt 253 = some (⟨"NineSailModel", "off", "(II)I"⟩, prog_14_method_5_code, 2, (some (Jvm.ClassFile.FieldType.int)), 12) := rfl
set_option maxRecDepth 20000 in
theorem mq_254 : tb_mt 254 = some (⟨"NineSailModel", "copy", "(IIIII)I"⟩, prog_14_method_83_code, 7, (some (Jvm.ClassFile.FieldType.int)), 12) := rfl
set_option maxRecDepth 20000 in
theorem mq_255 : tb_mt 255 = some (⟨"NineSailModel", "lay", "(III)I"⟩, prog_14_method_85_code, 7, (some (Jvm.ClassFile.FieldType.int)), 12) := rfl
set_option maxRecDepth 20000 in
theorem mq_256 : tb_mt 256 = some (⟨"NineSailModel", "isSlot", "(I)Z"⟩, prog_14_method_84_code, 1, (some (Jvm.ClassFile.FieldType.boolean)), 12) := rfl
set_option maxRecDepth 20000 in
theorem mq_257 : tb_mt 257 = some (⟨"NineSailModel", "ask", "(II)I"⟩, prog_14_method_86_code, 3, (some (Jvm.ClassFile.FieldType.int)), 12) := rfl
set_option maxRecDepth 20000 in
theorem mq_258 : tb_mt 258 = some (⟨"NineSailModel", "item", "(II)I"⟩, prog_14_method_87_code, 4, (some (Jvm.ClassFile.FieldType.int)), 12) := rfl
set_option maxRecDepth 20000 in
theorem mq_259 : tb_mt 259 = some (⟨"NineSailModel", "rest", "(II)I"⟩, prog_14_method_88_code, 3, (some (Jvm.ClassFile.FieldType.int)), 12) := rfl
set_option maxRecDepth 20000 in
theorem mq_260 : tb_mt 260 = some (⟨"NineSailModel", "tell", "(I)I"⟩, prog_14_method_89_code, 2, (some (Jvm.ClassFile.FieldType.int)), 12) := rfl
set_option maxRecDepth 20000 in
theorem mq_261 : tb_mt 261 = some (⟨"NineSailModel", "check", "(I)I"⟩, prog_14_method_91_code, 5, (some (Jvm.ClassFile.FieldType.int)), 12) := rfl
set_option maxRecDepth 20000 in
theorem mq_262 : tb_mt 262 = some (⟨"NineSailModel", "setAside", "([I[I)V"⟩, prog_14_method_90_code, 4, none, 12) := rfl
set_option maxRecDepth 20000 in
theorem mq_263 : tb_mt 263 = some (⟨"NineSailModel", "keep", "()I"⟩, prog_14_method_92_code, 1, (some (Jvm.ClassFile.FieldType.int)), 12) := rfl
set_option maxRecDepth 20000 in
theorem mq_264 : tb_mt 264 = some (⟨"NineSailModel", "back", "()I"⟩, prog_14_method_93_code, 1, (some (Jvm.ClassFile.FieldType.int)), 12) := rfl
set_option maxRecDepth 20000 in
theorem mq_265 : tb_mt 265 = some (⟨"NineSailModel", "count", "(I)I"⟩, prog_14_method_94_code, 2, (some (Jvm.ClassFile.FieldType.int)), 12) := rfl
