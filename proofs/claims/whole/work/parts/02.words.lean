set_option maxRecDepth 100000 in
theorem wi_0 : Cond.selects "CollectedGroup$Collector" ⟨"CollectedGroup$Collector", "fillMoves", "(I)V"⟩ ⟨"CollectedGroup$Collector", "fillMoves", "(I)V"⟩ ∈ WALL := hw_wi 0 rfl rfl
set_option maxRecDepth 100000 in
theorem wi_1 : Cond.selects "CollectedGroup$Collector" ⟨"CollectedGroup$Collector", "movedOnce", "(II)I"⟩ ⟨"CollectedGroup$Collector", "movedOnce", "(II)I"⟩ ∈ WALL := hw_wi 1 rfl rfl
set_option maxRecDepth 100000 in
theorem wi_2 : Cond.selects "CollectedGroup$Collector" ⟨"CollectedGroup$Collector", "multiplyFrom", "(III)I"⟩ ⟨"CollectedGroup$Collector", "multiplyFrom", "(III)I"⟩ ∈ WALL := hw_wi 2 rfl rfl
set_option maxRecDepth 100000 in
theorem wi_3 : Cond.selects "CollectedGroup$Collector" ⟨"CollectedGroup$Collector", "fillCarries", "(I)V"⟩ ⟨"CollectedGroup$Collector", "fillCarries", "(I)V"⟩ ∈ WALL := hw_wi 3 rfl rfl
set_option maxRecDepth 100000 in
theorem wi_4 : Cond.selects "CollectedGroup$Collector" ⟨"CollectedGroup$Collector", "moveKeepsProducts", "(I)Z"⟩ ⟨"CollectedGroup$Collector", "moveKeepsProducts", "(I)Z"⟩ ∈ WALL := hw_wi 4 rfl rfl
set_option maxRecDepth 100000 in
theorem wi_5 : Cond.selects "CollectedGroup$Collector" ⟨"CollectedGroup$Collector", "moveKeepsPower", "(I)Z"⟩ ⟨"CollectedGroup$Collector", "moveKeepsPower", "(I)Z"⟩ ∈ WALL := hw_wi 5 rfl rfl
set_option maxRecDepth 100000 in
theorem wi_6 : Cond.selects "CollectedGroup$Collector" ⟨"CollectedGroup$Collector", "fullTurnIsPower", "(I)Z"⟩ ⟨"CollectedGroup$Collector", "fullTurnIsPower", "(I)Z"⟩ ∈ WALL := hw_wi 6 rfl rfl
set_option maxRecDepth 100000 in
theorem wi_7 : Cond.selects "CollectedGroup" ⟨"CollectedGroup", "fillWhole", "()V"⟩ ⟨"CollectedGroup", "fillWhole", "()V"⟩ ∈ WALL := hw_wi 7 rfl rfl
set_option maxRecDepth 100000 in
theorem wi_8 : Cond.selects "CollectedGroup" ⟨"CollectedGroup", "isElement", "(I)Z"⟩ ⟨"CollectedGroup", "isElement", "(I)Z"⟩ ∈ WALL := hw_wi 8 rfl rfl
set_option maxRecDepth 100000 in
theorem wi_9 : Cond.selects "CollectedGroup" ⟨"CollectedGroup", "isPlace", "(I)Z"⟩ ⟨"CollectedGroup", "isPlace", "(I)Z"⟩ ∈ WALL := hw_wi 9 rfl rfl
set_option maxRecDepth 100000 in
theorem wi_10 : Cond.selects "CollectedGroup$Subgroup" ⟨"CollectedGroup$Subgroup", "includeConjugates", "(ILCollectedGroup$Subgroup;)V"⟩ ⟨"CollectedGroup$Subgroup", "includeConjugates", "(ILCollectedGroup$Subgroup;)V"⟩ ∈ WALL := hw_wi 10 rfl rfl
set_option maxRecDepth 100000 in
theorem wi_11 : Cond.selects "CollectedGroup" ⟨"CollectedGroup", "seriesAmount", "(ILCollectedGroup$Subgroup;)I"⟩ ⟨"CollectedGroup", "seriesAmount", "(ILCollectedGroup$Subgroup;)I"⟩ ∈ WALL := hw_wi 11 rfl rfl
set_option maxRecDepth 100000 in
theorem wi_12 : Cond.selects "CollectedGroup" ⟨"CollectedGroup", "addClass", "(I)V"⟩ ⟨"CollectedGroup", "addClass", "(I)V"⟩ ∈ WALL := hw_wi 12 rfl rfl
set_option maxRecDepth 100000 in
theorem wi_13 : Cond.selects "CollectedGroupModel" ⟨"CollectedGroupModel", "isGenerator", "(I)Z"⟩ ⟨"CollectedGroupModel", "isGenerator", "(I)Z"⟩ ∈ WALL := hw_wi 13 rfl rfl
set_option maxRecDepth 100000 in
theorem wi_14 : Cond.selects "CollectedGroupModel" ⟨"CollectedGroupModel", "build", "()Z"⟩ ⟨"CollectedGroupModel", "build", "()Z"⟩ ∈ WALL := hw_wi 14 rfl rfl
set_option maxRecDepth 100000 in
theorem wi_15 : Cond.selects "CollectedGroupModel" ⟨"CollectedGroupModel", "letters", "(II)I"⟩ ⟨"CollectedGroupModel", "letters", "(II)I"⟩ ∈ WALL := hw_wi 15 rfl rfl
set_option maxRecDepth 100000 in
theorem wi_16 : Cond.selects "CollectedGroupModel" ⟨"CollectedGroupModel", "of", "(II)I"⟩ ⟨"CollectedGroupModel", "of", "(II)I"⟩ ∈ WALL := hw_wi 16 rfl rfl
set_option maxRecDepth 100000 in
theorem wi_17 : Cond.selects "CollectedGroupModel" ⟨"CollectedGroupModel", "turns", "(I)Z"⟩ ⟨"CollectedGroupModel", "turns", "(I)Z"⟩ ∈ WALL := hw_wi 17 rfl rfl
set_option maxRecDepth 100000 in
theorem wi_18 : Cond.selects "CollectedGroupModel" ⟨"CollectedGroupModel", "widen", "(I)V"⟩ ⟨"CollectedGroupModel", "widen", "(I)V"⟩ ∈ WALL := hw_wi 18 rfl rfl
set_option maxRecDepth 100000 in
theorem wi_19 : Cond.selects "CollectedGroupModel" ⟨"CollectedGroupModel", "enter", "(IIII)V"⟩ ⟨"CollectedGroupModel", "enter", "(IIII)V"⟩ ∈ WALL := hw_wi 19 rfl rfl
set_option maxRecDepth 100000 in
theorem wi_20 : Cond.selects "CollectedGroupModel" ⟨"CollectedGroupModel", "is", "(I)Z"⟩ ⟨"CollectedGroupModel", "is", "(I)Z"⟩ ∈ WALL := hw_wi 20 rfl rfl
set_option maxRecDepth 100000 in
theorem wi_21 : Cond.selects "CollectedGroupModel" ⟨"CollectedGroupModel", "by", "(II)I"⟩ ⟨"CollectedGroupModel", "by", "(II)I"⟩ ∈ WALL := hw_wi 21 rfl rfl
set_option maxRecDepth 100000 in
theorem wi_22 : Cond.selects "CollectedGroupModel" ⟨"CollectedGroupModel", "bracket", "(II)I"⟩ ⟨"CollectedGroupModel", "bracket", "(II)I"⟩ ∈ WALL := hw_wi 22 rfl rfl
set_option maxRecDepth 100000 in
theorem wi_23 : Cond.selects "CollectedGroupModel" ⟨"CollectedGroupModel", "isPlace", "(I)Z"⟩ ⟨"CollectedGroupModel", "isPlace", "(I)Z"⟩ ∈ WALL := hw_wi 23 rfl rfl
set_option maxRecDepth 100000 in
theorem wi_24 : Cond.selects "CollectedGroupModel" ⟨"CollectedGroupModel", "take", "(I)V"⟩ ⟨"CollectedGroupModel", "take", "(I)V"⟩ ∈ WALL := hw_wi 24 rfl rfl
set_option maxRecDepth 100000 in
theorem wi_25 : Cond.selects "CollectedGroupModel" ⟨"CollectedGroupModel", "put", "(I)I"⟩ ⟨"CollectedGroupModel", "put", "(I)I"⟩ ∈ WALL := hw_wi 25 rfl rfl
set_option maxRecDepth 100000 in
theorem wi_26 : Cond.selects "CollectedGroupModel" ⟨"CollectedGroupModel", "close", "()V"⟩ ⟨"CollectedGroupModel", "close", "()V"⟩ ∈ WALL := hw_wi 26 rfl rfl
set_option maxRecDepth 100000 in
theorem wi_27 : Cond.selects "CollectedGroupModel" ⟨"CollectedGroupModel", "worked", "()I"⟩ ⟨"CollectedGroupModel", "worked", "()I"⟩ ∈ WALL := hw_wi 27 rfl rfl
set_option maxRecDepth 100000 in
theorem wi_28 : Cond.selects "CollectedGroupModel" ⟨"CollectedGroupModel", "series", "(IZ)I"⟩ ⟨"CollectedGroupModel", "series", "(IZ)I"⟩ ∈ WALL := hw_wi 28 rfl rfl
set_option maxRecDepth 100000 in
theorem wi_29 : Cond.selects "CollectedGroupModel" ⟨"CollectedGroupModel", "least", "(I)I"⟩ ⟨"CollectedGroupModel", "least", "(I)I"⟩ ∈ WALL := hw_wi 29 rfl rfl
set_option maxRecDepth 100000 in
theorem wi_30 : Cond.selects "CollectedGroupModel" ⟨"CollectedGroupModel", "relatives", "(I)I"⟩ ⟨"CollectedGroupModel", "relatives", "(I)I"⟩ ∈ WALL := hw_wi 30 rfl rfl
set_option maxRecDepth 100000 in
theorem wi_31 : Cond.initialized "CollectedGroupLaw" ∈ WALL := hw_wi 31 rfl rfl
set_option maxRecDepth 100000 in
theorem wi_32 : Cond.initialized "CollectedGroup" ∈ WALL := hw_wi 32 rfl rfl
set_option maxRecDepth 100000 in
theorem wi_33 : Cond.initialized "CollectedGroup$Collector" ∈ WALL := hw_wi 33 rfl rfl
set_option maxRecDepth 100000 in
theorem wi_34 : Cond.initialized "java/util/Arrays" ∈ WALL := hw_wi 34 rfl rfl
set_option maxRecDepth 100000 in
theorem wi_35 : Cond.initialized "java/lang/Math" ∈ WALL := hw_wi 35 rfl rfl
set_option maxRecDepth 100000 in
theorem wi_36 : Cond.initialized "java/lang/System" ∈ WALL := hw_wi 36 rfl rfl
set_option maxRecDepth 100000 in
theorem wi_37 : Cond.initialized "CollectedGroup$Subgroup" ∈ WALL := hw_wi 37 rfl rfl
set_option maxRecDepth 100000 in
theorem wi_38 : Cond.initialized "CollectedGroup$ElementSet" ∈ WALL := hw_wi 38 rfl rfl
set_option maxRecDepth 100000 in
theorem wi_39 : Cond.initialized "CollectedGroupModel" ∈ WALL := hw_wi 39 rfl rfl
set_option maxRecDepth 100000 in
theorem wi_40 : Cond.classLink "CollectedGroupLaw" 7 "CollectedGroup" ∈ WALL := hw_wi 40 rfl rfl
set_option maxRecDepth 100000 in
theorem wi_41 : Cond.instantiable "CollectedGroup" 7 ∈ WALL := hw_wi 41 rfl rfl
set_option maxRecDepth 100000 in
theorem wi_42 : Cond.methodLink "CollectedGroupLaw" 15 ⟨"CollectedGroup", "<init>", "(I)V"⟩ ∈ WALL := hw_wi 42 rfl rfl
set_option maxRecDepth 100000 in
theorem wi_43 : Cond.instanceMethod ⟨"CollectedGroup", "<init>", "(I)V"⟩ ∈ WALL := hw_wi 43 rfl rfl
set_option maxRecDepth 100000 in
theorem wi_44 : Cond.code ⟨"CollectedGroup", "<init>", "(I)V"⟩ prog_1_method_1_code 3 none ∈ WALL := hw_wi 44 rfl rfl
set_option maxRecDepth 100000 in
theorem wi_45 : Cond.methodLink "CollectedGroup" 1 ⟨"java/lang/Object", "<init>", "()V"⟩ ∈ WALL := hw_wi 45 rfl rfl
set_option maxRecDepth 100000 in
theorem wi_46 : Cond.instanceMethod ⟨"java/lang/Object", "<init>", "()V"⟩ ∈ WALL := hw_wi 46 rfl rfl
set_option maxRecDepth 100000 in
theorem wi_47 : Cond.code ⟨"java/lang/Object", "<init>", "()V"⟩ object_method_1_code 1 none ∈ WALL := hw_wi 47 rfl rfl
set_option maxRecDepth 100000 in
theorem wi_48 : Cond.classLink "CollectedGroup" 7 "CollectedGroup$Collector" ∈ WALL := hw_wi 48 rfl rfl
set_option maxRecDepth 100000 in
theorem wi_49 : Cond.instantiable "CollectedGroup$Collector" 8 ∈ WALL := hw_wi 49 rfl rfl
set_option maxRecDepth 100000 in
theorem wi_50 : Cond.methodLink "CollectedGroup" 9 ⟨"CollectedGroup", "primeDigits", "(I)[I"⟩ ∈ WALL := hw_wi 50 rfl rfl
set_option maxRecDepth 100000 in
theorem wi_51 : Cond.static ⟨"CollectedGroup", "primeDigits", "(I)[I"⟩ ∈ WALL := hw_wi 51 rfl rfl
set_option maxRecDepth 100000 in
theorem wi_52 : Cond.code ⟨"CollectedGroup", "primeDigits", "(I)[I"⟩ prog_1_method_32_code 6 (some (.array .int)) ∈ WALL := hw_wi 52 rfl rfl
set_option maxRecDepth 100000 in
theorem wi_53 : Cond.methodLink "CollectedGroup" 162 ⟨"CollectedGroup", "isPrimeDigit", "(I)Z"⟩ ∈ WALL := hw_wi 53 rfl rfl
set_option maxRecDepth 100000 in
theorem wi_54 : Cond.static ⟨"CollectedGroup", "isPrimeDigit", "(I)Z"⟩ ∈ WALL := hw_wi 54 rfl rfl
set_option maxRecDepth 100000 in
theorem wi_55 : Cond.code ⟨"CollectedGroup", "isPrimeDigit", "(I)Z"⟩ prog_1_method_33_code 1 (some .boolean) ∈ WALL := hw_wi 55 rfl rfl
set_option maxRecDepth 100000 in
theorem wi_56 : Cond.methodLink "CollectedGroup" 165 ⟨"java/util/Arrays", "copyOf", "([II)[I"⟩ ∈ WALL := hw_wi 56 rfl rfl
set_option maxRecDepth 100000 in
theorem wi_57 : Cond.static ⟨"java/util/Arrays", "copyOf", "([II)[I"⟩ ∈ WALL := hw_wi 57 rfl rfl
set_option maxRecDepth 100000 in
theorem wi_58 : Cond.code ⟨"java/util/Arrays", "copyOf", "([II)[I"⟩ prog_10_method_123_code 3 (some (.array .int)) ∈ WALL := hw_wi 58 rfl rfl
set_option maxRecDepth 100000 in
theorem wi_59 : Cond.methodLink "java/util/Arrays" 316 ⟨"[I", "clone", "()Ljava/lang/Object;"⟩ ∈ WALL := hw_wi 59 rfl rfl
set_option maxRecDepth 100000 in
theorem wi_60 : Cond.sameMethod "[I" "java/lang/Object" "clone" "()Ljava/lang/Object;" ∈ WALL := hw_wi 60 rfl rfl
set_option maxRecDepth 100000 in
theorem wi_61 : Cond.native ⟨"java/lang/Object", "clone", "()Ljava/lang/Object;"⟩ ∈ WALL := hw_wi 61 rfl rfl
set_option maxRecDepth 100000 in
theorem wi_62 : Cond.instanceMethod ⟨"java/lang/Object", "clone", "()Ljava/lang/Object;"⟩ ∈ WALL := hw_wi 62 rfl rfl
set_option maxRecDepth 100000 in
theorem wi_63 : Cond.selects "[I" ⟨"[I", "clone", "()Ljava/lang/Object;"⟩ ⟨"java/lang/Object", "clone", "()Ljava/lang/Object;"⟩ ∈ WALL := hw_wi 63 rfl rfl
set_option maxRecDepth 100000 in
theorem wi_65 : Cond.classLink "java/util/Arrays" 317 "[I" ∈ WALL := hw_wi 65 rfl rfl
set_option maxRecDepth 100000 in
theorem wi_66 : Cond.methodLink "java/util/Arrays" 304 ⟨"java/lang/Math", "min", "(II)I"⟩ ∈ WALL := hw_wi 66 rfl rfl
set_option maxRecDepth 100000 in
theorem wi_67 : Cond.static ⟨"java/lang/Math", "min", "(II)I"⟩ ∈ WALL := hw_wi 67 rfl rfl
set_option maxRecDepth 100000 in
theorem wi_68 : Cond.code ⟨"java/lang/Math", "min", "(II)I"⟩ prog_8_method_69_code 2 (some .int) ∈ WALL := hw_wi 68 rfl rfl
set_option maxRecDepth 100000 in
theorem wi_69 : Cond.methodLink "java/util/Arrays" 150 ⟨"java/lang/System", "arraycopy", "(Ljava/lang/Object;ILjava/lang/Object;II)V"⟩ ∈ WALL := hw_wi 69 rfl rfl
set_option maxRecDepth 100000 in
theorem wi_70 : Cond.static ⟨"java/lang/System", "arraycopy", "(Ljava/lang/Object;ILjava/lang/Object;II)V"⟩ ∈ WALL := hw_wi 70 rfl rfl
set_option maxRecDepth 100000 in
theorem wi_71 : Cond.native ⟨"java/lang/System", "arraycopy", "(Ljava/lang/Object;ILjava/lang/Object;II)V"⟩ ∈ WALL := hw_wi 71 rfl rfl
set_option maxRecDepth 100000 in
theorem wi_72 : Cond.methodLink "CollectedGroup" 15 ⟨"CollectedGroup$Collector", "<init>", "([I)V"⟩ ∈ WALL := hw_wi 72 rfl rfl
set_option maxRecDepth 100000 in
theorem wi_73 : Cond.instanceMethod ⟨"CollectedGroup$Collector", "<init>", "([I)V"⟩ ∈ WALL := hw_wi 73 rfl rfl
set_option maxRecDepth 100000 in
theorem wi_74 : Cond.code ⟨"CollectedGroup$Collector", "<init>", "([I)V"⟩ prog_2_method_1_code 5 none ∈ WALL := hw_wi 74 rfl rfl
set_option maxRecDepth 100000 in
theorem wi_75 : Cond.methodLink "CollectedGroup$Collector" 1 ⟨"java/lang/Object", "<init>", "()V"⟩ ∈ WALL := hw_wi 75 rfl rfl
set_option maxRecDepth 100000 in
theorem wi_76 : Cond.classLink "CollectedGroup$Collector" 23 "[[I" ∈ WALL := hw_wi 76 rfl rfl
set_option maxRecDepth 100000 in
theorem wi_78 : Cond.classLink "CollectedGroup$Collector" 28 "[I" ∈ WALL := hw_wi 78 rfl rfl
set_option maxRecDepth 100000 in
theorem wi_79 : Cond.fieldLink "CollectedGroup$Collector" 7 "CollectedGroup$Collector" "letters" "I" ∈ WALL := hw_wi 79 rfl rfl
set_option maxRecDepth 100000 in
theorem wi_80 : Cond.fieldLink "CollectedGroup$Collector" 35 "CollectedGroup$Collector" "elements" "I" ∈ WALL := hw_wi 80 rfl rfl
set_option maxRecDepth 100000 in
theorem wi_81 : Cond.fieldLink "CollectedGroup$Collector" 13 "CollectedGroup$Collector" "orders" "[I" ∈ WALL := hw_wi 81 rfl rfl
set_option maxRecDepth 100000 in
theorem wi_82 : Cond.fieldLink "CollectedGroup$Collector" 17 "CollectedGroup$Collector" "weights" "[I" ∈ WALL := hw_wi 82 rfl rfl
set_option maxRecDepth 100000 in
theorem wi_83 : Cond.fieldLink "CollectedGroup$Collector" 20 "CollectedGroup$Collector" "powers" "[I" ∈ WALL := hw_wi 83 rfl rfl
set_option maxRecDepth 100000 in
theorem wi_84 : Cond.fieldLink "CollectedGroup$Collector" 25 "CollectedGroup$Collector" "conjugates" "[[I" ∈ WALL := hw_wi 84 rfl rfl
set_option maxRecDepth 100000 in
theorem wi_85 : Cond.fieldLink "CollectedGroup$Collector" 29 "CollectedGroup$Collector" "moved" "[[I" ∈ WALL := hw_wi 85 rfl rfl
set_option maxRecDepth 100000 in
theorem wi_86 : Cond.fieldLink "CollectedGroup$Collector" 32 "CollectedGroup$Collector" "carried" "[[I" ∈ WALL := hw_wi 86 rfl rfl
set_option maxRecDepth 100000 in
theorem wi_87 : Cond.laysFinal "CollectedGroup$Collector" "CollectedGroup$Collector" "letters" "I" ∈ WALL := hw_wi 87 rfl rfl
set_option maxRecDepth 100000 in
theorem wi_88 : Cond.soleField "CollectedGroup$Collector" "letters" ∈ WALL := hw_wi 88 rfl rfl
set_option maxRecDepth 100000 in
theorem wi_89 : Cond.laysFinal "CollectedGroup$Collector" "CollectedGroup$Collector" "elements" "I" ∈ WALL := hw_wi 89 rfl rfl
set_option maxRecDepth 100000 in
theorem wi_90 : Cond.soleField "CollectedGroup$Collector" "elements" ∈ WALL := hw_wi 90 rfl rfl
set_option maxRecDepth 100000 in
theorem wi_91 : Cond.laysFinal "CollectedGroup$Collector" "CollectedGroup$Collector" "orders" "[I" ∈ WALL := hw_wi 91 rfl rfl
set_option maxRecDepth 100000 in
theorem wi_92 : Cond.soleField "CollectedGroup$Collector" "orders" ∈ WALL := hw_wi 92 rfl rfl
set_option maxRecDepth 100000 in
theorem wi_93 : Cond.laysFinal "CollectedGroup$Collector" "CollectedGroup$Collector" "weights" "[I" ∈ WALL := hw_wi 93 rfl rfl
set_option maxRecDepth 100000 in
theorem wi_94 : Cond.soleField "CollectedGroup$Collector" "weights" ∈ WALL := hw_wi 94 rfl rfl
set_option maxRecDepth 100000 in
theorem wi_95 : Cond.laysFinal "CollectedGroup$Collector" "CollectedGroup$Collector" "powers" "[I" ∈ WALL := hw_wi 95 rfl rfl
set_option maxRecDepth 100000 in
theorem wi_96 : Cond.soleField "CollectedGroup$Collector" "powers" ∈ WALL := hw_wi 96 rfl rfl
set_option maxRecDepth 100000 in
theorem wi_97 : Cond.laysFinal "CollectedGroup$Collector" "CollectedGroup$Collector" "conjugates" "[[I" ∈ WALL := hw_wi 97 rfl rfl
set_option maxRecDepth 100000 in
theorem wi_98 : Cond.soleField "CollectedGroup$Collector" "conjugates" ∈ WALL := hw_wi 98 rfl rfl
set_option maxRecDepth 100000 in
theorem wi_99 : Cond.laysFinal "CollectedGroup$Collector" "CollectedGroup$Collector" "moved" "[[I" ∈ WALL := hw_wi 99 rfl rfl
set_option maxRecDepth 100000 in
theorem wi_100 : Cond.soleField "CollectedGroup$Collector" "moved" ∈ WALL := hw_wi 100 rfl rfl
set_option maxRecDepth 100000 in
theorem wi_101 : Cond.laysFinal "CollectedGroup$Collector" "CollectedGroup$Collector" "carried" "[[I" ∈ WALL := hw_wi 101 rfl rfl
set_option maxRecDepth 100000 in
theorem wi_102 : Cond.soleField "CollectedGroup$Collector" "carried" ∈ WALL := hw_wi 102 rfl rfl
set_option maxRecDepth 100000 in
theorem wi_103 : Cond.superclass "CollectedGroup$Collector" "java/lang/Object" ∈ WALL := hw_wi 103 rfl rfl
set_option maxRecDepth 100000 in
theorem wi_104 : Cond.arrayClass .int ∈ WALL := hw_wi 104 rfl rfl
set_option maxRecDepth 100000 in
theorem wi_105 : Cond.classLink "CollectedGroup" 22 "CollectedGroup$Subgroup" ∈ WALL := hw_wi 105 rfl rfl
set_option maxRecDepth 100000 in
theorem wi_107 : Cond.instantiable "CollectedGroup$Subgroup" 4 ∈ WALL := hw_wi 107 rfl rfl
set_option maxRecDepth 100000 in
theorem wi_108 : Cond.methodLink "CollectedGroup" 28 ⟨"CollectedGroup$Subgroup", "<init>", "(LCollectedGroup$Collector;)V"⟩ ∈ WALL := hw_wi 108 rfl rfl
set_option maxRecDepth 100000 in
theorem wi_109 : Cond.instanceMethod ⟨"CollectedGroup$Subgroup", "<init>", "(LCollectedGroup$Collector;)V"⟩ ∈ WALL := hw_wi 109 rfl rfl
set_option maxRecDepth 100000 in
theorem wi_110 : Cond.code ⟨"CollectedGroup$Subgroup", "<init>", "(LCollectedGroup$Collector;)V"⟩ prog_4_method_1_code 2 none ∈ WALL := hw_wi 110 rfl rfl
set_option maxRecDepth 100000 in
theorem wi_111 : Cond.methodLink "CollectedGroup$Subgroup" 3 ⟨"java/lang/Object", "<init>", "()V"⟩ ∈ WALL := hw_wi 111 rfl rfl
set_option maxRecDepth 100000 in
theorem wi_112 : Cond.classLink "CollectedGroup$Subgroup" 15 "CollectedGroup$ElementSet" ∈ WALL := hw_wi 112 rfl rfl
set_option maxRecDepth 100000 in
theorem wi_113 : Cond.instantiable "CollectedGroup$ElementSet" 3 ∈ WALL := hw_wi 113 rfl rfl
set_option maxRecDepth 100000 in
theorem wi_114 : Cond.methodLink "CollectedGroup$Subgroup" 17 ⟨"CollectedGroup$Collector", "elementCount", "()I"⟩ ∈ WALL := hw_wi 114 rfl rfl
set_option maxRecDepth 100000 in
theorem wi_115 : Cond.instanceMethod ⟨"CollectedGroup$Collector", "elementCount", "()I"⟩ ∈ WALL := hw_wi 115 rfl rfl
set_option maxRecDepth 100000 in
theorem wi_116 : Cond.selects "CollectedGroup$Collector" ⟨"CollectedGroup$Collector", "elementCount", "()I"⟩ ⟨"CollectedGroup$Collector", "elementCount", "()I"⟩ ∈ WALL := hw_wi 116 rfl rfl
set_option maxRecDepth 100000 in
theorem wi_117 : Cond.code ⟨"CollectedGroup$Collector", "elementCount", "()I"⟩ prog_2_method_3_code 1 (some .int) ∈ WALL := hw_wi 117 rfl rfl
set_option maxRecDepth 100000 in
theorem wi_118 : Cond.methodLink "CollectedGroup$Subgroup" 23 ⟨"CollectedGroup$ElementSet", "<init>", "(I)V"⟩ ∈ WALL := hw_wi 118 rfl rfl
set_option maxRecDepth 100000 in
theorem wi_119 : Cond.instanceMethod ⟨"CollectedGroup$ElementSet", "<init>", "(I)V"⟩ ∈ WALL := hw_wi 119 rfl rfl
set_option maxRecDepth 100000 in
theorem wi_120 : Cond.code ⟨"CollectedGroup$ElementSet", "<init>", "(I)V"⟩ prog_3_method_1_code 2 none ∈ WALL := hw_wi 120 rfl rfl
set_option maxRecDepth 100000 in
theorem wi_121 : Cond.methodLink "CollectedGroup$ElementSet" 3 ⟨"java/lang/Object", "<init>", "()V"⟩ ∈ WALL := hw_wi 121 rfl rfl
set_option maxRecDepth 100000 in
theorem wi_122 : Cond.fieldLink "CollectedGroup$ElementSet" 9 "CollectedGroup$ElementSet" "marks" "[Z" ∈ WALL := hw_wi 122 rfl rfl
set_option maxRecDepth 100000 in
theorem wi_123 : Cond.fieldLink "CollectedGroup$ElementSet" 15 "CollectedGroup$ElementSet" "members" "[I" ∈ WALL := hw_wi 123 rfl rfl
set_option maxRecDepth 100000 in
theorem wi_124 : Cond.fieldLink "CollectedGroup$ElementSet" 19 "CollectedGroup$ElementSet" "filled" "I" ∈ WALL := hw_wi 124 rfl rfl
set_option maxRecDepth 100000 in
theorem wi_125 : Cond.laysFinal "CollectedGroup$ElementSet" "CollectedGroup$ElementSet" "marks" "[Z" ∈ WALL := hw_wi 125 rfl rfl
set_option maxRecDepth 100000 in
theorem wi_126 : Cond.soleField "CollectedGroup$ElementSet" "marks" ∈ WALL := hw_wi 126 rfl rfl
set_option maxRecDepth 100000 in
theorem wi_127 : Cond.laysFinal "CollectedGroup$ElementSet" "CollectedGroup$ElementSet" "members" "[I" ∈ WALL := hw_wi 127 rfl rfl
set_option maxRecDepth 100000 in
theorem wi_128 : Cond.soleField "CollectedGroup$ElementSet" "members" ∈ WALL := hw_wi 128 rfl rfl
set_option maxRecDepth 100000 in
theorem wi_129 : Cond.lays "CollectedGroup$ElementSet" "CollectedGroup$ElementSet" "filled" "I" ∈ WALL := hw_wi 129 rfl rfl
set_option maxRecDepth 100000 in
theorem wi_130 : Cond.soleField "CollectedGroup$ElementSet" "filled" ∈ WALL := hw_wi 130 rfl rfl
set_option maxRecDepth 100000 in
theorem wi_131 : Cond.superclass "CollectedGroup$ElementSet" "java/lang/Object" ∈ WALL := hw_wi 131 rfl rfl
set_option maxRecDepth 100000 in
theorem wi_132 : Cond.arrayClass .boolean ∈ WALL := hw_wi 132 rfl rfl
set_option maxRecDepth 100000 in
theorem wi_133 : Cond.methodLink "CollectedGroup$Subgroup" 38 ⟨"CollectedGroup$ElementSet", "add", "(I)V"⟩ ∈ WALL := hw_wi 133 rfl rfl
set_option maxRecDepth 100000 in
theorem wi_134 : Cond.instanceMethod ⟨"CollectedGroup$ElementSet", "add", "(I)V"⟩ ∈ WALL := hw_wi 134 rfl rfl
set_option maxRecDepth 100000 in
theorem wi_135 : Cond.selects "CollectedGroup$ElementSet" ⟨"CollectedGroup$ElementSet", "add", "(I)V"⟩ ⟨"CollectedGroup$ElementSet", "add", "(I)V"⟩ ∈ WALL := hw_wi 135 rfl rfl
set_option maxRecDepth 100000 in
theorem wi_136 : Cond.code ⟨"CollectedGroup$ElementSet", "add", "(I)V"⟩ prog_3_method_3_code 2 none ∈ WALL := hw_wi 136 rfl rfl
set_option maxRecDepth 100000 in
theorem wi_137 : Cond.fieldLink "CollectedGroup$Subgroup" 9 "CollectedGroup$Subgroup" "group" "LCollectedGroup$Collector;" ∈ WALL := hw_wi 137 rfl rfl
set_option maxRecDepth 100000 in
theorem wi_138 : Cond.fieldLink "CollectedGroup$Subgroup" 26 "CollectedGroup$Subgroup" "elements" "LCollectedGroup$ElementSet;" ∈ WALL := hw_wi 138 rfl rfl
set_option maxRecDepth 100000 in
theorem wi_139 : Cond.fieldLink "CollectedGroup$Subgroup" 30 "CollectedGroup$Subgroup" "basis" "[I" ∈ WALL := hw_wi 139 rfl rfl
set_option maxRecDepth 100000 in
theorem wi_140 : Cond.fieldLink "CollectedGroup$Subgroup" 34 "CollectedGroup$Subgroup" "basisLength" "I" ∈ WALL := hw_wi 140 rfl rfl
set_option maxRecDepth 100000 in
theorem wi_141 : Cond.laysFinal "CollectedGroup$Subgroup" "CollectedGroup$Subgroup" "group" "LCollectedGroup$Collector;" ∈ WALL := hw_wi 141 rfl rfl
set_option maxRecDepth 100000 in
theorem wi_142 : Cond.soleField "CollectedGroup$Subgroup" "group" ∈ WALL := hw_wi 142 rfl rfl
set_option maxRecDepth 100000 in
theorem wi_143 : Cond.laysFinal "CollectedGroup$Subgroup" "CollectedGroup$Subgroup" "elements" "LCollectedGroup$ElementSet;" ∈ WALL := hw_wi 143 rfl rfl
set_option maxRecDepth 100000 in
theorem wi_144 : Cond.soleField "CollectedGroup$Subgroup" "elements" ∈ WALL := hw_wi 144 rfl rfl
set_option maxRecDepth 100000 in
theorem wi_145 : Cond.laysFinal "CollectedGroup$Subgroup" "CollectedGroup$Subgroup" "basis" "[I" ∈ WALL := hw_wi 145 rfl rfl
set_option maxRecDepth 100000 in
theorem wi_146 : Cond.soleField "CollectedGroup$Subgroup" "basis" ∈ WALL := hw_wi 146 rfl rfl
set_option maxRecDepth 100000 in
theorem wi_147 : Cond.lays "CollectedGroup$Subgroup" "CollectedGroup$Subgroup" "basisLength" "I" ∈ WALL := hw_wi 147 rfl rfl
set_option maxRecDepth 100000 in
theorem wi_148 : Cond.soleField "CollectedGroup$Subgroup" "basisLength" ∈ WALL := hw_wi 148 rfl rfl
set_option maxRecDepth 100000 in
theorem wi_149 : Cond.superclass "CollectedGroup$Subgroup" "java/lang/Object" ∈ WALL := hw_wi 149 rfl rfl
set_option maxRecDepth 100000 in
theorem wi_150 : Cond.classLink "CollectedGroup" 41 "CollectedGroup$ElementSet" ∈ WALL := hw_wi 150 rfl rfl
set_option maxRecDepth 100000 in
theorem wi_151 : Cond.methodLink "CollectedGroup" 43 ⟨"CollectedGroup$Collector", "elementCount", "()I"⟩ ∈ WALL := hw_wi 151 rfl rfl
set_option maxRecDepth 100000 in
theorem wi_152 : Cond.methodLink "CollectedGroup" 47 ⟨"CollectedGroup$ElementSet", "<init>", "(I)V"⟩ ∈ WALL := hw_wi 152 rfl rfl
set_option maxRecDepth 100000 in
theorem wi_153 : Cond.fieldLink "CollectedGroup" 18 "CollectedGroup" "group" "LCollectedGroup$Collector;" ∈ WALL := hw_wi 153 rfl rfl
set_option maxRecDepth 100000 in
theorem wi_154 : Cond.fieldLink "CollectedGroup" 24 "CollectedGroup" "places" "[LCollectedGroup$Subgroup;" ∈ WALL := hw_wi 154 rfl rfl
set_option maxRecDepth 100000 in
theorem wi_155 : Cond.fieldLink "CollectedGroup" 31 "CollectedGroup" "whole" "LCollectedGroup$Subgroup;" ∈ WALL := hw_wi 155 rfl rfl
set_option maxRecDepth 100000 in
theorem wi_156 : Cond.fieldLink "CollectedGroup" 35 "CollectedGroup" "term" "LCollectedGroup$Subgroup;" ∈ WALL := hw_wi 156 rfl rfl
set_option maxRecDepth 100000 in
theorem wi_157 : Cond.fieldLink "CollectedGroup" 38 "CollectedGroup" "result" "LCollectedGroup$Subgroup;" ∈ WALL := hw_wi 157 rfl rfl
set_option maxRecDepth 100000 in
theorem wi_158 : Cond.fieldLink "CollectedGroup" 50 "CollectedGroup" "kindred" "LCollectedGroup$ElementSet;" ∈ WALL := hw_wi 158 rfl rfl
set_option maxRecDepth 100000 in
theorem wi_159 : Cond.fieldLink "CollectedGroup" 54 "CollectedGroup" "relationsFixed" "Z" ∈ WALL := hw_wi 159 rfl rfl
set_option maxRecDepth 100000 in
theorem wi_160 : Cond.laysFinal "CollectedGroup" "CollectedGroup" "group" "LCollectedGroup$Collector;" ∈ WALL := hw_wi 160 rfl rfl
set_option maxRecDepth 100000 in
theorem wi_161 : Cond.soleField "CollectedGroup" "group" ∈ WALL := hw_wi 161 rfl rfl
set_option maxRecDepth 100000 in
theorem wi_162 : Cond.laysFinal "CollectedGroup" "CollectedGroup" "places" "[LCollectedGroup$Subgroup;" ∈ WALL := hw_wi 162 rfl rfl
set_option maxRecDepth 100000 in
theorem wi_163 : Cond.soleField "CollectedGroup" "places" ∈ WALL := hw_wi 163 rfl rfl
set_option maxRecDepth 100000 in
theorem wi_164 : Cond.laysFinal "CollectedGroup" "CollectedGroup" "whole" "LCollectedGroup$Subgroup;" ∈ WALL := hw_wi 164 rfl rfl
set_option maxRecDepth 100000 in
theorem wi_165 : Cond.soleField "CollectedGroup" "whole" ∈ WALL := hw_wi 165 rfl rfl
set_option maxRecDepth 100000 in
theorem wi_166 : Cond.laysFinal "CollectedGroup" "CollectedGroup" "term" "LCollectedGroup$Subgroup;" ∈ WALL := hw_wi 166 rfl rfl
set_option maxRecDepth 100000 in
theorem wi_167 : Cond.soleField "CollectedGroup" "term" ∈ WALL := hw_wi 167 rfl rfl
set_option maxRecDepth 100000 in
theorem wi_168 : Cond.laysFinal "CollectedGroup" "CollectedGroup" "result" "LCollectedGroup$Subgroup;" ∈ WALL := hw_wi 168 rfl rfl
set_option maxRecDepth 100000 in
theorem wi_169 : Cond.soleField "CollectedGroup" "result" ∈ WALL := hw_wi 169 rfl rfl
set_option maxRecDepth 100000 in
theorem wi_170 : Cond.laysFinal "CollectedGroup" "CollectedGroup" "kindred" "LCollectedGroup$ElementSet;" ∈ WALL := hw_wi 170 rfl rfl
set_option maxRecDepth 100000 in
theorem wi_171 : Cond.soleField "CollectedGroup" "kindred" ∈ WALL := hw_wi 171 rfl rfl
set_option maxRecDepth 100000 in
theorem wi_172 : Cond.lays "CollectedGroup" "CollectedGroup" "relationsFixed" "Z" ∈ WALL := hw_wi 172 rfl rfl
set_option maxRecDepth 100000 in
theorem wi_173 : Cond.soleField "CollectedGroup" "relationsFixed" ∈ WALL := hw_wi 173 rfl rfl
set_option maxRecDepth 100000 in
theorem wi_174 : Cond.superclass "CollectedGroup" "java/lang/Object" ∈ WALL := hw_wi 174 rfl rfl
set_option maxRecDepth 100000 in
theorem wi_175 : Cond.methodLink "CollectedGroupLaw" 21 ⟨"CollectedGroup", "generators", "()I"⟩ ∈ WALL := hw_wi 175 rfl rfl
set_option maxRecDepth 100000 in
theorem wi_176 : Cond.instanceMethod ⟨"CollectedGroup", "generators", "()I"⟩ ∈ WALL := hw_wi 176 rfl rfl
set_option maxRecDepth 100000 in
theorem wi_177 : Cond.selects "CollectedGroup" ⟨"CollectedGroup", "generators", "()I"⟩ ⟨"CollectedGroup", "generators", "()I"⟩ ∈ WALL := hw_wi 177 rfl rfl
set_option maxRecDepth 100000 in
theorem wi_178 : Cond.code ⟨"CollectedGroup", "generators", "()I"⟩ prog_1_method_2_code 1 (some .int) ∈ WALL := hw_wi 178 rfl rfl
set_option maxRecDepth 100000 in
theorem wi_179 : Cond.methodLink "CollectedGroup" 58 ⟨"CollectedGroup$Collector", "letterCount", "()I"⟩ ∈ WALL := hw_wi 179 rfl rfl
set_option maxRecDepth 100000 in
theorem wi_180 : Cond.instanceMethod ⟨"CollectedGroup$Collector", "letterCount", "()I"⟩ ∈ WALL := hw_wi 180 rfl rfl
set_option maxRecDepth 100000 in
theorem wi_181 : Cond.selects "CollectedGroup$Collector" ⟨"CollectedGroup$Collector", "letterCount", "()I"⟩ ⟨"CollectedGroup$Collector", "letterCount", "()I"⟩ ∈ WALL := hw_wi 181 rfl rfl
set_option maxRecDepth 100000 in
theorem wi_182 : Cond.code ⟨"CollectedGroup$Collector", "letterCount", "()I"⟩ prog_2_method_2_code 1 (some .int) ∈ WALL := hw_wi 182 rfl rfl
set_option maxRecDepth 100000 in
theorem wi_183 : Cond.methodLink "CollectedGroupLaw" 26 ⟨"CollectedGroup", "size", "()I"⟩ ∈ WALL := hw_wi 183 rfl rfl
set_option maxRecDepth 100000 in
theorem wi_184 : Cond.instanceMethod ⟨"CollectedGroup", "size", "()I"⟩ ∈ WALL := hw_wi 184 rfl rfl
set_option maxRecDepth 100000 in
theorem wi_185 : Cond.selects "CollectedGroup" ⟨"CollectedGroup", "size", "()I"⟩ ⟨"CollectedGroup", "size", "()I"⟩ ∈ WALL := hw_wi 185 rfl rfl
set_option maxRecDepth 100000 in
theorem wi_186 : Cond.code ⟨"CollectedGroup", "size", "()I"⟩ prog_1_method_3_code 1 (some .int) ∈ WALL := hw_wi 186 rfl rfl
set_option maxRecDepth 100000 in
theorem wi_187 : Cond.methodLink "CollectedGroupLaw" 30 ⟨"CollectedGroup", "generator", "(I)I"⟩ ∈ WALL := hw_wi 187 rfl rfl
set_option maxRecDepth 100000 in
theorem wi_188 : Cond.instanceMethod ⟨"CollectedGroup", "generator", "(I)I"⟩ ∈ WALL := hw_wi 188 rfl rfl
set_option maxRecDepth 100000 in
theorem wi_189 : Cond.selects "CollectedGroup" ⟨"CollectedGroup", "generator", "(I)I"⟩ ⟨"CollectedGroup", "generator", "(I)I"⟩ ∈ WALL := hw_wi 189 rfl rfl
set_option maxRecDepth 100000 in
theorem wi_190 : Cond.code ⟨"CollectedGroup", "generator", "(I)I"⟩ prog_1_method_4_code 2 (some .int) ∈ WALL := hw_wi 190 rfl rfl
set_option maxRecDepth 100000 in
theorem wi_191 : Cond.methodLink "CollectedGroup" 61 ⟨"CollectedGroup$Collector", "isLetter", "(I)Z"⟩ ∈ WALL := hw_wi 191 rfl rfl
set_option maxRecDepth 100000 in
theorem wi_192 : Cond.instanceMethod ⟨"CollectedGroup$Collector", "isLetter", "(I)Z"⟩ ∈ WALL := hw_wi 192 rfl rfl
set_option maxRecDepth 100000 in
theorem wi_193 : Cond.selects "CollectedGroup$Collector" ⟨"CollectedGroup$Collector", "isLetter", "(I)Z"⟩ ⟨"CollectedGroup$Collector", "isLetter", "(I)Z"⟩ ∈ WALL := hw_wi 193 rfl rfl
set_option maxRecDepth 100000 in
theorem wi_194 : Cond.code ⟨"CollectedGroup$Collector", "isLetter", "(I)Z"⟩ prog_2_method_4_code 2 (some .boolean) ∈ WALL := hw_wi 194 rfl rfl
set_option maxRecDepth 100000 in
theorem wi_195 : Cond.methodLink "CollectedGroup" 65 ⟨"CollectedGroup$Collector", "letter", "(I)I"⟩ ∈ WALL := hw_wi 195 rfl rfl
set_option maxRecDepth 100000 in
theorem wi_196 : Cond.instanceMethod ⟨"CollectedGroup$Collector", "letter", "(I)I"⟩ ∈ WALL := hw_wi 196 rfl rfl
set_option maxRecDepth 100000 in
theorem wi_197 : Cond.selects "CollectedGroup$Collector" ⟨"CollectedGroup$Collector", "letter", "(I)I"⟩ ⟨"CollectedGroup$Collector", "letter", "(I)I"⟩ ∈ WALL := hw_wi 197 rfl rfl
set_option maxRecDepth 100000 in
theorem wi_198 : Cond.code ⟨"CollectedGroup$Collector", "letter", "(I)I"⟩ prog_2_method_5_code 2 (some .int) ∈ WALL := hw_wi 198 rfl rfl
set_option maxRecDepth 100000 in
theorem wi_199 : Cond.methodLink "CollectedGroupLaw" 35 ⟨"CollectedGroup", "power", "(II)Z"⟩ ∈ WALL := hw_wi 199 rfl rfl
set_option maxRecDepth 100000 in
theorem wi_200 : Cond.instanceMethod ⟨"CollectedGroup", "power", "(II)Z"⟩ ∈ WALL := hw_wi 200 rfl rfl
set_option maxRecDepth 100000 in
theorem wi_201 : Cond.selects "CollectedGroup" ⟨"CollectedGroup", "power", "(II)Z"⟩ ⟨"CollectedGroup", "power", "(II)Z"⟩ ∈ WALL := hw_wi 201 rfl rfl
set_option maxRecDepth 100000 in
theorem wi_202 : Cond.code ⟨"CollectedGroup", "power", "(II)Z"⟩ prog_1_method_5_code 3 (some .boolean) ∈ WALL := hw_wi 202 rfl rfl
set_option maxRecDepth 100000 in
theorem wi_203 : Cond.methodLink "CollectedGroup" 69 ⟨"CollectedGroup$Collector", "isWordBehind", "(II)Z"⟩ ∈ WALL := hw_wi 203 rfl rfl
set_option maxRecDepth 100000 in
theorem wi_204 : Cond.instanceMethod ⟨"CollectedGroup$Collector", "isWordBehind", "(II)Z"⟩ ∈ WALL := hw_wi 204 rfl rfl
set_option maxRecDepth 100000 in
theorem wi_205 : Cond.selects "CollectedGroup$Collector" ⟨"CollectedGroup$Collector", "isWordBehind", "(II)Z"⟩ ⟨"CollectedGroup$Collector", "isWordBehind", "(II)Z"⟩ ∈ WALL := hw_wi 205 rfl rfl
set_option maxRecDepth 100000 in
theorem wi_206 : Cond.code ⟨"CollectedGroup$Collector", "isWordBehind", "(II)Z"⟩ prog_2_method_6_code 3 (some .boolean) ∈ WALL := hw_wi 206 rfl rfl
set_option maxRecDepth 100000 in
theorem wi_207 : Cond.methodLink "CollectedGroup$Collector" 38 ⟨"CollectedGroup$Collector", "isLetter", "(I)Z"⟩ ∈ WALL := hw_wi 207 rfl rfl
set_option maxRecDepth 100000 in
theorem wi_208 : Cond.methodLink "CollectedGroup" 73 ⟨"CollectedGroup$Collector", "setPower", "(II)V"⟩ ∈ WALL := hw_wi 208 rfl rfl
set_option maxRecDepth 100000 in
theorem wi_209 : Cond.instanceMethod ⟨"CollectedGroup$Collector", "setPower", "(II)V"⟩ ∈ WALL := hw_wi 209 rfl rfl
set_option maxRecDepth 100000 in
theorem wi_210 : Cond.selects "CollectedGroup$Collector" ⟨"CollectedGroup$Collector", "setPower", "(II)V"⟩ ⟨"CollectedGroup$Collector", "setPower", "(II)V"⟩ ∈ WALL := hw_wi 210 rfl rfl
set_option maxRecDepth 100000 in
theorem wi_211 : Cond.code ⟨"CollectedGroup$Collector", "setPower", "(II)V"⟩ prog_2_method_7_code 3 none ∈ WALL := hw_wi 211 rfl rfl
set_option maxRecDepth 100000 in
theorem wi_212 : Cond.methodLink "CollectedGroupLaw" 40 ⟨"CollectedGroup", "conjugate", "(III)Z"⟩ ∈ WALL := hw_wi 212 rfl rfl
set_option maxRecDepth 100000 in
theorem wi_213 : Cond.instanceMethod ⟨"CollectedGroup", "conjugate", "(III)Z"⟩ ∈ WALL := hw_wi 213 rfl rfl
set_option maxRecDepth 100000 in
theorem wi_214 : Cond.selects "CollectedGroup" ⟨"CollectedGroup", "conjugate", "(III)Z"⟩ ⟨"CollectedGroup", "conjugate", "(III)Z"⟩ ∈ WALL := hw_wi 214 rfl rfl
set_option maxRecDepth 100000 in
theorem wi_215 : Cond.code ⟨"CollectedGroup", "conjugate", "(III)Z"⟩ prog_1_method_6_code 4 (some .boolean) ∈ WALL := hw_wi 215 rfl rfl
set_option maxRecDepth 100000 in
theorem wi_216 : Cond.methodLink "CollectedGroup" 77 ⟨"CollectedGroup$Collector", "setConjugate", "(III)V"⟩ ∈ WALL := hw_wi 216 rfl rfl
set_option maxRecDepth 100000 in
theorem wi_217 : Cond.instanceMethod ⟨"CollectedGroup$Collector", "setConjugate", "(III)V"⟩ ∈ WALL := hw_wi 217 rfl rfl
set_option maxRecDepth 100000 in
theorem wi_218 : Cond.selects "CollectedGroup$Collector" ⟨"CollectedGroup$Collector", "setConjugate", "(III)V"⟩ ⟨"CollectedGroup$Collector", "setConjugate", "(III)V"⟩ ∈ WALL := hw_wi 218 rfl rfl
set_option maxRecDepth 100000 in
theorem wi_219 : Cond.code ⟨"CollectedGroup$Collector", "setConjugate", "(III)V"⟩ prog_2_method_8_code 4 none ∈ WALL := hw_wi 219 rfl rfl
set_option maxRecDepth 100000 in
theorem wi_220 : Cond.methodLink "CollectedGroupLaw" 45 ⟨"CollectedGroup", "fix", "()Z"⟩ ∈ WALL := hw_wi 220 rfl rfl
set_option maxRecDepth 100000 in
theorem wi_221 : Cond.instanceMethod ⟨"CollectedGroup", "fix", "()Z"⟩ ∈ WALL := hw_wi 221 rfl rfl
set_option maxRecDepth 100000 in
theorem wi_222 : Cond.selects "CollectedGroup" ⟨"CollectedGroup", "fix", "()Z"⟩ ⟨"CollectedGroup", "fix", "()Z"⟩ ∈ WALL := hw_wi 222 rfl rfl
set_option maxRecDepth 100000 in
theorem wi_223 : Cond.code ⟨"CollectedGroup", "fix", "()Z"⟩ prog_1_method_7_code 2 (some .boolean) ∈ WALL := hw_wi 223 rfl rfl
set_option maxRecDepth 100000 in
theorem wi_224 : Cond.methodLink "CollectedGroup" 81 ⟨"CollectedGroup$Collector", "build", "()Z"⟩ ∈ WALL := hw_wi 224 rfl rfl
set_option maxRecDepth 100000 in
theorem wi_225 : Cond.instanceMethod ⟨"CollectedGroup$Collector", "build", "()Z"⟩ ∈ WALL := hw_wi 225 rfl rfl
set_option maxRecDepth 100000 in
theorem wi_226 : Cond.selects "CollectedGroup$Collector" ⟨"CollectedGroup$Collector", "build", "()Z"⟩ ⟨"CollectedGroup$Collector", "build", "()Z"⟩ ∈ WALL := hw_wi 226 rfl rfl
set_option maxRecDepth 100000 in
theorem wi_227 : Cond.code ⟨"CollectedGroup$Collector", "build", "()Z"⟩ prog_2_method_9_code 2 (some .boolean) ∈ WALL := hw_wi 227 rfl rfl
set_option maxRecDepth 100000 in
theorem wi_228 : Cond.methodLink "CollectedGroup$Collector" 42 ⟨"CollectedGroup$Collector", "fillMoves", "(I)V"⟩ ∈ WALL := hw_wi 228 rfl rfl
set_option maxRecDepth 100000 in
theorem wi_230 : Cond.instanceMethod ⟨"CollectedGroup$Collector", "fillMoves", "(I)V"⟩ ∈ WALL := hw_wi 230 rfl rfl
set_option maxRecDepth 100000 in
theorem wi_231 : Cond.code ⟨"CollectedGroup$Collector", "fillMoves", "(I)V"⟩ prog_2_method_18_code 5 none ∈ WALL := hw_wi 231 rfl rfl
set_option maxRecDepth 100000 in
theorem wi_232 : Cond.methodLink "CollectedGroup$Collector" 73 ⟨"CollectedGroup$Collector", "movedOnce", "(II)I"⟩ ∈ WALL := hw_wi 232 rfl rfl
set_option maxRecDepth 100000 in
theorem wi_234 : Cond.instanceMethod ⟨"CollectedGroup$Collector", "movedOnce", "(II)I"⟩ ∈ WALL := hw_wi 234 rfl rfl
set_option maxRecDepth 100000 in
theorem wi_235 : Cond.code ⟨"CollectedGroup$Collector", "movedOnce", "(II)I"⟩ prog_2_method_19_code 6 (some .int) ∈ WALL := hw_wi 235 rfl rfl
set_option maxRecDepth 100000 in
theorem wi_236 : Cond.methodLink "CollectedGroup$Collector" 58 ⟨"CollectedGroup$Collector", "multiplyFrom", "(III)I"⟩ ∈ WALL := hw_wi 236 rfl rfl
set_option maxRecDepth 100000 in
theorem wi_238 : Cond.instanceMethod ⟨"CollectedGroup$Collector", "multiplyFrom", "(III)I"⟩ ∈ WALL := hw_wi 238 rfl rfl
set_option maxRecDepth 100000 in
theorem wi_239 : Cond.code ⟨"CollectedGroup$Collector", "multiplyFrom", "(III)I"⟩ prog_2_method_17_code 12 (some .int) ∈ WALL := hw_wi 239 rfl rfl
set_option maxRecDepth 100000 in
theorem wi_240 : Cond.methodLink "CollectedGroup$Collector" 46 ⟨"CollectedGroup$Collector", "fillCarries", "(I)V"⟩ ∈ WALL := hw_wi 240 rfl rfl
set_option maxRecDepth 100000 in
theorem wi_242 : Cond.instanceMethod ⟨"CollectedGroup$Collector", "fillCarries", "(I)V"⟩ ∈ WALL := hw_wi 242 rfl rfl
set_option maxRecDepth 100000 in
theorem wi_243 : Cond.code ⟨"CollectedGroup$Collector", "fillCarries", "(I)V"⟩ prog_2_method_20_code 4 none ∈ WALL := hw_wi 243 rfl rfl
set_option maxRecDepth 100000 in
theorem wi_244 : Cond.methodLink "CollectedGroup$Collector" 49 ⟨"CollectedGroup$Collector", "moveKeepsProducts", "(I)Z"⟩ ∈ WALL := hw_wi 244 rfl rfl
set_option maxRecDepth 100000 in
theorem wi_246 : Cond.instanceMethod ⟨"CollectedGroup$Collector", "moveKeepsProducts", "(I)Z"⟩ ∈ WALL := hw_wi 246 rfl rfl
set_option maxRecDepth 100000 in
theorem wi_247 : Cond.code ⟨"CollectedGroup$Collector", "moveKeepsProducts", "(I)Z"⟩ prog_2_method_21_code 8 (some .boolean) ∈ WALL := hw_wi 247 rfl rfl
set_option maxRecDepth 100000 in
theorem wi_248 : Cond.methodLink "CollectedGroup$Collector" 52 ⟨"CollectedGroup$Collector", "moveKeepsPower", "(I)Z"⟩ ∈ WALL := hw_wi 248 rfl rfl
set_option maxRecDepth 100000 in
theorem wi_250 : Cond.instanceMethod ⟨"CollectedGroup$Collector", "moveKeepsPower", "(I)Z"⟩ ∈ WALL := hw_wi 250 rfl rfl
set_option maxRecDepth 100000 in
theorem wi_251 : Cond.code ⟨"CollectedGroup$Collector", "moveKeepsPower", "(I)Z"⟩ prog_2_method_22_code 2 (some .boolean) ∈ WALL := hw_wi 251 rfl rfl
set_option maxRecDepth 100000 in
theorem wi_252 : Cond.methodLink "CollectedGroup$Collector" 55 ⟨"CollectedGroup$Collector", "fullTurnIsPower", "(I)Z"⟩ ∈ WALL := hw_wi 252 rfl rfl
set_option maxRecDepth 100000 in
theorem wi_254 : Cond.instanceMethod ⟨"CollectedGroup$Collector", "fullTurnIsPower", "(I)Z"⟩ ∈ WALL := hw_wi 254 rfl rfl
set_option maxRecDepth 100000 in
theorem wi_255 : Cond.code ⟨"CollectedGroup$Collector", "fullTurnIsPower", "(I)Z"⟩ prog_2_method_23_code 7 (some .boolean) ∈ WALL := hw_wi 255 rfl rfl
set_option maxRecDepth 100000 in
theorem wi_256 : Cond.methodLink "CollectedGroup" 85 ⟨"CollectedGroup$Subgroup", "reset", "()V"⟩ ∈ WALL := hw_wi 256 rfl rfl
set_option maxRecDepth 100000 in
theorem wi_257 : Cond.instanceMethod ⟨"CollectedGroup$Subgroup", "reset", "()V"⟩ ∈ WALL := hw_wi 257 rfl rfl
set_option maxRecDepth 100000 in
theorem wi_258 : Cond.selects "CollectedGroup$Subgroup" ⟨"CollectedGroup$Subgroup", "reset", "()V"⟩ ⟨"CollectedGroup$Subgroup", "reset", "()V"⟩ ∈ WALL := hw_wi 258 rfl rfl
set_option maxRecDepth 100000 in
theorem wi_259 : Cond.code ⟨"CollectedGroup$Subgroup", "reset", "()V"⟩ prog_4_method_4_code 1 none ∈ WALL := hw_wi 259 rfl rfl
set_option maxRecDepth 100000 in
theorem wi_260 : Cond.methodLink "CollectedGroup$Subgroup" 48 ⟨"CollectedGroup$ElementSet", "empty", "()V"⟩ ∈ WALL := hw_wi 260 rfl rfl
set_option maxRecDepth 100000 in
theorem wi_261 : Cond.instanceMethod ⟨"CollectedGroup$ElementSet", "empty", "()V"⟩ ∈ WALL := hw_wi 261 rfl rfl
set_option maxRecDepth 100000 in
theorem wi_262 : Cond.selects "CollectedGroup$ElementSet" ⟨"CollectedGroup$ElementSet", "empty", "()V"⟩ ⟨"CollectedGroup$ElementSet", "empty", "()V"⟩ ∈ WALL := hw_wi 262 rfl rfl
set_option maxRecDepth 100000 in
theorem wi_263 : Cond.code ⟨"CollectedGroup$ElementSet", "empty", "()V"⟩ prog_3_method_2_code 2 none ∈ WALL := hw_wi 263 rfl rfl
set_option maxRecDepth 100000 in
theorem wi_264 : Cond.methodLink "CollectedGroup" 88 ⟨"CollectedGroup", "fillWhole", "()V"⟩ ∈ WALL := hw_wi 264 rfl rfl
set_option maxRecDepth 100000 in
theorem wi_266 : Cond.instanceMethod ⟨"CollectedGroup", "fillWhole", "()V"⟩ ∈ WALL := hw_wi 266 rfl rfl
set_option maxRecDepth 100000 in
theorem wi_267 : Cond.code ⟨"CollectedGroup", "fillWhole", "()V"⟩ prog_1_method_29_code 2 none ∈ WALL := hw_wi 267 rfl rfl
set_option maxRecDepth 100000 in
theorem wi_268 : Cond.methodLink "CollectedGroup" 121 ⟨"CollectedGroup$Subgroup", "include", "(I)V"⟩ ∈ WALL := hw_wi 268 rfl rfl
set_option maxRecDepth 100000 in
theorem wi_269 : Cond.instanceMethod ⟨"CollectedGroup$Subgroup", "include", "(I)V"⟩ ∈ WALL := hw_wi 269 rfl rfl
set_option maxRecDepth 100000 in
theorem wi_270 : Cond.selects "CollectedGroup$Subgroup" ⟨"CollectedGroup$Subgroup", "include", "(I)V"⟩ ⟨"CollectedGroup$Subgroup", "include", "(I)V"⟩ ∈ WALL := hw_wi 270 rfl rfl
set_option maxRecDepth 100000 in
theorem wi_271 : Cond.code ⟨"CollectedGroup$Subgroup", "include", "(I)V"⟩ prog_4_method_5_code 4 none ∈ WALL := hw_wi 271 rfl rfl
set_option maxRecDepth 100000 in
theorem wi_272 : Cond.methodLink "CollectedGroup$Subgroup" 44 ⟨"CollectedGroup$ElementSet", "holds", "(I)Z"⟩ ∈ WALL := hw_wi 272 rfl rfl
set_option maxRecDepth 100000 in
theorem wi_273 : Cond.instanceMethod ⟨"CollectedGroup$ElementSet", "holds", "(I)Z"⟩ ∈ WALL := hw_wi 273 rfl rfl
set_option maxRecDepth 100000 in
theorem wi_274 : Cond.selects "CollectedGroup$ElementSet" ⟨"CollectedGroup$ElementSet", "holds", "(I)Z"⟩ ⟨"CollectedGroup$ElementSet", "holds", "(I)Z"⟩ ∈ WALL := hw_wi 274 rfl rfl
set_option maxRecDepth 100000 in
theorem wi_275 : Cond.code ⟨"CollectedGroup$ElementSet", "holds", "(I)Z"⟩ prog_3_method_4_code 2 (some .boolean) ∈ WALL := hw_wi 275 rfl rfl
set_option maxRecDepth 100000 in
theorem wi_276 : Cond.methodLink "CollectedGroup$Subgroup" 41 ⟨"CollectedGroup$ElementSet", "amount", "()I"⟩ ∈ WALL := hw_wi 276 rfl rfl
set_option maxRecDepth 100000 in
theorem wi_277 : Cond.instanceMethod ⟨"CollectedGroup$ElementSet", "amount", "()I"⟩ ∈ WALL := hw_wi 277 rfl rfl
set_option maxRecDepth 100000 in
theorem wi_278 : Cond.selects "CollectedGroup$ElementSet" ⟨"CollectedGroup$ElementSet", "amount", "()I"⟩ ⟨"CollectedGroup$ElementSet", "amount", "()I"⟩ ∈ WALL := hw_wi 278 rfl rfl
set_option maxRecDepth 100000 in
theorem wi_279 : Cond.code ⟨"CollectedGroup$ElementSet", "amount", "()I"⟩ prog_3_method_5_code 1 (some .int) ∈ WALL := hw_wi 279 rfl rfl
set_option maxRecDepth 100000 in
theorem wi_280 : Cond.methodLink "CollectedGroup$Subgroup" 51 ⟨"CollectedGroup$ElementSet", "member", "(I)I"⟩ ∈ WALL := hw_wi 280 rfl rfl
set_option maxRecDepth 100000 in
theorem wi_281 : Cond.instanceMethod ⟨"CollectedGroup$ElementSet", "member", "(I)I"⟩ ∈ WALL := hw_wi 281 rfl rfl
set_option maxRecDepth 100000 in
theorem wi_282 : Cond.selects "CollectedGroup$ElementSet" ⟨"CollectedGroup$ElementSet", "member", "(I)I"⟩ ⟨"CollectedGroup$ElementSet", "member", "(I)I"⟩ ∈ WALL := hw_wi 282 rfl rfl
set_option maxRecDepth 100000 in
theorem wi_283 : Cond.code ⟨"CollectedGroup$ElementSet", "member", "(I)I"⟩ prog_3_method_6_code 2 (some .int) ∈ WALL := hw_wi 283 rfl rfl
set_option maxRecDepth 100000 in
theorem wi_284 : Cond.methodLink "CollectedGroup$Subgroup" 55 ⟨"CollectedGroup$Collector", "multiply", "(II)I"⟩ ∈ WALL := hw_wi 284 rfl rfl
set_option maxRecDepth 100000 in
theorem wi_285 : Cond.instanceMethod ⟨"CollectedGroup$Collector", "multiply", "(II)I"⟩ ∈ WALL := hw_wi 285 rfl rfl
set_option maxRecDepth 100000 in
theorem wi_286 : Cond.selects "CollectedGroup$Collector" ⟨"CollectedGroup$Collector", "multiply", "(II)I"⟩ ⟨"CollectedGroup$Collector", "multiply", "(II)I"⟩ ∈ WALL := hw_wi 286 rfl rfl
set_option maxRecDepth 100000 in
theorem wi_287 : Cond.code ⟨"CollectedGroup$Collector", "multiply", "(II)I"⟩ prog_2_method_10_code 3 (some .int) ∈ WALL := hw_wi 287 rfl rfl
set_option maxRecDepth 100000 in
theorem wi_288 : Cond.methodLink "CollectedGroupLaw" 50 ⟨"CollectedGroup", "release", "()V"⟩ ∈ WALL := hw_wi 288 rfl rfl
set_option maxRecDepth 100000 in
theorem wi_289 : Cond.instanceMethod ⟨"CollectedGroup", "release", "()V"⟩ ∈ WALL := hw_wi 289 rfl rfl
set_option maxRecDepth 100000 in
theorem wi_290 : Cond.selects "CollectedGroup" ⟨"CollectedGroup", "release", "()V"⟩ ⟨"CollectedGroup", "release", "()V"⟩ ∈ WALL := hw_wi 290 rfl rfl
set_option maxRecDepth 100000 in
theorem wi_291 : Cond.code ⟨"CollectedGroup", "release", "()V"⟩ prog_1_method_8_code 1 none ∈ WALL := hw_wi 291 rfl rfl
set_option maxRecDepth 100000 in
theorem wi_292 : Cond.methodLink "CollectedGroupLaw" 54 ⟨"CollectedGroup", "fixed", "()Z"⟩ ∈ WALL := hw_wi 292 rfl rfl
set_option maxRecDepth 100000 in
theorem wi_293 : Cond.instanceMethod ⟨"CollectedGroup", "fixed", "()Z"⟩ ∈ WALL := hw_wi 293 rfl rfl
set_option maxRecDepth 100000 in
theorem wi_294 : Cond.selects "CollectedGroup" ⟨"CollectedGroup", "fixed", "()Z"⟩ ⟨"CollectedGroup", "fixed", "()Z"⟩ ∈ WALL := hw_wi 294 rfl rfl
set_option maxRecDepth 100000 in
theorem wi_295 : Cond.code ⟨"CollectedGroup", "fixed", "()Z"⟩ prog_1_method_9_code 1 (some .boolean) ∈ WALL := hw_wi 295 rfl rfl
set_option maxRecDepth 100000 in
theorem wi_296 : Cond.methodLink "CollectedGroupLaw" 58 ⟨"CollectedGroup", "product", "(II)I"⟩ ∈ WALL := hw_wi 296 rfl rfl
set_option maxRecDepth 100000 in
theorem wi_297 : Cond.instanceMethod ⟨"CollectedGroup", "product", "(II)I"⟩ ∈ WALL := hw_wi 297 rfl rfl
set_option maxRecDepth 100000 in
theorem wi_298 : Cond.selects "CollectedGroup" ⟨"CollectedGroup", "product", "(II)I"⟩ ⟨"CollectedGroup", "product", "(II)I"⟩ ∈ WALL := hw_wi 298 rfl rfl
set_option maxRecDepth 100000 in
theorem wi_299 : Cond.code ⟨"CollectedGroup", "product", "(II)I"⟩ prog_1_method_10_code 3 (some .int) ∈ WALL := hw_wi 299 rfl rfl
set_option maxRecDepth 100000 in
theorem wi_300 : Cond.methodLink "CollectedGroup" 91 ⟨"CollectedGroup", "isElement", "(I)Z"⟩ ∈ WALL := hw_wi 300 rfl rfl
set_option maxRecDepth 100000 in
theorem wi_302 : Cond.instanceMethod ⟨"CollectedGroup", "isElement", "(I)Z"⟩ ∈ WALL := hw_wi 302 rfl rfl
set_option maxRecDepth 100000 in
theorem wi_303 : Cond.code ⟨"CollectedGroup", "isElement", "(I)Z"⟩ prog_1_method_27_code 2 (some .boolean) ∈ WALL := hw_wi 303 rfl rfl
set_option maxRecDepth 100000 in
theorem wi_304 : Cond.methodLink "CollectedGroup" 94 ⟨"CollectedGroup$Collector", "multiply", "(II)I"⟩ ∈ WALL := hw_wi 304 rfl rfl
set_option maxRecDepth 100000 in
theorem wi_305 : Cond.methodLink "CollectedGroupLaw" 63 ⟨"CollectedGroup", "times", "(II)I"⟩ ∈ WALL := hw_wi 305 rfl rfl
set_option maxRecDepth 100000 in
theorem wi_306 : Cond.instanceMethod ⟨"CollectedGroup", "times", "(II)I"⟩ ∈ WALL := hw_wi 306 rfl rfl
set_option maxRecDepth 100000 in
theorem wi_307 : Cond.selects "CollectedGroup" ⟨"CollectedGroup", "times", "(II)I"⟩ ⟨"CollectedGroup", "times", "(II)I"⟩ ∈ WALL := hw_wi 307 rfl rfl
set_option maxRecDepth 100000 in
theorem wi_308 : Cond.code ⟨"CollectedGroup", "times", "(II)I"⟩ prog_1_method_11_code 3 (some .int) ∈ WALL := hw_wi 308 rfl rfl
set_option maxRecDepth 100000 in
theorem wi_309 : Cond.methodLink "CollectedGroup" 98 ⟨"CollectedGroup$Collector", "orderOf", "(I)I"⟩ ∈ WALL := hw_wi 309 rfl rfl
set_option maxRecDepth 100000 in
theorem wi_310 : Cond.instanceMethod ⟨"CollectedGroup$Collector", "orderOf", "(I)I"⟩ ∈ WALL := hw_wi 310 rfl rfl
set_option maxRecDepth 100000 in
theorem wi_311 : Cond.selects "CollectedGroup$Collector" ⟨"CollectedGroup$Collector", "orderOf", "(I)I"⟩ ⟨"CollectedGroup$Collector", "orderOf", "(I)I"⟩ ∈ WALL := hw_wi 311 rfl rfl
set_option maxRecDepth 100000 in
theorem wi_312 : Cond.code ⟨"CollectedGroup$Collector", "orderOf", "(I)I"⟩ prog_2_method_14_code 4 (some .int) ∈ WALL := hw_wi 312 rfl rfl
set_option maxRecDepth 100000 in
theorem wi_313 : Cond.methodLink "CollectedGroup$Collector" 66 ⟨"CollectedGroup$Collector", "multiply", "(II)I"⟩ ∈ WALL := hw_wi 313 rfl rfl
set_option maxRecDepth 100000 in
theorem wi_314 : Cond.methodLink "CollectedGroup" 101 ⟨"java/lang/Math", "floorMod", "(II)I"⟩ ∈ WALL := hw_wi 314 rfl rfl
set_option maxRecDepth 100000 in
theorem wi_315 : Cond.static ⟨"java/lang/Math", "floorMod", "(II)I"⟩ ∈ WALL := hw_wi 315 rfl rfl
set_option maxRecDepth 100000 in
theorem wi_316 : Cond.code ⟨"java/lang/Math", "floorMod", "(II)I"⟩ prog_8_method_50_code 3 (some .int) ∈ WALL := hw_wi 316 rfl rfl
set_option maxRecDepth 100000 in
theorem wi_317 : Cond.methodLink "CollectedGroup" 106 ⟨"CollectedGroup$Collector", "multiple", "(II)I"⟩ ∈ WALL := hw_wi 317 rfl rfl
set_option maxRecDepth 100000 in
theorem wi_318 : Cond.instanceMethod ⟨"CollectedGroup$Collector", "multiple", "(II)I"⟩ ∈ WALL := hw_wi 318 rfl rfl
set_option maxRecDepth 100000 in
theorem wi_319 : Cond.selects "CollectedGroup$Collector" ⟨"CollectedGroup$Collector", "multiple", "(II)I"⟩ ⟨"CollectedGroup$Collector", "multiple", "(II)I"⟩ ∈ WALL := hw_wi 319 rfl rfl
set_option maxRecDepth 100000 in
theorem wi_320 : Cond.code ⟨"CollectedGroup$Collector", "multiple", "(II)I"⟩ prog_2_method_15_code 5 (some .int) ∈ WALL := hw_wi 320 rfl rfl
set_option maxRecDepth 100000 in
theorem wi_321 : Cond.methodLink "CollectedGroupLaw" 67 ⟨"CollectedGroup", "conjugated", "(II)I"⟩ ∈ WALL := hw_wi 321 rfl rfl
set_option maxRecDepth 100000 in
theorem wi_322 : Cond.instanceMethod ⟨"CollectedGroup", "conjugated", "(II)I"⟩ ∈ WALL := hw_wi 322 rfl rfl
set_option maxRecDepth 100000 in
theorem wi_323 : Cond.selects "CollectedGroup" ⟨"CollectedGroup", "conjugated", "(II)I"⟩ ⟨"CollectedGroup", "conjugated", "(II)I"⟩ ∈ WALL := hw_wi 323 rfl rfl
set_option maxRecDepth 100000 in
theorem wi_324 : Cond.code ⟨"CollectedGroup", "conjugated", "(II)I"⟩ prog_1_method_12_code 3 (some .int) ∈ WALL := hw_wi 324 rfl rfl
set_option maxRecDepth 100000 in
theorem wi_325 : Cond.methodLink "CollectedGroup" 109 ⟨"CollectedGroup$Collector", "conjugateOf", "(II)I"⟩ ∈ WALL := hw_wi 325 rfl rfl
set_option maxRecDepth 100000 in
theorem wi_326 : Cond.instanceMethod ⟨"CollectedGroup$Collector", "conjugateOf", "(II)I"⟩ ∈ WALL := hw_wi 326 rfl rfl
set_option maxRecDepth 100000 in
theorem wi_327 : Cond.selects "CollectedGroup$Collector" ⟨"CollectedGroup$Collector", "conjugateOf", "(II)I"⟩ ⟨"CollectedGroup$Collector", "conjugateOf", "(II)I"⟩ ∈ WALL := hw_wi 327 rfl rfl
set_option maxRecDepth 100000 in
theorem wi_328 : Cond.code ⟨"CollectedGroup$Collector", "conjugateOf", "(II)I"⟩ prog_2_method_12_code 3 (some .int) ∈ WALL := hw_wi 328 rfl rfl
set_option maxRecDepth 100000 in
theorem wi_329 : Cond.methodLink "CollectedGroup$Collector" 62 ⟨"CollectedGroup$Collector", "inverseOf", "(I)I"⟩ ∈ WALL := hw_wi 329 rfl rfl
set_option maxRecDepth 100000 in
theorem wi_330 : Cond.instanceMethod ⟨"CollectedGroup$Collector", "inverseOf", "(I)I"⟩ ∈ WALL := hw_wi 330 rfl rfl
set_option maxRecDepth 100000 in
theorem wi_331 : Cond.selects "CollectedGroup$Collector" ⟨"CollectedGroup$Collector", "inverseOf", "(I)I"⟩ ⟨"CollectedGroup$Collector", "inverseOf", "(I)I"⟩ ∈ WALL := hw_wi 331 rfl rfl
set_option maxRecDepth 100000 in
theorem wi_332 : Cond.code ⟨"CollectedGroup$Collector", "inverseOf", "(I)I"⟩ prog_2_method_11_code 8 (some .int) ∈ WALL := hw_wi 332 rfl rfl
set_option maxRecDepth 100000 in
theorem wi_333 : Cond.methodLink "CollectedGroupLaw" 71 ⟨"CollectedGroup", "commutator", "(II)I"⟩ ∈ WALL := hw_wi 333 rfl rfl
set_option maxRecDepth 100000 in
theorem wi_334 : Cond.instanceMethod ⟨"CollectedGroup", "commutator", "(II)I"⟩ ∈ WALL := hw_wi 334 rfl rfl
set_option maxRecDepth 100000 in
theorem wi_335 : Cond.selects "CollectedGroup" ⟨"CollectedGroup", "commutator", "(II)I"⟩ ⟨"CollectedGroup", "commutator", "(II)I"⟩ ∈ WALL := hw_wi 335 rfl rfl
set_option maxRecDepth 100000 in
theorem wi_336 : Cond.code ⟨"CollectedGroup", "commutator", "(II)I"⟩ prog_1_method_13_code 3 (some .int) ∈ WALL := hw_wi 336 rfl rfl
set_option maxRecDepth 100000 in
theorem wi_337 : Cond.methodLink "CollectedGroup" 112 ⟨"CollectedGroup$Collector", "commutatorOf", "(II)I"⟩ ∈ WALL := hw_wi 337 rfl rfl
set_option maxRecDepth 100000 in
theorem wi_338 : Cond.instanceMethod ⟨"CollectedGroup$Collector", "commutatorOf", "(II)I"⟩ ∈ WALL := hw_wi 338 rfl rfl
set_option maxRecDepth 100000 in
theorem wi_339 : Cond.selects "CollectedGroup$Collector" ⟨"CollectedGroup$Collector", "commutatorOf", "(II)I"⟩ ⟨"CollectedGroup$Collector", "commutatorOf", "(II)I"⟩ ∈ WALL := hw_wi 339 rfl rfl
set_option maxRecDepth 100000 in
theorem wi_340 : Cond.code ⟨"CollectedGroup$Collector", "commutatorOf", "(II)I"⟩ prog_2_method_13_code 3 (some .int) ∈ WALL := hw_wi 340 rfl rfl
set_option maxRecDepth 100000 in
theorem wi_341 : Cond.methodLink "CollectedGroup$Collector" 70 ⟨"CollectedGroup$Collector", "conjugateOf", "(II)I"⟩ ∈ WALL := hw_wi 341 rfl rfl
set_option maxRecDepth 100000 in
theorem wi_342 : Cond.methodLink "CollectedGroupLaw" 75 ⟨"CollectedGroup", "order", "(I)I"⟩ ∈ WALL := hw_wi 342 rfl rfl
set_option maxRecDepth 100000 in
theorem wi_343 : Cond.instanceMethod ⟨"CollectedGroup", "order", "(I)I"⟩ ∈ WALL := hw_wi 343 rfl rfl
set_option maxRecDepth 100000 in
theorem wi_344 : Cond.selects "CollectedGroup" ⟨"CollectedGroup", "order", "(I)I"⟩ ⟨"CollectedGroup", "order", "(I)I"⟩ ∈ WALL := hw_wi 344 rfl rfl
set_option maxRecDepth 100000 in
theorem wi_345 : Cond.code ⟨"CollectedGroup", "order", "(I)I"⟩ prog_1_method_14_code 2 (some .int) ∈ WALL := hw_wi 345 rfl rfl
set_option maxRecDepth 100000 in
theorem wi_346 : Cond.methodLink "CollectedGroupLaw" 79 ⟨"CollectedGroup", "clear", "(I)I"⟩ ∈ WALL := hw_wi 346 rfl rfl
set_option maxRecDepth 100000 in
theorem wi_347 : Cond.instanceMethod ⟨"CollectedGroup", "clear", "(I)I"⟩ ∈ WALL := hw_wi 347 rfl rfl
set_option maxRecDepth 100000 in
theorem wi_348 : Cond.selects "CollectedGroup" ⟨"CollectedGroup", "clear", "(I)I"⟩ ⟨"CollectedGroup", "clear", "(I)I"⟩ ∈ WALL := hw_wi 348 rfl rfl
set_option maxRecDepth 100000 in
theorem wi_349 : Cond.code ⟨"CollectedGroup", "clear", "(I)I"⟩ prog_1_method_15_code 2 (some .int) ∈ WALL := hw_wi 349 rfl rfl
set_option maxRecDepth 100000 in
theorem wi_350 : Cond.methodLink "CollectedGroup" 115 ⟨"CollectedGroup", "isPlace", "(I)Z"⟩ ∈ WALL := hw_wi 350 rfl rfl
set_option maxRecDepth 100000 in
theorem wi_352 : Cond.instanceMethod ⟨"CollectedGroup", "isPlace", "(I)Z"⟩ ∈ WALL := hw_wi 352 rfl rfl
set_option maxRecDepth 100000 in
theorem wi_353 : Cond.code ⟨"CollectedGroup", "isPlace", "(I)Z"⟩ prog_1_method_28_code 2 (some .boolean) ∈ WALL := hw_wi 353 rfl rfl
set_option maxRecDepth 100000 in
theorem wi_354 : Cond.methodLink "CollectedGroup" 118 ⟨"CollectedGroup$Subgroup", "amount", "()I"⟩ ∈ WALL := hw_wi 354 rfl rfl
set_option maxRecDepth 100000 in
theorem wi_355 : Cond.instanceMethod ⟨"CollectedGroup$Subgroup", "amount", "()I"⟩ ∈ WALL := hw_wi 355 rfl rfl
set_option maxRecDepth 100000 in
theorem wi_356 : Cond.selects "CollectedGroup$Subgroup" ⟨"CollectedGroup$Subgroup", "amount", "()I"⟩ ⟨"CollectedGroup$Subgroup", "amount", "()I"⟩ ∈ WALL := hw_wi 356 rfl rfl
set_option maxRecDepth 100000 in
theorem wi_357 : Cond.code ⟨"CollectedGroup$Subgroup", "amount", "()I"⟩ prog_4_method_2_code 1 (some .int) ∈ WALL := hw_wi 357 rfl rfl
set_option maxRecDepth 100000 in
theorem wi_358 : Cond.methodLink "CollectedGroupLaw" 83 ⟨"CollectedGroup", "join", "(II)I"⟩ ∈ WALL := hw_wi 358 rfl rfl
set_option maxRecDepth 100000 in
theorem wi_359 : Cond.instanceMethod ⟨"CollectedGroup", "join", "(II)I"⟩ ∈ WALL := hw_wi 359 rfl rfl
set_option maxRecDepth 100000 in
theorem wi_360 : Cond.selects "CollectedGroup" ⟨"CollectedGroup", "join", "(II)I"⟩ ⟨"CollectedGroup", "join", "(II)I"⟩ ∈ WALL := hw_wi 360 rfl rfl
set_option maxRecDepth 100000 in
theorem wi_361 : Cond.code ⟨"CollectedGroup", "join", "(II)I"⟩ prog_1_method_16_code 3 (some .int) ∈ WALL := hw_wi 361 rfl rfl
set_option maxRecDepth 100000 in
theorem wi_362 : Cond.methodLink "CollectedGroupLaw" 87 ⟨"CollectedGroup", "spread", "(I)I"⟩ ∈ WALL := hw_wi 362 rfl rfl
set_option maxRecDepth 100000 in
theorem wi_363 : Cond.instanceMethod ⟨"CollectedGroup", "spread", "(I)I"⟩ ∈ WALL := hw_wi 363 rfl rfl
set_option maxRecDepth 100000 in
theorem wi_364 : Cond.selects "CollectedGroup" ⟨"CollectedGroup", "spread", "(I)I"⟩ ⟨"CollectedGroup", "spread", "(I)I"⟩ ∈ WALL := hw_wi 364 rfl rfl
set_option maxRecDepth 100000 in
theorem wi_365 : Cond.code ⟨"CollectedGroup", "spread", "(I)I"⟩ prog_1_method_17_code 2 (some .int) ∈ WALL := hw_wi 365 rfl rfl
set_option maxRecDepth 100000 in
theorem wi_366 : Cond.methodLink "CollectedGroup" 124 ⟨"CollectedGroup$Subgroup", "includeAllConjugates", "(LCollectedGroup$Subgroup;)V"⟩ ∈ WALL := hw_wi 366 rfl rfl
set_option maxRecDepth 100000 in
theorem wi_367 : Cond.instanceMethod ⟨"CollectedGroup$Subgroup", "includeAllConjugates", "(LCollectedGroup$Subgroup;)V"⟩ ∈ WALL := hw_wi 367 rfl rfl
set_option maxRecDepth 100000 in
theorem wi_368 : Cond.selects "CollectedGroup$Subgroup" ⟨"CollectedGroup$Subgroup", "includeAllConjugates", "(LCollectedGroup$Subgroup;)V"⟩ ⟨"CollectedGroup$Subgroup", "includeAllConjugates", "(LCollectedGroup$Subgroup;)V"⟩ ∈ WALL := hw_wi 368 rfl rfl
set_option maxRecDepth 100000 in
theorem wi_369 : Cond.code ⟨"CollectedGroup$Subgroup", "includeAllConjugates", "(LCollectedGroup$Subgroup;)V"⟩ prog_4_method_6_code 3 none ∈ WALL := hw_wi 369 rfl rfl
set_option maxRecDepth 100000 in
theorem wi_370 : Cond.methodLink "CollectedGroup$Subgroup" 59 ⟨"CollectedGroup$Subgroup", "includeConjugates", "(ILCollectedGroup$Subgroup;)V"⟩ ∈ WALL := hw_wi 370 rfl rfl
set_option maxRecDepth 100000 in
theorem wi_372 : Cond.instanceMethod ⟨"CollectedGroup$Subgroup", "includeConjugates", "(ILCollectedGroup$Subgroup;)V"⟩ ∈ WALL := hw_wi 372 rfl rfl
set_option maxRecDepth 100000 in
theorem wi_373 : Cond.code ⟨"CollectedGroup$Subgroup", "includeConjugates", "(ILCollectedGroup$Subgroup;)V"⟩ prog_4_method_9_code 4 none ∈ WALL := hw_wi 373 rfl rfl
set_option maxRecDepth 100000 in
theorem wi_374 : Cond.methodLink "CollectedGroup$Subgroup" 78 ⟨"CollectedGroup$Collector", "conjugateOf", "(II)I"⟩ ∈ WALL := hw_wi 374 rfl rfl
set_option maxRecDepth 100000 in
theorem wi_375 : Cond.methodLink "CollectedGroup$Subgroup" 69 ⟨"CollectedGroup$Subgroup", "include", "(I)V"⟩ ∈ WALL := hw_wi 375 rfl rfl
set_option maxRecDepth 100000 in
theorem wi_376 : Cond.methodLink "CollectedGroupLaw" 91 ⟨"CollectedGroup", "commute", "(III)I"⟩ ∈ WALL := hw_wi 376 rfl rfl
set_option maxRecDepth 100000 in
theorem wi_377 : Cond.instanceMethod ⟨"CollectedGroup", "commute", "(III)I"⟩ ∈ WALL := hw_wi 377 rfl rfl
set_option maxRecDepth 100000 in
theorem wi_378 : Cond.selects "CollectedGroup" ⟨"CollectedGroup", "commute", "(III)I"⟩ ⟨"CollectedGroup", "commute", "(III)I"⟩ ∈ WALL := hw_wi 378 rfl rfl
set_option maxRecDepth 100000 in
theorem wi_379 : Cond.code ⟨"CollectedGroup", "commute", "(III)I"⟩ prog_1_method_18_code 4 (some .int) ∈ WALL := hw_wi 379 rfl rfl
set_option maxRecDepth 100000 in
theorem wi_380 : Cond.methodLink "CollectedGroup" 128 ⟨"CollectedGroup$Subgroup", "becomeCommutators", "(LCollectedGroup$Subgroup;LCollectedGroup$Subgroup;)V"⟩ ∈ WALL := hw_wi 380 rfl rfl
set_option maxRecDepth 100000 in
theorem wi_381 : Cond.instanceMethod ⟨"CollectedGroup$Subgroup", "becomeCommutators", "(LCollectedGroup$Subgroup;LCollectedGroup$Subgroup;)V"⟩ ∈ WALL := hw_wi 381 rfl rfl
set_option maxRecDepth 100000 in
theorem wi_382 : Cond.selects "CollectedGroup$Subgroup" ⟨"CollectedGroup$Subgroup", "becomeCommutators", "(LCollectedGroup$Subgroup;LCollectedGroup$Subgroup;)V"⟩ ⟨"CollectedGroup$Subgroup", "becomeCommutators", "(LCollectedGroup$Subgroup;LCollectedGroup$Subgroup;)V"⟩ ∈ WALL := hw_wi 382 rfl rfl
set_option maxRecDepth 100000 in
theorem wi_383 : Cond.code ⟨"CollectedGroup$Subgroup", "becomeCommutators", "(LCollectedGroup$Subgroup;LCollectedGroup$Subgroup;)V"⟩ prog_4_method_7_code 5 none ∈ WALL := hw_wi 383 rfl rfl
set_option maxRecDepth 100000 in
theorem wi_384 : Cond.methodLink "CollectedGroup$Subgroup" 63 ⟨"CollectedGroup$Subgroup", "reset", "()V"⟩ ∈ WALL := hw_wi 384 rfl rfl
set_option maxRecDepth 100000 in
theorem wi_385 : Cond.methodLink "CollectedGroup$Subgroup" 66 ⟨"CollectedGroup$Collector", "commutatorOf", "(II)I"⟩ ∈ WALL := hw_wi 385 rfl rfl
set_option maxRecDepth 100000 in
theorem wi_386 : Cond.methodLink "CollectedGroup" 132 ⟨"CollectedGroup$Subgroup", "becomeCopy", "(LCollectedGroup$Subgroup;)V"⟩ ∈ WALL := hw_wi 386 rfl rfl
set_option maxRecDepth 100000 in
theorem wi_387 : Cond.instanceMethod ⟨"CollectedGroup$Subgroup", "becomeCopy", "(LCollectedGroup$Subgroup;)V"⟩ ∈ WALL := hw_wi 387 rfl rfl
set_option maxRecDepth 100000 in
theorem wi_388 : Cond.selects "CollectedGroup$Subgroup" ⟨"CollectedGroup$Subgroup", "becomeCopy", "(LCollectedGroup$Subgroup;)V"⟩ ⟨"CollectedGroup$Subgroup", "becomeCopy", "(LCollectedGroup$Subgroup;)V"⟩ ∈ WALL := hw_wi 388 rfl rfl
set_option maxRecDepth 100000 in
theorem wi_389 : Cond.code ⟨"CollectedGroup$Subgroup", "becomeCopy", "(LCollectedGroup$Subgroup;)V"⟩ prog_4_method_8_code 3 none ∈ WALL := hw_wi 389 rfl rfl
set_option maxRecDepth 100000 in
theorem wi_390 : Cond.methodLink "CollectedGroup$Subgroup" 72 ⟨"java/lang/System", "arraycopy", "(Ljava/lang/Object;ILjava/lang/Object;II)V"⟩ ∈ WALL := hw_wi 390 rfl rfl
set_option maxRecDepth 100000 in
theorem wi_391 : Cond.methodLink "CollectedGroupLaw" 96 ⟨"CollectedGroup", "count", "(I)I"⟩ ∈ WALL := hw_wi 391 rfl rfl
set_option maxRecDepth 100000 in
theorem wi_392 : Cond.instanceMethod ⟨"CollectedGroup", "count", "(I)I"⟩ ∈ WALL := hw_wi 392 rfl rfl
set_option maxRecDepth 100000 in
theorem wi_393 : Cond.selects "CollectedGroup" ⟨"CollectedGroup", "count", "(I)I"⟩ ⟨"CollectedGroup", "count", "(I)I"⟩ ∈ WALL := hw_wi 393 rfl rfl
set_option maxRecDepth 100000 in
theorem wi_394 : Cond.code ⟨"CollectedGroup", "count", "(I)I"⟩ prog_1_method_19_code 2 (some .int) ∈ WALL := hw_wi 394 rfl rfl
set_option maxRecDepth 100000 in
theorem wi_395 : Cond.methodLink "CollectedGroupLaw" 100 ⟨"CollectedGroup", "has", "(II)Z"⟩ ∈ WALL := hw_wi 395 rfl rfl
set_option maxRecDepth 100000 in
theorem wi_396 : Cond.instanceMethod ⟨"CollectedGroup", "has", "(II)Z"⟩ ∈ WALL := hw_wi 396 rfl rfl
set_option maxRecDepth 100000 in
theorem wi_397 : Cond.selects "CollectedGroup" ⟨"CollectedGroup", "has", "(II)Z"⟩ ⟨"CollectedGroup", "has", "(II)Z"⟩ ∈ WALL := hw_wi 397 rfl rfl
set_option maxRecDepth 100000 in
theorem wi_398 : Cond.code ⟨"CollectedGroup", "has", "(II)Z"⟩ prog_1_method_20_code 3 (some .boolean) ∈ WALL := hw_wi 398 rfl rfl
set_option maxRecDepth 100000 in
theorem wi_399 : Cond.methodLink "CollectedGroup" 135 ⟨"CollectedGroup$Subgroup", "holds", "(I)Z"⟩ ∈ WALL := hw_wi 399 rfl rfl
set_option maxRecDepth 100000 in
theorem wi_400 : Cond.instanceMethod ⟨"CollectedGroup$Subgroup", "holds", "(I)Z"⟩ ∈ WALL := hw_wi 400 rfl rfl
set_option maxRecDepth 100000 in
theorem wi_401 : Cond.selects "CollectedGroup$Subgroup" ⟨"CollectedGroup$Subgroup", "holds", "(I)Z"⟩ ⟨"CollectedGroup$Subgroup", "holds", "(I)Z"⟩ ∈ WALL := hw_wi 401 rfl rfl
set_option maxRecDepth 100000 in
theorem wi_402 : Cond.code ⟨"CollectedGroup$Subgroup", "holds", "(I)Z"⟩ prog_4_method_3_code 2 (some .boolean) ∈ WALL := hw_wi 402 rfl rfl
set_option maxRecDepth 100000 in
theorem wi_403 : Cond.methodLink "CollectedGroupLaw" 104 ⟨"CollectedGroup", "derived", "(I)I"⟩ ∈ WALL := hw_wi 403 rfl rfl
set_option maxRecDepth 100000 in
theorem wi_404 : Cond.instanceMethod ⟨"CollectedGroup", "derived", "(I)I"⟩ ∈ WALL := hw_wi 404 rfl rfl
set_option maxRecDepth 100000 in
theorem wi_405 : Cond.selects "CollectedGroup" ⟨"CollectedGroup", "derived", "(I)I"⟩ ⟨"CollectedGroup", "derived", "(I)I"⟩ ∈ WALL := hw_wi 405 rfl rfl
set_option maxRecDepth 100000 in
theorem wi_406 : Cond.code ⟨"CollectedGroup", "derived", "(I)I"⟩ prog_1_method_21_code 2 (some .int) ∈ WALL := hw_wi 406 rfl rfl
set_option maxRecDepth 100000 in
theorem wi_407 : Cond.methodLink "CollectedGroup" 138 ⟨"CollectedGroup", "seriesAmount", "(ILCollectedGroup$Subgroup;)I"⟩ ∈ WALL := hw_wi 407 rfl rfl
set_option maxRecDepth 100000 in
theorem wi_409 : Cond.instanceMethod ⟨"CollectedGroup", "seriesAmount", "(ILCollectedGroup$Subgroup;)I"⟩ ∈ WALL := hw_wi 409 rfl rfl
set_option maxRecDepth 100000 in
theorem wi_410 : Cond.code ⟨"CollectedGroup", "seriesAmount", "(ILCollectedGroup$Subgroup;)I"⟩ prog_1_method_30_code 4 (some .int) ∈ WALL := hw_wi 410 rfl rfl
set_option maxRecDepth 100000 in
theorem wi_411 : Cond.methodLink "CollectedGroupLaw" 108 ⟨"CollectedGroup", "lower", "(I)I"⟩ ∈ WALL := hw_wi 411 rfl rfl
set_option maxRecDepth 100000 in
theorem wi_412 : Cond.instanceMethod ⟨"CollectedGroup", "lower", "(I)I"⟩ ∈ WALL := hw_wi 412 rfl rfl
set_option maxRecDepth 100000 in
theorem wi_413 : Cond.selects "CollectedGroup" ⟨"CollectedGroup", "lower", "(I)I"⟩ ⟨"CollectedGroup", "lower", "(I)I"⟩ ∈ WALL := hw_wi 413 rfl rfl
set_option maxRecDepth 100000 in
theorem wi_414 : Cond.code ⟨"CollectedGroup", "lower", "(I)I"⟩ prog_1_method_22_code 2 (some .int) ∈ WALL := hw_wi 414 rfl rfl
set_option maxRecDepth 100000 in
theorem wi_415 : Cond.methodLink "CollectedGroupLaw" 112 ⟨"CollectedGroup", "centre", "()I"⟩ ∈ WALL := hw_wi 415 rfl rfl
set_option maxRecDepth 100000 in
theorem wi_416 : Cond.instanceMethod ⟨"CollectedGroup", "centre", "()I"⟩ ∈ WALL := hw_wi 416 rfl rfl
set_option maxRecDepth 100000 in
theorem wi_417 : Cond.selects "CollectedGroup" ⟨"CollectedGroup", "centre", "()I"⟩ ⟨"CollectedGroup", "centre", "()I"⟩ ∈ WALL := hw_wi 417 rfl rfl
set_option maxRecDepth 100000 in
theorem wi_418 : Cond.code ⟨"CollectedGroup", "centre", "()I"⟩ prog_1_method_23_code 3 (some .int) ∈ WALL := hw_wi 418 rfl rfl
set_option maxRecDepth 100000 in
theorem wi_419 : Cond.methodLink "CollectedGroup" 142 ⟨"CollectedGroup$Collector", "isCentral", "(I)Z"⟩ ∈ WALL := hw_wi 419 rfl rfl
set_option maxRecDepth 100000 in
theorem wi_420 : Cond.instanceMethod ⟨"CollectedGroup$Collector", "isCentral", "(I)Z"⟩ ∈ WALL := hw_wi 420 rfl rfl
set_option maxRecDepth 100000 in
theorem wi_421 : Cond.selects "CollectedGroup$Collector" ⟨"CollectedGroup$Collector", "isCentral", "(I)Z"⟩ ⟨"CollectedGroup$Collector", "isCentral", "(I)Z"⟩ ∈ WALL := hw_wi 421 rfl rfl
set_option maxRecDepth 100000 in
theorem wi_422 : Cond.code ⟨"CollectedGroup$Collector", "isCentral", "(I)Z"⟩ prog_2_method_16_code 3 (some .boolean) ∈ WALL := hw_wi 422 rfl rfl
set_option maxRecDepth 100000 in
theorem wi_423 : Cond.methodLink "CollectedGroupLaw" 116 ⟨"CollectedGroup", "classes", "()I"⟩ ∈ WALL := hw_wi 423 rfl rfl
set_option maxRecDepth 100000 in
theorem wi_424 : Cond.instanceMethod ⟨"CollectedGroup", "classes", "()I"⟩ ∈ WALL := hw_wi 424 rfl rfl
set_option maxRecDepth 100000 in
theorem wi_425 : Cond.selects "CollectedGroup" ⟨"CollectedGroup", "classes", "()I"⟩ ⟨"CollectedGroup", "classes", "()I"⟩ ∈ WALL := hw_wi 425 rfl rfl
set_option maxRecDepth 100000 in
theorem wi_426 : Cond.code ⟨"CollectedGroup", "classes", "()I"⟩ prog_1_method_24_code 3 (some .int) ∈ WALL := hw_wi 426 rfl rfl
set_option maxRecDepth 100000 in
theorem wi_427 : Cond.methodLink "CollectedGroup" 145 ⟨"CollectedGroup$ElementSet", "empty", "()V"⟩ ∈ WALL := hw_wi 427 rfl rfl
set_option maxRecDepth 100000 in
theorem wi_428 : Cond.methodLink "CollectedGroup" 148 ⟨"CollectedGroup$ElementSet", "holds", "(I)Z"⟩ ∈ WALL := hw_wi 428 rfl rfl
set_option maxRecDepth 100000 in
theorem wi_429 : Cond.methodLink "CollectedGroup" 149 ⟨"CollectedGroup", "addClass", "(I)V"⟩ ∈ WALL := hw_wi 429 rfl rfl
set_option maxRecDepth 100000 in
theorem wi_431 : Cond.instanceMethod ⟨"CollectedGroup", "addClass", "(I)V"⟩ ∈ WALL := hw_wi 431 rfl rfl
set_option maxRecDepth 100000 in
theorem wi_432 : Cond.code ⟨"CollectedGroup", "addClass", "(I)V"⟩ prog_1_method_31_code 5 none ∈ WALL := hw_wi 432 rfl rfl
set_option maxRecDepth 100000 in
theorem wi_433 : Cond.methodLink "CollectedGroup" 152 ⟨"CollectedGroup$ElementSet", "amount", "()I"⟩ ∈ WALL := hw_wi 433 rfl rfl
set_option maxRecDepth 100000 in
theorem wi_434 : Cond.methodLink "CollectedGroup" 156 ⟨"CollectedGroup$ElementSet", "add", "(I)V"⟩ ∈ WALL := hw_wi 434 rfl rfl
set_option maxRecDepth 100000 in
theorem wi_435 : Cond.methodLink "CollectedGroup" 159 ⟨"CollectedGroup$ElementSet", "member", "(I)I"⟩ ∈ WALL := hw_wi 435 rfl rfl
set_option maxRecDepth 100000 in
theorem wi_436 : Cond.methodLink "CollectedGroupLaw" 120 ⟨"CollectedGroup", "kin", "(I)I"⟩ ∈ WALL := hw_wi 436 rfl rfl
set_option maxRecDepth 100000 in
theorem wi_437 : Cond.instanceMethod ⟨"CollectedGroup", "kin", "(I)I"⟩ ∈ WALL := hw_wi 437 rfl rfl
set_option maxRecDepth 100000 in
theorem wi_438 : Cond.selects "CollectedGroup" ⟨"CollectedGroup", "kin", "(I)I"⟩ ⟨"CollectedGroup", "kin", "(I)I"⟩ ∈ WALL := hw_wi 438 rfl rfl
set_option maxRecDepth 100000 in
theorem wi_439 : Cond.code ⟨"CollectedGroup", "kin", "(I)I"⟩ prog_1_method_25_code 2 (some .int) ∈ WALL := hw_wi 439 rfl rfl
set_option maxRecDepth 100000 in
theorem wi_440 : Cond.methodLink "CollectedGroupLaw" 124 ⟨"CollectedGroup", "head", "(I)I"⟩ ∈ WALL := hw_wi 440 rfl rfl
set_option maxRecDepth 100000 in
theorem wi_441 : Cond.instanceMethod ⟨"CollectedGroup", "head", "(I)I"⟩ ∈ WALL := hw_wi 441 rfl rfl
set_option maxRecDepth 100000 in
theorem wi_442 : Cond.selects "CollectedGroup" ⟨"CollectedGroup", "head", "(I)I"⟩ ⟨"CollectedGroup", "head", "(I)I"⟩ ∈ WALL := hw_wi 442 rfl rfl
set_option maxRecDepth 100000 in
theorem wi_443 : Cond.code ⟨"CollectedGroup", "head", "(I)I"⟩ prog_1_method_26_code 2 (some .int) ∈ WALL := hw_wi 443 rfl rfl
set_option maxRecDepth 100000 in
theorem wi_444 : Cond.methodLink "CollectedGroup" 153 ⟨"CollectedGroup$ElementSet", "least", "()I"⟩ ∈ WALL := hw_wi 444 rfl rfl
set_option maxRecDepth 100000 in
theorem wi_445 : Cond.instanceMethod ⟨"CollectedGroup$ElementSet", "least", "()I"⟩ ∈ WALL := hw_wi 445 rfl rfl
set_option maxRecDepth 100000 in
theorem wi_446 : Cond.selects "CollectedGroup$ElementSet" ⟨"CollectedGroup$ElementSet", "least", "()I"⟩ ⟨"CollectedGroup$ElementSet", "least", "()I"⟩ ∈ WALL := hw_wi 446 rfl rfl
set_option maxRecDepth 100000 in
theorem wi_447 : Cond.code ⟨"CollectedGroup$ElementSet", "least", "()I"⟩ prog_3_method_7_code 2 (some .int) ∈ WALL := hw_wi 447 rfl rfl
set_option maxRecDepth 100000 in
theorem wi_448 : Cond.methodLink "CollectedGroupLaw" 9 ⟨"CollectedGroupLaw", "cell", "([II)I"⟩ ∈ WALL := hw_wi 448 rfl rfl
set_option maxRecDepth 100000 in
theorem wi_449 : Cond.static ⟨"CollectedGroupLaw", "cell", "([II)I"⟩ ∈ WALL := hw_wi 449 rfl rfl
set_option maxRecDepth 100000 in
theorem wi_450 : Cond.code ⟨"CollectedGroupLaw", "cell", "([II)I"⟩ method_2_code 2 (some .int) ∈ WALL := hw_wi 450 rfl rfl
set_option maxRecDepth 100000 in
theorem wi_451 : Cond.classLink "CollectedGroupLaw" 18 "CollectedGroupModel" ∈ WALL := hw_wi 451 rfl rfl
set_option maxRecDepth 100000 in
theorem wi_452 : Cond.instantiable "CollectedGroupModel" 14 ∈ WALL := hw_wi 452 rfl rfl
set_option maxRecDepth 100000 in
theorem wi_453 : Cond.methodLink "CollectedGroupLaw" 20 ⟨"CollectedGroupModel", "<init>", "(I)V"⟩ ∈ WALL := hw_wi 453 rfl rfl
set_option maxRecDepth 100000 in
theorem wi_454 : Cond.instanceMethod ⟨"CollectedGroupModel", "<init>", "(I)V"⟩ ∈ WALL := hw_wi 454 rfl rfl
set_option maxRecDepth 100000 in
theorem wi_455 : Cond.code ⟨"CollectedGroupModel", "<init>", "(I)V"⟩ prog_6_method_1_code 9 none ∈ WALL := hw_wi 455 rfl rfl
set_option maxRecDepth 100000 in
theorem wi_456 : Cond.methodLink "CollectedGroupModel" 1 ⟨"java/lang/Object", "<init>", "()V"⟩ ∈ WALL := hw_wi 456 rfl rfl
set_option maxRecDepth 100000 in
theorem wi_457 : Cond.fieldLink "CollectedGroupModel" 44 "CollectedGroupModel" "generators" "I" ∈ WALL := hw_wi 457 rfl rfl
set_option maxRecDepth 100000 in
theorem wi_458 : Cond.fieldLink "CollectedGroupModel" 48 "CollectedGroupModel" "size" "I" ∈ WALL := hw_wi 458 rfl rfl
set_option maxRecDepth 100000 in
theorem wi_459 : Cond.fieldLink "CollectedGroupModel" 7 "CollectedGroupModel" "orders" "[I" ∈ WALL := hw_wi 459 rfl rfl
set_option maxRecDepth 100000 in
theorem wi_460 : Cond.fieldLink "CollectedGroupModel" 13 "CollectedGroupModel" "weight" "[I" ∈ WALL := hw_wi 460 rfl rfl
set_option maxRecDepth 100000 in
theorem wi_461 : Cond.fieldLink "CollectedGroupModel" 16 "CollectedGroupModel" "powers" "[I" ∈ WALL := hw_wi 461 rfl rfl
set_option maxRecDepth 100000 in
theorem wi_462 : Cond.fieldLink "CollectedGroupModel" 19 "CollectedGroupModel" "turned" "[I" ∈ WALL := hw_wi 462 rfl rfl
set_option maxRecDepth 100000 in
theorem wi_463 : Cond.fieldLink "CollectedGroupModel" 55 "CollectedGroupModel" "isFixed" "Z" ∈ WALL := hw_wi 463 rfl rfl
set_option maxRecDepth 100000 in
theorem wi_464 : Cond.fieldLink "CollectedGroupModel" 22 "CollectedGroupModel" "table" "[I" ∈ WALL := hw_wi 464 rfl rfl
set_option maxRecDepth 100000 in
theorem wi_465 : Cond.fieldLink "CollectedGroupModel" 25 "CollectedGroupModel" "once" "[I" ∈ WALL := hw_wi 465 rfl rfl
set_option maxRecDepth 100000 in
theorem wi_466 : Cond.fieldLink "CollectedGroupModel" 28 "CollectedGroupModel" "many" "[I" ∈ WALL := hw_wi 466 rfl rfl
set_option maxRecDepth 100000 in
theorem wi_467 : Cond.fieldLink "CollectedGroupModel" 31 "CollectedGroupModel" "inverses" "[I" ∈ WALL := hw_wi 467 rfl rfl
set_option maxRecDepth 100000 in
theorem wi_468 : Cond.fieldLink "CollectedGroupModel" 34 "CollectedGroupModel" "places" "[Z" ∈ WALL := hw_wi 468 rfl rfl
set_option maxRecDepth 100000 in
theorem wi_469 : Cond.fieldLink "CollectedGroupModel" 38 "CollectedGroupModel" "work" "[Z" ∈ WALL := hw_wi 469 rfl rfl
set_option maxRecDepth 100000 in
theorem wi_470 : Cond.fieldLink "CollectedGroupModel" 41 "CollectedGroupModel" "other" "[Z" ∈ WALL := hw_wi 470 rfl rfl
set_option maxRecDepth 100000 in
theorem wi_471 : Cond.laysFinal "CollectedGroupModel" "CollectedGroupModel" "generators" "I" ∈ WALL := hw_wi 471 rfl rfl
set_option maxRecDepth 100000 in
theorem wi_472 : Cond.soleField "CollectedGroupModel" "generators" ∈ WALL := hw_wi 472 rfl rfl
set_option maxRecDepth 100000 in
theorem wi_473 : Cond.laysFinal "CollectedGroupModel" "CollectedGroupModel" "size" "I" ∈ WALL := hw_wi 473 rfl rfl
set_option maxRecDepth 100000 in
theorem wi_474 : Cond.soleField "CollectedGroupModel" "size" ∈ WALL := hw_wi 474 rfl rfl
set_option maxRecDepth 100000 in
theorem wi_475 : Cond.laysFinal "CollectedGroupModel" "CollectedGroupModel" "orders" "[I" ∈ WALL := hw_wi 475 rfl rfl
set_option maxRecDepth 100000 in
theorem wi_476 : Cond.soleField "CollectedGroupModel" "orders" ∈ WALL := hw_wi 476 rfl rfl
set_option maxRecDepth 100000 in
theorem wi_477 : Cond.laysFinal "CollectedGroupModel" "CollectedGroupModel" "weight" "[I" ∈ WALL := hw_wi 477 rfl rfl
set_option maxRecDepth 100000 in
theorem wi_478 : Cond.soleField "CollectedGroupModel" "weight" ∈ WALL := hw_wi 478 rfl rfl
set_option maxRecDepth 100000 in
theorem wi_479 : Cond.laysFinal "CollectedGroupModel" "CollectedGroupModel" "powers" "[I" ∈ WALL := hw_wi 479 rfl rfl
set_option maxRecDepth 100000 in
theorem wi_480 : Cond.soleField "CollectedGroupModel" "powers" ∈ WALL := hw_wi 480 rfl rfl
set_option maxRecDepth 100000 in
theorem wi_481 : Cond.laysFinal "CollectedGroupModel" "CollectedGroupModel" "turned" "[I" ∈ WALL := hw_wi 481 rfl rfl
set_option maxRecDepth 100000 in
theorem wi_482 : Cond.soleField "CollectedGroupModel" "turned" ∈ WALL := hw_wi 482 rfl rfl
set_option maxRecDepth 100000 in
theorem wi_483 : Cond.lays "CollectedGroupModel" "CollectedGroupModel" "isFixed" "Z" ∈ WALL := hw_wi 483 rfl rfl
set_option maxRecDepth 100000 in
theorem wi_484 : Cond.soleField "CollectedGroupModel" "isFixed" ∈ WALL := hw_wi 484 rfl rfl
set_option maxRecDepth 100000 in
theorem wi_485 : Cond.laysFinal "CollectedGroupModel" "CollectedGroupModel" "table" "[I" ∈ WALL := hw_wi 485 rfl rfl
set_option maxRecDepth 100000 in
theorem wi_486 : Cond.soleField "CollectedGroupModel" "table" ∈ WALL := hw_wi 486 rfl rfl
set_option maxRecDepth 100000 in
theorem wi_487 : Cond.laysFinal "CollectedGroupModel" "CollectedGroupModel" "once" "[I" ∈ WALL := hw_wi 487 rfl rfl
set_option maxRecDepth 100000 in
theorem wi_488 : Cond.soleField "CollectedGroupModel" "once" ∈ WALL := hw_wi 488 rfl rfl
set_option maxRecDepth 100000 in
theorem wi_489 : Cond.laysFinal "CollectedGroupModel" "CollectedGroupModel" "many" "[I" ∈ WALL := hw_wi 489 rfl rfl
set_option maxRecDepth 100000 in
theorem wi_490 : Cond.soleField "CollectedGroupModel" "many" ∈ WALL := hw_wi 490 rfl rfl
set_option maxRecDepth 100000 in
theorem wi_491 : Cond.laysFinal "CollectedGroupModel" "CollectedGroupModel" "inverses" "[I" ∈ WALL := hw_wi 491 rfl rfl
set_option maxRecDepth 100000 in
theorem wi_492 : Cond.soleField "CollectedGroupModel" "inverses" ∈ WALL := hw_wi 492 rfl rfl
set_option maxRecDepth 100000 in
theorem wi_493 : Cond.laysFinal "CollectedGroupModel" "CollectedGroupModel" "places" "[Z" ∈ WALL := hw_wi 493 rfl rfl
set_option maxRecDepth 100000 in
theorem wi_494 : Cond.soleField "CollectedGroupModel" "places" ∈ WALL := hw_wi 494 rfl rfl
set_option maxRecDepth 100000 in
theorem wi_495 : Cond.laysFinal "CollectedGroupModel" "CollectedGroupModel" "work" "[Z" ∈ WALL := hw_wi 495 rfl rfl
set_option maxRecDepth 100000 in
theorem wi_496 : Cond.soleField "CollectedGroupModel" "work" ∈ WALL := hw_wi 496 rfl rfl
set_option maxRecDepth 100000 in
theorem wi_497 : Cond.laysFinal "CollectedGroupModel" "CollectedGroupModel" "other" "[Z" ∈ WALL := hw_wi 497 rfl rfl
set_option maxRecDepth 100000 in
theorem wi_498 : Cond.soleField "CollectedGroupModel" "other" ∈ WALL := hw_wi 498 rfl rfl
set_option maxRecDepth 100000 in
theorem wi_499 : Cond.superclass "CollectedGroupModel" "java/lang/Object" ∈ WALL := hw_wi 499 rfl rfl
set_option maxRecDepth 100000 in
theorem wi_500 : Cond.methodLink "CollectedGroupLaw" 25 ⟨"CollectedGroupModel", "generators", "()I"⟩ ∈ WALL := hw_wi 500 rfl rfl
set_option maxRecDepth 100000 in
theorem wi_501 : Cond.instanceMethod ⟨"CollectedGroupModel", "generators", "()I"⟩ ∈ WALL := hw_wi 501 rfl rfl
set_option maxRecDepth 100000 in
theorem wi_502 : Cond.selects "CollectedGroupModel" ⟨"CollectedGroupModel", "generators", "()I"⟩ ⟨"CollectedGroupModel", "generators", "()I"⟩ ∈ WALL := hw_wi 502 rfl rfl
set_option maxRecDepth 100000 in
theorem wi_503 : Cond.code ⟨"CollectedGroupModel", "generators", "()I"⟩ prog_6_method_3_code 1 (some .int) ∈ WALL := hw_wi 503 rfl rfl
set_option maxRecDepth 100000 in
theorem wi_504 : Cond.methodLink "CollectedGroupLaw" 29 ⟨"CollectedGroupModel", "size", "()I"⟩ ∈ WALL := hw_wi 504 rfl rfl
set_option maxRecDepth 100000 in
theorem wi_505 : Cond.instanceMethod ⟨"CollectedGroupModel", "size", "()I"⟩ ∈ WALL := hw_wi 505 rfl rfl
set_option maxRecDepth 100000 in
theorem wi_506 : Cond.selects "CollectedGroupModel" ⟨"CollectedGroupModel", "size", "()I"⟩ ⟨"CollectedGroupModel", "size", "()I"⟩ ∈ WALL := hw_wi 506 rfl rfl
set_option maxRecDepth 100000 in
theorem wi_507 : Cond.code ⟨"CollectedGroupModel", "size", "()I"⟩ prog_6_method_4_code 1 (some .int) ∈ WALL := hw_wi 507 rfl rfl
set_option maxRecDepth 100000 in
theorem wi_508 : Cond.methodLink "CollectedGroupLaw" 34 ⟨"CollectedGroupModel", "generator", "(I)I"⟩ ∈ WALL := hw_wi 508 rfl rfl
set_option maxRecDepth 100000 in
theorem wi_509 : Cond.instanceMethod ⟨"CollectedGroupModel", "generator", "(I)I"⟩ ∈ WALL := hw_wi 509 rfl rfl
set_option maxRecDepth 100000 in
theorem wi_510 : Cond.selects "CollectedGroupModel" ⟨"CollectedGroupModel", "generator", "(I)I"⟩ ⟨"CollectedGroupModel", "generator", "(I)I"⟩ ∈ WALL := hw_wi 510 rfl rfl
set_option maxRecDepth 100000 in
theorem wi_511 : Cond.code ⟨"CollectedGroupModel", "generator", "(I)I"⟩ prog_6_method_5_code 2 (some .int) ∈ WALL := hw_wi 511 rfl rfl
set_option maxRecDepth 100000 in
theorem wi_512 : Cond.methodLink "CollectedGroupModel" 51 ⟨"CollectedGroupModel", "isGenerator", "(I)Z"⟩ ∈ WALL := hw_wi 512 rfl rfl
set_option maxRecDepth 100000 in
theorem wi_514 : Cond.instanceMethod ⟨"CollectedGroupModel", "isGenerator", "(I)Z"⟩ ∈ WALL := hw_wi 514 rfl rfl
set_option maxRecDepth 100000 in
theorem wi_515 : Cond.code ⟨"CollectedGroupModel", "isGenerator", "(I)Z"⟩ prog_6_method_2_code 2 (some .boolean) ∈ WALL := hw_wi 515 rfl rfl
set_option maxRecDepth 100000 in
theorem wi_516 : Cond.methodLink "CollectedGroupLaw" 39 ⟨"CollectedGroupModel", "power", "(II)Z"⟩ ∈ WALL := hw_wi 516 rfl rfl
set_option maxRecDepth 100000 in
theorem wi_517 : Cond.instanceMethod ⟨"CollectedGroupModel", "power", "(II)Z"⟩ ∈ WALL := hw_wi 517 rfl rfl
set_option maxRecDepth 100000 in
theorem wi_518 : Cond.selects "CollectedGroupModel" ⟨"CollectedGroupModel", "power", "(II)Z"⟩ ⟨"CollectedGroupModel", "power", "(II)Z"⟩ ∈ WALL := hw_wi 518 rfl rfl
set_option maxRecDepth 100000 in
theorem wi_519 : Cond.code ⟨"CollectedGroupModel", "power", "(II)Z"⟩ prog_6_method_6_code 3 (some .boolean) ∈ WALL := hw_wi 519 rfl rfl
set_option maxRecDepth 100000 in
theorem wi_520 : Cond.methodLink "CollectedGroupLaw" 44 ⟨"CollectedGroupModel", "conjugate", "(III)Z"⟩ ∈ WALL := hw_wi 520 rfl rfl
set_option maxRecDepth 100000 in
theorem wi_521 : Cond.instanceMethod ⟨"CollectedGroupModel", "conjugate", "(III)Z"⟩ ∈ WALL := hw_wi 521 rfl rfl
set_option maxRecDepth 100000 in
theorem wi_522 : Cond.selects "CollectedGroupModel" ⟨"CollectedGroupModel", "conjugate", "(III)Z"⟩ ⟨"CollectedGroupModel", "conjugate", "(III)Z"⟩ ∈ WALL := hw_wi 522 rfl rfl
set_option maxRecDepth 100000 in
theorem wi_523 : Cond.code ⟨"CollectedGroupModel", "conjugate", "(III)Z"⟩ prog_6_method_7_code 4 (some .boolean) ∈ WALL := hw_wi 523 rfl rfl
set_option maxRecDepth 100000 in
theorem wi_524 : Cond.methodLink "CollectedGroupLaw" 49 ⟨"CollectedGroupModel", "fix", "()Z"⟩ ∈ WALL := hw_wi 524 rfl rfl
set_option maxRecDepth 100000 in
theorem wi_525 : Cond.instanceMethod ⟨"CollectedGroupModel", "fix", "()Z"⟩ ∈ WALL := hw_wi 525 rfl rfl
set_option maxRecDepth 100000 in
theorem wi_526 : Cond.selects "CollectedGroupModel" ⟨"CollectedGroupModel", "fix", "()Z"⟩ ⟨"CollectedGroupModel", "fix", "()Z"⟩ ∈ WALL := hw_wi 526 rfl rfl
set_option maxRecDepth 100000 in
theorem wi_527 : Cond.code ⟨"CollectedGroupModel", "fix", "()Z"⟩ prog_6_method_14_code 3 (some .boolean) ∈ WALL := hw_wi 527 rfl rfl
set_option maxRecDepth 100000 in
theorem wi_528 : Cond.methodLink "CollectedGroupModel" 77 ⟨"CollectedGroupModel", "build", "()Z"⟩ ∈ WALL := hw_wi 528 rfl rfl
set_option maxRecDepth 100000 in
theorem wi_530 : Cond.instanceMethod ⟨"CollectedGroupModel", "build", "()Z"⟩ ∈ WALL := hw_wi 530 rfl rfl
set_option maxRecDepth 100000 in
theorem wi_531 : Cond.code ⟨"CollectedGroupModel", "build", "()Z"⟩ prog_6_method_13_code 4 (some .boolean) ∈ WALL := hw_wi 531 rfl rfl
set_option maxRecDepth 100000 in
theorem wi_532 : Cond.methodLink "CollectedGroupModel" 67 ⟨"CollectedGroupModel", "letters", "(II)I"⟩ ∈ WALL := hw_wi 532 rfl rfl
set_option maxRecDepth 100000 in
theorem wi_534 : Cond.instanceMethod ⟨"CollectedGroupModel", "letters", "(II)I"⟩ ∈ WALL := hw_wi 534 rfl rfl
set_option maxRecDepth 100000 in
theorem wi_535 : Cond.code ⟨"CollectedGroupModel", "letters", "(II)I"⟩ prog_6_method_9_code 7 (some .int) ∈ WALL := hw_wi 535 rfl rfl
set_option maxRecDepth 100000 in
theorem wi_536 : Cond.methodLink "CollectedGroupModel" 59 ⟨"CollectedGroupModel", "of", "(II)I"⟩ ∈ WALL := hw_wi 536 rfl rfl
set_option maxRecDepth 100000 in
theorem wi_538 : Cond.instanceMethod ⟨"CollectedGroupModel", "of", "(II)I"⟩ ∈ WALL := hw_wi 538 rfl rfl
set_option maxRecDepth 100000 in
theorem wi_539 : Cond.code ⟨"CollectedGroupModel", "of", "(II)I"⟩ prog_6_method_8_code 3 (some .int) ∈ WALL := hw_wi 539 rfl rfl
set_option maxRecDepth 100000 in
theorem wi_540 : Cond.methodLink "CollectedGroupModel" 70 ⟨"CollectedGroupModel", "turns", "(I)Z"⟩ ∈ WALL := hw_wi 540 rfl rfl
set_option maxRecDepth 100000 in
theorem wi_542 : Cond.instanceMethod ⟨"CollectedGroupModel", "turns", "(I)Z"⟩ ∈ WALL := hw_wi 542 rfl rfl
set_option maxRecDepth 100000 in
theorem wi_543 : Cond.code ⟨"CollectedGroupModel", "turns", "(I)Z"⟩ prog_6_method_10_code 8 (some .boolean) ∈ WALL := hw_wi 543 rfl rfl
set_option maxRecDepth 100000 in
theorem wi_544 : Cond.methodLink "CollectedGroupModel" 73 ⟨"CollectedGroupModel", "widen", "(I)V"⟩ ∈ WALL := hw_wi 544 rfl rfl
set_option maxRecDepth 100000 in
theorem wi_546 : Cond.instanceMethod ⟨"CollectedGroupModel", "widen", "(I)V"⟩ ∈ WALL := hw_wi 546 rfl rfl
set_option maxRecDepth 100000 in
theorem wi_547 : Cond.code ⟨"CollectedGroupModel", "widen", "(I)V"⟩ prog_6_method_11_code 6 none ∈ WALL := hw_wi 547 rfl rfl
set_option maxRecDepth 100000 in
theorem wi_548 : Cond.methodLink "CollectedGroupModel" 63 ⟨"CollectedGroupModel", "enter", "(IIII)V"⟩ ∈ WALL := hw_wi 548 rfl rfl
set_option maxRecDepth 100000 in
theorem wi_550 : Cond.instanceMethod ⟨"CollectedGroupModel", "enter", "(IIII)V"⟩ ∈ WALL := hw_wi 550 rfl rfl
set_option maxRecDepth 100000 in
theorem wi_551 : Cond.code ⟨"CollectedGroupModel", "enter", "(IIII)V"⟩ prog_6_method_12_code 10 none ∈ WALL := hw_wi 551 rfl rfl
set_option maxRecDepth 100000 in
theorem wi_552 : Cond.methodLink "CollectedGroupLaw" 53 ⟨"CollectedGroupModel", "release", "()V"⟩ ∈ WALL := hw_wi 552 rfl rfl
set_option maxRecDepth 100000 in
theorem wi_553 : Cond.instanceMethod ⟨"CollectedGroupModel", "release", "()V"⟩ ∈ WALL := hw_wi 553 rfl rfl
set_option maxRecDepth 100000 in
theorem wi_554 : Cond.selects "CollectedGroupModel" ⟨"CollectedGroupModel", "release", "()V"⟩ ⟨"CollectedGroupModel", "release", "()V"⟩ ∈ WALL := hw_wi 554 rfl rfl
set_option maxRecDepth 100000 in
theorem wi_555 : Cond.code ⟨"CollectedGroupModel", "release", "()V"⟩ prog_6_method_15_code 1 none ∈ WALL := hw_wi 555 rfl rfl
set_option maxRecDepth 100000 in
theorem wi_556 : Cond.methodLink "CollectedGroupLaw" 57 ⟨"CollectedGroupModel", "fixed", "()Z"⟩ ∈ WALL := hw_wi 556 rfl rfl
set_option maxRecDepth 100000 in
theorem wi_557 : Cond.instanceMethod ⟨"CollectedGroupModel", "fixed", "()Z"⟩ ∈ WALL := hw_wi 557 rfl rfl
set_option maxRecDepth 100000 in
theorem wi_558 : Cond.selects "CollectedGroupModel" ⟨"CollectedGroupModel", "fixed", "()Z"⟩ ⟨"CollectedGroupModel", "fixed", "()Z"⟩ ∈ WALL := hw_wi 558 rfl rfl
set_option maxRecDepth 100000 in
theorem wi_559 : Cond.code ⟨"CollectedGroupModel", "fixed", "()Z"⟩ prog_6_method_16_code 1 (some .boolean) ∈ WALL := hw_wi 559 rfl rfl
set_option maxRecDepth 100000 in
theorem wi_560 : Cond.methodLink "CollectedGroupLaw" 62 ⟨"CollectedGroupModel", "product", "(II)I"⟩ ∈ WALL := hw_wi 560 rfl rfl
set_option maxRecDepth 100000 in
theorem wi_561 : Cond.instanceMethod ⟨"CollectedGroupModel", "product", "(II)I"⟩ ∈ WALL := hw_wi 561 rfl rfl
set_option maxRecDepth 100000 in
theorem wi_562 : Cond.selects "CollectedGroupModel" ⟨"CollectedGroupModel", "product", "(II)I"⟩ ⟨"CollectedGroupModel", "product", "(II)I"⟩ ∈ WALL := hw_wi 562 rfl rfl
set_option maxRecDepth 100000 in
theorem wi_563 : Cond.code ⟨"CollectedGroupModel", "product", "(II)I"⟩ prog_6_method_18_code 3 (some .int) ∈ WALL := hw_wi 563 rfl rfl
set_option maxRecDepth 100000 in
theorem wi_564 : Cond.methodLink "CollectedGroupModel" 81 ⟨"CollectedGroupModel", "is", "(I)Z"⟩ ∈ WALL := hw_wi 564 rfl rfl
set_option maxRecDepth 100000 in
theorem wi_566 : Cond.instanceMethod ⟨"CollectedGroupModel", "is", "(I)Z"⟩ ∈ WALL := hw_wi 566 rfl rfl
set_option maxRecDepth 100000 in
theorem wi_567 : Cond.code ⟨"CollectedGroupModel", "is", "(I)Z"⟩ prog_6_method_17_code 2 (some .boolean) ∈ WALL := hw_wi 567 rfl rfl
set_option maxRecDepth 100000 in
theorem wi_568 : Cond.methodLink "CollectedGroupLaw" 78 ⟨"CollectedGroupModel", "order", "(I)I"⟩ ∈ WALL := hw_wi 568 rfl rfl
set_option maxRecDepth 100000 in
theorem wi_569 : Cond.instanceMethod ⟨"CollectedGroupModel", "order", "(I)I"⟩ ∈ WALL := hw_wi 569 rfl rfl
set_option maxRecDepth 100000 in
theorem wi_570 : Cond.selects "CollectedGroupModel" ⟨"CollectedGroupModel", "order", "(I)I"⟩ ⟨"CollectedGroupModel", "order", "(I)I"⟩ ∈ WALL := hw_wi 570 rfl rfl
set_option maxRecDepth 100000 in
theorem wi_571 : Cond.code ⟨"CollectedGroupModel", "order", "(I)I"⟩ prog_6_method_19_code 4 (some .int) ∈ WALL := hw_wi 571 rfl rfl
set_option maxRecDepth 100000 in
theorem wi_572 : Cond.methodLink "CollectedGroupLaw" 66 ⟨"CollectedGroupModel", "times", "(II)I"⟩ ∈ WALL := hw_wi 572 rfl rfl
set_option maxRecDepth 100000 in
theorem wi_573 : Cond.instanceMethod ⟨"CollectedGroupModel", "times", "(II)I"⟩ ∈ WALL := hw_wi 573 rfl rfl
set_option maxRecDepth 100000 in
theorem wi_574 : Cond.selects "CollectedGroupModel" ⟨"CollectedGroupModel", "times", "(II)I"⟩ ⟨"CollectedGroupModel", "times", "(II)I"⟩ ∈ WALL := hw_wi 574 rfl rfl
set_option maxRecDepth 100000 in
theorem wi_575 : Cond.code ⟨"CollectedGroupModel", "times", "(II)I"⟩ prog_6_method_20_code 7 (some .int) ∈ WALL := hw_wi 575 rfl rfl
set_option maxRecDepth 100000 in
theorem wi_576 : Cond.methodLink "CollectedGroupModel" 84 ⟨"CollectedGroupModel", "order", "(I)I"⟩ ∈ WALL := hw_wi 576 rfl rfl
set_option maxRecDepth 100000 in
theorem wi_577 : Cond.methodLink "CollectedGroupLaw" 70 ⟨"CollectedGroupModel", "conjugated", "(II)I"⟩ ∈ WALL := hw_wi 577 rfl rfl
set_option maxRecDepth 100000 in
theorem wi_578 : Cond.instanceMethod ⟨"CollectedGroupModel", "conjugated", "(II)I"⟩ ∈ WALL := hw_wi 578 rfl rfl
set_option maxRecDepth 100000 in
theorem wi_579 : Cond.selects "CollectedGroupModel" ⟨"CollectedGroupModel", "conjugated", "(II)I"⟩ ⟨"CollectedGroupModel", "conjugated", "(II)I"⟩ ∈ WALL := hw_wi 579 rfl rfl
set_option maxRecDepth 100000 in
theorem wi_580 : Cond.code ⟨"CollectedGroupModel", "conjugated", "(II)I"⟩ prog_6_method_23_code 3 (some .int) ∈ WALL := hw_wi 580 rfl rfl
set_option maxRecDepth 100000 in
theorem wi_581 : Cond.methodLink "CollectedGroupModel" 88 ⟨"CollectedGroupModel", "by", "(II)I"⟩ ∈ WALL := hw_wi 581 rfl rfl
set_option maxRecDepth 100000 in
theorem wi_583 : Cond.instanceMethod ⟨"CollectedGroupModel", "by", "(II)I"⟩ ∈ WALL := hw_wi 583 rfl rfl
set_option maxRecDepth 100000 in
theorem wi_584 : Cond.code ⟨"CollectedGroupModel", "by", "(II)I"⟩ prog_6_method_21_code 3 (some .int) ∈ WALL := hw_wi 584 rfl rfl
set_option maxRecDepth 100000 in
theorem wi_585 : Cond.methodLink "CollectedGroupLaw" 74 ⟨"CollectedGroupModel", "commutator", "(II)I"⟩ ∈ WALL := hw_wi 585 rfl rfl
set_option maxRecDepth 100000 in
theorem wi_586 : Cond.instanceMethod ⟨"CollectedGroupModel", "commutator", "(II)I"⟩ ∈ WALL := hw_wi 586 rfl rfl
set_option maxRecDepth 100000 in
theorem wi_587 : Cond.selects "CollectedGroupModel" ⟨"CollectedGroupModel", "commutator", "(II)I"⟩ ⟨"CollectedGroupModel", "commutator", "(II)I"⟩ ∈ WALL := hw_wi 587 rfl rfl
set_option maxRecDepth 100000 in
theorem wi_588 : Cond.code ⟨"CollectedGroupModel", "commutator", "(II)I"⟩ prog_6_method_24_code 3 (some .int) ∈ WALL := hw_wi 588 rfl rfl
set_option maxRecDepth 100000 in
theorem wi_589 : Cond.methodLink "CollectedGroupModel" 91 ⟨"CollectedGroupModel", "bracket", "(II)I"⟩ ∈ WALL := hw_wi 589 rfl rfl
set_option maxRecDepth 100000 in
theorem wi_591 : Cond.instanceMethod ⟨"CollectedGroupModel", "bracket", "(II)I"⟩ ∈ WALL := hw_wi 591 rfl rfl
set_option maxRecDepth 100000 in
theorem wi_592 : Cond.code ⟨"CollectedGroupModel", "bracket", "(II)I"⟩ prog_6_method_22_code 3 (some .int) ∈ WALL := hw_wi 592 rfl rfl
set_option maxRecDepth 100000 in
theorem wi_593 : Cond.methodLink "CollectedGroupLaw" 82 ⟨"CollectedGroupModel", "clear", "(I)I"⟩ ∈ WALL := hw_wi 593 rfl rfl
set_option maxRecDepth 100000 in
theorem wi_594 : Cond.instanceMethod ⟨"CollectedGroupModel", "clear", "(I)I"⟩ ∈ WALL := hw_wi 594 rfl rfl
set_option maxRecDepth 100000 in
theorem wi_595 : Cond.selects "CollectedGroupModel" ⟨"CollectedGroupModel", "clear", "(I)I"⟩ ⟨"CollectedGroupModel", "clear", "(I)I"⟩ ∈ WALL := hw_wi 595 rfl rfl
set_option maxRecDepth 100000 in
theorem wi_596 : Cond.code ⟨"CollectedGroupModel", "clear", "(I)I"⟩ prog_6_method_30_code 3 (some .int) ∈ WALL := hw_wi 596 rfl rfl
set_option maxRecDepth 100000 in
theorem wi_597 : Cond.methodLink "CollectedGroupModel" 101 ⟨"CollectedGroupModel", "isPlace", "(I)Z"⟩ ∈ WALL := hw_wi 597 rfl rfl
set_option maxRecDepth 100000 in
theorem wi_599 : Cond.instanceMethod ⟨"CollectedGroupModel", "isPlace", "(I)Z"⟩ ∈ WALL := hw_wi 599 rfl rfl
set_option maxRecDepth 100000 in
theorem wi_600 : Cond.code ⟨"CollectedGroupModel", "isPlace", "(I)Z"⟩ prog_6_method_25_code 2 (some .boolean) ∈ WALL := hw_wi 600 rfl rfl
set_option maxRecDepth 100000 in
theorem wi_601 : Cond.methodLink "CollectedGroupLaw" 86 ⟨"CollectedGroupModel", "join", "(II)I"⟩ ∈ WALL := hw_wi 601 rfl rfl
set_option maxRecDepth 100000 in
theorem wi_602 : Cond.instanceMethod ⟨"CollectedGroupModel", "join", "(II)I"⟩ ∈ WALL := hw_wi 602 rfl rfl
set_option maxRecDepth 100000 in
theorem wi_603 : Cond.selects "CollectedGroupModel" ⟨"CollectedGroupModel", "join", "(II)I"⟩ ⟨"CollectedGroupModel", "join", "(II)I"⟩ ∈ WALL := hw_wi 603 rfl rfl
set_option maxRecDepth 100000 in
theorem wi_604 : Cond.code ⟨"CollectedGroupModel", "join", "(II)I"⟩ prog_6_method_31_code 3 (some .int) ∈ WALL := hw_wi 604 rfl rfl
set_option maxRecDepth 100000 in
theorem wi_605 : Cond.methodLink "CollectedGroupModel" 104 ⟨"CollectedGroupModel", "take", "(I)V"⟩ ∈ WALL := hw_wi 605 rfl rfl
set_option maxRecDepth 100000 in
theorem wi_607 : Cond.instanceMethod ⟨"CollectedGroupModel", "take", "(I)V"⟩ ∈ WALL := hw_wi 607 rfl rfl
set_option maxRecDepth 100000 in
theorem wi_608 : Cond.code ⟨"CollectedGroupModel", "take", "(I)V"⟩ prog_6_method_28_code 3 none ∈ WALL := hw_wi 608 rfl rfl
set_option maxRecDepth 100000 in
theorem wi_609 : Cond.methodLink "CollectedGroupModel" 107 ⟨"CollectedGroupModel", "put", "(I)I"⟩ ∈ WALL := hw_wi 609 rfl rfl
set_option maxRecDepth 100000 in
theorem wi_611 : Cond.instanceMethod ⟨"CollectedGroupModel", "put", "(I)I"⟩ ∈ WALL := hw_wi 611 rfl rfl
set_option maxRecDepth 100000 in
theorem wi_612 : Cond.code ⟨"CollectedGroupModel", "put", "(I)I"⟩ prog_6_method_29_code 3 (some .int) ∈ WALL := hw_wi 612 rfl rfl
set_option maxRecDepth 100000 in
theorem wi_613 : Cond.methodLink "CollectedGroupModel" 98 ⟨"CollectedGroupModel", "close", "()V"⟩ ∈ WALL := hw_wi 613 rfl rfl
set_option maxRecDepth 100000 in
theorem wi_615 : Cond.instanceMethod ⟨"CollectedGroupModel", "close", "()V"⟩ ∈ WALL := hw_wi 615 rfl rfl
set_option maxRecDepth 100000 in
theorem wi_616 : Cond.code ⟨"CollectedGroupModel", "close", "()V"⟩ prog_6_method_27_code 4 none ∈ WALL := hw_wi 616 rfl rfl
set_option maxRecDepth 100000 in
theorem wi_617 : Cond.methodLink "CollectedGroupModel" 94 ⟨"CollectedGroupModel", "worked", "()I"⟩ ∈ WALL := hw_wi 617 rfl rfl
set_option maxRecDepth 100000 in
theorem wi_619 : Cond.instanceMethod ⟨"CollectedGroupModel", "worked", "()I"⟩ ∈ WALL := hw_wi 619 rfl rfl
set_option maxRecDepth 100000 in
theorem wi_620 : Cond.code ⟨"CollectedGroupModel", "worked", "()I"⟩ prog_6_method_26_code 3 (some .int) ∈ WALL := hw_wi 620 rfl rfl
set_option maxRecDepth 100000 in
theorem wi_621 : Cond.methodLink "CollectedGroupLaw" 90 ⟨"CollectedGroupModel", "spread", "(I)I"⟩ ∈ WALL := hw_wi 621 rfl rfl
set_option maxRecDepth 100000 in
theorem wi_622 : Cond.instanceMethod ⟨"CollectedGroupModel", "spread", "(I)I"⟩ ∈ WALL := hw_wi 622 rfl rfl
set_option maxRecDepth 100000 in
theorem wi_623 : Cond.selects "CollectedGroupModel" ⟨"CollectedGroupModel", "spread", "(I)I"⟩ ⟨"CollectedGroupModel", "spread", "(I)I"⟩ ∈ WALL := hw_wi 623 rfl rfl
set_option maxRecDepth 100000 in
theorem wi_624 : Cond.code ⟨"CollectedGroupModel", "spread", "(I)I"⟩ prog_6_method_32_code 4 (some .int) ∈ WALL := hw_wi 624 rfl rfl
set_option maxRecDepth 100000 in
theorem wi_625 : Cond.methodLink "CollectedGroupLaw" 95 ⟨"CollectedGroupModel", "commute", "(III)I"⟩ ∈ WALL := hw_wi 625 rfl rfl
set_option maxRecDepth 100000 in
theorem wi_626 : Cond.instanceMethod ⟨"CollectedGroupModel", "commute", "(III)I"⟩ ∈ WALL := hw_wi 626 rfl rfl
set_option maxRecDepth 100000 in
theorem wi_627 : Cond.selects "CollectedGroupModel" ⟨"CollectedGroupModel", "commute", "(III)I"⟩ ⟨"CollectedGroupModel", "commute", "(III)I"⟩ ∈ WALL := hw_wi 627 rfl rfl
set_option maxRecDepth 100000 in
theorem wi_628 : Cond.code ⟨"CollectedGroupModel", "commute", "(III)I"⟩ prog_6_method_33_code 6 (some .int) ∈ WALL := hw_wi 628 rfl rfl
set_option maxRecDepth 100000 in
theorem wi_629 : Cond.methodLink "CollectedGroupLaw" 99 ⟨"CollectedGroupModel", "count", "(I)I"⟩ ∈ WALL := hw_wi 629 rfl rfl
set_option maxRecDepth 100000 in
theorem wi_630 : Cond.instanceMethod ⟨"CollectedGroupModel", "count", "(I)I"⟩ ∈ WALL := hw_wi 630 rfl rfl
set_option maxRecDepth 100000 in
theorem wi_631 : Cond.selects "CollectedGroupModel" ⟨"CollectedGroupModel", "count", "(I)I"⟩ ⟨"CollectedGroupModel", "count", "(I)I"⟩ ∈ WALL := hw_wi 631 rfl rfl
set_option maxRecDepth 100000 in
theorem wi_632 : Cond.code ⟨"CollectedGroupModel", "count", "(I)I"⟩ prog_6_method_34_code 2 (some .int) ∈ WALL := hw_wi 632 rfl rfl
set_option maxRecDepth 100000 in
theorem wi_633 : Cond.methodLink "CollectedGroupLaw" 103 ⟨"CollectedGroupModel", "has", "(II)Z"⟩ ∈ WALL := hw_wi 633 rfl rfl
set_option maxRecDepth 100000 in
theorem wi_634 : Cond.instanceMethod ⟨"CollectedGroupModel", "has", "(II)Z"⟩ ∈ WALL := hw_wi 634 rfl rfl
set_option maxRecDepth 100000 in
theorem wi_635 : Cond.selects "CollectedGroupModel" ⟨"CollectedGroupModel", "has", "(II)Z"⟩ ⟨"CollectedGroupModel", "has", "(II)Z"⟩ ∈ WALL := hw_wi 635 rfl rfl
set_option maxRecDepth 100000 in
theorem wi_636 : Cond.code ⟨"CollectedGroupModel", "has", "(II)Z"⟩ prog_6_method_35_code 3 (some .boolean) ∈ WALL := hw_wi 636 rfl rfl
set_option maxRecDepth 100000 in
theorem wi_637 : Cond.methodLink "CollectedGroupLaw" 107 ⟨"CollectedGroupModel", "derived", "(I)I"⟩ ∈ WALL := hw_wi 637 rfl rfl
set_option maxRecDepth 100000 in
theorem wi_638 : Cond.instanceMethod ⟨"CollectedGroupModel", "derived", "(I)I"⟩ ∈ WALL := hw_wi 638 rfl rfl
set_option maxRecDepth 100000 in
theorem wi_639 : Cond.selects "CollectedGroupModel" ⟨"CollectedGroupModel", "derived", "(I)I"⟩ ⟨"CollectedGroupModel", "derived", "(I)I"⟩ ∈ WALL := hw_wi 639 rfl rfl
set_option maxRecDepth 100000 in
theorem wi_640 : Cond.code ⟨"CollectedGroupModel", "derived", "(I)I"⟩ prog_6_method_37_code 2 (some .int) ∈ WALL := hw_wi 640 rfl rfl
set_option maxRecDepth 100000 in
theorem wi_641 : Cond.methodLink "CollectedGroupModel" 110 ⟨"CollectedGroupModel", "series", "(IZ)I"⟩ ∈ WALL := hw_wi 641 rfl rfl
set_option maxRecDepth 100000 in
theorem wi_643 : Cond.instanceMethod ⟨"CollectedGroupModel", "series", "(IZ)I"⟩ ∈ WALL := hw_wi 643 rfl rfl
set_option maxRecDepth 100000 in
theorem wi_644 : Cond.code ⟨"CollectedGroupModel", "series", "(IZ)I"⟩ prog_6_method_36_code 6 (some .int) ∈ WALL := hw_wi 644 rfl rfl
set_option maxRecDepth 100000 in
theorem wi_645 : Cond.methodLink "CollectedGroupLaw" 111 ⟨"CollectedGroupModel", "lower", "(I)I"⟩ ∈ WALL := hw_wi 645 rfl rfl
set_option maxRecDepth 100000 in
theorem wi_646 : Cond.instanceMethod ⟨"CollectedGroupModel", "lower", "(I)I"⟩ ∈ WALL := hw_wi 646 rfl rfl
set_option maxRecDepth 100000 in
theorem wi_647 : Cond.selects "CollectedGroupModel" ⟨"CollectedGroupModel", "lower", "(I)I"⟩ ⟨"CollectedGroupModel", "lower", "(I)I"⟩ ∈ WALL := hw_wi 647 rfl rfl
set_option maxRecDepth 100000 in
theorem wi_648 : Cond.code ⟨"CollectedGroupModel", "lower", "(I)I"⟩ prog_6_method_38_code 2 (some .int) ∈ WALL := hw_wi 648 rfl rfl
set_option maxRecDepth 100000 in
theorem wi_649 : Cond.methodLink "CollectedGroupLaw" 115 ⟨"CollectedGroupModel", "centre", "()I"⟩ ∈ WALL := hw_wi 649 rfl rfl
set_option maxRecDepth 100000 in
theorem wi_650 : Cond.instanceMethod ⟨"CollectedGroupModel", "centre", "()I"⟩ ∈ WALL := hw_wi 650 rfl rfl
set_option maxRecDepth 100000 in
theorem wi_651 : Cond.selects "CollectedGroupModel" ⟨"CollectedGroupModel", "centre", "()I"⟩ ⟨"CollectedGroupModel", "centre", "()I"⟩ ∈ WALL := hw_wi 651 rfl rfl
set_option maxRecDepth 100000 in
theorem wi_652 : Cond.code ⟨"CollectedGroupModel", "centre", "()I"⟩ prog_6_method_41_code 5 (some .int) ∈ WALL := hw_wi 652 rfl rfl
set_option maxRecDepth 100000 in
theorem wi_653 : Cond.methodLink "CollectedGroupLaw" 119 ⟨"CollectedGroupModel", "classes", "()I"⟩ ∈ WALL := hw_wi 653 rfl rfl
set_option maxRecDepth 100000 in
theorem wi_654 : Cond.instanceMethod ⟨"CollectedGroupModel", "classes", "()I"⟩ ∈ WALL := hw_wi 654 rfl rfl
set_option maxRecDepth 100000 in
theorem wi_655 : Cond.selects "CollectedGroupModel" ⟨"CollectedGroupModel", "classes", "()I"⟩ ⟨"CollectedGroupModel", "classes", "()I"⟩ ∈ WALL := hw_wi 655 rfl rfl
set_option maxRecDepth 100000 in
theorem wi_656 : Cond.code ⟨"CollectedGroupModel", "classes", "()I"⟩ prog_6_method_42_code 3 (some .int) ∈ WALL := hw_wi 656 rfl rfl
set_option maxRecDepth 100000 in
theorem wi_657 : Cond.methodLink "CollectedGroupModel" 114 ⟨"CollectedGroupModel", "least", "(I)I"⟩ ∈ WALL := hw_wi 657 rfl rfl
set_option maxRecDepth 100000 in
theorem wi_659 : Cond.instanceMethod ⟨"CollectedGroupModel", "least", "(I)I"⟩ ∈ WALL := hw_wi 659 rfl rfl
set_option maxRecDepth 100000 in
theorem wi_660 : Cond.code ⟨"CollectedGroupModel", "least", "(I)I"⟩ prog_6_method_39_code 5 (some .int) ∈ WALL := hw_wi 660 rfl rfl
set_option maxRecDepth 100000 in
theorem wi_661 : Cond.methodLink "CollectedGroupLaw" 123 ⟨"CollectedGroupModel", "kin", "(I)I"⟩ ∈ WALL := hw_wi 661 rfl rfl
set_option maxRecDepth 100000 in
theorem wi_662 : Cond.instanceMethod ⟨"CollectedGroupModel", "kin", "(I)I"⟩ ∈ WALL := hw_wi 662 rfl rfl
set_option maxRecDepth 100000 in
theorem wi_663 : Cond.selects "CollectedGroupModel" ⟨"CollectedGroupModel", "kin", "(I)I"⟩ ⟨"CollectedGroupModel", "kin", "(I)I"⟩ ∈ WALL := hw_wi 663 rfl rfl
set_option maxRecDepth 100000 in
theorem wi_664 : Cond.code ⟨"CollectedGroupModel", "kin", "(I)I"⟩ prog_6_method_43_code 2 (some .int) ∈ WALL := hw_wi 664 rfl rfl
set_option maxRecDepth 100000 in
theorem wi_665 : Cond.methodLink "CollectedGroupModel" 117 ⟨"CollectedGroupModel", "relatives", "(I)I"⟩ ∈ WALL := hw_wi 665 rfl rfl
set_option maxRecDepth 100000 in
theorem wi_667 : Cond.instanceMethod ⟨"CollectedGroupModel", "relatives", "(I)I"⟩ ∈ WALL := hw_wi 667 rfl rfl
set_option maxRecDepth 100000 in
theorem wi_668 : Cond.code ⟨"CollectedGroupModel", "relatives", "(I)I"⟩ prog_6_method_40_code 3 (some .int) ∈ WALL := hw_wi 668 rfl rfl
set_option maxRecDepth 100000 in
theorem wi_669 : Cond.methodLink "CollectedGroupLaw" 127 ⟨"CollectedGroupModel", "head", "(I)I"⟩ ∈ WALL := hw_wi 669 rfl rfl
set_option maxRecDepth 100000 in
theorem wi_670 : Cond.instanceMethod ⟨"CollectedGroupModel", "head", "(I)I"⟩ ∈ WALL := hw_wi 670 rfl rfl
set_option maxRecDepth 100000 in
theorem wi_671 : Cond.selects "CollectedGroupModel" ⟨"CollectedGroupModel", "head", "(I)I"⟩ ⟨"CollectedGroupModel", "head", "(I)I"⟩ ∈ WALL := hw_wi 671 rfl rfl
set_option maxRecDepth 100000 in
theorem wi_672 : Cond.code ⟨"CollectedGroupModel", "head", "(I)I"⟩ prog_6_method_44_code 2 (some .int) ∈ WALL := hw_wi 672 rfl rfl
