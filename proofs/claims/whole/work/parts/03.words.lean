theorem q_0 : Cond.initialized "LetterSumsLaw" ∈ zBig := zb_tab (i := 0) (by decide +kernel) rfl
theorem q_1 : Cond.initialized "LetterSums" ∈ zBig := zb_tab (i := 1) (by decide +kernel) rfl
theorem q_2 : Cond.initialized "LetterSums$Answers" ∈ zBig := zb_tab (i := 2) (by decide +kernel) rfl
theorem q_3 : Cond.initialized "java/lang/Math" ∈ zBig := zb_tab (i := 3) (by decide +kernel) rfl
theorem q_4 : Cond.initialized "LetterSums$Grammar" ∈ zBig := zb_tab (i := 4) (by decide +kernel) rfl
theorem q_5 : Cond.initialized "LetterSums$Sum" ∈ zBig := zb_tab (i := 5) (by decide +kernel) rfl
theorem q_6 : Cond.initialized "java/util/Arrays" ∈ zBig := zb_tab (i := 6) (by decide +kernel) rfl
theorem q_7 : Cond.initialized "LetterSums$Search" ∈ zBig := zb_tab (i := 7) (by decide +kernel) rfl
theorem q_8 : Cond.initialized "LetterSums$Weights" ∈ zBig := zb_tab (i := 8) (by decide +kernel) rfl
theorem q_9 : Cond.initialized "LetterSumsModel" ∈ zBig := zb_tab (i := 9) (by decide +kernel) rfl
theorem q_10 : Cond.initialized "java/lang/Integer" ∈ zBig := zb_tab (i := 10) (by decide +kernel) rfl
theorem q_11 : Cond.classLink "LetterSumsLaw" 7 "LetterSums" ∈ zBig := zb_tab (i := 11) (by decide +kernel) rfl
theorem q_12 : Cond.instantiable "LetterSums" 9 ∈ zBig := zb_tab (i := 12) (by decide +kernel) rfl
theorem q_13 : Cond.methodLink "LetterSumsLaw" 15 ⟨"LetterSums", "<init>", "(I)V"⟩ ∈ zBig := zb_tab (i := 13) (by decide +kernel) rfl
theorem q_14 : Cond.instanceMethod ⟨"LetterSums", "<init>", "(I)V"⟩ ∈ zBig := zb_tab (i := 14) (by decide +kernel) rfl
theorem q_15 : Cond.code ⟨"LetterSums", "<init>", "(I)V"⟩ prog_1_method_1_code 3 (Option.none : Option Jvm.ClassFile.FieldType) ∈ zBig := zb_tab (i := 15) (by decide +kernel) rfl
theorem q_16 : Cond.methodLink "LetterSums" 1 ⟨"java/lang/Object", "<init>", "()V"⟩ ∈ zBig := zb_tab (i := 16) (by decide +kernel) rfl
theorem q_17 : Cond.instanceMethod ⟨"java/lang/Object", "<init>", "()V"⟩ ∈ zBig := zb_tab (i := 17) (by decide +kernel) rfl
theorem q_18 : Cond.code ⟨"java/lang/Object", "<init>", "()V"⟩ object_method_1_code 1 (Option.none : Option Jvm.ClassFile.FieldType) ∈ zBig := zb_tab (i := 18) (by decide +kernel) rfl
theorem q_19 : Cond.classLink "LetterSums" 17 "LetterSums$Answers" ∈ zBig := zb_tab (i := 19) (by decide +kernel) rfl
theorem q_20 : Cond.instantiable "LetterSums$Answers" 3 ∈ zBig := zb_tab (i := 20) (by decide +kernel) rfl
theorem q_22 : Cond.instanceMethod ⟨"LetterSums$Answers", "<init>", "()V"⟩ ∈ zBig := zb_tab (i := 22) (by decide +kernel) rfl
theorem q_23 : Cond.code ⟨"LetterSums$Answers", "<init>", "()V"⟩ prog_2_method_1_code 1 (Option.none : Option Jvm.ClassFile.FieldType) ∈ zBig := zb_tab (i := 23) (by decide +kernel) rfl
theorem q_24 : Cond.methodLink "LetterSums$Answers" 3 ⟨"java/lang/Object", "<init>", "()V"⟩ ∈ zBig := zb_tab (i := 24) (by decide +kernel) rfl
theorem q_25 : Cond.fieldLink "LetterSums$Answers" 9 "LetterSums$Answers" "packed" "[I" ∈ zBig := zb_tab (i := 25) (by decide +kernel) rfl
theorem q_26 : Cond.fieldLink "LetterSums$Answers" 15 "LetterSums$Answers" "count" "I" ∈ zBig := zb_tab (i := 26) (by decide +kernel) rfl
theorem q_28 : Cond.fieldLink "LetterSums$Answers" 19 "LetterSums$Answers" "known" "Z" ∈ zBig := zb_tab (i := 28) (by decide +kernel) rfl
theorem q_30 : Cond.laysFinal "LetterSums$Answers" "LetterSums$Answers" "packed" "[I" ∈ zBig := zb_tab (i := 30) (by decide +kernel) rfl
theorem q_31 : Cond.soleField "LetterSums$Answers" "packed" ∈ zBig := zb_tab (i := 31) (by decide +kernel) rfl
theorem q_32 : Cond.lays "LetterSums$Answers" "LetterSums$Answers" "count" "I" ∈ zBig := zb_tab (i := 32) (by decide +kernel) rfl
theorem q_33 : Cond.soleField "LetterSums$Answers" "count" ∈ zBig := zb_tab (i := 33) (by decide +kernel) rfl
theorem q_34 : Cond.lays "LetterSums$Answers" "LetterSums$Answers" "known" "Z" ∈ zBig := zb_tab (i := 34) (by decide +kernel) rfl
theorem q_35 : Cond.soleField "LetterSums$Answers" "known" ∈ zBig := zb_tab (i := 35) (by decide +kernel) rfl
theorem q_36 : Cond.superclass "LetterSums$Answers" "java/lang/Object" ∈ zBig := zb_tab (i := 36) (by decide +kernel) rfl
theorem q_37 : Cond.arrayClass Jvm.ClassFile.FieldType.int ∈ zBig := zb_tab (i := 37) (by decide +kernel) rfl
theorem q_38 : Cond.methodLink "LetterSums" 34 ⟨"java/lang/Math", "min", "(II)I"⟩ ∈ zBig := zb_tab (i := 38) (by decide +kernel) rfl
theorem q_39 : Cond.static ⟨"java/lang/Math", "min", "(II)I"⟩ ∈ zBig := zb_tab (i := 39) (by decide +kernel) rfl
theorem q_40 : Cond.code ⟨"java/lang/Math", "min", "(II)I"⟩ prog_10_method_69_code 2 (Option.some Jvm.ClassFile.FieldType.int) ∈ zBig := zb_tab (i := 40) (by decide +kernel) rfl
theorem q_41 : Cond.methodLink "LetterSums" 40 ⟨"java/lang/Math", "max", "(II)I"⟩ ∈ zBig := zb_tab (i := 41) (by decide +kernel) rfl
theorem q_42 : Cond.static ⟨"java/lang/Math", "max", "(II)I"⟩ ∈ zBig := zb_tab (i := 42) (by decide +kernel) rfl
theorem q_43 : Cond.code ⟨"java/lang/Math", "max", "(II)I"⟩ prog_10_method_65_code 2 (Option.some Jvm.ClassFile.FieldType.int) ∈ zBig := zb_tab (i := 43) (by decide +kernel) rfl
theorem q_44 : Cond.classLink "LetterSums" 43 "LetterSums$Grammar" ∈ zBig := zb_tab (i := 44) (by decide +kernel) rfl
theorem q_45 : Cond.instantiable "LetterSums$Grammar" 5 ∈ zBig := zb_tab (i := 45) (by decide +kernel) rfl
theorem q_46 : Cond.methodLink "LetterSums" 45 ⟨"LetterSums$Grammar", "<init>", "(I)V"⟩ ∈ zBig := zb_tab (i := 46) (by decide +kernel) rfl
theorem q_47 : Cond.instanceMethod ⟨"LetterSums$Grammar", "<init>", "(I)V"⟩ ∈ zBig := zb_tab (i := 47) (by decide +kernel) rfl
theorem q_48 : Cond.code ⟨"LetterSums$Grammar", "<init>", "(I)V"⟩ prog_3_method_1_code 2 (Option.none : Option Jvm.ClassFile.FieldType) ∈ zBig := zb_tab (i := 48) (by decide +kernel) rfl
theorem q_49 : Cond.methodLink "LetterSums$Grammar" 3 ⟨"java/lang/Object", "<init>", "()V"⟩ ∈ zBig := zb_tab (i := 49) (by decide +kernel) rfl
theorem q_50 : Cond.fieldLink "LetterSums$Grammar" 9 "LetterSums$Grammar" "base" "I" ∈ zBig := zb_tab (i := 50) (by decide +kernel) rfl
theorem q_51 : Cond.fieldLink "LetterSums$Grammar" 15 "LetterSums$Grammar" "words" "I" ∈ zBig := zb_tab (i := 51) (by decide +kernel) rfl
theorem q_52 : Cond.fieldLink "LetterSums$Grammar" 18 "LetterSums$Grammar" "signs" "I" ∈ zBig := zb_tab (i := 52) (by decide +kernel) rfl
theorem q_53 : Cond.fieldLink "LetterSums$Grammar" 21 "LetterSums$Grammar" "seen" "I" ∈ zBig := zb_tab (i := 53) (by decide +kernel) rfl
theorem q_54 : Cond.fieldLink "LetterSums$Grammar" 24 "LetterSums$Grammar" "behind" "Z" ∈ zBig := zb_tab (i := 54) (by decide +kernel) rfl
theorem q_55 : Cond.laysFinal "LetterSums$Grammar" "LetterSums$Grammar" "base" "I" ∈ zBig := zb_tab (i := 55) (by decide +kernel) rfl
theorem q_56 : Cond.soleField "LetterSums$Grammar" "base" ∈ zBig := zb_tab (i := 56) (by decide +kernel) rfl
theorem q_57 : Cond.lays "LetterSums$Grammar" "LetterSums$Grammar" "words" "I" ∈ zBig := zb_tab (i := 57) (by decide +kernel) rfl
theorem q_58 : Cond.soleField "LetterSums$Grammar" "words" ∈ zBig := zb_tab (i := 58) (by decide +kernel) rfl
theorem q_59 : Cond.lays "LetterSums$Grammar" "LetterSums$Grammar" "signs" "I" ∈ zBig := zb_tab (i := 59) (by decide +kernel) rfl
theorem q_60 : Cond.soleField "LetterSums$Grammar" "signs" ∈ zBig := zb_tab (i := 60) (by decide +kernel) rfl
theorem q_61 : Cond.lays "LetterSums$Grammar" "LetterSums$Grammar" "seen" "I" ∈ zBig := zb_tab (i := 61) (by decide +kernel) rfl
theorem q_62 : Cond.soleField "LetterSums$Grammar" "seen" ∈ zBig := zb_tab (i := 62) (by decide +kernel) rfl
theorem q_63 : Cond.lays "LetterSums$Grammar" "LetterSums$Grammar" "behind" "Z" ∈ zBig := zb_tab (i := 63) (by decide +kernel) rfl
theorem q_64 : Cond.soleField "LetterSums$Grammar" "behind" ∈ zBig := zb_tab (i := 64) (by decide +kernel) rfl
theorem q_65 : Cond.superclass "LetterSums$Grammar" "java/lang/Object" ∈ zBig := zb_tab (i := 65) (by decide +kernel) rfl
theorem q_66 : Cond.classLink "LetterSums" 52 "LetterSums$Sum" ∈ zBig := zb_tab (i := 66) (by decide +kernel) rfl
theorem q_67 : Cond.instantiable "LetterSums$Sum" 10 ∈ zBig := zb_tab (i := 67) (by decide +kernel) rfl
theorem q_68 : Cond.methodLink "LetterSums" 54 ⟨"LetterSums$Sum", "<init>", "(I)V"⟩ ∈ zBig := zb_tab (i := 68) (by decide +kernel) rfl
theorem q_69 : Cond.instanceMethod ⟨"LetterSums$Sum", "<init>", "(I)V"⟩ ∈ zBig := zb_tab (i := 69) (by decide +kernel) rfl
theorem q_70 : Cond.code ⟨"LetterSums$Sum", "<init>", "(I)V"⟩ prog_5_method_1_code 2 (Option.none : Option Jvm.ClassFile.FieldType) ∈ zBig := zb_tab (i := 70) (by decide +kernel) rfl
theorem q_71 : Cond.methodLink "LetterSums$Sum" 3 ⟨"java/lang/Object", "<init>", "()V"⟩ ∈ zBig := zb_tab (i := 71) (by decide +kernel) rfl
theorem q_72 : Cond.methodLink "LetterSums$Sum" 43 ⟨"java/util/Arrays", "fill", "([II)V"⟩ ∈ zBig := zb_tab (i := 72) (by decide +kernel) rfl
theorem q_73 : Cond.static ⟨"java/util/Arrays", "fill", "([II)V"⟩ ∈ zBig := zb_tab (i := 73) (by decide +kernel) rfl
theorem q_74 : Cond.code ⟨"java/util/Arrays", "fill", "([II)V"⟩ prog_11_method_103_code 4 (Option.none : Option Jvm.ClassFile.FieldType) ∈ zBig := zb_tab (i := 74) (by decide +kernel) rfl
theorem q_75 : Cond.fieldLink "LetterSums$Sum" 40 "LetterSums$Sum" "base" "I" ∈ zBig := zb_tab (i := 75) (by decide +kernel) rfl
theorem q_76 : Cond.fieldLink "LetterSums$Sum" 9 "LetterSums$Sum" "bytes" "[I" ∈ zBig := zb_tab (i := 76) (by decide +kernel) rfl
theorem q_77 : Cond.fieldLink "LetterSums$Sum" 15 "LetterSums$Sum" "length" "I" ∈ zBig := zb_tab (i := 77) (by decide +kernel) rfl
theorem q_78 : Cond.fieldLink "LetterSums$Sum" 19 "LetterSums$Sum" "equalsPlace" "I" ∈ zBig := zb_tab (i := 78) (by decide +kernel) rfl
theorem q_79 : Cond.fieldLink "LetterSums$Sum" 22 "LetterSums$Sum" "starts" "[I" ∈ zBig := zb_tab (i := 79) (by decide +kernel) rfl
theorem q_81 : Cond.fieldLink "LetterSums$Sum" 25 "LetterSums$Sum" "ends" "[I" ∈ zBig := zb_tab (i := 81) (by decide +kernel) rfl
theorem q_83 : Cond.fieldLink "LetterSums$Sum" 28 "LetterSums$Sum" "words" "I" ∈ zBig := zb_tab (i := 83) (by decide +kernel) rfl
theorem q_87 : Cond.fieldLink "LetterSums$Sum" 31 "LetterSums$Sum" "byAlphabet" "[I" ∈ zBig := zb_tab (i := 87) (by decide +kernel) rfl
theorem q_88 : Cond.fieldLink "LetterSums$Sum" 34 "LetterSums$Sum" "slots" "[I" ∈ zBig := zb_tab (i := 88) (by decide +kernel) rfl
theorem q_89 : Cond.fieldLink "LetterSums$Sum" 37 "LetterSums$Sum" "letterCount" "I" ∈ zBig := zb_tab (i := 89) (by decide +kernel) rfl
theorem q_92 : Cond.laysFinal "LetterSums$Sum" "LetterSums$Sum" "base" "I" ∈ zBig := zb_tab (i := 92) (by decide +kernel) rfl
theorem q_93 : Cond.soleField "LetterSums$Sum" "base" ∈ zBig := zb_tab (i := 93) (by decide +kernel) rfl
theorem q_94 : Cond.laysFinal "LetterSums$Sum" "LetterSums$Sum" "bytes" "[I" ∈ zBig := zb_tab (i := 94) (by decide +kernel) rfl
theorem q_95 : Cond.soleField "LetterSums$Sum" "bytes" ∈ zBig := zb_tab (i := 95) (by decide +kernel) rfl
theorem q_96 : Cond.lays "LetterSums$Sum" "LetterSums$Sum" "length" "I" ∈ zBig := zb_tab (i := 96) (by decide +kernel) rfl
theorem q_97 : Cond.soleField "LetterSums$Sum" "length" ∈ zBig := zb_tab (i := 97) (by decide +kernel) rfl
theorem q_98 : Cond.lays "LetterSums$Sum" "LetterSums$Sum" "equalsPlace" "I" ∈ zBig := zb_tab (i := 98) (by decide +kernel) rfl
theorem q_99 : Cond.soleField "LetterSums$Sum" "equalsPlace" ∈ zBig := zb_tab (i := 99) (by decide +kernel) rfl
theorem q_100 : Cond.laysFinal "LetterSums$Sum" "LetterSums$Sum" "starts" "[I" ∈ zBig := zb_tab (i := 100) (by decide +kernel) rfl
theorem q_101 : Cond.soleField "LetterSums$Sum" "starts" ∈ zBig := zb_tab (i := 101) (by decide +kernel) rfl
theorem q_102 : Cond.laysFinal "LetterSums$Sum" "LetterSums$Sum" "ends" "[I" ∈ zBig := zb_tab (i := 102) (by decide +kernel) rfl
theorem q_103 : Cond.soleField "LetterSums$Sum" "ends" ∈ zBig := zb_tab (i := 103) (by decide +kernel) rfl
theorem q_104 : Cond.lays "LetterSums$Sum" "LetterSums$Sum" "words" "I" ∈ zBig := zb_tab (i := 104) (by decide +kernel) rfl
theorem q_105 : Cond.soleField "LetterSums$Sum" "words" ∈ zBig := zb_tab (i := 105) (by decide +kernel) rfl
theorem q_106 : Cond.laysFinal "LetterSums$Sum" "LetterSums$Sum" "byAlphabet" "[I" ∈ zBig := zb_tab (i := 106) (by decide +kernel) rfl
theorem q_107 : Cond.soleField "LetterSums$Sum" "byAlphabet" ∈ zBig := zb_tab (i := 107) (by decide +kernel) rfl
theorem q_108 : Cond.laysFinal "LetterSums$Sum" "LetterSums$Sum" "slots" "[I" ∈ zBig := zb_tab (i := 108) (by decide +kernel) rfl
theorem q_109 : Cond.soleField "LetterSums$Sum" "slots" ∈ zBig := zb_tab (i := 109) (by decide +kernel) rfl
theorem q_110 : Cond.lays "LetterSums$Sum" "LetterSums$Sum" "letterCount" "I" ∈ zBig := zb_tab (i := 110) (by decide +kernel) rfl
theorem q_111 : Cond.soleField "LetterSums$Sum" "letterCount" ∈ zBig := zb_tab (i := 111) (by decide +kernel) rfl
theorem q_112 : Cond.superclass "LetterSums$Sum" "java/lang/Object" ∈ zBig := zb_tab (i := 112) (by decide +kernel) rfl
theorem q_113 : Cond.classLink "LetterSums" 59 "LetterSums$Search" ∈ zBig := zb_tab (i := 113) (by decide +kernel) rfl
theorem q_114 : Cond.instantiable "LetterSums$Search" 11 ∈ zBig := zb_tab (i := 114) (by decide +kernel) rfl
theorem q_115 : Cond.methodLink "LetterSums" 61 ⟨"LetterSums$Search", "<init>", "(I)V"⟩ ∈ zBig := zb_tab (i := 115) (by decide +kernel) rfl
theorem q_116 : Cond.instanceMethod ⟨"LetterSums$Search", "<init>", "(I)V"⟩ ∈ zBig := zb_tab (i := 116) (by decide +kernel) rfl
theorem q_117 : Cond.code ⟨"LetterSums$Search", "<init>", "(I)V"⟩ prog_4_method_1_code 2 (Option.none : Option Jvm.ClassFile.FieldType) ∈ zBig := zb_tab (i := 117) (by decide +kernel) rfl
theorem q_118 : Cond.methodLink "LetterSums$Search" 3 ⟨"java/lang/Object", "<init>", "()V"⟩ ∈ zBig := zb_tab (i := 118) (by decide +kernel) rfl
theorem q_119 : Cond.classLink "LetterSums$Search" 44 "LetterSums$Weights" ∈ zBig := zb_tab (i := 119) (by decide +kernel) rfl
theorem q_120 : Cond.instantiable "LetterSums$Weights" 5 ∈ zBig := zb_tab (i := 120) (by decide +kernel) rfl
theorem q_121 : Cond.methodLink "LetterSums$Search" 46 ⟨"LetterSums$Weights", "<init>", "(I)V"⟩ ∈ zBig := zb_tab (i := 121) (by decide +kernel) rfl
theorem q_122 : Cond.instanceMethod ⟨"LetterSums$Weights", "<init>", "(I)V"⟩ ∈ zBig := zb_tab (i := 122) (by decide +kernel) rfl
theorem q_123 : Cond.code ⟨"LetterSums$Weights", "<init>", "(I)V"⟩ prog_6_method_1_code 2 (Option.none : Option Jvm.ClassFile.FieldType) ∈ zBig := zb_tab (i := 123) (by decide +kernel) rfl
theorem q_124 : Cond.methodLink "LetterSums$Weights" 3 ⟨"java/lang/Object", "<init>", "()V"⟩ ∈ zBig := zb_tab (i := 124) (by decide +kernel) rfl
theorem q_125 : Cond.fieldLink "LetterSums$Weights" 26 "LetterSums$Weights" "base" "I" ∈ zBig := zb_tab (i := 125) (by decide +kernel) rfl
theorem q_126 : Cond.fieldLink "LetterSums$Weights" 9 "LetterSums$Weights" "ofSlot" "[I" ∈ zBig := zb_tab (i := 126) (by decide +kernel) rfl
theorem q_128 : Cond.fieldLink "LetterSums$Weights" 15 "LetterSums$Weights" "ofDigits" "I" ∈ zBig := zb_tab (i := 128) (by decide +kernel) rfl
theorem q_130 : Cond.fieldLink "LetterSums$Weights" 19 "LetterSums$Weights" "frontSlots" "I" ∈ zBig := zb_tab (i := 130) (by decide +kernel) rfl
theorem q_131 : Cond.fieldLink "LetterSums$Weights" 22 "LetterSums$Weights" "zeroInFront" "Z" ∈ zBig := zb_tab (i := 131) (by decide +kernel) rfl
theorem q_133 : Cond.laysFinal "LetterSums$Weights" "LetterSums$Weights" "base" "I" ∈ zBig := zb_tab (i := 133) (by decide +kernel) rfl
theorem q_134 : Cond.soleField "LetterSums$Weights" "base" ∈ zBig := zb_tab (i := 134) (by decide +kernel) rfl
theorem q_135 : Cond.laysFinal "LetterSums$Weights" "LetterSums$Weights" "ofSlot" "[I" ∈ zBig := zb_tab (i := 135) (by decide +kernel) rfl
theorem q_136 : Cond.soleField "LetterSums$Weights" "ofSlot" ∈ zBig := zb_tab (i := 136) (by decide +kernel) rfl
theorem q_137 : Cond.lays "LetterSums$Weights" "LetterSums$Weights" "ofDigits" "I" ∈ zBig := zb_tab (i := 137) (by decide +kernel) rfl
theorem q_138 : Cond.soleField "LetterSums$Weights" "ofDigits" ∈ zBig := zb_tab (i := 138) (by decide +kernel) rfl
theorem q_139 : Cond.lays "LetterSums$Weights" "LetterSums$Weights" "frontSlots" "I" ∈ zBig := zb_tab (i := 139) (by decide +kernel) rfl
theorem q_140 : Cond.soleField "LetterSums$Weights" "frontSlots" ∈ zBig := zb_tab (i := 140) (by decide +kernel) rfl
theorem q_141 : Cond.lays "LetterSums$Weights" "LetterSums$Weights" "zeroInFront" "Z" ∈ zBig := zb_tab (i := 141) (by decide +kernel) rfl
theorem q_142 : Cond.soleField "LetterSums$Weights" "zeroInFront" ∈ zBig := zb_tab (i := 142) (by decide +kernel) rfl
theorem q_143 : Cond.superclass "LetterSums$Weights" "java/lang/Object" ∈ zBig := zb_tab (i := 143) (by decide +kernel) rfl
theorem q_144 : Cond.fieldLink "LetterSums$Search" 41 "LetterSums$Search" "base" "I" ∈ zBig := zb_tab (i := 144) (by decide +kernel) rfl
theorem q_145 : Cond.fieldLink "LetterSums$Search" 49 "LetterSums$Search" "weights" "LLetterSums$Weights;" ∈ zBig := zb_tab (i := 145) (by decide +kernel) rfl
theorem q_146 : Cond.fieldLink "LetterSums$Search" 11 "LetterSums$Search" "waySum" "[I" ∈ zBig := zb_tab (i := 146) (by decide +kernel) rfl
theorem q_147 : Cond.fieldLink "LetterSums$Search" 15 "LetterSums$Search" "wayDigits" "[I" ∈ zBig := zb_tab (i := 147) (by decide +kernel) rfl
theorem q_148 : Cond.fieldLink "LetterSums$Search" 18 "LetterSums$Search" "wayUsed" "[I" ∈ zBig := zb_tab (i := 148) (by decide +kernel) rfl
theorem q_149 : Cond.fieldLink "LetterSums$Search" 21 "LetterSums$Search" "nextWay" "[I" ∈ zBig := zb_tab (i := 149) (by decide +kernel) rfl
theorem q_150 : Cond.fieldLink "LetterSums$Search" 24 "LetterSums$Search" "firstWay" "[I" ∈ zBig := zb_tab (i := 150) (by decide +kernel) rfl
theorem q_151 : Cond.fieldLink "LetterSums$Search" 27 "LetterSums$Search" "ways" "I" ∈ zBig := zb_tab (i := 151) (by decide +kernel) rfl
theorem q_152 : Cond.fieldLink "LetterSums$Search" 31 "LetterSums$Search" "letterCount" "I" ∈ zBig := zb_tab (i := 152) (by decide +kernel) rfl
theorem q_153 : Cond.fieldLink "LetterSums$Search" 34 "LetterSums$Search" "middle" "I" ∈ zBig := zb_tab (i := 153) (by decide +kernel) rfl
theorem q_154 : Cond.fieldLink "LetterSums$Search" 37 "LetterSums$Search" "barred" "Z" ∈ zBig := zb_tab (i := 154) (by decide +kernel) rfl
theorem q_155 : Cond.laysFinal "LetterSums$Search" "LetterSums$Search" "base" "I" ∈ zBig := zb_tab (i := 155) (by decide +kernel) rfl
theorem q_156 : Cond.soleField "LetterSums$Search" "base" ∈ zBig := zb_tab (i := 156) (by decide +kernel) rfl
theorem q_157 : Cond.laysFinal "LetterSums$Search" "LetterSums$Search" "weights" "LLetterSums$Weights;" ∈ zBig := zb_tab (i := 157) (by decide +kernel) rfl
theorem q_158 : Cond.soleField "LetterSums$Search" "weights" ∈ zBig := zb_tab (i := 158) (by decide +kernel) rfl
theorem q_159 : Cond.laysFinal "LetterSums$Search" "LetterSums$Search" "waySum" "[I" ∈ zBig := zb_tab (i := 159) (by decide +kernel) rfl
theorem q_160 : Cond.soleField "LetterSums$Search" "waySum" ∈ zBig := zb_tab (i := 160) (by decide +kernel) rfl
theorem q_161 : Cond.laysFinal "LetterSums$Search" "LetterSums$Search" "wayDigits" "[I" ∈ zBig := zb_tab (i := 161) (by decide +kernel) rfl
theorem q_162 : Cond.soleField "LetterSums$Search" "wayDigits" ∈ zBig := zb_tab (i := 162) (by decide +kernel) rfl
theorem q_163 : Cond.laysFinal "LetterSums$Search" "LetterSums$Search" "wayUsed" "[I" ∈ zBig := zb_tab (i := 163) (by decide +kernel) rfl
theorem q_164 : Cond.soleField "LetterSums$Search" "wayUsed" ∈ zBig := zb_tab (i := 164) (by decide +kernel) rfl
theorem q_165 : Cond.laysFinal "LetterSums$Search" "LetterSums$Search" "nextWay" "[I" ∈ zBig := zb_tab (i := 165) (by decide +kernel) rfl
theorem q_166 : Cond.soleField "LetterSums$Search" "nextWay" ∈ zBig := zb_tab (i := 166) (by decide +kernel) rfl
theorem q_167 : Cond.laysFinal "LetterSums$Search" "LetterSums$Search" "firstWay" "[I" ∈ zBig := zb_tab (i := 167) (by decide +kernel) rfl
theorem q_168 : Cond.soleField "LetterSums$Search" "firstWay" ∈ zBig := zb_tab (i := 168) (by decide +kernel) rfl
theorem q_169 : Cond.lays "LetterSums$Search" "LetterSums$Search" "ways" "I" ∈ zBig := zb_tab (i := 169) (by decide +kernel) rfl
theorem q_170 : Cond.soleField "LetterSums$Search" "ways" ∈ zBig := zb_tab (i := 170) (by decide +kernel) rfl
theorem q_171 : Cond.lays "LetterSums$Search" "LetterSums$Search" "letterCount" "I" ∈ zBig := zb_tab (i := 171) (by decide +kernel) rfl
theorem q_172 : Cond.soleField "LetterSums$Search" "letterCount" ∈ zBig := zb_tab (i := 172) (by decide +kernel) rfl
theorem q_173 : Cond.lays "LetterSums$Search" "LetterSums$Search" "middle" "I" ∈ zBig := zb_tab (i := 173) (by decide +kernel) rfl
theorem q_174 : Cond.soleField "LetterSums$Search" "middle" ∈ zBig := zb_tab (i := 174) (by decide +kernel) rfl
theorem q_175 : Cond.lays "LetterSums$Search" "LetterSums$Search" "barred" "Z" ∈ zBig := zb_tab (i := 175) (by decide +kernel) rfl
theorem q_176 : Cond.soleField "LetterSums$Search" "barred" ∈ zBig := zb_tab (i := 176) (by decide +kernel) rfl
theorem q_177 : Cond.superclass "LetterSums$Search" "java/lang/Object" ∈ zBig := zb_tab (i := 177) (by decide +kernel) rfl
theorem q_178 : Cond.fieldLink "LetterSums" 9 "LetterSums" "typed" "[I" ∈ zBig := zb_tab (i := 178) (by decide +kernel) rfl
theorem q_179 : Cond.fieldLink "LetterSums" 13 "LetterSums" "typedCount" "I" ∈ zBig := zb_tab (i := 179) (by decide +kernel) rfl
theorem q_180 : Cond.fieldLink "LetterSums" 48 "LetterSums" "grammar" "LLetterSums$Grammar;" ∈ zBig := zb_tab (i := 180) (by decide +kernel) rfl
theorem q_181 : Cond.fieldLink "LetterSums" 55 "LetterSums" "sum" "LLetterSums$Sum;" ∈ zBig := zb_tab (i := 181) (by decide +kernel) rfl
theorem q_182 : Cond.fieldLink "LetterSums" 62 "LetterSums" "search" "LLetterSums$Search;" ∈ zBig := zb_tab (i := 182) (by decide +kernel) rfl
theorem q_183 : Cond.fieldLink "LetterSums" 20 "LetterSums" "barredAnswers" "LLetterSums$Answers;" ∈ zBig := zb_tab (i := 183) (by decide +kernel) rfl
theorem q_184 : Cond.fieldLink "LetterSums" 24 "LetterSums" "freeAnswers" "LLetterSums$Answers;" ∈ zBig := zb_tab (i := 184) (by decide +kernel) rfl
theorem q_185 : Cond.fieldLink "LetterSums" 27 "LetterSums" "barred" "Z" ∈ zBig := zb_tab (i := 185) (by decide +kernel) rfl
theorem q_186 : Cond.fieldLink "LetterSums" 31 "LetterSums" "kept" "I" ∈ zBig := zb_tab (i := 186) (by decide +kernel) rfl
theorem q_187 : Cond.laysFinal "LetterSums" "LetterSums" "typed" "[I" ∈ zBig := zb_tab (i := 187) (by decide +kernel) rfl
theorem q_188 : Cond.soleField "LetterSums" "typed" ∈ zBig := zb_tab (i := 188) (by decide +kernel) rfl
theorem q_189 : Cond.lays "LetterSums" "LetterSums" "typedCount" "I" ∈ zBig := zb_tab (i := 189) (by decide +kernel) rfl
theorem q_190 : Cond.soleField "LetterSums" "typedCount" ∈ zBig := zb_tab (i := 190) (by decide +kernel) rfl
theorem q_191 : Cond.laysFinal "LetterSums" "LetterSums" "grammar" "LLetterSums$Grammar;" ∈ zBig := zb_tab (i := 191) (by decide +kernel) rfl
theorem q_192 : Cond.soleField "LetterSums" "grammar" ∈ zBig := zb_tab (i := 192) (by decide +kernel) rfl
theorem q_193 : Cond.laysFinal "LetterSums" "LetterSums" "sum" "LLetterSums$Sum;" ∈ zBig := zb_tab (i := 193) (by decide +kernel) rfl
theorem q_194 : Cond.soleField "LetterSums" "sum" ∈ zBig := zb_tab (i := 194) (by decide +kernel) rfl
theorem q_195 : Cond.laysFinal "LetterSums" "LetterSums" "search" "LLetterSums$Search;" ∈ zBig := zb_tab (i := 195) (by decide +kernel) rfl
theorem q_196 : Cond.soleField "LetterSums" "search" ∈ zBig := zb_tab (i := 196) (by decide +kernel) rfl
theorem q_197 : Cond.laysFinal "LetterSums" "LetterSums" "barredAnswers" "LLetterSums$Answers;" ∈ zBig := zb_tab (i := 197) (by decide +kernel) rfl
theorem q_198 : Cond.soleField "LetterSums" "barredAnswers" ∈ zBig := zb_tab (i := 198) (by decide +kernel) rfl
theorem q_199 : Cond.laysFinal "LetterSums" "LetterSums" "freeAnswers" "LLetterSums$Answers;" ∈ zBig := zb_tab (i := 199) (by decide +kernel) rfl
theorem q_200 : Cond.soleField "LetterSums" "freeAnswers" ∈ zBig := zb_tab (i := 200) (by decide +kernel) rfl
theorem q_201 : Cond.lays "LetterSums" "LetterSums" "barred" "Z" ∈ zBig := zb_tab (i := 201) (by decide +kernel) rfl
theorem q_202 : Cond.soleField "LetterSums" "barred" ∈ zBig := zb_tab (i := 202) (by decide +kernel) rfl
theorem q_203 : Cond.lays "LetterSums" "LetterSums" "kept" "I" ∈ zBig := zb_tab (i := 203) (by decide +kernel) rfl
theorem q_204 : Cond.soleField "LetterSums" "kept" ∈ zBig := zb_tab (i := 204) (by decide +kernel) rfl
theorem q_205 : Cond.superclass "LetterSums" "java/lang/Object" ∈ zBig := zb_tab (i := 205) (by decide +kernel) rfl
theorem q_206 : Cond.methodLink "LetterSumsLaw" 21 ⟨"LetterSums", "unit", "(I)Z"⟩ ∈ zBig := zb_tab (i := 206) (by decide +kernel) rfl
theorem q_207 : Cond.instanceMethod ⟨"LetterSums", "unit", "(I)Z"⟩ ∈ zBig := zb_tab (i := 207) (by decide +kernel) rfl
theorem q_208 : Cond.selects "LetterSums" ⟨"LetterSums", "unit", "(I)Z"⟩ ⟨"LetterSums", "unit", "(I)Z"⟩ ∈ zBig := zb_tab (i := 208) (by decide +kernel) rfl
theorem q_209 : Cond.code ⟨"LetterSums", "unit", "(I)Z"⟩ prog_1_method_2_code 2 (Option.some Jvm.ClassFile.FieldType.boolean) ∈ zBig := zb_tab (i := 209) (by decide +kernel) rfl
theorem q_210 : Cond.methodLink "LetterSumsLaw" 26 ⟨"LetterSums", "read", "()I"⟩ ∈ zBig := zb_tab (i := 210) (by decide +kernel) rfl
theorem q_211 : Cond.instanceMethod ⟨"LetterSums", "read", "()I"⟩ ∈ zBig := zb_tab (i := 211) (by decide +kernel) rfl
theorem q_212 : Cond.selects "LetterSums" ⟨"LetterSums", "read", "()I"⟩ ⟨"LetterSums", "read", "()I"⟩ ∈ zBig := zb_tab (i := 212) (by decide +kernel) rfl
theorem q_213 : Cond.code ⟨"LetterSums", "read", "()I"⟩ prog_1_method_3_code 3 (Option.some Jvm.ClassFile.FieldType.int) ∈ zBig := zb_tab (i := 213) (by decide +kernel) rfl
theorem q_214 : Cond.methodLink "LetterSums" 66 ⟨"LetterSums$Grammar", "firstWrong", "([II)I"⟩ ∈ zBig := zb_tab (i := 214) (by decide +kernel) rfl
theorem q_215 : Cond.instanceMethod ⟨"LetterSums$Grammar", "firstWrong", "([II)I"⟩ ∈ zBig := zb_tab (i := 215) (by decide +kernel) rfl
theorem q_216 : Cond.selects "LetterSums$Grammar" ⟨"LetterSums$Grammar", "firstWrong", "([II)I"⟩ ⟨"LetterSums$Grammar", "firstWrong", "([II)I"⟩ ∈ zBig := zb_tab (i := 216) (by decide +kernel) rfl
theorem q_217 : Cond.code ⟨"LetterSums$Grammar", "firstWrong", "([II)I"⟩ prog_3_method_2_code 4 (Option.some Jvm.ClassFile.FieldType.int) ∈ zBig := zb_tab (i := 217) (by decide +kernel) rfl
theorem q_218 : Cond.methodLink "LetterSums$Grammar" 28 ⟨"LetterSums$Grammar", "admits", "(I)Z"⟩ ∈ zBig := zb_tab (i := 218) (by decide +kernel) rfl
theorem q_220 : Cond.instanceMethod ⟨"LetterSums$Grammar", "admits", "(I)Z"⟩ ∈ zBig := zb_tab (i := 220) (by decide +kernel) rfl
theorem q_221 : Cond.code ⟨"LetterSums$Grammar", "admits", "(I)Z"⟩ prog_3_method_3_code 2 (Option.some Jvm.ClassFile.FieldType.boolean) ∈ zBig := zb_tab (i := 221) (by decide +kernel) rfl
theorem q_223 : Cond.static ⟨"LetterSums", "isLetter", "(I)Z"⟩ ∈ zBig := zb_tab (i := 223) (by decide +kernel) rfl
theorem q_224 : Cond.code ⟨"LetterSums", "isLetter", "(I)Z"⟩ prog_1_method_19_code 1 (Option.some Jvm.ClassFile.FieldType.boolean) ∈ zBig := zb_tab (i := 224) (by decide +kernel) rfl
theorem q_225 : Cond.methodLink "LetterSums$Grammar" 35 ⟨"LetterSums$Grammar", "admitsLetter", "(I)Z"⟩ ∈ zBig := zb_tab (i := 225) (by decide +kernel) rfl
theorem q_227 : Cond.instanceMethod ⟨"LetterSums$Grammar", "admitsLetter", "(I)Z"⟩ ∈ zBig := zb_tab (i := 227) (by decide +kernel) rfl
theorem q_228 : Cond.code ⟨"LetterSums$Grammar", "admitsLetter", "(I)Z"⟩ prog_3_method_4_code 2 (Option.some Jvm.ClassFile.FieldType.boolean) ∈ zBig := zb_tab (i := 228) (by decide +kernel) rfl
theorem q_229 : Cond.methodLink "LetterSums$Grammar" 51 ⟨"java/lang/Integer", "bitCount", "(I)I"⟩ ∈ zBig := zb_tab (i := 229) (by decide +kernel) rfl
theorem q_230 : Cond.static ⟨"java/lang/Integer", "bitCount", "(I)I"⟩ ∈ zBig := zb_tab (i := 230) (by decide +kernel) rfl
theorem q_231 : Cond.code ⟨"java/lang/Integer", "bitCount", "(I)I"⟩ prog_9_method_49_code 1 (Option.some Jvm.ClassFile.FieldType.int) ∈ zBig := zb_tab (i := 231) (by decide +kernel) rfl
theorem q_232 : Cond.constant "java/lang/Integer" 265 1431655765 ∈ zBig := zb_tab (i := 232) (by decide +kernel) rfl
theorem q_233 : Cond.constant "java/lang/Integer" 266 858993459 ∈ zBig := zb_tab (i := 233) (by decide +kernel) rfl
theorem q_234 : Cond.constant "java/lang/Integer" 267 252645135 ∈ zBig := zb_tab (i := 234) (by decide +kernel) rfl
theorem q_235 : Cond.methodLink "LetterSums$Grammar" 38 ⟨"LetterSums$Grammar", "admitsSign", "()Z"⟩ ∈ zBig := zb_tab (i := 235) (by decide +kernel) rfl
theorem q_237 : Cond.instanceMethod ⟨"LetterSums$Grammar", "admitsSign", "()Z"⟩ ∈ zBig := zb_tab (i := 237) (by decide +kernel) rfl
theorem q_238 : Cond.code ⟨"LetterSums$Grammar", "admitsSign", "()Z"⟩ prog_3_method_5_code 1 (Option.some Jvm.ClassFile.FieldType.boolean) ∈ zBig := zb_tab (i := 238) (by decide +kernel) rfl
theorem q_240 : Cond.static ⟨"LetterSums", "isDigit", "(I)Z"⟩ ∈ zBig := zb_tab (i := 240) (by decide +kernel) rfl
theorem q_241 : Cond.code ⟨"LetterSums", "isDigit", "(I)Z"⟩ prog_1_method_20_code 1 (Option.some Jvm.ClassFile.FieldType.boolean) ∈ zBig := zb_tab (i := 241) (by decide +kernel) rfl
theorem q_242 : Cond.methodLink "LetterSums$Grammar" 45 ⟨"LetterSums$Grammar", "admitsEquals", "()Z"⟩ ∈ zBig := zb_tab (i := 242) (by decide +kernel) rfl
theorem q_244 : Cond.instanceMethod ⟨"LetterSums$Grammar", "admitsEquals", "()Z"⟩ ∈ zBig := zb_tab (i := 244) (by decide +kernel) rfl
theorem q_245 : Cond.code ⟨"LetterSums$Grammar", "admitsEquals", "()Z"⟩ prog_3_method_6_code 1 (Option.some Jvm.ClassFile.FieldType.boolean) ∈ zBig := zb_tab (i := 245) (by decide +kernel) rfl
theorem q_246 : Cond.methodLink "LetterSums$Grammar" 48 ⟨"LetterSums$Grammar", "endsWord", "()Z"⟩ ∈ zBig := zb_tab (i := 246) (by decide +kernel) rfl
theorem q_248 : Cond.instanceMethod ⟨"LetterSums$Grammar", "endsWord", "()Z"⟩ ∈ zBig := zb_tab (i := 248) (by decide +kernel) rfl
theorem q_249 : Cond.code ⟨"LetterSums$Grammar", "endsWord", "()Z"⟩ prog_3_method_7_code 2 (Option.some Jvm.ClassFile.FieldType.boolean) ∈ zBig := zb_tab (i := 249) (by decide +kernel) rfl
theorem q_250 : Cond.methodLink "LetterSums" 70 ⟨"LetterSums$Sum", "take", "([II)V"⟩ ∈ zBig := zb_tab (i := 250) (by decide +kernel) rfl
theorem q_251 : Cond.instanceMethod ⟨"LetterSums$Sum", "take", "([II)V"⟩ ∈ zBig := zb_tab (i := 251) (by decide +kernel) rfl
theorem q_252 : Cond.selects "LetterSums$Sum" ⟨"LetterSums$Sum", "take", "([II)V"⟩ ⟨"LetterSums$Sum", "take", "([II)V"⟩ ∈ zBig := zb_tab (i := 252) (by decide +kernel) rfl
theorem q_253 : Cond.code ⟨"LetterSums$Sum", "take", "([II)V"⟩ prog_5_method_2_code 4 (Option.none : Option Jvm.ClassFile.FieldType) ∈ zBig := zb_tab (i := 253) (by decide +kernel) rfl
theorem q_254 : Cond.methodLink "LetterSums$Sum" 49 ⟨"LetterSums$Sum", "listWords", "()V"⟩ ∈ zBig := zb_tab (i := 254) (by decide +kernel) rfl
theorem q_256 : Cond.instanceMethod ⟨"LetterSums$Sum", "listWords", "()V"⟩ ∈ zBig := zb_tab (i := 256) (by decide +kernel) rfl
theorem q_257 : Cond.code ⟨"LetterSums$Sum", "listWords", "()V"⟩ prog_5_method_3_code 4 (Option.none : Option Jvm.ClassFile.FieldType) ∈ zBig := zb_tab (i := 257) (by decide +kernel) rfl
theorem q_260 : Cond.methodLink "LetterSums$Sum" 52 ⟨"LetterSums$Sum", "listLetters", "()V"⟩ ∈ zBig := zb_tab (i := 260) (by decide +kernel) rfl
theorem q_262 : Cond.instanceMethod ⟨"LetterSums$Sum", "listLetters", "()V"⟩ ∈ zBig := zb_tab (i := 262) (by decide +kernel) rfl
theorem q_263 : Cond.code ⟨"LetterSums$Sum", "listLetters", "()V"⟩ prog_5_method_4_code 3 (Option.none : Option Jvm.ClassFile.FieldType) ∈ zBig := zb_tab (i := 263) (by decide +kernel) rfl
theorem q_264 : Cond.methodLink "LetterSums" 74 ⟨"LetterSums$Answers", "forget", "()V"⟩ ∈ zBig := zb_tab (i := 264) (by decide +kernel) rfl
theorem q_265 : Cond.instanceMethod ⟨"LetterSums$Answers", "forget", "()V"⟩ ∈ zBig := zb_tab (i := 265) (by decide +kernel) rfl
theorem q_266 : Cond.selects "LetterSums$Answers" ⟨"LetterSums$Answers", "forget", "()V"⟩ ⟨"LetterSums$Answers", "forget", "()V"⟩ ∈ zBig := zb_tab (i := 266) (by decide +kernel) rfl
theorem q_267 : Cond.code ⟨"LetterSums$Answers", "forget", "()V"⟩ prog_2_method_2_code 1 (Option.none : Option Jvm.ClassFile.FieldType) ∈ zBig := zb_tab (i := 267) (by decide +kernel) rfl
theorem q_268 : Cond.methodLink "LetterSumsLaw" 31 ⟨"LetterSums", "bar", "(Z)V"⟩ ∈ zBig := zb_tab (i := 268) (by decide +kernel) rfl
theorem q_269 : Cond.instanceMethod ⟨"LetterSums", "bar", "(Z)V"⟩ ∈ zBig := zb_tab (i := 269) (by decide +kernel) rfl
theorem q_270 : Cond.selects "LetterSums" ⟨"LetterSums", "bar", "(Z)V"⟩ ⟨"LetterSums", "bar", "(Z)V"⟩ ∈ zBig := zb_tab (i := 270) (by decide +kernel) rfl
theorem q_271 : Cond.code ⟨"LetterSums", "bar", "(Z)V"⟩ prog_1_method_4_code 2 (Option.none : Option Jvm.ClassFile.FieldType) ∈ zBig := zb_tab (i := 271) (by decide +kernel) rfl
theorem q_272 : Cond.methodLink "LetterSumsLaw" 36 ⟨"LetterSums", "letters", "()I"⟩ ∈ zBig := zb_tab (i := 272) (by decide +kernel) rfl
theorem q_273 : Cond.instanceMethod ⟨"LetterSums", "letters", "()I"⟩ ∈ zBig := zb_tab (i := 273) (by decide +kernel) rfl
theorem q_274 : Cond.selects "LetterSums" ⟨"LetterSums", "letters", "()I"⟩ ⟨"LetterSums", "letters", "()I"⟩ ∈ zBig := zb_tab (i := 274) (by decide +kernel) rfl
theorem q_275 : Cond.code ⟨"LetterSums", "letters", "()I"⟩ prog_1_method_5_code 1 (Option.some Jvm.ClassFile.FieldType.int) ∈ zBig := zb_tab (i := 275) (by decide +kernel) rfl
theorem q_276 : Cond.methodLink "LetterSumsLaw" 40 ⟨"LetterSums", "letter", "(I)I"⟩ ∈ zBig := zb_tab (i := 276) (by decide +kernel) rfl
theorem q_277 : Cond.instanceMethod ⟨"LetterSums", "letter", "(I)I"⟩ ∈ zBig := zb_tab (i := 277) (by decide +kernel) rfl
theorem q_278 : Cond.selects "LetterSums" ⟨"LetterSums", "letter", "(I)I"⟩ ⟨"LetterSums", "letter", "(I)I"⟩ ∈ zBig := zb_tab (i := 278) (by decide +kernel) rfl
theorem q_279 : Cond.code ⟨"LetterSums", "letter", "(I)I"⟩ prog_1_method_6_code 2 (Option.some Jvm.ClassFile.FieldType.int) ∈ zBig := zb_tab (i := 279) (by decide +kernel) rfl
theorem q_280 : Cond.methodLink "LetterSums" 83 ⟨"LetterSums$Sum", "letterAt", "(I)I"⟩ ∈ zBig := zb_tab (i := 280) (by decide +kernel) rfl
theorem q_281 : Cond.instanceMethod ⟨"LetterSums$Sum", "letterAt", "(I)I"⟩ ∈ zBig := zb_tab (i := 281) (by decide +kernel) rfl
theorem q_282 : Cond.selects "LetterSums$Sum" ⟨"LetterSums$Sum", "letterAt", "(I)I"⟩ ⟨"LetterSums$Sum", "letterAt", "(I)I"⟩ ∈ zBig := zb_tab (i := 282) (by decide +kernel) rfl
theorem q_283 : Cond.code ⟨"LetterSums$Sum", "letterAt", "(I)I"⟩ prog_5_method_6_code 2 (Option.some Jvm.ClassFile.FieldType.int) ∈ zBig := zb_tab (i := 283) (by decide +kernel) rfl
theorem q_284 : Cond.methodLink "LetterSumsLaw" 45 ⟨"LetterSums", "run", "(I)I"⟩ ∈ zBig := zb_tab (i := 284) (by decide +kernel) rfl
theorem q_285 : Cond.instanceMethod ⟨"LetterSums", "run", "(I)I"⟩ ∈ zBig := zb_tab (i := 285) (by decide +kernel) rfl
theorem q_286 : Cond.selects "LetterSums" ⟨"LetterSums", "run", "(I)I"⟩ ⟨"LetterSums", "run", "(I)I"⟩ ∈ zBig := zb_tab (i := 286) (by decide +kernel) rfl
theorem q_287 : Cond.code ⟨"LetterSums", "run", "(I)I"⟩ prog_1_method_7_code 2 (Option.some Jvm.ClassFile.FieldType.int) ∈ zBig := zb_tab (i := 287) (by decide +kernel) rfl
theorem q_288 : Cond.methodLink "LetterSums" 87 ⟨"LetterSums", "allAnswers", "()LLetterSums$Answers;"⟩ ∈ zBig := zb_tab (i := 288) (by decide +kernel) rfl
theorem q_290 : Cond.instanceMethod ⟨"LetterSums", "allAnswers", "()LLetterSums$Answers;"⟩ ∈ zBig := zb_tab (i := 290) (by decide +kernel) rfl
theorem q_291 : Cond.code ⟨"LetterSums", "allAnswers", "()LLetterSums$Answers;"⟩ prog_1_method_18_code 2 (Option.some (Jvm.ClassFile.FieldType.object "LetterSums$Answers")) ∈ zBig := zb_tab (i := 291) (by decide +kernel) rfl
theorem q_292 : Cond.methodLink "LetterSums" 132 ⟨"LetterSums", "currentAnswers", "()LLetterSums$Answers;"⟩ ∈ zBig := zb_tab (i := 292) (by decide +kernel) rfl
theorem q_294 : Cond.instanceMethod ⟨"LetterSums", "currentAnswers", "()LLetterSums$Answers;"⟩ ∈ zBig := zb_tab (i := 294) (by decide +kernel) rfl
theorem q_295 : Cond.code ⟨"LetterSums", "currentAnswers", "()LLetterSums$Answers;"⟩ prog_1_method_17_code 1 (Option.some (Jvm.ClassFile.FieldType.object "LetterSums$Answers")) ∈ zBig := zb_tab (i := 295) (by decide +kernel) rfl
theorem q_296 : Cond.methodLink "LetterSums" 141 ⟨"LetterSums$Search", "fill", "(LLetterSums$Answers;LLetterSums$Sum;Z)V"⟩ ∈ zBig := zb_tab (i := 296) (by decide +kernel) rfl
theorem q_297 : Cond.instanceMethod ⟨"LetterSums$Search", "fill", "(LLetterSums$Answers;LLetterSums$Sum;Z)V"⟩ ∈ zBig := zb_tab (i := 297) (by decide +kernel) rfl
theorem q_298 : Cond.selects "LetterSums$Search" ⟨"LetterSums$Search", "fill", "(LLetterSums$Answers;LLetterSums$Sum;Z)V"⟩ ⟨"LetterSums$Search", "fill", "(LLetterSums$Answers;LLetterSums$Sum;Z)V"⟩ ∈ zBig := zb_tab (i := 298) (by decide +kernel) rfl
theorem q_299 : Cond.code ⟨"LetterSums$Search", "fill", "(LLetterSums$Answers;LLetterSums$Sum;Z)V"⟩ prog_4_method_2_code 4 (Option.none : Option Jvm.ClassFile.FieldType) ∈ zBig := zb_tab (i := 299) (by decide +kernel) rfl
theorem q_300 : Cond.methodLink "LetterSums$Search" 53 ⟨"LetterSums$Answers", "forget", "()V"⟩ ∈ zBig := zb_tab (i := 300) (by decide +kernel) rfl
theorem q_301 : Cond.methodLink "LetterSums$Search" 58 ⟨"LetterSums$Weights", "weigh", "(LLetterSums$Sum;)V"⟩ ∈ zBig := zb_tab (i := 301) (by decide +kernel) rfl
theorem q_302 : Cond.instanceMethod ⟨"LetterSums$Weights", "weigh", "(LLetterSums$Sum;)V"⟩ ∈ zBig := zb_tab (i := 302) (by decide +kernel) rfl
theorem q_303 : Cond.selects "LetterSums$Weights" ⟨"LetterSums$Weights", "weigh", "(LLetterSums$Sum;)V"⟩ ⟨"LetterSums$Weights", "weigh", "(LLetterSums$Sum;)V"⟩ ∈ zBig := zb_tab (i := 303) (by decide +kernel) rfl
theorem q_304 : Cond.code ⟨"LetterSums$Weights", "weigh", "(LLetterSums$Sum;)V"⟩ prog_6_method_2_code 3 (Option.none : Option Jvm.ClassFile.FieldType) ∈ zBig := zb_tab (i := 304) (by decide +kernel) rfl
theorem q_305 : Cond.methodLink "LetterSums$Weights" 29 ⟨"java/util/Arrays", "fill", "([II)V"⟩ ∈ zBig := zb_tab (i := 305) (by decide +kernel) rfl
theorem q_306 : Cond.methodLink "LetterSums$Weights" 40 ⟨"LetterSums$Weights", "weighWord", "(LLetterSums$Sum;I)V"⟩ ∈ zBig := zb_tab (i := 306) (by decide +kernel) rfl
theorem q_308 : Cond.instanceMethod ⟨"LetterSums$Weights", "weighWord", "(LLetterSums$Sum;I)V"⟩ ∈ zBig := zb_tab (i := 308) (by decide +kernel) rfl
theorem q_309 : Cond.code ⟨"LetterSums$Weights", "weighWord", "(LLetterSums$Sum;I)V"⟩ prog_6_method_3_code 7 (Option.none : Option Jvm.ClassFile.FieldType) ∈ zBig := zb_tab (i := 309) (by decide +kernel) rfl
theorem q_310 : Cond.methodLink "LetterSums$Weights" 53 ⟨"LetterSums$Sum", "isBehind", "(I)Z"⟩ ∈ zBig := zb_tab (i := 310) (by decide +kernel) rfl
theorem q_311 : Cond.instanceMethod ⟨"LetterSums$Sum", "isBehind", "(I)Z"⟩ ∈ zBig := zb_tab (i := 311) (by decide +kernel) rfl
theorem q_312 : Cond.selects "LetterSums$Sum" ⟨"LetterSums$Sum", "isBehind", "(I)Z"⟩ ⟨"LetterSums$Sum", "isBehind", "(I)Z"⟩ ∈ zBig := zb_tab (i := 312) (by decide +kernel) rfl
theorem q_313 : Cond.code ⟨"LetterSums$Sum", "isBehind", "(I)Z"⟩ prog_5_method_9_code 2 (Option.some Jvm.ClassFile.FieldType.boolean) ∈ zBig := zb_tab (i := 313) (by decide +kernel) rfl
theorem q_314 : Cond.methodLink "LetterSums$Weights" 57 ⟨"LetterSums$Sum", "isTakenAway", "(I)Z"⟩ ∈ zBig := zb_tab (i := 314) (by decide +kernel) rfl
theorem q_315 : Cond.instanceMethod ⟨"LetterSums$Sum", "isTakenAway", "(I)Z"⟩ ∈ zBig := zb_tab (i := 315) (by decide +kernel) rfl
theorem q_316 : Cond.selects "LetterSums$Sum" ⟨"LetterSums$Sum", "isTakenAway", "(I)Z"⟩ ⟨"LetterSums$Sum", "isTakenAway", "(I)Z"⟩ ∈ zBig := zb_tab (i := 316) (by decide +kernel) rfl
theorem q_317 : Cond.code ⟨"LetterSums$Sum", "isTakenAway", "(I)Z"⟩ prog_5_method_10_code 2 (Option.some Jvm.ClassFile.FieldType.boolean) ∈ zBig := zb_tab (i := 317) (by decide +kernel) rfl
theorem q_318 : Cond.methodLink "LetterSums$Sum" 62 ⟨"LetterSums$Sum", "byteAt", "(I)I"⟩ ∈ zBig := zb_tab (i := 318) (by decide +kernel) rfl
theorem q_319 : Cond.instanceMethod ⟨"LetterSums$Sum", "byteAt", "(I)I"⟩ ∈ zBig := zb_tab (i := 319) (by decide +kernel) rfl
theorem q_320 : Cond.selects "LetterSums$Sum" ⟨"LetterSums$Sum", "byteAt", "(I)I"⟩ ⟨"LetterSums$Sum", "byteAt", "(I)I"⟩ ∈ zBig := zb_tab (i := 320) (by decide +kernel) rfl
theorem q_321 : Cond.code ⟨"LetterSums$Sum", "byteAt", "(I)I"⟩ prog_5_method_5_code 2 (Option.some Jvm.ClassFile.FieldType.int) ∈ zBig := zb_tab (i := 321) (by decide +kernel) rfl
theorem q_322 : Cond.methodLink "LetterSums$Weights" 60 ⟨"LetterSums$Sum", "byteAt", "(I)I"⟩ ∈ zBig := zb_tab (i := 322) (by decide +kernel) rfl
theorem q_323 : Cond.methodLink "LetterSums$Weights" 64 ⟨"LetterSums$Sum", "slotOf", "(I)I"⟩ ∈ zBig := zb_tab (i := 323) (by decide +kernel) rfl
theorem q_324 : Cond.instanceMethod ⟨"LetterSums$Sum", "slotOf", "(I)I"⟩ ∈ zBig := zb_tab (i := 324) (by decide +kernel) rfl
theorem q_325 : Cond.selects "LetterSums$Sum" ⟨"LetterSums$Sum", "slotOf", "(I)I"⟩ ⟨"LetterSums$Sum", "slotOf", "(I)I"⟩ ∈ zBig := zb_tab (i := 325) (by decide +kernel) rfl
theorem q_326 : Cond.code ⟨"LetterSums$Sum", "slotOf", "(I)I"⟩ prog_5_method_7_code 2 (Option.some Jvm.ClassFile.FieldType.int) ∈ zBig := zb_tab (i := 326) (by decide +kernel) rfl
theorem q_327 : Cond.methodLink "LetterSums$Weights" 50 ⟨"LetterSums$Weights", "noteFront", "(LLetterSums$Sum;I)V"⟩ ∈ zBig := zb_tab (i := 327) (by decide +kernel) rfl
theorem q_329 : Cond.instanceMethod ⟨"LetterSums$Weights", "noteFront", "(LLetterSums$Sum;I)V"⟩ ∈ zBig := zb_tab (i := 329) (by decide +kernel) rfl
theorem q_330 : Cond.code ⟨"LetterSums$Weights", "noteFront", "(LLetterSums$Sum;I)V"⟩ prog_6_method_4_code 4 (Option.none : Option Jvm.ClassFile.FieldType) ∈ zBig := zb_tab (i := 330) (by decide +kernel) rfl
theorem q_331 : Cond.methodLink "LetterSums$Search" 71 ⟨"java/lang/Math", "min", "(II)I"⟩ ∈ zBig := zb_tab (i := 331) (by decide +kernel) rfl
theorem q_332 : Cond.methodLink "LetterSums$Search" 77 ⟨"LetterSums$Search", "listLater", "(IIII)V"⟩ ∈ zBig := zb_tab (i := 332) (by decide +kernel) rfl
theorem q_334 : Cond.instanceMethod ⟨"LetterSums$Search", "listLater", "(IIII)V"⟩ ∈ zBig := zb_tab (i := 334) (by decide +kernel) rfl
theorem q_335 : Cond.code ⟨"LetterSums$Search", "listLater", "(IIII)V"⟩ prog_4_method_3_code 6 (Option.none : Option Jvm.ClassFile.FieldType) ∈ zBig := zb_tab (i := 335) (by decide +kernel) rfl
theorem q_336 : Cond.methodLink "LetterSums$Search" 91 ⟨"LetterSums$Search", "addWay", "(III)V"⟩ ∈ zBig := zb_tab (i := 336) (by decide +kernel) rfl
theorem q_338 : Cond.instanceMethod ⟨"LetterSums$Search", "addWay", "(III)V"⟩ ∈ zBig := zb_tab (i := 338) (by decide +kernel) rfl
theorem q_339 : Cond.code ⟨"LetterSums$Search", "addWay", "(III)V"⟩ prog_4_method_4_code 4 (Option.none : Option Jvm.ClassFile.FieldType) ∈ zBig := zb_tab (i := 339) (by decide +kernel) rfl
theorem q_340 : Cond.methodLink "LetterSums$Search" 95 ⟨"LetterSums$Search", "mayBe", "(III)Z"⟩ ∈ zBig := zb_tab (i := 340) (by decide +kernel) rfl
theorem q_342 : Cond.instanceMethod ⟨"LetterSums$Search", "mayBe", "(III)Z"⟩ ∈ zBig := zb_tab (i := 342) (by decide +kernel) rfl
theorem q_343 : Cond.code ⟨"LetterSums$Search", "mayBe", "(III)Z"⟩ prog_4_method_8_code 5 (Option.some Jvm.ClassFile.FieldType.boolean) ∈ zBig := zb_tab (i := 343) (by decide +kernel) rfl
theorem q_344 : Cond.methodLink "LetterSums$Search" 126 ⟨"LetterSums$Weights", "isFront", "(I)Z"⟩ ∈ zBig := zb_tab (i := 344) (by decide +kernel) rfl
theorem q_345 : Cond.instanceMethod ⟨"LetterSums$Weights", "isFront", "(I)Z"⟩ ∈ zBig := zb_tab (i := 345) (by decide +kernel) rfl
theorem q_346 : Cond.selects "LetterSums$Weights" ⟨"LetterSums$Weights", "isFront", "(I)Z"⟩ ⟨"LetterSums$Weights", "isFront", "(I)Z"⟩ ∈ zBig := zb_tab (i := 346) (by decide +kernel) rfl
theorem q_347 : Cond.code ⟨"LetterSums$Weights", "isFront", "(I)Z"⟩ prog_6_method_5_code 2 (Option.some Jvm.ClassFile.FieldType.boolean) ∈ zBig := zb_tab (i := 347) (by decide +kernel) rfl
theorem q_349 : Cond.static ⟨"LetterSums", "withDigit", "(III)I"⟩ ∈ zBig := zb_tab (i := 349) (by decide +kernel) rfl
theorem q_350 : Cond.code ⟨"LetterSums", "withDigit", "(III)I"⟩ prog_1_method_22_code 3 (Option.some Jvm.ClassFile.FieldType.int) ∈ zBig := zb_tab (i := 350) (by decide +kernel) rfl
theorem q_351 : Cond.methodLink "LetterSums$Search" 81 ⟨"LetterSums$Search", "chainWays", "()V"⟩ ∈ zBig := zb_tab (i := 351) (by decide +kernel) rfl
theorem q_353 : Cond.instanceMethod ⟨"LetterSums$Search", "chainWays", "()V"⟩ ∈ zBig := zb_tab (i := 353) (by decide +kernel) rfl
theorem q_354 : Cond.code ⟨"LetterSums$Search", "chainWays", "()V"⟩ prog_4_method_5_code 3 (Option.none : Option Jvm.ClassFile.FieldType) ∈ zBig := zb_tab (i := 354) (by decide +kernel) rfl
theorem q_355 : Cond.methodLink "LetterSums$Search" 106 ⟨"java/util/Arrays", "fill", "([II)V"⟩ ∈ zBig := zb_tab (i := 355) (by decide +kernel) rfl
theorem q_356 : Cond.methodLink "LetterSums$Search" 112 ⟨"java/lang/Math", "floorMod", "(II)I"⟩ ∈ zBig := zb_tab (i := 356) (by decide +kernel) rfl
theorem q_357 : Cond.static ⟨"java/lang/Math", "floorMod", "(II)I"⟩ ∈ zBig := zb_tab (i := 357) (by decide +kernel) rfl
theorem q_358 : Cond.code ⟨"java/lang/Math", "floorMod", "(II)I"⟩ prog_10_method_50_code 3 (Option.some Jvm.ClassFile.FieldType.int) ∈ zBig := zb_tab (i := 358) (by decide +kernel) rfl
theorem q_359 : Cond.methodLink "LetterSums$Search" 87 ⟨"LetterSums$Search", "tryEarlier", "(IIIILLetterSums$Answers;)V"⟩ ∈ zBig := zb_tab (i := 359) (by decide +kernel) rfl
theorem q_361 : Cond.instanceMethod ⟨"LetterSums$Search", "tryEarlier", "(IIIILLetterSums$Answers;)V"⟩ ∈ zBig := zb_tab (i := 361) (by decide +kernel) rfl
theorem q_362 : Cond.code ⟨"LetterSums$Search", "tryEarlier", "(IIIILLetterSums$Answers;)V"⟩ prog_4_method_6_code 7 (Option.none : Option Jvm.ClassFile.FieldType) ∈ zBig := zb_tab (i := 362) (by decide +kernel) rfl
theorem q_363 : Cond.methodLink "LetterSums$Search" 115 ⟨"LetterSums$Search", "join", "(IIILLetterSums$Answers;)V"⟩ ∈ zBig := zb_tab (i := 363) (by decide +kernel) rfl
theorem q_365 : Cond.instanceMethod ⟨"LetterSums$Search", "join", "(IIILLetterSums$Answers;)V"⟩ ∈ zBig := zb_tab (i := 365) (by decide +kernel) rfl
theorem q_366 : Cond.code ⟨"LetterSums$Search", "join", "(IIILLetterSums$Answers;)V"⟩ prog_4_method_7_code 7 (Option.none : Option Jvm.ClassFile.FieldType) ∈ zBig := zb_tab (i := 366) (by decide +kernel) rfl
theorem q_367 : Cond.methodLink "LetterSums$Search" 123 ⟨"LetterSums$Answers", "add", "(I)V"⟩ ∈ zBig := zb_tab (i := 367) (by decide +kernel) rfl
theorem q_368 : Cond.instanceMethod ⟨"LetterSums$Answers", "add", "(I)V"⟩ ∈ zBig := zb_tab (i := 368) (by decide +kernel) rfl
theorem q_369 : Cond.selects "LetterSums$Answers" ⟨"LetterSums$Answers", "add", "(I)V"⟩ ⟨"LetterSums$Answers", "add", "(I)V"⟩ ∈ zBig := zb_tab (i := 369) (by decide +kernel) rfl
theorem q_370 : Cond.code ⟨"LetterSums$Answers", "add", "(I)V"⟩ prog_2_method_3_code 2 (Option.none : Option Jvm.ClassFile.FieldType) ∈ zBig := zb_tab (i := 370) (by decide +kernel) rfl
theorem q_371 : Cond.methodLink "LetterSums$Answers" 23 ⟨"LetterSums$Answers", "isFull", "()Z"⟩ ∈ zBig := zb_tab (i := 371) (by decide +kernel) rfl
theorem q_372 : Cond.instanceMethod ⟨"LetterSums$Answers", "isFull", "()Z"⟩ ∈ zBig := zb_tab (i := 372) (by decide +kernel) rfl
theorem q_373 : Cond.selects "LetterSums$Answers" ⟨"LetterSums$Answers", "isFull", "()Z"⟩ ⟨"LetterSums$Answers", "isFull", "()Z"⟩ ∈ zBig := zb_tab (i := 373) (by decide +kernel) rfl
theorem q_374 : Cond.code ⟨"LetterSums$Answers", "isFull", "()Z"⟩ prog_2_method_4_code 1 (Option.some Jvm.ClassFile.FieldType.boolean) ∈ zBig := zb_tab (i := 374) (by decide +kernel) rfl
theorem q_375 : Cond.methodLink "LetterSums$Search" 119 ⟨"LetterSums$Answers", "isFull", "()Z"⟩ ∈ zBig := zb_tab (i := 375) (by decide +kernel) rfl
theorem q_376 : Cond.methodLink "LetterSumsLaw" 49 ⟨"LetterSums", "digit", "(II)I"⟩ ∈ zBig := zb_tab (i := 376) (by decide +kernel) rfl
theorem q_377 : Cond.instanceMethod ⟨"LetterSums", "digit", "(II)I"⟩ ∈ zBig := zb_tab (i := 377) (by decide +kernel) rfl
theorem q_378 : Cond.selects "LetterSums" ⟨"LetterSums", "digit", "(II)I"⟩ ⟨"LetterSums", "digit", "(II)I"⟩ ∈ zBig := zb_tab (i := 378) (by decide +kernel) rfl
theorem q_379 : Cond.code ⟨"LetterSums", "digit", "(II)I"⟩ prog_1_method_8_code 4 (Option.some Jvm.ClassFile.FieldType.int) ∈ zBig := zb_tab (i := 379) (by decide +kernel) rfl
theorem q_380 : Cond.methodLink "LetterSums" 94 ⟨"LetterSums$Sum", "slotOf", "(I)I"⟩ ∈ zBig := zb_tab (i := 380) (by decide +kernel) rfl
theorem q_381 : Cond.methodLink "LetterSums" 97 ⟨"LetterSums", "isKept", "(I)Z"⟩ ∈ zBig := zb_tab (i := 381) (by decide +kernel) rfl
theorem q_383 : Cond.instanceMethod ⟨"LetterSums", "isKept", "(I)Z"⟩ ∈ zBig := zb_tab (i := 383) (by decide +kernel) rfl
theorem q_384 : Cond.code ⟨"LetterSums", "isKept", "(I)Z"⟩ prog_1_method_15_code 2 (Option.some Jvm.ClassFile.FieldType.boolean) ∈ zBig := zb_tab (i := 384) (by decide +kernel) rfl
theorem q_385 : Cond.methodLink "LetterSums" 101 ⟨"LetterSums", "answer", "(I)I"⟩ ∈ zBig := zb_tab (i := 385) (by decide +kernel) rfl
theorem q_387 : Cond.instanceMethod ⟨"LetterSums", "answer", "(I)I"⟩ ∈ zBig := zb_tab (i := 387) (by decide +kernel) rfl
theorem q_388 : Cond.code ⟨"LetterSums", "answer", "(I)I"⟩ prog_1_method_16_code 2 (Option.some Jvm.ClassFile.FieldType.int) ∈ zBig := zb_tab (i := 388) (by decide +kernel) rfl
theorem q_389 : Cond.methodLink "LetterSums" 135 ⟨"LetterSums$Answers", "get", "(I)I"⟩ ∈ zBig := zb_tab (i := 389) (by decide +kernel) rfl
theorem q_390 : Cond.instanceMethod ⟨"LetterSums$Answers", "get", "(I)I"⟩ ∈ zBig := zb_tab (i := 390) (by decide +kernel) rfl
theorem q_391 : Cond.selects "LetterSums$Answers" ⟨"LetterSums$Answers", "get", "(I)I"⟩ ⟨"LetterSums$Answers", "get", "(I)I"⟩ ∈ zBig := zb_tab (i := 391) (by decide +kernel) rfl
theorem q_392 : Cond.code ⟨"LetterSums$Answers", "get", "(I)I"⟩ prog_2_method_5_code 2 (Option.some Jvm.ClassFile.FieldType.int) ∈ zBig := zb_tab (i := 392) (by decide +kernel) rfl
theorem q_393 : Cond.methodLink "LetterSums" 104 ⟨"LetterSums", "digitOf", "(II)I"⟩ ∈ zBig := zb_tab (i := 393) (by decide +kernel) rfl
theorem q_394 : Cond.static ⟨"LetterSums", "digitOf", "(II)I"⟩ ∈ zBig := zb_tab (i := 394) (by decide +kernel) rfl
theorem q_395 : Cond.code ⟨"LetterSums", "digitOf", "(II)I"⟩ prog_1_method_21_code 2 (Option.some Jvm.ClassFile.FieldType.int) ∈ zBig := zb_tab (i := 395) (by decide +kernel) rfl
theorem q_396 : Cond.methodLink "LetterSumsLaw" 54 ⟨"LetterSums", "side", "(II)J"⟩ ∈ zBig := zb_tab (i := 396) (by decide +kernel) rfl
theorem q_397 : Cond.instanceMethod ⟨"LetterSums", "side", "(II)J"⟩ ∈ zBig := zb_tab (i := 397) (by decide +kernel) rfl
theorem q_398 : Cond.selects "LetterSums" ⟨"LetterSums", "side", "(II)J"⟩ ⟨"LetterSums", "side", "(II)J"⟩ ∈ zBig := zb_tab (i := 398) (by decide +kernel) rfl
theorem q_399 : Cond.code ⟨"LetterSums", "side", "(II)J"⟩ prog_1_method_9_code 3 (Option.some Jvm.ClassFile.FieldType.long) ∈ zBig := zb_tab (i := 399) (by decide +kernel) rfl
theorem q_400 : Cond.constantLong "LetterSums" 107 (-1) ∈ zBig := zb_tab (i := 400) (by decide +kernel) rfl
theorem q_401 : Cond.methodLink "LetterSums" 109 ⟨"LetterSums$Sum", "sideValue", "(ZI)J"⟩ ∈ zBig := zb_tab (i := 401) (by decide +kernel) rfl
theorem q_402 : Cond.instanceMethod ⟨"LetterSums$Sum", "sideValue", "(ZI)J"⟩ ∈ zBig := zb_tab (i := 402) (by decide +kernel) rfl
theorem q_403 : Cond.selects "LetterSums$Sum" ⟨"LetterSums$Sum", "sideValue", "(ZI)J"⟩ ⟨"LetterSums$Sum", "sideValue", "(ZI)J"⟩ ∈ zBig := zb_tab (i := 403) (by decide +kernel) rfl
theorem q_404 : Cond.code ⟨"LetterSums$Sum", "sideValue", "(ZI)J"⟩ prog_5_method_12_code 8 (Option.some Jvm.ClassFile.FieldType.long) ∈ zBig := zb_tab (i := 404) (by decide +kernel) rfl
theorem q_405 : Cond.methodLink "LetterSums$Sum" 76 ⟨"LetterSums$Sum", "isBehind", "(I)Z"⟩ ∈ zBig := zb_tab (i := 405) (by decide +kernel) rfl
theorem q_406 : Cond.methodLink "LetterSums$Sum" 79 ⟨"LetterSums$Sum", "endValue", "(III)J"⟩ ∈ zBig := zb_tab (i := 406) (by decide +kernel) rfl
theorem q_408 : Cond.instanceMethod ⟨"LetterSums$Sum", "endValue", "(III)J"⟩ ∈ zBig := zb_tab (i := 408) (by decide +kernel) rfl
theorem q_409 : Cond.code ⟨"LetterSums$Sum", "endValue", "(III)J"⟩ prog_5_method_14_code 7 (Option.some Jvm.ClassFile.FieldType.long) ∈ zBig := zb_tab (i := 409) (by decide +kernel) rfl
theorem q_410 : Cond.methodLink "LetterSums$Sum" 83 ⟨"java/lang/Math", "max", "(II)I"⟩ ∈ zBig := zb_tab (i := 410) (by decide +kernel) rfl
theorem q_411 : Cond.methodLink "LetterSums$Sum" 88 ⟨"LetterSums$Sum", "digitAt", "(II)I"⟩ ∈ zBig := zb_tab (i := 411) (by decide +kernel) rfl
theorem q_412 : Cond.instanceMethod ⟨"LetterSums$Sum", "digitAt", "(II)I"⟩ ∈ zBig := zb_tab (i := 412) (by decide +kernel) rfl
theorem q_413 : Cond.selects "LetterSums$Sum" ⟨"LetterSums$Sum", "digitAt", "(II)I"⟩ ⟨"LetterSums$Sum", "digitAt", "(II)I"⟩ ∈ zBig := zb_tab (i := 413) (by decide +kernel) rfl
theorem q_414 : Cond.code ⟨"LetterSums$Sum", "digitAt", "(II)I"⟩ prog_5_method_8_code 5 (Option.some Jvm.ClassFile.FieldType.int) ∈ zBig := zb_tab (i := 414) (by decide +kernel) rfl
theorem q_415 : Cond.methodLink "LetterSums$Sum" 66 ⟨"LetterSums$Sum", "slotOf", "(I)I"⟩ ∈ zBig := zb_tab (i := 415) (by decide +kernel) rfl
theorem q_417 : Cond.methodLink "LetterSums$Sum" 73 ⟨"LetterSums$Sum", "isTakenAway", "(I)Z"⟩ ∈ zBig := zb_tab (i := 417) (by decide +kernel) rfl
theorem q_418 : Cond.methodLink "LetterSumsLaw" 59 ⟨"LetterSums", "carry", "(II)I"⟩ ∈ zBig := zb_tab (i := 418) (by decide +kernel) rfl
theorem q_419 : Cond.instanceMethod ⟨"LetterSums", "carry", "(II)I"⟩ ∈ zBig := zb_tab (i := 419) (by decide +kernel) rfl
theorem q_420 : Cond.selects "LetterSums" ⟨"LetterSums", "carry", "(II)I"⟩ ⟨"LetterSums", "carry", "(II)I"⟩ ∈ zBig := zb_tab (i := 420) (by decide +kernel) rfl
theorem q_421 : Cond.code ⟨"LetterSums", "carry", "(II)I"⟩ prog_1_method_10_code 3 (Option.some Jvm.ClassFile.FieldType.int) ∈ zBig := zb_tab (i := 421) (by decide +kernel) rfl
theorem q_422 : Cond.methodLink "LetterSums" 113 ⟨"LetterSums$Sum", "hasCarries", "()Z"⟩ ∈ zBig := zb_tab (i := 422) (by decide +kernel) rfl
theorem q_423 : Cond.instanceMethod ⟨"LetterSums$Sum", "hasCarries", "()Z"⟩ ∈ zBig := zb_tab (i := 423) (by decide +kernel) rfl
theorem q_424 : Cond.selects "LetterSums$Sum" ⟨"LetterSums$Sum", "hasCarries", "()Z"⟩ ⟨"LetterSums$Sum", "hasCarries", "()Z"⟩ ∈ zBig := zb_tab (i := 424) (by decide +kernel) rfl
theorem q_425 : Cond.code ⟨"LetterSums$Sum", "hasCarries", "()Z"⟩ prog_5_method_11_code 3 (Option.some Jvm.ClassFile.FieldType.boolean) ∈ zBig := zb_tab (i := 425) (by decide +kernel) rfl
theorem q_426 : Cond.methodLink "LetterSums" 117 ⟨"LetterSums$Sum", "carryFrom", "(II)I"⟩ ∈ zBig := zb_tab (i := 426) (by decide +kernel) rfl
theorem q_427 : Cond.instanceMethod ⟨"LetterSums$Sum", "carryFrom", "(II)I"⟩ ∈ zBig := zb_tab (i := 427) (by decide +kernel) rfl
theorem q_428 : Cond.selects "LetterSums$Sum" ⟨"LetterSums$Sum", "carryFrom", "(II)I"⟩ ⟨"LetterSums$Sum", "carryFrom", "(II)I"⟩ ∈ zBig := zb_tab (i := 428) (by decide +kernel) rfl
theorem q_429 : Cond.code ⟨"LetterSums$Sum", "carryFrom", "(II)I"⟩ prog_5_method_13_code 8 (Option.some Jvm.ClassFile.FieldType.int) ∈ zBig := zb_tab (i := 429) (by decide +kernel) rfl
theorem q_430 : Cond.methodLink "LetterSumsLaw" 63 ⟨"LetterSums", "text", "(II)I"⟩ ∈ zBig := zb_tab (i := 430) (by decide +kernel) rfl
theorem q_431 : Cond.instanceMethod ⟨"LetterSums", "text", "(II)I"⟩ ∈ zBig := zb_tab (i := 431) (by decide +kernel) rfl
theorem q_432 : Cond.selects "LetterSums" ⟨"LetterSums", "text", "(II)I"⟩ ⟨"LetterSums", "text", "(II)I"⟩ ∈ zBig := zb_tab (i := 432) (by decide +kernel) rfl
theorem q_433 : Cond.code ⟨"LetterSums", "text", "(II)I"⟩ prog_1_method_11_code 4 (Option.some Jvm.ClassFile.FieldType.int) ∈ zBig := zb_tab (i := 433) (by decide +kernel) rfl
theorem q_434 : Cond.methodLink "LetterSums" 120 ⟨"LetterSums$Sum", "byteAt", "(I)I"⟩ ∈ zBig := zb_tab (i := 434) (by decide +kernel) rfl
theorem q_435 : Cond.methodLink "LetterSums" 123 ⟨"LetterSums", "isLetter", "(I)Z"⟩ ∈ zBig := zb_tab (i := 435) (by decide +kernel) rfl
theorem q_436 : Cond.methodLink "LetterSums" 126 ⟨"LetterSums$Sum", "digitAt", "(II)I"⟩ ∈ zBig := zb_tab (i := 436) (by decide +kernel) rfl
theorem q_437 : Cond.methodLink "LetterSumsLaw" 67 ⟨"LetterSums", "one", "()Z"⟩ ∈ zBig := zb_tab (i := 437) (by decide +kernel) rfl
theorem q_438 : Cond.instanceMethod ⟨"LetterSums", "one", "()Z"⟩ ∈ zBig := zb_tab (i := 438) (by decide +kernel) rfl
theorem q_439 : Cond.selects "LetterSums" ⟨"LetterSums", "one", "()Z"⟩ ⟨"LetterSums", "one", "()Z"⟩ ∈ zBig := zb_tab (i := 439) (by decide +kernel) rfl
theorem q_440 : Cond.code ⟨"LetterSums", "one", "()Z"⟩ prog_1_method_12_code 1 (Option.some Jvm.ClassFile.FieldType.boolean) ∈ zBig := zb_tab (i := 440) (by decide +kernel) rfl
theorem q_441 : Cond.methodLink "LetterSumsLaw" 72 ⟨"LetterSums", "fixed", "()I"⟩ ∈ zBig := zb_tab (i := 441) (by decide +kernel) rfl
theorem q_442 : Cond.instanceMethod ⟨"LetterSums", "fixed", "()I"⟩ ∈ zBig := zb_tab (i := 442) (by decide +kernel) rfl
theorem q_443 : Cond.selects "LetterSums" ⟨"LetterSums", "fixed", "()I"⟩ ⟨"LetterSums", "fixed", "()I"⟩ ∈ zBig := zb_tab (i := 443) (by decide +kernel) rfl
theorem q_444 : Cond.code ⟨"LetterSums", "fixed", "()I"⟩ prog_1_method_13_code 3 (Option.some Jvm.ClassFile.FieldType.int) ∈ zBig := zb_tab (i := 444) (by decide +kernel) rfl
theorem q_445 : Cond.methodLink "LetterSums" 129 ⟨"LetterSums", "isAlwaysSame", "(I)Z"⟩ ∈ zBig := zb_tab (i := 445) (by decide +kernel) rfl
theorem q_447 : Cond.instanceMethod ⟨"LetterSums", "isAlwaysSame", "(I)Z"⟩ ∈ zBig := zb_tab (i := 447) (by decide +kernel) rfl
theorem q_448 : Cond.code ⟨"LetterSums", "isAlwaysSame", "(I)Z"⟩ prog_1_method_14_code 4 (Option.some Jvm.ClassFile.FieldType.boolean) ∈ zBig := zb_tab (i := 448) (by decide +kernel) rfl
theorem q_449 : Cond.methodLink "LetterSumsLaw" 9 ⟨"LetterSumsLaw", "cell", "([II)I"⟩ ∈ zBig := zb_tab (i := 449) (by decide +kernel) rfl
theorem q_450 : Cond.static ⟨"LetterSumsLaw", "cell", "([II)I"⟩ ∈ zBig := zb_tab (i := 450) (by decide +kernel) rfl
theorem q_451 : Cond.code ⟨"LetterSumsLaw", "cell", "([II)I"⟩ method_2_code 2 (Option.some Jvm.ClassFile.FieldType.int) ∈ zBig := zb_tab (i := 451) (by decide +kernel) rfl
theorem q_452 : Cond.classLink "LetterSumsLaw" 18 "LetterSumsModel" ∈ zBig := zb_tab (i := 452) (by decide +kernel) rfl
theorem q_453 : Cond.instantiable "LetterSumsModel" 28 ∈ zBig := zb_tab (i := 453) (by decide +kernel) rfl
theorem q_454 : Cond.methodLink "LetterSumsLaw" 20 ⟨"LetterSumsModel", "<init>", "(I)V"⟩ ∈ zBig := zb_tab (i := 454) (by decide +kernel) rfl
theorem q_455 : Cond.instanceMethod ⟨"LetterSumsModel", "<init>", "(I)V"⟩ ∈ zBig := zb_tab (i := 455) (by decide +kernel) rfl
theorem q_456 : Cond.code ⟨"LetterSumsModel", "<init>", "(I)V"⟩ prog_8_method_1_code 2 (Option.none : Option Jvm.ClassFile.FieldType) ∈ zBig := zb_tab (i := 456) (by decide +kernel) rfl
theorem q_457 : Cond.methodLink "LetterSumsModel" 1 ⟨"java/lang/Object", "<init>", "()V"⟩ ∈ zBig := zb_tab (i := 457) (by decide +kernel) rfl
theorem q_458 : Cond.fieldLink "LetterSumsModel" 67 "LetterSumsModel" "base" "I" ∈ zBig := zb_tab (i := 458) (by decide +kernel) rfl
theorem q_459 : Cond.fieldLink "LetterSumsModel" 7 "LetterSumsModel" "fed" "[I" ∈ zBig := zb_tab (i := 459) (by decide +kernel) rfl
theorem q_460 : Cond.fieldLink "LetterSumsModel" 74 "LetterSumsModel" "fedLong" "I" ∈ zBig := zb_tab (i := 460) (by decide +kernel) rfl
theorem q_461 : Cond.fieldLink "LetterSumsModel" 71 "LetterSumsModel" "thrown" "I" ∈ zBig := zb_tab (i := 461) (by decide +kernel) rfl
theorem q_462 : Cond.fieldLink "LetterSumsModel" 13 "LetterSumsModel" "text" "[I" ∈ zBig := zb_tab (i := 462) (by decide +kernel) rfl
theorem q_463 : Cond.fieldLink "LetterSumsModel" 91 "LetterSumsModel" "textLong" "I" ∈ zBig := zb_tab (i := 463) (by decide +kernel) rfl
theorem q_464 : Cond.fieldLink "LetterSumsModel" 94 "LetterSumsModel" "words" "I" ∈ zBig := zb_tab (i := 464) (by decide +kernel) rfl
theorem q_465 : Cond.fieldLink "LetterSumsModel" 97 "LetterSumsModel" "letters" "I" ∈ zBig := zb_tab (i := 465) (by decide +kernel) rfl
theorem q_466 : Cond.fieldLink "LetterSumsModel" 100 "LetterSumsModel" "kept" "I" ∈ zBig := zb_tab (i := 466) (by decide +kernel) rfl
theorem q_467 : Cond.fieldLink "LetterSumsModel" 16 "LetterSumsModel" "wordAt" "[I" ∈ zBig := zb_tab (i := 467) (by decide +kernel) rfl
theorem q_468 : Cond.fieldLink "LetterSumsModel" 19 "LetterSumsModel" "wordLong" "[I" ∈ zBig := zb_tab (i := 468) (by decide +kernel) rfl
theorem q_469 : Cond.fieldLink "LetterSumsModel" 22 "LetterSumsModel" "minus" "[Z" ∈ zBig := zb_tab (i := 469) (by decide +kernel) rfl
theorem q_470 : Cond.fieldLink "LetterSumsModel" 26 "LetterSumsModel" "wordSide" "[I" ∈ zBig := zb_tab (i := 470) (by decide +kernel) rfl
theorem q_471 : Cond.fieldLink "LetterSumsModel" 29 "LetterSumsModel" "letter" "[I" ∈ zBig := zb_tab (i := 471) (by decide +kernel) rfl
theorem q_472 : Cond.fieldLink "LetterSumsModel" 32 "LetterSumsModel" "barred" "Z" ∈ zBig := zb_tab (i := 472) (by decide +kernel) rfl
theorem q_473 : Cond.fieldLink "LetterSumsModel" 36 "LetterSumsModel" "newAt" "[I" ∈ zBig := zb_tab (i := 473) (by decide +kernel) rfl
theorem q_474 : Cond.fieldLink "LetterSumsModel" 39 "LetterSumsModel" "newLong" "[I" ∈ zBig := zb_tab (i := 474) (by decide +kernel) rfl
theorem q_475 : Cond.fieldLink "LetterSumsModel" 42 "LetterSumsModel" "newMinus" "[Z" ∈ zBig := zb_tab (i := 475) (by decide +kernel) rfl
theorem q_476 : Cond.fieldLink "LetterSumsModel" 45 "LetterSumsModel" "newSide" "[I" ∈ zBig := zb_tab (i := 476) (by decide +kernel) rfl
theorem q_477 : Cond.fieldLink "LetterSumsModel" 48 "LetterSumsModel" "seen" "[Z" ∈ zBig := zb_tab (i := 477) (by decide +kernel) rfl
theorem q_478 : Cond.fieldLink "LetterSumsModel" 51 "LetterSumsModel" "counts" "[J" ∈ zBig := zb_tab (i := 478) (by decide +kernel) rfl
theorem q_479 : Cond.fieldLink "LetterSumsModel" 55 "LetterSumsModel" "notZero" "[Z" ∈ zBig := zb_tab (i := 479) (by decide +kernel) rfl
theorem q_480 : Cond.fieldLink "LetterSumsModel" 103 "LetterSumsModel" "rest" "J" ∈ zBig := zb_tab (i := 480) (by decide +kernel) rfl
theorem q_481 : Cond.fieldLink "LetterSumsModel" 107 "LetterSumsModel" "impossible" "Z" ∈ zBig := zb_tab (i := 481) (by decide +kernel) rfl
theorem q_482 : Cond.fieldLink "LetterSumsModel" 58 "LetterSumsModel" "digit" "[I" ∈ zBig := zb_tab (i := 482) (by decide +kernel) rfl
theorem q_483 : Cond.fieldLink "LetterSumsModel" 61 "LetterSumsModel" "taken" "[Z" ∈ zBig := zb_tab (i := 483) (by decide +kernel) rfl
theorem q_484 : Cond.fieldLink "LetterSumsModel" 64 "LetterSumsModel" "answer" "[I" ∈ zBig := zb_tab (i := 484) (by decide +kernel) rfl
theorem q_485 : Cond.fieldLink "LetterSumsModel" 81 "LetterSumsModel" "newWords" "I" ∈ zBig := zb_tab (i := 485) (by decide +kernel) rfl
theorem q_486 : Cond.laysFinal "LetterSumsModel" "LetterSumsModel" "base" "I" ∈ zBig := zb_tab (i := 486) (by decide +kernel) rfl
theorem q_487 : Cond.soleField "LetterSumsModel" "base" ∈ zBig := zb_tab (i := 487) (by decide +kernel) rfl
theorem q_488 : Cond.laysFinal "LetterSumsModel" "LetterSumsModel" "fed" "[I" ∈ zBig := zb_tab (i := 488) (by decide +kernel) rfl
theorem q_489 : Cond.soleField "LetterSumsModel" "fed" ∈ zBig := zb_tab (i := 489) (by decide +kernel) rfl
theorem q_490 : Cond.lays "LetterSumsModel" "LetterSumsModel" "fedLong" "I" ∈ zBig := zb_tab (i := 490) (by decide +kernel) rfl
theorem q_491 : Cond.soleField "LetterSumsModel" "fedLong" ∈ zBig := zb_tab (i := 491) (by decide +kernel) rfl
theorem q_492 : Cond.lays "LetterSumsModel" "LetterSumsModel" "thrown" "I" ∈ zBig := zb_tab (i := 492) (by decide +kernel) rfl
theorem q_493 : Cond.soleField "LetterSumsModel" "thrown" ∈ zBig := zb_tab (i := 493) (by decide +kernel) rfl
theorem q_494 : Cond.laysFinal "LetterSumsModel" "LetterSumsModel" "text" "[I" ∈ zBig := zb_tab (i := 494) (by decide +kernel) rfl
theorem q_495 : Cond.soleField "LetterSumsModel" "text" ∈ zBig := zb_tab (i := 495) (by decide +kernel) rfl
theorem q_496 : Cond.lays "LetterSumsModel" "LetterSumsModel" "textLong" "I" ∈ zBig := zb_tab (i := 496) (by decide +kernel) rfl
theorem q_497 : Cond.soleField "LetterSumsModel" "textLong" ∈ zBig := zb_tab (i := 497) (by decide +kernel) rfl
theorem q_498 : Cond.lays "LetterSumsModel" "LetterSumsModel" "words" "I" ∈ zBig := zb_tab (i := 498) (by decide +kernel) rfl
theorem q_499 : Cond.soleField "LetterSumsModel" "words" ∈ zBig := zb_tab (i := 499) (by decide +kernel) rfl
theorem q_500 : Cond.lays "LetterSumsModel" "LetterSumsModel" "letters" "I" ∈ zBig := zb_tab (i := 500) (by decide +kernel) rfl
theorem q_501 : Cond.soleField "LetterSumsModel" "letters" ∈ zBig := zb_tab (i := 501) (by decide +kernel) rfl
theorem q_502 : Cond.lays "LetterSumsModel" "LetterSumsModel" "kept" "I" ∈ zBig := zb_tab (i := 502) (by decide +kernel) rfl
theorem q_503 : Cond.soleField "LetterSumsModel" "kept" ∈ zBig := zb_tab (i := 503) (by decide +kernel) rfl
theorem q_504 : Cond.laysFinal "LetterSumsModel" "LetterSumsModel" "wordAt" "[I" ∈ zBig := zb_tab (i := 504) (by decide +kernel) rfl
theorem q_505 : Cond.soleField "LetterSumsModel" "wordAt" ∈ zBig := zb_tab (i := 505) (by decide +kernel) rfl
theorem q_506 : Cond.laysFinal "LetterSumsModel" "LetterSumsModel" "wordLong" "[I" ∈ zBig := zb_tab (i := 506) (by decide +kernel) rfl
theorem q_507 : Cond.soleField "LetterSumsModel" "wordLong" ∈ zBig := zb_tab (i := 507) (by decide +kernel) rfl
theorem q_508 : Cond.laysFinal "LetterSumsModel" "LetterSumsModel" "minus" "[Z" ∈ zBig := zb_tab (i := 508) (by decide +kernel) rfl
theorem q_509 : Cond.soleField "LetterSumsModel" "minus" ∈ zBig := zb_tab (i := 509) (by decide +kernel) rfl
theorem q_510 : Cond.laysFinal "LetterSumsModel" "LetterSumsModel" "wordSide" "[I" ∈ zBig := zb_tab (i := 510) (by decide +kernel) rfl
theorem q_511 : Cond.soleField "LetterSumsModel" "wordSide" ∈ zBig := zb_tab (i := 511) (by decide +kernel) rfl
theorem q_512 : Cond.laysFinal "LetterSumsModel" "LetterSumsModel" "letter" "[I" ∈ zBig := zb_tab (i := 512) (by decide +kernel) rfl
theorem q_513 : Cond.soleField "LetterSumsModel" "letter" ∈ zBig := zb_tab (i := 513) (by decide +kernel) rfl
theorem q_514 : Cond.lays "LetterSumsModel" "LetterSumsModel" "barred" "Z" ∈ zBig := zb_tab (i := 514) (by decide +kernel) rfl
theorem q_515 : Cond.soleField "LetterSumsModel" "barred" ∈ zBig := zb_tab (i := 515) (by decide +kernel) rfl
theorem q_516 : Cond.laysFinal "LetterSumsModel" "LetterSumsModel" "newAt" "[I" ∈ zBig := zb_tab (i := 516) (by decide +kernel) rfl
theorem q_517 : Cond.soleField "LetterSumsModel" "newAt" ∈ zBig := zb_tab (i := 517) (by decide +kernel) rfl
theorem q_518 : Cond.laysFinal "LetterSumsModel" "LetterSumsModel" "newLong" "[I" ∈ zBig := zb_tab (i := 518) (by decide +kernel) rfl
theorem q_519 : Cond.soleField "LetterSumsModel" "newLong" ∈ zBig := zb_tab (i := 519) (by decide +kernel) rfl
theorem q_520 : Cond.laysFinal "LetterSumsModel" "LetterSumsModel" "newMinus" "[Z" ∈ zBig := zb_tab (i := 520) (by decide +kernel) rfl
theorem q_521 : Cond.soleField "LetterSumsModel" "newMinus" ∈ zBig := zb_tab (i := 521) (by decide +kernel) rfl
theorem q_522 : Cond.laysFinal "LetterSumsModel" "LetterSumsModel" "newSide" "[I" ∈ zBig := zb_tab (i := 522) (by decide +kernel) rfl
theorem q_523 : Cond.soleField "LetterSumsModel" "newSide" ∈ zBig := zb_tab (i := 523) (by decide +kernel) rfl
theorem q_524 : Cond.laysFinal "LetterSumsModel" "LetterSumsModel" "seen" "[Z" ∈ zBig := zb_tab (i := 524) (by decide +kernel) rfl
theorem q_525 : Cond.soleField "LetterSumsModel" "seen" ∈ zBig := zb_tab (i := 525) (by decide +kernel) rfl
theorem q_526 : Cond.laysFinal "LetterSumsModel" "LetterSumsModel" "counts" "[J" ∈ zBig := zb_tab (i := 526) (by decide +kernel) rfl
theorem q_527 : Cond.soleField "LetterSumsModel" "counts" ∈ zBig := zb_tab (i := 527) (by decide +kernel) rfl
theorem q_528 : Cond.laysFinal "LetterSumsModel" "LetterSumsModel" "notZero" "[Z" ∈ zBig := zb_tab (i := 528) (by decide +kernel) rfl
theorem q_529 : Cond.soleField "LetterSumsModel" "notZero" ∈ zBig := zb_tab (i := 529) (by decide +kernel) rfl
theorem q_530 : Cond.lays "LetterSumsModel" "LetterSumsModel" "rest" "J" ∈ zBig := zb_tab (i := 530) (by decide +kernel) rfl
theorem q_531 : Cond.soleField "LetterSumsModel" "rest" ∈ zBig := zb_tab (i := 531) (by decide +kernel) rfl
theorem q_532 : Cond.lays "LetterSumsModel" "LetterSumsModel" "impossible" "Z" ∈ zBig := zb_tab (i := 532) (by decide +kernel) rfl
theorem q_533 : Cond.soleField "LetterSumsModel" "impossible" ∈ zBig := zb_tab (i := 533) (by decide +kernel) rfl
theorem q_534 : Cond.laysFinal "LetterSumsModel" "LetterSumsModel" "digit" "[I" ∈ zBig := zb_tab (i := 534) (by decide +kernel) rfl
theorem q_535 : Cond.soleField "LetterSumsModel" "digit" ∈ zBig := zb_tab (i := 535) (by decide +kernel) rfl
theorem q_536 : Cond.laysFinal "LetterSumsModel" "LetterSumsModel" "taken" "[Z" ∈ zBig := zb_tab (i := 536) (by decide +kernel) rfl
theorem q_537 : Cond.soleField "LetterSumsModel" "taken" ∈ zBig := zb_tab (i := 537) (by decide +kernel) rfl
theorem q_538 : Cond.laysFinal "LetterSumsModel" "LetterSumsModel" "answer" "[I" ∈ zBig := zb_tab (i := 538) (by decide +kernel) rfl
theorem q_539 : Cond.soleField "LetterSumsModel" "answer" ∈ zBig := zb_tab (i := 539) (by decide +kernel) rfl
theorem q_540 : Cond.lays "LetterSumsModel" "LetterSumsModel" "newWords" "I" ∈ zBig := zb_tab (i := 540) (by decide +kernel) rfl
theorem q_541 : Cond.soleField "LetterSumsModel" "newWords" ∈ zBig := zb_tab (i := 541) (by decide +kernel) rfl
theorem q_542 : Cond.superclass "LetterSumsModel" "java/lang/Object" ∈ zBig := zb_tab (i := 542) (by decide +kernel) rfl
theorem q_543 : Cond.arrayClass Jvm.ClassFile.FieldType.boolean ∈ zBig := zb_tab (i := 543) (by decide +kernel) rfl
theorem q_544 : Cond.arrayClass Jvm.ClassFile.FieldType.long ∈ zBig := zb_tab (i := 544) (by decide +kernel) rfl
theorem q_545 : Cond.methodLink "LetterSumsLaw" 25 ⟨"LetterSumsModel", "unit", "(I)Z"⟩ ∈ zBig := zb_tab (i := 545) (by decide +kernel) rfl
theorem q_546 : Cond.instanceMethod ⟨"LetterSumsModel", "unit", "(I)Z"⟩ ∈ zBig := zb_tab (i := 546) (by decide +kernel) rfl
theorem q_547 : Cond.selects "LetterSumsModel" ⟨"LetterSumsModel", "unit", "(I)Z"⟩ ⟨"LetterSumsModel", "unit", "(I)Z"⟩ ∈ zBig := zb_tab (i := 547) (by decide +kernel) rfl
theorem q_548 : Cond.code ⟨"LetterSumsModel", "unit", "(I)Z"⟩ prog_8_method_3_code 2 (Option.some Jvm.ClassFile.FieldType.boolean) ∈ zBig := zb_tab (i := 548) (by decide +kernel) rfl
theorem q_549 : Cond.methodLink "LetterSumsLaw" 30 ⟨"LetterSumsModel", "read", "()I"⟩ ∈ zBig := zb_tab (i := 549) (by decide +kernel) rfl
theorem q_550 : Cond.instanceMethod ⟨"LetterSumsModel", "read", "()I"⟩ ∈ zBig := zb_tab (i := 550) (by decide +kernel) rfl
theorem q_551 : Cond.selects "LetterSumsModel" ⟨"LetterSumsModel", "read", "()I"⟩ ⟨"LetterSumsModel", "read", "()I"⟩ ∈ zBig := zb_tab (i := 551) (by decide +kernel) rfl
theorem q_552 : Cond.code ⟨"LetterSumsModel", "read", "()I"⟩ prog_8_method_7_code 4 (Option.some Jvm.ClassFile.FieldType.int) ∈ zBig := zb_tab (i := 552) (by decide +kernel) rfl
theorem q_553 : Cond.methodLink "LetterSumsModel" 87 ⟨"LetterSumsModel", "look", "(I)I"⟩ ∈ zBig := zb_tab (i := 553) (by decide +kernel) rfl
theorem q_555 : Cond.instanceMethod ⟨"LetterSumsModel", "look", "(I)I"⟩ ∈ zBig := zb_tab (i := 555) (by decide +kernel) rfl
theorem q_556 : Cond.code ⟨"LetterSumsModel", "look", "(I)I"⟩ prog_8_method_6_code 8 (Option.some Jvm.ClassFile.FieldType.int) ∈ zBig := zb_tab (i := 556) (by decide +kernel) rfl
theorem q_557 : Cond.methodLink "LetterSumsModel" 84 ⟨"LetterSumsModel", "isSign", "(I)Z"⟩ ∈ zBig := zb_tab (i := 557) (by decide +kernel) rfl
theorem q_559 : Cond.instanceMethod ⟨"LetterSumsModel", "isSign", "(I)Z"⟩ ∈ zBig := zb_tab (i := 559) (by decide +kernel) rfl
theorem q_560 : Cond.code ⟨"LetterSumsModel", "isSign", "(I)Z"⟩ prog_8_method_5_code 2 (Option.some Jvm.ClassFile.FieldType.boolean) ∈ zBig := zb_tab (i := 560) (by decide +kernel) rfl
theorem q_561 : Cond.methodLink "LetterSumsModel" 77 ⟨"LetterSumsModel", "isLetter", "(I)Z"⟩ ∈ zBig := zb_tab (i := 561) (by decide +kernel) rfl
theorem q_562 : Cond.static ⟨"LetterSumsModel", "isLetter", "(I)Z"⟩ ∈ zBig := zb_tab (i := 562) (by decide +kernel) rfl
theorem q_563 : Cond.code ⟨"LetterSumsModel", "isLetter", "(I)Z"⟩ prog_8_method_4_code 1 (Option.some Jvm.ClassFile.FieldType.boolean) ∈ zBig := zb_tab (i := 563) (by decide +kernel) rfl
theorem q_564 : Cond.methodLink "LetterSumsLaw" 35 ⟨"LetterSumsModel", "bar", "(Z)V"⟩ ∈ zBig := zb_tab (i := 564) (by decide +kernel) rfl
theorem q_565 : Cond.instanceMethod ⟨"LetterSumsModel", "bar", "(Z)V"⟩ ∈ zBig := zb_tab (i := 565) (by decide +kernel) rfl
theorem q_566 : Cond.selects "LetterSumsModel" ⟨"LetterSumsModel", "bar", "(Z)V"⟩ ⟨"LetterSumsModel", "bar", "(Z)V"⟩ ∈ zBig := zb_tab (i := 566) (by decide +kernel) rfl
theorem q_567 : Cond.code ⟨"LetterSumsModel", "bar", "(Z)V"⟩ prog_8_method_8_code 2 (Option.none : Option Jvm.ClassFile.FieldType) ∈ zBig := zb_tab (i := 567) (by decide +kernel) rfl
theorem q_568 : Cond.methodLink "LetterSumsLaw" 39 ⟨"LetterSumsModel", "letters", "()I"⟩ ∈ zBig := zb_tab (i := 568) (by decide +kernel) rfl
theorem q_569 : Cond.instanceMethod ⟨"LetterSumsModel", "letters", "()I"⟩ ∈ zBig := zb_tab (i := 569) (by decide +kernel) rfl
theorem q_570 : Cond.selects "LetterSumsModel" ⟨"LetterSumsModel", "letters", "()I"⟩ ⟨"LetterSumsModel", "letters", "()I"⟩ ∈ zBig := zb_tab (i := 570) (by decide +kernel) rfl
theorem q_571 : Cond.code ⟨"LetterSumsModel", "letters", "()I"⟩ prog_8_method_9_code 1 (Option.some Jvm.ClassFile.FieldType.int) ∈ zBig := zb_tab (i := 571) (by decide +kernel) rfl
theorem q_572 : Cond.methodLink "LetterSumsLaw" 44 ⟨"LetterSumsModel", "letter", "(I)I"⟩ ∈ zBig := zb_tab (i := 572) (by decide +kernel) rfl
theorem q_573 : Cond.instanceMethod ⟨"LetterSumsModel", "letter", "(I)I"⟩ ∈ zBig := zb_tab (i := 573) (by decide +kernel) rfl
theorem q_574 : Cond.selects "LetterSumsModel" ⟨"LetterSumsModel", "letter", "(I)I"⟩ ⟨"LetterSumsModel", "letter", "(I)I"⟩ ∈ zBig := zb_tab (i := 574) (by decide +kernel) rfl
theorem q_575 : Cond.code ⟨"LetterSumsModel", "letter", "(I)I"⟩ prog_8_method_10_code 2 (Option.some Jvm.ClassFile.FieldType.int) ∈ zBig := zb_tab (i := 575) (by decide +kernel) rfl
theorem q_576 : Cond.methodLink "LetterSumsLaw" 48 ⟨"LetterSumsModel", "run", "(I)I"⟩ ∈ zBig := zb_tab (i := 576) (by decide +kernel) rfl
theorem q_577 : Cond.instanceMethod ⟨"LetterSumsModel", "run", "(I)I"⟩ ∈ zBig := zb_tab (i := 577) (by decide +kernel) rfl
theorem q_578 : Cond.selects "LetterSumsModel" ⟨"LetterSumsModel", "run", "(I)I"⟩ ⟨"LetterSumsModel", "run", "(I)I"⟩ ∈ zBig := zb_tab (i := 578) (by decide +kernel) rfl
theorem q_579 : Cond.code ⟨"LetterSumsModel", "run", "(I)I"⟩ prog_8_method_14_code 2 (Option.some Jvm.ClassFile.FieldType.int) ∈ zBig := zb_tab (i := 579) (by decide +kernel) rfl
theorem q_580 : Cond.methodLink "LetterSumsModel" 118 ⟨"LetterSumsModel", "goThrough", "(IZ)I"⟩ ∈ zBig := zb_tab (i := 580) (by decide +kernel) rfl
theorem q_582 : Cond.instanceMethod ⟨"LetterSumsModel", "goThrough", "(IZ)I"⟩ ∈ zBig := zb_tab (i := 582) (by decide +kernel) rfl
theorem q_583 : Cond.code ⟨"LetterSumsModel", "goThrough", "(IZ)I"⟩ prog_8_method_13_code 9 (Option.some Jvm.ClassFile.FieldType.int) ∈ zBig := zb_tab (i := 583) (by decide +kernel) rfl
theorem q_584 : Cond.methodLink "LetterSumsModel" 115 ⟨"LetterSumsModel", "weigh", "()V"⟩ ∈ zBig := zb_tab (i := 584) (by decide +kernel) rfl
theorem q_586 : Cond.instanceMethod ⟨"LetterSumsModel", "weigh", "()V"⟩ ∈ zBig := zb_tab (i := 586) (by decide +kernel) rfl
theorem q_587 : Cond.code ⟨"LetterSumsModel", "weigh", "()V"⟩ prog_8_method_12_code 6 (Option.none : Option Jvm.ClassFile.FieldType) ∈ zBig := zb_tab (i := 587) (by decide +kernel) rfl
theorem q_588 : Cond.constantLong "LetterSumsModel" 110 (-1) ∈ zBig := zb_tab (i := 588) (by decide +kernel) rfl
theorem q_589 : Cond.methodLink "LetterSumsModel" 112 ⟨"LetterSumsModel", "indexOf", "(I)I"⟩ ∈ zBig := zb_tab (i := 589) (by decide +kernel) rfl
theorem q_591 : Cond.instanceMethod ⟨"LetterSumsModel", "indexOf", "(I)I"⟩ ∈ zBig := zb_tab (i := 591) (by decide +kernel) rfl
theorem q_592 : Cond.code ⟨"LetterSumsModel", "indexOf", "(I)I"⟩ prog_8_method_11_code 3 (Option.some Jvm.ClassFile.FieldType.int) ∈ zBig := zb_tab (i := 592) (by decide +kernel) rfl
theorem q_593 : Cond.methodLink "LetterSumsLaw" 71 ⟨"LetterSumsModel", "one", "()Z"⟩ ∈ zBig := zb_tab (i := 593) (by decide +kernel) rfl
theorem q_594 : Cond.instanceMethod ⟨"LetterSumsModel", "one", "()Z"⟩ ∈ zBig := zb_tab (i := 594) (by decide +kernel) rfl
theorem q_595 : Cond.selects "LetterSumsModel" ⟨"LetterSumsModel", "one", "()Z"⟩ ⟨"LetterSumsModel", "one", "()Z"⟩ ∈ zBig := zb_tab (i := 595) (by decide +kernel) rfl
theorem q_596 : Cond.code ⟨"LetterSumsModel", "one", "()Z"⟩ prog_8_method_15_code 1 (Option.some Jvm.ClassFile.FieldType.boolean) ∈ zBig := zb_tab (i := 596) (by decide +kernel) rfl
theorem q_597 : Cond.methodLink "LetterSumsLaw" 53 ⟨"LetterSumsModel", "digit", "(II)I"⟩ ∈ zBig := zb_tab (i := 597) (by decide +kernel) rfl
theorem q_598 : Cond.instanceMethod ⟨"LetterSumsModel", "digit", "(II)I"⟩ ∈ zBig := zb_tab (i := 598) (by decide +kernel) rfl
theorem q_599 : Cond.selects "LetterSumsModel" ⟨"LetterSumsModel", "digit", "(II)I"⟩ ⟨"LetterSumsModel", "digit", "(II)I"⟩ ∈ zBig := zb_tab (i := 599) (by decide +kernel) rfl
theorem q_600 : Cond.code ⟨"LetterSumsModel", "digit", "(II)I"⟩ prog_8_method_17_code 4 (Option.some Jvm.ClassFile.FieldType.int) ∈ zBig := zb_tab (i := 600) (by decide +kernel) rfl
theorem q_601 : Cond.methodLink "LetterSumsModel" 122 ⟨"LetterSumsModel", "isAnswer", "(I)Z"⟩ ∈ zBig := zb_tab (i := 601) (by decide +kernel) rfl
theorem q_603 : Cond.instanceMethod ⟨"LetterSumsModel", "isAnswer", "(I)Z"⟩ ∈ zBig := zb_tab (i := 603) (by decide +kernel) rfl
theorem q_604 : Cond.code ⟨"LetterSumsModel", "isAnswer", "(I)Z"⟩ prog_8_method_16_code 2 (Option.some Jvm.ClassFile.FieldType.boolean) ∈ zBig := zb_tab (i := 604) (by decide +kernel) rfl
theorem q_605 : Cond.methodLink "LetterSumsLaw" 58 ⟨"LetterSumsModel", "side", "(II)J"⟩ ∈ zBig := zb_tab (i := 605) (by decide +kernel) rfl
theorem q_606 : Cond.instanceMethod ⟨"LetterSumsModel", "side", "(II)J"⟩ ∈ zBig := zb_tab (i := 606) (by decide +kernel) rfl
theorem q_607 : Cond.selects "LetterSumsModel" ⟨"LetterSumsModel", "side", "(II)J"⟩ ⟨"LetterSumsModel", "side", "(II)J"⟩ ∈ zBig := zb_tab (i := 607) (by decide +kernel) rfl
theorem q_608 : Cond.code ⟨"LetterSumsModel", "side", "(II)J"⟩ prog_8_method_20_code 6 (Option.some Jvm.ClassFile.FieldType.long) ∈ zBig := zb_tab (i := 608) (by decide +kernel) rfl
theorem q_609 : Cond.methodLink "LetterSumsModel" 129 ⟨"LetterSumsModel", "wordOf", "(III)J"⟩ ∈ zBig := zb_tab (i := 609) (by decide +kernel) rfl
theorem q_611 : Cond.instanceMethod ⟨"LetterSumsModel", "wordOf", "(III)J"⟩ ∈ zBig := zb_tab (i := 611) (by decide +kernel) rfl
theorem q_612 : Cond.code ⟨"LetterSumsModel", "wordOf", "(III)J"⟩ prog_8_method_19_code 8 (Option.some Jvm.ClassFile.FieldType.long) ∈ zBig := zb_tab (i := 612) (by decide +kernel) rfl
theorem q_613 : Cond.methodLink "LetterSumsModel" 125 ⟨"LetterSumsModel", "digitAt", "(II)I"⟩ ∈ zBig := zb_tab (i := 613) (by decide +kernel) rfl
theorem q_615 : Cond.instanceMethod ⟨"LetterSumsModel", "digitAt", "(II)I"⟩ ∈ zBig := zb_tab (i := 615) (by decide +kernel) rfl
theorem q_616 : Cond.code ⟨"LetterSumsModel", "digitAt", "(II)I"⟩ prog_8_method_18_code 4 (Option.some Jvm.ClassFile.FieldType.int) ∈ zBig := zb_tab (i := 616) (by decide +kernel) rfl
theorem q_617 : Cond.methodLink "LetterSumsLaw" 62 ⟨"LetterSumsModel", "carry", "(II)I"⟩ ∈ zBig := zb_tab (i := 617) (by decide +kernel) rfl
theorem q_618 : Cond.instanceMethod ⟨"LetterSumsModel", "carry", "(II)I"⟩ ∈ zBig := zb_tab (i := 618) (by decide +kernel) rfl
theorem q_619 : Cond.selects "LetterSumsModel" ⟨"LetterSumsModel", "carry", "(II)I"⟩ ⟨"LetterSumsModel", "carry", "(II)I"⟩ ∈ zBig := zb_tab (i := 619) (by decide +kernel) rfl
theorem q_620 : Cond.code ⟨"LetterSumsModel", "carry", "(II)I"⟩ prog_8_method_22_code 6 (Option.some Jvm.ClassFile.FieldType.int) ∈ zBig := zb_tab (i := 620) (by decide +kernel) rfl
theorem q_621 : Cond.methodLink "LetterSumsModel" 133 ⟨"LetterSumsModel", "hasCarries", "()Z"⟩ ∈ zBig := zb_tab (i := 621) (by decide +kernel) rfl
theorem q_623 : Cond.instanceMethod ⟨"LetterSumsModel", "hasCarries", "()Z"⟩ ∈ zBig := zb_tab (i := 623) (by decide +kernel) rfl
theorem q_624 : Cond.code ⟨"LetterSumsModel", "hasCarries", "()Z"⟩ prog_8_method_21_code 3 (Option.some Jvm.ClassFile.FieldType.boolean) ∈ zBig := zb_tab (i := 624) (by decide +kernel) rfl
theorem q_625 : Cond.methodLink "LetterSumsLaw" 66 ⟨"LetterSumsModel", "text", "(II)I"⟩ ∈ zBig := zb_tab (i := 625) (by decide +kernel) rfl
theorem q_626 : Cond.instanceMethod ⟨"LetterSumsModel", "text", "(II)I"⟩ ∈ zBig := zb_tab (i := 626) (by decide +kernel) rfl
theorem q_627 : Cond.selects "LetterSumsModel" ⟨"LetterSumsModel", "text", "(II)I"⟩ ⟨"LetterSumsModel", "text", "(II)I"⟩ ∈ zBig := zb_tab (i := 627) (by decide +kernel) rfl
theorem q_628 : Cond.code ⟨"LetterSumsModel", "text", "(II)I"⟩ prog_8_method_23_code 3 (Option.some Jvm.ClassFile.FieldType.int) ∈ zBig := zb_tab (i := 628) (by decide +kernel) rfl
theorem q_629 : Cond.methodLink "LetterSumsLaw" 75 ⟨"LetterSumsModel", "fixed", "()I"⟩ ∈ zBig := zb_tab (i := 629) (by decide +kernel) rfl
theorem q_630 : Cond.instanceMethod ⟨"LetterSumsModel", "fixed", "()I"⟩ ∈ zBig := zb_tab (i := 630) (by decide +kernel) rfl
theorem q_631 : Cond.selects "LetterSumsModel" ⟨"LetterSumsModel", "fixed", "()I"⟩ ⟨"LetterSumsModel", "fixed", "()I"⟩ ∈ zBig := zb_tab (i := 631) (by decide +kernel) rfl
theorem q_632 : Cond.code ⟨"LetterSumsModel", "fixed", "()I"⟩ prog_8_method_24_code 5 (Option.some Jvm.ClassFile.FieldType.int) ∈ zBig := zb_tab (i := 632) (by decide +kernel) rfl
theorem qs_0 : Cond.selects "LetterSums$Grammar" ⟨"LetterSums$Grammar", "admits", "(I)Z"⟩ ⟨"LetterSums$Grammar", "admits", "(I)Z"⟩ ∈ zBig := zb_sel (i := 0) (by decide +kernel) rfl
theorem qs_1 : Cond.selects "LetterSums$Grammar" ⟨"LetterSums$Grammar", "admitsLetter", "(I)Z"⟩ ⟨"LetterSums$Grammar", "admitsLetter", "(I)Z"⟩ ∈ zBig := zb_sel (i := 1) (by decide +kernel) rfl
theorem qs_2 : Cond.selects "LetterSums$Grammar" ⟨"LetterSums$Grammar", "admitsSign", "()Z"⟩ ⟨"LetterSums$Grammar", "admitsSign", "()Z"⟩ ∈ zBig := zb_sel (i := 2) (by decide +kernel) rfl
theorem qs_3 : Cond.selects "LetterSums$Grammar" ⟨"LetterSums$Grammar", "admitsEquals", "()Z"⟩ ⟨"LetterSums$Grammar", "admitsEquals", "()Z"⟩ ∈ zBig := zb_sel (i := 3) (by decide +kernel) rfl
theorem qs_4 : Cond.selects "LetterSums$Grammar" ⟨"LetterSums$Grammar", "endsWord", "()Z"⟩ ⟨"LetterSums$Grammar", "endsWord", "()Z"⟩ ∈ zBig := zb_sel (i := 4) (by decide +kernel) rfl
theorem qs_5 : Cond.selects "LetterSums$Sum" ⟨"LetterSums$Sum", "listWords", "()V"⟩ ⟨"LetterSums$Sum", "listWords", "()V"⟩ ∈ zBig := zb_sel (i := 5) (by decide +kernel) rfl
theorem qs_6 : Cond.selects "LetterSums$Sum" ⟨"LetterSums$Sum", "listLetters", "()V"⟩ ⟨"LetterSums$Sum", "listLetters", "()V"⟩ ∈ zBig := zb_sel (i := 6) (by decide +kernel) rfl
theorem qs_7 : Cond.selects "LetterSums" ⟨"LetterSums", "allAnswers", "()LLetterSums$Answers;"⟩ ⟨"LetterSums", "allAnswers", "()LLetterSums$Answers;"⟩ ∈ zBig := zb_sel (i := 7) (by decide +kernel) rfl
theorem qs_8 : Cond.selects "LetterSums" ⟨"LetterSums", "currentAnswers", "()LLetterSums$Answers;"⟩ ⟨"LetterSums", "currentAnswers", "()LLetterSums$Answers;"⟩ ∈ zBig := zb_sel (i := 8) (by decide +kernel) rfl
theorem qs_9 : Cond.selects "LetterSums$Weights" ⟨"LetterSums$Weights", "weighWord", "(LLetterSums$Sum;I)V"⟩ ⟨"LetterSums$Weights", "weighWord", "(LLetterSums$Sum;I)V"⟩ ∈ zBig := zb_sel (i := 9) (by decide +kernel) rfl
theorem qs_10 : Cond.selects "LetterSums$Weights" ⟨"LetterSums$Weights", "noteFront", "(LLetterSums$Sum;I)V"⟩ ⟨"LetterSums$Weights", "noteFront", "(LLetterSums$Sum;I)V"⟩ ∈ zBig := zb_sel (i := 10) (by decide +kernel) rfl
theorem qs_11 : Cond.selects "LetterSums$Search" ⟨"LetterSums$Search", "listLater", "(IIII)V"⟩ ⟨"LetterSums$Search", "listLater", "(IIII)V"⟩ ∈ zBig := zb_sel (i := 11) (by decide +kernel) rfl
theorem qs_12 : Cond.selects "LetterSums$Search" ⟨"LetterSums$Search", "addWay", "(III)V"⟩ ⟨"LetterSums$Search", "addWay", "(III)V"⟩ ∈ zBig := zb_sel (i := 12) (by decide +kernel) rfl
theorem qs_13 : Cond.selects "LetterSums$Search" ⟨"LetterSums$Search", "mayBe", "(III)Z"⟩ ⟨"LetterSums$Search", "mayBe", "(III)Z"⟩ ∈ zBig := zb_sel (i := 13) (by decide +kernel) rfl
theorem qs_14 : Cond.selects "LetterSums$Search" ⟨"LetterSums$Search", "chainWays", "()V"⟩ ⟨"LetterSums$Search", "chainWays", "()V"⟩ ∈ zBig := zb_sel (i := 14) (by decide +kernel) rfl
theorem qs_15 : Cond.selects "LetterSums$Search" ⟨"LetterSums$Search", "tryEarlier", "(IIIILLetterSums$Answers;)V"⟩ ⟨"LetterSums$Search", "tryEarlier", "(IIIILLetterSums$Answers;)V"⟩ ∈ zBig := zb_sel (i := 15) (by decide +kernel) rfl
theorem qs_16 : Cond.selects "LetterSums$Search" ⟨"LetterSums$Search", "join", "(IIILLetterSums$Answers;)V"⟩ ⟨"LetterSums$Search", "join", "(IIILLetterSums$Answers;)V"⟩ ∈ zBig := zb_sel (i := 16) (by decide +kernel) rfl
theorem qs_17 : Cond.selects "LetterSums" ⟨"LetterSums", "isKept", "(I)Z"⟩ ⟨"LetterSums", "isKept", "(I)Z"⟩ ∈ zBig := zb_sel (i := 17) (by decide +kernel) rfl
theorem qs_18 : Cond.selects "LetterSums" ⟨"LetterSums", "answer", "(I)I"⟩ ⟨"LetterSums", "answer", "(I)I"⟩ ∈ zBig := zb_sel (i := 18) (by decide +kernel) rfl
theorem qs_19 : Cond.selects "LetterSums$Sum" ⟨"LetterSums$Sum", "endValue", "(III)J"⟩ ⟨"LetterSums$Sum", "endValue", "(III)J"⟩ ∈ zBig := zb_sel (i := 19) (by decide +kernel) rfl
theorem qs_20 : Cond.selects "LetterSums" ⟨"LetterSums", "isAlwaysSame", "(I)Z"⟩ ⟨"LetterSums", "isAlwaysSame", "(I)Z"⟩ ∈ zBig := zb_sel (i := 20) (by decide +kernel) rfl
theorem qs_21 : Cond.selects "LetterSumsModel" ⟨"LetterSumsModel", "look", "(I)I"⟩ ⟨"LetterSumsModel", "look", "(I)I"⟩ ∈ zBig := zb_sel (i := 21) (by decide +kernel) rfl
theorem qs_22 : Cond.selects "LetterSumsModel" ⟨"LetterSumsModel", "isSign", "(I)Z"⟩ ⟨"LetterSumsModel", "isSign", "(I)Z"⟩ ∈ zBig := zb_sel (i := 22) (by decide +kernel) rfl
theorem qs_23 : Cond.selects "LetterSumsModel" ⟨"LetterSumsModel", "goThrough", "(IZ)I"⟩ ⟨"LetterSumsModel", "goThrough", "(IZ)I"⟩ ∈ zBig := zb_sel (i := 23) (by decide +kernel) rfl
theorem qs_24 : Cond.selects "LetterSumsModel" ⟨"LetterSumsModel", "weigh", "()V"⟩ ⟨"LetterSumsModel", "weigh", "()V"⟩ ∈ zBig := zb_sel (i := 24) (by decide +kernel) rfl
theorem qs_25 : Cond.selects "LetterSumsModel" ⟨"LetterSumsModel", "indexOf", "(I)I"⟩ ⟨"LetterSumsModel", "indexOf", "(I)I"⟩ ∈ zBig := zb_sel (i := 25) (by decide +kernel) rfl
theorem qs_26 : Cond.selects "LetterSumsModel" ⟨"LetterSumsModel", "isAnswer", "(I)Z"⟩ ⟨"LetterSumsModel", "isAnswer", "(I)Z"⟩ ∈ zBig := zb_sel (i := 26) (by decide +kernel) rfl
theorem qs_27 : Cond.selects "LetterSumsModel" ⟨"LetterSumsModel", "wordOf", "(III)J"⟩ ⟨"LetterSumsModel", "wordOf", "(III)J"⟩ ∈ zBig := zb_sel (i := 27) (by decide +kernel) rfl
theorem qs_28 : Cond.selects "LetterSumsModel" ⟨"LetterSumsModel", "digitAt", "(II)I"⟩ ⟨"LetterSumsModel", "digitAt", "(II)I"⟩ ∈ zBig := zb_sel (i := 28) (by decide +kernel) rfl
theorem qs_29 : Cond.selects "LetterSumsModel" ⟨"LetterSumsModel", "hasCarries", "()Z"⟩ ⟨"LetterSumsModel", "hasCarries", "()Z"⟩ ∈ zBig := zb_sel (i := 29) (by decide +kernel) rfl
