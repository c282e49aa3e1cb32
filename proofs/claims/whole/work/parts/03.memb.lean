set_option maxRecDepth 100000 in
theorem m_0 : Cond.initialized "SystemPartsLaw" ∈ lw_tbl := List.mem_of_getElem? (i := 37) (by decide +kernel)
set_option maxRecDepth 100000 in
theorem m_1 : Cond.initialized "SystemParts" ∈ lw_tbl := List.mem_of_getElem? (i := 38) (by decide +kernel)
set_option maxRecDepth 100000 in
theorem m_2 : Cond.initialized "SystemParts$Lines" ∈ lw_tbl := List.mem_of_getElem? (i := 39) (by decide +kernel)
set_option maxRecDepth 100000 in
theorem m_3 : Cond.initialized "SystemPartsModel" ∈ lw_tbl := List.mem_of_getElem? (i := 40) (by decide +kernel)
set_option maxRecDepth 100000 in
theorem m_4 : Cond.initialized "java/lang/Throwable" ∈ lw_tbl := List.mem_of_getElem? (i := 41) (by decide +kernel)
set_option maxRecDepth 100000 in
theorem m_5 : Cond.initialized "java/lang/Exception" ∈ lw_tbl := List.mem_of_getElem? (i := 42) (by decide +kernel)
set_option maxRecDepth 100000 in
theorem m_6 : Cond.initialized "java/lang/RuntimeException" ∈ lw_tbl := List.mem_of_getElem? (i := 43) (by decide +kernel)
set_option maxRecDepth 100000 in
theorem m_7 : Cond.initialized "java/lang/IllegalArgumentException" ∈ lw_tbl := List.mem_of_getElem? (i := 44) (by decide +kernel)
set_option maxRecDepth 100000 in
theorem m_8 : Cond.initialized "java/lang/UnsupportedOperationException" ∈ lw_tbl := List.mem_of_getElem? (i := 45) (by decide +kernel)
set_option maxRecDepth 100000 in
theorem m_9 : Cond.initialized "SystemParts$Seat" ∈ lw_tbl := List.mem_of_getElem? (i := 46) (by decide +kernel)
set_option maxRecDepth 100000 in
theorem m_10 : Cond.initialized "SystemParts$Part" ∈ lw_tbl := List.mem_of_getElem? (i := 47) (by decide +kernel)
set_option maxRecDepth 100000 in
theorem m_11 : Cond.initialized "SystemParts$Cells" ∈ lw_tbl := List.mem_of_getElem? (i := 48) (by decide +kernel)
set_option maxRecDepth 100000 in
theorem m_12 : Cond.initialized "SystemParts$Timer" ∈ lw_tbl := List.mem_of_getElem? (i := 49) (by decide +kernel)
set_option maxRecDepth 100000 in
theorem m_13 : Cond.initialized "SystemParts$Serial" ∈ lw_tbl := List.mem_of_getElem? (i := 50) (by decide +kernel)
set_option maxRecDepth 100000 in
theorem m_14 : Cond.initialized "SystemParts$Rows" ∈ lw_tbl := List.mem_of_getElem? (i := 51) (by decide +kernel)
set_option maxRecDepth 100000 in
theorem m_15 : Cond.initialized "SystemParts$Counts" ∈ lw_tbl := List.mem_of_getElem? (i := 52) (by decide +kernel)
set_option maxRecDepth 100000 in
theorem m_16 : Cond.initialized "java/lang/IndexOutOfBoundsException" ∈ lw_tbl := List.mem_of_getElem? (i := 53) (by decide +kernel)
set_option maxRecDepth 100000 in
theorem m_17 : Cond.initialized "java/lang/IllegalStateException" ∈ lw_tbl := List.mem_of_getElem? (i := 54) (by decide +kernel)
set_option maxRecDepth 100000 in
theorem m_18 : Cond.initialized "java/lang/Math" ∈ lw_tbl := List.mem_of_getElem? (i := 55) (by decide +kernel)
set_option maxRecDepth 100000 in
theorem m_19 : Cond.classLink "SystemPartsLaw" 8 "SystemParts" ∈ lw_tbl := List.mem_of_getElem? (i := 56) (by decide +kernel)
set_option maxRecDepth 100000 in
theorem m_20 : Cond.instantiable "SystemParts" 6 ∈ lw_tbl := List.mem_of_getElem? (i := 57) (by decide +kernel)
set_option maxRecDepth 100000 in
theorem m_21 : Cond.methodLink "SystemPartsLaw" 49 ⟨"SystemParts", "<init>", "()V"⟩ ∈ lw_tbl := List.mem_of_getElem? (i := 58) (by decide +kernel)
set_option maxRecDepth 100000 in
theorem m_22 : Cond.instanceMethod ⟨"SystemParts", "<init>", "()V"⟩ ∈ lw_tbl := List.mem_of_getElem? (i := 59) (by decide +kernel)
set_option maxRecDepth 100000 in
theorem m_23 : Cond.code ⟨"SystemParts", "<init>", "()V"⟩ prog_1_method_1_code 1 none ∈ lw_tbl := List.mem_of_getElem? (i := 60) (by decide +kernel)
set_option maxRecDepth 100000 in
theorem m_24 : Cond.methodLink "SystemParts" 1 ⟨"java/lang/Object", "<init>", "()V"⟩ ∈ lw_tbl := List.mem_of_getElem? (i := 61) (by decide +kernel)
set_option maxRecDepth 100000 in
theorem m_25 : Cond.instanceMethod ⟨"java/lang/Object", "<init>", "()V"⟩ ∈ lw_tbl := List.mem_of_getElem? (i := 62) (by decide +kernel)
set_option maxRecDepth 100000 in
theorem m_26 : Cond.code ⟨"java/lang/Object", "<init>", "()V"⟩ object_method_1_code 1 none ∈ lw_tbl := List.mem_of_getElem? (i := 63) (by decide +kernel)
set_option maxRecDepth 100000 in
theorem m_27 : Cond.classLink "SystemParts" 9 "SystemParts$Part" ∈ lw_tbl := List.mem_of_getElem? (i := 64) (by decide +kernel)
set_option maxRecDepth 100000 in
theorem m_28 : Cond.arrayOver (FieldType.object "SystemParts$Part") ∈ lw_tbl := List.mem_of_getElem? (i := 65) (by decide +kernel)
set_option maxRecDepth 100000 in
theorem m_29 : Cond.classLink "SystemParts" 15 "SystemParts$Lines" ∈ lw_tbl := List.mem_of_getElem? (i := 66) (by decide +kernel)
set_option maxRecDepth 100000 in
theorem m_30 : Cond.instantiable "SystemParts$Lines" 5 ∈ lw_tbl := List.mem_of_getElem? (i := 67) (by decide +kernel)
set_option maxRecDepth 100000 in
theorem m_31 : Cond.methodLinkNest "SystemParts" 17 ⟨"SystemParts$Lines", "<init>", "()V"⟩ "SystemParts" ∈ lw_tbl := List.mem_of_getElem? (i := 68) (by decide +kernel)
set_option maxRecDepth 100000 in
theorem m_32 : Cond.instanceMethod ⟨"SystemParts$Lines", "<init>", "()V"⟩ ∈ lw_tbl := List.mem_of_getElem? (i := 69) (by decide +kernel)
set_option maxRecDepth 100000 in
theorem m_33 : Cond.code ⟨"SystemParts$Lines", "<init>", "()V"⟩ prog_4_method_1_code 1 none ∈ lw_tbl := List.mem_of_getElem? (i := 70) (by decide +kernel)
set_option maxRecDepth 100000 in
theorem m_34 : Cond.methodLink "SystemParts$Lines" 3 ⟨"java/lang/Object", "<init>", "()V"⟩ ∈ lw_tbl := List.mem_of_getElem? (i := 71) (by decide +kernel)
set_option maxRecDepth 100000 in
theorem m_35 : Cond.fieldLink "SystemParts$Lines" 11 "SystemParts$Lines" "ways" "[I" ∈ lw_tbl := List.mem_of_getElem? (i := 72) (by decide +kernel)
set_option maxRecDepth 100000 in
theorem m_36 : Cond.fieldLink "SystemParts$Lines" 15 "SystemParts$Lines" "ranks" "[I" ∈ lw_tbl := List.mem_of_getElem? (i := 73) (by decide +kernel)
set_option maxRecDepth 100000 in
theorem m_37 : Cond.fieldLink "SystemParts$Lines" 18 "SystemParts$Lines" "hidden" "I" ∈ lw_tbl := List.mem_of_getElem? (i := 74) (by decide +kernel)
set_option maxRecDepth 100000 in
theorem m_38 : Cond.fieldLink "SystemParts$Lines" 22 "SystemParts$Lines" "up" "I" ∈ lw_tbl := List.mem_of_getElem? (i := 75) (by decide +kernel)
set_option maxRecDepth 100000 in
theorem m_39 : Cond.fieldLinkNest "SystemParts" 162 "SystemParts$Lines" "up" "I" "SystemParts" ∈ lw_tbl := List.mem_of_getElem? (i := 76) (by decide +kernel)
set_option maxRecDepth 100000 in
theorem m_40 : Cond.fieldLink "SystemParts$Lines" 25 "SystemParts$Lines" "kept" "I" ∈ lw_tbl := List.mem_of_getElem? (i := 77) (by decide +kernel)
set_option maxRecDepth 100000 in
theorem m_41 : Cond.laysFinal "SystemParts$Lines" "SystemParts$Lines" "ways" "[I" ∈ lw_tbl := List.mem_of_getElem? (i := 78) (by decide +kernel)
set_option maxRecDepth 100000 in
theorem m_42 : Cond.soleField "SystemParts$Lines" "ways" ∈ lw_tbl := List.mem_of_getElem? (i := 79) (by decide +kernel)
set_option maxRecDepth 100000 in
theorem m_43 : Cond.laysFinal "SystemParts$Lines" "SystemParts$Lines" "ranks" "[I" ∈ lw_tbl := List.mem_of_getElem? (i := 80) (by decide +kernel)
set_option maxRecDepth 100000 in
theorem m_44 : Cond.soleField "SystemParts$Lines" "ranks" ∈ lw_tbl := List.mem_of_getElem? (i := 81) (by decide +kernel)
set_option maxRecDepth 100000 in
theorem m_45 : Cond.lays "SystemParts$Lines" "SystemParts$Lines" "hidden" "I" ∈ lw_tbl := List.mem_of_getElem? (i := 82) (by decide +kernel)
set_option maxRecDepth 100000 in
theorem m_46 : Cond.soleField "SystemParts$Lines" "hidden" ∈ lw_tbl := List.mem_of_getElem? (i := 83) (by decide +kernel)
set_option maxRecDepth 100000 in
theorem m_47 : Cond.lays "SystemParts$Lines" "SystemParts$Lines" "up" "I" ∈ lw_tbl := List.mem_of_getElem? (i := 84) (by decide +kernel)
set_option maxRecDepth 100000 in
theorem m_48 : Cond.soleField "SystemParts$Lines" "up" ∈ lw_tbl := List.mem_of_getElem? (i := 85) (by decide +kernel)
set_option maxRecDepth 100000 in
theorem m_49 : Cond.lays "SystemParts$Lines" "SystemParts$Lines" "kept" "I" ∈ lw_tbl := List.mem_of_getElem? (i := 86) (by decide +kernel)
set_option maxRecDepth 100000 in
theorem m_50 : Cond.soleField "SystemParts$Lines" "kept" ∈ lw_tbl := List.mem_of_getElem? (i := 87) (by decide +kernel)
set_option maxRecDepth 100000 in
theorem m_51 : Cond.superclass "SystemParts$Lines" "java/lang/Object" ∈ lw_tbl := List.mem_of_getElem? (i := 88) (by decide +kernel)
set_option maxRecDepth 100000 in
theorem m_52 : Cond.arrayClass FieldType.int ∈ lw_tbl := List.mem_of_getElem? (i := 89) (by decide +kernel)
set_option maxRecDepth 100000 in
theorem m_53 : Cond.fieldLink "SystemParts" 11 "SystemParts" "parts" "[LSystemParts$Part;" ∈ lw_tbl := List.mem_of_getElem? (i := 90) (by decide +kernel)
set_option maxRecDepth 100000 in
theorem m_54 : Cond.fieldLink "SystemParts" 18 "SystemParts" "lines" "LSystemParts$Lines;" ∈ lw_tbl := List.mem_of_getElem? (i := 91) (by decide +kernel)
set_option maxRecDepth 100000 in
theorem m_55 : Cond.fieldLink "SystemParts" 22 "SystemParts" "tally" "[I" ∈ lw_tbl := List.mem_of_getElem? (i := 92) (by decide +kernel)
set_option maxRecDepth 100000 in
theorem m_56 : Cond.fieldLink "SystemParts" 26 "SystemParts" "partCount" "I" ∈ lw_tbl := List.mem_of_getElem? (i := 93) (by decide +kernel)
set_option maxRecDepth 100000 in
theorem m_57 : Cond.fieldLink "SystemParts" 30 "SystemParts" "time" "I" ∈ lw_tbl := List.mem_of_getElem? (i := 94) (by decide +kernel)
set_option maxRecDepth 100000 in
theorem m_58 : Cond.fieldLink "SystemParts" 33 "SystemParts" "cause" "I" ∈ lw_tbl := List.mem_of_getElem? (i := 95) (by decide +kernel)
set_option maxRecDepth 100000 in
theorem m_59 : Cond.laysFinal "SystemParts" "SystemParts" "parts" "[LSystemParts$Part;" ∈ lw_tbl := List.mem_of_getElem? (i := 96) (by decide +kernel)
set_option maxRecDepth 100000 in
theorem m_60 : Cond.soleField "SystemParts" "parts" ∈ lw_tbl := List.mem_of_getElem? (i := 97) (by decide +kernel)
set_option maxRecDepth 100000 in
theorem m_61 : Cond.laysFinal "SystemParts" "SystemParts" "lines" "LSystemParts$Lines;" ∈ lw_tbl := List.mem_of_getElem? (i := 98) (by decide +kernel)
set_option maxRecDepth 100000 in
theorem m_62 : Cond.soleField "SystemParts" "lines" ∈ lw_tbl := List.mem_of_getElem? (i := 99) (by decide +kernel)
set_option maxRecDepth 100000 in
theorem m_63 : Cond.laysFinal "SystemParts" "SystemParts" "tally" "[I" ∈ lw_tbl := List.mem_of_getElem? (i := 100) (by decide +kernel)
set_option maxRecDepth 100000 in
theorem m_64 : Cond.soleField "SystemParts" "tally" ∈ lw_tbl := List.mem_of_getElem? (i := 101) (by decide +kernel)
set_option maxRecDepth 100000 in
theorem m_65 : Cond.lays "SystemParts" "SystemParts" "partCount" "I" ∈ lw_tbl := List.mem_of_getElem? (i := 102) (by decide +kernel)
set_option maxRecDepth 100000 in
theorem m_66 : Cond.soleField "SystemParts" "partCount" ∈ lw_tbl := List.mem_of_getElem? (i := 103) (by decide +kernel)
set_option maxRecDepth 100000 in
theorem m_67 : Cond.lays "SystemParts" "SystemParts" "time" "I" ∈ lw_tbl := List.mem_of_getElem? (i := 104) (by decide +kernel)
set_option maxRecDepth 100000 in
theorem m_68 : Cond.soleField "SystemParts" "time" ∈ lw_tbl := List.mem_of_getElem? (i := 105) (by decide +kernel)
set_option maxRecDepth 100000 in
theorem m_69 : Cond.lays "SystemParts" "SystemParts" "cause" "I" ∈ lw_tbl := List.mem_of_getElem? (i := 106) (by decide +kernel)
set_option maxRecDepth 100000 in
theorem m_70 : Cond.soleField "SystemParts" "cause" ∈ lw_tbl := List.mem_of_getElem? (i := 107) (by decide +kernel)
set_option maxRecDepth 100000 in
theorem m_71 : Cond.superclass "SystemParts" "java/lang/Object" ∈ lw_tbl := List.mem_of_getElem? (i := 108) (by decide +kernel)
set_option maxRecDepth 100000 in
theorem m_72 : Cond.methodLink "SystemPartsLaw" 90 ⟨"SystemParts", "chosen", "()I"⟩ ∈ lw_tbl := List.mem_of_getElem? (i := 109) (by decide +kernel)
set_option maxRecDepth 100000 in
theorem m_73 : Cond.instanceMethod ⟨"SystemParts", "chosen", "()I"⟩ ∈ lw_tbl := List.mem_of_getElem? (i := 110) (by decide +kernel)
set_option maxRecDepth 100000 in
theorem m_74 : Cond.selects "SystemParts" ⟨"SystemParts", "chosen", "()I"⟩ ⟨"SystemParts", "chosen", "()I"⟩ ∈ lw_tbl := List.mem_of_getElem? (i := 111) (by decide +kernel)
set_option maxRecDepth 100000 in
theorem m_75 : Cond.code ⟨"SystemParts", "chosen", "()I"⟩ prog_1_method_11_code 1 (some FieldType.int) ∈ lw_tbl := List.mem_of_getElem? (i := 112) (by decide +kernel)
set_option maxRecDepth 100000 in
theorem m_76 : Cond.methodLink "SystemParts" 168 ⟨"SystemParts$Lines", "best", "()I"⟩ ∈ lw_tbl := List.mem_of_getElem? (i := 113) (by decide +kernel)
set_option maxRecDepth 100000 in
theorem m_77 : Cond.instanceMethod ⟨"SystemParts$Lines", "best", "()I"⟩ ∈ lw_tbl := List.mem_of_getElem? (i := 114) (by decide +kernel)
set_option maxRecDepth 100000 in
theorem m_78 : Cond.selects "SystemParts$Lines" ⟨"SystemParts$Lines", "best", "()I"⟩ ⟨"SystemParts$Lines", "best", "()I"⟩ ∈ lw_tbl := List.mem_of_getElem? (i := 115) (by decide +kernel)
set_option maxRecDepth 100000 in
theorem m_79 : Cond.code ⟨"SystemParts$Lines", "best", "()I"⟩ prog_4_method_9_code 5 (some FieldType.int) ∈ lw_tbl := List.mem_of_getElem? (i := 116) (by decide +kernel)
set_option maxRecDepth 100000 in
theorem m_80 : Cond.methodLink "SystemParts$Lines" 42 ⟨"SystemParts$Lines", "pending", "()I"⟩ ∈ lw_tbl := List.mem_of_getElem? (i := 117) (by decide +kernel)
set_option maxRecDepth 100000 in
theorem m_81 : Cond.instanceMethod ⟨"SystemParts$Lines", "pending", "()I"⟩ ∈ lw_tbl := List.mem_of_getElem? (i := 118) (by decide +kernel)
set_option maxRecDepth 100000 in
theorem m_82 : Cond.selects "SystemParts$Lines" ⟨"SystemParts$Lines", "pending", "()I"⟩ ⟨"SystemParts$Lines", "pending", "()I"⟩ ∈ lw_tbl := List.mem_of_getElem? (i := 119) (by decide +kernel)
set_option maxRecDepth 100000 in
theorem m_83 : Cond.code ⟨"SystemParts$Lines", "pending", "()I"⟩ prog_4_method_8_code 3 (some FieldType.int) ∈ lw_tbl := List.mem_of_getElem? (i := 120) (by decide +kernel)
set_option maxRecDepth 100000 in
theorem m_84 : Cond.methodLink "SystemPartsLaw" 94 ⟨"SystemParts", "take", "()I"⟩ ∈ lw_tbl := List.mem_of_getElem? (i := 121) (by decide +kernel)
set_option maxRecDepth 100000 in
theorem m_85 : Cond.instanceMethod ⟨"SystemParts", "take", "()I"⟩ ∈ lw_tbl := List.mem_of_getElem? (i := 122) (by decide +kernel)
set_option maxRecDepth 100000 in
theorem m_86 : Cond.selects "SystemParts" ⟨"SystemParts", "take", "()I"⟩ ⟨"SystemParts", "take", "()I"⟩ ∈ lw_tbl := List.mem_of_getElem? (i := 123) (by decide +kernel)
set_option maxRecDepth 100000 in
theorem m_87 : Cond.code ⟨"SystemParts", "take", "()I"⟩ prog_1_method_12_code 2 (some FieldType.int) ∈ lw_tbl := List.mem_of_getElem? (i := 124) (by decide +kernel)
set_option maxRecDepth 100000 in
theorem m_88 : Cond.methodLink "SystemParts" 171 ⟨"SystemParts$Lines", "forget", "(I)V"⟩ ∈ lw_tbl := List.mem_of_getElem? (i := 125) (by decide +kernel)
set_option maxRecDepth 100000 in
theorem m_89 : Cond.instanceMethod ⟨"SystemParts$Lines", "forget", "(I)V"⟩ ∈ lw_tbl := List.mem_of_getElem? (i := 126) (by decide +kernel)
set_option maxRecDepth 100000 in
theorem m_90 : Cond.selects "SystemParts$Lines" ⟨"SystemParts$Lines", "forget", "(I)V"⟩ ⟨"SystemParts$Lines", "forget", "(I)V"⟩ ∈ lw_tbl := List.mem_of_getElem? (i := 127) (by decide +kernel)
set_option maxRecDepth 100000 in
theorem m_91 : Cond.code ⟨"SystemParts$Lines", "forget", "(I)V"⟩ prog_4_method_10_code 2 none ∈ lw_tbl := List.mem_of_getElem? (i := 128) (by decide +kernel)
set_option maxRecDepth 100000 in
theorem m_92 : Cond.methodLink "SystemPartsLaw" 98 ⟨"SystemParts", "reset", "()I"⟩ ∈ lw_tbl := List.mem_of_getElem? (i := 129) (by decide +kernel)
set_option maxRecDepth 100000 in
theorem m_93 : Cond.instanceMethod ⟨"SystemParts", "reset", "()I"⟩ ∈ lw_tbl := List.mem_of_getElem? (i := 130) (by decide +kernel)
set_option maxRecDepth 100000 in
theorem m_94 : Cond.selects "SystemParts" ⟨"SystemParts", "reset", "()I"⟩ ⟨"SystemParts", "reset", "()I"⟩ ∈ lw_tbl := List.mem_of_getElem? (i := 131) (by decide +kernel)
set_option maxRecDepth 100000 in
theorem m_95 : Cond.code ⟨"SystemParts", "reset", "()I"⟩ prog_1_method_13_code 2 (some FieldType.int) ∈ lw_tbl := List.mem_of_getElem? (i := 132) (by decide +kernel)
set_option maxRecDepth 100000 in
theorem m_96 : Cond.methodLink "SystemParts" 174 ⟨"SystemParts", "resetAll", "(I)V"⟩ ∈ lw_tbl := List.mem_of_getElem? (i := 133) (by decide +kernel)
set_option maxRecDepth 100000 in
theorem m_97 : Cond.privateMethod ⟨"SystemParts", "resetAll", "(I)V"⟩ ∈ lw_tbl := List.mem_of_getElem? (i := 134) (by decide +kernel)
set_option maxRecDepth 100000 in
theorem m_98 : Cond.instanceMethod ⟨"SystemParts", "resetAll", "(I)V"⟩ ∈ lw_tbl := List.mem_of_getElem? (i := 135) (by decide +kernel)
set_option maxRecDepth 100000 in
theorem m_99 : Cond.code ⟨"SystemParts", "resetAll", "(I)V"⟩ prog_1_method_27_code 4 none ∈ lw_tbl := List.mem_of_getElem? (i := 136) (by decide +kernel)
set_option maxRecDepth 100000 in
theorem m_100 : Cond.methodLink "SystemParts" 226 ⟨"SystemParts$Part", "beginAnew", "()V"⟩ ∈ lw_tbl := List.mem_of_getElem? (i := 137) (by decide +kernel)
set_option maxRecDepth 100000 in
theorem m_101 : Cond.instanceMethod ⟨"SystemParts$Part", "beginAnew", "()V"⟩ ∈ lw_tbl := List.mem_of_getElem? (i := 138) (by decide +kernel)
set_option maxRecDepth 100000 in
theorem m_102 : Cond.sameMethod "SystemParts$Part" "SystemParts$Part" "beginAnew" "()V" ∈ lw_tbl := List.mem_of_getElem? (i := 139) (by decide +kernel)
set_option maxRecDepth 100000 in
theorem m_103 : Cond.selects "SystemParts$Cells" ⟨"SystemParts$Part", "beginAnew", "()V"⟩ ⟨"SystemParts$Part", "beginAnew", "()V"⟩ ∈ lw_tbl := List.mem_of_getElem? (i := 140) (by decide +kernel)
set_option maxRecDepth 100000 in
theorem m_104 : Cond.selects "SystemParts$Counts" ⟨"SystemParts$Part", "beginAnew", "()V"⟩ ⟨"SystemParts$Counts", "beginAnew", "()V"⟩ ∈ lw_tbl := List.mem_of_getElem? (i := 141) (by decide +kernel)
set_option maxRecDepth 100000 in
theorem m_105 : Cond.instanceMethod ⟨"SystemParts$Counts", "beginAnew", "()V"⟩ ∈ lw_tbl := List.mem_of_getElem? (i := 142) (by decide +kernel)
set_option maxRecDepth 100000 in
theorem m_106 : Cond.code ⟨"SystemParts$Counts", "beginAnew", "()V"⟩ prog_3_method_6_code 2 none ∈ lw_tbl := List.mem_of_getElem? (i := 143) (by decide +kernel)
set_option maxRecDepth 100000 in
theorem m_107 : Cond.selects "SystemParts$Rows" ⟨"SystemParts$Part", "beginAnew", "()V"⟩ ⟨"SystemParts$Rows", "beginAnew", "()V"⟩ ∈ lw_tbl := List.mem_of_getElem? (i := 144) (by decide +kernel)
set_option maxRecDepth 100000 in
theorem m_108 : Cond.instanceMethod ⟨"SystemParts$Rows", "beginAnew", "()V"⟩ ∈ lw_tbl := List.mem_of_getElem? (i := 145) (by decide +kernel)
set_option maxRecDepth 100000 in
theorem m_109 : Cond.code ⟨"SystemParts$Rows", "beginAnew", "()V"⟩ prog_6_method_9_code 2 none ∈ lw_tbl := List.mem_of_getElem? (i := 146) (by decide +kernel)
set_option maxRecDepth 100000 in
theorem m_110 : Cond.selects "SystemParts$Serial" ⟨"SystemParts$Part", "beginAnew", "()V"⟩ ⟨"SystemParts$Serial", "beginAnew", "()V"⟩ ∈ lw_tbl := List.mem_of_getElem? (i := 147) (by decide +kernel)
set_option maxRecDepth 100000 in
theorem m_111 : Cond.instanceMethod ⟨"SystemParts$Serial", "beginAnew", "()V"⟩ ∈ lw_tbl := List.mem_of_getElem? (i := 148) (by decide +kernel)
set_option maxRecDepth 100000 in
theorem m_112 : Cond.code ⟨"SystemParts$Serial", "beginAnew", "()V"⟩ prog_8_method_11_code 1 none ∈ lw_tbl := List.mem_of_getElem? (i := 149) (by decide +kernel)
set_option maxRecDepth 100000 in
theorem m_113 : Cond.selects "SystemParts$Timer" ⟨"SystemParts$Part", "beginAnew", "()V"⟩ ⟨"SystemParts$Timer", "beginAnew", "()V"⟩ ∈ lw_tbl := List.mem_of_getElem? (i := 150) (by decide +kernel)
set_option maxRecDepth 100000 in
theorem m_114 : Cond.instanceMethod ⟨"SystemParts$Timer", "beginAnew", "()V"⟩ ∈ lw_tbl := List.mem_of_getElem? (i := 151) (by decide +kernel)
set_option maxRecDepth 100000 in
theorem m_115 : Cond.code ⟨"SystemParts$Timer", "beginAnew", "()V"⟩ prog_9_method_6_code 1 none ∈ lw_tbl := List.mem_of_getElem? (i := 152) (by decide +kernel)
set_option maxRecDepth 100000 in
theorem m_116 : Cond.code ⟨"SystemParts$Part", "beginAnew", "()V"⟩ prog_5_method_7_code 1 none ∈ lw_tbl := List.mem_of_getElem? (i := 153) (by decide +kernel)
set_option maxRecDepth 100000 in
theorem m_117 : Cond.methodLink "SystemParts" 229 ⟨"SystemParts$Lines", "allDown", "()V"⟩ ∈ lw_tbl := List.mem_of_getElem? (i := 154) (by decide +kernel)
set_option maxRecDepth 100000 in
theorem m_118 : Cond.instanceMethod ⟨"SystemParts$Lines", "allDown", "()V"⟩ ∈ lw_tbl := List.mem_of_getElem? (i := 155) (by decide +kernel)
set_option maxRecDepth 100000 in
theorem m_119 : Cond.selects "SystemParts$Lines" ⟨"SystemParts$Lines", "allDown", "()V"⟩ ⟨"SystemParts$Lines", "allDown", "()V"⟩ ∈ lw_tbl := List.mem_of_getElem? (i := 156) (by decide +kernel)
set_option maxRecDepth 100000 in
theorem m_120 : Cond.code ⟨"SystemParts$Lines", "allDown", "()V"⟩ prog_4_method_11_code 1 none ∈ lw_tbl := List.mem_of_getElem? (i := 157) (by decide +kernel)
set_option maxRecDepth 100000 in
theorem m_121 : Cond.methodLink "SystemPartsLaw" 102 ⟨"SystemParts", "count", "(I)I"⟩ ∈ lw_tbl := List.mem_of_getElem? (i := 158) (by decide +kernel)
set_option maxRecDepth 100000 in
theorem m_122 : Cond.instanceMethod ⟨"SystemParts", "count", "(I)I"⟩ ∈ lw_tbl := List.mem_of_getElem? (i := 159) (by decide +kernel)
set_option maxRecDepth 100000 in
theorem m_123 : Cond.selects "SystemParts" ⟨"SystemParts", "count", "(I)I"⟩ ⟨"SystemParts", "count", "(I)I"⟩ ∈ lw_tbl := List.mem_of_getElem? (i := 160) (by decide +kernel)
set_option maxRecDepth 100000 in
theorem m_124 : Cond.code ⟨"SystemParts", "count", "(I)I"⟩ prog_1_method_14_code 2 (some FieldType.int) ∈ lw_tbl := List.mem_of_getElem? (i := 161) (by decide +kernel)
set_option maxRecDepth 100000 in
theorem m_125 : Cond.methodLink "SystemParts" 165 ⟨"SystemParts$Lines", "pending", "()I"⟩ ∈ lw_tbl := List.mem_of_getElem? (i := 162) (by decide +kernel)
set_option maxRecDepth 100000 in
theorem m_126 : Cond.methodLink "SystemParts" 177 ⟨"SystemParts", "allWaiting", "()I"⟩ ∈ lw_tbl := List.mem_of_getElem? (i := 163) (by decide +kernel)
set_option maxRecDepth 100000 in
theorem m_127 : Cond.privateMethod ⟨"SystemParts", "allWaiting", "()I"⟩ ∈ lw_tbl := List.mem_of_getElem? (i := 164) (by decide +kernel)
set_option maxRecDepth 100000 in
theorem m_128 : Cond.instanceMethod ⟨"SystemParts", "allWaiting", "()I"⟩ ∈ lw_tbl := List.mem_of_getElem? (i := 165) (by decide +kernel)
set_option maxRecDepth 100000 in
theorem m_129 : Cond.code ⟨"SystemParts", "allWaiting", "()I"⟩ prog_1_method_28_code 5 (some FieldType.int) ∈ lw_tbl := List.mem_of_getElem? (i := 166) (by decide +kernel)
set_option maxRecDepth 100000 in
theorem m_130 : Cond.classLink "SystemParts" 131 "SystemParts$Serial" ∈ lw_tbl := List.mem_of_getElem? (i := 167) (by decide +kernel)
set_option maxRecDepth 100000 in
theorem m_131 : Cond.methodLink "SystemParts" 180 ⟨"SystemParts", "allGone", "()I"⟩ ∈ lw_tbl := List.mem_of_getElem? (i := 168) (by decide +kernel)
set_option maxRecDepth 100000 in
theorem m_132 : Cond.privateMethod ⟨"SystemParts", "allGone", "()I"⟩ ∈ lw_tbl := List.mem_of_getElem? (i := 169) (by decide +kernel)
set_option maxRecDepth 100000 in
theorem m_133 : Cond.instanceMethod ⟨"SystemParts", "allGone", "()I"⟩ ∈ lw_tbl := List.mem_of_getElem? (i := 170) (by decide +kernel)
set_option maxRecDepth 100000 in
theorem m_134 : Cond.code ⟨"SystemParts", "allGone", "()I"⟩ prog_1_method_29_code 5 (some FieldType.int) ∈ lw_tbl := List.mem_of_getElem? (i := 171) (by decide +kernel)
set_option maxRecDepth 100000 in
theorem m_135 : Cond.methodLink "SystemPartsLaw" 53 ⟨"SystemPartsLaw", "part", "(LSystemParts;IIIII[J)I"⟩ ∈ lw_tbl := List.mem_of_getElem? (i := 172) (by decide +kernel)
set_option maxRecDepth 100000 in
theorem m_136 : Cond.static ⟨"SystemPartsLaw", "part", "(LSystemParts;IIIII[J)I"⟩ ∈ lw_tbl := List.mem_of_getElem? (i := 173) (by decide +kernel)
set_option maxRecDepth 100000 in
theorem m_137 : Cond.codeWith ⟨"SystemPartsLaw", "part", "(LSystemParts;IIIII[J)I"⟩ method_3_code 8 (some FieldType.int) [(0, 16, 19, 13), (0, 16, 23, 15)] ∈ lw_tbl := List.mem_of_getElem? (i := 174) (by decide +kernel)
set_option maxRecDepth 100000 in
theorem m_138 : Cond.classLink "SystemPartsLaw" 13 "java/lang/IllegalArgumentException" ∈ lw_tbl := List.mem_of_getElem? (i := 175) (by decide +kernel)
set_option maxRecDepth 100000 in
theorem m_139 : Cond.classLink "SystemPartsLaw" 15 "java/lang/UnsupportedOperationException" ∈ lw_tbl := List.mem_of_getElem? (i := 176) (by decide +kernel)
set_option maxRecDepth 100000 in
theorem m_140 : Cond.methodLink "SystemPartsLaw" 7 ⟨"SystemParts", "part", "(IIIII)I"⟩ ∈ lw_tbl := List.mem_of_getElem? (i := 177) (by decide +kernel)
set_option maxRecDepth 100000 in
theorem m_141 : Cond.instanceMethod ⟨"SystemParts", "part", "(IIIII)I"⟩ ∈ lw_tbl := List.mem_of_getElem? (i := 178) (by decide +kernel)
set_option maxRecDepth 100000 in
theorem m_142 : Cond.selects "SystemParts" ⟨"SystemParts", "part", "(IIIII)I"⟩ ⟨"SystemParts", "part", "(IIIII)I"⟩ ∈ lw_tbl := List.mem_of_getElem? (i := 179) (by decide +kernel)
set_option maxRecDepth 100000 in
theorem m_143 : Cond.code ⟨"SystemParts", "part", "(IIIII)I"⟩ prog_1_method_2_code 9 (some FieldType.int) ∈ lw_tbl := List.mem_of_getElem? (i := 180) (by decide +kernel)
set_option maxRecDepth 100000 in
theorem m_144 : Cond.methodLink "SystemParts" 36 ⟨"SystemParts", "lengthOf", "(II)I"⟩ ∈ lw_tbl := List.mem_of_getElem? (i := 181) (by decide +kernel)
set_option maxRecDepth 100000 in
theorem m_145 : Cond.static ⟨"SystemParts", "lengthOf", "(II)I"⟩ ∈ lw_tbl := List.mem_of_getElem? (i := 182) (by decide +kernel)
set_option maxRecDepth 100000 in
theorem m_146 : Cond.code ⟨"SystemParts", "lengthOf", "(II)I"⟩ prog_1_method_17_code 2 (some FieldType.int) ∈ lw_tbl := List.mem_of_getElem? (i := 183) (by decide +kernel)
set_option maxRecDepth 100000 in
theorem m_147 : Cond.methodLink "SystemParts" 40 ⟨"SystemParts", "isLine", "(I)Z"⟩ ∈ lw_tbl := List.mem_of_getElem? (i := 184) (by decide +kernel)
set_option maxRecDepth 100000 in
theorem m_148 : Cond.static ⟨"SystemParts", "isLine", "(I)Z"⟩ ∈ lw_tbl := List.mem_of_getElem? (i := 185) (by decide +kernel)
set_option maxRecDepth 100000 in
theorem m_149 : Cond.code ⟨"SystemParts", "isLine", "(I)Z"⟩ prog_1_method_16_code 1 (some FieldType.boolean) ∈ lw_tbl := List.mem_of_getElem? (i := 186) (by decide +kernel)
set_option maxRecDepth 100000 in
theorem m_150 : Cond.methodLink "SystemParts" 44 ⟨"SystemParts", "isFree", "(II)Z"⟩ ∈ lw_tbl := List.mem_of_getElem? (i := 187) (by decide +kernel)
set_option maxRecDepth 100000 in
theorem m_151 : Cond.privateMethod ⟨"SystemParts", "isFree", "(II)Z"⟩ ∈ lw_tbl := List.mem_of_getElem? (i := 188) (by decide +kernel)
set_option maxRecDepth 100000 in
theorem m_152 : Cond.instanceMethod ⟨"SystemParts", "isFree", "(II)Z"⟩ ∈ lw_tbl := List.mem_of_getElem? (i := 189) (by decide +kernel)
set_option maxRecDepth 100000 in
theorem m_153 : Cond.code ⟨"SystemParts", "isFree", "(II)Z"⟩ prog_1_method_19_code 5 (some FieldType.boolean) ∈ lw_tbl := List.mem_of_getElem? (i := 190) (by decide +kernel)
set_option maxRecDepth 100000 in
theorem m_154 : Cond.methodLink "SystemParts" 199 ⟨"SystemParts", "isPlace", "(I)Z"⟩ ∈ lw_tbl := List.mem_of_getElem? (i := 191) (by decide +kernel)
set_option maxRecDepth 100000 in
theorem m_155 : Cond.static ⟨"SystemParts", "isPlace", "(I)Z"⟩ ∈ lw_tbl := List.mem_of_getElem? (i := 192) (by decide +kernel)
set_option maxRecDepth 100000 in
theorem m_156 : Cond.code ⟨"SystemParts", "isPlace", "(I)Z"⟩ prog_1_method_15_code 1 (some FieldType.boolean) ∈ lw_tbl := List.mem_of_getElem? (i := 193) (by decide +kernel)
set_option maxRecDepth 100000 in
theorem m_157 : Cond.constant "SystemParts" 183 (65536 : Int32) ∈ lw_tbl := List.mem_of_getElem? (i := 194) (by decide +kernel)
set_option maxRecDepth 100000 in
theorem m_158 : Cond.methodLink "SystemParts" 202 ⟨"SystemParts$Seat", "meets", "(II)Z"⟩ ∈ lw_tbl := List.mem_of_getElem? (i := 195) (by decide +kernel)
set_option maxRecDepth 100000 in
theorem m_159 : Cond.instanceMethod ⟨"SystemParts$Seat", "meets", "(II)Z"⟩ ∈ lw_tbl := List.mem_of_getElem? (i := 196) (by decide +kernel)
set_option maxRecDepth 100000 in
theorem m_160 : Cond.selects "SystemParts$Seat" ⟨"SystemParts$Seat", "meets", "(II)Z"⟩ ⟨"SystemParts$Seat", "meets", "(II)Z"⟩ ∈ lw_tbl := List.mem_of_getElem? (i := 197) (by decide +kernel)
set_option maxRecDepth 100000 in
theorem m_161 : Cond.code ⟨"SystemParts$Seat", "meets", "(II)Z"⟩ prog_7_method_3_code 3 (some FieldType.boolean) ∈ lw_tbl := List.mem_of_getElem? (i := 198) (by decide +kernel)
set_option maxRecDepth 100000 in
theorem m_162 : Cond.classLink "SystemParts" 48 "java/lang/IllegalArgumentException" ∈ lw_tbl := List.mem_of_getElem? (i := 199) (by decide +kernel)
set_option maxRecDepth 100000 in
theorem m_163 : Cond.instantiable "java/lang/IllegalArgumentException" 6 ∈ lw_tbl := List.mem_of_getElem? (i := 200) (by decide +kernel)
set_option maxRecDepth 100000 in
theorem m_164 : Cond.castable "java/lang/IllegalArgumentException" "java/lang/IllegalArgumentException" ∈ lw_tbl := List.mem_of_getElem? (i := 201) (by decide +kernel)
set_option maxRecDepth 100000 in
theorem m_165 : Cond.declares ⟨"java/lang/RuntimeException", "<init>", "()V"⟩ ∈ lw_tbl := List.mem_of_getElem? (i := 202) (by decide +kernel)
set_option maxRecDepth 100000 in
theorem m_166 : Cond.declares ⟨"java/lang/RuntimeException", "<init>", "(Ljava/lang/String;)V"⟩ ∈ lw_tbl := List.mem_of_getElem? (i := 203) (by decide +kernel)
set_option maxRecDepth 100000 in
theorem m_167 : Cond.declares ⟨"java/lang/Exception", "<init>", "()V"⟩ ∈ lw_tbl := List.mem_of_getElem? (i := 204) (by decide +kernel)
set_option maxRecDepth 100000 in
theorem m_168 : Cond.declares ⟨"java/lang/Exception", "<init>", "(Ljava/lang/String;)V"⟩ ∈ lw_tbl := List.mem_of_getElem? (i := 205) (by decide +kernel)
set_option maxRecDepth 100000 in
theorem m_169 : Cond.declares ⟨"java/lang/Throwable", "<init>", "()V"⟩ ∈ lw_tbl := List.mem_of_getElem? (i := 206) (by decide +kernel)
set_option maxRecDepth 100000 in
theorem m_170 : Cond.declares ⟨"java/lang/Throwable", "<init>", "(Ljava/lang/String;)V"⟩ ∈ lw_tbl := List.mem_of_getElem? (i := 207) (by decide +kernel)
set_option maxRecDepth 100000 in
theorem m_171 : Cond.selects "java/lang/IllegalArgumentException" ⟨"java/lang/Throwable", "fillInStackTrace", "(I)Ljava/lang/Throwable;"⟩ ⟨"java/lang/Throwable", "fillInStackTrace", "(I)Ljava/lang/Throwable;"⟩ ∈ lw_tbl := List.mem_of_getElem? (i := 208) (by decide +kernel)
set_option maxRecDepth 100000 in
theorem m_172 : Cond.selects "java/lang/IllegalArgumentException" ⟨"java/lang/Throwable", "fillInStackTrace", "()Ljava/lang/Throwable;"⟩ ⟨"java/lang/Throwable", "fillInStackTrace", "()Ljava/lang/Throwable;"⟩ ∈ lw_tbl := List.mem_of_getElem? (i := 209) (by decide +kernel)
set_option maxRecDepth 100000 in
theorem m_173 : Cond.lays "java/lang/IllegalArgumentException" "java/lang/Throwable" "cause" "Ljava/lang/Throwable;" ∈ lw_tbl := List.mem_of_getElem? (i := 210) (by decide +kernel)
set_option maxRecDepth 100000 in
theorem m_174 : Cond.lays "java/lang/Throwable" "java/lang/Throwable" "cause" "Ljava/lang/Throwable;" ∈ lw_tbl := List.mem_of_getElem? (i := 211) (by decide +kernel)
set_option maxRecDepth 100000 in
theorem m_175 : Cond.lays "java/lang/IllegalArgumentException" "java/lang/Throwable" "stackTrace" "[Ljava/lang/StackTraceElement;" ∈ lw_tbl := List.mem_of_getElem? (i := 212) (by decide +kernel)
set_option maxRecDepth 100000 in
theorem m_176 : Cond.lays "java/lang/Throwable" "java/lang/Throwable" "stackTrace" "[Ljava/lang/StackTraceElement;" ∈ lw_tbl := List.mem_of_getElem? (i := 213) (by decide +kernel)
set_option maxRecDepth 100000 in
theorem m_177 : Cond.lays "java/lang/IllegalArgumentException" "java/lang/Throwable" "suppressedExceptions" "Ljava/util/List;" ∈ lw_tbl := List.mem_of_getElem? (i := 214) (by decide +kernel)
set_option maxRecDepth 100000 in
theorem m_178 : Cond.lays "java/lang/Throwable" "java/lang/Throwable" "suppressedExceptions" "Ljava/util/List;" ∈ lw_tbl := List.mem_of_getElem? (i := 215) (by decide +kernel)
set_option maxRecDepth 100000 in
theorem m_179 : Cond.lays "java/lang/IllegalArgumentException" "java/lang/Throwable" "detailMessage" "Ljava/lang/String;" ∈ lw_tbl := List.mem_of_getElem? (i := 216) (by decide +kernel)
set_option maxRecDepth 100000 in
theorem m_180 : Cond.lays "java/lang/Throwable" "java/lang/Throwable" "detailMessage" "Ljava/lang/String;" ∈ lw_tbl := List.mem_of_getElem? (i := 217) (by decide +kernel)
set_option maxRecDepth 100000 in
theorem m_181 : Cond.lays "java/lang/IllegalArgumentException" "java/lang/Throwable" "backtrace" "Ljava/lang/Object;" ∈ lw_tbl := List.mem_of_getElem? (i := 218) (by decide +kernel)
set_option maxRecDepth 100000 in
theorem m_182 : Cond.lays "java/lang/Throwable" "java/lang/Throwable" "backtrace" "Ljava/lang/Object;" ∈ lw_tbl := List.mem_of_getElem? (i := 219) (by decide +kernel)
set_option maxRecDepth 100000 in
theorem m_183 : Cond.fieldLink "java/lang/Throwable" 198 "java/lang/Throwable" "backtrace" "Ljava/lang/Object;" ∈ lw_tbl := List.mem_of_getElem? (i := 220) (by decide +kernel)
set_option maxRecDepth 100000 in
theorem m_184 : Cond.superclass "java/lang/Throwable" "java/lang/Object" ∈ lw_tbl := List.mem_of_getElem? (i := 221) (by decide +kernel)
set_option maxRecDepth 100000 in
theorem m_185 : Cond.instanceMethod ⟨"java/lang/Throwable", "<init>", "()V"⟩ ∈ lw_tbl := List.mem_of_getElem? (i := 222) (by decide +kernel)
set_option maxRecDepth 100000 in
theorem m_186 : Cond.code ⟨"java/lang/Throwable", "<init>", "()V"⟩ prog_19_method_1_code 1 none ∈ lw_tbl := List.mem_of_getElem? (i := 223) (by decide +kernel)
set_option maxRecDepth 100000 in
theorem m_187 : Cond.methodLink "java/lang/Throwable" 1 ⟨"java/lang/Object", "<init>", "()V"⟩ ∈ lw_tbl := List.mem_of_getElem? (i := 224) (by decide +kernel)
set_option maxRecDepth 100000 in
theorem m_188 : Cond.fieldLink "java/lang/Throwable" 13 "java/lang/Throwable" "UNASSIGNED_STACK" "[Ljava/lang/StackTraceElement;" ∈ lw_tbl := List.mem_of_getElem? (i := 225) (by decide +kernel)
set_option maxRecDepth 100000 in
theorem m_189 : Cond.laysStatic "java/lang/Throwable" "UNASSIGNED_STACK" "[Ljava/lang/StackTraceElement;" ∈ lw_tbl := List.mem_of_getElem? (i := 226) (by decide +kernel)
set_option maxRecDepth 100000 in
theorem m_190 : Cond.fieldLink "java/lang/Throwable" 20 "java/lang/Throwable" "SUPPRESSED_SENTINEL" "Ljava/util/List;" ∈ lw_tbl := List.mem_of_getElem? (i := 227) (by decide +kernel)
set_option maxRecDepth 100000 in
theorem m_191 : Cond.laysStatic "java/lang/Throwable" "SUPPRESSED_SENTINEL" "Ljava/util/List;" ∈ lw_tbl := List.mem_of_getElem? (i := 228) (by decide +kernel)
set_option maxRecDepth 100000 in
theorem m_192 : Cond.methodLink "java/lang/Throwable" 27 ⟨"java/lang/Throwable", "fillInStackTrace", "()Ljava/lang/Throwable;"⟩ ∈ lw_tbl := List.mem_of_getElem? (i := 229) (by decide +kernel)
set_option maxRecDepth 100000 in
theorem m_193 : Cond.instanceMethod ⟨"java/lang/Throwable", "fillInStackTrace", "()Ljava/lang/Throwable;"⟩ ∈ lw_tbl := List.mem_of_getElem? (i := 230) (by decide +kernel)
set_option maxRecDepth 100000 in
theorem m_194 : Cond.sameMethod "java/lang/Throwable" "java/lang/Throwable" "fillInStackTrace" "()Ljava/lang/Throwable;" ∈ lw_tbl := List.mem_of_getElem? (i := 231) (by decide +kernel)
set_option maxRecDepth 100000 in
theorem m_195 : Cond.selects "java/lang/IllegalStateException" ⟨"java/lang/Throwable", "fillInStackTrace", "()Ljava/lang/Throwable;"⟩ ⟨"java/lang/Throwable", "fillInStackTrace", "()Ljava/lang/Throwable;"⟩ ∈ lw_tbl := List.mem_of_getElem? (i := 232) (by decide +kernel)
set_option maxRecDepth 100000 in
theorem m_196 : Cond.selects "java/lang/IndexOutOfBoundsException" ⟨"java/lang/Throwable", "fillInStackTrace", "()Ljava/lang/Throwable;"⟩ ⟨"java/lang/Throwable", "fillInStackTrace", "()Ljava/lang/Throwable;"⟩ ∈ lw_tbl := List.mem_of_getElem? (i := 233) (by decide +kernel)
set_option maxRecDepth 100000 in
theorem m_197 : Cond.selects "java/lang/UnsupportedOperationException" ⟨"java/lang/Throwable", "fillInStackTrace", "()Ljava/lang/Throwable;"⟩ ⟨"java/lang/Throwable", "fillInStackTrace", "()Ljava/lang/Throwable;"⟩ ∈ lw_tbl := List.mem_of_getElem? (i := 234) (by decide +kernel)
set_option maxRecDepth 100000 in
theorem m_198 : Cond.codeSync ⟨"java/lang/Throwable", "fillInStackTrace", "()Ljava/lang/Throwable;"⟩ prog_19_method_18_code 1 (some (FieldType.object "java/lang/Throwable")) ∈ lw_tbl := List.mem_of_getElem? (i := 235) (by decide +kernel)
set_option maxRecDepth 100000 in
theorem m_199 : Cond.methodLink "java/lang/Throwable" 202 ⟨"java/lang/Throwable", "fillInStackTrace", "(I)Ljava/lang/Throwable;"⟩ ∈ lw_tbl := List.mem_of_getElem? (i := 236) (by decide +kernel)
set_option maxRecDepth 100000 in
theorem m_200 : Cond.privateMethod ⟨"java/lang/Throwable", "fillInStackTrace", "(I)Ljava/lang/Throwable;"⟩ ∈ lw_tbl := List.mem_of_getElem? (i := 237) (by decide +kernel)
set_option maxRecDepth 100000 in
theorem m_201 : Cond.instanceMethod ⟨"java/lang/Throwable", "fillInStackTrace", "(I)Ljava/lang/Throwable;"⟩ ∈ lw_tbl := List.mem_of_getElem? (i := 238) (by decide +kernel)
set_option maxRecDepth 100000 in
theorem m_202 : Cond.instantiable "java/lang/Throwable" 6 ∈ lw_tbl := List.mem_of_getElem? (i := 239) (by decide +kernel)
set_option maxRecDepth 100000 in
theorem m_203 : Cond.native ⟨"java/lang/Throwable", "fillInStackTrace", "(I)Ljava/lang/Throwable;"⟩ ∈ lw_tbl := List.mem_of_getElem? (i := 240) (by decide +kernel)
set_option maxRecDepth 100000 in
theorem m_204 : Cond.stringRef "SystemParts" 50 "no such part can lie there" ∈ lw_tbl := List.mem_of_getElem? (i := 241) (by decide +kernel)
set_option maxRecDepth 100000 in
theorem m_205 : Cond.methodLink "SystemParts" 52 ⟨"java/lang/IllegalArgumentException", "<init>", "(Ljava/lang/String;)V"⟩ ∈ lw_tbl := List.mem_of_getElem? (i := 242) (by decide +kernel)
set_option maxRecDepth 100000 in
theorem m_206 : Cond.instanceMethod ⟨"java/lang/IllegalArgumentException", "<init>", "(Ljava/lang/String;)V"⟩ ∈ lw_tbl := List.mem_of_getElem? (i := 243) (by decide +kernel)
set_option maxRecDepth 100000 in
theorem m_207 : Cond.code ⟨"java/lang/IllegalArgumentException", "<init>", "(Ljava/lang/String;)V"⟩ prog_13_method_2_code 2 none ∈ lw_tbl := List.mem_of_getElem? (i := 244) (by decide +kernel)
set_option maxRecDepth 100000 in
theorem m_208 : Cond.methodLink "java/lang/IllegalArgumentException" 7 ⟨"java/lang/RuntimeException", "<init>", "(Ljava/lang/String;)V"⟩ ∈ lw_tbl := List.mem_of_getElem? (i := 245) (by decide +kernel)
set_option maxRecDepth 100000 in
theorem m_209 : Cond.instanceMethod ⟨"java/lang/RuntimeException", "<init>", "(Ljava/lang/String;)V"⟩ ∈ lw_tbl := List.mem_of_getElem? (i := 246) (by decide +kernel)
set_option maxRecDepth 100000 in
theorem m_210 : Cond.code ⟨"java/lang/RuntimeException", "<init>", "(Ljava/lang/String;)V"⟩ prog_17_method_2_code 2 none ∈ lw_tbl := List.mem_of_getElem? (i := 247) (by decide +kernel)
set_option maxRecDepth 100000 in
theorem m_211 : Cond.methodLink "java/lang/RuntimeException" 7 ⟨"java/lang/Exception", "<init>", "(Ljava/lang/String;)V"⟩ ∈ lw_tbl := List.mem_of_getElem? (i := 248) (by decide +kernel)
set_option maxRecDepth 100000 in
theorem m_212 : Cond.instanceMethod ⟨"java/lang/Exception", "<init>", "(Ljava/lang/String;)V"⟩ ∈ lw_tbl := List.mem_of_getElem? (i := 249) (by decide +kernel)
set_option maxRecDepth 100000 in
theorem m_213 : Cond.code ⟨"java/lang/Exception", "<init>", "(Ljava/lang/String;)V"⟩ prog_12_method_2_code 2 none ∈ lw_tbl := List.mem_of_getElem? (i := 250) (by decide +kernel)
set_option maxRecDepth 100000 in
theorem m_214 : Cond.methodLink "java/lang/Exception" 7 ⟨"java/lang/Throwable", "<init>", "(Ljava/lang/String;)V"⟩ ∈ lw_tbl := List.mem_of_getElem? (i := 251) (by decide +kernel)
set_option maxRecDepth 100000 in
theorem m_215 : Cond.instanceMethod ⟨"java/lang/Throwable", "<init>", "(Ljava/lang/String;)V"⟩ ∈ lw_tbl := List.mem_of_getElem? (i := 252) (by decide +kernel)
set_option maxRecDepth 100000 in
theorem m_216 : Cond.code ⟨"java/lang/Throwable", "<init>", "(Ljava/lang/String;)V"⟩ prog_19_method_2_code 2 none ∈ lw_tbl := List.mem_of_getElem? (i := 253) (by decide +kernel)
set_option maxRecDepth 100000 in
theorem m_218 : Cond.fieldLink "java/lang/Throwable" 31 "java/lang/Throwable" "detailMessage" "Ljava/lang/String;" ∈ lw_tbl := List.mem_of_getElem? (i := 255) (by decide +kernel)
set_option maxRecDepth 100000 in
theorem m_219 : Cond.fieldLink "java/lang/Throwable" 7 "java/lang/Throwable" "cause" "Ljava/lang/Throwable;" ∈ lw_tbl := List.mem_of_getElem? (i := 256) (by decide +kernel)
set_option maxRecDepth 100000 in
theorem m_220 : Cond.fieldLink "java/lang/Throwable" 17 "java/lang/Throwable" "stackTrace" "[Ljava/lang/StackTraceElement;" ∈ lw_tbl := List.mem_of_getElem? (i := 257) (by decide +kernel)
set_option maxRecDepth 100000 in
theorem m_221 : Cond.fieldLink "java/lang/Throwable" 24 "java/lang/Throwable" "suppressedExceptions" "Ljava/util/List;" ∈ lw_tbl := List.mem_of_getElem? (i := 258) (by decide +kernel)
set_option maxRecDepth 100000 in
theorem m_222 : Cond.soleField "java/lang/Throwable" "backtrace" ∈ lw_tbl := List.mem_of_getElem? (i := 259) (by decide +kernel)
set_option maxRecDepth 100000 in
theorem m_223 : Cond.soleField "java/lang/Throwable" "detailMessage" ∈ lw_tbl := List.mem_of_getElem? (i := 260) (by decide +kernel)
set_option maxRecDepth 100000 in
theorem m_224 : Cond.soleField "java/lang/Throwable" "cause" ∈ lw_tbl := List.mem_of_getElem? (i := 261) (by decide +kernel)
set_option maxRecDepth 100000 in
theorem m_225 : Cond.soleField "java/lang/Throwable" "stackTrace" ∈ lw_tbl := List.mem_of_getElem? (i := 262) (by decide +kernel)
set_option maxRecDepth 100000 in
theorem m_226 : Cond.lays "java/lang/IllegalArgumentException" "java/lang/Throwable" "depth" "I" ∈ lw_tbl := List.mem_of_getElem? (i := 263) (by decide +kernel)
set_option maxRecDepth 100000 in
theorem m_227 : Cond.soleField "java/lang/Throwable" "depth" ∈ lw_tbl := List.mem_of_getElem? (i := 264) (by decide +kernel)
set_option maxRecDepth 100000 in
theorem m_228 : Cond.soleField "java/lang/Throwable" "suppressedExceptions" ∈ lw_tbl := List.mem_of_getElem? (i := 265) (by decide +kernel)
set_option maxRecDepth 100000 in
theorem m_229 : Cond.superclass "java/lang/IllegalArgumentException" "java/lang/RuntimeException" ∈ lw_tbl := List.mem_of_getElem? (i := 266) (by decide +kernel)
set_option maxRecDepth 100000 in
theorem m_230 : Cond.arrayClass FieldType.byte ∈ lw_tbl := List.mem_of_getElem? (i := 267) (by decide +kernel)
set_option maxRecDepth 100000 in
theorem m_231 : Cond.classLink "SystemParts" 55 "java/lang/UnsupportedOperationException" ∈ lw_tbl := List.mem_of_getElem? (i := 268) (by decide +kernel)
set_option maxRecDepth 100000 in
theorem m_232 : Cond.instantiable "java/lang/UnsupportedOperationException" 6 ∈ lw_tbl := List.mem_of_getElem? (i := 269) (by decide +kernel)
set_option maxRecDepth 100000 in
theorem m_233 : Cond.castable "java/lang/UnsupportedOperationException" "java/lang/UnsupportedOperationException" ∈ lw_tbl := List.mem_of_getElem? (i := 270) (by decide +kernel)
set_option maxRecDepth 100000 in
theorem m_234 : Cond.selects "java/lang/UnsupportedOperationException" ⟨"java/lang/Throwable", "fillInStackTrace", "(I)Ljava/lang/Throwable;"⟩ ⟨"java/lang/Throwable", "fillInStackTrace", "(I)Ljava/lang/Throwable;"⟩ ∈ lw_tbl := List.mem_of_getElem? (i := 271) (by decide +kernel)
set_option maxRecDepth 100000 in
theorem m_235 : Cond.lays "java/lang/UnsupportedOperationException" "java/lang/Throwable" "cause" "Ljava/lang/Throwable;" ∈ lw_tbl := List.mem_of_getElem? (i := 272) (by decide +kernel)
set_option maxRecDepth 100000 in
theorem m_236 : Cond.lays "java/lang/UnsupportedOperationException" "java/lang/Throwable" "stackTrace" "[Ljava/lang/StackTraceElement;" ∈ lw_tbl := List.mem_of_getElem? (i := 273) (by decide +kernel)
set_option maxRecDepth 100000 in
theorem m_237 : Cond.lays "java/lang/UnsupportedOperationException" "java/lang/Throwable" "suppressedExceptions" "Ljava/util/List;" ∈ lw_tbl := List.mem_of_getElem? (i := 274) (by decide +kernel)
set_option maxRecDepth 100000 in
theorem m_238 : Cond.lays "java/lang/UnsupportedOperationException" "java/lang/Throwable" "detailMessage" "Ljava/lang/String;" ∈ lw_tbl := List.mem_of_getElem? (i := 275) (by decide +kernel)
set_option maxRecDepth 100000 in
theorem m_239 : Cond.lays "java/lang/UnsupportedOperationException" "java/lang/Throwable" "backtrace" "Ljava/lang/Object;" ∈ lw_tbl := List.mem_of_getElem? (i := 276) (by decide +kernel)
set_option maxRecDepth 100000 in
theorem m_240 : Cond.stringRef "SystemParts" 57 "there are twelve parts" ∈ lw_tbl := List.mem_of_getElem? (i := 277) (by decide +kernel)
set_option maxRecDepth 100000 in
theorem m_241 : Cond.methodLink "SystemParts" 59 ⟨"java/lang/UnsupportedOperationException", "<init>", "(Ljava/lang/String;)V"⟩ ∈ lw_tbl := List.mem_of_getElem? (i := 278) (by decide +kernel)
set_option maxRecDepth 100000 in
theorem m_242 : Cond.instanceMethod ⟨"java/lang/UnsupportedOperationException", "<init>", "(Ljava/lang/String;)V"⟩ ∈ lw_tbl := List.mem_of_getElem? (i := 279) (by decide +kernel)
set_option maxRecDepth 100000 in
theorem m_243 : Cond.code ⟨"java/lang/UnsupportedOperationException", "<init>", "(Ljava/lang/String;)V"⟩ prog_20_method_2_code 2 none ∈ lw_tbl := List.mem_of_getElem? (i := 280) (by decide +kernel)
set_option maxRecDepth 100000 in
theorem m_244 : Cond.methodLink "java/lang/UnsupportedOperationException" 7 ⟨"java/lang/RuntimeException", "<init>", "(Ljava/lang/String;)V"⟩ ∈ lw_tbl := List.mem_of_getElem? (i := 281) (by decide +kernel)
set_option maxRecDepth 100000 in
theorem m_245 : Cond.lays "java/lang/UnsupportedOperationException" "java/lang/Throwable" "depth" "I" ∈ lw_tbl := List.mem_of_getElem? (i := 282) (by decide +kernel)
set_option maxRecDepth 100000 in
theorem m_246 : Cond.superclass "java/lang/UnsupportedOperationException" "java/lang/RuntimeException" ∈ lw_tbl := List.mem_of_getElem? (i := 283) (by decide +kernel)
set_option maxRecDepth 100000 in
theorem m_247 : Cond.classLink "SystemParts" 60 "SystemParts$Seat" ∈ lw_tbl := List.mem_of_getElem? (i := 284) (by decide +kernel)
set_option maxRecDepth 100000 in
theorem m_248 : Cond.instantiable "SystemParts$Seat" 4 ∈ lw_tbl := List.mem_of_getElem? (i := 285) (by decide +kernel)
set_option maxRecDepth 100000 in
theorem m_249 : Cond.methodLink "SystemParts" 62 ⟨"SystemParts$Seat", "<init>", "(IIII)V"⟩ ∈ lw_tbl := List.mem_of_getElem? (i := 286) (by decide +kernel)
set_option maxRecDepth 100000 in
theorem m_250 : Cond.instanceMethod ⟨"SystemParts$Seat", "<init>", "(IIII)V"⟩ ∈ lw_tbl := List.mem_of_getElem? (i := 287) (by decide +kernel)
set_option maxRecDepth 100000 in
theorem m_251 : Cond.code ⟨"SystemParts$Seat", "<init>", "(IIII)V"⟩ prog_7_method_1_code 5 none ∈ lw_tbl := List.mem_of_getElem? (i := 288) (by decide +kernel)
set_option maxRecDepth 100000 in
theorem m_252 : Cond.methodLink "SystemParts$Seat" 1 ⟨"java/lang/Object", "<init>", "()V"⟩ ∈ lw_tbl := List.mem_of_getElem? (i := 289) (by decide +kernel)
set_option maxRecDepth 100000 in
theorem m_253 : Cond.fieldLink "SystemParts$Seat" 7 "SystemParts$Seat" "from" "I" ∈ lw_tbl := List.mem_of_getElem? (i := 290) (by decide +kernel)
set_option maxRecDepth 100000 in
theorem m_254 : Cond.fieldLink "SystemParts" 79 "SystemParts$Seat" "from" "I" ∈ lw_tbl := List.mem_of_getElem? (i := 291) (by decide +kernel)
set_option maxRecDepth 100000 in
theorem m_255 : Cond.fieldLink "SystemParts$Cells" 7 "SystemParts$Seat" "length" "I" ∈ lw_tbl := List.mem_of_getElem? (i := 292) (by decide +kernel)
set_option maxRecDepth 100000 in
theorem m_256 : Cond.fieldLink "SystemParts$Seat" 13 "SystemParts$Seat" "length" "I" ∈ lw_tbl := List.mem_of_getElem? (i := 293) (by decide +kernel)
set_option maxRecDepth 100000 in
theorem m_257 : Cond.fieldLink "SystemParts$Seat" 16 "SystemParts$Seat" "line" "I" ∈ lw_tbl := List.mem_of_getElem? (i := 294) (by decide +kernel)
set_option maxRecDepth 100000 in
theorem m_258 : Cond.fieldLink "SystemParts" 220 "SystemParts$Seat" "line" "I" ∈ lw_tbl := List.mem_of_getElem? (i := 295) (by decide +kernel)
set_option maxRecDepth 100000 in
theorem m_259 : Cond.fieldLink "SystemParts$Seat" 19 "SystemParts$Seat" "waits" "I" ∈ lw_tbl := List.mem_of_getElem? (i := 296) (by decide +kernel)
set_option maxRecDepth 100000 in
theorem m_260 : Cond.laysFinal "SystemParts$Seat" "SystemParts$Seat" "from" "I" ∈ lw_tbl := List.mem_of_getElem? (i := 297) (by decide +kernel)
set_option maxRecDepth 100000 in
theorem m_261 : Cond.soleField "SystemParts$Seat" "from" ∈ lw_tbl := List.mem_of_getElem? (i := 298) (by decide +kernel)
set_option maxRecDepth 100000 in
theorem m_262 : Cond.laysFinal "SystemParts$Seat" "SystemParts$Seat" "length" "I" ∈ lw_tbl := List.mem_of_getElem? (i := 299) (by decide +kernel)
set_option maxRecDepth 100000 in
theorem m_263 : Cond.soleField "SystemParts$Seat" "length" ∈ lw_tbl := List.mem_of_getElem? (i := 300) (by decide +kernel)
set_option maxRecDepth 100000 in
theorem m_264 : Cond.laysFinal "SystemParts$Seat" "SystemParts$Seat" "line" "I" ∈ lw_tbl := List.mem_of_getElem? (i := 301) (by decide +kernel)
set_option maxRecDepth 100000 in
theorem m_265 : Cond.soleField "SystemParts$Seat" "line" ∈ lw_tbl := List.mem_of_getElem? (i := 302) (by decide +kernel)
set_option maxRecDepth 100000 in
theorem m_266 : Cond.laysFinal "SystemParts$Seat" "SystemParts$Seat" "waits" "I" ∈ lw_tbl := List.mem_of_getElem? (i := 303) (by decide +kernel)
set_option maxRecDepth 100000 in
theorem m_267 : Cond.soleField "SystemParts$Seat" "waits" ∈ lw_tbl := List.mem_of_getElem? (i := 304) (by decide +kernel)
set_option maxRecDepth 100000 in
theorem m_268 : Cond.superclass "SystemParts$Seat" "java/lang/Object" ∈ lw_tbl := List.mem_of_getElem? (i := 305) (by decide +kernel)
set_option maxRecDepth 100000 in
theorem m_269 : Cond.methodLink "SystemParts" 65 ⟨"SystemParts", "newPart", "(ILSystemParts$Seat;)LSystemParts$Part;"⟩ ∈ lw_tbl := List.mem_of_getElem? (i := 306) (by decide +kernel)
set_option maxRecDepth 100000 in
theorem m_270 : Cond.static ⟨"SystemParts", "newPart", "(ILSystemParts$Seat;)LSystemParts$Part;"⟩ ∈ lw_tbl := List.mem_of_getElem? (i := 307) (by decide +kernel)
set_option maxRecDepth 100000 in
theorem m_271 : Cond.code ⟨"SystemParts", "newPart", "(ILSystemParts$Seat;)LSystemParts$Part;"⟩ prog_1_method_18_code 2 (some (FieldType.object "SystemParts$Part")) ∈ lw_tbl := List.mem_of_getElem? (i := 308) (by decide +kernel)
set_option maxRecDepth 100000 in
theorem m_272 : Cond.classLink "SystemParts" 73 "SystemParts$Cells" ∈ lw_tbl := List.mem_of_getElem? (i := 309) (by decide +kernel)
set_option maxRecDepth 100000 in
theorem m_273 : Cond.instantiable "SystemParts$Cells" 3 ∈ lw_tbl := List.mem_of_getElem? (i := 310) (by decide +kernel)
set_option maxRecDepth 100000 in
theorem m_274 : Cond.methodLink "SystemParts" 188 ⟨"SystemParts$Cells", "<init>", "(LSystemParts$Seat;Z)V"⟩ ∈ lw_tbl := List.mem_of_getElem? (i := 311) (by decide +kernel)
set_option maxRecDepth 100000 in
theorem m_275 : Cond.instanceMethod ⟨"SystemParts$Cells", "<init>", "(LSystemParts$Seat;Z)V"⟩ ∈ lw_tbl := List.mem_of_getElem? (i := 312) (by decide +kernel)
set_option maxRecDepth 100000 in
theorem m_276 : Cond.code ⟨"SystemParts$Cells", "<init>", "(LSystemParts$Seat;Z)V"⟩ prog_2_method_1_code 3 none ∈ lw_tbl := List.mem_of_getElem? (i := 313) (by decide +kernel)
set_option maxRecDepth 100000 in
theorem m_277 : Cond.methodLink "SystemParts$Cells" 1 ⟨"SystemParts$Part", "<init>", "(LSystemParts$Seat;)V"⟩ ∈ lw_tbl := List.mem_of_getElem? (i := 314) (by decide +kernel)
set_option maxRecDepth 100000 in
theorem m_278 : Cond.instanceMethod ⟨"SystemParts$Part", "<init>", "(LSystemParts$Seat;)V"⟩ ∈ lw_tbl := List.mem_of_getElem? (i := 315) (by decide +kernel)
set_option maxRecDepth 100000 in
theorem m_279 : Cond.code ⟨"SystemParts$Part", "<init>", "(LSystemParts$Seat;)V"⟩ prog_5_method_1_code 2 none ∈ lw_tbl := List.mem_of_getElem? (i := 316) (by decide +kernel)
set_option maxRecDepth 100000 in
theorem m_280 : Cond.methodLink "SystemParts$Part" 1 ⟨"java/lang/Object", "<init>", "()V"⟩ ∈ lw_tbl := List.mem_of_getElem? (i := 317) (by decide +kernel)
set_option maxRecDepth 100000 in
theorem m_281 : Cond.fieldLink "SystemParts$Cells" 13 "SystemParts$Cells" "cells" "[I" ∈ lw_tbl := List.mem_of_getElem? (i := 318) (by decide +kernel)
set_option maxRecDepth 100000 in
theorem m_282 : Cond.fieldLink "SystemParts$Cells" 19 "SystemParts$Cells" "fixed" "Z" ∈ lw_tbl := List.mem_of_getElem? (i := 319) (by decide +kernel)
set_option maxRecDepth 100000 in
theorem m_283 : Cond.fieldLink "SystemParts$Part" 7 "SystemParts$Part" "seat" "LSystemParts$Seat;" ∈ lw_tbl := List.mem_of_getElem? (i := 320) (by decide +kernel)
set_option maxRecDepth 100000 in
theorem m_284 : Cond.fieldLink "SystemParts" 75 "SystemParts$Cells" "seat" "LSystemParts$Seat;" ∈ lw_tbl := List.mem_of_getElem? (i := 321) (by decide +kernel)
set_option maxRecDepth 100000 in
theorem m_285 : Cond.sameField "SystemParts$Cells" "SystemParts$Part" "seat" "LSystemParts$Seat;" ∈ lw_tbl := List.mem_of_getElem? (i := 322) (by decide +kernel)
set_option maxRecDepth 100000 in
theorem m_286 : Cond.fieldLink "SystemParts" 99 "SystemParts$Part" "seat" "LSystemParts$Seat;" ∈ lw_tbl := List.mem_of_getElem? (i := 323) (by decide +kernel)
set_option maxRecDepth 100000 in
theorem m_287 : Cond.laysFinal "SystemParts$Cells" "SystemParts$Cells" "cells" "[I" ∈ lw_tbl := List.mem_of_getElem? (i := 324) (by decide +kernel)
set_option maxRecDepth 100000 in
theorem m_288 : Cond.soleField "SystemParts$Cells" "cells" ∈ lw_tbl := List.mem_of_getElem? (i := 325) (by decide +kernel)
set_option maxRecDepth 100000 in
theorem m_289 : Cond.laysFinal "SystemParts$Cells" "SystemParts$Cells" "fixed" "Z" ∈ lw_tbl := List.mem_of_getElem? (i := 326) (by decide +kernel)
set_option maxRecDepth 100000 in
theorem m_290 : Cond.soleField "SystemParts$Cells" "fixed" ∈ lw_tbl := List.mem_of_getElem? (i := 327) (by decide +kernel)
set_option maxRecDepth 100000 in
theorem m_291 : Cond.laysFinal "SystemParts$Cells" "SystemParts$Part" "seat" "LSystemParts$Seat;" ∈ lw_tbl := List.mem_of_getElem? (i := 328) (by decide +kernel)
set_option maxRecDepth 100000 in
theorem m_292 : Cond.soleField "SystemParts$Part" "seat" ∈ lw_tbl := List.mem_of_getElem? (i := 329) (by decide +kernel)
set_option maxRecDepth 100000 in
theorem m_293 : Cond.superclass "SystemParts$Cells" "SystemParts$Part" ∈ lw_tbl := List.mem_of_getElem? (i := 330) (by decide +kernel)
set_option maxRecDepth 100000 in
theorem m_294 : Cond.classLink "SystemParts" 184 "SystemParts$Timer" ∈ lw_tbl := List.mem_of_getElem? (i := 331) (by decide +kernel)
set_option maxRecDepth 100000 in
theorem m_295 : Cond.instantiable "SystemParts$Timer" 5 ∈ lw_tbl := List.mem_of_getElem? (i := 332) (by decide +kernel)
set_option maxRecDepth 100000 in
theorem m_296 : Cond.methodLink "SystemParts" 191 ⟨"SystemParts$Timer", "<init>", "(LSystemParts$Seat;)V"⟩ ∈ lw_tbl := List.mem_of_getElem? (i := 333) (by decide +kernel)
set_option maxRecDepth 100000 in
theorem m_297 : Cond.instanceMethod ⟨"SystemParts$Timer", "<init>", "(LSystemParts$Seat;)V"⟩ ∈ lw_tbl := List.mem_of_getElem? (i := 334) (by decide +kernel)
set_option maxRecDepth 100000 in
theorem m_298 : Cond.code ⟨"SystemParts$Timer", "<init>", "(LSystemParts$Seat;)V"⟩ prog_9_method_1_code 2 none ∈ lw_tbl := List.mem_of_getElem? (i := 335) (by decide +kernel)
set_option maxRecDepth 100000 in
theorem m_299 : Cond.methodLink "SystemParts$Timer" 1 ⟨"SystemParts$Part", "<init>", "(LSystemParts$Seat;)V"⟩ ∈ lw_tbl := List.mem_of_getElem? (i := 336) (by decide +kernel)
set_option maxRecDepth 100000 in
theorem m_300 : Cond.fieldLink "SystemParts$Timer" 7 "SystemParts$Timer" "reached" "I" ∈ lw_tbl := List.mem_of_getElem? (i := 337) (by decide +kernel)
set_option maxRecDepth 100000 in
theorem m_301 : Cond.fieldLink "SystemParts$Timer" 13 "SystemParts$Timer" "limit" "I" ∈ lw_tbl := List.mem_of_getElem? (i := 338) (by decide +kernel)
set_option maxRecDepth 100000 in
theorem m_302 : Cond.fieldLink "SystemParts$Timer" 16 "SystemParts$Timer" "mode" "I" ∈ lw_tbl := List.mem_of_getElem? (i := 339) (by decide +kernel)
set_option maxRecDepth 100000 in
theorem m_303 : Cond.fieldLink "SystemParts$Timer" 19 "SystemParts$Timer" "fired" "I" ∈ lw_tbl := List.mem_of_getElem? (i := 340) (by decide +kernel)
set_option maxRecDepth 100000 in
theorem m_304 : Cond.lays "SystemParts$Timer" "SystemParts$Timer" "reached" "I" ∈ lw_tbl := List.mem_of_getElem? (i := 341) (by decide +kernel)
set_option maxRecDepth 100000 in
theorem m_305 : Cond.soleField "SystemParts$Timer" "reached" ∈ lw_tbl := List.mem_of_getElem? (i := 342) (by decide +kernel)
set_option maxRecDepth 100000 in
theorem m_306 : Cond.lays "SystemParts$Timer" "SystemParts$Timer" "limit" "I" ∈ lw_tbl := List.mem_of_getElem? (i := 343) (by decide +kernel)
set_option maxRecDepth 100000 in
theorem m_307 : Cond.soleField "SystemParts$Timer" "limit" ∈ lw_tbl := List.mem_of_getElem? (i := 344) (by decide +kernel)
set_option maxRecDepth 100000 in
theorem m_308 : Cond.lays "SystemParts$Timer" "SystemParts$Timer" "mode" "I" ∈ lw_tbl := List.mem_of_getElem? (i := 345) (by decide +kernel)
set_option maxRecDepth 100000 in
theorem m_309 : Cond.soleField "SystemParts$Timer" "mode" ∈ lw_tbl := List.mem_of_getElem? (i := 346) (by decide +kernel)
set_option maxRecDepth 100000 in
theorem m_310 : Cond.lays "SystemParts$Timer" "SystemParts$Timer" "fired" "I" ∈ lw_tbl := List.mem_of_getElem? (i := 347) (by decide +kernel)
set_option maxRecDepth 100000 in
theorem m_311 : Cond.soleField "SystemParts$Timer" "fired" ∈ lw_tbl := List.mem_of_getElem? (i := 348) (by decide +kernel)
set_option maxRecDepth 100000 in
theorem m_312 : Cond.laysFinal "SystemParts$Timer" "SystemParts$Part" "seat" "LSystemParts$Seat;" ∈ lw_tbl := List.mem_of_getElem? (i := 349) (by decide +kernel)
set_option maxRecDepth 100000 in
theorem m_313 : Cond.superclass "SystemParts$Timer" "SystemParts$Part" ∈ lw_tbl := List.mem_of_getElem? (i := 350) (by decide +kernel)
set_option maxRecDepth 100000 in
theorem m_314 : Cond.instantiable "SystemParts$Serial" 9 ∈ lw_tbl := List.mem_of_getElem? (i := 351) (by decide +kernel)
set_option maxRecDepth 100000 in
theorem m_315 : Cond.methodLink "SystemParts" 194 ⟨"SystemParts$Serial", "<init>", "(LSystemParts$Seat;)V"⟩ ∈ lw_tbl := List.mem_of_getElem? (i := 352) (by decide +kernel)
set_option maxRecDepth 100000 in
theorem m_316 : Cond.instanceMethod ⟨"SystemParts$Serial", "<init>", "(LSystemParts$Seat;)V"⟩ ∈ lw_tbl := List.mem_of_getElem? (i := 353) (by decide +kernel)
set_option maxRecDepth 100000 in
theorem m_317 : Cond.code ⟨"SystemParts$Serial", "<init>", "(LSystemParts$Seat;)V"⟩ prog_8_method_1_code 2 none ∈ lw_tbl := List.mem_of_getElem? (i := 354) (by decide +kernel)
set_option maxRecDepth 100000 in
theorem m_318 : Cond.methodLink "SystemParts$Serial" 3 ⟨"SystemParts$Part", "<init>", "(LSystemParts$Seat;)V"⟩ ∈ lw_tbl := List.mem_of_getElem? (i := 355) (by decide +kernel)
set_option maxRecDepth 100000 in
theorem m_319 : Cond.fieldLink "SystemParts$Serial" 9 "SystemParts$Serial" "come" "[I" ∈ lw_tbl := List.mem_of_getElem? (i := 356) (by decide +kernel)
set_option maxRecDepth 100000 in
theorem m_320 : Cond.fieldLink "SystemParts$Serial" 13 "SystemParts$Serial" "firstCome" "I" ∈ lw_tbl := List.mem_of_getElem? (i := 357) (by decide +kernel)
set_option maxRecDepth 100000 in
theorem m_321 : Cond.fieldLink "SystemParts$Serial" 17 "SystemParts$Serial" "waiting" "I" ∈ lw_tbl := List.mem_of_getElem? (i := 358) (by decide +kernel)
set_option maxRecDepth 100000 in
theorem m_322 : Cond.fieldLinkNest "SystemParts" 232 "SystemParts$Serial" "waiting" "I" "SystemParts" ∈ lw_tbl := List.mem_of_getElem? (i := 359) (by decide +kernel)
set_option maxRecDepth 100000 in
theorem m_323 : Cond.fieldLink "SystemParts$Serial" 20 "SystemParts$Serial" "out" "[I" ∈ lw_tbl := List.mem_of_getElem? (i := 360) (by decide +kernel)
set_option maxRecDepth 100000 in
theorem m_324 : Cond.fieldLink "SystemParts$Serial" 23 "SystemParts$Serial" "gone" "I" ∈ lw_tbl := List.mem_of_getElem? (i := 361) (by decide +kernel)
set_option maxRecDepth 100000 in
theorem m_325 : Cond.fieldLinkNest "SystemParts" 235 "SystemParts$Serial" "gone" "I" "SystemParts" ∈ lw_tbl := List.mem_of_getElem? (i := 362) (by decide +kernel)
set_option maxRecDepth 100000 in
theorem m_326 : Cond.fieldLink "SystemParts$Serial" 26 "SystemParts$Serial" "sending" "I" ∈ lw_tbl := List.mem_of_getElem? (i := 363) (by decide +kernel)
set_option maxRecDepth 100000 in
theorem m_327 : Cond.fieldLink "SystemParts$Serial" 29 "SystemParts$Serial" "stepsLeft" "I" ∈ lw_tbl := List.mem_of_getElem? (i := 364) (by decide +kernel)
set_option maxRecDepth 100000 in
theorem m_328 : Cond.fieldLink "SystemParts$Serial" 32 "SystemParts$Serial" "mode" "I" ∈ lw_tbl := List.mem_of_getElem? (i := 365) (by decide +kernel)
set_option maxRecDepth 100000 in
theorem m_329 : Cond.laysFinal "SystemParts$Serial" "SystemParts$Serial" "come" "[I" ∈ lw_tbl := List.mem_of_getElem? (i := 366) (by decide +kernel)
set_option maxRecDepth 100000 in
theorem m_330 : Cond.soleField "SystemParts$Serial" "come" ∈ lw_tbl := List.mem_of_getElem? (i := 367) (by decide +kernel)
set_option maxRecDepth 100000 in
theorem m_331 : Cond.lays "SystemParts$Serial" "SystemParts$Serial" "firstCome" "I" ∈ lw_tbl := List.mem_of_getElem? (i := 368) (by decide +kernel)
set_option maxRecDepth 100000 in
theorem m_332 : Cond.soleField "SystemParts$Serial" "firstCome" ∈ lw_tbl := List.mem_of_getElem? (i := 369) (by decide +kernel)
set_option maxRecDepth 100000 in
theorem m_333 : Cond.lays "SystemParts$Serial" "SystemParts$Serial" "waiting" "I" ∈ lw_tbl := List.mem_of_getElem? (i := 370) (by decide +kernel)
set_option maxRecDepth 100000 in
theorem m_334 : Cond.soleField "SystemParts$Serial" "waiting" ∈ lw_tbl := List.mem_of_getElem? (i := 371) (by decide +kernel)
set_option maxRecDepth 100000 in
theorem m_335 : Cond.laysFinal "SystemParts$Serial" "SystemParts$Serial" "out" "[I" ∈ lw_tbl := List.mem_of_getElem? (i := 372) (by decide +kernel)
set_option maxRecDepth 100000 in
theorem m_336 : Cond.soleField "SystemParts$Serial" "out" ∈ lw_tbl := List.mem_of_getElem? (i := 373) (by decide +kernel)
set_option maxRecDepth 100000 in
theorem m_337 : Cond.lays "SystemParts$Serial" "SystemParts$Serial" "gone" "I" ∈ lw_tbl := List.mem_of_getElem? (i := 374) (by decide +kernel)
set_option maxRecDepth 100000 in
theorem m_338 : Cond.soleField "SystemParts$Serial" "gone" ∈ lw_tbl := List.mem_of_getElem? (i := 375) (by decide +kernel)
set_option maxRecDepth 100000 in
theorem m_339 : Cond.lays "SystemParts$Serial" "SystemParts$Serial" "sending" "I" ∈ lw_tbl := List.mem_of_getElem? (i := 376) (by decide +kernel)
set_option maxRecDepth 100000 in
theorem m_340 : Cond.soleField "SystemParts$Serial" "sending" ∈ lw_tbl := List.mem_of_getElem? (i := 377) (by decide +kernel)
set_option maxRecDepth 100000 in
theorem m_341 : Cond.lays "SystemParts$Serial" "SystemParts$Serial" "stepsLeft" "I" ∈ lw_tbl := List.mem_of_getElem? (i := 378) (by decide +kernel)
set_option maxRecDepth 100000 in
theorem m_342 : Cond.soleField "SystemParts$Serial" "stepsLeft" ∈ lw_tbl := List.mem_of_getElem? (i := 379) (by decide +kernel)
set_option maxRecDepth 100000 in
theorem m_343 : Cond.lays "SystemParts$Serial" "SystemParts$Serial" "mode" "I" ∈ lw_tbl := List.mem_of_getElem? (i := 380) (by decide +kernel)
set_option maxRecDepth 100000 in
theorem m_344 : Cond.soleField "SystemParts$Serial" "mode" ∈ lw_tbl := List.mem_of_getElem? (i := 381) (by decide +kernel)
set_option maxRecDepth 100000 in
theorem m_345 : Cond.laysFinal "SystemParts$Serial" "SystemParts$Part" "seat" "LSystemParts$Seat;" ∈ lw_tbl := List.mem_of_getElem? (i := 382) (by decide +kernel)
set_option maxRecDepth 100000 in
theorem m_346 : Cond.superclass "SystemParts$Serial" "SystemParts$Part" ∈ lw_tbl := List.mem_of_getElem? (i := 383) (by decide +kernel)
set_option maxRecDepth 100000 in
theorem m_347 : Cond.classLink "SystemParts" 186 "SystemParts$Rows" ∈ lw_tbl := List.mem_of_getElem? (i := 384) (by decide +kernel)
set_option maxRecDepth 100000 in
theorem m_348 : Cond.instantiable "SystemParts$Rows" 8 ∈ lw_tbl := List.mem_of_getElem? (i := 385) (by decide +kernel)
set_option maxRecDepth 100000 in
theorem m_349 : Cond.methodLink "SystemParts" 195 ⟨"SystemParts$Rows", "<init>", "(LSystemParts$Seat;)V"⟩ ∈ lw_tbl := List.mem_of_getElem? (i := 386) (by decide +kernel)
set_option maxRecDepth 100000 in
theorem m_350 : Cond.instanceMethod ⟨"SystemParts$Rows", "<init>", "(LSystemParts$Seat;)V"⟩ ∈ lw_tbl := List.mem_of_getElem? (i := 387) (by decide +kernel)
set_option maxRecDepth 100000 in
theorem m_351 : Cond.code ⟨"SystemParts$Rows", "<init>", "(LSystemParts$Seat;)V"⟩ prog_6_method_1_code 2 none ∈ lw_tbl := List.mem_of_getElem? (i := 388) (by decide +kernel)
set_option maxRecDepth 100000 in
theorem m_352 : Cond.methodLink "SystemParts$Rows" 3 ⟨"SystemParts$Part", "<init>", "(LSystemParts$Seat;)V"⟩ ∈ lw_tbl := List.mem_of_getElem? (i := 389) (by decide +kernel)
set_option maxRecDepth 100000 in
theorem m_353 : Cond.fieldLink "SystemParts$Rows" 9 "SystemParts$Rows" "rows" "[I" ∈ lw_tbl := List.mem_of_getElem? (i := 390) (by decide +kernel)
set_option maxRecDepth 100000 in
theorem m_354 : Cond.fieldLink "SystemParts$Rows" 13 "SystemParts$Rows" "window" "[I" ∈ lw_tbl := List.mem_of_getElem? (i := 391) (by decide +kernel)
set_option maxRecDepth 100000 in
theorem m_355 : Cond.fieldLink "SystemParts$Rows" 16 "SystemParts$Rows" "row" "I" ∈ lw_tbl := List.mem_of_getElem? (i := 392) (by decide +kernel)
set_option maxRecDepth 100000 in
theorem m_356 : Cond.fieldLink "SystemParts$Rows" 20 "SystemParts$Rows" "work" "I" ∈ lw_tbl := List.mem_of_getElem? (i := 393) (by decide +kernel)
set_option maxRecDepth 100000 in
theorem m_357 : Cond.fieldLink "SystemParts$Rows" 23 "SystemParts$Rows" "workRow" "I" ∈ lw_tbl := List.mem_of_getElem? (i := 394) (by decide +kernel)
set_option maxRecDepth 100000 in
theorem m_358 : Cond.fieldLink "SystemParts$Rows" 26 "SystemParts$Rows" "stepsLeft" "I" ∈ lw_tbl := List.mem_of_getElem? (i := 395) (by decide +kernel)
set_option maxRecDepth 100000 in
theorem m_359 : Cond.fieldLink "SystemParts$Rows" 29 "SystemParts$Rows" "done" "I" ∈ lw_tbl := List.mem_of_getElem? (i := 396) (by decide +kernel)
set_option maxRecDepth 100000 in
theorem m_360 : Cond.laysFinal "SystemParts$Rows" "SystemParts$Rows" "rows" "[I" ∈ lw_tbl := List.mem_of_getElem? (i := 397) (by decide +kernel)
set_option maxRecDepth 100000 in
theorem m_361 : Cond.soleField "SystemParts$Rows" "rows" ∈ lw_tbl := List.mem_of_getElem? (i := 398) (by decide +kernel)
set_option maxRecDepth 100000 in
theorem m_362 : Cond.laysFinal "SystemParts$Rows" "SystemParts$Rows" "window" "[I" ∈ lw_tbl := List.mem_of_getElem? (i := 399) (by decide +kernel)
set_option maxRecDepth 100000 in
theorem m_363 : Cond.soleField "SystemParts$Rows" "window" ∈ lw_tbl := List.mem_of_getElem? (i := 400) (by decide +kernel)
set_option maxRecDepth 100000 in
theorem m_364 : Cond.lays "SystemParts$Rows" "SystemParts$Rows" "row" "I" ∈ lw_tbl := List.mem_of_getElem? (i := 401) (by decide +kernel)
set_option maxRecDepth 100000 in
theorem m_365 : Cond.soleField "SystemParts$Rows" "row" ∈ lw_tbl := List.mem_of_getElem? (i := 402) (by decide +kernel)
set_option maxRecDepth 100000 in
theorem m_366 : Cond.lays "SystemParts$Rows" "SystemParts$Rows" "work" "I" ∈ lw_tbl := List.mem_of_getElem? (i := 403) (by decide +kernel)
set_option maxRecDepth 100000 in
theorem m_367 : Cond.soleField "SystemParts$Rows" "work" ∈ lw_tbl := List.mem_of_getElem? (i := 404) (by decide +kernel)
set_option maxRecDepth 100000 in
theorem m_368 : Cond.lays "SystemParts$Rows" "SystemParts$Rows" "workRow" "I" ∈ lw_tbl := List.mem_of_getElem? (i := 405) (by decide +kernel)
set_option maxRecDepth 100000 in
theorem m_369 : Cond.soleField "SystemParts$Rows" "workRow" ∈ lw_tbl := List.mem_of_getElem? (i := 406) (by decide +kernel)
set_option maxRecDepth 100000 in
theorem m_370 : Cond.lays "SystemParts$Rows" "SystemParts$Rows" "stepsLeft" "I" ∈ lw_tbl := List.mem_of_getElem? (i := 407) (by decide +kernel)
set_option maxRecDepth 100000 in
theorem m_371 : Cond.soleField "SystemParts$Rows" "stepsLeft" ∈ lw_tbl := List.mem_of_getElem? (i := 408) (by decide +kernel)
set_option maxRecDepth 100000 in
theorem m_372 : Cond.lays "SystemParts$Rows" "SystemParts$Rows" "done" "I" ∈ lw_tbl := List.mem_of_getElem? (i := 409) (by decide +kernel)
set_option maxRecDepth 100000 in
theorem m_373 : Cond.soleField "SystemParts$Rows" "done" ∈ lw_tbl := List.mem_of_getElem? (i := 410) (by decide +kernel)
set_option maxRecDepth 100000 in
theorem m_374 : Cond.laysFinal "SystemParts$Rows" "SystemParts$Part" "seat" "LSystemParts$Seat;" ∈ lw_tbl := List.mem_of_getElem? (i := 411) (by decide +kernel)
set_option maxRecDepth 100000 in
theorem m_375 : Cond.superclass "SystemParts$Rows" "SystemParts$Part" ∈ lw_tbl := List.mem_of_getElem? (i := 412) (by decide +kernel)
set_option maxRecDepth 100000 in
theorem m_376 : Cond.classLink "SystemParts" 196 "SystemParts$Counts" ∈ lw_tbl := List.mem_of_getElem? (i := 413) (by decide +kernel)
set_option maxRecDepth 100000 in
theorem m_377 : Cond.instantiable "SystemParts$Counts" 2 ∈ lw_tbl := List.mem_of_getElem? (i := 414) (by decide +kernel)
set_option maxRecDepth 100000 in
theorem m_378 : Cond.methodLink "SystemParts" 198 ⟨"SystemParts$Counts", "<init>", "(LSystemParts$Seat;)V"⟩ ∈ lw_tbl := List.mem_of_getElem? (i := 415) (by decide +kernel)
set_option maxRecDepth 100000 in
theorem m_379 : Cond.instanceMethod ⟨"SystemParts$Counts", "<init>", "(LSystemParts$Seat;)V"⟩ ∈ lw_tbl := List.mem_of_getElem? (i := 416) (by decide +kernel)
set_option maxRecDepth 100000 in
theorem m_380 : Cond.code ⟨"SystemParts$Counts", "<init>", "(LSystemParts$Seat;)V"⟩ prog_3_method_1_code 2 none ∈ lw_tbl := List.mem_of_getElem? (i := 417) (by decide +kernel)
set_option maxRecDepth 100000 in
theorem m_381 : Cond.methodLink "SystemParts$Counts" 3 ⟨"SystemParts$Part", "<init>", "(LSystemParts$Seat;)V"⟩ ∈ lw_tbl := List.mem_of_getElem? (i := 418) (by decide +kernel)
set_option maxRecDepth 100000 in
theorem m_382 : Cond.fieldLink "SystemParts$Counts" 9 "SystemParts$Counts" "tallies" "[I" ∈ lw_tbl := List.mem_of_getElem? (i := 419) (by decide +kernel)
set_option maxRecDepth 100000 in
theorem m_383 : Cond.laysFinal "SystemParts$Counts" "SystemParts$Counts" "tallies" "[I" ∈ lw_tbl := List.mem_of_getElem? (i := 420) (by decide +kernel)
set_option maxRecDepth 100000 in
theorem m_384 : Cond.soleField "SystemParts$Counts" "tallies" ∈ lw_tbl := List.mem_of_getElem? (i := 421) (by decide +kernel)
set_option maxRecDepth 100000 in
theorem m_385 : Cond.laysFinal "SystemParts$Counts" "SystemParts$Part" "seat" "LSystemParts$Seat;" ∈ lw_tbl := List.mem_of_getElem? (i := 422) (by decide +kernel)
set_option maxRecDepth 100000 in
theorem m_386 : Cond.superclass "SystemParts$Counts" "SystemParts$Part" ∈ lw_tbl := List.mem_of_getElem? (i := 423) (by decide +kernel)
set_option maxRecDepth 100000 in
theorem m_387 : Cond.methodLink "SystemPartsLaw" 63 ⟨"SystemPartsLaw", "load", "(LSystemParts;II[J)I"⟩ ∈ lw_tbl := List.mem_of_getElem? (i := 424) (by decide +kernel)
set_option maxRecDepth 100000 in
theorem m_388 : Cond.static ⟨"SystemPartsLaw", "load", "(LSystemParts;II[J)I"⟩ ∈ lw_tbl := List.mem_of_getElem? (i := 425) (by decide +kernel)
set_option maxRecDepth 100000 in
theorem m_389 : Cond.codeWith ⟨"SystemPartsLaw", "load", "(LSystemParts;II[J)I"⟩ method_4_code 5 (some FieldType.int) [(0, 10, 13, 13)] ∈ lw_tbl := List.mem_of_getElem? (i := 426) (by decide +kernel)
set_option maxRecDepth 100000 in
theorem m_390 : Cond.methodLink "SystemPartsLaw" 17 ⟨"SystemParts", "load", "(II)I"⟩ ∈ lw_tbl := List.mem_of_getElem? (i := 427) (by decide +kernel)
set_option maxRecDepth 100000 in
theorem m_391 : Cond.instanceMethod ⟨"SystemParts", "load", "(II)I"⟩ ∈ lw_tbl := List.mem_of_getElem? (i := 428) (by decide +kernel)
set_option maxRecDepth 100000 in
theorem m_392 : Cond.selects "SystemParts" ⟨"SystemParts", "load", "(II)I"⟩ ⟨"SystemParts", "load", "(II)I"⟩ ∈ lw_tbl := List.mem_of_getElem? (i := 429) (by decide +kernel)
set_option maxRecDepth 100000 in
theorem m_393 : Cond.code ⟨"SystemParts", "load", "(II)I"⟩ prog_1_method_3_code 6 (some FieldType.int) ∈ lw_tbl := List.mem_of_getElem? (i := 430) (by decide +kernel)
set_option maxRecDepth 100000 in
theorem m_394 : Cond.methodLink "SystemParts" 69 ⟨"SystemParts", "partWith", "(I)LSystemParts$Part;"⟩ ∈ lw_tbl := List.mem_of_getElem? (i := 431) (by decide +kernel)
set_option maxRecDepth 100000 in
theorem m_395 : Cond.privateMethod ⟨"SystemParts", "partWith", "(I)LSystemParts$Part;"⟩ ∈ lw_tbl := List.mem_of_getElem? (i := 432) (by decide +kernel)
set_option maxRecDepth 100000 in
theorem m_396 : Cond.instanceMethod ⟨"SystemParts", "partWith", "(I)LSystemParts$Part;"⟩ ∈ lw_tbl := List.mem_of_getElem? (i := 433) (by decide +kernel)
set_option maxRecDepth 100000 in
theorem m_397 : Cond.code ⟨"SystemParts", "partWith", "(I)LSystemParts$Part;"⟩ prog_1_method_20_code 4 (some (FieldType.object "SystemParts$Part")) ∈ lw_tbl := List.mem_of_getElem? (i := 434) (by decide +kernel)
set_option maxRecDepth 100000 in
theorem m_398 : Cond.methodLink "SystemParts" 82 ⟨"SystemParts$Cells", "look", "(I)I"⟩ ∈ lw_tbl := List.mem_of_getElem? (i := 435) (by decide +kernel)
set_option maxRecDepth 100000 in
theorem m_399 : Cond.instanceMethod ⟨"SystemParts$Cells", "look", "(I)I"⟩ ∈ lw_tbl := List.mem_of_getElem? (i := 436) (by decide +kernel)
set_option maxRecDepth 100000 in
theorem m_400 : Cond.selects "SystemParts$Cells" ⟨"SystemParts$Cells", "look", "(I)I"⟩ ⟨"SystemParts$Cells", "look", "(I)I"⟩ ∈ lw_tbl := List.mem_of_getElem? (i := 437) (by decide +kernel)
set_option maxRecDepth 100000 in
theorem m_401 : Cond.code ⟨"SystemParts$Cells", "look", "(I)I"⟩ prog_2_method_2_code 2 (some FieldType.int) ∈ lw_tbl := List.mem_of_getElem? (i := 438) (by decide +kernel)
set_option maxRecDepth 100000 in
theorem m_402 : Cond.methodLink "SystemParts" 86 ⟨"SystemParts$Cells", "put", "(II)V"⟩ ∈ lw_tbl := List.mem_of_getElem? (i := 439) (by decide +kernel)
set_option maxRecDepth 100000 in
theorem m_403 : Cond.instanceMethod ⟨"SystemParts$Cells", "put", "(II)V"⟩ ∈ lw_tbl := List.mem_of_getElem? (i := 440) (by decide +kernel)
set_option maxRecDepth 100000 in
theorem m_404 : Cond.selects "SystemParts$Cells" ⟨"SystemParts$Cells", "put", "(II)V"⟩ ⟨"SystemParts$Cells", "put", "(II)V"⟩ ∈ lw_tbl := List.mem_of_getElem? (i := 441) (by decide +kernel)
set_option maxRecDepth 100000 in
theorem m_405 : Cond.code ⟨"SystemParts$Cells", "put", "(II)V"⟩ prog_2_method_3_code 3 none ∈ lw_tbl := List.mem_of_getElem? (i := 442) (by decide +kernel)
set_option maxRecDepth 100000 in
theorem m_406 : Cond.stringRef "SystemParts" 90 "no STORE or FIXED has the place" ∈ lw_tbl := List.mem_of_getElem? (i := 443) (by decide +kernel)
set_option maxRecDepth 100000 in
theorem m_407 : Cond.methodLink "SystemPartsLaw" 67 ⟨"SystemPartsLaw", "read", "(LSystemParts;I[J)I"⟩ ∈ lw_tbl := List.mem_of_getElem? (i := 444) (by decide +kernel)
set_option maxRecDepth 100000 in
theorem m_408 : Cond.static ⟨"SystemPartsLaw", "read", "(LSystemParts;I[J)I"⟩ ∈ lw_tbl := List.mem_of_getElem? (i := 445) (by decide +kernel)
set_option maxRecDepth 100000 in
theorem m_409 : Cond.codeWith ⟨"SystemPartsLaw", "read", "(LSystemParts;I[J)I"⟩ method_5_code 4 (some FieldType.int) [(0, 9, 12, 25), (0, 9, 15, 27)] ∈ lw_tbl := List.mem_of_getElem? (i := 446) (by decide +kernel)
set_option maxRecDepth 100000 in
theorem m_410 : Cond.classLink "SystemPartsLaw" 25 "java/lang/IndexOutOfBoundsException" ∈ lw_tbl := List.mem_of_getElem? (i := 447) (by decide +kernel)
set_option maxRecDepth 100000 in
theorem m_411 : Cond.classLink "SystemPartsLaw" 27 "java/lang/IllegalStateException" ∈ lw_tbl := List.mem_of_getElem? (i := 448) (by decide +kernel)
set_option maxRecDepth 100000 in
theorem m_412 : Cond.methodLink "SystemPartsLaw" 21 ⟨"SystemParts", "read", "(I)I"⟩ ∈ lw_tbl := List.mem_of_getElem? (i := 449) (by decide +kernel)
set_option maxRecDepth 100000 in
theorem m_413 : Cond.instanceMethod ⟨"SystemParts", "read", "(I)I"⟩ ∈ lw_tbl := List.mem_of_getElem? (i := 450) (by decide +kernel)
set_option maxRecDepth 100000 in
theorem m_414 : Cond.selects "SystemParts" ⟨"SystemParts", "read", "(I)I"⟩ ⟨"SystemParts", "read", "(I)I"⟩ ∈ lw_tbl := List.mem_of_getElem? (i := 451) (by decide +kernel)
set_option maxRecDepth 100000 in
theorem m_415 : Cond.code ⟨"SystemParts", "read", "(I)I"⟩ prog_1_method_4_code 4 (some FieldType.int) ∈ lw_tbl := List.mem_of_getElem? (i := 452) (by decide +kernel)
set_option maxRecDepth 100000 in
theorem m_416 : Cond.methodLink "SystemParts" 92 ⟨"SystemParts", "reachPart", "(I)LSystemParts$Part;"⟩ ∈ lw_tbl := List.mem_of_getElem? (i := 453) (by decide +kernel)
set_option maxRecDepth 100000 in
theorem m_417 : Cond.privateMethod ⟨"SystemParts", "reachPart", "(I)LSystemParts$Part;"⟩ ∈ lw_tbl := List.mem_of_getElem? (i := 454) (by decide +kernel)
set_option maxRecDepth 100000 in
theorem m_418 : Cond.instanceMethod ⟨"SystemParts", "reachPart", "(I)LSystemParts$Part;"⟩ ∈ lw_tbl := List.mem_of_getElem? (i := 455) (by decide +kernel)
set_option maxRecDepth 100000 in
theorem m_419 : Cond.code ⟨"SystemParts", "reachPart", "(I)LSystemParts$Part;"⟩ prog_1_method_21_code 3 (some (FieldType.object "SystemParts$Part")) ∈ lw_tbl := List.mem_of_getElem? (i := 456) (by decide +kernel)
set_option maxRecDepth 100000 in
theorem m_420 : Cond.classLink "SystemParts" 143 "java/lang/IndexOutOfBoundsException" ∈ lw_tbl := List.mem_of_getElem? (i := 457) (by decide +kernel)
set_option maxRecDepth 100000 in
theorem m_421 : Cond.instantiable "java/lang/IndexOutOfBoundsException" 6 ∈ lw_tbl := List.mem_of_getElem? (i := 458) (by decide +kernel)
set_option maxRecDepth 100000 in
theorem m_422 : Cond.castable "java/lang/IndexOutOfBoundsException" "java/lang/IndexOutOfBoundsException" ∈ lw_tbl := List.mem_of_getElem? (i := 459) (by decide +kernel)
set_option maxRecDepth 100000 in
theorem m_423 : Cond.selects "java/lang/IndexOutOfBoundsException" ⟨"java/lang/Throwable", "fillInStackTrace", "(I)Ljava/lang/Throwable;"⟩ ⟨"java/lang/Throwable", "fillInStackTrace", "(I)Ljava/lang/Throwable;"⟩ ∈ lw_tbl := List.mem_of_getElem? (i := 460) (by decide +kernel)
set_option maxRecDepth 100000 in
theorem m_424 : Cond.lays "java/lang/IndexOutOfBoundsException" "java/lang/Throwable" "cause" "Ljava/lang/Throwable;" ∈ lw_tbl := List.mem_of_getElem? (i := 461) (by decide +kernel)
set_option maxRecDepth 100000 in
theorem m_425 : Cond.lays "java/lang/IndexOutOfBoundsException" "java/lang/Throwable" "stackTrace" "[Ljava/lang/StackTraceElement;" ∈ lw_tbl := List.mem_of_getElem? (i := 462) (by decide +kernel)
set_option maxRecDepth 100000 in
theorem m_426 : Cond.lays "java/lang/IndexOutOfBoundsException" "java/lang/Throwable" "suppressedExceptions" "Ljava/util/List;" ∈ lw_tbl := List.mem_of_getElem? (i := 463) (by decide +kernel)
set_option maxRecDepth 100000 in
theorem m_427 : Cond.lays "java/lang/IndexOutOfBoundsException" "java/lang/Throwable" "detailMessage" "Ljava/lang/String;" ∈ lw_tbl := List.mem_of_getElem? (i := 464) (by decide +kernel)
set_option maxRecDepth 100000 in
theorem m_428 : Cond.lays "java/lang/IndexOutOfBoundsException" "java/lang/Throwable" "backtrace" "Ljava/lang/Object;" ∈ lw_tbl := List.mem_of_getElem? (i := 465) (by decide +kernel)
set_option maxRecDepth 100000 in
theorem m_429 : Cond.stringRef "SystemParts" 205 "no such place" ∈ lw_tbl := List.mem_of_getElem? (i := 466) (by decide +kernel)
set_option maxRecDepth 100000 in
theorem m_430 : Cond.methodLink "SystemParts" 147 ⟨"java/lang/IndexOutOfBoundsException", "<init>", "(Ljava/lang/String;)V"⟩ ∈ lw_tbl := List.mem_of_getElem? (i := 467) (by decide +kernel)
set_option maxRecDepth 100000 in
theorem m_431 : Cond.instanceMethod ⟨"java/lang/IndexOutOfBoundsException", "<init>", "(Ljava/lang/String;)V"⟩ ∈ lw_tbl := List.mem_of_getElem? (i := 468) (by decide +kernel)
set_option maxRecDepth 100000 in
theorem m_432 : Cond.code ⟨"java/lang/IndexOutOfBoundsException", "<init>", "(Ljava/lang/String;)V"⟩ prog_15_method_2_code 2 none ∈ lw_tbl := List.mem_of_getElem? (i := 469) (by decide +kernel)
set_option maxRecDepth 100000 in
theorem m_433 : Cond.methodLink "java/lang/IndexOutOfBoundsException" 7 ⟨"java/lang/RuntimeException", "<init>", "(Ljava/lang/String;)V"⟩ ∈ lw_tbl := List.mem_of_getElem? (i := 470) (by decide +kernel)
set_option maxRecDepth 100000 in
theorem m_434 : Cond.lays "java/lang/IndexOutOfBoundsException" "java/lang/Throwable" "depth" "I" ∈ lw_tbl := List.mem_of_getElem? (i := 471) (by decide +kernel)
set_option maxRecDepth 100000 in
theorem m_435 : Cond.superclass "java/lang/IndexOutOfBoundsException" "java/lang/RuntimeException" ∈ lw_tbl := List.mem_of_getElem? (i := 472) (by decide +kernel)
set_option maxRecDepth 100000 in
theorem m_436 : Cond.methodLink "SystemParts" 95 ⟨"SystemParts", "tallyOne", "(I)V"⟩ ∈ lw_tbl := List.mem_of_getElem? (i := 473) (by decide +kernel)
set_option maxRecDepth 100000 in
theorem m_437 : Cond.privateMethod ⟨"SystemParts", "tallyOne", "(I)V"⟩ ∈ lw_tbl := List.mem_of_getElem? (i := 474) (by decide +kernel)
set_option maxRecDepth 100000 in
theorem m_438 : Cond.instanceMethod ⟨"SystemParts", "tallyOne", "(I)V"⟩ ∈ lw_tbl := List.mem_of_getElem? (i := 475) (by decide +kernel)
set_option maxRecDepth 100000 in
theorem m_439 : Cond.code ⟨"SystemParts", "tallyOne", "(I)V"⟩ prog_1_method_26_code 5 none ∈ lw_tbl := List.mem_of_getElem? (i := 476) (by decide +kernel)
set_option maxRecDepth 100000 in
theorem m_440 : Cond.methodLink "SystemParts" 223 ⟨"SystemParts$Counts", "add", "(I)V"⟩ ∈ lw_tbl := List.mem_of_getElem? (i := 477) (by decide +kernel)
set_option maxRecDepth 100000 in
theorem m_441 : Cond.instanceMethod ⟨"SystemParts$Counts", "add", "(I)V"⟩ ∈ lw_tbl := List.mem_of_getElem? (i := 478) (by decide +kernel)
set_option maxRecDepth 100000 in
theorem m_442 : Cond.selects "SystemParts$Counts" ⟨"SystemParts$Counts", "add", "(I)V"⟩ ⟨"SystemParts$Counts", "add", "(I)V"⟩ ∈ lw_tbl := List.mem_of_getElem? (i := 479) (by decide +kernel)
set_option maxRecDepth 100000 in
theorem m_443 : Cond.code ⟨"SystemParts$Counts", "add", "(I)V"⟩ prog_3_method_2_code 2 none ∈ lw_tbl := List.mem_of_getElem? (i := 480) (by decide +kernel)
set_option maxRecDepth 100000 in
theorem m_444 : Cond.classLink "SystemParts" 112 "java/lang/IllegalStateException" ∈ lw_tbl := List.mem_of_getElem? (i := 481) (by decide +kernel)
set_option maxRecDepth 100000 in
theorem m_445 : Cond.instantiable "java/lang/IllegalStateException" 6 ∈ lw_tbl := List.mem_of_getElem? (i := 482) (by decide +kernel)
set_option maxRecDepth 100000 in
theorem m_446 : Cond.castable "java/lang/IllegalStateException" "java/lang/IllegalStateException" ∈ lw_tbl := List.mem_of_getElem? (i := 483) (by decide +kernel)
set_option maxRecDepth 100000 in
theorem m_447 : Cond.selects "java/lang/IllegalStateException" ⟨"java/lang/Throwable", "fillInStackTrace", "(I)Ljava/lang/Throwable;"⟩ ⟨"java/lang/Throwable", "fillInStackTrace", "(I)Ljava/lang/Throwable;"⟩ ∈ lw_tbl := List.mem_of_getElem? (i := 484) (by decide +kernel)
set_option maxRecDepth 100000 in
theorem m_448 : Cond.lays "java/lang/IllegalStateException" "java/lang/Throwable" "cause" "Ljava/lang/Throwable;" ∈ lw_tbl := List.mem_of_getElem? (i := 485) (by decide +kernel)
set_option maxRecDepth 100000 in
theorem m_449 : Cond.lays "java/lang/IllegalStateException" "java/lang/Throwable" "stackTrace" "[Ljava/lang/StackTraceElement;" ∈ lw_tbl := List.mem_of_getElem? (i := 486) (by decide +kernel)
set_option maxRecDepth 100000 in
theorem m_450 : Cond.lays "java/lang/IllegalStateException" "java/lang/Throwable" "suppressedExceptions" "Ljava/util/List;" ∈ lw_tbl := List.mem_of_getElem? (i := 487) (by decide +kernel)
set_option maxRecDepth 100000 in
theorem m_451 : Cond.lays "java/lang/IllegalStateException" "java/lang/Throwable" "detailMessage" "Ljava/lang/String;" ∈ lw_tbl := List.mem_of_getElem? (i := 488) (by decide +kernel)
set_option maxRecDepth 100000 in
theorem m_452 : Cond.lays "java/lang/IllegalStateException" "java/lang/Throwable" "backtrace" "Ljava/lang/Object;" ∈ lw_tbl := List.mem_of_getElem? (i := 489) (by decide +kernel)
set_option maxRecDepth 100000 in
theorem m_453 : Cond.stringRef "SystemParts" 207 "no part has the place" ∈ lw_tbl := List.mem_of_getElem? (i := 490) (by decide +kernel)
set_option maxRecDepth 100000 in
theorem m_454 : Cond.methodLink "SystemParts" 116 ⟨"java/lang/IllegalStateException", "<init>", "(Ljava/lang/String;)V"⟩ ∈ lw_tbl := List.mem_of_getElem? (i := 491) (by decide +kernel)
set_option maxRecDepth 100000 in
theorem m_455 : Cond.instanceMethod ⟨"java/lang/IllegalStateException", "<init>", "(Ljava/lang/String;)V"⟩ ∈ lw_tbl := List.mem_of_getElem? (i := 492) (by decide +kernel)
set_option maxRecDepth 100000 in
theorem m_456 : Cond.code ⟨"java/lang/IllegalStateException", "<init>", "(Ljava/lang/String;)V"⟩ prog_14_method_2_code 2 none ∈ lw_tbl := List.mem_of_getElem? (i := 493) (by decide +kernel)
set_option maxRecDepth 100000 in
theorem m_457 : Cond.methodLink "java/lang/IllegalStateException" 7 ⟨"java/lang/RuntimeException", "<init>", "(Ljava/lang/String;)V"⟩ ∈ lw_tbl := List.mem_of_getElem? (i := 494) (by decide +kernel)
set_option maxRecDepth 100000 in
theorem m_458 : Cond.lays "java/lang/IllegalStateException" "java/lang/Throwable" "depth" "I" ∈ lw_tbl := List.mem_of_getElem? (i := 495) (by decide +kernel)
set_option maxRecDepth 100000 in
theorem m_459 : Cond.superclass "java/lang/IllegalStateException" "java/lang/RuntimeException" ∈ lw_tbl := List.mem_of_getElem? (i := 496) (by decide +kernel)
set_option maxRecDepth 100000 in
theorem m_460 : Cond.methodLink "SystemParts" 118 ⟨"SystemParts$Seat", "accessSteps", "()I"⟩ ∈ lw_tbl := List.mem_of_getElem? (i := 497) (by decide +kernel)
set_option maxRecDepth 100000 in
theorem m_461 : Cond.instanceMethod ⟨"SystemParts$Seat", "accessSteps", "()I"⟩ ∈ lw_tbl := List.mem_of_getElem? (i := 498) (by decide +kernel)
set_option maxRecDepth 100000 in
theorem m_462 : Cond.selects "SystemParts$Seat" ⟨"SystemParts$Seat", "accessSteps", "()I"⟩ ⟨"SystemParts$Seat", "accessSteps", "()I"⟩ ∈ lw_tbl := List.mem_of_getElem? (i := 499) (by decide +kernel)
set_option maxRecDepth 100000 in
theorem m_463 : Cond.code ⟨"SystemParts$Seat", "accessSteps", "()I"⟩ prog_7_method_2_code 1 (some FieldType.int) ∈ lw_tbl := List.mem_of_getElem? (i := 500) (by decide +kernel)
set_option maxRecDepth 100000 in
theorem m_464 : Cond.methodLink "SystemParts" 123 ⟨"SystemParts", "runSteps", "(I)Z"⟩ ∈ lw_tbl := List.mem_of_getElem? (i := 501) (by decide +kernel)
set_option maxRecDepth 100000 in
theorem m_465 : Cond.privateMethod ⟨"SystemParts", "runSteps", "(I)Z"⟩ ∈ lw_tbl := List.mem_of_getElem? (i := 502) (by decide +kernel)
set_option maxRecDepth 100000 in
theorem m_466 : Cond.instanceMethod ⟨"SystemParts", "runSteps", "(I)Z"⟩ ∈ lw_tbl := List.mem_of_getElem? (i := 503) (by decide +kernel)
set_option maxRecDepth 100000 in
theorem m_467 : Cond.code ⟨"SystemParts", "runSteps", "(I)Z"⟩ prog_1_method_23_code 4 (some FieldType.boolean) ∈ lw_tbl := List.mem_of_getElem? (i := 504) (by decide +kernel)
set_option maxRecDepth 100000 in
theorem m_468 : Cond.methodLink "SystemParts" 211 ⟨"SystemParts", "oneStep", "()Z"⟩ ∈ lw_tbl := List.mem_of_getElem? (i := 505) (by decide +kernel)
set_option maxRecDepth 100000 in
theorem m_469 : Cond.privateMethod ⟨"SystemParts", "oneStep", "()Z"⟩ ∈ lw_tbl := List.mem_of_getElem? (i := 506) (by decide +kernel)
set_option maxRecDepth 100000 in
theorem m_470 : Cond.instanceMethod ⟨"SystemParts", "oneStep", "()Z"⟩ ∈ lw_tbl := List.mem_of_getElem? (i := 507) (by decide +kernel)
set_option maxRecDepth 100000 in
theorem m_471 : Cond.code ⟨"SystemParts", "oneStep", "()Z"⟩ prog_1_method_24_code 3 (some FieldType.boolean) ∈ lw_tbl := List.mem_of_getElem? (i := 508) (by decide +kernel)
set_option maxRecDepth 100000 in
theorem m_472 : Cond.methodLink "SystemParts" 214 ⟨"SystemParts$Part", "goOn", "()Z"⟩ ∈ lw_tbl := List.mem_of_getElem? (i := 509) (by decide +kernel)
set_option maxRecDepth 100000 in
theorem m_473 : Cond.instanceMethod ⟨"SystemParts$Part", "goOn", "()Z"⟩ ∈ lw_tbl := List.mem_of_getElem? (i := 510) (by decide +kernel)
set_option maxRecDepth 100000 in
theorem m_474 : Cond.sameMethod "SystemParts$Part" "SystemParts$Part" "goOn" "()Z" ∈ lw_tbl := List.mem_of_getElem? (i := 511) (by decide +kernel)
set_option maxRecDepth 100000 in
theorem m_475 : Cond.selects "SystemParts$Cells" ⟨"SystemParts$Part", "goOn", "()Z"⟩ ⟨"SystemParts$Part", "goOn", "()Z"⟩ ∈ lw_tbl := List.mem_of_getElem? (i := 512) (by decide +kernel)
set_option maxRecDepth 100000 in
theorem m_476 : Cond.selects "SystemParts$Counts" ⟨"SystemParts$Part", "goOn", "()Z"⟩ ⟨"SystemParts$Counts", "goOn", "()Z"⟩ ∈ lw_tbl := List.mem_of_getElem? (i := 513) (by decide +kernel)
set_option maxRecDepth 100000 in
theorem m_477 : Cond.instanceMethod ⟨"SystemParts$Counts", "goOn", "()Z"⟩ ∈ lw_tbl := List.mem_of_getElem? (i := 514) (by decide +kernel)
set_option maxRecDepth 100000 in
theorem m_478 : Cond.code ⟨"SystemParts$Counts", "goOn", "()Z"⟩ prog_3_method_5_code 1 (some FieldType.boolean) ∈ lw_tbl := List.mem_of_getElem? (i := 515) (by decide +kernel)
set_option maxRecDepth 100000 in
theorem m_479 : Cond.methodLink "SystemParts$Counts" 15 ⟨"SystemParts$Counts", "add", "(I)V"⟩ ∈ lw_tbl := List.mem_of_getElem? (i := 516) (by decide +kernel)
set_option maxRecDepth 100000 in
theorem m_480 : Cond.selects "SystemParts$Rows" ⟨"SystemParts$Part", "goOn", "()Z"⟩ ⟨"SystemParts$Rows", "goOn", "()Z"⟩ ∈ lw_tbl := List.mem_of_getElem? (i := 517) (by decide +kernel)
set_option maxRecDepth 100000 in
theorem m_481 : Cond.instanceMethod ⟨"SystemParts$Rows", "goOn", "()Z"⟩ ∈ lw_tbl := List.mem_of_getElem? (i := 518) (by decide +kernel)
set_option maxRecDepth 100000 in
theorem m_482 : Cond.code ⟨"SystemParts$Rows", "goOn", "()Z"⟩ prog_6_method_6_code 1 (some FieldType.boolean) ∈ lw_tbl := List.mem_of_getElem? (i := 519) (by decide +kernel)
set_option maxRecDepth 100000 in
theorem m_483 : Cond.methodLink "SystemParts$Rows" 40 ⟨"SystemParts$Rows", "moveNumbers", "()V"⟩ ∈ lw_tbl := List.mem_of_getElem? (i := 520) (by decide +kernel)
set_option maxRecDepth 100000 in
theorem m_484 : Cond.privateMethod ⟨"SystemParts$Rows", "moveNumbers", "()V"⟩ ∈ lw_tbl := List.mem_of_getElem? (i := 521) (by decide +kernel)
set_option maxRecDepth 100000 in
theorem m_485 : Cond.instanceMethod ⟨"SystemParts$Rows", "moveNumbers", "()V"⟩ ∈ lw_tbl := List.mem_of_getElem? (i := 522) (by decide +kernel)
set_option maxRecDepth 100000 in
theorem m_486 : Cond.code ⟨"SystemParts$Rows", "moveNumbers", "()V"⟩ prog_6_method_7_code 3 none ∈ lw_tbl := List.mem_of_getElem? (i := 523) (by decide +kernel)
set_option maxRecDepth 100000 in
theorem m_487 : Cond.selects "SystemParts$Serial" ⟨"SystemParts$Part", "goOn", "()Z"⟩ ⟨"SystemParts$Serial", "goOn", "()Z"⟩ ∈ lw_tbl := List.mem_of_getElem? (i := 524) (by decide +kernel)
set_option maxRecDepth 100000 in
theorem m_488 : Cond.instanceMethod ⟨"SystemParts$Serial", "goOn", "()Z"⟩ ∈ lw_tbl := List.mem_of_getElem? (i := 525) (by decide +kernel)
set_option maxRecDepth 100000 in
theorem m_489 : Cond.code ⟨"SystemParts$Serial", "goOn", "()Z"⟩ prog_8_method_9_code 1 (some FieldType.boolean) ∈ lw_tbl := List.mem_of_getElem? (i := 526) (by decide +kernel)
set_option maxRecDepth 100000 in
theorem m_490 : Cond.selects "SystemParts$Timer" ⟨"SystemParts$Part", "goOn", "()Z"⟩ ⟨"SystemParts$Timer", "goOn", "()Z"⟩ ∈ lw_tbl := List.mem_of_getElem? (i := 527) (by decide +kernel)
set_option maxRecDepth 100000 in
theorem m_491 : Cond.instanceMethod ⟨"SystemParts$Timer", "goOn", "()Z"⟩ ∈ lw_tbl := List.mem_of_getElem? (i := 528) (by decide +kernel)
set_option maxRecDepth 100000 in
theorem m_492 : Cond.code ⟨"SystemParts$Timer", "goOn", "()Z"⟩ prog_9_method_4_code 1 (some FieldType.boolean) ∈ lw_tbl := List.mem_of_getElem? (i := 529) (by decide +kernel)
set_option maxRecDepth 100000 in
theorem m_493 : Cond.code ⟨"SystemParts$Part", "goOn", "()Z"⟩ prog_5_method_5_code 1 (some FieldType.boolean) ∈ lw_tbl := List.mem_of_getElem? (i := 530) (by decide +kernel)
set_option maxRecDepth 100000 in
theorem m_494 : Cond.methodLink "SystemParts" 101 ⟨"SystemParts", "askingLines", "()I"⟩ ∈ lw_tbl := List.mem_of_getElem? (i := 531) (by decide +kernel)
set_option maxRecDepth 100000 in
theorem m_495 : Cond.privateMethod ⟨"SystemParts", "askingLines", "()I"⟩ ∈ lw_tbl := List.mem_of_getElem? (i := 532) (by decide +kernel)
set_option maxRecDepth 100000 in
theorem m_496 : Cond.instanceMethod ⟨"SystemParts", "askingLines", "()I"⟩ ∈ lw_tbl := List.mem_of_getElem? (i := 533) (by decide +kernel)
set_option maxRecDepth 100000 in
theorem m_497 : Cond.code ⟨"SystemParts", "askingLines", "()I"⟩ prog_1_method_25_code 4 (some FieldType.int) ∈ lw_tbl := List.mem_of_getElem? (i := 534) (by decide +kernel)
set_option maxRecDepth 100000 in
theorem m_498 : Cond.methodLink "SystemParts" 217 ⟨"SystemParts$Part", "wantsAttention", "()Z"⟩ ∈ lw_tbl := List.mem_of_getElem? (i := 535) (by decide +kernel)
set_option maxRecDepth 100000 in
theorem m_499 : Cond.instanceMethod ⟨"SystemParts$Part", "wantsAttention", "()Z"⟩ ∈ lw_tbl := List.mem_of_getElem? (i := 536) (by decide +kernel)
set_option maxRecDepth 100000 in
theorem m_500 : Cond.sameMethod "SystemParts$Part" "SystemParts$Part" "wantsAttention" "()Z" ∈ lw_tbl := List.mem_of_getElem? (i := 537) (by decide +kernel)
set_option maxRecDepth 100000 in
theorem m_501 : Cond.selects "SystemParts$Cells" ⟨"SystemParts$Part", "wantsAttention", "()Z"⟩ ⟨"SystemParts$Part", "wantsAttention", "()Z"⟩ ∈ lw_tbl := List.mem_of_getElem? (i := 538) (by decide +kernel)
set_option maxRecDepth 100000 in
theorem m_502 : Cond.selects "SystemParts$Counts" ⟨"SystemParts$Part", "wantsAttention", "()Z"⟩ ⟨"SystemParts$Part", "wantsAttention", "()Z"⟩ ∈ lw_tbl := List.mem_of_getElem? (i := 539) (by decide +kernel)
set_option maxRecDepth 100000 in
theorem m_503 : Cond.selects "SystemParts$Rows" ⟨"SystemParts$Part", "wantsAttention", "()Z"⟩ ⟨"SystemParts$Rows", "wantsAttention", "()Z"⟩ ∈ lw_tbl := List.mem_of_getElem? (i := 540) (by decide +kernel)
set_option maxRecDepth 100000 in
theorem m_504 : Cond.instanceMethod ⟨"SystemParts$Rows", "wantsAttention", "()Z"⟩ ∈ lw_tbl := List.mem_of_getElem? (i := 541) (by decide +kernel)
set_option maxRecDepth 100000 in
theorem m_505 : Cond.code ⟨"SystemParts$Rows", "wantsAttention", "()Z"⟩ prog_6_method_8_code 1 (some FieldType.boolean) ∈ lw_tbl := List.mem_of_getElem? (i := 542) (by decide +kernel)
set_option maxRecDepth 100000 in
theorem m_506 : Cond.selects "SystemParts$Serial" ⟨"SystemParts$Part", "wantsAttention", "()Z"⟩ ⟨"SystemParts$Serial", "wantsAttention", "()Z"⟩ ∈ lw_tbl := List.mem_of_getElem? (i := 543) (by decide +kernel)
set_option maxRecDepth 100000 in
theorem m_507 : Cond.instanceMethod ⟨"SystemParts$Serial", "wantsAttention", "()Z"⟩ ∈ lw_tbl := List.mem_of_getElem? (i := 544) (by decide +kernel)
set_option maxRecDepth 100000 in
theorem m_508 : Cond.code ⟨"SystemParts$Serial", "wantsAttention", "()Z"⟩ prog_8_method_10_code 1 (some FieldType.boolean) ∈ lw_tbl := List.mem_of_getElem? (i := 545) (by decide +kernel)
set_option maxRecDepth 100000 in
theorem m_509 : Cond.selects "SystemParts$Timer" ⟨"SystemParts$Part", "wantsAttention", "()Z"⟩ ⟨"SystemParts$Timer", "wantsAttention", "()Z"⟩ ∈ lw_tbl := List.mem_of_getElem? (i := 546) (by decide +kernel)
set_option maxRecDepth 100000 in
theorem m_510 : Cond.instanceMethod ⟨"SystemParts$Timer", "wantsAttention", "()Z"⟩ ∈ lw_tbl := List.mem_of_getElem? (i := 547) (by decide +kernel)
set_option maxRecDepth 100000 in
theorem m_511 : Cond.code ⟨"SystemParts$Timer", "wantsAttention", "()Z"⟩ prog_9_method_5_code 1 (some FieldType.boolean) ∈ lw_tbl := List.mem_of_getElem? (i := 548) (by decide +kernel)
set_option maxRecDepth 100000 in
theorem m_512 : Cond.code ⟨"SystemParts$Part", "wantsAttention", "()Z"⟩ prog_5_method_6_code 1 (some FieldType.boolean) ∈ lw_tbl := List.mem_of_getElem? (i := 549) (by decide +kernel)
set_option maxRecDepth 100000 in
theorem m_513 : Cond.methodLink "SystemParts" 105 ⟨"SystemParts$Lines", "follow", "(I)V"⟩ ∈ lw_tbl := List.mem_of_getElem? (i := 550) (by decide +kernel)
set_option maxRecDepth 100000 in
theorem m_514 : Cond.instanceMethod ⟨"SystemParts$Lines", "follow", "(I)V"⟩ ∈ lw_tbl := List.mem_of_getElem? (i := 551) (by decide +kernel)
set_option maxRecDepth 100000 in
theorem m_515 : Cond.selects "SystemParts$Lines" ⟨"SystemParts$Lines", "follow", "(I)V"⟩ ⟨"SystemParts$Lines", "follow", "(I)V"⟩ ∈ lw_tbl := List.mem_of_getElem? (i := 552) (by decide +kernel)
set_option maxRecDepth 100000 in
theorem m_516 : Cond.code ⟨"SystemParts$Lines", "follow", "(I)V"⟩ prog_4_method_7_code 5 none ∈ lw_tbl := List.mem_of_getElem? (i := 553) (by decide +kernel)
set_option maxRecDepth 100000 in
theorem m_517 : Cond.methodLink "SystemParts" 100 ⟨"SystemParts$Part", "look", "(I)I"⟩ ∈ lw_tbl := List.mem_of_getElem? (i := 554) (by decide +kernel)
set_option maxRecDepth 100000 in
theorem m_518 : Cond.declares ⟨"SystemParts$Part", "look", "(I)I"⟩ ∈ lw_tbl := List.mem_of_getElem? (i := 555) (by decide +kernel)
set_option maxRecDepth 100000 in
theorem m_519 : Cond.sameMethod "SystemParts$Part" "SystemParts$Part" "look" "(I)I" ∈ lw_tbl := List.mem_of_getElem? (i := 556) (by decide +kernel)
set_option maxRecDepth 100000 in
theorem m_520 : Cond.selects "SystemParts$Cells" ⟨"SystemParts$Part", "look", "(I)I"⟩ ⟨"SystemParts$Cells", "look", "(I)I"⟩ ∈ lw_tbl := List.mem_of_getElem? (i := 557) (by decide +kernel)
set_option maxRecDepth 100000 in
theorem m_521 : Cond.selects "SystemParts$Counts" ⟨"SystemParts$Part", "look", "(I)I"⟩ ⟨"SystemParts$Counts", "look", "(I)I"⟩ ∈ lw_tbl := List.mem_of_getElem? (i := 558) (by decide +kernel)
set_option maxRecDepth 100000 in
theorem m_522 : Cond.instanceMethod ⟨"SystemParts$Counts", "look", "(I)I"⟩ ∈ lw_tbl := List.mem_of_getElem? (i := 559) (by decide +kernel)
set_option maxRecDepth 100000 in
theorem m_523 : Cond.code ⟨"SystemParts$Counts", "look", "(I)I"⟩ prog_3_method_3_code 2 (some FieldType.int) ∈ lw_tbl := List.mem_of_getElem? (i := 560) (by decide +kernel)
set_option maxRecDepth 100000 in
theorem m_524 : Cond.selects "SystemParts$Rows" ⟨"SystemParts$Part", "look", "(I)I"⟩ ⟨"SystemParts$Rows", "look", "(I)I"⟩ ∈ lw_tbl := List.mem_of_getElem? (i := 561) (by decide +kernel)
set_option maxRecDepth 100000 in
theorem m_525 : Cond.instanceMethod ⟨"SystemParts$Rows", "look", "(I)I"⟩ ∈ lw_tbl := List.mem_of_getElem? (i := 562) (by decide +kernel)
set_option maxRecDepth 100000 in
theorem m_526 : Cond.code ⟨"SystemParts$Rows", "look", "(I)I"⟩ prog_6_method_2_code 2 (some FieldType.int) ∈ lw_tbl := List.mem_of_getElem? (i := 563) (by decide +kernel)
set_option maxRecDepth 100000 in
theorem m_527 : Cond.methodLink "SystemParts$Rows" 32 ⟨"SystemParts$Rows", "inWindow", "(I)Z"⟩ ∈ lw_tbl := List.mem_of_getElem? (i := 564) (by decide +kernel)
set_option maxRecDepth 100000 in
theorem m_528 : Cond.privateMethod ⟨"SystemParts$Rows", "inWindow", "(I)Z"⟩ ∈ lw_tbl := List.mem_of_getElem? (i := 565) (by decide +kernel)
set_option maxRecDepth 100000 in
theorem m_529 : Cond.instanceMethod ⟨"SystemParts$Rows", "inWindow", "(I)Z"⟩ ∈ lw_tbl := List.mem_of_getElem? (i := 566) (by decide +kernel)
set_option maxRecDepth 100000 in
theorem m_530 : Cond.code ⟨"SystemParts$Rows", "inWindow", "(I)Z"⟩ prog_6_method_3_code 2 (some FieldType.boolean) ∈ lw_tbl := List.mem_of_getElem? (i := 567) (by decide +kernel)
set_option maxRecDepth 100000 in
theorem m_531 : Cond.selects "SystemParts$Serial" ⟨"SystemParts$Part", "look", "(I)I"⟩ ⟨"SystemParts$Serial", "look", "(I)I"⟩ ∈ lw_tbl := List.mem_of_getElem? (i := 568) (by decide +kernel)
set_option maxRecDepth 100000 in
theorem m_532 : Cond.instanceMethod ⟨"SystemParts$Serial", "look", "(I)I"⟩ ∈ lw_tbl := List.mem_of_getElem? (i := 569) (by decide +kernel)
set_option maxRecDepth 100000 in
theorem m_533 : Cond.code ⟨"SystemParts$Serial", "look", "(I)I"⟩ prog_8_method_6_code 2 (some FieldType.int) ∈ lw_tbl := List.mem_of_getElem? (i := 570) (by decide +kernel)
set_option maxRecDepth 100000 in
theorem m_534 : Cond.methodLink "SystemParts$Serial" 45 ⟨"SystemParts$Serial", "nextCome", "()I"⟩ ∈ lw_tbl := List.mem_of_getElem? (i := 571) (by decide +kernel)
set_option maxRecDepth 100000 in
theorem m_535 : Cond.privateMethod ⟨"SystemParts$Serial", "nextCome", "()I"⟩ ∈ lw_tbl := List.mem_of_getElem? (i := 572) (by decide +kernel)
set_option maxRecDepth 100000 in
theorem m_536 : Cond.instanceMethod ⟨"SystemParts$Serial", "nextCome", "()I"⟩ ∈ lw_tbl := List.mem_of_getElem? (i := 573) (by decide +kernel)
set_option maxRecDepth 100000 in
theorem m_537 : Cond.code ⟨"SystemParts$Serial", "nextCome", "()I"⟩ prog_8_method_7_code 2 (some FieldType.int) ∈ lw_tbl := List.mem_of_getElem? (i := 574) (by decide +kernel)
set_option maxRecDepth 100000 in
theorem m_538 : Cond.selects "SystemParts$Timer" ⟨"SystemParts$Part", "look", "(I)I"⟩ ⟨"SystemParts$Timer", "look", "(I)I"⟩ ∈ lw_tbl := List.mem_of_getElem? (i := 575) (by decide +kernel)
set_option maxRecDepth 100000 in
theorem m_539 : Cond.instanceMethod ⟨"SystemParts$Timer", "look", "(I)I"⟩ ∈ lw_tbl := List.mem_of_getElem? (i := 576) (by decide +kernel)
set_option maxRecDepth 100000 in
theorem m_540 : Cond.code ⟨"SystemParts$Timer", "look", "(I)I"⟩ prog_9_method_2_code 2 (some FieldType.int) ∈ lw_tbl := List.mem_of_getElem? (i := 577) (by decide +kernel)
set_option maxRecDepth 100000 in
theorem m_541 : Cond.methodLink "SystemPartsLaw" 71 ⟨"SystemPartsLaw", "write", "(LSystemParts;II[J)I"⟩ ∈ lw_tbl := List.mem_of_getElem? (i := 578) (by decide +kernel)
set_option maxRecDepth 100000 in
theorem m_542 : Cond.static ⟨"SystemPartsLaw", "write", "(LSystemParts;II[J)I"⟩ ∈ lw_tbl := List.mem_of_getElem? (i := 579) (by decide +kernel)
set_option maxRecDepth 100000 in
theorem m_543 : Cond.codeWith ⟨"SystemPartsLaw", "write", "(LSystemParts;II[J)I"⟩ method_6_code 5 (some FieldType.int) [(0, 10, 13, 25), (0, 10, 17, 27)] ∈ lw_tbl := List.mem_of_getElem? (i := 580) (by decide +kernel)
set_option maxRecDepth 100000 in
theorem m_544 : Cond.methodLink "SystemPartsLaw" 29 ⟨"SystemParts", "write", "(II)I"⟩ ∈ lw_tbl := List.mem_of_getElem? (i := 581) (by decide +kernel)
set_option maxRecDepth 100000 in
theorem m_545 : Cond.instanceMethod ⟨"SystemParts", "write", "(II)I"⟩ ∈ lw_tbl := List.mem_of_getElem? (i := 582) (by decide +kernel)
set_option maxRecDepth 100000 in
theorem m_546 : Cond.selects "SystemParts" ⟨"SystemParts", "write", "(II)I"⟩ ⟨"SystemParts", "write", "(II)I"⟩ ∈ lw_tbl := List.mem_of_getElem? (i := 583) (by decide +kernel)
set_option maxRecDepth 100000 in
theorem m_547 : Cond.code ⟨"SystemParts", "write", "(II)I"⟩ prog_1_method_5_code 4 (some FieldType.int) ∈ lw_tbl := List.mem_of_getElem? (i := 584) (by decide +kernel)
set_option maxRecDepth 100000 in
theorem m_548 : Cond.methodLink "SystemParts" 108 ⟨"SystemParts$Part", "refusesWrites", "()Z"⟩ ∈ lw_tbl := List.mem_of_getElem? (i := 585) (by decide +kernel)
set_option maxRecDepth 100000 in
theorem m_549 : Cond.instanceMethod ⟨"SystemParts$Part", "refusesWrites", "()Z"⟩ ∈ lw_tbl := List.mem_of_getElem? (i := 586) (by decide +kernel)
set_option maxRecDepth 100000 in
theorem m_550 : Cond.sameMethod "SystemParts$Part" "SystemParts$Part" "refusesWrites" "()Z" ∈ lw_tbl := List.mem_of_getElem? (i := 587) (by decide +kernel)
set_option maxRecDepth 100000 in
theorem m_551 : Cond.selects "SystemParts$Cells" ⟨"SystemParts$Part", "refusesWrites", "()Z"⟩ ⟨"SystemParts$Cells", "refusesWrites", "()Z"⟩ ∈ lw_tbl := List.mem_of_getElem? (i := 588) (by decide +kernel)
set_option maxRecDepth 100000 in
theorem m_552 : Cond.instanceMethod ⟨"SystemParts$Cells", "refusesWrites", "()Z"⟩ ∈ lw_tbl := List.mem_of_getElem? (i := 589) (by decide +kernel)
set_option maxRecDepth 100000 in
theorem m_553 : Cond.code ⟨"SystemParts$Cells", "refusesWrites", "()Z"⟩ prog_2_method_4_code 1 (some FieldType.boolean) ∈ lw_tbl := List.mem_of_getElem? (i := 590) (by decide +kernel)
set_option maxRecDepth 100000 in
theorem m_554 : Cond.selects "SystemParts$Counts" ⟨"SystemParts$Part", "refusesWrites", "()Z"⟩ ⟨"SystemParts$Part", "refusesWrites", "()Z"⟩ ∈ lw_tbl := List.mem_of_getElem? (i := 591) (by decide +kernel)
set_option maxRecDepth 100000 in
theorem m_555 : Cond.selects "SystemParts$Rows" ⟨"SystemParts$Part", "refusesWrites", "()Z"⟩ ⟨"SystemParts$Part", "refusesWrites", "()Z"⟩ ∈ lw_tbl := List.mem_of_getElem? (i := 592) (by decide +kernel)
set_option maxRecDepth 100000 in
theorem m_556 : Cond.selects "SystemParts$Serial" ⟨"SystemParts$Part", "refusesWrites", "()Z"⟩ ⟨"SystemParts$Part", "refusesWrites", "()Z"⟩ ∈ lw_tbl := List.mem_of_getElem? (i := 593) (by decide +kernel)
set_option maxRecDepth 100000 in
theorem m_557 : Cond.selects "SystemParts$Timer" ⟨"SystemParts$Part", "refusesWrites", "()Z"⟩ ⟨"SystemParts$Part", "refusesWrites", "()Z"⟩ ∈ lw_tbl := List.mem_of_getElem? (i := 594) (by decide +kernel)
set_option maxRecDepth 100000 in
theorem m_558 : Cond.code ⟨"SystemParts$Part", "refusesWrites", "()Z"⟩ prog_5_method_4_code 1 (some FieldType.boolean) ∈ lw_tbl := List.mem_of_getElem? (i := 595) (by decide +kernel)
set_option maxRecDepth 100000 in
theorem m_559 : Cond.stringRef "SystemParts" 114 "a FIXED is not written" ∈ lw_tbl := List.mem_of_getElem? (i := 596) (by decide +kernel)
set_option maxRecDepth 100000 in
theorem m_560 : Cond.methodLink "SystemParts" 117 ⟨"SystemParts$Part", "put", "(II)V"⟩ ∈ lw_tbl := List.mem_of_getElem? (i := 597) (by decide +kernel)
set_option maxRecDepth 100000 in
theorem m_561 : Cond.declares ⟨"SystemParts$Part", "put", "(II)V"⟩ ∈ lw_tbl := List.mem_of_getElem? (i := 598) (by decide +kernel)
set_option maxRecDepth 100000 in
theorem m_562 : Cond.sameMethod "SystemParts$Part" "SystemParts$Part" "put" "(II)V" ∈ lw_tbl := List.mem_of_getElem? (i := 599) (by decide +kernel)
set_option maxRecDepth 100000 in
theorem m_563 : Cond.selects "SystemParts$Cells" ⟨"SystemParts$Part", "put", "(II)V"⟩ ⟨"SystemParts$Cells", "put", "(II)V"⟩ ∈ lw_tbl := List.mem_of_getElem? (i := 600) (by decide +kernel)
set_option maxRecDepth 100000 in
theorem m_564 : Cond.selects "SystemParts$Counts" ⟨"SystemParts$Part", "put", "(II)V"⟩ ⟨"SystemParts$Counts", "put", "(II)V"⟩ ∈ lw_tbl := List.mem_of_getElem? (i := 601) (by decide +kernel)
set_option maxRecDepth 100000 in
theorem m_565 : Cond.instanceMethod ⟨"SystemParts$Counts", "put", "(II)V"⟩ ∈ lw_tbl := List.mem_of_getElem? (i := 602) (by decide +kernel)
set_option maxRecDepth 100000 in
theorem m_566 : Cond.code ⟨"SystemParts$Counts", "put", "(II)V"⟩ prog_3_method_4_code 3 none ∈ lw_tbl := List.mem_of_getElem? (i := 603) (by decide +kernel)
set_option maxRecDepth 100000 in
theorem m_567 : Cond.selects "SystemParts$Rows" ⟨"SystemParts$Part", "put", "(II)V"⟩ ⟨"SystemParts$Rows", "put", "(II)V"⟩ ∈ lw_tbl := List.mem_of_getElem? (i := 604) (by decide +kernel)
set_option maxRecDepth 100000 in
theorem m_568 : Cond.instanceMethod ⟨"SystemParts$Rows", "put", "(II)V"⟩ ∈ lw_tbl := List.mem_of_getElem? (i := 605) (by decide +kernel)
set_option maxRecDepth 100000 in
theorem m_569 : Cond.code ⟨"SystemParts$Rows", "put", "(II)V"⟩ prog_6_method_4_code 3 none ∈ lw_tbl := List.mem_of_getElem? (i := 606) (by decide +kernel)
set_option maxRecDepth 100000 in
theorem m_570 : Cond.methodLink "SystemParts$Rows" 36 ⟨"SystemParts$Rows", "begin", "(I)V"⟩ ∈ lw_tbl := List.mem_of_getElem? (i := 607) (by decide +kernel)
set_option maxRecDepth 100000 in
theorem m_571 : Cond.privateMethod ⟨"SystemParts$Rows", "begin", "(I)V"⟩ ∈ lw_tbl := List.mem_of_getElem? (i := 608) (by decide +kernel)
set_option maxRecDepth 100000 in
theorem m_572 : Cond.instanceMethod ⟨"SystemParts$Rows", "begin", "(I)V"⟩ ∈ lw_tbl := List.mem_of_getElem? (i := 609) (by decide +kernel)
set_option maxRecDepth 100000 in
theorem m_573 : Cond.code ⟨"SystemParts$Rows", "begin", "(I)V"⟩ prog_6_method_5_code 2 none ∈ lw_tbl := List.mem_of_getElem? (i := 610) (by decide +kernel)
set_option maxRecDepth 100000 in
theorem m_574 : Cond.selects "SystemParts$Serial" ⟨"SystemParts$Part", "put", "(II)V"⟩ ⟨"SystemParts$Serial", "put", "(II)V"⟩ ∈ lw_tbl := List.mem_of_getElem? (i := 611) (by decide +kernel)
set_option maxRecDepth 100000 in
theorem m_575 : Cond.instanceMethod ⟨"SystemParts$Serial", "put", "(II)V"⟩ ∈ lw_tbl := List.mem_of_getElem? (i := 612) (by decide +kernel)
set_option maxRecDepth 100000 in
theorem m_576 : Cond.code ⟨"SystemParts$Serial", "put", "(II)V"⟩ prog_8_method_8_code 3 none ∈ lw_tbl := List.mem_of_getElem? (i := 613) (by decide +kernel)
set_option maxRecDepth 100000 in
theorem m_577 : Cond.selects "SystemParts$Timer" ⟨"SystemParts$Part", "put", "(II)V"⟩ ⟨"SystemParts$Timer", "put", "(II)V"⟩ ∈ lw_tbl := List.mem_of_getElem? (i := 614) (by decide +kernel)
set_option maxRecDepth 100000 in
theorem m_578 : Cond.instanceMethod ⟨"SystemParts$Timer", "put", "(II)V"⟩ ∈ lw_tbl := List.mem_of_getElem? (i := 615) (by decide +kernel)
set_option maxRecDepth 100000 in
theorem m_579 : Cond.code ⟨"SystemParts$Timer", "put", "(II)V"⟩ prog_9_method_3_code 3 none ∈ lw_tbl := List.mem_of_getElem? (i := 616) (by decide +kernel)
set_option maxRecDepth 100000 in
theorem m_580 : Cond.methodLink "SystemPartsLaw" 74 ⟨"SystemPartsLaw", "step", "(LSystemParts;I[J)I"⟩ ∈ lw_tbl := List.mem_of_getElem? (i := 617) (by decide +kernel)
set_option maxRecDepth 100000 in
theorem m_581 : Cond.static ⟨"SystemPartsLaw", "step", "(LSystemParts;I[J)I"⟩ ∈ lw_tbl := List.mem_of_getElem? (i := 618) (by decide +kernel)
set_option maxRecDepth 100000 in
theorem m_582 : Cond.codeWith ⟨"SystemPartsLaw", "step", "(LSystemParts;I[J)I"⟩ method_7_code 4 (some FieldType.int) [(0, 16, 19, 13)] ∈ lw_tbl := List.mem_of_getElem? (i := 619) (by decide +kernel)
set_option maxRecDepth 100000 in
theorem m_583 : Cond.methodLink "SystemPartsLaw" 32 ⟨"SystemParts", "step", "(I)Z"⟩ ∈ lw_tbl := List.mem_of_getElem? (i := 620) (by decide +kernel)
set_option maxRecDepth 100000 in
theorem m_584 : Cond.instanceMethod ⟨"SystemParts", "step", "(I)Z"⟩ ∈ lw_tbl := List.mem_of_getElem? (i := 621) (by decide +kernel)
set_option maxRecDepth 100000 in
theorem m_585 : Cond.selects "SystemParts" ⟨"SystemParts", "step", "(I)Z"⟩ ⟨"SystemParts", "step", "(I)Z"⟩ ∈ lw_tbl := List.mem_of_getElem? (i := 622) (by decide +kernel)
set_option maxRecDepth 100000 in
theorem m_586 : Cond.code ⟨"SystemParts", "step", "(I)Z"⟩ prog_1_method_6_code 2 (some FieldType.boolean) ∈ lw_tbl := List.mem_of_getElem? (i := 623) (by decide +kernel)
set_option maxRecDepth 100000 in
theorem m_587 : Cond.stringRef "SystemParts" 121 "steps are 1 to 1000" ∈ lw_tbl := List.mem_of_getElem? (i := 624) (by decide +kernel)
set_option maxRecDepth 100000 in
theorem m_588 : Cond.methodLink "SystemPartsLaw" 77 ⟨"SystemPartsLaw", "receive", "(LSystemParts;II[J)I"⟩ ∈ lw_tbl := List.mem_of_getElem? (i := 625) (by decide +kernel)
set_option maxRecDepth 100000 in
theorem m_589 : Cond.static ⟨"SystemPartsLaw", "receive", "(LSystemParts;II[J)I"⟩ ∈ lw_tbl := List.mem_of_getElem? (i := 626) (by decide +kernel)
set_option maxRecDepth 100000 in
theorem m_590 : Cond.codeWith ⟨"SystemPartsLaw", "receive", "(LSystemParts;II[J)I"⟩ method_8_code 5 (some FieldType.int) [(0, 10, 13, 13), (0, 10, 17, 15)] ∈ lw_tbl := List.mem_of_getElem? (i := 627) (by decide +kernel)
set_option maxRecDepth 100000 in
theorem m_591 : Cond.methodLink "SystemPartsLaw" 36 ⟨"SystemParts", "receive", "(II)I"⟩ ∈ lw_tbl := List.mem_of_getElem? (i := 628) (by decide +kernel)
set_option maxRecDepth 100000 in
theorem m_592 : Cond.instanceMethod ⟨"SystemParts", "receive", "(II)I"⟩ ∈ lw_tbl := List.mem_of_getElem? (i := 629) (by decide +kernel)
set_option maxRecDepth 100000 in
theorem m_593 : Cond.selects "SystemParts" ⟨"SystemParts", "receive", "(II)I"⟩ ⟨"SystemParts", "receive", "(II)I"⟩ ∈ lw_tbl := List.mem_of_getElem? (i := 630) (by decide +kernel)
set_option maxRecDepth 100000 in
theorem m_594 : Cond.code ⟨"SystemParts", "receive", "(II)I"⟩ prog_1_method_7_code 4 (some FieldType.int) ∈ lw_tbl := List.mem_of_getElem? (i := 631) (by decide +kernel)
set_option maxRecDepth 100000 in
theorem m_595 : Cond.methodLink "SystemParts" 126 ⟨"SystemParts", "serialAt", "(I)LSystemParts$Serial;"⟩ ∈ lw_tbl := List.mem_of_getElem? (i := 632) (by decide +kernel)
set_option maxRecDepth 100000 in
theorem m_596 : Cond.privateMethod ⟨"SystemParts", "serialAt", "(I)LSystemParts$Serial;"⟩ ∈ lw_tbl := List.mem_of_getElem? (i := 633) (by decide +kernel)
set_option maxRecDepth 100000 in
theorem m_597 : Cond.instanceMethod ⟨"SystemParts", "serialAt", "(I)LSystemParts$Serial;"⟩ ∈ lw_tbl := List.mem_of_getElem? (i := 634) (by decide +kernel)
set_option maxRecDepth 100000 in
theorem m_598 : Cond.code ⟨"SystemParts", "serialAt", "(I)LSystemParts$Serial;"⟩ prog_1_method_22_code 4 (some (FieldType.object "SystemParts$Serial")) ∈ lw_tbl := List.mem_of_getElem? (i := 635) (by decide +kernel)
set_option maxRecDepth 100000 in
theorem m_599 : Cond.stringRef "SystemParts" 209 "the part is no SERIAL" ∈ lw_tbl := List.mem_of_getElem? (i := 636) (by decide +kernel)
set_option maxRecDepth 100000 in
theorem m_600 : Cond.methodLink "SystemParts" 130 ⟨"SystemParts$Serial", "isFull", "()Z"⟩ ∈ lw_tbl := List.mem_of_getElem? (i := 637) (by decide +kernel)
set_option maxRecDepth 100000 in
theorem m_601 : Cond.instanceMethod ⟨"SystemParts$Serial", "isFull", "()Z"⟩ ∈ lw_tbl := List.mem_of_getElem? (i := 638) (by decide +kernel)
set_option maxRecDepth 100000 in
theorem m_602 : Cond.selects "SystemParts$Serial" ⟨"SystemParts$Serial", "isFull", "()Z"⟩ ⟨"SystemParts$Serial", "isFull", "()Z"⟩ ∈ lw_tbl := List.mem_of_getElem? (i := 639) (by decide +kernel)
set_option maxRecDepth 100000 in
theorem m_603 : Cond.code ⟨"SystemParts$Serial", "isFull", "()Z"⟩ prog_8_method_2_code 1 (some FieldType.boolean) ∈ lw_tbl := List.mem_of_getElem? (i := 640) (by decide +kernel)
set_option maxRecDepth 100000 in
theorem m_604 : Cond.stringRef "SystemParts" 135 "32 numbers are there to be read" ∈ lw_tbl := List.mem_of_getElem? (i := 641) (by decide +kernel)
set_option maxRecDepth 100000 in
theorem m_605 : Cond.methodLink "SystemParts" 137 ⟨"SystemParts$Serial", "accept", "(I)I"⟩ ∈ lw_tbl := List.mem_of_getElem? (i := 642) (by decide +kernel)
set_option maxRecDepth 100000 in
theorem m_606 : Cond.instanceMethod ⟨"SystemParts$Serial", "accept", "(I)I"⟩ ∈ lw_tbl := List.mem_of_getElem? (i := 643) (by decide +kernel)
set_option maxRecDepth 100000 in
theorem m_607 : Cond.selects "SystemParts$Serial" ⟨"SystemParts$Serial", "accept", "(I)I"⟩ ⟨"SystemParts$Serial", "accept", "(I)I"⟩ ∈ lw_tbl := List.mem_of_getElem? (i := 644) (by decide +kernel)
set_option maxRecDepth 100000 in
theorem m_608 : Cond.code ⟨"SystemParts$Serial", "accept", "(I)I"⟩ prog_8_method_3_code 2 (some FieldType.int) ∈ lw_tbl := List.mem_of_getElem? (i := 645) (by decide +kernel)
set_option maxRecDepth 100000 in
theorem m_609 : Cond.methodLink "SystemPartsLaw" 80 ⟨"SystemPartsLaw", "sent", "(LSystemParts;II[J)I"⟩ ∈ lw_tbl := List.mem_of_getElem? (i := 646) (by decide +kernel)
set_option maxRecDepth 100000 in
theorem m_610 : Cond.static ⟨"SystemPartsLaw", "sent", "(LSystemParts;II[J)I"⟩ ∈ lw_tbl := List.mem_of_getElem? (i := 647) (by decide +kernel)
set_option maxRecDepth 100000 in
theorem m_611 : Cond.codeWith ⟨"SystemPartsLaw", "sent", "(LSystemParts;II[J)I"⟩ method_9_code 5 (some FieldType.int) [(0, 10, 13, 13), (0, 10, 17, 25)] ∈ lw_tbl := List.mem_of_getElem? (i := 648) (by decide +kernel)
set_option maxRecDepth 100000 in
theorem m_612 : Cond.methodLink "SystemPartsLaw" 39 ⟨"SystemParts", "sent", "(II)I"⟩ ∈ lw_tbl := List.mem_of_getElem? (i := 649) (by decide +kernel)
set_option maxRecDepth 100000 in
theorem m_613 : Cond.instanceMethod ⟨"SystemParts", "sent", "(II)I"⟩ ∈ lw_tbl := List.mem_of_getElem? (i := 650) (by decide +kernel)
set_option maxRecDepth 100000 in
theorem m_614 : Cond.selects "SystemParts" ⟨"SystemParts", "sent", "(II)I"⟩ ⟨"SystemParts", "sent", "(II)I"⟩ ∈ lw_tbl := List.mem_of_getElem? (i := 651) (by decide +kernel)
set_option maxRecDepth 100000 in
theorem m_615 : Cond.code ⟨"SystemParts", "sent", "(II)I"⟩ prog_1_method_8_code 4 (some FieldType.int) ∈ lw_tbl := List.mem_of_getElem? (i := 652) (by decide +kernel)
set_option maxRecDepth 100000 in
theorem m_616 : Cond.methodLink "SystemParts" 140 ⟨"SystemParts$Serial", "goneKept", "()I"⟩ ∈ lw_tbl := List.mem_of_getElem? (i := 653) (by decide +kernel)
set_option maxRecDepth 100000 in
theorem m_617 : Cond.instanceMethod ⟨"SystemParts$Serial", "goneKept", "()I"⟩ ∈ lw_tbl := List.mem_of_getElem? (i := 654) (by decide +kernel)
set_option maxRecDepth 100000 in
theorem m_618 : Cond.selects "SystemParts$Serial" ⟨"SystemParts$Serial", "goneKept", "()I"⟩ ⟨"SystemParts$Serial", "goneKept", "()I"⟩ ∈ lw_tbl := List.mem_of_getElem? (i := 655) (by decide +kernel)
set_option maxRecDepth 100000 in
theorem m_619 : Cond.code ⟨"SystemParts$Serial", "goneKept", "()I"⟩ prog_8_method_4_code 1 (some FieldType.int) ∈ lw_tbl := List.mem_of_getElem? (i := 656) (by decide +kernel)
set_option maxRecDepth 100000 in
theorem m_620 : Cond.methodLink "SystemParts$Serial" 35 ⟨"java/lang/Math", "min", "(II)I"⟩ ∈ lw_tbl := List.mem_of_getElem? (i := 657) (by decide +kernel)
set_option maxRecDepth 100000 in
theorem m_621 : Cond.static ⟨"java/lang/Math", "min", "(II)I"⟩ ∈ lw_tbl := List.mem_of_getElem? (i := 658) (by decide +kernel)
set_option maxRecDepth 100000 in
theorem m_622 : Cond.code ⟨"java/lang/Math", "min", "(II)I"⟩ prog_16_method_69_code 2 (some FieldType.int) ∈ lw_tbl := List.mem_of_getElem? (i := 659) (by decide +kernel)
set_option maxRecDepth 100000 in
theorem m_623 : Cond.stringRef "SystemParts" 145 "no such number went out" ∈ lw_tbl := List.mem_of_getElem? (i := 660) (by decide +kernel)
set_option maxRecDepth 100000 in
theorem m_624 : Cond.methodLink "SystemParts" 148 ⟨"SystemParts$Serial", "goneAt", "(I)I"⟩ ∈ lw_tbl := List.mem_of_getElem? (i := 661) (by decide +kernel)
set_option maxRecDepth 100000 in
theorem m_625 : Cond.instanceMethod ⟨"SystemParts$Serial", "goneAt", "(I)I"⟩ ∈ lw_tbl := List.mem_of_getElem? (i := 662) (by decide +kernel)
set_option maxRecDepth 100000 in
theorem m_626 : Cond.selects "SystemParts$Serial" ⟨"SystemParts$Serial", "goneAt", "(I)I"⟩ ⟨"SystemParts$Serial", "goneAt", "(I)I"⟩ ∈ lw_tbl := List.mem_of_getElem? (i := 663) (by decide +kernel)
set_option maxRecDepth 100000 in
theorem m_627 : Cond.code ⟨"SystemParts$Serial", "goneAt", "(I)I"⟩ prog_8_method_5_code 2 (some FieldType.int) ∈ lw_tbl := List.mem_of_getElem? (i := 664) (by decide +kernel)
set_option maxRecDepth 100000 in
theorem m_628 : Cond.methodLink "SystemParts$Serial" 41 ⟨"SystemParts$Serial", "goneKept", "()I"⟩ ∈ lw_tbl := List.mem_of_getElem? (i := 665) (by decide +kernel)
set_option maxRecDepth 100000 in
theorem m_629 : Cond.methodLink "SystemPartsLaw" 83 ⟨"SystemPartsLaw", "line", "(LSystemParts;III[J)I"⟩ ∈ lw_tbl := List.mem_of_getElem? (i := 666) (by decide +kernel)
set_option maxRecDepth 100000 in
theorem m_630 : Cond.static ⟨"SystemPartsLaw", "line", "(LSystemParts;III[J)I"⟩ ∈ lw_tbl := List.mem_of_getElem? (i := 667) (by decide +kernel)
set_option maxRecDepth 100000 in
theorem m_631 : Cond.codeWith ⟨"SystemPartsLaw", "line", "(LSystemParts;III[J)I"⟩ method_10_code 6 (some FieldType.int) [(0, 12, 15, 25), (0, 12, 19, 13)] ∈ lw_tbl := List.mem_of_getElem? (i := 668) (by decide +kernel)
set_option maxRecDepth 100000 in
theorem m_632 : Cond.methodLink "SystemPartsLaw" 42 ⟨"SystemParts", "line", "(III)I"⟩ ∈ lw_tbl := List.mem_of_getElem? (i := 669) (by decide +kernel)
set_option maxRecDepth 100000 in
theorem m_633 : Cond.instanceMethod ⟨"SystemParts", "line", "(III)I"⟩ ∈ lw_tbl := List.mem_of_getElem? (i := 670) (by decide +kernel)
set_option maxRecDepth 100000 in
theorem m_634 : Cond.selects "SystemParts" ⟨"SystemParts", "line", "(III)I"⟩ ⟨"SystemParts", "line", "(III)I"⟩ ∈ lw_tbl := List.mem_of_getElem? (i := 671) (by decide +kernel)
set_option maxRecDepth 100000 in
theorem m_635 : Cond.code ⟨"SystemParts", "line", "(III)I"⟩ prog_1_method_9_code 4 (some FieldType.int) ∈ lw_tbl := List.mem_of_getElem? (i := 672) (by decide +kernel)
set_option maxRecDepth 100000 in
theorem m_636 : Cond.stringRef "SystemParts" 151 "no such line" ∈ lw_tbl := List.mem_of_getElem? (i := 673) (by decide +kernel)
set_option maxRecDepth 100000 in
theorem m_637 : Cond.methodLink "SystemParts" 153 ⟨"SystemParts$Lines", "greatest", "(I)I"⟩ ∈ lw_tbl := List.mem_of_getElem? (i := 674) (by decide +kernel)
set_option maxRecDepth 100000 in
theorem m_638 : Cond.static ⟨"SystemParts$Lines", "greatest", "(I)I"⟩ ∈ lw_tbl := List.mem_of_getElem? (i := 675) (by decide +kernel)
set_option maxRecDepth 100000 in
theorem m_639 : Cond.code ⟨"SystemParts$Lines", "greatest", "(I)I"⟩ prog_4_method_2_code 1 (some FieldType.int) ∈ lw_tbl := List.mem_of_getElem? (i := 676) (by decide +kernel)
set_option maxRecDepth 100000 in
theorem m_640 : Cond.stringRef "SystemParts" 156 "a line has no such setting" ∈ lw_tbl := List.mem_of_getElem? (i := 677) (by decide +kernel)
set_option maxRecDepth 100000 in
theorem m_641 : Cond.methodLink "SystemParts" 158 ⟨"SystemParts$Lines", "change", "(III)I"⟩ ∈ lw_tbl := List.mem_of_getElem? (i := 678) (by decide +kernel)
set_option maxRecDepth 100000 in
theorem m_642 : Cond.instanceMethod ⟨"SystemParts$Lines", "change", "(III)I"⟩ ∈ lw_tbl := List.mem_of_getElem? (i := 679) (by decide +kernel)
set_option maxRecDepth 100000 in
theorem m_643 : Cond.selects "SystemParts$Lines" ⟨"SystemParts$Lines", "change", "(III)I"⟩ ⟨"SystemParts$Lines", "change", "(III)I"⟩ ∈ lw_tbl := List.mem_of_getElem? (i := 680) (by decide +kernel)
set_option maxRecDepth 100000 in
theorem m_644 : Cond.code ⟨"SystemParts$Lines", "change", "(III)I"⟩ prog_4_method_3_code 4 (some FieldType.int) ∈ lw_tbl := List.mem_of_getElem? (i := 681) (by decide +kernel)
set_option maxRecDepth 100000 in
theorem m_645 : Cond.methodLink "SystemParts$Lines" 28 ⟨"SystemParts$Lines", "changeWay", "(II)I"⟩ ∈ lw_tbl := List.mem_of_getElem? (i := 682) (by decide +kernel)
set_option maxRecDepth 100000 in
theorem m_646 : Cond.privateMethod ⟨"SystemParts$Lines", "changeWay", "(II)I"⟩ ∈ lw_tbl := List.mem_of_getElem? (i := 683) (by decide +kernel)
set_option maxRecDepth 100000 in
theorem m_647 : Cond.instanceMethod ⟨"SystemParts$Lines", "changeWay", "(II)I"⟩ ∈ lw_tbl := List.mem_of_getElem? (i := 684) (by decide +kernel)
set_option maxRecDepth 100000 in
theorem m_648 : Cond.code ⟨"SystemParts$Lines", "changeWay", "(II)I"⟩ prog_4_method_4_code 4 (some FieldType.int) ∈ lw_tbl := List.mem_of_getElem? (i := 685) (by decide +kernel)
set_option maxRecDepth 100000 in
theorem m_649 : Cond.methodLink "SystemParts$Lines" 38 ⟨"SystemParts$Lines", "forget", "(I)V"⟩ ∈ lw_tbl := List.mem_of_getElem? (i := 686) (by decide +kernel)
set_option maxRecDepth 100000 in
theorem m_650 : Cond.methodLink "SystemParts$Lines" 32 ⟨"SystemParts$Lines", "changeRank", "(II)I"⟩ ∈ lw_tbl := List.mem_of_getElem? (i := 687) (by decide +kernel)
set_option maxRecDepth 100000 in
theorem m_651 : Cond.privateMethod ⟨"SystemParts$Lines", "changeRank", "(II)I"⟩ ∈ lw_tbl := List.mem_of_getElem? (i := 688) (by decide +kernel)
set_option maxRecDepth 100000 in
theorem m_652 : Cond.instanceMethod ⟨"SystemParts$Lines", "changeRank", "(II)I"⟩ ∈ lw_tbl := List.mem_of_getElem? (i := 689) (by decide +kernel)
set_option maxRecDepth 100000 in
theorem m_653 : Cond.code ⟨"SystemParts$Lines", "changeRank", "(II)I"⟩ prog_4_method_5_code 4 (some FieldType.int) ∈ lw_tbl := List.mem_of_getElem? (i := 690) (by decide +kernel)
set_option maxRecDepth 100000 in
theorem m_654 : Cond.methodLink "SystemParts$Lines" 35 ⟨"SystemParts$Lines", "changeHidden", "(II)I"⟩ ∈ lw_tbl := List.mem_of_getElem? (i := 691) (by decide +kernel)
set_option maxRecDepth 100000 in
theorem m_655 : Cond.privateMethod ⟨"SystemParts$Lines", "changeHidden", "(II)I"⟩ ∈ lw_tbl := List.mem_of_getElem? (i := 692) (by decide +kernel)
set_option maxRecDepth 100000 in
theorem m_656 : Cond.instanceMethod ⟨"SystemParts$Lines", "changeHidden", "(II)I"⟩ ∈ lw_tbl := List.mem_of_getElem? (i := 693) (by decide +kernel)
set_option maxRecDepth 100000 in
theorem m_657 : Cond.code ⟨"SystemParts$Lines", "changeHidden", "(II)I"⟩ prog_4_method_6_code 4 (some FieldType.int) ∈ lw_tbl := List.mem_of_getElem? (i := 694) (by decide +kernel)
set_option maxRecDepth 100000 in
theorem m_658 : Cond.methodLink "SystemPartsLaw" 87 ⟨"SystemPartsLaw", "asks", "(LSystemParts;I[J)I"⟩ ∈ lw_tbl := List.mem_of_getElem? (i := 695) (by decide +kernel)
set_option maxRecDepth 100000 in
theorem m_659 : Cond.static ⟨"SystemPartsLaw", "asks", "(LSystemParts;I[J)I"⟩ ∈ lw_tbl := List.mem_of_getElem? (i := 696) (by decide +kernel)
set_option maxRecDepth 100000 in
theorem m_660 : Cond.codeWith ⟨"SystemPartsLaw", "asks", "(LSystemParts;I[J)I"⟩ method_11_code 4 (some FieldType.int) [(0, 9, 12, 25)] ∈ lw_tbl := List.mem_of_getElem? (i := 697) (by decide +kernel)
set_option maxRecDepth 100000 in
theorem m_661 : Cond.methodLink "SystemPartsLaw" 46 ⟨"SystemParts", "asks", "(I)I"⟩ ∈ lw_tbl := List.mem_of_getElem? (i := 698) (by decide +kernel)
set_option maxRecDepth 100000 in
theorem m_662 : Cond.instanceMethod ⟨"SystemParts", "asks", "(I)I"⟩ ∈ lw_tbl := List.mem_of_getElem? (i := 699) (by decide +kernel)
set_option maxRecDepth 100000 in
theorem m_663 : Cond.selects "SystemParts" ⟨"SystemParts", "asks", "(I)I"⟩ ⟨"SystemParts", "asks", "(I)I"⟩ ∈ lw_tbl := List.mem_of_getElem? (i := 700) (by decide +kernel)
set_option maxRecDepth 100000 in
theorem m_664 : Cond.code ⟨"SystemParts", "asks", "(I)I"⟩ prog_1_method_10_code 4 (some FieldType.int) ∈ lw_tbl := List.mem_of_getElem? (i := 701) (by decide +kernel)
set_option maxRecDepth 100000 in
theorem m_665 : Cond.classLink "SystemPartsLaw" 50 "SystemPartsModel" ∈ lw_tbl := List.mem_of_getElem? (i := 702) (by decide +kernel)
set_option maxRecDepth 100000 in
theorem m_666 : Cond.instantiable "SystemPartsModel" 25 ∈ lw_tbl := List.mem_of_getElem? (i := 703) (by decide +kernel)
set_option maxRecDepth 100000 in
theorem m_667 : Cond.methodLink "SystemPartsLaw" 52 ⟨"SystemPartsModel", "<init>", "()V"⟩ ∈ lw_tbl := List.mem_of_getElem? (i := 704) (by decide +kernel)
set_option maxRecDepth 100000 in
theorem m_668 : Cond.instanceMethod ⟨"SystemPartsModel", "<init>", "()V"⟩ ∈ lw_tbl := List.mem_of_getElem? (i := 705) (by decide +kernel)
set_option maxRecDepth 100000 in
theorem m_669 : Cond.code ⟨"SystemPartsModel", "<init>", "()V"⟩ prog_11_method_1_code 1 none ∈ lw_tbl := List.mem_of_getElem? (i := 706) (by decide +kernel)
set_option maxRecDepth 100000 in
theorem m_670 : Cond.methodLink "SystemPartsModel" 1 ⟨"java/lang/Object", "<init>", "()V"⟩ ∈ lw_tbl := List.mem_of_getElem? (i := 707) (by decide +kernel)
set_option maxRecDepth 100000 in
theorem m_671 : Cond.fieldLink "SystemPartsModel" 65 "SystemPartsModel" "thrown" "I" ∈ lw_tbl := List.mem_of_getElem? (i := 708) (by decide +kernel)
set_option maxRecDepth 100000 in
theorem m_672 : Cond.fieldLink "SystemPartsModel" 104 "SystemPartsModel" "time" "I" ∈ lw_tbl := List.mem_of_getElem? (i := 709) (by decide +kernel)
set_option maxRecDepth 100000 in
theorem m_673 : Cond.fieldLink "SystemPartsModel" 78 "SystemPartsModel" "parts" "I" ∈ lw_tbl := List.mem_of_getElem? (i := 710) (by decide +kernel)
set_option maxRecDepth 100000 in
theorem m_674 : Cond.fieldLink "SystemPartsModel" 88 "SystemPartsModel" "cause" "I" ∈ lw_tbl := List.mem_of_getElem? (i := 711) (by decide +kernel)
set_option maxRecDepth 100000 in
theorem m_675 : Cond.fieldLink "SystemPartsModel" 7 "SystemPartsModel" "kind" "[I" ∈ lw_tbl := List.mem_of_getElem? (i := 712) (by decide +kernel)
set_option maxRecDepth 100000 in
theorem m_676 : Cond.fieldLink "SystemPartsModel" 13 "SystemPartsModel" "from" "[I" ∈ lw_tbl := List.mem_of_getElem? (i := 713) (by decide +kernel)
set_option maxRecDepth 100000 in
theorem m_677 : Cond.fieldLink "SystemPartsModel" 16 "SystemPartsModel" "size" "[I" ∈ lw_tbl := List.mem_of_getElem? (i := 714) (by decide +kernel)
set_option maxRecDepth 100000 in
theorem m_678 : Cond.fieldLink "SystemPartsModel" 19 "SystemPartsModel" "lineOf" "[I" ∈ lw_tbl := List.mem_of_getElem? (i := 715) (by decide +kernel)
set_option maxRecDepth 100000 in
theorem m_679 : Cond.fieldLink "SystemPartsModel" 22 "SystemPartsModel" "waits" "[I" ∈ lw_tbl := List.mem_of_getElem? (i := 716) (by decide +kernel)
set_option maxRecDepth 100000 in
theorem m_680 : Cond.fieldLink "SystemPartsModel" 25 "SystemPartsModel" "reg" "[I" ∈ lw_tbl := List.mem_of_getElem? (i := 717) (by decide +kernel)
set_option maxRecDepth 100000 in
theorem m_681 : Cond.fieldLink "SystemPartsModel" 28 "SystemPartsModel" "left" "[I" ∈ lw_tbl := List.mem_of_getElem? (i := 718) (by decide +kernel)
set_option maxRecDepth 100000 in
theorem m_682 : Cond.fieldLink "SystemPartsModel" 31 "SystemPartsModel" "what" "[I" ∈ lw_tbl := List.mem_of_getElem? (i := 719) (by decide +kernel)
set_option maxRecDepth 100000 in
theorem m_683 : Cond.fieldLink "SystemPartsModel" 34 "SystemPartsModel" "came" "[I" ∈ lw_tbl := List.mem_of_getElem? (i := 720) (by decide +kernel)
set_option maxRecDepth 100000 in
theorem m_684 : Cond.fieldLink "SystemPartsModel" 37 "SystemPartsModel" "in" "[I" ∈ lw_tbl := List.mem_of_getElem? (i := 721) (by decide +kernel)
set_option maxRecDepth 100000 in
theorem m_685 : Cond.fieldLink "SystemPartsModel" 40 "SystemPartsModel" "went" "[I" ∈ lw_tbl := List.mem_of_getElem? (i := 722) (by decide +kernel)
set_option maxRecDepth 100000 in
theorem m_686 : Cond.fieldLink "SystemPartsModel" 43 "SystemPartsModel" "gone" "[I" ∈ lw_tbl := List.mem_of_getElem? (i := 723) (by decide +kernel)
set_option maxRecDepth 100000 in
theorem m_687 : Cond.fieldLink "SystemPartsModel" 46 "SystemPartsModel" "rows" "[I" ∈ lw_tbl := List.mem_of_getElem? (i := 724) (by decide +kernel)
set_option maxRecDepth 100000 in
theorem m_688 : Cond.fieldLink "SystemPartsModel" 49 "SystemPartsModel" "way" "[I" ∈ lw_tbl := List.mem_of_getElem? (i := 725) (by decide +kernel)
set_option maxRecDepth 100000 in
theorem m_689 : Cond.fieldLink "SystemPartsModel" 52 "SystemPartsModel" "rank" "[I" ∈ lw_tbl := List.mem_of_getElem? (i := 726) (by decide +kernel)
set_option maxRecDepth 100000 in
theorem m_690 : Cond.fieldLink "SystemPartsModel" 55 "SystemPartsModel" "hidden" "[Z" ∈ lw_tbl := List.mem_of_getElem? (i := 727) (by decide +kernel)
set_option maxRecDepth 100000 in
theorem m_691 : Cond.fieldLink "SystemPartsModel" 59 "SystemPartsModel" "up" "[Z" ∈ lw_tbl := List.mem_of_getElem? (i := 728) (by decide +kernel)
set_option maxRecDepth 100000 in
theorem m_692 : Cond.fieldLink "SystemPartsModel" 62 "SystemPartsModel" "noted" "[Z" ∈ lw_tbl := List.mem_of_getElem? (i := 729) (by decide +kernel)
set_option maxRecDepth 100000 in
theorem m_693 : Cond.fieldLink "SystemPartsModel" 91 "SystemPartsModel" "reads" "I" ∈ lw_tbl := List.mem_of_getElem? (i := 730) (by decide +kernel)
set_option maxRecDepth 100000 in
theorem m_694 : Cond.fieldLink "SystemPartsModel" 94 "SystemPartsModel" "writes" "I" ∈ lw_tbl := List.mem_of_getElem? (i := 731) (by decide +kernel)
set_option maxRecDepth 100000 in
theorem m_695 : Cond.fieldLink "SystemPartsModel" 97 "SystemPartsModel" "faults" "I" ∈ lw_tbl := List.mem_of_getElem? (i := 732) (by decide +kernel)
set_option maxRecDepth 100000 in
theorem m_696 : Cond.lays "SystemPartsModel" "SystemPartsModel" "thrown" "I" ∈ lw_tbl := List.mem_of_getElem? (i := 733) (by decide +kernel)
set_option maxRecDepth 100000 in
theorem m_697 : Cond.soleField "SystemPartsModel" "thrown" ∈ lw_tbl := List.mem_of_getElem? (i := 734) (by decide +kernel)
set_option maxRecDepth 100000 in
theorem m_698 : Cond.lays "SystemPartsModel" "SystemPartsModel" "time" "I" ∈ lw_tbl := List.mem_of_getElem? (i := 735) (by decide +kernel)
set_option maxRecDepth 100000 in
theorem m_699 : Cond.soleField "SystemPartsModel" "time" ∈ lw_tbl := List.mem_of_getElem? (i := 736) (by decide +kernel)
set_option maxRecDepth 100000 in
theorem m_700 : Cond.lays "SystemPartsModel" "SystemPartsModel" "parts" "I" ∈ lw_tbl := List.mem_of_getElem? (i := 737) (by decide +kernel)
set_option maxRecDepth 100000 in
theorem m_701 : Cond.soleField "SystemPartsModel" "parts" ∈ lw_tbl := List.mem_of_getElem? (i := 738) (by decide +kernel)
set_option maxRecDepth 100000 in
theorem m_702 : Cond.lays "SystemPartsModel" "SystemPartsModel" "cause" "I" ∈ lw_tbl := List.mem_of_getElem? (i := 739) (by decide +kernel)
set_option maxRecDepth 100000 in
theorem m_703 : Cond.soleField "SystemPartsModel" "cause" ∈ lw_tbl := List.mem_of_getElem? (i := 740) (by decide +kernel)
set_option maxRecDepth 100000 in
theorem m_704 : Cond.laysFinal "SystemPartsModel" "SystemPartsModel" "kind" "[I" ∈ lw_tbl := List.mem_of_getElem? (i := 741) (by decide +kernel)
set_option maxRecDepth 100000 in
theorem m_705 : Cond.soleField "SystemPartsModel" "kind" ∈ lw_tbl := List.mem_of_getElem? (i := 742) (by decide +kernel)
set_option maxRecDepth 100000 in
theorem m_706 : Cond.laysFinal "SystemPartsModel" "SystemPartsModel" "from" "[I" ∈ lw_tbl := List.mem_of_getElem? (i := 743) (by decide +kernel)
set_option maxRecDepth 100000 in
theorem m_707 : Cond.soleField "SystemPartsModel" "from" ∈ lw_tbl := List.mem_of_getElem? (i := 744) (by decide +kernel)
set_option maxRecDepth 100000 in
theorem m_708 : Cond.laysFinal "SystemPartsModel" "SystemPartsModel" "size" "[I" ∈ lw_tbl := List.mem_of_getElem? (i := 745) (by decide +kernel)
set_option maxRecDepth 100000 in
theorem m_709 : Cond.soleField "SystemPartsModel" "size" ∈ lw_tbl := List.mem_of_getElem? (i := 746) (by decide +kernel)
set_option maxRecDepth 100000 in
theorem m_710 : Cond.laysFinal "SystemPartsModel" "SystemPartsModel" "lineOf" "[I" ∈ lw_tbl := List.mem_of_getElem? (i := 747) (by decide +kernel)
set_option maxRecDepth 100000 in
theorem m_711 : Cond.soleField "SystemPartsModel" "lineOf" ∈ lw_tbl := List.mem_of_getElem? (i := 748) (by decide +kernel)
set_option maxRecDepth 100000 in
theorem m_712 : Cond.laysFinal "SystemPartsModel" "SystemPartsModel" "waits" "[I" ∈ lw_tbl := List.mem_of_getElem? (i := 749) (by decide +kernel)
set_option maxRecDepth 100000 in
theorem m_713 : Cond.soleField "SystemPartsModel" "waits" ∈ lw_tbl := List.mem_of_getElem? (i := 750) (by decide +kernel)
set_option maxRecDepth 100000 in
theorem m_714 : Cond.laysFinal "SystemPartsModel" "SystemPartsModel" "reg" "[I" ∈ lw_tbl := List.mem_of_getElem? (i := 751) (by decide +kernel)
set_option maxRecDepth 100000 in
theorem m_715 : Cond.soleField "SystemPartsModel" "reg" ∈ lw_tbl := List.mem_of_getElem? (i := 752) (by decide +kernel)
set_option maxRecDepth 100000 in
theorem m_716 : Cond.laysFinal "SystemPartsModel" "SystemPartsModel" "left" "[I" ∈ lw_tbl := List.mem_of_getElem? (i := 753) (by decide +kernel)
set_option maxRecDepth 100000 in
theorem m_717 : Cond.soleField "SystemPartsModel" "left" ∈ lw_tbl := List.mem_of_getElem? (i := 754) (by decide +kernel)
set_option maxRecDepth 100000 in
theorem m_718 : Cond.laysFinal "SystemPartsModel" "SystemPartsModel" "what" "[I" ∈ lw_tbl := List.mem_of_getElem? (i := 755) (by decide +kernel)
set_option maxRecDepth 100000 in
theorem m_719 : Cond.soleField "SystemPartsModel" "what" ∈ lw_tbl := List.mem_of_getElem? (i := 756) (by decide +kernel)
set_option maxRecDepth 100000 in
theorem m_720 : Cond.laysFinal "SystemPartsModel" "SystemPartsModel" "came" "[I" ∈ lw_tbl := List.mem_of_getElem? (i := 757) (by decide +kernel)
set_option maxRecDepth 100000 in
theorem m_721 : Cond.soleField "SystemPartsModel" "came" ∈ lw_tbl := List.mem_of_getElem? (i := 758) (by decide +kernel)
set_option maxRecDepth 100000 in
theorem m_722 : Cond.laysFinal "SystemPartsModel" "SystemPartsModel" "in" "[I" ∈ lw_tbl := List.mem_of_getElem? (i := 759) (by decide +kernel)
set_option maxRecDepth 100000 in
theorem m_723 : Cond.soleField "SystemPartsModel" "in" ∈ lw_tbl := List.mem_of_getElem? (i := 760) (by decide +kernel)
set_option maxRecDepth 100000 in
theorem m_724 : Cond.laysFinal "SystemPartsModel" "SystemPartsModel" "went" "[I" ∈ lw_tbl := List.mem_of_getElem? (i := 761) (by decide +kernel)
set_option maxRecDepth 100000 in
theorem m_725 : Cond.soleField "SystemPartsModel" "went" ∈ lw_tbl := List.mem_of_getElem? (i := 762) (by decide +kernel)
set_option maxRecDepth 100000 in
theorem m_726 : Cond.laysFinal "SystemPartsModel" "SystemPartsModel" "gone" "[I" ∈ lw_tbl := List.mem_of_getElem? (i := 763) (by decide +kernel)
set_option maxRecDepth 100000 in
theorem m_727 : Cond.soleField "SystemPartsModel" "gone" ∈ lw_tbl := List.mem_of_getElem? (i := 764) (by decide +kernel)
set_option maxRecDepth 100000 in
theorem m_728 : Cond.laysFinal "SystemPartsModel" "SystemPartsModel" "rows" "[I" ∈ lw_tbl := List.mem_of_getElem? (i := 765) (by decide +kernel)
set_option maxRecDepth 100000 in
theorem m_729 : Cond.soleField "SystemPartsModel" "rows" ∈ lw_tbl := List.mem_of_getElem? (i := 766) (by decide +kernel)
set_option maxRecDepth 100000 in
theorem m_730 : Cond.laysFinal "SystemPartsModel" "SystemPartsModel" "way" "[I" ∈ lw_tbl := List.mem_of_getElem? (i := 767) (by decide +kernel)
set_option maxRecDepth 100000 in
theorem m_731 : Cond.soleField "SystemPartsModel" "way" ∈ lw_tbl := List.mem_of_getElem? (i := 768) (by decide +kernel)
set_option maxRecDepth 100000 in
theorem m_732 : Cond.laysFinal "SystemPartsModel" "SystemPartsModel" "rank" "[I" ∈ lw_tbl := List.mem_of_getElem? (i := 769) (by decide +kernel)
set_option maxRecDepth 100000 in
theorem m_733 : Cond.soleField "SystemPartsModel" "rank" ∈ lw_tbl := List.mem_of_getElem? (i := 770) (by decide +kernel)
set_option maxRecDepth 100000 in
theorem m_734 : Cond.laysFinal "SystemPartsModel" "SystemPartsModel" "hidden" "[Z" ∈ lw_tbl := List.mem_of_getElem? (i := 771) (by decide +kernel)
set_option maxRecDepth 100000 in
theorem m_735 : Cond.soleField "SystemPartsModel" "hidden" ∈ lw_tbl := List.mem_of_getElem? (i := 772) (by decide +kernel)
set_option maxRecDepth 100000 in
theorem m_736 : Cond.laysFinal "SystemPartsModel" "SystemPartsModel" "up" "[Z" ∈ lw_tbl := List.mem_of_getElem? (i := 773) (by decide +kernel)
set_option maxRecDepth 100000 in
theorem m_737 : Cond.soleField "SystemPartsModel" "up" ∈ lw_tbl := List.mem_of_getElem? (i := 774) (by decide +kernel)
set_option maxRecDepth 100000 in
theorem m_738 : Cond.laysFinal "SystemPartsModel" "SystemPartsModel" "noted" "[Z" ∈ lw_tbl := List.mem_of_getElem? (i := 775) (by decide +kernel)
set_option maxRecDepth 100000 in
theorem m_739 : Cond.soleField "SystemPartsModel" "noted" ∈ lw_tbl := List.mem_of_getElem? (i := 776) (by decide +kernel)
set_option maxRecDepth 100000 in
theorem m_740 : Cond.lays "SystemPartsModel" "SystemPartsModel" "reads" "I" ∈ lw_tbl := List.mem_of_getElem? (i := 777) (by decide +kernel)
set_option maxRecDepth 100000 in
theorem m_741 : Cond.soleField "SystemPartsModel" "reads" ∈ lw_tbl := List.mem_of_getElem? (i := 778) (by decide +kernel)
set_option maxRecDepth 100000 in
theorem m_742 : Cond.lays "SystemPartsModel" "SystemPartsModel" "writes" "I" ∈ lw_tbl := List.mem_of_getElem? (i := 779) (by decide +kernel)
set_option maxRecDepth 100000 in
theorem m_743 : Cond.soleField "SystemPartsModel" "writes" ∈ lw_tbl := List.mem_of_getElem? (i := 780) (by decide +kernel)
set_option maxRecDepth 100000 in
theorem m_744 : Cond.lays "SystemPartsModel" "SystemPartsModel" "faults" "I" ∈ lw_tbl := List.mem_of_getElem? (i := 781) (by decide +kernel)
set_option maxRecDepth 100000 in
theorem m_745 : Cond.soleField "SystemPartsModel" "faults" ∈ lw_tbl := List.mem_of_getElem? (i := 782) (by decide +kernel)
set_option maxRecDepth 100000 in
theorem m_746 : Cond.superclass "SystemPartsModel" "java/lang/Object" ∈ lw_tbl := List.mem_of_getElem? (i := 783) (by decide +kernel)
set_option maxRecDepth 100000 in
theorem m_747 : Cond.arrayClass FieldType.boolean ∈ lw_tbl := List.mem_of_getElem? (i := 784) (by decide +kernel)
set_option maxRecDepth 100000 in
theorem m_748 : Cond.methodLink "SystemPartsLaw" 59 ⟨"SystemPartsModel", "thrown", "()I"⟩ ∈ lw_tbl := List.mem_of_getElem? (i := 785) (by decide +kernel)
set_option maxRecDepth 100000 in
theorem m_749 : Cond.instanceMethod ⟨"SystemPartsModel", "thrown", "()I"⟩ ∈ lw_tbl := List.mem_of_getElem? (i := 786) (by decide +kernel)
set_option maxRecDepth 100000 in
theorem m_750 : Cond.selects "SystemPartsModel" ⟨"SystemPartsModel", "thrown", "()I"⟩ ⟨"SystemPartsModel", "thrown", "()I"⟩ ∈ lw_tbl := List.mem_of_getElem? (i := 787) (by decide +kernel)
set_option maxRecDepth 100000 in
theorem m_751 : Cond.code ⟨"SystemPartsModel", "thrown", "()I"⟩ prog_11_method_2_code 1 (some FieldType.int) ∈ lw_tbl := List.mem_of_getElem? (i := 788) (by decide +kernel)
set_option maxRecDepth 100000 in
theorem m_752 : Cond.methodLink "SystemPartsLaw" 58 ⟨"SystemPartsModel", "part", "(IIIII)I"⟩ ∈ lw_tbl := List.mem_of_getElem? (i := 789) (by decide +kernel)
set_option maxRecDepth 100000 in
theorem m_753 : Cond.instanceMethod ⟨"SystemPartsModel", "part", "(IIIII)I"⟩ ∈ lw_tbl := List.mem_of_getElem? (i := 790) (by decide +kernel)
set_option maxRecDepth 100000 in
theorem m_754 : Cond.selects "SystemPartsModel" ⟨"SystemPartsModel", "part", "(IIIII)I"⟩ ⟨"SystemPartsModel", "part", "(IIIII)I"⟩ ∈ lw_tbl := List.mem_of_getElem? (i := 791) (by decide +kernel)
set_option maxRecDepth 100000 in
theorem m_755 : Cond.code ⟨"SystemPartsModel", "part", "(IIIII)I"⟩ prog_11_method_6_code 9 (some FieldType.int) ∈ lw_tbl := List.mem_of_getElem? (i := 792) (by decide +kernel)
set_option maxRecDepth 100000 in
theorem m_756 : Cond.methodLink "SystemPartsModel" 69 ⟨"SystemPartsModel", "within", "(III)Z"⟩ ∈ lw_tbl := List.mem_of_getElem? (i := 793) (by decide +kernel)
set_option maxRecDepth 100000 in
theorem m_757 : Cond.static ⟨"SystemPartsModel", "within", "(III)Z"⟩ ∈ lw_tbl := List.mem_of_getElem? (i := 794) (by decide +kernel)
set_option maxRecDepth 100000 in
theorem m_758 : Cond.code ⟨"SystemPartsModel", "within", "(III)Z"⟩ prog_11_method_4_code 3 (some FieldType.boolean) ∈ lw_tbl := List.mem_of_getElem? (i := 795) (by decide +kernel)
set_option maxRecDepth 100000 in
theorem m_759 : Cond.methodLink "SystemPartsModel" 73 ⟨"SystemPartsModel", "sizeOf", "(II)I"⟩ ∈ lw_tbl := List.mem_of_getElem? (i := 796) (by decide +kernel)
set_option maxRecDepth 100000 in
theorem m_760 : Cond.static ⟨"SystemPartsModel", "sizeOf", "(II)I"⟩ ∈ lw_tbl := List.mem_of_getElem? (i := 797) (by decide +kernel)
set_option maxRecDepth 100000 in
theorem m_761 : Cond.code ⟨"SystemPartsModel", "sizeOf", "(II)I"⟩ prog_11_method_5_code 2 (some FieldType.int) ∈ lw_tbl := List.mem_of_getElem? (i := 798) (by decide +kernel)
set_option maxRecDepth 100000 in
theorem m_762 : Cond.constant "SystemPartsModel" 77 (65536 : Int32) ∈ lw_tbl := List.mem_of_getElem? (i := 799) (by decide +kernel)
set_option maxRecDepth 100000 in
theorem m_763 : Cond.methodLink "SystemPartsModel" 81 ⟨"SystemPartsModel", "fail", "(I)I"⟩ ∈ lw_tbl := List.mem_of_getElem? (i := 800) (by decide +kernel)
set_option maxRecDepth 100000 in
theorem m_764 : Cond.privateMethod ⟨"SystemPartsModel", "fail", "(I)I"⟩ ∈ lw_tbl := List.mem_of_getElem? (i := 801) (by decide +kernel)
set_option maxRecDepth 100000 in
theorem m_765 : Cond.instanceMethod ⟨"SystemPartsModel", "fail", "(I)I"⟩ ∈ lw_tbl := List.mem_of_getElem? (i := 802) (by decide +kernel)
set_option maxRecDepth 100000 in
theorem m_766 : Cond.code ⟨"SystemPartsModel", "fail", "(I)I"⟩ prog_11_method_3_code 2 (some FieldType.int) ∈ lw_tbl := List.mem_of_getElem? (i := 803) (by decide +kernel)
set_option maxRecDepth 100000 in
theorem m_767 : Cond.methodLink "SystemPartsLaw" 66 ⟨"SystemPartsModel", "load", "(II)I"⟩ ∈ lw_tbl := List.mem_of_getElem? (i := 804) (by decide +kernel)
set_option maxRecDepth 100000 in
theorem m_768 : Cond.instanceMethod ⟨"SystemPartsModel", "load", "(II)I"⟩ ∈ lw_tbl := List.mem_of_getElem? (i := 805) (by decide +kernel)
set_option maxRecDepth 100000 in
theorem m_769 : Cond.selects "SystemPartsModel" ⟨"SystemPartsModel", "load", "(II)I"⟩ ⟨"SystemPartsModel", "load", "(II)I"⟩ ∈ lw_tbl := List.mem_of_getElem? (i := 806) (by decide +kernel)
set_option maxRecDepth 100000 in
theorem m_770 : Cond.code ⟨"SystemPartsModel", "load", "(II)I"⟩ prog_11_method_8_code 6 (some FieldType.int) ∈ lw_tbl := List.mem_of_getElem? (i := 807) (by decide +kernel)
set_option maxRecDepth 100000 in
theorem m_771 : Cond.methodLink "SystemPartsModel" 85 ⟨"SystemPartsModel", "partAt", "(I)I"⟩ ∈ lw_tbl := List.mem_of_getElem? (i := 808) (by decide +kernel)
set_option maxRecDepth 100000 in
theorem m_772 : Cond.privateMethod ⟨"SystemPartsModel", "partAt", "(I)I"⟩ ∈ lw_tbl := List.mem_of_getElem? (i := 809) (by decide +kernel)
set_option maxRecDepth 100000 in
theorem m_773 : Cond.instanceMethod ⟨"SystemPartsModel", "partAt", "(I)I"⟩ ∈ lw_tbl := List.mem_of_getElem? (i := 810) (by decide +kernel)
set_option maxRecDepth 100000 in
theorem m_774 : Cond.code ⟨"SystemPartsModel", "partAt", "(I)I"⟩ prog_11_method_7_code 3 (some FieldType.int) ∈ lw_tbl := List.mem_of_getElem? (i := 811) (by decide +kernel)
set_option maxRecDepth 100000 in
theorem m_775 : Cond.methodLink "SystemPartsLaw" 76 ⟨"SystemPartsModel", "step", "(I)Z"⟩ ∈ lw_tbl := List.mem_of_getElem? (i := 812) (by decide +kernel)
set_option maxRecDepth 100000 in
theorem m_776 : Cond.instanceMethod ⟨"SystemPartsModel", "step", "(I)Z"⟩ ∈ lw_tbl := List.mem_of_getElem? (i := 813) (by decide +kernel)
set_option maxRecDepth 100000 in
theorem m_777 : Cond.selects "SystemPartsModel" ⟨"SystemPartsModel", "step", "(I)Z"⟩ ⟨"SystemPartsModel", "step", "(I)Z"⟩ ∈ lw_tbl := List.mem_of_getElem? (i := 814) (by decide +kernel)
set_option maxRecDepth 100000 in
theorem m_778 : Cond.code ⟨"SystemPartsModel", "step", "(I)Z"⟩ prog_11_method_16_code 4 (some FieldType.boolean) ∈ lw_tbl := List.mem_of_getElem? (i := 815) (by decide +kernel)
set_option maxRecDepth 100000 in
theorem m_779 : Cond.methodLink "SystemPartsModel" 123 ⟨"SystemPartsModel", "stepOnce", "()Z"⟩ ∈ lw_tbl := List.mem_of_getElem? (i := 816) (by decide +kernel)
set_option maxRecDepth 100000 in
theorem m_780 : Cond.privateMethod ⟨"SystemPartsModel", "stepOnce", "()Z"⟩ ∈ lw_tbl := List.mem_of_getElem? (i := 817) (by decide +kernel)
set_option maxRecDepth 100000 in
theorem m_781 : Cond.instanceMethod ⟨"SystemPartsModel", "stepOnce", "()Z"⟩ ∈ lw_tbl := List.mem_of_getElem? (i := 818) (by decide +kernel)
set_option maxRecDepth 100000 in
theorem m_782 : Cond.code ⟨"SystemPartsModel", "stepOnce", "()Z"⟩ prog_11_method_15_code 2 (some FieldType.boolean) ∈ lw_tbl := List.mem_of_getElem? (i := 819) (by decide +kernel)
set_option maxRecDepth 100000 in
theorem m_783 : Cond.methodLink "SystemPartsModel" 107 ⟨"SystemPartsModel", "timerStep", "(I)Z"⟩ ∈ lw_tbl := List.mem_of_getElem? (i := 820) (by decide +kernel)
set_option maxRecDepth 100000 in
theorem m_784 : Cond.privateMethod ⟨"SystemPartsModel", "timerStep", "(I)Z"⟩ ∈ lw_tbl := List.mem_of_getElem? (i := 821) (by decide +kernel)
set_option maxRecDepth 100000 in
theorem m_785 : Cond.instanceMethod ⟨"SystemPartsModel", "timerStep", "(I)Z"⟩ ∈ lw_tbl := List.mem_of_getElem? (i := 822) (by decide +kernel)
set_option maxRecDepth 100000 in
theorem m_786 : Cond.code ⟨"SystemPartsModel", "timerStep", "(I)Z"⟩ prog_11_method_12_code 2 (some FieldType.boolean) ∈ lw_tbl := List.mem_of_getElem? (i := 823) (by decide +kernel)
set_option maxRecDepth 100000 in
theorem m_787 : Cond.methodLink "SystemPartsModel" 110 ⟨"SystemPartsModel", "resetAll", "(I)V"⟩ ∈ lw_tbl := List.mem_of_getElem? (i := 824) (by decide +kernel)
set_option maxRecDepth 100000 in
theorem m_788 : Cond.privateMethod ⟨"SystemPartsModel", "resetAll", "(I)V"⟩ ∈ lw_tbl := List.mem_of_getElem? (i := 825) (by decide +kernel)
set_option maxRecDepth 100000 in
theorem m_789 : Cond.instanceMethod ⟨"SystemPartsModel", "resetAll", "(I)V"⟩ ∈ lw_tbl := List.mem_of_getElem? (i := 826) (by decide +kernel)
set_option maxRecDepth 100000 in
theorem m_790 : Cond.code ⟨"SystemPartsModel", "resetAll", "(I)V"⟩ prog_11_method_9_code 4 none ∈ lw_tbl := List.mem_of_getElem? (i := 827) (by decide +kernel)
set_option maxRecDepth 100000 in
theorem m_791 : Cond.methodLink "SystemPartsModel" 114 ⟨"SystemPartsModel", "sendStep", "(I)V"⟩ ∈ lw_tbl := List.mem_of_getElem? (i := 828) (by decide +kernel)
set_option maxRecDepth 100000 in
theorem m_792 : Cond.privateMethod ⟨"SystemPartsModel", "sendStep", "(I)V"⟩ ∈ lw_tbl := List.mem_of_getElem? (i := 829) (by decide +kernel)
set_option maxRecDepth 100000 in
theorem m_793 : Cond.instanceMethod ⟨"SystemPartsModel", "sendStep", "(I)V"⟩ ∈ lw_tbl := List.mem_of_getElem? (i := 830) (by decide +kernel)
set_option maxRecDepth 100000 in
theorem m_794 : Cond.code ⟨"SystemPartsModel", "sendStep", "(I)V"⟩ prog_11_method_13_code 3 none ∈ lw_tbl := List.mem_of_getElem? (i := 831) (by decide +kernel)
set_option maxRecDepth 100000 in
theorem m_795 : Cond.methodLink "SystemPartsModel" 117 ⟨"SystemPartsModel", "rowStep", "(I)V"⟩ ∈ lw_tbl := List.mem_of_getElem? (i := 832) (by decide +kernel)
set_option maxRecDepth 100000 in
theorem m_796 : Cond.privateMethod ⟨"SystemPartsModel", "rowStep", "(I)V"⟩ ∈ lw_tbl := List.mem_of_getElem? (i := 833) (by decide +kernel)
set_option maxRecDepth 100000 in
theorem m_797 : Cond.instanceMethod ⟨"SystemPartsModel", "rowStep", "(I)V"⟩ ∈ lw_tbl := List.mem_of_getElem? (i := 834) (by decide +kernel)
set_option maxRecDepth 100000 in
theorem m_798 : Cond.code ⟨"SystemPartsModel", "rowStep", "(I)V"⟩ prog_11_method_14_code 5 none ∈ lw_tbl := List.mem_of_getElem? (i := 835) (by decide +kernel)
set_option maxRecDepth 100000 in
theorem m_799 : Cond.methodLink "SystemPartsModel" 120 ⟨"SystemPartsModel", "lookAtLines", "()V"⟩ ∈ lw_tbl := List.mem_of_getElem? (i := 836) (by decide +kernel)
set_option maxRecDepth 100000 in
theorem m_800 : Cond.privateMethod ⟨"SystemPartsModel", "lookAtLines", "()V"⟩ ∈ lw_tbl := List.mem_of_getElem? (i := 837) (by decide +kernel)
set_option maxRecDepth 100000 in
theorem m_801 : Cond.instanceMethod ⟨"SystemPartsModel", "lookAtLines", "()V"⟩ ∈ lw_tbl := List.mem_of_getElem? (i := 838) (by decide +kernel)
set_option maxRecDepth 100000 in
theorem m_802 : Cond.code ⟨"SystemPartsModel", "lookAtLines", "()V"⟩ prog_11_method_11_code 4 none ∈ lw_tbl := List.mem_of_getElem? (i := 839) (by decide +kernel)
set_option maxRecDepth 100000 in
theorem m_803 : Cond.methodLink "SystemPartsModel" 100 ⟨"SystemPartsModel", "asksNow", "(I)Z"⟩ ∈ lw_tbl := List.mem_of_getElem? (i := 840) (by decide +kernel)
set_option maxRecDepth 100000 in
theorem m_804 : Cond.privateMethod ⟨"SystemPartsModel", "asksNow", "(I)Z"⟩ ∈ lw_tbl := List.mem_of_getElem? (i := 841) (by decide +kernel)
set_option maxRecDepth 100000 in
theorem m_805 : Cond.instanceMethod ⟨"SystemPartsModel", "asksNow", "(I)Z"⟩ ∈ lw_tbl := List.mem_of_getElem? (i := 842) (by decide +kernel)
set_option maxRecDepth 100000 in
theorem m_806 : Cond.code ⟨"SystemPartsModel", "asksNow", "(I)Z"⟩ prog_11_method_10_code 3 (some FieldType.boolean) ∈ lw_tbl := List.mem_of_getElem? (i := 843) (by decide +kernel)
set_option maxRecDepth 100000 in
theorem m_807 : Cond.methodLink "SystemPartsLaw" 70 ⟨"SystemPartsModel", "read", "(I)I"⟩ ∈ lw_tbl := List.mem_of_getElem? (i := 844) (by decide +kernel)
set_option maxRecDepth 100000 in
theorem m_808 : Cond.instanceMethod ⟨"SystemPartsModel", "read", "(I)I"⟩ ∈ lw_tbl := List.mem_of_getElem? (i := 845) (by decide +kernel)
set_option maxRecDepth 100000 in
theorem m_809 : Cond.selects "SystemPartsModel" ⟨"SystemPartsModel", "read", "(I)I"⟩ ⟨"SystemPartsModel", "read", "(I)I"⟩ ∈ lw_tbl := List.mem_of_getElem? (i := 846) (by decide +kernel)
set_option maxRecDepth 100000 in
theorem m_810 : Cond.code ⟨"SystemPartsModel", "read", "(I)I"⟩ prog_11_method_20_code 5 (some FieldType.int) ∈ lw_tbl := List.mem_of_getElem? (i := 847) (by decide +kernel)
set_option maxRecDepth 100000 in
theorem m_811 : Cond.constant "SystemPartsModel" 127 (65535 : Int32) ∈ lw_tbl := List.mem_of_getElem? (i := 848) (by decide +kernel)
set_option maxRecDepth 100000 in
theorem m_812 : Cond.methodLink "SystemPartsModel" 128 ⟨"SystemPartsModel", "countAll", "(I)V"⟩ ∈ lw_tbl := List.mem_of_getElem? (i := 849) (by decide +kernel)
set_option maxRecDepth 100000 in
theorem m_813 : Cond.privateMethod ⟨"SystemPartsModel", "countAll", "(I)V"⟩ ∈ lw_tbl := List.mem_of_getElem? (i := 850) (by decide +kernel)
set_option maxRecDepth 100000 in
theorem m_814 : Cond.instanceMethod ⟨"SystemPartsModel", "countAll", "(I)V"⟩ ∈ lw_tbl := List.mem_of_getElem? (i := 851) (by decide +kernel)
set_option maxRecDepth 100000 in
theorem m_815 : Cond.code ⟨"SystemPartsModel", "countAll", "(I)V"⟩ prog_11_method_17_code 3 none ∈ lw_tbl := List.mem_of_getElem? (i := 852) (by decide +kernel)
set_option maxRecDepth 100000 in
theorem m_816 : Cond.methodLink "SystemPartsModel" 131 ⟨"SystemPartsModel", "waitFor", "(I)V"⟩ ∈ lw_tbl := List.mem_of_getElem? (i := 853) (by decide +kernel)
set_option maxRecDepth 100000 in
theorem m_817 : Cond.privateMethod ⟨"SystemPartsModel", "waitFor", "(I)V"⟩ ∈ lw_tbl := List.mem_of_getElem? (i := 854) (by decide +kernel)
set_option maxRecDepth 100000 in
theorem m_818 : Cond.instanceMethod ⟨"SystemPartsModel", "waitFor", "(I)V"⟩ ∈ lw_tbl := List.mem_of_getElem? (i := 855) (by decide +kernel)
set_option maxRecDepth 100000 in
theorem m_819 : Cond.code ⟨"SystemPartsModel", "waitFor", "(I)V"⟩ prog_11_method_18_code 3 none ∈ lw_tbl := List.mem_of_getElem? (i := 856) (by decide +kernel)
set_option maxRecDepth 100000 in
theorem m_820 : Cond.methodLink "SystemPartsModel" 134 ⟨"SystemPartsModel", "takeIn", "(I)I"⟩ ∈ lw_tbl := List.mem_of_getElem? (i := 857) (by decide +kernel)
set_option maxRecDepth 100000 in
theorem m_821 : Cond.privateMethod ⟨"SystemPartsModel", "takeIn", "(I)I"⟩ ∈ lw_tbl := List.mem_of_getElem? (i := 858) (by decide +kernel)
set_option maxRecDepth 100000 in
theorem m_822 : Cond.instanceMethod ⟨"SystemPartsModel", "takeIn", "(I)I"⟩ ∈ lw_tbl := List.mem_of_getElem? (i := 859) (by decide +kernel)
set_option maxRecDepth 100000 in
theorem m_823 : Cond.code ⟨"SystemPartsModel", "takeIn", "(I)I"⟩ prog_11_method_19_code 4 (some FieldType.int) ∈ lw_tbl := List.mem_of_getElem? (i := 860) (by decide +kernel)
set_option maxRecDepth 100000 in
theorem m_824 : Cond.methodLink "SystemPartsLaw" 73 ⟨"SystemPartsModel", "write", "(II)I"⟩ ∈ lw_tbl := List.mem_of_getElem? (i := 861) (by decide +kernel)
set_option maxRecDepth 100000 in
theorem m_825 : Cond.instanceMethod ⟨"SystemPartsModel", "write", "(II)I"⟩ ∈ lw_tbl := List.mem_of_getElem? (i := 862) (by decide +kernel)
set_option maxRecDepth 100000 in
theorem m_826 : Cond.selects "SystemPartsModel" ⟨"SystemPartsModel", "write", "(II)I"⟩ ⟨"SystemPartsModel", "write", "(II)I"⟩ ∈ lw_tbl := List.mem_of_getElem? (i := 863) (by decide +kernel)
set_option maxRecDepth 100000 in
theorem m_827 : Cond.code ⟨"SystemPartsModel", "write", "(II)I"⟩ prog_11_method_24_code 5 (some FieldType.int) ∈ lw_tbl := List.mem_of_getElem? (i := 864) (by decide +kernel)
set_option maxRecDepth 100000 in
theorem m_828 : Cond.methodLink "SystemPartsModel" 137 ⟨"SystemPartsModel", "writeTimer", "(III)V"⟩ ∈ lw_tbl := List.mem_of_getElem? (i := 865) (by decide +kernel)
set_option maxRecDepth 100000 in
theorem m_829 : Cond.privateMethod ⟨"SystemPartsModel", "writeTimer", "(III)V"⟩ ∈ lw_tbl := List.mem_of_getElem? (i := 866) (by decide +kernel)
set_option maxRecDepth 100000 in
theorem m_830 : Cond.instanceMethod ⟨"SystemPartsModel", "writeTimer", "(III)V"⟩ ∈ lw_tbl := List.mem_of_getElem? (i := 867) (by decide +kernel)
set_option maxRecDepth 100000 in
theorem m_831 : Cond.code ⟨"SystemPartsModel", "writeTimer", "(III)V"⟩ prog_11_method_21_code 4 none ∈ lw_tbl := List.mem_of_getElem? (i := 868) (by decide +kernel)
set_option maxRecDepth 100000 in
theorem m_832 : Cond.methodLink "SystemPartsModel" 141 ⟨"SystemPartsModel", "writeSerial", "(III)V"⟩ ∈ lw_tbl := List.mem_of_getElem? (i := 869) (by decide +kernel)
set_option maxRecDepth 100000 in
theorem m_833 : Cond.privateMethod ⟨"SystemPartsModel", "writeSerial", "(III)V"⟩ ∈ lw_tbl := List.mem_of_getElem? (i := 870) (by decide +kernel)
set_option maxRecDepth 100000 in
theorem m_834 : Cond.instanceMethod ⟨"SystemPartsModel", "writeSerial", "(III)V"⟩ ∈ lw_tbl := List.mem_of_getElem? (i := 871) (by decide +kernel)
set_option maxRecDepth 100000 in
theorem m_835 : Cond.code ⟨"SystemPartsModel", "writeSerial", "(III)V"⟩ prog_11_method_22_code 4 none ∈ lw_tbl := List.mem_of_getElem? (i := 872) (by decide +kernel)
set_option maxRecDepth 100000 in
theorem m_836 : Cond.methodLink "SystemPartsModel" 144 ⟨"SystemPartsModel", "writeRows", "(III)V"⟩ ∈ lw_tbl := List.mem_of_getElem? (i := 873) (by decide +kernel)
set_option maxRecDepth 100000 in
theorem m_837 : Cond.privateMethod ⟨"SystemPartsModel", "writeRows", "(III)V"⟩ ∈ lw_tbl := List.mem_of_getElem? (i := 874) (by decide +kernel)
set_option maxRecDepth 100000 in
theorem m_838 : Cond.instanceMethod ⟨"SystemPartsModel", "writeRows", "(III)V"⟩ ∈ lw_tbl := List.mem_of_getElem? (i := 875) (by decide +kernel)
set_option maxRecDepth 100000 in
theorem m_839 : Cond.code ⟨"SystemPartsModel", "writeRows", "(III)V"⟩ prog_11_method_23_code 6 none ∈ lw_tbl := List.mem_of_getElem? (i := 876) (by decide +kernel)
set_option maxRecDepth 100000 in
theorem m_840 : Cond.methodLink "SystemPartsLaw" 79 ⟨"SystemPartsModel", "receive", "(II)I"⟩ ∈ lw_tbl := List.mem_of_getElem? (i := 877) (by decide +kernel)
set_option maxRecDepth 100000 in
theorem m_841 : Cond.instanceMethod ⟨"SystemPartsModel", "receive", "(II)I"⟩ ∈ lw_tbl := List.mem_of_getElem? (i := 878) (by decide +kernel)
set_option maxRecDepth 100000 in
theorem m_842 : Cond.selects "SystemPartsModel" ⟨"SystemPartsModel", "receive", "(II)I"⟩ ⟨"SystemPartsModel", "receive", "(II)I"⟩ ∈ lw_tbl := List.mem_of_getElem? (i := 879) (by decide +kernel)
set_option maxRecDepth 100000 in
theorem m_843 : Cond.code ⟨"SystemPartsModel", "receive", "(II)I"⟩ prog_11_method_26_code 3 (some FieldType.int) ∈ lw_tbl := List.mem_of_getElem? (i := 880) (by decide +kernel)
set_option maxRecDepth 100000 in
theorem m_844 : Cond.methodLink "SystemPartsModel" 147 ⟨"SystemPartsModel", "isSerial", "(I)Z"⟩ ∈ lw_tbl := List.mem_of_getElem? (i := 881) (by decide +kernel)
set_option maxRecDepth 100000 in
theorem m_845 : Cond.privateMethod ⟨"SystemPartsModel", "isSerial", "(I)Z"⟩ ∈ lw_tbl := List.mem_of_getElem? (i := 882) (by decide +kernel)
set_option maxRecDepth 100000 in
theorem m_846 : Cond.instanceMethod ⟨"SystemPartsModel", "isSerial", "(I)Z"⟩ ∈ lw_tbl := List.mem_of_getElem? (i := 883) (by decide +kernel)
set_option maxRecDepth 100000 in
theorem m_847 : Cond.code ⟨"SystemPartsModel", "isSerial", "(I)Z"⟩ prog_11_method_25_code 2 (some FieldType.boolean) ∈ lw_tbl := List.mem_of_getElem? (i := 884) (by decide +kernel)
set_option maxRecDepth 100000 in
theorem m_848 : Cond.methodLink "SystemPartsLaw" 82 ⟨"SystemPartsModel", "sent", "(II)I"⟩ ∈ lw_tbl := List.mem_of_getElem? (i := 885) (by decide +kernel)
set_option maxRecDepth 100000 in
theorem m_849 : Cond.instanceMethod ⟨"SystemPartsModel", "sent", "(II)I"⟩ ∈ lw_tbl := List.mem_of_getElem? (i := 886) (by decide +kernel)
set_option maxRecDepth 100000 in
theorem m_850 : Cond.selects "SystemPartsModel" ⟨"SystemPartsModel", "sent", "(II)I"⟩ ⟨"SystemPartsModel", "sent", "(II)I"⟩ ∈ lw_tbl := List.mem_of_getElem? (i := 887) (by decide +kernel)
set_option maxRecDepth 100000 in
theorem m_851 : Cond.code ⟨"SystemPartsModel", "sent", "(II)I"⟩ prog_11_method_27_code 4 (some FieldType.int) ∈ lw_tbl := List.mem_of_getElem? (i := 888) (by decide +kernel)
set_option maxRecDepth 100000 in
theorem m_852 : Cond.methodLink "SystemPartsLaw" 86 ⟨"SystemPartsModel", "line", "(III)I"⟩ ∈ lw_tbl := List.mem_of_getElem? (i := 889) (by decide +kernel)
set_option maxRecDepth 100000 in
theorem m_853 : Cond.instanceMethod ⟨"SystemPartsModel", "line", "(III)I"⟩ ∈ lw_tbl := List.mem_of_getElem? (i := 890) (by decide +kernel)
set_option maxRecDepth 100000 in
theorem m_854 : Cond.selects "SystemPartsModel" ⟨"SystemPartsModel", "line", "(III)I"⟩ ⟨"SystemPartsModel", "line", "(III)I"⟩ ∈ lw_tbl := List.mem_of_getElem? (i := 891) (by decide +kernel)
set_option maxRecDepth 100000 in
theorem m_855 : Cond.code ⟨"SystemPartsModel", "line", "(III)I"⟩ prog_11_method_28_code 5 (some FieldType.int) ∈ lw_tbl := List.mem_of_getElem? (i := 892) (by decide +kernel)
set_option maxRecDepth 100000 in
theorem m_856 : Cond.methodLink "SystemPartsLaw" 89 ⟨"SystemPartsModel", "asks", "(I)I"⟩ ∈ lw_tbl := List.mem_of_getElem? (i := 893) (by decide +kernel)
set_option maxRecDepth 100000 in
theorem m_857 : Cond.instanceMethod ⟨"SystemPartsModel", "asks", "(I)I"⟩ ∈ lw_tbl := List.mem_of_getElem? (i := 894) (by decide +kernel)
set_option maxRecDepth 100000 in
theorem m_858 : Cond.selects "SystemPartsModel" ⟨"SystemPartsModel", "asks", "(I)I"⟩ ⟨"SystemPartsModel", "asks", "(I)I"⟩ ∈ lw_tbl := List.mem_of_getElem? (i := 895) (by decide +kernel)
set_option maxRecDepth 100000 in
theorem m_859 : Cond.code ⟨"SystemPartsModel", "asks", "(I)I"⟩ prog_11_method_30_code 2 (some FieldType.int) ∈ lw_tbl := List.mem_of_getElem? (i := 896) (by decide +kernel)
set_option maxRecDepth 100000 in
theorem m_860 : Cond.methodLink "SystemPartsModel" 150 ⟨"SystemPartsModel", "isPending", "(I)Z"⟩ ∈ lw_tbl := List.mem_of_getElem? (i := 897) (by decide +kernel)
set_option maxRecDepth 100000 in
theorem m_861 : Cond.privateMethod ⟨"SystemPartsModel", "isPending", "(I)Z"⟩ ∈ lw_tbl := List.mem_of_getElem? (i := 898) (by decide +kernel)
set_option maxRecDepth 100000 in
theorem m_862 : Cond.instanceMethod ⟨"SystemPartsModel", "isPending", "(I)Z"⟩ ∈ lw_tbl := List.mem_of_getElem? (i := 899) (by decide +kernel)
set_option maxRecDepth 100000 in
theorem m_863 : Cond.code ⟨"SystemPartsModel", "isPending", "(I)Z"⟩ prog_11_method_29_code 2 (some FieldType.boolean) ∈ lw_tbl := List.mem_of_getElem? (i := 900) (by decide +kernel)
set_option maxRecDepth 100000 in
theorem m_864 : Cond.methodLink "SystemPartsLaw" 93 ⟨"SystemPartsModel", "chosen", "()I"⟩ ∈ lw_tbl := List.mem_of_getElem? (i := 901) (by decide +kernel)
set_option maxRecDepth 100000 in
theorem m_865 : Cond.instanceMethod ⟨"SystemPartsModel", "chosen", "()I"⟩ ∈ lw_tbl := List.mem_of_getElem? (i := 902) (by decide +kernel)
set_option maxRecDepth 100000 in
theorem m_866 : Cond.selects "SystemPartsModel" ⟨"SystemPartsModel", "chosen", "()I"⟩ ⟨"SystemPartsModel", "chosen", "()I"⟩ ∈ lw_tbl := List.mem_of_getElem? (i := 903) (by decide +kernel)
set_option maxRecDepth 100000 in
theorem m_867 : Cond.code ⟨"SystemPartsModel", "chosen", "()I"⟩ prog_11_method_32_code 1 (some FieldType.int) ∈ lw_tbl := List.mem_of_getElem? (i := 904) (by decide +kernel)
set_option maxRecDepth 100000 in
theorem m_868 : Cond.methodLink "SystemPartsModel" 153 ⟨"SystemPartsModel", "choose", "()I"⟩ ∈ lw_tbl := List.mem_of_getElem? (i := 905) (by decide +kernel)
set_option maxRecDepth 100000 in
theorem m_869 : Cond.privateMethod ⟨"SystemPartsModel", "choose", "()I"⟩ ∈ lw_tbl := List.mem_of_getElem? (i := 906) (by decide +kernel)
set_option maxRecDepth 100000 in
theorem m_870 : Cond.instanceMethod ⟨"SystemPartsModel", "choose", "()I"⟩ ∈ lw_tbl := List.mem_of_getElem? (i := 907) (by decide +kernel)
set_option maxRecDepth 100000 in
theorem m_871 : Cond.code ⟨"SystemPartsModel", "choose", "()I"⟩ prog_11_method_31_code 3 (some FieldType.int) ∈ lw_tbl := List.mem_of_getElem? (i := 908) (by decide +kernel)
set_option maxRecDepth 100000 in
theorem m_872 : Cond.methodLink "SystemPartsLaw" 97 ⟨"SystemPartsModel", "take", "()I"⟩ ∈ lw_tbl := List.mem_of_getElem? (i := 909) (by decide +kernel)
set_option maxRecDepth 100000 in
theorem m_873 : Cond.instanceMethod ⟨"SystemPartsModel", "take", "()I"⟩ ∈ lw_tbl := List.mem_of_getElem? (i := 910) (by decide +kernel)
set_option maxRecDepth 100000 in
theorem m_874 : Cond.selects "SystemPartsModel" ⟨"SystemPartsModel", "take", "()I"⟩ ⟨"SystemPartsModel", "take", "()I"⟩ ∈ lw_tbl := List.mem_of_getElem? (i := 911) (by decide +kernel)
set_option maxRecDepth 100000 in
theorem m_875 : Cond.code ⟨"SystemPartsModel", "take", "()I"⟩ prog_11_method_33_code 2 (some FieldType.int) ∈ lw_tbl := List.mem_of_getElem? (i := 912) (by decide +kernel)
set_option maxRecDepth 100000 in
theorem m_876 : Cond.methodLink "SystemPartsLaw" 101 ⟨"SystemPartsModel", "reset", "()I"⟩ ∈ lw_tbl := List.mem_of_getElem? (i := 913) (by decide +kernel)
set_option maxRecDepth 100000 in
theorem m_877 : Cond.instanceMethod ⟨"SystemPartsModel", "reset", "()I"⟩ ∈ lw_tbl := List.mem_of_getElem? (i := 914) (by decide +kernel)
set_option maxRecDepth 100000 in
theorem m_878 : Cond.selects "SystemPartsModel" ⟨"SystemPartsModel", "reset", "()I"⟩ ⟨"SystemPartsModel", "reset", "()I"⟩ ∈ lw_tbl := List.mem_of_getElem? (i := 915) (by decide +kernel)
set_option maxRecDepth 100000 in
theorem m_879 : Cond.code ⟨"SystemPartsModel", "reset", "()I"⟩ prog_11_method_34_code 2 (some FieldType.int) ∈ lw_tbl := List.mem_of_getElem? (i := 916) (by decide +kernel)
set_option maxRecDepth 100000 in
theorem m_880 : Cond.methodLink "SystemPartsLaw" 105 ⟨"SystemPartsModel", "count", "(I)I"⟩ ∈ lw_tbl := List.mem_of_getElem? (i := 917) (by decide +kernel)
set_option maxRecDepth 100000 in
theorem m_881 : Cond.instanceMethod ⟨"SystemPartsModel", "count", "(I)I"⟩ ∈ lw_tbl := List.mem_of_getElem? (i := 918) (by decide +kernel)
set_option maxRecDepth 100000 in
theorem m_882 : Cond.selects "SystemPartsModel" ⟨"SystemPartsModel", "count", "(I)I"⟩ ⟨"SystemPartsModel", "count", "(I)I"⟩ ∈ lw_tbl := List.mem_of_getElem? (i := 919) (by decide +kernel)
set_option maxRecDepth 100000 in
theorem m_883 : Cond.code ⟨"SystemPartsModel", "count", "(I)I"⟩ prog_11_method_35_code 5 (some FieldType.int) ∈ lw_tbl := List.mem_of_getElem? (i := 920) (by decide +kernel)
set_option maxRecDepth 100000 in
theorem m_884 : Cond.arrayClass FieldType.long ∈ lw_tbl := List.mem_of_getElem? (i := 921) (by decide +kernel)
set_option maxRecDepth 100000 in
theorem m_885 : Cond.sameMethod "java/lang/Throwable" "java/lang/Throwable" "fillInStackTrace" "(I)Ljava/lang/Throwable;" ∈ lw_tbl := List.mem_of_getElem? (i := 922) (by decide +kernel)
set_option maxRecDepth 100000 in
theorem m_886 : Cond.castable "SystemParts$Serial" "SystemParts$Serial" ∈ lw_tbl := List.mem_of_getElem? (i := 923) (by decide +kernel)
set_option maxRecDepth 100000 in
theorem m_887 : Cond.castable "SystemParts$Cells" "SystemParts$Cells" ∈ lw_tbl := List.mem_of_getElem? (i := 924) (by decide +kernel)
set_option maxRecDepth 100000 in
theorem m_888 : Cond.castable "SystemParts$Counts" "SystemParts$Counts" ∈ lw_tbl := List.mem_of_getElem? (i := 925) (by decide +kernel)
set_option maxRecDepth 100000 in
theorem m_889 : Cond.castable "SystemParts$Cells" "SystemParts$Part" ∈ lw_tbl := List.mem_of_getElem? (i := 926) (by decide +kernel)
set_option maxRecDepth 100000 in
theorem m_890 : Cond.castable "SystemParts$Counts" "SystemParts$Part" ∈ lw_tbl := List.mem_of_getElem? (i := 927) (by decide +kernel)
set_option maxRecDepth 100000 in
theorem m_891 : Cond.castable "SystemParts$Rows" "SystemParts$Part" ∈ lw_tbl := List.mem_of_getElem? (i := 928) (by decide +kernel)
set_option maxRecDepth 100000 in
theorem m_892 : Cond.castable "SystemParts$Serial" "SystemParts$Part" ∈ lw_tbl := List.mem_of_getElem? (i := 929) (by decide +kernel)
set_option maxRecDepth 100000 in
theorem m_893 : Cond.castable "SystemParts$Timer" "SystemParts$Part" ∈ lw_tbl := List.mem_of_getElem? (i := 930) (by decide +kernel)
