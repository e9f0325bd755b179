theorem gh_0 : gH (Cond.selects "FrameSharer" ⟨"FrameSharer", "leastMissingSpace", "()I"⟩ ⟨"FrameSharer", "leastMissingSpace", "()I"⟩) := ⟨List.mem_of_getElem? (i := 0) rfl, rfl⟩
theorem gh_1 : gH (Cond.selects "FrameSharer" ⟨"FrameSharer", "leastMissingPicture", "()I"⟩ ⟨"FrameSharer", "leastMissingPicture", "()I"⟩) := ⟨List.mem_of_getElem? (i := 1) rfl, rfl⟩
theorem gh_2 : gH (Cond.selects "FrameSharer" ⟨"FrameSharer", "copyRow", "(II)V"⟩ ⟨"FrameSharer", "copyRow", "(II)V"⟩) := ⟨List.mem_of_getElem? (i := 2) rfl, rfl⟩
theorem gh_3 : gH (Cond.selects "FrameSharer" ⟨"FrameSharer", "standIn", "(II)V"⟩ ⟨"FrameSharer", "standIn", "(II)V"⟩) := ⟨List.mem_of_getElem? (i := 3) rfl, rfl⟩
theorem gh_4 : gH (Cond.selects "FrameSharer" ⟨"FrameSharer", "isFrame", "(I)Z"⟩ ⟨"FrameSharer", "isFrame", "(I)Z"⟩) := ⟨List.mem_of_getElem? (i := 4) rfl, rfl⟩
theorem gh_5 : gH (Cond.selects "FrameSharer" ⟨"FrameSharer", "framesInUse", "()I"⟩ ⟨"FrameSharer", "framesInUse", "()I"⟩) := ⟨List.mem_of_getElem? (i := 5) rfl, rfl⟩
theorem gh_6 : gH (Cond.selects "FrameSharer" ⟨"FrameSharer", "spacesNow", "()I"⟩ ⟨"FrameSharer", "spacesNow", "()I"⟩) := ⟨List.mem_of_getElem? (i := 6) rfl, rfl⟩
theorem gh_7 : gH (Cond.selects "FrameSharer" ⟨"FrameSharer", "picturesNow", "()I"⟩ ⟨"FrameSharer", "picturesNow", "()I"⟩) := ⟨List.mem_of_getElem? (i := 7) rfl, rfl⟩
theorem gh_8 : gH (Cond.selects "FrameSharer" ⟨"FrameSharer", "pagesNow", "()I"⟩ ⟨"FrameSharer", "pagesNow", "()I"⟩) := ⟨List.mem_of_getElem? (i := 8) rfl, rfl⟩
theorem gh_9 : gH (Cond.selects "FrameSharer" ⟨"FrameSharer", "pagesOfSpace", "(I)I"⟩ ⟨"FrameSharer", "pagesOfSpace", "(I)I"⟩) := ⟨List.mem_of_getElem? (i := 9) rfl, rfl⟩
theorem gh_10 : gH (Cond.selects "FrameSharer" ⟨"FrameSharer", "needSpace", "(I)V"⟩ ⟨"FrameSharer", "needSpace", "(I)V"⟩) := ⟨List.mem_of_getElem? (i := 10) rfl, rfl⟩
theorem gh_11 : gH (Cond.selects "java/lang/Throwable" ⟨"java/lang/Throwable", "fillInStackTrace", "(I)Ljava/lang/Throwable;"⟩ ⟨"java/lang/Throwable", "fillInStackTrace", "(I)Ljava/lang/Throwable;"⟩) := ⟨List.mem_of_getElem? (i := 11) rfl, rfl⟩
theorem gh_12 : gH (Cond.selects "FrameSharer" ⟨"FrameSharer", "needPage", "(I)V"⟩ ⟨"FrameSharer", "needPage", "(I)V"⟩) := ⟨List.mem_of_getElem? (i := 12) rfl, rfl⟩
theorem gh_13 : gH (Cond.selects "FrameSharer" ⟨"FrameSharer", "needFreeFrame", "()I"⟩ ⟨"FrameSharer", "needFreeFrame", "()I"⟩) := ⟨List.mem_of_getElem? (i := 13) rfl, rfl⟩
theorem gh_14 : gH (Cond.selects "FrameSharer" ⟨"FrameSharer", "fillFrame", "(II)V"⟩ ⟨"FrameSharer", "fillFrame", "(II)V"⟩) := ⟨List.mem_of_getElem? (i := 14) rfl, rfl⟩
theorem gh_15 : gH (Cond.selects "FrameSharer" ⟨"FrameSharer", "needHolderAt", "(II)I"⟩ ⟨"FrameSharer", "needHolderAt", "(II)I"⟩) := ⟨List.mem_of_getElem? (i := 15) rfl, rfl⟩
theorem gh_16 : gH (Cond.selects "FrameSharer" ⟨"FrameSharer", "needOwnFrame", "(I)I"⟩ ⟨"FrameSharer", "needOwnFrame", "(I)I"⟩) := ⟨List.mem_of_getElem? (i := 16) rfl, rfl⟩
theorem gh_17 : gH (Cond.selects "FrameSharer" ⟨"FrameSharer", "needTwoPages", "(IIII)V"⟩ ⟨"FrameSharer", "needTwoPages", "(IIII)V"⟩) := ⟨List.mem_of_getElem? (i := 17) rfl, rfl⟩
theorem gh_18 : gH (Cond.selects "FrameSharer" ⟨"FrameSharer", "haveSameCells", "(II)Z"⟩ ⟨"FrameSharer", "haveSameCells", "(II)Z"⟩) := ⟨List.mem_of_getElem? (i := 18) rfl, rfl⟩
theorem gh_19 : gH (Cond.selects "FrameSharer" ⟨"FrameSharer", "moveHolders", "(II)V"⟩ ⟨"FrameSharer", "moveHolders", "(II)V"⟩) := ⟨List.mem_of_getElem? (i := 19) rfl, rfl⟩
theorem gh_20 : gH (Cond.selects "FrameSharer" ⟨"FrameSharer", "needPicture", "(I)V"⟩ ⟨"FrameSharer", "needPicture", "(I)V"⟩) := ⟨List.mem_of_getElem? (i := 20) rfl, rfl⟩
theorem gh_21 : gH (Cond.selects "FrameSharer" ⟨"FrameSharer", "clearRow", "(I)V"⟩ ⟨"FrameSharer", "clearRow", "(I)V"⟩) := ⟨List.mem_of_getElem? (i := 21) rfl, rfl⟩
theorem gh_22 : gH (Cond.selects "FrameSharerModel" ⟨"FrameSharerModel", "free", "()I"⟩ ⟨"FrameSharerModel", "free", "()I"⟩) := ⟨List.mem_of_getElem? (i := 22) rfl, rfl⟩
theorem gh_23 : gH (Cond.selects "FrameSharerModel" ⟨"FrameSharerModel", "isSpace", "(I)Z"⟩ ⟨"FrameSharerModel", "isSpace", "(I)Z"⟩) := ⟨List.mem_of_getElem? (i := 23) rfl, rfl⟩
theorem gh_24 : gH (Cond.selects "FrameSharerModel" ⟨"FrameSharerModel", "fails", "(ZZZ)Z"⟩ ⟨"FrameSharerModel", "fails", "(ZZZ)Z"⟩) := ⟨List.mem_of_getElem? (i := 24) rfl, rfl⟩
theorem gh_25 : gH (Cond.selects "FrameSharerModel" ⟨"FrameSharerModel", "copyPage", "(II)V"⟩ ⟨"FrameSharerModel", "copyPage", "(II)V"⟩) := ⟨List.mem_of_getElem? (i := 25) rfl, rfl⟩
theorem gh_26 : gH (Cond.selects "FrameSharerModel" ⟨"FrameSharerModel", "pagesOf", "(I)I"⟩ ⟨"FrameSharerModel", "pagesOf", "(I)I"⟩) := ⟨List.mem_of_getElem? (i := 26) rfl, rfl⟩
theorem gh_27 : gH (Cond.selects "FrameSharerModel" ⟨"FrameSharerModel", "empty", "(II)V"⟩ ⟨"FrameSharerModel", "empty", "(II)V"⟩) := ⟨List.mem_of_getElem? (i := 27) rfl, rfl⟩
theorem gh_28 : gH (Cond.selects "FrameSharerModel" ⟨"FrameSharerModel", "used", "()I"⟩ ⟨"FrameSharerModel", "used", "()I"⟩) := ⟨List.mem_of_getElem? (i := 28) rfl, rfl⟩
theorem gh_29 : gH (Cond.selects "FrameSharerModel" ⟨"FrameSharerModel", "cell", "(II)I"⟩ ⟨"FrameSharerModel", "cell", "(II)I"⟩) := ⟨List.mem_of_getElem? (i := 29) rfl, rfl⟩
theorem gh_30 : gH (Cond.selects "FrameSharerModel" ⟨"FrameSharerModel", "holdersOf", "(I)I"⟩ ⟨"FrameSharerModel", "holdersOf", "(I)I"⟩) := ⟨List.mem_of_getElem? (i := 30) rfl, rfl⟩
theorem gh_31 : gH (Cond.selects "FrameSharerModel" ⟨"FrameSharerModel", "areFaulty", "(IIII)Z"⟩ ⟨"FrameSharerModel", "areFaulty", "(IIII)Z"⟩) := ⟨List.mem_of_getElem? (i := 31) rfl, rfl⟩
theorem gh_32 : gH (Cond.selects "FrameSharerModel" ⟨"FrameSharerModel", "copyRow", "(II)V"⟩ ⟨"FrameSharerModel", "copyRow", "(II)V"⟩) := ⟨List.mem_of_getElem? (i := 32) rfl, rfl⟩
theorem gh_33 : gH (Cond.selects "FrameSharerModel" ⟨"FrameSharerModel", "isPicture", "(I)Z"⟩ ⟨"FrameSharerModel", "isPicture", "(I)Z"⟩) := ⟨List.mem_of_getElem? (i := 33) rfl, rfl⟩
theorem gh_34 : gH (Cond.selects "FrameSharerModel" ⟨"FrameSharerModel", "spaces", "()I"⟩ ⟨"FrameSharerModel", "spaces", "()I"⟩) := ⟨List.mem_of_getElem? (i := 34) rfl, rfl⟩
theorem gh_35 : gH (Cond.initialized "FrameSharerLaw") := ⟨List.mem_of_getElem? (i := 35) rfl, rfl⟩
theorem gh_36 : gH (Cond.initialized "FrameSharer") := ⟨List.mem_of_getElem? (i := 36) rfl, rfl⟩
theorem gh_37 : gH (Cond.initialized "java/lang/Math") := ⟨List.mem_of_getElem? (i := 37) rfl, rfl⟩
theorem gh_38 : gH (Cond.initialized "java/util/Arrays") := ⟨List.mem_of_getElem? (i := 38) rfl, rfl⟩
theorem gh_39 : gH (Cond.initialized "FrameSharerModel") := ⟨List.mem_of_getElem? (i := 39) rfl, rfl⟩
theorem gh_40 : gH (Cond.initialized "java/lang/Throwable") := ⟨List.mem_of_getElem? (i := 40) rfl, rfl⟩
theorem gh_41 : gH (Cond.initialized "java/lang/Exception") := ⟨List.mem_of_getElem? (i := 41) rfl, rfl⟩
theorem gh_42 : gH (Cond.initialized "java/lang/RuntimeException") := ⟨List.mem_of_getElem? (i := 42) rfl, rfl⟩
theorem gh_43 : gH (Cond.initialized "java/util/NoSuchElementException") := ⟨List.mem_of_getElem? (i := 43) rfl, rfl⟩
theorem gh_44 : gH (Cond.initialized "java/lang/IndexOutOfBoundsException") := ⟨List.mem_of_getElem? (i := 44) rfl, rfl⟩
theorem gh_45 : gH (Cond.initialized "java/lang/IllegalStateException") := ⟨List.mem_of_getElem? (i := 45) rfl, rfl⟩
theorem gh_46 : gH (Cond.initialized "java/lang/System") := ⟨List.mem_of_getElem? (i := 46) rfl, rfl⟩
theorem gh_47 : gH (Cond.classLink "FrameSharerLaw" 8 "FrameSharer") := ⟨List.mem_of_getElem? (i := 47) rfl, rfl⟩
theorem gh_48 : gH (Cond.instantiable "FrameSharer" 6) := ⟨List.mem_of_getElem? (i := 48) rfl, rfl⟩
theorem gh_49 : gH (Cond.methodLink "FrameSharerLaw" 64 ⟨"FrameSharer", "<init>", "(I)V"⟩) := ⟨List.mem_of_getElem? (i := 49) rfl, rfl⟩
theorem gh_50 : gH (Cond.instanceMethod ⟨"FrameSharer", "<init>", "(I)V"⟩) := ⟨List.mem_of_getElem? (i := 50) rfl, rfl⟩
theorem gh_51 : gH (Cond.code ⟨"FrameSharer", "<init>", "(I)V"⟩ prog_1_method_1_code 2 none) := ⟨List.mem_of_getElem? (i := 51) rfl, rfl⟩
theorem gh_52 : gH (Cond.methodLink "FrameSharer" 3 ⟨"java/lang/Object", "<init>", "()V"⟩) := ⟨List.mem_of_getElem? (i := 52) rfl, rfl⟩
theorem gh_53 : gH (Cond.instanceMethod ⟨"java/lang/Object", "<init>", "()V"⟩) := ⟨List.mem_of_getElem? (i := 53) rfl, rfl⟩
theorem gh_54 : gH (Cond.code ⟨"java/lang/Object", "<init>", "()V"⟩ object_method_1_code 1 none) := ⟨List.mem_of_getElem? (i := 54) rfl, rfl⟩
theorem gh_55 : gH (Cond.methodLink "FrameSharer" 9 ⟨"java/lang/Math", "min", "(II)I"⟩) := ⟨List.mem_of_getElem? (i := 55) rfl, rfl⟩
theorem gh_56 : gH (Cond.static ⟨"java/lang/Math", "min", "(II)I"⟩) := ⟨List.mem_of_getElem? (i := 56) rfl, rfl⟩
theorem gh_57 : gH (Cond.code ⟨"java/lang/Math", "min", "(II)I"⟩ prog_7_method_69_code 2 (some FieldType.int)) := ⟨List.mem_of_getElem? (i := 57) rfl, rfl⟩
theorem gh_58 : gH (Cond.methodLink "FrameSharer" 15 ⟨"java/lang/Math", "max", "(II)I"⟩) := ⟨List.mem_of_getElem? (i := 58) rfl, rfl⟩
theorem gh_59 : gH (Cond.static ⟨"java/lang/Math", "max", "(II)I"⟩) := ⟨List.mem_of_getElem? (i := 59) rfl, rfl⟩
theorem gh_60 : gH (Cond.code ⟨"java/lang/Math", "max", "(II)I"⟩ prog_7_method_65_code 2 (some FieldType.int)) := ⟨List.mem_of_getElem? (i := 60) rfl, rfl⟩
theorem gh_61 : gH (Cond.methodLink "FrameSharer" 32 ⟨"java/util/Arrays", "fill", "([II)V"⟩) := ⟨List.mem_of_getElem? (i := 61) rfl, rfl⟩
theorem gh_62 : gH (Cond.static ⟨"java/util/Arrays", "fill", "([II)V"⟩) := ⟨List.mem_of_getElem? (i := 62) rfl, rfl⟩
theorem gh_63 : gH (Cond.code ⟨"java/util/Arrays", "fill", "([II)V"⟩ prog_12_method_103_code 4 none) := ⟨List.mem_of_getElem? (i := 63) rfl, rfl⟩
theorem gh_64 : gH (Cond.fieldLink "FrameSharer" 18 "FrameSharer" "frameTotal" "I") := ⟨List.mem_of_getElem? (i := 64) rfl, rfl⟩
theorem gh_65 : gH (Cond.fieldLink "FrameSharer" 22 "FrameSharer" "cells" "[I") := ⟨List.mem_of_getElem? (i := 65) rfl, rfl⟩
theorem gh_66 : gH (Cond.fieldLink "FrameSharer" 26 "FrameSharer" "holdersOfFrame" "[I") := ⟨List.mem_of_getElem? (i := 66) rfl, rfl⟩
theorem gh_67 : gH (Cond.fieldLink "FrameSharer" 29 "FrameSharer" "frameOfHolder" "[I") := ⟨List.mem_of_getElem? (i := 67) rfl, rfl⟩
theorem gh_68 : gH (Cond.fieldLink "FrameSharer" 38 "FrameSharer" "spaceInRow" "[Z") := ⟨List.mem_of_getElem? (i := 68) rfl, rfl⟩
theorem gh_69 : gH (Cond.fieldLink "FrameSharer" 42 "FrameSharer" "pictureThere" "[Z") := ⟨List.mem_of_getElem? (i := 69) rfl, rfl⟩
theorem gh_70 : gH (Cond.laysFinal "FrameSharer" "FrameSharer" "frameTotal" "I") := ⟨List.mem_of_getElem? (i := 70) rfl, rfl⟩
theorem gh_72 : gH (Cond.laysFinal "FrameSharer" "FrameSharer" "cells" "[I") := ⟨List.mem_of_getElem? (i := 72) rfl, rfl⟩
theorem gh_74 : gH (Cond.laysFinal "FrameSharer" "FrameSharer" "holdersOfFrame" "[I") := ⟨List.mem_of_getElem? (i := 74) rfl, rfl⟩
theorem gh_76 : gH (Cond.laysFinal "FrameSharer" "FrameSharer" "frameOfHolder" "[I") := ⟨List.mem_of_getElem? (i := 76) rfl, rfl⟩
theorem gh_78 : gH (Cond.laysFinal "FrameSharer" "FrameSharer" "spaceInRow" "[Z") := ⟨List.mem_of_getElem? (i := 78) rfl, rfl⟩
theorem gh_80 : gH (Cond.laysFinal "FrameSharer" "FrameSharer" "pictureThere" "[Z") := ⟨List.mem_of_getElem? (i := 80) rfl, rfl⟩
theorem gh_82 : gH (Cond.superclass "FrameSharer" "java/lang/Object") := ⟨List.mem_of_getElem? (i := 82) rfl, rfl⟩
theorem gh_83 : gH (Cond.arrayClass FieldType.int) := ⟨List.mem_of_getElem? (i := 83) rfl, rfl⟩
theorem gh_84 : gH (Cond.arrayClass FieldType.boolean) := ⟨List.mem_of_getElem? (i := 84) rfl, rfl⟩
theorem gh_85 : gH (Cond.methodLink "FrameSharerLaw" 70 ⟨"FrameSharer", "open", "()I"⟩) := ⟨List.mem_of_getElem? (i := 85) rfl, rfl⟩
theorem gh_86 : gH (Cond.instanceMethod ⟨"FrameSharer", "open", "()I"⟩) := ⟨List.mem_of_getElem? (i := 86) rfl, rfl⟩
theorem gh_87 : gH (Cond.selects "FrameSharer" ⟨"FrameSharer", "open", "()I"⟩ ⟨"FrameSharer", "open", "()I"⟩) := ⟨List.mem_of_getElem? (i := 87) rfl, rfl⟩
theorem gh_88 : gH (Cond.code ⟨"FrameSharer", "open", "()I"⟩ prog_1_method_2_code 2 (some FieldType.int)) := ⟨List.mem_of_getElem? (i := 88) rfl, rfl⟩
theorem gh_89 : gH (Cond.methodLink "FrameSharer" 45 ⟨"FrameSharer", "leastMissingSpace", "()I"⟩) := ⟨List.mem_of_getElem? (i := 89) rfl, rfl⟩
theorem gh_91 : gH (Cond.instanceMethod ⟨"FrameSharer", "leastMissingSpace", "()I"⟩) := ⟨List.mem_of_getElem? (i := 91) rfl, rfl⟩
theorem gh_92 : gH (Cond.code ⟨"FrameSharer", "leastMissingSpace", "()I"⟩ prog_1_method_31_code 2 (some FieldType.int)) := ⟨List.mem_of_getElem? (i := 92) rfl, rfl⟩
theorem gh_93 : gH (Cond.methodLink "FrameSharer" 49 ⟨"FrameSharer", "spaceIndex", "(II)I"⟩) := ⟨List.mem_of_getElem? (i := 93) rfl, rfl⟩
theorem gh_94 : gH (Cond.static ⟨"FrameSharer", "spaceIndex", "(II)I"⟩) := ⟨List.mem_of_getElem? (i := 94) rfl, rfl⟩
theorem gh_95 : gH (Cond.code ⟨"FrameSharer", "spaceIndex", "(II)I"⟩ prog_1_method_39_code 2 (some FieldType.int)) := ⟨List.mem_of_getElem? (i := 95) rfl, rfl⟩
theorem gh_96 : gH (Cond.methodLink "FrameSharerLaw" 106 ⟨"FrameSharer", "take", "()I"⟩) := ⟨List.mem_of_getElem? (i := 96) rfl, rfl⟩
theorem gh_97 : gH (Cond.instanceMethod ⟨"FrameSharer", "take", "()I"⟩) := ⟨List.mem_of_getElem? (i := 97) rfl, rfl⟩
theorem gh_98 : gH (Cond.selects "FrameSharer" ⟨"FrameSharer", "take", "()I"⟩ ⟨"FrameSharer", "take", "()I"⟩) := ⟨List.mem_of_getElem? (i := 98) rfl, rfl⟩
theorem gh_99 : gH (Cond.code ⟨"FrameSharer", "take", "()I"⟩ prog_1_method_11_code 2 (some FieldType.int)) := ⟨List.mem_of_getElem? (i := 99) rfl, rfl⟩
theorem gh_100 : gH (Cond.methodLink "FrameSharer" 100 ⟨"FrameSharer", "leastMissingPicture", "()I"⟩) := ⟨List.mem_of_getElem? (i := 100) rfl, rfl⟩
theorem gh_102 : gH (Cond.instanceMethod ⟨"FrameSharer", "leastMissingPicture", "()I"⟩) := ⟨List.mem_of_getElem? (i := 102) rfl, rfl⟩
theorem gh_103 : gH (Cond.code ⟨"FrameSharer", "leastMissingPicture", "()I"⟩ prog_1_method_32_code 2 (some FieldType.int)) := ⟨List.mem_of_getElem? (i := 103) rfl, rfl⟩
theorem gh_104 : gH (Cond.methodLink "FrameSharer" 103 ⟨"FrameSharer", "copyRow", "(II)V"⟩) := ⟨List.mem_of_getElem? (i := 104) rfl, rfl⟩
theorem gh_106 : gH (Cond.instanceMethod ⟨"FrameSharer", "copyRow", "(II)V"⟩) := ⟨List.mem_of_getElem? (i := 106) rfl, rfl⟩
theorem gh_107 : gH (Cond.code ⟨"FrameSharer", "copyRow", "(II)V"⟩ prog_1_method_27_code 4 none) := ⟨List.mem_of_getElem? (i := 107) rfl, rfl⟩
theorem gh_108 : gH (Cond.methodLink "FrameSharer" 59 ⟨"FrameSharer", "standIn", "(II)V"⟩) := ⟨List.mem_of_getElem? (i := 108) rfl, rfl⟩
theorem gh_110 : gH (Cond.instanceMethod ⟨"FrameSharer", "standIn", "(II)V"⟩) := ⟨List.mem_of_getElem? (i := 110) rfl, rfl⟩
theorem gh_111 : gH (Cond.code ⟨"FrameSharer", "standIn", "(II)V"⟩ prog_1_method_25_code 4 none) := ⟨List.mem_of_getElem? (i := 111) rfl, rfl⟩
theorem gh_112 : gH (Cond.methodLink "FrameSharer" 70 ⟨"FrameSharer", "isFrame", "(I)Z"⟩) := ⟨List.mem_of_getElem? (i := 112) rfl, rfl⟩
theorem gh_114 : gH (Cond.instanceMethod ⟨"FrameSharer", "isFrame", "(I)Z"⟩) := ⟨List.mem_of_getElem? (i := 114) rfl, rfl⟩
theorem gh_115 : gH (Cond.code ⟨"FrameSharer", "isFrame", "(I)Z"⟩ prog_1_method_38_code 2 (some FieldType.boolean)) := ⟨List.mem_of_getElem? (i := 115) rfl, rfl⟩
theorem gh_116 : gH (Cond.methodLink "FrameSharerLaw" 122 ⟨"FrameSharer", "count", "(I)I"⟩) := ⟨List.mem_of_getElem? (i := 116) rfl, rfl⟩
theorem gh_117 : gH (Cond.instanceMethod ⟨"FrameSharer", "count", "(I)I"⟩) := ⟨List.mem_of_getElem? (i := 117) rfl, rfl⟩
theorem gh_118 : gH (Cond.selects "FrameSharer" ⟨"FrameSharer", "count", "(I)I"⟩ ⟨"FrameSharer", "count", "(I)I"⟩) := ⟨List.mem_of_getElem? (i := 118) rfl, rfl⟩
theorem gh_119 : gH (Cond.code ⟨"FrameSharer", "count", "(I)I"⟩ prog_1_method_16_code 2 (some FieldType.int)) := ⟨List.mem_of_getElem? (i := 119) rfl, rfl⟩
theorem gh_120 : gH (Cond.methodLink "FrameSharer" 112 ⟨"FrameSharer", "framesInUse", "()I"⟩) := ⟨List.mem_of_getElem? (i := 120) rfl, rfl⟩
theorem gh_122 : gH (Cond.instanceMethod ⟨"FrameSharer", "framesInUse", "()I"⟩) := ⟨List.mem_of_getElem? (i := 122) rfl, rfl⟩
theorem gh_123 : gH (Cond.code ⟨"FrameSharer", "framesInUse", "()I"⟩ prog_1_method_33_code 3 (some FieldType.int)) := ⟨List.mem_of_getElem? (i := 123) rfl, rfl⟩
theorem gh_124 : gH (Cond.methodLink "FrameSharer" 109 ⟨"FrameSharer", "spacesNow", "()I"⟩) := ⟨List.mem_of_getElem? (i := 124) rfl, rfl⟩
theorem gh_126 : gH (Cond.instanceMethod ⟨"FrameSharer", "spacesNow", "()I"⟩) := ⟨List.mem_of_getElem? (i := 126) rfl, rfl⟩
theorem gh_127 : gH (Cond.code ⟨"FrameSharer", "spacesNow", "()I"⟩ prog_1_method_34_code 3 (some FieldType.int)) := ⟨List.mem_of_getElem? (i := 127) rfl, rfl⟩
theorem gh_128 : gH (Cond.methodLink "FrameSharer" 118 ⟨"FrameSharer", "picturesNow", "()I"⟩) := ⟨List.mem_of_getElem? (i := 128) rfl, rfl⟩
theorem gh_130 : gH (Cond.instanceMethod ⟨"FrameSharer", "picturesNow", "()I"⟩) := ⟨List.mem_of_getElem? (i := 130) rfl, rfl⟩
theorem gh_131 : gH (Cond.code ⟨"FrameSharer", "picturesNow", "()I"⟩ prog_1_method_35_code 3 (some FieldType.int)) := ⟨List.mem_of_getElem? (i := 131) rfl, rfl⟩
theorem gh_132 : gH (Cond.methodLink "FrameSharer" 121 ⟨"FrameSharer", "pagesNow", "()I"⟩) := ⟨List.mem_of_getElem? (i := 132) rfl, rfl⟩
theorem gh_134 : gH (Cond.instanceMethod ⟨"FrameSharer", "pagesNow", "()I"⟩) := ⟨List.mem_of_getElem? (i := 134) rfl, rfl⟩
theorem gh_135 : gH (Cond.code ⟨"FrameSharer", "pagesNow", "()I"⟩ prog_1_method_36_code 3 (some FieldType.int)) := ⟨List.mem_of_getElem? (i := 135) rfl, rfl⟩
theorem gh_136 : gH (Cond.methodLink "FrameSharer" 63 ⟨"FrameSharer", "pagesOfSpace", "(I)I"⟩) := ⟨List.mem_of_getElem? (i := 136) rfl, rfl⟩
theorem gh_138 : gH (Cond.instanceMethod ⟨"FrameSharer", "pagesOfSpace", "(I)I"⟩) := ⟨List.mem_of_getElem? (i := 138) rfl, rfl⟩
theorem gh_139 : gH (Cond.code ⟨"FrameSharer", "pagesOfSpace", "(I)I"⟩ prog_1_method_37_code 4 (some FieldType.int)) := ⟨List.mem_of_getElem? (i := 139) rfl, rfl⟩
theorem gh_140 : gH (Cond.methodLink "FrameSharer" 56 ⟨"FrameSharer", "pageNow", "(II)I"⟩) := ⟨List.mem_of_getElem? (i := 140) rfl, rfl⟩
theorem gh_141 : gH (Cond.static ⟨"FrameSharer", "pageNow", "(II)I"⟩) := ⟨List.mem_of_getElem? (i := 141) rfl, rfl⟩
theorem gh_142 : gH (Cond.code ⟨"FrameSharer", "pageNow", "(II)I"⟩ prog_1_method_40_code 2 (some FieldType.int)) := ⟨List.mem_of_getElem? (i := 142) rfl, rfl⟩
theorem gh_143 : gH (Cond.methodLink "FrameSharerLaw" 126 ⟨"FrameSharer", "isThere", "(I)Z"⟩) := ⟨List.mem_of_getElem? (i := 143) rfl, rfl⟩
theorem gh_144 : gH (Cond.instanceMethod ⟨"FrameSharer", "isThere", "(I)Z"⟩) := ⟨List.mem_of_getElem? (i := 144) rfl, rfl⟩
theorem gh_145 : gH (Cond.selects "FrameSharer" ⟨"FrameSharer", "isThere", "(I)Z"⟩ ⟨"FrameSharer", "isThere", "(I)Z"⟩) := ⟨List.mem_of_getElem? (i := 145) rfl, rfl⟩
theorem gh_146 : gH (Cond.code ⟨"FrameSharer", "isThere", "(I)Z"⟩ prog_1_method_17_code 2 (some FieldType.boolean)) := ⟨List.mem_of_getElem? (i := 146) rfl, rfl⟩
theorem gh_147 : gH (Cond.methodLink "FrameSharerLaw" 58 ⟨"FrameSharerLaw", "cell", "([II)I"⟩) := ⟨List.mem_of_getElem? (i := 147) rfl, rfl⟩
theorem gh_148 : gH (Cond.static ⟨"FrameSharerLaw", "cell", "([II)I"⟩) := ⟨List.mem_of_getElem? (i := 148) rfl, rfl⟩
theorem gh_149 : gH (Cond.code ⟨"FrameSharerLaw", "cell", "([II)I"⟩ method_2_code 2 (some FieldType.int)) := ⟨List.mem_of_getElem? (i := 149) rfl, rfl⟩
theorem gh_150 : gH (Cond.methodLink "FrameSharerLaw" 75 ⟨"FrameSharerLaw", "fork", "(LFrameSharer;I[J)I"⟩) := ⟨List.mem_of_getElem? (i := 150) rfl, rfl⟩
theorem gh_151 : gH (Cond.static ⟨"FrameSharerLaw", "fork", "(LFrameSharer;I[J)I"⟩) := ⟨List.mem_of_getElem? (i := 151) rfl, rfl⟩
theorem gh_152 : gH (Cond.codeWith ⟨"FrameSharerLaw", "fork", "(LFrameSharer;I[J)I"⟩ method_3_code 4 (some FieldType.int) [(0, 9, 12, 13)]) := ⟨List.mem_of_getElem? (i := 152) rfl, rfl⟩
theorem gh_153 : gH (Cond.classLink "FrameSharerLaw" 13 "java/util/NoSuchElementException") := ⟨List.mem_of_getElem? (i := 153) rfl, rfl⟩
theorem gh_154 : gH (Cond.methodLink "FrameSharerLaw" 7 ⟨"FrameSharer", "fork", "(I)I"⟩) := ⟨List.mem_of_getElem? (i := 154) rfl, rfl⟩
theorem gh_155 : gH (Cond.instanceMethod ⟨"FrameSharer", "fork", "(I)I"⟩) := ⟨List.mem_of_getElem? (i := 155) rfl, rfl⟩
theorem gh_156 : gH (Cond.selects "FrameSharer" ⟨"FrameSharer", "fork", "(I)I"⟩ ⟨"FrameSharer", "fork", "(I)I"⟩) := ⟨List.mem_of_getElem? (i := 156) rfl, rfl⟩
theorem gh_157 : gH (Cond.code ⟨"FrameSharer", "fork", "(I)I"⟩ prog_1_method_3_code 4 (some FieldType.int)) := ⟨List.mem_of_getElem? (i := 157) rfl, rfl⟩
theorem gh_158 : gH (Cond.methodLink "FrameSharer" 52 ⟨"FrameSharer", "needSpace", "(I)V"⟩) := ⟨List.mem_of_getElem? (i := 158) rfl, rfl⟩
theorem gh_160 : gH (Cond.instanceMethod ⟨"FrameSharer", "needSpace", "(I)V"⟩) := ⟨List.mem_of_getElem? (i := 160) rfl, rfl⟩
theorem gh_161 : gH (Cond.code ⟨"FrameSharer", "needSpace", "(I)V"⟩ prog_1_method_18_code 2 none) := ⟨List.mem_of_getElem? (i := 161) rfl, rfl⟩
theorem gh_162 : gH (Cond.methodLink "FrameSharer" 124 ⟨"FrameSharer", "isThere", "(I)Z"⟩) := ⟨List.mem_of_getElem? (i := 162) rfl, rfl⟩
theorem gh_163 : gH (Cond.classLink "FrameSharer" 127 "java/util/NoSuchElementException") := ⟨List.mem_of_getElem? (i := 163) rfl, rfl⟩
theorem gh_164 : gH (Cond.instantiable "java/util/NoSuchElementException" 6) := ⟨List.mem_of_getElem? (i := 164) rfl, rfl⟩
theorem gh_165 : gH (Cond.castable "java/util/NoSuchElementException" "java/util/NoSuchElementException") := ⟨List.mem_of_getElem? (i := 165) rfl, rfl⟩
theorem gh_166 : gH (Cond.declares ⟨"java/lang/RuntimeException", "<init>", "()V"⟩) := ⟨List.mem_of_getElem? (i := 166) rfl, rfl⟩
theorem gh_167 : gH (Cond.declares ⟨"java/lang/RuntimeException", "<init>", "(Ljava/lang/String;)V"⟩) := ⟨List.mem_of_getElem? (i := 167) rfl, rfl⟩
theorem gh_168 : gH (Cond.declares ⟨"java/lang/Exception", "<init>", "()V"⟩) := ⟨List.mem_of_getElem? (i := 168) rfl, rfl⟩
theorem gh_169 : gH (Cond.declares ⟨"java/lang/Exception", "<init>", "(Ljava/lang/String;)V"⟩) := ⟨List.mem_of_getElem? (i := 169) rfl, rfl⟩
theorem gh_170 : gH (Cond.declares ⟨"java/lang/Throwable", "<init>", "()V"⟩) := ⟨List.mem_of_getElem? (i := 170) rfl, rfl⟩
theorem gh_171 : gH (Cond.declares ⟨"java/lang/Throwable", "<init>", "(Ljava/lang/String;)V"⟩) := ⟨List.mem_of_getElem? (i := 171) rfl, rfl⟩
theorem gh_172 : gH (Cond.selects "java/util/NoSuchElementException" ⟨"java/lang/Throwable", "fillInStackTrace", "(I)Ljava/lang/Throwable;"⟩ ⟨"java/lang/Throwable", "fillInStackTrace", "(I)Ljava/lang/Throwable;"⟩) := ⟨List.mem_of_getElem? (i := 172) rfl, rfl⟩
theorem gh_173 : gH (Cond.selects "java/util/NoSuchElementException" ⟨"java/lang/Throwable", "fillInStackTrace", "()Ljava/lang/Throwable;"⟩ ⟨"java/lang/Throwable", "fillInStackTrace", "()Ljava/lang/Throwable;"⟩) := ⟨List.mem_of_getElem? (i := 173) rfl, rfl⟩
theorem gh_174 : gH (Cond.lays "java/util/NoSuchElementException" "java/lang/Throwable" "cause" "Ljava/lang/Throwable;") := ⟨List.mem_of_getElem? (i := 174) rfl, rfl⟩
theorem gh_175 : gH (Cond.lays "java/lang/Throwable" "java/lang/Throwable" "cause" "Ljava/lang/Throwable;") := ⟨List.mem_of_getElem? (i := 175) rfl, rfl⟩
theorem gh_176 : gH (Cond.lays "java/util/NoSuchElementException" "java/lang/Throwable" "stackTrace" "[Ljava/lang/StackTraceElement;") := ⟨List.mem_of_getElem? (i := 176) rfl, rfl⟩
theorem gh_177 : gH (Cond.lays "java/lang/Throwable" "java/lang/Throwable" "stackTrace" "[Ljava/lang/StackTraceElement;") := ⟨List.mem_of_getElem? (i := 177) rfl, rfl⟩
theorem gh_178 : gH (Cond.lays "java/util/NoSuchElementException" "java/lang/Throwable" "suppressedExceptions" "Ljava/util/List;") := ⟨List.mem_of_getElem? (i := 178) rfl, rfl⟩
theorem gh_179 : gH (Cond.lays "java/lang/Throwable" "java/lang/Throwable" "suppressedExceptions" "Ljava/util/List;") := ⟨List.mem_of_getElem? (i := 179) rfl, rfl⟩
theorem gh_180 : gH (Cond.lays "java/util/NoSuchElementException" "java/lang/Throwable" "detailMessage" "Ljava/lang/String;") := ⟨List.mem_of_getElem? (i := 180) rfl, rfl⟩
theorem gh_181 : gH (Cond.lays "java/lang/Throwable" "java/lang/Throwable" "detailMessage" "Ljava/lang/String;") := ⟨List.mem_of_getElem? (i := 181) rfl, rfl⟩
theorem gh_182 : gH (Cond.lays "java/util/NoSuchElementException" "java/lang/Throwable" "backtrace" "Ljava/lang/Object;") := ⟨List.mem_of_getElem? (i := 182) rfl, rfl⟩
theorem gh_183 : gH (Cond.lays "java/lang/Throwable" "java/lang/Throwable" "backtrace" "Ljava/lang/Object;") := ⟨List.mem_of_getElem? (i := 183) rfl, rfl⟩
theorem gh_184 : gH (Cond.fieldLink "java/lang/Throwable" 198 "java/lang/Throwable" "backtrace" "Ljava/lang/Object;") := ⟨List.mem_of_getElem? (i := 184) rfl, rfl⟩
theorem gh_185 : gH (Cond.superclass "java/lang/Throwable" "java/lang/Object") := ⟨List.mem_of_getElem? (i := 185) rfl, rfl⟩
theorem gh_186 : gH (Cond.instanceMethod ⟨"java/lang/Throwable", "<init>", "()V"⟩) := ⟨List.mem_of_getElem? (i := 186) rfl, rfl⟩
theorem gh_187 : gH (Cond.code ⟨"java/lang/Throwable", "<init>", "()V"⟩ prog_11_method_1_code 1 none) := ⟨List.mem_of_getElem? (i := 187) rfl, rfl⟩
theorem gh_188 : gH (Cond.methodLink "java/lang/Throwable" 1 ⟨"java/lang/Object", "<init>", "()V"⟩) := ⟨List.mem_of_getElem? (i := 188) rfl, rfl⟩
theorem gh_189 : gH (Cond.fieldLink "java/lang/Throwable" 13 "java/lang/Throwable" "UNASSIGNED_STACK" "[Ljava/lang/StackTraceElement;") := ⟨List.mem_of_getElem? (i := 189) rfl, rfl⟩
theorem gh_191 : gH (Cond.fieldLink "java/lang/Throwable" 20 "java/lang/Throwable" "SUPPRESSED_SENTINEL" "Ljava/util/List;") := ⟨List.mem_of_getElem? (i := 191) rfl, rfl⟩
theorem gh_193 : gH (Cond.methodLink "java/lang/Throwable" 27 ⟨"java/lang/Throwable", "fillInStackTrace", "()Ljava/lang/Throwable;"⟩) := ⟨List.mem_of_getElem? (i := 193) rfl, rfl⟩
theorem gh_194 : gH (Cond.instanceMethod ⟨"java/lang/Throwable", "fillInStackTrace", "()Ljava/lang/Throwable;"⟩) := ⟨List.mem_of_getElem? (i := 194) rfl, rfl⟩
theorem gh_195 : gH (Cond.sameMethod "java/lang/Throwable" "java/lang/Throwable" "fillInStackTrace" "()Ljava/lang/Throwable;") := ⟨List.mem_of_getElem? (i := 195) rfl, rfl⟩
theorem gh_196 : gH (Cond.selects "java/lang/IllegalStateException" ⟨"java/lang/Throwable", "fillInStackTrace", "()Ljava/lang/Throwable;"⟩ ⟨"java/lang/Throwable", "fillInStackTrace", "()Ljava/lang/Throwable;"⟩) := ⟨List.mem_of_getElem? (i := 196) rfl, rfl⟩
theorem gh_197 : gH (Cond.selects "java/lang/IndexOutOfBoundsException" ⟨"java/lang/Throwable", "fillInStackTrace", "()Ljava/lang/Throwable;"⟩ ⟨"java/lang/Throwable", "fillInStackTrace", "()Ljava/lang/Throwable;"⟩) := ⟨List.mem_of_getElem? (i := 197) rfl, rfl⟩
theorem gh_198 : gH (Cond.codeSync ⟨"java/lang/Throwable", "fillInStackTrace", "()Ljava/lang/Throwable;"⟩ prog_11_method_18_code 1 (Option.some (FieldType.object "java/lang/Throwable"))) := ⟨List.mem_of_getElem? (i := 198) rfl, rfl⟩
theorem gh_199 : gH (Cond.methodLink "java/lang/Throwable" 202 ⟨"java/lang/Throwable", "fillInStackTrace", "(I)Ljava/lang/Throwable;"⟩) := ⟨List.mem_of_getElem? (i := 199) rfl, rfl⟩
theorem gh_201 : gH (Cond.instanceMethod ⟨"java/lang/Throwable", "fillInStackTrace", "(I)Ljava/lang/Throwable;"⟩) := ⟨List.mem_of_getElem? (i := 201) rfl, rfl⟩
theorem gh_202 : gH (Cond.instantiable "java/lang/Throwable" 6) := ⟨List.mem_of_getElem? (i := 202) rfl, rfl⟩
theorem gh_203 : gH (Cond.native ⟨"java/lang/Throwable", "fillInStackTrace", "(I)Ljava/lang/Throwable;"⟩) := ⟨List.mem_of_getElem? (i := 203) rfl, rfl⟩
theorem gh_205 : gH (Cond.methodLink "FrameSharer" 131 ⟨"java/util/NoSuchElementException", "<init>", "(Ljava/lang/String;)V"⟩) := ⟨List.mem_of_getElem? (i := 205) rfl, rfl⟩
theorem gh_206 : gH (Cond.instanceMethod ⟨"java/util/NoSuchElementException", "<init>", "(Ljava/lang/String;)V"⟩) := ⟨List.mem_of_getElem? (i := 206) rfl, rfl⟩
theorem gh_207 : gH (Cond.code ⟨"java/util/NoSuchElementException", "<init>", "(Ljava/lang/String;)V"⟩ prog_13_method_4_code 2 none) := ⟨List.mem_of_getElem? (i := 207) rfl, rfl⟩
theorem gh_208 : gH (Cond.methodLink "java/util/NoSuchElementException" 13 ⟨"java/lang/RuntimeException", "<init>", "(Ljava/lang/String;)V"⟩) := ⟨List.mem_of_getElem? (i := 208) rfl, rfl⟩
theorem gh_209 : gH (Cond.instanceMethod ⟨"java/lang/RuntimeException", "<init>", "(Ljava/lang/String;)V"⟩) := ⟨List.mem_of_getElem? (i := 209) rfl, rfl⟩
theorem gh_210 : gH (Cond.code ⟨"java/lang/RuntimeException", "<init>", "(Ljava/lang/String;)V"⟩ prog_8_method_2_code 2 none) := ⟨List.mem_of_getElem? (i := 210) rfl, rfl⟩
theorem gh_211 : gH (Cond.methodLink "java/lang/RuntimeException" 7 ⟨"java/lang/Exception", "<init>", "(Ljava/lang/String;)V"⟩) := ⟨List.mem_of_getElem? (i := 211) rfl, rfl⟩
theorem gh_212 : gH (Cond.instanceMethod ⟨"java/lang/Exception", "<init>", "(Ljava/lang/String;)V"⟩) := ⟨List.mem_of_getElem? (i := 212) rfl, rfl⟩
theorem gh_213 : gH (Cond.code ⟨"java/lang/Exception", "<init>", "(Ljava/lang/String;)V"⟩ prog_4_method_2_code 2 none) := ⟨List.mem_of_getElem? (i := 213) rfl, rfl⟩
theorem gh_214 : gH (Cond.methodLink "java/lang/Exception" 7 ⟨"java/lang/Throwable", "<init>", "(Ljava/lang/String;)V"⟩) := ⟨List.mem_of_getElem? (i := 214) rfl, rfl⟩
theorem gh_215 : gH (Cond.instanceMethod ⟨"java/lang/Throwable", "<init>", "(Ljava/lang/String;)V"⟩) := ⟨List.mem_of_getElem? (i := 215) rfl, rfl⟩
theorem gh_216 : gH (Cond.code ⟨"java/lang/Throwable", "<init>", "(Ljava/lang/String;)V"⟩ prog_11_method_2_code 2 none) := ⟨List.mem_of_getElem? (i := 216) rfl, rfl⟩
theorem gh_218 : gH (Cond.fieldLink "java/lang/Throwable" 31 "java/lang/Throwable" "detailMessage" "Ljava/lang/String;") := ⟨List.mem_of_getElem? (i := 218) rfl, rfl⟩
theorem gh_219 : gH (Cond.fieldLink "java/lang/Throwable" 7 "java/lang/Throwable" "cause" "Ljava/lang/Throwable;") := ⟨List.mem_of_getElem? (i := 219) rfl, rfl⟩
theorem gh_220 : gH (Cond.fieldLink "java/lang/Throwable" 17 "java/lang/Throwable" "stackTrace" "[Ljava/lang/StackTraceElement;") := ⟨List.mem_of_getElem? (i := 220) rfl, rfl⟩
theorem gh_221 : gH (Cond.fieldLink "java/lang/Throwable" 24 "java/lang/Throwable" "suppressedExceptions" "Ljava/util/List;") := ⟨List.mem_of_getElem? (i := 221) rfl, rfl⟩
theorem gh_226 : gH (Cond.lays "java/util/NoSuchElementException" "java/lang/Throwable" "depth" "I") := ⟨List.mem_of_getElem? (i := 226) rfl, rfl⟩
theorem gh_229 : gH (Cond.superclass "java/util/NoSuchElementException" "java/lang/RuntimeException") := ⟨List.mem_of_getElem? (i := 229) rfl, rfl⟩
theorem gh_230 : gH (Cond.arrayClass FieldType.byte) := ⟨List.mem_of_getElem? (i := 230) rfl, rfl⟩
theorem gh_231 : gH (Cond.methodLink "FrameSharerLaw" 82 ⟨"FrameSharerLaw", "close", "(LFrameSharer;I[J)I"⟩) := ⟨List.mem_of_getElem? (i := 231) rfl, rfl⟩
theorem gh_232 : gH (Cond.static ⟨"FrameSharerLaw", "close", "(LFrameSharer;I[J)I"⟩) := ⟨List.mem_of_getElem? (i := 232) rfl, rfl⟩
theorem gh_233 : gH (Cond.codeWith ⟨"FrameSharerLaw", "close", "(LFrameSharer;I[J)I"⟩ method_4_code 4 (some FieldType.int) [(0, 9, 12, 13)]) := ⟨List.mem_of_getElem? (i := 233) rfl, rfl⟩
theorem gh_234 : gH (Cond.methodLink "FrameSharerLaw" 15 ⟨"FrameSharer", "close", "(I)I"⟩) := ⟨List.mem_of_getElem? (i := 234) rfl, rfl⟩
theorem gh_235 : gH (Cond.instanceMethod ⟨"FrameSharer", "close", "(I)I"⟩) := ⟨List.mem_of_getElem? (i := 235) rfl, rfl⟩
theorem gh_236 : gH (Cond.selects "FrameSharer" ⟨"FrameSharer", "close", "(I)I"⟩ ⟨"FrameSharer", "close", "(I)I"⟩) := ⟨List.mem_of_getElem? (i := 236) rfl, rfl⟩
theorem gh_237 : gH (Cond.code ⟨"FrameSharer", "close", "(I)I"⟩ prog_1_method_4_code 4 (some FieldType.int)) := ⟨List.mem_of_getElem? (i := 237) rfl, rfl⟩
theorem gh_238 : gH (Cond.methodLink "FrameSharerLaw" 85 ⟨"FrameSharerLaw", "map", "(LFrameSharer;III[J)I"⟩) := ⟨List.mem_of_getElem? (i := 238) rfl, rfl⟩
theorem gh_239 : gH (Cond.static ⟨"FrameSharerLaw", "map", "(LFrameSharer;III[J)I"⟩) := ⟨List.mem_of_getElem? (i := 239) rfl, rfl⟩
theorem gh_240 : gH (Cond.codeWith ⟨"FrameSharerLaw", "map", "(LFrameSharer;III[J)I"⟩ method_5_code 6 (some FieldType.int) [(0, 19, 22, 13), (0, 19, 26, 22), (0, 19, 30, 24)]) := ⟨List.mem_of_getElem? (i := 240) rfl, rfl⟩
theorem gh_241 : gH (Cond.classLink "FrameSharerLaw" 22 "java/lang/IndexOutOfBoundsException") := ⟨List.mem_of_getElem? (i := 241) rfl, rfl⟩
theorem gh_242 : gH (Cond.classLink "FrameSharerLaw" 24 "java/lang/IllegalStateException") := ⟨List.mem_of_getElem? (i := 242) rfl, rfl⟩
theorem gh_243 : gH (Cond.methodLink "FrameSharerLaw" 18 ⟨"FrameSharer", "map", "(III)Z"⟩) := ⟨List.mem_of_getElem? (i := 243) rfl, rfl⟩
theorem gh_244 : gH (Cond.instanceMethod ⟨"FrameSharer", "map", "(III)Z"⟩) := ⟨List.mem_of_getElem? (i := 244) rfl, rfl⟩
theorem gh_245 : gH (Cond.selects "FrameSharer" ⟨"FrameSharer", "map", "(III)Z"⟩ ⟨"FrameSharer", "map", "(III)Z"⟩) := ⟨List.mem_of_getElem? (i := 245) rfl, rfl⟩
theorem gh_246 : gH (Cond.code ⟨"FrameSharer", "map", "(III)Z"⟩ prog_1_method_5_code 6 (some FieldType.boolean)) := ⟨List.mem_of_getElem? (i := 246) rfl, rfl⟩
theorem gh_247 : gH (Cond.methodLink "FrameSharer" 67 ⟨"FrameSharer", "needPage", "(I)V"⟩) := ⟨List.mem_of_getElem? (i := 247) rfl, rfl⟩
theorem gh_249 : gH (Cond.instanceMethod ⟨"FrameSharer", "needPage", "(I)V"⟩) := ⟨List.mem_of_getElem? (i := 249) rfl, rfl⟩
theorem gh_250 : gH (Cond.code ⟨"FrameSharer", "needPage", "(I)V"⟩ prog_1_method_19_code 2 none) := ⟨List.mem_of_getElem? (i := 250) rfl, rfl⟩
theorem gh_251 : gH (Cond.classLink "FrameSharer" 134 "java/lang/IndexOutOfBoundsException") := ⟨List.mem_of_getElem? (i := 251) rfl, rfl⟩
theorem gh_252 : gH (Cond.instantiable "java/lang/IndexOutOfBoundsException" 6) := ⟨List.mem_of_getElem? (i := 252) rfl, rfl⟩
theorem gh_253 : gH (Cond.castable "java/lang/IndexOutOfBoundsException" "java/lang/IndexOutOfBoundsException") := ⟨List.mem_of_getElem? (i := 253) rfl, rfl⟩
theorem gh_254 : gH (Cond.selects "java/lang/IndexOutOfBoundsException" ⟨"java/lang/Throwable", "fillInStackTrace", "(I)Ljava/lang/Throwable;"⟩ ⟨"java/lang/Throwable", "fillInStackTrace", "(I)Ljava/lang/Throwable;"⟩) := ⟨List.mem_of_getElem? (i := 254) rfl, rfl⟩
theorem gh_255 : gH (Cond.lays "java/lang/IndexOutOfBoundsException" "java/lang/Throwable" "cause" "Ljava/lang/Throwable;") := ⟨List.mem_of_getElem? (i := 255) rfl, rfl⟩
theorem gh_256 : gH (Cond.lays "java/lang/IndexOutOfBoundsException" "java/lang/Throwable" "stackTrace" "[Ljava/lang/StackTraceElement;") := ⟨List.mem_of_getElem? (i := 256) rfl, rfl⟩
theorem gh_257 : gH (Cond.lays "java/lang/IndexOutOfBoundsException" "java/lang/Throwable" "suppressedExceptions" "Ljava/util/List;") := ⟨List.mem_of_getElem? (i := 257) rfl, rfl⟩
theorem gh_258 : gH (Cond.lays "java/lang/IndexOutOfBoundsException" "java/lang/Throwable" "detailMessage" "Ljava/lang/String;") := ⟨List.mem_of_getElem? (i := 258) rfl, rfl⟩
theorem gh_259 : gH (Cond.lays "java/lang/IndexOutOfBoundsException" "java/lang/Throwable" "backtrace" "Ljava/lang/Object;") := ⟨List.mem_of_getElem? (i := 259) rfl, rfl⟩
theorem gh_261 : gH (Cond.methodLink "FrameSharer" 138 ⟨"java/lang/IndexOutOfBoundsException", "<init>", "(Ljava/lang/String;)V"⟩) := ⟨List.mem_of_getElem? (i := 261) rfl, rfl⟩
theorem gh_262 : gH (Cond.instanceMethod ⟨"java/lang/IndexOutOfBoundsException", "<init>", "(Ljava/lang/String;)V"⟩) := ⟨List.mem_of_getElem? (i := 262) rfl, rfl⟩
theorem gh_263 : gH (Cond.code ⟨"java/lang/IndexOutOfBoundsException", "<init>", "(Ljava/lang/String;)V"⟩ prog_6_method_2_code 2 none) := ⟨List.mem_of_getElem? (i := 263) rfl, rfl⟩
theorem gh_264 : gH (Cond.methodLink "java/lang/IndexOutOfBoundsException" 7 ⟨"java/lang/RuntimeException", "<init>", "(Ljava/lang/String;)V"⟩) := ⟨List.mem_of_getElem? (i := 264) rfl, rfl⟩
theorem gh_265 : gH (Cond.lays "java/lang/IndexOutOfBoundsException" "java/lang/Throwable" "depth" "I") := ⟨List.mem_of_getElem? (i := 265) rfl, rfl⟩
theorem gh_266 : gH (Cond.superclass "java/lang/IndexOutOfBoundsException" "java/lang/RuntimeException") := ⟨List.mem_of_getElem? (i := 266) rfl, rfl⟩
theorem gh_267 : gH (Cond.methodLink "FrameSharer" 74 ⟨"FrameSharer", "needFreeFrame", "()I"⟩) := ⟨List.mem_of_getElem? (i := 267) rfl, rfl⟩
theorem gh_269 : gH (Cond.instanceMethod ⟨"FrameSharer", "needFreeFrame", "()I"⟩) := ⟨List.mem_of_getElem? (i := 269) rfl, rfl⟩
theorem gh_270 : gH (Cond.code ⟨"FrameSharer", "needFreeFrame", "()I"⟩ prog_1_method_23_code 2 (some FieldType.int)) := ⟨List.mem_of_getElem? (i := 270) rfl, rfl⟩
theorem gh_271 : gH (Cond.classLink "FrameSharer" 145 "java/lang/IllegalStateException") := ⟨List.mem_of_getElem? (i := 271) rfl, rfl⟩
theorem gh_272 : gH (Cond.instantiable "java/lang/IllegalStateException" 6) := ⟨List.mem_of_getElem? (i := 272) rfl, rfl⟩
theorem gh_273 : gH (Cond.castable "java/lang/IllegalStateException" "java/lang/IllegalStateException") := ⟨List.mem_of_getElem? (i := 273) rfl, rfl⟩
theorem gh_274 : gH (Cond.selects "java/lang/IllegalStateException" ⟨"java/lang/Throwable", "fillInStackTrace", "(I)Ljava/lang/Throwable;"⟩ ⟨"java/lang/Throwable", "fillInStackTrace", "(I)Ljava/lang/Throwable;"⟩) := ⟨List.mem_of_getElem? (i := 274) rfl, rfl⟩
theorem gh_275 : gH (Cond.lays "java/lang/IllegalStateException" "java/lang/Throwable" "cause" "Ljava/lang/Throwable;") := ⟨List.mem_of_getElem? (i := 275) rfl, rfl⟩
theorem gh_276 : gH (Cond.lays "java/lang/IllegalStateException" "java/lang/Throwable" "stackTrace" "[Ljava/lang/StackTraceElement;") := ⟨List.mem_of_getElem? (i := 276) rfl, rfl⟩
theorem gh_277 : gH (Cond.lays "java/lang/IllegalStateException" "java/lang/Throwable" "suppressedExceptions" "Ljava/util/List;") := ⟨List.mem_of_getElem? (i := 277) rfl, rfl⟩
theorem gh_278 : gH (Cond.lays "java/lang/IllegalStateException" "java/lang/Throwable" "detailMessage" "Ljava/lang/String;") := ⟨List.mem_of_getElem? (i := 278) rfl, rfl⟩
theorem gh_279 : gH (Cond.lays "java/lang/IllegalStateException" "java/lang/Throwable" "backtrace" "Ljava/lang/Object;") := ⟨List.mem_of_getElem? (i := 279) rfl, rfl⟩
theorem gh_281 : gH (Cond.methodLink "FrameSharer" 149 ⟨"java/lang/IllegalStateException", "<init>", "(Ljava/lang/String;)V"⟩) := ⟨List.mem_of_getElem? (i := 281) rfl, rfl⟩
theorem gh_282 : gH (Cond.instanceMethod ⟨"java/lang/IllegalStateException", "<init>", "(Ljava/lang/String;)V"⟩) := ⟨List.mem_of_getElem? (i := 282) rfl, rfl⟩
theorem gh_283 : gH (Cond.code ⟨"java/lang/IllegalStateException", "<init>", "(Ljava/lang/String;)V"⟩ prog_5_method_2_code 2 none) := ⟨List.mem_of_getElem? (i := 283) rfl, rfl⟩
theorem gh_284 : gH (Cond.methodLink "java/lang/IllegalStateException" 7 ⟨"java/lang/RuntimeException", "<init>", "(Ljava/lang/String;)V"⟩) := ⟨List.mem_of_getElem? (i := 284) rfl, rfl⟩
theorem gh_285 : gH (Cond.lays "java/lang/IllegalStateException" "java/lang/Throwable" "depth" "I") := ⟨List.mem_of_getElem? (i := 285) rfl, rfl⟩
theorem gh_286 : gH (Cond.superclass "java/lang/IllegalStateException" "java/lang/RuntimeException") := ⟨List.mem_of_getElem? (i := 286) rfl, rfl⟩
theorem gh_287 : gH (Cond.methodLink "FrameSharer" 77 ⟨"FrameSharer", "fillFrame", "(II)V"⟩) := ⟨List.mem_of_getElem? (i := 287) rfl, rfl⟩
theorem gh_289 : gH (Cond.instanceMethod ⟨"FrameSharer", "fillFrame", "(II)V"⟩) := ⟨List.mem_of_getElem? (i := 289) rfl, rfl⟩
theorem gh_290 : gH (Cond.code ⟨"FrameSharer", "fillFrame", "(II)V"⟩ prog_1_method_29_code 4 none) := ⟨List.mem_of_getElem? (i := 290) rfl, rfl⟩
theorem gh_291 : gH (Cond.methodLink "FrameSharerLaw" 89 ⟨"FrameSharerLaw", "unmap", "(LFrameSharer;II[J)I"⟩) := ⟨List.mem_of_getElem? (i := 291) rfl, rfl⟩
theorem gh_292 : gH (Cond.static ⟨"FrameSharerLaw", "unmap", "(LFrameSharer;II[J)I"⟩) := ⟨List.mem_of_getElem? (i := 292) rfl, rfl⟩
theorem gh_293 : gH (Cond.codeWith ⟨"FrameSharerLaw", "unmap", "(LFrameSharer;II[J)I"⟩ method_6_code 5 (some FieldType.int) [(0, 17, 20, 13), (0, 17, 24, 22)]) := ⟨List.mem_of_getElem? (i := 293) rfl, rfl⟩
theorem gh_294 : gH (Cond.methodLink "FrameSharerLaw" 26 ⟨"FrameSharer", "unmap", "(II)Z"⟩) := ⟨List.mem_of_getElem? (i := 294) rfl, rfl⟩
theorem gh_295 : gH (Cond.instanceMethod ⟨"FrameSharer", "unmap", "(II)Z"⟩) := ⟨List.mem_of_getElem? (i := 295) rfl, rfl⟩
theorem gh_296 : gH (Cond.selects "FrameSharer" ⟨"FrameSharer", "unmap", "(II)Z"⟩ ⟨"FrameSharer", "unmap", "(II)Z"⟩) := ⟨List.mem_of_getElem? (i := 296) rfl, rfl⟩
theorem gh_297 : gH (Cond.code ⟨"FrameSharer", "unmap", "(II)Z"⟩ prog_1_method_6_code 5 (some FieldType.boolean)) := ⟨List.mem_of_getElem? (i := 297) rfl, rfl⟩
theorem gh_298 : gH (Cond.methodLink "FrameSharerLaw" 93 ⟨"FrameSharerLaw", "read", "(LFrameSharer;II[J)I"⟩) := ⟨List.mem_of_getElem? (i := 298) rfl, rfl⟩
theorem gh_299 : gH (Cond.static ⟨"FrameSharerLaw", "read", "(LFrameSharer;II[J)I"⟩) := ⟨List.mem_of_getElem? (i := 299) rfl, rfl⟩
theorem gh_300 : gH (Cond.codeWith ⟨"FrameSharerLaw", "read", "(LFrameSharer;II[J)I"⟩ method_7_code 5 (some FieldType.int) [(0, 10, 13, 22), (0, 10, 17, 13)]) := ⟨List.mem_of_getElem? (i := 300) rfl, rfl⟩
theorem gh_301 : gH (Cond.methodLink "FrameSharerLaw" 30 ⟨"FrameSharer", "read", "(II)I"⟩) := ⟨List.mem_of_getElem? (i := 301) rfl, rfl⟩
theorem gh_302 : gH (Cond.instanceMethod ⟨"FrameSharer", "read", "(II)I"⟩) := ⟨List.mem_of_getElem? (i := 302) rfl, rfl⟩
theorem gh_303 : gH (Cond.selects "FrameSharer" ⟨"FrameSharer", "read", "(II)I"⟩ ⟨"FrameSharer", "read", "(II)I"⟩) := ⟨List.mem_of_getElem? (i := 303) rfl, rfl⟩
theorem gh_304 : gH (Cond.code ⟨"FrameSharer", "read", "(II)I"⟩ prog_1_method_7_code 4 (some FieldType.int)) := ⟨List.mem_of_getElem? (i := 304) rfl, rfl⟩
theorem gh_305 : gH (Cond.methodLink "FrameSharer" 80 ⟨"FrameSharer", "needHolderAt", "(II)I"⟩) := ⟨List.mem_of_getElem? (i := 305) rfl, rfl⟩
theorem gh_307 : gH (Cond.instanceMethod ⟨"FrameSharer", "needHolderAt", "(II)I"⟩) := ⟨List.mem_of_getElem? (i := 307) rfl, rfl⟩
theorem gh_308 : gH (Cond.code ⟨"FrameSharer", "needHolderAt", "(II)I"⟩ prog_1_method_22_code 4 (some FieldType.int)) := ⟨List.mem_of_getElem? (i := 308) rfl, rfl⟩
theorem gh_311 : gH (Cond.methodLink "FrameSharer" 83 ⟨"FrameSharer", "cellIndex", "(II)I"⟩) := ⟨List.mem_of_getElem? (i := 311) rfl, rfl⟩
theorem gh_312 : gH (Cond.static ⟨"FrameSharer", "cellIndex", "(II)I"⟩) := ⟨List.mem_of_getElem? (i := 312) rfl, rfl⟩
theorem gh_313 : gH (Cond.code ⟨"FrameSharer", "cellIndex", "(II)I"⟩ prog_1_method_41_code 2 (some FieldType.int)) := ⟨List.mem_of_getElem? (i := 313) rfl, rfl⟩
theorem gh_314 : gH (Cond.methodLink "FrameSharerLaw" 96 ⟨"FrameSharerLaw", "write", "(LFrameSharer;III[J)I"⟩) := ⟨List.mem_of_getElem? (i := 314) rfl, rfl⟩
theorem gh_315 : gH (Cond.static ⟨"FrameSharerLaw", "write", "(LFrameSharer;III[J)I"⟩) := ⟨List.mem_of_getElem? (i := 315) rfl, rfl⟩
theorem gh_316 : gH (Cond.codeWith ⟨"FrameSharerLaw", "write", "(LFrameSharer;III[J)I"⟩ method_8_code 6 (some FieldType.int) [(0, 12, 15, 22), (0, 12, 19, 13), (0, 12, 23, 24)]) := ⟨List.mem_of_getElem? (i := 316) rfl, rfl⟩
theorem gh_317 : gH (Cond.methodLink "FrameSharerLaw" 34 ⟨"FrameSharer", "write", "(III)I"⟩) := ⟨List.mem_of_getElem? (i := 317) rfl, rfl⟩
theorem gh_318 : gH (Cond.instanceMethod ⟨"FrameSharer", "write", "(III)I"⟩) := ⟨List.mem_of_getElem? (i := 318) rfl, rfl⟩
theorem gh_319 : gH (Cond.selects "FrameSharer" ⟨"FrameSharer", "write", "(III)I"⟩ ⟨"FrameSharer", "write", "(III)I"⟩) := ⟨List.mem_of_getElem? (i := 319) rfl, rfl⟩
theorem gh_320 : gH (Cond.code ⟨"FrameSharer", "write", "(III)I"⟩ prog_1_method_8_code 7 (some FieldType.int)) := ⟨List.mem_of_getElem? (i := 320) rfl, rfl⟩
theorem gh_321 : gH (Cond.methodLink "FrameSharer" 86 ⟨"FrameSharer", "needOwnFrame", "(I)I"⟩) := ⟨List.mem_of_getElem? (i := 321) rfl, rfl⟩
theorem gh_323 : gH (Cond.instanceMethod ⟨"FrameSharer", "needOwnFrame", "(I)I"⟩) := ⟨List.mem_of_getElem? (i := 323) rfl, rfl⟩
theorem gh_324 : gH (Cond.code ⟨"FrameSharer", "needOwnFrame", "(I)I"⟩ prog_1_method_24_code 4 (some FieldType.int)) := ⟨List.mem_of_getElem? (i := 324) rfl, rfl⟩
theorem gh_325 : gH (Cond.methodLink "FrameSharer" 150 ⟨"java/lang/System", "arraycopy", "(Ljava/lang/Object;ILjava/lang/Object;II)V"⟩) := ⟨List.mem_of_getElem? (i := 325) rfl, rfl⟩
theorem gh_326 : gH (Cond.static ⟨"java/lang/System", "arraycopy", "(Ljava/lang/Object;ILjava/lang/Object;II)V"⟩) := ⟨List.mem_of_getElem? (i := 326) rfl, rfl⟩
theorem gh_327 : gH (Cond.native ⟨"java/lang/System", "arraycopy", "(Ljava/lang/Object;ILjava/lang/Object;II)V"⟩) := ⟨List.mem_of_getElem? (i := 327) rfl, rfl⟩
theorem gh_328 : gH (Cond.methodLink "FrameSharerLaw" 99 ⟨"FrameSharerLaw", "lend", "(LFrameSharer;IIII[J)I"⟩) := ⟨List.mem_of_getElem? (i := 328) rfl, rfl⟩
theorem gh_329 : gH (Cond.static ⟨"FrameSharerLaw", "lend", "(LFrameSharer;IIII[J)I"⟩) := ⟨List.mem_of_getElem? (i := 329) rfl, rfl⟩
theorem gh_330 : gH (Cond.codeWith ⟨"FrameSharerLaw", "lend", "(LFrameSharer;IIII[J)I"⟩ method_9_code 7 (some FieldType.int) [(0, 21, 24, 13), (0, 21, 28, 22)]) := ⟨List.mem_of_getElem? (i := 330) rfl, rfl⟩
theorem gh_331 : gH (Cond.methodLink "FrameSharerLaw" 38 ⟨"FrameSharer", "lend", "(IIII)Z"⟩) := ⟨List.mem_of_getElem? (i := 331) rfl, rfl⟩
theorem gh_332 : gH (Cond.instanceMethod ⟨"FrameSharer", "lend", "(IIII)Z"⟩) := ⟨List.mem_of_getElem? (i := 332) rfl, rfl⟩
theorem gh_333 : gH (Cond.selects "FrameSharer" ⟨"FrameSharer", "lend", "(IIII)Z"⟩ ⟨"FrameSharer", "lend", "(IIII)Z"⟩) := ⟨List.mem_of_getElem? (i := 333) rfl, rfl⟩
theorem gh_334 : gH (Cond.code ⟨"FrameSharer", "lend", "(IIII)Z"⟩ prog_1_method_9_code 8 (some FieldType.boolean)) := ⟨List.mem_of_getElem? (i := 334) rfl, rfl⟩
theorem gh_335 : gH (Cond.methodLink "FrameSharer" 89 ⟨"FrameSharer", "needTwoPages", "(IIII)V"⟩) := ⟨List.mem_of_getElem? (i := 335) rfl, rfl⟩
theorem gh_337 : gH (Cond.instanceMethod ⟨"FrameSharer", "needTwoPages", "(IIII)V"⟩) := ⟨List.mem_of_getElem? (i := 337) rfl, rfl⟩
theorem gh_338 : gH (Cond.code ⟨"FrameSharer", "needTwoPages", "(IIII)V"⟩ prog_1_method_20_code 5 none) := ⟨List.mem_of_getElem? (i := 338) rfl, rfl⟩
theorem gh_339 : gH (Cond.methodLink "FrameSharerLaw" 103 ⟨"FrameSharerLaw", "join", "(LFrameSharer;IIII[J)I"⟩) := ⟨List.mem_of_getElem? (i := 339) rfl, rfl⟩
theorem gh_340 : gH (Cond.static ⟨"FrameSharerLaw", "join", "(LFrameSharer;IIII[J)I"⟩) := ⟨List.mem_of_getElem? (i := 340) rfl, rfl⟩
theorem gh_341 : gH (Cond.codeWith ⟨"FrameSharerLaw", "join", "(LFrameSharer;IIII[J)I"⟩ method_10_code 7 (some FieldType.int) [(0, 14, 17, 13), (0, 14, 21, 22)]) := ⟨List.mem_of_getElem? (i := 341) rfl, rfl⟩
theorem gh_342 : gH (Cond.methodLink "FrameSharerLaw" 42 ⟨"FrameSharer", "join", "(IIII)I"⟩) := ⟨List.mem_of_getElem? (i := 342) rfl, rfl⟩
theorem gh_343 : gH (Cond.instanceMethod ⟨"FrameSharer", "join", "(IIII)I"⟩) := ⟨List.mem_of_getElem? (i := 343) rfl, rfl⟩
theorem gh_344 : gH (Cond.selects "FrameSharer" ⟨"FrameSharer", "join", "(IIII)I"⟩ ⟨"FrameSharer", "join", "(IIII)I"⟩) := ⟨List.mem_of_getElem? (i := 344) rfl, rfl⟩
theorem gh_345 : gH (Cond.code ⟨"FrameSharer", "join", "(IIII)I"⟩ prog_1_method_10_code 8 (some FieldType.int)) := ⟨List.mem_of_getElem? (i := 345) rfl, rfl⟩
theorem gh_346 : gH (Cond.methodLink "FrameSharer" 93 ⟨"FrameSharer", "haveSameCells", "(II)Z"⟩) := ⟨List.mem_of_getElem? (i := 346) rfl, rfl⟩
theorem gh_348 : gH (Cond.instanceMethod ⟨"FrameSharer", "haveSameCells", "(II)Z"⟩) := ⟨List.mem_of_getElem? (i := 348) rfl, rfl⟩
theorem gh_349 : gH (Cond.code ⟨"FrameSharer", "haveSameCells", "(II)Z"⟩ prog_1_method_30_code 4 (some FieldType.boolean)) := ⟨List.mem_of_getElem? (i := 349) rfl, rfl⟩
theorem gh_350 : gH (Cond.methodLink "FrameSharer" 97 ⟨"FrameSharer", "moveHolders", "(II)V"⟩) := ⟨List.mem_of_getElem? (i := 350) rfl, rfl⟩
theorem gh_352 : gH (Cond.instanceMethod ⟨"FrameSharer", "moveHolders", "(II)V"⟩) := ⟨List.mem_of_getElem? (i := 352) rfl, rfl⟩
theorem gh_353 : gH (Cond.code ⟨"FrameSharer", "moveHolders", "(II)V"⟩ prog_1_method_26_code 4 none) := ⟨List.mem_of_getElem? (i := 353) rfl, rfl⟩
theorem gh_354 : gH (Cond.methodLink "FrameSharerLaw" 110 ⟨"FrameSharerLaw", "back", "(LFrameSharer;I[J)I"⟩) := ⟨List.mem_of_getElem? (i := 354) rfl, rfl⟩
theorem gh_355 : gH (Cond.static ⟨"FrameSharerLaw", "back", "(LFrameSharer;I[J)I"⟩) := ⟨List.mem_of_getElem? (i := 355) rfl, rfl⟩
theorem gh_356 : gH (Cond.codeWith ⟨"FrameSharerLaw", "back", "(LFrameSharer;I[J)I"⟩ method_11_code 4 (some FieldType.int) [(0, 9, 12, 13)]) := ⟨List.mem_of_getElem? (i := 356) rfl, rfl⟩
theorem gh_357 : gH (Cond.methodLink "FrameSharerLaw" 46 ⟨"FrameSharer", "back", "(I)I"⟩) := ⟨List.mem_of_getElem? (i := 357) rfl, rfl⟩
theorem gh_358 : gH (Cond.instanceMethod ⟨"FrameSharer", "back", "(I)I"⟩) := ⟨List.mem_of_getElem? (i := 358) rfl, rfl⟩
theorem gh_359 : gH (Cond.selects "FrameSharer" ⟨"FrameSharer", "back", "(I)I"⟩ ⟨"FrameSharer", "back", "(I)I"⟩) := ⟨List.mem_of_getElem? (i := 359) rfl, rfl⟩
theorem gh_360 : gH (Cond.code ⟨"FrameSharer", "back", "(I)I"⟩ prog_1_method_12_code 2 (some FieldType.int)) := ⟨List.mem_of_getElem? (i := 360) rfl, rfl⟩
theorem gh_361 : gH (Cond.methodLink "FrameSharer" 106 ⟨"FrameSharer", "needPicture", "(I)V"⟩) := ⟨List.mem_of_getElem? (i := 361) rfl, rfl⟩
theorem gh_363 : gH (Cond.instanceMethod ⟨"FrameSharer", "needPicture", "(I)V"⟩) := ⟨List.mem_of_getElem? (i := 363) rfl, rfl⟩
theorem gh_364 : gH (Cond.code ⟨"FrameSharer", "needPicture", "(I)V"⟩ prog_1_method_21_code 2 none) := ⟨List.mem_of_getElem? (i := 364) rfl, rfl⟩
theorem gh_366 : gH (Cond.methodLink "FrameSharerLaw" 113 ⟨"FrameSharerLaw", "drop", "(LFrameSharer;I[J)I"⟩) := ⟨List.mem_of_getElem? (i := 366) rfl, rfl⟩
theorem gh_367 : gH (Cond.static ⟨"FrameSharerLaw", "drop", "(LFrameSharer;I[J)I"⟩) := ⟨List.mem_of_getElem? (i := 367) rfl, rfl⟩
theorem gh_368 : gH (Cond.codeWith ⟨"FrameSharerLaw", "drop", "(LFrameSharer;I[J)I"⟩ method_12_code 4 (some FieldType.int) [(0, 9, 12, 13)]) := ⟨List.mem_of_getElem? (i := 368) rfl, rfl⟩
theorem gh_369 : gH (Cond.methodLink "FrameSharerLaw" 49 ⟨"FrameSharer", "drop", "(I)I"⟩) := ⟨List.mem_of_getElem? (i := 369) rfl, rfl⟩
theorem gh_370 : gH (Cond.instanceMethod ⟨"FrameSharer", "drop", "(I)I"⟩) := ⟨List.mem_of_getElem? (i := 370) rfl, rfl⟩
theorem gh_371 : gH (Cond.selects "FrameSharer" ⟨"FrameSharer", "drop", "(I)I"⟩ ⟨"FrameSharer", "drop", "(I)I"⟩) := ⟨List.mem_of_getElem? (i := 371) rfl, rfl⟩
theorem gh_372 : gH (Cond.code ⟨"FrameSharer", "drop", "(I)I"⟩ prog_1_method_13_code 3 (some FieldType.int)) := ⟨List.mem_of_getElem? (i := 372) rfl, rfl⟩
theorem gh_373 : gH (Cond.methodLink "FrameSharer" 115 ⟨"FrameSharer", "clearRow", "(I)V"⟩) := ⟨List.mem_of_getElem? (i := 373) rfl, rfl⟩
theorem gh_375 : gH (Cond.instanceMethod ⟨"FrameSharer", "clearRow", "(I)V"⟩) := ⟨List.mem_of_getElem? (i := 375) rfl, rfl⟩
theorem gh_376 : gH (Cond.code ⟨"FrameSharer", "clearRow", "(I)V"⟩ prog_1_method_28_code 3 none) := ⟨List.mem_of_getElem? (i := 376) rfl, rfl⟩
theorem gh_377 : gH (Cond.methodLink "FrameSharerLaw" 116 ⟨"FrameSharerLaw", "holders", "(LFrameSharer;II[J)I"⟩) := ⟨List.mem_of_getElem? (i := 377) rfl, rfl⟩
theorem gh_378 : gH (Cond.static ⟨"FrameSharerLaw", "holders", "(LFrameSharer;II[J)I"⟩) := ⟨List.mem_of_getElem? (i := 378) rfl, rfl⟩
theorem gh_379 : gH (Cond.codeWith ⟨"FrameSharerLaw", "holders", "(LFrameSharer;II[J)I"⟩ method_13_code 5 (some FieldType.int) [(0, 10, 13, 13), (0, 10, 17, 22)]) := ⟨List.mem_of_getElem? (i := 379) rfl, rfl⟩
set_option maxRecDepth 100000 in
theorem gh_380 : gH (Cond.methodLink "FrameSharerLaw" 52 ⟨"FrameSharer", "holders", "(II)I"⟩) := ⟨List.mem_of_getElem? (i := 380) rfl, rfl⟩
set_option maxRecDepth 100000 in
theorem gh_381 : gH (Cond.instanceMethod ⟨"FrameSharer", "holders", "(II)I"⟩) := ⟨List.mem_of_getElem? (i := 381) rfl, rfl⟩
set_option maxRecDepth 100000 in
theorem gh_382 : gH (Cond.selects "FrameSharer" ⟨"FrameSharer", "holders", "(II)I"⟩ ⟨"FrameSharer", "holders", "(II)I"⟩) := ⟨List.mem_of_getElem? (i := 382) rfl, rfl⟩
set_option maxRecDepth 100000 in
theorem gh_383 : gH (Cond.code ⟨"FrameSharer", "holders", "(II)I"⟩ prog_1_method_14_code 4 (some FieldType.int)) := ⟨List.mem_of_getElem? (i := 383) rfl, rfl⟩
set_option maxRecDepth 100000 in
theorem gh_384 : gH (Cond.methodLink "FrameSharerLaw" 119 ⟨"FrameSharerLaw", "changed", "(LFrameSharer;I[J)I"⟩) := ⟨List.mem_of_getElem? (i := 384) rfl, rfl⟩
set_option maxRecDepth 100000 in
theorem gh_385 : gH (Cond.static ⟨"FrameSharerLaw", "changed", "(LFrameSharer;I[J)I"⟩) := ⟨List.mem_of_getElem? (i := 385) rfl, rfl⟩
set_option maxRecDepth 100000 in
theorem gh_386 : gH (Cond.codeWith ⟨"FrameSharerLaw", "changed", "(LFrameSharer;I[J)I"⟩ method_14_code 4 (some FieldType.int) [(0, 9, 12, 13)]) := ⟨List.mem_of_getElem? (i := 386) rfl, rfl⟩
set_option maxRecDepth 100000 in
theorem gh_387 : gH (Cond.methodLink "FrameSharerLaw" 55 ⟨"FrameSharer", "changed", "(I)I"⟩) := ⟨List.mem_of_getElem? (i := 387) rfl, rfl⟩
set_option maxRecDepth 100000 in
theorem gh_388 : gH (Cond.instanceMethod ⟨"FrameSharer", "changed", "(I)I"⟩) := ⟨List.mem_of_getElem? (i := 388) rfl, rfl⟩
set_option maxRecDepth 100000 in
theorem gh_389 : gH (Cond.selects "FrameSharer" ⟨"FrameSharer", "changed", "(I)I"⟩ ⟨"FrameSharer", "changed", "(I)I"⟩) := ⟨List.mem_of_getElem? (i := 389) rfl, rfl⟩
set_option maxRecDepth 100000 in
theorem gh_390 : gH (Cond.code ⟨"FrameSharer", "changed", "(I)I"⟩ prog_1_method_15_code 4 (some FieldType.int)) := ⟨List.mem_of_getElem? (i := 390) rfl, rfl⟩
set_option maxRecDepth 100000 in
theorem gh_391 : gH (Cond.classLink "FrameSharerLaw" 67 "FrameSharerModel") := ⟨List.mem_of_getElem? (i := 391) rfl, rfl⟩
set_option maxRecDepth 100000 in
theorem gh_392 : gH (Cond.instantiable "FrameSharerModel" 7) := ⟨List.mem_of_getElem? (i := 392) rfl, rfl⟩
set_option maxRecDepth 100000 in
theorem gh_393 : gH (Cond.methodLink "FrameSharerLaw" 69 ⟨"FrameSharerModel", "<init>", "(I)V"⟩) := ⟨List.mem_of_getElem? (i := 393) rfl, rfl⟩
set_option maxRecDepth 100000 in
theorem gh_394 : gH (Cond.instanceMethod ⟨"FrameSharerModel", "<init>", "(I)V"⟩) := ⟨List.mem_of_getElem? (i := 394) rfl, rfl⟩
set_option maxRecDepth 100000 in
theorem gh_395 : gH (Cond.code ⟨"FrameSharerModel", "<init>", "(I)V"⟩ prog_3_method_1_code 2 none) := ⟨List.mem_of_getElem? (i := 395) rfl, rfl⟩
set_option maxRecDepth 100000 in
theorem gh_396 : gH (Cond.methodLink "FrameSharerModel" 1 ⟨"java/lang/Object", "<init>", "()V"⟩) := ⟨List.mem_of_getElem? (i := 396) rfl, rfl⟩
set_option maxRecDepth 100000 in
theorem gh_397 : gH (Cond.fieldLink "FrameSharerModel" 27 "FrameSharerModel" "code" "I") := ⟨List.mem_of_getElem? (i := 397) rfl, rfl⟩
set_option maxRecDepth 100000 in
theorem gh_398 : gH (Cond.fieldLink "FrameSharerModel" 23 "FrameSharerModel" "frames" "I") := ⟨List.mem_of_getElem? (i := 398) rfl, rfl⟩
set_option maxRecDepth 100000 in
theorem gh_399 : gH (Cond.fieldLink "FrameSharerModel" 63 "FrameSharerModel" "stamps" "I") := ⟨List.mem_of_getElem? (i := 399) rfl, rfl⟩
set_option maxRecDepth 100000 in
theorem gh_400 : gH (Cond.fieldLink "FrameSharerModel" 7 "FrameSharerModel" "pictured" "[Z") := ⟨List.mem_of_getElem? (i := 400) rfl, rfl⟩
set_option maxRecDepth 100000 in
theorem gh_401 : gH (Cond.fieldLink "FrameSharerModel" 13 "FrameSharerModel" "there" "[Z") := ⟨List.mem_of_getElem? (i := 401) rfl, rfl⟩
set_option maxRecDepth 100000 in
theorem gh_402 : gH (Cond.fieldLink "FrameSharerModel" 16 "FrameSharerModel" "stamp" "[I") := ⟨List.mem_of_getElem? (i := 402) rfl, rfl⟩
set_option maxRecDepth 100000 in
theorem gh_403 : gH (Cond.fieldLink "FrameSharerModel" 20 "FrameSharerModel" "cells" "[I") := ⟨List.mem_of_getElem? (i := 403) rfl, rfl⟩
set_option maxRecDepth 100000 in
theorem gh_404 : gH (Cond.lays "FrameSharerModel" "FrameSharerModel" "code" "I") := ⟨List.mem_of_getElem? (i := 404) rfl, rfl⟩
set_option maxRecDepth 100000 in
theorem gh_406 : gH (Cond.laysFinal "FrameSharerModel" "FrameSharerModel" "frames" "I") := ⟨List.mem_of_getElem? (i := 406) rfl, rfl⟩
set_option maxRecDepth 100000 in
theorem gh_408 : gH (Cond.lays "FrameSharerModel" "FrameSharerModel" "stamps" "I") := ⟨List.mem_of_getElem? (i := 408) rfl, rfl⟩
set_option maxRecDepth 100000 in
theorem gh_410 : gH (Cond.laysFinal "FrameSharerModel" "FrameSharerModel" "pictured" "[Z") := ⟨List.mem_of_getElem? (i := 410) rfl, rfl⟩
set_option maxRecDepth 100000 in
theorem gh_412 : gH (Cond.laysFinal "FrameSharerModel" "FrameSharerModel" "there" "[Z") := ⟨List.mem_of_getElem? (i := 412) rfl, rfl⟩
set_option maxRecDepth 100000 in
theorem gh_414 : gH (Cond.laysFinal "FrameSharerModel" "FrameSharerModel" "stamp" "[I") := ⟨List.mem_of_getElem? (i := 414) rfl, rfl⟩
set_option maxRecDepth 100000 in
theorem gh_416 : gH (Cond.laysFinal "FrameSharerModel" "FrameSharerModel" "cells" "[I") := ⟨List.mem_of_getElem? (i := 416) rfl, rfl⟩
set_option maxRecDepth 100000 in
theorem gh_418 : gH (Cond.superclass "FrameSharerModel" "java/lang/Object") := ⟨List.mem_of_getElem? (i := 418) rfl, rfl⟩
set_option maxRecDepth 100000 in
theorem gh_419 : gH (Cond.methodLink "FrameSharerLaw" 79 ⟨"FrameSharerModel", "thrown", "()I"⟩) := ⟨List.mem_of_getElem? (i := 419) rfl, rfl⟩
set_option maxRecDepth 100000 in
theorem gh_420 : gH (Cond.instanceMethod ⟨"FrameSharerModel", "thrown", "()I"⟩) := ⟨List.mem_of_getElem? (i := 420) rfl, rfl⟩
set_option maxRecDepth 100000 in
theorem gh_421 : gH (Cond.selects "FrameSharerModel" ⟨"FrameSharerModel", "thrown", "()I"⟩ ⟨"FrameSharerModel", "thrown", "()I"⟩) := ⟨List.mem_of_getElem? (i := 421) rfl, rfl⟩
set_option maxRecDepth 100000 in
theorem gh_422 : gH (Cond.code ⟨"FrameSharerModel", "thrown", "()I"⟩ prog_3_method_2_code 1 (some FieldType.int)) := ⟨List.mem_of_getElem? (i := 422) rfl, rfl⟩
set_option maxRecDepth 100000 in
theorem gh_423 : gH (Cond.methodLink "FrameSharerLaw" 74 ⟨"FrameSharerModel", "open", "()I"⟩) := ⟨List.mem_of_getElem? (i := 423) rfl, rfl⟩
set_option maxRecDepth 100000 in
theorem gh_424 : gH (Cond.instanceMethod ⟨"FrameSharerModel", "open", "()I"⟩) := ⟨List.mem_of_getElem? (i := 424) rfl, rfl⟩
set_option maxRecDepth 100000 in
theorem gh_425 : gH (Cond.selects "FrameSharerModel" ⟨"FrameSharerModel", "open", "()I"⟩ ⟨"FrameSharerModel", "open", "()I"⟩) := ⟨List.mem_of_getElem? (i := 425) rfl, rfl⟩
set_option maxRecDepth 100000 in
theorem gh_426 : gH (Cond.code ⟨"FrameSharerModel", "open", "()I"⟩ prog_3_method_14_code 2 (some FieldType.int)) := ⟨List.mem_of_getElem? (i := 426) rfl, rfl⟩
set_option maxRecDepth 100000 in
theorem gh_427 : gH (Cond.methodLink "FrameSharerModel" 38 ⟨"FrameSharerModel", "free", "()I"⟩) := ⟨List.mem_of_getElem? (i := 427) rfl, rfl⟩
set_option maxRecDepth 100000 in
theorem gh_429 : gH (Cond.instanceMethod ⟨"FrameSharerModel", "free", "()I"⟩) := ⟨List.mem_of_getElem? (i := 429) rfl, rfl⟩
set_option maxRecDepth 100000 in
theorem gh_430 : gH (Cond.code ⟨"FrameSharerModel", "free", "()I"⟩ prog_3_method_12_code 2 (some FieldType.int)) := ⟨List.mem_of_getElem? (i := 430) rfl, rfl⟩
set_option maxRecDepth 100000 in
theorem gh_431 : gH (Cond.methodLink "FrameSharerLaw" 78 ⟨"FrameSharerModel", "fork", "(I)I"⟩) := ⟨List.mem_of_getElem? (i := 431) rfl, rfl⟩
set_option maxRecDepth 100000 in
theorem gh_432 : gH (Cond.instanceMethod ⟨"FrameSharerModel", "fork", "(I)I"⟩) := ⟨List.mem_of_getElem? (i := 432) rfl, rfl⟩
set_option maxRecDepth 100000 in
theorem gh_433 : gH (Cond.selects "FrameSharerModel" ⟨"FrameSharerModel", "fork", "(I)I"⟩ ⟨"FrameSharerModel", "fork", "(I)I"⟩) := ⟨List.mem_of_getElem? (i := 433) rfl, rfl⟩
set_option maxRecDepth 100000 in
theorem gh_434 : gH (Cond.code ⟨"FrameSharerModel", "fork", "(I)I"⟩ prog_3_method_15_code 4 (some FieldType.int)) := ⟨List.mem_of_getElem? (i := 434) rfl, rfl⟩
set_option maxRecDepth 100000 in
theorem gh_435 : gH (Cond.methodLink "FrameSharerModel" 42 ⟨"FrameSharerModel", "isSpace", "(I)Z"⟩) := ⟨List.mem_of_getElem? (i := 435) rfl, rfl⟩
set_option maxRecDepth 100000 in
theorem gh_437 : gH (Cond.instanceMethod ⟨"FrameSharerModel", "isSpace", "(I)Z"⟩) := ⟨List.mem_of_getElem? (i := 437) rfl, rfl⟩
set_option maxRecDepth 100000 in
theorem gh_438 : gH (Cond.code ⟨"FrameSharerModel", "isSpace", "(I)Z"⟩ prog_3_method_4_code 2 (some FieldType.boolean)) := ⟨List.mem_of_getElem? (i := 438) rfl, rfl⟩
set_option maxRecDepth 100000 in
theorem gh_439 : gH (Cond.methodLink "FrameSharerModel" 46 ⟨"FrameSharerModel", "fails", "(ZZZ)Z"⟩) := ⟨List.mem_of_getElem? (i := 439) rfl, rfl⟩
set_option maxRecDepth 100000 in
theorem gh_441 : gH (Cond.instanceMethod ⟨"FrameSharerModel", "fails", "(ZZZ)Z"⟩) := ⟨List.mem_of_getElem? (i := 441) rfl, rfl⟩
set_option maxRecDepth 100000 in
theorem gh_442 : gH (Cond.code ⟨"FrameSharerModel", "fails", "(ZZZ)Z"⟩ prog_3_method_6_code 4 (some FieldType.boolean)) := ⟨List.mem_of_getElem? (i := 442) rfl, rfl⟩
set_option maxRecDepth 100000 in
theorem gh_443 : gH (Cond.methodLink "FrameSharerModel" 34 ⟨"FrameSharerModel", "page", "(III)I"⟩) := ⟨List.mem_of_getElem? (i := 443) rfl, rfl⟩
set_option maxRecDepth 100000 in
theorem gh_444 : gH (Cond.static ⟨"FrameSharerModel", "page", "(III)I"⟩) := ⟨List.mem_of_getElem? (i := 444) rfl, rfl⟩
set_option maxRecDepth 100000 in
theorem gh_445 : gH (Cond.code ⟨"FrameSharerModel", "page", "(III)I"⟩ prog_3_method_3_code 3 (some FieldType.int)) := ⟨List.mem_of_getElem? (i := 445) rfl, rfl⟩
set_option maxRecDepth 100000 in
theorem gh_446 : gH (Cond.methodLink "FrameSharerModel" 30 ⟨"FrameSharerModel", "copyPage", "(II)V"⟩) := ⟨List.mem_of_getElem? (i := 446) rfl, rfl⟩
set_option maxRecDepth 100000 in
theorem gh_448 : gH (Cond.instanceMethod ⟨"FrameSharerModel", "copyPage", "(II)V"⟩) := ⟨List.mem_of_getElem? (i := 448) rfl, rfl⟩
set_option maxRecDepth 100000 in
theorem gh_449 : gH (Cond.code ⟨"FrameSharerModel", "copyPage", "(II)V"⟩ prog_3_method_9_code 4 none) := ⟨List.mem_of_getElem? (i := 449) rfl, rfl⟩
set_option maxRecDepth 100000 in
theorem gh_450 : gH (Cond.methodLink "FrameSharerLaw" 84 ⟨"FrameSharerModel", "close", "(I)I"⟩) := ⟨List.mem_of_getElem? (i := 450) rfl, rfl⟩
set_option maxRecDepth 100000 in
theorem gh_451 : gH (Cond.instanceMethod ⟨"FrameSharerModel", "close", "(I)I"⟩) := ⟨List.mem_of_getElem? (i := 451) rfl, rfl⟩
set_option maxRecDepth 100000 in
theorem gh_452 : gH (Cond.selects "FrameSharerModel" ⟨"FrameSharerModel", "close", "(I)I"⟩ ⟨"FrameSharerModel", "close", "(I)I"⟩) := ⟨List.mem_of_getElem? (i := 452) rfl, rfl⟩
set_option maxRecDepth 100000 in
theorem gh_453 : gH (Cond.code ⟨"FrameSharerModel", "close", "(I)I"⟩ prog_3_method_16_code 3 (some FieldType.int)) := ⟨List.mem_of_getElem? (i := 453) rfl, rfl⟩
set_option maxRecDepth 100000 in
theorem gh_454 : gH (Cond.methodLink "FrameSharerModel" 50 ⟨"FrameSharerModel", "pagesOf", "(I)I"⟩) := ⟨List.mem_of_getElem? (i := 454) rfl, rfl⟩
set_option maxRecDepth 100000 in
theorem gh_456 : gH (Cond.instanceMethod ⟨"FrameSharerModel", "pagesOf", "(I)I"⟩) := ⟨List.mem_of_getElem? (i := 456) rfl, rfl⟩
set_option maxRecDepth 100000 in
theorem gh_457 : gH (Cond.code ⟨"FrameSharerModel", "pagesOf", "(I)I"⟩ prog_3_method_13_code 4 (some FieldType.int)) := ⟨List.mem_of_getElem? (i := 457) rfl, rfl⟩
set_option maxRecDepth 100000 in
theorem gh_458 : gH (Cond.methodLink "FrameSharerModel" 54 ⟨"FrameSharerModel", "empty", "(II)V"⟩) := ⟨List.mem_of_getElem? (i := 458) rfl, rfl⟩
set_option maxRecDepth 100000 in
theorem gh_460 : gH (Cond.instanceMethod ⟨"FrameSharerModel", "empty", "(II)V"⟩) := ⟨List.mem_of_getElem? (i := 460) rfl, rfl⟩
set_option maxRecDepth 100000 in
theorem gh_461 : gH (Cond.code ⟨"FrameSharerModel", "empty", "(II)V"⟩ prog_3_method_11_code 4 none) := ⟨List.mem_of_getElem? (i := 461) rfl, rfl⟩
set_option maxRecDepth 100000 in
theorem gh_462 : gH (Cond.methodLink "FrameSharerLaw" 88 ⟨"FrameSharerModel", "map", "(III)Z"⟩) := ⟨List.mem_of_getElem? (i := 462) rfl, rfl⟩
set_option maxRecDepth 100000 in
theorem gh_463 : gH (Cond.instanceMethod ⟨"FrameSharerModel", "map", "(III)Z"⟩) := ⟨List.mem_of_getElem? (i := 463) rfl, rfl⟩
set_option maxRecDepth 100000 in
theorem gh_464 : gH (Cond.selects "FrameSharerModel" ⟨"FrameSharerModel", "map", "(III)Z"⟩ ⟨"FrameSharerModel", "map", "(III)Z"⟩) := ⟨List.mem_of_getElem? (i := 464) rfl, rfl⟩
set_option maxRecDepth 100000 in
theorem gh_465 : gH (Cond.code ⟨"FrameSharerModel", "map", "(III)Z"⟩ prog_3_method_17_code 7 (some FieldType.boolean)) := ⟨List.mem_of_getElem? (i := 465) rfl, rfl⟩
set_option maxRecDepth 100000 in
theorem gh_466 : gH (Cond.methodLink "FrameSharerModel" 57 ⟨"FrameSharerModel", "isPage", "(I)Z"⟩) := ⟨List.mem_of_getElem? (i := 466) rfl, rfl⟩
set_option maxRecDepth 100000 in
theorem gh_467 : gH (Cond.static ⟨"FrameSharerModel", "isPage", "(I)Z"⟩) := ⟨List.mem_of_getElem? (i := 467) rfl, rfl⟩
set_option maxRecDepth 100000 in
theorem gh_468 : gH (Cond.code ⟨"FrameSharerModel", "isPage", "(I)Z"⟩ prog_3_method_5_code 1 (some FieldType.boolean)) := ⟨List.mem_of_getElem? (i := 468) rfl, rfl⟩
set_option maxRecDepth 100000 in
theorem gh_469 : gH (Cond.methodLink "FrameSharerModel" 60 ⟨"FrameSharerModel", "used", "()I"⟩) := ⟨List.mem_of_getElem? (i := 469) rfl, rfl⟩
set_option maxRecDepth 100000 in
theorem gh_471 : gH (Cond.instanceMethod ⟨"FrameSharerModel", "used", "()I"⟩) := ⟨List.mem_of_getElem? (i := 471) rfl, rfl⟩
set_option maxRecDepth 100000 in
theorem gh_472 : gH (Cond.code ⟨"FrameSharerModel", "used", "()I"⟩ prog_3_method_8_code 5 (some FieldType.int)) := ⟨List.mem_of_getElem? (i := 472) rfl, rfl⟩
set_option maxRecDepth 100000 in
theorem gh_473 : gH (Cond.methodLink "FrameSharerLaw" 92 ⟨"FrameSharerModel", "unmap", "(II)Z"⟩) := ⟨List.mem_of_getElem? (i := 473) rfl, rfl⟩
set_option maxRecDepth 100000 in
theorem gh_474 : gH (Cond.instanceMethod ⟨"FrameSharerModel", "unmap", "(II)Z"⟩) := ⟨List.mem_of_getElem? (i := 474) rfl, rfl⟩
set_option maxRecDepth 100000 in
theorem gh_475 : gH (Cond.selects "FrameSharerModel" ⟨"FrameSharerModel", "unmap", "(II)Z"⟩ ⟨"FrameSharerModel", "unmap", "(II)Z"⟩) := ⟨List.mem_of_getElem? (i := 475) rfl, rfl⟩
set_option maxRecDepth 100000 in
theorem gh_476 : gH (Cond.code ⟨"FrameSharerModel", "unmap", "(II)Z"⟩ prog_3_method_18_code 5 (some FieldType.boolean)) := ⟨List.mem_of_getElem? (i := 476) rfl, rfl⟩
set_option maxRecDepth 100000 in
theorem gh_477 : gH (Cond.methodLink "FrameSharerLaw" 95 ⟨"FrameSharerModel", "read", "(II)I"⟩) := ⟨List.mem_of_getElem? (i := 477) rfl, rfl⟩
set_option maxRecDepth 100000 in
theorem gh_478 : gH (Cond.instanceMethod ⟨"FrameSharerModel", "read", "(II)I"⟩) := ⟨List.mem_of_getElem? (i := 478) rfl, rfl⟩
set_option maxRecDepth 100000 in
theorem gh_479 : gH (Cond.selects "FrameSharerModel" ⟨"FrameSharerModel", "read", "(II)I"⟩ ⟨"FrameSharerModel", "read", "(II)I"⟩) := ⟨List.mem_of_getElem? (i := 479) rfl, rfl⟩
set_option maxRecDepth 100000 in
theorem gh_480 : gH (Cond.code ⟨"FrameSharerModel", "read", "(II)I"⟩ prog_3_method_20_code 4 (some FieldType.int)) := ⟨List.mem_of_getElem? (i := 480) rfl, rfl⟩
set_option maxRecDepth 100000 in
theorem gh_481 : gH (Cond.methodLink "FrameSharerModel" 66 ⟨"FrameSharerModel", "cell", "(II)I"⟩) := ⟨List.mem_of_getElem? (i := 481) rfl, rfl⟩
set_option maxRecDepth 100000 in
theorem gh_483 : gH (Cond.instanceMethod ⟨"FrameSharerModel", "cell", "(II)I"⟩) := ⟨List.mem_of_getElem? (i := 483) rfl, rfl⟩
set_option maxRecDepth 100000 in
theorem gh_484 : gH (Cond.code ⟨"FrameSharerModel", "cell", "(II)I"⟩ prog_3_method_19_code 6 (some FieldType.int)) := ⟨List.mem_of_getElem? (i := 484) rfl, rfl⟩
set_option maxRecDepth 100000 in
theorem gh_485 : gH (Cond.methodLink "FrameSharerLaw" 98 ⟨"FrameSharerModel", "write", "(III)I"⟩) := ⟨List.mem_of_getElem? (i := 485) rfl, rfl⟩
set_option maxRecDepth 100000 in
theorem gh_486 : gH (Cond.instanceMethod ⟨"FrameSharerModel", "write", "(III)I"⟩) := ⟨List.mem_of_getElem? (i := 486) rfl, rfl⟩
set_option maxRecDepth 100000 in
theorem gh_487 : gH (Cond.selects "FrameSharerModel" ⟨"FrameSharerModel", "write", "(III)I"⟩ ⟨"FrameSharerModel", "write", "(III)I"⟩) := ⟨List.mem_of_getElem? (i := 487) rfl, rfl⟩
set_option maxRecDepth 100000 in
theorem gh_488 : gH (Cond.code ⟨"FrameSharerModel", "write", "(III)I"⟩ prog_3_method_21_code 8 (some FieldType.int)) := ⟨List.mem_of_getElem? (i := 488) rfl, rfl⟩
set_option maxRecDepth 100000 in
theorem gh_489 : gH (Cond.methodLink "FrameSharerModel" 70 ⟨"FrameSharerModel", "holdersOf", "(I)I"⟩) := ⟨List.mem_of_getElem? (i := 489) rfl, rfl⟩
set_option maxRecDepth 100000 in
theorem gh_491 : gH (Cond.instanceMethod ⟨"FrameSharerModel", "holdersOf", "(I)I"⟩) := ⟨List.mem_of_getElem? (i := 491) rfl, rfl⟩
set_option maxRecDepth 100000 in
theorem gh_492 : gH (Cond.code ⟨"FrameSharerModel", "holdersOf", "(I)I"⟩ prog_3_method_7_code 4 (some FieldType.int)) := ⟨List.mem_of_getElem? (i := 492) rfl, rfl⟩
set_option maxRecDepth 100000 in
theorem gh_493 : gH (Cond.methodLink "FrameSharerLaw" 102 ⟨"FrameSharerModel", "lend", "(IIII)Z"⟩) := ⟨List.mem_of_getElem? (i := 493) rfl, rfl⟩
set_option maxRecDepth 100000 in
theorem gh_494 : gH (Cond.instanceMethod ⟨"FrameSharerModel", "lend", "(IIII)Z"⟩) := ⟨List.mem_of_getElem? (i := 494) rfl, rfl⟩
set_option maxRecDepth 100000 in
theorem gh_495 : gH (Cond.selects "FrameSharerModel" ⟨"FrameSharerModel", "lend", "(IIII)Z"⟩ ⟨"FrameSharerModel", "lend", "(IIII)Z"⟩) := ⟨List.mem_of_getElem? (i := 495) rfl, rfl⟩
set_option maxRecDepth 100000 in
theorem gh_496 : gH (Cond.code ⟨"FrameSharerModel", "lend", "(IIII)Z"⟩ prog_3_method_23_code 7 (some FieldType.boolean)) := ⟨List.mem_of_getElem? (i := 496) rfl, rfl⟩
set_option maxRecDepth 100000 in
theorem gh_497 : gH (Cond.methodLink "FrameSharerModel" 73 ⟨"FrameSharerModel", "areFaulty", "(IIII)Z"⟩) := ⟨List.mem_of_getElem? (i := 497) rfl, rfl⟩
set_option maxRecDepth 100000 in
theorem gh_499 : gH (Cond.instanceMethod ⟨"FrameSharerModel", "areFaulty", "(IIII)Z"⟩) := ⟨List.mem_of_getElem? (i := 499) rfl, rfl⟩
set_option maxRecDepth 100000 in
theorem gh_500 : gH (Cond.code ⟨"FrameSharerModel", "areFaulty", "(IIII)Z"⟩ prog_3_method_22_code 5 (some FieldType.boolean)) := ⟨List.mem_of_getElem? (i := 500) rfl, rfl⟩
set_option maxRecDepth 100000 in
theorem gh_501 : gH (Cond.methodLink "FrameSharerLaw" 105 ⟨"FrameSharerModel", "join", "(IIII)I"⟩) := ⟨List.mem_of_getElem? (i := 501) rfl, rfl⟩
set_option maxRecDepth 100000 in
theorem gh_502 : gH (Cond.instanceMethod ⟨"FrameSharerModel", "join", "(IIII)I"⟩) := ⟨List.mem_of_getElem? (i := 502) rfl, rfl⟩
set_option maxRecDepth 100000 in
theorem gh_503 : gH (Cond.selects "FrameSharerModel" ⟨"FrameSharerModel", "join", "(IIII)I"⟩ ⟨"FrameSharerModel", "join", "(IIII)I"⟩) := ⟨List.mem_of_getElem? (i := 503) rfl, rfl⟩
set_option maxRecDepth 100000 in
theorem gh_504 : gH (Cond.code ⟨"FrameSharerModel", "join", "(IIII)I"⟩ prog_3_method_24_code 11 (some FieldType.int)) := ⟨List.mem_of_getElem? (i := 504) rfl, rfl⟩
set_option maxRecDepth 100000 in
theorem gh_505 : gH (Cond.methodLink "FrameSharerLaw" 109 ⟨"FrameSharerModel", "take", "()I"⟩) := ⟨List.mem_of_getElem? (i := 505) rfl, rfl⟩
set_option maxRecDepth 100000 in
theorem gh_506 : gH (Cond.instanceMethod ⟨"FrameSharerModel", "take", "()I"⟩) := ⟨List.mem_of_getElem? (i := 506) rfl, rfl⟩
set_option maxRecDepth 100000 in
theorem gh_507 : gH (Cond.selects "FrameSharerModel" ⟨"FrameSharerModel", "take", "()I"⟩ ⟨"FrameSharerModel", "take", "()I"⟩) := ⟨List.mem_of_getElem? (i := 507) rfl, rfl⟩
set_option maxRecDepth 100000 in
theorem gh_508 : gH (Cond.code ⟨"FrameSharerModel", "take", "()I"⟩ prog_3_method_25_code 2 (some FieldType.int)) := ⟨List.mem_of_getElem? (i := 508) rfl, rfl⟩
set_option maxRecDepth 100000 in
theorem gh_509 : gH (Cond.methodLink "FrameSharerModel" 77 ⟨"FrameSharerModel", "copyRow", "(II)V"⟩) := ⟨List.mem_of_getElem? (i := 509) rfl, rfl⟩
set_option maxRecDepth 100000 in
theorem gh_511 : gH (Cond.instanceMethod ⟨"FrameSharerModel", "copyRow", "(II)V"⟩) := ⟨List.mem_of_getElem? (i := 511) rfl, rfl⟩
set_option maxRecDepth 100000 in
theorem gh_512 : gH (Cond.code ⟨"FrameSharerModel", "copyRow", "(II)V"⟩ prog_3_method_10_code 4 none) := ⟨List.mem_of_getElem? (i := 512) rfl, rfl⟩
set_option maxRecDepth 100000 in
theorem gh_513 : gH (Cond.methodLink "FrameSharerLaw" 112 ⟨"FrameSharerModel", "back", "(I)I"⟩) := ⟨List.mem_of_getElem? (i := 513) rfl, rfl⟩
set_option maxRecDepth 100000 in
theorem gh_514 : gH (Cond.instanceMethod ⟨"FrameSharerModel", "back", "(I)I"⟩) := ⟨List.mem_of_getElem? (i := 514) rfl, rfl⟩
set_option maxRecDepth 100000 in
theorem gh_515 : gH (Cond.selects "FrameSharerModel" ⟨"FrameSharerModel", "back", "(I)I"⟩ ⟨"FrameSharerModel", "back", "(I)I"⟩) := ⟨List.mem_of_getElem? (i := 515) rfl, rfl⟩
set_option maxRecDepth 100000 in
theorem gh_516 : gH (Cond.code ⟨"FrameSharerModel", "back", "(I)I"⟩ prog_3_method_28_code 2 (some FieldType.int)) := ⟨List.mem_of_getElem? (i := 516) rfl, rfl⟩
set_option maxRecDepth 100000 in
theorem gh_517 : gH (Cond.methodLink "FrameSharerModel" 80 ⟨"FrameSharerModel", "isPicture", "(I)Z"⟩) := ⟨List.mem_of_getElem? (i := 517) rfl, rfl⟩
set_option maxRecDepth 100000 in
theorem gh_519 : gH (Cond.instanceMethod ⟨"FrameSharerModel", "isPicture", "(I)Z"⟩) := ⟨List.mem_of_getElem? (i := 519) rfl, rfl⟩
set_option maxRecDepth 100000 in
theorem gh_520 : gH (Cond.code ⟨"FrameSharerModel", "isPicture", "(I)Z"⟩ prog_3_method_26_code 2 (some FieldType.boolean)) := ⟨List.mem_of_getElem? (i := 520) rfl, rfl⟩
set_option maxRecDepth 100000 in
theorem gh_521 : gH (Cond.methodLink "FrameSharerModel" 83 ⟨"FrameSharerModel", "spaces", "()I"⟩) := ⟨List.mem_of_getElem? (i := 521) rfl, rfl⟩
set_option maxRecDepth 100000 in
theorem gh_523 : gH (Cond.instanceMethod ⟨"FrameSharerModel", "spaces", "()I"⟩) := ⟨List.mem_of_getElem? (i := 523) rfl, rfl⟩
set_option maxRecDepth 100000 in
theorem gh_524 : gH (Cond.code ⟨"FrameSharerModel", "spaces", "()I"⟩ prog_3_method_27_code 3 (some FieldType.int)) := ⟨List.mem_of_getElem? (i := 524) rfl, rfl⟩
set_option maxRecDepth 100000 in
theorem gh_525 : gH (Cond.methodLink "FrameSharerLaw" 115 ⟨"FrameSharerModel", "drop", "(I)I"⟩) := ⟨List.mem_of_getElem? (i := 525) rfl, rfl⟩
set_option maxRecDepth 100000 in
theorem gh_526 : gH (Cond.instanceMethod ⟨"FrameSharerModel", "drop", "(I)I"⟩) := ⟨List.mem_of_getElem? (i := 526) rfl, rfl⟩
set_option maxRecDepth 100000 in
theorem gh_527 : gH (Cond.selects "FrameSharerModel" ⟨"FrameSharerModel", "drop", "(I)I"⟩ ⟨"FrameSharerModel", "drop", "(I)I"⟩) := ⟨List.mem_of_getElem? (i := 527) rfl, rfl⟩
set_option maxRecDepth 100000 in
theorem gh_528 : gH (Cond.code ⟨"FrameSharerModel", "drop", "(I)I"⟩ prog_3_method_29_code 4 (some FieldType.int)) := ⟨List.mem_of_getElem? (i := 528) rfl, rfl⟩
set_option maxRecDepth 100000 in
theorem gh_529 : gH (Cond.methodLink "FrameSharerLaw" 118 ⟨"FrameSharerModel", "holders", "(II)I"⟩) := ⟨List.mem_of_getElem? (i := 529) rfl, rfl⟩
set_option maxRecDepth 100000 in
theorem gh_530 : gH (Cond.instanceMethod ⟨"FrameSharerModel", "holders", "(II)I"⟩) := ⟨List.mem_of_getElem? (i := 530) rfl, rfl⟩
set_option maxRecDepth 100000 in
theorem gh_531 : gH (Cond.selects "FrameSharerModel" ⟨"FrameSharerModel", "holders", "(II)I"⟩ ⟨"FrameSharerModel", "holders", "(II)I"⟩) := ⟨List.mem_of_getElem? (i := 531) rfl, rfl⟩
set_option maxRecDepth 100000 in
theorem gh_532 : gH (Cond.code ⟨"FrameSharerModel", "holders", "(II)I"⟩ prog_3_method_30_code 3 (some FieldType.int)) := ⟨List.mem_of_getElem? (i := 532) rfl, rfl⟩
set_option maxRecDepth 100000 in
theorem gh_533 : gH (Cond.methodLink "FrameSharerLaw" 121 ⟨"FrameSharerModel", "changed", "(I)I"⟩) := ⟨List.mem_of_getElem? (i := 533) rfl, rfl⟩
set_option maxRecDepth 100000 in
theorem gh_534 : gH (Cond.instanceMethod ⟨"FrameSharerModel", "changed", "(I)I"⟩) := ⟨List.mem_of_getElem? (i := 534) rfl, rfl⟩
set_option maxRecDepth 100000 in
theorem gh_535 : gH (Cond.selects "FrameSharerModel" ⟨"FrameSharerModel", "changed", "(I)I"⟩ ⟨"FrameSharerModel", "changed", "(I)I"⟩) := ⟨List.mem_of_getElem? (i := 535) rfl, rfl⟩
set_option maxRecDepth 100000 in
theorem gh_536 : gH (Cond.code ⟨"FrameSharerModel", "changed", "(I)I"⟩ prog_3_method_31_code 4 (some FieldType.int)) := ⟨List.mem_of_getElem? (i := 536) rfl, rfl⟩
set_option maxRecDepth 100000 in
theorem gh_537 : gH (Cond.methodLink "FrameSharerLaw" 125 ⟨"FrameSharerModel", "count", "(I)I"⟩) := ⟨List.mem_of_getElem? (i := 537) rfl, rfl⟩
set_option maxRecDepth 100000 in
theorem gh_538 : gH (Cond.instanceMethod ⟨"FrameSharerModel", "count", "(I)I"⟩) := ⟨List.mem_of_getElem? (i := 538) rfl, rfl⟩
set_option maxRecDepth 100000 in
theorem gh_539 : gH (Cond.selects "FrameSharerModel" ⟨"FrameSharerModel", "count", "(I)I"⟩ ⟨"FrameSharerModel", "count", "(I)I"⟩) := ⟨List.mem_of_getElem? (i := 539) rfl, rfl⟩
set_option maxRecDepth 100000 in
theorem gh_540 : gH (Cond.code ⟨"FrameSharerModel", "count", "(I)I"⟩ prog_3_method_32_code 4 (some FieldType.int)) := ⟨List.mem_of_getElem? (i := 540) rfl, rfl⟩
set_option maxRecDepth 100000 in
theorem gh_541 : gH (Cond.methodLink "FrameSharerLaw" 130 ⟨"FrameSharerModel", "isThere", "(I)Z"⟩) := ⟨List.mem_of_getElem? (i := 541) rfl, rfl⟩
set_option maxRecDepth 100000 in
theorem gh_542 : gH (Cond.instanceMethod ⟨"FrameSharerModel", "isThere", "(I)Z"⟩) := ⟨List.mem_of_getElem? (i := 542) rfl, rfl⟩
set_option maxRecDepth 100000 in
theorem gh_543 : gH (Cond.selects "FrameSharerModel" ⟨"FrameSharerModel", "isThere", "(I)Z"⟩ ⟨"FrameSharerModel", "isThere", "(I)Z"⟩) := ⟨List.mem_of_getElem? (i := 543) rfl, rfl⟩
set_option maxRecDepth 100000 in
theorem gh_544 : gH (Cond.code ⟨"FrameSharerModel", "isThere", "(I)Z"⟩ prog_3_method_33_code 2 (some FieldType.boolean)) := ⟨List.mem_of_getElem? (i := 544) rfl, rfl⟩
set_option maxRecDepth 100000 in
theorem gh_545 : gH (Cond.arrayClass FieldType.long) := ⟨List.mem_of_getElem? (i := 545) rfl, rfl⟩
set_option maxRecDepth 100000 in
theorem gh_546 : gH (Cond.sameMethod "java/lang/Throwable" "java/lang/Throwable" "fillInStackTrace" "(I)Ljava/lang/Throwable;") := ⟨List.mem_of_getElem? (i := 546) rfl, rfl⟩
theorem hwX : ∀ w ∈ u_ws "FrameSharer" TX 6, w ∈ lw_tbl ∧ gGood w = true := by
  have h : u_ws "FrameSharer" TX 6 = [Cond.laysFinal "FrameSharer" "FrameSharer" "frameTotal" "I", Cond.laysFinal "FrameSharer" "FrameSharer" "cells" "[I", Cond.laysFinal "FrameSharer" "FrameSharer" "holdersOfFrame" "[I", Cond.laysFinal "FrameSharer" "FrameSharer" "frameOfHolder" "[I", Cond.laysFinal "FrameSharer" "FrameSharer" "spaceInRow" "[Z", Cond.laysFinal "FrameSharer" "FrameSharer" "pictureThere" "[Z"] := rfl
  rw [h]
  intro w hw
  simp only [List.mem_cons, List.not_mem_nil, or_false] at hw
  rcases hw with rfl | rfl | rfl | rfl | rfl | rfl
  · exact gh_70
  · exact gh_72
  · exact gh_74
  · exact gh_76
  · exact gh_78
  · exact gh_80
theorem lkX_18 : Cond.fieldLink "FrameSharer" 18 (TX 0).1 (TX 0).2.1 (TX 0).2.2.1 ∈ lw_tbl ∧ gGood (Cond.fieldLink "FrameSharer" 18 (TX 0).1 (TX 0).2.1 (TX 0).2.2.1) = true := gh_64
theorem lkX_22 : Cond.fieldLink "FrameSharer" 22 (TX 1).1 (TX 1).2.1 (TX 1).2.2.1 ∈ lw_tbl ∧ gGood (Cond.fieldLink "FrameSharer" 22 (TX 1).1 (TX 1).2.1 (TX 1).2.2.1) = true := gh_65
theorem lkX_26 : Cond.fieldLink "FrameSharer" 26 (TX 2).1 (TX 2).2.1 (TX 2).2.2.1 ∈ lw_tbl ∧ gGood (Cond.fieldLink "FrameSharer" 26 (TX 2).1 (TX 2).2.1 (TX 2).2.2.1) = true := gh_66
theorem lkX_29 : Cond.fieldLink "FrameSharer" 29 (TX 3).1 (TX 3).2.1 (TX 3).2.2.1 ∈ lw_tbl ∧ gGood (Cond.fieldLink "FrameSharer" 29 (TX 3).1 (TX 3).2.1 (TX 3).2.2.1) = true := gh_67
theorem lkX_38 : Cond.fieldLink "FrameSharer" 38 (TX 4).1 (TX 4).2.1 (TX 4).2.2.1 ∈ lw_tbl ∧ gGood (Cond.fieldLink "FrameSharer" 38 (TX 4).1 (TX 4).2.1 (TX 4).2.2.1) = true := gh_68
theorem lkX_42 : Cond.fieldLink "FrameSharer" 42 (TX 5).1 (TX 5).2.1 (TX 5).2.2.1 ∈ lw_tbl ∧ gGood (Cond.fieldLink "FrameSharer" 42 (TX 5).1 (TX 5).2.1 (TX 5).2.2.1) = true := gh_69
theorem hwY : ∀ w ∈ u_ws "FrameSharerModel" TY 7, w ∈ lw_tbl ∧ gGood w = true := by
  have h : u_ws "FrameSharerModel" TY 7 = [Cond.lays "FrameSharerModel" "FrameSharerModel" "code" "I", Cond.laysFinal "FrameSharerModel" "FrameSharerModel" "frames" "I", Cond.lays "FrameSharerModel" "FrameSharerModel" "stamps" "I", Cond.laysFinal "FrameSharerModel" "FrameSharerModel" "pictured" "[Z", Cond.laysFinal "FrameSharerModel" "FrameSharerModel" "there" "[Z", Cond.laysFinal "FrameSharerModel" "FrameSharerModel" "stamp" "[I", Cond.laysFinal "FrameSharerModel" "FrameSharerModel" "cells" "[I"] := rfl
  rw [h]
  intro w hw
  simp only [List.mem_cons, List.not_mem_nil, or_false] at hw
  rcases hw with rfl | rfl | rfl | rfl | rfl | rfl | rfl
  · exact gh_404
  · exact gh_406
  · exact gh_408
  · exact gh_410
  · exact gh_412
  · exact gh_414
  · exact gh_416
theorem lkY_27 : Cond.fieldLink "FrameSharerModel" 27 (TY 0).1 (TY 0).2.1 (TY 0).2.2.1 ∈ lw_tbl ∧ gGood (Cond.fieldLink "FrameSharerModel" 27 (TY 0).1 (TY 0).2.1 (TY 0).2.2.1) = true := gh_397
theorem lkY_23 : Cond.fieldLink "FrameSharerModel" 23 (TY 1).1 (TY 1).2.1 (TY 1).2.2.1 ∈ lw_tbl ∧ gGood (Cond.fieldLink "FrameSharerModel" 23 (TY 1).1 (TY 1).2.1 (TY 1).2.2.1) = true := gh_398
theorem lkY_63 : Cond.fieldLink "FrameSharerModel" 63 (TY 2).1 (TY 2).2.1 (TY 2).2.2.1 ∈ lw_tbl ∧ gGood (Cond.fieldLink "FrameSharerModel" 63 (TY 2).1 (TY 2).2.1 (TY 2).2.2.1) = true := gh_399
theorem lkY_7 : Cond.fieldLink "FrameSharerModel" 7 (TY 3).1 (TY 3).2.1 (TY 3).2.2.1 ∈ lw_tbl ∧ gGood (Cond.fieldLink "FrameSharerModel" 7 (TY 3).1 (TY 3).2.1 (TY 3).2.2.1) = true := gh_400
theorem lkY_13 : Cond.fieldLink "FrameSharerModel" 13 (TY 4).1 (TY 4).2.1 (TY 4).2.2.1 ∈ lw_tbl ∧ gGood (Cond.fieldLink "FrameSharerModel" 13 (TY 4).1 (TY 4).2.1 (TY 4).2.2.1) = true := gh_401
theorem lkY_16 : Cond.fieldLink "FrameSharerModel" 16 (TY 5).1 (TY 5).2.1 (TY 5).2.2.1 ∈ lw_tbl ∧ gGood (Cond.fieldLink "FrameSharerModel" 16 (TY 5).1 (TY 5).2.1 (TY 5).2.2.1) = true := gh_402
theorem lkY_20 : Cond.fieldLink "FrameSharerModel" 20 (TY 6).1 (TY 6).2.1 (TY 6).2.2.1 ∈ lw_tbl ∧ gGood (Cond.fieldLink "FrameSharerModel" 20 (TY 6).1 (TY 6).2.1 (TY 6).2.2.1) = true := gh_403
theorem clL_8 : gH (.classLink "FrameSharerLaw" 8 "FrameSharer") := gh_47
theorem lmL_64 : gH (.methodLink "FrameSharerLaw" 64 ⟨"FrameSharer", "<init>", "(I)V"⟩) := gh_49
theorem lmX_3 : gH (.methodLink "FrameSharer" 3 ⟨"java/lang/Object", "<init>", "()V"⟩) := gh_52
theorem lmX_9 : gH (.methodLink "FrameSharer" 9 ⟨"java/lang/Math", "min", "(II)I"⟩) := gh_55
theorem lmX_15 : gH (.methodLink "FrameSharer" 15 ⟨"java/lang/Math", "max", "(II)I"⟩) := gh_58
theorem lmX_32 : gH (.methodLink "FrameSharer" 32 ⟨"java/util/Arrays", "fill", "([II)V"⟩) := gh_61
theorem lmL_70 : gH (.methodLink "FrameSharerLaw" 70 ⟨"FrameSharer", "open", "()I"⟩) := gh_85
theorem lmX_45 : gH (.methodLink "FrameSharer" 45 ⟨"FrameSharer", "leastMissingSpace", "()I"⟩) := gh_89
theorem lmX_49 : gH (.methodLink "FrameSharer" 49 ⟨"FrameSharer", "spaceIndex", "(II)I"⟩) := gh_93
theorem lmL_106 : gH (.methodLink "FrameSharerLaw" 106 ⟨"FrameSharer", "take", "()I"⟩) := gh_96
theorem lmX_100 : gH (.methodLink "FrameSharer" 100 ⟨"FrameSharer", "leastMissingPicture", "()I"⟩) := gh_100
theorem lmX_103 : gH (.methodLink "FrameSharer" 103 ⟨"FrameSharer", "copyRow", "(II)V"⟩) := gh_104
theorem lmX_59 : gH (.methodLink "FrameSharer" 59 ⟨"FrameSharer", "standIn", "(II)V"⟩) := gh_108
theorem lmX_70 : gH (.methodLink "FrameSharer" 70 ⟨"FrameSharer", "isFrame", "(I)Z"⟩) := gh_112
theorem lmL_122 : gH (.methodLink "FrameSharerLaw" 122 ⟨"FrameSharer", "count", "(I)I"⟩) := gh_116
theorem lmX_112 : gH (.methodLink "FrameSharer" 112 ⟨"FrameSharer", "framesInUse", "()I"⟩) := gh_120
theorem lmX_109 : gH (.methodLink "FrameSharer" 109 ⟨"FrameSharer", "spacesNow", "()I"⟩) := gh_124
theorem lmX_118 : gH (.methodLink "FrameSharer" 118 ⟨"FrameSharer", "picturesNow", "()I"⟩) := gh_128
theorem lmX_121 : gH (.methodLink "FrameSharer" 121 ⟨"FrameSharer", "pagesNow", "()I"⟩) := gh_132
theorem lmX_63 : gH (.methodLink "FrameSharer" 63 ⟨"FrameSharer", "pagesOfSpace", "(I)I"⟩) := gh_136
theorem lmX_56 : gH (.methodLink "FrameSharer" 56 ⟨"FrameSharer", "pageNow", "(II)I"⟩) := gh_140
theorem lmL_126 : gH (.methodLink "FrameSharerLaw" 126 ⟨"FrameSharer", "isThere", "(I)Z"⟩) := gh_143
theorem lmL_58 : gH (.methodLink "FrameSharerLaw" 58 ⟨"FrameSharerLaw", "cell", "([II)I"⟩) := gh_147
theorem lmL_75 : gH (.methodLink "FrameSharerLaw" 75 ⟨"FrameSharerLaw", "fork", "(LFrameSharer;I[J)I"⟩) := gh_150
theorem clL_13 : gH (.classLink "FrameSharerLaw" 13 "java/util/NoSuchElementException") := gh_153
theorem lmL_7 : gH (.methodLink "FrameSharerLaw" 7 ⟨"FrameSharer", "fork", "(I)I"⟩) := gh_154
theorem lmX_52 : gH (.methodLink "FrameSharer" 52 ⟨"FrameSharer", "needSpace", "(I)V"⟩) := gh_158
theorem lmX_124 : gH (.methodLink "FrameSharer" 124 ⟨"FrameSharer", "isThere", "(I)Z"⟩) := gh_162
theorem clX_127 : gH (.classLink "FrameSharer" 127 "java/util/NoSuchElementException") := gh_163
theorem lmX_131 : gH (.methodLink "FrameSharer" 131 ⟨"java/util/NoSuchElementException", "<init>", "(Ljava/lang/String;)V"⟩) := gh_205
theorem lmL_82 : gH (.methodLink "FrameSharerLaw" 82 ⟨"FrameSharerLaw", "close", "(LFrameSharer;I[J)I"⟩) := gh_231
theorem lmL_15 : gH (.methodLink "FrameSharerLaw" 15 ⟨"FrameSharer", "close", "(I)I"⟩) := gh_234
theorem lmL_85 : gH (.methodLink "FrameSharerLaw" 85 ⟨"FrameSharerLaw", "map", "(LFrameSharer;III[J)I"⟩) := gh_238
theorem clL_22 : gH (.classLink "FrameSharerLaw" 22 "java/lang/IndexOutOfBoundsException") := gh_241
theorem clL_24 : gH (.classLink "FrameSharerLaw" 24 "java/lang/IllegalStateException") := gh_242
theorem lmL_18 : gH (.methodLink "FrameSharerLaw" 18 ⟨"FrameSharer", "map", "(III)Z"⟩) := gh_243
theorem lmX_67 : gH (.methodLink "FrameSharer" 67 ⟨"FrameSharer", "needPage", "(I)V"⟩) := gh_247
theorem clX_134 : gH (.classLink "FrameSharer" 134 "java/lang/IndexOutOfBoundsException") := gh_251
theorem lmX_138 : gH (.methodLink "FrameSharer" 138 ⟨"java/lang/IndexOutOfBoundsException", "<init>", "(Ljava/lang/String;)V"⟩) := gh_261
theorem lmX_74 : gH (.methodLink "FrameSharer" 74 ⟨"FrameSharer", "needFreeFrame", "()I"⟩) := gh_267
theorem clX_145 : gH (.classLink "FrameSharer" 145 "java/lang/IllegalStateException") := gh_271
theorem lmX_149 : gH (.methodLink "FrameSharer" 149 ⟨"java/lang/IllegalStateException", "<init>", "(Ljava/lang/String;)V"⟩) := gh_281
theorem lmX_77 : gH (.methodLink "FrameSharer" 77 ⟨"FrameSharer", "fillFrame", "(II)V"⟩) := gh_287
theorem lmL_89 : gH (.methodLink "FrameSharerLaw" 89 ⟨"FrameSharerLaw", "unmap", "(LFrameSharer;II[J)I"⟩) := gh_291
theorem lmL_26 : gH (.methodLink "FrameSharerLaw" 26 ⟨"FrameSharer", "unmap", "(II)Z"⟩) := gh_294
theorem lmL_93 : gH (.methodLink "FrameSharerLaw" 93 ⟨"FrameSharerLaw", "read", "(LFrameSharer;II[J)I"⟩) := gh_298
theorem lmL_30 : gH (.methodLink "FrameSharerLaw" 30 ⟨"FrameSharer", "read", "(II)I"⟩) := gh_301
theorem lmX_80 : gH (.methodLink "FrameSharer" 80 ⟨"FrameSharer", "needHolderAt", "(II)I"⟩) := gh_305
theorem lmX_83 : gH (.methodLink "FrameSharer" 83 ⟨"FrameSharer", "cellIndex", "(II)I"⟩) := gh_311
theorem lmL_96 : gH (.methodLink "FrameSharerLaw" 96 ⟨"FrameSharerLaw", "write", "(LFrameSharer;III[J)I"⟩) := gh_314
theorem lmL_34 : gH (.methodLink "FrameSharerLaw" 34 ⟨"FrameSharer", "write", "(III)I"⟩) := gh_317
theorem lmX_86 : gH (.methodLink "FrameSharer" 86 ⟨"FrameSharer", "needOwnFrame", "(I)I"⟩) := gh_321
theorem lmX_150 : gH (.methodLink "FrameSharer" 150 ⟨"java/lang/System", "arraycopy", "(Ljava/lang/Object;ILjava/lang/Object;II)V"⟩) := gh_325
theorem lmL_99 : gH (.methodLink "FrameSharerLaw" 99 ⟨"FrameSharerLaw", "lend", "(LFrameSharer;IIII[J)I"⟩) := gh_328
theorem lmL_38 : gH (.methodLink "FrameSharerLaw" 38 ⟨"FrameSharer", "lend", "(IIII)Z"⟩) := gh_331
theorem lmX_89 : gH (.methodLink "FrameSharer" 89 ⟨"FrameSharer", "needTwoPages", "(IIII)V"⟩) := gh_335
theorem lmL_103 : gH (.methodLink "FrameSharerLaw" 103 ⟨"FrameSharerLaw", "join", "(LFrameSharer;IIII[J)I"⟩) := gh_339
theorem lmL_42 : gH (.methodLink "FrameSharerLaw" 42 ⟨"FrameSharer", "join", "(IIII)I"⟩) := gh_342
theorem lmX_93 : gH (.methodLink "FrameSharer" 93 ⟨"FrameSharer", "haveSameCells", "(II)Z"⟩) := gh_346
theorem lmX_97 : gH (.methodLink "FrameSharer" 97 ⟨"FrameSharer", "moveHolders", "(II)V"⟩) := gh_350
theorem lmL_110 : gH (.methodLink "FrameSharerLaw" 110 ⟨"FrameSharerLaw", "back", "(LFrameSharer;I[J)I"⟩) := gh_354
theorem lmL_46 : gH (.methodLink "FrameSharerLaw" 46 ⟨"FrameSharer", "back", "(I)I"⟩) := gh_357
theorem lmX_106 : gH (.methodLink "FrameSharer" 106 ⟨"FrameSharer", "needPicture", "(I)V"⟩) := gh_361
theorem lmL_113 : gH (.methodLink "FrameSharerLaw" 113 ⟨"FrameSharerLaw", "drop", "(LFrameSharer;I[J)I"⟩) := gh_366
theorem lmL_49 : gH (.methodLink "FrameSharerLaw" 49 ⟨"FrameSharer", "drop", "(I)I"⟩) := gh_369
theorem lmX_115 : gH (.methodLink "FrameSharer" 115 ⟨"FrameSharer", "clearRow", "(I)V"⟩) := gh_373
theorem lmL_116 : gH (.methodLink "FrameSharerLaw" 116 ⟨"FrameSharerLaw", "holders", "(LFrameSharer;II[J)I"⟩) := gh_377
theorem lmL_52 : gH (.methodLink "FrameSharerLaw" 52 ⟨"FrameSharer", "holders", "(II)I"⟩) := gh_380
theorem lmL_119 : gH (.methodLink "FrameSharerLaw" 119 ⟨"FrameSharerLaw", "changed", "(LFrameSharer;I[J)I"⟩) := gh_384
theorem lmL_55 : gH (.methodLink "FrameSharerLaw" 55 ⟨"FrameSharer", "changed", "(I)I"⟩) := gh_387
theorem clL_67 : gH (.classLink "FrameSharerLaw" 67 "FrameSharerModel") := gh_391
theorem lmL_69 : gH (.methodLink "FrameSharerLaw" 69 ⟨"FrameSharerModel", "<init>", "(I)V"⟩) := gh_393
theorem lmY_1 : gH (.methodLink "FrameSharerModel" 1 ⟨"java/lang/Object", "<init>", "()V"⟩) := gh_396
theorem lmL_79 : gH (.methodLink "FrameSharerLaw" 79 ⟨"FrameSharerModel", "thrown", "()I"⟩) := gh_419
theorem lmL_74 : gH (.methodLink "FrameSharerLaw" 74 ⟨"FrameSharerModel", "open", "()I"⟩) := gh_423
theorem lmY_38 : gH (.methodLink "FrameSharerModel" 38 ⟨"FrameSharerModel", "free", "()I"⟩) := gh_427
theorem lmL_78 : gH (.methodLink "FrameSharerLaw" 78 ⟨"FrameSharerModel", "fork", "(I)I"⟩) := gh_431
theorem lmY_42 : gH (.methodLink "FrameSharerModel" 42 ⟨"FrameSharerModel", "isSpace", "(I)Z"⟩) := gh_435
theorem lmY_46 : gH (.methodLink "FrameSharerModel" 46 ⟨"FrameSharerModel", "fails", "(ZZZ)Z"⟩) := gh_439
theorem lmY_34 : gH (.methodLink "FrameSharerModel" 34 ⟨"FrameSharerModel", "page", "(III)I"⟩) := gh_443
theorem lmY_30 : gH (.methodLink "FrameSharerModel" 30 ⟨"FrameSharerModel", "copyPage", "(II)V"⟩) := gh_446
theorem lmL_84 : gH (.methodLink "FrameSharerLaw" 84 ⟨"FrameSharerModel", "close", "(I)I"⟩) := gh_450
theorem lmY_50 : gH (.methodLink "FrameSharerModel" 50 ⟨"FrameSharerModel", "pagesOf", "(I)I"⟩) := gh_454
theorem lmY_54 : gH (.methodLink "FrameSharerModel" 54 ⟨"FrameSharerModel", "empty", "(II)V"⟩) := gh_458
theorem lmL_88 : gH (.methodLink "FrameSharerLaw" 88 ⟨"FrameSharerModel", "map", "(III)Z"⟩) := gh_462
theorem lmY_57 : gH (.methodLink "FrameSharerModel" 57 ⟨"FrameSharerModel", "isPage", "(I)Z"⟩) := gh_466
theorem lmY_60 : gH (.methodLink "FrameSharerModel" 60 ⟨"FrameSharerModel", "used", "()I"⟩) := gh_469
theorem lmL_92 : gH (.methodLink "FrameSharerLaw" 92 ⟨"FrameSharerModel", "unmap", "(II)Z"⟩) := gh_473
theorem lmL_95 : gH (.methodLink "FrameSharerLaw" 95 ⟨"FrameSharerModel", "read", "(II)I"⟩) := gh_477
theorem lmY_66 : gH (.methodLink "FrameSharerModel" 66 ⟨"FrameSharerModel", "cell", "(II)I"⟩) := gh_481
theorem lmL_98 : gH (.methodLink "FrameSharerLaw" 98 ⟨"FrameSharerModel", "write", "(III)I"⟩) := gh_485
theorem lmY_70 : gH (.methodLink "FrameSharerModel" 70 ⟨"FrameSharerModel", "holdersOf", "(I)I"⟩) := gh_489
theorem lmL_102 : gH (.methodLink "FrameSharerLaw" 102 ⟨"FrameSharerModel", "lend", "(IIII)Z"⟩) := gh_493
theorem lmY_73 : gH (.methodLink "FrameSharerModel" 73 ⟨"FrameSharerModel", "areFaulty", "(IIII)Z"⟩) := gh_497
theorem lmL_105 : gH (.methodLink "FrameSharerLaw" 105 ⟨"FrameSharerModel", "join", "(IIII)I"⟩) := gh_501
theorem lmL_109 : gH (.methodLink "FrameSharerLaw" 109 ⟨"FrameSharerModel", "take", "()I"⟩) := gh_505
theorem lmY_77 : gH (.methodLink "FrameSharerModel" 77 ⟨"FrameSharerModel", "copyRow", "(II)V"⟩) := gh_509
theorem lmL_112 : gH (.methodLink "FrameSharerLaw" 112 ⟨"FrameSharerModel", "back", "(I)I"⟩) := gh_513
theorem lmY_80 : gH (.methodLink "FrameSharerModel" 80 ⟨"FrameSharerModel", "isPicture", "(I)Z"⟩) := gh_517
theorem lmY_83 : gH (.methodLink "FrameSharerModel" 83 ⟨"FrameSharerModel", "spaces", "()I"⟩) := gh_521
theorem lmL_115 : gH (.methodLink "FrameSharerLaw" 115 ⟨"FrameSharerModel", "drop", "(I)I"⟩) := gh_525
theorem lmL_118 : gH (.methodLink "FrameSharerLaw" 118 ⟨"FrameSharerModel", "holders", "(II)I"⟩) := gh_529
theorem lmL_121 : gH (.methodLink "FrameSharerLaw" 121 ⟨"FrameSharerModel", "changed", "(I)I"⟩) := gh_533
theorem lmL_125 : gH (.methodLink "FrameSharerLaw" 125 ⟨"FrameSharerModel", "count", "(I)I"⟩) := gh_537
theorem lmL_130 : gH (.methodLink "FrameSharerLaw" 130 ⟨"FrameSharerModel", "isThere", "(I)Z"⟩) := gh_541
theorem it_NoSuchElementException : gH (.instantiable "java/util/NoSuchElementException" 6) := gh_164
theorem in_NoSuchElementException : gH (.initialized "java/util/NoSuchElementException") := gh_43
def nm_NoSuchElementException : List String := ["java/lang/RuntimeException", "java/lang/Exception"]
theorem it_IndexOutOfBoundsException : gH (.instantiable "java/lang/IndexOutOfBoundsException" 6) := gh_252
theorem in_IndexOutOfBoundsException : gH (.initialized "java/lang/IndexOutOfBoundsException") := gh_44
def nm_IndexOutOfBoundsException : List String := ["java/lang/RuntimeException", "java/lang/Exception"]
theorem it_IllegalStateException : gH (.instantiable "java/lang/IllegalStateException" 6) := gh_272
theorem in_IllegalStateException : gH (.initialized "java/lang/IllegalStateException") := gh_45
def nm_IllegalStateException : List String := ["java/lang/RuntimeException", "java/lang/Exception"]
theorem naS : gH (.native arraycopyName) := gh_327
theorem stS : gH (.static arraycopyName) := gh_326
theorem inS : gH (.initialized "java/lang/System") := gh_46
theorem ob_in : gH (.instanceMethod Lib.objectInit) := gh_53
theorem ob_co : gH (.code Lib.objectInit ⟨#[0xb1]⟩ 1 none) := gh_54
theorem mmin_s : gH (.static Lib.Math.min.name) := gh_56
theorem mmin_c : gH (.code Lib.Math.min.name Lib.Math.min.code 2 (some .int)) := gh_57
theorem mmax_s : gH (.static Lib.Math.max.name) := gh_59
theorem mmax_c : gH (.code Lib.Math.max.name Lib.Math.max.code 2 (some .int)) := gh_60
theorem ma_in : gH (.initialized "java/lang/Math") := gh_37
theorem ar_int : gH (.arrayClass (newarray.typeOf .int)) := gh_83
theorem ar_boolean : gH (.arrayClass (newarray.typeOf .boolean)) := gh_84
theorem ar_long : gH (.arrayClass (newarray.typeOf .long)) := gh_545
theorem in_X : gH (.initialized "FrameSharer") := gh_36
theorem it_X : gH (.instantiable "FrameSharer" 6) := gh_48
theorem ic_X : gH (.instanceMethod ⟨"FrameSharer", "<init>", "(I)V"⟩) := gh_50
theorem cc_X : gH (.code ⟨"FrameSharer", "<init>", "(I)V"⟩ prog_1_method_1_code 2 none) := gh_51
theorem in_Y : gH (.initialized "FrameSharerModel") := gh_39
theorem it_Y : gH (.instantiable "FrameSharerModel" 7) := gh_392
theorem ic_Y : gH (.instanceMethod ⟨"FrameSharerModel", "<init>", "(I)V"⟩) := gh_394
theorem cc_Y : gH (.code ⟨"FrameSharerModel", "<init>", "(I)V"⟩ prog_3_method_1_code 2 none) := gh_395
theorem af_s : gH (.static ⟨"java/util/Arrays", "fill", "([II)V"⟩) := gh_62
theorem af_i : gH (.initialized "java/util/Arrays") := gh_38
theorem af_c : gH (.code ⟨"java/util/Arrays", "fill", "([II)V"⟩ prog_12_method_103_code 4 none) := gh_63
abbrev mJ_fill : gM := (⟨"java/util/Arrays", "fill", "([II)V"⟩, prog_12_method_103_code, 4, none, [])
