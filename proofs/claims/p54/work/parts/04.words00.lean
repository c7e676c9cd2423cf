theorem kw_0 : Cond.methodLink "GalleonWave" 421 ⟨"java/lang/Math", "abs", "(I)I"⟩ ∈ kw := kw_in (List.mem_append_right _ (tb3 _ (List.mem_of_getElem? (i := 225) (by decide +kernel)))) (by decide +kernel)
theorem kw_1 : Cond.static ⟨"java/lang/Math", "abs", "(I)I"⟩ ∈ kw := kw_in (List.mem_append_right _ (tb3 _ (List.mem_of_getElem? (i := 226) (by decide +kernel)))) (by decide +kernel)
theorem kw_2 : Cond.initialized "java/lang/Math" ∈ kw := kw_in (List.mem_append_right _ (tb1 _ (List.mem_of_getElem? (i := 17) (by decide +kernel)))) (by decide +kernel)
theorem kw_3 : Cond.code ⟨"java/lang/Math", "abs", "(I)I"⟩ prog_26_method_59_code 1 (some .int) ∈ kw := kw_in (List.mem_append_right _ (tb3 _ (List.mem_of_getElem? (i := 227) (by decide +kernel)))) (by decide +kernel)
theorem kw_4 : Cond.methodLink "GalleonWave" 426 ⟨"java/lang/Math", "max", "(II)I"⟩ ∈ kw := kw_in (List.mem_append_right _ (tb3 _ (List.mem_of_getElem? (i := 228) (by decide +kernel)))) (by decide +kernel)
theorem kw_5 : Cond.static ⟨"java/lang/Math", "max", "(II)I"⟩ ∈ kw := kw_in (List.mem_append_right _ (tb2 _ (List.mem_of_getElem? (i := 130) (by decide +kernel)))) (by decide +kernel)
theorem kw_6 : Cond.code ⟨"java/lang/Math", "max", "(II)I"⟩ prog_26_method_65_code 2 (some .int) ∈ kw := kw_in (List.mem_append_right _ (tb2 _ (List.mem_of_getElem? (i := 131) (by decide +kernel)))) (by decide +kernel)
theorem kw_7 : Cond.methodLink "GalleonWave" 429 ⟨"java/lang/Math", "min", "(II)I"⟩ ∈ kw := kw_in (List.mem_append_right _ (tb4 _ (List.mem_of_getElem? (i := 89) (by decide +kernel)))) (by decide +kernel)
theorem kw_8 : Cond.static ⟨"java/lang/Math", "min", "(II)I"⟩ ∈ kw := kw_in (List.mem_append_right _ (tb2 _ (List.mem_of_getElem? (i := 80) (by decide +kernel)))) (by decide +kernel)
theorem kw_9 : Cond.code ⟨"java/lang/Math", "min", "(II)I"⟩ prog_26_method_69_code 2 (some .int) ∈ kw := kw_in (List.mem_append_right _ (tb2 _ (List.mem_of_getElem? (i := 81) (by decide +kernel)))) (by decide +kernel)
theorem kw_10 : Cond.code ⟨"jdk/internal/util/Preconditions", "checkIndex", "(IILjava/util/function/BiFunction;)I"⟩ prog_47_method_11_code 3 (some .int) ∈ kw := kw_in (List.mem_append_right _ (tb2 _ (List.mem_of_getElem? (i := 29) (by decide +kernel)))) (by decide +kernel)
theorem kw_11 : Cond.methodLink "java/util/Objects" 105 ⟨"jdk/internal/util/Preconditions", "checkIndex", "(IILjava/util/function/BiFunction;)I"⟩ ∈ kw := kw_in (List.mem_append_right _ (tb2 _ (List.mem_of_getElem? (i := 27) (by decide +kernel)))) (by decide +kernel)
theorem kw_12 : Cond.initialized "jdk/internal/util/Preconditions" ∈ kw := kw_in (List.mem_append_right _ (tb1 _ (List.mem_of_getElem? (i := 24) (by decide +kernel)))) (by decide +kernel)
theorem kw_13 : Cond.static ⟨"jdk/internal/util/Preconditions", "checkIndex", "(IILjava/util/function/BiFunction;)I"⟩ ∈ kw := kw_in (List.mem_append_right _ (tb2 _ (List.mem_of_getElem? (i := 28) (by decide +kernel)))) (by decide +kernel)
theorem kw_14 : Cond.fieldLink "java/util/ArrayList" 9 "java/util/ArrayList" "elementData" "[Ljava/lang/Object;" ∈ kw := kw_in (List.mem_append_right _ (tb1 _ (List.mem_of_getElem? (i := 56) (by decide +kernel)))) (by decide +kernel)
theorem kw_15 : Cond.fieldLink "java/util/ArrayList" 48 "java/util/ArrayList" "size" "I" ∈ kw := kw_in (List.mem_append_right _ (tb1 _ (List.mem_of_getElem? (i := 57) (by decide +kernel)))) (by decide +kernel)
theorem kw_16 : Cond.code ⟨"java/util/Objects", "checkIndex", "(II)I"⟩ prog_43_method_17_code 2 (some .int) ∈ kw := kw_in (List.mem_append_right _ (tb2 _ (List.mem_of_getElem? (i := 26) (by decide +kernel)))) (by decide +kernel)
theorem kw_17 : Cond.methodLink "java/util/ArrayList" 118 ⟨"java/util/Objects", "checkIndex", "(II)I"⟩ ∈ kw := kw_in (List.mem_append_right _ (tb2 _ (List.mem_of_getElem? (i := 24) (by decide +kernel)))) (by decide +kernel)
theorem kw_18 : Cond.initialized "java/util/Objects" ∈ kw := kw_in (List.mem_append_right _ (tb1 _ (List.mem_of_getElem? (i := 23) (by decide +kernel)))) (by decide +kernel)
theorem kw_19 : Cond.static ⟨"java/util/Objects", "checkIndex", "(II)I"⟩ ∈ kw := kw_in (List.mem_append_right _ (tb2 _ (List.mem_of_getElem? (i := 25) (by decide +kernel)))) (by decide +kernel)
theorem kw_20 : Cond.code ⟨"java/util/ArrayList", "elementData", "(I)Ljava/lang/Object;"⟩ prog_38_method_18_code 2 (some (.object "java/lang/Object")) ∈ kw := kw_in (List.mem_append_right _ (tb2 _ (List.mem_of_getElem? (i := 33) (by decide +kernel)))) (by decide +kernel)
theorem kw_21 : Cond.methodLink "java/util/ArrayList" 123 ⟨"java/util/ArrayList", "elementData", "(I)Ljava/lang/Object;"⟩ ∈ kw := kw_in (List.mem_append_right _ (tb2 _ (List.mem_of_getElem? (i := 30) (by decide +kernel)))) (by decide +kernel)
theorem kw_22 : Cond.initialized "java/util/ArrayList" ∈ kw := kw_in (List.mem_append_right _ (tb1 _ (List.mem_of_getElem? (i := 4) (by decide +kernel)))) (by decide +kernel)
theorem kw_23 : Cond.instanceMethod ⟨"java/util/ArrayList", "elementData", "(I)Ljava/lang/Object;"⟩ ∈ kw := kw_in (List.mem_append_right _ (tb2 _ (List.mem_of_getElem? (i := 31) (by decide +kernel)))) (by decide +kernel)
theorem kw_24 : Cond.selects "java/util/ArrayList" ⟨"java/util/ArrayList", "elementData", "(I)Ljava/lang/Object;"⟩ ⟨"java/util/ArrayList", "elementData", "(I)Ljava/lang/Object;"⟩ ∈ kw := kw_in (List.mem_append_right _ (tb2 _ (List.mem_of_getElem? (i := 32) (by decide +kernel)))) (by decide +kernel)
theorem kw_25 : Cond.fieldLink "GalleonWave$Generator" 16 "GalleonWave$Generator" "isOn" "Z" ∈ kw := kw_in (List.mem_append_right _ (tb5 _ (List.mem_of_getElem? (i := 78) (by decide +kernel)))) (by decide +kernel)
theorem kw_26 : Cond.fieldLink "GalleonWave$Generator" 20 "GalleonWave$Generator" "ranHours" "I" ∈ kw := kw_in (List.mem_append_right _ (tb5 _ (List.mem_of_getElem? (i := 80) (by decide +kernel)))) (by decide +kernel)
theorem kw_27 : Cond.fieldLink "GalleonWave$Generator" 13 "GalleonWave$Generator" "life" "I" ∈ kw := kw_in (List.mem_append_right _ (tb5 _ (List.mem_of_getElem? (i := 77) (by decide +kernel)))) (by decide +kernel)
theorem kw_28 : Cond.fieldLink "GalleonWave$Generator" 7 "GalleonWave$Generator" "power" "I" ∈ kw := kw_in (List.mem_append_right _ (tb5 _ (List.mem_of_getElem? (i := 75) (by decide +kernel)))) (by decide +kernel)
theorem kw_29 : Cond.fieldLink "GalleonWave$Ship" 54 "GalleonWave$Ship" "ranBits" "I" ∈ kw := kw_in (List.mem_append_right _ (tb4 _ (List.mem_of_getElem? (i := 215) (by decide +kernel)))) (by decide +kernel)
theorem kw_30 : Cond.fieldLink "GalleonWave$Ship" 23 "GalleonWave$Ship" "generators" "Ljava/util/ArrayList;" ∈ kw := kw_in (List.mem_append_right _ (tb4 _ (List.mem_of_getElem? (i := 192) (by decide +kernel)))) (by decide +kernel)
theorem kw_31 : Cond.code ⟨"java/util/ArrayList", "size", "()I"⟩ prog_38_method_8_code 1 (some .int) ∈ kw := kw_in (List.mem_append_right _ (tb1 _ (List.mem_of_getElem? (i := 183) (by decide +kernel)))) (by decide +kernel)
theorem kw_32 : Cond.methodLink "GalleonWave$Ship" 57 ⟨"java/util/ArrayList", "size", "()I"⟩ ∈ kw := kw_in (List.mem_append_right _ (tb2 _ (List.mem_of_getElem? (i := 60) (by decide +kernel)))) (by decide +kernel)
theorem kw_33 : Cond.instanceMethod ⟨"java/util/ArrayList", "size", "()I"⟩ ∈ kw := kw_in (List.mem_append_right _ (tb1 _ (List.mem_of_getElem? (i := 181) (by decide +kernel)))) (by decide +kernel)
theorem kw_34 : Cond.selects "java/util/ArrayList" ⟨"java/util/ArrayList", "size", "()I"⟩ ⟨"java/util/ArrayList", "size", "()I"⟩ ∈ kw := kw_in (List.mem_append_right _ (tb1 _ (List.mem_of_getElem? (i := 182) (by decide +kernel)))) (by decide +kernel)
theorem kw_35 : Cond.code ⟨"java/util/ArrayList", "get", "(I)Ljava/lang/Object;"⟩ prog_38_method_20_code 2 (some (.object "java/lang/Object")) ∈ kw := kw_in (List.mem_append_right _ (tb2 _ (List.mem_of_getElem? (i := 23) (by decide +kernel)))) (by decide +kernel)
theorem kw_36 : Cond.methodLink "GalleonWave$Ship" 61 ⟨"java/util/ArrayList", "get", "(I)Ljava/lang/Object;"⟩ ∈ kw := kw_in (List.mem_append_right _ (tb2 _ (List.mem_of_getElem? (i := 61) (by decide +kernel)))) (by decide +kernel)
theorem kw_37 : Cond.instanceMethod ⟨"java/util/ArrayList", "get", "(I)Ljava/lang/Object;"⟩ ∈ kw := kw_in (List.mem_append_right _ (tb2 _ (List.mem_of_getElem? (i := 21) (by decide +kernel)))) (by decide +kernel)
theorem kw_38 : Cond.selects "java/util/ArrayList" ⟨"java/util/ArrayList", "get", "(I)Ljava/lang/Object;"⟩ ⟨"java/util/ArrayList", "get", "(I)Ljava/lang/Object;"⟩ ∈ kw := kw_in (List.mem_append_right _ (tb2 _ (List.mem_of_getElem? (i := 22) (by decide +kernel)))) (by decide +kernel)
theorem kw_39 : Cond.classLink "GalleonWave$Ship" 65 "GalleonWave$Generator" ∈ kw := kw_in (List.mem_append_right _ (tb2 _ (List.mem_of_getElem? (i := 62) (by decide +kernel)))) (by decide +kernel)
theorem kw_40 : Cond.fieldLink "GalleonWave$Ship" 67 "GalleonWave$Ship" "fuel" "I" ∈ kw := kw_in (List.mem_append_right _ (tb4 _ (List.mem_of_getElem? (i := 202) (by decide +kernel)))) (by decide +kernel)
theorem kw_41 : Cond.code ⟨"GalleonWave$Generator", "canRun", "(I)Z"⟩ prog_4_method_2_code 2 (some .boolean) ∈ kw := kw_in (List.mem_append_right _ (tb3 _ (List.mem_of_getElem? (i := 200) (by decide +kernel)))) (by decide +kernel)
theorem kw_42 : Cond.methodLink "GalleonWave$Ship" 70 ⟨"GalleonWave$Generator", "canRun", "(I)Z"⟩ ∈ kw := kw_in (List.mem_append_right _ (tb3 _ (List.mem_of_getElem? (i := 197) (by decide +kernel)))) (by decide +kernel)
theorem kw_43 : Cond.initialized "GalleonWave$Generator" ∈ kw := kw_in (List.mem_append_right _ (tb1 _ (List.mem_of_getElem? (i := 27) (by decide +kernel)))) (by decide +kernel)
theorem kw_44 : Cond.instanceMethod ⟨"GalleonWave$Generator", "canRun", "(I)Z"⟩ ∈ kw := kw_in (List.mem_append_right _ (tb3 _ (List.mem_of_getElem? (i := 198) (by decide +kernel)))) (by decide +kernel)
theorem kw_45 : Cond.selects "GalleonWave$Generator" ⟨"GalleonWave$Generator", "canRun", "(I)Z"⟩ ⟨"GalleonWave$Generator", "canRun", "(I)Z"⟩ ∈ kw := kw_in (List.mem_append_right _ (tb3 _ (List.mem_of_getElem? (i := 199) (by decide +kernel)))) (by decide +kernel)
theorem kw_46 : Cond.fieldLink "GalleonWave$Ship" 74 "GalleonWave$Generator" "power" "I" ∈ kw := kw_in (List.mem_append_right _ (tb5 _ (List.mem_of_getElem? (i := 76) (by decide +kernel)))) (by decide +kernel)
theorem kw_47 : Cond.fieldLink "GalleonWave$Ship" 77 "GalleonWave$Generator" "ranHours" "I" ∈ kw := kw_in (List.mem_append_right _ (tb5 _ (List.mem_of_getElem? (i := 81) (by decide +kernel)))) (by decide +kernel)
theorem kw_48 : Cond.fieldLink "GalleonWave$Ship" 48 "GalleonWave$Ship" "channel" "I" ∈ kw := kw_in (List.mem_append_right _ (tb4 _ (List.mem_of_getElem? (i := 212) (by decide +kernel)))) (by decide +kernel)
theorem kw_49 : Cond.fieldLink "GalleonWave$Ship" 80 "GalleonWave$Ship" "power" "I" ∈ kw := kw_in (List.mem_append_right _ (tb4 _ (List.mem_of_getElem? (i := 210) (by decide +kernel)))) (by decide +kernel)
theorem kw_50 : Cond.code ⟨"GalleonWave$Ship", "powerOf", "(I)I"⟩ prog_10_method_3_code 4 (some .int) ∈ kw := kw_in (List.mem_append_right _ (tb2 _ (List.mem_of_getElem? (i := 59) (by decide +kernel)))) (by decide +kernel)
theorem kw_51 : Cond.methodLink "GalleonWave$Ship" 81 ⟨"GalleonWave$Ship", "powerOf", "(I)I"⟩ ∈ kw := kw_in (List.mem_append_right _ (tb3 _ (List.mem_of_getElem? (i := 209) (by decide +kernel)))) (by decide +kernel)
theorem kw_52 : Cond.initialized "GalleonWave$Ship" ∈ kw := kw_in (List.mem_append_right _ (tb1 _ (List.mem_of_getElem? (i := 12) (by decide +kernel)))) (by decide +kernel)
theorem kw_53 : Cond.instanceMethod ⟨"GalleonWave$Ship", "powerOf", "(I)I"⟩ ∈ kw := kw_in (List.mem_append_right _ (tb2 _ (List.mem_of_getElem? (i := 57) (by decide +kernel)))) (by decide +kernel)
theorem kw_54 : Cond.selects "GalleonWave$Ship" ⟨"GalleonWave$Ship", "powerOf", "(I)I"⟩ ⟨"GalleonWave$Ship", "powerOf", "(I)I"⟩ ∈ kw := kw_in (List.mem_append_right _ (tb2 _ (List.mem_of_getElem? (i := 58) (by decide +kernel)))) (by decide +kernel)
theorem kw_55 : Cond.fieldLink "GalleonWave$Ship" 85 "GalleonWave$Ship" "isMutinous" "Z" ∈ kw := kw_in (List.mem_append_right _ (tb4 _ (List.mem_of_getElem? (i := 222) (by decide +kernel)))) (by decide +kernel)
theorem kw_56 : Cond.fieldLink "GalleonWave$Ship" 89 "GalleonWave$Ship" "salt" "I" ∈ kw := kw_in (List.mem_append_right _ (tb4 _ (List.mem_of_getElem? (i := 208) (by decide +kernel)))) (by decide +kernel)
theorem kw_57 : Cond.methodLink "GalleonWave$Ship" 92 ⟨"java/lang/Math", "max", "(II)I"⟩ ∈ kw := kw_in (List.mem_append_right _ (tb3 _ (List.mem_of_getElem? (i := 233) (by decide +kernel)))) (by decide +kernel)
theorem kw_58 : Cond.fieldLink "GalleonWave$Ship" 98 "GalleonWave$Ship" "food" "I" ∈ kw := kw_in (List.mem_append_right _ (tb4 _ (List.mem_of_getElem? (i := 205) (by decide +kernel)))) (by decide +kernel)
theorem kw_59 : Cond.fieldLink "GalleonWave$Ship" 101 "GalleonWave$Ship" "hungryHours" "I" ∈ kw := kw_in (List.mem_append_right _ (tb4 _ (List.mem_of_getElem? (i := 221) (by decide +kernel)))) (by decide +kernel)
theorem kw_60 : Cond.fieldLink "GalleonWave$Ship" 41 "GalleonWave$Ship" "east" "I" ∈ kw := kw_in (List.mem_append_right _ (tb4 _ (List.mem_of_getElem? (i := 198) (by decide +kernel)))) (by decide +kernel)
theorem kw_61 : Cond.code ⟨"GalleonWave", "within", "(I)I"⟩ prog_1_method_67_code 1 (some .int) ∈ kw := kw_in (List.mem_append_right _ (tb4 _ (List.mem_of_getElem? (i := 116) (by decide +kernel)))) (by decide +kernel)
theorem kw_62 : Cond.methodLinkNest "GalleonWave$Ship" 104 ⟨"GalleonWave", "within", "(I)I"⟩ "GalleonWave" ∈ kw := kw_in (List.mem_append_right _ (tb4 _ (List.mem_of_getElem? (i := 114) (by decide +kernel)))) (by decide +kernel)
theorem kw_63 : Cond.initialized "GalleonWave" ∈ kw := kw_in (List.mem_append_right _ (tb1 _ (List.mem_of_getElem? (i := 1) (by decide +kernel)))) (by decide +kernel)
theorem kw_64 : Cond.static ⟨"GalleonWave", "within", "(I)I"⟩ ∈ kw := kw_in (List.mem_append_right _ (tb4 _ (List.mem_of_getElem? (i := 115) (by decide +kernel)))) (by decide +kernel)
theorem kw_65 : Cond.fieldLink "GalleonWave$Ship" 45 "GalleonWave$Ship" "north" "I" ∈ kw := kw_in (List.mem_append_right _ (tb4 _ (List.mem_of_getElem? (i := 200) (by decide +kernel)))) (by decide +kernel)
theorem kw_66 : Cond.fieldLink "GalleonWave" 110 "GalleonWave$Ship" "east" "I" ∈ kw := kw_in (List.mem_append_right _ (tb4 _ (List.mem_of_getElem? (i := 199) (by decide +kernel)))) (by decide +kernel)
theorem kw_67 : Cond.fieldLink "GalleonWave" 113 "GalleonWave$Ship" "north" "I" ∈ kw := kw_in (List.mem_append_right _ (tb4 _ (List.mem_of_getElem? (i := 201) (by decide +kernel)))) (by decide +kernel)
theorem kw_68 : Cond.fieldLink "GalleonWave" 481 "GalleonWave$Town" "east" "I" ∈ kw := kw_in (List.mem_append_right _ (tb3 _ (List.mem_of_getElem? (i := 159) (by decide +kernel)))) (by decide +kernel)
theorem kw_69 : Cond.fieldLink "GalleonWave" 482 "GalleonWave$Town" "north" "I" ∈ kw := kw_in (List.mem_append_right _ (tb3 _ (List.mem_of_getElem? (i := 161) (by decide +kernel)))) (by decide +kernel)
theorem kw_70 : Cond.code ⟨"GalleonWave", "apart", "(IIII)I"⟩ prog_1_method_66_code 4 (some .int) ∈ kw := kw_in (List.mem_append_right _ (tb3 _ (List.mem_of_getElem? (i := 224) (by decide +kernel)))) (by decide +kernel)
theorem kw_71 : Cond.methodLink "GalleonWave" 327 ⟨"GalleonWave", "apart", "(IIII)I"⟩ ∈ kw := kw_in (List.mem_append_right _ (tb3 _ (List.mem_of_getElem? (i := 222) (by decide +kernel)))) (by decide +kernel)
theorem kw_72 : Cond.static ⟨"GalleonWave", "apart", "(IIII)I"⟩ ∈ kw := kw_in (List.mem_append_right _ (tb3 _ (List.mem_of_getElem? (i := 223) (by decide +kernel)))) (by decide +kernel)
theorem kw_73 : Cond.code ⟨"GalleonWave$Ship", "output", "()I"⟩ prog_10_method_5_code 1 (some .int) ∈ kw := kw_in (List.mem_append_right _ (tb3 _ (List.mem_of_getElem? (i := 232) (by decide +kernel)))) (by decide +kernel)
theorem kw_74 : Cond.methodLink "GalleonWave" 483 ⟨"GalleonWave$Ship", "output", "()I"⟩ ∈ kw := kw_in (List.mem_append_right _ (tb3 _ (List.mem_of_getElem? (i := 229) (by decide +kernel)))) (by decide +kernel)
theorem kw_75 : Cond.instanceMethod ⟨"GalleonWave$Ship", "output", "()I"⟩ ∈ kw := kw_in (List.mem_append_right _ (tb3 _ (List.mem_of_getElem? (i := 230) (by decide +kernel)))) (by decide +kernel)
theorem kw_76 : Cond.selects "GalleonWave$Ship" ⟨"GalleonWave$Ship", "output", "()I"⟩ ⟨"GalleonWave$Ship", "output", "()I"⟩ ∈ kw := kw_in (List.mem_append_right _ (tb3 _ (List.mem_of_getElem? (i := 231) (by decide +kernel)))) (by decide +kernel)
theorem kw_77 : Cond.fieldLink "GalleonWave" 63 "GalleonWave" "hour" "I" ∈ kw := kw_in (List.mem_append_right _ (tb1 _ (List.mem_of_getElem? (i := 143) (by decide +kernel)))) (by decide +kernel)
theorem kw_78 : Cond.code ⟨"GalleonWave", "isNight", "(I)Z"⟩ prog_1_method_68_code 2 (some .boolean) ∈ kw := kw_in (List.mem_append_right _ (tb3 _ (List.mem_of_getElem? (i := 236) (by decide +kernel)))) (by decide +kernel)
theorem kw_79 : Cond.methodLink "GalleonWave" 486 ⟨"GalleonWave", "isNight", "(I)Z"⟩ ∈ kw := kw_in (List.mem_append_right _ (tb3 _ (List.mem_of_getElem? (i := 234) (by decide +kernel)))) (by decide +kernel)
theorem kw_80 : Cond.static ⟨"GalleonWave", "isNight", "(I)Z"⟩ ∈ kw := kw_in (List.mem_append_right _ (tb3 _ (List.mem_of_getElem? (i := 235) (by decide +kernel)))) (by decide +kernel)
theorem kw_81 : Cond.fieldLink "GalleonWave" 19 "GalleonWave" "ships" "Ljava/util/ArrayList;" ∈ kw := kw_in (List.mem_append_right _ (tb1 _ (List.mem_of_getElem? (i := 140) (by decide +kernel)))) (by decide +kernel)
theorem kw_82 : Cond.methodLink "GalleonWave" 44 ⟨"java/util/ArrayList", "size", "()I"⟩ ∈ kw := kw_in (List.mem_append_right _ (tb1 _ (List.mem_of_getElem? (i := 180) (by decide +kernel)))) (by decide +kernel)
theorem kw_83 : Cond.methodLink "GalleonWave" 169 ⟨"java/util/ArrayList", "get", "(I)Ljava/lang/Object;"⟩ ∈ kw := kw_in (List.mem_append_right _ (tb2 _ (List.mem_of_getElem? (i := 20) (by decide +kernel)))) (by decide +kernel)
theorem kw_84 : Cond.classLink "GalleonWave" 102 "GalleonWave$Ship" ∈ kw := kw_in (List.mem_append_right _ (tb2 _ (List.mem_of_getElem? (i := 55) (by decide +kernel)))) (by decide +kernel)
theorem kw_85 : Cond.fieldLink "GalleonWave" 199 "GalleonWave$Ship" "wasOnAir" "Z" ∈ kw := kw_in (List.mem_append_right _ (tb4 _ (List.mem_of_getElem? (i := 217) (by decide +kernel)))) (by decide +kernel)
theorem kw_86 : Cond.fieldLink "GalleonWave" 196 "GalleonWave$Ship" "channel" "I" ∈ kw := kw_in (List.mem_append_right _ (tb4 _ (List.mem_of_getElem? (i := 214) (by decide +kernel)))) (by decide +kernel)
theorem kw_87 : Cond.code ⟨"GalleonWave", "signalOf", "(LGalleonWave$Ship;LGalleonWave$Town;)I"⟩ prog_1_method_78_code 5 (some .int) ∈ kw := kw_in (List.mem_append_right _ (tb3 _ (List.mem_of_getElem? (i := 221) (by decide +kernel)))) (by decide +kernel)
theorem kw_88 : Cond.methodLink "GalleonWave" 206 ⟨"GalleonWave", "signalOf", "(LGalleonWave$Ship;LGalleonWave$Town;)I"⟩ ∈ kw := kw_in (List.mem_append_right _ (tb3 _ (List.mem_of_getElem? (i := 218) (by decide +kernel)))) (by decide +kernel)
theorem kw_89 : Cond.instanceMethod ⟨"GalleonWave", "signalOf", "(LGalleonWave$Ship;LGalleonWave$Town;)I"⟩ ∈ kw := kw_in (List.mem_append_right _ (tb3 _ (List.mem_of_getElem? (i := 220) (by decide +kernel)))) (by decide +kernel)
theorem kw_90 : Cond.selects "GalleonWave" ⟨"GalleonWave", "signalOf", "(LGalleonWave$Ship;LGalleonWave$Town;)I"⟩ ⟨"GalleonWave", "signalOf", "(LGalleonWave$Ship;LGalleonWave$Town;)I"⟩ ∈ kw := kw_in (List.mem_append_left _ (List.mem_of_getElem? (i := 16) (by decide +kernel))) (by decide +kernel)
theorem kw_91 : Cond.fieldLink "GalleonWave$Land" 34 "GalleonWave$Land" "actCount" "I" ∈ kw := kw_in (List.mem_append_right _ (tb2 _ (List.mem_of_getElem? (i := 229) (by decide +kernel)))) (by decide +kernel)
theorem kw_92 : Cond.code ⟨"GalleonWave$Land", "newestAct", "(I)I"⟩ prog_6_method_3_code 5 (some .int) ∈ kw := kw_in (List.mem_append_right _ (tb4 _ (List.mem_of_getElem? (i := 20) (by decide +kernel)))) (by decide +kernel)
theorem kw_93 : Cond.methodLink "GalleonWave$Land" 37 ⟨"GalleonWave$Land", "newestAct", "(I)I"⟩ ∈ kw := kw_in (List.mem_append_right _ (tb4 _ (List.mem_of_getElem? (i := 17) (by decide +kernel)))) (by decide +kernel)
theorem kw_94 : Cond.initialized "GalleonWave$Land" ∈ kw := kw_in (List.mem_append_right _ (tb1 _ (List.mem_of_getElem? (i := 26) (by decide +kernel)))) (by decide +kernel)
theorem kw_95 : Cond.instanceMethod ⟨"GalleonWave$Land", "newestAct", "(I)I"⟩ ∈ kw := kw_in (List.mem_append_right _ (tb4 _ (List.mem_of_getElem? (i := 18) (by decide +kernel)))) (by decide +kernel)
theorem kw_96 : Cond.selects "GalleonWave$Land" ⟨"GalleonWave$Land", "newestAct", "(I)I"⟩ ⟨"GalleonWave$Land", "newestAct", "(I)I"⟩ ∈ kw := kw_in (List.mem_append_right _ (tb4 _ (List.mem_of_getElem? (i := 19) (by decide +kernel)))) (by decide +kernel)
theorem kw_97 : Cond.fieldLink "GalleonWave" 432 "GalleonWave$Land" "east" "I" ∈ kw := kw_in (List.mem_append_right _ (tb2 _ (List.mem_of_getElem? (i := 221) (by decide +kernel)))) (by decide +kernel)
theorem kw_98 : Cond.fieldLink "GalleonWave" 433 "GalleonWave$Land" "north" "I" ∈ kw := kw_in (List.mem_append_right _ (tb2 _ (List.mem_of_getElem? (i := 223) (by decide +kernel)))) (by decide +kernel)
theorem kw_99 : Cond.code ⟨"GalleonWave$Land", "lineAt", "(I)I"⟩ prog_6_method_4_code 3 (some .int) ∈ kw := kw_in (List.mem_append_right _ (tb4 _ (List.mem_of_getElem? (i := 16) (by decide +kernel)))) (by decide +kernel)
theorem kw_100 : Cond.methodLink "GalleonWave" 74 ⟨"GalleonWave$Land", "lineAt", "(I)I"⟩ ∈ kw := kw_in (List.mem_append_right _ (tb4 _ (List.mem_of_getElem? (i := 13) (by decide +kernel)))) (by decide +kernel)
theorem kw_101 : Cond.instanceMethod ⟨"GalleonWave$Land", "lineAt", "(I)I"⟩ ∈ kw := kw_in (List.mem_append_right _ (tb4 _ (List.mem_of_getElem? (i := 14) (by decide +kernel)))) (by decide +kernel)
theorem kw_102 : Cond.selects "GalleonWave$Land" ⟨"GalleonWave$Land", "lineAt", "(I)I"⟩ ⟨"GalleonWave$Land", "lineAt", "(I)I"⟩ ∈ kw := kw_in (List.mem_append_right _ (tb4 _ (List.mem_of_getElem? (i := 15) (by decide +kernel)))) (by decide +kernel)
theorem kw_103 : Cond.fieldLink "GalleonWave" 10 "GalleonWave" "lands" "Ljava/util/ArrayList;" ∈ kw := kw_in (List.mem_append_right _ (tb1 _ (List.mem_of_getElem? (i := 138) (by decide +kernel)))) (by decide +kernel)
theorem kw_104 : Cond.classLink "GalleonWave" 51 "GalleonWave$Land" ∈ kw := kw_in (List.mem_append_right _ (tb2 _ (List.mem_of_getElem? (i := 214) (by decide +kernel)))) (by decide +kernel)
theorem kw_105 : Cond.code ⟨"GalleonWave", "isInsideLine", "(LGalleonWave$Land;LGalleonWave$Ship;)Z"⟩ prog_1_method_69_code 3 (some .boolean) ∈ kw := kw_in (List.mem_append_right _ (tb4 _ (List.mem_of_getElem? (i := 12) (by decide +kernel)))) (by decide +kernel)
theorem kw_106 : Cond.methodLink "GalleonWave" 319 ⟨"GalleonWave", "isInsideLine", "(LGalleonWave$Land;LGalleonWave$Ship;)Z"⟩ ∈ kw := kw_in (List.mem_append_right _ (tb4 _ (List.mem_of_getElem? (i := 9) (by decide +kernel)))) (by decide +kernel)
theorem kw_107 : Cond.instanceMethod ⟨"GalleonWave", "isInsideLine", "(LGalleonWave$Land;LGalleonWave$Ship;)Z"⟩ ∈ kw := kw_in (List.mem_append_right _ (tb4 _ (List.mem_of_getElem? (i := 11) (by decide +kernel)))) (by decide +kernel)
theorem kw_108 : Cond.selects "GalleonWave" ⟨"GalleonWave", "isInsideLine", "(LGalleonWave$Land;LGalleonWave$Ship;)Z"⟩ ⟨"GalleonWave", "isInsideLine", "(LGalleonWave$Land;LGalleonWave$Ship;)Z"⟩ ∈ kw := kw_in (List.mem_append_left _ (List.mem_of_getElem? (i := 20) (by decide +kernel))) (by decide +kernel)
theorem kw_109 : Cond.fieldLink "GalleonWave" 434 "GalleonWave$Land" "shallows" "I" ∈ kw := kw_in (List.mem_append_right _ (tb2 _ (List.mem_of_getElem? (i := 225) (by decide +kernel)))) (by decide +kernel)
theorem kw_110 : Cond.code ⟨"GalleonWave$Land", "forbids", "(II)Z"⟩ prog_6_method_5_code 4 (some .boolean) ∈ kw := kw_in (List.mem_append_right _ (tb4 _ (List.mem_of_getElem? (i := 32) (by decide +kernel)))) (by decide +kernel)
theorem kw_111 : Cond.methodLink "GalleonWave" 549 ⟨"GalleonWave$Land", "forbids", "(II)Z"⟩ ∈ kw := kw_in (List.mem_append_right _ (tb4 _ (List.mem_of_getElem? (i := 29) (by decide +kernel)))) (by decide +kernel)
theorem kw_112 : Cond.instanceMethod ⟨"GalleonWave$Land", "forbids", "(II)Z"⟩ ∈ kw := kw_in (List.mem_append_right _ (tb4 _ (List.mem_of_getElem? (i := 30) (by decide +kernel)))) (by decide +kernel)
theorem kw_113 : Cond.selects "GalleonWave$Land" ⟨"GalleonWave$Land", "forbids", "(II)Z"⟩ ⟨"GalleonWave$Land", "forbids", "(II)Z"⟩ ∈ kw := kw_in (List.mem_append_right _ (tb4 _ (List.mem_of_getElem? (i := 31) (by decide +kernel)))) (by decide +kernel)
theorem kw_114 : Cond.code ⟨"GalleonWave", "isForbidden", "(II)Z"⟩ prog_1_method_91_code 3 (some .boolean) ∈ kw := kw_in (List.mem_append_right _ (tb4 _ (List.mem_of_getElem? (i := 28) (by decide +kernel)))) (by decide +kernel)
theorem kw_115 : Cond.methodLink "GalleonWave" 498 ⟨"GalleonWave", "isForbidden", "(II)Z"⟩ ∈ kw := kw_in (List.mem_append_right _ (tb4 _ (List.mem_of_getElem? (i := 25) (by decide +kernel)))) (by decide +kernel)
theorem kw_116 : Cond.instanceMethod ⟨"GalleonWave", "isForbidden", "(II)Z"⟩ ∈ kw := kw_in (List.mem_append_right _ (tb4 _ (List.mem_of_getElem? (i := 27) (by decide +kernel)))) (by decide +kernel)
theorem kw_117 : Cond.selects "GalleonWave" ⟨"GalleonWave", "isForbidden", "(II)Z"⟩ ⟨"GalleonWave", "isForbidden", "(II)Z"⟩ ∈ kw := kw_in (List.mem_append_left _ (List.mem_of_getElem? (i := 22) (by decide +kernel))) (by decide +kernel)
theorem kw_118 : Cond.code ⟨"GalleonWave", "addEvidence", "(I)V"⟩ prog_1_method_93_code 2 none ∈ kw := kw_in (List.mem_append_right _ (tb4 _ (List.mem_of_getElem? (i := 68) (by decide +kernel)))) (by decide +kernel)
theorem kw_119 : Cond.methodLink "GalleonWave" 552 ⟨"GalleonWave", "addEvidence", "(I)V"⟩ ∈ kw := kw_in (List.mem_append_right _ (tb4 _ (List.mem_of_getElem? (i := 65) (by decide +kernel)))) (by decide +kernel)
theorem kw_120 : Cond.instanceMethod ⟨"GalleonWave", "addEvidence", "(I)V"⟩ ∈ kw := kw_in (List.mem_append_right _ (tb4 _ (List.mem_of_getElem? (i := 67) (by decide +kernel)))) (by decide +kernel)
theorem kw_121 : Cond.selects "GalleonWave" ⟨"GalleonWave", "addEvidence", "(I)V"⟩ ⟨"GalleonWave", "addEvidence", "(I)V"⟩ ∈ kw := kw_in (List.mem_append_left _ (List.mem_of_getElem? (i := 27) (by decide +kernel))) (by decide +kernel)
theorem kw_122 : Cond.fieldLink "GalleonWave" 22 "GalleonWave" "people" "Ljava/util/ArrayList;" ∈ kw := kw_in (List.mem_append_right _ (tb1 _ (List.mem_of_getElem? (i := 141) (by decide +kernel)))) (by decide +kernel)
theorem kw_123 : Cond.classLink "GalleonWave" 218 "GalleonWave$Person" ∈ kw := kw_in (List.mem_append_right _ (tb2 _ (List.mem_of_getElem? (i := 34) (by decide +kernel)))) (by decide +kernel)
theorem kw_124 : Cond.fieldLink "GalleonWave" 227 "GalleonWave$Person" "aboard" "I" ∈ kw := kw_in (List.mem_append_right _ (tb5 _ (List.mem_of_getElem? (i := 178) (by decide +kernel)))) (by decide +kernel)
theorem kw_125 : Cond.code ⟨"GalleonWave", "isPerson", "(I)Z"⟩ prog_1_method_62_code 2 (some .boolean) ∈ kw := kw_in (List.mem_append_right _ (tb2 _ (List.mem_of_getElem? (i := 54) (by decide +kernel)))) (by decide +kernel)
theorem kw_126 : Cond.methodLink "GalleonWave" 415 ⟨"GalleonWave", "isPerson", "(I)Z"⟩ ∈ kw := kw_in (List.mem_append_right _ (tb2 _ (List.mem_of_getElem? (i := 51) (by decide +kernel)))) (by decide +kernel)
theorem kw_127 : Cond.instanceMethod ⟨"GalleonWave", "isPerson", "(I)Z"⟩ ∈ kw := kw_in (List.mem_append_right _ (tb2 _ (List.mem_of_getElem? (i := 53) (by decide +kernel)))) (by decide +kernel)
theorem kw_128 : Cond.selects "GalleonWave" ⟨"GalleonWave", "isPerson", "(I)Z"⟩ ⟨"GalleonWave", "isPerson", "(I)Z"⟩ ∈ kw := kw_in (List.mem_append_left _ (List.mem_of_getElem? (i := 4) (by decide +kernel))) (by decide +kernel)
theorem kw_129 : Cond.fieldLink "GalleonWave" 518 "GalleonWave$Person" "isSpeaker" "Z" ∈ kw := kw_in (List.mem_append_right _ (tb5 _ (List.mem_of_getElem? (i := 176) (by decide +kernel)))) (by decide +kernel)
theorem kw_130 : Cond.fieldLink "GalleonWave$Spots" 20 "GalleonWave$Spots" "left" "I" ∈ kw := kw_in (List.mem_append_right _ (tb4 _ (List.mem_of_getElem? (i := 175) (by decide +kernel)))) (by decide +kernel)
theorem kw_131 : Cond.fieldLink "GalleonWave$Spots" 23 "GalleonWave$Spots" "earned" "I" ∈ kw := kw_in (List.mem_append_right _ (tb4 _ (List.mem_of_getElem? (i := 179) (by decide +kernel)))) (by decide +kernel)
theorem kw_132 : Cond.code ⟨"GalleonWave", "disturbance", "(IILGalleonWave$Town;)I"⟩ prog_1_method_77_code 7 (some .int) ∈ kw := kw_in (List.mem_append_right _ (tb4 _ (List.mem_of_getElem? (i := 0) (by decide +kernel)))) (by decide +kernel)
theorem kw_133 : Cond.methodLink "GalleonWave" 477 ⟨"GalleonWave", "disturbance", "(IILGalleonWave$Town;)I"⟩ ∈ kw := kw_in (List.mem_append_right _ (tb3 _ (List.mem_of_getElem? (i := 237) (by decide +kernel)))) (by decide +kernel)
theorem kw_134 : Cond.instanceMethod ⟨"GalleonWave", "disturbance", "(IILGalleonWave$Town;)I"⟩ ∈ kw := kw_in (List.mem_append_right _ (tb3 _ (List.mem_of_getElem? (i := 239) (by decide +kernel)))) (by decide +kernel)
theorem kw_135 : Cond.selects "GalleonWave" ⟨"GalleonWave", "disturbance", "(IILGalleonWave$Town;)I"⟩ ⟨"GalleonWave", "disturbance", "(IILGalleonWave$Town;)I"⟩ ∈ kw := kw_in (List.mem_append_left _ (List.mem_of_getElem? (i := 17) (by decide +kernel))) (by decide +kernel)
theorem kw_136 : Cond.code ⟨"GalleonWave$Ship", "burnFuel", "()V"⟩ prog_10_method_2_code 3 none ∈ kw := kw_in (List.mem_append_right _ (tb3 _ (List.mem_of_getElem? (i := 196) (by decide +kernel)))) (by decide +kernel)
theorem kw_137 : Cond.methodLink "GalleonWave" 464 ⟨"GalleonWave$Ship", "burnFuel", "()V"⟩ ∈ kw := kw_in (List.mem_append_right _ (tb3 _ (List.mem_of_getElem? (i := 193) (by decide +kernel)))) (by decide +kernel)
theorem kw_138 : Cond.instanceMethod ⟨"GalleonWave$Ship", "burnFuel", "()V"⟩ ∈ kw := kw_in (List.mem_append_right _ (tb3 _ (List.mem_of_getElem? (i := 194) (by decide +kernel)))) (by decide +kernel)
theorem kw_139 : Cond.selects "GalleonWave$Ship" ⟨"GalleonWave$Ship", "burnFuel", "()V"⟩ ⟨"GalleonWave$Ship", "burnFuel", "()V"⟩ ∈ kw := kw_in (List.mem_append_right _ (tb3 _ (List.mem_of_getElem? (i := 195) (by decide +kernel)))) (by decide +kernel)
theorem kw_140 : Cond.code ⟨"GalleonWave$Ship", "canSend", "()Z"⟩ prog_10_method_4_code 1 (some .boolean) ∈ kw := kw_in (List.mem_append_right _ (tb3 _ (List.mem_of_getElem? (i := 208) (by decide +kernel)))) (by decide +kernel)
theorem kw_141 : Cond.methodLink "GalleonWave" 467 ⟨"GalleonWave$Ship", "canSend", "()Z"⟩ ∈ kw := kw_in (List.mem_append_right _ (tb3 _ (List.mem_of_getElem? (i := 205) (by decide +kernel)))) (by decide +kernel)
theorem kw_142 : Cond.instanceMethod ⟨"GalleonWave$Ship", "canSend", "()Z"⟩ ∈ kw := kw_in (List.mem_append_right _ (tb3 _ (List.mem_of_getElem? (i := 206) (by decide +kernel)))) (by decide +kernel)
theorem kw_143 : Cond.selects "GalleonWave$Ship" ⟨"GalleonWave$Ship", "canSend", "()Z"⟩ ⟨"GalleonWave$Ship", "canSend", "()Z"⟩ ∈ kw := kw_in (List.mem_append_right _ (tb3 _ (List.mem_of_getElem? (i := 207) (by decide +kernel)))) (by decide +kernel)
theorem kw_144 : Cond.code ⟨"GalleonWave", "countCrew", "(I)I"⟩ prog_1_method_94_code 4 (some .int) ∈ kw := kw_in (List.mem_append_right _ (tb2 _ (List.mem_of_getElem? (i := 163) (by decide +kernel)))) (by decide +kernel)
theorem kw_145 : Cond.methodLink "GalleonWave" 188 ⟨"GalleonWave", "countCrew", "(I)I"⟩ ∈ kw := kw_in (List.mem_append_right _ (tb2 _ (List.mem_of_getElem? (i := 160) (by decide +kernel)))) (by decide +kernel)
theorem kw_146 : Cond.instanceMethod ⟨"GalleonWave", "countCrew", "(I)I"⟩ ∈ kw := kw_in (List.mem_append_right _ (tb2 _ (List.mem_of_getElem? (i := 162) (by decide +kernel)))) (by decide +kernel)
theorem kw_147 : Cond.selects "GalleonWave" ⟨"GalleonWave", "countCrew", "(I)I"⟩ ⟨"GalleonWave", "countCrew", "(I)I"⟩ ∈ kw := kw_in (List.mem_append_left _ (List.mem_of_getElem? (i := 6) (by decide +kernel))) (by decide +kernel)
theorem kw_148 : Cond.fieldLink "GalleonWave" 32 "GalleonWave" "windWay" "C" ∈ kw := kw_in (List.mem_append_right _ (tb1 _ (List.mem_of_getElem? (i := 145) (by decide +kernel)))) (by decide +kernel)
theorem kw_149 : Cond.fieldLink "GalleonWave" 126 "GalleonWave$Ship" "anchor" "LGalleonWave$Anchor;" ∈ kw := kw_in (List.mem_append_right _ (tb4 _ (List.mem_of_getElem? (i := 191) (by decide +kernel)))) (by decide +kernel)
theorem kw_150 : Cond.fieldLink "GalleonWave" 130 "GalleonWave$Anchor" "isDown" "Z" ∈ kw := kw_in (List.mem_append_right _ (tb4 _ (List.mem_of_getElem? (i := 138) (by decide +kernel)))) (by decide +kernel)
theorem kw_151 : Cond.fieldLink "GalleonWave" 85 "GalleonWave" "windForce" "I" ∈ kw := kw_in (List.mem_append_right _ (tb1 _ (List.mem_of_getElem? (i := 144) (by decide +kernel)))) (by decide +kernel)
theorem kw_152 : Cond.code ⟨"GalleonWave", "windEast", "()I"⟩ prog_1_method_89_code 1 (some .int) ∈ kw := kw_in (List.mem_append_right _ (tb4 _ (List.mem_of_getElem? (i := 105) (by decide +kernel)))) (by decide +kernel)
theorem kw_153 : Cond.methodLink "GalleonWave" 540 ⟨"GalleonWave", "windEast", "()I"⟩ ∈ kw := kw_in (List.mem_append_right _ (tb4 _ (List.mem_of_getElem? (i := 102) (by decide +kernel)))) (by decide +kernel)
theorem kw_154 : Cond.instanceMethod ⟨"GalleonWave", "windEast", "()I"⟩ ∈ kw := kw_in (List.mem_append_right _ (tb4 _ (List.mem_of_getElem? (i := 104) (by decide +kernel)))) (by decide +kernel)
theorem kw_155 : Cond.selects "GalleonWave" ⟨"GalleonWave", "windEast", "()I"⟩ ⟨"GalleonWave", "windEast", "()I"⟩ ∈ kw := kw_in (List.mem_append_left _ (List.mem_of_getElem? (i := 34) (by decide +kernel))) (by decide +kernel)
theorem kw_156 : Cond.fieldLink "GalleonWave" 88 "GalleonWave" "tideEast" "I" ∈ kw := kw_in (List.mem_append_right _ (tb1 _ (List.mem_of_getElem? (i := 146) (by decide +kernel)))) (by decide +kernel)
theorem kw_157 : Cond.code ⟨"GalleonWave", "windNorth", "()I"⟩ prog_1_method_90_code 1 (some .int) ∈ kw := kw_in (List.mem_append_right _ (tb4 _ (List.mem_of_getElem? (i := 109) (by decide +kernel)))) (by decide +kernel)
theorem kw_158 : Cond.methodLink "GalleonWave" 543 ⟨"GalleonWave", "windNorth", "()I"⟩ ∈ kw := kw_in (List.mem_append_right _ (tb4 _ (List.mem_of_getElem? (i := 106) (by decide +kernel)))) (by decide +kernel)
theorem kw_159 : Cond.instanceMethod ⟨"GalleonWave", "windNorth", "()I"⟩ ∈ kw := kw_in (List.mem_append_right _ (tb4 _ (List.mem_of_getElem? (i := 108) (by decide +kernel)))) (by decide +kernel)
theorem kw_160 : Cond.selects "GalleonWave" ⟨"GalleonWave", "windNorth", "()I"⟩ ⟨"GalleonWave", "windNorth", "()I"⟩ ∈ kw := kw_in (List.mem_append_left _ (List.mem_of_getElem? (i := 35) (by decide +kernel))) (by decide +kernel)
theorem kw_161 : Cond.fieldLink "GalleonWave" 91 "GalleonWave" "tideNorth" "I" ∈ kw := kw_in (List.mem_append_right _ (tb1 _ (List.mem_of_getElem? (i := 147) (by decide +kernel)))) (by decide +kernel)
theorem kw_162 : Cond.code ⟨"GalleonWave$Ship", "moveBy", "(II)V"⟩ prog_10_method_7_code 3 none ∈ kw := kw_in (List.mem_append_right _ (tb4 _ (List.mem_of_getElem? (i := 113) (by decide +kernel)))) (by decide +kernel)
theorem kw_163 : Cond.methodLink "GalleonWave" 546 ⟨"GalleonWave$Ship", "moveBy", "(II)V"⟩ ∈ kw := kw_in (List.mem_append_right _ (tb4 _ (List.mem_of_getElem? (i := 110) (by decide +kernel)))) (by decide +kernel)
theorem kw_164 : Cond.instanceMethod ⟨"GalleonWave$Ship", "moveBy", "(II)V"⟩ ∈ kw := kw_in (List.mem_append_right _ (tb4 _ (List.mem_of_getElem? (i := 111) (by decide +kernel)))) (by decide +kernel)
theorem kw_165 : Cond.selects "GalleonWave$Ship" ⟨"GalleonWave$Ship", "moveBy", "(II)V"⟩ ⟨"GalleonWave$Ship", "moveBy", "(II)V"⟩ ∈ kw := kw_in (List.mem_append_right _ (tb4 _ (List.mem_of_getElem? (i := 112) (by decide +kernel)))) (by decide +kernel)
theorem kw_166 : Cond.fieldLink "GalleonWave" 537 "GalleonWave$Anchor" "holds" "I" ∈ kw := kw_in (List.mem_append_right _ (tb4 _ (List.mem_of_getElem? (i := 140) (by decide +kernel)))) (by decide +kernel)
theorem kw_167 : Cond.fieldLink "GalleonWave" 185 "GalleonWave$Ship" "salt" "I" ∈ kw := kw_in (List.mem_append_right _ (tb4 _ (List.mem_of_getElem? (i := 209) (by decide +kernel)))) (by decide +kernel)
theorem kw_168 : Cond.code ⟨"GalleonWave$Ship", "feed", "(I)V"⟩ prog_10_method_6_code 2 none ∈ kw := kw_in (List.mem_append_right _ (tb4 _ (List.mem_of_getElem? (i := 84) (by decide +kernel)))) (by decide +kernel)
theorem kw_169 : Cond.methodLink "GalleonWave" 528 ⟨"GalleonWave$Ship", "feed", "(I)V"⟩ ∈ kw := kw_in (List.mem_append_right _ (tb4 _ (List.mem_of_getElem? (i := 81) (by decide +kernel)))) (by decide +kernel)
theorem kw_170 : Cond.instanceMethod ⟨"GalleonWave$Ship", "feed", "(I)V"⟩ ∈ kw := kw_in (List.mem_append_right _ (tb4 _ (List.mem_of_getElem? (i := 82) (by decide +kernel)))) (by decide +kernel)
theorem kw_171 : Cond.selects "GalleonWave$Ship" ⟨"GalleonWave$Ship", "feed", "(I)V"⟩ ⟨"GalleonWave$Ship", "feed", "(I)V"⟩ ∈ kw := kw_in (List.mem_append_right _ (tb4 _ (List.mem_of_getElem? (i := 83) (by decide +kernel)))) (by decide +kernel)
theorem kw_172 : Cond.fieldLink "GalleonWave" 531 "GalleonWave$Person" "hoursAboard" "I" ∈ kw := kw_in (List.mem_append_right _ (tb5 _ (List.mem_of_getElem? (i := 180) (by decide +kernel)))) (by decide +kernel)
theorem inJx4a65c : ∀ w ∈ u_ws RJx4a65c TJx4a65c 3, w ∈ kw := fun w h => kw_in ((by decide +kernel : ∀ w ∈ u_ws RJx4a65c TJx4a65c 3, w ∈ lw_tbl) w h) ((by decide +kernel : ∀ w ∈ u_ws RJx4a65c TJx4a65c 3, kok w = true) w h)
theorem inX0 : ∀ w ∈ u_ws RX0 TX0 5, w ∈ kw := fun w h => kw_in ((by decide +kernel : ∀ w ∈ u_ws RX0 TX0 5, w ∈ lw_tbl) w h) ((by decide +kernel : ∀ w ∈ u_ws RX0 TX0 5, kok w = true) w h)
theorem inX10 : ∀ w ∈ u_ws RX10 TX10 5, w ∈ kw := fun w h => kw_in ((by decide +kernel : ∀ w ∈ u_ws RX10 TX10 5, w ∈ lw_tbl) w h) ((by decide +kernel : ∀ w ∈ u_ws RX10 TX10 5, kok w = true) w h)
theorem inX11 : ∀ w ∈ u_ws RX11 TX11 11, w ∈ kw := fun w h => kw_in ((by decide +kernel : ∀ w ∈ u_ws RX11 TX11 11, w ∈ lw_tbl) w h) ((by decide +kernel : ∀ w ∈ u_ws RX11 TX11 11, kok w = true) w h)
theorem inX2 : ∀ w ∈ u_ws RX2 TX2 4, w ∈ kw := fun w h => kw_in ((by decide +kernel : ∀ w ∈ u_ws RX2 TX2 4, w ∈ lw_tbl) w h) ((by decide +kernel : ∀ w ∈ u_ws RX2 TX2 4, kok w = true) w h)
theorem inX4 : ∀ w ∈ u_ws RX4 TX4 11, w ∈ kw := fun w h => kw_in ((by decide +kernel : ∀ w ∈ u_ws RX4 TX4 11, w ∈ lw_tbl) w h) ((by decide +kernel : ∀ w ∈ u_ws RX4 TX4 11, kok w = true) w h)
theorem inX5 : ∀ w ∈ u_ws RX5 TX5 5, w ∈ kw := fun w h => kw_in ((by decide +kernel : ∀ w ∈ u_ws RX5 TX5 5, w ∈ lw_tbl) w h) ((by decide +kernel : ∀ w ∈ u_ws RX5 TX5 5, kok w = true) w h)
theorem inX8 : ∀ w ∈ u_ws RX8 TX8 17, w ∈ kw := fun w h => kw_in ((by decide +kernel : ∀ w ∈ u_ws RX8 TX8 17, w ∈ lw_tbl) w h) ((by decide +kernel : ∀ w ∈ u_ws RX8 TX8 17, kok w = true) w h)
theorem inX9 : ∀ w ∈ u_ws RX9 TX9 4, w ∈ kw := fun w h => kw_in ((by decide +kernel : ∀ w ∈ u_ws RX9 TX9 4, w ∈ lw_tbl) w h) ((by decide +kernel : ∀ w ∈ u_ws RX9 TX9 4, kok w = true) w h)
theorem ydJ15_checkIndex_7cf53 : (yJ15_checkIndex_7cf53.cls ≠ "java/lang/invoke/MethodHandle" ∧ yJ15_checkIndex_7cf53.cls ≠ "java/lang/invoke/VarHandle") ∧ (parseMethodDescriptor yJ15_checkIndex_7cf53.desc).map (fun d => d.parameters.length) = some 2 := by decide +kernel
theorem ydJ3_checkIndex_8e157 : (yJ3_checkIndex_8e157.cls ≠ "java/lang/invoke/MethodHandle" ∧ yJ3_checkIndex_8e157.cls ≠ "java/lang/invoke/VarHandle") ∧ (parseMethodDescriptor yJ3_checkIndex_8e157.desc).map (fun d => d.parameters.length) = some 3 := by decide +kernel
theorem ydJx4a65c_elementData_915e3 : (yJx4a65c_elementData_915e3.cls ≠ "java/lang/invoke/MethodHandle" ∧ yJx4a65c_elementData_915e3.cls ≠ "java/lang/invoke/VarHandle") ∧ (parseMethodDescriptor yJx4a65c_elementData_915e3.desc).map (fun d => d.parameters.length) = some 1 := by decide +kernel
theorem ydJx4a65c_get_915e3 : (yJx4a65c_get_915e3.cls ≠ "java/lang/invoke/MethodHandle" ∧ yJx4a65c_get_915e3.cls ≠ "java/lang/invoke/VarHandle") ∧ (parseMethodDescriptor yJx4a65c_get_915e3.desc).map (fun d => d.parameters.length) = some 1 := by decide +kernel
theorem ydJx4a65c_size_8abf5 : (yJx4a65c_size_8abf5.cls ≠ "java/lang/invoke/MethodHandle" ∧ yJx4a65c_size_8abf5.cls ≠ "java/lang/invoke/VarHandle") ∧ (parseMethodDescriptor yJx4a65c_size_8abf5.desc).map (fun d => d.parameters.length) = some 0 := by decide +kernel
theorem ydX11_addEvidence : (yX11_addEvidence.cls ≠ "java/lang/invoke/MethodHandle" ∧ yX11_addEvidence.cls ≠ "java/lang/invoke/VarHandle") ∧ (parseMethodDescriptor yX11_addEvidence.desc).map (fun d => d.parameters.length) = some 1 := by decide +kernel
theorem ydX11_apart : (yX11_apart.cls ≠ "java/lang/invoke/MethodHandle" ∧ yX11_apart.cls ≠ "java/lang/invoke/VarHandle") ∧ (parseMethodDescriptor yX11_apart.desc).map (fun d => d.parameters.length) = some 4 := by decide +kernel
theorem ydX11_countCrew : (yX11_countCrew.cls ≠ "java/lang/invoke/MethodHandle" ∧ yX11_countCrew.cls ≠ "java/lang/invoke/VarHandle") ∧ (parseMethodDescriptor yX11_countCrew.desc).map (fun d => d.parameters.length) = some 1 := by decide +kernel
theorem ydX11_disturbance : (yX11_disturbance.cls ≠ "java/lang/invoke/MethodHandle" ∧ yX11_disturbance.cls ≠ "java/lang/invoke/VarHandle") ∧ (parseMethodDescriptor yX11_disturbance.desc).map (fun d => d.parameters.length) = some 3 := by decide +kernel
theorem ydX11_isForbidden : (yX11_isForbidden.cls ≠ "java/lang/invoke/MethodHandle" ∧ yX11_isForbidden.cls ≠ "java/lang/invoke/VarHandle") ∧ (parseMethodDescriptor yX11_isForbidden.desc).map (fun d => d.parameters.length) = some 2 := by decide +kernel
theorem ydX11_isInsideLine : (yX11_isInsideLine.cls ≠ "java/lang/invoke/MethodHandle" ∧ yX11_isInsideLine.cls ≠ "java/lang/invoke/VarHandle") ∧ (parseMethodDescriptor yX11_isInsideLine.desc).map (fun d => d.parameters.length) = some 2 := by decide +kernel
theorem ydX11_isNight : (yX11_isNight.cls ≠ "java/lang/invoke/MethodHandle" ∧ yX11_isNight.cls ≠ "java/lang/invoke/VarHandle") ∧ (parseMethodDescriptor yX11_isNight.desc).map (fun d => d.parameters.length) = some 1 := by decide +kernel
theorem ydX11_isPerson : (yX11_isPerson.cls ≠ "java/lang/invoke/MethodHandle" ∧ yX11_isPerson.cls ≠ "java/lang/invoke/VarHandle") ∧ (parseMethodDescriptor yX11_isPerson.desc).map (fun d => d.parameters.length) = some 1 := by decide +kernel
theorem ydX11_signalOf : (yX11_signalOf.cls ≠ "java/lang/invoke/MethodHandle" ∧ yX11_signalOf.cls ≠ "java/lang/invoke/VarHandle") ∧ (parseMethodDescriptor yX11_signalOf.desc).map (fun d => d.parameters.length) = some 2 := by decide +kernel
theorem ydX11_windEast : (yX11_windEast.cls ≠ "java/lang/invoke/MethodHandle" ∧ yX11_windEast.cls ≠ "java/lang/invoke/VarHandle") ∧ (parseMethodDescriptor yX11_windEast.desc).map (fun d => d.parameters.length) = some 0 := by decide +kernel
theorem ydX11_windNorth : (yX11_windNorth.cls ≠ "java/lang/invoke/MethodHandle" ∧ yX11_windNorth.cls ≠ "java/lang/invoke/VarHandle") ∧ (parseMethodDescriptor yX11_windNorth.desc).map (fun d => d.parameters.length) = some 0 := by decide +kernel
theorem ydX11_within : (yX11_within.cls ≠ "java/lang/invoke/MethodHandle" ∧ yX11_within.cls ≠ "java/lang/invoke/VarHandle") ∧ (parseMethodDescriptor yX11_within.desc).map (fun d => d.parameters.length) = some 1 := by decide +kernel
theorem ydX2_canRun : (yX2_canRun.cls ≠ "java/lang/invoke/MethodHandle" ∧ yX2_canRun.cls ≠ "java/lang/invoke/VarHandle") ∧ (parseMethodDescriptor yX2_canRun.desc).map (fun d => d.parameters.length) = some 1 := by decide +kernel
theorem ydX4_forbids : (yX4_forbids.cls ≠ "java/lang/invoke/MethodHandle" ∧ yX4_forbids.cls ≠ "java/lang/invoke/VarHandle") ∧ (parseMethodDescriptor yX4_forbids.desc).map (fun d => d.parameters.length) = some 2 := by decide +kernel
theorem ydX4_lineAt : (yX4_lineAt.cls ≠ "java/lang/invoke/MethodHandle" ∧ yX4_lineAt.cls ≠ "java/lang/invoke/VarHandle") ∧ (parseMethodDescriptor yX4_lineAt.desc).map (fun d => d.parameters.length) = some 1 := by decide +kernel
theorem ydX4_newestAct : (yX4_newestAct.cls ≠ "java/lang/invoke/MethodHandle" ∧ yX4_newestAct.cls ≠ "java/lang/invoke/VarHandle") ∧ (parseMethodDescriptor yX4_newestAct.desc).map (fun d => d.parameters.length) = some 1 := by decide +kernel
theorem ydX8_burnFuel : (yX8_burnFuel.cls ≠ "java/lang/invoke/MethodHandle" ∧ yX8_burnFuel.cls ≠ "java/lang/invoke/VarHandle") ∧ (parseMethodDescriptor yX8_burnFuel.desc).map (fun d => d.parameters.length) = some 0 := by decide +kernel
theorem ydX8_canSend : (yX8_canSend.cls ≠ "java/lang/invoke/MethodHandle" ∧ yX8_canSend.cls ≠ "java/lang/invoke/VarHandle") ∧ (parseMethodDescriptor yX8_canSend.desc).map (fun d => d.parameters.length) = some 0 := by decide +kernel
theorem ydX8_feed : (yX8_feed.cls ≠ "java/lang/invoke/MethodHandle" ∧ yX8_feed.cls ≠ "java/lang/invoke/VarHandle") ∧ (parseMethodDescriptor yX8_feed.desc).map (fun d => d.parameters.length) = some 1 := by decide +kernel
theorem ydX8_moveBy : (yX8_moveBy.cls ≠ "java/lang/invoke/MethodHandle" ∧ yX8_moveBy.cls ≠ "java/lang/invoke/VarHandle") ∧ (parseMethodDescriptor yX8_moveBy.desc).map (fun d => d.parameters.length) = some 2 := by decide +kernel
theorem ydX8_output : (yX8_output.cls ≠ "java/lang/invoke/MethodHandle" ∧ yX8_output.cls ≠ "java/lang/invoke/VarHandle") ∧ (parseMethodDescriptor yX8_output.desc).map (fun d => d.parameters.length) = some 0 := by decide +kernel
theorem ydX8_powerOf : (yX8_powerOf.cls ≠ "java/lang/invoke/MethodHandle" ∧ yX8_powerOf.cls ≠ "java/lang/invoke/VarHandle") ∧ (parseMethodDescriptor yX8_powerOf.desc).map (fun d => d.parameters.length) = some 1 := by decide +kernel
theorem dX2_canRun_0 : decode cX2_canRun 0 = .ok (.aload_n 0, 1) := by decide +kernel
theorem dX2_canRun_1 : decode cX2_canRun 1 = .ok (.getfield 16, 3) := by decide +kernel
theorem dX2_canRun_4 : decode cX2_canRun 4 = .ok (.ifCond .eq 26, 3) := by decide +kernel
theorem dX2_canRun_7 : decode cX2_canRun 7 = .ok (.aload_n 0, 1) := by decide +kernel
theorem dX2_canRun_8 : decode cX2_canRun 8 = .ok (.getfield 20, 3) := by decide +kernel
theorem dX2_canRun_11 : decode cX2_canRun 11 = .ok (.aload_n 0, 1) := by decide +kernel
theorem dX2_canRun_12 : decode cX2_canRun 12 = .ok (.getfield 13, 3) := by decide +kernel
theorem dX2_canRun_15 : decode cX2_canRun 15 = .ok (.if_icmp .ge 15, 3) := by decide +kernel
theorem dX2_canRun_18 : decode cX2_canRun 18 = .ok (.iload_n 1, 1) := by decide +kernel
theorem dX2_canRun_19 : decode cX2_canRun 19 = .ok (.aload_n 0, 1) := by decide +kernel
theorem dX2_canRun_20 : decode cX2_canRun 20 = .ok (.getfield 7, 3) := by decide +kernel
theorem dX2_canRun_23 : decode cX2_canRun 23 = .ok (.if_icmp .lt 7, 3) := by decide +kernel
theorem dX2_canRun_26 : decode cX2_canRun 26 = .ok (.iconst 1, 1) := by decide +kernel
theorem dX2_canRun_27 : decode cX2_canRun 27 = .ok (.goto 4, 3) := by decide +kernel
theorem dX2_canRun_30 : decode cX2_canRun 30 = .ok (.iconst 0, 1) := by decide +kernel
theorem dX2_canRun_31 : decode cX2_canRun 31 = .ok (.ireturn, 1) := by decide +kernel
theorem dX4_newestAct_0 : decode cX4_newestAct 0 = .ok (.iconst (-1), 1) := by decide +kernel
theorem dX4_newestAct_1 : decode cX4_newestAct 1 = .ok (.istore_n 2, 1) := by decide +kernel
theorem dX4_newestAct_2 : decode cX4_newestAct 2 = .ok (.iconst 0, 1) := by decide +kernel
theorem dX4_newestAct_3 : decode cX4_newestAct 3 = .ok (.istore_n 3, 1) := by decide +kernel
theorem dX4_newestAct_4 : decode cX4_newestAct 4 = .ok (.iconst 0, 1) := by decide +kernel
theorem dX4_newestAct_5 : decode cX4_newestAct 5 = .ok (.istore 4, 2) := by decide +kernel
theorem dX4_newestAct_7 : decode cX4_newestAct 7 = .ok (.iload 4, 2) := by decide +kernel
theorem dX4_newestAct_9 : decode cX4_newestAct 9 = .ok (.aload_n 0, 1) := by decide +kernel
theorem dX4_newestAct_10 : decode cX4_newestAct 10 = .ok (.getfield 34, 3) := by decide +kernel
theorem dX4_newestAct_13 : decode cX4_newestAct 13 = .ok (.if_icmp .ge 49, 3) := by decide +kernel
theorem dX4_newestAct_62 : decode cX4_newestAct 62 = .ok (.iload_n 2, 1) := by decide +kernel
theorem dX4_newestAct_63 : decode cX4_newestAct 63 = .ok (.ireturn, 1) := by decide +kernel
theorem dX4_lineAt_0 : decode cX4_lineAt 0 = .ok (.aload_n 0, 1) := by decide +kernel
theorem dX4_lineAt_1 : decode cX4_lineAt 1 = .ok (.iload_n 1, 1) := by decide +kernel
theorem dX4_lineAt_2 : decode cX4_lineAt 2 = .ok (.invokevirtual 37, 3) := by decide +kernel
theorem dX4_lineAt_5 : decode cX4_lineAt 5 = .ok (.istore_n 2, 1) := by decide +kernel
theorem dX4_lineAt_6 : decode cX4_lineAt 6 = .ok (.iload_n 2, 1) := by decide +kernel
theorem dX4_lineAt_7 : decode cX4_lineAt 7 = .ok (.ifCond .ge 8, 3) := by decide +kernel
theorem dX4_lineAt_10 : decode cX4_lineAt 10 = .ok (.bipush 30, 2) := by decide +kernel
theorem dX4_lineAt_12 : decode cX4_lineAt 12 = .ok (.goto 9, 3) := by decide +kernel
theorem dX4_lineAt_21 : decode cX4_lineAt 21 = .ok (.ireturn, 1) := by decide +kernel
theorem dX4_forbids_0 : decode cX4_forbids 0 = .ok (.aload_n 0, 1) := by decide +kernel
theorem dX4_forbids_1 : decode cX4_forbids 1 = .ok (.iload_n 2, 1) := by decide +kernel
theorem dX4_forbids_2 : decode cX4_forbids 2 = .ok (.invokevirtual 37, 3) := by decide +kernel
theorem dX4_forbids_5 : decode cX4_forbids 5 = .ok (.istore_n 3, 1) := by decide +kernel
theorem dX4_forbids_6 : decode cX4_forbids 6 = .ok (.iload_n 3, 1) := by decide +kernel
theorem dX4_forbids_7 : decode cX4_forbids 7 = .ok (.ifCond .lt 18, 3) := by decide +kernel
theorem dX4_forbids_25 : decode cX4_forbids 25 = .ok (.iconst 0, 1) := by decide +kernel
theorem dX4_forbids_26 : decode cX4_forbids 26 = .ok (.ireturn, 1) := by decide +kernel
theorem dX8_burnFuel_0 : decode cX8_burnFuel 0 = .ok (.aload_n 0, 1) := by decide +kernel
theorem dX8_burnFuel_1 : decode cX8_burnFuel 1 = .ok (.iconst 0, 1) := by decide +kernel
theorem dX8_burnFuel_2 : decode cX8_burnFuel 2 = .ok (.putfield 54, 3) := by decide +kernel
theorem dX8_burnFuel_5 : decode cX8_burnFuel 5 = .ok (.iconst 0, 1) := by decide +kernel
theorem dX8_burnFuel_6 : decode cX8_burnFuel 6 = .ok (.istore_n 1, 1) := by decide +kernel
theorem dX8_burnFuel_7 : decode cX8_burnFuel 7 = .ok (.iload_n 1, 1) := by decide +kernel
theorem dX8_burnFuel_8 : decode cX8_burnFuel 8 = .ok (.aload_n 0, 1) := by decide +kernel
theorem dX8_burnFuel_9 : decode cX8_burnFuel 9 = .ok (.getfield 23, 3) := by decide +kernel
theorem dX8_burnFuel_12 : decode cX8_burnFuel 12 = .ok (.invokevirtual 57, 3) := by decide +kernel
theorem dX8_burnFuel_15 : decode cX8_burnFuel 15 = .ok (.if_icmp .ge 67, 3) := by decide +kernel
theorem dX8_burnFuel_18 : decode cX8_burnFuel 18 = .ok (.aload_n 0, 1) := by decide +kernel
theorem dX8_burnFuel_19 : decode cX8_burnFuel 19 = .ok (.getfield 23, 3) := by decide +kernel
theorem dX8_burnFuel_22 : decode cX8_burnFuel 22 = .ok (.iload_n 1, 1) := by decide +kernel
theorem dX8_burnFuel_23 : decode cX8_burnFuel 23 = .ok (.invokevirtual 61, 3) := by decide +kernel
theorem dX8_burnFuel_26 : decode cX8_burnFuel 26 = .ok (.checkcast 65, 3) := by decide +kernel
theorem dX8_burnFuel_29 : decode cX8_burnFuel 29 = .ok (.astore_n 2, 1) := by decide +kernel
theorem dX8_burnFuel_30 : decode cX8_burnFuel 30 = .ok (.aload_n 2, 1) := by decide +kernel
theorem dX8_burnFuel_31 : decode cX8_burnFuel 31 = .ok (.aload_n 0, 1) := by decide +kernel
theorem dX8_burnFuel_32 : decode cX8_burnFuel 32 = .ok (.getfield 67, 3) := by decide +kernel
theorem dX8_burnFuel_35 : decode cX8_burnFuel 35 = .ok (.invokevirtual 70, 3) := by decide +kernel
theorem dX8_burnFuel_38 : decode cX8_burnFuel 38 = .ok (.ifCond .eq 38, 3) := by decide +kernel
theorem dX8_burnFuel_41 : decode cX8_burnFuel 41 = .ok (.aload_n 0, 1) := by decide +kernel
theorem dX8_burnFuel_42 : decode cX8_burnFuel 42 = .ok (.dup, 1) := by decide +kernel
theorem dX8_burnFuel_43 : decode cX8_burnFuel 43 = .ok (.getfield 67, 3) := by decide +kernel
theorem dX8_burnFuel_46 : decode cX8_burnFuel 46 = .ok (.aload_n 2, 1) := by decide +kernel
theorem dX8_burnFuel_47 : decode cX8_burnFuel 47 = .ok (.getfield 74, 3) := by decide +kernel
theorem dX8_burnFuel_50 : decode cX8_burnFuel 50 = .ok (.isub, 1) := by decide +kernel
theorem dX8_burnFuel_51 : decode cX8_burnFuel 51 = .ok (.putfield 67, 3) := by decide +kernel
theorem dX8_burnFuel_54 : decode cX8_burnFuel 54 = .ok (.aload_n 2, 1) := by decide +kernel
theorem dX8_burnFuel_55 : decode cX8_burnFuel 55 = .ok (.dup, 1) := by decide +kernel
theorem dX8_burnFuel_56 : decode cX8_burnFuel 56 = .ok (.getfield 77, 3) := by decide +kernel
theorem dX8_burnFuel_59 : decode cX8_burnFuel 59 = .ok (.iconst 1, 1) := by decide +kernel
theorem dX8_burnFuel_60 : decode cX8_burnFuel 60 = .ok (.iadd, 1) := by decide +kernel
theorem dX8_burnFuel_61 : decode cX8_burnFuel 61 = .ok (.putfield 77, 3) := by decide +kernel
theorem dX8_burnFuel_64 : decode cX8_burnFuel 64 = .ok (.aload_n 0, 1) := by decide +kernel
theorem dX8_burnFuel_65 : decode cX8_burnFuel 65 = .ok (.dup, 1) := by decide +kernel
theorem dX8_burnFuel_66 : decode cX8_burnFuel 66 = .ok (.getfield 54, 3) := by decide +kernel
theorem dX8_burnFuel_69 : decode cX8_burnFuel 69 = .ok (.iconst 1, 1) := by decide +kernel
theorem dX8_burnFuel_70 : decode cX8_burnFuel 70 = .ok (.iload_n 1, 1) := by decide +kernel
theorem dX8_burnFuel_71 : decode cX8_burnFuel 71 = .ok (.ishl, 1) := by decide +kernel
theorem dX8_burnFuel_72 : decode cX8_burnFuel 72 = .ok (.ior, 1) := by decide +kernel
theorem dX8_burnFuel_73 : decode cX8_burnFuel 73 = .ok (.putfield 54, 3) := by decide +kernel
theorem dX8_burnFuel_76 : decode cX8_burnFuel 76 = .ok (.iinc 1 1, 3) := by decide +kernel
theorem dX8_burnFuel_79 : decode cX8_burnFuel 79 = .ok (.goto (-72), 3) := by decide +kernel
theorem dX8_burnFuel_82 : decode cX8_burnFuel 82 = .ok (.return_, 1) := by decide +kernel
theorem dX8_powerOf_0 : decode cX8_powerOf 0 = .ok (.iconst 0, 1) := by decide +kernel
theorem dX8_powerOf_1 : decode cX8_powerOf 1 = .ok (.istore_n 2, 1) := by decide +kernel
theorem dX8_powerOf_2 : decode cX8_powerOf 2 = .ok (.iconst 0, 1) := by decide +kernel
theorem dX8_powerOf_3 : decode cX8_powerOf 3 = .ok (.istore_n 3, 1) := by decide +kernel
theorem dX8_powerOf_4 : decode cX8_powerOf 4 = .ok (.iload_n 3, 1) := by decide +kernel
theorem dX8_powerOf_5 : decode cX8_powerOf 5 = .ok (.aload_n 0, 1) := by decide +kernel
theorem dX8_powerOf_6 : decode cX8_powerOf 6 = .ok (.getfield 23, 3) := by decide +kernel
theorem dX8_powerOf_9 : decode cX8_powerOf 9 = .ok (.invokevirtual 57, 3) := by decide +kernel
theorem dX8_powerOf_12 : decode cX8_powerOf 12 = .ok (.if_icmp .ge 34, 3) := by decide +kernel
theorem dX8_powerOf_15 : decode cX8_powerOf 15 = .ok (.iload_n 1, 1) := by decide +kernel
theorem dX8_powerOf_16 : decode cX8_powerOf 16 = .ok (.iconst 1, 1) := by decide +kernel
theorem dX8_powerOf_17 : decode cX8_powerOf 17 = .ok (.iload_n 3, 1) := by decide +kernel
theorem dX8_powerOf_18 : decode cX8_powerOf 18 = .ok (.ishl, 1) := by decide +kernel
theorem dX8_powerOf_19 : decode cX8_powerOf 19 = .ok (.iand, 1) := by decide +kernel
theorem dX8_powerOf_20 : decode cX8_powerOf 20 = .ok (.ifCond .eq 20, 3) := by decide +kernel
theorem dX8_powerOf_23 : decode cX8_powerOf 23 = .ok (.iload_n 2, 1) := by decide +kernel
theorem dX8_powerOf_24 : decode cX8_powerOf 24 = .ok (.aload_n 0, 1) := by decide +kernel
theorem dX8_powerOf_25 : decode cX8_powerOf 25 = .ok (.getfield 23, 3) := by decide +kernel
theorem dX8_powerOf_28 : decode cX8_powerOf 28 = .ok (.iload_n 3, 1) := by decide +kernel
theorem dX8_powerOf_29 : decode cX8_powerOf 29 = .ok (.invokevirtual 61, 3) := by decide +kernel
theorem dX8_powerOf_32 : decode cX8_powerOf 32 = .ok (.checkcast 65, 3) := by decide +kernel
theorem dX8_powerOf_35 : decode cX8_powerOf 35 = .ok (.getfield 74, 3) := by decide +kernel
theorem dX8_powerOf_38 : decode cX8_powerOf 38 = .ok (.iadd, 1) := by decide +kernel
theorem dX8_powerOf_39 : decode cX8_powerOf 39 = .ok (.istore_n 2, 1) := by decide +kernel
theorem dX8_powerOf_40 : decode cX8_powerOf 40 = .ok (.iinc 3 1, 3) := by decide +kernel
theorem dX8_powerOf_43 : decode cX8_powerOf 43 = .ok (.goto (-39), 3) := by decide +kernel
theorem dX8_powerOf_46 : decode cX8_powerOf 46 = .ok (.iload_n 2, 1) := by decide +kernel
theorem dX8_powerOf_47 : decode cX8_powerOf 47 = .ok (.ireturn, 1) := by decide +kernel
theorem dX8_canSend_0 : decode cX8_canSend 0 = .ok (.aload_n 0, 1) := by decide +kernel
theorem dX8_canSend_1 : decode cX8_canSend 1 = .ok (.getfield 48, 3) := by decide +kernel
theorem dX8_canSend_4 : decode cX8_canSend 4 = .ok (.iconst (-1), 1) := by decide +kernel
theorem dX8_canSend_5 : decode cX8_canSend 5 = .ok (.if_icmp .eq 36, 3) := by decide +kernel
theorem dX8_canSend_8 : decode cX8_canSend 8 = .ok (.aload_n 0, 1) := by decide +kernel
theorem dX8_canSend_9 : decode cX8_canSend 9 = .ok (.getfield 80, 3) := by decide +kernel
theorem dX8_canSend_12 : decode cX8_canSend 12 = .ok (.ifCond .le 29, 3) := by decide +kernel
theorem dX8_canSend_15 : decode cX8_canSend 15 = .ok (.aload_n 0, 1) := by decide +kernel
theorem dX8_canSend_16 : decode cX8_canSend 16 = .ok (.aload_n 0, 1) := by decide +kernel
theorem dX8_canSend_17 : decode cX8_canSend 17 = .ok (.getfield 54, 3) := by decide +kernel
theorem dX8_canSend_20 : decode cX8_canSend 20 = .ok (.invokevirtual 81, 3) := by decide +kernel
theorem dX8_canSend_23 : decode cX8_canSend 23 = .ok (.aload_n 0, 1) := by decide +kernel
theorem dX8_canSend_24 : decode cX8_canSend 24 = .ok (.getfield 80, 3) := by decide +kernel
theorem dX8_canSend_27 : decode cX8_canSend 27 = .ok (.if_icmp .le 14, 3) := by decide +kernel
theorem dX8_canSend_30 : decode cX8_canSend 30 = .ok (.aload_n 0, 1) := by decide +kernel
theorem dX8_canSend_31 : decode cX8_canSend 31 = .ok (.getfield 85, 3) := by decide +kernel
theorem dX8_canSend_34 : decode cX8_canSend 34 = .ok (.ifCond .ne 7, 3) := by decide +kernel
theorem dX8_canSend_37 : decode cX8_canSend 37 = .ok (.iconst 1, 1) := by decide +kernel
theorem dX8_canSend_38 : decode cX8_canSend 38 = .ok (.goto 4, 3) := by decide +kernel
theorem dX8_canSend_41 : decode cX8_canSend 41 = .ok (.iconst 0, 1) := by decide +kernel
theorem dX8_canSend_42 : decode cX8_canSend 42 = .ok (.ireturn, 1) := by decide +kernel
theorem dX8_output_0 : decode cX8_output 0 = .ok (.iconst 1, 1) := by decide +kernel
theorem dX8_output_1 : decode cX8_output 1 = .ok (.aload_n 0, 1) := by decide +kernel
theorem dX8_output_2 : decode cX8_output 2 = .ok (.getfield 80, 3) := by decide +kernel
theorem dX8_output_5 : decode cX8_output 5 = .ok (.bipush 10, 2) := by decide +kernel
theorem dX8_output_7 : decode cX8_output 7 = .ok (.aload_n 0, 1) := by decide +kernel
theorem dX8_output_8 : decode cX8_output 8 = .ok (.getfield 89, 3) := by decide +kernel
theorem dX8_output_11 : decode cX8_output 11 = .ok (.isub, 1) := by decide +kernel
theorem dX8_output_12 : decode cX8_output 12 = .ok (.imul, 1) := by decide +kernel
theorem dX8_output_13 : decode cX8_output 13 = .ok (.bipush 10, 2) := by decide +kernel
theorem dX8_output_15 : decode cX8_output 15 = .ok (.idiv, 1) := by decide +kernel
theorem dX8_output_16 : decode cX8_output 16 = .ok (.invokestatic 92, 3) := by decide +kernel
theorem dX8_output_19 : decode cX8_output 19 = .ok (.ireturn, 1) := by decide +kernel
theorem dX8_feed_0 : decode cX8_feed 0 = .ok (.aload_n 0, 1) := by decide +kernel
theorem dX8_feed_1 : decode cX8_feed 1 = .ok (.aload_n 0, 1) := by decide +kernel
theorem dX8_feed_2 : decode cX8_feed 2 = .ok (.getfield 98, 3) := by decide +kernel
theorem dX8_feed_5 : decode cX8_feed 5 = .ok (.iload_n 1, 1) := by decide +kernel
theorem dX8_feed_6 : decode cX8_feed 6 = .ok (.if_icmp .ge 12, 3) := by decide +kernel
theorem dX8_feed_9 : decode cX8_feed 9 = .ok (.aload_n 0, 1) := by decide +kernel
theorem dX8_feed_10 : decode cX8_feed 10 = .ok (.getfield 101, 3) := by decide +kernel
theorem dX8_feed_13 : decode cX8_feed 13 = .ok (.iconst 1, 1) := by decide +kernel
theorem dX8_feed_14 : decode cX8_feed 14 = .ok (.iadd, 1) := by decide +kernel
theorem dX8_feed_15 : decode cX8_feed 15 = .ok (.goto 4, 3) := by decide +kernel
theorem dX8_feed_18 : decode cX8_feed 18 = .ok (.iconst 0, 1) := by decide +kernel
