theorem kw_0 : Cond.methodLink "GalleonWave" 421 ⟨"java/lang/Math", "abs", "(I)I"⟩ ∈ kw := kw_in (List.mem_append_right _ (tb3 _ (List.mem_of_getElem? (i := 225) (by decide +kernel)))) (by decide +kernel)
theorem kw_1 : Cond.static ⟨"java/lang/Math", "abs", "(I)I"⟩ ∈ kw := kw_in (List.mem_append_right _ (tb3 _ (List.mem_of_getElem? (i := 226) (by decide +kernel)))) (by decide +kernel)
theorem kw_2 : Cond.initialized "java/lang/Math" ∈ kw := kw_in (List.mem_append_right _ (tb1 _ (List.mem_of_getElem? (i := 17) (by decide +kernel)))) (by decide +kernel)
theorem kw_3 : Cond.code ⟨"java/lang/Math", "abs", "(I)I"⟩ prog_26_method_59_code 1 (some .int) ∈ kw := kw_in (List.mem_append_right _ (tb3 _ (List.mem_of_getElem? (i := 227) (by decide +kernel)))) (by decide +kernel)
theorem kw_4 : Cond.methodLink "GalleonWave" 426 ⟨"java/lang/Math", "max", "(II)I"⟩ ∈ kw := kw_in (List.mem_append_right _ (tb3 _ (List.mem_of_getElem? (i := 228) (by decide +kernel)))) (by decide +kernel)
theorem kw_5 : Cond.static ⟨"java/lang/Math", "max", "(II)I"⟩ ∈ kw := kw_in (List.mem_append_right _ (tb2 _ (List.mem_of_getElem? (i := 130) (by decide +kernel)))) (by decide +kernel)
theorem kw_6 : Cond.code ⟨"java/lang/Math", "max", "(II)I"⟩ prog_26_method_65_code 2 (some .int) ∈ kw := kw_in (List.mem_append_right _ (tb2 _ (List.mem_of_getElem? (i := 131) (by decide +kernel)))) (by decide +kernel)
theorem kw_7 : Cond.methodLink "GalleonWave" 429 ⟨"java/lang/Math", "min", "(II)I"⟩ ∈ kw := kw_in (List.mem_append_right _ (tb4 _ (List.mem_of_getElem? (i := 89) (by decide +kernel)))) (by decide +kernel)
theorem kw_8 : Cond.static ⟨"java/lang/Math", "min", "(II)I"⟩ ∈ kw := kw_in (List.mem_append_right _ (tb2 _ (List.mem_of_getElem? (i := 80) (by decide +kernel)))) (by decide +kernel)
theorem kw_9 : Cond.code ⟨"java/lang/Math", "min", "(II)I"⟩ prog_26_method_69_code 2 (some .int) ∈ kw := kw_in (List.mem_append_right _ (tb2 _ (List.mem_of_getElem? (i := 81) (by decide +kernel)))) (by decide +kernel)
theorem kw_10 : Cond.code ⟨"jdk/internal/util/Preconditions", "checkIndex", "(IILjava/util/function/BiFunction;)I"⟩ prog_47_method_11_code 3 (some .int) ∈ kw := kw_in (List.mem_append_right _ (tb2 _ (List.mem_of_getElem? (i := 29) (by decide +kernel)))) (by decide +kernel)
theorem kw_11 : Cond.methodLink "java/util/Objects" 105 ⟨"jdk/internal/util/Preconditions", "checkIndex", "(IILjava/util/function/BiFunction;)I"⟩ ∈ kw := kw_in (List.mem_append_right _ (tb2 _ (List.mem_of_getElem? (i := 27) (by decide +kernel)))) (by decide +kernel)
theorem kw_12 : Cond.initialized "jdk/internal/util/Preconditions" ∈ kw := kw_in (List.mem_append_right _ (tb1 _ (List.mem_of_getElem? (i := 24) (by decide +kernel)))) (by decide +kernel)
theorem kw_13 : Cond.static ⟨"jdk/internal/util/Preconditions", "checkIndex", "(IILjava/util/function/BiFunction;)I"⟩ ∈ kw := kw_in (List.mem_append_right _ (tb2 _ (List.mem_of_getElem? (i := 28) (by decide +kernel)))) (by decide +kernel)
theorem kw_14 : Cond.fieldLink "java/util/ArrayList" 9 "java/util/ArrayList" "elementData" "[Ljava/lang/Object;" ∈ kw := kw_in (List.mem_append_right _ (tb1 _ (List.mem_of_getElem? (i := 56) (by decide +kernel)))) (by decide +kernel)
theorem kw_15 : Cond.fieldLink "java/util/ArrayList" 48 "java/util/ArrayList" "size" "I" ∈ kw := kw_in (List.mem_append_right _ (tb1 _ (List.mem_of_getElem? (i := 57) (by decide +kernel)))) (by decide +kernel)
theorem kw_16 : Cond.code ⟨"java/util/Objects", "checkIndex", "(II)I"⟩ prog_43_method_17_code 2 (some .int) ∈ kw := kw_in (List.mem_append_right _ (tb2 _ (List.mem_of_getElem? (i := 26) (by decide +kernel)))) (by decide +kernel)
theorem kw_17 : Cond.methodLink "java/util/ArrayList" 118 ⟨"java/util/Objects", "checkIndex", "(II)I"⟩ ∈ kw := kw_in (List.mem_append_right _ (tb2 _ (List.mem_of_getElem? (i := 24) (by decide +kernel)))) (by decide +kernel)
theorem kw_18 : Cond.initialized "java/util/Objects" ∈ kw := kw_in (List.mem_append_right _ (tb1 _ (List.mem_of_getElem? (i := 23) (by decide +kernel)))) (by decide +kernel)
theorem kw_19 : Cond.static ⟨"java/util/Objects", "checkIndex", "(II)I"⟩ ∈ kw := kw_in (List.mem_append_right _ (tb2 _ (List.mem_of_getElem? (i := 25) (by decide +kernel)))) (by decide +kernel)
theorem kw_20 : Cond.code ⟨"java/util/ArrayList", "elementData", "(I)Ljava/lang/Object;"⟩ prog_38_method_18_code 2 (some (.object "java/lang/Object")) ∈ kw := kw_in (List.mem_append_right _ (tb2 _ (List.mem_of_getElem? (i := 33) (by decide +kernel)))) (by decide +kernel)
theorem kw_21 : Cond.methodLink "java/util/ArrayList" 123 ⟨"java/util/ArrayList", "elementData", "(I)Ljava/lang/Object;"⟩ ∈ kw := kw_in (List.mem_append_right _ (tb2 _ (List.mem_of_getElem? (i := 30) (by decide +kernel)))) (by decide +kernel)
theorem kw_22 : Cond.initialized "java/util/ArrayList" ∈ kw := kw_in (List.mem_append_right _ (tb1 _ (List.mem_of_getElem? (i := 4) (by decide +kernel)))) (by decide +kernel)
theorem kw_23 : Cond.instanceMethod ⟨"java/util/ArrayList", "elementData", "(I)Ljava/lang/Object;"⟩ ∈ kw := kw_in (List.mem_append_right _ (tb2 _ (List.mem_of_getElem? (i := 31) (by decide +kernel)))) (by decide +kernel)
theorem kw_24 : Cond.selects "java/util/ArrayList" ⟨"java/util/ArrayList", "elementData", "(I)Ljava/lang/Object;"⟩ ⟨"java/util/ArrayList", "elementData", "(I)Ljava/lang/Object;"⟩ ∈ kw := kw_in (List.mem_append_right _ (tb2 _ (List.mem_of_getElem? (i := 32) (by decide +kernel)))) (by decide +kernel)
theorem kw_25 : Cond.fieldLink "GalleonWave$Generator" 16 "GalleonWave$Generator" "isOn" "Z" ∈ kw := kw_in (List.mem_append_right _ (tb5 _ (List.mem_of_getElem? (i := 78) (by decide +kernel)))) (by decide +kernel)
theorem kw_26 : Cond.fieldLink "GalleonWave$Generator" 20 "GalleonWave$Generator" "ranHours" "I" ∈ kw := kw_in (List.mem_append_right _ (tb5 _ (List.mem_of_getElem? (i := 80) (by decide +kernel)))) (by decide +kernel)
theorem kw_27 : Cond.fieldLink "GalleonWave$Generator" 13 "GalleonWave$Generator" "life" "I" ∈ kw := kw_in (List.mem_append_right _ (tb5 _ (List.mem_of_getElem? (i := 77) (by decide +kernel)))) (by decide +kernel)
theorem kw_28 : Cond.fieldLink "GalleonWave$Generator" 7 "GalleonWave$Generator" "power" "I" ∈ kw := kw_in (List.mem_append_right _ (tb5 _ (List.mem_of_getElem? (i := 75) (by decide +kernel)))) (by decide +kernel)
theorem kw_29 : Cond.fieldLink "GalleonWave$Ship" 54 "GalleonWave$Ship" "ranBits" "I" ∈ kw := kw_in (List.mem_append_right _ (tb4 _ (List.mem_of_getElem? (i := 215) (by decide +kernel)))) (by decide +kernel)
theorem kw_30 : Cond.fieldLink "GalleonWave$Ship" 23 "GalleonWave$Ship" "generators" "Ljava/util/ArrayList;" ∈ kw := kw_in (List.mem_append_right _ (tb4 _ (List.mem_of_getElem? (i := 192) (by decide +kernel)))) (by decide +kernel)
theorem kw_31 : Cond.code ⟨"java/util/ArrayList", "size", "()I"⟩ prog_38_method_8_code 1 (some .int) ∈ kw := kw_in (List.mem_append_right _ (tb1 _ (List.mem_of_getElem? (i := 183) (by decide +kernel)))) (by decide +kernel)
theorem kw_32 : Cond.methodLink "GalleonWave$Ship" 57 ⟨"java/util/ArrayList", "size", "()I"⟩ ∈ kw := kw_in (List.mem_append_right _ (tb2 _ (List.mem_of_getElem? (i := 60) (by decide +kernel)))) (by decide +kernel)
theorem kw_33 : Cond.instanceMethod ⟨"java/util/ArrayList", "size", "()I"⟩ ∈ kw := kw_in (List.mem_append_right _ (tb1 _ (List.mem_of_getElem? (i := 181) (by decide +kernel)))) (by decide +kernel)
theorem kw_34 : Cond.selects "java/util/ArrayList" ⟨"java/util/ArrayList", "size", "()I"⟩ ⟨"java/util/ArrayList", "size", "()I"⟩ ∈ kw := kw_in (List.mem_append_right _ (tb1 _ (List.mem_of_getElem? (i := 182) (by decide +kernel)))) (by decide +kernel)
theorem kw_35 : Cond.code ⟨"java/util/ArrayList", "get", "(I)Ljava/lang/Object;"⟩ prog_38_method_20_code 2 (some (.object "java/lang/Object")) ∈ kw := kw_in (List.mem_append_right _ (tb2 _ (List.mem_of_getElem? (i := 23) (by decide +kernel)))) (by decide +kernel)
theorem kw_36 : Cond.methodLink "GalleonWave$Ship" 61 ⟨"java/util/ArrayList", "get", "(I)Ljava/lang/Object;"⟩ ∈ kw := kw_in (List.mem_append_right _ (tb2 _ (List.mem_of_getElem? (i := 61) (by decide +kernel)))) (by decide +kernel)
theorem kw_37 : Cond.instanceMethod ⟨"java/util/ArrayList", "get", "(I)Ljava/lang/Object;"⟩ ∈ kw := kw_in (List.mem_append_right _ (tb2 _ (List.mem_of_getElem? (i := 21) (by decide +kernel)))) (by decide +kernel)
theorem kw_38 : Cond.selects "java/util/ArrayList" ⟨"java/util/ArrayList", "get", "(I)Ljava/lang/Object;"⟩ ⟨"java/util/ArrayList", "get", "(I)Ljava/lang/Object;"⟩ ∈ kw := kw_in (List.mem_append_right _ (tb2 _ (List.mem_of_getElem? (i := 22) (by decide +kernel)))) (by decide +kernel)
theorem kw_39 : Cond.classLink "GalleonWave$Ship" 65 "GalleonWave$Generator" ∈ kw := kw_in (List.mem_append_right _ (tb2 _ (List.mem_of_getElem? (i := 62) (by decide +kernel)))) (by decide +kernel)
theorem kw_40 : Cond.fieldLink "GalleonWave$Ship" 67 "GalleonWave$Ship" "fuel" "I" ∈ kw := kw_in (List.mem_append_right _ (tb4 _ (List.mem_of_getElem? (i := 202) (by decide +kernel)))) (by decide +kernel)
theorem kw_41 : Cond.code ⟨"GalleonWave$Generator", "canRun", "(I)Z"⟩ prog_4_method_2_code 2 (some .boolean) ∈ kw := kw_in (List.mem_append_right _ (tb3 _ (List.mem_of_getElem? (i := 200) (by decide +kernel)))) (by decide +kernel)
theorem kw_42 : Cond.methodLink "GalleonWave$Ship" 70 ⟨"GalleonWave$Generator", "canRun", "(I)Z"⟩ ∈ kw := kw_in (List.mem_append_right _ (tb3 _ (List.mem_of_getElem? (i := 197) (by decide +kernel)))) (by decide +kernel)
theorem kw_43 : Cond.initialized "GalleonWave$Generator" ∈ kw := kw_in (List.mem_append_right _ (tb1 _ (List.mem_of_getElem? (i := 27) (by decide +kernel)))) (by decide +kernel)
theorem kw_44 : Cond.instanceMethod ⟨"GalleonWave$Generator", "canRun", "(I)Z"⟩ ∈ kw := kw_in (List.mem_append_right _ (tb3 _ (List.mem_of_getElem? (i := 198) (by decide +kernel)))) (by decide +kernel)
theorem kw_45 : Cond.selects "GalleonWave$Generator" ⟨"GalleonWave$Generator", "canRun", "(I)Z"⟩ ⟨"GalleonWave$Generator", "canRun", "(I)Z"⟩ ∈ kw := kw_in (List.mem_append_right _ (tb3 _ (List.mem_of_getElem? (i := 199) (by decide +kernel)))) (by decide +kernel)
theorem kw_46 : Cond.fieldLink "GalleonWave$Ship" 74 "GalleonWave$Generator" "power" "I" ∈ kw := kw_in (List.mem_append_right _ (tb5 _ (List.mem_of_getElem? (i := 76) (by decide +kernel)))) (by decide +kernel)
theorem kw_47 : Cond.fieldLink "GalleonWave$Ship" 77 "GalleonWave$Generator" "ranHours" "I" ∈ kw := kw_in (List.mem_append_right _ (tb5 _ (List.mem_of_getElem? (i := 81) (by decide +kernel)))) (by decide +kernel)
theorem kw_48 : Cond.fieldLink "GalleonWave$Ship" 48 "GalleonWave$Ship" "channel" "I" ∈ kw := kw_in (List.mem_append_right _ (tb4 _ (List.mem_of_getElem? (i := 212) (by decide +kernel)))) (by decide +kernel)
theorem kw_49 : Cond.fieldLink "GalleonWave$Ship" 80 "GalleonWave$Ship" "power" "I" ∈ kw := kw_in (List.mem_append_right _ (tb4 _ (List.mem_of_getElem? (i := 210) (by decide +kernel)))) (by decide +kernel)
theorem kw_50 : Cond.code ⟨"GalleonWave$Ship", "powerOf", "(I)I"⟩ prog_10_method_3_code 4 (some .int) ∈ kw := kw_in (List.mem_append_right _ (tb2 _ (List.mem_of_getElem? (i := 59) (by decide +kernel)))) (by decide +kernel)
theorem kw_51 : Cond.methodLink "GalleonWave$Ship" 81 ⟨"GalleonWave$Ship", "powerOf", "(I)I"⟩ ∈ kw := kw_in (List.mem_append_right _ (tb3 _ (List.mem_of_getElem? (i := 209) (by decide +kernel)))) (by decide +kernel)
theorem kw_52 : Cond.initialized "GalleonWave$Ship" ∈ kw := kw_in (List.mem_append_right _ (tb1 _ (List.mem_of_getElem? (i := 12) (by decide +kernel)))) (by decide +kernel)
theorem kw_53 : Cond.instanceMethod ⟨"GalleonWave$Ship", "powerOf", "(I)I"⟩ ∈ kw := kw_in (List.mem_append_right _ (tb2 _ (List.mem_of_getElem? (i := 57) (by decide +kernel)))) (by decide +kernel)
theorem kw_54 : Cond.selects "GalleonWave$Ship" ⟨"GalleonWave$Ship", "powerOf", "(I)I"⟩ ⟨"GalleonWave$Ship", "powerOf", "(I)I"⟩ ∈ kw := kw_in (List.mem_append_right _ (tb2 _ (List.mem_of_getElem? (i := 58) (by decide +kernel)))) (by decide +kernel)
theorem kw_55 : Cond.fieldLink "GalleonWave$Ship" 85 "GalleonWave$Ship" "isMutinous" "Z" ∈ kw := kw_in (List.mem_append_right _ (tb4 _ (List.mem_of_getElem? (i := 222) (by decide +kernel)))) (by decide +kernel)
theorem kw_56 : Cond.fieldLink "GalleonWave$Ship" 89 "GalleonWave$Ship" "salt" "I" ∈ kw := kw_in (List.mem_append_right _ (tb4 _ (List.mem_of_getElem? (i := 208) (by decide +kernel)))) (by decide +kernel)
theorem kw_57 : Cond.methodLink "GalleonWave$Ship" 92 ⟨"java/lang/Math", "max", "(II)I"⟩ ∈ kw := kw_in (List.mem_append_right _ (tb3 _ (List.mem_of_getElem? (i := 233) (by decide +kernel)))) (by decide +kernel)
theorem kw_58 : Cond.fieldLink "GalleonWave$Ship" 98 "GalleonWave$Ship" "food" "I" ∈ kw := kw_in (List.mem_append_right _ (tb4 _ (List.mem_of_getElem? (i := 205) (by decide +kernel)))) (by decide +kernel)
theorem kw_59 : Cond.fieldLink "GalleonWave$Ship" 101 "GalleonWave$Ship" "hungryHours" "I" ∈ kw := kw_in (List.mem_append_right _ (tb4 _ (List.mem_of_getElem? (i := 221) (by decide +kernel)))) (by decide +kernel)
theorem kw_60 : Cond.fieldLink "GalleonWave$Ship" 41 "GalleonWave$Ship" "east" "I" ∈ kw := kw_in (List.mem_append_right _ (tb4 _ (List.mem_of_getElem? (i := 198) (by decide +kernel)))) (by decide +kernel)
theorem kw_61 : Cond.code ⟨"GalleonWave", "within", "(I)I"⟩ prog_1_method_67_code 1 (some .int) ∈ kw := kw_in (List.mem_append_right _ (tb4 _ (List.mem_of_getElem? (i := 116) (by decide +kernel)))) (by decide +kernel)
theorem kw_62 : Cond.methodLinkNest "GalleonWave$Ship" 104 ⟨"GalleonWave", "within", "(I)I"⟩ "GalleonWave" ∈ kw := kw_in (List.mem_append_right _ (tb4 _ (List.mem_of_getElem? (i := 114) (by decide +kernel)))) (by decide +kernel)
theorem kw_63 : Cond.initialized "GalleonWave" ∈ kw := kw_in (List.mem_append_right _ (tb1 _ (List.mem_of_getElem? (i := 1) (by decide +kernel)))) (by decide +kernel)
theorem kw_64 : Cond.static ⟨"GalleonWave", "within", "(I)I"⟩ ∈ kw := kw_in (List.mem_append_right _ (tb4 _ (List.mem_of_getElem? (i := 115) (by decide +kernel)))) (by decide +kernel)
theorem kw_65 : Cond.fieldLink "GalleonWave$Ship" 45 "GalleonWave$Ship" "north" "I" ∈ kw := kw_in (List.mem_append_right _ (tb4 _ (List.mem_of_getElem? (i := 200) (by decide +kernel)))) (by decide +kernel)
theorem kw_66 : Cond.fieldLink "GalleonWave" 110 "GalleonWave$Ship" "east" "I" ∈ kw := kw_in (List.mem_append_right _ (tb4 _ (List.mem_of_getElem? (i := 199) (by decide +kernel)))) (by decide +kernel)
theorem kw_67 : Cond.fieldLink "GalleonWave" 113 "GalleonWave$Ship" "north" "I" ∈ kw := kw_in (List.mem_append_right _ (tb4 _ (List.mem_of_getElem? (i := 201) (by decide +kernel)))) (by decide +kernel)
theorem kw_68 : Cond.fieldLink "GalleonWave" 481 "GalleonWave$Town" "east" "I" ∈ kw := kw_in (List.mem_append_right _ (tb3 _ (List.mem_of_getElem? (i := 159) (by decide +kernel)))) (by decide +kernel)
theorem kw_69 : Cond.fieldLink "GalleonWave" 482 "GalleonWave$Town" "north" "I" ∈ kw := kw_in (List.mem_append_right _ (tb3 _ (List.mem_of_getElem? (i := 161) (by decide +kernel)))) (by decide +kernel)
theorem kw_70 : Cond.code ⟨"GalleonWave", "apart", "(IIII)I"⟩ prog_1_method_66_code 4 (some .int) ∈ kw := kw_in (List.mem_append_right _ (tb3 _ (List.mem_of_getElem? (i := 224) (by decide +kernel)))) (by decide +kernel)
theorem kw_71 : Cond.methodLink "GalleonWave" 327 ⟨"GalleonWave", "apart", "(IIII)I"⟩ ∈ kw := kw_in (List.mem_append_right _ (tb3 _ (List.mem_of_getElem? (i := 222) (by decide +kernel)))) (by decide +kernel)
theorem kw_72 : Cond.static ⟨"GalleonWave", "apart", "(IIII)I"⟩ ∈ kw := kw_in (List.mem_append_right _ (tb3 _ (List.mem_of_getElem? (i := 223) (by decide +kernel)))) (by decide +kernel)
theorem kw_73 : Cond.code ⟨"GalleonWave$Ship", "output", "()I"⟩ prog_10_method_5_code 1 (some .int) ∈ kw := kw_in (List.mem_append_right _ (tb3 _ (List.mem_of_getElem? (i := 232) (by decide +kernel)))) (by decide +kernel)
theorem kw_74 : Cond.methodLink "GalleonWave" 483 ⟨"GalleonWave$Ship", "output", "()I"⟩ ∈ kw := kw_in (List.mem_append_right _ (tb3 _ (List.mem_of_getElem? (i := 229) (by decide +kernel)))) (by decide +kernel)
theorem kw_75 : Cond.instanceMethod ⟨"GalleonWave$Ship", "output", "()I"⟩ ∈ kw := kw_in (List.mem_append_right _ (tb3 _ (List.mem_of_getElem? (i := 230) (by decide +kernel)))) (by decide +kernel)
theorem kw_76 : Cond.selects "GalleonWave$Ship" ⟨"GalleonWave$Ship", "output", "()I"⟩ ⟨"GalleonWave$Ship", "output", "()I"⟩ ∈ kw := kw_in (List.mem_append_right _ (tb3 _ (List.mem_of_getElem? (i := 231) (by decide +kernel)))) (by decide +kernel)
theorem kw_77 : Cond.fieldLink "GalleonWave" 63 "GalleonWave" "hour" "I" ∈ kw := kw_in (List.mem_append_right _ (tb1 _ (List.mem_of_getElem? (i := 143) (by decide +kernel)))) (by decide +kernel)
theorem kw_78 : Cond.code ⟨"GalleonWave", "isNight", "(I)Z"⟩ prog_1_method_68_code 2 (some .boolean) ∈ kw := kw_in (List.mem_append_right _ (tb3 _ (List.mem_of_getElem? (i := 236) (by decide +kernel)))) (by decide +kernel)
theorem kw_79 : Cond.methodLink "GalleonWave" 486 ⟨"GalleonWave", "isNight", "(I)Z"⟩ ∈ kw := kw_in (List.mem_append_right _ (tb3 _ (List.mem_of_getElem? (i := 234) (by decide +kernel)))) (by decide +kernel)
theorem kw_80 : Cond.static ⟨"GalleonWave", "isNight", "(I)Z"⟩ ∈ kw := kw_in (List.mem_append_right _ (tb3 _ (List.mem_of_getElem? (i := 235) (by decide +kernel)))) (by decide +kernel)
theorem kw_81 : Cond.fieldLink "GalleonWave" 19 "GalleonWave" "ships" "Ljava/util/ArrayList;" ∈ kw := kw_in (List.mem_append_right _ (tb1 _ (List.mem_of_getElem? (i := 140) (by decide +kernel)))) (by decide +kernel)
theorem kw_82 : Cond.methodLink "GalleonWave" 44 ⟨"java/util/ArrayList", "size", "()I"⟩ ∈ kw := kw_in (List.mem_append_right _ (tb1 _ (List.mem_of_getElem? (i := 180) (by decide +kernel)))) (by decide +kernel)
theorem kw_83 : Cond.methodLink "GalleonWave" 169 ⟨"java/util/ArrayList", "get", "(I)Ljava/lang/Object;"⟩ ∈ kw := kw_in (List.mem_append_right _ (tb2 _ (List.mem_of_getElem? (i := 20) (by decide +kernel)))) (by decide +kernel)
theorem kw_84 : Cond.classLink "GalleonWave" 102 "GalleonWave$Ship" ∈ kw := kw_in (List.mem_append_right _ (tb2 _ (List.mem_of_getElem? (i := 55) (by decide +kernel)))) (by decide +kernel)
theorem kw_85 : Cond.fieldLink "GalleonWave" 199 "GalleonWave$Ship" "wasOnAir" "Z" ∈ kw := kw_in (List.mem_append_right _ (tb4 _ (List.mem_of_getElem? (i := 217) (by decide +kernel)))) (by decide +kernel)
theorem kw_86 : Cond.fieldLink "GalleonWave" 196 "GalleonWave$Ship" "channel" "I" ∈ kw := kw_in (List.mem_append_right _ (tb4 _ (List.mem_of_getElem? (i := 214) (by decide +kernel)))) (by decide +kernel)
theorem kw_87 : Cond.code ⟨"GalleonWave", "signalOf", "(LGalleonWave$Ship;LGalleonWave$Town;)I"⟩ prog_1_method_78_code 5 (some .int) ∈ kw := kw_in (List.mem_append_right _ (tb3 _ (List.mem_of_getElem? (i := 221) (by decide +kernel)))) (by decide +kernel)
theorem kw_88 : Cond.methodLink "GalleonWave" 206 ⟨"GalleonWave", "signalOf", "(LGalleonWave$Ship;LGalleonWave$Town;)I"⟩ ∈ kw := kw_in (List.mem_append_right _ (tb3 _ (List.mem_of_getElem? (i := 218) (by decide +kernel)))) (by decide +kernel)
theorem kw_89 : Cond.instanceMethod ⟨"GalleonWave", "signalOf", "(LGalleonWave$Ship;LGalleonWave$Town;)I"⟩ ∈ kw := kw_in (List.mem_append_right _ (tb3 _ (List.mem_of_getElem? (i := 220) (by decide +kernel)))) (by decide +kernel)
theorem kw_90 : Cond.selects "GalleonWave" ⟨"GalleonWave", "signalOf", "(LGalleonWave$Ship;LGalleonWave$Town;)I"⟩ ⟨"GalleonWave", "signalOf", "(LGalleonWave$Ship;LGalleonWave$Town;)I"⟩ ∈ kw := kw_in (List.mem_append_left _ (List.mem_of_getElem? (i := 16) (by decide +kernel))) (by decide +kernel)
theorem kw_91 : Cond.fieldLink "GalleonWave$Land" 34 "GalleonWave$Land" "actCount" "I" ∈ kw := kw_in (List.mem_append_right _ (tb2 _ (List.mem_of_getElem? (i := 229) (by decide +kernel)))) (by decide +kernel)
theorem kw_92 : Cond.code ⟨"GalleonWave$Land", "newestAct", "(I)I"⟩ prog_6_method_3_code 5 (some .int) ∈ kw := kw_in (List.mem_append_right _ (tb4 _ (List.mem_of_getElem? (i := 20) (by decide +kernel)))) (by decide +kernel)
theorem kw_93 : Cond.methodLink "GalleonWave$Land" 37 ⟨"GalleonWave$Land", "newestAct", "(I)I"⟩ ∈ kw := kw_in (List.mem_append_right _ (tb4 _ (List.mem_of_getElem? (i := 17) (by decide +kernel)))) (by decide +kernel)
theorem kw_94 : Cond.initialized "GalleonWave$Land" ∈ kw := kw_in (List.mem_append_right _ (tb1 _ (List.mem_of_getElem? (i := 26) (by decide +kernel)))) (by decide +kernel)
theorem kw_95 : Cond.instanceMethod ⟨"GalleonWave$Land", "newestAct", "(I)I"⟩ ∈ kw := kw_in (List.mem_append_right _ (tb4 _ (List.mem_of_getElem? (i := 18) (by decide +kernel)))) (by decide +kernel)
theorem kw_96 : Cond.selects "GalleonWave$Land" ⟨"GalleonWave$Land", "newestAct", "(I)I"⟩ ⟨"GalleonWave$Land", "newestAct", "(I)I"⟩ ∈ kw := kw_in (List.mem_append_right _ (tb4 _ (List.mem_of_getElem? (i := 19) (by decide +kernel)))) (by decide +kernel)
theorem kw_97 : Cond.fieldLink "GalleonWave" 432 "GalleonWave$Land" "east" "I" ∈ kw := kw_in (List.mem_append_right _ (tb2 _ (List.mem_of_getElem? (i := 221) (by decide +kernel)))) (by decide +kernel)
theorem kw_98 : Cond.fieldLink "GalleonWave" 433 "GalleonWave$Land" "north" "I" ∈ kw := kw_in (List.mem_append_right _ (tb2 _ (List.mem_of_getElem? (i := 223) (by decide +kernel)))) (by decide +kernel)
theorem kw_99 : Cond.code ⟨"GalleonWave$Land", "lineAt", "(I)I"⟩ prog_6_method_4_code 3 (some .int) ∈ kw := kw_in (List.mem_append_right _ (tb4 _ (List.mem_of_getElem? (i := 16) (by decide +kernel)))) (by decide +kernel)
theorem kw_100 : Cond.methodLink "GalleonWave" 74 ⟨"GalleonWave$Land", "lineAt", "(I)I"⟩ ∈ kw := kw_in (List.mem_append_right _ (tb4 _ (List.mem_of_getElem? (i := 13) (by decide +kernel)))) (by decide +kernel)
theorem kw_101 : Cond.instanceMethod ⟨"GalleonWave$Land", "lineAt", "(I)I"⟩ ∈ kw := kw_in (List.mem_append_right _ (tb4 _ (List.mem_of_getElem? (i := 14) (by decide +kernel)))) (by decide +kernel)
theorem kw_102 : Cond.selects "GalleonWave$Land" ⟨"GalleonWave$Land", "lineAt", "(I)I"⟩ ⟨"GalleonWave$Land", "lineAt", "(I)I"⟩ ∈ kw := kw_in (List.mem_append_right _ (tb4 _ (List.mem_of_getElem? (i := 15) (by decide +kernel)))) (by decide +kernel)
theorem kw_103 : Cond.fieldLink "GalleonWave" 10 "GalleonWave" "lands" "Ljava/util/ArrayList;" ∈ kw := kw_in (List.mem_append_right _ (tb1 _ (List.mem_of_getElem? (i := 138) (by decide +kernel)))) (by decide +kernel)
theorem kw_104 : Cond.classLink "GalleonWave" 51 "GalleonWave$Land" ∈ kw := kw_in (List.mem_append_right _ (tb2 _ (List.mem_of_getElem? (i := 214) (by decide +kernel)))) (by decide +kernel)
theorem kw_105 : Cond.code ⟨"GalleonWave", "isInsideLine", "(LGalleonWave$Land;LGalleonWave$Ship;)Z"⟩ prog_1_method_69_code 3 (some .boolean) ∈ kw := kw_in (List.mem_append_right _ (tb4 _ (List.mem_of_getElem? (i := 12) (by decide +kernel)))) (by decide +kernel)
theorem kw_106 : Cond.methodLink "GalleonWave" 319 ⟨"GalleonWave", "isInsideLine", "(LGalleonWave$Land;LGalleonWave$Ship;)Z"⟩ ∈ kw := kw_in (List.mem_append_right _ (tb4 _ (List.mem_of_getElem? (i := 9) (by decide +kernel)))) (by decide +kernel)
theorem kw_107 : Cond.instanceMethod ⟨"GalleonWave", "isInsideLine", "(LGalleonWave$Land;LGalleonWave$Ship;)Z"⟩ ∈ kw := kw_in (List.mem_append_right _ (tb4 _ (List.mem_of_getElem? (i := 11) (by decide +kernel)))) (by decide +kernel)
theorem kw_108 : Cond.selects "GalleonWave" ⟨"GalleonWave", "isInsideLine", "(LGalleonWave$Land;LGalleonWave$Ship;)Z"⟩ ⟨"GalleonWave", "isInsideLine", "(LGalleonWave$Land;LGalleonWave$Ship;)Z"⟩ ∈ kw := kw_in (List.mem_append_left _ (List.mem_of_getElem? (i := 20) (by decide +kernel))) (by decide +kernel)
theorem kw_109 : Cond.fieldLink "GalleonWave" 434 "GalleonWave$Land" "shallows" "I" ∈ kw := kw_in (List.mem_append_right _ (tb2 _ (List.mem_of_getElem? (i := 225) (by decide +kernel)))) (by decide +kernel)
theorem kw_110 : Cond.code ⟨"GalleonWave$Land", "forbids", "(II)Z"⟩ prog_6_method_5_code 4 (some .boolean) ∈ kw := kw_in (List.mem_append_right _ (tb4 _ (List.mem_of_getElem? (i := 32) (by decide +kernel)))) (by decide +kernel)
theorem kw_111 : Cond.methodLink "GalleonWave" 549 ⟨"GalleonWave$Land", "forbids", "(II)Z"⟩ ∈ kw := kw_in (List.mem_append_right _ (tb4 _ (List.mem_of_getElem? (i := 29) (by decide +kernel)))) (by decide +kernel)
theorem kw_112 : Cond.instanceMethod ⟨"GalleonWave$Land", "forbids", "(II)Z"⟩ ∈ kw := kw_in (List.mem_append_right _ (tb4 _ (List.mem_of_getElem? (i := 30) (by decide +kernel)))) (by decide +kernel)
theorem kw_113 : Cond.selects "GalleonWave$Land" ⟨"GalleonWave$Land", "forbids", "(II)Z"⟩ ⟨"GalleonWave$Land", "forbids", "(II)Z"⟩ ∈ kw := kw_in (List.mem_append_right _ (tb4 _ (List.mem_of_getElem? (i := 31) (by decide +kernel)))) (by decide +kernel)
theorem kw_114 : Cond.code ⟨"GalleonWave", "isForbidden", "(II)Z"⟩ prog_1_method_91_code 3 (some .boolean) ∈ kw := kw_in (List.mem_append_right _ (tb4 _ (List.mem_of_getElem? (i := 28) (by decide +kernel)))) (by decide +kernel)
theorem kw_115 : Cond.methodLink "GalleonWave" 498 ⟨"GalleonWave", "isForbidden", "(II)Z"⟩ ∈ kw := kw_in (List.mem_append_right _ (tb4 _ (List.mem_of_getElem? (i := 25) (by decide +kernel)))) (by decide +kernel)
theorem kw_116 : Cond.instanceMethod ⟨"GalleonWave", "isForbidden", "(II)Z"⟩ ∈ kw := kw_in (List.mem_append_right _ (tb4 _ (List.mem_of_getElem? (i := 27) (by decide +kernel)))) (by decide +kernel)
theorem kw_117 : Cond.selects "GalleonWave" ⟨"GalleonWave", "isForbidden", "(II)Z"⟩ ⟨"GalleonWave", "isForbidden", "(II)Z"⟩ ∈ kw := kw_in (List.mem_append_left _ (List.mem_of_getElem? (i := 22) (by decide +kernel))) (by decide +kernel)
theorem kw_118 : Cond.code ⟨"GalleonWave", "addEvidence", "(I)V"⟩ prog_1_method_93_code 2 none ∈ kw := kw_in (List.mem_append_right _ (tb4 _ (List.mem_of_getElem? (i := 68) (by decide +kernel)))) (by decide +kernel)
theorem kw_119 : Cond.methodLink "GalleonWave" 552 ⟨"GalleonWave", "addEvidence", "(I)V"⟩ ∈ kw := kw_in (List.mem_append_right _ (tb4 _ (List.mem_of_getElem? (i := 65) (by decide +kernel)))) (by decide +kernel)
theorem kw_120 : Cond.instanceMethod ⟨"GalleonWave", "addEvidence", "(I)V"⟩ ∈ kw := kw_in (List.mem_append_right _ (tb4 _ (List.mem_of_getElem? (i := 67) (by decide +kernel)))) (by decide +kernel)
theorem kw_121 : Cond.selects "GalleonWave" ⟨"GalleonWave", "addEvidence", "(I)V"⟩ ⟨"GalleonWave", "addEvidence", "(I)V"⟩ ∈ kw := kw_in (List.mem_append_left _ (List.mem_of_getElem? (i := 27) (by decide +kernel))) (by decide +kernel)
theorem kw_122 : Cond.fieldLink "GalleonWave" 22 "GalleonWave" "people" "Ljava/util/ArrayList;" ∈ kw := kw_in (List.mem_append_right _ (tb1 _ (List.mem_of_getElem? (i := 141) (by decide +kernel)))) (by decide +kernel)
theorem kw_123 : Cond.classLink "GalleonWave" 218 "GalleonWave$Person" ∈ kw := kw_in (List.mem_append_right _ (tb2 _ (List.mem_of_getElem? (i := 34) (by decide +kernel)))) (by decide +kernel)
theorem kw_124 : Cond.fieldLink "GalleonWave" 227 "GalleonWave$Person" "aboard" "I" ∈ kw := kw_in (List.mem_append_right _ (tb5 _ (List.mem_of_getElem? (i := 178) (by decide +kernel)))) (by decide +kernel)
theorem kw_125 : Cond.code ⟨"GalleonWave", "isPerson", "(I)Z"⟩ prog_1_method_62_code 2 (some .boolean) ∈ kw := kw_in (List.mem_append_right _ (tb2 _ (List.mem_of_getElem? (i := 54) (by decide +kernel)))) (by decide +kernel)
theorem kw_126 : Cond.methodLink "GalleonWave" 415 ⟨"GalleonWave", "isPerson", "(I)Z"⟩ ∈ kw := kw_in (List.mem_append_right _ (tb2 _ (List.mem_of_getElem? (i := 51) (by decide +kernel)))) (by decide +kernel)
theorem kw_127 : Cond.instanceMethod ⟨"GalleonWave", "isPerson", "(I)Z"⟩ ∈ kw := kw_in (List.mem_append_right _ (tb2 _ (List.mem_of_getElem? (i := 53) (by decide +kernel)))) (by decide +kernel)
theorem kw_128 : Cond.selects "GalleonWave" ⟨"GalleonWave", "isPerson", "(I)Z"⟩ ⟨"GalleonWave", "isPerson", "(I)Z"⟩ ∈ kw := kw_in (List.mem_append_left _ (List.mem_of_getElem? (i := 4) (by decide +kernel))) (by decide +kernel)
theorem kw_129 : Cond.fieldLink "GalleonWave" 518 "GalleonWave$Person" "isSpeaker" "Z" ∈ kw := kw_in (List.mem_append_right _ (tb5 _ (List.mem_of_getElem? (i := 176) (by decide +kernel)))) (by decide +kernel)
theorem kw_130 : Cond.fieldLink "GalleonWave$Spots" 20 "GalleonWave$Spots" "left" "I" ∈ kw := kw_in (List.mem_append_right _ (tb4 _ (List.mem_of_getElem? (i := 175) (by decide +kernel)))) (by decide +kernel)
theorem kw_131 : Cond.fieldLink "GalleonWave$Spots" 23 "GalleonWave$Spots" "earned" "I" ∈ kw := kw_in (List.mem_append_right _ (tb4 _ (List.mem_of_getElem? (i := 179) (by decide +kernel)))) (by decide +kernel)
theorem kw_132 : Cond.code ⟨"GalleonWave", "disturbance", "(IILGalleonWave$Town;)I"⟩ prog_1_method_77_code 7 (some .int) ∈ kw := kw_in (List.mem_append_right _ (tb4 _ (List.mem_of_getElem? (i := 0) (by decide +kernel)))) (by decide +kernel)
theorem kw_133 : Cond.methodLink "GalleonWave" 477 ⟨"GalleonWave", "disturbance", "(IILGalleonWave$Town;)I"⟩ ∈ kw := kw_in (List.mem_append_right _ (tb3 _ (List.mem_of_getElem? (i := 237) (by decide +kernel)))) (by decide +kernel)
theorem kw_134 : Cond.instanceMethod ⟨"GalleonWave", "disturbance", "(IILGalleonWave$Town;)I"⟩ ∈ kw := kw_in (List.mem_append_right _ (tb3 _ (List.mem_of_getElem? (i := 239) (by decide +kernel)))) (by decide +kernel)
theorem kw_135 : Cond.selects "GalleonWave" ⟨"GalleonWave", "disturbance", "(IILGalleonWave$Town;)I"⟩ ⟨"GalleonWave", "disturbance", "(IILGalleonWave$Town;)I"⟩ ∈ kw := kw_in (List.mem_append_left _ (List.mem_of_getElem? (i := 17) (by decide +kernel))) (by decide +kernel)
theorem inJx4a65c : ∀ w ∈ u_ws RJx4a65c TJx4a65c 3, w ∈ kw := fun w h => kw_in ((by decide +kernel : ∀ w ∈ u_ws RJx4a65c TJx4a65c 3, w ∈ lw_tbl) w h) ((by decide +kernel : ∀ w ∈ u_ws RJx4a65c TJx4a65c 3, kok w = true) w h)
theorem inX10 : ∀ w ∈ u_ws RX10 TX10 5, w ∈ kw := fun w h => kw_in ((by decide +kernel : ∀ w ∈ u_ws RX10 TX10 5, w ∈ lw_tbl) w h) ((by decide +kernel : ∀ w ∈ u_ws RX10 TX10 5, kok w = true) w h)
theorem inX11 : ∀ w ∈ u_ws RX11 TX11 11, w ∈ kw := fun w h => kw_in ((by decide +kernel : ∀ w ∈ u_ws RX11 TX11 11, w ∈ lw_tbl) w h) ((by decide +kernel : ∀ w ∈ u_ws RX11 TX11 11, kok w = true) w h)
theorem inX2 : ∀ w ∈ u_ws RX2 TX2 4, w ∈ kw := fun w h => kw_in ((by decide +kernel : ∀ w ∈ u_ws RX2 TX2 4, w ∈ lw_tbl) w h) ((by decide +kernel : ∀ w ∈ u_ws RX2 TX2 4, kok w = true) w h)
theorem inX4 : ∀ w ∈ u_ws RX4 TX4 11, w ∈ kw := fun w h => kw_in ((by decide +kernel : ∀ w ∈ u_ws RX4 TX4 11, w ∈ lw_tbl) w h) ((by decide +kernel : ∀ w ∈ u_ws RX4 TX4 11, kok w = true) w h)
theorem inX5 : ∀ w ∈ u_ws RX5 TX5 5, w ∈ kw := fun w h => kw_in ((by decide +kernel : ∀ w ∈ u_ws RX5 TX5 5, w ∈ lw_tbl) w h) ((by decide +kernel : ∀ w ∈ u_ws RX5 TX5 5, kok w = true) w h)
theorem inX8 : ∀ w ∈ u_ws RX8 TX8 17, w ∈ kw := fun w h => kw_in ((by decide +kernel : ∀ w ∈ u_ws RX8 TX8 17, w ∈ lw_tbl) w h) ((by decide +kernel : ∀ w ∈ u_ws RX8 TX8 17, kok w = true) w h)
theorem inX9 : ∀ w ∈ u_ws RX9 TX9 4, w ∈ kw := fun w h => kw_in ((by decide +kernel : ∀ w ∈ u_ws RX9 TX9 4, w ∈ lw_tbl) w h) ((by decide +kernel : ∀ w ∈ u_ws RX9 TX9 4, kok w = true) w h)
theorem ydJ15_checkIndex_7cf53 : (yJ15_checkIndex_7cf53.cls ≠ "java/lang/invoke/MethodHandle" ∧ yJ15_checkIndex_7cf53.cls ≠ "java/lang/invoke/VarHandle") ∧ (parseMethodDescriptor yJ15_checkIndex_7cf53.desc).map (fun d => d.parameters.length) = some 2 := by decide +kernel
theorem ydJ3_checkIndex_8e157 : (yJ3_checkIndex_8e157.cls ≠ "java/lang/invoke/MethodHandle" ∧ yJ3_checkIndex_8e157.cls ≠ "java/lang/invoke/VarHandle") ∧ (parseMethodDescriptor yJ3_checkIndex_8e157.desc).map (fun d => d.parameters.length) = some 3 := by decide +kernel
theorem ydJx4a65c_elementData_915e3 : (yJx4a65c_elementData_915e3.cls ≠ "java/lang/invoke/MethodHandle" ∧ yJx4a65c_elementData_915e3.cls ≠ "java/lang/invoke/VarHandle") ∧ (parseMethodDescriptor yJx4a65c_elementData_915e3.desc).map (fun d => d.parameters.length) = some 1 := by decide +kernel
theorem ydJx4a65c_get_915e3 : (yJx4a65c_get_915e3.cls ≠ "java/lang/invoke/MethodHandle" ∧ yJx4a65c_get_915e3.cls ≠ "java/lang/invoke/VarHandle") ∧ (parseMethodDescriptor yJx4a65c_get_915e3.desc).map (fun d => d.parameters.length) = some 1 := by decide +kernel
theorem ydJx4a65c_size_8abf5 : (yJx4a65c_size_8abf5.cls ≠ "java/lang/invoke/MethodHandle" ∧ yJx4a65c_size_8abf5.cls ≠ "java/lang/invoke/VarHandle") ∧ (parseMethodDescriptor yJx4a65c_size_8abf5.desc).map (fun d => d.parameters.length) = some 0 := by decide +kernel
theorem ydX11_addEvidence : (yX11_addEvidence.cls ≠ "java/lang/invoke/MethodHandle" ∧ yX11_addEvidence.cls ≠ "java/lang/invoke/VarHandle") ∧ (parseMethodDescriptor yX11_addEvidence.desc).map (fun d => d.parameters.length) = some 1 := by decide +kernel
theorem ydX11_apart : (yX11_apart.cls ≠ "java/lang/invoke/MethodHandle" ∧ yX11_apart.cls ≠ "java/lang/invoke/VarHandle") ∧ (parseMethodDescriptor yX11_apart.desc).map (fun d => d.parameters.length) = some 4 := by decide +kernel
theorem ydX11_disturbance : (yX11_disturbance.cls ≠ "java/lang/invoke/MethodHandle" ∧ yX11_disturbance.cls ≠ "java/lang/invoke/VarHandle") ∧ (parseMethodDescriptor yX11_disturbance.desc).map (fun d => d.parameters.length) = some 3 := by decide +kernel
theorem ydX11_isForbidden : (yX11_isForbidden.cls ≠ "java/lang/invoke/MethodHandle" ∧ yX11_isForbidden.cls ≠ "java/lang/invoke/VarHandle") ∧ (parseMethodDescriptor yX11_isForbidden.desc).map (fun d => d.parameters.length) = some 2 := by decide +kernel
theorem ydX11_isInsideLine : (yX11_isInsideLine.cls ≠ "java/lang/invoke/MethodHandle" ∧ yX11_isInsideLine.cls ≠ "java/lang/invoke/VarHandle") ∧ (parseMethodDescriptor yX11_isInsideLine.desc).map (fun d => d.parameters.length) = some 2 := by decide +kernel
theorem ydX11_isNight : (yX11_isNight.cls ≠ "java/lang/invoke/MethodHandle" ∧ yX11_isNight.cls ≠ "java/lang/invoke/VarHandle") ∧ (parseMethodDescriptor yX11_isNight.desc).map (fun d => d.parameters.length) = some 1 := by decide +kernel
theorem ydX11_isPerson : (yX11_isPerson.cls ≠ "java/lang/invoke/MethodHandle" ∧ yX11_isPerson.cls ≠ "java/lang/invoke/VarHandle") ∧ (parseMethodDescriptor yX11_isPerson.desc).map (fun d => d.parameters.length) = some 1 := by decide +kernel
theorem ydX11_signalOf : (yX11_signalOf.cls ≠ "java/lang/invoke/MethodHandle" ∧ yX11_signalOf.cls ≠ "java/lang/invoke/VarHandle") ∧ (parseMethodDescriptor yX11_signalOf.desc).map (fun d => d.parameters.length) = some 2 := by decide +kernel
theorem ydX11_within : (yX11_within.cls ≠ "java/lang/invoke/MethodHandle" ∧ yX11_within.cls ≠ "java/lang/invoke/VarHandle") ∧ (parseMethodDescriptor yX11_within.desc).map (fun d => d.parameters.length) = some 1 := by decide +kernel
theorem ydX2_canRun : (yX2_canRun.cls ≠ "java/lang/invoke/MethodHandle" ∧ yX2_canRun.cls ≠ "java/lang/invoke/VarHandle") ∧ (parseMethodDescriptor yX2_canRun.desc).map (fun d => d.parameters.length) = some 1 := by decide +kernel
theorem ydX4_forbids : (yX4_forbids.cls ≠ "java/lang/invoke/MethodHandle" ∧ yX4_forbids.cls ≠ "java/lang/invoke/VarHandle") ∧ (parseMethodDescriptor yX4_forbids.desc).map (fun d => d.parameters.length) = some 2 := by decide +kernel
theorem ydX4_lineAt : (yX4_lineAt.cls ≠ "java/lang/invoke/MethodHandle" ∧ yX4_lineAt.cls ≠ "java/lang/invoke/VarHandle") ∧ (parseMethodDescriptor yX4_lineAt.desc).map (fun d => d.parameters.length) = some 1 := by decide +kernel
theorem ydX4_newestAct : (yX4_newestAct.cls ≠ "java/lang/invoke/MethodHandle" ∧ yX4_newestAct.cls ≠ "java/lang/invoke/VarHandle") ∧ (parseMethodDescriptor yX4_newestAct.desc).map (fun d => d.parameters.length) = some 1 := by decide +kernel
theorem ydX8_output : (yX8_output.cls ≠ "java/lang/invoke/MethodHandle" ∧ yX8_output.cls ≠ "java/lang/invoke/VarHandle") ∧ (parseMethodDescriptor yX8_output.desc).map (fun d => d.parameters.length) = some 0 := by decide +kernel
theorem ydX8_powerOf : (yX8_powerOf.cls ≠ "java/lang/invoke/MethodHandle" ∧ yX8_powerOf.cls ≠ "java/lang/invoke/VarHandle") ∧ (parseMethodDescriptor yX8_powerOf.desc).map (fun d => d.parameters.length) = some 1 := by decide +kernel
theorem dX2_canRun_0 : decode cX2_canRun 0 = .ok (.aload_n 0, 1) := by decide +kernel
theorem dX2_canRun_1 : decode cX2_canRun 1 = .ok (.getfield 16, 3) := by decide +kernel
theorem dX2_canRun_4 : decode cX2_canRun 4 = .ok (.ifCond .eq 26, 3) := by decide +kernel
theorem dX2_canRun_7 : decode cX2_canRun 7 = .ok (.aload_n 0, 1) := by decide +kernel
theorem dX2_canRun_8 : decode cX2_canRun 8 = .ok (.getfield 20, 3) := by decide +kernel
theorem dX2_canRun_11 : decode cX2_canRun 11 = .ok (.aload_n 0, 1) := by decide +kernel
theorem dX2_canRun_12 : decode cX2_canRun 12 = .ok (.getfield 13, 3) := by decide +kernel
theorem dX2_canRun_15 : decode cX2_canRun 15 = .ok (.if_icmp .ge 15, 3) := by decide +kernel
theorem dX2_canRun_18 : decode cX2_canRun 18 = .ok (.iload_n 1, 1) := by decide +kernel
theorem dX2_canRun_19 : decode cX2_canRun 19 = .ok (.aload_n 0, 1) := by decide +kernel
theorem dX2_canRun_20 : decode cX2_canRun 20 = .ok (.getfield 7, 3) := by decide +kernel
theorem dX2_canRun_23 : decode cX2_canRun 23 = .ok (.if_icmp .lt 7, 3) := by decide +kernel
theorem dX2_canRun_26 : decode cX2_canRun 26 = .ok (.iconst 1, 1) := by decide +kernel
theorem dX2_canRun_27 : decode cX2_canRun 27 = .ok (.goto 4, 3) := by decide +kernel
theorem dX2_canRun_30 : decode cX2_canRun 30 = .ok (.iconst 0, 1) := by decide +kernel
theorem dX2_canRun_31 : decode cX2_canRun 31 = .ok (.ireturn, 1) := by decide +kernel
theorem dX4_newestAct_0 : decode cX4_newestAct 0 = .ok (.iconst (-1), 1) := by decide +kernel
theorem dX4_newestAct_1 : decode cX4_newestAct 1 = .ok (.istore_n 2, 1) := by decide +kernel
theorem dX4_newestAct_2 : decode cX4_newestAct 2 = .ok (.iconst 0, 1) := by decide +kernel
theorem dX4_newestAct_3 : decode cX4_newestAct 3 = .ok (.istore_n 3, 1) := by decide +kernel
theorem dX4_newestAct_4 : decode cX4_newestAct 4 = .ok (.iconst 0, 1) := by decide +kernel
theorem dX4_newestAct_5 : decode cX4_newestAct 5 = .ok (.istore 4, 2) := by decide +kernel
theorem dX4_newestAct_7 : decode cX4_newestAct 7 = .ok (.iload 4, 2) := by decide +kernel
theorem dX4_newestAct_9 : decode cX4_newestAct 9 = .ok (.aload_n 0, 1) := by decide +kernel
theorem dX4_newestAct_10 : decode cX4_newestAct 10 = .ok (.getfield 34, 3) := by decide +kernel
theorem dX4_newestAct_13 : decode cX4_newestAct 13 = .ok (.if_icmp .ge 49, 3) := by decide +kernel
theorem dX4_newestAct_62 : decode cX4_newestAct 62 = .ok (.iload_n 2, 1) := by decide +kernel
theorem dX4_newestAct_63 : decode cX4_newestAct 63 = .ok (.ireturn, 1) := by decide +kernel
theorem dX4_lineAt_0 : decode cX4_lineAt 0 = .ok (.aload_n 0, 1) := by decide +kernel
theorem dX4_lineAt_1 : decode cX4_lineAt 1 = .ok (.iload_n 1, 1) := by decide +kernel
theorem dX4_lineAt_2 : decode cX4_lineAt 2 = .ok (.invokevirtual 37, 3) := by decide +kernel
theorem dX4_lineAt_5 : decode cX4_lineAt 5 = .ok (.istore_n 2, 1) := by decide +kernel
theorem dX4_lineAt_6 : decode cX4_lineAt 6 = .ok (.iload_n 2, 1) := by decide +kernel
theorem dX4_lineAt_7 : decode cX4_lineAt 7 = .ok (.ifCond .ge 8, 3) := by decide +kernel
theorem dX4_lineAt_10 : decode cX4_lineAt 10 = .ok (.bipush 30, 2) := by decide +kernel
theorem dX4_lineAt_12 : decode cX4_lineAt 12 = .ok (.goto 9, 3) := by decide +kernel
theorem dX4_lineAt_21 : decode cX4_lineAt 21 = .ok (.ireturn, 1) := by decide +kernel
theorem dX4_forbids_0 : decode cX4_forbids 0 = .ok (.aload_n 0, 1) := by decide +kernel
theorem dX4_forbids_1 : decode cX4_forbids 1 = .ok (.iload_n 2, 1) := by decide +kernel
theorem dX4_forbids_2 : decode cX4_forbids 2 = .ok (.invokevirtual 37, 3) := by decide +kernel
theorem dX4_forbids_5 : decode cX4_forbids 5 = .ok (.istore_n 3, 1) := by decide +kernel
theorem dX4_forbids_6 : decode cX4_forbids 6 = .ok (.iload_n 3, 1) := by decide +kernel
theorem dX4_forbids_7 : decode cX4_forbids 7 = .ok (.ifCond .lt 18, 3) := by decide +kernel
theorem dX4_forbids_25 : decode cX4_forbids 25 = .ok (.iconst 0, 1) := by decide +kernel
theorem dX4_forbids_26 : decode cX4_forbids 26 = .ok (.ireturn, 1) := by decide +kernel
theorem dX8_burnFuel_0 : decode cX8_burnFuel 0 = .ok (.aload_n 0, 1) := by decide +kernel
theorem dX8_burnFuel_1 : decode cX8_burnFuel 1 = .ok (.iconst 0, 1) := by decide +kernel
theorem dX8_burnFuel_2 : decode cX8_burnFuel 2 = .ok (.putfield 54, 3) := by decide +kernel
theorem dX8_burnFuel_5 : decode cX8_burnFuel 5 = .ok (.iconst 0, 1) := by decide +kernel
theorem dX8_burnFuel_6 : decode cX8_burnFuel 6 = .ok (.istore_n 1, 1) := by decide +kernel
theorem dX8_burnFuel_7 : decode cX8_burnFuel 7 = .ok (.iload_n 1, 1) := by decide +kernel
theorem dX8_burnFuel_8 : decode cX8_burnFuel 8 = .ok (.aload_n 0, 1) := by decide +kernel
theorem dX8_burnFuel_9 : decode cX8_burnFuel 9 = .ok (.getfield 23, 3) := by decide +kernel
theorem dX8_burnFuel_12 : decode cX8_burnFuel 12 = .ok (.invokevirtual 57, 3) := by decide +kernel
theorem dX8_burnFuel_15 : decode cX8_burnFuel 15 = .ok (.if_icmp .ge 67, 3) := by decide +kernel
theorem dX8_burnFuel_18 : decode cX8_burnFuel 18 = .ok (.aload_n 0, 1) := by decide +kernel
theorem dX8_burnFuel_19 : decode cX8_burnFuel 19 = .ok (.getfield 23, 3) := by decide +kernel
theorem dX8_burnFuel_22 : decode cX8_burnFuel 22 = .ok (.iload_n 1, 1) := by decide +kernel
theorem dX8_burnFuel_23 : decode cX8_burnFuel 23 = .ok (.invokevirtual 61, 3) := by decide +kernel
theorem dX8_burnFuel_26 : decode cX8_burnFuel 26 = .ok (.checkcast 65, 3) := by decide +kernel
theorem dX8_burnFuel_29 : decode cX8_burnFuel 29 = .ok (.astore_n 2, 1) := by decide +kernel
theorem dX8_burnFuel_30 : decode cX8_burnFuel 30 = .ok (.aload_n 2, 1) := by decide +kernel
theorem dX8_burnFuel_31 : decode cX8_burnFuel 31 = .ok (.aload_n 0, 1) := by decide +kernel
theorem dX8_burnFuel_32 : decode cX8_burnFuel 32 = .ok (.getfield 67, 3) := by decide +kernel
theorem dX8_burnFuel_35 : decode cX8_burnFuel 35 = .ok (.invokevirtual 70, 3) := by decide +kernel
theorem dX8_burnFuel_38 : decode cX8_burnFuel 38 = .ok (.ifCond .eq 38, 3) := by decide +kernel
theorem dX8_burnFuel_41 : decode cX8_burnFuel 41 = .ok (.aload_n 0, 1) := by decide +kernel
theorem dX8_burnFuel_42 : decode cX8_burnFuel 42 = .ok (.dup, 1) := by decide +kernel
theorem dX8_burnFuel_43 : decode cX8_burnFuel 43 = .ok (.getfield 67, 3) := by decide +kernel
theorem dX8_burnFuel_46 : decode cX8_burnFuel 46 = .ok (.aload_n 2, 1) := by decide +kernel
theorem dX8_burnFuel_47 : decode cX8_burnFuel 47 = .ok (.getfield 74, 3) := by decide +kernel
theorem dX8_burnFuel_50 : decode cX8_burnFuel 50 = .ok (.isub, 1) := by decide +kernel
theorem dX8_burnFuel_51 : decode cX8_burnFuel 51 = .ok (.putfield 67, 3) := by decide +kernel
theorem dX8_burnFuel_54 : decode cX8_burnFuel 54 = .ok (.aload_n 2, 1) := by decide +kernel
theorem dX8_burnFuel_55 : decode cX8_burnFuel 55 = .ok (.dup, 1) := by decide +kernel
theorem dX8_burnFuel_56 : decode cX8_burnFuel 56 = .ok (.getfield 77, 3) := by decide +kernel
theorem dX8_burnFuel_59 : decode cX8_burnFuel 59 = .ok (.iconst 1, 1) := by decide +kernel
theorem dX8_burnFuel_60 : decode cX8_burnFuel 60 = .ok (.iadd, 1) := by decide +kernel
theorem dX8_burnFuel_61 : decode cX8_burnFuel 61 = .ok (.putfield 77, 3) := by decide +kernel
theorem dX8_burnFuel_64 : decode cX8_burnFuel 64 = .ok (.aload_n 0, 1) := by decide +kernel
theorem dX8_burnFuel_65 : decode cX8_burnFuel 65 = .ok (.dup, 1) := by decide +kernel
theorem dX8_burnFuel_66 : decode cX8_burnFuel 66 = .ok (.getfield 54, 3) := by decide +kernel
theorem dX8_burnFuel_69 : decode cX8_burnFuel 69 = .ok (.iconst 1, 1) := by decide +kernel
theorem dX8_burnFuel_70 : decode cX8_burnFuel 70 = .ok (.iload_n 1, 1) := by decide +kernel
theorem dX8_burnFuel_71 : decode cX8_burnFuel 71 = .ok (.ishl, 1) := by decide +kernel
theorem dX8_burnFuel_72 : decode cX8_burnFuel 72 = .ok (.ior, 1) := by decide +kernel
theorem dX8_burnFuel_73 : decode cX8_burnFuel 73 = .ok (.putfield 54, 3) := by decide +kernel
theorem dX8_burnFuel_76 : decode cX8_burnFuel 76 = .ok (.iinc 1 1, 3) := by decide +kernel
theorem dX8_burnFuel_79 : decode cX8_burnFuel 79 = .ok (.goto (-72), 3) := by decide +kernel
theorem dX8_burnFuel_82 : decode cX8_burnFuel 82 = .ok (.return_, 1) := by decide +kernel
theorem dX8_powerOf_0 : decode cX8_powerOf 0 = .ok (.iconst 0, 1) := by decide +kernel
theorem dX8_powerOf_1 : decode cX8_powerOf 1 = .ok (.istore_n 2, 1) := by decide +kernel
theorem dX8_powerOf_2 : decode cX8_powerOf 2 = .ok (.iconst 0, 1) := by decide +kernel
theorem dX8_powerOf_3 : decode cX8_powerOf 3 = .ok (.istore_n 3, 1) := by decide +kernel
theorem dX8_powerOf_4 : decode cX8_powerOf 4 = .ok (.iload_n 3, 1) := by decide +kernel
theorem dX8_powerOf_5 : decode cX8_powerOf 5 = .ok (.aload_n 0, 1) := by decide +kernel
theorem dX8_powerOf_6 : decode cX8_powerOf 6 = .ok (.getfield 23, 3) := by decide +kernel
theorem dX8_powerOf_9 : decode cX8_powerOf 9 = .ok (.invokevirtual 57, 3) := by decide +kernel
theorem dX8_powerOf_12 : decode cX8_powerOf 12 = .ok (.if_icmp .ge 34, 3) := by decide +kernel
theorem dX8_powerOf_15 : decode cX8_powerOf 15 = .ok (.iload_n 1, 1) := by decide +kernel
theorem dX8_powerOf_16 : decode cX8_powerOf 16 = .ok (.iconst 1, 1) := by decide +kernel
theorem dX8_powerOf_17 : decode cX8_powerOf 17 = .ok (.iload_n 3, 1) := by decide +kernel
theorem dX8_powerOf_18 : decode cX8_powerOf 18 = .ok (.ishl, 1) := by decide +kernel
theorem dX8_powerOf_19 : decode cX8_powerOf 19 = .ok (.iand, 1) := by decide +kernel
theorem dX8_powerOf_20 : decode cX8_powerOf 20 = .ok (.ifCond .eq 20, 3) := by decide +kernel
theorem dX8_powerOf_23 : decode cX8_powerOf 23 = .ok (.iload_n 2, 1) := by decide +kernel
theorem dX8_powerOf_24 : decode cX8_powerOf 24 = .ok (.aload_n 0, 1) := by decide +kernel
theorem dX8_powerOf_25 : decode cX8_powerOf 25 = .ok (.getfield 23, 3) := by decide +kernel
theorem dX8_powerOf_28 : decode cX8_powerOf 28 = .ok (.iload_n 3, 1) := by decide +kernel
theorem dX8_powerOf_29 : decode cX8_powerOf 29 = .ok (.invokevirtual 61, 3) := by decide +kernel
theorem dX8_powerOf_32 : decode cX8_powerOf 32 = .ok (.checkcast 65, 3) := by decide +kernel
theorem dX8_powerOf_35 : decode cX8_powerOf 35 = .ok (.getfield 74, 3) := by decide +kernel
theorem dX8_powerOf_38 : decode cX8_powerOf 38 = .ok (.iadd, 1) := by decide +kernel
theorem dX8_powerOf_39 : decode cX8_powerOf 39 = .ok (.istore_n 2, 1) := by decide +kernel
theorem dX8_powerOf_40 : decode cX8_powerOf 40 = .ok (.iinc 3 1, 3) := by decide +kernel
theorem dX8_powerOf_43 : decode cX8_powerOf 43 = .ok (.goto (-39), 3) := by decide +kernel
theorem dX8_powerOf_46 : decode cX8_powerOf 46 = .ok (.iload_n 2, 1) := by decide +kernel
theorem dX8_powerOf_47 : decode cX8_powerOf 47 = .ok (.ireturn, 1) := by decide +kernel
theorem dX8_canSend_0 : decode cX8_canSend 0 = .ok (.aload_n 0, 1) := by decide +kernel
theorem dX8_canSend_1 : decode cX8_canSend 1 = .ok (.getfield 48, 3) := by decide +kernel
theorem dX8_canSend_4 : decode cX8_canSend 4 = .ok (.iconst (-1), 1) := by decide +kernel
theorem dX8_canSend_5 : decode cX8_canSend 5 = .ok (.if_icmp .eq 36, 3) := by decide +kernel
theorem dX8_canSend_8 : decode cX8_canSend 8 = .ok (.aload_n 0, 1) := by decide +kernel
theorem dX8_canSend_9 : decode cX8_canSend 9 = .ok (.getfield 80, 3) := by decide +kernel
theorem dX8_canSend_12 : decode cX8_canSend 12 = .ok (.ifCond .le 29, 3) := by decide +kernel
theorem dX8_canSend_15 : decode cX8_canSend 15 = .ok (.aload_n 0, 1) := by decide +kernel
theorem dX8_canSend_16 : decode cX8_canSend 16 = .ok (.aload_n 0, 1) := by decide +kernel
theorem dX8_canSend_17 : decode cX8_canSend 17 = .ok (.getfield 54, 3) := by decide +kernel
theorem dX8_canSend_20 : decode cX8_canSend 20 = .ok (.invokevirtual 81, 3) := by decide +kernel
theorem dX8_canSend_23 : decode cX8_canSend 23 = .ok (.aload_n 0, 1) := by decide +kernel
theorem dX8_canSend_24 : decode cX8_canSend 24 = .ok (.getfield 80, 3) := by decide +kernel
theorem dX8_canSend_27 : decode cX8_canSend 27 = .ok (.if_icmp .le 14, 3) := by decide +kernel
theorem dX8_canSend_30 : decode cX8_canSend 30 = .ok (.aload_n 0, 1) := by decide +kernel
theorem dX8_canSend_31 : decode cX8_canSend 31 = .ok (.getfield 85, 3) := by decide +kernel
theorem dX8_canSend_34 : decode cX8_canSend 34 = .ok (.ifCond .ne 7, 3) := by decide +kernel
theorem dX8_canSend_37 : decode cX8_canSend 37 = .ok (.iconst 1, 1) := by decide +kernel
theorem dX8_canSend_38 : decode cX8_canSend 38 = .ok (.goto 4, 3) := by decide +kernel
theorem dX8_canSend_41 : decode cX8_canSend 41 = .ok (.iconst 0, 1) := by decide +kernel
theorem dX8_canSend_42 : decode cX8_canSend 42 = .ok (.ireturn, 1) := by decide +kernel
theorem dX8_output_0 : decode cX8_output 0 = .ok (.iconst 1, 1) := by decide +kernel
theorem dX8_output_1 : decode cX8_output 1 = .ok (.aload_n 0, 1) := by decide +kernel
theorem dX8_output_2 : decode cX8_output 2 = .ok (.getfield 80, 3) := by decide +kernel
theorem dX8_output_5 : decode cX8_output 5 = .ok (.bipush 10, 2) := by decide +kernel
theorem dX8_output_7 : decode cX8_output 7 = .ok (.aload_n 0, 1) := by decide +kernel
theorem dX8_output_8 : decode cX8_output 8 = .ok (.getfield 89, 3) := by decide +kernel
theorem dX8_output_11 : decode cX8_output 11 = .ok (.isub, 1) := by decide +kernel
theorem dX8_output_12 : decode cX8_output 12 = .ok (.imul, 1) := by decide +kernel
theorem dX8_output_13 : decode cX8_output 13 = .ok (.bipush 10, 2) := by decide +kernel
theorem dX8_output_15 : decode cX8_output 15 = .ok (.idiv, 1) := by decide +kernel
theorem dX8_output_16 : decode cX8_output 16 = .ok (.invokestatic 92, 3) := by decide +kernel
theorem dX8_output_19 : decode cX8_output 19 = .ok (.ireturn, 1) := by decide +kernel
theorem dX8_feed_0 : decode cX8_feed 0 = .ok (.aload_n 0, 1) := by decide +kernel
theorem dX8_feed_1 : decode cX8_feed 1 = .ok (.aload_n 0, 1) := by decide +kernel
theorem dX8_feed_2 : decode cX8_feed 2 = .ok (.getfield 98, 3) := by decide +kernel
theorem dX8_feed_5 : decode cX8_feed 5 = .ok (.iload_n 1, 1) := by decide +kernel
theorem dX8_feed_6 : decode cX8_feed 6 = .ok (.if_icmp .ge 12, 3) := by decide +kernel
theorem dX8_feed_9 : decode cX8_feed 9 = .ok (.aload_n 0, 1) := by decide +kernel
theorem dX8_feed_10 : decode cX8_feed 10 = .ok (.getfield 101, 3) := by decide +kernel
theorem dX8_feed_13 : decode cX8_feed 13 = .ok (.iconst 1, 1) := by decide +kernel
theorem dX8_feed_14 : decode cX8_feed 14 = .ok (.iadd, 1) := by decide +kernel
theorem dX8_feed_15 : decode cX8_feed 15 = .ok (.goto 4, 3) := by decide +kernel
theorem dX8_feed_18 : decode cX8_feed 18 = .ok (.iconst 0, 1) := by decide +kernel
theorem dX8_feed_19 : decode cX8_feed 19 = .ok (.putfield 101, 3) := by decide +kernel
theorem dX8_feed_22 : decode cX8_feed 22 = .ok (.aload_n 0, 1) := by decide +kernel
theorem dX8_feed_23 : decode cX8_feed 23 = .ok (.iconst 0, 1) := by decide +kernel
theorem dX8_feed_24 : decode cX8_feed 24 = .ok (.aload_n 0, 1) := by decide +kernel
theorem dX8_feed_25 : decode cX8_feed 25 = .ok (.getfield 98, 3) := by decide +kernel
theorem dX8_feed_28 : decode cX8_feed 28 = .ok (.iload_n 1, 1) := by decide +kernel
theorem dX8_feed_29 : decode cX8_feed 29 = .ok (.isub, 1) := by decide +kernel
theorem dX8_feed_30 : decode cX8_feed 30 = .ok (.invokestatic 92, 3) := by decide +kernel
theorem dX8_feed_33 : decode cX8_feed 33 = .ok (.putfield 98, 3) := by decide +kernel
theorem dX8_feed_36 : decode cX8_feed 36 = .ok (.aload_n 0, 1) := by decide +kernel
theorem dX8_feed_37 : decode cX8_feed 37 = .ok (.getfield 101, 3) := by decide +kernel
theorem dX8_feed_40 : decode cX8_feed 40 = .ok (.bipush 24, 2) := by decide +kernel
theorem dX8_feed_42 : decode cX8_feed 42 = .ok (.if_icmp .lt 8, 3) := by decide +kernel
theorem dX8_feed_45 : decode cX8_feed 45 = .ok (.aload_n 0, 1) := by decide +kernel
theorem dX8_feed_46 : decode cX8_feed 46 = .ok (.iconst 1, 1) := by decide +kernel
theorem dX8_feed_47 : decode cX8_feed 47 = .ok (.putfield 85, 3) := by decide +kernel
theorem dX8_feed_50 : decode cX8_feed 50 = .ok (.return_, 1) := by decide +kernel
theorem dX8_moveBy_0 : decode cX8_moveBy 0 = .ok (.aload_n 0, 1) := by decide +kernel
theorem dX8_moveBy_1 : decode cX8_moveBy 1 = .ok (.aload_n 0, 1) := by decide +kernel
theorem dX8_moveBy_2 : decode cX8_moveBy 2 = .ok (.getfield 41, 3) := by decide +kernel
theorem dX8_moveBy_5 : decode cX8_moveBy 5 = .ok (.iload_n 1, 1) := by decide +kernel
theorem dX8_moveBy_6 : decode cX8_moveBy 6 = .ok (.iadd, 1) := by decide +kernel
theorem dX8_moveBy_7 : decode cX8_moveBy 7 = .ok (.invokestatic 104, 3) := by decide +kernel
theorem dX8_moveBy_10 : decode cX8_moveBy 10 = .ok (.putfield 41, 3) := by decide +kernel
theorem dX8_moveBy_13 : decode cX8_moveBy 13 = .ok (.aload_n 0, 1) := by decide +kernel
theorem dX8_moveBy_14 : decode cX8_moveBy 14 = .ok (.aload_n 0, 1) := by decide +kernel
theorem dX8_moveBy_15 : decode cX8_moveBy 15 = .ok (.getfield 45, 3) := by decide +kernel
theorem dX8_moveBy_18 : decode cX8_moveBy 18 = .ok (.iload_n 2, 1) := by decide +kernel
theorem dX8_moveBy_19 : decode cX8_moveBy 19 = .ok (.iadd, 1) := by decide +kernel
theorem dX8_moveBy_20 : decode cX8_moveBy 20 = .ok (.invokestatic 104, 3) := by decide +kernel
theorem dX8_moveBy_23 : decode cX8_moveBy 23 = .ok (.putfield 45, 3) := by decide +kernel
theorem dX8_moveBy_26 : decode cX8_moveBy 26 = .ok (.return_, 1) := by decide +kernel
theorem dX9_playOne_0 : decode cX9_playOne 0 = .ok (.aload_n 0, 1) := by decide +kernel
theorem dX9_playOne_1 : decode cX9_playOne 1 = .ok (.getfield 20, 3) := by decide +kernel
theorem dX9_playOne_4 : decode cX9_playOne 4 = .ok (.ifCond .le 23, 3) := by decide +kernel
theorem dX9_playOne_7 : decode cX9_playOne 7 = .ok (.aload_n 0, 1) := by decide +kernel
theorem dX9_playOne_8 : decode cX9_playOne 8 = .ok (.dup, 1) := by decide +kernel
theorem dX9_playOne_9 : decode cX9_playOne 9 = .ok (.getfield 20, 3) := by decide +kernel
theorem dX9_playOne_12 : decode cX9_playOne 12 = .ok (.iconst 1, 1) := by decide +kernel
theorem dX9_playOne_13 : decode cX9_playOne 13 = .ok (.isub, 1) := by decide +kernel
theorem dX9_playOne_14 : decode cX9_playOne 14 = .ok (.putfield 20, 3) := by decide +kernel
theorem dX9_playOne_17 : decode cX9_playOne 17 = .ok (.aload_n 0, 1) := by decide +kernel
theorem dX9_playOne_18 : decode cX9_playOne 18 = .ok (.dup, 1) := by decide +kernel
theorem dX9_playOne_19 : decode cX9_playOne 19 = .ok (.getfield 23, 3) := by decide +kernel
theorem dX9_playOne_22 : decode cX9_playOne 22 = .ok (.iload_n 1, 1) := by decide +kernel
theorem dX9_playOne_23 : decode cX9_playOne 23 = .ok (.iadd, 1) := by decide +kernel
theorem dX9_playOne_24 : decode cX9_playOne 24 = .ok (.putfield 23, 3) := by decide +kernel
theorem dX9_playOne_27 : decode cX9_playOne 27 = .ok (.return_, 1) := by decide +kernel
theorem dX11_isPerson_0 : decode cX11_isPerson 0 = .ok (.iload_n 1, 1) := by decide +kernel
theorem dX11_isPerson_1 : decode cX11_isPerson 1 = .ok (.ifCond .lt 18, 3) := by decide +kernel
theorem dX11_isPerson_4 : decode cX11_isPerson 4 = .ok (.iload_n 1, 1) := by decide +kernel
theorem dX11_isPerson_5 : decode cX11_isPerson 5 = .ok (.aload_n 0, 1) := by decide +kernel
theorem dX11_isPerson_6 : decode cX11_isPerson 6 = .ok (.getfield 22, 3) := by decide +kernel
theorem dX11_isPerson_9 : decode cX11_isPerson 9 = .ok (.invokevirtual 44, 3) := by decide +kernel
theorem dX11_isPerson_12 : decode cX11_isPerson 12 = .ok (.if_icmp .ge 7, 3) := by decide +kernel
theorem dX11_isPerson_15 : decode cX11_isPerson 15 = .ok (.iconst 1, 1) := by decide +kernel
theorem dX11_isPerson_16 : decode cX11_isPerson 16 = .ok (.goto 4, 3) := by decide +kernel
theorem dX11_isPerson_19 : decode cX11_isPerson 19 = .ok (.iconst 0, 1) := by decide +kernel
theorem dX11_isPerson_20 : decode cX11_isPerson 20 = .ok (.ireturn, 1) := by decide +kernel
theorem dX11_isTape_0 : decode cX11_isTape 0 = .ok (.iload_n 0, 1) := by decide +kernel
theorem dX11_isTape_1 : decode cX11_isTape 1 = .ok (.bipush 100, 2) := by decide +kernel
theorem dX11_isTape_3 : decode cX11_isTape 3 = .ok (.if_icmp .lt 14, 3) := by decide +kernel
theorem dX11_isTape_6 : decode cX11_isTape 6 = .ok (.iload_n 0, 1) := by decide +kernel
theorem dX11_isTape_7 : decode cX11_isTape 7 = .ok (.sipush 199, 3) := by decide +kernel
theorem dX11_isTape_10 : decode cX11_isTape 10 = .ok (.if_icmp .gt 7, 3) := by decide +kernel
theorem dX11_isTape_13 : decode cX11_isTape 13 = .ok (.iconst 1, 1) := by decide +kernel
theorem dX11_isTape_14 : decode cX11_isTape 14 = .ok (.goto 4, 3) := by decide +kernel
theorem dX11_isTape_17 : decode cX11_isTape 17 = .ok (.iconst 0, 1) := by decide +kernel
theorem dX11_isTape_18 : decode cX11_isTape 18 = .ok (.ireturn, 1) := by decide +kernel
theorem dX11_holdOf_0 : decode cX11_holdOf 0 = .ok (.iload_n 0, 1) := by decide +kernel
theorem dX11_holdOf_1 : decode cX11_holdOf 1 = .ok (.bipush 115, 2) := by decide +kernel
theorem dX11_holdOf_3 : decode cX11_holdOf 3 = .ok (.if_icmp .ne 8, 3) := by decide +kernel
theorem dX11_holdOf_6 : decode cX11_holdOf 6 = .ok (.bipush 8, 2) := by decide +kernel
theorem dX11_holdOf_8 : decode cX11_holdOf 8 = .ok (.goto 25, 3) := by decide +kernel
theorem dX11_holdOf_11 : decode cX11_holdOf 11 = .ok (.iload_n 0, 1) := by decide +kernel
theorem dX11_holdOf_12 : decode cX11_holdOf 12 = .ok (.bipush 109, 2) := by decide +kernel
theorem dX11_holdOf_14 : decode cX11_holdOf 14 = .ok (.if_icmp .ne 8, 3) := by decide +kernel
theorem dX11_holdOf_17 : decode cX11_holdOf 17 = .ok (.bipush 6, 2) := by decide +kernel
theorem dX11_holdOf_19 : decode cX11_holdOf 19 = .ok (.goto 14, 3) := by decide +kernel
theorem dX11_holdOf_22 : decode cX11_holdOf 22 = .ok (.iload_n 0, 1) := by decide +kernel
theorem dX11_holdOf_23 : decode cX11_holdOf 23 = .ok (.bipush 114, 2) := by decide +kernel
theorem dX11_holdOf_25 : decode cX11_holdOf 25 = .ok (.if_icmp .ne 7, 3) := by decide +kernel
theorem dX11_holdOf_28 : decode cX11_holdOf 28 = .ok (.iconst 4, 1) := by decide +kernel
theorem dX11_holdOf_29 : decode cX11_holdOf 29 = .ok (.goto 4, 3) := by decide +kernel
theorem dX11_holdOf_32 : decode cX11_holdOf 32 = .ok (.iconst 0, 1) := by decide +kernel
theorem dX11_holdOf_33 : decode cX11_holdOf 33 = .ok (.ireturn, 1) := by decide +kernel
theorem dX11_apart_0 : decode cX11_apart 0 = .ok (.iload_n 0, 1) := by decide +kernel
theorem dX11_apart_1 : decode cX11_apart 1 = .ok (.iload_n 2, 1) := by decide +kernel
theorem dX11_apart_2 : decode cX11_apart 2 = .ok (.isub, 1) := by decide +kernel
theorem dX11_apart_3 : decode cX11_apart 3 = .ok (.invokestatic 421, 3) := by decide +kernel
theorem dX11_apart_6 : decode cX11_apart 6 = .ok (.iload_n 1, 1) := by decide +kernel
theorem dX11_apart_7 : decode cX11_apart 7 = .ok (.iload_n 3, 1) := by decide +kernel
theorem dX11_apart_8 : decode cX11_apart 8 = .ok (.isub, 1) := by decide +kernel
theorem dX11_apart_9 : decode cX11_apart 9 = .ok (.invokestatic 421, 3) := by decide +kernel
theorem dX11_apart_12 : decode cX11_apart 12 = .ok (.invokestatic 426, 3) := by decide +kernel
theorem dX11_apart_15 : decode cX11_apart 15 = .ok (.ireturn, 1) := by decide +kernel
theorem dX11_within_0 : decode cX11_within 0 = .ok (.sipush (-999), 3) := by decide +kernel
theorem dX11_within_3 : decode cX11_within 3 = .ok (.sipush 999, 3) := by decide +kernel
theorem dX11_within_6 : decode cX11_within 6 = .ok (.iload_n 0, 1) := by decide +kernel
theorem dX11_within_7 : decode cX11_within 7 = .ok (.invokestatic 429, 3) := by decide +kernel
theorem dX11_within_10 : decode cX11_within 10 = .ok (.invokestatic 426, 3) := by decide +kernel
theorem dX11_within_13 : decode cX11_within 13 = .ok (.ireturn, 1) := by decide +kernel
theorem dX11_isNight_0 : decode cX11_isNight 0 = .ok (.iload_n 0, 1) := by decide +kernel
theorem dX11_isNight_1 : decode cX11_isNight 1 = .ok (.bipush 24, 2) := by decide +kernel
theorem dX11_isNight_3 : decode cX11_isNight 3 = .ok (.irem, 1) := by decide +kernel
theorem dX11_isNight_4 : decode cX11_isNight 4 = .ok (.istore_n 1, 1) := by decide +kernel
theorem dX11_isNight_5 : decode cX11_isNight 5 = .ok (.iload_n 1, 1) := by decide +kernel
theorem dX11_isNight_6 : decode cX11_isNight 6 = .ok (.bipush 6, 2) := by decide +kernel
theorem dX11_isNight_8 : decode cX11_isNight 8 = .ok (.if_icmp .lt 9, 3) := by decide +kernel
theorem dX11_isNight_11 : decode cX11_isNight 11 = .ok (.iload_n 1, 1) := by decide +kernel
theorem dX11_isNight_12 : decode cX11_isNight 12 = .ok (.bipush 17, 2) := by decide +kernel
