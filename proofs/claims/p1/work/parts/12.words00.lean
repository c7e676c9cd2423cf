theorem kw_980 : Cond.classLink "GalleonWaveLaw" 8 "GalleonWave" ∈ kw := kw_in (List.mem_append_right _ (tb1 _ (List.mem_of_getElem? (i := 38) (by decide +kernel)))) (by decide +kernel)
theorem kw_981 : Cond.instantiable "GalleonWave" 11 ∈ kw := kw_in (List.mem_append_right _ (tb1 _ (List.mem_of_getElem? (i := 39) (by decide +kernel)))) (by decide +kernel)
theorem kw_982 : Cond.code ⟨"GalleonWave", "<init>", "()V"⟩ prog_1_method_1_code 1 none ∈ kw := kw_in (List.mem_append_right _ (tb1 _ (List.mem_of_getElem? (i := 42) (by decide +kernel)))) (by decide +kernel)
theorem kw_983 : Cond.methodLink "GalleonWaveLaw" 173 ⟨"GalleonWave", "<init>", "()V"⟩ ∈ kw := kw_in (List.mem_append_right _ (tb1 _ (List.mem_of_getElem? (i := 40) (by decide +kernel)))) (by decide +kernel)
theorem kw_984 : Cond.instanceMethod ⟨"GalleonWave", "<init>", "()V"⟩ ∈ kw := kw_in (List.mem_append_right _ (tb1 _ (List.mem_of_getElem? (i := 41) (by decide +kernel)))) (by decide +kernel)
theorem kw_985 : Cond.classLink "GalleonWaveLaw" 174 "GalleonWaveModel" ∈ kw := kw_in (List.mem_append_right _ (tb7 _ (List.mem_of_getElem? (i := 66) (by decide +kernel)))) (by decide +kernel)
theorem kw_986 : Cond.instantiable "GalleonWaveModel" 59 ∈ kw := kw_in (List.mem_append_right _ (tb7 _ (List.mem_of_getElem? (i := 67) (by decide +kernel)))) (by decide +kernel)
theorem kw_987 : Cond.code ⟨"GalleonWaveModel", "<init>", "()V"⟩ prog_14_method_1_code 1 none ∈ kw := kw_in (List.mem_append_right _ (tb7 _ (List.mem_of_getElem? (i := 70) (by decide +kernel)))) (by decide +kernel)
theorem kw_988 : Cond.methodLink "GalleonWaveLaw" 176 ⟨"GalleonWaveModel", "<init>", "()V"⟩ ∈ kw := kw_in (List.mem_append_right _ (tb7 _ (List.mem_of_getElem? (i := 68) (by decide +kernel)))) (by decide +kernel)
theorem kw_989 : Cond.instanceMethod ⟨"GalleonWaveModel", "<init>", "()V"⟩ ∈ kw := kw_in (List.mem_append_right _ (tb7 _ (List.mem_of_getElem? (i := 69) (by decide +kernel)))) (by decide +kernel)
theorem kw_990 : Cond.arrayClass .long ∈ kw := kw_in (List.mem_append_right _ (tb10 _ (List.mem_of_getElem? (i := 63) (by decide +kernel)))) (by decide +kernel)
theorem kw_991 : Cond.arrayClass .double ∈ kw := kw_in (List.mem_append_right _ (tb10 _ (List.mem_of_getElem? (i := 64) (by decide +kernel)))) (by decide +kernel)
theorem ydX11_init : (yX11_init.cls ≠ "java/lang/invoke/MethodHandle" ∧ yX11_init.cls ≠ "java/lang/invoke/VarHandle") ∧ (parseMethodDescriptor yX11_init.desc).map (fun d => d.parameters.length) = some 0 := by decide +kernel
theorem ydX12_init : (yX12_init.cls ≠ "java/lang/invoke/MethodHandle" ∧ yX12_init.cls ≠ "java/lang/invoke/VarHandle") ∧ (parseMethodDescriptor yX12_init.desc).map (fun d => d.parameters.length) = some 0 := by decide +kernel
theorem dL_law_0 : decode cL_law 0 = .ok (.new 8, 3) := by decide +kernel
theorem dL_law_3 : decode cL_law 3 = .ok (.dup, 1) := by decide +kernel
theorem dL_law_4 : decode cL_law 4 = .ok (.invokespecial 173, 3) := by decide +kernel
theorem dL_law_7 : decode cL_law 7 = .ok (.astore_n 1, 1) := by decide +kernel
theorem dL_law_8 : decode cL_law 8 = .ok (.new 174, 3) := by decide +kernel
theorem dL_law_11 : decode cL_law 11 = .ok (.dup, 1) := by decide +kernel
theorem dL_law_12 : decode cL_law 12 = .ok (.invokespecial 176, 3) := by decide +kernel
theorem dL_law_15 : decode cL_law 15 = .ok (.astore_n 2, 1) := by decide +kernel
theorem dL_law_16 : decode cL_law 16 = .ok (.iconst 1, 1) := by decide +kernel
theorem dL_law_17 : decode cL_law 17 = .ok (.newarray .long, 2) := by decide +kernel
theorem dL_law_19 : decode cL_law 19 = .ok (.astore_n 3, 1) := by decide +kernel
theorem dL_law_20 : decode cL_law 20 = .ok (.iconst 1, 1) := by decide +kernel
theorem dL_law_21 : decode cL_law 21 = .ok (.newarray .double, 2) := by decide +kernel
theorem dL_law_23 : decode cL_law 23 = .ok (.astore 4, 2) := by decide +kernel
theorem dL_law_25 : decode cL_law 25 = .ok (.iconst 0, 1) := by decide +kernel
theorem dL_law_26 : decode cL_law 26 = .ok (.istore 5, 2) := by decide +kernel
theorem dL_law_37 : decode cL_law 37 = .ok (.aload_n 0, 1) := by decide +kernel
theorem dL_law_38 : decode cL_law 38 = .ok (.iload 5, 2) := by decide +kernel
theorem dL_law_40 : decode cL_law 40 = .ok (.iaload, 1) := by decide +kernel
theorem dL_law_41 : decode cL_law 41 = .ok (.bipush 63, 2) := by decide +kernel
theorem dL_law_43 : decode cL_law 43 = .ok (.iand, 1) := by decide +kernel
theorem dL_law_44 : decode cL_law 44 = .ok (.tableswitch 3477 0 50 #[220, 300, 392, 448, 518, 586, 678, 734, 802, 886, 942, 1012, 1068, 1131, 1187, 1267, 1363, 1419, 1475, 1531, 1587, 1655, 1711, 1774, 1842, 1898, 1954, 2024, 2080, 2143, 2235, 2331, 2427, 2507, 2563, 2626, 2694, 2750, 2806, 2819, 2875, 2943, 3018, 3031, 3111, 3179, 3235, 3319, 3385, 3450, 3464], 220) := by decide +kernel
