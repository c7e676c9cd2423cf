theorem kw_173 : Cond.fieldLink "GalleonWave$Programme" 9 "GalleonWave$Programme" "hours" "[I" ∈ kw := kw_in (List.mem_append_right _ (tb4 _ (List.mem_of_getElem? (i := 161) (by decide +kernel)))) (by decide +kernel)
theorem kw_174 : Cond.code ⟨"GalleonWave$Programme", "at", "(I)I"⟩ prog_8_method_2_code 2 (some .int) ∈ kw := kw_in (List.mem_append_right _ (tb4 _ (List.mem_of_getElem? (i := 48) (by decide +kernel)))) (by decide +kernel)
theorem kw_175 : Cond.methodLink "GalleonWave" 506 ⟨"GalleonWave$Programme", "at", "(I)I"⟩ ∈ kw := kw_in (List.mem_append_right _ (tb4 _ (List.mem_of_getElem? (i := 45) (by decide +kernel)))) (by decide +kernel)
theorem kw_176 : Cond.initialized "GalleonWave$Programme" ∈ kw := kw_in (List.mem_append_right _ (tb1 _ (List.mem_of_getElem? (i := 14) (by decide +kernel)))) (by decide +kernel)
theorem kw_177 : Cond.instanceMethod ⟨"GalleonWave$Programme", "at", "(I)I"⟩ ∈ kw := kw_in (List.mem_append_right _ (tb4 _ (List.mem_of_getElem? (i := 46) (by decide +kernel)))) (by decide +kernel)
theorem kw_178 : Cond.selects "GalleonWave$Programme" ⟨"GalleonWave$Programme", "at", "(I)I"⟩ ⟨"GalleonWave$Programme", "at", "(I)I"⟩ ∈ kw := kw_in (List.mem_append_right _ (tb4 _ (List.mem_of_getElem? (i := 47) (by decide +kernel)))) (by decide +kernel)
theorem kw_179 : Cond.code ⟨"GalleonWave", "isTape", "(I)Z"⟩ prog_1_method_64_code 1 (some .boolean) ∈ kw := kw_in (List.mem_append_right _ (tb2 _ (List.mem_of_getElem? (i := 65) (by decide +kernel)))) (by decide +kernel)
theorem kw_180 : Cond.methodLink "GalleonWave" 418 ⟨"GalleonWave", "isTape", "(I)Z"⟩ ∈ kw := kw_in (List.mem_append_right _ (tb2 _ (List.mem_of_getElem? (i := 63) (by decide +kernel)))) (by decide +kernel)
theorem kw_181 : Cond.static ⟨"GalleonWave", "isTape", "(I)Z"⟩ ∈ kw := kw_in (List.mem_append_right _ (tb2 _ (List.mem_of_getElem? (i := 64) (by decide +kernel)))) (by decide +kernel)
theorem kw_182 : Cond.code ⟨"GalleonWave", "canSpeak", "(II)Z"⟩ prog_1_method_83_code 4 (some .boolean) ∈ kw := kw_in (List.mem_append_right _ (tb4 _ (List.mem_of_getElem? (i := 52) (by decide +kernel)))) (by decide +kernel)
theorem kw_183 : Cond.methodLink "GalleonWave" 509 ⟨"GalleonWave", "canSpeak", "(II)Z"⟩ ∈ kw := kw_in (List.mem_append_right _ (tb4 _ (List.mem_of_getElem? (i := 49) (by decide +kernel)))) (by decide +kernel)
theorem kw_184 : Cond.instanceMethod ⟨"GalleonWave", "canSpeak", "(II)Z"⟩ ∈ kw := kw_in (List.mem_append_right _ (tb4 _ (List.mem_of_getElem? (i := 51) (by decide +kernel)))) (by decide +kernel)
theorem kw_185 : Cond.selects "GalleonWave" ⟨"GalleonWave", "canSpeak", "(II)Z"⟩ ⟨"GalleonWave", "canSpeak", "(II)Z"⟩ ∈ kw := kw_in (List.mem_append_left _ (List.mem_of_getElem? (i := 25) (by decide +kernel))) (by decide +kernel)
theorem kw_186 : Cond.fieldLink "GalleonWave" 515 "GalleonWave$Programme" "lastTape" "I" ∈ kw := kw_in (List.mem_append_right _ (tb4 _ (List.mem_of_getElem? (i := 163) (by decide +kernel)))) (by decide +kernel)
theorem inX6 : ∀ w ∈ u_ws RX6 TX6 2, w ∈ kw := fun w h => kw_in ((by decide +kernel : ∀ w ∈ u_ws RX6 TX6 2, w ∈ lw_tbl) w h) ((by decide +kernel : ∀ w ∈ u_ws RX6 TX6 2, kok w = true) w h)
theorem ydX11_canSpeak : (yX11_canSpeak.cls ≠ "java/lang/invoke/MethodHandle" ∧ yX11_canSpeak.cls ≠ "java/lang/invoke/VarHandle") ∧ (parseMethodDescriptor yX11_canSpeak.desc).map (fun d => d.parameters.length) = some 2 := by decide +kernel
theorem ydX11_isTape : (yX11_isTape.cls ≠ "java/lang/invoke/MethodHandle" ∧ yX11_isTape.cls ≠ "java/lang/invoke/VarHandle") ∧ (parseMethodDescriptor yX11_isTape.desc).map (fun d => d.parameters.length) = some 1 := by decide +kernel
theorem ydX6_at : (yX6_at.cls ≠ "java/lang/invoke/MethodHandle" ∧ yX6_at.cls ≠ "java/lang/invoke/VarHandle") ∧ (parseMethodDescriptor yX6_at.desc).map (fun d => d.parameters.length) = some 1 := by decide +kernel
theorem dX6_at_0 : decode cX6_at 0 = .ok (.iload_n 1, 1) := by decide +kernel
theorem dX6_at_1 : decode cX6_at 1 = .ok (.ifCond .lt 18, 3) := by decide +kernel
theorem dX6_at_4 : decode cX6_at 4 = .ok (.iload_n 1, 1) := by decide +kernel
theorem dX6_at_5 : decode cX6_at 5 = .ok (.bipush 24, 2) := by decide +kernel
theorem dX6_at_7 : decode cX6_at 7 = .ok (.if_icmp .ge 12, 3) := by decide +kernel
theorem dX6_at_10 : decode cX6_at 10 = .ok (.aload_n 0, 1) := by decide +kernel
theorem dX6_at_11 : decode cX6_at 11 = .ok (.getfield 9, 3) := by decide +kernel
theorem dX6_at_14 : decode cX6_at 14 = .ok (.iload_n 1, 1) := by decide +kernel
theorem dX6_at_15 : decode cX6_at 15 = .ok (.iaload, 1) := by decide +kernel
theorem dX6_at_16 : decode cX6_at 16 = .ok (.goto 4, 3) := by decide +kernel
theorem dX6_at_19 : decode cX6_at 19 = .ok (.iconst (-1), 1) := by decide +kernel
theorem dX6_at_20 : decode cX6_at 20 = .ok (.ireturn, 1) := by decide +kernel
theorem dX11_chooseSpeaker_0 : decode cX11_chooseSpeaker 0 = .ok (.aload_n 0, 1) := by decide +kernel
theorem dX11_chooseSpeaker_1 : decode cX11_chooseSpeaker 1 = .ok (.getfield 63, 3) := by decide +kernel
theorem dX11_chooseSpeaker_4 : decode cX11_chooseSpeaker 4 = .ok (.bipush 24, 2) := by decide +kernel
theorem dX11_chooseSpeaker_6 : decode cX11_chooseSpeaker 6 = .ok (.irem, 1) := by decide +kernel
theorem dX11_chooseSpeaker_7 : decode cX11_chooseSpeaker 7 = .ok (.istore_n 3, 1) := by decide +kernel
theorem dX11_chooseSpeaker_8 : decode cX11_chooseSpeaker 8 = .ok (.aload_n 2, 1) := by decide +kernel
theorem dX11_chooseSpeaker_9 : decode cX11_chooseSpeaker 9 = .ok (.iload_n 3, 1) := by decide +kernel
theorem dX11_chooseSpeaker_10 : decode cX11_chooseSpeaker 10 = .ok (.invokevirtual 506, 3) := by decide +kernel
theorem dX11_chooseSpeaker_13 : decode cX11_chooseSpeaker 13 = .ok (.istore 4, 2) := by decide +kernel
theorem dX11_chooseSpeaker_15 : decode cX11_chooseSpeaker 15 = .ok (.iload 4, 2) := by decide +kernel
theorem dX11_chooseSpeaker_17 : decode cX11_chooseSpeaker 17 = .ok (.invokestatic 418, 3) := by decide +kernel
theorem dX11_chooseSpeaker_20 : decode cX11_chooseSpeaker 20 = .ok (.ifCond .ne 13, 3) := by decide +kernel
theorem dX11_chooseSpeaker_23 : decode cX11_chooseSpeaker 23 = .ok (.aload_n 0, 1) := by decide +kernel
theorem dX11_chooseSpeaker_24 : decode cX11_chooseSpeaker 24 = .ok (.iload 4, 2) := by decide +kernel
theorem dX11_chooseSpeaker_26 : decode cX11_chooseSpeaker 26 = .ok (.iload_n 1, 1) := by decide +kernel
theorem dX11_chooseSpeaker_27 : decode cX11_chooseSpeaker 27 = .ok (.invokevirtual 509, 3) := by decide +kernel
theorem dX11_chooseSpeaker_30 : decode cX11_chooseSpeaker 30 = .ok (.ifCond .eq 6, 3) := by decide +kernel
theorem dX11_chooseSpeaker_36 : decode cX11_chooseSpeaker 36 = .ok (.iconst 0, 1) := by decide +kernel
theorem dX11_chooseSpeaker_37 : decode cX11_chooseSpeaker 37 = .ok (.istore 5, 2) := by decide +kernel
theorem dX11_chooseSpeaker_39 : decode cX11_chooseSpeaker 39 = .ok (.iload 5, 2) := by decide +kernel
theorem dX11_chooseSpeaker_41 : decode cX11_chooseSpeaker 41 = .ok (.aload_n 0, 1) := by decide +kernel
theorem dX11_chooseSpeaker_42 : decode cX11_chooseSpeaker 42 = .ok (.getfield 22, 3) := by decide +kernel
theorem dX11_chooseSpeaker_45 : decode cX11_chooseSpeaker 45 = .ok (.invokevirtual 44, 3) := by decide +kernel
theorem dX11_chooseSpeaker_48 : decode cX11_chooseSpeaker 48 = .ok (.if_icmp .ge 32, 3) := by decide +kernel
theorem dX11_chooseSpeaker_51 : decode cX11_chooseSpeaker 51 = .ok (.aload_n 0, 1) := by decide +kernel
theorem dX11_chooseSpeaker_52 : decode cX11_chooseSpeaker 52 = .ok (.iload 5, 2) := by decide +kernel
theorem dX11_chooseSpeaker_54 : decode cX11_chooseSpeaker 54 = .ok (.iload_n 1, 1) := by decide +kernel
theorem dX11_chooseSpeaker_55 : decode cX11_chooseSpeaker 55 = .ok (.invokevirtual 509, 3) := by decide +kernel
theorem dX11_chooseSpeaker_58 : decode cX11_chooseSpeaker 58 = .ok (.ifCond .eq 16, 3) := by decide +kernel
theorem dX11_chooseSpeaker_74 : decode cX11_chooseSpeaker 74 = .ok (.iinc 5 1, 3) := by decide +kernel
theorem dX11_chooseSpeaker_77 : decode cX11_chooseSpeaker 77 = .ok (.goto (-38), 3) := by decide +kernel
theorem dX11_chooseSpeaker_80 : decode cX11_chooseSpeaker 80 = .ok (.aload_n 2, 1) := by decide +kernel
theorem dX11_chooseSpeaker_81 : decode cX11_chooseSpeaker 81 = .ok (.getfield 515, 3) := by decide +kernel
theorem dX11_chooseSpeaker_84 : decode cX11_chooseSpeaker 84 = .ok (.iconst (-1), 1) := by decide +kernel
theorem dX11_chooseSpeaker_85 : decode cX11_chooseSpeaker 85 = .ok (.if_icmp .ne 9, 3) := by decide +kernel
theorem dX11_chooseSpeaker_88 : decode cX11_chooseSpeaker 88 = .ok (.sipush 200, 3) := by decide +kernel
theorem dX11_chooseSpeaker_91 : decode cX11_chooseSpeaker 91 = .ok (.goto 7, 3) := by decide +kernel
theorem dX11_chooseSpeaker_98 : decode cX11_chooseSpeaker 98 = .ok (.ireturn, 1) := by decide +kernel
