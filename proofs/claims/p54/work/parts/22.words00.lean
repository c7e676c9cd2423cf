theorem kw_661 : Cond.code ⟨"GalleonWave", "getSalt", "(I)I"⟩ prog_1_method_20_code 2 (some .int) ∈ kw := kw_in (List.mem_append_right _ (tb5 _ (List.mem_of_getElem? (i := 119) (by decide +kernel)))) (by decide +kernel)
theorem kw_662 : Cond.methodLink "GalleonWaveLaw" 65 ⟨"GalleonWave", "getSalt", "(I)I"⟩ ∈ kw := kw_in (List.mem_append_right _ (tb5 _ (List.mem_of_getElem? (i := 116) (by decide +kernel)))) (by decide +kernel)
theorem kw_663 : Cond.instanceMethod ⟨"GalleonWave", "getSalt", "(I)I"⟩ ∈ kw := kw_in (List.mem_append_right _ (tb5 _ (List.mem_of_getElem? (i := 117) (by decide +kernel)))) (by decide +kernel)
theorem kw_664 : Cond.selects "GalleonWave" ⟨"GalleonWave", "getSalt", "(I)I"⟩ ⟨"GalleonWave", "getSalt", "(I)I"⟩ ∈ kw := kw_in (List.mem_append_right _ (tb5 _ (List.mem_of_getElem? (i := 118) (by decide +kernel)))) (by decide +kernel)
theorem kw_665 : Cond.code ⟨"GalleonWave", "getListeners", "(I)I"⟩ prog_1_method_27_code 2 (some .int) ∈ kw := kw_in (List.mem_append_right _ (tb5 _ (List.mem_of_getElem? (i := 159) (by decide +kernel)))) (by decide +kernel)
theorem kw_666 : Cond.methodLink "GalleonWaveLaw" 80 ⟨"GalleonWave", "getListeners", "(I)I"⟩ ∈ kw := kw_in (List.mem_append_right _ (tb5 _ (List.mem_of_getElem? (i := 156) (by decide +kernel)))) (by decide +kernel)
theorem kw_667 : Cond.instanceMethod ⟨"GalleonWave", "getListeners", "(I)I"⟩ ∈ kw := kw_in (List.mem_append_right _ (tb5 _ (List.mem_of_getElem? (i := 157) (by decide +kernel)))) (by decide +kernel)
theorem kw_668 : Cond.selects "GalleonWave" ⟨"GalleonWave", "getListeners", "(I)I"⟩ ⟨"GalleonWave", "getListeners", "(I)I"⟩ ∈ kw := kw_in (List.mem_append_right _ (tb5 _ (List.mem_of_getElem? (i := 158) (by decide +kernel)))) (by decide +kernel)
theorem kw_669 : Cond.code ⟨"GalleonWave", "getEarned", "(I)I"⟩ prog_1_method_39_code 2 (some .int) ∈ kw := kw_in (List.mem_append_right _ (tb6 _ (List.mem_of_getElem? (i := 70) (by decide +kernel)))) (by decide +kernel)
theorem kw_670 : Cond.methodLink "GalleonWaveLaw" 109 ⟨"GalleonWave", "getEarned", "(I)I"⟩ ∈ kw := kw_in (List.mem_append_right _ (tb6 _ (List.mem_of_getElem? (i := 67) (by decide +kernel)))) (by decide +kernel)
theorem kw_671 : Cond.instanceMethod ⟨"GalleonWave", "getEarned", "(I)I"⟩ ∈ kw := kw_in (List.mem_append_right _ (tb6 _ (List.mem_of_getElem? (i := 68) (by decide +kernel)))) (by decide +kernel)
theorem kw_672 : Cond.selects "GalleonWave" ⟨"GalleonWave", "getEarned", "(I)I"⟩ ⟨"GalleonWave", "getEarned", "(I)I"⟩ ∈ kw := kw_in (List.mem_append_right _ (tb6 _ (List.mem_of_getElem? (i := 69) (by decide +kernel)))) (by decide +kernel)
theorem kw_673 : Cond.code ⟨"GalleonWave", "bank", "(I)I"⟩ prog_1_method_38_code 2 (some .int) ∈ kw := kw_in (List.mem_append_right _ (tb6 _ (List.mem_of_getElem? (i := 59) (by decide +kernel)))) (by decide +kernel)
theorem kw_674 : Cond.methodLink "GalleonWaveLaw" 106 ⟨"GalleonWave", "bank", "(I)I"⟩ ∈ kw := kw_in (List.mem_append_right _ (tb6 _ (List.mem_of_getElem? (i := 56) (by decide +kernel)))) (by decide +kernel)
theorem kw_675 : Cond.instanceMethod ⟨"GalleonWave", "bank", "(I)I"⟩ ∈ kw := kw_in (List.mem_append_right _ (tb6 _ (List.mem_of_getElem? (i := 57) (by decide +kernel)))) (by decide +kernel)
theorem kw_676 : Cond.selects "GalleonWave" ⟨"GalleonWave", "bank", "(I)I"⟩ ⟨"GalleonWave", "bank", "(I)I"⟩ ∈ kw := kw_in (List.mem_append_right _ (tb6 _ (List.mem_of_getElem? (i := 58) (by decide +kernel)))) (by decide +kernel)
theorem kw_677 : Cond.code ⟨"GalleonWave", "isOnAir", "(I)Z"⟩ prog_1_method_24_code 2 (some .boolean) ∈ kw := kw_in (List.mem_append_right _ (tb6 _ (List.mem_of_getElem? (i := 77) (by decide +kernel)))) (by decide +kernel)
theorem kw_678 : Cond.methodLink "GalleonWaveLaw" 112 ⟨"GalleonWave", "isOnAir", "(I)Z"⟩ ∈ kw := kw_in (List.mem_append_right _ (tb6 _ (List.mem_of_getElem? (i := 74) (by decide +kernel)))) (by decide +kernel)
theorem kw_679 : Cond.instanceMethod ⟨"GalleonWave", "isOnAir", "(I)Z"⟩ ∈ kw := kw_in (List.mem_append_right _ (tb6 _ (List.mem_of_getElem? (i := 75) (by decide +kernel)))) (by decide +kernel)
theorem kw_680 : Cond.selects "GalleonWave" ⟨"GalleonWave", "isOnAir", "(I)Z"⟩ ⟨"GalleonWave", "isOnAir", "(I)Z"⟩ ∈ kw := kw_in (List.mem_append_right _ (tb6 _ (List.mem_of_getElem? (i := 76) (by decide +kernel)))) (by decide +kernel)
theorem kw_681 : Cond.code ⟨"GalleonWave", "isMutiny", "(I)Z"⟩ prog_1_method_36_code 2 (some .boolean) ∈ kw := kw_in (List.mem_append_right _ (tb6 _ (List.mem_of_getElem? (i := 84) (by decide +kernel)))) (by decide +kernel)
theorem kw_682 : Cond.methodLink "GalleonWaveLaw" 116 ⟨"GalleonWave", "isMutiny", "(I)Z"⟩ ∈ kw := kw_in (List.mem_append_right _ (tb6 _ (List.mem_of_getElem? (i := 81) (by decide +kernel)))) (by decide +kernel)
theorem kw_683 : Cond.instanceMethod ⟨"GalleonWave", "isMutiny", "(I)Z"⟩ ∈ kw := kw_in (List.mem_append_right _ (tb6 _ (List.mem_of_getElem? (i := 82) (by decide +kernel)))) (by decide +kernel)
theorem kw_684 : Cond.selects "GalleonWave" ⟨"GalleonWave", "isMutiny", "(I)Z"⟩ ⟨"GalleonWave", "isMutiny", "(I)Z"⟩ ∈ kw := kw_in (List.mem_append_right _ (tb6 _ (List.mem_of_getElem? (i := 83) (by decide +kernel)))) (by decide +kernel)
theorem kw_685 : Cond.code ⟨"GalleonWave", "getPlace", "(IZ)I"⟩ prog_1_method_10_code 4 (some .int) ∈ kw := kw_in (List.mem_append_right _ (tb5 _ (List.mem_of_getElem? (i := 25) (by decide +kernel)))) (by decide +kernel)
theorem kw_686 : Cond.methodLink "GalleonWaveLaw" 43 ⟨"GalleonWave", "getPlace", "(IZ)I"⟩ ∈ kw := kw_in (List.mem_append_right _ (tb5 _ (List.mem_of_getElem? (i := 22) (by decide +kernel)))) (by decide +kernel)
theorem kw_687 : Cond.instanceMethod ⟨"GalleonWave", "getPlace", "(IZ)I"⟩ ∈ kw := kw_in (List.mem_append_right _ (tb5 _ (List.mem_of_getElem? (i := 23) (by decide +kernel)))) (by decide +kernel)
theorem kw_688 : Cond.selects "GalleonWave" ⟨"GalleonWave", "getPlace", "(IZ)I"⟩ ⟨"GalleonWave", "getPlace", "(IZ)I"⟩ ∈ kw := kw_in (List.mem_append_right _ (tb5 _ (List.mem_of_getElem? (i := 24) (by decide +kernel)))) (by decide +kernel)
theorem kw_689 : Cond.code ⟨"GalleonWave", "getSpeaker", "(I)I"⟩ prog_1_method_35_code 3 (some .int) ∈ kw := kw_in (List.mem_append_right _ (tb6 _ (List.mem_of_getElem? (i := 19) (by decide +kernel)))) (by decide +kernel)
theorem kw_690 : Cond.methodLink "GalleonWaveLaw" 98 ⟨"GalleonWave", "getSpeaker", "(I)I"⟩ ∈ kw := kw_in (List.mem_append_right _ (tb6 _ (List.mem_of_getElem? (i := 16) (by decide +kernel)))) (by decide +kernel)
theorem kw_691 : Cond.instanceMethod ⟨"GalleonWave", "getSpeaker", "(I)I"⟩ ∈ kw := kw_in (List.mem_append_right _ (tb6 _ (List.mem_of_getElem? (i := 17) (by decide +kernel)))) (by decide +kernel)
theorem kw_692 : Cond.selects "GalleonWave" ⟨"GalleonWave", "getSpeaker", "(I)I"⟩ ⟨"GalleonWave", "getSpeaker", "(I)I"⟩ ∈ kw := kw_in (List.mem_append_right _ (tb6 _ (List.mem_of_getElem? (i := 18) (by decide +kernel)))) (by decide +kernel)
theorem kw_693 : Cond.classLink "GalleonWaveLaw" 101 "java/util/NoSuchElementException" ∈ kw := kw_in (List.mem_append_right _ (tb6 _ (List.mem_of_getElem? (i := 15) (by decide +kernel)))) (by decide +kernel)
theorem kw_694 : Cond.castable "java/util/NoSuchElementException" "java/util/NoSuchElementException" ∈ kw := kw_in (List.mem_append_right _ (tb6 _ (List.mem_of_getElem? (i := 22) (by decide +kernel)))) (by decide +kernel)
theorem kw_695 : Cond.constant "GalleonWaveLaw" 20 (-900002) ∈ kw := kw_in (List.mem_append_right _ (tb3 _ (List.mem_of_getElem? (i := 83) (by decide +kernel)))) (by decide +kernel)
theorem kw_696 : Cond.code ⟨"GalleonWave", "getSignal", "(II)I"⟩ prog_1_method_25_code 4 (some .int) ∈ kw := kw_in (List.mem_append_right _ (tb5 _ (List.mem_of_getElem? (i := 141) (by decide +kernel)))) (by decide +kernel)
theorem kw_697 : Cond.methodLink "GalleonWaveLaw" 74 ⟨"GalleonWave", "getSignal", "(II)I"⟩ ∈ kw := kw_in (List.mem_append_right _ (tb5 _ (List.mem_of_getElem? (i := 138) (by decide +kernel)))) (by decide +kernel)
theorem kw_698 : Cond.instanceMethod ⟨"GalleonWave", "getSignal", "(II)I"⟩ ∈ kw := kw_in (List.mem_append_right _ (tb5 _ (List.mem_of_getElem? (i := 139) (by decide +kernel)))) (by decide +kernel)
theorem kw_699 : Cond.selects "GalleonWave" ⟨"GalleonWave", "getSignal", "(II)I"⟩ ⟨"GalleonWave", "getSignal", "(II)I"⟩ ∈ kw := kw_in (List.mem_append_right _ (tb5 _ (List.mem_of_getElem? (i := 140) (by decide +kernel)))) (by decide +kernel)
theorem kw_700 : Cond.code ⟨"GalleonWave", "wash", "(I)I"⟩ prog_1_method_21_code 4 (some .int) ∈ kw := kw_in (List.mem_append_right _ (tb5 _ (List.mem_of_getElem? (i := 126) (by decide +kernel)))) (by decide +kernel)
theorem kw_701 : Cond.methodLink "GalleonWaveLaw" 68 ⟨"GalleonWave", "wash", "(I)I"⟩ ∈ kw := kw_in (List.mem_append_right _ (tb5 _ (List.mem_of_getElem? (i := 123) (by decide +kernel)))) (by decide +kernel)
theorem kw_702 : Cond.instanceMethod ⟨"GalleonWave", "wash", "(I)I"⟩ ∈ kw := kw_in (List.mem_append_right _ (tb5 _ (List.mem_of_getElem? (i := 124) (by decide +kernel)))) (by decide +kernel)
theorem kw_703 : Cond.selects "GalleonWave" ⟨"GalleonWave", "wash", "(I)I"⟩ ⟨"GalleonWave", "wash", "(I)I"⟩ ∈ kw := kw_in (List.mem_append_right _ (tb5 _ (List.mem_of_getElem? (i := 125) (by decide +kernel)))) (by decide +kernel)
theorem ydX11_bank : (yX11_bank.cls ≠ "java/lang/invoke/MethodHandle" ∧ yX11_bank.cls ≠ "java/lang/invoke/VarHandle") ∧ (parseMethodDescriptor yX11_bank.desc).map (fun d => d.parameters.length) = some 1 := by decide +kernel
theorem ydX11_getEarned : (yX11_getEarned.cls ≠ "java/lang/invoke/MethodHandle" ∧ yX11_getEarned.cls ≠ "java/lang/invoke/VarHandle") ∧ (parseMethodDescriptor yX11_getEarned.desc).map (fun d => d.parameters.length) = some 1 := by decide +kernel
theorem ydX11_getListeners : (yX11_getListeners.cls ≠ "java/lang/invoke/MethodHandle" ∧ yX11_getListeners.cls ≠ "java/lang/invoke/VarHandle") ∧ (parseMethodDescriptor yX11_getListeners.desc).map (fun d => d.parameters.length) = some 1 := by decide +kernel
theorem ydX11_getPlace : (yX11_getPlace.cls ≠ "java/lang/invoke/MethodHandle" ∧ yX11_getPlace.cls ≠ "java/lang/invoke/VarHandle") ∧ (parseMethodDescriptor yX11_getPlace.desc).map (fun d => d.parameters.length) = some 2 := by decide +kernel
theorem ydX11_getSalt : (yX11_getSalt.cls ≠ "java/lang/invoke/MethodHandle" ∧ yX11_getSalt.cls ≠ "java/lang/invoke/VarHandle") ∧ (parseMethodDescriptor yX11_getSalt.desc).map (fun d => d.parameters.length) = some 1 := by decide +kernel
theorem ydX11_getSignal : (yX11_getSignal.cls ≠ "java/lang/invoke/MethodHandle" ∧ yX11_getSignal.cls ≠ "java/lang/invoke/VarHandle") ∧ (parseMethodDescriptor yX11_getSignal.desc).map (fun d => d.parameters.length) = some 2 := by decide +kernel
theorem ydX11_getSpeaker : (yX11_getSpeaker.cls ≠ "java/lang/invoke/MethodHandle" ∧ yX11_getSpeaker.cls ≠ "java/lang/invoke/VarHandle") ∧ (parseMethodDescriptor yX11_getSpeaker.desc).map (fun d => d.parameters.length) = some 1 := by decide +kernel
theorem ydX11_isMutiny : (yX11_isMutiny.cls ≠ "java/lang/invoke/MethodHandle" ∧ yX11_isMutiny.cls ≠ "java/lang/invoke/VarHandle") ∧ (parseMethodDescriptor yX11_isMutiny.desc).map (fun d => d.parameters.length) = some 1 := by decide +kernel
theorem ydX11_isOnAir : (yX11_isOnAir.cls ≠ "java/lang/invoke/MethodHandle" ∧ yX11_isOnAir.cls ≠ "java/lang/invoke/VarHandle") ∧ (parseMethodDescriptor yX11_isOnAir.desc).map (fun d => d.parameters.length) = some 1 := by decide +kernel
theorem ydX11_wash : (yX11_wash.cls ≠ "java/lang/invoke/MethodHandle" ∧ yX11_wash.cls ≠ "java/lang/invoke/VarHandle") ∧ (parseMethodDescriptor yX11_wash.desc).map (fun d => d.parameters.length) = some 1 := by decide +kernel
theorem dL_setWind_6 : decode cL_setWind 6 = .ok (.ireturn, 1) := by decide +kernel
theorem dL_pass_5 : decode cL_pass 5 = .ok (.ireturn, 1) := by decide +kernel
theorem dL_getPlace_0 : decode cL_getPlace 0 = .ok (.aload_n 0, 1) := by decide +kernel
theorem dL_getPlace_1 : decode cL_getPlace 1 = .ok (.iload_n 1, 1) := by decide +kernel
theorem dL_getPlace_2 : decode cL_getPlace 2 = .ok (.iload_n 2, 1) := by decide +kernel
theorem dL_getPlace_3 : decode cL_getPlace 3 = .ok (.invokevirtual 43, 3) := by decide +kernel
theorem dL_getPlace_6 : decode cL_getPlace 6 = .ok (.ireturn, 1) := by decide +kernel
theorem dL_setGenerator_8 : decode cL_setGenerator 8 = .ok (.astore 4, 2) := by decide +kernel
theorem dL_setGenerator_10 : decode cL_setGenerator 10 = .ok (.ldc 17, 2) := by decide +kernel
theorem dL_setGenerator_12 : decode cL_setGenerator 12 = .ok (.ireturn, 1) := by decide +kernel
theorem dL_getSalt_0 : decode cL_getSalt 0 = .ok (.aload_n 0, 1) := by decide +kernel
theorem dL_getSalt_1 : decode cL_getSalt 1 = .ok (.iload_n 1, 1) := by decide +kernel
theorem dL_getSalt_2 : decode cL_getSalt 2 = .ok (.invokevirtual 65, 3) := by decide +kernel
theorem dL_getSalt_5 : decode cL_getSalt 5 = .ok (.ireturn, 1) := by decide +kernel
theorem dL_wash_0 : decode cL_wash 0 = .ok (.aload_n 0, 1) := by decide +kernel
theorem dL_wash_1 : decode cL_wash 1 = .ok (.iload_n 1, 1) := by decide +kernel
theorem dL_wash_2 : decode cL_wash 2 = .ok (.invokevirtual 68, 3) := by decide +kernel
theorem dL_wash_5 : decode cL_wash 5 = .ok (.ireturn, 1) := by decide +kernel
theorem dL_getSignal_0 : decode cL_getSignal 0 = .ok (.aload_n 0, 1) := by decide +kernel
theorem dL_getSignal_1 : decode cL_getSignal 1 = .ok (.iload_n 1, 1) := by decide +kernel
theorem dL_getSignal_2 : decode cL_getSignal 2 = .ok (.iload_n 2, 1) := by decide +kernel
theorem dL_getSignal_3 : decode cL_getSignal 3 = .ok (.invokevirtual 74, 3) := by decide +kernel
theorem dL_getSignal_6 : decode cL_getSignal 6 = .ok (.ireturn, 1) := by decide +kernel
theorem dL_getListeners_0 : decode cL_getListeners 0 = .ok (.aload_n 0, 1) := by decide +kernel
theorem dL_getListeners_1 : decode cL_getListeners 1 = .ok (.iload_n 1, 1) := by decide +kernel
theorem dL_getListeners_2 : decode cL_getListeners 2 = .ok (.invokevirtual 80, 3) := by decide +kernel
theorem dL_getListeners_5 : decode cL_getListeners 5 = .ok (.ireturn, 1) := by decide +kernel
theorem dL_getSpeaker_0 : decode cL_getSpeaker 0 = .ok (.aload_n 0, 1) := by decide +kernel
theorem dL_getSpeaker_1 : decode cL_getSpeaker 1 = .ok (.iload_n 1, 1) := by decide +kernel
theorem dL_getSpeaker_2 : decode cL_getSpeaker 2 = .ok (.invokevirtual 98, 3) := by decide +kernel
theorem dL_getSpeaker_5 : decode cL_getSpeaker 5 = .ok (.ireturn, 1) := by decide +kernel
theorem dL_getSpeaker_10 : decode cL_getSpeaker 10 = .ok (.astore_n 2, 1) := by decide +kernel
theorem dL_getSpeaker_11 : decode cL_getSpeaker 11 = .ok (.ldc 20, 2) := by decide +kernel
theorem dL_getSpeaker_13 : decode cL_getSpeaker 13 = .ok (.ireturn, 1) := by decide +kernel
theorem dL_bank_0 : decode cL_bank 0 = .ok (.aload_n 0, 1) := by decide +kernel
theorem dL_bank_1 : decode cL_bank 1 = .ok (.iload_n 1, 1) := by decide +kernel
theorem dL_bank_2 : decode cL_bank 2 = .ok (.invokevirtual 106, 3) := by decide +kernel
theorem dL_bank_5 : decode cL_bank 5 = .ok (.ireturn, 1) := by decide +kernel
theorem dL_getEarned_0 : decode cL_getEarned 0 = .ok (.aload_n 0, 1) := by decide +kernel
theorem dL_getEarned_1 : decode cL_getEarned 1 = .ok (.iload_n 1, 1) := by decide +kernel
theorem dL_getEarned_2 : decode cL_getEarned 2 = .ok (.invokevirtual 109, 3) := by decide +kernel
theorem dL_getEarned_5 : decode cL_getEarned 5 = .ok (.ireturn, 1) := by decide +kernel
theorem dL_isOnAir_0 : decode cL_isOnAir 0 = .ok (.aload_n 0, 1) := by decide +kernel
theorem dL_isOnAir_1 : decode cL_isOnAir 1 = .ok (.iload_n 1, 1) := by decide +kernel
theorem dL_isOnAir_2 : decode cL_isOnAir 2 = .ok (.invokevirtual 112, 3) := by decide +kernel
theorem dL_isOnAir_5 : decode cL_isOnAir 5 = .ok (.ifCond .eq 7, 3) := by decide +kernel
theorem dL_isOnAir_8 : decode cL_isOnAir 8 = .ok (.iconst 1, 1) := by decide +kernel
theorem dL_isOnAir_9 : decode cL_isOnAir 9 = .ok (.goto 4, 3) := by decide +kernel
theorem dL_isOnAir_12 : decode cL_isOnAir 12 = .ok (.iconst 0, 1) := by decide +kernel
theorem dL_isOnAir_13 : decode cL_isOnAir 13 = .ok (.ireturn, 1) := by decide +kernel
theorem dL_isMutiny_0 : decode cL_isMutiny 0 = .ok (.aload_n 0, 1) := by decide +kernel
theorem dL_isMutiny_1 : decode cL_isMutiny 1 = .ok (.iload_n 1, 1) := by decide +kernel
theorem dL_isMutiny_2 : decode cL_isMutiny 2 = .ok (.invokevirtual 116, 3) := by decide +kernel
theorem dL_isMutiny_5 : decode cL_isMutiny 5 = .ok (.ifCond .eq 7, 3) := by decide +kernel
theorem dL_isMutiny_8 : decode cL_isMutiny 8 = .ok (.iconst 1, 1) := by decide +kernel
theorem dL_isMutiny_9 : decode cL_isMutiny 9 = .ok (.goto 4, 3) := by decide +kernel
theorem dL_isMutiny_12 : decode cL_isMutiny 12 = .ok (.iconst 0, 1) := by decide +kernel
theorem dL_isMutiny_13 : decode cL_isMutiny 13 = .ok (.ireturn, 1) := by decide +kernel
