theorem kw_544 : Cond.fieldLink "GalleonWave" 313 "GalleonWave$Spots" "earned" "I" ∈ kw := kw_in (List.mem_append_right _ (tb4 _ (List.mem_of_getElem? (i := 180) (by decide +kernel)))) (by decide +kernel)
theorem kw_545 : Cond.code ⟨"GalleonWave$Spots", "takeEarned", "()I"⟩ prog_11_method_5_code 2 (some .int) ∈ kw := kw_in (List.mem_append_right _ (tb6 _ (List.mem_of_getElem? (i := 63) (by decide +kernel)))) (by decide +kernel)
theorem kw_546 : Cond.methodLink "GalleonWave" 310 ⟨"GalleonWave$Spots", "takeEarned", "()I"⟩ ∈ kw := kw_in (List.mem_append_right _ (tb6 _ (List.mem_of_getElem? (i := 60) (by decide +kernel)))) (by decide +kernel)
theorem kw_547 : Cond.instanceMethod ⟨"GalleonWave$Spots", "takeEarned", "()I"⟩ ∈ kw := kw_in (List.mem_append_right _ (tb6 _ (List.mem_of_getElem? (i := 61) (by decide +kernel)))) (by decide +kernel)
theorem kw_548 : Cond.selects "GalleonWave$Spots" ⟨"GalleonWave$Spots", "takeEarned", "()I"⟩ ⟨"GalleonWave$Spots", "takeEarned", "()I"⟩ ∈ kw := kw_in (List.mem_append_right _ (tb6 _ (List.mem_of_getElem? (i := 62) (by decide +kernel)))) (by decide +kernel)
theorem kw_549 : Cond.classLink "GalleonWave" 285 "java/util/NoSuchElementException" ∈ kw := kw_in (List.mem_append_right _ (tb6 _ (List.mem_of_getElem? (i := 20) (by decide +kernel)))) (by decide +kernel)
theorem kw_550 : Cond.initialized "java/util/NoSuchElementException" ∈ kw := kw_in (List.mem_append_right _ (tb1 _ (List.mem_of_getElem? (i := 32) (by decide +kernel)))) (by decide +kernel)
theorem kw_551 : Cond.code ⟨"GalleonWave", "countAboard", "()I"⟩ prog_1_method_95_code 3 (some .int) ∈ kw := kw_in (List.mem_append_right _ (tb2 _ (List.mem_of_getElem? (i := 19) (by decide +kernel)))) (by decide +kernel)
theorem kw_552 : Cond.methodLink "GalleonWave" 387 ⟨"GalleonWave", "countAboard", "()I"⟩ ∈ kw := kw_in (List.mem_append_right _ (tb2 _ (List.mem_of_getElem? (i := 16) (by decide +kernel)))) (by decide +kernel)
theorem kw_553 : Cond.instanceMethod ⟨"GalleonWave", "countAboard", "()I"⟩ ∈ kw := kw_in (List.mem_append_right _ (tb2 _ (List.mem_of_getElem? (i := 18) (by decide +kernel)))) (by decide +kernel)
theorem kw_554 : Cond.selects "GalleonWave" ⟨"GalleonWave", "countAboard", "()I"⟩ ⟨"GalleonWave", "countAboard", "()I"⟩ ∈ kw := kw_in (List.mem_append_left _ (List.mem_of_getElem? (i := 1) (by decide +kernel))) (by decide +kernel)
theorem kw_555 : Cond.methodLink "GalleonWave$Archive" 42 ⟨"java/util/ArrayList", "size", "()I"⟩ ∈ kw := kw_in (List.mem_append_right _ (tb2 _ (List.mem_of_getElem? (i := 70) (by decide +kernel)))) (by decide +kernel)
theorem kw_556 : Cond.fieldLink "GalleonWave" 565 "GalleonWave$Kept" "ships" "[I" ∈ kw := kw_in (List.mem_append_right _ (tb1 _ (List.mem_of_getElem? (i := 83) (by decide +kernel)))) (by decide +kernel)
theorem kw_557 : Cond.fieldLink "GalleonWave" 568 "GalleonWave$Kept" "whos" "[I" ∈ kw := kw_in (List.mem_append_right _ (tb1 _ (List.mem_of_getElem? (i := 89) (by decide +kernel)))) (by decide +kernel)
theorem kw_558 : Cond.fieldLink "GalleonWave" 571 "GalleonWave$Kept" "hours" "[I" ∈ kw := kw_in (List.mem_append_right _ (tb1 _ (List.mem_of_getElem? (i := 81) (by decide +kernel)))) (by decide +kernel)
theorem kw_559 : Cond.fieldLink "GalleonWave" 574 "GalleonWave$Kept" "channels" "[I" ∈ kw := kw_in (List.mem_append_right _ (tb1 _ (List.mem_of_getElem? (i := 85) (by decide +kernel)))) (by decide +kernel)
theorem kw_560 : Cond.fieldLink "GalleonWave" 577 "GalleonWave$Kept" "generators" "[I" ∈ kw := kw_in (List.mem_append_right _ (tb1 _ (List.mem_of_getElem? (i := 87) (by decide +kernel)))) (by decide +kernel)
theorem kw_561 : Cond.methodLink "GalleonWave" 579 ⟨"GalleonWave$Ship", "powerOf", "(I)I"⟩ ∈ kw := kw_in (List.mem_append_right _ (tb2 _ (List.mem_of_getElem? (i := 56) (by decide +kernel)))) (by decide +kernel)
theorem kw_562 : Cond.fieldLink "GalleonWave" 337 "GalleonWave$Kept" "count" "I" ∈ kw := kw_in (List.mem_append_right _ (tb1 _ (List.mem_of_getElem? (i := 93) (by decide +kernel)))) (by decide +kernel)
theorem kw_563 : Cond.methodLink "GalleonWave" 558 ⟨"GalleonWave$Kept", "slotOf", "(I)I"⟩ ∈ kw := kw_in (List.mem_append_right _ (tb2 _ (List.mem_of_getElem? (i := 43) (by decide +kernel)))) (by decide +kernel)
theorem kw_564 : Cond.code ⟨"GalleonWave", "isKeptHourSound", "(LGalleonWave$Kept;I)Z"⟩ prog_1_method_100_code 6 (some .boolean) ∈ kw := kw_in (List.mem_append_right _ (tb2 _ (List.mem_of_getElem? (i := 50) (by decide +kernel)))) (by decide +kernel)
theorem kw_565 : Cond.methodLink "GalleonWave" 561 ⟨"GalleonWave", "isKeptHourSound", "(LGalleonWave$Kept;I)Z"⟩ ∈ kw := kw_in (List.mem_append_right _ (tb2 _ (List.mem_of_getElem? (i := 47) (by decide +kernel)))) (by decide +kernel)
theorem kw_566 : Cond.instanceMethod ⟨"GalleonWave", "isKeptHourSound", "(LGalleonWave$Kept;I)Z"⟩ ∈ kw := kw_in (List.mem_append_right _ (tb2 _ (List.mem_of_getElem? (i := 49) (by decide +kernel)))) (by decide +kernel)
theorem kw_567 : Cond.selects "GalleonWave" ⟨"GalleonWave", "isKeptHourSound", "(LGalleonWave$Kept;I)Z"⟩ ⟨"GalleonWave", "isKeptHourSound", "(LGalleonWave$Kept;I)Z"⟩ ∈ kw := kw_in (List.mem_append_left _ (List.mem_of_getElem? (i := 3) (by decide +kernel))) (by decide +kernel)
theorem kw_568 : Cond.code ⟨"GalleonWave", "areKeptHoursSound", "()Z"⟩ prog_1_method_99_code 2 (some .boolean) ∈ kw := kw_in (List.mem_append_right _ (tb2 _ (List.mem_of_getElem? (i := 42) (by decide +kernel)))) (by decide +kernel)
theorem kw_569 : Cond.methodLink "GalleonWave" 394 ⟨"GalleonWave", "areKeptHoursSound", "()Z"⟩ ∈ kw := kw_in (List.mem_append_right _ (tb2 _ (List.mem_of_getElem? (i := 39) (by decide +kernel)))) (by decide +kernel)
theorem kw_570 : Cond.instanceMethod ⟨"GalleonWave", "areKeptHoursSound", "()Z"⟩ ∈ kw := kw_in (List.mem_append_right _ (tb2 _ (List.mem_of_getElem? (i := 41) (by decide +kernel)))) (by decide +kernel)
theorem kw_571 : Cond.selects "GalleonWave" ⟨"GalleonWave", "areKeptHoursSound", "()Z"⟩ ⟨"GalleonWave", "areKeptHoursSound", "()Z"⟩ ∈ kw := kw_in (List.mem_append_left _ (List.mem_of_getElem? (i := 2) (by decide +kernel))) (by decide +kernel)
theorem kw_572 : Cond.code ⟨"GalleonWave$Archive", "areDatesAsOrdersTell", "()Z"⟩ prog_3_method_16_code 2 (some .boolean) ∈ kw := kw_in (List.mem_append_right _ (tb2 _ (List.mem_of_getElem? (i := 69) (by decide +kernel)))) (by decide +kernel)
theorem kw_573 : Cond.methodLink "GalleonWave" 397 ⟨"GalleonWave$Archive", "areDatesAsOrdersTell", "()Z"⟩ ∈ kw := kw_in (List.mem_append_right _ (tb2 _ (List.mem_of_getElem? (i := 66) (by decide +kernel)))) (by decide +kernel)
theorem kw_574 : Cond.instanceMethod ⟨"GalleonWave$Archive", "areDatesAsOrdersTell", "()Z"⟩ ∈ kw := kw_in (List.mem_append_right _ (tb2 _ (List.mem_of_getElem? (i := 67) (by decide +kernel)))) (by decide +kernel)
theorem kw_575 : Cond.selects "GalleonWave$Archive" ⟨"GalleonWave$Archive", "areDatesAsOrdersTell", "()Z"⟩ ⟨"GalleonWave$Archive", "areDatesAsOrdersTell", "()Z"⟩ ∈ kw := kw_in (List.mem_append_right _ (tb2 _ (List.mem_of_getElem? (i := 68) (by decide +kernel)))) (by decide +kernel)
theorem kw_576 : Cond.code ⟨"GalleonWave", "areCrewsSound", "()Z"⟩ prog_1_method_101_code 3 (some .boolean) ∈ kw := kw_in (List.mem_append_right _ (tb2 _ (List.mem_of_getElem? (i := 159) (by decide +kernel)))) (by decide +kernel)
theorem kw_577 : Cond.methodLink "GalleonWave" 400 ⟨"GalleonWave", "areCrewsSound", "()Z"⟩ ∈ kw := kw_in (List.mem_append_right _ (tb2 _ (List.mem_of_getElem? (i := 156) (by decide +kernel)))) (by decide +kernel)
theorem kw_578 : Cond.instanceMethod ⟨"GalleonWave", "areCrewsSound", "()Z"⟩ ∈ kw := kw_in (List.mem_append_right _ (tb2 _ (List.mem_of_getElem? (i := 158) (by decide +kernel)))) (by decide +kernel)
theorem kw_579 : Cond.selects "GalleonWave" ⟨"GalleonWave", "areCrewsSound", "()Z"⟩ ⟨"GalleonWave", "areCrewsSound", "()Z"⟩ ∈ kw := kw_in (List.mem_append_left _ (List.mem_of_getElem? (i := 5) (by decide +kernel))) (by decide +kernel)
theorem ydX11_areCrewsSound : (yX11_areCrewsSound.cls ≠ "java/lang/invoke/MethodHandle" ∧ yX11_areCrewsSound.cls ≠ "java/lang/invoke/VarHandle") ∧ (parseMethodDescriptor yX11_areCrewsSound.desc).map (fun d => d.parameters.length) = some 0 := by decide +kernel
theorem ydX11_areKeptHoursSound : (yX11_areKeptHoursSound.cls ≠ "java/lang/invoke/MethodHandle" ∧ yX11_areKeptHoursSound.cls ≠ "java/lang/invoke/VarHandle") ∧ (parseMethodDescriptor yX11_areKeptHoursSound.desc).map (fun d => d.parameters.length) = some 0 := by decide +kernel
theorem ydX11_countAboard : (yX11_countAboard.cls ≠ "java/lang/invoke/MethodHandle" ∧ yX11_countAboard.cls ≠ "java/lang/invoke/VarHandle") ∧ (parseMethodDescriptor yX11_countAboard.desc).map (fun d => d.parameters.length) = some 0 := by decide +kernel
theorem ydX11_isKeptHourSound : (yX11_isKeptHourSound.cls ≠ "java/lang/invoke/MethodHandle" ∧ yX11_isKeptHourSound.cls ≠ "java/lang/invoke/VarHandle") ∧ (parseMethodDescriptor yX11_isKeptHourSound.desc).map (fun d => d.parameters.length) = some 2 := by decide +kernel
theorem ydX1_areDatesAsOrdersTell : (yX1_areDatesAsOrdersTell.cls ≠ "java/lang/invoke/MethodHandle" ∧ yX1_areDatesAsOrdersTell.cls ≠ "java/lang/invoke/VarHandle") ∧ (parseMethodDescriptor yX1_areDatesAsOrdersTell.desc).map (fun d => d.parameters.length) = some 0 := by decide +kernel
theorem ydX9_takeEarned : (yX9_takeEarned.cls ≠ "java/lang/invoke/MethodHandle" ∧ yX9_takeEarned.cls ≠ "java/lang/invoke/VarHandle") ∧ (parseMethodDescriptor yX9_takeEarned.desc).map (fun d => d.parameters.length) = some 0 := by decide +kernel
theorem dX1_areDatesAsOrdersTell_0 : decode cX1_areDatesAsOrdersTell 0 = .ok (.aload_n 0, 1) := by decide +kernel
theorem dX1_areDatesAsOrdersTell_1 : decode cX1_areDatesAsOrdersTell 1 = .ok (.getfield 21, 3) := by decide +kernel
theorem dX1_areDatesAsOrdersTell_4 : decode cX1_areDatesAsOrdersTell 4 = .ok (.invokevirtual 42, 3) := by decide +kernel
theorem dX1_areDatesAsOrdersTell_7 : decode cX1_areDatesAsOrdersTell 7 = .ok (.iconst 4, 1) := by decide +kernel
theorem dX1_areDatesAsOrdersTell_8 : decode cX1_areDatesAsOrdersTell 8 = .ok (.if_icmp .le 5, 3) := by decide +kernel
theorem dX1_areDatesAsOrdersTell_13 : decode cX1_areDatesAsOrdersTell 13 = .ok (.iconst 0, 1) := by decide +kernel
theorem dX1_areDatesAsOrdersTell_14 : decode cX1_areDatesAsOrdersTell 14 = .ok (.istore_n 1, 1) := by decide +kernel
theorem dX1_areDatesAsOrdersTell_15 : decode cX1_areDatesAsOrdersTell 15 = .ok (.iload_n 1, 1) := by decide +kernel
theorem dX1_areDatesAsOrdersTell_16 : decode cX1_areDatesAsOrdersTell 16 = .ok (.aload_n 0, 1) := by decide +kernel
theorem dX1_areDatesAsOrdersTell_17 : decode cX1_areDatesAsOrdersTell 17 = .ok (.getfield 21, 3) := by decide +kernel
theorem dX1_areDatesAsOrdersTell_20 : decode cX1_areDatesAsOrdersTell 20 = .ok (.invokevirtual 42, 3) := by decide +kernel
theorem dX1_areDatesAsOrdersTell_23 : decode cX1_areDatesAsOrdersTell 23 = .ok (.if_icmp .ge 41, 3) := by decide +kernel
theorem dX1_areDatesAsOrdersTell_64 : decode cX1_areDatesAsOrdersTell 64 = .ok (.iconst 1, 1) := by decide +kernel
theorem dX1_areDatesAsOrdersTell_65 : decode cX1_areDatesAsOrdersTell 65 = .ok (.ireturn, 1) := by decide +kernel
theorem dX9_takeEarned_0 : decode cX9_takeEarned 0 = .ok (.aload_n 0, 1) := by decide +kernel
theorem dX9_takeEarned_1 : decode cX9_takeEarned 1 = .ok (.getfield 23, 3) := by decide +kernel
theorem dX9_takeEarned_4 : decode cX9_takeEarned 4 = .ok (.istore_n 1, 1) := by decide +kernel
theorem dX9_takeEarned_5 : decode cX9_takeEarned 5 = .ok (.aload_n 0, 1) := by decide +kernel
theorem dX9_takeEarned_6 : decode cX9_takeEarned 6 = .ok (.iconst 0, 1) := by decide +kernel
theorem dX9_takeEarned_7 : decode cX9_takeEarned 7 = .ok (.putfield 23, 3) := by decide +kernel
theorem dX9_takeEarned_10 : decode cX9_takeEarned 10 = .ok (.iload_n 1, 1) := by decide +kernel
theorem dX9_takeEarned_11 : decode cX9_takeEarned 11 = .ok (.ireturn, 1) := by decide +kernel
theorem dX11_getPlace_0 : decode cX11_getPlace 0 = .ok (.aload_n 0, 1) := by decide +kernel
theorem dX11_getPlace_1 : decode cX11_getPlace 1 = .ok (.iload_n 1, 1) := by decide +kernel
theorem dX11_getPlace_2 : decode cX11_getPlace 2 = .ok (.invokevirtual 106, 3) := by decide +kernel
theorem dX11_getPlace_5 : decode cX11_getPlace 5 = .ok (.astore_n 3, 1) := by decide +kernel
theorem dX11_getPlace_6 : decode cX11_getPlace 6 = .ok (.iload_n 2, 1) := by decide +kernel
theorem dX11_getPlace_7 : decode cX11_getPlace 7 = .ok (.ifCond .eq 10, 3) := by decide +kernel
theorem dX11_getPlace_10 : decode cX11_getPlace 10 = .ok (.aload_n 3, 1) := by decide +kernel
theorem dX11_getPlace_11 : decode cX11_getPlace 11 = .ok (.getfield 110, 3) := by decide +kernel
theorem dX11_getPlace_14 : decode cX11_getPlace 14 = .ok (.goto 7, 3) := by decide +kernel
theorem dX11_getPlace_17 : decode cX11_getPlace 17 = .ok (.aload_n 3, 1) := by decide +kernel
theorem dX11_getPlace_18 : decode cX11_getPlace 18 = .ok (.getfield 113, 3) := by decide +kernel
theorem dX11_getPlace_21 : decode cX11_getPlace 21 = .ok (.ireturn, 1) := by decide +kernel
theorem dX11_getSalt_0 : decode cX11_getSalt 0 = .ok (.aload_n 0, 1) := by decide +kernel
theorem dX11_getSalt_1 : decode cX11_getSalt 1 = .ok (.iload_n 1, 1) := by decide +kernel
theorem dX11_getSalt_2 : decode cX11_getSalt 2 = .ok (.invokevirtual 106, 3) := by decide +kernel
theorem dX11_getSalt_5 : decode cX11_getSalt 5 = .ok (.getfield 185, 3) := by decide +kernel
theorem dX11_getSalt_8 : decode cX11_getSalt 8 = .ok (.ireturn, 1) := by decide +kernel
theorem dX11_wash_0 : decode cX11_wash 0 = .ok (.aload_n 0, 1) := by decide +kernel
theorem dX11_wash_1 : decode cX11_wash 1 = .ok (.iload_n 1, 1) := by decide +kernel
theorem dX11_wash_2 : decode cX11_wash 2 = .ok (.invokevirtual 106, 3) := by decide +kernel
theorem dX11_wash_5 : decode cX11_wash 5 = .ok (.astore_n 2, 1) := by decide +kernel
theorem dX11_wash_6 : decode cX11_wash 6 = .ok (.aload_n 0, 1) := by decide +kernel
theorem dX11_wash_7 : decode cX11_wash 7 = .ok (.iload_n 1, 1) := by decide +kernel
theorem dX11_wash_8 : decode cX11_wash 8 = .ok (.invokevirtual 188, 3) := by decide +kernel
theorem dX11_wash_11 : decode cX11_wash 11 = .ok (.ifCond .ne 13, 3) := by decide +kernel
theorem dX11_wash_24 : decode cX11_wash 24 = .ok (.aload_n 2, 1) := by decide +kernel
theorem dX11_wash_25 : decode cX11_wash 25 = .ok (.getfield 185, 3) := by decide +kernel
theorem dX11_wash_28 : decode cX11_wash 28 = .ok (.istore_n 3, 1) := by decide +kernel
theorem dX11_wash_29 : decode cX11_wash 29 = .ok (.aload_n 2, 1) := by decide +kernel
theorem dX11_wash_30 : decode cX11_wash 30 = .ok (.iconst 0, 1) := by decide +kernel
theorem dX11_wash_31 : decode cX11_wash 31 = .ok (.putfield 185, 3) := by decide +kernel
theorem dX11_wash_34 : decode cX11_wash 34 = .ok (.iload_n 3, 1) := by decide +kernel
theorem dX11_wash_35 : decode cX11_wash 35 = .ok (.ireturn, 1) := by decide +kernel
theorem dX11_isOnAir_0 : decode cX11_isOnAir 0 = .ok (.aload_n 0, 1) := by decide +kernel
theorem dX11_isOnAir_1 : decode cX11_isOnAir 1 = .ok (.iload_n 1, 1) := by decide +kernel
theorem dX11_isOnAir_2 : decode cX11_isOnAir 2 = .ok (.invokevirtual 106, 3) := by decide +kernel
theorem dX11_isOnAir_5 : decode cX11_isOnAir 5 = .ok (.getfield 199, 3) := by decide +kernel
theorem dX11_isOnAir_8 : decode cX11_isOnAir 8 = .ok (.ireturn, 1) := by decide +kernel
theorem dX11_getSignal_0 : decode cX11_getSignal 0 = .ok (.aload_n 0, 1) := by decide +kernel
theorem dX11_getSignal_1 : decode cX11_getSignal 1 = .ok (.iload_n 1, 1) := by decide +kernel
theorem dX11_getSignal_2 : decode cX11_getSignal 2 = .ok (.invokevirtual 106, 3) := by decide +kernel
theorem dX11_getSignal_5 : decode cX11_getSignal 5 = .ok (.astore_n 3, 1) := by decide +kernel
theorem dX11_getSignal_6 : decode cX11_getSignal 6 = .ok (.aload_n 0, 1) := by decide +kernel
theorem dX11_getSignal_7 : decode cX11_getSignal 7 = .ok (.aload_n 3, 1) := by decide +kernel
theorem dX11_getSignal_8 : decode cX11_getSignal 8 = .ok (.aload_n 0, 1) := by decide +kernel
theorem dX11_getSignal_9 : decode cX11_getSignal 9 = .ok (.iload_n 2, 1) := by decide +kernel
theorem dX11_getSignal_10 : decode cX11_getSignal 10 = .ok (.invokevirtual 202, 3) := by decide +kernel
theorem dX11_getSignal_13 : decode cX11_getSignal 13 = .ok (.invokevirtual 206, 3) := by decide +kernel
theorem dX11_getSignal_16 : decode cX11_getSignal 16 = .ok (.ireturn, 1) := by decide +kernel
theorem dX11_getListeners_0 : decode cX11_getListeners 0 = .ok (.aload_n 0, 1) := by decide +kernel
theorem dX11_getListeners_1 : decode cX11_getListeners 1 = .ok (.iload_n 1, 1) := by decide +kernel
theorem dX11_getListeners_2 : decode cX11_getListeners 2 = .ok (.invokevirtual 106, 3) := by decide +kernel
theorem dX11_getListeners_5 : decode cX11_getListeners 5 = .ok (.getfield 213, 3) := by decide +kernel
theorem dX11_getListeners_8 : decode cX11_getListeners 8 = .ok (.ireturn, 1) := by decide +kernel
theorem dX11_getSpeaker_0 : decode cX11_getSpeaker 0 = .ok (.aload_n 0, 1) := by decide +kernel
theorem dX11_getSpeaker_1 : decode cX11_getSpeaker 1 = .ok (.iload_n 1, 1) := by decide +kernel
theorem dX11_getSpeaker_2 : decode cX11_getSpeaker 2 = .ok (.invokevirtual 106, 3) := by decide +kernel
theorem dX11_getSpeaker_5 : decode cX11_getSpeaker 5 = .ok (.astore_n 2, 1) := by decide +kernel
theorem dX11_getSpeaker_6 : decode cX11_getSpeaker 6 = .ok (.aload_n 2, 1) := by decide +kernel
theorem dX11_getSpeaker_7 : decode cX11_getSpeaker 7 = .ok (.getfield 199, 3) := by decide +kernel
theorem dX11_getSpeaker_10 : decode cX11_getSpeaker 10 = .ok (.ifCond .ne 14, 3) := by decide +kernel
theorem dX11_getSpeaker_13 : decode cX11_getSpeaker 13 = .ok (.new 285, 3) := by decide +kernel
theorem dX11_getSpeaker_16 : decode cX11_getSpeaker 16 = .ok (.dup, 1) := by decide +kernel
theorem dX11_getSpeaker_17 : decode cX11_getSpeaker 17 = .ok (.ldc_w 287, 3) := by decide +kernel
theorem dX11_getSpeaker_20 : decode cX11_getSpeaker 20 = .ok (.invokespecial 289, 3) := by decide +kernel
theorem dX11_getSpeaker_23 : decode cX11_getSpeaker 23 = .ok (.athrow, 1) := by decide +kernel
theorem dX11_getSpeaker_24 : decode cX11_getSpeaker 24 = .ok (.aload_n 2, 1) := by decide +kernel
theorem dX11_getSpeaker_25 : decode cX11_getSpeaker 25 = .ok (.getfield 290, 3) := by decide +kernel
theorem dX11_getSpeaker_28 : decode cX11_getSpeaker 28 = .ok (.ireturn, 1) := by decide +kernel
theorem dX11_isMutiny_0 : decode cX11_isMutiny 0 = .ok (.aload_n 0, 1) := by decide +kernel
theorem dX11_isMutiny_1 : decode cX11_isMutiny 1 = .ok (.iload_n 1, 1) := by decide +kernel
theorem dX11_isMutiny_2 : decode cX11_isMutiny 2 = .ok (.invokevirtual 106, 3) := by decide +kernel
theorem dX11_isMutiny_5 : decode cX11_isMutiny 5 = .ok (.getfield 266, 3) := by decide +kernel
theorem dX11_isMutiny_8 : decode cX11_isMutiny 8 = .ok (.ireturn, 1) := by decide +kernel
theorem dX11_bank_0 : decode cX11_bank 0 = .ok (.aload_n 0, 1) := by decide +kernel
theorem dX11_bank_1 : decode cX11_bank 1 = .ok (.dup, 1) := by decide +kernel
theorem dX11_bank_2 : decode cX11_bank 2 = .ok (.getfield 157, 3) := by decide +kernel
theorem dX11_bank_5 : decode cX11_bank 5 = .ok (.aload_n 0, 1) := by decide +kernel
theorem dX11_bank_6 : decode cX11_bank 6 = .ok (.iload_n 1, 1) := by decide +kernel
theorem dX11_bank_7 : decode cX11_bank 7 = .ok (.invokevirtual 106, 3) := by decide +kernel
theorem dX11_bank_10 : decode cX11_bank 10 = .ok (.getfield 293, 3) := by decide +kernel
theorem dX11_bank_13 : decode cX11_bank 13 = .ok (.invokevirtual 310, 3) := by decide +kernel
theorem dX11_bank_16 : decode cX11_bank 16 = .ok (.iadd, 1) := by decide +kernel
theorem dX11_bank_17 : decode cX11_bank 17 = .ok (.putfield 157, 3) := by decide +kernel
theorem dX11_bank_20 : decode cX11_bank 20 = .ok (.aload_n 0, 1) := by decide +kernel
theorem dX11_bank_21 : decode cX11_bank 21 = .ok (.getfield 157, 3) := by decide +kernel
theorem dX11_bank_24 : decode cX11_bank 24 = .ok (.ireturn, 1) := by decide +kernel
theorem dX11_getEarned_0 : decode cX11_getEarned 0 = .ok (.aload_n 0, 1) := by decide +kernel
theorem dX11_getEarned_1 : decode cX11_getEarned 1 = .ok (.iload_n 1, 1) := by decide +kernel
theorem dX11_getEarned_2 : decode cX11_getEarned 2 = .ok (.invokevirtual 106, 3) := by decide +kernel
theorem dX11_getEarned_5 : decode cX11_getEarned 5 = .ok (.getfield 293, 3) := by decide +kernel
theorem dX11_getEarned_8 : decode cX11_getEarned 8 = .ok (.getfield 313, 3) := by decide +kernel
theorem dX11_getEarned_11 : decode cX11_getEarned 11 = .ok (.ireturn, 1) := by decide +kernel
theorem dX11_getMoney_0 : decode cX11_getMoney 0 = .ok (.aload_n 0, 1) := by decide +kernel
theorem dX11_getMoney_1 : decode cX11_getMoney 1 = .ok (.getfield 157, 3) := by decide +kernel
theorem dX11_getMoney_4 : decode cX11_getMoney 4 = .ok (.ireturn, 1) := by decide +kernel
theorem dX11_getMeanCrew_0 : decode cX11_getMeanCrew 0 = .ok (.aload_n 0, 1) := by decide +kernel
theorem dX11_getMeanCrew_1 : decode cX11_getMeanCrew 1 = .ok (.getfield 19, 3) := by decide +kernel
theorem dX11_getMeanCrew_4 : decode cX11_getMeanCrew 4 = .ok (.invokevirtual 44, 3) := by decide +kernel
theorem dX11_getMeanCrew_7 : decode cX11_getMeanCrew 7 = .ok (.istore_n 1, 1) := by decide +kernel
theorem dX11_getMeanCrew_8 : decode cX11_getMeanCrew 8 = .ok (.iload_n 1, 1) := by decide +kernel
theorem dX11_getMeanCrew_9 : decode cX11_getMeanCrew 9 = .ok (.ifCond .ne 14, 3) := by decide +kernel
theorem dX11_getMeanCrew_23 : decode cX11_getMeanCrew 23 = .ok (.aload_n 0, 1) := by decide +kernel
theorem dX11_getMeanCrew_24 : decode cX11_getMeanCrew 24 = .ok (.invokevirtual 387, 3) := by decide +kernel
theorem dX11_getMeanCrew_27 : decode cX11_getMeanCrew 27 = .ok (.i2d, 1) := by decide +kernel
theorem dX11_getMeanCrew_28 : decode cX11_getMeanCrew 28 = .ok (.iload_n 1, 1) := by decide +kernel
theorem dX11_getMeanCrew_29 : decode cX11_getMeanCrew 29 = .ok (.i2d, 1) := by decide +kernel
theorem dX11_getMeanCrew_30 : decode cX11_getMeanCrew 30 = .ok (.ddiv, 1) := by decide +kernel
theorem dX11_getMeanCrew_31 : decode cX11_getMeanCrew 31 = .ok (.dreturn, 1) := by decide +kernel
theorem dX11_isSound_0 : decode cX11_isSound 0 = .ok (.aload_n 0, 1) := by decide +kernel
theorem dX11_isSound_1 : decode cX11_isSound 1 = .ok (.invokevirtual 394, 3) := by decide +kernel
theorem dX11_isSound_4 : decode cX11_isSound 4 = .ok (.ifCond .eq 24, 3) := by decide +kernel
theorem dX11_isSound_7 : decode cX11_isSound 7 = .ok (.aload_n 0, 1) := by decide +kernel
theorem dX11_isSound_8 : decode cX11_isSound 8 = .ok (.getfield 28, 3) := by decide +kernel
theorem dX11_isSound_11 : decode cX11_isSound 11 = .ok (.invokevirtual 397, 3) := by decide +kernel
theorem dX11_isSound_14 : decode cX11_isSound 14 = .ok (.ifCond .eq 14, 3) := by decide +kernel
theorem dX11_isSound_17 : decode cX11_isSound 17 = .ok (.aload_n 0, 1) := by decide +kernel
theorem dX11_isSound_18 : decode cX11_isSound 18 = .ok (.invokevirtual 400, 3) := by decide +kernel
theorem dX11_isSound_21 : decode cX11_isSound 21 = .ok (.ifCond .eq 7, 3) := by decide +kernel
theorem dX11_isSound_24 : decode cX11_isSound 24 = .ok (.iconst 1, 1) := by decide +kernel
theorem dX11_isSound_25 : decode cX11_isSound 25 = .ok (.goto 4, 3) := by decide +kernel
theorem dX11_isSound_29 : decode cX11_isSound 29 = .ok (.ireturn, 1) := by decide +kernel
theorem dX11_countAboard_0 : decode cX11_countAboard 0 = .ok (.iconst 0, 1) := by decide +kernel
theorem dX11_countAboard_1 : decode cX11_countAboard 1 = .ok (.istore_n 1, 1) := by decide +kernel
theorem dX11_countAboard_2 : decode cX11_countAboard 2 = .ok (.iconst 0, 1) := by decide +kernel
theorem dX11_countAboard_3 : decode cX11_countAboard 3 = .ok (.istore_n 2, 1) := by decide +kernel
theorem dX11_countAboard_4 : decode cX11_countAboard 4 = .ok (.iload_n 2, 1) := by decide +kernel
theorem dX11_countAboard_5 : decode cX11_countAboard 5 = .ok (.aload_n 0, 1) := by decide +kernel
theorem dX11_countAboard_6 : decode cX11_countAboard 6 = .ok (.getfield 22, 3) := by decide +kernel
theorem dX11_countAboard_9 : decode cX11_countAboard 9 = .ok (.invokevirtual 44, 3) := by decide +kernel
theorem dX11_countAboard_12 : decode cX11_countAboard 12 = .ok (.if_icmp .ge 30, 3) := by decide +kernel
theorem dX11_countAboard_15 : decode cX11_countAboard 15 = .ok (.aload_n 0, 1) := by decide +kernel
theorem dX11_countAboard_16 : decode cX11_countAboard 16 = .ok (.getfield 22, 3) := by decide +kernel
theorem dX11_countAboard_19 : decode cX11_countAboard 19 = .ok (.iload_n 2, 1) := by decide +kernel
theorem dX11_countAboard_20 : decode cX11_countAboard 20 = .ok (.invokevirtual 169, 3) := by decide +kernel
theorem dX11_countAboard_23 : decode cX11_countAboard 23 = .ok (.checkcast 218, 3) := by decide +kernel
theorem dX11_countAboard_26 : decode cX11_countAboard 26 = .ok (.getfield 227, 3) := by decide +kernel
theorem dX11_countAboard_29 : decode cX11_countAboard 29 = .ok (.iconst (-1), 1) := by decide +kernel
theorem dX11_countAboard_30 : decode cX11_countAboard 30 = .ok (.if_icmp .eq 6, 3) := by decide +kernel
theorem dX11_countAboard_33 : decode cX11_countAboard 33 = .ok (.iinc 1 1, 3) := by decide +kernel
theorem dX11_countAboard_36 : decode cX11_countAboard 36 = .ok (.iinc 2 1, 3) := by decide +kernel
theorem dX11_countAboard_39 : decode cX11_countAboard 39 = .ok (.goto (-35), 3) := by decide +kernel
theorem dX11_countAboard_42 : decode cX11_countAboard 42 = .ok (.iload_n 1, 1) := by decide +kernel
theorem dX11_countAboard_43 : decode cX11_countAboard 43 = .ok (.ireturn, 1) := by decide +kernel
theorem dX11_areKeptHoursSound_0 : decode cX11_areKeptHoursSound 0 = .ok (.iconst 0, 1) := by decide +kernel
theorem dX11_areKeptHoursSound_1 : decode cX11_areKeptHoursSound 1 = .ok (.istore_n 1, 1) := by decide +kernel
theorem dX11_areKeptHoursSound_2 : decode cX11_areKeptHoursSound 2 = .ok (.iload_n 1, 1) := by decide +kernel
theorem dX11_areKeptHoursSound_3 : decode cX11_areKeptHoursSound 3 = .ok (.aload_n 0, 1) := by decide +kernel
theorem dX11_areKeptHoursSound_4 : decode cX11_areKeptHoursSound 4 = .ok (.getfield 28, 3) := by decide +kernel
theorem dX11_areKeptHoursSound_7 : decode cX11_areKeptHoursSound 7 = .ok (.getfield 333, 3) := by decide +kernel
theorem dX11_areKeptHoursSound_10 : decode cX11_areKeptHoursSound 10 = .ok (.getfield 337, 3) := by decide +kernel
theorem dX11_areKeptHoursSound_13 : decode cX11_areKeptHoursSound 13 = .ok (.if_icmp .ge 36, 3) := by decide +kernel
theorem dX11_areKeptHoursSound_16 : decode cX11_areKeptHoursSound 16 = .ok (.aload_n 0, 1) := by decide +kernel
theorem dX11_areKeptHoursSound_17 : decode cX11_areKeptHoursSound 17 = .ok (.aload_n 0, 1) := by decide +kernel
theorem dX11_areKeptHoursSound_18 : decode cX11_areKeptHoursSound 18 = .ok (.getfield 28, 3) := by decide +kernel
theorem dX11_areKeptHoursSound_21 : decode cX11_areKeptHoursSound 21 = .ok (.getfield 333, 3) := by decide +kernel
theorem dX11_areKeptHoursSound_24 : decode cX11_areKeptHoursSound 24 = .ok (.aload_n 0, 1) := by decide +kernel
theorem dX11_areKeptHoursSound_25 : decode cX11_areKeptHoursSound 25 = .ok (.getfield 28, 3) := by decide +kernel
theorem dX11_areKeptHoursSound_28 : decode cX11_areKeptHoursSound 28 = .ok (.getfield 333, 3) := by decide +kernel
theorem dX11_areKeptHoursSound_31 : decode cX11_areKeptHoursSound 31 = .ok (.iload_n 1, 1) := by decide +kernel
theorem dX11_areKeptHoursSound_32 : decode cX11_areKeptHoursSound 32 = .ok (.invokevirtual 558, 3) := by decide +kernel
theorem dX11_areKeptHoursSound_35 : decode cX11_areKeptHoursSound 35 = .ok (.invokevirtual 561, 3) := by decide +kernel
theorem dX11_areKeptHoursSound_38 : decode cX11_areKeptHoursSound 38 = .ok (.ifCond .ne 5, 3) := by decide +kernel
theorem dX11_areKeptHoursSound_43 : decode cX11_areKeptHoursSound 43 = .ok (.iinc 1 1, 3) := by decide +kernel
theorem dX11_areKeptHoursSound_46 : decode cX11_areKeptHoursSound 46 = .ok (.goto (-44), 3) := by decide +kernel
theorem dX11_areKeptHoursSound_49 : decode cX11_areKeptHoursSound 49 = .ok (.iconst 1, 1) := by decide +kernel
theorem dX11_areKeptHoursSound_50 : decode cX11_areKeptHoursSound 50 = .ok (.ireturn, 1) := by decide +kernel
theorem dX11_isKeptHourSound_0 : decode cX11_isKeptHourSound 0 = .ok (.aload_n 1, 1) := by decide +kernel
theorem dX11_isKeptHourSound_1 : decode cX11_isKeptHourSound 1 = .ok (.getfield 565, 3) := by decide +kernel
theorem dX11_isKeptHourSound_4 : decode cX11_isKeptHourSound 4 = .ok (.iload_n 2, 1) := by decide +kernel
theorem dX11_isKeptHourSound_5 : decode cX11_isKeptHourSound 5 = .ok (.iaload, 1) := by decide +kernel
theorem dX11_isKeptHourSound_6 : decode cX11_isKeptHourSound 6 = .ok (.istore_n 3, 1) := by decide +kernel
theorem dX11_isKeptHourSound_7 : decode cX11_isKeptHourSound 7 = .ok (.aload_n 1, 1) := by decide +kernel
theorem dX11_isKeptHourSound_8 : decode cX11_isKeptHourSound 8 = .ok (.getfield 568, 3) := by decide +kernel
theorem dX11_isKeptHourSound_11 : decode cX11_isKeptHourSound 11 = .ok (.iload_n 2, 1) := by decide +kernel
theorem dX11_isKeptHourSound_12 : decode cX11_isKeptHourSound 12 = .ok (.iaload, 1) := by decide +kernel
theorem dX11_isKeptHourSound_13 : decode cX11_isKeptHourSound 13 = .ok (.istore 4, 2) := by decide +kernel
theorem dX11_isKeptHourSound_15 : decode cX11_isKeptHourSound 15 = .ok (.aload_n 0, 1) := by decide +kernel
theorem dX11_isKeptHourSound_16 : decode cX11_isKeptHourSound 16 = .ok (.iload 4, 2) := by decide +kernel
theorem dX11_isKeptHourSound_18 : decode cX11_isKeptHourSound 18 = .ok (.invokevirtual 415, 3) := by decide +kernel
theorem dX11_isKeptHourSound_21 : decode cX11_isKeptHourSound 21 = .ok (.ifCond .eq 25, 3) := by decide +kernel
theorem dX11_isKeptHourSound_46 : decode cX11_isKeptHourSound 46 = .ok (.iconst 0, 1) := by decide +kernel
theorem dX11_isKeptHourSound_47 : decode cX11_isKeptHourSound 47 = .ok (.istore 5, 2) := by decide +kernel
theorem dX11_isKeptHourSound_49 : decode cX11_isKeptHourSound 49 = .ok (.iload_n 3, 1) := by decide +kernel
theorem dX11_isKeptHourSound_50 : decode cX11_isKeptHourSound 50 = .ok (.ifCond .lt 96, 3) := by decide +kernel
theorem dX11_isKeptHourSound_53 : decode cX11_isKeptHourSound 53 = .ok (.iload_n 3, 1) := by decide +kernel
theorem dX11_isKeptHourSound_54 : decode cX11_isKeptHourSound 54 = .ok (.aload_n 0, 1) := by decide +kernel
theorem dX11_isKeptHourSound_55 : decode cX11_isKeptHourSound 55 = .ok (.getfield 19, 3) := by decide +kernel
theorem dX11_isKeptHourSound_58 : decode cX11_isKeptHourSound 58 = .ok (.invokevirtual 44, 3) := by decide +kernel
theorem dX11_isKeptHourSound_61 : decode cX11_isKeptHourSound 61 = .ok (.if_icmp .ge 85, 3) := by decide +kernel
theorem dX11_isKeptHourSound_64 : decode cX11_isKeptHourSound 64 = .ok (.aload_n 1, 1) := by decide +kernel
theorem dX11_isKeptHourSound_65 : decode cX11_isKeptHourSound 65 = .ok (.getfield 571, 3) := by decide +kernel
theorem dX11_isKeptHourSound_68 : decode cX11_isKeptHourSound 68 = .ok (.iload_n 2, 1) := by decide +kernel
theorem dX11_isKeptHourSound_69 : decode cX11_isKeptHourSound 69 = .ok (.iaload, 1) := by decide +kernel
theorem dX11_isKeptHourSound_70 : decode cX11_isKeptHourSound 70 = .ok (.aload_n 0, 1) := by decide +kernel
theorem dX11_isKeptHourSound_71 : decode cX11_isKeptHourSound 71 = .ok (.getfield 63, 3) := by decide +kernel
theorem dX11_isKeptHourSound_74 : decode cX11_isKeptHourSound 74 = .ok (.if_icmp .ge 72, 3) := by decide +kernel
theorem dX11_isKeptHourSound_77 : decode cX11_isKeptHourSound 77 = .ok (.aload_n 1, 1) := by decide +kernel
theorem dX11_isKeptHourSound_78 : decode cX11_isKeptHourSound 78 = .ok (.getfield 574, 3) := by decide +kernel
theorem dX11_isKeptHourSound_81 : decode cX11_isKeptHourSound 81 = .ok (.iload_n 2, 1) := by decide +kernel
theorem dX11_isKeptHourSound_82 : decode cX11_isKeptHourSound 82 = .ok (.iaload, 1) := by decide +kernel
theorem dX11_isKeptHourSound_83 : decode cX11_isKeptHourSound 83 = .ok (.ifCond .lt 63, 3) := by decide +kernel
theorem dX11_isKeptHourSound_86 : decode cX11_isKeptHourSound 86 = .ok (.aload_n 1, 1) := by decide +kernel
theorem dX11_isKeptHourSound_87 : decode cX11_isKeptHourSound 87 = .ok (.getfield 574, 3) := by decide +kernel
theorem dX11_isKeptHourSound_90 : decode cX11_isKeptHourSound 90 = .ok (.iload_n 2, 1) := by decide +kernel
theorem dX11_isKeptHourSound_91 : decode cX11_isKeptHourSound 91 = .ok (.iaload, 1) := by decide +kernel
theorem dX11_isKeptHourSound_92 : decode cX11_isKeptHourSound 92 = .ok (.bipush 9, 2) := by decide +kernel
theorem dX11_isKeptHourSound_94 : decode cX11_isKeptHourSound 94 = .ok (.if_icmp .gt 52, 3) := by decide +kernel
theorem dX11_isKeptHourSound_97 : decode cX11_isKeptHourSound 97 = .ok (.aload_n 0, 1) := by decide +kernel
theorem dX11_isKeptHourSound_98 : decode cX11_isKeptHourSound 98 = .ok (.getfield 19, 3) := by decide +kernel
theorem dX11_isKeptHourSound_101 : decode cX11_isKeptHourSound 101 = .ok (.iload_n 3, 1) := by decide +kernel
theorem dX11_isKeptHourSound_102 : decode cX11_isKeptHourSound 102 = .ok (.invokevirtual 169, 3) := by decide +kernel
theorem dX11_isKeptHourSound_105 : decode cX11_isKeptHourSound 105 = .ok (.checkcast 102, 3) := by decide +kernel
theorem dX11_isKeptHourSound_108 : decode cX11_isKeptHourSound 108 = .ok (.aload_n 1, 1) := by decide +kernel
theorem dX11_isKeptHourSound_109 : decode cX11_isKeptHourSound 109 = .ok (.getfield 577, 3) := by decide +kernel
theorem dX11_isKeptHourSound_112 : decode cX11_isKeptHourSound 112 = .ok (.iload_n 2, 1) := by decide +kernel
theorem dX11_isKeptHourSound_113 : decode cX11_isKeptHourSound 113 = .ok (.iaload, 1) := by decide +kernel
theorem dX11_isKeptHourSound_114 : decode cX11_isKeptHourSound 114 = .ok (.invokevirtual 579, 3) := by decide +kernel
theorem dX11_isKeptHourSound_117 : decode cX11_isKeptHourSound 117 = .ok (.iconst 2, 1) := by decide +kernel
theorem dX11_isKeptHourSound_118 : decode cX11_isKeptHourSound 118 = .ok (.if_icmp .lt 28, 3) := by decide +kernel
theorem dX11_isKeptHourSound_121 : decode cX11_isKeptHourSound 121 = .ok (.iload 5, 2) := by decide +kernel
theorem dX11_isKeptHourSound_123 : decode cX11_isKeptHourSound 123 = .ok (.ifCond .ne 19, 3) := by decide +kernel
theorem dX11_isKeptHourSound_126 : decode cX11_isKeptHourSound 126 = .ok (.iload 4, 2) := by decide +kernel
theorem dX11_isKeptHourSound_128 : decode cX11_isKeptHourSound 128 = .ok (.invokestatic 418, 3) := by decide +kernel
theorem dX11_isKeptHourSound_131 : decode cX11_isKeptHourSound 131 = .ok (.ifCond .ne 11, 3) := by decide +kernel
theorem dX11_isKeptHourSound_134 : decode cX11_isKeptHourSound 134 = .ok (.iload 4, 2) := by decide +kernel
theorem dX11_isKeptHourSound_136 : decode cX11_isKeptHourSound 136 = .ok (.sipush 200, 3) := by decide +kernel
theorem dX11_isKeptHourSound_139 : decode cX11_isKeptHourSound 139 = .ok (.if_icmp .ne 7, 3) := by decide +kernel
theorem dX11_isKeptHourSound_142 : decode cX11_isKeptHourSound 142 = .ok (.iconst 1, 1) := by decide +kernel
theorem dX11_isKeptHourSound_143 : decode cX11_isKeptHourSound 143 = .ok (.goto 4, 3) := by decide +kernel
theorem dX11_isKeptHourSound_147 : decode cX11_isKeptHourSound 147 = .ok (.ireturn, 1) := by decide +kernel
theorem dX11_areCrewsSound_0 : decode cX11_areCrewsSound 0 = .ok (.iconst 0, 1) := by decide +kernel
theorem dX11_areCrewsSound_1 : decode cX11_areCrewsSound 1 = .ok (.istore_n 1, 1) := by decide +kernel
theorem dX11_areCrewsSound_2 : decode cX11_areCrewsSound 2 = .ok (.iconst 0, 1) := by decide +kernel
theorem dX11_areCrewsSound_3 : decode cX11_areCrewsSound 3 = .ok (.istore_n 2, 1) := by decide +kernel
theorem dX11_areCrewsSound_4 : decode cX11_areCrewsSound 4 = .ok (.iload_n 2, 1) := by decide +kernel
theorem dX11_areCrewsSound_5 : decode cX11_areCrewsSound 5 = .ok (.aload_n 0, 1) := by decide +kernel
theorem dX11_areCrewsSound_6 : decode cX11_areCrewsSound 6 = .ok (.getfield 19, 3) := by decide +kernel
theorem dX11_areCrewsSound_9 : decode cX11_areCrewsSound 9 = .ok (.invokevirtual 44, 3) := by decide +kernel
theorem dX11_areCrewsSound_12 : decode cX11_areCrewsSound 12 = .ok (.if_icmp .ge 17, 3) := by decide +kernel
theorem dX11_areCrewsSound_15 : decode cX11_areCrewsSound 15 = .ok (.iload_n 1, 1) := by decide +kernel
theorem dX11_areCrewsSound_16 : decode cX11_areCrewsSound 16 = .ok (.aload_n 0, 1) := by decide +kernel
theorem dX11_areCrewsSound_17 : decode cX11_areCrewsSound 17 = .ok (.iload_n 2, 1) := by decide +kernel
theorem dX11_areCrewsSound_18 : decode cX11_areCrewsSound 18 = .ok (.invokevirtual 188, 3) := by decide +kernel
theorem dX11_areCrewsSound_21 : decode cX11_areCrewsSound 21 = .ok (.iadd, 1) := by decide +kernel
theorem dX11_areCrewsSound_22 : decode cX11_areCrewsSound 22 = .ok (.istore_n 1, 1) := by decide +kernel
theorem dX11_areCrewsSound_23 : decode cX11_areCrewsSound 23 = .ok (.iinc 2 1, 3) := by decide +kernel
theorem dX11_areCrewsSound_26 : decode cX11_areCrewsSound 26 = .ok (.goto (-22), 3) := by decide +kernel
theorem dX11_areCrewsSound_29 : decode cX11_areCrewsSound 29 = .ok (.iload_n 1, 1) := by decide +kernel
theorem dX11_areCrewsSound_30 : decode cX11_areCrewsSound 30 = .ok (.aload_n 0, 1) := by decide +kernel
theorem dX11_areCrewsSound_31 : decode cX11_areCrewsSound 31 = .ok (.invokevirtual 387, 3) := by decide +kernel
theorem dX11_areCrewsSound_34 : decode cX11_areCrewsSound 34 = .ok (.if_icmp .ne 7, 3) := by decide +kernel
theorem dX11_areCrewsSound_37 : decode cX11_areCrewsSound 37 = .ok (.iconst 1, 1) := by decide +kernel
theorem dX11_areCrewsSound_38 : decode cX11_areCrewsSound 38 = .ok (.goto 4, 3) := by decide +kernel
theorem dX11_areCrewsSound_42 : decode cX11_areCrewsSound 42 = .ok (.ireturn, 1) := by decide +kernel
