theorem kw_704 : Cond.codeWith ⟨"GalleonWaveLaw", "isOnAir", "(LGalleonWave;I)I"⟩ method_30_code 3 (some .int) [(0, 13, 14, 33)] ∈ kw := kw_in (List.mem_append_right _ (tb6 _ (List.mem_of_getElem? (i := 73) (by decide +kernel)))) (by decide +kernel)
theorem kw_705 : Cond.methodLink "GalleonWaveLaw" 187 ⟨"GalleonWaveLaw", "isOnAir", "(LGalleonWave;I)I"⟩ ∈ kw := kw_in (List.mem_append_right _ (tb6 _ (List.mem_of_getElem? (i := 71) (by decide +kernel)))) (by decide +kernel)
theorem kw_706 : Cond.static ⟨"GalleonWaveLaw", "isOnAir", "(LGalleonWave;I)I"⟩ ∈ kw := kw_in (List.mem_append_right _ (tb6 _ (List.mem_of_getElem? (i := 72) (by decide +kernel)))) (by decide +kernel)
theorem kw_707 : Cond.codeWith ⟨"GalleonWaveLaw", "getFuel", "(LGalleonWave;I)I"⟩ method_13_code 3 (some .int) [(0, 5, 6, 33)] ∈ kw := kw_in (List.mem_append_right _ (tb5 _ (List.mem_of_getElem? (i := 101) (by decide +kernel)))) (by decide +kernel)
theorem kw_708 : Cond.methodLink "GalleonWaveLaw" 156 ⟨"GalleonWaveLaw", "getFuel", "(LGalleonWave;I)I"⟩ ∈ kw := kw_in (List.mem_append_right _ (tb5 _ (List.mem_of_getElem? (i := 99) (by decide +kernel)))) (by decide +kernel)
theorem kw_709 : Cond.static ⟨"GalleonWaveLaw", "getFuel", "(LGalleonWave;I)I"⟩ ∈ kw := kw_in (List.mem_append_right _ (tb5 _ (List.mem_of_getElem? (i := 100) (by decide +kernel)))) (by decide +kernel)
theorem kw_710 : Cond.codeWith ⟨"GalleonWaveLaw", "getFood", "(LGalleonWave;I)I"⟩ method_14_code 3 (some .int) [(0, 5, 6, 33)] ∈ kw := kw_in (List.mem_append_right _ (tb5 _ (List.mem_of_getElem? (i := 108) (by decide +kernel)))) (by decide +kernel)
theorem kw_711 : Cond.methodLink "GalleonWaveLaw" 159 ⟨"GalleonWaveLaw", "getFood", "(LGalleonWave;I)I"⟩ ∈ kw := kw_in (List.mem_append_right _ (tb5 _ (List.mem_of_getElem? (i := 106) (by decide +kernel)))) (by decide +kernel)
theorem kw_712 : Cond.static ⟨"GalleonWaveLaw", "getFood", "(LGalleonWave;I)I"⟩ ∈ kw := kw_in (List.mem_append_right _ (tb5 _ (List.mem_of_getElem? (i := 107) (by decide +kernel)))) (by decide +kernel)
theorem kw_713 : Cond.codeWith ⟨"GalleonWaveLaw", "getSalt", "(LGalleonWave;I)I"⟩ method_15_code 3 (some .int) [(0, 5, 6, 33)] ∈ kw := kw_in (List.mem_append_right _ (tb5 _ (List.mem_of_getElem? (i := 115) (by decide +kernel)))) (by decide +kernel)
theorem kw_714 : Cond.methodLink "GalleonWaveLaw" 189 ⟨"GalleonWaveLaw", "getSalt", "(LGalleonWave;I)I"⟩ ∈ kw := kw_in (List.mem_append_right _ (tb5 _ (List.mem_of_getElem? (i := 113) (by decide +kernel)))) (by decide +kernel)
theorem kw_715 : Cond.static ⟨"GalleonWaveLaw", "getSalt", "(LGalleonWave;I)I"⟩ ∈ kw := kw_in (List.mem_append_right _ (tb5 _ (List.mem_of_getElem? (i := 114) (by decide +kernel)))) (by decide +kernel)
theorem kw_716 : Cond.codeWith ⟨"GalleonWaveLaw", "getEarned", "(LGalleonWave;I)I"⟩ method_29_code 3 (some .int) [(0, 5, 6, 33)] ∈ kw := kw_in (List.mem_append_right _ (tb6 _ (List.mem_of_getElem? (i := 66) (by decide +kernel)))) (by decide +kernel)
theorem kw_717 : Cond.methodLink "GalleonWaveLaw" 191 ⟨"GalleonWaveLaw", "getEarned", "(LGalleonWave;I)I"⟩ ∈ kw := kw_in (List.mem_append_right _ (tb6 _ (List.mem_of_getElem? (i := 64) (by decide +kernel)))) (by decide +kernel)
theorem kw_718 : Cond.static ⟨"GalleonWaveLaw", "getEarned", "(LGalleonWave;I)I"⟩ ∈ kw := kw_in (List.mem_append_right _ (tb6 _ (List.mem_of_getElem? (i := 65) (by decide +kernel)))) (by decide +kernel)
theorem kw_719 : Cond.codeWith ⟨"GalleonWaveLaw", "getListeners", "(LGalleonWave;I)I"⟩ method_20_code 3 (some .int) [(0, 5, 6, 33)] ∈ kw := kw_in (List.mem_append_right _ (tb5 _ (List.mem_of_getElem? (i := 155) (by decide +kernel)))) (by decide +kernel)
theorem kw_720 : Cond.methodLink "GalleonWaveLaw" 193 ⟨"GalleonWaveLaw", "getListeners", "(LGalleonWave;I)I"⟩ ∈ kw := kw_in (List.mem_append_right _ (tb5 _ (List.mem_of_getElem? (i := 153) (by decide +kernel)))) (by decide +kernel)
theorem kw_721 : Cond.static ⟨"GalleonWaveLaw", "getListeners", "(LGalleonWave;I)I"⟩ ∈ kw := kw_in (List.mem_append_right _ (tb5 _ (List.mem_of_getElem? (i := 154) (by decide +kernel)))) (by decide +kernel)
theorem kw_722 : Cond.codeWith ⟨"GalleonWaveLaw", "isMutiny", "(LGalleonWave;I)I"⟩ method_31_code 3 (some .int) [(0, 13, 14, 33)] ∈ kw := kw_in (List.mem_append_right _ (tb6 _ (List.mem_of_getElem? (i := 80) (by decide +kernel)))) (by decide +kernel)
theorem kw_723 : Cond.methodLink "GalleonWaveLaw" 195 ⟨"GalleonWaveLaw", "isMutiny", "(LGalleonWave;I)I"⟩ ∈ kw := kw_in (List.mem_append_right _ (tb6 _ (List.mem_of_getElem? (i := 78) (by decide +kernel)))) (by decide +kernel)
theorem kw_724 : Cond.static ⟨"GalleonWaveLaw", "isMutiny", "(LGalleonWave;I)I"⟩ ∈ kw := kw_in (List.mem_append_right _ (tb6 _ (List.mem_of_getElem? (i := 79) (by decide +kernel)))) (by decide +kernel)
theorem kw_725 : Cond.codeWith ⟨"GalleonWaveLaw", "getPlace", "(LGalleonWave;IZ)I"⟩ method_9_code 4 (some .int) [(0, 6, 7, 33)] ∈ kw := kw_in (List.mem_append_right _ (tb5 _ (List.mem_of_getElem? (i := 21) (by decide +kernel)))) (by decide +kernel)
theorem kw_726 : Cond.methodLink "GalleonWaveLaw" 197 ⟨"GalleonWaveLaw", "getPlace", "(LGalleonWave;IZ)I"⟩ ∈ kw := kw_in (List.mem_append_right _ (tb5 _ (List.mem_of_getElem? (i := 19) (by decide +kernel)))) (by decide +kernel)
theorem kw_727 : Cond.static ⟨"GalleonWaveLaw", "getPlace", "(LGalleonWave;IZ)I"⟩ ∈ kw := kw_in (List.mem_append_right _ (tb5 _ (List.mem_of_getElem? (i := 20) (by decide +kernel)))) (by decide +kernel)
theorem kw_728 : Cond.codeWith ⟨"GalleonWaveLaw", "getSpeaker", "(LGalleonWave;I)I"⟩ method_26_code 3 (some .int) [(0, 5, 6, 33), (0, 5, 10, 101)] ∈ kw := kw_in (List.mem_append_right _ (tb6 _ (List.mem_of_getElem? (i := 14) (by decide +kernel)))) (by decide +kernel)
theorem kw_729 : Cond.methodLink "GalleonWaveLaw" 200 ⟨"GalleonWaveLaw", "getSpeaker", "(LGalleonWave;I)I"⟩ ∈ kw := kw_in (List.mem_append_right _ (tb6 _ (List.mem_of_getElem? (i := 12) (by decide +kernel)))) (by decide +kernel)
theorem kw_730 : Cond.static ⟨"GalleonWaveLaw", "getSpeaker", "(LGalleonWave;I)I"⟩ ∈ kw := kw_in (List.mem_append_right _ (tb6 _ (List.mem_of_getElem? (i := 13) (by decide +kernel)))) (by decide +kernel)
theorem kw_731 : Cond.codeWith ⟨"GalleonWaveLaw", "pass", "(LGalleonWave;I)I"⟩ method_7_code 3 (some .int) [(0, 5, 6, 15)] ∈ kw := kw_in (List.mem_append_right _ (tb3 _ (List.mem_of_getElem? (i := 180) (by decide +kernel)))) (by decide +kernel)
theorem kw_732 : Cond.methodLink "GalleonWaveLaw" 181 ⟨"GalleonWaveLaw", "pass", "(LGalleonWave;I)I"⟩ ∈ kw := kw_in (List.mem_append_right _ (tb3 _ (List.mem_of_getElem? (i := 178) (by decide +kernel)))) (by decide +kernel)
theorem kw_733 : Cond.static ⟨"GalleonWaveLaw", "pass", "(LGalleonWave;I)I"⟩ ∈ kw := kw_in (List.mem_append_right _ (tb3 _ (List.mem_of_getElem? (i := 179) (by decide +kernel)))) (by decide +kernel)
theorem kw_734 : Cond.codeWith ⟨"GalleonWaveLaw", "getHeard", "(LGalleonWave;I)I"⟩ method_19_code 3 (some .int) [(0, 5, 6, 33)] ∈ kw := kw_in (List.mem_append_right _ (tb5 _ (List.mem_of_getElem? (i := 148) (by decide +kernel)))) (by decide +kernel)
theorem kw_735 : Cond.methodLink "GalleonWaveLaw" 175 ⟨"GalleonWaveLaw", "getHeard", "(LGalleonWave;I)I"⟩ ∈ kw := kw_in (List.mem_append_right _ (tb5 _ (List.mem_of_getElem? (i := 146) (by decide +kernel)))) (by decide +kernel)
theorem kw_736 : Cond.static ⟨"GalleonWaveLaw", "getHeard", "(LGalleonWave;I)I"⟩ ∈ kw := kw_in (List.mem_append_right _ (tb5 _ (List.mem_of_getElem? (i := 147) (by decide +kernel)))) (by decide +kernel)
theorem kw_737 : Cond.codeWith ⟨"GalleonWaveLaw", "getSignal", "(LGalleonWave;II)I"⟩ method_18_code 4 (some .int) [(0, 6, 7, 33)] ∈ kw := kw_in (List.mem_append_right _ (tb5 _ (List.mem_of_getElem? (i := 137) (by decide +kernel)))) (by decide +kernel)
theorem kw_738 : Cond.methodLink "GalleonWaveLaw" 185 ⟨"GalleonWaveLaw", "getSignal", "(LGalleonWave;II)I"⟩ ∈ kw := kw_in (List.mem_append_right _ (tb5 _ (List.mem_of_getElem? (i := 135) (by decide +kernel)))) (by decide +kernel)
theorem kw_739 : Cond.static ⟨"GalleonWaveLaw", "getSignal", "(LGalleonWave;II)I"⟩ ∈ kw := kw_in (List.mem_append_right _ (tb5 _ (List.mem_of_getElem? (i := 136) (by decide +kernel)))) (by decide +kernel)
theorem kw_740 : Cond.code ⟨"GalleonWaveLaw", "in", "([III)I"⟩ method_32_code 3 (some .int) ∈ kw := kw_in (List.mem_append_right _ (tb6 _ (List.mem_of_getElem? (i := 87) (by decide +kernel)))) (by decide +kernel)
theorem kw_741 : Cond.methodLink "GalleonWaveLaw" 136 ⟨"GalleonWaveLaw", "in", "([III)I"⟩ ∈ kw := kw_in (List.mem_append_right _ (tb6 _ (List.mem_of_getElem? (i := 85) (by decide +kernel)))) (by decide +kernel)
theorem kw_742 : Cond.static ⟨"GalleonWaveLaw", "in", "([III)I"⟩ ∈ kw := kw_in (List.mem_append_right _ (tb6 _ (List.mem_of_getElem? (i := 86) (by decide +kernel)))) (by decide +kernel)
theorem kw_743 : Cond.code ⟨"java/lang/String", "charAt", "(I)C"⟩ prog_28_method_56_code 2 (some .char) ∈ kw := kw_in (List.mem_append_right _ (tb6 _ (List.mem_of_getElem? (i := 97) (by decide +kernel)))) (by decide +kernel)
theorem kw_744 : Cond.methodLink "GalleonWaveLaw" 167 ⟨"java/lang/String", "charAt", "(I)C"⟩ ∈ kw := kw_in (List.mem_append_right _ (tb6 _ (List.mem_of_getElem? (i := 94) (by decide +kernel)))) (by decide +kernel)
theorem kw_745 : Cond.instanceMethod ⟨"java/lang/String", "charAt", "(I)C"⟩ ∈ kw := kw_in (List.mem_append_right _ (tb6 _ (List.mem_of_getElem? (i := 95) (by decide +kernel)))) (by decide +kernel)
theorem kw_746 : Cond.selects "java/lang/String" ⟨"java/lang/String", "charAt", "(I)C"⟩ ⟨"java/lang/String", "charAt", "(I)C"⟩ ∈ kw := kw_in (List.mem_append_right _ (tb6 _ (List.mem_of_getElem? (i := 96) (by decide +kernel)))) (by decide +kernel)
theorem kw_747 : Cond.codeWith ⟨"GalleonWaveLaw", "setWind", "(LGalleonWave;IC)I"⟩ method_4_code 4 (some .int) [(0, 6, 7, 15)] ∈ kw := kw_in (List.mem_append_right _ (tb3 _ (List.mem_of_getElem? (i := 86) (by decide +kernel)))) (by decide +kernel)
theorem kw_748 : Cond.methodLink "GalleonWaveLaw" 179 ⟨"GalleonWaveLaw", "setWind", "(LGalleonWave;IC)I"⟩ ∈ kw := kw_in (List.mem_append_right _ (tb3 _ (List.mem_of_getElem? (i := 84) (by decide +kernel)))) (by decide +kernel)
theorem kw_749 : Cond.static ⟨"GalleonWaveLaw", "setWind", "(LGalleonWave;IC)I"⟩ ∈ kw := kw_in (List.mem_append_right _ (tb3 _ (List.mem_of_getElem? (i := 85) (by decide +kernel)))) (by decide +kernel)
theorem ydJ0_charAt_5068e : (yJ0_charAt_5068e.cls ≠ "java/lang/invoke/MethodHandle" ∧ yJ0_charAt_5068e.cls ≠ "java/lang/invoke/VarHandle") ∧ (parseMethodDescriptor yJ0_charAt_5068e.desc).map (fun d => d.parameters.length) = some 1 := by decide +kernel
theorem ydL_getEarned : (yL_getEarned.cls ≠ "java/lang/invoke/MethodHandle" ∧ yL_getEarned.cls ≠ "java/lang/invoke/VarHandle") ∧ (parseMethodDescriptor yL_getEarned.desc).map (fun d => d.parameters.length) = some 2 := by decide +kernel
theorem ydL_getFood : (yL_getFood.cls ≠ "java/lang/invoke/MethodHandle" ∧ yL_getFood.cls ≠ "java/lang/invoke/VarHandle") ∧ (parseMethodDescriptor yL_getFood.desc).map (fun d => d.parameters.length) = some 2 := by decide +kernel
theorem ydL_getFuel : (yL_getFuel.cls ≠ "java/lang/invoke/MethodHandle" ∧ yL_getFuel.cls ≠ "java/lang/invoke/VarHandle") ∧ (parseMethodDescriptor yL_getFuel.desc).map (fun d => d.parameters.length) = some 2 := by decide +kernel
theorem ydL_getHeard : (yL_getHeard.cls ≠ "java/lang/invoke/MethodHandle" ∧ yL_getHeard.cls ≠ "java/lang/invoke/VarHandle") ∧ (parseMethodDescriptor yL_getHeard.desc).map (fun d => d.parameters.length) = some 2 := by decide +kernel
theorem ydL_getListeners : (yL_getListeners.cls ≠ "java/lang/invoke/MethodHandle" ∧ yL_getListeners.cls ≠ "java/lang/invoke/VarHandle") ∧ (parseMethodDescriptor yL_getListeners.desc).map (fun d => d.parameters.length) = some 2 := by decide +kernel
theorem ydL_getPlace : (yL_getPlace.cls ≠ "java/lang/invoke/MethodHandle" ∧ yL_getPlace.cls ≠ "java/lang/invoke/VarHandle") ∧ (parseMethodDescriptor yL_getPlace.desc).map (fun d => d.parameters.length) = some 3 := by decide +kernel
theorem ydL_getSalt : (yL_getSalt.cls ≠ "java/lang/invoke/MethodHandle" ∧ yL_getSalt.cls ≠ "java/lang/invoke/VarHandle") ∧ (parseMethodDescriptor yL_getSalt.desc).map (fun d => d.parameters.length) = some 2 := by decide +kernel
theorem ydL_getSignal : (yL_getSignal.cls ≠ "java/lang/invoke/MethodHandle" ∧ yL_getSignal.cls ≠ "java/lang/invoke/VarHandle") ∧ (parseMethodDescriptor yL_getSignal.desc).map (fun d => d.parameters.length) = some 3 := by decide +kernel
theorem ydL_getSpeaker : (yL_getSpeaker.cls ≠ "java/lang/invoke/MethodHandle" ∧ yL_getSpeaker.cls ≠ "java/lang/invoke/VarHandle") ∧ (parseMethodDescriptor yL_getSpeaker.desc).map (fun d => d.parameters.length) = some 2 := by decide +kernel
theorem ydL_in : (yL_in.cls ≠ "java/lang/invoke/MethodHandle" ∧ yL_in.cls ≠ "java/lang/invoke/VarHandle") ∧ (parseMethodDescriptor yL_in.desc).map (fun d => d.parameters.length) = some 3 := by decide +kernel
theorem ydL_isMutiny : (yL_isMutiny.cls ≠ "java/lang/invoke/MethodHandle" ∧ yL_isMutiny.cls ≠ "java/lang/invoke/VarHandle") ∧ (parseMethodDescriptor yL_isMutiny.desc).map (fun d => d.parameters.length) = some 2 := by decide +kernel
theorem ydL_isOnAir : (yL_isOnAir.cls ≠ "java/lang/invoke/MethodHandle" ∧ yL_isOnAir.cls ≠ "java/lang/invoke/VarHandle") ∧ (parseMethodDescriptor yL_isOnAir.desc).map (fun d => d.parameters.length) = some 2 := by decide +kernel
theorem ydL_pass : (yL_pass.cls ≠ "java/lang/invoke/MethodHandle" ∧ yL_pass.cls ≠ "java/lang/invoke/VarHandle") ∧ (parseMethodDescriptor yL_pass.desc).map (fun d => d.parameters.length) = some 2 := by decide +kernel
theorem ydL_setWind : (yL_setWind.cls ≠ "java/lang/invoke/MethodHandle" ∧ yL_setWind.cls ≠ "java/lang/invoke/VarHandle") ∧ (parseMethodDescriptor yL_setWind.desc).map (fun d => d.parameters.length) = some 3 := by decide +kernel
theorem dL_law_774 : decode cL_law 774 = .ok (.iload 25, 2) := by decide +kernel
theorem dL_law_776 : decode cL_law 776 = .ok (.bipush 50, 2) := by decide +kernel
theorem dL_law_778 : decode cL_law 778 = .ok (.if_icmp .ge 1179, 3) := by decide +kernel
theorem dL_law_781 : decode cL_law 781 = .ok (.aload_n 0, 1) := by decide +kernel
theorem dL_law_782 : decode cL_law 782 = .ok (.bipush 40, 2) := by decide +kernel
theorem dL_law_784 : decode cL_law 784 = .ok (.iload 25, 2) := by decide +kernel
theorem dL_law_786 : decode cL_law 786 = .ok (.iconst 5, 1) := by decide +kernel
theorem dL_law_787 : decode cL_law 787 = .ok (.idiv, 1) := by decide +kernel
theorem dL_law_788 : decode cL_law 788 = .ok (.iadd, 1) := by decide +kernel
theorem dL_law_789 : decode cL_law 789 = .ok (.bipush 13, 2) := by decide +kernel
theorem dL_law_791 : decode cL_law 791 = .ok (.invokestatic 136, 3) := by decide +kernel
theorem dL_law_794 : decode cL_law 794 = .ok (.istore 26, 2) := by decide +kernel
theorem dL_law_796 : decode cL_law 796 = .ok (.aload_n 0, 1) := by decide +kernel
theorem dL_law_797 : decode cL_law 797 = .ok (.bipush 60, 2) := by decide +kernel
theorem dL_law_799 : decode cL_law 799 = .ok (.iload 25, 2) := by decide +kernel
theorem dL_law_801 : decode cL_law 801 = .ok (.iconst 5, 1) := by decide +kernel
theorem dL_law_802 : decode cL_law 802 = .ok (.idiv, 1) := by decide +kernel
theorem dL_law_803 : decode cL_law 803 = .ok (.iadd, 1) := by decide +kernel
theorem dL_law_804 : decode cL_law 804 = .ok (.iconst 4, 1) := by decide +kernel
theorem dL_law_805 : decode cL_law 805 = .ok (.invokestatic 136, 3) := by decide +kernel
theorem dL_law_808 : decode cL_law 808 = .ok (.istore 27, 2) := by decide +kernel
theorem dL_law_810 : decode cL_law 810 = .ok (.iload_n 2, 1) := by decide +kernel
theorem dL_law_811 : decode cL_law 811 = .ok (.aload_n 1, 1) := by decide +kernel
theorem dL_law_812 : decode cL_law 812 = .ok (.iload 26, 2) := by decide +kernel
theorem dL_law_814 : decode cL_law 814 = .ok (.ldc 183, 2) := by decide +kernel
theorem dL_law_816 : decode cL_law 816 = .ok (.iload 27, 2) := by decide +kernel
theorem dL_law_818 : decode cL_law 818 = .ok (.invokevirtual 167, 3) := by decide +kernel
theorem dL_law_821 : decode cL_law 821 = .ok (.invokestatic 179, 3) := by decide +kernel
theorem dL_law_824 : decode cL_law 824 = .ok (.ifCond .lt 7, 3) := by decide +kernel
theorem dL_law_827 : decode cL_law 827 = .ok (.iconst 1, 1) := by decide +kernel
theorem dL_law_828 : decode cL_law 828 = .ok (.goto 4, 3) := by decide +kernel
theorem dL_law_832 : decode cL_law 832 = .ok (.iand, 1) := by decide +kernel
theorem dL_law_833 : decode cL_law 833 = .ok (.istore_n 2, 1) := by decide +kernel
theorem dL_law_834 : decode cL_law 834 = .ok (.iconst 2, 1) := by decide +kernel
theorem dL_law_835 : decode cL_law 835 = .ok (.newarray .boolean, 2) := by decide +kernel
theorem dL_law_837 : decode cL_law 837 = .ok (.astore 28, 2) := by decide +kernel
theorem dL_law_839 : decode cL_law 839 = .ok (.iload 24, 2) := by decide +kernel
theorem dL_law_841 : decode cL_law 841 = .ok (.bipush 24, 2) := by decide +kernel
theorem dL_law_843 : decode cL_law 843 = .ok (.irem, 1) := by decide +kernel
theorem dL_law_844 : decode cL_law 844 = .ok (.istore 29, 2) := by decide +kernel
theorem dL_law_846 : decode cL_law 846 = .ok (.iload 29, 2) := by decide +kernel
theorem dL_law_848 : decode cL_law 848 = .ok (.bipush 6, 2) := by decide +kernel
theorem dL_law_850 : decode cL_law 850 = .ok (.if_icmp .lt 16, 3) := by decide +kernel
theorem dL_law_853 : decode cL_law 853 = .ok (.iload 29, 2) := by decide +kernel
theorem dL_law_855 : decode cL_law 855 = .ok (.bipush 18, 2) := by decide +kernel
theorem dL_law_857 : decode cL_law 857 = .ok (.if_icmp .ge 9, 3) := by decide +kernel
theorem dL_law_860 : decode cL_law 860 = .ok (.sipush 1000, 3) := by decide +kernel
theorem dL_law_863 : decode cL_law 863 = .ok (.goto 6, 3) := by decide +kernel
theorem dL_law_866 : decode cL_law 866 = .ok (.sipush 2000, 3) := by decide +kernel
theorem dL_law_869 : decode cL_law 869 = .ok (.istore 30, 2) := by decide +kernel
theorem dL_law_871 : decode cL_law 871 = .ok (.iconst 0, 1) := by decide +kernel
theorem dL_law_872 : decode cL_law 872 = .ok (.istore 31, 2) := by decide +kernel
theorem dL_law_874 : decode cL_law 874 = .ok (.iload 31, 2) := by decide +kernel
theorem dL_law_876 : decode cL_law 876 = .ok (.iconst 2, 1) := by decide +kernel
theorem dL_law_877 : decode cL_law 877 = .ok (.if_icmp .ge 123, 3) := by decide +kernel
theorem dL_law_880 : decode cL_law 880 = .ok (.aload 6, 2) := by decide +kernel
theorem dL_law_882 : decode cL_law 882 = .ok (.iload 31, 2) := by decide +kernel
theorem dL_law_884 : decode cL_law 884 = .ok (.iaload, 1) := by decide +kernel
theorem dL_law_885 : decode cL_law 885 = .ok (.aload 5, 2) := by decide +kernel
theorem dL_law_887 : decode cL_law 887 = .ok (.iload 31, 2) := by decide +kernel
theorem dL_law_889 : decode cL_law 889 = .ok (.iaload, 1) := by decide +kernel
theorem dL_law_890 : decode cL_law 890 = .ok (.if_icmp .lt 17, 3) := by decide +kernel
theorem dL_law_893 : decode cL_law 893 = .ok (.aload 22, 2) := by decide +kernel
theorem dL_law_895 : decode cL_law 895 = .ok (.iload 31, 2) := by decide +kernel
theorem dL_law_897 : decode cL_law 897 = .ok (.iaload, 1) := by decide +kernel
theorem dL_law_898 : decode cL_law 898 = .ok (.iload 16, 2) := by decide +kernel
theorem dL_law_900 : decode cL_law 900 = .ok (.if_icmp .ge 7, 3) := by decide +kernel
theorem dL_law_903 : decode cL_law 903 = .ok (.iconst 1, 1) := by decide +kernel
theorem dL_law_904 : decode cL_law 904 = .ok (.goto 4, 3) := by decide +kernel
theorem dL_law_907 : decode cL_law 907 = .ok (.iconst 0, 1) := by decide +kernel
theorem dL_law_908 : decode cL_law 908 = .ok (.istore 32, 2) := by decide +kernel
theorem dL_law_910 : decode cL_law 910 = .ok (.aload 6, 2) := by decide +kernel
theorem dL_law_912 : decode cL_law 912 = .ok (.iload 31, 2) := by decide +kernel
theorem dL_law_914 : decode cL_law 914 = .ok (.dup2, 1) := by decide +kernel
theorem dL_law_915 : decode cL_law 915 = .ok (.iaload, 1) := by decide +kernel
theorem dL_law_916 : decode cL_law 916 = .ok (.iload 32, 2) := by decide +kernel
theorem dL_law_918 : decode cL_law 918 = .ok (.ifCond .eq 11, 3) := by decide +kernel
theorem dL_law_921 : decode cL_law 921 = .ok (.aload 5, 2) := by decide +kernel
theorem dL_law_923 : decode cL_law 923 = .ok (.iload 31, 2) := by decide +kernel
theorem dL_law_925 : decode cL_law 925 = .ok (.iaload, 1) := by decide +kernel
theorem dL_law_926 : decode cL_law 926 = .ok (.goto 4, 3) := by decide +kernel
theorem dL_law_929 : decode cL_law 929 = .ok (.iconst 0, 1) := by decide +kernel
theorem dL_law_930 : decode cL_law 930 = .ok (.isub, 1) := by decide +kernel
theorem dL_law_931 : decode cL_law 931 = .ok (.iastore, 1) := by decide +kernel
theorem dL_law_932 : decode cL_law 932 = .ok (.aload 22, 2) := by decide +kernel
theorem dL_law_934 : decode cL_law 934 = .ok (.iload 31, 2) := by decide +kernel
theorem dL_law_936 : decode cL_law 936 = .ok (.dup2, 1) := by decide +kernel
theorem dL_law_937 : decode cL_law 937 = .ok (.iaload, 1) := by decide +kernel
theorem dL_law_938 : decode cL_law 938 = .ok (.iload 32, 2) := by decide +kernel
theorem dL_law_940 : decode cL_law 940 = .ok (.ifCond .eq 7, 3) := by decide +kernel
theorem dL_law_943 : decode cL_law 943 = .ok (.iconst 1, 1) := by decide +kernel
theorem dL_law_944 : decode cL_law 944 = .ok (.goto 4, 3) := by decide +kernel
theorem dL_law_947 : decode cL_law 947 = .ok (.iconst 0, 1) := by decide +kernel
theorem dL_law_948 : decode cL_law 948 = .ok (.iadd, 1) := by decide +kernel
theorem dL_law_949 : decode cL_law 949 = .ok (.iastore, 1) := by decide +kernel
theorem dL_law_950 : decode cL_law 950 = .ok (.aload 28, 2) := by decide +kernel
theorem dL_law_952 : decode cL_law 952 = .ok (.iload 31, 2) := by decide +kernel
theorem dL_law_954 : decode cL_law 954 = .ok (.iload 32, 2) := by decide +kernel
theorem dL_law_956 : decode cL_law 956 = .ok (.ifCond .eq 36, 3) := by decide +kernel
theorem dL_law_959 : decode cL_law 959 = .ok (.aload 8, 2) := by decide +kernel
theorem dL_law_961 : decode cL_law 961 = .ok (.iload 31, 2) := by decide +kernel
theorem dL_law_963 : decode cL_law 963 = .ok (.iaload, 1) := by decide +kernel
theorem dL_law_964 : decode cL_law 964 = .ok (.ifCond .le 28, 3) := by decide +kernel
theorem dL_law_967 : decode cL_law 967 = .ok (.aload 5, 2) := by decide +kernel
theorem dL_law_969 : decode cL_law 969 = .ok (.iload 31, 2) := by decide +kernel
theorem dL_law_971 : decode cL_law 971 = .ok (.iaload, 1) := by decide +kernel
theorem dL_law_972 : decode cL_law 972 = .ok (.aload 8, 2) := by decide +kernel
theorem dL_law_974 : decode cL_law 974 = .ok (.iload 31, 2) := by decide +kernel
theorem dL_law_976 : decode cL_law 976 = .ok (.iaload, 1) := by decide +kernel
theorem dL_law_977 : decode cL_law 977 = .ok (.if_icmp .le 15, 3) := by decide +kernel
theorem dL_law_980 : decode cL_law 980 = .ok (.aload 13, 2) := by decide +kernel
theorem dL_law_982 : decode cL_law 982 = .ok (.iload 31, 2) := by decide +kernel
theorem dL_law_984 : decode cL_law 984 = .ok (.baload, 1) := by decide +kernel
theorem dL_law_985 : decode cL_law 985 = .ok (.ifCond .ne 7, 3) := by decide +kernel
theorem dL_law_988 : decode cL_law 988 = .ok (.iconst 1, 1) := by decide +kernel
theorem dL_law_989 : decode cL_law 989 = .ok (.goto 4, 3) := by decide +kernel
theorem dL_law_992 : decode cL_law 992 = .ok (.iconst 0, 1) := by decide +kernel
theorem dL_law_993 : decode cL_law 993 = .ok (.bastore, 1) := by decide +kernel
theorem dL_law_994 : decode cL_law 994 = .ok (.iinc 31 1, 3) := by decide +kernel
theorem dL_law_997 : decode cL_law 997 = .ok (.goto (-123), 3) := by decide +kernel
theorem dL_law_1000 : decode cL_law 1000 = .ok (.iconst 3, 1) := by decide +kernel
theorem dL_law_1001 : decode cL_law 1001 = .ok (.newarray .int, 2) := by decide +kernel
theorem dL_law_1003 : decode cL_law 1003 = .ok (.astore 31, 2) := by decide +kernel
theorem dL_law_1005 : decode cL_law 1005 = .ok (.iconst 2, 1) := by decide +kernel
theorem dL_law_1006 : decode cL_law 1006 = .ok (.newarray .int, 2) := by decide +kernel
theorem dL_law_1008 : decode cL_law 1008 = .ok (.astore 32, 2) := by decide +kernel
theorem dL_law_1010 : decode cL_law 1010 = .ok (.iconst 0, 1) := by decide +kernel
theorem dL_law_1011 : decode cL_law 1011 = .ok (.istore 33, 2) := by decide +kernel
theorem dL_law_1013 : decode cL_law 1013 = .ok (.iload 33, 2) := by decide +kernel
theorem dL_law_1015 : decode cL_law 1015 = .ok (.iconst 3, 1) := by decide +kernel
theorem dL_law_1016 : decode cL_law 1016 = .ok (.if_icmp .ge 349, 3) := by decide +kernel
theorem dL_law_1019 : decode cL_law 1019 = .ok (.iconst 2, 1) := by decide +kernel
theorem dL_law_1020 : decode cL_law 1020 = .ok (.newarray .int, 2) := by decide +kernel
theorem dL_law_1022 : decode cL_law 1022 = .ok (.astore 34, 2) := by decide +kernel
theorem dL_law_1024 : decode cL_law 1024 = .ok (.iconst 0, 1) := by decide +kernel
theorem dL_law_1025 : decode cL_law 1025 = .ok (.istore 35, 2) := by decide +kernel
theorem dL_law_1027 : decode cL_law 1027 = .ok (.iload 35, 2) := by decide +kernel
theorem dL_law_1029 : decode cL_law 1029 = .ok (.iconst 2, 1) := by decide +kernel
theorem dL_law_1030 : decode cL_law 1030 = .ok (.if_icmp .ge 152, 3) := by decide +kernel
theorem dL_law_1033 : decode cL_law 1033 = .ok (.aload_n 3, 1) := by decide +kernel
theorem dL_law_1034 : decode cL_law 1034 = .ok (.iload 35, 2) := by decide +kernel
theorem dL_law_1036 : decode cL_law 1036 = .ok (.iaload, 1) := by decide +kernel
theorem dL_law_1037 : decode cL_law 1037 = .ok (.aload 17, 2) := by decide +kernel
theorem dL_law_1039 : decode cL_law 1039 = .ok (.iload 33, 2) := by decide +kernel
theorem dL_law_1041 : decode cL_law 1041 = .ok (.iaload, 1) := by decide +kernel
theorem dL_law_1042 : decode cL_law 1042 = .ok (.isub, 1) := by decide +kernel
theorem dL_law_1043 : decode cL_law 1043 = .ok (.istore 36, 2) := by decide +kernel
theorem dL_law_1045 : decode cL_law 1045 = .ok (.aload 4, 2) := by decide +kernel
theorem dL_law_1047 : decode cL_law 1047 = .ok (.iload 35, 2) := by decide +kernel
theorem dL_law_1049 : decode cL_law 1049 = .ok (.iaload, 1) := by decide +kernel
theorem dL_law_1050 : decode cL_law 1050 = .ok (.aload 18, 2) := by decide +kernel
theorem dL_law_1052 : decode cL_law 1052 = .ok (.iload 33, 2) := by decide +kernel
theorem dL_law_1054 : decode cL_law 1054 = .ok (.iaload, 1) := by decide +kernel
theorem dL_law_1055 : decode cL_law 1055 = .ok (.isub, 1) := by decide +kernel
theorem dL_law_1056 : decode cL_law 1056 = .ok (.istore 37, 2) := by decide +kernel
theorem dL_law_1058 : decode cL_law 1058 = .ok (.iload 36, 2) := by decide +kernel
theorem dL_law_1060 : decode cL_law 1060 = .ok (.ifCond .ge 9, 3) := by decide +kernel
theorem dL_law_1063 : decode cL_law 1063 = .ok (.iload 36, 2) := by decide +kernel
theorem dL_law_1065 : decode cL_law 1065 = .ok (.ineg, 1) := by decide +kernel
theorem dL_law_1066 : decode cL_law 1066 = .ok (.goto 5, 3) := by decide +kernel
theorem dL_law_1069 : decode cL_law 1069 = .ok (.iload 36, 2) := by decide +kernel
theorem dL_law_1071 : decode cL_law 1071 = .ok (.istore 36, 2) := by decide +kernel
theorem dL_law_1073 : decode cL_law 1073 = .ok (.iload 37, 2) := by decide +kernel
theorem dL_law_1075 : decode cL_law 1075 = .ok (.ifCond .ge 9, 3) := by decide +kernel
theorem dL_law_1078 : decode cL_law 1078 = .ok (.iload 37, 2) := by decide +kernel
theorem dL_law_1080 : decode cL_law 1080 = .ok (.ineg, 1) := by decide +kernel
theorem dL_law_1081 : decode cL_law 1081 = .ok (.goto 5, 3) := by decide +kernel
theorem dL_law_1084 : decode cL_law 1084 = .ok (.iload 37, 2) := by decide +kernel
theorem dL_law_1086 : decode cL_law 1086 = .ok (.istore 37, 2) := by decide +kernel
theorem dL_law_1088 : decode cL_law 1088 = .ok (.iload 36, 2) := by decide +kernel
theorem dL_law_1090 : decode cL_law 1090 = .ok (.iload 37, 2) := by decide +kernel
theorem dL_law_1092 : decode cL_law 1092 = .ok (.if_icmp .le 8, 3) := by decide +kernel
theorem dL_law_1095 : decode cL_law 1095 = .ok (.iload 36, 2) := by decide +kernel
theorem dL_law_1097 : decode cL_law 1097 = .ok (.goto 5, 3) := by decide +kernel
theorem dL_law_1100 : decode cL_law 1100 = .ok (.iload 37, 2) := by decide +kernel
theorem dL_law_1102 : decode cL_law 1102 = .ok (.istore 38, 2) := by decide +kernel
theorem dL_law_1104 : decode cL_law 1104 = .ok (.aload 8, 2) := by decide +kernel
theorem dL_law_1106 : decode cL_law 1106 = .ok (.iload 35, 2) := by decide +kernel
theorem dL_law_1108 : decode cL_law 1108 = .ok (.iaload, 1) := by decide +kernel
theorem dL_law_1109 : decode cL_law 1109 = .ok (.bipush 10, 2) := by decide +kernel
theorem dL_law_1111 : decode cL_law 1111 = .ok (.aload 23, 2) := by decide +kernel
theorem dL_law_1113 : decode cL_law 1113 = .ok (.iload 35, 2) := by decide +kernel
theorem dL_law_1115 : decode cL_law 1115 = .ok (.iaload, 1) := by decide +kernel
theorem dL_law_1116 : decode cL_law 1116 = .ok (.isub, 1) := by decide +kernel
theorem dL_law_1117 : decode cL_law 1117 = .ok (.imul, 1) := by decide +kernel
theorem dL_law_1118 : decode cL_law 1118 = .ok (.bipush 10, 2) := by decide +kernel
theorem dL_law_1120 : decode cL_law 1120 = .ok (.idiv, 1) := by decide +kernel
theorem dL_law_1121 : decode cL_law 1121 = .ok (.istore 39, 2) := by decide +kernel
theorem dL_law_1123 : decode cL_law 1123 = .ok (.aload 34, 2) := by decide +kernel
theorem dL_law_1125 : decode cL_law 1125 = .ok (.iload 35, 2) := by decide +kernel
theorem dL_law_1127 : decode cL_law 1127 = .ok (.iload 30, 2) := by decide +kernel
theorem dL_law_1129 : decode cL_law 1129 = .ok (.iload 39, 2) := by decide +kernel
theorem dL_law_1131 : decode cL_law 1131 = .ok (.iconst 1, 1) := by decide +kernel
theorem dL_law_1132 : decode cL_law 1132 = .ok (.if_icmp .ge 7, 3) := by decide +kernel
theorem dL_law_1135 : decode cL_law 1135 = .ok (.iconst 1, 1) := by decide +kernel
theorem dL_law_1136 : decode cL_law 1136 = .ok (.goto 5, 3) := by decide +kernel
theorem dL_law_1139 : decode cL_law 1139 = .ok (.iload 39, 2) := by decide +kernel
theorem dL_law_1141 : decode cL_law 1141 = .ok (.imul, 1) := by decide +kernel
theorem dL_law_1142 : decode cL_law 1142 = .ok (.iload 38, 2) := by decide +kernel
theorem dL_law_1144 : decode cL_law 1144 = .ok (.iload 38, 2) := by decide +kernel
theorem dL_law_1146 : decode cL_law 1146 = .ok (.imul, 1) := by decide +kernel
theorem dL_law_1147 : decode cL_law 1147 = .ok (.bipush 10, 2) := by decide +kernel
theorem dL_law_1149 : decode cL_law 1149 = .ok (.iadd, 1) := by decide +kernel
theorem dL_law_1150 : decode cL_law 1150 = .ok (.idiv, 1) := by decide +kernel
theorem dL_law_1151 : decode cL_law 1151 = .ok (.iastore, 1) := by decide +kernel
theorem dL_law_1152 : decode cL_law 1152 = .ok (.iload_n 2, 1) := by decide +kernel
theorem dL_law_1153 : decode cL_law 1153 = .ok (.aload_n 1, 1) := by decide +kernel
theorem dL_law_1154 : decode cL_law 1154 = .ok (.iload 35, 2) := by decide +kernel
theorem dL_law_1156 : decode cL_law 1156 = .ok (.iload 33, 2) := by decide +kernel
theorem dL_law_1158 : decode cL_law 1158 = .ok (.invokestatic 185, 3) := by decide +kernel
theorem dL_law_1161 : decode cL_law 1161 = .ok (.aload 34, 2) := by decide +kernel
theorem dL_law_1163 : decode cL_law 1163 = .ok (.iload 35, 2) := by decide +kernel
theorem dL_law_1165 : decode cL_law 1165 = .ok (.iaload, 1) := by decide +kernel
theorem dL_law_1166 : decode cL_law 1166 = .ok (.if_icmp .ne 7, 3) := by decide +kernel
theorem dL_law_1169 : decode cL_law 1169 = .ok (.iconst 1, 1) := by decide +kernel
theorem dL_law_1170 : decode cL_law 1170 = .ok (.goto 4, 3) := by decide +kernel
theorem dL_law_1174 : decode cL_law 1174 = .ok (.iand, 1) := by decide +kernel
theorem dL_law_1175 : decode cL_law 1175 = .ok (.istore_n 2, 1) := by decide +kernel
theorem dL_law_1176 : decode cL_law 1176 = .ok (.iinc 35 1, 3) := by decide +kernel
theorem dL_law_1179 : decode cL_law 1179 = .ok (.goto (-152), 3) := by decide +kernel
theorem dL_law_1182 : decode cL_law 1182 = .ok (.aload 28, 2) := by decide +kernel
theorem dL_law_1184 : decode cL_law 1184 = .ok (.iconst 0, 1) := by decide +kernel
theorem dL_law_1185 : decode cL_law 1185 = .ok (.baload, 1) := by decide +kernel
theorem dL_law_1186 : decode cL_law 1186 = .ok (.ifCond .eq 16, 3) := by decide +kernel
theorem dL_law_1189 : decode cL_law 1189 = .ok (.aload 34, 2) := by decide +kernel
theorem dL_law_1191 : decode cL_law 1191 = .ok (.iconst 0, 1) := by decide +kernel
theorem dL_law_1192 : decode cL_law 1192 = .ok (.iaload, 1) := by decide +kernel
theorem dL_law_1193 : decode cL_law 1193 = .ok (.bipush 20, 2) := by decide +kernel
theorem dL_law_1195 : decode cL_law 1195 = .ok (.if_icmp .lt 7, 3) := by decide +kernel
theorem dL_law_1198 : decode cL_law 1198 = .ok (.iconst 1, 1) := by decide +kernel
theorem dL_law_1199 : decode cL_law 1199 = .ok (.goto 4, 3) := by decide +kernel
theorem dL_law_1202 : decode cL_law 1202 = .ok (.iconst 0, 1) := by decide +kernel
theorem dL_law_1203 : decode cL_law 1203 = .ok (.istore 35, 2) := by decide +kernel
theorem dL_law_1205 : decode cL_law 1205 = .ok (.aload 28, 2) := by decide +kernel
theorem dL_law_1207 : decode cL_law 1207 = .ok (.iconst 1, 1) := by decide +kernel
theorem dL_law_1208 : decode cL_law 1208 = .ok (.baload, 1) := by decide +kernel
theorem dL_law_1209 : decode cL_law 1209 = .ok (.ifCond .eq 16, 3) := by decide +kernel
theorem dL_law_1212 : decode cL_law 1212 = .ok (.aload 34, 2) := by decide +kernel
theorem dL_law_1214 : decode cL_law 1214 = .ok (.iconst 1, 1) := by decide +kernel
theorem dL_law_1215 : decode cL_law 1215 = .ok (.iaload, 1) := by decide +kernel
theorem dL_law_1216 : decode cL_law 1216 = .ok (.bipush 20, 2) := by decide +kernel
theorem dL_law_1218 : decode cL_law 1218 = .ok (.if_icmp .lt 7, 3) := by decide +kernel
theorem dL_law_1221 : decode cL_law 1221 = .ok (.iconst 1, 1) := by decide +kernel
theorem dL_law_1222 : decode cL_law 1222 = .ok (.goto 4, 3) := by decide +kernel
theorem dL_law_1225 : decode cL_law 1225 = .ok (.iconst 0, 1) := by decide +kernel
theorem dL_law_1226 : decode cL_law 1226 = .ok (.istore 36, 2) := by decide +kernel
theorem dL_law_1228 : decode cL_law 1228 = .ok (.iload 14, 2) := by decide +kernel
theorem dL_law_1230 : decode cL_law 1230 = .ok (.iload 15, 2) := by decide +kernel
theorem dL_law_1232 : decode cL_law 1232 = .ok (.if_icmp .ne 63, 3) := by decide +kernel
theorem dL_law_1235 : decode cL_law 1235 = .ok (.aload 28, 2) := by decide +kernel
theorem dL_law_1237 : decode cL_law 1237 = .ok (.iconst 0, 1) := by decide +kernel
theorem dL_law_1238 : decode cL_law 1238 = .ok (.baload, 1) := by decide +kernel
theorem dL_law_1239 : decode cL_law 1239 = .ok (.ifCond .eq 56, 3) := by decide +kernel
theorem dL_law_1242 : decode cL_law 1242 = .ok (.aload 28, 2) := by decide +kernel
theorem dL_law_1244 : decode cL_law 1244 = .ok (.iconst 1, 1) := by decide +kernel
theorem dL_law_1245 : decode cL_law 1245 = .ok (.baload, 1) := by decide +kernel
theorem dL_law_1246 : decode cL_law 1246 = .ok (.ifCond .eq 49, 3) := by decide +kernel
theorem dL_law_1249 : decode cL_law 1249 = .ok (.iload 35, 2) := by decide +kernel
theorem dL_law_1251 : decode cL_law 1251 = .ok (.aload 34, 2) := by decide +kernel
theorem dL_law_1253 : decode cL_law 1253 = .ok (.iconst 0, 1) := by decide +kernel
theorem dL_law_1254 : decode cL_law 1254 = .ok (.iaload, 1) := by decide +kernel
theorem dL_law_1255 : decode cL_law 1255 = .ok (.iconst 2, 1) := by decide +kernel
theorem dL_law_1256 : decode cL_law 1256 = .ok (.aload 34, 2) := by decide +kernel
theorem dL_law_1258 : decode cL_law 1258 = .ok (.iconst 1, 1) := by decide +kernel
theorem dL_law_1259 : decode cL_law 1259 = .ok (.iaload, 1) := by decide +kernel
theorem dL_law_1260 : decode cL_law 1260 = .ok (.imul, 1) := by decide +kernel
theorem dL_law_1261 : decode cL_law 1261 = .ok (.if_icmp .lt 7, 3) := by decide +kernel
theorem dL_law_1264 : decode cL_law 1264 = .ok (.iconst 1, 1) := by decide +kernel
theorem dL_law_1265 : decode cL_law 1265 = .ok (.goto 4, 3) := by decide +kernel
theorem dL_law_1268 : decode cL_law 1268 = .ok (.iconst 0, 1) := by decide +kernel
theorem dL_law_1269 : decode cL_law 1269 = .ok (.iand, 1) := by decide +kernel
theorem dL_law_1270 : decode cL_law 1270 = .ok (.istore 35, 2) := by decide +kernel
theorem dL_law_1272 : decode cL_law 1272 = .ok (.iload 36, 2) := by decide +kernel
theorem dL_law_1274 : decode cL_law 1274 = .ok (.aload 34, 2) := by decide +kernel
theorem dL_law_1276 : decode cL_law 1276 = .ok (.iconst 1, 1) := by decide +kernel
theorem dL_law_1277 : decode cL_law 1277 = .ok (.iaload, 1) := by decide +kernel
theorem dL_law_1278 : decode cL_law 1278 = .ok (.iconst 2, 1) := by decide +kernel
theorem dL_law_1279 : decode cL_law 1279 = .ok (.aload 34, 2) := by decide +kernel
theorem dL_law_1281 : decode cL_law 1281 = .ok (.iconst 0, 1) := by decide +kernel
theorem dL_law_1282 : decode cL_law 1282 = .ok (.iaload, 1) := by decide +kernel
theorem dL_law_1283 : decode cL_law 1283 = .ok (.imul, 1) := by decide +kernel
theorem dL_law_1284 : decode cL_law 1284 = .ok (.if_icmp .lt 7, 3) := by decide +kernel
theorem dL_law_1287 : decode cL_law 1287 = .ok (.iconst 1, 1) := by decide +kernel
theorem dL_law_1288 : decode cL_law 1288 = .ok (.goto 4, 3) := by decide +kernel
theorem dL_law_1291 : decode cL_law 1291 = .ok (.iconst 0, 1) := by decide +kernel
theorem dL_law_1292 : decode cL_law 1292 = .ok (.iand, 1) := by decide +kernel
theorem dL_law_1293 : decode cL_law 1293 = .ok (.istore 36, 2) := by decide +kernel
theorem dL_law_1295 : decode cL_law 1295 = .ok (.aload 31, 2) := by decide +kernel
theorem dL_law_1297 : decode cL_law 1297 = .ok (.iload 33, 2) := by decide +kernel
theorem dL_law_1299 : decode cL_law 1299 = .ok (.iload 35, 2) := by decide +kernel
theorem dL_law_1301 : decode cL_law 1301 = .ok (.ifCond .eq 23, 3) := by decide +kernel
theorem dL_law_1304 : decode cL_law 1304 = .ok (.iload 36, 2) := by decide +kernel
theorem dL_law_1306 : decode cL_law 1306 = .ok (.ifCond .eq 14, 3) := by decide +kernel
theorem dL_law_1309 : decode cL_law 1309 = .ok (.aload 34, 2) := by decide +kernel
theorem dL_law_1311 : decode cL_law 1311 = .ok (.iconst 0, 1) := by decide +kernel
theorem dL_law_1312 : decode cL_law 1312 = .ok (.iaload, 1) := by decide +kernel
theorem dL_law_1313 : decode cL_law 1313 = .ok (.aload 34, 2) := by decide +kernel
theorem dL_law_1315 : decode cL_law 1315 = .ok (.iconst 1, 1) := by decide +kernel
theorem dL_law_1316 : decode cL_law 1316 = .ok (.iaload, 1) := by decide +kernel
theorem dL_law_1317 : decode cL_law 1317 = .ok (.if_icmp .lt 7, 3) := by decide +kernel
theorem dL_law_1320 : decode cL_law 1320 = .ok (.iconst 0, 1) := by decide +kernel
theorem dL_law_1321 : decode cL_law 1321 = .ok (.goto 13, 3) := by decide +kernel
theorem dL_law_1324 : decode cL_law 1324 = .ok (.iload 36, 2) := by decide +kernel
theorem dL_law_1326 : decode cL_law 1326 = .ok (.ifCond .eq 7, 3) := by decide +kernel
theorem dL_law_1329 : decode cL_law 1329 = .ok (.iconst 1, 1) := by decide +kernel
theorem dL_law_1330 : decode cL_law 1330 = .ok (.goto 4, 3) := by decide +kernel
theorem dL_law_1333 : decode cL_law 1333 = .ok (.iconst (-1), 1) := by decide +kernel
theorem dL_law_1334 : decode cL_law 1334 = .ok (.iastore, 1) := by decide +kernel
theorem dL_law_1335 : decode cL_law 1335 = .ok (.aload 31, 2) := by decide +kernel
theorem dL_law_1337 : decode cL_law 1337 = .ok (.iload 33, 2) := by decide +kernel
theorem dL_law_1339 : decode cL_law 1339 = .ok (.iaload, 1) := by decide +kernel
theorem dL_law_1340 : decode cL_law 1340 = .ok (.ifCond .lt 19, 3) := by decide +kernel
theorem dL_law_1343 : decode cL_law 1343 = .ok (.aload 32, 2) := by decide +kernel
theorem dL_law_1345 : decode cL_law 1345 = .ok (.aload 31, 2) := by decide +kernel
theorem dL_law_1347 : decode cL_law 1347 = .ok (.iload 33, 2) := by decide +kernel
theorem dL_law_1349 : decode cL_law 1349 = .ok (.iaload, 1) := by decide +kernel
theorem dL_law_1350 : decode cL_law 1350 = .ok (.dup2, 1) := by decide +kernel
theorem dL_law_1351 : decode cL_law 1351 = .ok (.iaload, 1) := by decide +kernel
theorem dL_law_1352 : decode cL_law 1352 = .ok (.aload 19, 2) := by decide +kernel
theorem dL_law_1354 : decode cL_law 1354 = .ok (.iload 33, 2) := by decide +kernel
theorem dL_law_1356 : decode cL_law 1356 = .ok (.iaload, 1) := by decide +kernel
theorem dL_law_1357 : decode cL_law 1357 = .ok (.iadd, 1) := by decide +kernel
theorem dL_law_1358 : decode cL_law 1358 = .ok (.iastore, 1) := by decide +kernel
theorem dL_law_1359 : decode cL_law 1359 = .ok (.iinc 33 1, 3) := by decide +kernel
theorem dL_law_1362 : decode cL_law 1362 = .ok (.goto (-349), 3) := by decide +kernel
theorem dL_law_1365 : decode cL_law 1365 = .ok (.iload_n 2, 1) := by decide +kernel
theorem dL_law_1366 : decode cL_law 1366 = .ok (.aload_n 1, 1) := by decide +kernel
theorem dL_law_1367 : decode cL_law 1367 = .ok (.iconst 1, 1) := by decide +kernel
theorem dL_law_1368 : decode cL_law 1368 = .ok (.invokestatic 181, 3) := by decide +kernel
theorem dL_law_1371 : decode cL_law 1371 = .ok (.iload 24, 2) := by decide +kernel
theorem dL_law_1373 : decode cL_law 1373 = .ok (.iconst 1, 1) := by decide +kernel
theorem dL_law_1374 : decode cL_law 1374 = .ok (.iadd, 1) := by decide +kernel
theorem dL_law_1375 : decode cL_law 1375 = .ok (.if_icmp .ne 7, 3) := by decide +kernel
theorem dL_law_1378 : decode cL_law 1378 = .ok (.iconst 1, 1) := by decide +kernel
theorem dL_law_1379 : decode cL_law 1379 = .ok (.goto 4, 3) := by decide +kernel
theorem dL_law_1383 : decode cL_law 1383 = .ok (.iand, 1) := by decide +kernel
theorem dL_law_1384 : decode cL_law 1384 = .ok (.istore_n 2, 1) := by decide +kernel
theorem dL_law_1385 : decode cL_law 1385 = .ok (.iconst 0, 1) := by decide +kernel
theorem dL_law_1386 : decode cL_law 1386 = .ok (.istore 33, 2) := by decide +kernel
theorem dL_law_1388 : decode cL_law 1388 = .ok (.iload 33, 2) := by decide +kernel
theorem dL_law_1390 : decode cL_law 1390 = .ok (.iconst 3, 1) := by decide +kernel
theorem dL_law_1391 : decode cL_law 1391 = .ok (.if_icmp .ge 31, 3) := by decide +kernel
theorem dL_law_1394 : decode cL_law 1394 = .ok (.iload_n 2, 1) := by decide +kernel
theorem dL_law_1395 : decode cL_law 1395 = .ok (.aload_n 1, 1) := by decide +kernel
theorem dL_law_1396 : decode cL_law 1396 = .ok (.iload 33, 2) := by decide +kernel
theorem dL_law_1398 : decode cL_law 1398 = .ok (.invokestatic 175, 3) := by decide +kernel
theorem dL_law_1401 : decode cL_law 1401 = .ok (.aload 31, 2) := by decide +kernel
theorem dL_law_1403 : decode cL_law 1403 = .ok (.iload 33, 2) := by decide +kernel
theorem dL_law_1405 : decode cL_law 1405 = .ok (.iaload, 1) := by decide +kernel
theorem dL_law_1406 : decode cL_law 1406 = .ok (.if_icmp .ne 7, 3) := by decide +kernel
theorem dL_law_1409 : decode cL_law 1409 = .ok (.iconst 1, 1) := by decide +kernel
theorem dL_law_1410 : decode cL_law 1410 = .ok (.goto 4, 3) := by decide +kernel
theorem dL_law_1414 : decode cL_law 1414 = .ok (.iand, 1) := by decide +kernel
theorem dL_law_1415 : decode cL_law 1415 = .ok (.istore_n 2, 1) := by decide +kernel
theorem dL_law_1416 : decode cL_law 1416 = .ok (.iinc 33 1, 3) := by decide +kernel
theorem dL_law_1419 : decode cL_law 1419 = .ok (.goto (-31), 3) := by decide +kernel
theorem dL_law_1422 : decode cL_law 1422 = .ok (.iconst 0, 1) := by decide +kernel
theorem dL_law_1423 : decode cL_law 1423 = .ok (.istore 33, 2) := by decide +kernel
theorem dL_law_1425 : decode cL_law 1425 = .ok (.iload 33, 2) := by decide +kernel
theorem dL_law_1427 : decode cL_law 1427 = .ok (.iconst 2, 1) := by decide +kernel
theorem dL_law_1428 : decode cL_law 1428 = .ok (.if_icmp .ge 520, 3) := by decide +kernel
theorem dL_law_1431 : decode cL_law 1431 = .ok (.aload 28, 2) := by decide +kernel
theorem dL_law_1433 : decode cL_law 1433 = .ok (.iload 33, 2) := by decide +kernel
theorem dL_law_1435 : decode cL_law 1435 = .ok (.baload, 1) := by decide +kernel
theorem dL_law_1436 : decode cL_law 1436 = .ok (.ifCond .eq 15, 3) := by decide +kernel
theorem dL_law_1439 : decode cL_law 1439 = .ok (.aload 11, 2) := by decide +kernel
theorem dL_law_1441 : decode cL_law 1441 = .ok (.iload 33, 2) := by decide +kernel
theorem dL_law_1443 : decode cL_law 1443 = .ok (.iaload, 1) := by decide +kernel
theorem dL_law_1444 : decode cL_law 1444 = .ok (.ifCond .le 7, 3) := by decide +kernel
theorem dL_law_1447 : decode cL_law 1447 = .ok (.iconst 1, 1) := by decide +kernel
theorem dL_law_1448 : decode cL_law 1448 = .ok (.goto 4, 3) := by decide +kernel
theorem dL_law_1451 : decode cL_law 1451 = .ok (.iconst 0, 1) := by decide +kernel
theorem dL_law_1452 : decode cL_law 1452 = .ok (.istore 34, 2) := by decide +kernel
theorem dL_law_1454 : decode cL_law 1454 = .ok (.aload 11, 2) := by decide +kernel
theorem dL_law_1456 : decode cL_law 1456 = .ok (.iload 33, 2) := by decide +kernel
theorem dL_law_1458 : decode cL_law 1458 = .ok (.dup2, 1) := by decide +kernel
theorem dL_law_1459 : decode cL_law 1459 = .ok (.iaload, 1) := by decide +kernel
theorem dL_law_1460 : decode cL_law 1460 = .ok (.iload 34, 2) := by decide +kernel
theorem dL_law_1462 : decode cL_law 1462 = .ok (.ifCond .eq 7, 3) := by decide +kernel
theorem dL_law_1465 : decode cL_law 1465 = .ok (.iconst 1, 1) := by decide +kernel
theorem dL_law_1466 : decode cL_law 1466 = .ok (.goto 4, 3) := by decide +kernel
theorem dL_law_1469 : decode cL_law 1469 = .ok (.iconst 0, 1) := by decide +kernel
theorem dL_law_1470 : decode cL_law 1470 = .ok (.isub, 1) := by decide +kernel
theorem dL_law_1471 : decode cL_law 1471 = .ok (.iastore, 1) := by decide +kernel
theorem dL_law_1472 : decode cL_law 1472 = .ok (.aload 10, 2) := by decide +kernel
theorem dL_law_1474 : decode cL_law 1474 = .ok (.iload 33, 2) := by decide +kernel
theorem dL_law_1476 : decode cL_law 1476 = .ok (.dup2, 1) := by decide +kernel
theorem dL_law_1477 : decode cL_law 1477 = .ok (.iaload, 1) := by decide +kernel
theorem dL_law_1478 : decode cL_law 1478 = .ok (.iload 34, 2) := by decide +kernel
theorem dL_law_1480 : decode cL_law 1480 = .ok (.ifCond .eq 14, 3) := by decide +kernel
theorem dL_law_1483 : decode cL_law 1483 = .ok (.aload 32, 2) := by decide +kernel
theorem dL_law_1485 : decode cL_law 1485 = .ok (.iload 33, 2) := by decide +kernel
theorem dL_law_1487 : decode cL_law 1487 = .ok (.iaload, 1) := by decide +kernel
theorem dL_law_1488 : decode cL_law 1488 = .ok (.bipush 10, 2) := by decide +kernel
theorem dL_law_1490 : decode cL_law 1490 = .ok (.idiv, 1) := by decide +kernel
theorem dL_law_1491 : decode cL_law 1491 = .ok (.goto 4, 3) := by decide +kernel
theorem dL_law_1494 : decode cL_law 1494 = .ok (.iconst 0, 1) := by decide +kernel
theorem dL_law_1495 : decode cL_law 1495 = .ok (.iadd, 1) := by decide +kernel
theorem dL_law_1496 : decode cL_law 1496 = .ok (.iastore, 1) := by decide +kernel
theorem dL_law_1497 : decode cL_law 1497 = .ok (.aload 9, 2) := by decide +kernel
theorem dL_law_1499 : decode cL_law 1499 = .ok (.iload 33, 2) := by decide +kernel
theorem dL_law_1501 : decode cL_law 1501 = .ok (.aload 7, 2) := by decide +kernel
theorem dL_law_1503 : decode cL_law 1503 = .ok (.iload 33, 2) := by decide +kernel
theorem dL_law_1505 : decode cL_law 1505 = .ok (.iaload, 1) := by decide +kernel
theorem dL_law_1506 : decode cL_law 1506 = .ok (.iconst 1, 1) := by decide +kernel
theorem dL_law_1507 : decode cL_law 1507 = .ok (.if_icmp .ge 13, 3) := by decide +kernel
theorem dL_law_1510 : decode cL_law 1510 = .ok (.aload 9, 2) := by decide +kernel
theorem dL_law_1512 : decode cL_law 1512 = .ok (.iload 33, 2) := by decide +kernel
theorem dL_law_1514 : decode cL_law 1514 = .ok (.iaload, 1) := by decide +kernel
theorem dL_law_1515 : decode cL_law 1515 = .ok (.iconst 1, 1) := by decide +kernel
theorem dL_law_1516 : decode cL_law 1516 = .ok (.iadd, 1) := by decide +kernel
theorem dL_law_1517 : decode cL_law 1517 = .ok (.goto 4, 3) := by decide +kernel
theorem dL_law_1520 : decode cL_law 1520 = .ok (.iconst 0, 1) := by decide +kernel
theorem dL_law_1521 : decode cL_law 1521 = .ok (.iastore, 1) := by decide +kernel
theorem dL_law_1522 : decode cL_law 1522 = .ok (.aload 7, 2) := by decide +kernel
theorem dL_law_1524 : decode cL_law 1524 = .ok (.iload 33, 2) := by decide +kernel
theorem dL_law_1526 : decode cL_law 1526 = .ok (.dup2, 1) := by decide +kernel
theorem dL_law_1527 : decode cL_law 1527 = .ok (.iaload, 1) := by decide +kernel
theorem dL_law_1528 : decode cL_law 1528 = .ok (.aload 7, 2) := by decide +kernel
theorem dL_law_1530 : decode cL_law 1530 = .ok (.iload 33, 2) := by decide +kernel
theorem dL_law_1532 : decode cL_law 1532 = .ok (.iaload, 1) := by decide +kernel
theorem dL_law_1533 : decode cL_law 1533 = .ok (.iconst 1, 1) := by decide +kernel
theorem dL_law_1534 : decode cL_law 1534 = .ok (.if_icmp .ge 7, 3) := by decide +kernel
theorem dL_law_1537 : decode cL_law 1537 = .ok (.iconst 0, 1) := by decide +kernel
theorem dL_law_1538 : decode cL_law 1538 = .ok (.goto 4, 3) := by decide +kernel
theorem dL_law_1541 : decode cL_law 1541 = .ok (.iconst 1, 1) := by decide +kernel
theorem dL_law_1542 : decode cL_law 1542 = .ok (.isub, 1) := by decide +kernel
theorem dL_law_1543 : decode cL_law 1543 = .ok (.iastore, 1) := by decide +kernel
theorem dL_law_1544 : decode cL_law 1544 = .ok (.aload 13, 2) := by decide +kernel
theorem dL_law_1546 : decode cL_law 1546 = .ok (.iload 33, 2) := by decide +kernel
theorem dL_law_1548 : decode cL_law 1548 = .ok (.dup2, 1) := by decide +kernel
theorem dL_law_1549 : decode cL_law 1549 = .ok (.baload, 1) := by decide +kernel
theorem dL_law_1550 : decode cL_law 1550 = .ok (.aload 9, 2) := by decide +kernel
theorem dL_law_1552 : decode cL_law 1552 = .ok (.iload 33, 2) := by decide +kernel
theorem dL_law_1554 : decode cL_law 1554 = .ok (.iaload, 1) := by decide +kernel
theorem dL_law_1555 : decode cL_law 1555 = .ok (.bipush 24, 2) := by decide +kernel
theorem dL_law_1557 : decode cL_law 1557 = .ok (.if_icmp .lt 7, 3) := by decide +kernel
theorem dL_law_1560 : decode cL_law 1560 = .ok (.iconst 1, 1) := by decide +kernel
theorem dL_law_1561 : decode cL_law 1561 = .ok (.goto 4, 3) := by decide +kernel
theorem dL_law_1564 : decode cL_law 1564 = .ok (.iconst 0, 1) := by decide +kernel
theorem dL_law_1565 : decode cL_law 1565 = .ok (.ior, 1) := by decide +kernel
theorem dL_law_1566 : decode cL_law 1566 = .ok (.bastore, 1) := by decide +kernel
theorem dL_law_1567 : decode cL_law 1567 = .ok (.aload 23, 2) := by decide +kernel
theorem dL_law_1569 : decode cL_law 1569 = .ok (.iload 33, 2) := by decide +kernel
theorem dL_law_1571 : decode cL_law 1571 = .ok (.dup2, 1) := by decide +kernel
theorem dL_law_1572 : decode cL_law 1572 = .ok (.iaload, 1) := by decide +kernel
theorem dL_law_1573 : decode cL_law 1573 = .ok (.iload 26, 2) := by decide +kernel
theorem dL_law_1575 : decode cL_law 1575 = .ok (.bipush 7, 2) := by decide +kernel
theorem dL_law_1577 : decode cL_law 1577 = .ok (.if_icmp .lt 17, 3) := by decide +kernel
theorem dL_law_1580 : decode cL_law 1580 = .ok (.aload 23, 2) := by decide +kernel
theorem dL_law_1582 : decode cL_law 1582 = .ok (.iload 33, 2) := by decide +kernel
theorem dL_law_1584 : decode cL_law 1584 = .ok (.iaload, 1) := by decide +kernel
theorem dL_law_1585 : decode cL_law 1585 = .ok (.bipush 8, 2) := by decide +kernel
theorem dL_law_1587 : decode cL_law 1587 = .ok (.if_icmp .ge 7, 3) := by decide +kernel
theorem dL_law_1590 : decode cL_law 1590 = .ok (.iconst 1, 1) := by decide +kernel
theorem dL_law_1591 : decode cL_law 1591 = .ok (.goto 4, 3) := by decide +kernel
theorem dL_law_1594 : decode cL_law 1594 = .ok (.iconst 0, 1) := by decide +kernel
theorem dL_law_1595 : decode cL_law 1595 = .ok (.iadd, 1) := by decide +kernel
theorem dL_law_1596 : decode cL_law 1596 = .ok (.iastore, 1) := by decide +kernel
theorem dL_law_1597 : decode cL_law 1597 = .ok (.bipush 8, 2) := by decide +kernel
theorem dL_law_1599 : decode cL_law 1599 = .ok (.iconst 2, 1) := by decide +kernel
theorem dL_law_1600 : decode cL_law 1600 = .ok (.aload 12, 2) := by decide +kernel
theorem dL_law_1602 : decode cL_law 1602 = .ok (.iload 33, 2) := by decide +kernel
theorem dL_law_1604 : decode cL_law 1604 = .ok (.iaload, 1) := by decide +kernel
theorem dL_law_1605 : decode cL_law 1605 = .ok (.imul, 1) := by decide +kernel
theorem dL_law_1606 : decode cL_law 1606 = .ok (.isub, 1) := by decide +kernel
theorem dL_law_1607 : decode cL_law 1607 = .ok (.istore 35, 2) := by decide +kernel
theorem dL_law_1609 : decode cL_law 1609 = .ok (.aload 12, 2) := by decide +kernel
theorem dL_law_1611 : decode cL_law 1611 = .ok (.iload 33, 2) := by decide +kernel
theorem dL_law_1613 : decode cL_law 1613 = .ok (.iaload, 1) := by decide +kernel
theorem dL_law_1614 : decode cL_law 1614 = .ok (.iconst 3, 1) := by decide +kernel
theorem dL_law_1615 : decode cL_law 1615 = .ok (.if_icmp .ne 10, 3) := by decide +kernel
theorem dL_law_1618 : decode cL_law 1618 = .ok (.iload 26, 2) := by decide +kernel
theorem dL_law_1620 : decode cL_law 1620 = .ok (.iconst 2, 1) := by decide +kernel
theorem dL_law_1621 : decode cL_law 1621 = .ok (.idiv, 1) := by decide +kernel
theorem dL_law_1622 : decode cL_law 1622 = .ok (.goto 19, 3) := by decide +kernel
theorem dL_law_1625 : decode cL_law 1625 = .ok (.iload 26, 2) := by decide +kernel
theorem dL_law_1627 : decode cL_law 1627 = .ok (.iload 35, 2) := by decide +kernel
theorem dL_law_1629 : decode cL_law 1629 = .ok (.if_icmp .le 11, 3) := by decide +kernel
theorem dL_law_1632 : decode cL_law 1632 = .ok (.iload 26, 2) := by decide +kernel
theorem dL_law_1634 : decode cL_law 1634 = .ok (.iload 35, 2) := by decide +kernel
theorem dL_law_1636 : decode cL_law 1636 = .ok (.isub, 1) := by decide +kernel
theorem dL_law_1637 : decode cL_law 1637 = .ok (.goto 4, 3) := by decide +kernel
theorem dL_law_1640 : decode cL_law 1640 = .ok (.iconst 0, 1) := by decide +kernel
theorem dL_law_1641 : decode cL_law 1641 = .ok (.istore 36, 2) := by decide +kernel
theorem dL_law_1643 : decode cL_law 1643 = .ok (.aload 12, 2) := by decide +kernel
theorem dL_law_1645 : decode cL_law 1645 = .ok (.iload 33, 2) := by decide +kernel
theorem dL_law_1647 : decode cL_law 1647 = .ok (.iaload, 1) := by decide +kernel
theorem dL_law_1648 : decode cL_law 1648 = .ok (.iconst 3, 1) := by decide +kernel
theorem dL_law_1649 : decode cL_law 1649 = .ok (.if_icmp .ge 7, 3) := by decide +kernel
theorem dL_law_1652 : decode cL_law 1652 = .ok (.iconst 0, 1) := by decide +kernel
theorem dL_law_1653 : decode cL_law 1653 = .ok (.goto 29, 3) := by decide +kernel
theorem dL_law_1656 : decode cL_law 1656 = .ok (.iload 29, 2) := by decide +kernel
theorem dL_law_1658 : decode cL_law 1658 = .ok (.bipush 6, 2) := by decide +kernel
theorem dL_law_1660 : decode cL_law 1660 = .ok (.if_icmp .lt 10, 3) := by decide +kernel
theorem dL_law_1663 : decode cL_law 1663 = .ok (.iload 29, 2) := by decide +kernel
theorem dL_law_1665 : decode cL_law 1665 = .ok (.bipush 12, 2) := by decide +kernel
theorem dL_law_1667 : decode cL_law 1667 = .ok (.if_icmp .lt 10, 3) := by decide +kernel
theorem dL_law_1670 : decode cL_law 1670 = .ok (.iload 29, 2) := by decide +kernel
theorem dL_law_1672 : decode cL_law 1672 = .ok (.bipush 18, 2) := by decide +kernel
theorem dL_law_1674 : decode cL_law 1674 = .ok (.if_icmp .lt 7, 3) := by decide +kernel
theorem dL_law_1677 : decode cL_law 1677 = .ok (.iconst (-1), 1) := by decide +kernel
theorem dL_law_1678 : decode cL_law 1678 = .ok (.goto 4, 3) := by decide +kernel
theorem dL_law_1681 : decode cL_law 1681 = .ok (.iconst 1, 1) := by decide +kernel
theorem dL_law_1682 : decode cL_law 1682 = .ok (.istore 37, 2) := by decide +kernel
theorem dL_law_1684 : decode cL_law 1684 = .ok (.aload_n 3, 1) := by decide +kernel
theorem dL_law_1685 : decode cL_law 1685 = .ok (.iload 33, 2) := by decide +kernel
theorem dL_law_1687 : decode cL_law 1687 = .ok (.dup2, 1) := by decide +kernel
theorem dL_law_1688 : decode cL_law 1688 = .ok (.iaload, 1) := by decide +kernel
theorem dL_law_1689 : decode cL_law 1689 = .ok (.iload 27, 2) := by decide +kernel
theorem dL_law_1691 : decode cL_law 1691 = .ok (.iconst 1, 1) := by decide +kernel
theorem dL_law_1692 : decode cL_law 1692 = .ok (.if_icmp .ne 8, 3) := by decide +kernel
theorem dL_law_1695 : decode cL_law 1695 = .ok (.iload 36, 2) := by decide +kernel
theorem dL_law_1697 : decode cL_law 1697 = .ok (.goto 16, 3) := by decide +kernel
theorem dL_law_1700 : decode cL_law 1700 = .ok (.iload 27, 2) := by decide +kernel
theorem dL_law_1702 : decode cL_law 1702 = .ok (.iconst 3, 1) := by decide +kernel
theorem dL_law_1703 : decode cL_law 1703 = .ok (.if_icmp .ne 9, 3) := by decide +kernel
theorem dL_law_1706 : decode cL_law 1706 = .ok (.iload 36, 2) := by decide +kernel
theorem dL_law_1708 : decode cL_law 1708 = .ok (.ineg, 1) := by decide +kernel
theorem dL_law_1709 : decode cL_law 1709 = .ok (.goto 4, 3) := by decide +kernel
theorem dL_law_1712 : decode cL_law 1712 = .ok (.iconst 0, 1) := by decide +kernel
theorem dL_law_1713 : decode cL_law 1713 = .ok (.iload 37, 2) := by decide +kernel
theorem dL_law_1715 : decode cL_law 1715 = .ok (.iload 20, 2) := by decide +kernel
theorem dL_law_1717 : decode cL_law 1717 = .ok (.imul, 1) := by decide +kernel
theorem dL_law_1718 : decode cL_law 1718 = .ok (.iadd, 1) := by decide +kernel
theorem dL_law_1719 : decode cL_law 1719 = .ok (.iadd, 1) := by decide +kernel
theorem dL_law_1720 : decode cL_law 1720 = .ok (.iastore, 1) := by decide +kernel
theorem dL_law_1721 : decode cL_law 1721 = .ok (.aload 4, 2) := by decide +kernel
theorem dL_law_1723 : decode cL_law 1723 = .ok (.iload 33, 2) := by decide +kernel
theorem dL_law_1725 : decode cL_law 1725 = .ok (.dup2, 1) := by decide +kernel
theorem dL_law_1726 : decode cL_law 1726 = .ok (.iaload, 1) := by decide +kernel
theorem dL_law_1727 : decode cL_law 1727 = .ok (.iload 27, 2) := by decide +kernel
theorem dL_law_1729 : decode cL_law 1729 = .ok (.ifCond .ne 8, 3) := by decide +kernel
theorem dL_law_1732 : decode cL_law 1732 = .ok (.iload 36, 2) := by decide +kernel
theorem dL_law_1734 : decode cL_law 1734 = .ok (.goto 16, 3) := by decide +kernel
theorem dL_law_1737 : decode cL_law 1737 = .ok (.iload 27, 2) := by decide +kernel
theorem dL_law_1739 : decode cL_law 1739 = .ok (.iconst 2, 1) := by decide +kernel
theorem dL_law_1740 : decode cL_law 1740 = .ok (.if_icmp .ne 9, 3) := by decide +kernel
theorem dL_law_1743 : decode cL_law 1743 = .ok (.iload 36, 2) := by decide +kernel
theorem dL_law_1745 : decode cL_law 1745 = .ok (.ineg, 1) := by decide +kernel
theorem dL_law_1746 : decode cL_law 1746 = .ok (.goto 4, 3) := by decide +kernel
theorem dL_law_1749 : decode cL_law 1749 = .ok (.iconst 0, 1) := by decide +kernel
theorem dL_law_1750 : decode cL_law 1750 = .ok (.iload 37, 2) := by decide +kernel
theorem dL_law_1752 : decode cL_law 1752 = .ok (.iload 21, 2) := by decide +kernel
theorem dL_law_1754 : decode cL_law 1754 = .ok (.imul, 1) := by decide +kernel
theorem dL_law_1755 : decode cL_law 1755 = .ok (.iadd, 1) := by decide +kernel
theorem dL_law_1756 : decode cL_law 1756 = .ok (.iadd, 1) := by decide +kernel
theorem dL_law_1757 : decode cL_law 1757 = .ok (.iastore, 1) := by decide +kernel
theorem dL_law_1758 : decode cL_law 1758 = .ok (.iload_n 2, 1) := by decide +kernel
theorem dL_law_1759 : decode cL_law 1759 = .ok (.aload_n 1, 1) := by decide +kernel
theorem dL_law_1760 : decode cL_law 1760 = .ok (.iload 33, 2) := by decide +kernel
theorem dL_law_1762 : decode cL_law 1762 = .ok (.invokestatic 187, 3) := by decide +kernel
theorem dL_law_1765 : decode cL_law 1765 = .ok (.aload 28, 2) := by decide +kernel
theorem dL_law_1767 : decode cL_law 1767 = .ok (.iload 33, 2) := by decide +kernel
theorem dL_law_1769 : decode cL_law 1769 = .ok (.baload, 1) := by decide +kernel
theorem dL_law_1770 : decode cL_law 1770 = .ok (.ifCond .eq 7, 3) := by decide +kernel
theorem dL_law_1773 : decode cL_law 1773 = .ok (.iconst 1, 1) := by decide +kernel
theorem dL_law_1774 : decode cL_law 1774 = .ok (.goto 4, 3) := by decide +kernel
theorem dL_law_1777 : decode cL_law 1777 = .ok (.iconst 0, 1) := by decide +kernel
theorem dL_law_1778 : decode cL_law 1778 = .ok (.if_icmp .ne 128, 3) := by decide +kernel
theorem dL_law_1781 : decode cL_law 1781 = .ok (.aload_n 1, 1) := by decide +kernel
theorem dL_law_1782 : decode cL_law 1782 = .ok (.iload 33, 2) := by decide +kernel
theorem dL_law_1784 : decode cL_law 1784 = .ok (.invokestatic 156, 3) := by decide +kernel
theorem dL_law_1787 : decode cL_law 1787 = .ok (.aload 6, 2) := by decide +kernel
theorem dL_law_1789 : decode cL_law 1789 = .ok (.iload 33, 2) := by decide +kernel
theorem dL_law_1791 : decode cL_law 1791 = .ok (.iaload, 1) := by decide +kernel
