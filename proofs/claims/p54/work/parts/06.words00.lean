theorem kw_173 : Cond.fieldLink "GalleonWave$Programme" 9 "GalleonWave$Programme" "hours" "[I" ∈ kw := kw_in (List.mem_append_right _ (tb4 _ (List.mem_of_getElem? (i := 161) (by decide +kernel)))) (by decide +kernel)
theorem kw_174 : Cond.code ⟨"GalleonWave$Programme", "at", "(I)I"⟩ prog_8_method_2_code 2 (some .int) ∈ kw := kw_in (List.mem_append_right _ (tb4 _ (List.mem_of_getElem? (i := 48) (by decide +kernel)))) (by decide +kernel)
theorem kw_175 : Cond.methodLink "GalleonWave" 506 ⟨"GalleonWave$Programme", "at", "(I)I"⟩ ∈ kw := kw_in (List.mem_append_right _ (tb4 _ (List.mem_of_getElem? (i := 45) (by decide +kernel)))) (by decide +kernel)
theorem kw_176 : Cond.initialized "GalleonWave$Programme" ∈ kw := kw_in (List.mem_append_right _ (tb1 _ (List.mem_of_getElem? (i := 14) (by decide +kernel)))) (by decide +kernel)
theorem kw_177 : Cond.instanceMethod ⟨"GalleonWave$Programme", "at", "(I)I"⟩ ∈ kw := kw_in (List.mem_append_right _ (tb4 _ (List.mem_of_getElem? (i := 46) (by decide +kernel)))) (by decide +kernel)
theorem kw_178 : Cond.selects "GalleonWave$Programme" ⟨"GalleonWave$Programme", "at", "(I)I"⟩ ⟨"GalleonWave$Programme", "at", "(I)I"⟩ ∈ kw := kw_in (List.mem_append_right _ (tb4 _ (List.mem_of_getElem? (i := 47) (by decide +kernel)))) (by decide +kernel)
theorem kw_179 : Cond.code ⟨"GalleonWave", "isTape", "(I)Z"⟩ prog_1_method_64_code 1 (some .boolean) ∈ kw := kw_in (List.mem_append_right _ (tb2 _ (List.mem_of_getElem? (i := 65) (by decide +kernel)))) (by decide +kernel)
theorem kw_180 : Cond.methodLink "GalleonWave" 418 ⟨"GalleonWave", "isTape", "(I)Z"⟩ ∈ kw := kw_in (List.mem_append_right _ (tb2 _ (List.mem_of_getElem? (i := 63) (by decide +kernel)))) (by decide +kernel)
theorem kw_181 : Cond.static ⟨"GalleonWave", "isTape", "(I)Z"⟩ ∈ kw := kw_in (List.mem_append_right _ (tb2 _ (List.mem_of_getElem? (i := 64) (by decide +kernel)))) (by decide +kernel)
theorem kw_182 : Cond.code ⟨"GalleonWave", "canSpeak", "(II)Z"⟩ prog_1_method_83_code 4 (some .boolean) ∈ kw := kw_in (List.mem_append_right _ (tb4 _ (List.mem_of_getElem? (i := 52) (by decide +kernel)))) (by decide +kernel)
theorem kw_183 : Cond.methodLink "GalleonWave" 509 ⟨"GalleonWave", "canSpeak", "(II)Z"⟩ ∈ kw := kw_in (List.mem_append_right _ (tb4 _ (List.mem_of_getElem? (i := 49) (by decide +kernel)))) (by decide +kernel)
theorem kw_184 : Cond.instanceMethod ⟨"GalleonWave", "canSpeak", "(II)Z"⟩ ∈ kw := kw_in (List.mem_append_right _ (tb4 _ (List.mem_of_getElem? (i := 51) (by decide +kernel)))) (by decide +kernel)
theorem kw_185 : Cond.selects "GalleonWave" ⟨"GalleonWave", "canSpeak", "(II)Z"⟩ ⟨"GalleonWave", "canSpeak", "(II)Z"⟩ ∈ kw := kw_in (List.mem_append_left _ (List.mem_of_getElem? (i := 25) (by decide +kernel))) (by decide +kernel)
theorem kw_186 : Cond.fieldLink "GalleonWave" 515 "GalleonWave$Programme" "lastTape" "I" ∈ kw := kw_in (List.mem_append_right _ (tb4 _ (List.mem_of_getElem? (i := 163) (by decide +kernel)))) (by decide +kernel)
theorem kw_187 : Cond.fieldLink "GalleonWave$Kept" 27 "GalleonWave$Kept" "oldest" "I" ∈ kw := kw_in (List.mem_append_right _ (tb1 _ (List.mem_of_getElem? (i := 90) (by decide +kernel)))) (by decide +kernel)
theorem kw_188 : Cond.fieldLink "GalleonWave$Kept" 31 "GalleonWave$Kept" "count" "I" ∈ kw := kw_in (List.mem_append_right _ (tb1 _ (List.mem_of_getElem? (i := 91) (by decide +kernel)))) (by decide +kernel)
theorem kw_189 : Cond.code ⟨"GalleonWave$Kept", "slotOf", "(I)I"⟩ prog_5_method_2_code 2 (some .int) ∈ kw := kw_in (List.mem_append_right _ (tb2 _ (List.mem_of_getElem? (i := 46) (by decide +kernel)))) (by decide +kernel)
theorem kw_190 : Cond.methodLink "GalleonWave$Kept" 34 ⟨"GalleonWave$Kept", "slotOf", "(I)I"⟩ ∈ kw := kw_in (List.mem_append_right _ (tb2 _ (List.mem_of_getElem? (i := 104) (by decide +kernel)))) (by decide +kernel)
theorem kw_191 : Cond.initialized "GalleonWave$Kept" ∈ kw := kw_in (List.mem_append_right _ (tb1 _ (List.mem_of_getElem? (i := 6) (by decide +kernel)))) (by decide +kernel)
theorem kw_192 : Cond.instanceMethod ⟨"GalleonWave$Kept", "slotOf", "(I)I"⟩ ∈ kw := kw_in (List.mem_append_right _ (tb2 _ (List.mem_of_getElem? (i := 44) (by decide +kernel)))) (by decide +kernel)
theorem kw_193 : Cond.selects "GalleonWave$Kept" ⟨"GalleonWave$Kept", "slotOf", "(I)I"⟩ ⟨"GalleonWave$Kept", "slotOf", "(I)I"⟩ ∈ kw := kw_in (List.mem_append_right _ (tb2 _ (List.mem_of_getElem? (i := 45) (by decide +kernel)))) (by decide +kernel)
theorem kw_194 : Cond.fieldLink "GalleonWave$Kept" 9 "GalleonWave$Kept" "hours" "[I" ∈ kw := kw_in (List.mem_append_right _ (tb1 _ (List.mem_of_getElem? (i := 80) (by decide +kernel)))) (by decide +kernel)
theorem kw_195 : Cond.fieldLink "GalleonWave$Kept" 15 "GalleonWave$Kept" "ships" "[I" ∈ kw := kw_in (List.mem_append_right _ (tb1 _ (List.mem_of_getElem? (i := 82) (by decide +kernel)))) (by decide +kernel)
theorem kw_196 : Cond.fieldLink "GalleonWave$Kept" 18 "GalleonWave$Kept" "channels" "[I" ∈ kw := kw_in (List.mem_append_right _ (tb1 _ (List.mem_of_getElem? (i := 84) (by decide +kernel)))) (by decide +kernel)
theorem kw_197 : Cond.fieldLink "GalleonWave$Kept" 21 "GalleonWave$Kept" "generators" "[I" ∈ kw := kw_in (List.mem_append_right _ (tb1 _ (List.mem_of_getElem? (i := 86) (by decide +kernel)))) (by decide +kernel)
theorem kw_198 : Cond.fieldLink "GalleonWave$Kept" 24 "GalleonWave$Kept" "whos" "[I" ∈ kw := kw_in (List.mem_append_right _ (tb1 _ (List.mem_of_getElem? (i := 88) (by decide +kernel)))) (by decide +kernel)
theorem kw_199 : Cond.fieldLink "GalleonWave" 16 "GalleonWave" "towns" "Ljava/util/ArrayList;" ∈ kw := kw_in (List.mem_append_right _ (tb1 _ (List.mem_of_getElem? (i := 139) (by decide +kernel)))) (by decide +kernel)
theorem kw_200 : Cond.classLink "GalleonWave" 94 "GalleonWave$Town" ∈ kw := kw_in (List.mem_append_right _ (tb3 _ (List.mem_of_getElem? (i := 150) (by decide +kernel)))) (by decide +kernel)
theorem kw_201 : Cond.fieldLink "GalleonWave" 210 "GalleonWave$Town" "heard" "I" ∈ kw := kw_in (List.mem_append_right _ (tb3 _ (List.mem_of_getElem? (i := 165) (by decide +kernel)))) (by decide +kernel)
theorem kw_202 : Cond.fieldLink "GalleonWave" 495 "GalleonWave$Town" "land" "I" ∈ kw := kw_in (List.mem_append_right _ (tb3 _ (List.mem_of_getElem? (i := 157) (by decide +kernel)))) (by decide +kernel)
theorem kw_203 : Cond.fieldLink "GalleonWave" 474 "GalleonWave$Town" "thousands" "I" ∈ kw := kw_in (List.mem_append_right _ (tb3 _ (List.mem_of_getElem? (i := 163) (by decide +kernel)))) (by decide +kernel)
theorem kw_204 : Cond.fieldLink "GalleonWave" 293 "GalleonWave$Ship" "spots" "LGalleonWave$Spots;" ∈ kw := kw_in (List.mem_append_right _ (tb4 _ (List.mem_of_getElem? (i := 197) (by decide +kernel)))) (by decide +kernel)
theorem kw_205 : Cond.code ⟨"GalleonWave", "landAround", "(LGalleonWave$Ship;)I"⟩ prog_1_method_70_code 3 (some .int) ∈ kw := kw_in (List.mem_append_right _ (tb4 _ (List.mem_of_getElem? (i := 8) (by decide +kernel)))) (by decide +kernel)
theorem kw_206 : Cond.methodLink "GalleonWave" 116 ⟨"GalleonWave", "landAround", "(LGalleonWave$Ship;)I"⟩ ∈ kw := kw_in (List.mem_append_right _ (tb4 _ (List.mem_of_getElem? (i := 5) (by decide +kernel)))) (by decide +kernel)
theorem kw_207 : Cond.instanceMethod ⟨"GalleonWave", "landAround", "(LGalleonWave$Ship;)I"⟩ ∈ kw := kw_in (List.mem_append_right _ (tb4 _ (List.mem_of_getElem? (i := 7) (by decide +kernel)))) (by decide +kernel)
theorem kw_208 : Cond.selects "GalleonWave" ⟨"GalleonWave", "landAround", "(LGalleonWave$Ship;)I"⟩ ⟨"GalleonWave", "landAround", "(LGalleonWave$Ship;)I"⟩ ∈ kw := kw_in (List.mem_append_left _ (List.mem_of_getElem? (i := 19) (by decide +kernel))) (by decide +kernel)
theorem kw_209 : Cond.code ⟨"GalleonWave", "countPayingThousands", "(II)I"⟩ prog_1_method_80_code 6 (some .int) ∈ kw := kw_in (List.mem_append_right _ (tb4 _ (List.mem_of_getElem? (i := 24) (by decide +kernel)))) (by decide +kernel)
theorem kw_210 : Cond.methodLink "GalleonWave" 489 ⟨"GalleonWave", "countPayingThousands", "(II)I"⟩ ∈ kw := kw_in (List.mem_append_right _ (tb4 _ (List.mem_of_getElem? (i := 21) (by decide +kernel)))) (by decide +kernel)
theorem kw_211 : Cond.instanceMethod ⟨"GalleonWave", "countPayingThousands", "(II)I"⟩ ∈ kw := kw_in (List.mem_append_right _ (tb4 _ (List.mem_of_getElem? (i := 23) (by decide +kernel)))) (by decide +kernel)
theorem kw_212 : Cond.selects "GalleonWave" ⟨"GalleonWave", "countPayingThousands", "(II)I"⟩ ⟨"GalleonWave", "countPayingThousands", "(II)I"⟩ ∈ kw := kw_in (List.mem_append_left _ (List.mem_of_getElem? (i := 21) (by decide +kernel))) (by decide +kernel)
theorem kw_213 : Cond.code ⟨"GalleonWave$Spots", "playOne", "(I)V"⟩ prog_11_method_4_code 2 none ∈ kw := kw_in (List.mem_append_right _ (tb4 _ (List.mem_of_getElem? (i := 36) (by decide +kernel)))) (by decide +kernel)
theorem kw_214 : Cond.methodLink "GalleonWave" 492 ⟨"GalleonWave$Spots", "playOne", "(I)V"⟩ ∈ kw := kw_in (List.mem_append_right _ (tb4 _ (List.mem_of_getElem? (i := 33) (by decide +kernel)))) (by decide +kernel)
theorem kw_215 : Cond.initialized "GalleonWave$Spots" ∈ kw := kw_in (List.mem_append_right _ (tb1 _ (List.mem_of_getElem? (i := 15) (by decide +kernel)))) (by decide +kernel)
theorem kw_216 : Cond.instanceMethod ⟨"GalleonWave$Spots", "playOne", "(I)V"⟩ ∈ kw := kw_in (List.mem_append_right _ (tb4 _ (List.mem_of_getElem? (i := 34) (by decide +kernel)))) (by decide +kernel)
theorem kw_217 : Cond.selects "GalleonWave$Spots" ⟨"GalleonWave$Spots", "playOne", "(I)V"⟩ ⟨"GalleonWave$Spots", "playOne", "(I)V"⟩ ∈ kw := kw_in (List.mem_append_right _ (tb4 _ (List.mem_of_getElem? (i := 35) (by decide +kernel)))) (by decide +kernel)
theorem kw_218 : Cond.code ⟨"GalleonWave", "isStranded", "(LGalleonWave$Ship;)Z"⟩ prog_1_method_71_code 4 (some .boolean) ∈ kw := kw_in (List.mem_append_right _ (tb4 _ (List.mem_of_getElem? (i := 97) (by decide +kernel)))) (by decide +kernel)
theorem kw_219 : Cond.methodLink "GalleonWave" 136 ⟨"GalleonWave", "isStranded", "(LGalleonWave$Ship;)Z"⟩ ∈ kw := kw_in (List.mem_append_right _ (tb4 _ (List.mem_of_getElem? (i := 94) (by decide +kernel)))) (by decide +kernel)
theorem kw_220 : Cond.instanceMethod ⟨"GalleonWave", "isStranded", "(LGalleonWave$Ship;)Z"⟩ ∈ kw := kw_in (List.mem_append_right _ (tb4 _ (List.mem_of_getElem? (i := 96) (by decide +kernel)))) (by decide +kernel)
theorem kw_221 : Cond.selects "GalleonWave" ⟨"GalleonWave", "isStranded", "(LGalleonWave$Ship;)Z"⟩ ⟨"GalleonWave", "isStranded", "(LGalleonWave$Ship;)Z"⟩ ∈ kw := kw_in (List.mem_append_left _ (List.mem_of_getElem? (i := 32) (by decide +kernel))) (by decide +kernel)
theorem kw_222 : Cond.code ⟨"GalleonWave", "moveShip", "(LGalleonWave$Ship;)V"⟩ prog_1_method_88_code 4 none ∈ kw := kw_in (List.mem_append_right _ (tb4 _ (List.mem_of_getElem? (i := 101) (by decide +kernel)))) (by decide +kernel)
theorem kw_223 : Cond.methodLink "GalleonWave" 534 ⟨"GalleonWave", "moveShip", "(LGalleonWave$Ship;)V"⟩ ∈ kw := kw_in (List.mem_append_right _ (tb4 _ (List.mem_of_getElem? (i := 98) (by decide +kernel)))) (by decide +kernel)
theorem kw_224 : Cond.instanceMethod ⟨"GalleonWave", "moveShip", "(LGalleonWave$Ship;)V"⟩ ∈ kw := kw_in (List.mem_append_right _ (tb4 _ (List.mem_of_getElem? (i := 100) (by decide +kernel)))) (by decide +kernel)
theorem kw_225 : Cond.selects "GalleonWave" ⟨"GalleonWave", "moveShip", "(LGalleonWave$Ship;)V"⟩ ⟨"GalleonWave", "moveShip", "(LGalleonWave$Ship;)V"⟩ ∈ kw := kw_in (List.mem_append_left _ (List.mem_of_getElem? (i := 33) (by decide +kernel))) (by decide +kernel)
theorem kw_226 : Cond.fieldLink "GalleonWave" 275 "GalleonWave$Ship" "programme" "LGalleonWave$Programme;" ∈ kw := kw_in (List.mem_append_right _ (tb4 _ (List.mem_of_getElem? (i := 195) (by decide +kernel)))) (by decide +kernel)
theorem kw_227 : Cond.code ⟨"GalleonWave", "chooseSpeaker", "(ILGalleonWave$Programme;)I"⟩ prog_1_method_82_code 6 (some .int) ∈ kw := kw_in (List.mem_append_right _ (tb4 _ (List.mem_of_getElem? (i := 44) (by decide +kernel)))) (by decide +kernel)
theorem kw_228 : Cond.methodLink "GalleonWave" 501 ⟨"GalleonWave", "chooseSpeaker", "(ILGalleonWave$Programme;)I"⟩ ∈ kw := kw_in (List.mem_append_right _ (tb4 _ (List.mem_of_getElem? (i := 41) (by decide +kernel)))) (by decide +kernel)
theorem kw_229 : Cond.instanceMethod ⟨"GalleonWave", "chooseSpeaker", "(ILGalleonWave$Programme;)I"⟩ ∈ kw := kw_in (List.mem_append_right _ (tb4 _ (List.mem_of_getElem? (i := 43) (by decide +kernel)))) (by decide +kernel)
theorem kw_230 : Cond.selects "GalleonWave" ⟨"GalleonWave", "chooseSpeaker", "(ILGalleonWave$Programme;)I"⟩ ⟨"GalleonWave", "chooseSpeaker", "(ILGalleonWave$Programme;)I"⟩ ∈ kw := kw_in (List.mem_append_left _ (List.mem_of_getElem? (i := 24) (by decide +kernel))) (by decide +kernel)
theorem kw_231 : Cond.fieldLink "GalleonWave" 290 "GalleonWave$Ship" "speaker" "I" ∈ kw := kw_in (List.mem_append_right _ (tb4 _ (List.mem_of_getElem? (i := 220) (by decide +kernel)))) (by decide +kernel)
theorem inX3 : ∀ w ∈ u_ws RX3 TX3 7, w ∈ kw := fun w h => kw_in ((by decide +kernel : ∀ w ∈ u_ws RX3 TX3 7, w ∈ lw_tbl) w h) ((by decide +kernel : ∀ w ∈ u_ws RX3 TX3 7, kok w = true) w h)
theorem inX6 : ∀ w ∈ u_ws RX6 TX6 2, w ∈ kw := fun w h => kw_in ((by decide +kernel : ∀ w ∈ u_ws RX6 TX6 2, w ∈ lw_tbl) w h) ((by decide +kernel : ∀ w ∈ u_ws RX6 TX6 2, kok w = true) w h)
theorem ydX11_canSpeak : (yX11_canSpeak.cls ≠ "java/lang/invoke/MethodHandle" ∧ yX11_canSpeak.cls ≠ "java/lang/invoke/VarHandle") ∧ (parseMethodDescriptor yX11_canSpeak.desc).map (fun d => d.parameters.length) = some 2 := by decide +kernel
theorem ydX11_chooseSpeaker : (yX11_chooseSpeaker.cls ≠ "java/lang/invoke/MethodHandle" ∧ yX11_chooseSpeaker.cls ≠ "java/lang/invoke/VarHandle") ∧ (parseMethodDescriptor yX11_chooseSpeaker.desc).map (fun d => d.parameters.length) = some 2 := by decide +kernel
theorem ydX11_countPayingThousands : (yX11_countPayingThousands.cls ≠ "java/lang/invoke/MethodHandle" ∧ yX11_countPayingThousands.cls ≠ "java/lang/invoke/VarHandle") ∧ (parseMethodDescriptor yX11_countPayingThousands.desc).map (fun d => d.parameters.length) = some 2 := by decide +kernel
theorem ydX11_isStranded : (yX11_isStranded.cls ≠ "java/lang/invoke/MethodHandle" ∧ yX11_isStranded.cls ≠ "java/lang/invoke/VarHandle") ∧ (parseMethodDescriptor yX11_isStranded.desc).map (fun d => d.parameters.length) = some 1 := by decide +kernel
theorem ydX11_isTape : (yX11_isTape.cls ≠ "java/lang/invoke/MethodHandle" ∧ yX11_isTape.cls ≠ "java/lang/invoke/VarHandle") ∧ (parseMethodDescriptor yX11_isTape.desc).map (fun d => d.parameters.length) = some 1 := by decide +kernel
theorem ydX11_landAround : (yX11_landAround.cls ≠ "java/lang/invoke/MethodHandle" ∧ yX11_landAround.cls ≠ "java/lang/invoke/VarHandle") ∧ (parseMethodDescriptor yX11_landAround.desc).map (fun d => d.parameters.length) = some 1 := by decide +kernel
theorem ydX11_moveShip : (yX11_moveShip.cls ≠ "java/lang/invoke/MethodHandle" ∧ yX11_moveShip.cls ≠ "java/lang/invoke/VarHandle") ∧ (parseMethodDescriptor yX11_moveShip.desc).map (fun d => d.parameters.length) = some 1 := by decide +kernel
theorem ydX3_slotOf : (yX3_slotOf.cls ≠ "java/lang/invoke/MethodHandle" ∧ yX3_slotOf.cls ≠ "java/lang/invoke/VarHandle") ∧ (parseMethodDescriptor yX3_slotOf.desc).map (fun d => d.parameters.length) = some 1 := by decide +kernel
theorem ydX6_at : (yX6_at.cls ≠ "java/lang/invoke/MethodHandle" ∧ yX6_at.cls ≠ "java/lang/invoke/VarHandle") ∧ (parseMethodDescriptor yX6_at.desc).map (fun d => d.parameters.length) = some 1 := by decide +kernel
theorem ydX9_playOne : (yX9_playOne.cls ≠ "java/lang/invoke/MethodHandle" ∧ yX9_playOne.cls ≠ "java/lang/invoke/VarHandle") ∧ (parseMethodDescriptor yX9_playOne.desc).map (fun d => d.parameters.length) = some 1 := by decide +kernel
theorem dX3_slotOf_0 : decode cX3_slotOf 0 = .ok (.aload_n 0, 1) := by decide +kernel
theorem dX3_slotOf_1 : decode cX3_slotOf 1 = .ok (.getfield 27, 3) := by decide +kernel
theorem dX3_slotOf_4 : decode cX3_slotOf 4 = .ok (.iload_n 1, 1) := by decide +kernel
theorem dX3_slotOf_5 : decode cX3_slotOf 5 = .ok (.iadd, 1) := by decide +kernel
theorem dX3_slotOf_6 : decode cX3_slotOf 6 = .ok (.sipush 200, 3) := by decide +kernel
theorem dX3_slotOf_9 : decode cX3_slotOf 9 = .ok (.irem, 1) := by decide +kernel
theorem dX3_slotOf_10 : decode cX3_slotOf 10 = .ok (.ireturn, 1) := by decide +kernel
theorem dX3_keep_0 : decode cX3_keep 0 = .ok (.aload_n 0, 1) := by decide +kernel
theorem dX3_keep_1 : decode cX3_keep 1 = .ok (.aload_n 0, 1) := by decide +kernel
theorem dX3_keep_2 : decode cX3_keep 2 = .ok (.getfield 31, 3) := by decide +kernel
theorem dX3_keep_5 : decode cX3_keep 5 = .ok (.invokevirtual 34, 3) := by decide +kernel
theorem dX3_keep_8 : decode cX3_keep 8 = .ok (.istore 6, 2) := by decide +kernel
theorem dX3_keep_10 : decode cX3_keep 10 = .ok (.aload_n 0, 1) := by decide +kernel
theorem dX3_keep_11 : decode cX3_keep 11 = .ok (.getfield 9, 3) := by decide +kernel
theorem dX3_keep_14 : decode cX3_keep 14 = .ok (.iload 6, 2) := by decide +kernel
theorem dX3_keep_16 : decode cX3_keep 16 = .ok (.iload_n 1, 1) := by decide +kernel
theorem dX3_keep_17 : decode cX3_keep 17 = .ok (.iastore, 1) := by decide +kernel
theorem dX3_keep_18 : decode cX3_keep 18 = .ok (.aload_n 0, 1) := by decide +kernel
theorem dX3_keep_19 : decode cX3_keep 19 = .ok (.getfield 15, 3) := by decide +kernel
theorem dX3_keep_22 : decode cX3_keep 22 = .ok (.iload 6, 2) := by decide +kernel
theorem dX3_keep_24 : decode cX3_keep 24 = .ok (.iload_n 2, 1) := by decide +kernel
theorem dX3_keep_25 : decode cX3_keep 25 = .ok (.iastore, 1) := by decide +kernel
theorem dX3_keep_26 : decode cX3_keep 26 = .ok (.aload_n 0, 1) := by decide +kernel
theorem dX3_keep_27 : decode cX3_keep 27 = .ok (.getfield 18, 3) := by decide +kernel
theorem dX3_keep_30 : decode cX3_keep 30 = .ok (.iload 6, 2) := by decide +kernel
theorem dX3_keep_32 : decode cX3_keep 32 = .ok (.iload_n 3, 1) := by decide +kernel
theorem dX3_keep_33 : decode cX3_keep 33 = .ok (.iastore, 1) := by decide +kernel
theorem dX3_keep_34 : decode cX3_keep 34 = .ok (.aload_n 0, 1) := by decide +kernel
theorem dX3_keep_35 : decode cX3_keep 35 = .ok (.getfield 21, 3) := by decide +kernel
theorem dX3_keep_38 : decode cX3_keep 38 = .ok (.iload 6, 2) := by decide +kernel
theorem dX3_keep_40 : decode cX3_keep 40 = .ok (.iload 4, 2) := by decide +kernel
theorem dX3_keep_42 : decode cX3_keep 42 = .ok (.iastore, 1) := by decide +kernel
theorem dX3_keep_43 : decode cX3_keep 43 = .ok (.aload_n 0, 1) := by decide +kernel
theorem dX3_keep_44 : decode cX3_keep 44 = .ok (.getfield 24, 3) := by decide +kernel
theorem dX3_keep_47 : decode cX3_keep 47 = .ok (.iload 6, 2) := by decide +kernel
theorem dX3_keep_49 : decode cX3_keep 49 = .ok (.iload 5, 2) := by decide +kernel
theorem dX3_keep_51 : decode cX3_keep 51 = .ok (.iastore, 1) := by decide +kernel
theorem dX3_keep_52 : decode cX3_keep 52 = .ok (.aload_n 0, 1) := by decide +kernel
theorem dX3_keep_53 : decode cX3_keep 53 = .ok (.getfield 31, 3) := by decide +kernel
theorem dX3_keep_56 : decode cX3_keep 56 = .ok (.sipush 200, 3) := by decide +kernel
theorem dX3_keep_59 : decode cX3_keep 59 = .ok (.if_icmp .ge 16, 3) := by decide +kernel
theorem dX3_keep_62 : decode cX3_keep 62 = .ok (.aload_n 0, 1) := by decide +kernel
theorem dX3_keep_63 : decode cX3_keep 63 = .ok (.dup, 1) := by decide +kernel
theorem dX3_keep_64 : decode cX3_keep 64 = .ok (.getfield 31, 3) := by decide +kernel
theorem dX3_keep_67 : decode cX3_keep 67 = .ok (.iconst 1, 1) := by decide +kernel
theorem dX3_keep_68 : decode cX3_keep 68 = .ok (.iadd, 1) := by decide +kernel
theorem dX3_keep_69 : decode cX3_keep 69 = .ok (.putfield 31, 3) := by decide +kernel
theorem dX3_keep_72 : decode cX3_keep 72 = .ok (.goto 12, 3) := by decide +kernel
theorem dX3_keep_84 : decode cX3_keep 84 = .ok (.return_, 1) := by decide +kernel
theorem dX6_at_0 : decode cX6_at 0 = .ok (.iload_n 1, 1) := by decide +kernel
theorem dX6_at_1 : decode cX6_at 1 = .ok (.ifCond .lt 18, 3) := by decide +kernel
theorem dX6_at_4 : decode cX6_at 4 = .ok (.iload_n 1, 1) := by decide +kernel
theorem dX6_at_5 : decode cX6_at 5 = .ok (.bipush 24, 2) := by decide +kernel
theorem dX6_at_7 : decode cX6_at 7 = .ok (.if_icmp .ge 12, 3) := by decide +kernel
theorem dX6_at_10 : decode cX6_at 10 = .ok (.aload_n 0, 1) := by decide +kernel
theorem dX6_at_11 : decode cX6_at 11 = .ok (.getfield 9, 3) := by decide +kernel
theorem dX6_at_14 : decode cX6_at 14 = .ok (.iload_n 1, 1) := by decide +kernel
theorem dX6_at_15 : decode cX6_at 15 = .ok (.iaload, 1) := by decide +kernel
theorem dX6_at_16 : decode cX6_at 16 = .ok (.goto 4, 3) := by decide +kernel
theorem dX6_at_19 : decode cX6_at 19 = .ok (.iconst (-1), 1) := by decide +kernel
theorem dX6_at_20 : decode cX6_at 20 = .ok (.ireturn, 1) := by decide +kernel
theorem dX11_playSpots_0 : decode cX11_playSpots 0 = .ok (.iconst 0, 1) := by decide +kernel
theorem dX11_playSpots_1 : decode cX11_playSpots 1 = .ok (.istore_n 1, 1) := by decide +kernel
theorem dX11_playSpots_2 : decode cX11_playSpots 2 = .ok (.iload_n 1, 1) := by decide +kernel
theorem dX11_playSpots_3 : decode cX11_playSpots 3 = .ok (.aload_n 0, 1) := by decide +kernel
theorem dX11_playSpots_4 : decode cX11_playSpots 4 = .ok (.getfield 19, 3) := by decide +kernel
theorem dX11_playSpots_7 : decode cX11_playSpots 7 = .ok (.invokevirtual 44, 3) := by decide +kernel
theorem dX11_playSpots_10 : decode cX11_playSpots 10 = .ok (.if_icmp .ge 48, 3) := by decide +kernel
theorem dX11_playSpots_13 : decode cX11_playSpots 13 = .ok (.aload_n 0, 1) := by decide +kernel
theorem dX11_playSpots_14 : decode cX11_playSpots 14 = .ok (.getfield 19, 3) := by decide +kernel
theorem dX11_playSpots_17 : decode cX11_playSpots 17 = .ok (.iload_n 1, 1) := by decide +kernel
theorem dX11_playSpots_18 : decode cX11_playSpots 18 = .ok (.invokevirtual 169, 3) := by decide +kernel
theorem dX11_playSpots_21 : decode cX11_playSpots 21 = .ok (.checkcast 102, 3) := by decide +kernel
theorem dX11_playSpots_24 : decode cX11_playSpots 24 = .ok (.astore_n 2, 1) := by decide +kernel
theorem dX11_playSpots_25 : decode cX11_playSpots 25 = .ok (.aload_n 2, 1) := by decide +kernel
theorem dX11_playSpots_26 : decode cX11_playSpots 26 = .ok (.getfield 199, 3) := by decide +kernel
theorem dX11_playSpots_29 : decode cX11_playSpots 29 = .ok (.ifCond .eq 23, 3) := by decide +kernel
theorem dX11_playSpots_32 : decode cX11_playSpots 32 = .ok (.aload_n 2, 1) := by decide +kernel
theorem dX11_playSpots_33 : decode cX11_playSpots 33 = .ok (.getfield 293, 3) := by decide +kernel
theorem dX11_playSpots_36 : decode cX11_playSpots 36 = .ok (.aload_n 0, 1) := by decide +kernel
theorem dX11_playSpots_37 : decode cX11_playSpots 37 = .ok (.iload_n 1, 1) := by decide +kernel
theorem dX11_playSpots_38 : decode cX11_playSpots 38 = .ok (.aload_n 0, 1) := by decide +kernel
theorem dX11_playSpots_39 : decode cX11_playSpots 39 = .ok (.aload_n 2, 1) := by decide +kernel
theorem dX11_playSpots_40 : decode cX11_playSpots 40 = .ok (.invokevirtual 116, 3) := by decide +kernel
theorem dX11_playSpots_43 : decode cX11_playSpots 43 = .ok (.invokevirtual 489, 3) := by decide +kernel
theorem dX11_playSpots_46 : decode cX11_playSpots 46 = .ok (.bipush 10, 2) := by decide +kernel
theorem dX11_playSpots_48 : decode cX11_playSpots 48 = .ok (.idiv, 1) := by decide +kernel
theorem dX11_playSpots_49 : decode cX11_playSpots 49 = .ok (.invokevirtual 492, 3) := by decide +kernel
theorem dX11_playSpots_52 : decode cX11_playSpots 52 = .ok (.iinc 1 1, 3) := by decide +kernel
theorem dX11_playSpots_55 : decode cX11_playSpots 55 = .ok (.goto (-53), 3) := by decide +kernel
theorem dX11_playSpots_58 : decode cX11_playSpots 58 = .ok (.return_, 1) := by decide +kernel
theorem dX11_countPayingThousands_0 : decode cX11_countPayingThousands 0 = .ok (.iconst 0, 1) := by decide +kernel
theorem dX11_countPayingThousands_1 : decode cX11_countPayingThousands 1 = .ok (.istore_n 3, 1) := by decide +kernel
theorem dX11_countPayingThousands_2 : decode cX11_countPayingThousands 2 = .ok (.iconst 0, 1) := by decide +kernel
theorem dX11_countPayingThousands_3 : decode cX11_countPayingThousands 3 = .ok (.istore 4, 2) := by decide +kernel
theorem dX11_countPayingThousands_5 : decode cX11_countPayingThousands 5 = .ok (.iload 4, 2) := by decide +kernel
theorem dX11_countPayingThousands_7 : decode cX11_countPayingThousands 7 = .ok (.aload_n 0, 1) := by decide +kernel
theorem dX11_countPayingThousands_8 : decode cX11_countPayingThousands 8 = .ok (.getfield 16, 3) := by decide +kernel
theorem dX11_countPayingThousands_11 : decode cX11_countPayingThousands 11 = .ok (.invokevirtual 44, 3) := by decide +kernel
theorem dX11_countPayingThousands_14 : decode cX11_countPayingThousands 14 = .ok (.if_icmp .ge 62, 3) := by decide +kernel
theorem dX11_countPayingThousands_17 : decode cX11_countPayingThousands 17 = .ok (.aload_n 0, 1) := by decide +kernel
theorem dX11_countPayingThousands_18 : decode cX11_countPayingThousands 18 = .ok (.getfield 16, 3) := by decide +kernel
theorem dX11_countPayingThousands_21 : decode cX11_countPayingThousands 21 = .ok (.iload 4, 2) := by decide +kernel
theorem dX11_countPayingThousands_23 : decode cX11_countPayingThousands 23 = .ok (.invokevirtual 169, 3) := by decide +kernel
theorem dX11_countPayingThousands_26 : decode cX11_countPayingThousands 26 = .ok (.checkcast 94, 3) := by decide +kernel
theorem dX11_countPayingThousands_29 : decode cX11_countPayingThousands 29 = .ok (.astore 5, 2) := by decide +kernel
theorem dX11_countPayingThousands_31 : decode cX11_countPayingThousands 31 = .ok (.aload 5, 2) := by decide +kernel
theorem dX11_countPayingThousands_33 : decode cX11_countPayingThousands 33 = .ok (.getfield 210, 3) := by decide +kernel
theorem dX11_countPayingThousands_36 : decode cX11_countPayingThousands 36 = .ok (.iload_n 1, 1) := by decide +kernel
theorem dX11_countPayingThousands_37 : decode cX11_countPayingThousands 37 = .ok (.if_icmp .ne 33, 3) := by decide +kernel
theorem dX11_countPayingThousands_40 : decode cX11_countPayingThousands 40 = .ok (.aload 5, 2) := by decide +kernel
theorem dX11_countPayingThousands_42 : decode cX11_countPayingThousands 42 = .ok (.getfield 495, 3) := by decide +kernel
theorem dX11_countPayingThousands_45 : decode cX11_countPayingThousands 45 = .ok (.iload_n 2, 1) := by decide +kernel
theorem dX11_countPayingThousands_46 : decode cX11_countPayingThousands 46 = .ok (.if_icmp .eq 24, 3) := by decide +kernel
theorem dX11_countPayingThousands_49 : decode cX11_countPayingThousands 49 = .ok (.aload_n 0, 1) := by decide +kernel
theorem dX11_countPayingThousands_50 : decode cX11_countPayingThousands 50 = .ok (.aload 5, 2) := by decide +kernel
theorem dX11_countPayingThousands_52 : decode cX11_countPayingThousands 52 = .ok (.getfield 495, 3) := by decide +kernel
theorem dX11_countPayingThousands_55 : decode cX11_countPayingThousands 55 = .ok (.iconst 4, 1) := by decide +kernel
theorem dX11_countPayingThousands_56 : decode cX11_countPayingThousands 56 = .ok (.invokevirtual 498, 3) := by decide +kernel
theorem dX11_countPayingThousands_59 : decode cX11_countPayingThousands 59 = .ok (.ifCond .ne 11, 3) := by decide +kernel
theorem dX11_countPayingThousands_62 : decode cX11_countPayingThousands 62 = .ok (.iload_n 3, 1) := by decide +kernel
theorem dX11_countPayingThousands_63 : decode cX11_countPayingThousands 63 = .ok (.aload 5, 2) := by decide +kernel
theorem dX11_countPayingThousands_65 : decode cX11_countPayingThousands 65 = .ok (.getfield 474, 3) := by decide +kernel
theorem dX11_countPayingThousands_68 : decode cX11_countPayingThousands 68 = .ok (.iadd, 1) := by decide +kernel
theorem dX11_countPayingThousands_69 : decode cX11_countPayingThousands 69 = .ok (.istore_n 3, 1) := by decide +kernel
theorem dX11_countPayingThousands_70 : decode cX11_countPayingThousands 70 = .ok (.iinc 4 1, 3) := by decide +kernel
theorem dX11_countPayingThousands_73 : decode cX11_countPayingThousands 73 = .ok (.goto (-68), 3) := by decide +kernel
theorem dX11_countPayingThousands_76 : decode cX11_countPayingThousands 76 = .ok (.iload_n 3, 1) := by decide +kernel
theorem dX11_countPayingThousands_77 : decode cX11_countPayingThousands 77 = .ok (.ireturn, 1) := by decide +kernel
theorem dX11_speak_0 : decode cX11_speak 0 = .ok (.iconst 0, 1) := by decide +kernel
theorem dX11_speak_1 : decode cX11_speak 1 = .ok (.istore_n 1, 1) := by decide +kernel
theorem dX11_speak_2 : decode cX11_speak 2 = .ok (.iload_n 1, 1) := by decide +kernel
theorem dX11_speak_3 : decode cX11_speak 3 = .ok (.aload_n 0, 1) := by decide +kernel
theorem dX11_speak_4 : decode cX11_speak 4 = .ok (.getfield 19, 3) := by decide +kernel
theorem dX11_speak_7 : decode cX11_speak 7 = .ok (.invokevirtual 44, 3) := by decide +kernel
theorem dX11_speak_10 : decode cX11_speak 10 = .ok (.if_icmp .ge 79, 3) := by decide +kernel
theorem dX11_speak_13 : decode cX11_speak 13 = .ok (.aload_n 0, 1) := by decide +kernel
theorem dX11_speak_14 : decode cX11_speak 14 = .ok (.getfield 19, 3) := by decide +kernel
theorem dX11_speak_17 : decode cX11_speak 17 = .ok (.iload_n 1, 1) := by decide +kernel
theorem dX11_speak_18 : decode cX11_speak 18 = .ok (.invokevirtual 169, 3) := by decide +kernel
theorem dX11_speak_21 : decode cX11_speak 21 = .ok (.checkcast 102, 3) := by decide +kernel
theorem dX11_speak_24 : decode cX11_speak 24 = .ok (.astore_n 2, 1) := by decide +kernel
theorem dX11_speak_25 : decode cX11_speak 25 = .ok (.aload_n 2, 1) := by decide +kernel
theorem dX11_speak_26 : decode cX11_speak 26 = .ok (.getfield 199, 3) := by decide +kernel
theorem dX11_speak_29 : decode cX11_speak 29 = .ok (.ifCond .eq 54, 3) := by decide +kernel
theorem dX11_speak_32 : decode cX11_speak 32 = .ok (.aload_n 2, 1) := by decide +kernel
theorem dX11_speak_33 : decode cX11_speak 33 = .ok (.aload_n 0, 1) := by decide +kernel
theorem dX11_speak_34 : decode cX11_speak 34 = .ok (.iload_n 1, 1) := by decide +kernel
theorem dX11_speak_35 : decode cX11_speak 35 = .ok (.aload_n 2, 1) := by decide +kernel
theorem dX11_speak_36 : decode cX11_speak 36 = .ok (.getfield 275, 3) := by decide +kernel
theorem dX11_speak_39 : decode cX11_speak 39 = .ok (.invokevirtual 501, 3) := by decide +kernel
theorem dX11_speak_42 : decode cX11_speak 42 = .ok (.putfield 290, 3) := by decide +kernel
theorem dX11_speak_45 : decode cX11_speak 45 = .ok (.aload_n 0, 1) := by decide +kernel
theorem dX11_speak_46 : decode cX11_speak 46 = .ok (.aload_n 2, 1) := by decide +kernel
theorem dX11_speak_47 : decode cX11_speak 47 = .ok (.getfield 290, 3) := by decide +kernel
theorem dX11_speak_50 : decode cX11_speak 50 = .ok (.invokevirtual 415, 3) := by decide +kernel
theorem dX11_speak_53 : decode cX11_speak 53 = .ok (.ifCond .eq 30, 3) := by decide +kernel
theorem dX11_speak_83 : decode cX11_speak 83 = .ok (.iinc 1 1, 3) := by decide +kernel
theorem dX11_speak_86 : decode cX11_speak 86 = .ok (.goto (-84), 3) := by decide +kernel
theorem dX11_speak_89 : decode cX11_speak 89 = .ok (.return_, 1) := by decide +kernel
theorem dX11_chooseSpeaker_0 : decode cX11_chooseSpeaker 0 = .ok (.aload_n 0, 1) := by decide +kernel
theorem dX11_chooseSpeaker_1 : decode cX11_chooseSpeaker 1 = .ok (.getfield 63, 3) := by decide +kernel
theorem dX11_chooseSpeaker_4 : decode cX11_chooseSpeaker 4 = .ok (.bipush 24, 2) := by decide +kernel
theorem dX11_chooseSpeaker_6 : decode cX11_chooseSpeaker 6 = .ok (.irem, 1) := by decide +kernel
theorem dX11_chooseSpeaker_7 : decode cX11_chooseSpeaker 7 = .ok (.istore_n 3, 1) := by decide +kernel
theorem dX11_chooseSpeaker_8 : decode cX11_chooseSpeaker 8 = .ok (.aload_n 2, 1) := by decide +kernel
theorem dX11_chooseSpeaker_9 : decode cX11_chooseSpeaker 9 = .ok (.iload_n 3, 1) := by decide +kernel
theorem dX11_chooseSpeaker_10 : decode cX11_chooseSpeaker 10 = .ok (.invokevirtual 506, 3) := by decide +kernel
theorem dX11_chooseSpeaker_13 : decode cX11_chooseSpeaker 13 = .ok (.istore 4, 2) := by decide +kernel
theorem dX11_chooseSpeaker_15 : decode cX11_chooseSpeaker 15 = .ok (.iload 4, 2) := by decide +kernel
theorem dX11_chooseSpeaker_17 : decode cX11_chooseSpeaker 17 = .ok (.invokestatic 418, 3) := by decide +kernel
theorem dX11_chooseSpeaker_20 : decode cX11_chooseSpeaker 20 = .ok (.ifCond .ne 13, 3) := by decide +kernel
theorem dX11_chooseSpeaker_23 : decode cX11_chooseSpeaker 23 = .ok (.aload_n 0, 1) := by decide +kernel
theorem dX11_chooseSpeaker_24 : decode cX11_chooseSpeaker 24 = .ok (.iload 4, 2) := by decide +kernel
theorem dX11_chooseSpeaker_26 : decode cX11_chooseSpeaker 26 = .ok (.iload_n 1, 1) := by decide +kernel
theorem dX11_chooseSpeaker_27 : decode cX11_chooseSpeaker 27 = .ok (.invokevirtual 509, 3) := by decide +kernel
theorem dX11_chooseSpeaker_30 : decode cX11_chooseSpeaker 30 = .ok (.ifCond .eq 6, 3) := by decide +kernel
theorem dX11_chooseSpeaker_36 : decode cX11_chooseSpeaker 36 = .ok (.iconst 0, 1) := by decide +kernel
theorem dX11_chooseSpeaker_37 : decode cX11_chooseSpeaker 37 = .ok (.istore 5, 2) := by decide +kernel
theorem dX11_chooseSpeaker_39 : decode cX11_chooseSpeaker 39 = .ok (.iload 5, 2) := by decide +kernel
theorem dX11_chooseSpeaker_41 : decode cX11_chooseSpeaker 41 = .ok (.aload_n 0, 1) := by decide +kernel
theorem dX11_chooseSpeaker_42 : decode cX11_chooseSpeaker 42 = .ok (.getfield 22, 3) := by decide +kernel
theorem dX11_chooseSpeaker_45 : decode cX11_chooseSpeaker 45 = .ok (.invokevirtual 44, 3) := by decide +kernel
theorem dX11_chooseSpeaker_48 : decode cX11_chooseSpeaker 48 = .ok (.if_icmp .ge 32, 3) := by decide +kernel
theorem dX11_chooseSpeaker_51 : decode cX11_chooseSpeaker 51 = .ok (.aload_n 0, 1) := by decide +kernel
theorem dX11_chooseSpeaker_52 : decode cX11_chooseSpeaker 52 = .ok (.iload 5, 2) := by decide +kernel
theorem dX11_chooseSpeaker_54 : decode cX11_chooseSpeaker 54 = .ok (.iload_n 1, 1) := by decide +kernel
theorem dX11_chooseSpeaker_55 : decode cX11_chooseSpeaker 55 = .ok (.invokevirtual 509, 3) := by decide +kernel
theorem dX11_chooseSpeaker_58 : decode cX11_chooseSpeaker 58 = .ok (.ifCond .eq 16, 3) := by decide +kernel
theorem dX11_chooseSpeaker_74 : decode cX11_chooseSpeaker 74 = .ok (.iinc 5 1, 3) := by decide +kernel
theorem dX11_chooseSpeaker_77 : decode cX11_chooseSpeaker 77 = .ok (.goto (-38), 3) := by decide +kernel
theorem dX11_chooseSpeaker_80 : decode cX11_chooseSpeaker 80 = .ok (.aload_n 2, 1) := by decide +kernel
theorem dX11_chooseSpeaker_81 : decode cX11_chooseSpeaker 81 = .ok (.getfield 515, 3) := by decide +kernel
theorem dX11_chooseSpeaker_84 : decode cX11_chooseSpeaker 84 = .ok (.iconst (-1), 1) := by decide +kernel
theorem dX11_chooseSpeaker_85 : decode cX11_chooseSpeaker 85 = .ok (.if_icmp .ne 9, 3) := by decide +kernel
theorem dX11_chooseSpeaker_88 : decode cX11_chooseSpeaker 88 = .ok (.sipush 200, 3) := by decide +kernel
theorem dX11_chooseSpeaker_91 : decode cX11_chooseSpeaker 91 = .ok (.goto 7, 3) := by decide +kernel
theorem dX11_chooseSpeaker_98 : decode cX11_chooseSpeaker 98 = .ok (.ireturn, 1) := by decide +kernel
theorem dX11_moveShips_0 : decode cX11_moveShips 0 = .ok (.iconst 0, 1) := by decide +kernel
theorem dX11_moveShips_1 : decode cX11_moveShips 1 = .ok (.istore_n 1, 1) := by decide +kernel
theorem dX11_moveShips_2 : decode cX11_moveShips 2 = .ok (.iload_n 1, 1) := by decide +kernel
theorem dX11_moveShips_3 : decode cX11_moveShips 3 = .ok (.aload_n 0, 1) := by decide +kernel
theorem dX11_moveShips_4 : decode cX11_moveShips 4 = .ok (.getfield 19, 3) := by decide +kernel
theorem dX11_moveShips_7 : decode cX11_moveShips 7 = .ok (.invokevirtual 44, 3) := by decide +kernel
theorem dX11_moveShips_10 : decode cX11_moveShips 10 = .ok (.if_icmp .ge 34, 3) := by decide +kernel
theorem dX11_moveShips_13 : decode cX11_moveShips 13 = .ok (.aload_n 0, 1) := by decide +kernel
theorem dX11_moveShips_14 : decode cX11_moveShips 14 = .ok (.getfield 19, 3) := by decide +kernel
theorem dX11_moveShips_17 : decode cX11_moveShips 17 = .ok (.iload_n 1, 1) := by decide +kernel
theorem dX11_moveShips_18 : decode cX11_moveShips 18 = .ok (.invokevirtual 169, 3) := by decide +kernel
theorem dX11_moveShips_21 : decode cX11_moveShips 21 = .ok (.checkcast 102, 3) := by decide +kernel
theorem dX11_moveShips_24 : decode cX11_moveShips 24 = .ok (.astore_n 2, 1) := by decide +kernel
theorem dX11_moveShips_25 : decode cX11_moveShips 25 = .ok (.aload_n 0, 1) := by decide +kernel
theorem dX11_moveShips_26 : decode cX11_moveShips 26 = .ok (.aload_n 2, 1) := by decide +kernel
theorem dX11_moveShips_27 : decode cX11_moveShips 27 = .ok (.invokevirtual 136, 3) := by decide +kernel
theorem dX11_moveShips_30 : decode cX11_moveShips 30 = .ok (.ifCond .ne 8, 3) := by decide +kernel
theorem dX11_moveShips_33 : decode cX11_moveShips 33 = .ok (.aload_n 0, 1) := by decide +kernel
theorem dX11_moveShips_34 : decode cX11_moveShips 34 = .ok (.aload_n 2, 1) := by decide +kernel
theorem dX11_moveShips_35 : decode cX11_moveShips 35 = .ok (.invokevirtual 534, 3) := by decide +kernel
theorem dX11_moveShips_38 : decode cX11_moveShips 38 = .ok (.iinc 1 1, 3) := by decide +kernel
theorem dX11_moveShips_41 : decode cX11_moveShips 41 = .ok (.goto (-39), 3) := by decide +kernel
theorem dX11_moveShips_44 : decode cX11_moveShips 44 = .ok (.return_, 1) := by decide +kernel
