theorem kw_232 : Cond.fieldLink "GalleonWave" 213 "GalleonWave$Ship" "listeners" "I" ∈ kw := kw_in (List.mem_append_right _ (tb4 _ (List.mem_of_getElem? (i := 218) (by decide +kernel)))) (by decide +kernel)
theorem kw_233 : Cond.code ⟨"GalleonWave", "strongestHeard", "(LGalleonWave$Town;)I"⟩ prog_1_method_76_code 7 (some .int) ∈ kw := kw_in (List.mem_append_right _ (tb3 _ (List.mem_of_getElem? (i := 217) (by decide +kernel)))) (by decide +kernel)
theorem kw_234 : Cond.methodLink "GalleonWave" 470 ⟨"GalleonWave", "strongestHeard", "(LGalleonWave$Town;)I"⟩ ∈ kw := kw_in (List.mem_append_right _ (tb3 _ (List.mem_of_getElem? (i := 214) (by decide +kernel)))) (by decide +kernel)
theorem kw_235 : Cond.instanceMethod ⟨"GalleonWave", "strongestHeard", "(LGalleonWave$Town;)I"⟩ ∈ kw := kw_in (List.mem_append_right _ (tb3 _ (List.mem_of_getElem? (i := 216) (by decide +kernel)))) (by decide +kernel)
theorem kw_236 : Cond.selects "GalleonWave" ⟨"GalleonWave", "strongestHeard", "(LGalleonWave$Town;)I"⟩ ⟨"GalleonWave", "strongestHeard", "(LGalleonWave$Town;)I"⟩ ∈ kw := kw_in (List.mem_append_left _ (List.mem_of_getElem? (i := 15) (by decide +kernel))) (by decide +kernel)
theorem kw_237 : Cond.fieldLink "GalleonWave" 28 "GalleonWave" "archive" "LGalleonWave$Archive;" ∈ kw := kw_in (List.mem_append_right _ (tb1 _ (List.mem_of_getElem? (i := 142) (by decide +kernel)))) (by decide +kernel)
theorem kw_238 : Cond.fieldLink "GalleonWave" 333 "GalleonWave$Archive" "kept" "LGalleonWave$Kept;" ∈ kw := kw_in (List.mem_append_right _ (tb1 _ (List.mem_of_getElem? (i := 113) (by decide +kernel)))) (by decide +kernel)
theorem kw_239 : Cond.fieldLink "GalleonWave" 521 "GalleonWave$Ship" "ranBits" "I" ∈ kw := kw_in (List.mem_append_right _ (tb4 _ (List.mem_of_getElem? (i := 216) (by decide +kernel)))) (by decide +kernel)
theorem kw_240 : Cond.code ⟨"GalleonWave$Kept", "keep", "(IIIII)V"⟩ prog_5_method_3_code 7 none ∈ kw := kw_in (List.mem_append_right _ (tb4 _ (List.mem_of_getElem? (i := 76) (by decide +kernel)))) (by decide +kernel)
theorem kw_241 : Cond.methodLink "GalleonWave" 524 ⟨"GalleonWave$Kept", "keep", "(IIIII)V"⟩ ∈ kw := kw_in (List.mem_append_right _ (tb4 _ (List.mem_of_getElem? (i := 73) (by decide +kernel)))) (by decide +kernel)
theorem kw_242 : Cond.instanceMethod ⟨"GalleonWave$Kept", "keep", "(IIIII)V"⟩ ∈ kw := kw_in (List.mem_append_right _ (tb4 _ (List.mem_of_getElem? (i := 74) (by decide +kernel)))) (by decide +kernel)
theorem kw_243 : Cond.selects "GalleonWave$Kept" ⟨"GalleonWave$Kept", "keep", "(IIIII)V"⟩ ⟨"GalleonWave$Kept", "keep", "(IIIII)V"⟩ ∈ kw := kw_in (List.mem_append_right _ (tb4 _ (List.mem_of_getElem? (i := 75) (by decide +kernel)))) (by decide +kernel)
theorem kw_244 : Cond.code ⟨"GalleonWave", "runGenerators", "()V"⟩ prog_1_method_73_code 2 none ∈ kw := kw_in (List.mem_append_right _ (tb3 _ (List.mem_of_getElem? (i := 192) (by decide +kernel)))) (by decide +kernel)
theorem kw_245 : Cond.methodLink "GalleonWave" 437 ⟨"GalleonWave", "runGenerators", "()V"⟩ ∈ kw := kw_in (List.mem_append_right _ (tb3 _ (List.mem_of_getElem? (i := 189) (by decide +kernel)))) (by decide +kernel)
theorem kw_246 : Cond.instanceMethod ⟨"GalleonWave", "runGenerators", "()V"⟩ ∈ kw := kw_in (List.mem_append_right _ (tb3 _ (List.mem_of_getElem? (i := 191) (by decide +kernel)))) (by decide +kernel)
theorem kw_247 : Cond.selects "GalleonWave" ⟨"GalleonWave", "runGenerators", "()V"⟩ ⟨"GalleonWave", "runGenerators", "()V"⟩ ∈ kw := kw_in (List.mem_append_left _ (List.mem_of_getElem? (i := 12) (by decide +kernel))) (by decide +kernel)
theorem kw_248 : Cond.code ⟨"GalleonWave", "goOnAir", "()V"⟩ prog_1_method_74_code 3 none ∈ kw := kw_in (List.mem_append_right _ (tb3 _ (List.mem_of_getElem? (i := 204) (by decide +kernel)))) (by decide +kernel)
theorem kw_249 : Cond.methodLink "GalleonWave" 440 ⟨"GalleonWave", "goOnAir", "()V"⟩ ∈ kw := kw_in (List.mem_append_right _ (tb3 _ (List.mem_of_getElem? (i := 201) (by decide +kernel)))) (by decide +kernel)
theorem kw_250 : Cond.instanceMethod ⟨"GalleonWave", "goOnAir", "()V"⟩ ∈ kw := kw_in (List.mem_append_right _ (tb3 _ (List.mem_of_getElem? (i := 203) (by decide +kernel)))) (by decide +kernel)
theorem kw_251 : Cond.selects "GalleonWave" ⟨"GalleonWave", "goOnAir", "()V"⟩ ⟨"GalleonWave", "goOnAir", "()V"⟩ ∈ kw := kw_in (List.mem_append_left _ (List.mem_of_getElem? (i := 13) (by decide +kernel))) (by decide +kernel)
theorem kw_252 : Cond.code ⟨"GalleonWave", "listen", "()V"⟩ prog_1_method_75_code 3 none ∈ kw := kw_in (List.mem_append_right _ (tb3 _ (List.mem_of_getElem? (i := 213) (by decide +kernel)))) (by decide +kernel)
theorem kw_253 : Cond.methodLink "GalleonWave" 443 ⟨"GalleonWave", "listen", "()V"⟩ ∈ kw := kw_in (List.mem_append_right _ (tb3 _ (List.mem_of_getElem? (i := 210) (by decide +kernel)))) (by decide +kernel)
theorem kw_254 : Cond.instanceMethod ⟨"GalleonWave", "listen", "()V"⟩ ∈ kw := kw_in (List.mem_append_right _ (tb3 _ (List.mem_of_getElem? (i := 212) (by decide +kernel)))) (by decide +kernel)
theorem kw_255 : Cond.selects "GalleonWave" ⟨"GalleonWave", "listen", "()V"⟩ ⟨"GalleonWave", "listen", "()V"⟩ ∈ kw := kw_in (List.mem_append_left _ (List.mem_of_getElem? (i := 14) (by decide +kernel))) (by decide +kernel)
theorem kw_256 : Cond.code ⟨"GalleonWave", "playSpots", "()V"⟩ prog_1_method_79_code 3 none ∈ kw := kw_in (List.mem_append_right _ (tb4 _ (List.mem_of_getElem? (i := 4) (by decide +kernel)))) (by decide +kernel)
theorem kw_257 : Cond.methodLink "GalleonWave" 446 ⟨"GalleonWave", "playSpots", "()V"⟩ ∈ kw := kw_in (List.mem_append_right _ (tb4 _ (List.mem_of_getElem? (i := 1) (by decide +kernel)))) (by decide +kernel)
theorem kw_258 : Cond.instanceMethod ⟨"GalleonWave", "playSpots", "()V"⟩ ∈ kw := kw_in (List.mem_append_right _ (tb4 _ (List.mem_of_getElem? (i := 3) (by decide +kernel)))) (by decide +kernel)
theorem kw_259 : Cond.selects "GalleonWave" ⟨"GalleonWave", "playSpots", "()V"⟩ ⟨"GalleonWave", "playSpots", "()V"⟩ ∈ kw := kw_in (List.mem_append_left _ (List.mem_of_getElem? (i := 18) (by decide +kernel))) (by decide +kernel)
theorem kw_260 : Cond.code ⟨"GalleonWave", "speak", "()V"⟩ prog_1_method_81_code 3 none ∈ kw := kw_in (List.mem_append_right _ (tb4 _ (List.mem_of_getElem? (i := 40) (by decide +kernel)))) (by decide +kernel)
theorem kw_261 : Cond.methodLink "GalleonWave" 449 ⟨"GalleonWave", "speak", "()V"⟩ ∈ kw := kw_in (List.mem_append_right _ (tb4 _ (List.mem_of_getElem? (i := 37) (by decide +kernel)))) (by decide +kernel)
theorem kw_262 : Cond.instanceMethod ⟨"GalleonWave", "speak", "()V"⟩ ∈ kw := kw_in (List.mem_append_right _ (tb4 _ (List.mem_of_getElem? (i := 39) (by decide +kernel)))) (by decide +kernel)
theorem kw_263 : Cond.selects "GalleonWave" ⟨"GalleonWave", "speak", "()V"⟩ ⟨"GalleonWave", "speak", "()V"⟩ ∈ kw := kw_in (List.mem_append_left _ (List.mem_of_getElem? (i := 23) (by decide +kernel))) (by decide +kernel)
theorem kw_264 : Cond.code ⟨"GalleonWave", "keepHour", "()V"⟩ prog_1_method_84_code 3 none ∈ kw := kw_in (List.mem_append_right _ (tb4 _ (List.mem_of_getElem? (i := 72) (by decide +kernel)))) (by decide +kernel)
theorem kw_265 : Cond.methodLink "GalleonWave" 452 ⟨"GalleonWave", "keepHour", "()V"⟩ ∈ kw := kw_in (List.mem_append_right _ (tb4 _ (List.mem_of_getElem? (i := 69) (by decide +kernel)))) (by decide +kernel)
theorem kw_266 : Cond.instanceMethod ⟨"GalleonWave", "keepHour", "()V"⟩ ∈ kw := kw_in (List.mem_append_right _ (tb4 _ (List.mem_of_getElem? (i := 71) (by decide +kernel)))) (by decide +kernel)
theorem kw_267 : Cond.selects "GalleonWave" ⟨"GalleonWave", "keepHour", "()V"⟩ ⟨"GalleonWave", "keepHour", "()V"⟩ ∈ kw := kw_in (List.mem_append_left _ (List.mem_of_getElem? (i := 28) (by decide +kernel))) (by decide +kernel)
theorem kw_268 : Cond.code ⟨"GalleonWave", "eatAndTire", "()V"⟩ prog_1_method_85_code 3 none ∈ kw := kw_in (List.mem_append_right _ (tb4 _ (List.mem_of_getElem? (i := 80) (by decide +kernel)))) (by decide +kernel)
theorem kw_269 : Cond.methodLink "GalleonWave" 455 ⟨"GalleonWave", "eatAndTire", "()V"⟩ ∈ kw := kw_in (List.mem_append_right _ (tb4 _ (List.mem_of_getElem? (i := 77) (by decide +kernel)))) (by decide +kernel)
theorem kw_270 : Cond.instanceMethod ⟨"GalleonWave", "eatAndTire", "()V"⟩ ∈ kw := kw_in (List.mem_append_right _ (tb4 _ (List.mem_of_getElem? (i := 79) (by decide +kernel)))) (by decide +kernel)
theorem kw_271 : Cond.selects "GalleonWave" ⟨"GalleonWave", "eatAndTire", "()V"⟩ ⟨"GalleonWave", "eatAndTire", "()V"⟩ ∈ kw := kw_in (List.mem_append_left _ (List.mem_of_getElem? (i := 29) (by decide +kernel))) (by decide +kernel)
theorem kw_272 : Cond.code ⟨"GalleonWave", "gatherSalt", "()V"⟩ prog_1_method_86_code 3 none ∈ kw := kw_in (List.mem_append_right _ (tb4 _ (List.mem_of_getElem? (i := 88) (by decide +kernel)))) (by decide +kernel)
theorem kw_273 : Cond.methodLink "GalleonWave" 458 ⟨"GalleonWave", "gatherSalt", "()V"⟩ ∈ kw := kw_in (List.mem_append_right _ (tb4 _ (List.mem_of_getElem? (i := 85) (by decide +kernel)))) (by decide +kernel)
theorem kw_274 : Cond.instanceMethod ⟨"GalleonWave", "gatherSalt", "()V"⟩ ∈ kw := kw_in (List.mem_append_right _ (tb4 _ (List.mem_of_getElem? (i := 87) (by decide +kernel)))) (by decide +kernel)
theorem kw_275 : Cond.selects "GalleonWave" ⟨"GalleonWave", "gatherSalt", "()V"⟩ ⟨"GalleonWave", "gatherSalt", "()V"⟩ ∈ kw := kw_in (List.mem_append_left _ (List.mem_of_getElem? (i := 30) (by decide +kernel))) (by decide +kernel)
theorem kw_276 : Cond.code ⟨"GalleonWave", "moveShips", "()V"⟩ prog_1_method_87_code 3 none ∈ kw := kw_in (List.mem_append_right _ (tb4 _ (List.mem_of_getElem? (i := 93) (by decide +kernel)))) (by decide +kernel)
theorem kw_277 : Cond.methodLink "GalleonWave" 461 ⟨"GalleonWave", "moveShips", "()V"⟩ ∈ kw := kw_in (List.mem_append_right _ (tb4 _ (List.mem_of_getElem? (i := 90) (by decide +kernel)))) (by decide +kernel)
theorem kw_278 : Cond.instanceMethod ⟨"GalleonWave", "moveShips", "()V"⟩ ∈ kw := kw_in (List.mem_append_right _ (tb4 _ (List.mem_of_getElem? (i := 92) (by decide +kernel)))) (by decide +kernel)
theorem kw_279 : Cond.selects "GalleonWave" ⟨"GalleonWave", "moveShips", "()V"⟩ ⟨"GalleonWave", "moveShips", "()V"⟩ ∈ kw := kw_in (List.mem_append_left _ (List.mem_of_getElem? (i := 31) (by decide +kernel))) (by decide +kernel)
theorem kw_280 : Cond.code ⟨"GalleonWave", "requireRange", "(III)V"⟩ prog_1_method_53_code 3 none ∈ kw := kw_in (List.mem_append_right _ (tb2 _ (List.mem_of_getElem? (i := 178) (by decide +kernel)))) (by decide +kernel)
theorem kw_281 : Cond.methodLink "GalleonWave" 40 ⟨"GalleonWave", "requireRange", "(III)V"⟩ ∈ kw := kw_in (List.mem_append_right _ (tb2 _ (List.mem_of_getElem? (i := 176) (by decide +kernel)))) (by decide +kernel)
theorem kw_282 : Cond.static ⟨"GalleonWave", "requireRange", "(III)V"⟩ ∈ kw := kw_in (List.mem_append_right _ (tb2 _ (List.mem_of_getElem? (i := 177) (by decide +kernel)))) (by decide +kernel)
theorem kw_283 : Cond.code ⟨"GalleonWave", "passHour", "()V"⟩ prog_1_method_72_code 1 none ∈ kw := kw_in (List.mem_append_right _ (tb3 _ (List.mem_of_getElem? (i := 188) (by decide +kernel)))) (by decide +kernel)
theorem kw_284 : Cond.methodLink "GalleonWave" 99 ⟨"GalleonWave", "passHour", "()V"⟩ ∈ kw := kw_in (List.mem_append_right _ (tb3 _ (List.mem_of_getElem? (i := 185) (by decide +kernel)))) (by decide +kernel)
theorem kw_285 : Cond.instanceMethod ⟨"GalleonWave", "passHour", "()V"⟩ ∈ kw := kw_in (List.mem_append_right _ (tb3 _ (List.mem_of_getElem? (i := 187) (by decide +kernel)))) (by decide +kernel)
theorem kw_286 : Cond.selects "GalleonWave" ⟨"GalleonWave", "passHour", "()V"⟩ ⟨"GalleonWave", "passHour", "()V"⟩ ∈ kw := kw_in (List.mem_append_left _ (List.mem_of_getElem? (i := 11) (by decide +kernel))) (by decide +kernel)
theorem inX1 : ∀ w ∈ u_ws RX1 TX1 8, w ∈ kw := fun w h => kw_in ((by decide +kernel : ∀ w ∈ u_ws RX1 TX1 8, w ∈ lw_tbl) w h) ((by decide +kernel : ∀ w ∈ u_ws RX1 TX1 8, kok w = true) w h)
theorem ydX11_eatAndTire : (yX11_eatAndTire.cls ≠ "java/lang/invoke/MethodHandle" ∧ yX11_eatAndTire.cls ≠ "java/lang/invoke/VarHandle") ∧ (parseMethodDescriptor yX11_eatAndTire.desc).map (fun d => d.parameters.length) = some 0 := by decide +kernel
theorem ydX11_gatherSalt : (yX11_gatherSalt.cls ≠ "java/lang/invoke/MethodHandle" ∧ yX11_gatherSalt.cls ≠ "java/lang/invoke/VarHandle") ∧ (parseMethodDescriptor yX11_gatherSalt.desc).map (fun d => d.parameters.length) = some 0 := by decide +kernel
theorem ydX11_goOnAir : (yX11_goOnAir.cls ≠ "java/lang/invoke/MethodHandle" ∧ yX11_goOnAir.cls ≠ "java/lang/invoke/VarHandle") ∧ (parseMethodDescriptor yX11_goOnAir.desc).map (fun d => d.parameters.length) = some 0 := by decide +kernel
theorem ydX11_keepHour : (yX11_keepHour.cls ≠ "java/lang/invoke/MethodHandle" ∧ yX11_keepHour.cls ≠ "java/lang/invoke/VarHandle") ∧ (parseMethodDescriptor yX11_keepHour.desc).map (fun d => d.parameters.length) = some 0 := by decide +kernel
theorem ydX11_listen : (yX11_listen.cls ≠ "java/lang/invoke/MethodHandle" ∧ yX11_listen.cls ≠ "java/lang/invoke/VarHandle") ∧ (parseMethodDescriptor yX11_listen.desc).map (fun d => d.parameters.length) = some 0 := by decide +kernel
theorem ydX11_moveShips : (yX11_moveShips.cls ≠ "java/lang/invoke/MethodHandle" ∧ yX11_moveShips.cls ≠ "java/lang/invoke/VarHandle") ∧ (parseMethodDescriptor yX11_moveShips.desc).map (fun d => d.parameters.length) = some 0 := by decide +kernel
theorem ydX11_passHour : (yX11_passHour.cls ≠ "java/lang/invoke/MethodHandle" ∧ yX11_passHour.cls ≠ "java/lang/invoke/VarHandle") ∧ (parseMethodDescriptor yX11_passHour.desc).map (fun d => d.parameters.length) = some 0 := by decide +kernel
theorem ydX11_playSpots : (yX11_playSpots.cls ≠ "java/lang/invoke/MethodHandle" ∧ yX11_playSpots.cls ≠ "java/lang/invoke/VarHandle") ∧ (parseMethodDescriptor yX11_playSpots.desc).map (fun d => d.parameters.length) = some 0 := by decide +kernel
theorem ydX11_requireRange : (yX11_requireRange.cls ≠ "java/lang/invoke/MethodHandle" ∧ yX11_requireRange.cls ≠ "java/lang/invoke/VarHandle") ∧ (parseMethodDescriptor yX11_requireRange.desc).map (fun d => d.parameters.length) = some 3 := by decide +kernel
theorem ydX11_runGenerators : (yX11_runGenerators.cls ≠ "java/lang/invoke/MethodHandle" ∧ yX11_runGenerators.cls ≠ "java/lang/invoke/VarHandle") ∧ (parseMethodDescriptor yX11_runGenerators.desc).map (fun d => d.parameters.length) = some 0 := by decide +kernel
theorem ydX11_speak : (yX11_speak.cls ≠ "java/lang/invoke/MethodHandle" ∧ yX11_speak.cls ≠ "java/lang/invoke/VarHandle") ∧ (parseMethodDescriptor yX11_speak.desc).map (fun d => d.parameters.length) = some 0 := by decide +kernel
theorem ydX11_strongestHeard : (yX11_strongestHeard.cls ≠ "java/lang/invoke/MethodHandle" ∧ yX11_strongestHeard.cls ≠ "java/lang/invoke/VarHandle") ∧ (parseMethodDescriptor yX11_strongestHeard.desc).map (fun d => d.parameters.length) = some 1 := by decide +kernel
theorem ydX3_keep : (yX3_keep.cls ≠ "java/lang/invoke/MethodHandle" ∧ yX3_keep.cls ≠ "java/lang/invoke/VarHandle") ∧ (parseMethodDescriptor yX3_keep.desc).map (fun d => d.parameters.length) = some 5 := by decide +kernel
theorem dX11_pass_0 : decode cX11_pass 0 = .ok (.iload_n 1, 1) := by decide +kernel
theorem dX11_pass_1 : decode cX11_pass 1 = .ok (.iconst 1, 1) := by decide +kernel
theorem dX11_pass_2 : decode cX11_pass 2 = .ok (.bipush 96, 2) := by decide +kernel
theorem dX11_pass_4 : decode cX11_pass 4 = .ok (.invokestatic 40, 3) := by decide +kernel
theorem dX11_pass_7 : decode cX11_pass 7 = .ok (.iconst 0, 1) := by decide +kernel
theorem dX11_pass_8 : decode cX11_pass 8 = .ok (.istore_n 2, 1) := by decide +kernel
theorem dX11_pass_9 : decode cX11_pass 9 = .ok (.iload_n 2, 1) := by decide +kernel
theorem dX11_pass_10 : decode cX11_pass 10 = .ok (.iload_n 1, 1) := by decide +kernel
theorem dX11_pass_11 : decode cX11_pass 11 = .ok (.if_icmp .ge 13, 3) := by decide +kernel
theorem dX11_pass_14 : decode cX11_pass 14 = .ok (.aload_n 0, 1) := by decide +kernel
theorem dX11_pass_15 : decode cX11_pass 15 = .ok (.invokevirtual 99, 3) := by decide +kernel
theorem dX11_pass_18 : decode cX11_pass 18 = .ok (.iinc 2 1, 3) := by decide +kernel
theorem dX11_pass_21 : decode cX11_pass 21 = .ok (.goto (-12), 3) := by decide +kernel
theorem dX11_pass_24 : decode cX11_pass 24 = .ok (.aload_n 0, 1) := by decide +kernel
theorem dX11_pass_25 : decode cX11_pass 25 = .ok (.getfield 63, 3) := by decide +kernel
theorem dX11_pass_28 : decode cX11_pass 28 = .ok (.ireturn, 1) := by decide +kernel
theorem dX11_requireRange_0 : decode cX11_requireRange 0 = .ok (.iload_n 0, 1) := by decide +kernel
theorem dX11_requireRange_1 : decode cX11_requireRange 1 = .ok (.iload_n 1, 1) := by decide +kernel
theorem dX11_requireRange_2 : decode cX11_requireRange 2 = .ok (.if_icmp .lt 8, 3) := by decide +kernel
theorem dX11_requireRange_5 : decode cX11_requireRange 5 = .ok (.iload_n 0, 1) := by decide +kernel
theorem dX11_requireRange_6 : decode cX11_requireRange 6 = .ok (.iload_n 2, 1) := by decide +kernel
theorem dX11_requireRange_7 : decode cX11_requireRange 7 = .ok (.if_icmp .le 14, 3) := by decide +kernel
theorem dX11_requireRange_21 : decode cX11_requireRange 21 = .ok (.return_, 1) := by decide +kernel
theorem dX11_passHour_0 : decode cX11_passHour 0 = .ok (.aload_n 0, 1) := by decide +kernel
theorem dX11_passHour_1 : decode cX11_passHour 1 = .ok (.invokevirtual 437, 3) := by decide +kernel
theorem dX11_passHour_4 : decode cX11_passHour 4 = .ok (.aload_n 0, 1) := by decide +kernel
theorem dX11_passHour_5 : decode cX11_passHour 5 = .ok (.invokevirtual 440, 3) := by decide +kernel
theorem dX11_passHour_8 : decode cX11_passHour 8 = .ok (.aload_n 0, 1) := by decide +kernel
theorem dX11_passHour_9 : decode cX11_passHour 9 = .ok (.invokevirtual 443, 3) := by decide +kernel
theorem dX11_passHour_12 : decode cX11_passHour 12 = .ok (.aload_n 0, 1) := by decide +kernel
theorem dX11_passHour_13 : decode cX11_passHour 13 = .ok (.invokevirtual 446, 3) := by decide +kernel
theorem dX11_passHour_16 : decode cX11_passHour 16 = .ok (.aload_n 0, 1) := by decide +kernel
theorem dX11_passHour_17 : decode cX11_passHour 17 = .ok (.invokevirtual 449, 3) := by decide +kernel
theorem dX11_passHour_20 : decode cX11_passHour 20 = .ok (.aload_n 0, 1) := by decide +kernel
theorem dX11_passHour_21 : decode cX11_passHour 21 = .ok (.invokevirtual 452, 3) := by decide +kernel
theorem dX11_passHour_24 : decode cX11_passHour 24 = .ok (.aload_n 0, 1) := by decide +kernel
theorem dX11_passHour_25 : decode cX11_passHour 25 = .ok (.invokevirtual 455, 3) := by decide +kernel
theorem dX11_passHour_28 : decode cX11_passHour 28 = .ok (.aload_n 0, 1) := by decide +kernel
theorem dX11_passHour_29 : decode cX11_passHour 29 = .ok (.invokevirtual 458, 3) := by decide +kernel
theorem dX11_passHour_32 : decode cX11_passHour 32 = .ok (.aload_n 0, 1) := by decide +kernel
theorem dX11_passHour_33 : decode cX11_passHour 33 = .ok (.invokevirtual 461, 3) := by decide +kernel
theorem dX11_passHour_36 : decode cX11_passHour 36 = .ok (.aload_n 0, 1) := by decide +kernel
theorem dX11_passHour_37 : decode cX11_passHour 37 = .ok (.dup, 1) := by decide +kernel
theorem dX11_passHour_38 : decode cX11_passHour 38 = .ok (.getfield 63, 3) := by decide +kernel
theorem dX11_passHour_41 : decode cX11_passHour 41 = .ok (.iconst 1, 1) := by decide +kernel
theorem dX11_passHour_42 : decode cX11_passHour 42 = .ok (.iadd, 1) := by decide +kernel
theorem dX11_passHour_43 : decode cX11_passHour 43 = .ok (.putfield 63, 3) := by decide +kernel
theorem dX11_passHour_46 : decode cX11_passHour 46 = .ok (.return_, 1) := by decide +kernel
theorem dX11_listen_0 : decode cX11_listen 0 = .ok (.iconst 0, 1) := by decide +kernel
theorem dX11_listen_1 : decode cX11_listen 1 = .ok (.istore_n 1, 1) := by decide +kernel
theorem dX11_listen_2 : decode cX11_listen 2 = .ok (.iload_n 1, 1) := by decide +kernel
theorem dX11_listen_3 : decode cX11_listen 3 = .ok (.aload_n 0, 1) := by decide +kernel
theorem dX11_listen_4 : decode cX11_listen 4 = .ok (.getfield 19, 3) := by decide +kernel
theorem dX11_listen_7 : decode cX11_listen 7 = .ok (.invokevirtual 44, 3) := by decide +kernel
theorem dX11_listen_10 : decode cX11_listen 10 = .ok (.if_icmp .ge 24, 3) := by decide +kernel
theorem dX11_listen_13 : decode cX11_listen 13 = .ok (.aload_n 0, 1) := by decide +kernel
theorem dX11_listen_14 : decode cX11_listen 14 = .ok (.getfield 19, 3) := by decide +kernel
theorem dX11_listen_17 : decode cX11_listen 17 = .ok (.iload_n 1, 1) := by decide +kernel
theorem dX11_listen_18 : decode cX11_listen 18 = .ok (.invokevirtual 169, 3) := by decide +kernel
theorem dX11_listen_21 : decode cX11_listen 21 = .ok (.checkcast 102, 3) := by decide +kernel
theorem dX11_listen_24 : decode cX11_listen 24 = .ok (.iconst 0, 1) := by decide +kernel
theorem dX11_listen_25 : decode cX11_listen 25 = .ok (.putfield 213, 3) := by decide +kernel
theorem dX11_listen_28 : decode cX11_listen 28 = .ok (.iinc 1 1, 3) := by decide +kernel
theorem dX11_listen_31 : decode cX11_listen 31 = .ok (.goto (-29), 3) := by decide +kernel
theorem dX11_listen_34 : decode cX11_listen 34 = .ok (.iconst 0, 1) := by decide +kernel
theorem dX11_listen_35 : decode cX11_listen 35 = .ok (.istore_n 1, 1) := by decide +kernel
theorem dX11_listen_36 : decode cX11_listen 36 = .ok (.iload_n 1, 1) := by decide +kernel
theorem dX11_listen_37 : decode cX11_listen 37 = .ok (.aload_n 0, 1) := by decide +kernel
theorem dX11_listen_38 : decode cX11_listen 38 = .ok (.getfield 16, 3) := by decide +kernel
theorem dX11_listen_41 : decode cX11_listen 41 = .ok (.invokevirtual 44, 3) := by decide +kernel
theorem dX11_listen_44 : decode cX11_listen 44 = .ok (.if_icmp .ge 77, 3) := by decide +kernel
theorem dX11_listen_47 : decode cX11_listen 47 = .ok (.aload_n 0, 1) := by decide +kernel
theorem dX11_listen_48 : decode cX11_listen 48 = .ok (.getfield 16, 3) := by decide +kernel
theorem dX11_listen_51 : decode cX11_listen 51 = .ok (.iload_n 1, 1) := by decide +kernel
theorem dX11_listen_52 : decode cX11_listen 52 = .ok (.invokevirtual 169, 3) := by decide +kernel
theorem dX11_listen_55 : decode cX11_listen 55 = .ok (.checkcast 94, 3) := by decide +kernel
theorem dX11_listen_58 : decode cX11_listen 58 = .ok (.astore_n 2, 1) := by decide +kernel
theorem dX11_listen_59 : decode cX11_listen 59 = .ok (.aload_n 2, 1) := by decide +kernel
theorem dX11_listen_60 : decode cX11_listen 60 = .ok (.aload_n 0, 1) := by decide +kernel
theorem dX11_listen_61 : decode cX11_listen 61 = .ok (.aload_n 2, 1) := by decide +kernel
theorem dX11_listen_62 : decode cX11_listen 62 = .ok (.invokevirtual 470, 3) := by decide +kernel
theorem dX11_listen_65 : decode cX11_listen 65 = .ok (.putfield 210, 3) := by decide +kernel
theorem dX11_listen_68 : decode cX11_listen 68 = .ok (.aload_n 2, 1) := by decide +kernel
theorem dX11_listen_69 : decode cX11_listen 69 = .ok (.getfield 210, 3) := by decide +kernel
theorem dX11_listen_72 : decode cX11_listen 72 = .ok (.ifCond .lt 43, 3) := by decide +kernel
theorem dX11_listen_75 : decode cX11_listen 75 = .ok (.aload_n 2, 1) := by decide +kernel
theorem dX11_listen_76 : decode cX11_listen 76 = .ok (.getfield 210, 3) := by decide +kernel
theorem dX11_listen_79 : decode cX11_listen 79 = .ok (.aload_n 0, 1) := by decide +kernel
theorem dX11_listen_80 : decode cX11_listen 80 = .ok (.getfield 19, 3) := by decide +kernel
theorem dX11_listen_83 : decode cX11_listen 83 = .ok (.invokevirtual 44, 3) := by decide +kernel
theorem dX11_listen_86 : decode cX11_listen 86 = .ok (.if_icmp .ge 29, 3) := by decide +kernel
theorem dX11_listen_89 : decode cX11_listen 89 = .ok (.aload_n 0, 1) := by decide +kernel
theorem dX11_listen_90 : decode cX11_listen 90 = .ok (.getfield 19, 3) := by decide +kernel
theorem dX11_listen_93 : decode cX11_listen 93 = .ok (.aload_n 2, 1) := by decide +kernel
theorem dX11_listen_94 : decode cX11_listen 94 = .ok (.getfield 210, 3) := by decide +kernel
theorem dX11_listen_97 : decode cX11_listen 97 = .ok (.invokevirtual 169, 3) := by decide +kernel
theorem dX11_listen_100 : decode cX11_listen 100 = .ok (.checkcast 102, 3) := by decide +kernel
theorem dX11_listen_103 : decode cX11_listen 103 = .ok (.dup, 1) := by decide +kernel
theorem dX11_listen_104 : decode cX11_listen 104 = .ok (.getfield 213, 3) := by decide +kernel
theorem dX11_listen_107 : decode cX11_listen 107 = .ok (.aload_n 2, 1) := by decide +kernel
theorem dX11_listen_108 : decode cX11_listen 108 = .ok (.getfield 474, 3) := by decide +kernel
theorem dX11_listen_111 : decode cX11_listen 111 = .ok (.iadd, 1) := by decide +kernel
theorem dX11_listen_112 : decode cX11_listen 112 = .ok (.putfield 213, 3) := by decide +kernel
theorem dX11_listen_115 : decode cX11_listen 115 = .ok (.iinc 1 1, 3) := by decide +kernel
theorem dX11_listen_118 : decode cX11_listen 118 = .ok (.goto (-82), 3) := by decide +kernel
theorem dX11_listen_121 : decode cX11_listen 121 = .ok (.return_, 1) := by decide +kernel
theorem dX11_keepHour_0 : decode cX11_keepHour 0 = .ok (.iconst 0, 1) := by decide +kernel
theorem dX11_keepHour_1 : decode cX11_keepHour 1 = .ok (.istore_n 1, 1) := by decide +kernel
theorem dX11_keepHour_2 : decode cX11_keepHour 2 = .ok (.iload_n 1, 1) := by decide +kernel
theorem dX11_keepHour_3 : decode cX11_keepHour 3 = .ok (.aload_n 0, 1) := by decide +kernel
theorem dX11_keepHour_4 : decode cX11_keepHour 4 = .ok (.getfield 19, 3) := by decide +kernel
theorem dX11_keepHour_7 : decode cX11_keepHour 7 = .ok (.invokevirtual 44, 3) := by decide +kernel
theorem dX11_keepHour_10 : decode cX11_keepHour 10 = .ok (.if_icmp .ge 55, 3) := by decide +kernel
theorem dX11_keepHour_13 : decode cX11_keepHour 13 = .ok (.aload_n 0, 1) := by decide +kernel
theorem dX11_keepHour_14 : decode cX11_keepHour 14 = .ok (.getfield 19, 3) := by decide +kernel
theorem dX11_keepHour_17 : decode cX11_keepHour 17 = .ok (.iload_n 1, 1) := by decide +kernel
theorem dX11_keepHour_18 : decode cX11_keepHour 18 = .ok (.invokevirtual 169, 3) := by decide +kernel
theorem dX11_keepHour_21 : decode cX11_keepHour 21 = .ok (.checkcast 102, 3) := by decide +kernel
theorem dX11_keepHour_24 : decode cX11_keepHour 24 = .ok (.astore_n 2, 1) := by decide +kernel
theorem dX11_keepHour_25 : decode cX11_keepHour 25 = .ok (.aload_n 2, 1) := by decide +kernel
theorem dX11_keepHour_26 : decode cX11_keepHour 26 = .ok (.getfield 199, 3) := by decide +kernel
theorem dX11_keepHour_29 : decode cX11_keepHour 29 = .ok (.ifCond .eq 30, 3) := by decide +kernel
theorem dX11_keepHour_32 : decode cX11_keepHour 32 = .ok (.aload_n 0, 1) := by decide +kernel
theorem dX11_keepHour_33 : decode cX11_keepHour 33 = .ok (.getfield 28, 3) := by decide +kernel
theorem dX11_keepHour_36 : decode cX11_keepHour 36 = .ok (.getfield 333, 3) := by decide +kernel
theorem dX11_keepHour_39 : decode cX11_keepHour 39 = .ok (.aload_n 0, 1) := by decide +kernel
theorem dX11_keepHour_40 : decode cX11_keepHour 40 = .ok (.getfield 63, 3) := by decide +kernel
theorem dX11_keepHour_43 : decode cX11_keepHour 43 = .ok (.iload_n 1, 1) := by decide +kernel
theorem dX11_keepHour_44 : decode cX11_keepHour 44 = .ok (.aload_n 2, 1) := by decide +kernel
theorem dX11_keepHour_45 : decode cX11_keepHour 45 = .ok (.getfield 196, 3) := by decide +kernel
theorem dX11_keepHour_48 : decode cX11_keepHour 48 = .ok (.aload_n 2, 1) := by decide +kernel
theorem dX11_keepHour_49 : decode cX11_keepHour 49 = .ok (.getfield 521, 3) := by decide +kernel
theorem dX11_keepHour_52 : decode cX11_keepHour 52 = .ok (.aload_n 2, 1) := by decide +kernel
theorem dX11_keepHour_53 : decode cX11_keepHour 53 = .ok (.getfield 290, 3) := by decide +kernel
theorem dX11_keepHour_56 : decode cX11_keepHour 56 = .ok (.invokevirtual 524, 3) := by decide +kernel
theorem dX11_keepHour_59 : decode cX11_keepHour 59 = .ok (.iinc 1 1, 3) := by decide +kernel
theorem dX11_keepHour_62 : decode cX11_keepHour 62 = .ok (.goto (-60), 3) := by decide +kernel
theorem dX11_keepHour_65 : decode cX11_keepHour 65 = .ok (.return_, 1) := by decide +kernel
