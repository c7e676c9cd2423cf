theorem kw_271 : Cond.fieldLink "java/lang/String" 38 "java/lang/String" "COMPACT_STRINGS" "Z" ∈ kw := kw_in (List.mem_append_right _ (tb8 _ (List.mem_of_getElem? (i := 71) (by decide +kernel)))) (by decide +kernel)
theorem kw_272 : Cond.fieldLink "java/lang/String" 15 "java/lang/String" "coder" "B" ∈ kw := kw_in (List.mem_append_right _ (tb10 _ (List.mem_of_getElem? (i := 104) (by decide +kernel)))) (by decide +kernel)
theorem kw_273 : Cond.fieldLink "java/lang/String" 9 "java/lang/String" "value" "[B" ∈ kw := kw_in (List.mem_append_right _ (tb10 _ (List.mem_of_getElem? (i := 105) (by decide +kernel)))) (by decide +kernel)
theorem kw_274 : Cond.code ⟨"java/lang/String", "coder", "()B"⟩ prog_29_method_152_code 1 (some .byte) ∈ kw := kw_in (List.mem_append_right _ (tb8 _ (List.mem_of_getElem? (i := 80) (by decide +kernel)))) (by decide +kernel)
theorem kw_275 : Cond.methodLink "java/lang/String" 335 ⟨"java/lang/String", "coder", "()B"⟩ ∈ kw := kw_in (List.mem_append_right _ (tb8 _ (List.mem_of_getElem? (i := 77) (by decide +kernel)))) (by decide +kernel)
theorem kw_276 : Cond.initialized "java/lang/String" ∈ kw := kw_in (List.mem_append_right _ (tb1 _ (List.mem_of_getElem? (i := 20) (by decide +kernel)))) (by decide +kernel)
theorem kw_277 : Cond.instanceMethod ⟨"java/lang/String", "coder", "()B"⟩ ∈ kw := kw_in (List.mem_append_right _ (tb8 _ (List.mem_of_getElem? (i := 78) (by decide +kernel)))) (by decide +kernel)
theorem kw_278 : Cond.selects "java/lang/String" ⟨"java/lang/String", "coder", "()B"⟩ ⟨"java/lang/String", "coder", "()B"⟩ ∈ kw := kw_in (List.mem_append_right _ (tb8 _ (List.mem_of_getElem? (i := 79) (by decide +kernel)))) (by decide +kernel)
theorem kw_279 : Cond.code ⟨"java/lang/StringLatin1", "canEncode", "(I)Z"⟩ prog_30_method_4_code 1 (some .boolean) ∈ kw := kw_in (List.mem_append_right _ (tb8 _ (List.mem_of_getElem? (i := 86) (by decide +kernel)))) (by decide +kernel)
theorem kw_280 : Cond.methodLink "java/lang/StringLatin1" 88 ⟨"java/lang/StringLatin1", "canEncode", "(I)Z"⟩ ∈ kw := kw_in (List.mem_append_right _ (tb8 _ (List.mem_of_getElem? (i := 84) (by decide +kernel)))) (by decide +kernel)
theorem kw_281 : Cond.initialized "java/lang/StringLatin1" ∈ kw := kw_in (List.mem_append_right _ (tb1 _ (List.mem_of_getElem? (i := 23) (by decide +kernel)))) (by decide +kernel)
theorem kw_282 : Cond.static ⟨"java/lang/StringLatin1", "canEncode", "(I)Z"⟩ ∈ kw := kw_in (List.mem_append_right _ (tb8 _ (List.mem_of_getElem? (i := 85) (by decide +kernel)))) (by decide +kernel)
theorem kw_283 : Cond.methodLink "java/lang/StringLatin1" 92 ⟨"java/lang/Math", "max", "(II)I"⟩ ∈ kw := kw_in (List.mem_append_right _ (tb8 _ (List.mem_of_getElem? (i := 87) (by decide +kernel)))) (by decide +kernel)
theorem kw_284 : Cond.methodLink "java/lang/StringLatin1" 38 ⟨"java/lang/Math", "min", "(II)I"⟩ ∈ kw := kw_in (List.mem_append_right _ (tb8 _ (List.mem_of_getElem? (i := 88) (by decide +kernel)))) (by decide +kernel)
theorem kw_285 : Cond.static ⟨"java/lang/Math", "min", "(II)I"⟩ ∈ kw := kw_in (List.mem_append_right _ (tb2 _ (List.mem_of_getElem? (i := 19) (by decide +kernel)))) (by decide +kernel)
theorem kw_286 : Cond.code ⟨"java/lang/Math", "min", "(II)I"⟩ prog_27_method_69_code 2 (some .int) ∈ kw := kw_in (List.mem_append_right _ (tb2 _ (List.mem_of_getElem? (i := 20) (by decide +kernel)))) (by decide +kernel)
theorem kw_287 : Cond.code ⟨"java/lang/StringLatin1", "indexOfChar", "([BIII)I"⟩ prog_30_method_23_code 6 (some .int) ∈ kw := kw_in (List.mem_append_right _ (tb8 _ (List.mem_of_getElem? (i := 91) (by decide +kernel)))) (by decide +kernel)
theorem kw_288 : Cond.methodLink "java/lang/StringLatin1" 95 ⟨"java/lang/StringLatin1", "indexOfChar", "([BIII)I"⟩ ∈ kw := kw_in (List.mem_append_right _ (tb8 _ (List.mem_of_getElem? (i := 89) (by decide +kernel)))) (by decide +kernel)
theorem kw_289 : Cond.static ⟨"java/lang/StringLatin1", "indexOfChar", "([BIII)I"⟩ ∈ kw := kw_in (List.mem_append_right _ (tb8 _ (List.mem_of_getElem? (i := 90) (by decide +kernel)))) (by decide +kernel)
theorem kw_290 : Cond.code ⟨"java/lang/String", "isLatin1", "()Z"⟩ prog_29_method_154_code 1 (some .boolean) ∈ kw := kw_in (List.mem_append_right _ (tb8 _ (List.mem_of_getElem? (i := 70) (by decide +kernel)))) (by decide +kernel)
theorem kw_291 : Cond.methodLink "java/lang/String" 492 ⟨"java/lang/String", "isLatin1", "()Z"⟩ ∈ kw := kw_in (List.mem_append_right _ (tb8 _ (List.mem_of_getElem? (i := 67) (by decide +kernel)))) (by decide +kernel)
theorem kw_292 : Cond.instanceMethod ⟨"java/lang/String", "isLatin1", "()Z"⟩ ∈ kw := kw_in (List.mem_append_right _ (tb8 _ (List.mem_of_getElem? (i := 68) (by decide +kernel)))) (by decide +kernel)
theorem kw_293 : Cond.selects "java/lang/String" ⟨"java/lang/String", "isLatin1", "()Z"⟩ ⟨"java/lang/String", "isLatin1", "()Z"⟩ ∈ kw := kw_in (List.mem_append_right _ (tb8 _ (List.mem_of_getElem? (i := 69) (by decide +kernel)))) (by decide +kernel)
theorem kw_294 : Cond.code ⟨"java/lang/String", "length", "()I"⟩ prog_29_method_54_code 1 (some .int) ∈ kw := kw_in (List.mem_append_right _ (tb8 _ (List.mem_of_getElem? (i := 76) (by decide +kernel)))) (by decide +kernel)
theorem kw_295 : Cond.methodLink "java/lang/String" 505 ⟨"java/lang/String", "length", "()I"⟩ ∈ kw := kw_in (List.mem_append_right _ (tb8 _ (List.mem_of_getElem? (i := 73) (by decide +kernel)))) (by decide +kernel)
theorem kw_296 : Cond.instanceMethod ⟨"java/lang/String", "length", "()I"⟩ ∈ kw := kw_in (List.mem_append_right _ (tb8 _ (List.mem_of_getElem? (i := 74) (by decide +kernel)))) (by decide +kernel)
theorem kw_297 : Cond.selects "java/lang/String" ⟨"java/lang/String", "length", "()I"⟩ ⟨"java/lang/String", "length", "()I"⟩ ∈ kw := kw_in (List.mem_append_right _ (tb8 _ (List.mem_of_getElem? (i := 75) (by decide +kernel)))) (by decide +kernel)
theorem kw_298 : Cond.code ⟨"java/lang/StringLatin1", "indexOf", "([BIII)I"⟩ prog_30_method_22_code 4 (some .int) ∈ kw := kw_in (List.mem_append_right _ (tb8 _ (List.mem_of_getElem? (i := 83) (by decide +kernel)))) (by decide +kernel)
theorem kw_299 : Cond.methodLink "java/lang/String" 637 ⟨"java/lang/StringLatin1", "indexOf", "([BIII)I"⟩ ∈ kw := kw_in (List.mem_append_right _ (tb8 _ (List.mem_of_getElem? (i := 81) (by decide +kernel)))) (by decide +kernel)
theorem kw_300 : Cond.static ⟨"java/lang/StringLatin1", "indexOf", "([BIII)I"⟩ ∈ kw := kw_in (List.mem_append_right _ (tb8 _ (List.mem_of_getElem? (i := 82) (by decide +kernel)))) (by decide +kernel)
theorem kw_301 : Cond.code ⟨"java/lang/String", "indexOf", "(II)I"⟩ prog_29_method_80_code 3 (some .int) ∈ kw := kw_in (List.mem_append_right _ (tb8 _ (List.mem_of_getElem? (i := 66) (by decide +kernel)))) (by decide +kernel)
theorem kw_302 : Cond.methodLink "java/lang/String" 633 ⟨"java/lang/String", "indexOf", "(II)I"⟩ ∈ kw := kw_in (List.mem_append_right _ (tb8 _ (List.mem_of_getElem? (i := 63) (by decide +kernel)))) (by decide +kernel)
theorem kw_303 : Cond.instanceMethod ⟨"java/lang/String", "indexOf", "(II)I"⟩ ∈ kw := kw_in (List.mem_append_right _ (tb8 _ (List.mem_of_getElem? (i := 64) (by decide +kernel)))) (by decide +kernel)
theorem kw_304 : Cond.selects "java/lang/String" ⟨"java/lang/String", "indexOf", "(II)I"⟩ ⟨"java/lang/String", "indexOf", "(II)I"⟩ ∈ kw := kw_in (List.mem_append_right _ (tb8 _ (List.mem_of_getElem? (i := 65) (by decide +kernel)))) (by decide +kernel)
theorem kw_305 : Cond.code ⟨"GalleonWaveModel", "isIn", "(III)Z"⟩ prog_14_method_4_code 3 (some .boolean) ∈ kw := kw_in (List.mem_append_right _ (tb8 _ (List.mem_of_getElem? (i := 32) (by decide +kernel)))) (by decide +kernel)
theorem kw_306 : Cond.methodLink "GalleonWaveModel" 167 ⟨"GalleonWaveModel", "isIn", "(III)Z"⟩ ∈ kw := kw_in (List.mem_append_right _ (tb8 _ (List.mem_of_getElem? (i := 30) (by decide +kernel)))) (by decide +kernel)
theorem kw_307 : Cond.initialized "GalleonWaveModel" ∈ kw := kw_in (List.mem_append_right _ (tb1 _ (List.mem_of_getElem? (i := 7) (by decide +kernel)))) (by decide +kernel)
theorem kw_308 : Cond.static ⟨"GalleonWaveModel", "isIn", "(III)Z"⟩ ∈ kw := kw_in (List.mem_append_right _ (tb8 _ (List.mem_of_getElem? (i := 31) (by decide +kernel)))) (by decide +kernel)
theorem kw_309 : Cond.fieldLink "GalleonWaveModel" 163 "GalleonWaveModel" "thrown" "I" ∈ kw := kw_in (List.mem_append_right _ (tb7 _ (List.mem_of_getElem? (i := 138) (by decide +kernel)))) (by decide +kernel)
theorem kw_310 : Cond.fieldLink "GalleonWaveModel" 181 "GalleonWaveModel" "lands" "I" ∈ kw := kw_in (List.mem_append_right _ (tb7 _ (List.mem_of_getElem? (i := 127) (by decide +kernel)))) (by decide +kernel)
theorem kw_311 : Cond.fieldLink "GalleonWaveModel" 184 "GalleonWaveModel" "ships" "I" ∈ kw := kw_in (List.mem_append_right _ (tb7 _ (List.mem_of_getElem? (i := 128) (by decide +kernel)))) (by decide +kernel)
theorem kw_312 : Cond.fieldLink "GalleonWaveModel" 232 "GalleonWaveModel" "towns" "I" ∈ kw := kw_in (List.mem_append_right _ (tb7 _ (List.mem_of_getElem? (i := 129) (by decide +kernel)))) (by decide +kernel)
theorem kw_313 : Cond.fieldLink "GalleonWaveModel" 257 "GalleonWaveModel" "people" "I" ∈ kw := kw_in (List.mem_append_right _ (tb7 _ (List.mem_of_getElem? (i := 130) (by decide +kernel)))) (by decide +kernel)
theorem kw_314 : Cond.fieldLink "GalleonWaveModel" 338 "GalleonWaveModel" "recordingMany" "I" ∈ kw := kw_in (List.mem_append_right _ (tb7 _ (List.mem_of_getElem? (i := 131) (by decide +kernel)))) (by decide +kernel)
theorem kw_315 : Cond.code ⟨"GalleonWaveModel", "isNoLand", "(I)Z"⟩ prog_14_method_7_code 2 (some .boolean) ∈ kw := kw_in (List.mem_append_right _ (tb8 _ (List.mem_of_getElem? (i := 44) (by decide +kernel)))) (by decide +kernel)
theorem kw_316 : Cond.methodLink "GalleonWaveModel" 195 ⟨"GalleonWaveModel", "isNoLand", "(I)Z"⟩ ∈ kw := kw_in (List.mem_append_right _ (tb8 _ (List.mem_of_getElem? (i := 41) (by decide +kernel)))) (by decide +kernel)
theorem kw_317 : Cond.instanceMethod ⟨"GalleonWaveModel", "isNoLand", "(I)Z"⟩ ∈ kw := kw_in (List.mem_append_right _ (tb8 _ (List.mem_of_getElem? (i := 43) (by decide +kernel)))) (by decide +kernel)
theorem kw_318 : Cond.selects "GalleonWaveModel" ⟨"GalleonWaveModel", "isNoLand", "(I)Z"⟩ ⟨"GalleonWaveModel", "isNoLand", "(I)Z"⟩ ∈ kw := kw_in (List.mem_append_left _ (List.mem_of_getElem? (i := 45) (by decide +kernel))) (by decide +kernel)
theorem kw_319 : Cond.code ⟨"GalleonWaveModel", "isThrown", "(ZI)Z"⟩ prog_14_method_3_code 3 (some .boolean) ∈ kw := kw_in (List.mem_append_right _ (tb8 _ (List.mem_of_getElem? (i := 36) (by decide +kernel)))) (by decide +kernel)
theorem kw_320 : Cond.methodLink "GalleonWaveModel" 191 ⟨"GalleonWaveModel", "isThrown", "(ZI)Z"⟩ ∈ kw := kw_in (List.mem_append_right _ (tb8 _ (List.mem_of_getElem? (i := 33) (by decide +kernel)))) (by decide +kernel)
theorem kw_321 : Cond.instanceMethod ⟨"GalleonWaveModel", "isThrown", "(ZI)Z"⟩ ∈ kw := kw_in (List.mem_append_right _ (tb8 _ (List.mem_of_getElem? (i := 35) (by decide +kernel)))) (by decide +kernel)
theorem kw_322 : Cond.selects "GalleonWaveModel" ⟨"GalleonWaveModel", "isThrown", "(ZI)Z"⟩ ⟨"GalleonWaveModel", "isThrown", "(ZI)Z"⟩ ∈ kw := kw_in (List.mem_append_left _ (List.mem_of_getElem? (i := 44) (by decide +kernel))) (by decide +kernel)
theorem kw_323 : Cond.code ⟨"GalleonWaveModel", "isNoShip", "(I)Z"⟩ prog_14_method_8_code 2 (some .boolean) ∈ kw := kw_in (List.mem_append_right _ (tb8 _ (List.mem_of_getElem? (i := 167) (by decide +kernel)))) (by decide +kernel)
theorem kw_324 : Cond.methodLink "GalleonWaveModel" 240 ⟨"GalleonWaveModel", "isNoShip", "(I)Z"⟩ ∈ kw := kw_in (List.mem_append_right _ (tb8 _ (List.mem_of_getElem? (i := 164) (by decide +kernel)))) (by decide +kernel)
theorem kw_325 : Cond.instanceMethod ⟨"GalleonWaveModel", "isNoShip", "(I)Z"⟩ ∈ kw := kw_in (List.mem_append_right _ (tb8 _ (List.mem_of_getElem? (i := 166) (by decide +kernel)))) (by decide +kernel)
theorem kw_326 : Cond.selects "GalleonWaveModel" ⟨"GalleonWaveModel", "isNoShip", "(I)Z"⟩ ⟨"GalleonWaveModel", "isNoShip", "(I)Z"⟩ ∈ kw := kw_in (List.mem_append_left _ (List.mem_of_getElem? (i := 47) (by decide +kernel))) (by decide +kernel)
theorem kw_327 : Cond.code ⟨"GalleonWaveModel", "isNoTown", "(I)Z"⟩ prog_14_method_53_code 2 (some .boolean) ∈ kw := kw_in (List.mem_append_right _ (tb9 _ (List.mem_of_getElem? (i := 94) (by decide +kernel)))) (by decide +kernel)
theorem kw_328 : Cond.methodLink "GalleonWaveModel" 329 ⟨"GalleonWaveModel", "isNoTown", "(I)Z"⟩ ∈ kw := kw_in (List.mem_append_right _ (tb9 _ (List.mem_of_getElem? (i := 91) (by decide +kernel)))) (by decide +kernel)
theorem kw_329 : Cond.instanceMethod ⟨"GalleonWaveModel", "isNoTown", "(I)Z"⟩ ∈ kw := kw_in (List.mem_append_right _ (tb9 _ (List.mem_of_getElem? (i := 93) (by decide +kernel)))) (by decide +kernel)
theorem kw_330 : Cond.selects "GalleonWaveModel" ⟨"GalleonWaveModel", "isNoTown", "(I)Z"⟩ ⟨"GalleonWaveModel", "isNoTown", "(I)Z"⟩ ∈ kw := kw_in (List.mem_append_left _ (List.mem_of_getElem? (i := 68) (by decide +kernel))) (by decide +kernel)
theorem kw_331 : Cond.code ⟨"GalleonWaveModel", "isNobody", "(I)Z"⟩ prog_14_method_57_code 2 (some .boolean) ∈ kw := kw_in (List.mem_append_right _ (tb9 _ (List.mem_of_getElem? (i := 114) (by decide +kernel)))) (by decide +kernel)
theorem kw_332 : Cond.methodLink "GalleonWaveModel" 332 ⟨"GalleonWaveModel", "isNobody", "(I)Z"⟩ ∈ kw := kw_in (List.mem_append_right _ (tb9 _ (List.mem_of_getElem? (i := 111) (by decide +kernel)))) (by decide +kernel)
theorem kw_333 : Cond.instanceMethod ⟨"GalleonWaveModel", "isNobody", "(I)Z"⟩ ∈ kw := kw_in (List.mem_append_right _ (tb9 _ (List.mem_of_getElem? (i := 113) (by decide +kernel)))) (by decide +kernel)
theorem kw_334 : Cond.selects "GalleonWaveModel" ⟨"GalleonWaveModel", "isNobody", "(I)Z"⟩ ⟨"GalleonWaveModel", "isNobody", "(I)Z"⟩ ∈ kw := kw_in (List.mem_append_left _ (List.mem_of_getElem? (i := 69) (by decide +kernel))) (by decide +kernel)
theorem kw_335 : Cond.code ⟨"GalleonWaveModel", "isNoRecording", "(I)Z"⟩ prog_14_method_77_code 2 (some .boolean) ∈ kw := kw_in (List.mem_append_right _ (tb9 _ (List.mem_of_getElem? (i := 190) (by decide +kernel)))) (by decide +kernel)
theorem kw_336 : Cond.methodLink "GalleonWaveModel" 344 ⟨"GalleonWaveModel", "isNoRecording", "(I)Z"⟩ ∈ kw := kw_in (List.mem_append_right _ (tb9 _ (List.mem_of_getElem? (i := 187) (by decide +kernel)))) (by decide +kernel)
theorem kw_337 : Cond.instanceMethod ⟨"GalleonWaveModel", "isNoRecording", "(I)Z"⟩ ∈ kw := kw_in (List.mem_append_right _ (tb9 _ (List.mem_of_getElem? (i := 189) (by decide +kernel)))) (by decide +kernel)
theorem kw_338 : Cond.selects "GalleonWaveModel" ⟨"GalleonWaveModel", "isNoRecording", "(I)Z"⟩ ⟨"GalleonWaveModel", "isNoRecording", "(I)Z"⟩ ∈ kw := kw_in (List.mem_append_left _ (List.mem_of_getElem? (i := 71) (by decide +kernel))) (by decide +kernel)
theorem kw_339 : Cond.code ⟨"GalleonWaveModel", "isPlace", "(II)Z"⟩ prog_14_method_5_code 2 (some .boolean) ∈ kw := kw_in (List.mem_append_right _ (tb8 _ (List.mem_of_getElem? (i := 29) (by decide +kernel)))) (by decide +kernel)
theorem kw_340 : Cond.methodLink "GalleonWaveModel" 187 ⟨"GalleonWaveModel", "isPlace", "(II)Z"⟩ ∈ kw := kw_in (List.mem_append_right _ (tb8 _ (List.mem_of_getElem? (i := 27) (by decide +kernel)))) (by decide +kernel)
theorem kw_341 : Cond.static ⟨"GalleonWaveModel", "isPlace", "(II)Z"⟩ ∈ kw := kw_in (List.mem_append_right _ (tb8 _ (List.mem_of_getElem? (i := 28) (by decide +kernel)))) (by decide +kernel)
theorem kw_342 : Cond.fieldLink "GalleonWaveModel" 11 "GalleonWaveModel" "landPlaces" "[[I" ∈ kw := kw_in (List.mem_append_right _ (tb7 _ (List.mem_of_getElem? (i := 80) (by decide +kernel)))) (by decide +kernel)
theorem kw_343 : Cond.fieldLink "GalleonWaveModel" 14 "GalleonWaveModel" "shallows" "[I" ∈ kw := kw_in (List.mem_append_right _ (tb7 _ (List.mem_of_getElem? (i := 81) (by decide +kernel)))) (by decide +kernel)
theorem kw_344 : Cond.fieldLink "GalleonWaveModel" 157 "GalleonWaveModel" "recordings" "[[I" ∈ kw := kw_in (List.mem_append_right _ (tb7 _ (List.mem_of_getElem? (i := 125) (by decide +kernel)))) (by decide +kernel)
theorem kw_345 : Cond.fieldLink "GalleonWaveModel" 226 "GalleonWaveModel" "tideEast" "I" ∈ kw := kw_in (List.mem_append_right _ (tb7 _ (List.mem_of_getElem? (i := 134) (by decide +kernel)))) (by decide +kernel)
theorem kw_346 : Cond.fieldLink "GalleonWaveModel" 229 "GalleonWaveModel" "tideNorth" "I" ∈ kw := kw_in (List.mem_append_right _ (tb7 _ (List.mem_of_getElem? (i := 135) (by decide +kernel)))) (by decide +kernel)
theorem kw_347 : Cond.code ⟨"java/lang/String", "indexOf", "(I)I"⟩ prog_29_method_79_code 2 (some .int) ∈ kw := kw_in (List.mem_append_right _ (tb8 _ (List.mem_of_getElem? (i := 62) (by decide +kernel)))) (by decide +kernel)
theorem kw_348 : Cond.methodLink "GalleonWaveModel" 215 ⟨"java/lang/String", "indexOf", "(I)I"⟩ ∈ kw := kw_in (List.mem_append_right _ (tb8 _ (List.mem_of_getElem? (i := 59) (by decide +kernel)))) (by decide +kernel)
theorem kw_349 : Cond.instanceMethod ⟨"java/lang/String", "indexOf", "(I)I"⟩ ∈ kw := kw_in (List.mem_append_right _ (tb8 _ (List.mem_of_getElem? (i := 60) (by decide +kernel)))) (by decide +kernel)
theorem kw_350 : Cond.selects "java/lang/String" ⟨"java/lang/String", "indexOf", "(I)I"⟩ ⟨"java/lang/String", "indexOf", "(I)I"⟩ ∈ kw := kw_in (List.mem_append_right _ (tb8 _ (List.mem_of_getElem? (i := 61) (by decide +kernel)))) (by decide +kernel)
theorem kw_351 : Cond.fieldLink "GalleonWaveModel" 220 "GalleonWaveModel" "windForce" "I" ∈ kw := kw_in (List.mem_append_right _ (tb7 _ (List.mem_of_getElem? (i := 132) (by decide +kernel)))) (by decide +kernel)
theorem kw_352 : Cond.fieldLink "GalleonWaveModel" 223 "GalleonWaveModel" "windWay" "I" ∈ kw := kw_in (List.mem_append_right _ (tb7 _ (List.mem_of_getElem? (i := 133) (by decide +kernel)))) (by decide +kernel)
theorem kw_353 : Cond.fieldLink "GalleonWaveModel" 41 "GalleonWaveModel" "places" "[[I" ∈ kw := kw_in (List.mem_append_right _ (tb7 _ (List.mem_of_getElem? (i := 89) (by decide +kernel)))) (by decide +kernel)
theorem kw_354 : Cond.fieldLink "GalleonWaveModel" 44 "GalleonWaveModel" "anchored" "[[I" ∈ kw := kw_in (List.mem_append_right _ (tb7 _ (List.mem_of_getElem? (i := 90) (by decide +kernel)))) (by decide +kernel)
theorem kw_355 : Cond.methodLink "GalleonWaveModel" 235 ⟨"[I", "clone", "()Ljava/lang/Object;"⟩ ∈ kw := kw_in (List.mem_append_right _ (tb8 _ (List.mem_of_getElem? (i := 153) (by decide +kernel)))) (by decide +kernel)
theorem kw_356 : Cond.sameMethod "[I" "java/lang/Object" "clone" "()Ljava/lang/Object;" ∈ kw := kw_in (List.mem_append_right _ (tb8 _ (List.mem_of_getElem? (i := 154) (by decide +kernel)))) (by decide +kernel)
theorem kw_357 : Cond.native ⟨"java/lang/Object", "clone", "()Ljava/lang/Object;"⟩ ∈ kw := kw_in (List.mem_append_right _ (tb8 _ (List.mem_of_getElem? (i := 155) (by decide +kernel)))) (by decide +kernel)
theorem kw_358 : Cond.instanceMethod ⟨"java/lang/Object", "clone", "()Ljava/lang/Object;"⟩ ∈ kw := kw_in (List.mem_append_right _ (tb8 _ (List.mem_of_getElem? (i := 156) (by decide +kernel)))) (by decide +kernel)
theorem kw_359 : Cond.selects "[I" ⟨"[I", "clone", "()Ljava/lang/Object;"⟩ ⟨"java/lang/Object", "clone", "()Ljava/lang/Object;"⟩ ∈ kw := kw_in (List.mem_append_right _ (tb8 _ (List.mem_of_getElem? (i := 157) (by decide +kernel)))) (by decide +kernel)
theorem kw_360 : Cond.castable "[I" "java/lang/Cloneable" ∈ kw := kw_in (List.mem_append_right _ (tb8 _ (List.mem_of_getElem? (i := 158) (by decide +kernel)))) (by decide +kernel)
theorem kw_361 : Cond.classLink "GalleonWaveModel" 236 "[I" ∈ kw := kw_in (List.mem_append_right _ (tb8 _ (List.mem_of_getElem? (i := 159) (by decide +kernel)))) (by decide +kernel)
theorem kw_362 : Cond.fieldLink "GalleonWaveModel" 69 "GalleonWaveModel" "channels" "[I" ∈ kw := kw_in (List.mem_append_right _ (tb7 _ (List.mem_of_getElem? (i := 98) (by decide +kernel)))) (by decide +kernel)
theorem kw_363 : Cond.fieldLink "GalleonWaveModel" 101 "GalleonWaveModel" "lastTapes" "[I" ∈ kw := kw_in (List.mem_append_right _ (tb7 _ (List.mem_of_getElem? (i := 108) (by decide +kernel)))) (by decide +kernel)
theorem kw_364 : Cond.fieldLink "GalleonWaveModel" 107 "GalleonWaveModel" "soldDays" "[I" ∈ kw := kw_in (List.mem_append_right _ (tb7 _ (List.mem_of_getElem? (i := 110) (by decide +kernel)))) (by decide +kernel)
theorem kw_365 : Cond.fieldLink "GalleonWaveModel" 98 "GalleonWaveModel" "plans" "[[I" ∈ kw := kw_in (List.mem_append_right _ (tb7 _ (List.mem_of_getElem? (i := 107) (by decide +kernel)))) (by decide +kernel)
theorem kw_366 : Cond.fieldLink "GalleonWaveModel" 199 "GalleonWaveModel" "hour" "I" ∈ kw := kw_in (List.mem_append_right _ (tb7 _ (List.mem_of_getElem? (i := 137) (by decide +kernel)))) (by decide +kernel)
theorem kw_367 : Cond.fieldLink "GalleonWaveModel" 254 "GalleonWaveModel" "money" "I" ∈ kw := kw_in (List.mem_append_right _ (tb7 _ (List.mem_of_getElem? (i := 136) (by decide +kernel)))) (by decide +kernel)
theorem kw_368 : Cond.fieldLink "GalleonWaveModel" 153 "GalleonWaveModel" "chronicle" "Ljava/util/ArrayList;" ∈ kw := kw_in (List.mem_append_right _ (tb7 _ (List.mem_of_getElem? (i := 124) (by decide +kernel)))) (by decide +kernel)
theorem kw_369 : Cond.methodLink "GalleonWaveModel" 293 ⟨"java/util/ArrayList", "size", "()I"⟩ ∈ kw := kw_in (List.mem_append_right _ (tb9 _ (List.mem_of_getElem? (i := 61) (by decide +kernel)))) (by decide +kernel)
theorem kw_370 : Cond.constantLong "GalleonWaveModel" 383 7 ∈ kw := kw_in (List.mem_append_right _ (tb10 _ (List.mem_of_getElem? (i := 57) (by decide +kernel)))) (by decide +kernel)
theorem kw_371 : Cond.constantLong "GalleonWaveModel" 385 31 ∈ kw := kw_in (List.mem_append_right _ (tb10 _ (List.mem_of_getElem? (i := 58) (by decide +kernel)))) (by decide +kernel)
theorem kw_372 : Cond.code ⟨"java/util/ArrayList", "isEmpty", "()Z"⟩ prog_39_method_9_code 1 (some .boolean) ∈ kw := kw_in (List.mem_append_right _ (tb9 _ (List.mem_of_getElem? (i := 231) (by decide +kernel)))) (by decide +kernel)
theorem kw_373 : Cond.methodLink "GalleonWaveModel" 368 ⟨"java/util/ArrayList", "isEmpty", "()Z"⟩ ∈ kw := kw_in (List.mem_append_right _ (tb9 _ (List.mem_of_getElem? (i := 228) (by decide +kernel)))) (by decide +kernel)
theorem kw_374 : Cond.instanceMethod ⟨"java/util/ArrayList", "isEmpty", "()Z"⟩ ∈ kw := kw_in (List.mem_append_right _ (tb9 _ (List.mem_of_getElem? (i := 229) (by decide +kernel)))) (by decide +kernel)
theorem kw_375 : Cond.selects "java/util/ArrayList" ⟨"java/util/ArrayList", "isEmpty", "()Z"⟩ ⟨"java/util/ArrayList", "isEmpty", "()Z"⟩ ∈ kw := kw_in (List.mem_append_right _ (tb9 _ (List.mem_of_getElem? (i := 230) (by decide +kernel)))) (by decide +kernel)
theorem kw_376 : Cond.methodLink "GalleonWaveModel" 1 ⟨"java/lang/Object", "<init>", "()V"⟩ ∈ kw := kw_in (List.mem_append_right _ (tb7 _ (List.mem_of_getElem? (i := 71) (by decide +kernel)))) (by decide +kernel)
theorem kw_377 : Cond.classLink "GalleonWaveModel" 9 "[[I" ∈ kw := kw_in (List.mem_append_right _ (tb7 _ (List.mem_of_getElem? (i := 72) (by decide +kernel)))) (by decide +kernel)
theorem kw_378 : Cond.classLink "GalleonWaveModel" 18 "[[[I" ∈ kw := kw_in (List.mem_append_right _ (tb7 _ (List.mem_of_getElem? (i := 74) (by decide +kernel)))) (by decide +kernel)
theorem kw_379 : Cond.fieldLink "GalleonWaveModel" 20 "GalleonWaveModel" "acts" "[[[I" ∈ kw := kw_in (List.mem_append_right _ (tb7 _ (List.mem_of_getElem? (i := 82) (by decide +kernel)))) (by decide +kernel)
theorem kw_380 : Cond.fieldLink "GalleonWaveModel" 23 "GalleonWaveModel" "actMany" "[I" ∈ kw := kw_in (List.mem_append_right _ (tb7 _ (List.mem_of_getElem? (i := 83) (by decide +kernel)))) (by decide +kernel)
theorem kw_381 : Cond.fieldLink "GalleonWaveModel" 26 "GalleonWaveModel" "evidence" "[I" ∈ kw := kw_in (List.mem_append_right _ (tb7 _ (List.mem_of_getElem? (i := 84) (by decide +kernel)))) (by decide +kernel)
theorem kw_382 : Cond.fieldLink "GalleonWaveModel" 29 "GalleonWaveModel" "loadFuel" "[I" ∈ kw := kw_in (List.mem_append_right _ (tb7 _ (List.mem_of_getElem? (i := 85) (by decide +kernel)))) (by decide +kernel)
theorem kw_383 : Cond.fieldLink "GalleonWaveModel" 32 "GalleonWaveModel" "loadFood" "[I" ∈ kw := kw_in (List.mem_append_right _ (tb7 _ (List.mem_of_getElem? (i := 86) (by decide +kernel)))) (by decide +kernel)
theorem kw_384 : Cond.fieldLink "GalleonWaveModel" 35 "GalleonWaveModel" "loadCrystal" "[I" ∈ kw := kw_in (List.mem_append_right _ (tb7 _ (List.mem_of_getElem? (i := 87) (by decide +kernel)))) (by decide +kernel)
theorem kw_385 : Cond.fieldLink "GalleonWaveModel" 38 "GalleonWaveModel" "booked" "[I" ∈ kw := kw_in (List.mem_append_right _ (tb7 _ (List.mem_of_getElem? (i := 88) (by decide +kernel)))) (by decide +kernel)
theorem kw_386 : Cond.fieldLink "GalleonWaveModel" 47 "GalleonWaveModel" "areDown" "[Z" ∈ kw := kw_in (List.mem_append_right _ (tb7 _ (List.mem_of_getElem? (i := 91) (by decide +kernel)))) (by decide +kernel)
theorem kw_387 : Cond.fieldLink "GalleonWaveModel" 51 "GalleonWaveModel" "holds" "[I" ∈ kw := kw_in (List.mem_append_right _ (tb7 _ (List.mem_of_getElem? (i := 92) (by decide +kernel)))) (by decide +kernel)
theorem kw_388 : Cond.fieldLink "GalleonWaveModel" 54 "GalleonWaveModel" "downSince" "[I" ∈ kw := kw_in (List.mem_append_right _ (tb7 _ (List.mem_of_getElem? (i := 93) (by decide +kernel)))) (by decide +kernel)
theorem kw_389 : Cond.fieldLink "GalleonWaveModel" 57 "GalleonWaveModel" "fuels" "[I" ∈ kw := kw_in (List.mem_append_right _ (tb7 _ (List.mem_of_getElem? (i := 94) (by decide +kernel)))) (by decide +kernel)
theorem kw_390 : Cond.fieldLink "GalleonWaveModel" 60 "GalleonWaveModel" "foods" "[I" ∈ kw := kw_in (List.mem_append_right _ (tb7 _ (List.mem_of_getElem? (i := 95) (by decide +kernel)))) (by decide +kernel)
theorem kw_391 : Cond.fieldLink "GalleonWaveModel" 63 "GalleonWaveModel" "salts" "[I" ∈ kw := kw_in (List.mem_append_right _ (tb7 _ (List.mem_of_getElem? (i := 96) (by decide +kernel)))) (by decide +kernel)
theorem kw_392 : Cond.fieldLink "GalleonWaveModel" 66 "GalleonWaveModel" "powers" "[I" ∈ kw := kw_in (List.mem_append_right _ (tb7 _ (List.mem_of_getElem? (i := 97) (by decide +kernel)))) (by decide +kernel)
theorem kw_393 : Cond.fieldLink "GalleonWaveModel" 72 "GalleonWaveModel" "generators" "[I" ∈ kw := kw_in (List.mem_append_right _ (tb7 _ (List.mem_of_getElem? (i := 99) (by decide +kernel)))) (by decide +kernel)
theorem kw_394 : Cond.fieldLink "GalleonWaveModel" 75 "GalleonWaveModel" "genPowers" "[[I" ∈ kw := kw_in (List.mem_append_right _ (tb7 _ (List.mem_of_getElem? (i := 100) (by decide +kernel)))) (by decide +kernel)
theorem kw_395 : Cond.fieldLink "GalleonWaveModel" 78 "GalleonWaveModel" "genLives" "[[I" ∈ kw := kw_in (List.mem_append_right _ (tb7 _ (List.mem_of_getElem? (i := 101) (by decide +kernel)))) (by decide +kernel)
theorem kw_396 : Cond.fieldLink "GalleonWaveModel" 81 "GalleonWaveModel" "genHours" "[[I" ∈ kw := kw_in (List.mem_append_right _ (tb7 _ (List.mem_of_getElem? (i := 102) (by decide +kernel)))) (by decide +kernel)
theorem kw_397 : Cond.classLink "GalleonWaveModel" 84 "[[Z" ∈ kw := kw_in (List.mem_append_right _ (tb7 _ (List.mem_of_getElem? (i := 76) (by decide +kernel)))) (by decide +kernel)
theorem kw_398 : Cond.fieldLink "GalleonWaveModel" 86 "GalleonWaveModel" "areOn" "[[Z" ∈ kw := kw_in (List.mem_append_right _ (tb7 _ (List.mem_of_getElem? (i := 103) (by decide +kernel)))) (by decide +kernel)
theorem kw_399 : Cond.fieldLink "GalleonWaveModel" 89 "GalleonWaveModel" "ran" "[I" ∈ kw := kw_in (List.mem_append_right _ (tb7 _ (List.mem_of_getElem? (i := 104) (by decide +kernel)))) (by decide +kernel)
theorem kw_400 : Cond.fieldLink "GalleonWaveModel" 92 "GalleonWaveModel" "hungers" "[I" ∈ kw := kw_in (List.mem_append_right _ (tb7 _ (List.mem_of_getElem? (i := 105) (by decide +kernel)))) (by decide +kernel)
theorem kw_401 : Cond.fieldLink "GalleonWaveModel" 95 "GalleonWaveModel" "areMutinies" "[Z" ∈ kw := kw_in (List.mem_append_right _ (tb7 _ (List.mem_of_getElem? (i := 106) (by decide +kernel)))) (by decide +kernel)
theorem kw_402 : Cond.fieldLink "GalleonWaveModel" 104 "GalleonWaveModel" "spots" "[I" ∈ kw := kw_in (List.mem_append_right _ (tb7 _ (List.mem_of_getElem? (i := 109) (by decide +kernel)))) (by decide +kernel)
theorem kw_403 : Cond.fieldLink "GalleonWaveModel" 110 "GalleonWaveModel" "sold" "[I" ∈ kw := kw_in (List.mem_append_right _ (tb7 _ (List.mem_of_getElem? (i := 111) (by decide +kernel)))) (by decide +kernel)
theorem kw_404 : Cond.fieldLink "GalleonWaveModel" 113 "GalleonWaveModel" "earned" "[I" ∈ kw := kw_in (List.mem_append_right _ (tb7 _ (List.mem_of_getElem? (i := 112) (by decide +kernel)))) (by decide +kernel)
theorem kw_405 : Cond.fieldLink "GalleonWaveModel" 116 "GalleonWaveModel" "areOnAir" "[Z" ∈ kw := kw_in (List.mem_append_right _ (tb7 _ (List.mem_of_getElem? (i := 113) (by decide +kernel)))) (by decide +kernel)
theorem kw_406 : Cond.fieldLink "GalleonWaveModel" 119 "GalleonWaveModel" "listeners" "[I" ∈ kw := kw_in (List.mem_append_right _ (tb7 _ (List.mem_of_getElem? (i := 114) (by decide +kernel)))) (by decide +kernel)
theorem kw_407 : Cond.fieldLink "GalleonWaveModel" 122 "GalleonWaveModel" "speakers" "[I" ∈ kw := kw_in (List.mem_append_right _ (tb7 _ (List.mem_of_getElem? (i := 115) (by decide +kernel)))) (by decide +kernel)
theorem kw_408 : Cond.fieldLink "GalleonWaveModel" 125 "GalleonWaveModel" "townPlaces" "[[I" ∈ kw := kw_in (List.mem_append_right _ (tb7 _ (List.mem_of_getElem? (i := 116) (by decide +kernel)))) (by decide +kernel)
theorem kw_409 : Cond.fieldLink "GalleonWaveModel" 128 "GalleonWaveModel" "townLands" "[I" ∈ kw := kw_in (List.mem_append_right _ (tb7 _ (List.mem_of_getElem? (i := 117) (by decide +kernel)))) (by decide +kernel)
theorem kw_410 : Cond.fieldLink "GalleonWaveModel" 131 "GalleonWaveModel" "thousands" "[I" ∈ kw := kw_in (List.mem_append_right _ (tb7 _ (List.mem_of_getElem? (i := 118) (by decide +kernel)))) (by decide +kernel)
theorem kw_411 : Cond.fieldLink "GalleonWaveModel" 134 "GalleonWaveModel" "heard" "[I" ∈ kw := kw_in (List.mem_append_right _ (tb7 _ (List.mem_of_getElem? (i := 119) (by decide +kernel)))) (by decide +kernel)
theorem kw_412 : Cond.fieldLink "GalleonWaveModel" 137 "GalleonWaveModel" "personLands" "[I" ∈ kw := kw_in (List.mem_append_right _ (tb7 _ (List.mem_of_getElem? (i := 120) (by decide +kernel)))) (by decide +kernel)
theorem kw_413 : Cond.arrayClass .char ∈ kw := kw_in (List.mem_append_right _ (tb8 _ (List.mem_of_getElem? (i := 18) (by decide +kernel)))) (by decide +kernel)
theorem kw_414 : Cond.fieldLink "GalleonWaveModel" 140 "GalleonWaveModel" "personKinds" "[C" ∈ kw := kw_in (List.mem_append_right _ (tb7 _ (List.mem_of_getElem? (i := 121) (by decide +kernel)))) (by decide +kernel)
theorem kw_415 : Cond.fieldLink "GalleonWaveModel" 144 "GalleonWaveModel" "aboard" "[I" ∈ kw := kw_in (List.mem_append_right _ (tb7 _ (List.mem_of_getElem? (i := 122) (by decide +kernel)))) (by decide +kernel)
theorem kw_416 : Cond.fieldLink "GalleonWaveModel" 147 "GalleonWaveModel" "hoursAboard" "[I" ∈ kw := kw_in (List.mem_append_right _ (tb7 _ (List.mem_of_getElem? (i := 123) (by decide +kernel)))) (by decide +kernel)
theorem kw_417 : Cond.classLink "GalleonWaveModel" 150 "java/util/ArrayList" ∈ kw := kw_in (List.mem_append_right _ (tb7 _ (List.mem_of_getElem? (i := 78) (by decide +kernel)))) (by decide +kernel)
theorem kw_418 : Cond.methodLink "GalleonWaveModel" 152 ⟨"java/util/ArrayList", "<init>", "()V"⟩ ∈ kw := kw_in (List.mem_append_right _ (tb7 _ (List.mem_of_getElem? (i := 79) (by decide +kernel)))) (by decide +kernel)
theorem kw_419 : Cond.fieldLink "GalleonWaveModel" 160 "GalleonWaveModel" "areAhead" "[[Z" ∈ kw := kw_in (List.mem_append_right _ (tb7 _ (List.mem_of_getElem? (i := 126) (by decide +kernel)))) (by decide +kernel)
theorem inX12 : ∀ w ∈ u_ws RX12 TX12 59, w ∈ kw := fun w h => kw_in ((by decide +kernel : ∀ w ∈ u_ws RX12 TX12 59, w ∈ lw_tbl) w h) ((by decide +kernel : ∀ w ∈ u_ws RX12 TX12 59, kok w = true) w h)
theorem ydJ0_coder_7d493 : (yJ0_coder_7d493.cls ≠ "java/lang/invoke/MethodHandle" ∧ yJ0_coder_7d493.cls ≠ "java/lang/invoke/VarHandle") ∧ (parseMethodDescriptor yJ0_coder_7d493.desc).map (fun d => d.parameters.length) = some 0 := by decide +kernel
theorem ydJ0_indexOf_0f7a4 : (yJ0_indexOf_0f7a4.cls ≠ "java/lang/invoke/MethodHandle" ∧ yJ0_indexOf_0f7a4.cls ≠ "java/lang/invoke/VarHandle") ∧ (parseMethodDescriptor yJ0_indexOf_0f7a4.desc).map (fun d => d.parameters.length) = some 1 := by decide +kernel
theorem ydJ0_indexOf_7cf53 : (yJ0_indexOf_7cf53.cls ≠ "java/lang/invoke/MethodHandle" ∧ yJ0_indexOf_7cf53.cls ≠ "java/lang/invoke/VarHandle") ∧ (parseMethodDescriptor yJ0_indexOf_7cf53.desc).map (fun d => d.parameters.length) = some 2 := by decide +kernel
theorem ydJ0_isLatin1_aae02 : (yJ0_isLatin1_aae02.cls ≠ "java/lang/invoke/MethodHandle" ∧ yJ0_isLatin1_aae02.cls ≠ "java/lang/invoke/VarHandle") ∧ (parseMethodDescriptor yJ0_isLatin1_aae02.desc).map (fun d => d.parameters.length) = some 0 := by decide +kernel
theorem ydJ0_length_8abf5 : (yJ0_length_8abf5.cls ≠ "java/lang/invoke/MethodHandle" ∧ yJ0_length_8abf5.cls ≠ "java/lang/invoke/VarHandle") ∧ (parseMethodDescriptor yJ0_length_8abf5.desc).map (fun d => d.parameters.length) = some 0 := by decide +kernel
theorem ydJ1_canEncode_9a6ad : (yJ1_canEncode_9a6ad.cls ≠ "java/lang/invoke/MethodHandle" ∧ yJ1_canEncode_9a6ad.cls ≠ "java/lang/invoke/VarHandle") ∧ (parseMethodDescriptor yJ1_canEncode_9a6ad.desc).map (fun d => d.parameters.length) = some 1 := by decide +kernel
theorem ydJ1_indexOfChar_4cfef : (yJ1_indexOfChar_4cfef.cls ≠ "java/lang/invoke/MethodHandle" ∧ yJ1_indexOfChar_4cfef.cls ≠ "java/lang/invoke/VarHandle") ∧ (parseMethodDescriptor yJ1_indexOfChar_4cfef.desc).map (fun d => d.parameters.length) = some 4 := by decide +kernel
theorem ydJ1_indexOf_4cfef : (yJ1_indexOf_4cfef.cls ≠ "java/lang/invoke/MethodHandle" ∧ yJ1_indexOf_4cfef.cls ≠ "java/lang/invoke/VarHandle") ∧ (parseMethodDescriptor yJ1_indexOf_4cfef.desc).map (fun d => d.parameters.length) = some 4 := by decide +kernel
theorem ydJx4a65c_isEmpty_aae02 : (yJx4a65c_isEmpty_aae02.cls ≠ "java/lang/invoke/MethodHandle" ∧ yJx4a65c_isEmpty_aae02.cls ≠ "java/lang/invoke/VarHandle") ∧ (parseMethodDescriptor yJx4a65c_isEmpty_aae02.desc).map (fun d => d.parameters.length) = some 0 := by decide +kernel
theorem ydX12_isIn : (yX12_isIn.cls ≠ "java/lang/invoke/MethodHandle" ∧ yX12_isIn.cls ≠ "java/lang/invoke/VarHandle") ∧ (parseMethodDescriptor yX12_isIn.desc).map (fun d => d.parameters.length) = some 3 := by decide +kernel
theorem ydX12_isNoLand : (yX12_isNoLand.cls ≠ "java/lang/invoke/MethodHandle" ∧ yX12_isNoLand.cls ≠ "java/lang/invoke/VarHandle") ∧ (parseMethodDescriptor yX12_isNoLand.desc).map (fun d => d.parameters.length) = some 1 := by decide +kernel
theorem ydX12_isNoRecording : (yX12_isNoRecording.cls ≠ "java/lang/invoke/MethodHandle" ∧ yX12_isNoRecording.cls ≠ "java/lang/invoke/VarHandle") ∧ (parseMethodDescriptor yX12_isNoRecording.desc).map (fun d => d.parameters.length) = some 1 := by decide +kernel
theorem ydX12_isNoShip : (yX12_isNoShip.cls ≠ "java/lang/invoke/MethodHandle" ∧ yX12_isNoShip.cls ≠ "java/lang/invoke/VarHandle") ∧ (parseMethodDescriptor yX12_isNoShip.desc).map (fun d => d.parameters.length) = some 1 := by decide +kernel
theorem ydX12_isNoTown : (yX12_isNoTown.cls ≠ "java/lang/invoke/MethodHandle" ∧ yX12_isNoTown.cls ≠ "java/lang/invoke/VarHandle") ∧ (parseMethodDescriptor yX12_isNoTown.desc).map (fun d => d.parameters.length) = some 1 := by decide +kernel
theorem ydX12_isNobody : (yX12_isNobody.cls ≠ "java/lang/invoke/MethodHandle" ∧ yX12_isNobody.cls ≠ "java/lang/invoke/VarHandle") ∧ (parseMethodDescriptor yX12_isNobody.desc).map (fun d => d.parameters.length) = some 1 := by decide +kernel
theorem ydX12_isPlace : (yX12_isPlace.cls ≠ "java/lang/invoke/MethodHandle" ∧ yX12_isPlace.cls ≠ "java/lang/invoke/VarHandle") ∧ (parseMethodDescriptor yX12_isPlace.desc).map (fun d => d.parameters.length) = some 2 := by decide +kernel
theorem ydX12_isThrown : (yX12_isThrown.cls ≠ "java/lang/invoke/MethodHandle" ∧ yX12_isThrown.cls ≠ "java/lang/invoke/VarHandle") ∧ (parseMethodDescriptor yX12_isThrown.desc).map (fun d => d.parameters.length) = some 2 := by decide +kernel
theorem dX12_init_0 : decode cX12_init 0 = .ok (.aload_n 0, 1) := by decide +kernel
theorem dX12_init_1 : decode cX12_init 1 = .ok (.invokespecial 1, 3) := by decide +kernel
theorem dX12_init_4 : decode cX12_init 4 = .ok (.aload_n 0, 1) := by decide +kernel
theorem dX12_init_5 : decode cX12_init 5 = .ok (.iconst 4, 1) := by decide +kernel
theorem dX12_init_6 : decode cX12_init 6 = .ok (.iconst 2, 1) := by decide +kernel
theorem dX12_init_7 : decode cX12_init 7 = .ok (.multianewarray 9 2, 4) := by decide +kernel
theorem dX12_init_11 : decode cX12_init 11 = .ok (.putfield 11, 3) := by decide +kernel
theorem dX12_init_14 : decode cX12_init 14 = .ok (.aload_n 0, 1) := by decide +kernel
theorem dX12_init_15 : decode cX12_init 15 = .ok (.iconst 4, 1) := by decide +kernel
theorem dX12_init_16 : decode cX12_init 16 = .ok (.newarray .int, 2) := by decide +kernel
theorem dX12_init_18 : decode cX12_init 18 = .ok (.putfield 14, 3) := by decide +kernel
theorem dX12_init_21 : decode cX12_init 21 = .ok (.aload_n 0, 1) := by decide +kernel
theorem dX12_init_22 : decode cX12_init 22 = .ok (.iconst 4, 1) := by decide +kernel
theorem dX12_init_23 : decode cX12_init 23 = .ok (.bipush 8, 2) := by decide +kernel
theorem dX12_init_25 : decode cX12_init 25 = .ok (.iconst 3, 1) := by decide +kernel
theorem dX12_init_26 : decode cX12_init 26 = .ok (.multianewarray 18 3, 4) := by decide +kernel
theorem dX12_init_30 : decode cX12_init 30 = .ok (.putfield 20, 3) := by decide +kernel
theorem dX12_init_33 : decode cX12_init 33 = .ok (.aload_n 0, 1) := by decide +kernel
theorem dX12_init_34 : decode cX12_init 34 = .ok (.iconst 4, 1) := by decide +kernel
theorem dX12_init_35 : decode cX12_init 35 = .ok (.newarray .int, 2) := by decide +kernel
theorem dX12_init_37 : decode cX12_init 37 = .ok (.putfield 23, 3) := by decide +kernel
theorem dX12_init_40 : decode cX12_init 40 = .ok (.aload_n 0, 1) := by decide +kernel
theorem dX12_init_41 : decode cX12_init 41 = .ok (.iconst 4, 1) := by decide +kernel
theorem dX12_init_42 : decode cX12_init 42 = .ok (.newarray .int, 2) := by decide +kernel
theorem dX12_init_44 : decode cX12_init 44 = .ok (.putfield 26, 3) := by decide +kernel
theorem dX12_init_47 : decode cX12_init 47 = .ok (.aload_n 0, 1) := by decide +kernel
theorem dX12_init_48 : decode cX12_init 48 = .ok (.iconst 4, 1) := by decide +kernel
theorem dX12_init_49 : decode cX12_init 49 = .ok (.newarray .int, 2) := by decide +kernel
theorem dX12_init_51 : decode cX12_init 51 = .ok (.putfield 29, 3) := by decide +kernel
theorem dX12_init_54 : decode cX12_init 54 = .ok (.aload_n 0, 1) := by decide +kernel
theorem dX12_init_55 : decode cX12_init 55 = .ok (.iconst 4, 1) := by decide +kernel
theorem dX12_init_56 : decode cX12_init 56 = .ok (.newarray .int, 2) := by decide +kernel
theorem dX12_init_58 : decode cX12_init 58 = .ok (.putfield 32, 3) := by decide +kernel
theorem dX12_init_61 : decode cX12_init 61 = .ok (.aload_n 0, 1) := by decide +kernel
theorem dX12_init_62 : decode cX12_init 62 = .ok (.iconst 4, 1) := by decide +kernel
theorem dX12_init_63 : decode cX12_init 63 = .ok (.newarray .int, 2) := by decide +kernel
theorem dX12_init_65 : decode cX12_init 65 = .ok (.dup, 1) := by decide +kernel
theorem dX12_init_66 : decode cX12_init 66 = .ok (.iconst 0, 1) := by decide +kernel
theorem dX12_init_67 : decode cX12_init 67 = .ok (.iconst (-1), 1) := by decide +kernel
theorem dX12_init_68 : decode cX12_init 68 = .ok (.iastore, 1) := by decide +kernel
theorem dX12_init_69 : decode cX12_init 69 = .ok (.dup, 1) := by decide +kernel
theorem dX12_init_70 : decode cX12_init 70 = .ok (.iconst 1, 1) := by decide +kernel
theorem dX12_init_71 : decode cX12_init 71 = .ok (.iconst (-1), 1) := by decide +kernel
theorem dX12_init_72 : decode cX12_init 72 = .ok (.iastore, 1) := by decide +kernel
theorem dX12_init_73 : decode cX12_init 73 = .ok (.dup, 1) := by decide +kernel
theorem dX12_init_74 : decode cX12_init 74 = .ok (.iconst 2, 1) := by decide +kernel
theorem dX12_init_75 : decode cX12_init 75 = .ok (.iconst (-1), 1) := by decide +kernel
theorem dX12_init_76 : decode cX12_init 76 = .ok (.iastore, 1) := by decide +kernel
theorem dX12_init_77 : decode cX12_init 77 = .ok (.dup, 1) := by decide +kernel
theorem dX12_init_78 : decode cX12_init 78 = .ok (.iconst 3, 1) := by decide +kernel
theorem dX12_init_79 : decode cX12_init 79 = .ok (.iconst (-1), 1) := by decide +kernel
theorem dX12_init_80 : decode cX12_init 80 = .ok (.iastore, 1) := by decide +kernel
theorem dX12_init_81 : decode cX12_init 81 = .ok (.putfield 35, 3) := by decide +kernel
theorem dX12_init_84 : decode cX12_init 84 = .ok (.aload_n 0, 1) := by decide +kernel
theorem dX12_init_85 : decode cX12_init 85 = .ok (.bipush 12, 2) := by decide +kernel
theorem dX12_init_87 : decode cX12_init 87 = .ok (.newarray .int, 2) := by decide +kernel
theorem dX12_init_89 : decode cX12_init 89 = .ok (.putfield 38, 3) := by decide +kernel
theorem dX12_init_92 : decode cX12_init 92 = .ok (.aload_n 0, 1) := by decide +kernel
theorem dX12_init_93 : decode cX12_init 93 = .ok (.iconst 4, 1) := by decide +kernel
theorem dX12_init_94 : decode cX12_init 94 = .ok (.iconst 2, 1) := by decide +kernel
theorem dX12_init_95 : decode cX12_init 95 = .ok (.multianewarray 9 2, 4) := by decide +kernel
theorem dX12_init_99 : decode cX12_init 99 = .ok (.putfield 41, 3) := by decide +kernel
theorem dX12_init_102 : decode cX12_init 102 = .ok (.aload_n 0, 1) := by decide +kernel
theorem dX12_init_103 : decode cX12_init 103 = .ok (.iconst 4, 1) := by decide +kernel
theorem dX12_init_104 : decode cX12_init 104 = .ok (.iconst 2, 1) := by decide +kernel
theorem dX12_init_105 : decode cX12_init 105 = .ok (.multianewarray 9 2, 4) := by decide +kernel
theorem dX12_init_109 : decode cX12_init 109 = .ok (.putfield 44, 3) := by decide +kernel
theorem dX12_init_112 : decode cX12_init 112 = .ok (.aload_n 0, 1) := by decide +kernel
theorem dX12_init_113 : decode cX12_init 113 = .ok (.iconst 4, 1) := by decide +kernel
theorem dX12_init_114 : decode cX12_init 114 = .ok (.newarray .boolean, 2) := by decide +kernel
theorem dX12_init_116 : decode cX12_init 116 = .ok (.putfield 47, 3) := by decide +kernel
theorem dX12_init_119 : decode cX12_init 119 = .ok (.aload_n 0, 1) := by decide +kernel
theorem dX12_init_120 : decode cX12_init 120 = .ok (.iconst 4, 1) := by decide +kernel
theorem dX12_init_121 : decode cX12_init 121 = .ok (.newarray .int, 2) := by decide +kernel
theorem dX12_init_123 : decode cX12_init 123 = .ok (.putfield 51, 3) := by decide +kernel
theorem dX12_init_126 : decode cX12_init 126 = .ok (.aload_n 0, 1) := by decide +kernel
theorem dX12_init_127 : decode cX12_init 127 = .ok (.iconst 4, 1) := by decide +kernel
theorem dX12_init_128 : decode cX12_init 128 = .ok (.newarray .int, 2) := by decide +kernel
theorem dX12_init_130 : decode cX12_init 130 = .ok (.putfield 54, 3) := by decide +kernel
theorem dX12_init_133 : decode cX12_init 133 = .ok (.aload_n 0, 1) := by decide +kernel
theorem dX12_init_134 : decode cX12_init 134 = .ok (.iconst 4, 1) := by decide +kernel
theorem dX12_init_135 : decode cX12_init 135 = .ok (.newarray .int, 2) := by decide +kernel
theorem dX12_init_137 : decode cX12_init 137 = .ok (.putfield 57, 3) := by decide +kernel
theorem dX12_init_140 : decode cX12_init 140 = .ok (.aload_n 0, 1) := by decide +kernel
theorem dX12_init_141 : decode cX12_init 141 = .ok (.iconst 4, 1) := by decide +kernel
theorem dX12_init_142 : decode cX12_init 142 = .ok (.newarray .int, 2) := by decide +kernel
theorem dX12_init_144 : decode cX12_init 144 = .ok (.putfield 60, 3) := by decide +kernel
theorem dX12_init_147 : decode cX12_init 147 = .ok (.aload_n 0, 1) := by decide +kernel
theorem dX12_init_148 : decode cX12_init 148 = .ok (.iconst 4, 1) := by decide +kernel
theorem dX12_init_149 : decode cX12_init 149 = .ok (.newarray .int, 2) := by decide +kernel
theorem dX12_init_151 : decode cX12_init 151 = .ok (.putfield 63, 3) := by decide +kernel
theorem dX12_init_154 : decode cX12_init 154 = .ok (.aload_n 0, 1) := by decide +kernel
theorem dX12_init_155 : decode cX12_init 155 = .ok (.iconst 4, 1) := by decide +kernel
theorem dX12_init_156 : decode cX12_init 156 = .ok (.newarray .int, 2) := by decide +kernel
theorem dX12_init_158 : decode cX12_init 158 = .ok (.putfield 66, 3) := by decide +kernel
theorem dX12_init_161 : decode cX12_init 161 = .ok (.aload_n 0, 1) := by decide +kernel
theorem dX12_init_162 : decode cX12_init 162 = .ok (.iconst 4, 1) := by decide +kernel
theorem dX12_init_163 : decode cX12_init 163 = .ok (.newarray .int, 2) := by decide +kernel
theorem dX12_init_165 : decode cX12_init 165 = .ok (.putfield 69, 3) := by decide +kernel
theorem dX12_init_168 : decode cX12_init 168 = .ok (.aload_n 0, 1) := by decide +kernel
theorem dX12_init_169 : decode cX12_init 169 = .ok (.iconst 4, 1) := by decide +kernel
theorem dX12_init_170 : decode cX12_init 170 = .ok (.newarray .int, 2) := by decide +kernel
theorem dX12_init_172 : decode cX12_init 172 = .ok (.putfield 72, 3) := by decide +kernel
theorem dX12_init_175 : decode cX12_init 175 = .ok (.aload_n 0, 1) := by decide +kernel
theorem dX12_init_176 : decode cX12_init 176 = .ok (.iconst 4, 1) := by decide +kernel
theorem dX12_init_177 : decode cX12_init 177 = .ok (.iconst 2, 1) := by decide +kernel
theorem dX12_init_178 : decode cX12_init 178 = .ok (.multianewarray 9 2, 4) := by decide +kernel
theorem dX12_init_182 : decode cX12_init 182 = .ok (.putfield 75, 3) := by decide +kernel
theorem dX12_init_185 : decode cX12_init 185 = .ok (.aload_n 0, 1) := by decide +kernel
theorem dX12_init_186 : decode cX12_init 186 = .ok (.iconst 4, 1) := by decide +kernel
theorem dX12_init_187 : decode cX12_init 187 = .ok (.iconst 2, 1) := by decide +kernel
theorem dX12_init_188 : decode cX12_init 188 = .ok (.multianewarray 9 2, 4) := by decide +kernel
theorem dX12_init_192 : decode cX12_init 192 = .ok (.putfield 78, 3) := by decide +kernel
theorem dX12_init_195 : decode cX12_init 195 = .ok (.aload_n 0, 1) := by decide +kernel
theorem dX12_init_196 : decode cX12_init 196 = .ok (.iconst 4, 1) := by decide +kernel
theorem dX12_init_197 : decode cX12_init 197 = .ok (.iconst 2, 1) := by decide +kernel
theorem dX12_init_198 : decode cX12_init 198 = .ok (.multianewarray 9 2, 4) := by decide +kernel
theorem dX12_init_202 : decode cX12_init 202 = .ok (.putfield 81, 3) := by decide +kernel
theorem dX12_init_205 : decode cX12_init 205 = .ok (.aload_n 0, 1) := by decide +kernel
theorem dX12_init_206 : decode cX12_init 206 = .ok (.iconst 4, 1) := by decide +kernel
theorem dX12_init_207 : decode cX12_init 207 = .ok (.iconst 2, 1) := by decide +kernel
theorem dX12_init_208 : decode cX12_init 208 = .ok (.multianewarray 84 2, 4) := by decide +kernel
theorem dX12_init_212 : decode cX12_init 212 = .ok (.putfield 86, 3) := by decide +kernel
theorem dX12_init_215 : decode cX12_init 215 = .ok (.aload_n 0, 1) := by decide +kernel
theorem dX12_init_216 : decode cX12_init 216 = .ok (.iconst 4, 1) := by decide +kernel
theorem dX12_init_217 : decode cX12_init 217 = .ok (.newarray .int, 2) := by decide +kernel
theorem dX12_init_219 : decode cX12_init 219 = .ok (.putfield 89, 3) := by decide +kernel
theorem dX12_init_222 : decode cX12_init 222 = .ok (.aload_n 0, 1) := by decide +kernel
theorem dX12_init_223 : decode cX12_init 223 = .ok (.iconst 4, 1) := by decide +kernel
theorem dX12_init_224 : decode cX12_init 224 = .ok (.newarray .int, 2) := by decide +kernel
theorem dX12_init_226 : decode cX12_init 226 = .ok (.putfield 92, 3) := by decide +kernel
theorem dX12_init_229 : decode cX12_init 229 = .ok (.aload_n 0, 1) := by decide +kernel
theorem dX12_init_230 : decode cX12_init 230 = .ok (.iconst 4, 1) := by decide +kernel
theorem dX12_init_231 : decode cX12_init 231 = .ok (.newarray .boolean, 2) := by decide +kernel
theorem dX12_init_233 : decode cX12_init 233 = .ok (.putfield 95, 3) := by decide +kernel
theorem dX12_init_236 : decode cX12_init 236 = .ok (.aload_n 0, 1) := by decide +kernel
theorem dX12_init_237 : decode cX12_init 237 = .ok (.iconst 4, 1) := by decide +kernel
theorem dX12_init_238 : decode cX12_init 238 = .ok (.bipush 24, 2) := by decide +kernel
theorem dX12_init_240 : decode cX12_init 240 = .ok (.multianewarray 9 2, 4) := by decide +kernel
theorem dX12_init_244 : decode cX12_init 244 = .ok (.putfield 98, 3) := by decide +kernel
theorem dX12_init_247 : decode cX12_init 247 = .ok (.aload_n 0, 1) := by decide +kernel
theorem dX12_init_248 : decode cX12_init 248 = .ok (.iconst 4, 1) := by decide +kernel
theorem dX12_init_249 : decode cX12_init 249 = .ok (.newarray .int, 2) := by decide +kernel
theorem dX12_init_251 : decode cX12_init 251 = .ok (.putfield 101, 3) := by decide +kernel
theorem dX12_init_254 : decode cX12_init 254 = .ok (.aload_n 0, 1) := by decide +kernel
theorem dX12_init_255 : decode cX12_init 255 = .ok (.iconst 4, 1) := by decide +kernel
theorem dX12_init_256 : decode cX12_init 256 = .ok (.newarray .int, 2) := by decide +kernel
theorem dX12_init_258 : decode cX12_init 258 = .ok (.putfield 104, 3) := by decide +kernel
theorem dX12_init_261 : decode cX12_init 261 = .ok (.aload_n 0, 1) := by decide +kernel
theorem dX12_init_262 : decode cX12_init 262 = .ok (.iconst 4, 1) := by decide +kernel
theorem dX12_init_263 : decode cX12_init 263 = .ok (.newarray .int, 2) := by decide +kernel
theorem dX12_init_265 : decode cX12_init 265 = .ok (.putfield 107, 3) := by decide +kernel
theorem dX12_init_268 : decode cX12_init 268 = .ok (.aload_n 0, 1) := by decide +kernel
theorem dX12_init_269 : decode cX12_init 269 = .ok (.iconst 4, 1) := by decide +kernel
theorem dX12_init_270 : decode cX12_init 270 = .ok (.newarray .int, 2) := by decide +kernel
theorem dX12_init_272 : decode cX12_init 272 = .ok (.putfield 110, 3) := by decide +kernel
theorem dX12_init_275 : decode cX12_init 275 = .ok (.aload_n 0, 1) := by decide +kernel
theorem dX12_init_276 : decode cX12_init 276 = .ok (.iconst 4, 1) := by decide +kernel
theorem dX12_init_277 : decode cX12_init 277 = .ok (.newarray .int, 2) := by decide +kernel
theorem dX12_init_279 : decode cX12_init 279 = .ok (.putfield 113, 3) := by decide +kernel
theorem dX12_init_282 : decode cX12_init 282 = .ok (.aload_n 0, 1) := by decide +kernel
theorem dX12_init_283 : decode cX12_init 283 = .ok (.iconst 4, 1) := by decide +kernel
theorem dX12_init_284 : decode cX12_init 284 = .ok (.newarray .boolean, 2) := by decide +kernel
theorem dX12_init_286 : decode cX12_init 286 = .ok (.putfield 116, 3) := by decide +kernel
theorem dX12_init_289 : decode cX12_init 289 = .ok (.aload_n 0, 1) := by decide +kernel
theorem dX12_init_290 : decode cX12_init 290 = .ok (.iconst 4, 1) := by decide +kernel
theorem dX12_init_291 : decode cX12_init 291 = .ok (.newarray .int, 2) := by decide +kernel
theorem dX12_init_293 : decode cX12_init 293 = .ok (.putfield 119, 3) := by decide +kernel
theorem dX12_init_296 : decode cX12_init 296 = .ok (.aload_n 0, 1) := by decide +kernel
theorem dX12_init_297 : decode cX12_init 297 = .ok (.iconst 4, 1) := by decide +kernel
theorem dX12_init_298 : decode cX12_init 298 = .ok (.newarray .int, 2) := by decide +kernel
theorem dX12_init_300 : decode cX12_init 300 = .ok (.putfield 122, 3) := by decide +kernel
theorem dX12_init_303 : decode cX12_init 303 = .ok (.aload_n 0, 1) := by decide +kernel
theorem dX12_init_304 : decode cX12_init 304 = .ok (.bipush 6, 2) := by decide +kernel
theorem dX12_init_306 : decode cX12_init 306 = .ok (.iconst 2, 1) := by decide +kernel
theorem dX12_init_307 : decode cX12_init 307 = .ok (.multianewarray 9 2, 4) := by decide +kernel
theorem dX12_init_311 : decode cX12_init 311 = .ok (.putfield 125, 3) := by decide +kernel
theorem dX12_init_314 : decode cX12_init 314 = .ok (.aload_n 0, 1) := by decide +kernel
theorem dX12_init_315 : decode cX12_init 315 = .ok (.bipush 6, 2) := by decide +kernel
theorem dX12_init_317 : decode cX12_init 317 = .ok (.newarray .int, 2) := by decide +kernel
theorem dX12_init_319 : decode cX12_init 319 = .ok (.putfield 128, 3) := by decide +kernel
theorem dX12_init_322 : decode cX12_init 322 = .ok (.aload_n 0, 1) := by decide +kernel
theorem dX12_init_323 : decode cX12_init 323 = .ok (.bipush 6, 2) := by decide +kernel
theorem dX12_init_325 : decode cX12_init 325 = .ok (.newarray .int, 2) := by decide +kernel
theorem dX12_init_327 : decode cX12_init 327 = .ok (.putfield 131, 3) := by decide +kernel
theorem dX12_init_330 : decode cX12_init 330 = .ok (.aload_n 0, 1) := by decide +kernel
theorem dX12_init_331 : decode cX12_init 331 = .ok (.bipush 6, 2) := by decide +kernel
theorem dX12_init_333 : decode cX12_init 333 = .ok (.newarray .int, 2) := by decide +kernel
theorem dX12_init_335 : decode cX12_init 335 = .ok (.putfield 134, 3) := by decide +kernel
theorem dX12_init_338 : decode cX12_init 338 = .ok (.aload_n 0, 1) := by decide +kernel
theorem dX12_init_339 : decode cX12_init 339 = .ok (.bipush 12, 2) := by decide +kernel
theorem dX12_init_341 : decode cX12_init 341 = .ok (.newarray .int, 2) := by decide +kernel
theorem dX12_init_343 : decode cX12_init 343 = .ok (.putfield 137, 3) := by decide +kernel
theorem dX12_init_346 : decode cX12_init 346 = .ok (.aload_n 0, 1) := by decide +kernel
theorem dX12_init_347 : decode cX12_init 347 = .ok (.bipush 12, 2) := by decide +kernel
theorem dX12_init_349 : decode cX12_init 349 = .ok (.newarray .char, 2) := by decide +kernel
theorem dX12_init_351 : decode cX12_init 351 = .ok (.putfield 140, 3) := by decide +kernel
theorem dX12_init_354 : decode cX12_init 354 = .ok (.aload_n 0, 1) := by decide +kernel
theorem dX12_init_355 : decode cX12_init 355 = .ok (.bipush 12, 2) := by decide +kernel
theorem dX12_init_357 : decode cX12_init 357 = .ok (.newarray .int, 2) := by decide +kernel
theorem dX12_init_359 : decode cX12_init 359 = .ok (.putfield 144, 3) := by decide +kernel
theorem dX12_init_362 : decode cX12_init 362 = .ok (.aload_n 0, 1) := by decide +kernel
theorem dX12_init_363 : decode cX12_init 363 = .ok (.bipush 12, 2) := by decide +kernel
theorem dX12_init_365 : decode cX12_init 365 = .ok (.newarray .int, 2) := by decide +kernel
theorem dX12_init_367 : decode cX12_init 367 = .ok (.putfield 147, 3) := by decide +kernel
theorem dX12_init_370 : decode cX12_init 370 = .ok (.aload_n 0, 1) := by decide +kernel
theorem dX12_init_371 : decode cX12_init 371 = .ok (.new 150, 3) := by decide +kernel
theorem dX12_init_374 : decode cX12_init 374 = .ok (.dup, 1) := by decide +kernel
theorem dX12_init_375 : decode cX12_init 375 = .ok (.invokespecial 152, 3) := by decide +kernel
theorem dX12_init_378 : decode cX12_init 378 = .ok (.putfield 153, 3) := by decide +kernel
theorem dX12_init_381 : decode cX12_init 381 = .ok (.aload_n 0, 1) := by decide +kernel
theorem dX12_init_382 : decode cX12_init 382 = .ok (.bipush 6, 2) := by decide +kernel
theorem dX12_init_384 : decode cX12_init 384 = .ok (.iconst 3, 1) := by decide +kernel
theorem dX12_init_385 : decode cX12_init 385 = .ok (.multianewarray 9 2, 4) := by decide +kernel
theorem dX12_init_389 : decode cX12_init 389 = .ok (.putfield 157, 3) := by decide +kernel
theorem dX12_init_392 : decode cX12_init 392 = .ok (.aload_n 0, 1) := by decide +kernel
theorem dX12_init_393 : decode cX12_init 393 = .ok (.bipush 6, 2) := by decide +kernel
theorem dX12_init_395 : decode cX12_init 395 = .ok (.bipush 6, 2) := by decide +kernel
theorem dX12_init_397 : decode cX12_init 397 = .ok (.multianewarray 84 2, 4) := by decide +kernel
theorem dX12_init_401 : decode cX12_init 401 = .ok (.putfield 160, 3) := by decide +kernel
theorem dX12_init_404 : decode cX12_init 404 = .ok (.return_, 1) := by decide +kernel
theorem dX12_thrown_0 : decode cX12_thrown 0 = .ok (.aload_n 0, 1) := by decide +kernel
theorem dX12_thrown_1 : decode cX12_thrown 1 = .ok (.getfield 163, 3) := by decide +kernel
theorem dX12_thrown_4 : decode cX12_thrown 4 = .ok (.ireturn, 1) := by decide +kernel
theorem dX12_isThrown_0 : decode cX12_isThrown 0 = .ok (.aload_n 0, 1) := by decide +kernel
theorem dX12_isThrown_1 : decode cX12_isThrown 1 = .ok (.iload_n 1, 1) := by decide +kernel
theorem dX12_isThrown_2 : decode cX12_isThrown 2 = .ok (.ifCond .eq 7, 3) := by decide +kernel
theorem dX12_isThrown_5 : decode cX12_isThrown 5 = .ok (.iload_n 2, 1) := by decide +kernel
theorem dX12_isThrown_6 : decode cX12_isThrown 6 = .ok (.goto 4, 3) := by decide +kernel
theorem dX12_isThrown_9 : decode cX12_isThrown 9 = .ok (.iconst 0, 1) := by decide +kernel
theorem dX12_isThrown_10 : decode cX12_isThrown 10 = .ok (.putfield 163, 3) := by decide +kernel
theorem dX12_isThrown_13 : decode cX12_isThrown 13 = .ok (.iload_n 1, 1) := by decide +kernel
theorem dX12_isThrown_14 : decode cX12_isThrown 14 = .ok (.ireturn, 1) := by decide +kernel
theorem dX12_isIn_0 : decode cX12_isIn 0 = .ok (.iload_n 0, 1) := by decide +kernel
theorem dX12_isIn_1 : decode cX12_isIn 1 = .ok (.iload_n 1, 1) := by decide +kernel
theorem dX12_isIn_2 : decode cX12_isIn 2 = .ok (.if_icmp .lt 12, 3) := by decide +kernel
theorem dX12_isIn_5 : decode cX12_isIn 5 = .ok (.iload_n 0, 1) := by decide +kernel
theorem dX12_isIn_6 : decode cX12_isIn 6 = .ok (.iload_n 2, 1) := by decide +kernel
theorem dX12_isIn_7 : decode cX12_isIn 7 = .ok (.if_icmp .gt 7, 3) := by decide +kernel
theorem dX12_isIn_10 : decode cX12_isIn 10 = .ok (.iconst 1, 1) := by decide +kernel
theorem dX12_isIn_11 : decode cX12_isIn 11 = .ok (.goto 4, 3) := by decide +kernel
theorem dX12_isIn_14 : decode cX12_isIn 14 = .ok (.iconst 0, 1) := by decide +kernel
theorem dX12_isIn_15 : decode cX12_isIn 15 = .ok (.ireturn, 1) := by decide +kernel
theorem dX12_isPlace_0 : decode cX12_isPlace 0 = .ok (.iload_n 0, 1) := by decide +kernel
theorem dX12_isPlace_1 : decode cX12_isPlace 1 = .ok (.sipush (-999), 3) := by decide +kernel
theorem dX12_isPlace_4 : decode cX12_isPlace 4 = .ok (.sipush 999, 3) := by decide +kernel
theorem dX12_isPlace_7 : decode cX12_isPlace 7 = .ok (.invokestatic 167, 3) := by decide +kernel
theorem dX12_isPlace_10 : decode cX12_isPlace 10 = .ok (.ifCond .eq 20, 3) := by decide +kernel
theorem dX12_isPlace_13 : decode cX12_isPlace 13 = .ok (.iload_n 1, 1) := by decide +kernel
theorem dX12_isPlace_14 : decode cX12_isPlace 14 = .ok (.sipush (-999), 3) := by decide +kernel
theorem dX12_isPlace_17 : decode cX12_isPlace 17 = .ok (.sipush 999, 3) := by decide +kernel
theorem dX12_isPlace_20 : decode cX12_isPlace 20 = .ok (.invokestatic 167, 3) := by decide +kernel
theorem dX12_isPlace_23 : decode cX12_isPlace 23 = .ok (.ifCond .eq 7, 3) := by decide +kernel
theorem dX12_isPlace_26 : decode cX12_isPlace 26 = .ok (.iconst 1, 1) := by decide +kernel
theorem dX12_isPlace_27 : decode cX12_isPlace 27 = .ok (.goto 4, 3) := by decide +kernel
theorem dX12_isPlace_30 : decode cX12_isPlace 30 = .ok (.iconst 0, 1) := by decide +kernel
theorem dX12_isPlace_31 : decode cX12_isPlace 31 = .ok (.ireturn, 1) := by decide +kernel
theorem dX12_isNoLand_0 : decode cX12_isNoLand 0 = .ok (.iload_n 1, 1) := by decide +kernel
theorem dX12_isNoLand_1 : decode cX12_isNoLand 1 = .ok (.iconst 0, 1) := by decide +kernel
theorem dX12_isNoLand_2 : decode cX12_isNoLand 2 = .ok (.aload_n 0, 1) := by decide +kernel
theorem dX12_isNoLand_3 : decode cX12_isNoLand 3 = .ok (.getfield 181, 3) := by decide +kernel
theorem dX12_isNoLand_6 : decode cX12_isNoLand 6 = .ok (.iconst 1, 1) := by decide +kernel
theorem dX12_isNoLand_7 : decode cX12_isNoLand 7 = .ok (.isub, 1) := by decide +kernel
theorem dX12_isNoLand_8 : decode cX12_isNoLand 8 = .ok (.invokestatic 167, 3) := by decide +kernel
theorem dX12_isNoLand_11 : decode cX12_isNoLand 11 = .ok (.ifCond .ne 7, 3) := by decide +kernel
theorem dX12_isNoLand_14 : decode cX12_isNoLand 14 = .ok (.iconst 1, 1) := by decide +kernel
theorem dX12_isNoLand_15 : decode cX12_isNoLand 15 = .ok (.goto 4, 3) := by decide +kernel
theorem dX12_isNoLand_19 : decode cX12_isNoLand 19 = .ok (.ireturn, 1) := by decide +kernel
theorem dX12_isNoShip_0 : decode cX12_isNoShip 0 = .ok (.iload_n 1, 1) := by decide +kernel
theorem dX12_isNoShip_1 : decode cX12_isNoShip 1 = .ok (.iconst 0, 1) := by decide +kernel
theorem dX12_isNoShip_2 : decode cX12_isNoShip 2 = .ok (.aload_n 0, 1) := by decide +kernel
