theorem kw_421 : Cond.instantiable "GalleonWave$Ship" 17 ∈ kw := kw_in (List.mem_append_right _ (tb4 _ (List.mem_of_getElem? (i := 124) (by decide +kernel)))) (by decide +kernel)
theorem kw_422 : Cond.code ⟨"GalleonWave$Ship", "<init>", "(II)V"⟩ prog_10_method_1_code 3 none ∈ kw := kw_in (List.mem_append_right _ (tb4 _ (List.mem_of_getElem? (i := 127) (by decide +kernel)))) (by decide +kernel)
theorem kw_423 : Cond.methodLink "GalleonWave" 104 ⟨"GalleonWave$Ship", "<init>", "(II)V"⟩ ∈ kw := kw_in (List.mem_append_right _ (tb4 _ (List.mem_of_getElem? (i := 125) (by decide +kernel)))) (by decide +kernel)
theorem kw_424 : Cond.instanceMethod ⟨"GalleonWave$Ship", "<init>", "(II)V"⟩ ∈ kw := kw_in (List.mem_append_right _ (tb4 _ (List.mem_of_getElem? (i := 126) (by decide +kernel)))) (by decide +kernel)
theorem kw_425 : Cond.castable "GalleonWave$Ship" "java/lang/Object" ∈ kw := kw_in (List.mem_append_right _ (tb6 _ (List.mem_of_getElem? (i := 142) (by decide +kernel)))) (by decide +kernel)
theorem kw_426 : Cond.code ⟨"GalleonWave", "shipAt", "(I)LGalleonWave$Ship;"⟩ prog_1_method_60_code 2 (some (.object "GalleonWave$Ship")) ∈ kw := kw_in (List.mem_append_right _ (tb5 _ (List.mem_of_getElem? (i := 29) (by decide +kernel)))) (by decide +kernel)
theorem kw_427 : Cond.methodLink "GalleonWave" 106 ⟨"GalleonWave", "shipAt", "(I)LGalleonWave$Ship;"⟩ ∈ kw := kw_in (List.mem_append_right _ (tb5 _ (List.mem_of_getElem? (i := 26) (by decide +kernel)))) (by decide +kernel)
theorem kw_428 : Cond.instanceMethod ⟨"GalleonWave", "shipAt", "(I)LGalleonWave$Ship;"⟩ ∈ kw := kw_in (List.mem_append_right _ (tb5 _ (List.mem_of_getElem? (i := 28) (by decide +kernel)))) (by decide +kernel)
theorem kw_429 : Cond.selects "GalleonWave" ⟨"GalleonWave", "shipAt", "(I)LGalleonWave$Ship;"⟩ ⟨"GalleonWave", "shipAt", "(I)LGalleonWave$Ship;"⟩ ∈ kw := kw_in (List.mem_append_left _ (List.mem_of_getElem? (i := 36) (by decide +kernel))) (by decide +kernel)
theorem kw_430 : Cond.fieldLink "GalleonWave" 160 "GalleonWave$Ship" "generators" "Ljava/util/ArrayList;" ∈ kw := kw_in (List.mem_append_right _ (tb4 _ (List.mem_of_getElem? (i := 193) (by decide +kernel)))) (by decide +kernel)
theorem kw_431 : Cond.classLink "GalleonWave" 163 "GalleonWave$Generator" ∈ kw := kw_in (List.mem_append_right _ (tb5 _ (List.mem_of_getElem? (i := 69) (by decide +kernel)))) (by decide +kernel)
theorem kw_432 : Cond.instantiable "GalleonWave$Generator" 4 ∈ kw := kw_in (List.mem_append_right _ (tb5 _ (List.mem_of_getElem? (i := 70) (by decide +kernel)))) (by decide +kernel)
theorem kw_433 : Cond.code ⟨"GalleonWave$Generator", "<init>", "(II)V"⟩ prog_4_method_1_code 3 none ∈ kw := kw_in (List.mem_append_right _ (tb5 _ (List.mem_of_getElem? (i := 73) (by decide +kernel)))) (by decide +kernel)
theorem kw_434 : Cond.methodLink "GalleonWave" 165 ⟨"GalleonWave$Generator", "<init>", "(II)V"⟩ ∈ kw := kw_in (List.mem_append_right _ (tb5 _ (List.mem_of_getElem? (i := 71) (by decide +kernel)))) (by decide +kernel)
theorem kw_435 : Cond.instanceMethod ⟨"GalleonWave$Generator", "<init>", "(II)V"⟩ ∈ kw := kw_in (List.mem_append_right _ (tb5 _ (List.mem_of_getElem? (i := 72) (by decide +kernel)))) (by decide +kernel)
theorem kw_436 : Cond.castable "GalleonWave$Generator" "java/lang/Object" ∈ kw := kw_in (List.mem_append_right _ (tb6 _ (List.mem_of_getElem? (i := 150) (by decide +kernel)))) (by decide +kernel)
theorem kw_437 : Cond.fieldLink "GalleonWave" 173 "GalleonWave$Generator" "isOn" "Z" ∈ kw := kw_in (List.mem_append_right _ (tb5 _ (List.mem_of_getElem? (i := 79) (by decide +kernel)))) (by decide +kernel)
theorem kw_438 : Cond.fieldLink "GalleonWave" 176 "GalleonWave$Generator" "ranHours" "I" ∈ kw := kw_in (List.mem_append_right _ (tb5 _ (List.mem_of_getElem? (i := 82) (by decide +kernel)))) (by decide +kernel)
theorem kw_439 : Cond.fieldLink "GalleonWave" 193 "GalleonWave$Ship" "power" "I" ∈ kw := kw_in (List.mem_append_right _ (tb4 _ (List.mem_of_getElem? (i := 211) (by decide +kernel)))) (by decide +kernel)
theorem kw_440 : Cond.fieldLink "GalleonWave" 179 "GalleonWave$Ship" "fuel" "I" ∈ kw := kw_in (List.mem_append_right _ (tb4 _ (List.mem_of_getElem? (i := 204) (by decide +kernel)))) (by decide +kernel)
theorem kw_441 : Cond.fieldLink "GalleonWave" 182 "GalleonWave$Ship" "food" "I" ∈ kw := kw_in (List.mem_append_right _ (tb4 _ (List.mem_of_getElem? (i := 207) (by decide +kernel)))) (by decide +kernel)
theorem kw_442 : Cond.fieldLink "GalleonWave$Spots" 7 "GalleonWave$Spots" "soldDay" "I" ∈ kw := kw_in (List.mem_append_right _ (tb4 _ (List.mem_of_getElem? (i := 177) (by decide +kernel)))) (by decide +kernel)
theorem kw_443 : Cond.fieldLink "GalleonWave$Spots" 13 "GalleonWave$Spots" "sold" "I" ∈ kw := kw_in (List.mem_append_right _ (tb4 _ (List.mem_of_getElem? (i := 178) (by decide +kernel)))) (by decide +kernel)
theorem kw_444 : Cond.code ⟨"GalleonWave$Spots", "soldOn", "(I)I"⟩ prog_11_method_2_code 2 (some .int) ∈ kw := kw_in (List.mem_append_right _ (tb6 _ (List.mem_of_getElem? (i := 46) (by decide +kernel)))) (by decide +kernel)
theorem kw_445 : Cond.methodLink "GalleonWave$Spots" 16 ⟨"GalleonWave$Spots", "soldOn", "(I)I"⟩ ∈ kw := kw_in (List.mem_append_right _ (tb6 _ (List.mem_of_getElem? (i := 52) (by decide +kernel)))) (by decide +kernel)
theorem kw_446 : Cond.instanceMethod ⟨"GalleonWave$Spots", "soldOn", "(I)I"⟩ ∈ kw := kw_in (List.mem_append_right _ (tb6 _ (List.mem_of_getElem? (i := 44) (by decide +kernel)))) (by decide +kernel)
theorem kw_447 : Cond.selects "GalleonWave$Spots" ⟨"GalleonWave$Spots", "soldOn", "(I)I"⟩ ⟨"GalleonWave$Spots", "soldOn", "(I)I"⟩ ∈ kw := kw_in (List.mem_append_right _ (tb6 _ (List.mem_of_getElem? (i := 45) (by decide +kernel)))) (by decide +kernel)
theorem kw_448 : Cond.methodLink "GalleonWave" 297 ⟨"GalleonWave$Spots", "soldOn", "(I)I"⟩ ∈ kw := kw_in (List.mem_append_right _ (tb6 _ (List.mem_of_getElem? (i := 43) (by decide +kernel)))) (by decide +kernel)
theorem kw_449 : Cond.code ⟨"GalleonWave$Spots", "addSold", "(II)V"⟩ prog_11_method_3_code 3 none ∈ kw := kw_in (List.mem_append_right _ (tb6 _ (List.mem_of_getElem? (i := 51) (by decide +kernel)))) (by decide +kernel)
theorem kw_450 : Cond.methodLink "GalleonWave" 304 ⟨"GalleonWave$Spots", "addSold", "(II)V"⟩ ∈ kw := kw_in (List.mem_append_right _ (tb6 _ (List.mem_of_getElem? (i := 48) (by decide +kernel)))) (by decide +kernel)
theorem kw_451 : Cond.instanceMethod ⟨"GalleonWave$Spots", "addSold", "(II)V"⟩ ∈ kw := kw_in (List.mem_append_right _ (tb6 _ (List.mem_of_getElem? (i := 49) (by decide +kernel)))) (by decide +kernel)
theorem kw_452 : Cond.selects "GalleonWave$Spots" ⟨"GalleonWave$Spots", "addSold", "(II)V"⟩ ⟨"GalleonWave$Spots", "addSold", "(II)V"⟩ ∈ kw := kw_in (List.mem_append_right _ (tb6 _ (List.mem_of_getElem? (i := 50) (by decide +kernel)))) (by decide +kernel)
theorem kw_453 : Cond.fieldLink "GalleonWave" 307 "GalleonWave$Spots" "left" "I" ∈ kw := kw_in (List.mem_append_right _ (tb4 _ (List.mem_of_getElem? (i := 176) (by decide +kernel)))) (by decide +kernel)
theorem kw_454 : Cond.fieldLink "GalleonWave$Anchor" 16 "GalleonWave$Anchor" "isDown" "Z" ∈ kw := kw_in (List.mem_append_right _ (tb4 _ (List.mem_of_getElem? (i := 137) (by decide +kernel)))) (by decide +kernel)
theorem kw_455 : Cond.fieldLink "GalleonWave$Anchor" 20 "GalleonWave$Anchor" "holds" "I" ∈ kw := kw_in (List.mem_append_right _ (tb4 _ (List.mem_of_getElem? (i := 139) (by decide +kernel)))) (by decide +kernel)
theorem kw_456 : Cond.fieldLink "GalleonWave$Anchor" 23 "GalleonWave$Anchor" "dropHour" "I" ∈ kw := kw_in (List.mem_append_right _ (tb4 _ (List.mem_of_getElem? (i := 141) (by decide +kernel)))) (by decide +kernel)
theorem kw_457 : Cond.code ⟨"GalleonWave", "holdOf", "(C)I"⟩ prog_1_method_65_code 1 (some .int) ∈ kw := kw_in (List.mem_append_right _ (tb5 _ (List.mem_of_getElem? (i := 40) (by decide +kernel)))) (by decide +kernel)
theorem kw_458 : Cond.methodLink "GalleonWave" 120 ⟨"GalleonWave", "holdOf", "(C)I"⟩ ∈ kw := kw_in (List.mem_append_right _ (tb5 _ (List.mem_of_getElem? (i := 38) (by decide +kernel)))) (by decide +kernel)
theorem kw_459 : Cond.static ⟨"GalleonWave", "holdOf", "(C)I"⟩ ∈ kw := kw_in (List.mem_append_right _ (tb5 _ (List.mem_of_getElem? (i := 39) (by decide +kernel)))) (by decide +kernel)
theorem kw_460 : Cond.code ⟨"GalleonWave$Anchor", "drop", "(IIII)V"⟩ prog_2_method_2_code 5 none ∈ kw := kw_in (List.mem_append_right _ (tb5 _ (List.mem_of_getElem? (i := 61) (by decide +kernel)))) (by decide +kernel)
theorem kw_461 : Cond.methodLink "GalleonWave" 145 ⟨"GalleonWave$Anchor", "drop", "(IIII)V"⟩ ∈ kw := kw_in (List.mem_append_right _ (tb5 _ (List.mem_of_getElem? (i := 58) (by decide +kernel)))) (by decide +kernel)
theorem kw_462 : Cond.instanceMethod ⟨"GalleonWave$Anchor", "drop", "(IIII)V"⟩ ∈ kw := kw_in (List.mem_append_right _ (tb5 _ (List.mem_of_getElem? (i := 59) (by decide +kernel)))) (by decide +kernel)
theorem kw_463 : Cond.selects "GalleonWave$Anchor" ⟨"GalleonWave$Anchor", "drop", "(IIII)V"⟩ ⟨"GalleonWave$Anchor", "drop", "(IIII)V"⟩ ∈ kw := kw_in (List.mem_append_right _ (tb5 _ (List.mem_of_getElem? (i := 60) (by decide +kernel)))) (by decide +kernel)
theorem kw_464 : Cond.instantiable "GalleonWave$Person" 5 ∈ kw := kw_in (List.mem_append_right _ (tb5 _ (List.mem_of_getElem? (i := 168) (by decide +kernel)))) (by decide +kernel)
theorem kw_465 : Cond.initialized "GalleonWave$Person" ∈ kw := kw_in (List.mem_append_right _ (tb1 _ (List.mem_of_getElem? (i := 28) (by decide +kernel)))) (by decide +kernel)
theorem kw_466 : Cond.code ⟨"GalleonWave$Person", "<init>", "(IZ)V"⟩ prog_7_method_1_code 3 none ∈ kw := kw_in (List.mem_append_right _ (tb5 _ (List.mem_of_getElem? (i := 171) (by decide +kernel)))) (by decide +kernel)
theorem kw_467 : Cond.methodLink "GalleonWave" 220 ⟨"GalleonWave$Person", "<init>", "(IZ)V"⟩ ∈ kw := kw_in (List.mem_append_right _ (tb5 _ (List.mem_of_getElem? (i := 169) (by decide +kernel)))) (by decide +kernel)
theorem kw_468 : Cond.instanceMethod ⟨"GalleonWave$Person", "<init>", "(IZ)V"⟩ ∈ kw := kw_in (List.mem_append_right _ (tb5 _ (List.mem_of_getElem? (i := 170) (by decide +kernel)))) (by decide +kernel)
theorem kw_469 : Cond.castable "GalleonWave$Person" "java/lang/Object" ∈ kw := kw_in (List.mem_append_right _ (tb6 _ (List.mem_of_getElem? (i := 151) (by decide +kernel)))) (by decide +kernel)
theorem kw_470 : Cond.fieldLink "GalleonWave" 242 "GalleonWave$Person" "booked" "I" ∈ kw := kw_in (List.mem_append_right _ (tb5 _ (List.mem_of_getElem? (i := 182) (by decide +kernel)))) (by decide +kernel)
theorem kw_471 : Cond.code ⟨"GalleonWave", "personAt", "(I)LGalleonWave$Person;"⟩ prog_1_method_61_code 2 (some (.object "GalleonWave$Person")) ∈ kw := kw_in (List.mem_append_right _ (tb5 _ (List.mem_of_getElem? (i := 204) (by decide +kernel)))) (by decide +kernel)
theorem kw_472 : Cond.methodLink "GalleonWave" 223 ⟨"GalleonWave", "personAt", "(I)LGalleonWave$Person;"⟩ ∈ kw := kw_in (List.mem_append_right _ (tb5 _ (List.mem_of_getElem? (i := 201) (by decide +kernel)))) (by decide +kernel)
theorem kw_473 : Cond.instanceMethod ⟨"GalleonWave", "personAt", "(I)LGalleonWave$Person;"⟩ ∈ kw := kw_in (List.mem_append_right _ (tb5 _ (List.mem_of_getElem? (i := 203) (by decide +kernel)))) (by decide +kernel)
theorem kw_474 : Cond.selects "GalleonWave" ⟨"GalleonWave", "personAt", "(I)LGalleonWave$Person;"⟩ ⟨"GalleonWave", "personAt", "(I)LGalleonWave$Person;"⟩ ∈ kw := kw_in (List.mem_append_left _ (List.mem_of_getElem? (i := 38) (by decide +kernel))) (by decide +kernel)
theorem kw_475 : Cond.code ⟨"GalleonWave", "countBooked", "(I)I"⟩ prog_1_method_96_code 4 (some .int) ∈ kw := kw_in (List.mem_append_right _ (tb5 _ (List.mem_of_getElem? (i := 227) (by decide +kernel)))) (by decide +kernel)
theorem kw_476 : Cond.methodLink "GalleonWave" 247 ⟨"GalleonWave", "countBooked", "(I)I"⟩ ∈ kw := kw_in (List.mem_append_right _ (tb5 _ (List.mem_of_getElem? (i := 224) (by decide +kernel)))) (by decide +kernel)
theorem kw_477 : Cond.instanceMethod ⟨"GalleonWave", "countBooked", "(I)I"⟩ ∈ kw := kw_in (List.mem_append_right _ (tb5 _ (List.mem_of_getElem? (i := 226) (by decide +kernel)))) (by decide +kernel)
theorem kw_478 : Cond.selects "GalleonWave" ⟨"GalleonWave", "countBooked", "(I)I"⟩ ⟨"GalleonWave", "countBooked", "(I)I"⟩ ∈ kw := kw_in (List.mem_append_left _ (List.mem_of_getElem? (i := 39) (by decide +kernel))) (by decide +kernel)
theorem kw_479 : Cond.fieldLink "GalleonWave$Person" 25 "GalleonWave$Person" "hoursAboard" "I" ∈ kw := kw_in (List.mem_append_right _ (tb5 _ (List.mem_of_getElem? (i := 179) (by decide +kernel)))) (by decide +kernel)
theorem kw_480 : Cond.fieldLink "GalleonWave$Land" 41 "GalleonWave$Land" "fuel" "I" ∈ kw := kw_in (List.mem_append_right _ (tb2 _ (List.mem_of_getElem? (i := 231) (by decide +kernel)))) (by decide +kernel)
theorem kw_481 : Cond.fieldLink "GalleonWave$Land" 44 "GalleonWave$Land" "food" "I" ∈ kw := kw_in (List.mem_append_right _ (tb2 _ (List.mem_of_getElem? (i := 233) (by decide +kernel)))) (by decide +kernel)
theorem kw_482 : Cond.fieldLink "GalleonWave$Land" 47 "GalleonWave$Ship" "fuel" "I" ∈ kw := kw_in (List.mem_append_right _ (tb4 _ (List.mem_of_getElem? (i := 203) (by decide +kernel)))) (by decide +kernel)
theorem kw_483 : Cond.fieldLink "GalleonWave$Land" 50 "GalleonWave$Ship" "food" "I" ∈ kw := kw_in (List.mem_append_right _ (tb4 _ (List.mem_of_getElem? (i := 206) (by decide +kernel)))) (by decide +kernel)
theorem kw_484 : Cond.fieldLink "GalleonWave$Land" 51 "GalleonWave$Ship" "channel" "I" ∈ kw := kw_in (List.mem_append_right _ (tb4 _ (List.mem_of_getElem? (i := 213) (by decide +kernel)))) (by decide +kernel)
theorem kw_485 : Cond.fieldLink "GalleonWave" 234 "GalleonWave$Land" "fuel" "I" ∈ kw := kw_in (List.mem_append_right _ (tb2 _ (List.mem_of_getElem? (i := 232) (by decide +kernel)))) (by decide +kernel)
theorem kw_486 : Cond.fieldLink "GalleonWave" 235 "GalleonWave$Land" "food" "I" ∈ kw := kw_in (List.mem_append_right _ (tb2 _ (List.mem_of_getElem? (i := 234) (by decide +kernel)))) (by decide +kernel)
theorem kw_487 : Cond.fieldLink "GalleonWave" 236 "GalleonWave$Land" "crystal" "I" ∈ kw := kw_in (List.mem_append_right _ (tb2 _ (List.mem_of_getElem? (i := 236) (by decide +kernel)))) (by decide +kernel)
theorem kw_488 : Cond.code ⟨"GalleonWave$Land", "tenderCost", "()I"⟩ prog_6_method_6_code 1 (some .int) ∈ kw := kw_in (List.mem_append_right _ (tb5 _ (List.mem_of_getElem? (i := 215) (by decide +kernel)))) (by decide +kernel)
theorem kw_489 : Cond.methodLink "GalleonWave" 239 ⟨"GalleonWave$Land", "tenderCost", "()I"⟩ ∈ kw := kw_in (List.mem_append_right _ (tb5 _ (List.mem_of_getElem? (i := 212) (by decide +kernel)))) (by decide +kernel)
theorem kw_490 : Cond.instanceMethod ⟨"GalleonWave$Land", "tenderCost", "()I"⟩ ∈ kw := kw_in (List.mem_append_right _ (tb5 _ (List.mem_of_getElem? (i := 213) (by decide +kernel)))) (by decide +kernel)
theorem kw_491 : Cond.selects "GalleonWave$Land" ⟨"GalleonWave$Land", "tenderCost", "()I"⟩ ⟨"GalleonWave$Land", "tenderCost", "()I"⟩ ∈ kw := kw_in (List.mem_append_right _ (tb5 _ (List.mem_of_getElem? (i := 214) (by decide +kernel)))) (by decide +kernel)
theorem kw_492 : Cond.code ⟨"GalleonWave$Person", "moveTo", "(I)V"⟩ prog_7_method_3_code 2 none ∈ kw := kw_in (List.mem_append_right _ (tb6 _ (List.mem_of_getElem? (i := 3) (by decide +kernel)))) (by decide +kernel)
theorem kw_493 : Cond.methodLink "GalleonWave" 555 ⟨"GalleonWave$Person", "moveTo", "(I)V"⟩ ∈ kw := kw_in (List.mem_append_right _ (tb6 _ (List.mem_of_getElem? (i := 0) (by decide +kernel)))) (by decide +kernel)
theorem kw_494 : Cond.instanceMethod ⟨"GalleonWave$Person", "moveTo", "(I)V"⟩ ∈ kw := kw_in (List.mem_append_right _ (tb6 _ (List.mem_of_getElem? (i := 1) (by decide +kernel)))) (by decide +kernel)
theorem kw_495 : Cond.selects "GalleonWave$Person" ⟨"GalleonWave$Person", "moveTo", "(I)V"⟩ ⟨"GalleonWave$Person", "moveTo", "(I)V"⟩ ∈ kw := kw_in (List.mem_append_right _ (tb6 _ (List.mem_of_getElem? (i := 2) (by decide +kernel)))) (by decide +kernel)
theorem kw_496 : Cond.fieldLink "GalleonWave" 157 "GalleonWave" "money" "I" ∈ kw := kw_in (List.mem_append_right _ (tb1 _ (List.mem_of_getElem? (i := 148) (by decide +kernel)))) (by decide +kernel)
theorem kw_497 : Cond.code ⟨"GalleonWave", "commitOffence", "(III)V"⟩ prog_1_method_92_code 4 none ∈ kw := kw_in (List.mem_append_right _ (tb4 _ (List.mem_of_getElem? (i := 64) (by decide +kernel)))) (by decide +kernel)
theorem kw_498 : Cond.methodLink "GalleonWave" 252 ⟨"GalleonWave", "commitOffence", "(III)V"⟩ ∈ kw := kw_in (List.mem_append_right _ (tb4 _ (List.mem_of_getElem? (i := 61) (by decide +kernel)))) (by decide +kernel)
theorem kw_499 : Cond.instanceMethod ⟨"GalleonWave", "commitOffence", "(III)V"⟩ ∈ kw := kw_in (List.mem_append_right _ (tb4 _ (List.mem_of_getElem? (i := 63) (by decide +kernel)))) (by decide +kernel)
theorem kw_500 : Cond.selects "GalleonWave" ⟨"GalleonWave", "commitOffence", "(III)V"⟩ ⟨"GalleonWave", "commitOffence", "(III)V"⟩ ∈ kw := kw_in (List.mem_append_left _ (List.mem_of_getElem? (i := 26) (by decide +kernel))) (by decide +kernel)
theorem kw_501 : Cond.code ⟨"GalleonWave", "takeBookedAboard", "(II)V"⟩ prog_1_method_98_code 5 none ∈ kw := kw_in (List.mem_append_right _ (tb6 _ (List.mem_of_getElem? (i := 7) (by decide +kernel)))) (by decide +kernel)
theorem kw_502 : Cond.methodLink "GalleonWave" 259 ⟨"GalleonWave", "takeBookedAboard", "(II)V"⟩ ∈ kw := kw_in (List.mem_append_right _ (tb6 _ (List.mem_of_getElem? (i := 4) (by decide +kernel)))) (by decide +kernel)
theorem kw_503 : Cond.instanceMethod ⟨"GalleonWave", "takeBookedAboard", "(II)V"⟩ ∈ kw := kw_in (List.mem_append_right _ (tb6 _ (List.mem_of_getElem? (i := 6) (by decide +kernel)))) (by decide +kernel)
theorem kw_504 : Cond.selects "GalleonWave" ⟨"GalleonWave", "takeBookedAboard", "(II)V"⟩ ⟨"GalleonWave", "takeBookedAboard", "(II)V"⟩ ∈ kw := kw_in (List.mem_append_left _ (List.mem_of_getElem? (i := 41) (by decide +kernel))) (by decide +kernel)
theorem kw_505 : Cond.code ⟨"GalleonWave$Land", "unloadTo", "(LGalleonWave$Ship;)V"⟩ prog_6_method_7_code 2 none ∈ kw := kw_in (List.mem_append_right _ (tb6 _ (List.mem_of_getElem? (i := 11) (by decide +kernel)))) (by decide +kernel)
theorem kw_506 : Cond.methodLink "GalleonWave" 262 ⟨"GalleonWave$Land", "unloadTo", "(LGalleonWave$Ship;)V"⟩ ∈ kw := kw_in (List.mem_append_right _ (tb6 _ (List.mem_of_getElem? (i := 8) (by decide +kernel)))) (by decide +kernel)
theorem kw_507 : Cond.instanceMethod ⟨"GalleonWave$Land", "unloadTo", "(LGalleonWave$Ship;)V"⟩ ∈ kw := kw_in (List.mem_append_right _ (tb6 _ (List.mem_of_getElem? (i := 9) (by decide +kernel)))) (by decide +kernel)
theorem kw_508 : Cond.selects "GalleonWave$Land" ⟨"GalleonWave$Land", "unloadTo", "(LGalleonWave$Ship;)V"⟩ ⟨"GalleonWave$Land", "unloadTo", "(LGalleonWave$Ship;)V"⟩ ∈ kw := kw_in (List.mem_append_right _ (tb6 _ (List.mem_of_getElem? (i := 10) (by decide +kernel)))) (by decide +kernel)
theorem kw_509 : Cond.fieldLink "GalleonWave" 266 "GalleonWave$Ship" "isMutinous" "Z" ∈ kw := kw_in (List.mem_append_right _ (tb4 _ (List.mem_of_getElem? (i := 223) (by decide +kernel)))) (by decide +kernel)
theorem kw_510 : Cond.instantiable "GalleonWave$Town" 5 ∈ kw := kw_in (List.mem_append_right _ (tb3 _ (List.mem_of_getElem? (i := 151) (by decide +kernel)))) (by decide +kernel)
theorem kw_511 : Cond.initialized "GalleonWave$Town" ∈ kw := kw_in (List.mem_append_right _ (tb1 _ (List.mem_of_getElem? (i := 25) (by decide +kernel)))) (by decide +kernel)
theorem kw_512 : Cond.code ⟨"GalleonWave$Town", "<init>", "(IIII)V"⟩ prog_12_method_1_code 5 none ∈ kw := kw_in (List.mem_append_right _ (tb3 _ (List.mem_of_getElem? (i := 154) (by decide +kernel)))) (by decide +kernel)
theorem kw_513 : Cond.methodLink "GalleonWave" 96 ⟨"GalleonWave$Town", "<init>", "(IIII)V"⟩ ∈ kw := kw_in (List.mem_append_right _ (tb3 _ (List.mem_of_getElem? (i := 152) (by decide +kernel)))) (by decide +kernel)
theorem kw_514 : Cond.instanceMethod ⟨"GalleonWave$Town", "<init>", "(IIII)V"⟩ ∈ kw := kw_in (List.mem_append_right _ (tb3 _ (List.mem_of_getElem? (i := 153) (by decide +kernel)))) (by decide +kernel)
theorem kw_515 : Cond.castable "GalleonWave$Town" "java/lang/Object" ∈ kw := kw_in (List.mem_append_right _ (tb6 _ (List.mem_of_getElem? (i := 148) (by decide +kernel)))) (by decide +kernel)
theorem kw_516 : Cond.code ⟨"GalleonWave", "townAt", "(I)LGalleonWave$Town;"⟩ prog_1_method_59_code 2 (some (.object "GalleonWave$Town")) ∈ kw := kw_in (List.mem_append_right _ (tb5 _ (List.mem_of_getElem? (i := 145) (by decide +kernel)))) (by decide +kernel)
theorem kw_517 : Cond.methodLink "GalleonWave" 202 ⟨"GalleonWave", "townAt", "(I)LGalleonWave$Town;"⟩ ∈ kw := kw_in (List.mem_append_right _ (tb5 _ (List.mem_of_getElem? (i := 142) (by decide +kernel)))) (by decide +kernel)
theorem kw_518 : Cond.instanceMethod ⟨"GalleonWave", "townAt", "(I)LGalleonWave$Town;"⟩ ∈ kw := kw_in (List.mem_append_right _ (tb5 _ (List.mem_of_getElem? (i := 144) (by decide +kernel)))) (by decide +kernel)
theorem kw_519 : Cond.selects "GalleonWave" ⟨"GalleonWave", "townAt", "(I)LGalleonWave$Town;"⟩ ⟨"GalleonWave", "townAt", "(I)LGalleonWave$Town;"⟩ ∈ kw := kw_in (List.mem_append_left _ (List.mem_of_getElem? (i := 37) (by decide +kernel))) (by decide +kernel)
theorem ydX0_drop : (yX0_drop.cls ≠ "java/lang/invoke/MethodHandle" ∧ yX0_drop.cls ≠ "java/lang/invoke/VarHandle") ∧ (parseMethodDescriptor yX0_drop.desc).map (fun d => d.parameters.length) = some 4 := by decide +kernel
theorem ydX10_init : (yX10_init.cls ≠ "java/lang/invoke/MethodHandle" ∧ yX10_init.cls ≠ "java/lang/invoke/VarHandle") ∧ (parseMethodDescriptor yX10_init.desc).map (fun d => d.parameters.length) = some 4 := by decide +kernel
theorem ydX11_commitOffence : (yX11_commitOffence.cls ≠ "java/lang/invoke/MethodHandle" ∧ yX11_commitOffence.cls ≠ "java/lang/invoke/VarHandle") ∧ (parseMethodDescriptor yX11_commitOffence.desc).map (fun d => d.parameters.length) = some 3 := by decide +kernel
theorem ydX11_countBooked : (yX11_countBooked.cls ≠ "java/lang/invoke/MethodHandle" ∧ yX11_countBooked.cls ≠ "java/lang/invoke/VarHandle") ∧ (parseMethodDescriptor yX11_countBooked.desc).map (fun d => d.parameters.length) = some 1 := by decide +kernel
theorem ydX11_holdOf : (yX11_holdOf.cls ≠ "java/lang/invoke/MethodHandle" ∧ yX11_holdOf.cls ≠ "java/lang/invoke/VarHandle") ∧ (parseMethodDescriptor yX11_holdOf.desc).map (fun d => d.parameters.length) = some 1 := by decide +kernel
theorem ydX11_personAt : (yX11_personAt.cls ≠ "java/lang/invoke/MethodHandle" ∧ yX11_personAt.cls ≠ "java/lang/invoke/VarHandle") ∧ (parseMethodDescriptor yX11_personAt.desc).map (fun d => d.parameters.length) = some 1 := by decide +kernel
theorem ydX11_shipAt : (yX11_shipAt.cls ≠ "java/lang/invoke/MethodHandle" ∧ yX11_shipAt.cls ≠ "java/lang/invoke/VarHandle") ∧ (parseMethodDescriptor yX11_shipAt.desc).map (fun d => d.parameters.length) = some 1 := by decide +kernel
theorem ydX11_takeBookedAboard : (yX11_takeBookedAboard.cls ≠ "java/lang/invoke/MethodHandle" ∧ yX11_takeBookedAboard.cls ≠ "java/lang/invoke/VarHandle") ∧ (parseMethodDescriptor yX11_takeBookedAboard.desc).map (fun d => d.parameters.length) = some 2 := by decide +kernel
theorem ydX11_townAt : (yX11_townAt.cls ≠ "java/lang/invoke/MethodHandle" ∧ yX11_townAt.cls ≠ "java/lang/invoke/VarHandle") ∧ (parseMethodDescriptor yX11_townAt.desc).map (fun d => d.parameters.length) = some 1 := by decide +kernel
theorem ydX2_init : (yX2_init.cls ≠ "java/lang/invoke/MethodHandle" ∧ yX2_init.cls ≠ "java/lang/invoke/VarHandle") ∧ (parseMethodDescriptor yX2_init.desc).map (fun d => d.parameters.length) = some 2 := by decide +kernel
theorem ydX4_tenderCost : (yX4_tenderCost.cls ≠ "java/lang/invoke/MethodHandle" ∧ yX4_tenderCost.cls ≠ "java/lang/invoke/VarHandle") ∧ (parseMethodDescriptor yX4_tenderCost.desc).map (fun d => d.parameters.length) = some 0 := by decide +kernel
theorem ydX4_unloadTo : (yX4_unloadTo.cls ≠ "java/lang/invoke/MethodHandle" ∧ yX4_unloadTo.cls ≠ "java/lang/invoke/VarHandle") ∧ (parseMethodDescriptor yX4_unloadTo.desc).map (fun d => d.parameters.length) = some 1 := by decide +kernel
theorem ydX5_init : (yX5_init.cls ≠ "java/lang/invoke/MethodHandle" ∧ yX5_init.cls ≠ "java/lang/invoke/VarHandle") ∧ (parseMethodDescriptor yX5_init.desc).map (fun d => d.parameters.length) = some 2 := by decide +kernel
theorem ydX5_moveTo : (yX5_moveTo.cls ≠ "java/lang/invoke/MethodHandle" ∧ yX5_moveTo.cls ≠ "java/lang/invoke/VarHandle") ∧ (parseMethodDescriptor yX5_moveTo.desc).map (fun d => d.parameters.length) = some 1 := by decide +kernel
theorem ydX8_init : (yX8_init.cls ≠ "java/lang/invoke/MethodHandle" ∧ yX8_init.cls ≠ "java/lang/invoke/VarHandle") ∧ (parseMethodDescriptor yX8_init.desc).map (fun d => d.parameters.length) = some 2 := by decide +kernel
theorem ydX9_addSold : (yX9_addSold.cls ≠ "java/lang/invoke/MethodHandle" ∧ yX9_addSold.cls ≠ "java/lang/invoke/VarHandle") ∧ (parseMethodDescriptor yX9_addSold.desc).map (fun d => d.parameters.length) = some 2 := by decide +kernel
theorem ydX9_soldOn : (yX9_soldOn.cls ≠ "java/lang/invoke/MethodHandle" ∧ yX9_soldOn.cls ≠ "java/lang/invoke/VarHandle") ∧ (parseMethodDescriptor yX9_soldOn.desc).map (fun d => d.parameters.length) = some 1 := by decide +kernel
theorem dX0_drop_0 : decode cX0_drop 0 = .ok (.aload_n 0, 1) := by decide +kernel
theorem dX0_drop_1 : decode cX0_drop 1 = .ok (.iload_n 1, 1) := by decide +kernel
theorem dX0_drop_2 : decode cX0_drop 2 = .ok (.putfield 7, 3) := by decide +kernel
theorem dX0_drop_5 : decode cX0_drop 5 = .ok (.aload_n 0, 1) := by decide +kernel
theorem dX0_drop_6 : decode cX0_drop 6 = .ok (.iload_n 2, 1) := by decide +kernel
theorem dX0_drop_7 : decode cX0_drop 7 = .ok (.putfield 13, 3) := by decide +kernel
theorem dX0_drop_10 : decode cX0_drop 10 = .ok (.aload_n 0, 1) := by decide +kernel
theorem dX0_drop_11 : decode cX0_drop 11 = .ok (.iconst 1, 1) := by decide +kernel
theorem dX0_drop_12 : decode cX0_drop 12 = .ok (.putfield 16, 3) := by decide +kernel
theorem dX0_drop_15 : decode cX0_drop 15 = .ok (.aload_n 0, 1) := by decide +kernel
theorem dX0_drop_16 : decode cX0_drop 16 = .ok (.iload_n 3, 1) := by decide +kernel
theorem dX0_drop_17 : decode cX0_drop 17 = .ok (.putfield 20, 3) := by decide +kernel
theorem dX0_drop_20 : decode cX0_drop 20 = .ok (.aload_n 0, 1) := by decide +kernel
theorem dX0_drop_21 : decode cX0_drop 21 = .ok (.iload 4, 2) := by decide +kernel
theorem dX0_drop_23 : decode cX0_drop 23 = .ok (.putfield 23, 3) := by decide +kernel
theorem dX0_drop_26 : decode cX0_drop 26 = .ok (.return_, 1) := by decide +kernel
theorem dX4_tenderCost_0 : decode cX4_tenderCost 0 = .ok (.bipush 50, 2) := by decide +kernel
theorem dX4_tenderCost_2 : decode cX4_tenderCost 2 = .ok (.aload_n 0, 1) := by decide +kernel
theorem dX4_tenderCost_3 : decode cX4_tenderCost 3 = .ok (.getfield 41, 3) := by decide +kernel
theorem dX4_tenderCost_6 : decode cX4_tenderCost 6 = .ok (.iadd, 1) := by decide +kernel
theorem dX4_tenderCost_7 : decode cX4_tenderCost 7 = .ok (.aload_n 0, 1) := by decide +kernel
theorem dX4_tenderCost_8 : decode cX4_tenderCost 8 = .ok (.getfield 44, 3) := by decide +kernel
theorem dX4_tenderCost_11 : decode cX4_tenderCost 11 = .ok (.iadd, 1) := by decide +kernel
theorem dX4_tenderCost_12 : decode cX4_tenderCost 12 = .ok (.ireturn, 1) := by decide +kernel
theorem dX4_unloadTo_0 : decode cX4_unloadTo 0 = .ok (.aload_n 1, 1) := by decide +kernel
theorem dX4_unloadTo_1 : decode cX4_unloadTo 1 = .ok (.dup, 1) := by decide +kernel
theorem dX4_unloadTo_2 : decode cX4_unloadTo 2 = .ok (.getfield 47, 3) := by decide +kernel
theorem dX4_unloadTo_5 : decode cX4_unloadTo 5 = .ok (.aload_n 0, 1) := by decide +kernel
theorem dX4_unloadTo_6 : decode cX4_unloadTo 6 = .ok (.getfield 41, 3) := by decide +kernel
theorem dX4_unloadTo_9 : decode cX4_unloadTo 9 = .ok (.iadd, 1) := by decide +kernel
theorem dX4_unloadTo_10 : decode cX4_unloadTo 10 = .ok (.putfield 47, 3) := by decide +kernel
theorem dX4_unloadTo_13 : decode cX4_unloadTo 13 = .ok (.aload_n 1, 1) := by decide +kernel
theorem dX4_unloadTo_14 : decode cX4_unloadTo 14 = .ok (.dup, 1) := by decide +kernel
theorem dX4_unloadTo_15 : decode cX4_unloadTo 15 = .ok (.getfield 50, 3) := by decide +kernel
theorem dX4_unloadTo_18 : decode cX4_unloadTo 18 = .ok (.aload_n 0, 1) := by decide +kernel
theorem dX4_unloadTo_19 : decode cX4_unloadTo 19 = .ok (.getfield 44, 3) := by decide +kernel
theorem dX4_unloadTo_22 : decode cX4_unloadTo 22 = .ok (.iadd, 1) := by decide +kernel
theorem dX4_unloadTo_23 : decode cX4_unloadTo 23 = .ok (.putfield 50, 3) := by decide +kernel
theorem dX4_unloadTo_26 : decode cX4_unloadTo 26 = .ok (.aload_n 0, 1) := by decide +kernel
theorem dX4_unloadTo_27 : decode cX4_unloadTo 27 = .ok (.getfield 31, 3) := by decide +kernel
theorem dX4_unloadTo_30 : decode cX4_unloadTo 30 = .ok (.iconst (-1), 1) := by decide +kernel
theorem dX4_unloadTo_31 : decode cX4_unloadTo 31 = .ok (.if_icmp .eq 11, 3) := by decide +kernel
theorem dX4_unloadTo_34 : decode cX4_unloadTo 34 = .ok (.aload_n 1, 1) := by decide +kernel
theorem dX4_unloadTo_35 : decode cX4_unloadTo 35 = .ok (.aload_n 0, 1) := by decide +kernel
theorem dX4_unloadTo_36 : decode cX4_unloadTo 36 = .ok (.getfield 31, 3) := by decide +kernel
theorem dX4_unloadTo_39 : decode cX4_unloadTo 39 = .ok (.putfield 51, 3) := by decide +kernel
theorem dX4_unloadTo_42 : decode cX4_unloadTo 42 = .ok (.aload_n 0, 1) := by decide +kernel
theorem dX4_unloadTo_43 : decode cX4_unloadTo 43 = .ok (.iconst 0, 1) := by decide +kernel
theorem dX4_unloadTo_44 : decode cX4_unloadTo 44 = .ok (.putfield 41, 3) := by decide +kernel
theorem dX4_unloadTo_47 : decode cX4_unloadTo 47 = .ok (.aload_n 0, 1) := by decide +kernel
theorem dX4_unloadTo_48 : decode cX4_unloadTo 48 = .ok (.iconst 0, 1) := by decide +kernel
theorem dX4_unloadTo_49 : decode cX4_unloadTo 49 = .ok (.putfield 44, 3) := by decide +kernel
theorem dX4_unloadTo_52 : decode cX4_unloadTo 52 = .ok (.aload_n 0, 1) := by decide +kernel
theorem dX4_unloadTo_53 : decode cX4_unloadTo 53 = .ok (.iconst (-1), 1) := by decide +kernel
theorem dX4_unloadTo_54 : decode cX4_unloadTo 54 = .ok (.putfield 31, 3) := by decide +kernel
theorem dX4_unloadTo_57 : decode cX4_unloadTo 57 = .ok (.return_, 1) := by decide +kernel
theorem dX5_moveTo_0 : decode cX5_moveTo 0 = .ok (.aload_n 0, 1) := by decide +kernel
theorem dX5_moveTo_1 : decode cX5_moveTo 1 = .ok (.iload_n 1, 1) := by decide +kernel
theorem dX5_moveTo_2 : decode cX5_moveTo 2 = .ok (.putfield 19, 3) := by decide +kernel
theorem dX5_moveTo_5 : decode cX5_moveTo 5 = .ok (.aload_n 0, 1) := by decide +kernel
theorem dX5_moveTo_6 : decode cX5_moveTo 6 = .ok (.iconst 0, 1) := by decide +kernel
theorem dX5_moveTo_7 : decode cX5_moveTo 7 = .ok (.putfield 25, 3) := by decide +kernel
theorem dX5_moveTo_10 : decode cX5_moveTo 10 = .ok (.aload_n 0, 1) := by decide +kernel
theorem dX5_moveTo_11 : decode cX5_moveTo 11 = .ok (.iconst (-1), 1) := by decide +kernel
theorem dX5_moveTo_12 : decode cX5_moveTo 12 = .ok (.putfield 22, 3) := by decide +kernel
theorem dX5_moveTo_15 : decode cX5_moveTo 15 = .ok (.return_, 1) := by decide +kernel
theorem dX9_soldOn_0 : decode cX9_soldOn 0 = .ok (.iload_n 1, 1) := by decide +kernel
theorem dX9_soldOn_1 : decode cX9_soldOn 1 = .ok (.aload_n 0, 1) := by decide +kernel
theorem dX9_soldOn_2 : decode cX9_soldOn 2 = .ok (.getfield 7, 3) := by decide +kernel
theorem dX9_soldOn_5 : decode cX9_soldOn 5 = .ok (.if_icmp .ne 10, 3) := by decide +kernel
theorem dX9_soldOn_8 : decode cX9_soldOn 8 = .ok (.aload_n 0, 1) := by decide +kernel
theorem dX9_soldOn_9 : decode cX9_soldOn 9 = .ok (.getfield 13, 3) := by decide +kernel
theorem dX9_soldOn_12 : decode cX9_soldOn 12 = .ok (.goto 4, 3) := by decide +kernel
theorem dX9_soldOn_16 : decode cX9_soldOn 16 = .ok (.ireturn, 1) := by decide +kernel
theorem dX9_addSold_0 : decode cX9_addSold 0 = .ok (.aload_n 0, 1) := by decide +kernel
theorem dX9_addSold_1 : decode cX9_addSold 1 = .ok (.aload_n 0, 1) := by decide +kernel
theorem dX9_addSold_2 : decode cX9_addSold 2 = .ok (.iload_n 1, 1) := by decide +kernel
theorem dX9_addSold_3 : decode cX9_addSold 3 = .ok (.invokevirtual 16, 3) := by decide +kernel
theorem dX9_addSold_6 : decode cX9_addSold 6 = .ok (.iload_n 2, 1) := by decide +kernel
theorem dX9_addSold_7 : decode cX9_addSold 7 = .ok (.iadd, 1) := by decide +kernel
theorem dX9_addSold_8 : decode cX9_addSold 8 = .ok (.putfield 13, 3) := by decide +kernel
theorem dX9_addSold_11 : decode cX9_addSold 11 = .ok (.aload_n 0, 1) := by decide +kernel
theorem dX9_addSold_12 : decode cX9_addSold 12 = .ok (.iload_n 1, 1) := by decide +kernel
theorem dX9_addSold_13 : decode cX9_addSold 13 = .ok (.putfield 7, 3) := by decide +kernel
theorem dX9_addSold_16 : decode cX9_addSold 16 = .ok (.aload_n 0, 1) := by decide +kernel
theorem dX9_addSold_17 : decode cX9_addSold 17 = .ok (.dup, 1) := by decide +kernel
theorem dX9_addSold_18 : decode cX9_addSold 18 = .ok (.getfield 20, 3) := by decide +kernel
theorem dX9_addSold_21 : decode cX9_addSold 21 = .ok (.iload_n 2, 1) := by decide +kernel
theorem dX9_addSold_22 : decode cX9_addSold 22 = .ok (.iadd, 1) := by decide +kernel
theorem dX9_addSold_23 : decode cX9_addSold 23 = .ok (.putfield 20, 3) := by decide +kernel
theorem dX9_addSold_26 : decode cX9_addSold 26 = .ok (.return_, 1) := by decide +kernel
theorem dX11_setWind_7 : decode cX11_setWind 7 = .ok (.iload_n 2, 1) := by decide +kernel
theorem dX11_setWind_8 : decode cX11_setWind 8 = .ok (.bipush 110, 2) := by decide +kernel
theorem dX11_setWind_10 : decode cX11_setWind 10 = .ok (.if_icmp .eq 31, 3) := by decide +kernel
theorem dX11_setWind_13 : decode cX11_setWind 13 = .ok (.iload_n 2, 1) := by decide +kernel
theorem dX11_setWind_14 : decode cX11_setWind 14 = .ok (.bipush 101, 2) := by decide +kernel
theorem dX11_setWind_16 : decode cX11_setWind 16 = .ok (.if_icmp .eq 25, 3) := by decide +kernel
theorem dX11_setWind_19 : decode cX11_setWind 19 = .ok (.iload_n 2, 1) := by decide +kernel
theorem dX11_setWind_20 : decode cX11_setWind 20 = .ok (.bipush 115, 2) := by decide +kernel
theorem dX11_setWind_22 : decode cX11_setWind 22 = .ok (.if_icmp .eq 19, 3) := by decide +kernel
theorem dX11_setWind_25 : decode cX11_setWind 25 = .ok (.iload_n 2, 1) := by decide +kernel
theorem dX11_setWind_26 : decode cX11_setWind 26 = .ok (.bipush 119, 2) := by decide +kernel
theorem dX11_setWind_28 : decode cX11_setWind 28 = .ok (.if_icmp .eq 13, 3) := by decide +kernel
theorem dX11_setWind_41 : decode cX11_setWind 41 = .ok (.aload_n 0, 1) := by decide +kernel
theorem dX11_setWind_42 : decode cX11_setWind 42 = .ok (.getfield 85, 3) := by decide +kernel
theorem dX11_setWind_45 : decode cX11_setWind 45 = .ok (.istore_n 3, 1) := by decide +kernel
theorem dX11_setWind_46 : decode cX11_setWind 46 = .ok (.aload_n 0, 1) := by decide +kernel
theorem dX11_setWind_47 : decode cX11_setWind 47 = .ok (.iload_n 1, 1) := by decide +kernel
theorem dX11_setWind_48 : decode cX11_setWind 48 = .ok (.putfield 85, 3) := by decide +kernel
theorem dX11_setWind_51 : decode cX11_setWind 51 = .ok (.aload_n 0, 1) := by decide +kernel
theorem dX11_setWind_52 : decode cX11_setWind 52 = .ok (.iload_n 2, 1) := by decide +kernel
theorem dX11_setWind_53 : decode cX11_setWind 53 = .ok (.putfield 32, 3) := by decide +kernel
theorem dX11_setWind_56 : decode cX11_setWind 56 = .ok (.iload_n 3, 1) := by decide +kernel
theorem dX11_setWind_57 : decode cX11_setWind 57 = .ok (.ireturn, 1) := by decide +kernel
theorem dX11_setTide_0 : decode cX11_setTide 0 = .ok (.iload_n 1, 1) := by decide +kernel
theorem dX11_setTide_1 : decode cX11_setTide 1 = .ok (.bipush (-3), 2) := by decide +kernel
theorem dX11_setTide_3 : decode cX11_setTide 3 = .ok (.iconst 3, 1) := by decide +kernel
theorem dX11_setTide_4 : decode cX11_setTide 4 = .ok (.invokestatic 40, 3) := by decide +kernel
theorem dX11_setTide_7 : decode cX11_setTide 7 = .ok (.iload_n 2, 1) := by decide +kernel
theorem dX11_setTide_8 : decode cX11_setTide 8 = .ok (.bipush (-3), 2) := by decide +kernel
theorem dX11_setTide_10 : decode cX11_setTide 10 = .ok (.iconst 3, 1) := by decide +kernel
theorem dX11_setTide_11 : decode cX11_setTide 11 = .ok (.invokestatic 40, 3) := by decide +kernel
theorem dX11_setTide_14 : decode cX11_setTide 14 = .ok (.aload_n 0, 1) := by decide +kernel
theorem dX11_setTide_15 : decode cX11_setTide 15 = .ok (.getfield 88, 3) := by decide +kernel
theorem dX11_setTide_18 : decode cX11_setTide 18 = .ok (.istore_n 3, 1) := by decide +kernel
theorem dX11_setTide_19 : decode cX11_setTide 19 = .ok (.aload_n 0, 1) := by decide +kernel
theorem dX11_setTide_20 : decode cX11_setTide 20 = .ok (.iload_n 1, 1) := by decide +kernel
theorem dX11_setTide_21 : decode cX11_setTide 21 = .ok (.putfield 88, 3) := by decide +kernel
theorem dX11_setTide_24 : decode cX11_setTide 24 = .ok (.aload_n 0, 1) := by decide +kernel
theorem dX11_setTide_25 : decode cX11_setTide 25 = .ok (.iload_n 2, 1) := by decide +kernel
theorem dX11_setTide_26 : decode cX11_setTide 26 = .ok (.putfield 91, 3) := by decide +kernel
theorem dX11_setTide_29 : decode cX11_setTide 29 = .ok (.iload_n 3, 1) := by decide +kernel
theorem dX11_setTide_30 : decode cX11_setTide 30 = .ok (.ireturn, 1) := by decide +kernel
theorem dX11_addTown_5 : decode cX11_addTown 5 = .ok (.pop, 1) := by decide +kernel
theorem dX11_addTown_6 : decode cX11_addTown 6 = .ok (.iload_n 2, 1) := by decide +kernel
theorem dX11_addTown_7 : decode cX11_addTown 7 = .ok (.iload_n 3, 1) := by decide +kernel
theorem dX11_addTown_8 : decode cX11_addTown 8 = .ok (.invokestatic 36, 3) := by decide +kernel
theorem dX11_addTown_11 : decode cX11_addTown 11 = .ok (.iload 4, 2) := by decide +kernel
theorem dX11_addTown_13 : decode cX11_addTown 13 = .ok (.iconst 1, 1) := by decide +kernel
theorem dX11_addTown_14 : decode cX11_addTown 14 = .ok (.sipush 999, 3) := by decide +kernel
theorem dX11_addTown_17 : decode cX11_addTown 17 = .ok (.invokestatic 40, 3) := by decide +kernel
theorem dX11_addTown_20 : decode cX11_addTown 20 = .ok (.aload_n 0, 1) := by decide +kernel
theorem dX11_addTown_21 : decode cX11_addTown 21 = .ok (.getfield 16, 3) := by decide +kernel
theorem dX11_addTown_24 : decode cX11_addTown 24 = .ok (.invokevirtual 44, 3) := by decide +kernel
theorem dX11_addTown_27 : decode cX11_addTown 27 = .ok (.bipush 6, 2) := by decide +kernel
theorem dX11_addTown_29 : decode cX11_addTown 29 = .ok (.invokestatic 48, 3) := by decide +kernel
theorem dX11_addTown_32 : decode cX11_addTown 32 = .ok (.aload_n 0, 1) := by decide +kernel
theorem dX11_addTown_33 : decode cX11_addTown 33 = .ok (.getfield 16, 3) := by decide +kernel
theorem dX11_addTown_36 : decode cX11_addTown 36 = .ok (.new 94, 3) := by decide +kernel
theorem dX11_addTown_39 : decode cX11_addTown 39 = .ok (.dup, 1) := by decide +kernel
theorem dX11_addTown_40 : decode cX11_addTown 40 = .ok (.iload_n 1, 1) := by decide +kernel
theorem dX11_addTown_41 : decode cX11_addTown 41 = .ok (.iload_n 2, 1) := by decide +kernel
theorem dX11_addTown_42 : decode cX11_addTown 42 = .ok (.iload_n 3, 1) := by decide +kernel
theorem dX11_addTown_43 : decode cX11_addTown 43 = .ok (.iload 4, 2) := by decide +kernel
theorem dX11_addTown_45 : decode cX11_addTown 45 = .ok (.invokespecial 96, 3) := by decide +kernel
theorem dX11_addTown_48 : decode cX11_addTown 48 = .ok (.invokevirtual 55, 3) := by decide +kernel
theorem dX11_addTown_51 : decode cX11_addTown 51 = .ok (.pop, 1) := by decide +kernel
theorem dX11_addTown_52 : decode cX11_addTown 52 = .ok (.aload_n 0, 1) := by decide +kernel
theorem dX11_addTown_53 : decode cX11_addTown 53 = .ok (.getfield 16, 3) := by decide +kernel
theorem dX11_addTown_56 : decode cX11_addTown 56 = .ok (.invokevirtual 44, 3) := by decide +kernel
theorem dX11_addTown_59 : decode cX11_addTown 59 = .ok (.iconst 1, 1) := by decide +kernel
theorem dX11_addTown_60 : decode cX11_addTown 60 = .ok (.isub, 1) := by decide +kernel
theorem dX11_addTown_61 : decode cX11_addTown 61 = .ok (.ireturn, 1) := by decide +kernel
theorem dX11_addShip_5 : decode cX11_addShip 5 = .ok (.aload_n 0, 1) := by decide +kernel
theorem dX11_addShip_6 : decode cX11_addShip 6 = .ok (.getfield 19, 3) := by decide +kernel
theorem dX11_addShip_9 : decode cX11_addShip 9 = .ok (.invokevirtual 44, 3) := by decide +kernel
theorem dX11_addShip_12 : decode cX11_addShip 12 = .ok (.iconst 4, 1) := by decide +kernel
theorem dX11_addShip_13 : decode cX11_addShip 13 = .ok (.invokestatic 48, 3) := by decide +kernel
theorem dX11_addShip_16 : decode cX11_addShip 16 = .ok (.aload_n 0, 1) := by decide +kernel
theorem dX11_addShip_17 : decode cX11_addShip 17 = .ok (.getfield 19, 3) := by decide +kernel
theorem dX11_addShip_20 : decode cX11_addShip 20 = .ok (.new 102, 3) := by decide +kernel
theorem dX11_addShip_23 : decode cX11_addShip 23 = .ok (.dup, 1) := by decide +kernel
theorem dX11_addShip_24 : decode cX11_addShip 24 = .ok (.iload_n 1, 1) := by decide +kernel
theorem dX11_addShip_25 : decode cX11_addShip 25 = .ok (.iload_n 2, 1) := by decide +kernel
theorem dX11_addShip_26 : decode cX11_addShip 26 = .ok (.invokespecial 104, 3) := by decide +kernel
theorem dX11_addShip_29 : decode cX11_addShip 29 = .ok (.invokevirtual 55, 3) := by decide +kernel
theorem dX11_addShip_32 : decode cX11_addShip 32 = .ok (.pop, 1) := by decide +kernel
theorem dX11_addShip_33 : decode cX11_addShip 33 = .ok (.aload_n 0, 1) := by decide +kernel
theorem dX11_addShip_34 : decode cX11_addShip 34 = .ok (.getfield 19, 3) := by decide +kernel
theorem dX11_addShip_37 : decode cX11_addShip 37 = .ok (.invokevirtual 44, 3) := by decide +kernel
theorem dX11_addShip_40 : decode cX11_addShip 40 = .ok (.iconst 1, 1) := by decide +kernel
theorem dX11_addShip_41 : decode cX11_addShip 41 = .ok (.isub, 1) := by decide +kernel
theorem dX11_addShip_42 : decode cX11_addShip 42 = .ok (.ireturn, 1) := by decide +kernel
theorem dX11_anchor_0 : decode cX11_anchor 0 = .ok (.aload_n 0, 1) := by decide +kernel
theorem dX11_anchor_1 : decode cX11_anchor 1 = .ok (.iload_n 1, 1) := by decide +kernel
theorem dX11_anchor_2 : decode cX11_anchor 2 = .ok (.invokevirtual 106, 3) := by decide +kernel
theorem dX11_anchor_5 : decode cX11_anchor 5 = .ok (.astore_n 3, 1) := by decide +kernel
theorem dX11_anchor_6 : decode cX11_anchor 6 = .ok (.iload_n 2, 1) := by decide +kernel
theorem dX11_anchor_7 : decode cX11_anchor 7 = .ok (.invokestatic 120, 3) := by decide +kernel
theorem dX11_anchor_10 : decode cX11_anchor 10 = .ok (.istore 4, 2) := by decide +kernel
theorem dX11_anchor_12 : decode cX11_anchor 12 = .ok (.iload 4, 2) := by decide +kernel
theorem dX11_anchor_14 : decode cX11_anchor 14 = .ok (.ifCond .ne 13, 3) := by decide +kernel
theorem dX11_anchor_27 : decode cX11_anchor 27 = .ok (.aload_n 3, 1) := by decide +kernel
theorem dX11_anchor_28 : decode cX11_anchor 28 = .ok (.getfield 126, 3) := by decide +kernel
theorem dX11_anchor_31 : decode cX11_anchor 31 = .ok (.getfield 130, 3) := by decide +kernel
theorem dX11_anchor_34 : decode cX11_anchor 34 = .ok (.ifCond .ne 11, 3) := by decide +kernel
theorem dX11_anchor_37 : decode cX11_anchor 37 = .ok (.aload_n 0, 1) := by decide +kernel
theorem dX11_anchor_38 : decode cX11_anchor 38 = .ok (.aload_n 3, 1) := by decide +kernel
theorem dX11_anchor_39 : decode cX11_anchor 39 = .ok (.invokevirtual 136, 3) := by decide +kernel
theorem dX11_anchor_42 : decode cX11_anchor 42 = .ok (.ifCond .eq 13, 3) := by decide +kernel
theorem dX11_anchor_55 : decode cX11_anchor 55 = .ok (.aload_n 3, 1) := by decide +kernel
theorem dX11_anchor_56 : decode cX11_anchor 56 = .ok (.getfield 126, 3) := by decide +kernel
theorem dX11_anchor_59 : decode cX11_anchor 59 = .ok (.aload_n 3, 1) := by decide +kernel
theorem dX11_anchor_60 : decode cX11_anchor 60 = .ok (.getfield 110, 3) := by decide +kernel
theorem dX11_anchor_63 : decode cX11_anchor 63 = .ok (.aload_n 3, 1) := by decide +kernel
theorem dX11_anchor_64 : decode cX11_anchor 64 = .ok (.getfield 113, 3) := by decide +kernel
theorem dX11_anchor_67 : decode cX11_anchor 67 = .ok (.iload 4, 2) := by decide +kernel
theorem dX11_anchor_69 : decode cX11_anchor 69 = .ok (.aload_n 0, 1) := by decide +kernel
theorem dX11_anchor_70 : decode cX11_anchor 70 = .ok (.getfield 63, 3) := by decide +kernel
theorem dX11_anchor_73 : decode cX11_anchor 73 = .ok (.invokevirtual 145, 3) := by decide +kernel
theorem dX11_anchor_76 : decode cX11_anchor 76 = .ok (.iload 4, 2) := by decide +kernel
theorem dX11_anchor_78 : decode cX11_anchor 78 = .ok (.ireturn, 1) := by decide +kernel
theorem dX11_addGenerator_0 : decode cX11_addGenerator 0 = .ok (.aload_n 0, 1) := by decide +kernel
theorem dX11_addGenerator_1 : decode cX11_addGenerator 1 = .ok (.iload_n 1, 1) := by decide +kernel
theorem dX11_addGenerator_2 : decode cX11_addGenerator 2 = .ok (.invokevirtual 106, 3) := by decide +kernel
theorem dX11_addGenerator_5 : decode cX11_addGenerator 5 = .ok (.astore 4, 2) := by decide +kernel
theorem dX11_addGenerator_7 : decode cX11_addGenerator 7 = .ok (.iload_n 2, 1) := by decide +kernel
theorem dX11_addGenerator_8 : decode cX11_addGenerator 8 = .ok (.iconst 1, 1) := by decide +kernel
theorem dX11_addGenerator_9 : decode cX11_addGenerator 9 = .ok (.bipush 50, 2) := by decide +kernel
theorem dX11_addGenerator_11 : decode cX11_addGenerator 11 = .ok (.invokestatic 40, 3) := by decide +kernel
theorem dX11_addGenerator_14 : decode cX11_addGenerator 14 = .ok (.iload_n 3, 1) := by decide +kernel
theorem dX11_addGenerator_15 : decode cX11_addGenerator 15 = .ok (.iconst 1, 1) := by decide +kernel
theorem dX11_addGenerator_16 : decode cX11_addGenerator 16 = .ok (.sipush 9999, 3) := by decide +kernel
theorem dX11_addGenerator_19 : decode cX11_addGenerator 19 = .ok (.invokestatic 40, 3) := by decide +kernel
theorem dX11_addGenerator_22 : decode cX11_addGenerator 22 = .ok (.aload 4, 2) := by decide +kernel
theorem dX11_addGenerator_24 : decode cX11_addGenerator 24 = .ok (.getfield 160, 3) := by decide +kernel
theorem dX11_addGenerator_27 : decode cX11_addGenerator 27 = .ok (.invokevirtual 44, 3) := by decide +kernel
theorem dX11_addGenerator_30 : decode cX11_addGenerator 30 = .ok (.iconst 2, 1) := by decide +kernel
theorem dX11_addGenerator_31 : decode cX11_addGenerator 31 = .ok (.invokestatic 48, 3) := by decide +kernel
theorem dX11_addGenerator_34 : decode cX11_addGenerator 34 = .ok (.aload 4, 2) := by decide +kernel
theorem dX11_addGenerator_36 : decode cX11_addGenerator 36 = .ok (.getfield 160, 3) := by decide +kernel
theorem dX11_addGenerator_39 : decode cX11_addGenerator 39 = .ok (.new 163, 3) := by decide +kernel
theorem dX11_addGenerator_42 : decode cX11_addGenerator 42 = .ok (.dup, 1) := by decide +kernel
theorem dX11_addGenerator_43 : decode cX11_addGenerator 43 = .ok (.iload_n 2, 1) := by decide +kernel
theorem dX11_addGenerator_44 : decode cX11_addGenerator 44 = .ok (.iload_n 3, 1) := by decide +kernel
theorem dX11_addGenerator_45 : decode cX11_addGenerator 45 = .ok (.invokespecial 165, 3) := by decide +kernel
theorem dX11_addGenerator_48 : decode cX11_addGenerator 48 = .ok (.invokevirtual 55, 3) := by decide +kernel
theorem dX11_addGenerator_51 : decode cX11_addGenerator 51 = .ok (.pop, 1) := by decide +kernel
theorem dX11_addGenerator_52 : decode cX11_addGenerator 52 = .ok (.aload 4, 2) := by decide +kernel
theorem dX11_addGenerator_54 : decode cX11_addGenerator 54 = .ok (.getfield 160, 3) := by decide +kernel
theorem dX11_addGenerator_57 : decode cX11_addGenerator 57 = .ok (.invokevirtual 44, 3) := by decide +kernel
theorem dX11_addGenerator_60 : decode cX11_addGenerator 60 = .ok (.iconst 1, 1) := by decide +kernel
theorem dX11_addGenerator_61 : decode cX11_addGenerator 61 = .ok (.isub, 1) := by decide +kernel
theorem dX11_addGenerator_62 : decode cX11_addGenerator 62 = .ok (.ireturn, 1) := by decide +kernel
theorem dX11_setGenerator_0 : decode cX11_setGenerator 0 = .ok (.aload_n 0, 1) := by decide +kernel
theorem dX11_setGenerator_1 : decode cX11_setGenerator 1 = .ok (.iload_n 1, 1) := by decide +kernel
theorem dX11_setGenerator_2 : decode cX11_setGenerator 2 = .ok (.invokevirtual 106, 3) := by decide +kernel
theorem dX11_setGenerator_5 : decode cX11_setGenerator 5 = .ok (.astore 4, 2) := by decide +kernel
theorem dX11_setGenerator_7 : decode cX11_setGenerator 7 = .ok (.iload_n 2, 1) := by decide +kernel
theorem dX11_setGenerator_8 : decode cX11_setGenerator 8 = .ok (.aload 4, 2) := by decide +kernel
theorem dX11_setGenerator_10 : decode cX11_setGenerator 10 = .ok (.getfield 160, 3) := by decide +kernel
theorem dX11_setGenerator_13 : decode cX11_setGenerator 13 = .ok (.invokevirtual 44, 3) := by decide +kernel
theorem dX11_setGenerator_16 : decode cX11_setGenerator 16 = .ok (.invokestatic 166, 3) := by decide +kernel
theorem dX11_setGenerator_19 : decode cX11_setGenerator 19 = .ok (.aload 4, 2) := by decide +kernel
theorem dX11_setGenerator_21 : decode cX11_setGenerator 21 = .ok (.getfield 160, 3) := by decide +kernel
theorem dX11_setGenerator_24 : decode cX11_setGenerator 24 = .ok (.iload_n 2, 1) := by decide +kernel
theorem dX11_setGenerator_25 : decode cX11_setGenerator 25 = .ok (.invokevirtual 169, 3) := by decide +kernel
theorem dX11_setGenerator_28 : decode cX11_setGenerator 28 = .ok (.checkcast 163, 3) := by decide +kernel
theorem dX11_setGenerator_31 : decode cX11_setGenerator 31 = .ok (.astore 5, 2) := by decide +kernel
theorem dX11_setGenerator_33 : decode cX11_setGenerator 33 = .ok (.aload 5, 2) := by decide +kernel
theorem dX11_setGenerator_35 : decode cX11_setGenerator 35 = .ok (.iload_n 3, 1) := by decide +kernel
theorem dX11_setGenerator_36 : decode cX11_setGenerator 36 = .ok (.putfield 173, 3) := by decide +kernel
theorem dX11_setGenerator_39 : decode cX11_setGenerator 39 = .ok (.aload 5, 2) := by decide +kernel
theorem dX11_setGenerator_41 : decode cX11_setGenerator 41 = .ok (.getfield 176, 3) := by decide +kernel
theorem dX11_setGenerator_44 : decode cX11_setGenerator 44 = .ok (.ireturn, 1) := by decide +kernel
theorem dX11_getFuel_0 : decode cX11_getFuel 0 = .ok (.aload_n 0, 1) := by decide +kernel
theorem dX11_getFuel_1 : decode cX11_getFuel 1 = .ok (.iload_n 1, 1) := by decide +kernel
theorem dX11_getFuel_2 : decode cX11_getFuel 2 = .ok (.invokevirtual 106, 3) := by decide +kernel
theorem dX11_getFuel_5 : decode cX11_getFuel 5 = .ok (.getfield 179, 3) := by decide +kernel
theorem dX11_getFuel_8 : decode cX11_getFuel 8 = .ok (.ireturn, 1) := by decide +kernel
theorem dX11_getFood_0 : decode cX11_getFood 0 = .ok (.aload_n 0, 1) := by decide +kernel
theorem dX11_getFood_1 : decode cX11_getFood 1 = .ok (.iload_n 1, 1) := by decide +kernel
theorem dX11_getFood_2 : decode cX11_getFood 2 = .ok (.invokevirtual 106, 3) := by decide +kernel
theorem dX11_getFood_5 : decode cX11_getFood 5 = .ok (.getfield 182, 3) := by decide +kernel
theorem dX11_getFood_8 : decode cX11_getFood 8 = .ok (.ireturn, 1) := by decide +kernel
theorem dX11_setPower_0 : decode cX11_setPower 0 = .ok (.aload_n 0, 1) := by decide +kernel
theorem dX11_setPower_1 : decode cX11_setPower 1 = .ok (.iload_n 1, 1) := by decide +kernel
theorem dX11_setPower_2 : decode cX11_setPower 2 = .ok (.invokevirtual 106, 3) := by decide +kernel
theorem dX11_setPower_5 : decode cX11_setPower 5 = .ok (.astore_n 3, 1) := by decide +kernel
theorem dX11_setPower_6 : decode cX11_setPower 6 = .ok (.iload_n 2, 1) := by decide +kernel
theorem dX11_setPower_7 : decode cX11_setPower 7 = .ok (.iconst 0, 1) := by decide +kernel
theorem dX11_setPower_8 : decode cX11_setPower 8 = .ok (.bipush 50, 2) := by decide +kernel
theorem dX11_setPower_10 : decode cX11_setPower 10 = .ok (.invokestatic 40, 3) := by decide +kernel
theorem dX11_setPower_13 : decode cX11_setPower 13 = .ok (.aload_n 3, 1) := by decide +kernel
theorem dX11_setPower_14 : decode cX11_setPower 14 = .ok (.getfield 193, 3) := by decide +kernel
theorem dX11_setPower_17 : decode cX11_setPower 17 = .ok (.istore 4, 2) := by decide +kernel
theorem dX11_setPower_19 : decode cX11_setPower 19 = .ok (.aload_n 3, 1) := by decide +kernel
theorem dX11_setPower_20 : decode cX11_setPower 20 = .ok (.iload_n 2, 1) := by decide +kernel
theorem dX11_setPower_21 : decode cX11_setPower 21 = .ok (.putfield 193, 3) := by decide +kernel
theorem dX11_setPower_24 : decode cX11_setPower 24 = .ok (.iload 4, 2) := by decide +kernel
theorem dX11_setPower_26 : decode cX11_setPower 26 = .ok (.ireturn, 1) := by decide +kernel
theorem dX11_getHeard_0 : decode cX11_getHeard 0 = .ok (.aload_n 0, 1) := by decide +kernel
theorem dX11_getHeard_1 : decode cX11_getHeard 1 = .ok (.iload_n 1, 1) := by decide +kernel
theorem dX11_getHeard_2 : decode cX11_getHeard 2 = .ok (.invokevirtual 202, 3) := by decide +kernel
theorem dX11_getHeard_5 : decode cX11_getHeard 5 = .ok (.getfield 210, 3) := by decide +kernel
theorem dX11_getHeard_8 : decode cX11_getHeard 8 = .ok (.ireturn, 1) := by decide +kernel
theorem dX11_addPerson_0 : decode cX11_addPerson 0 = .ok (.aload_n 0, 1) := by decide +kernel
theorem dX11_addPerson_1 : decode cX11_addPerson 1 = .ok (.iload_n 1, 1) := by decide +kernel
theorem dX11_addPerson_2 : decode cX11_addPerson 2 = .ok (.invokevirtual 59, 3) := by decide +kernel
theorem dX11_addPerson_5 : decode cX11_addPerson 5 = .ok (.pop, 1) := by decide +kernel
theorem dX11_addPerson_6 : decode cX11_addPerson 6 = .ok (.iload_n 2, 1) := by decide +kernel
theorem dX11_addPerson_7 : decode cX11_addPerson 7 = .ok (.bipush 100, 2) := by decide +kernel
theorem dX11_addPerson_9 : decode cX11_addPerson 9 = .ok (.if_icmp .eq 19, 3) := by decide +kernel
theorem dX11_addPerson_12 : decode cX11_addPerson 12 = .ok (.iload_n 2, 1) := by decide +kernel
theorem dX11_addPerson_13 : decode cX11_addPerson 13 = .ok (.bipush 101, 2) := by decide +kernel
theorem dX11_addPerson_15 : decode cX11_addPerson 15 = .ok (.if_icmp .eq 13, 3) := by decide +kernel
theorem dX11_addPerson_28 : decode cX11_addPerson 28 = .ok (.aload_n 0, 1) := by decide +kernel
theorem dX11_addPerson_29 : decode cX11_addPerson 29 = .ok (.getfield 22, 3) := by decide +kernel
theorem dX11_addPerson_32 : decode cX11_addPerson 32 = .ok (.invokevirtual 44, 3) := by decide +kernel
theorem dX11_addPerson_35 : decode cX11_addPerson 35 = .ok (.bipush 12, 2) := by decide +kernel
theorem dX11_addPerson_37 : decode cX11_addPerson 37 = .ok (.invokestatic 48, 3) := by decide +kernel
theorem dX11_addPerson_40 : decode cX11_addPerson 40 = .ok (.aload_n 0, 1) := by decide +kernel
theorem dX11_addPerson_41 : decode cX11_addPerson 41 = .ok (.getfield 22, 3) := by decide +kernel
theorem dX11_addPerson_44 : decode cX11_addPerson 44 = .ok (.new 218, 3) := by decide +kernel
theorem dX11_addPerson_47 : decode cX11_addPerson 47 = .ok (.dup, 1) := by decide +kernel
theorem dX11_addPerson_48 : decode cX11_addPerson 48 = .ok (.iload_n 1, 1) := by decide +kernel
theorem dX11_addPerson_49 : decode cX11_addPerson 49 = .ok (.iload_n 2, 1) := by decide +kernel
theorem dX11_addPerson_50 : decode cX11_addPerson 50 = .ok (.bipush 100, 2) := by decide +kernel
theorem dX11_addPerson_52 : decode cX11_addPerson 52 = .ok (.if_icmp .ne 7, 3) := by decide +kernel
theorem dX11_addPerson_59 : decode cX11_addPerson 59 = .ok (.iconst 0, 1) := by decide +kernel
theorem dX11_addPerson_60 : decode cX11_addPerson 60 = .ok (.invokespecial 220, 3) := by decide +kernel
theorem dX11_addPerson_63 : decode cX11_addPerson 63 = .ok (.invokevirtual 55, 3) := by decide +kernel
theorem dX11_addPerson_66 : decode cX11_addPerson 66 = .ok (.pop, 1) := by decide +kernel
theorem dX11_addPerson_67 : decode cX11_addPerson 67 = .ok (.aload_n 0, 1) := by decide +kernel
theorem dX11_addPerson_68 : decode cX11_addPerson 68 = .ok (.getfield 22, 3) := by decide +kernel
theorem dX11_addPerson_71 : decode cX11_addPerson 71 = .ok (.invokevirtual 44, 3) := by decide +kernel
theorem dX11_addPerson_74 : decode cX11_addPerson 74 = .ok (.iconst 1, 1) := by decide +kernel
theorem dX11_addPerson_75 : decode cX11_addPerson 75 = .ok (.isub, 1) := by decide +kernel
theorem dX11_addPerson_76 : decode cX11_addPerson 76 = .ok (.ireturn, 1) := by decide +kernel
theorem dX11_getAboard_0 : decode cX11_getAboard 0 = .ok (.aload_n 0, 1) := by decide +kernel
theorem dX11_getAboard_1 : decode cX11_getAboard 1 = .ok (.iload_n 1, 1) := by decide +kernel
theorem dX11_getAboard_2 : decode cX11_getAboard 2 = .ok (.invokevirtual 223, 3) := by decide +kernel
theorem dX11_getAboard_5 : decode cX11_getAboard 5 = .ok (.getfield 227, 3) := by decide +kernel
theorem dX11_getAboard_8 : decode cX11_getAboard 8 = .ok (.ireturn, 1) := by decide +kernel
theorem dX11_load_0 : decode cX11_load 0 = .ok (.aload_n 0, 1) := by decide +kernel
theorem dX11_load_1 : decode cX11_load 1 = .ok (.iload_n 1, 1) := by decide +kernel
theorem dX11_load_2 : decode cX11_load 2 = .ok (.invokevirtual 59, 3) := by decide +kernel
theorem dX11_load_5 : decode cX11_load 5 = .ok (.astore 5, 2) := by decide +kernel
theorem dX11_load_7 : decode cX11_load 7 = .ok (.iload_n 2, 1) := by decide +kernel
theorem dX11_load_8 : decode cX11_load 8 = .ok (.iconst 0, 1) := by decide +kernel
theorem dX11_load_9 : decode cX11_load 9 = .ok (.sipush 9999, 3) := by decide +kernel
theorem dX11_load_12 : decode cX11_load 12 = .ok (.invokestatic 40, 3) := by decide +kernel
theorem dX11_load_15 : decode cX11_load 15 = .ok (.iload_n 3, 1) := by decide +kernel
theorem dX11_load_16 : decode cX11_load 16 = .ok (.iconst 0, 1) := by decide +kernel
theorem dX11_load_17 : decode cX11_load 17 = .ok (.sipush 999, 3) := by decide +kernel
theorem dX11_load_20 : decode cX11_load 20 = .ok (.invokestatic 40, 3) := by decide +kernel
theorem dX11_load_23 : decode cX11_load 23 = .ok (.iload 4, 2) := by decide +kernel
theorem dX11_load_25 : decode cX11_load 25 = .ok (.iconst (-1), 1) := by decide +kernel
theorem dX11_load_26 : decode cX11_load 26 = .ok (.bipush 9, 2) := by decide +kernel
theorem dX11_load_28 : decode cX11_load 28 = .ok (.invokestatic 40, 3) := by decide +kernel
theorem dX11_load_31 : decode cX11_load 31 = .ok (.aload 5, 2) := by decide +kernel
theorem dX11_load_33 : decode cX11_load 33 = .ok (.dup, 1) := by decide +kernel
theorem dX11_load_34 : decode cX11_load 34 = .ok (.getfield 234, 3) := by decide +kernel
theorem dX11_load_37 : decode cX11_load 37 = .ok (.iload_n 2, 1) := by decide +kernel
theorem dX11_load_38 : decode cX11_load 38 = .ok (.iadd, 1) := by decide +kernel
theorem dX11_load_39 : decode cX11_load 39 = .ok (.putfield 234, 3) := by decide +kernel
theorem dX11_load_42 : decode cX11_load 42 = .ok (.aload 5, 2) := by decide +kernel
theorem dX11_load_44 : decode cX11_load 44 = .ok (.dup, 1) := by decide +kernel
theorem dX11_load_45 : decode cX11_load 45 = .ok (.getfield 235, 3) := by decide +kernel
theorem dX11_load_48 : decode cX11_load 48 = .ok (.iload_n 3, 1) := by decide +kernel
theorem dX11_load_49 : decode cX11_load 49 = .ok (.iadd, 1) := by decide +kernel
theorem dX11_load_50 : decode cX11_load 50 = .ok (.putfield 235, 3) := by decide +kernel
theorem dX11_load_53 : decode cX11_load 53 = .ok (.iload 4, 2) := by decide +kernel
theorem dX11_load_55 : decode cX11_load 55 = .ok (.iconst (-1), 1) := by decide +kernel
theorem dX11_load_56 : decode cX11_load 56 = .ok (.if_icmp .eq 10, 3) := by decide +kernel
theorem dX11_load_59 : decode cX11_load 59 = .ok (.aload 5, 2) := by decide +kernel
theorem dX11_load_61 : decode cX11_load 61 = .ok (.iload 4, 2) := by decide +kernel
theorem dX11_load_63 : decode cX11_load 63 = .ok (.putfield 236, 3) := by decide +kernel
theorem dX11_load_66 : decode cX11_load 66 = .ok (.aload 5, 2) := by decide +kernel
theorem dX11_load_68 : decode cX11_load 68 = .ok (.invokevirtual 239, 3) := by decide +kernel
theorem dX11_load_71 : decode cX11_load 71 = .ok (.ireturn, 1) := by decide +kernel
theorem dX11_book_0 : decode cX11_book 0 = .ok (.aload_n 0, 1) := by decide +kernel
theorem dX11_book_1 : decode cX11_book 1 = .ok (.iload_n 1, 1) := by decide +kernel
theorem dX11_book_2 : decode cX11_book 2 = .ok (.invokevirtual 59, 3) := by decide +kernel
theorem dX11_book_5 : decode cX11_book 5 = .ok (.pop, 1) := by decide +kernel
theorem dX11_book_6 : decode cX11_book 6 = .ok (.aload_n 0, 1) := by decide +kernel
theorem dX11_book_7 : decode cX11_book 7 = .ok (.iload_n 2, 1) := by decide +kernel
theorem dX11_book_8 : decode cX11_book 8 = .ok (.invokevirtual 223, 3) := by decide +kernel
theorem dX11_book_11 : decode cX11_book 11 = .ok (.astore 4, 2) := by decide +kernel
