theorem kw_420 : Cond.code ⟨"GalleonWave", "addLand", "(III)I"⟩ prog_1_method_2_code 4 (some .int) ∈ kw := kw_in (List.mem_append_right _ (tb2 _ (List.mem_of_getElem? (i := 115) (by decide +kernel)))) (by decide +kernel)
theorem kw_421 : Cond.methodLink "GalleonWaveLaw" 7 ⟨"GalleonWave", "addLand", "(III)I"⟩ ∈ kw := kw_in (List.mem_append_right _ (tb2 _ (List.mem_of_getElem? (i := 112) (by decide +kernel)))) (by decide +kernel)
theorem kw_422 : Cond.instanceMethod ⟨"GalleonWave", "addLand", "(III)I"⟩ ∈ kw := kw_in (List.mem_append_right _ (tb2 _ (List.mem_of_getElem? (i := 113) (by decide +kernel)))) (by decide +kernel)
theorem kw_423 : Cond.selects "GalleonWave" ⟨"GalleonWave", "addLand", "(III)I"⟩ ⟨"GalleonWave", "addLand", "(III)I"⟩ ∈ kw := kw_in (List.mem_append_right _ (tb2 _ (List.mem_of_getElem? (i := 114) (by decide +kernel)))) (by decide +kernel)
theorem kw_424 : Cond.classLink "GalleonWaveLaw" 13 "java/lang/IllegalArgumentException" ∈ kw := kw_in (List.mem_append_right _ (tb2 _ (List.mem_of_getElem? (i := 110) (by decide +kernel)))) (by decide +kernel)
theorem kw_425 : Cond.castable "java/lang/IllegalArgumentException" "java/lang/IllegalArgumentException" ∈ kw := kw_in (List.mem_append_right _ (tb2 _ (List.mem_of_getElem? (i := 124) (by decide +kernel)))) (by decide +kernel)
theorem kw_426 : Cond.code ⟨"GalleonWave", "addAct", "(IIII)I"⟩ prog_1_method_3_code 6 (some .int) ∈ kw := kw_in (List.mem_append_right _ (tb3 _ (List.mem_of_getElem? (i := 115) (by decide +kernel)))) (by decide +kernel)
theorem kw_427 : Cond.methodLink "GalleonWaveLaw" 17 ⟨"GalleonWave", "addAct", "(IIII)I"⟩ ∈ kw := kw_in (List.mem_append_right _ (tb3 _ (List.mem_of_getElem? (i := 112) (by decide +kernel)))) (by decide +kernel)
theorem kw_428 : Cond.instanceMethod ⟨"GalleonWave", "addAct", "(IIII)I"⟩ ∈ kw := kw_in (List.mem_append_right _ (tb3 _ (List.mem_of_getElem? (i := 113) (by decide +kernel)))) (by decide +kernel)
theorem kw_429 : Cond.selects "GalleonWave" ⟨"GalleonWave", "addAct", "(IIII)I"⟩ ⟨"GalleonWave", "addAct", "(IIII)I"⟩ ∈ kw := kw_in (List.mem_append_right _ (tb3 _ (List.mem_of_getElem? (i := 114) (by decide +kernel)))) (by decide +kernel)
theorem kw_430 : Cond.classLink "GalleonWaveLaw" 21 "java/lang/IndexOutOfBoundsException" ∈ kw := kw_in (List.mem_append_right _ (tb3 _ (List.mem_of_getElem? (i := 88) (by decide +kernel)))) (by decide +kernel)
theorem kw_431 : Cond.castable "java/lang/IndexOutOfBoundsException" "java/lang/IndexOutOfBoundsException" ∈ kw := kw_in (List.mem_append_right _ (tb3 _ (List.mem_of_getElem? (i := 125) (by decide +kernel)))) (by decide +kernel)
theorem kw_432 : Cond.code ⟨"GalleonWave", "getLine", "(I)I"⟩ prog_1_method_4_code 2 (some .int) ∈ kw := kw_in (List.mem_append_right _ (tb3 _ (List.mem_of_getElem? (i := 147) (by decide +kernel)))) (by decide +kernel)
theorem kw_433 : Cond.methodLink "GalleonWaveLaw" 23 ⟨"GalleonWave", "getLine", "(I)I"⟩ ∈ kw := kw_in (List.mem_append_right _ (tb3 _ (List.mem_of_getElem? (i := 144) (by decide +kernel)))) (by decide +kernel)
theorem kw_434 : Cond.instanceMethod ⟨"GalleonWave", "getLine", "(I)I"⟩ ∈ kw := kw_in (List.mem_append_right _ (tb3 _ (List.mem_of_getElem? (i := 145) (by decide +kernel)))) (by decide +kernel)
theorem kw_435 : Cond.selects "GalleonWave" ⟨"GalleonWave", "getLine", "(I)I"⟩ ⟨"GalleonWave", "getLine", "(I)I"⟩ ∈ kw := kw_in (List.mem_append_right _ (tb3 _ (List.mem_of_getElem? (i := 146) (by decide +kernel)))) (by decide +kernel)
theorem kw_436 : Cond.code ⟨"GalleonWave", "setWind", "(IC)I"⟩ prog_1_method_5_code 4 (some .int) ∈ kw := kw_in (List.mem_append_right _ (tb3 _ (List.mem_of_getElem? (i := 162) (by decide +kernel)))) (by decide +kernel)
theorem kw_437 : Cond.methodLink "GalleonWaveLaw" 27 ⟨"GalleonWave", "setWind", "(IC)I"⟩ ∈ kw := kw_in (List.mem_append_right _ (tb3 _ (List.mem_of_getElem? (i := 159) (by decide +kernel)))) (by decide +kernel)
theorem kw_438 : Cond.instanceMethod ⟨"GalleonWave", "setWind", "(IC)I"⟩ ∈ kw := kw_in (List.mem_append_right _ (tb3 _ (List.mem_of_getElem? (i := 160) (by decide +kernel)))) (by decide +kernel)
theorem kw_439 : Cond.selects "GalleonWave" ⟨"GalleonWave", "setWind", "(IC)I"⟩ ⟨"GalleonWave", "setWind", "(IC)I"⟩ ∈ kw := kw_in (List.mem_append_right _ (tb3 _ (List.mem_of_getElem? (i := 161) (by decide +kernel)))) (by decide +kernel)
theorem kw_440 : Cond.code ⟨"GalleonWave", "setTide", "(II)I"⟩ prog_1_method_6_code 4 (some .int) ∈ kw := kw_in (List.mem_append_right _ (tb3 _ (List.mem_of_getElem? (i := 170) (by decide +kernel)))) (by decide +kernel)
theorem kw_441 : Cond.methodLink "GalleonWaveLaw" 31 ⟨"GalleonWave", "setTide", "(II)I"⟩ ∈ kw := kw_in (List.mem_append_right _ (tb3 _ (List.mem_of_getElem? (i := 167) (by decide +kernel)))) (by decide +kernel)
theorem kw_442 : Cond.instanceMethod ⟨"GalleonWave", "setTide", "(II)I"⟩ ∈ kw := kw_in (List.mem_append_right _ (tb3 _ (List.mem_of_getElem? (i := 168) (by decide +kernel)))) (by decide +kernel)
theorem kw_443 : Cond.selects "GalleonWave" ⟨"GalleonWave", "setTide", "(II)I"⟩ ⟨"GalleonWave", "setTide", "(II)I"⟩ ∈ kw := kw_in (List.mem_append_right _ (tb3 _ (List.mem_of_getElem? (i := 169) (by decide +kernel)))) (by decide +kernel)
theorem kw_444 : Cond.code ⟨"GalleonWave", "addTown", "(IIII)I"⟩ prog_1_method_7_code 5 (some .int) ∈ kw := kw_in (List.mem_append_right _ (tb3 _ (List.mem_of_getElem? (i := 177) (by decide +kernel)))) (by decide +kernel)
theorem kw_445 : Cond.methodLink "GalleonWaveLaw" 35 ⟨"GalleonWave", "addTown", "(IIII)I"⟩ ∈ kw := kw_in (List.mem_append_right _ (tb3 _ (List.mem_of_getElem? (i := 174) (by decide +kernel)))) (by decide +kernel)
theorem kw_446 : Cond.instanceMethod ⟨"GalleonWave", "addTown", "(IIII)I"⟩ ∈ kw := kw_in (List.mem_append_right _ (tb3 _ (List.mem_of_getElem? (i := 175) (by decide +kernel)))) (by decide +kernel)
theorem kw_447 : Cond.selects "GalleonWave" ⟨"GalleonWave", "addTown", "(IIII)I"⟩ ⟨"GalleonWave", "addTown", "(IIII)I"⟩ ∈ kw := kw_in (List.mem_append_right _ (tb3 _ (List.mem_of_getElem? (i := 176) (by decide +kernel)))) (by decide +kernel)
theorem kw_448 : Cond.code ⟨"GalleonWave", "pass", "(I)I"⟩ prog_1_method_8_code 3 (some .int) ∈ kw := kw_in (List.mem_append_right _ (tb3 _ (List.mem_of_getElem? (i := 211) (by decide +kernel)))) (by decide +kernel)
theorem kw_449 : Cond.methodLink "GalleonWaveLaw" 38 ⟨"GalleonWave", "pass", "(I)I"⟩ ∈ kw := kw_in (List.mem_append_right _ (tb3 _ (List.mem_of_getElem? (i := 208) (by decide +kernel)))) (by decide +kernel)
theorem kw_450 : Cond.instanceMethod ⟨"GalleonWave", "pass", "(I)I"⟩ ∈ kw := kw_in (List.mem_append_right _ (tb3 _ (List.mem_of_getElem? (i := 209) (by decide +kernel)))) (by decide +kernel)
theorem kw_451 : Cond.selects "GalleonWave" ⟨"GalleonWave", "pass", "(I)I"⟩ ⟨"GalleonWave", "pass", "(I)I"⟩ ∈ kw := kw_in (List.mem_append_right _ (tb3 _ (List.mem_of_getElem? (i := 210) (by decide +kernel)))) (by decide +kernel)
theorem kw_452 : Cond.code ⟨"GalleonWave", "addShip", "(II)I"⟩ prog_1_method_9_code 3 (some .int) ∈ kw := kw_in (List.mem_append_right _ (tb4 _ (List.mem_of_getElem? (i := 142) (by decide +kernel)))) (by decide +kernel)
theorem kw_453 : Cond.methodLink "GalleonWaveLaw" 41 ⟨"GalleonWave", "addShip", "(II)I"⟩ ∈ kw := kw_in (List.mem_append_right _ (tb4 _ (List.mem_of_getElem? (i := 139) (by decide +kernel)))) (by decide +kernel)
theorem kw_454 : Cond.instanceMethod ⟨"GalleonWave", "addShip", "(II)I"⟩ ∈ kw := kw_in (List.mem_append_right _ (tb4 _ (List.mem_of_getElem? (i := 140) (by decide +kernel)))) (by decide +kernel)
theorem kw_455 : Cond.selects "GalleonWave" ⟨"GalleonWave", "addShip", "(II)I"⟩ ⟨"GalleonWave", "addShip", "(II)I"⟩ ∈ kw := kw_in (List.mem_append_right _ (tb4 _ (List.mem_of_getElem? (i := 141) (by decide +kernel)))) (by decide +kernel)
theorem kw_456 : Cond.code ⟨"GalleonWave", "getPlace", "(IZ)I"⟩ prog_1_method_10_code 4 (some .int) ∈ kw := kw_in (List.mem_append_right _ (tb5 _ (List.mem_of_getElem? (i := 47) (by decide +kernel)))) (by decide +kernel)
theorem kw_457 : Cond.methodLink "GalleonWaveLaw" 44 ⟨"GalleonWave", "getPlace", "(IZ)I"⟩ ∈ kw := kw_in (List.mem_append_right _ (tb5 _ (List.mem_of_getElem? (i := 44) (by decide +kernel)))) (by decide +kernel)
theorem kw_458 : Cond.instanceMethod ⟨"GalleonWave", "getPlace", "(IZ)I"⟩ ∈ kw := kw_in (List.mem_append_right _ (tb5 _ (List.mem_of_getElem? (i := 45) (by decide +kernel)))) (by decide +kernel)
theorem kw_459 : Cond.selects "GalleonWave" ⟨"GalleonWave", "getPlace", "(IZ)I"⟩ ⟨"GalleonWave", "getPlace", "(IZ)I"⟩ ∈ kw := kw_in (List.mem_append_right _ (tb5 _ (List.mem_of_getElem? (i := 46) (by decide +kernel)))) (by decide +kernel)
theorem kw_460 : Cond.code ⟨"GalleonWave", "getInside", "(I)I"⟩ prog_1_method_11_code 2 (some .int) ∈ kw := kw_in (List.mem_append_right _ (tb5 _ (List.mem_of_getElem? (i := 58) (by decide +kernel)))) (by decide +kernel)
theorem kw_461 : Cond.methodLink "GalleonWaveLaw" 48 ⟨"GalleonWave", "getInside", "(I)I"⟩ ∈ kw := kw_in (List.mem_append_right _ (tb5 _ (List.mem_of_getElem? (i := 55) (by decide +kernel)))) (by decide +kernel)
theorem kw_462 : Cond.instanceMethod ⟨"GalleonWave", "getInside", "(I)I"⟩ ∈ kw := kw_in (List.mem_append_right _ (tb5 _ (List.mem_of_getElem? (i := 56) (by decide +kernel)))) (by decide +kernel)
theorem kw_463 : Cond.selects "GalleonWave" ⟨"GalleonWave", "getInside", "(I)I"⟩ ⟨"GalleonWave", "getInside", "(I)I"⟩ ∈ kw := kw_in (List.mem_append_right _ (tb5 _ (List.mem_of_getElem? (i := 57) (by decide +kernel)))) (by decide +kernel)
theorem kw_464 : Cond.code ⟨"GalleonWave", "anchor", "(IC)I"⟩ prog_1_method_12_code 5 (some .int) ∈ kw := kw_in (List.mem_append_right _ (tb5 _ (List.mem_of_getElem? (i := 66) (by decide +kernel)))) (by decide +kernel)
theorem kw_465 : Cond.methodLink "GalleonWaveLaw" 51 ⟨"GalleonWave", "anchor", "(IC)I"⟩ ∈ kw := kw_in (List.mem_append_right _ (tb5 _ (List.mem_of_getElem? (i := 63) (by decide +kernel)))) (by decide +kernel)
theorem kw_466 : Cond.instanceMethod ⟨"GalleonWave", "anchor", "(IC)I"⟩ ∈ kw := kw_in (List.mem_append_right _ (tb5 _ (List.mem_of_getElem? (i := 64) (by decide +kernel)))) (by decide +kernel)
theorem kw_467 : Cond.selects "GalleonWave" ⟨"GalleonWave", "anchor", "(IC)I"⟩ ⟨"GalleonWave", "anchor", "(IC)I"⟩ ∈ kw := kw_in (List.mem_append_right _ (tb5 _ (List.mem_of_getElem? (i := 65) (by decide +kernel)))) (by decide +kernel)
theorem kw_468 : Cond.code ⟨"GalleonWave", "weigh", "(I)I"⟩ prog_1_method_13_code 3 (some .int) ∈ kw := kw_in (List.mem_append_right _ (tb5 _ (List.mem_of_getElem? (i := 97) (by decide +kernel)))) (by decide +kernel)
theorem kw_469 : Cond.methodLink "GalleonWaveLaw" 56 ⟨"GalleonWave", "weigh", "(I)I"⟩ ∈ kw := kw_in (List.mem_append_right _ (tb5 _ (List.mem_of_getElem? (i := 94) (by decide +kernel)))) (by decide +kernel)
theorem kw_470 : Cond.instanceMethod ⟨"GalleonWave", "weigh", "(I)I"⟩ ∈ kw := kw_in (List.mem_append_right _ (tb5 _ (List.mem_of_getElem? (i := 95) (by decide +kernel)))) (by decide +kernel)
theorem kw_471 : Cond.selects "GalleonWave" ⟨"GalleonWave", "weigh", "(I)I"⟩ ⟨"GalleonWave", "weigh", "(I)I"⟩ ∈ kw := kw_in (List.mem_append_right _ (tb5 _ (List.mem_of_getElem? (i := 96) (by decide +kernel)))) (by decide +kernel)
theorem kw_472 : Cond.code ⟨"GalleonWave", "isAground", "(I)Z"⟩ prog_1_method_14_code 2 (some .boolean) ∈ kw := kw_in (List.mem_append_right _ (tb5 _ (List.mem_of_getElem? (i := 105) (by decide +kernel)))) (by decide +kernel)
theorem kw_473 : Cond.methodLink "GalleonWaveLaw" 59 ⟨"GalleonWave", "isAground", "(I)Z"⟩ ∈ kw := kw_in (List.mem_append_right _ (tb5 _ (List.mem_of_getElem? (i := 102) (by decide +kernel)))) (by decide +kernel)
theorem kw_474 : Cond.instanceMethod ⟨"GalleonWave", "isAground", "(I)Z"⟩ ∈ kw := kw_in (List.mem_append_right _ (tb5 _ (List.mem_of_getElem? (i := 103) (by decide +kernel)))) (by decide +kernel)
theorem kw_475 : Cond.selects "GalleonWave" ⟨"GalleonWave", "isAground", "(I)Z"⟩ ⟨"GalleonWave", "isAground", "(I)Z"⟩ ∈ kw := kw_in (List.mem_append_right _ (tb5 _ (List.mem_of_getElem? (i := 104) (by decide +kernel)))) (by decide +kernel)
theorem kw_476 : Cond.code ⟨"GalleonWave", "pullOff", "(I)I"⟩ prog_1_method_15_code 3 (some .int) ∈ kw := kw_in (List.mem_append_right _ (tb5 _ (List.mem_of_getElem? (i := 112) (by decide +kernel)))) (by decide +kernel)
theorem kw_477 : Cond.methodLink "GalleonWaveLaw" 63 ⟨"GalleonWave", "pullOff", "(I)I"⟩ ∈ kw := kw_in (List.mem_append_right _ (tb5 _ (List.mem_of_getElem? (i := 109) (by decide +kernel)))) (by decide +kernel)
theorem kw_478 : Cond.instanceMethod ⟨"GalleonWave", "pullOff", "(I)I"⟩ ∈ kw := kw_in (List.mem_append_right _ (tb5 _ (List.mem_of_getElem? (i := 110) (by decide +kernel)))) (by decide +kernel)
theorem kw_479 : Cond.selects "GalleonWave" ⟨"GalleonWave", "pullOff", "(I)I"⟩ ⟨"GalleonWave", "pullOff", "(I)I"⟩ ∈ kw := kw_in (List.mem_append_right _ (tb5 _ (List.mem_of_getElem? (i := 111) (by decide +kernel)))) (by decide +kernel)
theorem kw_480 : Cond.code ⟨"GalleonWave", "addGenerator", "(III)I"⟩ prog_1_method_16_code 5 (some .int) ∈ kw := kw_in (List.mem_append_right _ (tb5 _ (List.mem_of_getElem? (i := 120) (by decide +kernel)))) (by decide +kernel)
theorem kw_481 : Cond.methodLink "GalleonWaveLaw" 66 ⟨"GalleonWave", "addGenerator", "(III)I"⟩ ∈ kw := kw_in (List.mem_append_right _ (tb5 _ (List.mem_of_getElem? (i := 117) (by decide +kernel)))) (by decide +kernel)
theorem kw_482 : Cond.instanceMethod ⟨"GalleonWave", "addGenerator", "(III)I"⟩ ∈ kw := kw_in (List.mem_append_right _ (tb5 _ (List.mem_of_getElem? (i := 118) (by decide +kernel)))) (by decide +kernel)
theorem kw_483 : Cond.selects "GalleonWave" ⟨"GalleonWave", "addGenerator", "(III)I"⟩ ⟨"GalleonWave", "addGenerator", "(III)I"⟩ ∈ kw := kw_in (List.mem_append_right _ (tb5 _ (List.mem_of_getElem? (i := 119) (by decide +kernel)))) (by decide +kernel)
theorem kw_484 : Cond.code ⟨"GalleonWave", "setGenerator", "(IIZ)I"⟩ prog_1_method_17_code 6 (some .int) ∈ kw := kw_in (List.mem_append_right _ (tb5 _ (List.mem_of_getElem? (i := 150) (by decide +kernel)))) (by decide +kernel)
theorem kw_485 : Cond.methodLink "GalleonWaveLaw" 69 ⟨"GalleonWave", "setGenerator", "(IIZ)I"⟩ ∈ kw := kw_in (List.mem_append_right _ (tb5 _ (List.mem_of_getElem? (i := 147) (by decide +kernel)))) (by decide +kernel)
theorem kw_486 : Cond.instanceMethod ⟨"GalleonWave", "setGenerator", "(IIZ)I"⟩ ∈ kw := kw_in (List.mem_append_right _ (tb5 _ (List.mem_of_getElem? (i := 148) (by decide +kernel)))) (by decide +kernel)
theorem kw_487 : Cond.selects "GalleonWave" ⟨"GalleonWave", "setGenerator", "(IIZ)I"⟩ ⟨"GalleonWave", "setGenerator", "(IIZ)I"⟩ ∈ kw := kw_in (List.mem_append_right _ (tb5 _ (List.mem_of_getElem? (i := 149) (by decide +kernel)))) (by decide +kernel)
theorem kw_488 : Cond.code ⟨"GalleonWave", "getFuel", "(I)I"⟩ prog_1_method_18_code 2 (some .int) ∈ kw := kw_in (List.mem_append_right _ (tb5 _ (List.mem_of_getElem? (i := 157) (by decide +kernel)))) (by decide +kernel)
theorem kw_489 : Cond.methodLink "GalleonWaveLaw" 73 ⟨"GalleonWave", "getFuel", "(I)I"⟩ ∈ kw := kw_in (List.mem_append_right _ (tb5 _ (List.mem_of_getElem? (i := 154) (by decide +kernel)))) (by decide +kernel)
theorem kw_490 : Cond.instanceMethod ⟨"GalleonWave", "getFuel", "(I)I"⟩ ∈ kw := kw_in (List.mem_append_right _ (tb5 _ (List.mem_of_getElem? (i := 155) (by decide +kernel)))) (by decide +kernel)
theorem kw_491 : Cond.selects "GalleonWave" ⟨"GalleonWave", "getFuel", "(I)I"⟩ ⟨"GalleonWave", "getFuel", "(I)I"⟩ ∈ kw := kw_in (List.mem_append_right _ (tb5 _ (List.mem_of_getElem? (i := 156) (by decide +kernel)))) (by decide +kernel)
theorem kw_492 : Cond.code ⟨"GalleonWave", "getFood", "(I)I"⟩ prog_1_method_19_code 2 (some .int) ∈ kw := kw_in (List.mem_append_right _ (tb5 _ (List.mem_of_getElem? (i := 164) (by decide +kernel)))) (by decide +kernel)
theorem kw_493 : Cond.methodLink "GalleonWaveLaw" 76 ⟨"GalleonWave", "getFood", "(I)I"⟩ ∈ kw := kw_in (List.mem_append_right _ (tb5 _ (List.mem_of_getElem? (i := 161) (by decide +kernel)))) (by decide +kernel)
theorem kw_494 : Cond.instanceMethod ⟨"GalleonWave", "getFood", "(I)I"⟩ ∈ kw := kw_in (List.mem_append_right _ (tb5 _ (List.mem_of_getElem? (i := 162) (by decide +kernel)))) (by decide +kernel)
theorem kw_495 : Cond.selects "GalleonWave" ⟨"GalleonWave", "getFood", "(I)I"⟩ ⟨"GalleonWave", "getFood", "(I)I"⟩ ∈ kw := kw_in (List.mem_append_right _ (tb5 _ (List.mem_of_getElem? (i := 163) (by decide +kernel)))) (by decide +kernel)
theorem kw_496 : Cond.code ⟨"GalleonWave", "getSalt", "(I)I"⟩ prog_1_method_20_code 2 (some .int) ∈ kw := kw_in (List.mem_append_right _ (tb5 _ (List.mem_of_getElem? (i := 171) (by decide +kernel)))) (by decide +kernel)
theorem kw_497 : Cond.methodLink "GalleonWaveLaw" 79 ⟨"GalleonWave", "getSalt", "(I)I"⟩ ∈ kw := kw_in (List.mem_append_right _ (tb5 _ (List.mem_of_getElem? (i := 168) (by decide +kernel)))) (by decide +kernel)
theorem kw_498 : Cond.instanceMethod ⟨"GalleonWave", "getSalt", "(I)I"⟩ ∈ kw := kw_in (List.mem_append_right _ (tb5 _ (List.mem_of_getElem? (i := 169) (by decide +kernel)))) (by decide +kernel)
theorem kw_499 : Cond.selects "GalleonWave" ⟨"GalleonWave", "getSalt", "(I)I"⟩ ⟨"GalleonWave", "getSalt", "(I)I"⟩ ∈ kw := kw_in (List.mem_append_right _ (tb5 _ (List.mem_of_getElem? (i := 170) (by decide +kernel)))) (by decide +kernel)
theorem kw_500 : Cond.code ⟨"GalleonWave", "wash", "(I)I"⟩ prog_1_method_21_code 4 (some .int) ∈ kw := kw_in (List.mem_append_right _ (tb5 _ (List.mem_of_getElem? (i := 178) (by decide +kernel)))) (by decide +kernel)
theorem kw_501 : Cond.methodLink "GalleonWaveLaw" 82 ⟨"GalleonWave", "wash", "(I)I"⟩ ∈ kw := kw_in (List.mem_append_right _ (tb5 _ (List.mem_of_getElem? (i := 175) (by decide +kernel)))) (by decide +kernel)
theorem kw_502 : Cond.instanceMethod ⟨"GalleonWave", "wash", "(I)I"⟩ ∈ kw := kw_in (List.mem_append_right _ (tb5 _ (List.mem_of_getElem? (i := 176) (by decide +kernel)))) (by decide +kernel)
theorem kw_503 : Cond.selects "GalleonWave" ⟨"GalleonWave", "wash", "(I)I"⟩ ⟨"GalleonWave", "wash", "(I)I"⟩ ∈ kw := kw_in (List.mem_append_right _ (tb5 _ (List.mem_of_getElem? (i := 177) (by decide +kernel)))) (by decide +kernel)
theorem kw_504 : Cond.code ⟨"GalleonWave", "setPower", "(II)I"⟩ prog_1_method_22_code 5 (some .int) ∈ kw := kw_in (List.mem_append_right _ (tb5 _ (List.mem_of_getElem? (i := 186) (by decide +kernel)))) (by decide +kernel)
theorem kw_505 : Cond.methodLink "GalleonWaveLaw" 85 ⟨"GalleonWave", "setPower", "(II)I"⟩ ∈ kw := kw_in (List.mem_append_right _ (tb5 _ (List.mem_of_getElem? (i := 183) (by decide +kernel)))) (by decide +kernel)
theorem kw_506 : Cond.instanceMethod ⟨"GalleonWave", "setPower", "(II)I"⟩ ∈ kw := kw_in (List.mem_append_right _ (tb5 _ (List.mem_of_getElem? (i := 184) (by decide +kernel)))) (by decide +kernel)
theorem kw_507 : Cond.selects "GalleonWave" ⟨"GalleonWave", "setPower", "(II)I"⟩ ⟨"GalleonWave", "setPower", "(II)I"⟩ ∈ kw := kw_in (List.mem_append_right _ (tb5 _ (List.mem_of_getElem? (i := 185) (by decide +kernel)))) (by decide +kernel)
theorem kw_508 : Cond.code ⟨"GalleonWave", "getChannel", "(I)I"⟩ prog_1_method_23_code 2 (some .int) ∈ kw := kw_in (List.mem_append_right _ (tb5 _ (List.mem_of_getElem? (i := 193) (by decide +kernel)))) (by decide +kernel)
theorem kw_509 : Cond.methodLink "GalleonWaveLaw" 88 ⟨"GalleonWave", "getChannel", "(I)I"⟩ ∈ kw := kw_in (List.mem_append_right _ (tb5 _ (List.mem_of_getElem? (i := 190) (by decide +kernel)))) (by decide +kernel)
theorem kw_510 : Cond.instanceMethod ⟨"GalleonWave", "getChannel", "(I)I"⟩ ∈ kw := kw_in (List.mem_append_right _ (tb5 _ (List.mem_of_getElem? (i := 191) (by decide +kernel)))) (by decide +kernel)
theorem kw_511 : Cond.selects "GalleonWave" ⟨"GalleonWave", "getChannel", "(I)I"⟩ ⟨"GalleonWave", "getChannel", "(I)I"⟩ ∈ kw := kw_in (List.mem_append_right _ (tb5 _ (List.mem_of_getElem? (i := 192) (by decide +kernel)))) (by decide +kernel)
theorem kw_512 : Cond.code ⟨"GalleonWave", "isOnAir", "(I)Z"⟩ prog_1_method_24_code 2 (some .boolean) ∈ kw := kw_in (List.mem_append_right _ (tb5 _ (List.mem_of_getElem? (i := 200) (by decide +kernel)))) (by decide +kernel)
theorem kw_513 : Cond.methodLink "GalleonWaveLaw" 91 ⟨"GalleonWave", "isOnAir", "(I)Z"⟩ ∈ kw := kw_in (List.mem_append_right _ (tb5 _ (List.mem_of_getElem? (i := 197) (by decide +kernel)))) (by decide +kernel)
theorem kw_514 : Cond.instanceMethod ⟨"GalleonWave", "isOnAir", "(I)Z"⟩ ∈ kw := kw_in (List.mem_append_right _ (tb5 _ (List.mem_of_getElem? (i := 198) (by decide +kernel)))) (by decide +kernel)
theorem kw_515 : Cond.selects "GalleonWave" ⟨"GalleonWave", "isOnAir", "(I)Z"⟩ ⟨"GalleonWave", "isOnAir", "(I)Z"⟩ ∈ kw := kw_in (List.mem_append_right _ (tb5 _ (List.mem_of_getElem? (i := 199) (by decide +kernel)))) (by decide +kernel)
theorem kw_516 : Cond.code ⟨"GalleonWave", "getSignal", "(II)I"⟩ prog_1_method_25_code 4 (some .int) ∈ kw := kw_in (List.mem_append_right _ (tb5 _ (List.mem_of_getElem? (i := 207) (by decide +kernel)))) (by decide +kernel)
theorem kw_517 : Cond.methodLink "GalleonWaveLaw" 94 ⟨"GalleonWave", "getSignal", "(II)I"⟩ ∈ kw := kw_in (List.mem_append_right _ (tb5 _ (List.mem_of_getElem? (i := 204) (by decide +kernel)))) (by decide +kernel)
theorem kw_518 : Cond.instanceMethod ⟨"GalleonWave", "getSignal", "(II)I"⟩ ∈ kw := kw_in (List.mem_append_right _ (tb5 _ (List.mem_of_getElem? (i := 205) (by decide +kernel)))) (by decide +kernel)
theorem kw_519 : Cond.selects "GalleonWave" ⟨"GalleonWave", "getSignal", "(II)I"⟩ ⟨"GalleonWave", "getSignal", "(II)I"⟩ ∈ kw := kw_in (List.mem_append_right _ (tb5 _ (List.mem_of_getElem? (i := 206) (by decide +kernel)))) (by decide +kernel)
theorem kw_520 : Cond.code ⟨"GalleonWave", "getHeard", "(I)I"⟩ prog_1_method_26_code 2 (some .int) ∈ kw := kw_in (List.mem_append_right _ (tb5 _ (List.mem_of_getElem? (i := 218) (by decide +kernel)))) (by decide +kernel)
theorem kw_521 : Cond.methodLink "GalleonWaveLaw" 97 ⟨"GalleonWave", "getHeard", "(I)I"⟩ ∈ kw := kw_in (List.mem_append_right _ (tb5 _ (List.mem_of_getElem? (i := 215) (by decide +kernel)))) (by decide +kernel)
theorem kw_522 : Cond.instanceMethod ⟨"GalleonWave", "getHeard", "(I)I"⟩ ∈ kw := kw_in (List.mem_append_right _ (tb5 _ (List.mem_of_getElem? (i := 216) (by decide +kernel)))) (by decide +kernel)
theorem kw_523 : Cond.selects "GalleonWave" ⟨"GalleonWave", "getHeard", "(I)I"⟩ ⟨"GalleonWave", "getHeard", "(I)I"⟩ ∈ kw := kw_in (List.mem_append_right _ (tb5 _ (List.mem_of_getElem? (i := 217) (by decide +kernel)))) (by decide +kernel)
theorem kw_524 : Cond.code ⟨"GalleonWave", "getListeners", "(I)I"⟩ prog_1_method_27_code 2 (some .int) ∈ kw := kw_in (List.mem_append_right _ (tb5 _ (List.mem_of_getElem? (i := 225) (by decide +kernel)))) (by decide +kernel)
theorem kw_525 : Cond.methodLink "GalleonWaveLaw" 100 ⟨"GalleonWave", "getListeners", "(I)I"⟩ ∈ kw := kw_in (List.mem_append_right _ (tb5 _ (List.mem_of_getElem? (i := 222) (by decide +kernel)))) (by decide +kernel)
theorem kw_526 : Cond.instanceMethod ⟨"GalleonWave", "getListeners", "(I)I"⟩ ∈ kw := kw_in (List.mem_append_right _ (tb5 _ (List.mem_of_getElem? (i := 223) (by decide +kernel)))) (by decide +kernel)
theorem kw_527 : Cond.selects "GalleonWave" ⟨"GalleonWave", "getListeners", "(I)I"⟩ ⟨"GalleonWave", "getListeners", "(I)I"⟩ ∈ kw := kw_in (List.mem_append_right _ (tb5 _ (List.mem_of_getElem? (i := 224) (by decide +kernel)))) (by decide +kernel)
theorem kw_528 : Cond.code ⟨"GalleonWave", "addPerson", "(IC)I"⟩ prog_1_method_28_code 3 (some .int) ∈ kw := kw_in (List.mem_append_right _ (tb5 _ (List.mem_of_getElem? (i := 232) (by decide +kernel)))) (by decide +kernel)
theorem kw_529 : Cond.methodLink "GalleonWaveLaw" 103 ⟨"GalleonWave", "addPerson", "(IC)I"⟩ ∈ kw := kw_in (List.mem_append_right _ (tb5 _ (List.mem_of_getElem? (i := 229) (by decide +kernel)))) (by decide +kernel)
theorem kw_530 : Cond.instanceMethod ⟨"GalleonWave", "addPerson", "(IC)I"⟩ ∈ kw := kw_in (List.mem_append_right _ (tb5 _ (List.mem_of_getElem? (i := 230) (by decide +kernel)))) (by decide +kernel)
theorem kw_531 : Cond.selects "GalleonWave" ⟨"GalleonWave", "addPerson", "(IC)I"⟩ ⟨"GalleonWave", "addPerson", "(IC)I"⟩ ∈ kw := kw_in (List.mem_append_right _ (tb5 _ (List.mem_of_getElem? (i := 231) (by decide +kernel)))) (by decide +kernel)
theorem kw_532 : Cond.code ⟨"GalleonWave", "getAboard", "(I)I"⟩ prog_1_method_29_code 2 (some .int) ∈ kw := kw_in (List.mem_append_right _ (tb6 _ (List.mem_of_getElem? (i := 26) (by decide +kernel)))) (by decide +kernel)
theorem kw_533 : Cond.methodLink "GalleonWaveLaw" 106 ⟨"GalleonWave", "getAboard", "(I)I"⟩ ∈ kw := kw_in (List.mem_append_right _ (tb6 _ (List.mem_of_getElem? (i := 23) (by decide +kernel)))) (by decide +kernel)
theorem kw_534 : Cond.instanceMethod ⟨"GalleonWave", "getAboard", "(I)I"⟩ ∈ kw := kw_in (List.mem_append_right _ (tb6 _ (List.mem_of_getElem? (i := 24) (by decide +kernel)))) (by decide +kernel)
theorem kw_535 : Cond.selects "GalleonWave" ⟨"GalleonWave", "getAboard", "(I)I"⟩ ⟨"GalleonWave", "getAboard", "(I)I"⟩ ∈ kw := kw_in (List.mem_append_right _ (tb6 _ (List.mem_of_getElem? (i := 25) (by decide +kernel)))) (by decide +kernel)
theorem kw_536 : Cond.code ⟨"GalleonWave", "isTired", "(I)Z"⟩ prog_1_method_30_code 2 (some .boolean) ∈ kw := kw_in (List.mem_append_right _ (tb6 _ (List.mem_of_getElem? (i := 37) (by decide +kernel)))) (by decide +kernel)
theorem kw_537 : Cond.methodLink "GalleonWaveLaw" 109 ⟨"GalleonWave", "isTired", "(I)Z"⟩ ∈ kw := kw_in (List.mem_append_right _ (tb6 _ (List.mem_of_getElem? (i := 34) (by decide +kernel)))) (by decide +kernel)
theorem kw_538 : Cond.instanceMethod ⟨"GalleonWave", "isTired", "(I)Z"⟩ ∈ kw := kw_in (List.mem_append_right _ (tb6 _ (List.mem_of_getElem? (i := 35) (by decide +kernel)))) (by decide +kernel)
theorem kw_539 : Cond.selects "GalleonWave" ⟨"GalleonWave", "isTired", "(I)Z"⟩ ⟨"GalleonWave", "isTired", "(I)Z"⟩ ∈ kw := kw_in (List.mem_append_right _ (tb6 _ (List.mem_of_getElem? (i := 36) (by decide +kernel)))) (by decide +kernel)
theorem kw_540 : Cond.code ⟨"GalleonWave", "load", "(IIII)I"⟩ prog_1_method_31_code 6 (some .int) ∈ kw := kw_in (List.mem_append_right _ (tb6 _ (List.mem_of_getElem? (i := 44) (by decide +kernel)))) (by decide +kernel)
theorem kw_541 : Cond.methodLink "GalleonWaveLaw" 112 ⟨"GalleonWave", "load", "(IIII)I"⟩ ∈ kw := kw_in (List.mem_append_right _ (tb6 _ (List.mem_of_getElem? (i := 41) (by decide +kernel)))) (by decide +kernel)
theorem kw_542 : Cond.instanceMethod ⟨"GalleonWave", "load", "(IIII)I"⟩ ∈ kw := kw_in (List.mem_append_right _ (tb6 _ (List.mem_of_getElem? (i := 42) (by decide +kernel)))) (by decide +kernel)
theorem kw_543 : Cond.selects "GalleonWave" ⟨"GalleonWave", "load", "(IIII)I"⟩ ⟨"GalleonWave", "load", "(IIII)I"⟩ ∈ kw := kw_in (List.mem_append_right _ (tb6 _ (List.mem_of_getElem? (i := 43) (by decide +kernel)))) (by decide +kernel)
theorem kw_544 : Cond.code ⟨"GalleonWave", "book", "(IIZ)I"⟩ prog_1_method_32_code 5 (some .int) ∈ kw := kw_in (List.mem_append_right _ (tb6 _ (List.mem_of_getElem? (i := 55) (by decide +kernel)))) (by decide +kernel)
theorem kw_545 : Cond.methodLink "GalleonWaveLaw" 115 ⟨"GalleonWave", "book", "(IIZ)I"⟩ ∈ kw := kw_in (List.mem_append_right _ (tb6 _ (List.mem_of_getElem? (i := 52) (by decide +kernel)))) (by decide +kernel)
theorem kw_546 : Cond.instanceMethod ⟨"GalleonWave", "book", "(IIZ)I"⟩ ∈ kw := kw_in (List.mem_append_right _ (tb6 _ (List.mem_of_getElem? (i := 53) (by decide +kernel)))) (by decide +kernel)
theorem kw_547 : Cond.selects "GalleonWave" ⟨"GalleonWave", "book", "(IIZ)I"⟩ ⟨"GalleonWave", "book", "(IIZ)I"⟩ ∈ kw := kw_in (List.mem_append_right _ (tb6 _ (List.mem_of_getElem? (i := 54) (by decide +kernel)))) (by decide +kernel)
theorem kw_548 : Cond.code ⟨"GalleonWave", "send", "(IIZ)I"⟩ prog_1_method_33_code 6 (some .int) ∈ kw := kw_in (List.mem_append_right _ (tb6 _ (List.mem_of_getElem? (i := 67) (by decide +kernel)))) (by decide +kernel)
theorem kw_549 : Cond.methodLink "GalleonWaveLaw" 118 ⟨"GalleonWave", "send", "(IIZ)I"⟩ ∈ kw := kw_in (List.mem_append_right _ (tb6 _ (List.mem_of_getElem? (i := 64) (by decide +kernel)))) (by decide +kernel)
theorem kw_550 : Cond.instanceMethod ⟨"GalleonWave", "send", "(IIZ)I"⟩ ∈ kw := kw_in (List.mem_append_right _ (tb6 _ (List.mem_of_getElem? (i := 65) (by decide +kernel)))) (by decide +kernel)
theorem kw_551 : Cond.selects "GalleonWave" ⟨"GalleonWave", "send", "(IIZ)I"⟩ ⟨"GalleonWave", "send", "(IIZ)I"⟩ ∈ kw := kw_in (List.mem_append_right _ (tb6 _ (List.mem_of_getElem? (i := 66) (by decide +kernel)))) (by decide +kernel)
theorem kw_552 : Cond.code ⟨"GalleonWave", "plan", "(III)I"⟩ prog_1_method_34_code 5 (some .int) ∈ kw := kw_in (List.mem_append_right _ (tb6 _ (List.mem_of_getElem? (i := 91) (by decide +kernel)))) (by decide +kernel)
theorem kw_553 : Cond.methodLink "GalleonWaveLaw" 121 ⟨"GalleonWave", "plan", "(III)I"⟩ ∈ kw := kw_in (List.mem_append_right _ (tb6 _ (List.mem_of_getElem? (i := 88) (by decide +kernel)))) (by decide +kernel)
theorem kw_554 : Cond.instanceMethod ⟨"GalleonWave", "plan", "(III)I"⟩ ∈ kw := kw_in (List.mem_append_right _ (tb6 _ (List.mem_of_getElem? (i := 89) (by decide +kernel)))) (by decide +kernel)
theorem kw_555 : Cond.selects "GalleonWave" ⟨"GalleonWave", "plan", "(III)I"⟩ ⟨"GalleonWave", "plan", "(III)I"⟩ ∈ kw := kw_in (List.mem_append_right _ (tb6 _ (List.mem_of_getElem? (i := 90) (by decide +kernel)))) (by decide +kernel)
theorem kw_556 : Cond.code ⟨"GalleonWave", "getSpeaker", "(I)I"⟩ prog_1_method_35_code 3 (some .int) ∈ kw := kw_in (List.mem_append_right _ (tb6 _ (List.mem_of_getElem? (i := 110) (by decide +kernel)))) (by decide +kernel)
theorem kw_557 : Cond.methodLink "GalleonWaveLaw" 124 ⟨"GalleonWave", "getSpeaker", "(I)I"⟩ ∈ kw := kw_in (List.mem_append_right _ (tb6 _ (List.mem_of_getElem? (i := 107) (by decide +kernel)))) (by decide +kernel)
theorem kw_558 : Cond.instanceMethod ⟨"GalleonWave", "getSpeaker", "(I)I"⟩ ∈ kw := kw_in (List.mem_append_right _ (tb6 _ (List.mem_of_getElem? (i := 108) (by decide +kernel)))) (by decide +kernel)
theorem kw_559 : Cond.selects "GalleonWave" ⟨"GalleonWave", "getSpeaker", "(I)I"⟩ ⟨"GalleonWave", "getSpeaker", "(I)I"⟩ ∈ kw := kw_in (List.mem_append_right _ (tb6 _ (List.mem_of_getElem? (i := 109) (by decide +kernel)))) (by decide +kernel)
theorem kw_560 : Cond.code ⟨"GalleonWave", "isMutiny", "(I)Z"⟩ prog_1_method_36_code 2 (some .boolean) ∈ kw := kw_in (List.mem_append_right _ (tb6 _ (List.mem_of_getElem? (i := 133) (by decide +kernel)))) (by decide +kernel)
theorem kw_561 : Cond.methodLink "GalleonWaveLaw" 129 ⟨"GalleonWave", "isMutiny", "(I)Z"⟩ ∈ kw := kw_in (List.mem_append_right _ (tb6 _ (List.mem_of_getElem? (i := 130) (by decide +kernel)))) (by decide +kernel)
theorem kw_562 : Cond.instanceMethod ⟨"GalleonWave", "isMutiny", "(I)Z"⟩ ∈ kw := kw_in (List.mem_append_right _ (tb6 _ (List.mem_of_getElem? (i := 131) (by decide +kernel)))) (by decide +kernel)
theorem kw_563 : Cond.selects "GalleonWave" ⟨"GalleonWave", "isMutiny", "(I)Z"⟩ ⟨"GalleonWave", "isMutiny", "(I)Z"⟩ ∈ kw := kw_in (List.mem_append_right _ (tb6 _ (List.mem_of_getElem? (i := 132) (by decide +kernel)))) (by decide +kernel)
theorem kw_564 : Cond.code ⟨"GalleonWave", "sell", "(II)I"⟩ prog_1_method_37_code 5 (some .int) ∈ kw := kw_in (List.mem_append_right _ (tb6 _ (List.mem_of_getElem? (i := 140) (by decide +kernel)))) (by decide +kernel)
theorem kw_565 : Cond.methodLink "GalleonWaveLaw" 132 ⟨"GalleonWave", "sell", "(II)I"⟩ ∈ kw := kw_in (List.mem_append_right _ (tb6 _ (List.mem_of_getElem? (i := 137) (by decide +kernel)))) (by decide +kernel)
theorem kw_566 : Cond.instanceMethod ⟨"GalleonWave", "sell", "(II)I"⟩ ∈ kw := kw_in (List.mem_append_right _ (tb6 _ (List.mem_of_getElem? (i := 138) (by decide +kernel)))) (by decide +kernel)
theorem kw_567 : Cond.selects "GalleonWave" ⟨"GalleonWave", "sell", "(II)I"⟩ ⟨"GalleonWave", "sell", "(II)I"⟩ ∈ kw := kw_in (List.mem_append_right _ (tb6 _ (List.mem_of_getElem? (i := 139) (by decide +kernel)))) (by decide +kernel)
theorem kw_568 : Cond.code ⟨"GalleonWave", "bank", "(I)I"⟩ prog_1_method_38_code 2 (some .int) ∈ kw := kw_in (List.mem_append_right _ (tb6 _ (List.mem_of_getElem? (i := 157) (by decide +kernel)))) (by decide +kernel)
theorem kw_569 : Cond.methodLink "GalleonWaveLaw" 135 ⟨"GalleonWave", "bank", "(I)I"⟩ ∈ kw := kw_in (List.mem_append_right _ (tb6 _ (List.mem_of_getElem? (i := 154) (by decide +kernel)))) (by decide +kernel)
theorem kw_570 : Cond.instanceMethod ⟨"GalleonWave", "bank", "(I)I"⟩ ∈ kw := kw_in (List.mem_append_right _ (tb6 _ (List.mem_of_getElem? (i := 155) (by decide +kernel)))) (by decide +kernel)
theorem kw_571 : Cond.selects "GalleonWave" ⟨"GalleonWave", "bank", "(I)I"⟩ ⟨"GalleonWave", "bank", "(I)I"⟩ ∈ kw := kw_in (List.mem_append_right _ (tb6 _ (List.mem_of_getElem? (i := 156) (by decide +kernel)))) (by decide +kernel)
theorem kw_572 : Cond.code ⟨"GalleonWave", "getEarned", "(I)I"⟩ prog_1_method_39_code 2 (some .int) ∈ kw := kw_in (List.mem_append_right _ (tb6 _ (List.mem_of_getElem? (i := 168) (by decide +kernel)))) (by decide +kernel)
theorem kw_573 : Cond.methodLink "GalleonWaveLaw" 138 ⟨"GalleonWave", "getEarned", "(I)I"⟩ ∈ kw := kw_in (List.mem_append_right _ (tb6 _ (List.mem_of_getElem? (i := 165) (by decide +kernel)))) (by decide +kernel)
theorem kw_574 : Cond.instanceMethod ⟨"GalleonWave", "getEarned", "(I)I"⟩ ∈ kw := kw_in (List.mem_append_right _ (tb6 _ (List.mem_of_getElem? (i := 166) (by decide +kernel)))) (by decide +kernel)
theorem kw_575 : Cond.selects "GalleonWave" ⟨"GalleonWave", "getEarned", "(I)I"⟩ ⟨"GalleonWave", "getEarned", "(I)I"⟩ ∈ kw := kw_in (List.mem_append_right _ (tb6 _ (List.mem_of_getElem? (i := 167) (by decide +kernel)))) (by decide +kernel)
theorem kw_576 : Cond.code ⟨"GalleonWave", "getEvidence", "(I)I"⟩ prog_1_method_41_code 2 (some .int) ∈ kw := kw_in (List.mem_append_right _ (tb6 _ (List.mem_of_getElem? (i := 175) (by decide +kernel)))) (by decide +kernel)
theorem kw_577 : Cond.methodLink "GalleonWaveLaw" 141 ⟨"GalleonWave", "getEvidence", "(I)I"⟩ ∈ kw := kw_in (List.mem_append_right _ (tb6 _ (List.mem_of_getElem? (i := 172) (by decide +kernel)))) (by decide +kernel)
theorem kw_578 : Cond.instanceMethod ⟨"GalleonWave", "getEvidence", "(I)I"⟩ ∈ kw := kw_in (List.mem_append_right _ (tb6 _ (List.mem_of_getElem? (i := 173) (by decide +kernel)))) (by decide +kernel)
theorem kw_579 : Cond.selects "GalleonWave" ⟨"GalleonWave", "getEvidence", "(I)I"⟩ ⟨"GalleonWave", "getEvidence", "(I)I"⟩ ∈ kw := kw_in (List.mem_append_right _ (tb6 _ (List.mem_of_getElem? (i := 174) (by decide +kernel)))) (by decide +kernel)
theorem kw_580 : Cond.code ⟨"GalleonWave", "raid", "(II)I"⟩ prog_1_method_42_code 5 (some .int) ∈ kw := kw_in (List.mem_append_right _ (tb6 _ (List.mem_of_getElem? (i := 182) (by decide +kernel)))) (by decide +kernel)
theorem kw_581 : Cond.methodLink "GalleonWaveLaw" 144 ⟨"GalleonWave", "raid", "(II)I"⟩ ∈ kw := kw_in (List.mem_append_right _ (tb6 _ (List.mem_of_getElem? (i := 179) (by decide +kernel)))) (by decide +kernel)
theorem kw_582 : Cond.instanceMethod ⟨"GalleonWave", "raid", "(II)I"⟩ ∈ kw := kw_in (List.mem_append_right _ (tb6 _ (List.mem_of_getElem? (i := 180) (by decide +kernel)))) (by decide +kernel)
theorem kw_583 : Cond.selects "GalleonWave" ⟨"GalleonWave", "raid", "(II)I"⟩ ⟨"GalleonWave", "raid", "(II)I"⟩ ∈ kw := kw_in (List.mem_append_right _ (tb6 _ (List.mem_of_getElem? (i := 181) (by decide +kernel)))) (by decide +kernel)
theorem kw_584 : Cond.code ⟨"GalleonWave", "board", "(II)Z"⟩ prog_1_method_43_code 5 (some .boolean) ∈ kw := kw_in (List.mem_append_right _ (tb6 _ (List.mem_of_getElem? (i := 190) (by decide +kernel)))) (by decide +kernel)
theorem kw_585 : Cond.methodLink "GalleonWaveLaw" 147 ⟨"GalleonWave", "board", "(II)Z"⟩ ∈ kw := kw_in (List.mem_append_right _ (tb6 _ (List.mem_of_getElem? (i := 187) (by decide +kernel)))) (by decide +kernel)
theorem kw_586 : Cond.instanceMethod ⟨"GalleonWave", "board", "(II)Z"⟩ ∈ kw := kw_in (List.mem_append_right _ (tb6 _ (List.mem_of_getElem? (i := 188) (by decide +kernel)))) (by decide +kernel)
theorem kw_587 : Cond.selects "GalleonWave" ⟨"GalleonWave", "board", "(II)Z"⟩ ⟨"GalleonWave", "board", "(II)Z"⟩ ∈ kw := kw_in (List.mem_append_right _ (tb6 _ (List.mem_of_getElem? (i := 189) (by decide +kernel)))) (by decide +kernel)
theorem kw_588 : Cond.code ⟨"GalleonWave", "addRecording", "(III)I"⟩ prog_1_method_45_code 4 (some .int) ∈ kw := kw_in (List.mem_append_right _ (tb6 _ (List.mem_of_getElem? (i := 199) (by decide +kernel)))) (by decide +kernel)
theorem kw_589 : Cond.methodLink "GalleonWaveLaw" 151 ⟨"GalleonWave", "addRecording", "(III)I"⟩ ∈ kw := kw_in (List.mem_append_right _ (tb6 _ (List.mem_of_getElem? (i := 196) (by decide +kernel)))) (by decide +kernel)
theorem kw_590 : Cond.instanceMethod ⟨"GalleonWave", "addRecording", "(III)I"⟩ ∈ kw := kw_in (List.mem_append_right _ (tb6 _ (List.mem_of_getElem? (i := 197) (by decide +kernel)))) (by decide +kernel)
theorem kw_591 : Cond.selects "GalleonWave" ⟨"GalleonWave", "addRecording", "(III)I"⟩ ⟨"GalleonWave", "addRecording", "(III)I"⟩ ∈ kw := kw_in (List.mem_append_right _ (tb6 _ (List.mem_of_getElem? (i := 198) (by decide +kernel)))) (by decide +kernel)
theorem kw_592 : Cond.code ⟨"GalleonWave", "addAhead", "(II)I"⟩ prog_1_method_46_code 3 (some .int) ∈ kw := kw_in (List.mem_append_right _ (tb6 _ (List.mem_of_getElem? (i := 229) (by decide +kernel)))) (by decide +kernel)
theorem kw_593 : Cond.methodLink "GalleonWaveLaw" 154 ⟨"GalleonWave", "addAhead", "(II)I"⟩ ∈ kw := kw_in (List.mem_append_right _ (tb6 _ (List.mem_of_getElem? (i := 226) (by decide +kernel)))) (by decide +kernel)
theorem kw_594 : Cond.instanceMethod ⟨"GalleonWave", "addAhead", "(II)I"⟩ ∈ kw := kw_in (List.mem_append_right _ (tb6 _ (List.mem_of_getElem? (i := 227) (by decide +kernel)))) (by decide +kernel)
theorem kw_595 : Cond.selects "GalleonWave" ⟨"GalleonWave", "addAhead", "(II)I"⟩ ⟨"GalleonWave", "addAhead", "(II)I"⟩ ∈ kw := kw_in (List.mem_append_right _ (tb6 _ (List.mem_of_getElem? (i := 228) (by decide +kernel)))) (by decide +kernel)
theorem kw_596 : Cond.code ⟨"GalleonWave", "getChoices", "(I)I"⟩ prog_1_method_47_code 2 (some .int) ∈ kw := kw_in (List.mem_append_right _ (tb7 _ (List.mem_of_getElem? (i := 14) (by decide +kernel)))) (by decide +kernel)
theorem kw_597 : Cond.methodLink "GalleonWaveLaw" 157 ⟨"GalleonWave", "getChoices", "(I)I"⟩ ∈ kw := kw_in (List.mem_append_right _ (tb7 _ (List.mem_of_getElem? (i := 11) (by decide +kernel)))) (by decide +kernel)
theorem kw_598 : Cond.instanceMethod ⟨"GalleonWave", "getChoices", "(I)I"⟩ ∈ kw := kw_in (List.mem_append_right _ (tb7 _ (List.mem_of_getElem? (i := 12) (by decide +kernel)))) (by decide +kernel)
theorem kw_599 : Cond.selects "GalleonWave" ⟨"GalleonWave", "getChoices", "(I)I"⟩ ⟨"GalleonWave", "getChoices", "(I)I"⟩ ∈ kw := kw_in (List.mem_append_right _ (tb7 _ (List.mem_of_getElem? (i := 13) (by decide +kernel)))) (by decide +kernel)
theorem kw_600 : Cond.code ⟨"GalleonWave", "getDate", "(IZ)I"⟩ prog_1_method_48_code 4 (some .int) ∈ kw := kw_in (List.mem_append_right _ (tb7 _ (List.mem_of_getElem? (i := 26) (by decide +kernel)))) (by decide +kernel)
theorem kw_601 : Cond.methodLink "GalleonWaveLaw" 160 ⟨"GalleonWave", "getDate", "(IZ)I"⟩ ∈ kw := kw_in (List.mem_append_right _ (tb7 _ (List.mem_of_getElem? (i := 23) (by decide +kernel)))) (by decide +kernel)
theorem kw_602 : Cond.instanceMethod ⟨"GalleonWave", "getDate", "(IZ)I"⟩ ∈ kw := kw_in (List.mem_append_right _ (tb7 _ (List.mem_of_getElem? (i := 24) (by decide +kernel)))) (by decide +kernel)
theorem kw_603 : Cond.selects "GalleonWave" ⟨"GalleonWave", "getDate", "(IZ)I"⟩ ⟨"GalleonWave", "getDate", "(IZ)I"⟩ ∈ kw := kw_in (List.mem_append_right _ (tb7 _ (List.mem_of_getElem? (i := 25) (by decide +kernel)))) (by decide +kernel)
theorem kw_604 : Cond.code ⟨"GalleonWave", "getNightShare", "()F"⟩ prog_1_method_49_code 2 (some .float) ∈ kw := kw_in (List.mem_append_right _ (tb7 _ (List.mem_of_getElem? (i := 49) (by decide +kernel)))) (by decide +kernel)
theorem kw_605 : Cond.methodLink "GalleonWaveLaw" 163 ⟨"GalleonWave", "getNightShare", "()F"⟩ ∈ kw := kw_in (List.mem_append_right _ (tb7 _ (List.mem_of_getElem? (i := 46) (by decide +kernel)))) (by decide +kernel)
theorem kw_606 : Cond.instanceMethod ⟨"GalleonWave", "getNightShare", "()F"⟩ ∈ kw := kw_in (List.mem_append_right _ (tb7 _ (List.mem_of_getElem? (i := 47) (by decide +kernel)))) (by decide +kernel)
theorem kw_607 : Cond.selects "GalleonWave" ⟨"GalleonWave", "getNightShare", "()F"⟩ ⟨"GalleonWave", "getNightShare", "()F"⟩ ∈ kw := kw_in (List.mem_append_right _ (tb7 _ (List.mem_of_getElem? (i := 48) (by decide +kernel)))) (by decide +kernel)
theorem kw_608 : Cond.classLink "GalleonWaveLaw" 167 "java/lang/ArithmeticException" ∈ kw := kw_in (List.mem_append_right _ (tb7 _ (List.mem_of_getElem? (i := 32) (by decide +kernel)))) (by decide +kernel)
theorem kw_609 : Cond.castable "java/lang/ArithmeticException" "java/lang/ArithmeticException" ∈ kw := kw_in (List.mem_append_right _ (tb7 _ (List.mem_of_getElem? (i := 44) (by decide +kernel)))) (by decide +kernel)
theorem kw_610 : Cond.code ⟨"GalleonWave", "getMeanCrew", "()D"⟩ prog_1_method_50_code 2 (some .double) ∈ kw := kw_in (List.mem_append_right _ (tb7 _ (List.mem_of_getElem? (i := 64) (by decide +kernel)))) (by decide +kernel)
theorem kw_611 : Cond.methodLink "GalleonWaveLaw" 169 ⟨"GalleonWave", "getMeanCrew", "()D"⟩ ∈ kw := kw_in (List.mem_append_right _ (tb7 _ (List.mem_of_getElem? (i := 61) (by decide +kernel)))) (by decide +kernel)
theorem kw_612 : Cond.instanceMethod ⟨"GalleonWave", "getMeanCrew", "()D"⟩ ∈ kw := kw_in (List.mem_append_right _ (tb7 _ (List.mem_of_getElem? (i := 62) (by decide +kernel)))) (by decide +kernel)
theorem kw_613 : Cond.selects "GalleonWave" ⟨"GalleonWave", "getMeanCrew", "()D"⟩ ⟨"GalleonWave", "getMeanCrew", "()D"⟩ ∈ kw := kw_in (List.mem_append_right _ (tb7 _ (List.mem_of_getElem? (i := 63) (by decide +kernel)))) (by decide +kernel)
theorem ydX11_addAct : (yX11_addAct.cls ≠ "java/lang/invoke/MethodHandle" ∧ yX11_addAct.cls ≠ "java/lang/invoke/VarHandle") ∧ (parseMethodDescriptor yX11_addAct.desc).map (fun d => d.parameters.length) = some 4 := by decide +kernel
theorem ydX11_addAhead : (yX11_addAhead.cls ≠ "java/lang/invoke/MethodHandle" ∧ yX11_addAhead.cls ≠ "java/lang/invoke/VarHandle") ∧ (parseMethodDescriptor yX11_addAhead.desc).map (fun d => d.parameters.length) = some 2 := by decide +kernel
theorem ydX11_addGenerator : (yX11_addGenerator.cls ≠ "java/lang/invoke/MethodHandle" ∧ yX11_addGenerator.cls ≠ "java/lang/invoke/VarHandle") ∧ (parseMethodDescriptor yX11_addGenerator.desc).map (fun d => d.parameters.length) = some 3 := by decide +kernel
theorem ydX11_addLand : (yX11_addLand.cls ≠ "java/lang/invoke/MethodHandle" ∧ yX11_addLand.cls ≠ "java/lang/invoke/VarHandle") ∧ (parseMethodDescriptor yX11_addLand.desc).map (fun d => d.parameters.length) = some 3 := by decide +kernel
theorem ydX11_addPerson : (yX11_addPerson.cls ≠ "java/lang/invoke/MethodHandle" ∧ yX11_addPerson.cls ≠ "java/lang/invoke/VarHandle") ∧ (parseMethodDescriptor yX11_addPerson.desc).map (fun d => d.parameters.length) = some 2 := by decide +kernel
theorem ydX11_addRecording : (yX11_addRecording.cls ≠ "java/lang/invoke/MethodHandle" ∧ yX11_addRecording.cls ≠ "java/lang/invoke/VarHandle") ∧ (parseMethodDescriptor yX11_addRecording.desc).map (fun d => d.parameters.length) = some 3 := by decide +kernel
theorem ydX11_addShip : (yX11_addShip.cls ≠ "java/lang/invoke/MethodHandle" ∧ yX11_addShip.cls ≠ "java/lang/invoke/VarHandle") ∧ (parseMethodDescriptor yX11_addShip.desc).map (fun d => d.parameters.length) = some 2 := by decide +kernel
theorem ydX11_addTown : (yX11_addTown.cls ≠ "java/lang/invoke/MethodHandle" ∧ yX11_addTown.cls ≠ "java/lang/invoke/VarHandle") ∧ (parseMethodDescriptor yX11_addTown.desc).map (fun d => d.parameters.length) = some 4 := by decide +kernel
theorem ydX11_anchor : (yX11_anchor.cls ≠ "java/lang/invoke/MethodHandle" ∧ yX11_anchor.cls ≠ "java/lang/invoke/VarHandle") ∧ (parseMethodDescriptor yX11_anchor.desc).map (fun d => d.parameters.length) = some 2 := by decide +kernel
theorem ydX11_bank : (yX11_bank.cls ≠ "java/lang/invoke/MethodHandle" ∧ yX11_bank.cls ≠ "java/lang/invoke/VarHandle") ∧ (parseMethodDescriptor yX11_bank.desc).map (fun d => d.parameters.length) = some 1 := by decide +kernel
theorem ydX11_board : (yX11_board.cls ≠ "java/lang/invoke/MethodHandle" ∧ yX11_board.cls ≠ "java/lang/invoke/VarHandle") ∧ (parseMethodDescriptor yX11_board.desc).map (fun d => d.parameters.length) = some 2 := by decide +kernel
theorem ydX11_book : (yX11_book.cls ≠ "java/lang/invoke/MethodHandle" ∧ yX11_book.cls ≠ "java/lang/invoke/VarHandle") ∧ (parseMethodDescriptor yX11_book.desc).map (fun d => d.parameters.length) = some 3 := by decide +kernel
theorem ydX11_getAboard : (yX11_getAboard.cls ≠ "java/lang/invoke/MethodHandle" ∧ yX11_getAboard.cls ≠ "java/lang/invoke/VarHandle") ∧ (parseMethodDescriptor yX11_getAboard.desc).map (fun d => d.parameters.length) = some 1 := by decide +kernel
theorem ydX11_getChannel : (yX11_getChannel.cls ≠ "java/lang/invoke/MethodHandle" ∧ yX11_getChannel.cls ≠ "java/lang/invoke/VarHandle") ∧ (parseMethodDescriptor yX11_getChannel.desc).map (fun d => d.parameters.length) = some 1 := by decide +kernel
theorem ydX11_getChoices : (yX11_getChoices.cls ≠ "java/lang/invoke/MethodHandle" ∧ yX11_getChoices.cls ≠ "java/lang/invoke/VarHandle") ∧ (parseMethodDescriptor yX11_getChoices.desc).map (fun d => d.parameters.length) = some 1 := by decide +kernel
theorem ydX11_getDate : (yX11_getDate.cls ≠ "java/lang/invoke/MethodHandle" ∧ yX11_getDate.cls ≠ "java/lang/invoke/VarHandle") ∧ (parseMethodDescriptor yX11_getDate.desc).map (fun d => d.parameters.length) = some 2 := by decide +kernel
theorem ydX11_getEarned : (yX11_getEarned.cls ≠ "java/lang/invoke/MethodHandle" ∧ yX11_getEarned.cls ≠ "java/lang/invoke/VarHandle") ∧ (parseMethodDescriptor yX11_getEarned.desc).map (fun d => d.parameters.length) = some 1 := by decide +kernel
theorem ydX11_getEvidence : (yX11_getEvidence.cls ≠ "java/lang/invoke/MethodHandle" ∧ yX11_getEvidence.cls ≠ "java/lang/invoke/VarHandle") ∧ (parseMethodDescriptor yX11_getEvidence.desc).map (fun d => d.parameters.length) = some 1 := by decide +kernel
theorem ydX11_getFood : (yX11_getFood.cls ≠ "java/lang/invoke/MethodHandle" ∧ yX11_getFood.cls ≠ "java/lang/invoke/VarHandle") ∧ (parseMethodDescriptor yX11_getFood.desc).map (fun d => d.parameters.length) = some 1 := by decide +kernel
theorem ydX11_getFuel : (yX11_getFuel.cls ≠ "java/lang/invoke/MethodHandle" ∧ yX11_getFuel.cls ≠ "java/lang/invoke/VarHandle") ∧ (parseMethodDescriptor yX11_getFuel.desc).map (fun d => d.parameters.length) = some 1 := by decide +kernel
theorem ydX11_getHeard : (yX11_getHeard.cls ≠ "java/lang/invoke/MethodHandle" ∧ yX11_getHeard.cls ≠ "java/lang/invoke/VarHandle") ∧ (parseMethodDescriptor yX11_getHeard.desc).map (fun d => d.parameters.length) = some 1 := by decide +kernel
theorem ydX11_getInside : (yX11_getInside.cls ≠ "java/lang/invoke/MethodHandle" ∧ yX11_getInside.cls ≠ "java/lang/invoke/VarHandle") ∧ (parseMethodDescriptor yX11_getInside.desc).map (fun d => d.parameters.length) = some 1 := by decide +kernel
theorem ydX11_getLine : (yX11_getLine.cls ≠ "java/lang/invoke/MethodHandle" ∧ yX11_getLine.cls ≠ "java/lang/invoke/VarHandle") ∧ (parseMethodDescriptor yX11_getLine.desc).map (fun d => d.parameters.length) = some 1 := by decide +kernel
theorem ydX11_getListeners : (yX11_getListeners.cls ≠ "java/lang/invoke/MethodHandle" ∧ yX11_getListeners.cls ≠ "java/lang/invoke/VarHandle") ∧ (parseMethodDescriptor yX11_getListeners.desc).map (fun d => d.parameters.length) = some 1 := by decide +kernel
theorem ydX11_getMeanCrew : (yX11_getMeanCrew.cls ≠ "java/lang/invoke/MethodHandle" ∧ yX11_getMeanCrew.cls ≠ "java/lang/invoke/VarHandle") ∧ (parseMethodDescriptor yX11_getMeanCrew.desc).map (fun d => d.parameters.length) = some 0 := by decide +kernel
theorem ydX11_getNightShare : (yX11_getNightShare.cls ≠ "java/lang/invoke/MethodHandle" ∧ yX11_getNightShare.cls ≠ "java/lang/invoke/VarHandle") ∧ (parseMethodDescriptor yX11_getNightShare.desc).map (fun d => d.parameters.length) = some 0 := by decide +kernel
theorem ydX11_getPlace : (yX11_getPlace.cls ≠ "java/lang/invoke/MethodHandle" ∧ yX11_getPlace.cls ≠ "java/lang/invoke/VarHandle") ∧ (parseMethodDescriptor yX11_getPlace.desc).map (fun d => d.parameters.length) = some 2 := by decide +kernel
theorem ydX11_getSalt : (yX11_getSalt.cls ≠ "java/lang/invoke/MethodHandle" ∧ yX11_getSalt.cls ≠ "java/lang/invoke/VarHandle") ∧ (parseMethodDescriptor yX11_getSalt.desc).map (fun d => d.parameters.length) = some 1 := by decide +kernel
theorem ydX11_getSignal : (yX11_getSignal.cls ≠ "java/lang/invoke/MethodHandle" ∧ yX11_getSignal.cls ≠ "java/lang/invoke/VarHandle") ∧ (parseMethodDescriptor yX11_getSignal.desc).map (fun d => d.parameters.length) = some 2 := by decide +kernel
theorem ydX11_getSpeaker : (yX11_getSpeaker.cls ≠ "java/lang/invoke/MethodHandle" ∧ yX11_getSpeaker.cls ≠ "java/lang/invoke/VarHandle") ∧ (parseMethodDescriptor yX11_getSpeaker.desc).map (fun d => d.parameters.length) = some 1 := by decide +kernel
theorem ydX11_isAground : (yX11_isAground.cls ≠ "java/lang/invoke/MethodHandle" ∧ yX11_isAground.cls ≠ "java/lang/invoke/VarHandle") ∧ (parseMethodDescriptor yX11_isAground.desc).map (fun d => d.parameters.length) = some 1 := by decide +kernel
theorem ydX11_isMutiny : (yX11_isMutiny.cls ≠ "java/lang/invoke/MethodHandle" ∧ yX11_isMutiny.cls ≠ "java/lang/invoke/VarHandle") ∧ (parseMethodDescriptor yX11_isMutiny.desc).map (fun d => d.parameters.length) = some 1 := by decide +kernel
theorem ydX11_isOnAir : (yX11_isOnAir.cls ≠ "java/lang/invoke/MethodHandle" ∧ yX11_isOnAir.cls ≠ "java/lang/invoke/VarHandle") ∧ (parseMethodDescriptor yX11_isOnAir.desc).map (fun d => d.parameters.length) = some 1 := by decide +kernel
theorem ydX11_isTired : (yX11_isTired.cls ≠ "java/lang/invoke/MethodHandle" ∧ yX11_isTired.cls ≠ "java/lang/invoke/VarHandle") ∧ (parseMethodDescriptor yX11_isTired.desc).map (fun d => d.parameters.length) = some 1 := by decide +kernel
theorem ydX11_load : (yX11_load.cls ≠ "java/lang/invoke/MethodHandle" ∧ yX11_load.cls ≠ "java/lang/invoke/VarHandle") ∧ (parseMethodDescriptor yX11_load.desc).map (fun d => d.parameters.length) = some 4 := by decide +kernel
theorem ydX11_pass : (yX11_pass.cls ≠ "java/lang/invoke/MethodHandle" ∧ yX11_pass.cls ≠ "java/lang/invoke/VarHandle") ∧ (parseMethodDescriptor yX11_pass.desc).map (fun d => d.parameters.length) = some 1 := by decide +kernel
theorem ydX11_plan : (yX11_plan.cls ≠ "java/lang/invoke/MethodHandle" ∧ yX11_plan.cls ≠ "java/lang/invoke/VarHandle") ∧ (parseMethodDescriptor yX11_plan.desc).map (fun d => d.parameters.length) = some 3 := by decide +kernel
theorem ydX11_pullOff : (yX11_pullOff.cls ≠ "java/lang/invoke/MethodHandle" ∧ yX11_pullOff.cls ≠ "java/lang/invoke/VarHandle") ∧ (parseMethodDescriptor yX11_pullOff.desc).map (fun d => d.parameters.length) = some 1 := by decide +kernel
theorem ydX11_raid : (yX11_raid.cls ≠ "java/lang/invoke/MethodHandle" ∧ yX11_raid.cls ≠ "java/lang/invoke/VarHandle") ∧ (parseMethodDescriptor yX11_raid.desc).map (fun d => d.parameters.length) = some 2 := by decide +kernel
theorem ydX11_sell : (yX11_sell.cls ≠ "java/lang/invoke/MethodHandle" ∧ yX11_sell.cls ≠ "java/lang/invoke/VarHandle") ∧ (parseMethodDescriptor yX11_sell.desc).map (fun d => d.parameters.length) = some 2 := by decide +kernel
theorem ydX11_send : (yX11_send.cls ≠ "java/lang/invoke/MethodHandle" ∧ yX11_send.cls ≠ "java/lang/invoke/VarHandle") ∧ (parseMethodDescriptor yX11_send.desc).map (fun d => d.parameters.length) = some 3 := by decide +kernel
theorem ydX11_setGenerator : (yX11_setGenerator.cls ≠ "java/lang/invoke/MethodHandle" ∧ yX11_setGenerator.cls ≠ "java/lang/invoke/VarHandle") ∧ (parseMethodDescriptor yX11_setGenerator.desc).map (fun d => d.parameters.length) = some 3 := by decide +kernel
theorem ydX11_setPower : (yX11_setPower.cls ≠ "java/lang/invoke/MethodHandle" ∧ yX11_setPower.cls ≠ "java/lang/invoke/VarHandle") ∧ (parseMethodDescriptor yX11_setPower.desc).map (fun d => d.parameters.length) = some 2 := by decide +kernel
theorem ydX11_setTide : (yX11_setTide.cls ≠ "java/lang/invoke/MethodHandle" ∧ yX11_setTide.cls ≠ "java/lang/invoke/VarHandle") ∧ (parseMethodDescriptor yX11_setTide.desc).map (fun d => d.parameters.length) = some 2 := by decide +kernel
theorem ydX11_setWind : (yX11_setWind.cls ≠ "java/lang/invoke/MethodHandle" ∧ yX11_setWind.cls ≠ "java/lang/invoke/VarHandle") ∧ (parseMethodDescriptor yX11_setWind.desc).map (fun d => d.parameters.length) = some 2 := by decide +kernel
theorem ydX11_wash : (yX11_wash.cls ≠ "java/lang/invoke/MethodHandle" ∧ yX11_wash.cls ≠ "java/lang/invoke/VarHandle") ∧ (parseMethodDescriptor yX11_wash.desc).map (fun d => d.parameters.length) = some 1 := by decide +kernel
theorem ydX11_weigh : (yX11_weigh.cls ≠ "java/lang/invoke/MethodHandle" ∧ yX11_weigh.cls ≠ "java/lang/invoke/VarHandle") ∧ (parseMethodDescriptor yX11_weigh.desc).map (fun d => d.parameters.length) = some 1 := by decide +kernel
theorem dL_addLand_0 : decode cL_addLand 0 = .ok (.aload 4, 2) := by decide +kernel
theorem dL_addLand_2 : decode cL_addLand 2 = .ok (.iconst 0, 1) := by decide +kernel
theorem dL_addLand_3 : decode cL_addLand 3 = .ok (.aload_n 0, 1) := by decide +kernel
theorem dL_addLand_4 : decode cL_addLand 4 = .ok (.iload_n 1, 1) := by decide +kernel
theorem dL_addLand_5 : decode cL_addLand 5 = .ok (.iload_n 2, 1) := by decide +kernel
theorem dL_addLand_6 : decode cL_addLand 6 = .ok (.iload_n 3, 1) := by decide +kernel
theorem dL_addLand_7 : decode cL_addLand 7 = .ok (.invokevirtual 7, 3) := by decide +kernel
theorem dL_addLand_10 : decode cL_addLand 10 = .ok (.i2l, 1) := by decide +kernel
theorem dL_addLand_11 : decode cL_addLand 11 = .ok (.lastore, 1) := by decide +kernel
theorem dL_addLand_12 : decode cL_addLand 12 = .ok (.goto 11, 3) := by decide +kernel
theorem dL_addLand_15 : decode cL_addLand 15 = .ok (.astore 5, 2) := by decide +kernel
theorem dL_addLand_17 : decode cL_addLand 17 = .ok (.iconst 1, 1) := by decide +kernel
theorem dL_addLand_18 : decode cL_addLand 18 = .ok (.ireturn, 1) := by decide +kernel
theorem dL_addLand_23 : decode cL_addLand 23 = .ok (.iconst 0, 1) := by decide +kernel
theorem dL_addLand_24 : decode cL_addLand 24 = .ok (.ireturn, 1) := by decide +kernel
theorem dL_addAct_0 : decode cL_addAct 0 = .ok (.aload 5, 2) := by decide +kernel
theorem dL_addAct_2 : decode cL_addAct 2 = .ok (.iconst 0, 1) := by decide +kernel
theorem dL_addAct_3 : decode cL_addAct 3 = .ok (.aload_n 0, 1) := by decide +kernel
theorem dL_addAct_4 : decode cL_addAct 4 = .ok (.iload_n 1, 1) := by decide +kernel
theorem dL_addAct_5 : decode cL_addAct 5 = .ok (.iload_n 2, 1) := by decide +kernel
theorem dL_addAct_6 : decode cL_addAct 6 = .ok (.iload_n 3, 1) := by decide +kernel
theorem dL_addAct_7 : decode cL_addAct 7 = .ok (.iload 4, 2) := by decide +kernel
theorem dL_addAct_9 : decode cL_addAct 9 = .ok (.invokevirtual 17, 3) := by decide +kernel
theorem dL_addAct_17 : decode cL_addAct 17 = .ok (.astore 6, 2) := by decide +kernel
theorem dL_addAct_19 : decode cL_addAct 19 = .ok (.iconst 1, 1) := by decide +kernel
theorem dL_addAct_20 : decode cL_addAct 20 = .ok (.ireturn, 1) := by decide +kernel
theorem dL_getLine_0 : decode cL_getLine 0 = .ok (.aload_n 2, 1) := by decide +kernel
theorem dL_getLine_1 : decode cL_getLine 1 = .ok (.iconst 0, 1) := by decide +kernel
theorem dL_getLine_2 : decode cL_getLine 2 = .ok (.aload_n 0, 1) := by decide +kernel
theorem dL_getLine_3 : decode cL_getLine 3 = .ok (.iload_n 1, 1) := by decide +kernel
theorem dL_getLine_4 : decode cL_getLine 4 = .ok (.invokevirtual 23, 3) := by decide +kernel
theorem dL_getLine_12 : decode cL_getLine 12 = .ok (.astore_n 3, 1) := by decide +kernel
theorem dL_getLine_13 : decode cL_getLine 13 = .ok (.iconst 1, 1) := by decide +kernel
theorem dL_getLine_14 : decode cL_getLine 14 = .ok (.ireturn, 1) := by decide +kernel
theorem dL_setWind_0 : decode cL_setWind 0 = .ok (.aload_n 3, 1) := by decide +kernel
theorem dL_setWind_1 : decode cL_setWind 1 = .ok (.iconst 0, 1) := by decide +kernel
theorem dL_setWind_2 : decode cL_setWind 2 = .ok (.aload_n 0, 1) := by decide +kernel
theorem dL_setWind_3 : decode cL_setWind 3 = .ok (.iload_n 1, 1) := by decide +kernel
theorem dL_setWind_4 : decode cL_setWind 4 = .ok (.iload_n 2, 1) := by decide +kernel
theorem dL_setWind_5 : decode cL_setWind 5 = .ok (.invokevirtual 27, 3) := by decide +kernel
theorem dL_setWind_8 : decode cL_setWind 8 = .ok (.i2l, 1) := by decide +kernel
theorem dL_setWind_9 : decode cL_setWind 9 = .ok (.lastore, 1) := by decide +kernel
theorem dL_setWind_10 : decode cL_setWind 10 = .ok (.goto 7, 3) := by decide +kernel
theorem dL_setWind_13 : decode cL_setWind 13 = .ok (.astore 4, 2) := by decide +kernel
theorem dL_setWind_15 : decode cL_setWind 15 = .ok (.iconst 1, 1) := by decide +kernel
theorem dL_setWind_16 : decode cL_setWind 16 = .ok (.ireturn, 1) := by decide +kernel
theorem dL_setWind_17 : decode cL_setWind 17 = .ok (.iconst 0, 1) := by decide +kernel
theorem dL_setWind_18 : decode cL_setWind 18 = .ok (.ireturn, 1) := by decide +kernel
theorem dL_setTide_0 : decode cL_setTide 0 = .ok (.aload_n 3, 1) := by decide +kernel
theorem dL_setTide_1 : decode cL_setTide 1 = .ok (.iconst 0, 1) := by decide +kernel
theorem dL_setTide_2 : decode cL_setTide 2 = .ok (.aload_n 0, 1) := by decide +kernel
theorem dL_setTide_3 : decode cL_setTide 3 = .ok (.iload_n 1, 1) := by decide +kernel
theorem dL_setTide_4 : decode cL_setTide 4 = .ok (.iload_n 2, 1) := by decide +kernel
theorem dL_setTide_5 : decode cL_setTide 5 = .ok (.invokevirtual 31, 3) := by decide +kernel
theorem dL_setTide_8 : decode cL_setTide 8 = .ok (.i2l, 1) := by decide +kernel
theorem dL_setTide_9 : decode cL_setTide 9 = .ok (.lastore, 1) := by decide +kernel
theorem dL_setTide_10 : decode cL_setTide 10 = .ok (.goto 7, 3) := by decide +kernel
theorem dL_setTide_13 : decode cL_setTide 13 = .ok (.astore 4, 2) := by decide +kernel
theorem dL_setTide_15 : decode cL_setTide 15 = .ok (.iconst 1, 1) := by decide +kernel
theorem dL_setTide_16 : decode cL_setTide 16 = .ok (.ireturn, 1) := by decide +kernel
theorem dL_setTide_17 : decode cL_setTide 17 = .ok (.iconst 0, 1) := by decide +kernel
theorem dL_setTide_18 : decode cL_setTide 18 = .ok (.ireturn, 1) := by decide +kernel
theorem dL_addTown_0 : decode cL_addTown 0 = .ok (.aload 5, 2) := by decide +kernel
theorem dL_addTown_2 : decode cL_addTown 2 = .ok (.iconst 0, 1) := by decide +kernel
theorem dL_addTown_3 : decode cL_addTown 3 = .ok (.aload_n 0, 1) := by decide +kernel
theorem dL_addTown_4 : decode cL_addTown 4 = .ok (.iload_n 1, 1) := by decide +kernel
theorem dL_addTown_5 : decode cL_addTown 5 = .ok (.iload_n 2, 1) := by decide +kernel
theorem dL_addTown_6 : decode cL_addTown 6 = .ok (.iload_n 3, 1) := by decide +kernel
theorem dL_addTown_7 : decode cL_addTown 7 = .ok (.iload 4, 2) := by decide +kernel
theorem dL_addTown_9 : decode cL_addTown 9 = .ok (.invokevirtual 35, 3) := by decide +kernel
theorem dL_addTown_17 : decode cL_addTown 17 = .ok (.astore 6, 2) := by decide +kernel
theorem dL_addTown_19 : decode cL_addTown 19 = .ok (.iconst 1, 1) := by decide +kernel
theorem dL_addTown_20 : decode cL_addTown 20 = .ok (.ireturn, 1) := by decide +kernel
theorem dL_pass_0 : decode cL_pass 0 = .ok (.aload_n 2, 1) := by decide +kernel
theorem dL_pass_1 : decode cL_pass 1 = .ok (.iconst 0, 1) := by decide +kernel
theorem dL_pass_2 : decode cL_pass 2 = .ok (.aload_n 0, 1) := by decide +kernel
theorem dL_pass_3 : decode cL_pass 3 = .ok (.iload_n 1, 1) := by decide +kernel
theorem dL_pass_4 : decode cL_pass 4 = .ok (.invokevirtual 38, 3) := by decide +kernel
theorem dL_pass_7 : decode cL_pass 7 = .ok (.i2l, 1) := by decide +kernel
theorem dL_pass_8 : decode cL_pass 8 = .ok (.lastore, 1) := by decide +kernel
theorem dL_pass_9 : decode cL_pass 9 = .ok (.goto 6, 3) := by decide +kernel
theorem dL_pass_12 : decode cL_pass 12 = .ok (.astore_n 3, 1) := by decide +kernel
theorem dL_pass_13 : decode cL_pass 13 = .ok (.iconst 1, 1) := by decide +kernel
