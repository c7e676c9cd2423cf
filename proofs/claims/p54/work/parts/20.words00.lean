theorem kw_580 : Cond.code ⟨"GalleonWave", "addShip", "(II)I"⟩ prog_1_method_9_code 3 (some .int) ∈ kw := kw_in (List.mem_append_right _ (tb4 _ (List.mem_of_getElem? (i := 123) (by decide +kernel)))) (by decide +kernel)
theorem kw_581 : Cond.methodLink "GalleonWaveLaw" 40 ⟨"GalleonWave", "addShip", "(II)I"⟩ ∈ kw := kw_in (List.mem_append_right _ (tb4 _ (List.mem_of_getElem? (i := 120) (by decide +kernel)))) (by decide +kernel)
theorem kw_582 : Cond.instanceMethod ⟨"GalleonWave", "addShip", "(II)I"⟩ ∈ kw := kw_in (List.mem_append_right _ (tb4 _ (List.mem_of_getElem? (i := 121) (by decide +kernel)))) (by decide +kernel)
theorem kw_583 : Cond.selects "GalleonWave" ⟨"GalleonWave", "addShip", "(II)I"⟩ ⟨"GalleonWave", "addShip", "(II)I"⟩ ∈ kw := kw_in (List.mem_append_right _ (tb4 _ (List.mem_of_getElem? (i := 122) (by decide +kernel)))) (by decide +kernel)
theorem kw_584 : Cond.classLink "GalleonWaveLaw" 15 "java/lang/IllegalArgumentException" ∈ kw := kw_in (List.mem_append_right _ (tb2 _ (List.mem_of_getElem? (i := 167) (by decide +kernel)))) (by decide +kernel)
theorem kw_585 : Cond.castable "java/lang/IllegalArgumentException" "java/lang/IllegalArgumentException" ∈ kw := kw_in (List.mem_append_right _ (tb2 _ (List.mem_of_getElem? (i := 181) (by decide +kernel)))) (by decide +kernel)
theorem kw_586 : Cond.constant "GalleonWaveLaw" 17 (-900001) ∈ kw := kw_in (List.mem_append_right _ (tb3 _ (List.mem_of_getElem? (i := 82) (by decide +kernel)))) (by decide +kernel)
theorem kw_587 : Cond.code ⟨"GalleonWave", "addTown", "(IIII)I"⟩ prog_1_method_7_code 5 (some .int) ∈ kw := kw_in (List.mem_append_right _ (tb3 _ (List.mem_of_getElem? (i := 129) (by decide +kernel)))) (by decide +kernel)
theorem kw_588 : Cond.methodLink "GalleonWaveLaw" 29 ⟨"GalleonWave", "addTown", "(IIII)I"⟩ ∈ kw := kw_in (List.mem_append_right _ (tb3 _ (List.mem_of_getElem? (i := 126) (by decide +kernel)))) (by decide +kernel)
theorem kw_589 : Cond.instanceMethod ⟨"GalleonWave", "addTown", "(IIII)I"⟩ ∈ kw := kw_in (List.mem_append_right _ (tb3 _ (List.mem_of_getElem? (i := 127) (by decide +kernel)))) (by decide +kernel)
theorem kw_590 : Cond.selects "GalleonWave" ⟨"GalleonWave", "addTown", "(IIII)I"⟩ ⟨"GalleonWave", "addTown", "(IIII)I"⟩ ∈ kw := kw_in (List.mem_append_right _ (tb3 _ (List.mem_of_getElem? (i := 128) (by decide +kernel)))) (by decide +kernel)
theorem kw_591 : Cond.classLink "GalleonWaveLaw" 33 "java/lang/IndexOutOfBoundsException" ∈ kw := kw_in (List.mem_append_right _ (tb3 _ (List.mem_of_getElem? (i := 102) (by decide +kernel)))) (by decide +kernel)
theorem kw_592 : Cond.castable "java/lang/IndexOutOfBoundsException" "java/lang/IndexOutOfBoundsException" ∈ kw := kw_in (List.mem_append_right _ (tb3 _ (List.mem_of_getElem? (i := 139) (by decide +kernel)))) (by decide +kernel)
theorem kw_593 : Cond.code ⟨"GalleonWave", "addLand", "(III)I"⟩ prog_1_method_2_code 4 (some .int) ∈ kw := kw_in (List.mem_append_right _ (tb2 _ (List.mem_of_getElem? (i := 172) (by decide +kernel)))) (by decide +kernel)
theorem kw_594 : Cond.methodLink "GalleonWaveLaw" 9 ⟨"GalleonWave", "addLand", "(III)I"⟩ ∈ kw := kw_in (List.mem_append_right _ (tb2 _ (List.mem_of_getElem? (i := 169) (by decide +kernel)))) (by decide +kernel)
theorem kw_595 : Cond.instanceMethod ⟨"GalleonWave", "addLand", "(III)I"⟩ ∈ kw := kw_in (List.mem_append_right _ (tb2 _ (List.mem_of_getElem? (i := 170) (by decide +kernel)))) (by decide +kernel)
theorem kw_596 : Cond.selects "GalleonWave" ⟨"GalleonWave", "addLand", "(III)I"⟩ ⟨"GalleonWave", "addLand", "(III)I"⟩ ∈ kw := kw_in (List.mem_append_right _ (tb2 _ (List.mem_of_getElem? (i := 171) (by decide +kernel)))) (by decide +kernel)
theorem kw_597 : Cond.code ⟨"GalleonWave", "setWind", "(IC)I"⟩ prog_1_method_5_code 4 (some .int) ∈ kw := kw_in (List.mem_append_right _ (tb3 _ (List.mem_of_getElem? (i := 90) (by decide +kernel)))) (by decide +kernel)
theorem kw_598 : Cond.methodLink "GalleonWaveLaw" 21 ⟨"GalleonWave", "setWind", "(IC)I"⟩ ∈ kw := kw_in (List.mem_append_right _ (tb3 _ (List.mem_of_getElem? (i := 87) (by decide +kernel)))) (by decide +kernel)
theorem kw_599 : Cond.instanceMethod ⟨"GalleonWave", "setWind", "(IC)I"⟩ ∈ kw := kw_in (List.mem_append_right _ (tb3 _ (List.mem_of_getElem? (i := 88) (by decide +kernel)))) (by decide +kernel)
theorem kw_600 : Cond.selects "GalleonWave" ⟨"GalleonWave", "setWind", "(IC)I"⟩ ⟨"GalleonWave", "setWind", "(IC)I"⟩ ∈ kw := kw_in (List.mem_append_right _ (tb3 _ (List.mem_of_getElem? (i := 89) (by decide +kernel)))) (by decide +kernel)
theorem kw_601 : Cond.code ⟨"GalleonWave", "pass", "(I)I"⟩ prog_1_method_8_code 3 (some .int) ∈ kw := kw_in (List.mem_append_right _ (tb3 _ (List.mem_of_getElem? (i := 184) (by decide +kernel)))) (by decide +kernel)
theorem kw_602 : Cond.methodLink "GalleonWaveLaw" 36 ⟨"GalleonWave", "pass", "(I)I"⟩ ∈ kw := kw_in (List.mem_append_right _ (tb3 _ (List.mem_of_getElem? (i := 181) (by decide +kernel)))) (by decide +kernel)
theorem kw_603 : Cond.instanceMethod ⟨"GalleonWave", "pass", "(I)I"⟩ ∈ kw := kw_in (List.mem_append_right _ (tb3 _ (List.mem_of_getElem? (i := 182) (by decide +kernel)))) (by decide +kernel)
theorem kw_604 : Cond.selects "GalleonWave" ⟨"GalleonWave", "pass", "(I)I"⟩ ⟨"GalleonWave", "pass", "(I)I"⟩ ∈ kw := kw_in (List.mem_append_right _ (tb3 _ (List.mem_of_getElem? (i := 183) (by decide +kernel)))) (by decide +kernel)
theorem kw_605 : Cond.code ⟨"GalleonWave", "addGenerator", "(III)I"⟩ prog_1_method_16_code 5 (some .int) ∈ kw := kw_in (List.mem_append_right _ (tb5 _ (List.mem_of_getElem? (i := 68) (by decide +kernel)))) (by decide +kernel)
theorem kw_606 : Cond.methodLink "GalleonWaveLaw" 52 ⟨"GalleonWave", "addGenerator", "(III)I"⟩ ∈ kw := kw_in (List.mem_append_right _ (tb5 _ (List.mem_of_getElem? (i := 65) (by decide +kernel)))) (by decide +kernel)
theorem kw_607 : Cond.instanceMethod ⟨"GalleonWave", "addGenerator", "(III)I"⟩ ∈ kw := kw_in (List.mem_append_right _ (tb5 _ (List.mem_of_getElem? (i := 66) (by decide +kernel)))) (by decide +kernel)
theorem kw_608 : Cond.selects "GalleonWave" ⟨"GalleonWave", "addGenerator", "(III)I"⟩ ⟨"GalleonWave", "addGenerator", "(III)I"⟩ ∈ kw := kw_in (List.mem_append_right _ (tb5 _ (List.mem_of_getElem? (i := 67) (by decide +kernel)))) (by decide +kernel)
theorem kw_609 : Cond.code ⟨"GalleonWave", "setGenerator", "(IIZ)I"⟩ prog_1_method_17_code 6 (some .int) ∈ kw := kw_in (List.mem_append_right _ (tb5 _ (List.mem_of_getElem? (i := 98) (by decide +kernel)))) (by decide +kernel)
theorem kw_610 : Cond.methodLink "GalleonWaveLaw" 55 ⟨"GalleonWave", "setGenerator", "(IIZ)I"⟩ ∈ kw := kw_in (List.mem_append_right _ (tb5 _ (List.mem_of_getElem? (i := 95) (by decide +kernel)))) (by decide +kernel)
theorem kw_611 : Cond.instanceMethod ⟨"GalleonWave", "setGenerator", "(IIZ)I"⟩ ∈ kw := kw_in (List.mem_append_right _ (tb5 _ (List.mem_of_getElem? (i := 96) (by decide +kernel)))) (by decide +kernel)
theorem kw_612 : Cond.selects "GalleonWave" ⟨"GalleonWave", "setGenerator", "(IIZ)I"⟩ ⟨"GalleonWave", "setGenerator", "(IIZ)I"⟩ ∈ kw := kw_in (List.mem_append_right _ (tb5 _ (List.mem_of_getElem? (i := 97) (by decide +kernel)))) (by decide +kernel)
theorem kw_613 : Cond.code ⟨"GalleonWave", "setPower", "(II)I"⟩ prog_1_method_22_code 5 (some .int) ∈ kw := kw_in (List.mem_append_right _ (tb5 _ (List.mem_of_getElem? (i := 134) (by decide +kernel)))) (by decide +kernel)
theorem kw_614 : Cond.methodLink "GalleonWaveLaw" 71 ⟨"GalleonWave", "setPower", "(II)I"⟩ ∈ kw := kw_in (List.mem_append_right _ (tb5 _ (List.mem_of_getElem? (i := 131) (by decide +kernel)))) (by decide +kernel)
theorem kw_615 : Cond.instanceMethod ⟨"GalleonWave", "setPower", "(II)I"⟩ ∈ kw := kw_in (List.mem_append_right _ (tb5 _ (List.mem_of_getElem? (i := 132) (by decide +kernel)))) (by decide +kernel)
theorem kw_616 : Cond.selects "GalleonWave" ⟨"GalleonWave", "setPower", "(II)I"⟩ ⟨"GalleonWave", "setPower", "(II)I"⟩ ∈ kw := kw_in (List.mem_append_right _ (tb5 _ (List.mem_of_getElem? (i := 133) (by decide +kernel)))) (by decide +kernel)
theorem kw_617 : Cond.code ⟨"GalleonWave", "addPerson", "(IC)I"⟩ prog_1_method_28_code 3 (some .int) ∈ kw := kw_in (List.mem_append_right _ (tb5 _ (List.mem_of_getElem? (i := 166) (by decide +kernel)))) (by decide +kernel)
theorem kw_618 : Cond.methodLink "GalleonWaveLaw" 83 ⟨"GalleonWave", "addPerson", "(IC)I"⟩ ∈ kw := kw_in (List.mem_append_right _ (tb5 _ (List.mem_of_getElem? (i := 163) (by decide +kernel)))) (by decide +kernel)
theorem kw_619 : Cond.instanceMethod ⟨"GalleonWave", "addPerson", "(IC)I"⟩ ∈ kw := kw_in (List.mem_append_right _ (tb5 _ (List.mem_of_getElem? (i := 164) (by decide +kernel)))) (by decide +kernel)
theorem kw_620 : Cond.selects "GalleonWave" ⟨"GalleonWave", "addPerson", "(IC)I"⟩ ⟨"GalleonWave", "addPerson", "(IC)I"⟩ ∈ kw := kw_in (List.mem_append_right _ (tb5 _ (List.mem_of_getElem? (i := 165) (by decide +kernel)))) (by decide +kernel)
theorem kw_621 : Cond.code ⟨"GalleonWave", "load", "(IIII)I"⟩ prog_1_method_31_code 6 (some .int) ∈ kw := kw_in (List.mem_append_right _ (tb5 _ (List.mem_of_getElem? (i := 211) (by decide +kernel)))) (by decide +kernel)
theorem kw_622 : Cond.methodLink "GalleonWaveLaw" 89 ⟨"GalleonWave", "load", "(IIII)I"⟩ ∈ kw := kw_in (List.mem_append_right _ (tb5 _ (List.mem_of_getElem? (i := 208) (by decide +kernel)))) (by decide +kernel)
theorem kw_623 : Cond.instanceMethod ⟨"GalleonWave", "load", "(IIII)I"⟩ ∈ kw := kw_in (List.mem_append_right _ (tb5 _ (List.mem_of_getElem? (i := 209) (by decide +kernel)))) (by decide +kernel)
theorem kw_624 : Cond.selects "GalleonWave" ⟨"GalleonWave", "load", "(IIII)I"⟩ ⟨"GalleonWave", "load", "(IIII)I"⟩ ∈ kw := kw_in (List.mem_append_right _ (tb5 _ (List.mem_of_getElem? (i := 210) (by decide +kernel)))) (by decide +kernel)
theorem kw_625 : Cond.code ⟨"GalleonWave", "book", "(IIZ)I"⟩ prog_1_method_32_code 5 (some .int) ∈ kw := kw_in (List.mem_append_right _ (tb5 _ (List.mem_of_getElem? (i := 222) (by decide +kernel)))) (by decide +kernel)
theorem kw_626 : Cond.methodLink "GalleonWaveLaw" 92 ⟨"GalleonWave", "book", "(IIZ)I"⟩ ∈ kw := kw_in (List.mem_append_right _ (tb5 _ (List.mem_of_getElem? (i := 219) (by decide +kernel)))) (by decide +kernel)
theorem kw_627 : Cond.instanceMethod ⟨"GalleonWave", "book", "(IIZ)I"⟩ ∈ kw := kw_in (List.mem_append_right _ (tb5 _ (List.mem_of_getElem? (i := 220) (by decide +kernel)))) (by decide +kernel)
theorem kw_628 : Cond.selects "GalleonWave" ⟨"GalleonWave", "book", "(IIZ)I"⟩ ⟨"GalleonWave", "book", "(IIZ)I"⟩ ∈ kw := kw_in (List.mem_append_right _ (tb5 _ (List.mem_of_getElem? (i := 221) (by decide +kernel)))) (by decide +kernel)
theorem kw_629 : Cond.code ⟨"GalleonWave", "send", "(IIZ)I"⟩ prog_1_method_33_code 6 (some .int) ∈ kw := kw_in (List.mem_append_right _ (tb5 _ (List.mem_of_getElem? (i := 234) (by decide +kernel)))) (by decide +kernel)
theorem kw_630 : Cond.methodLink "GalleonWaveLaw" 95 ⟨"GalleonWave", "send", "(IIZ)I"⟩ ∈ kw := kw_in (List.mem_append_right _ (tb5 _ (List.mem_of_getElem? (i := 231) (by decide +kernel)))) (by decide +kernel)
theorem kw_631 : Cond.instanceMethod ⟨"GalleonWave", "send", "(IIZ)I"⟩ ∈ kw := kw_in (List.mem_append_right _ (tb5 _ (List.mem_of_getElem? (i := 232) (by decide +kernel)))) (by decide +kernel)
theorem kw_632 : Cond.selects "GalleonWave" ⟨"GalleonWave", "send", "(IIZ)I"⟩ ⟨"GalleonWave", "send", "(IIZ)I"⟩ ∈ kw := kw_in (List.mem_append_right _ (tb5 _ (List.mem_of_getElem? (i := 233) (by decide +kernel)))) (by decide +kernel)
theorem kw_633 : Cond.code ⟨"GalleonWave", "getFuel", "(I)I"⟩ prog_1_method_18_code 2 (some .int) ∈ kw := kw_in (List.mem_append_right _ (tb5 _ (List.mem_of_getElem? (i := 105) (by decide +kernel)))) (by decide +kernel)
theorem kw_634 : Cond.methodLink "GalleonWaveLaw" 59 ⟨"GalleonWave", "getFuel", "(I)I"⟩ ∈ kw := kw_in (List.mem_append_right _ (tb5 _ (List.mem_of_getElem? (i := 102) (by decide +kernel)))) (by decide +kernel)
theorem kw_635 : Cond.instanceMethod ⟨"GalleonWave", "getFuel", "(I)I"⟩ ∈ kw := kw_in (List.mem_append_right _ (tb5 _ (List.mem_of_getElem? (i := 103) (by decide +kernel)))) (by decide +kernel)
theorem kw_636 : Cond.selects "GalleonWave" ⟨"GalleonWave", "getFuel", "(I)I"⟩ ⟨"GalleonWave", "getFuel", "(I)I"⟩ ∈ kw := kw_in (List.mem_append_right _ (tb5 _ (List.mem_of_getElem? (i := 104) (by decide +kernel)))) (by decide +kernel)
theorem kw_637 : Cond.code ⟨"GalleonWave", "getFood", "(I)I"⟩ prog_1_method_19_code 2 (some .int) ∈ kw := kw_in (List.mem_append_right _ (tb5 _ (List.mem_of_getElem? (i := 112) (by decide +kernel)))) (by decide +kernel)
theorem kw_638 : Cond.methodLink "GalleonWaveLaw" 62 ⟨"GalleonWave", "getFood", "(I)I"⟩ ∈ kw := kw_in (List.mem_append_right _ (tb5 _ (List.mem_of_getElem? (i := 109) (by decide +kernel)))) (by decide +kernel)
theorem kw_639 : Cond.instanceMethod ⟨"GalleonWave", "getFood", "(I)I"⟩ ∈ kw := kw_in (List.mem_append_right _ (tb5 _ (List.mem_of_getElem? (i := 110) (by decide +kernel)))) (by decide +kernel)
theorem kw_640 : Cond.selects "GalleonWave" ⟨"GalleonWave", "getFood", "(I)I"⟩ ⟨"GalleonWave", "getFood", "(I)I"⟩ ∈ kw := kw_in (List.mem_append_right _ (tb5 _ (List.mem_of_getElem? (i := 111) (by decide +kernel)))) (by decide +kernel)
theorem kw_641 : Cond.code ⟨"GalleonWave", "getAboard", "(I)I"⟩ prog_1_method_29_code 2 (some .int) ∈ kw := kw_in (List.mem_append_right _ (tb5 _ (List.mem_of_getElem? (i := 200) (by decide +kernel)))) (by decide +kernel)
theorem kw_642 : Cond.methodLink "GalleonWaveLaw" 86 ⟨"GalleonWave", "getAboard", "(I)I"⟩ ∈ kw := kw_in (List.mem_append_right _ (tb5 _ (List.mem_of_getElem? (i := 197) (by decide +kernel)))) (by decide +kernel)
theorem kw_643 : Cond.instanceMethod ⟨"GalleonWave", "getAboard", "(I)I"⟩ ∈ kw := kw_in (List.mem_append_right _ (tb5 _ (List.mem_of_getElem? (i := 198) (by decide +kernel)))) (by decide +kernel)
theorem kw_644 : Cond.selects "GalleonWave" ⟨"GalleonWave", "getAboard", "(I)I"⟩ ⟨"GalleonWave", "getAboard", "(I)I"⟩ ∈ kw := kw_in (List.mem_append_right _ (tb5 _ (List.mem_of_getElem? (i := 199) (by decide +kernel)))) (by decide +kernel)
theorem kw_645 : Cond.code ⟨"GalleonWave", "sell", "(II)I"⟩ prog_1_method_37_code 5 (some .int) ∈ kw := kw_in (List.mem_append_right _ (tb6 _ (List.mem_of_getElem? (i := 42) (by decide +kernel)))) (by decide +kernel)
theorem kw_646 : Cond.methodLink "GalleonWaveLaw" 103 ⟨"GalleonWave", "sell", "(II)I"⟩ ∈ kw := kw_in (List.mem_append_right _ (tb6 _ (List.mem_of_getElem? (i := 39) (by decide +kernel)))) (by decide +kernel)
theorem kw_647 : Cond.instanceMethod ⟨"GalleonWave", "sell", "(II)I"⟩ ∈ kw := kw_in (List.mem_append_right _ (tb6 _ (List.mem_of_getElem? (i := 40) (by decide +kernel)))) (by decide +kernel)
theorem kw_648 : Cond.selects "GalleonWave" ⟨"GalleonWave", "sell", "(II)I"⟩ ⟨"GalleonWave", "sell", "(II)I"⟩ ∈ kw := kw_in (List.mem_append_right _ (tb6 _ (List.mem_of_getElem? (i := 41) (by decide +kernel)))) (by decide +kernel)
theorem kw_649 : Cond.code ⟨"GalleonWave", "anchor", "(IC)I"⟩ prog_1_method_12_code 5 (some .int) ∈ kw := kw_in (List.mem_append_right _ (tb5 _ (List.mem_of_getElem? (i := 37) (by decide +kernel)))) (by decide +kernel)
theorem kw_650 : Cond.methodLink "GalleonWaveLaw" 47 ⟨"GalleonWave", "anchor", "(IC)I"⟩ ∈ kw := kw_in (List.mem_append_right _ (tb5 _ (List.mem_of_getElem? (i := 34) (by decide +kernel)))) (by decide +kernel)
theorem kw_651 : Cond.instanceMethod ⟨"GalleonWave", "anchor", "(IC)I"⟩ ∈ kw := kw_in (List.mem_append_right _ (tb5 _ (List.mem_of_getElem? (i := 35) (by decide +kernel)))) (by decide +kernel)
theorem kw_652 : Cond.selects "GalleonWave" ⟨"GalleonWave", "anchor", "(IC)I"⟩ ⟨"GalleonWave", "anchor", "(IC)I"⟩ ∈ kw := kw_in (List.mem_append_right _ (tb5 _ (List.mem_of_getElem? (i := 36) (by decide +kernel)))) (by decide +kernel)
theorem kw_653 : Cond.code ⟨"GalleonWave", "getHeard", "(I)I"⟩ prog_1_method_26_code 2 (some .int) ∈ kw := kw_in (List.mem_append_right _ (tb5 _ (List.mem_of_getElem? (i := 152) (by decide +kernel)))) (by decide +kernel)
theorem kw_654 : Cond.methodLink "GalleonWaveLaw" 77 ⟨"GalleonWave", "getHeard", "(I)I"⟩ ∈ kw := kw_in (List.mem_append_right _ (tb5 _ (List.mem_of_getElem? (i := 149) (by decide +kernel)))) (by decide +kernel)
theorem kw_655 : Cond.instanceMethod ⟨"GalleonWave", "getHeard", "(I)I"⟩ ∈ kw := kw_in (List.mem_append_right _ (tb5 _ (List.mem_of_getElem? (i := 150) (by decide +kernel)))) (by decide +kernel)
theorem kw_656 : Cond.selects "GalleonWave" ⟨"GalleonWave", "getHeard", "(I)I"⟩ ⟨"GalleonWave", "getHeard", "(I)I"⟩ ∈ kw := kw_in (List.mem_append_right _ (tb5 _ (List.mem_of_getElem? (i := 151) (by decide +kernel)))) (by decide +kernel)
theorem kw_657 : Cond.code ⟨"GalleonWave", "setTide", "(II)I"⟩ prog_1_method_6_code 4 (some .int) ∈ kw := kw_in (List.mem_append_right _ (tb3 _ (List.mem_of_getElem? (i := 98) (by decide +kernel)))) (by decide +kernel)
theorem kw_658 : Cond.methodLink "GalleonWaveLaw" 25 ⟨"GalleonWave", "setTide", "(II)I"⟩ ∈ kw := kw_in (List.mem_append_right _ (tb3 _ (List.mem_of_getElem? (i := 95) (by decide +kernel)))) (by decide +kernel)
theorem kw_659 : Cond.instanceMethod ⟨"GalleonWave", "setTide", "(II)I"⟩ ∈ kw := kw_in (List.mem_append_right _ (tb3 _ (List.mem_of_getElem? (i := 96) (by decide +kernel)))) (by decide +kernel)
theorem kw_660 : Cond.selects "GalleonWave" ⟨"GalleonWave", "setTide", "(II)I"⟩ ⟨"GalleonWave", "setTide", "(II)I"⟩ ∈ kw := kw_in (List.mem_append_right _ (tb3 _ (List.mem_of_getElem? (i := 97) (by decide +kernel)))) (by decide +kernel)
theorem ydX11_addGenerator : (yX11_addGenerator.cls ≠ "java/lang/invoke/MethodHandle" ∧ yX11_addGenerator.cls ≠ "java/lang/invoke/VarHandle") ∧ (parseMethodDescriptor yX11_addGenerator.desc).map (fun d => d.parameters.length) = some 3 := by decide +kernel
theorem ydX11_addLand : (yX11_addLand.cls ≠ "java/lang/invoke/MethodHandle" ∧ yX11_addLand.cls ≠ "java/lang/invoke/VarHandle") ∧ (parseMethodDescriptor yX11_addLand.desc).map (fun d => d.parameters.length) = some 3 := by decide +kernel
theorem ydX11_addPerson : (yX11_addPerson.cls ≠ "java/lang/invoke/MethodHandle" ∧ yX11_addPerson.cls ≠ "java/lang/invoke/VarHandle") ∧ (parseMethodDescriptor yX11_addPerson.desc).map (fun d => d.parameters.length) = some 2 := by decide +kernel
theorem ydX11_addShip : (yX11_addShip.cls ≠ "java/lang/invoke/MethodHandle" ∧ yX11_addShip.cls ≠ "java/lang/invoke/VarHandle") ∧ (parseMethodDescriptor yX11_addShip.desc).map (fun d => d.parameters.length) = some 2 := by decide +kernel
theorem ydX11_addTown : (yX11_addTown.cls ≠ "java/lang/invoke/MethodHandle" ∧ yX11_addTown.cls ≠ "java/lang/invoke/VarHandle") ∧ (parseMethodDescriptor yX11_addTown.desc).map (fun d => d.parameters.length) = some 4 := by decide +kernel
theorem ydX11_anchor : (yX11_anchor.cls ≠ "java/lang/invoke/MethodHandle" ∧ yX11_anchor.cls ≠ "java/lang/invoke/VarHandle") ∧ (parseMethodDescriptor yX11_anchor.desc).map (fun d => d.parameters.length) = some 2 := by decide +kernel
theorem ydX11_book : (yX11_book.cls ≠ "java/lang/invoke/MethodHandle" ∧ yX11_book.cls ≠ "java/lang/invoke/VarHandle") ∧ (parseMethodDescriptor yX11_book.desc).map (fun d => d.parameters.length) = some 3 := by decide +kernel
theorem ydX11_getAboard : (yX11_getAboard.cls ≠ "java/lang/invoke/MethodHandle" ∧ yX11_getAboard.cls ≠ "java/lang/invoke/VarHandle") ∧ (parseMethodDescriptor yX11_getAboard.desc).map (fun d => d.parameters.length) = some 1 := by decide +kernel
theorem ydX11_getFood : (yX11_getFood.cls ≠ "java/lang/invoke/MethodHandle" ∧ yX11_getFood.cls ≠ "java/lang/invoke/VarHandle") ∧ (parseMethodDescriptor yX11_getFood.desc).map (fun d => d.parameters.length) = some 1 := by decide +kernel
theorem ydX11_getFuel : (yX11_getFuel.cls ≠ "java/lang/invoke/MethodHandle" ∧ yX11_getFuel.cls ≠ "java/lang/invoke/VarHandle") ∧ (parseMethodDescriptor yX11_getFuel.desc).map (fun d => d.parameters.length) = some 1 := by decide +kernel
theorem ydX11_getHeard : (yX11_getHeard.cls ≠ "java/lang/invoke/MethodHandle" ∧ yX11_getHeard.cls ≠ "java/lang/invoke/VarHandle") ∧ (parseMethodDescriptor yX11_getHeard.desc).map (fun d => d.parameters.length) = some 1 := by decide +kernel
theorem ydX11_load : (yX11_load.cls ≠ "java/lang/invoke/MethodHandle" ∧ yX11_load.cls ≠ "java/lang/invoke/VarHandle") ∧ (parseMethodDescriptor yX11_load.desc).map (fun d => d.parameters.length) = some 4 := by decide +kernel
theorem ydX11_pass : (yX11_pass.cls ≠ "java/lang/invoke/MethodHandle" ∧ yX11_pass.cls ≠ "java/lang/invoke/VarHandle") ∧ (parseMethodDescriptor yX11_pass.desc).map (fun d => d.parameters.length) = some 1 := by decide +kernel
theorem ydX11_sell : (yX11_sell.cls ≠ "java/lang/invoke/MethodHandle" ∧ yX11_sell.cls ≠ "java/lang/invoke/VarHandle") ∧ (parseMethodDescriptor yX11_sell.desc).map (fun d => d.parameters.length) = some 2 := by decide +kernel
theorem ydX11_send : (yX11_send.cls ≠ "java/lang/invoke/MethodHandle" ∧ yX11_send.cls ≠ "java/lang/invoke/VarHandle") ∧ (parseMethodDescriptor yX11_send.desc).map (fun d => d.parameters.length) = some 3 := by decide +kernel
theorem ydX11_setGenerator : (yX11_setGenerator.cls ≠ "java/lang/invoke/MethodHandle" ∧ yX11_setGenerator.cls ≠ "java/lang/invoke/VarHandle") ∧ (parseMethodDescriptor yX11_setGenerator.desc).map (fun d => d.parameters.length) = some 3 := by decide +kernel
theorem ydX11_setPower : (yX11_setPower.cls ≠ "java/lang/invoke/MethodHandle" ∧ yX11_setPower.cls ≠ "java/lang/invoke/VarHandle") ∧ (parseMethodDescriptor yX11_setPower.desc).map (fun d => d.parameters.length) = some 2 := by decide +kernel
theorem ydX11_setTide : (yX11_setTide.cls ≠ "java/lang/invoke/MethodHandle" ∧ yX11_setTide.cls ≠ "java/lang/invoke/VarHandle") ∧ (parseMethodDescriptor yX11_setTide.desc).map (fun d => d.parameters.length) = some 2 := by decide +kernel
theorem ydX11_setWind : (yX11_setWind.cls ≠ "java/lang/invoke/MethodHandle" ∧ yX11_setWind.cls ≠ "java/lang/invoke/VarHandle") ∧ (parseMethodDescriptor yX11_setWind.desc).map (fun d => d.parameters.length) = some 2 := by decide +kernel
theorem dL_addLand_0 : decode cL_addLand 0 = .ok (.aload_n 0, 1) := by decide +kernel
theorem dL_addLand_1 : decode cL_addLand 1 = .ok (.iload_n 1, 1) := by decide +kernel
theorem dL_addLand_2 : decode cL_addLand 2 = .ok (.iload_n 2, 1) := by decide +kernel
theorem dL_addLand_3 : decode cL_addLand 3 = .ok (.iload_n 3, 1) := by decide +kernel
theorem dL_addLand_4 : decode cL_addLand 4 = .ok (.invokevirtual 9, 3) := by decide +kernel
theorem dL_addLand_7 : decode cL_addLand 7 = .ok (.ireturn, 1) := by decide +kernel
theorem dL_addLand_8 : decode cL_addLand 8 = .ok (.astore 4, 2) := by decide +kernel
theorem dL_addLand_10 : decode cL_addLand 10 = .ok (.ldc 17, 2) := by decide +kernel
theorem dL_addLand_12 : decode cL_addLand 12 = .ok (.ireturn, 1) := by decide +kernel
theorem dL_setWind_0 : decode cL_setWind 0 = .ok (.aload_n 0, 1) := by decide +kernel
theorem dL_setWind_1 : decode cL_setWind 1 = .ok (.iload_n 1, 1) := by decide +kernel
theorem dL_setWind_2 : decode cL_setWind 2 = .ok (.iload_n 2, 1) := by decide +kernel
theorem dL_setWind_3 : decode cL_setWind 3 = .ok (.invokevirtual 21, 3) := by decide +kernel
theorem dL_setWind_7 : decode cL_setWind 7 = .ok (.astore_n 3, 1) := by decide +kernel
theorem dL_setWind_8 : decode cL_setWind 8 = .ok (.ldc 17, 2) := by decide +kernel
theorem dL_setWind_10 : decode cL_setWind 10 = .ok (.ireturn, 1) := by decide +kernel
theorem dL_setTide_0 : decode cL_setTide 0 = .ok (.aload_n 0, 1) := by decide +kernel
theorem dL_setTide_1 : decode cL_setTide 1 = .ok (.iload_n 1, 1) := by decide +kernel
theorem dL_setTide_2 : decode cL_setTide 2 = .ok (.iload_n 2, 1) := by decide +kernel
theorem dL_setTide_3 : decode cL_setTide 3 = .ok (.invokevirtual 25, 3) := by decide +kernel
theorem dL_setTide_6 : decode cL_setTide 6 = .ok (.ireturn, 1) := by decide +kernel
theorem dL_addTown_0 : decode cL_addTown 0 = .ok (.aload_n 0, 1) := by decide +kernel
theorem dL_addTown_1 : decode cL_addTown 1 = .ok (.iload_n 1, 1) := by decide +kernel
theorem dL_addTown_2 : decode cL_addTown 2 = .ok (.iload_n 2, 1) := by decide +kernel
theorem dL_addTown_3 : decode cL_addTown 3 = .ok (.iload_n 3, 1) := by decide +kernel
theorem dL_addTown_4 : decode cL_addTown 4 = .ok (.iload 4, 2) := by decide +kernel
theorem dL_addTown_6 : decode cL_addTown 6 = .ok (.invokevirtual 29, 3) := by decide +kernel
theorem dL_addTown_9 : decode cL_addTown 9 = .ok (.ireturn, 1) := by decide +kernel
theorem dL_addTown_10 : decode cL_addTown 10 = .ok (.astore 5, 2) := by decide +kernel
theorem dL_addTown_12 : decode cL_addTown 12 = .ok (.ldc 17, 2) := by decide +kernel
theorem dL_addTown_14 : decode cL_addTown 14 = .ok (.ireturn, 1) := by decide +kernel
theorem dL_pass_0 : decode cL_pass 0 = .ok (.aload_n 0, 1) := by decide +kernel
theorem dL_pass_1 : decode cL_pass 1 = .ok (.iload_n 1, 1) := by decide +kernel
theorem dL_pass_2 : decode cL_pass 2 = .ok (.invokevirtual 36, 3) := by decide +kernel
theorem dL_pass_6 : decode cL_pass 6 = .ok (.astore_n 2, 1) := by decide +kernel
theorem dL_pass_7 : decode cL_pass 7 = .ok (.ldc 17, 2) := by decide +kernel
theorem dL_pass_9 : decode cL_pass 9 = .ok (.ireturn, 1) := by decide +kernel
theorem dL_addShip_0 : decode cL_addShip 0 = .ok (.aload_n 0, 1) := by decide +kernel
theorem dL_addShip_1 : decode cL_addShip 1 = .ok (.iload_n 1, 1) := by decide +kernel
theorem dL_addShip_2 : decode cL_addShip 2 = .ok (.iload_n 2, 1) := by decide +kernel
theorem dL_addShip_3 : decode cL_addShip 3 = .ok (.invokevirtual 40, 3) := by decide +kernel
theorem dL_addShip_6 : decode cL_addShip 6 = .ok (.ireturn, 1) := by decide +kernel
theorem dL_addShip_7 : decode cL_addShip 7 = .ok (.astore_n 3, 1) := by decide +kernel
theorem dL_addShip_8 : decode cL_addShip 8 = .ok (.ldc 17, 2) := by decide +kernel
theorem dL_addShip_10 : decode cL_addShip 10 = .ok (.ireturn, 1) := by decide +kernel
theorem dL_anchor_0 : decode cL_anchor 0 = .ok (.aload_n 0, 1) := by decide +kernel
theorem dL_anchor_1 : decode cL_anchor 1 = .ok (.iload_n 1, 1) := by decide +kernel
theorem dL_anchor_2 : decode cL_anchor 2 = .ok (.iload_n 2, 1) := by decide +kernel
theorem dL_anchor_3 : decode cL_anchor 3 = .ok (.invokevirtual 47, 3) := by decide +kernel
theorem dL_anchor_6 : decode cL_anchor 6 = .ok (.ireturn, 1) := by decide +kernel
theorem dL_addGenerator_0 : decode cL_addGenerator 0 = .ok (.aload_n 0, 1) := by decide +kernel
theorem dL_addGenerator_1 : decode cL_addGenerator 1 = .ok (.iload_n 1, 1) := by decide +kernel
theorem dL_addGenerator_2 : decode cL_addGenerator 2 = .ok (.iload_n 2, 1) := by decide +kernel
theorem dL_addGenerator_3 : decode cL_addGenerator 3 = .ok (.iload_n 3, 1) := by decide +kernel
theorem dL_addGenerator_4 : decode cL_addGenerator 4 = .ok (.invokevirtual 52, 3) := by decide +kernel
theorem dL_addGenerator_7 : decode cL_addGenerator 7 = .ok (.ireturn, 1) := by decide +kernel
theorem dL_setGenerator_0 : decode cL_setGenerator 0 = .ok (.aload_n 0, 1) := by decide +kernel
theorem dL_setGenerator_1 : decode cL_setGenerator 1 = .ok (.iload_n 1, 1) := by decide +kernel
theorem dL_setGenerator_2 : decode cL_setGenerator 2 = .ok (.iload_n 2, 1) := by decide +kernel
theorem dL_setGenerator_3 : decode cL_setGenerator 3 = .ok (.iload_n 3, 1) := by decide +kernel
theorem dL_setGenerator_4 : decode cL_setGenerator 4 = .ok (.invokevirtual 55, 3) := by decide +kernel
theorem dL_setGenerator_7 : decode cL_setGenerator 7 = .ok (.ireturn, 1) := by decide +kernel
theorem dL_getFuel_0 : decode cL_getFuel 0 = .ok (.aload_n 0, 1) := by decide +kernel
theorem dL_getFuel_1 : decode cL_getFuel 1 = .ok (.iload_n 1, 1) := by decide +kernel
theorem dL_getFuel_2 : decode cL_getFuel 2 = .ok (.invokevirtual 59, 3) := by decide +kernel
theorem dL_getFuel_5 : decode cL_getFuel 5 = .ok (.ireturn, 1) := by decide +kernel
theorem dL_getFood_0 : decode cL_getFood 0 = .ok (.aload_n 0, 1) := by decide +kernel
theorem dL_getFood_1 : decode cL_getFood 1 = .ok (.iload_n 1, 1) := by decide +kernel
theorem dL_getFood_2 : decode cL_getFood 2 = .ok (.invokevirtual 62, 3) := by decide +kernel
theorem dL_getFood_5 : decode cL_getFood 5 = .ok (.ireturn, 1) := by decide +kernel
theorem dL_setPower_0 : decode cL_setPower 0 = .ok (.aload_n 0, 1) := by decide +kernel
theorem dL_setPower_1 : decode cL_setPower 1 = .ok (.iload_n 1, 1) := by decide +kernel
theorem dL_setPower_2 : decode cL_setPower 2 = .ok (.iload_n 2, 1) := by decide +kernel
theorem dL_setPower_3 : decode cL_setPower 3 = .ok (.invokevirtual 71, 3) := by decide +kernel
theorem dL_setPower_6 : decode cL_setPower 6 = .ok (.ireturn, 1) := by decide +kernel
theorem dL_getHeard_0 : decode cL_getHeard 0 = .ok (.aload_n 0, 1) := by decide +kernel
theorem dL_getHeard_1 : decode cL_getHeard 1 = .ok (.iload_n 1, 1) := by decide +kernel
theorem dL_getHeard_2 : decode cL_getHeard 2 = .ok (.invokevirtual 77, 3) := by decide +kernel
theorem dL_getHeard_5 : decode cL_getHeard 5 = .ok (.ireturn, 1) := by decide +kernel
theorem dL_addPerson_0 : decode cL_addPerson 0 = .ok (.aload_n 0, 1) := by decide +kernel
theorem dL_addPerson_1 : decode cL_addPerson 1 = .ok (.iload_n 1, 1) := by decide +kernel
theorem dL_addPerson_2 : decode cL_addPerson 2 = .ok (.iload_n 2, 1) := by decide +kernel
theorem dL_addPerson_3 : decode cL_addPerson 3 = .ok (.invokevirtual 83, 3) := by decide +kernel
theorem dL_addPerson_6 : decode cL_addPerson 6 = .ok (.ireturn, 1) := by decide +kernel
theorem dL_getAboard_0 : decode cL_getAboard 0 = .ok (.aload_n 0, 1) := by decide +kernel
theorem dL_getAboard_1 : decode cL_getAboard 1 = .ok (.iload_n 1, 1) := by decide +kernel
theorem dL_getAboard_2 : decode cL_getAboard 2 = .ok (.invokevirtual 86, 3) := by decide +kernel
theorem dL_getAboard_5 : decode cL_getAboard 5 = .ok (.ireturn, 1) := by decide +kernel
theorem dL_load_0 : decode cL_load 0 = .ok (.aload_n 0, 1) := by decide +kernel
theorem dL_load_1 : decode cL_load 1 = .ok (.iload_n 1, 1) := by decide +kernel
theorem dL_load_2 : decode cL_load 2 = .ok (.iload_n 2, 1) := by decide +kernel
theorem dL_load_3 : decode cL_load 3 = .ok (.iload_n 3, 1) := by decide +kernel
theorem dL_load_4 : decode cL_load 4 = .ok (.iload 4, 2) := by decide +kernel
theorem dL_load_6 : decode cL_load 6 = .ok (.invokevirtual 89, 3) := by decide +kernel
theorem dL_load_9 : decode cL_load 9 = .ok (.ireturn, 1) := by decide +kernel
theorem dL_book_0 : decode cL_book 0 = .ok (.aload_n 0, 1) := by decide +kernel
theorem dL_book_1 : decode cL_book 1 = .ok (.iload_n 1, 1) := by decide +kernel
theorem dL_book_2 : decode cL_book 2 = .ok (.iload_n 2, 1) := by decide +kernel
theorem dL_book_3 : decode cL_book 3 = .ok (.iload_n 3, 1) := by decide +kernel
theorem dL_book_4 : decode cL_book 4 = .ok (.invokevirtual 92, 3) := by decide +kernel
theorem dL_book_7 : decode cL_book 7 = .ok (.ireturn, 1) := by decide +kernel
theorem dL_send_0 : decode cL_send 0 = .ok (.aload_n 0, 1) := by decide +kernel
theorem dL_send_1 : decode cL_send 1 = .ok (.iload_n 1, 1) := by decide +kernel
theorem dL_send_2 : decode cL_send 2 = .ok (.iload_n 2, 1) := by decide +kernel
theorem dL_send_3 : decode cL_send 3 = .ok (.iload_n 3, 1) := by decide +kernel
theorem dL_send_4 : decode cL_send 4 = .ok (.invokevirtual 95, 3) := by decide +kernel
theorem dL_send_7 : decode cL_send 7 = .ok (.ireturn, 1) := by decide +kernel
theorem dL_sell_0 : decode cL_sell 0 = .ok (.aload_n 0, 1) := by decide +kernel
theorem dL_sell_1 : decode cL_sell 1 = .ok (.iload_n 1, 1) := by decide +kernel
theorem dL_sell_2 : decode cL_sell 2 = .ok (.iload_n 2, 1) := by decide +kernel
theorem dL_sell_3 : decode cL_sell 3 = .ok (.invokevirtual 103, 3) := by decide +kernel
theorem dL_sell_6 : decode cL_sell 6 = .ok (.ireturn, 1) := by decide +kernel
