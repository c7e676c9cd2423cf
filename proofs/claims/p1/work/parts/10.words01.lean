theorem kw_878 : Cond.codeWith ⟨"GalleonWaveLaw", "getEarned", "(LGalleonWave;I[J)I"⟩ method_40_code 4 (some .int) [(0, 9, 12, 21)] ∈ kw := kw_in (List.mem_append_right _ (tb6 _ (List.mem_of_getElem? (i := 164) (by decide +kernel)))) (by decide +kernel)
theorem kw_879 : Cond.methodLink "GalleonWaveLaw" 301 ⟨"GalleonWaveLaw", "getEarned", "(LGalleonWave;I[J)I"⟩ ∈ kw := kw_in (List.mem_append_right _ (tb6 _ (List.mem_of_getElem? (i := 162) (by decide +kernel)))) (by decide +kernel)
theorem kw_880 : Cond.static ⟨"GalleonWaveLaw", "getEarned", "(LGalleonWave;I[J)I"⟩ ∈ kw := kw_in (List.mem_append_right _ (tb6 _ (List.mem_of_getElem? (i := 163) (by decide +kernel)))) (by decide +kernel)
theorem kw_881 : Cond.code ⟨"GalleonWaveModel", "getEarned", "(I)I"⟩ prog_14_method_70_code 2 (some .int) ∈ kw := kw_in (List.mem_append_right _ (tb9 _ (List.mem_of_getElem? (i := 158) (by decide +kernel)))) (by decide +kernel)
theorem kw_882 : Cond.methodLink "GalleonWaveLaw" 303 ⟨"GalleonWaveModel", "getEarned", "(I)I"⟩ ∈ kw := kw_in (List.mem_append_right _ (tb9 _ (List.mem_of_getElem? (i := 155) (by decide +kernel)))) (by decide +kernel)
theorem kw_883 : Cond.instanceMethod ⟨"GalleonWaveModel", "getEarned", "(I)I"⟩ ∈ kw := kw_in (List.mem_append_right _ (tb9 _ (List.mem_of_getElem? (i := 156) (by decide +kernel)))) (by decide +kernel)
theorem kw_884 : Cond.selects "GalleonWaveModel" ⟨"GalleonWaveModel", "getEarned", "(I)I"⟩ ⟨"GalleonWaveModel", "getEarned", "(I)I"⟩ ∈ kw := kw_in (List.mem_append_right _ (tb9 _ (List.mem_of_getElem? (i := 157) (by decide +kernel)))) (by decide +kernel)
theorem kw_885 : Cond.code ⟨"GalleonWave", "getMoney", "()I"⟩ prog_1_method_40_code 1 (some .int) ∈ kw := kw_in (List.mem_append_right _ (tb1 _ (List.mem_of_getElem? (i := 184) (by decide +kernel)))) (by decide +kernel)
theorem kw_886 : Cond.methodLink "GalleonWaveLaw" 304 ⟨"GalleonWave", "getMoney", "()I"⟩ ∈ kw := kw_in (List.mem_append_right _ (tb1 _ (List.mem_of_getElem? (i := 181) (by decide +kernel)))) (by decide +kernel)
theorem kw_887 : Cond.instanceMethod ⟨"GalleonWave", "getMoney", "()I"⟩ ∈ kw := kw_in (List.mem_append_right _ (tb1 _ (List.mem_of_getElem? (i := 182) (by decide +kernel)))) (by decide +kernel)
theorem kw_888 : Cond.selects "GalleonWave" ⟨"GalleonWave", "getMoney", "()I"⟩ ⟨"GalleonWave", "getMoney", "()I"⟩ ∈ kw := kw_in (List.mem_append_right _ (tb1 _ (List.mem_of_getElem? (i := 183) (by decide +kernel)))) (by decide +kernel)
theorem kw_889 : Cond.code ⟨"GalleonWaveModel", "getMoney", "()I"⟩ prog_14_method_71_code 1 (some .int) ∈ kw := kw_in (List.mem_append_right _ (tb9 _ (List.mem_of_getElem? (i := 162) (by decide +kernel)))) (by decide +kernel)
theorem kw_890 : Cond.methodLink "GalleonWaveLaw" 307 ⟨"GalleonWaveModel", "getMoney", "()I"⟩ ∈ kw := kw_in (List.mem_append_right _ (tb9 _ (List.mem_of_getElem? (i := 159) (by decide +kernel)))) (by decide +kernel)
theorem kw_891 : Cond.instanceMethod ⟨"GalleonWaveModel", "getMoney", "()I"⟩ ∈ kw := kw_in (List.mem_append_right _ (tb9 _ (List.mem_of_getElem? (i := 160) (by decide +kernel)))) (by decide +kernel)
theorem kw_892 : Cond.selects "GalleonWaveModel" ⟨"GalleonWaveModel", "getMoney", "()I"⟩ ⟨"GalleonWaveModel", "getMoney", "()I"⟩ ∈ kw := kw_in (List.mem_append_right _ (tb9 _ (List.mem_of_getElem? (i := 161) (by decide +kernel)))) (by decide +kernel)
theorem kw_893 : Cond.codeWith ⟨"GalleonWaveLaw", "getEvidence", "(LGalleonWave;I[J)I"⟩ method_41_code 4 (some .int) [(0, 9, 12, 21)] ∈ kw := kw_in (List.mem_append_right _ (tb6 _ (List.mem_of_getElem? (i := 171) (by decide +kernel)))) (by decide +kernel)
theorem kw_894 : Cond.methodLink "GalleonWaveLaw" 308 ⟨"GalleonWaveLaw", "getEvidence", "(LGalleonWave;I[J)I"⟩ ∈ kw := kw_in (List.mem_append_right _ (tb6 _ (List.mem_of_getElem? (i := 169) (by decide +kernel)))) (by decide +kernel)
theorem kw_895 : Cond.static ⟨"GalleonWaveLaw", "getEvidence", "(LGalleonWave;I[J)I"⟩ ∈ kw := kw_in (List.mem_append_right _ (tb6 _ (List.mem_of_getElem? (i := 170) (by decide +kernel)))) (by decide +kernel)
theorem kw_896 : Cond.code ⟨"GalleonWaveModel", "getEvidence", "(I)I"⟩ prog_14_method_72_code 2 (some .int) ∈ kw := kw_in (List.mem_append_right _ (tb9 _ (List.mem_of_getElem? (i := 166) (by decide +kernel)))) (by decide +kernel)
theorem kw_897 : Cond.methodLink "GalleonWaveLaw" 310 ⟨"GalleonWaveModel", "getEvidence", "(I)I"⟩ ∈ kw := kw_in (List.mem_append_right _ (tb9 _ (List.mem_of_getElem? (i := 163) (by decide +kernel)))) (by decide +kernel)
theorem kw_898 : Cond.instanceMethod ⟨"GalleonWaveModel", "getEvidence", "(I)I"⟩ ∈ kw := kw_in (List.mem_append_right _ (tb9 _ (List.mem_of_getElem? (i := 164) (by decide +kernel)))) (by decide +kernel)
theorem kw_899 : Cond.selects "GalleonWaveModel" ⟨"GalleonWaveModel", "getEvidence", "(I)I"⟩ ⟨"GalleonWaveModel", "getEvidence", "(I)I"⟩ ∈ kw := kw_in (List.mem_append_right _ (tb9 _ (List.mem_of_getElem? (i := 165) (by decide +kernel)))) (by decide +kernel)
theorem kw_900 : Cond.codeWith ⟨"GalleonWaveLaw", "raid", "(LGalleonWave;II[J)I"⟩ method_42_code 5 (some .int) [(0, 10, 13, 21), (0, 10, 17, 54)] ∈ kw := kw_in (List.mem_append_right _ (tb6 _ (List.mem_of_getElem? (i := 178) (by decide +kernel)))) (by decide +kernel)
theorem kw_901 : Cond.methodLink "GalleonWaveLaw" 311 ⟨"GalleonWaveLaw", "raid", "(LGalleonWave;II[J)I"⟩ ∈ kw := kw_in (List.mem_append_right _ (tb6 _ (List.mem_of_getElem? (i := 176) (by decide +kernel)))) (by decide +kernel)
theorem kw_902 : Cond.static ⟨"GalleonWaveLaw", "raid", "(LGalleonWave;II[J)I"⟩ ∈ kw := kw_in (List.mem_append_right _ (tb6 _ (List.mem_of_getElem? (i := 177) (by decide +kernel)))) (by decide +kernel)
theorem kw_903 : Cond.code ⟨"GalleonWaveModel", "raid", "(II)I"⟩ prog_14_method_73_code 4 (some .int) ∈ kw := kw_in (List.mem_append_right _ (tb9 _ (List.mem_of_getElem? (i := 170) (by decide +kernel)))) (by decide +kernel)
theorem kw_904 : Cond.methodLink "GalleonWaveLaw" 313 ⟨"GalleonWaveModel", "raid", "(II)I"⟩ ∈ kw := kw_in (List.mem_append_right _ (tb9 _ (List.mem_of_getElem? (i := 167) (by decide +kernel)))) (by decide +kernel)
theorem kw_905 : Cond.instanceMethod ⟨"GalleonWaveModel", "raid", "(II)I"⟩ ∈ kw := kw_in (List.mem_append_right _ (tb9 _ (List.mem_of_getElem? (i := 168) (by decide +kernel)))) (by decide +kernel)
theorem kw_906 : Cond.selects "GalleonWaveModel" ⟨"GalleonWaveModel", "raid", "(II)I"⟩ ⟨"GalleonWaveModel", "raid", "(II)I"⟩ ∈ kw := kw_in (List.mem_append_right _ (tb9 _ (List.mem_of_getElem? (i := 169) (by decide +kernel)))) (by decide +kernel)
theorem kw_907 : Cond.codeWith ⟨"GalleonWaveLaw", "board", "(LGalleonWave;II[J)I"⟩ method_43_code 5 (some .int) [(0, 17, 20, 21), (0, 17, 24, 13), (0, 17, 28, 54)] ∈ kw := kw_in (List.mem_append_right _ (tb6 _ (List.mem_of_getElem? (i := 186) (by decide +kernel)))) (by decide +kernel)
theorem kw_908 : Cond.methodLink "GalleonWaveLaw" 314 ⟨"GalleonWaveLaw", "board", "(LGalleonWave;II[J)I"⟩ ∈ kw := kw_in (List.mem_append_right _ (tb6 _ (List.mem_of_getElem? (i := 184) (by decide +kernel)))) (by decide +kernel)
theorem kw_909 : Cond.static ⟨"GalleonWaveLaw", "board", "(LGalleonWave;II[J)I"⟩ ∈ kw := kw_in (List.mem_append_right _ (tb6 _ (List.mem_of_getElem? (i := 185) (by decide +kernel)))) (by decide +kernel)
theorem kw_910 : Cond.code ⟨"GalleonWaveModel", "board", "(II)Z"⟩ prog_14_method_74_code 4 (some .boolean) ∈ kw := kw_in (List.mem_append_right _ (tb9 _ (List.mem_of_getElem? (i := 174) (by decide +kernel)))) (by decide +kernel)
theorem kw_911 : Cond.methodLink "GalleonWaveLaw" 316 ⟨"GalleonWaveModel", "board", "(II)Z"⟩ ∈ kw := kw_in (List.mem_append_right _ (tb9 _ (List.mem_of_getElem? (i := 171) (by decide +kernel)))) (by decide +kernel)
theorem kw_912 : Cond.instanceMethod ⟨"GalleonWaveModel", "board", "(II)Z"⟩ ∈ kw := kw_in (List.mem_append_right _ (tb9 _ (List.mem_of_getElem? (i := 172) (by decide +kernel)))) (by decide +kernel)
theorem kw_913 : Cond.selects "GalleonWaveModel" ⟨"GalleonWaveModel", "board", "(II)Z"⟩ ⟨"GalleonWaveModel", "board", "(II)Z"⟩ ∈ kw := kw_in (List.mem_append_right _ (tb9 _ (List.mem_of_getElem? (i := 173) (by decide +kernel)))) (by decide +kernel)
theorem kw_914 : Cond.code ⟨"GalleonWave", "getKept", "()I"⟩ prog_1_method_44_code 1 (some .int) ∈ kw := kw_in (List.mem_append_right _ (tb1 _ (List.mem_of_getElem? (i := 188) (by decide +kernel)))) (by decide +kernel)
theorem kw_915 : Cond.methodLink "GalleonWaveLaw" 317 ⟨"GalleonWave", "getKept", "()I"⟩ ∈ kw := kw_in (List.mem_append_right _ (tb1 _ (List.mem_of_getElem? (i := 185) (by decide +kernel)))) (by decide +kernel)
theorem kw_916 : Cond.instanceMethod ⟨"GalleonWave", "getKept", "()I"⟩ ∈ kw := kw_in (List.mem_append_right _ (tb1 _ (List.mem_of_getElem? (i := 186) (by decide +kernel)))) (by decide +kernel)
theorem kw_917 : Cond.selects "GalleonWave" ⟨"GalleonWave", "getKept", "()I"⟩ ⟨"GalleonWave", "getKept", "()I"⟩ ∈ kw := kw_in (List.mem_append_right _ (tb1 _ (List.mem_of_getElem? (i := 187) (by decide +kernel)))) (by decide +kernel)
theorem kw_918 : Cond.code ⟨"GalleonWaveModel", "getKept", "()I"⟩ prog_14_method_75_code 1 (some .int) ∈ kw := kw_in (List.mem_append_right _ (tb9 _ (List.mem_of_getElem? (i := 178) (by decide +kernel)))) (by decide +kernel)
theorem kw_919 : Cond.methodLink "GalleonWaveLaw" 320 ⟨"GalleonWaveModel", "getKept", "()I"⟩ ∈ kw := kw_in (List.mem_append_right _ (tb9 _ (List.mem_of_getElem? (i := 175) (by decide +kernel)))) (by decide +kernel)
theorem kw_920 : Cond.instanceMethod ⟨"GalleonWaveModel", "getKept", "()I"⟩ ∈ kw := kw_in (List.mem_append_right _ (tb9 _ (List.mem_of_getElem? (i := 176) (by decide +kernel)))) (by decide +kernel)
theorem kw_921 : Cond.selects "GalleonWaveModel" ⟨"GalleonWaveModel", "getKept", "()I"⟩ ⟨"GalleonWaveModel", "getKept", "()I"⟩ ∈ kw := kw_in (List.mem_append_right _ (tb9 _ (List.mem_of_getElem? (i := 177) (by decide +kernel)))) (by decide +kernel)
theorem kw_922 : Cond.codeWith ⟨"GalleonWaveLaw", "addRecording", "(LGalleonWave;III[J)I"⟩ method_44_code 6 (some .int) [(0, 12, 15, 13), (0, 12, 19, 15)] ∈ kw := kw_in (List.mem_append_right _ (tb6 _ (List.mem_of_getElem? (i := 195) (by decide +kernel)))) (by decide +kernel)
theorem kw_923 : Cond.methodLink "GalleonWaveLaw" 321 ⟨"GalleonWaveLaw", "addRecording", "(LGalleonWave;III[J)I"⟩ ∈ kw := kw_in (List.mem_append_right _ (tb6 _ (List.mem_of_getElem? (i := 193) (by decide +kernel)))) (by decide +kernel)
theorem kw_924 : Cond.static ⟨"GalleonWaveLaw", "addRecording", "(LGalleonWave;III[J)I"⟩ ∈ kw := kw_in (List.mem_append_right _ (tb6 _ (List.mem_of_getElem? (i := 194) (by decide +kernel)))) (by decide +kernel)
theorem kw_925 : Cond.code ⟨"GalleonWaveModel", "addRecording", "(III)I"⟩ prog_14_method_76_code 5 (some .int) ∈ kw := kw_in (List.mem_append_right _ (tb9 _ (List.mem_of_getElem? (i := 182) (by decide +kernel)))) (by decide +kernel)
theorem kw_926 : Cond.methodLink "GalleonWaveLaw" 323 ⟨"GalleonWaveModel", "addRecording", "(III)I"⟩ ∈ kw := kw_in (List.mem_append_right _ (tb9 _ (List.mem_of_getElem? (i := 179) (by decide +kernel)))) (by decide +kernel)
theorem kw_927 : Cond.instanceMethod ⟨"GalleonWaveModel", "addRecording", "(III)I"⟩ ∈ kw := kw_in (List.mem_append_right _ (tb9 _ (List.mem_of_getElem? (i := 180) (by decide +kernel)))) (by decide +kernel)
theorem kw_928 : Cond.selects "GalleonWaveModel" ⟨"GalleonWaveModel", "addRecording", "(III)I"⟩ ⟨"GalleonWaveModel", "addRecording", "(III)I"⟩ ∈ kw := kw_in (List.mem_append_right _ (tb9 _ (List.mem_of_getElem? (i := 181) (by decide +kernel)))) (by decide +kernel)
theorem kw_929 : Cond.codeWith ⟨"GalleonWaveLaw", "addAhead", "(LGalleonWave;II[J)I"⟩ method_45_code 5 (some .int) [(0, 10, 13, 21), (0, 10, 17, 13), (0, 10, 21, 54)] ∈ kw := kw_in (List.mem_append_right _ (tb6 _ (List.mem_of_getElem? (i := 225) (by decide +kernel)))) (by decide +kernel)
theorem kw_930 : Cond.methodLink "GalleonWaveLaw" 324 ⟨"GalleonWaveLaw", "addAhead", "(LGalleonWave;II[J)I"⟩ ∈ kw := kw_in (List.mem_append_right _ (tb6 _ (List.mem_of_getElem? (i := 223) (by decide +kernel)))) (by decide +kernel)
theorem kw_931 : Cond.static ⟨"GalleonWaveLaw", "addAhead", "(LGalleonWave;II[J)I"⟩ ∈ kw := kw_in (List.mem_append_right _ (tb6 _ (List.mem_of_getElem? (i := 224) (by decide +kernel)))) (by decide +kernel)
theorem kw_932 : Cond.code ⟨"GalleonWaveModel", "addAhead", "(II)I"⟩ prog_14_method_79_code 12 (some .int) ∈ kw := kw_in (List.mem_append_right _ (tb9 _ (List.mem_of_getElem? (i := 186) (by decide +kernel)))) (by decide +kernel)
theorem kw_933 : Cond.methodLink "GalleonWaveLaw" 326 ⟨"GalleonWaveModel", "addAhead", "(II)I"⟩ ∈ kw := kw_in (List.mem_append_right _ (tb9 _ (List.mem_of_getElem? (i := 183) (by decide +kernel)))) (by decide +kernel)
theorem kw_934 : Cond.instanceMethod ⟨"GalleonWaveModel", "addAhead", "(II)I"⟩ ∈ kw := kw_in (List.mem_append_right _ (tb9 _ (List.mem_of_getElem? (i := 184) (by decide +kernel)))) (by decide +kernel)
theorem kw_935 : Cond.selects "GalleonWaveModel" ⟨"GalleonWaveModel", "addAhead", "(II)I"⟩ ⟨"GalleonWaveModel", "addAhead", "(II)I"⟩ ∈ kw := kw_in (List.mem_append_right _ (tb9 _ (List.mem_of_getElem? (i := 185) (by decide +kernel)))) (by decide +kernel)
theorem kw_936 : Cond.codeWith ⟨"GalleonWaveLaw", "getChoices", "(LGalleonWave;I[J)I"⟩ method_46_code 4 (some .int) [(0, 9, 12, 21)] ∈ kw := kw_in (List.mem_append_right _ (tb7 _ (List.mem_of_getElem? (i := 10) (by decide +kernel)))) (by decide +kernel)
theorem kw_937 : Cond.methodLink "GalleonWaveLaw" 327 ⟨"GalleonWaveLaw", "getChoices", "(LGalleonWave;I[J)I"⟩ ∈ kw := kw_in (List.mem_append_right _ (tb7 _ (List.mem_of_getElem? (i := 8) (by decide +kernel)))) (by decide +kernel)
theorem kw_938 : Cond.static ⟨"GalleonWaveLaw", "getChoices", "(LGalleonWave;I[J)I"⟩ ∈ kw := kw_in (List.mem_append_right _ (tb7 _ (List.mem_of_getElem? (i := 9) (by decide +kernel)))) (by decide +kernel)
theorem kw_939 : Cond.code ⟨"GalleonWaveModel", "getChoices", "(I)I"⟩ prog_14_method_81_code 4 (some .int) ∈ kw := kw_in (List.mem_append_right _ (tb9 _ (List.mem_of_getElem? (i := 198) (by decide +kernel)))) (by decide +kernel)
theorem kw_940 : Cond.methodLink "GalleonWaveLaw" 329 ⟨"GalleonWaveModel", "getChoices", "(I)I"⟩ ∈ kw := kw_in (List.mem_append_right _ (tb9 _ (List.mem_of_getElem? (i := 195) (by decide +kernel)))) (by decide +kernel)
theorem kw_941 : Cond.instanceMethod ⟨"GalleonWaveModel", "getChoices", "(I)I"⟩ ∈ kw := kw_in (List.mem_append_right _ (tb9 _ (List.mem_of_getElem? (i := 196) (by decide +kernel)))) (by decide +kernel)
theorem kw_942 : Cond.selects "GalleonWaveModel" ⟨"GalleonWaveModel", "getChoices", "(I)I"⟩ ⟨"GalleonWaveModel", "getChoices", "(I)I"⟩ ∈ kw := kw_in (List.mem_append_right _ (tb9 _ (List.mem_of_getElem? (i := 197) (by decide +kernel)))) (by decide +kernel)
theorem kw_943 : Cond.codeWith ⟨"GalleonWaveLaw", "getDate", "(LGalleonWave;IZ[J)I"⟩ method_47_code 5 (some .int) [(0, 10, 13, 21), (0, 10, 17, 127)] ∈ kw := kw_in (List.mem_append_right _ (tb7 _ (List.mem_of_getElem? (i := 22) (by decide +kernel)))) (by decide +kernel)
theorem kw_944 : Cond.methodLink "GalleonWaveLaw" 330 ⟨"GalleonWaveLaw", "getDate", "(LGalleonWave;IZ[J)I"⟩ ∈ kw := kw_in (List.mem_append_right _ (tb7 _ (List.mem_of_getElem? (i := 20) (by decide +kernel)))) (by decide +kernel)
theorem kw_945 : Cond.static ⟨"GalleonWaveLaw", "getDate", "(LGalleonWave;IZ[J)I"⟩ ∈ kw := kw_in (List.mem_append_right _ (tb7 _ (List.mem_of_getElem? (i := 21) (by decide +kernel)))) (by decide +kernel)
theorem kw_946 : Cond.code ⟨"GalleonWaveModel", "getDate", "(IZ)I"⟩ prog_14_method_86_code 4 (some .int) ∈ kw := kw_in (List.mem_append_right _ (tb9 _ (List.mem_of_getElem? (i := 207) (by decide +kernel)))) (by decide +kernel)
theorem kw_947 : Cond.methodLink "GalleonWaveLaw" 332 ⟨"GalleonWaveModel", "getDate", "(IZ)I"⟩ ∈ kw := kw_in (List.mem_append_right _ (tb9 _ (List.mem_of_getElem? (i := 204) (by decide +kernel)))) (by decide +kernel)
theorem kw_948 : Cond.instanceMethod ⟨"GalleonWaveModel", "getDate", "(IZ)I"⟩ ∈ kw := kw_in (List.mem_append_right _ (tb9 _ (List.mem_of_getElem? (i := 205) (by decide +kernel)))) (by decide +kernel)
theorem kw_949 : Cond.selects "GalleonWaveModel" ⟨"GalleonWaveModel", "getDate", "(IZ)I"⟩ ⟨"GalleonWaveModel", "getDate", "(IZ)I"⟩ ∈ kw := kw_in (List.mem_append_right _ (tb9 _ (List.mem_of_getElem? (i := 206) (by decide +kernel)))) (by decide +kernel)
theorem kw_950 : Cond.codeWith ⟨"GalleonWaveLaw", "getNightShare", "(LGalleonWave;[D)I"⟩ method_48_code 3 (some .int) [(0, 8, 11, 167)] ∈ kw := kw_in (List.mem_append_right _ (tb7 _ (List.mem_of_getElem? (i := 31) (by decide +kernel)))) (by decide +kernel)
theorem kw_951 : Cond.methodLink "GalleonWaveLaw" 333 ⟨"GalleonWaveLaw", "getNightShare", "(LGalleonWave;[D)I"⟩ ∈ kw := kw_in (List.mem_append_right _ (tb7 _ (List.mem_of_getElem? (i := 29) (by decide +kernel)))) (by decide +kernel)
theorem kw_952 : Cond.static ⟨"GalleonWaveLaw", "getNightShare", "(LGalleonWave;[D)I"⟩ ∈ kw := kw_in (List.mem_append_right _ (tb7 _ (List.mem_of_getElem? (i := 30) (by decide +kernel)))) (by decide +kernel)
theorem kw_953 : Cond.code ⟨"GalleonWaveModel", "getNightShare", "()F"⟩ prog_14_method_87_code 4 (some .float) ∈ kw := kw_in (List.mem_append_right _ (tb9 _ (List.mem_of_getElem? (i := 227) (by decide +kernel)))) (by decide +kernel)
theorem kw_954 : Cond.methodLink "GalleonWaveLaw" 336 ⟨"GalleonWaveModel", "getNightShare", "()F"⟩ ∈ kw := kw_in (List.mem_append_right _ (tb9 _ (List.mem_of_getElem? (i := 224) (by decide +kernel)))) (by decide +kernel)
theorem kw_955 : Cond.instanceMethod ⟨"GalleonWaveModel", "getNightShare", "()F"⟩ ∈ kw := kw_in (List.mem_append_right _ (tb9 _ (List.mem_of_getElem? (i := 225) (by decide +kernel)))) (by decide +kernel)
theorem kw_956 : Cond.selects "GalleonWaveModel" ⟨"GalleonWaveModel", "getNightShare", "()F"⟩ ⟨"GalleonWaveModel", "getNightShare", "()F"⟩ ∈ kw := kw_in (List.mem_append_right _ (tb9 _ (List.mem_of_getElem? (i := 226) (by decide +kernel)))) (by decide +kernel)
theorem kw_957 : Cond.codeWith ⟨"GalleonWaveLaw", "getMeanCrew", "(LGalleonWave;[D)I"⟩ method_49_code 3 (some .int) [(0, 7, 10, 167)] ∈ kw := kw_in (List.mem_append_right _ (tb7 _ (List.mem_of_getElem? (i := 60) (by decide +kernel)))) (by decide +kernel)
theorem kw_958 : Cond.methodLink "GalleonWaveLaw" 337 ⟨"GalleonWaveLaw", "getMeanCrew", "(LGalleonWave;[D)I"⟩ ∈ kw := kw_in (List.mem_append_right _ (tb7 _ (List.mem_of_getElem? (i := 58) (by decide +kernel)))) (by decide +kernel)
theorem kw_959 : Cond.static ⟨"GalleonWaveLaw", "getMeanCrew", "(LGalleonWave;[D)I"⟩ ∈ kw := kw_in (List.mem_append_right _ (tb7 _ (List.mem_of_getElem? (i := 59) (by decide +kernel)))) (by decide +kernel)
theorem kw_960 : Cond.code ⟨"GalleonWaveModel", "getMeanCrew", "()D"⟩ prog_14_method_88_code 3 (some .double) ∈ kw := kw_in (List.mem_append_right _ (tb10 _ (List.mem_of_getElem? (i := 52) (by decide +kernel)))) (by decide +kernel)
theorem kw_961 : Cond.methodLink "GalleonWaveLaw" 339 ⟨"GalleonWaveModel", "getMeanCrew", "()D"⟩ ∈ kw := kw_in (List.mem_append_right _ (tb10 _ (List.mem_of_getElem? (i := 49) (by decide +kernel)))) (by decide +kernel)
theorem kw_962 : Cond.instanceMethod ⟨"GalleonWaveModel", "getMeanCrew", "()D"⟩ ∈ kw := kw_in (List.mem_append_right _ (tb10 _ (List.mem_of_getElem? (i := 50) (by decide +kernel)))) (by decide +kernel)
theorem kw_963 : Cond.selects "GalleonWaveModel" ⟨"GalleonWaveModel", "getMeanCrew", "()D"⟩ ⟨"GalleonWaveModel", "getMeanCrew", "()D"⟩ ∈ kw := kw_in (List.mem_append_right _ (tb10 _ (List.mem_of_getElem? (i := 51) (by decide +kernel)))) (by decide +kernel)
theorem kw_964 : Cond.code ⟨"GalleonWave", "checksum", "()J"⟩ prog_1_method_51_code 5 (some .long) ∈ kw := kw_in (List.mem_append_right _ (tb1 _ (List.mem_of_getElem? (i := 192) (by decide +kernel)))) (by decide +kernel)
theorem kw_965 : Cond.methodLink "GalleonWaveLaw" 340 ⟨"GalleonWave", "checksum", "()J"⟩ ∈ kw := kw_in (List.mem_append_right _ (tb1 _ (List.mem_of_getElem? (i := 189) (by decide +kernel)))) (by decide +kernel)
theorem kw_966 : Cond.instanceMethod ⟨"GalleonWave", "checksum", "()J"⟩ ∈ kw := kw_in (List.mem_append_right _ (tb1 _ (List.mem_of_getElem? (i := 190) (by decide +kernel)))) (by decide +kernel)
theorem kw_967 : Cond.selects "GalleonWave" ⟨"GalleonWave", "checksum", "()J"⟩ ⟨"GalleonWave", "checksum", "()J"⟩ ∈ kw := kw_in (List.mem_append_right _ (tb1 _ (List.mem_of_getElem? (i := 191) (by decide +kernel)))) (by decide +kernel)
theorem kw_968 : Cond.code ⟨"GalleonWaveModel", "checksum", "()J"⟩ prog_14_method_89_code 4 (some .long) ∈ kw := kw_in (List.mem_append_right _ (tb10 _ (List.mem_of_getElem? (i := 56) (by decide +kernel)))) (by decide +kernel)
theorem kw_969 : Cond.methodLink "GalleonWaveLaw" 344 ⟨"GalleonWaveModel", "checksum", "()J"⟩ ∈ kw := kw_in (List.mem_append_right _ (tb10 _ (List.mem_of_getElem? (i := 53) (by decide +kernel)))) (by decide +kernel)
theorem kw_970 : Cond.instanceMethod ⟨"GalleonWaveModel", "checksum", "()J"⟩ ∈ kw := kw_in (List.mem_append_right _ (tb10 _ (List.mem_of_getElem? (i := 54) (by decide +kernel)))) (by decide +kernel)
theorem kw_971 : Cond.selects "GalleonWaveModel" ⟨"GalleonWaveModel", "checksum", "()J"⟩ ⟨"GalleonWaveModel", "checksum", "()J"⟩ ∈ kw := kw_in (List.mem_append_right _ (tb10 _ (List.mem_of_getElem? (i := 55) (by decide +kernel)))) (by decide +kernel)
theorem kw_972 : Cond.code ⟨"GalleonWave", "isSound", "()Z"⟩ prog_1_method_52_code 1 (some .boolean) ∈ kw := kw_in (List.mem_append_right _ (tb1 _ (List.mem_of_getElem? (i := 217) (by decide +kernel)))) (by decide +kernel)
theorem kw_973 : Cond.methodLink "GalleonWaveLaw" 345 ⟨"GalleonWave", "isSound", "()Z"⟩ ∈ kw := kw_in (List.mem_append_right _ (tb1 _ (List.mem_of_getElem? (i := 214) (by decide +kernel)))) (by decide +kernel)
theorem kw_974 : Cond.instanceMethod ⟨"GalleonWave", "isSound", "()Z"⟩ ∈ kw := kw_in (List.mem_append_right _ (tb1 _ (List.mem_of_getElem? (i := 215) (by decide +kernel)))) (by decide +kernel)
theorem kw_975 : Cond.selects "GalleonWave" ⟨"GalleonWave", "isSound", "()Z"⟩ ⟨"GalleonWave", "isSound", "()Z"⟩ ∈ kw := kw_in (List.mem_append_right _ (tb1 _ (List.mem_of_getElem? (i := 216) (by decide +kernel)))) (by decide +kernel)
theorem kw_976 : Cond.code ⟨"GalleonWaveModel", "isSound", "()Z"⟩ prog_14_method_90_code 1 (some .boolean) ∈ kw := kw_in (List.mem_append_right _ (tb10 _ (List.mem_of_getElem? (i := 62) (by decide +kernel)))) (by decide +kernel)
theorem kw_977 : Cond.methodLink "GalleonWaveLaw" 349 ⟨"GalleonWaveModel", "isSound", "()Z"⟩ ∈ kw := kw_in (List.mem_append_right _ (tb10 _ (List.mem_of_getElem? (i := 59) (by decide +kernel)))) (by decide +kernel)
theorem kw_978 : Cond.instanceMethod ⟨"GalleonWaveModel", "isSound", "()Z"⟩ ∈ kw := kw_in (List.mem_append_right _ (tb10 _ (List.mem_of_getElem? (i := 60) (by decide +kernel)))) (by decide +kernel)
theorem kw_979 : Cond.selects "GalleonWaveModel" ⟨"GalleonWaveModel", "isSound", "()Z"⟩ ⟨"GalleonWaveModel", "isSound", "()Z"⟩ ∈ kw := kw_in (List.mem_append_right _ (tb10 _ (List.mem_of_getElem? (i := 61) (by decide +kernel)))) (by decide +kernel)
theorem ydL_addAct : (yL_addAct.cls ≠ "java/lang/invoke/MethodHandle" ∧ yL_addAct.cls ≠ "java/lang/invoke/VarHandle") ∧ (parseMethodDescriptor yL_addAct.desc).map (fun d => d.parameters.length) = some 6 := by decide +kernel
theorem ydL_addAhead : (yL_addAhead.cls ≠ "java/lang/invoke/MethodHandle" ∧ yL_addAhead.cls ≠ "java/lang/invoke/VarHandle") ∧ (parseMethodDescriptor yL_addAhead.desc).map (fun d => d.parameters.length) = some 4 := by decide +kernel
theorem ydL_addGenerator : (yL_addGenerator.cls ≠ "java/lang/invoke/MethodHandle" ∧ yL_addGenerator.cls ≠ "java/lang/invoke/VarHandle") ∧ (parseMethodDescriptor yL_addGenerator.desc).map (fun d => d.parameters.length) = some 5 := by decide +kernel
theorem ydL_addLand : (yL_addLand.cls ≠ "java/lang/invoke/MethodHandle" ∧ yL_addLand.cls ≠ "java/lang/invoke/VarHandle") ∧ (parseMethodDescriptor yL_addLand.desc).map (fun d => d.parameters.length) = some 5 := by decide +kernel
theorem ydL_addPerson : (yL_addPerson.cls ≠ "java/lang/invoke/MethodHandle" ∧ yL_addPerson.cls ≠ "java/lang/invoke/VarHandle") ∧ (parseMethodDescriptor yL_addPerson.desc).map (fun d => d.parameters.length) = some 4 := by decide +kernel
theorem ydL_addRecording : (yL_addRecording.cls ≠ "java/lang/invoke/MethodHandle" ∧ yL_addRecording.cls ≠ "java/lang/invoke/VarHandle") ∧ (parseMethodDescriptor yL_addRecording.desc).map (fun d => d.parameters.length) = some 5 := by decide +kernel
theorem ydL_addShip : (yL_addShip.cls ≠ "java/lang/invoke/MethodHandle" ∧ yL_addShip.cls ≠ "java/lang/invoke/VarHandle") ∧ (parseMethodDescriptor yL_addShip.desc).map (fun d => d.parameters.length) = some 4 := by decide +kernel
theorem ydL_addTown : (yL_addTown.cls ≠ "java/lang/invoke/MethodHandle" ∧ yL_addTown.cls ≠ "java/lang/invoke/VarHandle") ∧ (parseMethodDescriptor yL_addTown.desc).map (fun d => d.parameters.length) = some 6 := by decide +kernel
theorem ydL_anchor : (yL_anchor.cls ≠ "java/lang/invoke/MethodHandle" ∧ yL_anchor.cls ≠ "java/lang/invoke/VarHandle") ∧ (parseMethodDescriptor yL_anchor.desc).map (fun d => d.parameters.length) = some 4 := by decide +kernel
theorem ydL_bank : (yL_bank.cls ≠ "java/lang/invoke/MethodHandle" ∧ yL_bank.cls ≠ "java/lang/invoke/VarHandle") ∧ (parseMethodDescriptor yL_bank.desc).map (fun d => d.parameters.length) = some 3 := by decide +kernel
theorem ydL_board : (yL_board.cls ≠ "java/lang/invoke/MethodHandle" ∧ yL_board.cls ≠ "java/lang/invoke/VarHandle") ∧ (parseMethodDescriptor yL_board.desc).map (fun d => d.parameters.length) = some 4 := by decide +kernel
theorem ydL_book : (yL_book.cls ≠ "java/lang/invoke/MethodHandle" ∧ yL_book.cls ≠ "java/lang/invoke/VarHandle") ∧ (parseMethodDescriptor yL_book.desc).map (fun d => d.parameters.length) = some 5 := by decide +kernel
theorem ydL_getAboard : (yL_getAboard.cls ≠ "java/lang/invoke/MethodHandle" ∧ yL_getAboard.cls ≠ "java/lang/invoke/VarHandle") ∧ (parseMethodDescriptor yL_getAboard.desc).map (fun d => d.parameters.length) = some 3 := by decide +kernel
theorem ydL_getChannel : (yL_getChannel.cls ≠ "java/lang/invoke/MethodHandle" ∧ yL_getChannel.cls ≠ "java/lang/invoke/VarHandle") ∧ (parseMethodDescriptor yL_getChannel.desc).map (fun d => d.parameters.length) = some 3 := by decide +kernel
theorem ydL_getChoices : (yL_getChoices.cls ≠ "java/lang/invoke/MethodHandle" ∧ yL_getChoices.cls ≠ "java/lang/invoke/VarHandle") ∧ (parseMethodDescriptor yL_getChoices.desc).map (fun d => d.parameters.length) = some 3 := by decide +kernel
theorem ydL_getDate : (yL_getDate.cls ≠ "java/lang/invoke/MethodHandle" ∧ yL_getDate.cls ≠ "java/lang/invoke/VarHandle") ∧ (parseMethodDescriptor yL_getDate.desc).map (fun d => d.parameters.length) = some 4 := by decide +kernel
theorem ydL_getEarned : (yL_getEarned.cls ≠ "java/lang/invoke/MethodHandle" ∧ yL_getEarned.cls ≠ "java/lang/invoke/VarHandle") ∧ (parseMethodDescriptor yL_getEarned.desc).map (fun d => d.parameters.length) = some 3 := by decide +kernel
theorem ydL_getEvidence : (yL_getEvidence.cls ≠ "java/lang/invoke/MethodHandle" ∧ yL_getEvidence.cls ≠ "java/lang/invoke/VarHandle") ∧ (parseMethodDescriptor yL_getEvidence.desc).map (fun d => d.parameters.length) = some 3 := by decide +kernel
theorem ydL_getFood : (yL_getFood.cls ≠ "java/lang/invoke/MethodHandle" ∧ yL_getFood.cls ≠ "java/lang/invoke/VarHandle") ∧ (parseMethodDescriptor yL_getFood.desc).map (fun d => d.parameters.length) = some 3 := by decide +kernel
theorem ydL_getFuel : (yL_getFuel.cls ≠ "java/lang/invoke/MethodHandle" ∧ yL_getFuel.cls ≠ "java/lang/invoke/VarHandle") ∧ (parseMethodDescriptor yL_getFuel.desc).map (fun d => d.parameters.length) = some 3 := by decide +kernel
theorem ydL_getHeard : (yL_getHeard.cls ≠ "java/lang/invoke/MethodHandle" ∧ yL_getHeard.cls ≠ "java/lang/invoke/VarHandle") ∧ (parseMethodDescriptor yL_getHeard.desc).map (fun d => d.parameters.length) = some 3 := by decide +kernel
theorem ydL_getInside : (yL_getInside.cls ≠ "java/lang/invoke/MethodHandle" ∧ yL_getInside.cls ≠ "java/lang/invoke/VarHandle") ∧ (parseMethodDescriptor yL_getInside.desc).map (fun d => d.parameters.length) = some 3 := by decide +kernel
theorem ydL_getLine : (yL_getLine.cls ≠ "java/lang/invoke/MethodHandle" ∧ yL_getLine.cls ≠ "java/lang/invoke/VarHandle") ∧ (parseMethodDescriptor yL_getLine.desc).map (fun d => d.parameters.length) = some 3 := by decide +kernel
theorem ydL_getListeners : (yL_getListeners.cls ≠ "java/lang/invoke/MethodHandle" ∧ yL_getListeners.cls ≠ "java/lang/invoke/VarHandle") ∧ (parseMethodDescriptor yL_getListeners.desc).map (fun d => d.parameters.length) = some 3 := by decide +kernel
theorem ydL_getMeanCrew : (yL_getMeanCrew.cls ≠ "java/lang/invoke/MethodHandle" ∧ yL_getMeanCrew.cls ≠ "java/lang/invoke/VarHandle") ∧ (parseMethodDescriptor yL_getMeanCrew.desc).map (fun d => d.parameters.length) = some 2 := by decide +kernel
theorem ydL_getNightShare : (yL_getNightShare.cls ≠ "java/lang/invoke/MethodHandle" ∧ yL_getNightShare.cls ≠ "java/lang/invoke/VarHandle") ∧ (parseMethodDescriptor yL_getNightShare.desc).map (fun d => d.parameters.length) = some 2 := by decide +kernel
theorem ydL_getPlace : (yL_getPlace.cls ≠ "java/lang/invoke/MethodHandle" ∧ yL_getPlace.cls ≠ "java/lang/invoke/VarHandle") ∧ (parseMethodDescriptor yL_getPlace.desc).map (fun d => d.parameters.length) = some 4 := by decide +kernel
theorem ydL_getSalt : (yL_getSalt.cls ≠ "java/lang/invoke/MethodHandle" ∧ yL_getSalt.cls ≠ "java/lang/invoke/VarHandle") ∧ (parseMethodDescriptor yL_getSalt.desc).map (fun d => d.parameters.length) = some 3 := by decide +kernel
theorem ydL_getSignal : (yL_getSignal.cls ≠ "java/lang/invoke/MethodHandle" ∧ yL_getSignal.cls ≠ "java/lang/invoke/VarHandle") ∧ (parseMethodDescriptor yL_getSignal.desc).map (fun d => d.parameters.length) = some 4 := by decide +kernel
theorem ydL_getSpeaker : (yL_getSpeaker.cls ≠ "java/lang/invoke/MethodHandle" ∧ yL_getSpeaker.cls ≠ "java/lang/invoke/VarHandle") ∧ (parseMethodDescriptor yL_getSpeaker.desc).map (fun d => d.parameters.length) = some 3 := by decide +kernel
theorem ydL_isAground : (yL_isAground.cls ≠ "java/lang/invoke/MethodHandle" ∧ yL_isAground.cls ≠ "java/lang/invoke/VarHandle") ∧ (parseMethodDescriptor yL_isAground.desc).map (fun d => d.parameters.length) = some 3 := by decide +kernel
theorem ydL_isMutiny : (yL_isMutiny.cls ≠ "java/lang/invoke/MethodHandle" ∧ yL_isMutiny.cls ≠ "java/lang/invoke/VarHandle") ∧ (parseMethodDescriptor yL_isMutiny.desc).map (fun d => d.parameters.length) = some 3 := by decide +kernel
theorem ydL_isOnAir : (yL_isOnAir.cls ≠ "java/lang/invoke/MethodHandle" ∧ yL_isOnAir.cls ≠ "java/lang/invoke/VarHandle") ∧ (parseMethodDescriptor yL_isOnAir.desc).map (fun d => d.parameters.length) = some 3 := by decide +kernel
theorem ydL_isTired : (yL_isTired.cls ≠ "java/lang/invoke/MethodHandle" ∧ yL_isTired.cls ≠ "java/lang/invoke/VarHandle") ∧ (parseMethodDescriptor yL_isTired.desc).map (fun d => d.parameters.length) = some 3 := by decide +kernel
theorem ydL_load : (yL_load.cls ≠ "java/lang/invoke/MethodHandle" ∧ yL_load.cls ≠ "java/lang/invoke/VarHandle") ∧ (parseMethodDescriptor yL_load.desc).map (fun d => d.parameters.length) = some 6 := by decide +kernel
theorem ydL_pass : (yL_pass.cls ≠ "java/lang/invoke/MethodHandle" ∧ yL_pass.cls ≠ "java/lang/invoke/VarHandle") ∧ (parseMethodDescriptor yL_pass.desc).map (fun d => d.parameters.length) = some 3 := by decide +kernel
theorem ydL_plan : (yL_plan.cls ≠ "java/lang/invoke/MethodHandle" ∧ yL_plan.cls ≠ "java/lang/invoke/VarHandle") ∧ (parseMethodDescriptor yL_plan.desc).map (fun d => d.parameters.length) = some 5 := by decide +kernel
theorem ydL_pullOff : (yL_pullOff.cls ≠ "java/lang/invoke/MethodHandle" ∧ yL_pullOff.cls ≠ "java/lang/invoke/VarHandle") ∧ (parseMethodDescriptor yL_pullOff.desc).map (fun d => d.parameters.length) = some 3 := by decide +kernel
theorem ydL_raid : (yL_raid.cls ≠ "java/lang/invoke/MethodHandle" ∧ yL_raid.cls ≠ "java/lang/invoke/VarHandle") ∧ (parseMethodDescriptor yL_raid.desc).map (fun d => d.parameters.length) = some 4 := by decide +kernel
theorem ydL_sell : (yL_sell.cls ≠ "java/lang/invoke/MethodHandle" ∧ yL_sell.cls ≠ "java/lang/invoke/VarHandle") ∧ (parseMethodDescriptor yL_sell.desc).map (fun d => d.parameters.length) = some 4 := by decide +kernel
theorem ydL_send : (yL_send.cls ≠ "java/lang/invoke/MethodHandle" ∧ yL_send.cls ≠ "java/lang/invoke/VarHandle") ∧ (parseMethodDescriptor yL_send.desc).map (fun d => d.parameters.length) = some 5 := by decide +kernel
theorem ydL_setGenerator : (yL_setGenerator.cls ≠ "java/lang/invoke/MethodHandle" ∧ yL_setGenerator.cls ≠ "java/lang/invoke/VarHandle") ∧ (parseMethodDescriptor yL_setGenerator.desc).map (fun d => d.parameters.length) = some 5 := by decide +kernel
theorem ydL_setPower : (yL_setPower.cls ≠ "java/lang/invoke/MethodHandle" ∧ yL_setPower.cls ≠ "java/lang/invoke/VarHandle") ∧ (parseMethodDescriptor yL_setPower.desc).map (fun d => d.parameters.length) = some 4 := by decide +kernel
theorem ydL_setTide : (yL_setTide.cls ≠ "java/lang/invoke/MethodHandle" ∧ yL_setTide.cls ≠ "java/lang/invoke/VarHandle") ∧ (parseMethodDescriptor yL_setTide.desc).map (fun d => d.parameters.length) = some 4 := by decide +kernel
theorem ydL_setWind : (yL_setWind.cls ≠ "java/lang/invoke/MethodHandle" ∧ yL_setWind.cls ≠ "java/lang/invoke/VarHandle") ∧ (parseMethodDescriptor yL_setWind.desc).map (fun d => d.parameters.length) = some 4 := by decide +kernel
theorem ydL_wash : (yL_wash.cls ≠ "java/lang/invoke/MethodHandle" ∧ yL_wash.cls ≠ "java/lang/invoke/VarHandle") ∧ (parseMethodDescriptor yL_wash.desc).map (fun d => d.parameters.length) = some 3 := by decide +kernel
theorem ydL_weigh : (yL_weigh.cls ≠ "java/lang/invoke/MethodHandle" ∧ yL_weigh.cls ≠ "java/lang/invoke/VarHandle") ∧ (parseMethodDescriptor yL_weigh.desc).map (fun d => d.parameters.length) = some 3 := by decide +kernel
theorem ydX11_checksum : (yX11_checksum.cls ≠ "java/lang/invoke/MethodHandle" ∧ yX11_checksum.cls ≠ "java/lang/invoke/VarHandle") ∧ (parseMethodDescriptor yX11_checksum.desc).map (fun d => d.parameters.length) = some 0 := by decide +kernel
theorem ydX11_getKept : (yX11_getKept.cls ≠ "java/lang/invoke/MethodHandle" ∧ yX11_getKept.cls ≠ "java/lang/invoke/VarHandle") ∧ (parseMethodDescriptor yX11_getKept.desc).map (fun d => d.parameters.length) = some 0 := by decide +kernel
theorem ydX11_getMoney : (yX11_getMoney.cls ≠ "java/lang/invoke/MethodHandle" ∧ yX11_getMoney.cls ≠ "java/lang/invoke/VarHandle") ∧ (parseMethodDescriptor yX11_getMoney.desc).map (fun d => d.parameters.length) = some 0 := by decide +kernel
theorem ydX11_isSound : (yX11_isSound.cls ≠ "java/lang/invoke/MethodHandle" ∧ yX11_isSound.cls ≠ "java/lang/invoke/VarHandle") ∧ (parseMethodDescriptor yX11_isSound.desc).map (fun d => d.parameters.length) = some 0 := by decide +kernel
theorem ydX12_addAct : (yX12_addAct.cls ≠ "java/lang/invoke/MethodHandle" ∧ yX12_addAct.cls ≠ "java/lang/invoke/VarHandle") ∧ (parseMethodDescriptor yX12_addAct.desc).map (fun d => d.parameters.length) = some 4 := by decide +kernel
theorem ydX12_addAhead : (yX12_addAhead.cls ≠ "java/lang/invoke/MethodHandle" ∧ yX12_addAhead.cls ≠ "java/lang/invoke/VarHandle") ∧ (parseMethodDescriptor yX12_addAhead.desc).map (fun d => d.parameters.length) = some 2 := by decide +kernel
theorem ydX12_addGenerator : (yX12_addGenerator.cls ≠ "java/lang/invoke/MethodHandle" ∧ yX12_addGenerator.cls ≠ "java/lang/invoke/VarHandle") ∧ (parseMethodDescriptor yX12_addGenerator.desc).map (fun d => d.parameters.length) = some 3 := by decide +kernel
theorem ydX12_addLand : (yX12_addLand.cls ≠ "java/lang/invoke/MethodHandle" ∧ yX12_addLand.cls ≠ "java/lang/invoke/VarHandle") ∧ (parseMethodDescriptor yX12_addLand.desc).map (fun d => d.parameters.length) = some 3 := by decide +kernel
theorem ydX12_addPerson : (yX12_addPerson.cls ≠ "java/lang/invoke/MethodHandle" ∧ yX12_addPerson.cls ≠ "java/lang/invoke/VarHandle") ∧ (parseMethodDescriptor yX12_addPerson.desc).map (fun d => d.parameters.length) = some 2 := by decide +kernel
theorem ydX12_addRecording : (yX12_addRecording.cls ≠ "java/lang/invoke/MethodHandle" ∧ yX12_addRecording.cls ≠ "java/lang/invoke/VarHandle") ∧ (parseMethodDescriptor yX12_addRecording.desc).map (fun d => d.parameters.length) = some 3 := by decide +kernel
theorem ydX12_addShip : (yX12_addShip.cls ≠ "java/lang/invoke/MethodHandle" ∧ yX12_addShip.cls ≠ "java/lang/invoke/VarHandle") ∧ (parseMethodDescriptor yX12_addShip.desc).map (fun d => d.parameters.length) = some 2 := by decide +kernel
theorem ydX12_addTown : (yX12_addTown.cls ≠ "java/lang/invoke/MethodHandle" ∧ yX12_addTown.cls ≠ "java/lang/invoke/VarHandle") ∧ (parseMethodDescriptor yX12_addTown.desc).map (fun d => d.parameters.length) = some 4 := by decide +kernel
theorem ydX12_anchor : (yX12_anchor.cls ≠ "java/lang/invoke/MethodHandle" ∧ yX12_anchor.cls ≠ "java/lang/invoke/VarHandle") ∧ (parseMethodDescriptor yX12_anchor.desc).map (fun d => d.parameters.length) = some 2 := by decide +kernel
theorem ydX12_bank : (yX12_bank.cls ≠ "java/lang/invoke/MethodHandle" ∧ yX12_bank.cls ≠ "java/lang/invoke/VarHandle") ∧ (parseMethodDescriptor yX12_bank.desc).map (fun d => d.parameters.length) = some 1 := by decide +kernel
theorem ydX12_board : (yX12_board.cls ≠ "java/lang/invoke/MethodHandle" ∧ yX12_board.cls ≠ "java/lang/invoke/VarHandle") ∧ (parseMethodDescriptor yX12_board.desc).map (fun d => d.parameters.length) = some 2 := by decide +kernel
theorem ydX12_book : (yX12_book.cls ≠ "java/lang/invoke/MethodHandle" ∧ yX12_book.cls ≠ "java/lang/invoke/VarHandle") ∧ (parseMethodDescriptor yX12_book.desc).map (fun d => d.parameters.length) = some 3 := by decide +kernel
theorem ydX12_checksum : (yX12_checksum.cls ≠ "java/lang/invoke/MethodHandle" ∧ yX12_checksum.cls ≠ "java/lang/invoke/VarHandle") ∧ (parseMethodDescriptor yX12_checksum.desc).map (fun d => d.parameters.length) = some 0 := by decide +kernel
theorem ydX12_getAboard : (yX12_getAboard.cls ≠ "java/lang/invoke/MethodHandle" ∧ yX12_getAboard.cls ≠ "java/lang/invoke/VarHandle") ∧ (parseMethodDescriptor yX12_getAboard.desc).map (fun d => d.parameters.length) = some 1 := by decide +kernel
theorem ydX12_getChannel : (yX12_getChannel.cls ≠ "java/lang/invoke/MethodHandle" ∧ yX12_getChannel.cls ≠ "java/lang/invoke/VarHandle") ∧ (parseMethodDescriptor yX12_getChannel.desc).map (fun d => d.parameters.length) = some 1 := by decide +kernel
theorem ydX12_getChoices : (yX12_getChoices.cls ≠ "java/lang/invoke/MethodHandle" ∧ yX12_getChoices.cls ≠ "java/lang/invoke/VarHandle") ∧ (parseMethodDescriptor yX12_getChoices.desc).map (fun d => d.parameters.length) = some 1 := by decide +kernel
theorem ydX12_getDate : (yX12_getDate.cls ≠ "java/lang/invoke/MethodHandle" ∧ yX12_getDate.cls ≠ "java/lang/invoke/VarHandle") ∧ (parseMethodDescriptor yX12_getDate.desc).map (fun d => d.parameters.length) = some 2 := by decide +kernel
theorem ydX12_getEarned : (yX12_getEarned.cls ≠ "java/lang/invoke/MethodHandle" ∧ yX12_getEarned.cls ≠ "java/lang/invoke/VarHandle") ∧ (parseMethodDescriptor yX12_getEarned.desc).map (fun d => d.parameters.length) = some 1 := by decide +kernel
theorem ydX12_getEvidence : (yX12_getEvidence.cls ≠ "java/lang/invoke/MethodHandle" ∧ yX12_getEvidence.cls ≠ "java/lang/invoke/VarHandle") ∧ (parseMethodDescriptor yX12_getEvidence.desc).map (fun d => d.parameters.length) = some 1 := by decide +kernel
theorem ydX12_getFood : (yX12_getFood.cls ≠ "java/lang/invoke/MethodHandle" ∧ yX12_getFood.cls ≠ "java/lang/invoke/VarHandle") ∧ (parseMethodDescriptor yX12_getFood.desc).map (fun d => d.parameters.length) = some 1 := by decide +kernel
theorem ydX12_getFuel : (yX12_getFuel.cls ≠ "java/lang/invoke/MethodHandle" ∧ yX12_getFuel.cls ≠ "java/lang/invoke/VarHandle") ∧ (parseMethodDescriptor yX12_getFuel.desc).map (fun d => d.parameters.length) = some 1 := by decide +kernel
theorem ydX12_getHeard : (yX12_getHeard.cls ≠ "java/lang/invoke/MethodHandle" ∧ yX12_getHeard.cls ≠ "java/lang/invoke/VarHandle") ∧ (parseMethodDescriptor yX12_getHeard.desc).map (fun d => d.parameters.length) = some 1 := by decide +kernel
theorem ydX12_getInside : (yX12_getInside.cls ≠ "java/lang/invoke/MethodHandle" ∧ yX12_getInside.cls ≠ "java/lang/invoke/VarHandle") ∧ (parseMethodDescriptor yX12_getInside.desc).map (fun d => d.parameters.length) = some 1 := by decide +kernel
theorem ydX12_getKept : (yX12_getKept.cls ≠ "java/lang/invoke/MethodHandle" ∧ yX12_getKept.cls ≠ "java/lang/invoke/VarHandle") ∧ (parseMethodDescriptor yX12_getKept.desc).map (fun d => d.parameters.length) = some 0 := by decide +kernel
theorem ydX12_getLine : (yX12_getLine.cls ≠ "java/lang/invoke/MethodHandle" ∧ yX12_getLine.cls ≠ "java/lang/invoke/VarHandle") ∧ (parseMethodDescriptor yX12_getLine.desc).map (fun d => d.parameters.length) = some 1 := by decide +kernel
theorem ydX12_getListeners : (yX12_getListeners.cls ≠ "java/lang/invoke/MethodHandle" ∧ yX12_getListeners.cls ≠ "java/lang/invoke/VarHandle") ∧ (parseMethodDescriptor yX12_getListeners.desc).map (fun d => d.parameters.length) = some 1 := by decide +kernel
theorem ydX12_getMeanCrew : (yX12_getMeanCrew.cls ≠ "java/lang/invoke/MethodHandle" ∧ yX12_getMeanCrew.cls ≠ "java/lang/invoke/VarHandle") ∧ (parseMethodDescriptor yX12_getMeanCrew.desc).map (fun d => d.parameters.length) = some 0 := by decide +kernel
theorem ydX12_getMoney : (yX12_getMoney.cls ≠ "java/lang/invoke/MethodHandle" ∧ yX12_getMoney.cls ≠ "java/lang/invoke/VarHandle") ∧ (parseMethodDescriptor yX12_getMoney.desc).map (fun d => d.parameters.length) = some 0 := by decide +kernel
theorem ydX12_getNightShare : (yX12_getNightShare.cls ≠ "java/lang/invoke/MethodHandle" ∧ yX12_getNightShare.cls ≠ "java/lang/invoke/VarHandle") ∧ (parseMethodDescriptor yX12_getNightShare.desc).map (fun d => d.parameters.length) = some 0 := by decide +kernel
theorem ydX12_getPlace : (yX12_getPlace.cls ≠ "java/lang/invoke/MethodHandle" ∧ yX12_getPlace.cls ≠ "java/lang/invoke/VarHandle") ∧ (parseMethodDescriptor yX12_getPlace.desc).map (fun d => d.parameters.length) = some 2 := by decide +kernel
theorem ydX12_getSalt : (yX12_getSalt.cls ≠ "java/lang/invoke/MethodHandle" ∧ yX12_getSalt.cls ≠ "java/lang/invoke/VarHandle") ∧ (parseMethodDescriptor yX12_getSalt.desc).map (fun d => d.parameters.length) = some 1 := by decide +kernel
theorem ydX12_getSignal : (yX12_getSignal.cls ≠ "java/lang/invoke/MethodHandle" ∧ yX12_getSignal.cls ≠ "java/lang/invoke/VarHandle") ∧ (parseMethodDescriptor yX12_getSignal.desc).map (fun d => d.parameters.length) = some 2 := by decide +kernel
theorem ydX12_getSpeaker : (yX12_getSpeaker.cls ≠ "java/lang/invoke/MethodHandle" ∧ yX12_getSpeaker.cls ≠ "java/lang/invoke/VarHandle") ∧ (parseMethodDescriptor yX12_getSpeaker.desc).map (fun d => d.parameters.length) = some 1 := by decide +kernel
theorem ydX12_isAground : (yX12_isAground.cls ≠ "java/lang/invoke/MethodHandle" ∧ yX12_isAground.cls ≠ "java/lang/invoke/VarHandle") ∧ (parseMethodDescriptor yX12_isAground.desc).map (fun d => d.parameters.length) = some 1 := by decide +kernel
theorem ydX12_isMutiny : (yX12_isMutiny.cls ≠ "java/lang/invoke/MethodHandle" ∧ yX12_isMutiny.cls ≠ "java/lang/invoke/VarHandle") ∧ (parseMethodDescriptor yX12_isMutiny.desc).map (fun d => d.parameters.length) = some 1 := by decide +kernel
theorem ydX12_isOnAir : (yX12_isOnAir.cls ≠ "java/lang/invoke/MethodHandle" ∧ yX12_isOnAir.cls ≠ "java/lang/invoke/VarHandle") ∧ (parseMethodDescriptor yX12_isOnAir.desc).map (fun d => d.parameters.length) = some 1 := by decide +kernel
theorem ydX12_isSound : (yX12_isSound.cls ≠ "java/lang/invoke/MethodHandle" ∧ yX12_isSound.cls ≠ "java/lang/invoke/VarHandle") ∧ (parseMethodDescriptor yX12_isSound.desc).map (fun d => d.parameters.length) = some 0 := by decide +kernel
theorem ydX12_isTired : (yX12_isTired.cls ≠ "java/lang/invoke/MethodHandle" ∧ yX12_isTired.cls ≠ "java/lang/invoke/VarHandle") ∧ (parseMethodDescriptor yX12_isTired.desc).map (fun d => d.parameters.length) = some 1 := by decide +kernel
theorem ydX12_load : (yX12_load.cls ≠ "java/lang/invoke/MethodHandle" ∧ yX12_load.cls ≠ "java/lang/invoke/VarHandle") ∧ (parseMethodDescriptor yX12_load.desc).map (fun d => d.parameters.length) = some 4 := by decide +kernel
theorem ydX12_pass : (yX12_pass.cls ≠ "java/lang/invoke/MethodHandle" ∧ yX12_pass.cls ≠ "java/lang/invoke/VarHandle") ∧ (parseMethodDescriptor yX12_pass.desc).map (fun d => d.parameters.length) = some 1 := by decide +kernel
theorem ydX12_plan : (yX12_plan.cls ≠ "java/lang/invoke/MethodHandle" ∧ yX12_plan.cls ≠ "java/lang/invoke/VarHandle") ∧ (parseMethodDescriptor yX12_plan.desc).map (fun d => d.parameters.length) = some 3 := by decide +kernel
theorem ydX12_pullOff : (yX12_pullOff.cls ≠ "java/lang/invoke/MethodHandle" ∧ yX12_pullOff.cls ≠ "java/lang/invoke/VarHandle") ∧ (parseMethodDescriptor yX12_pullOff.desc).map (fun d => d.parameters.length) = some 1 := by decide +kernel
theorem ydX12_raid : (yX12_raid.cls ≠ "java/lang/invoke/MethodHandle" ∧ yX12_raid.cls ≠ "java/lang/invoke/VarHandle") ∧ (parseMethodDescriptor yX12_raid.desc).map (fun d => d.parameters.length) = some 2 := by decide +kernel
theorem ydX12_sell : (yX12_sell.cls ≠ "java/lang/invoke/MethodHandle" ∧ yX12_sell.cls ≠ "java/lang/invoke/VarHandle") ∧ (parseMethodDescriptor yX12_sell.desc).map (fun d => d.parameters.length) = some 2 := by decide +kernel
theorem ydX12_send : (yX12_send.cls ≠ "java/lang/invoke/MethodHandle" ∧ yX12_send.cls ≠ "java/lang/invoke/VarHandle") ∧ (parseMethodDescriptor yX12_send.desc).map (fun d => d.parameters.length) = some 3 := by decide +kernel
theorem ydX12_setGenerator : (yX12_setGenerator.cls ≠ "java/lang/invoke/MethodHandle" ∧ yX12_setGenerator.cls ≠ "java/lang/invoke/VarHandle") ∧ (parseMethodDescriptor yX12_setGenerator.desc).map (fun d => d.parameters.length) = some 3 := by decide +kernel
theorem ydX12_setPower : (yX12_setPower.cls ≠ "java/lang/invoke/MethodHandle" ∧ yX12_setPower.cls ≠ "java/lang/invoke/VarHandle") ∧ (parseMethodDescriptor yX12_setPower.desc).map (fun d => d.parameters.length) = some 2 := by decide +kernel
theorem ydX12_setTide : (yX12_setTide.cls ≠ "java/lang/invoke/MethodHandle" ∧ yX12_setTide.cls ≠ "java/lang/invoke/VarHandle") ∧ (parseMethodDescriptor yX12_setTide.desc).map (fun d => d.parameters.length) = some 2 := by decide +kernel
theorem ydX12_setWind : (yX12_setWind.cls ≠ "java/lang/invoke/MethodHandle" ∧ yX12_setWind.cls ≠ "java/lang/invoke/VarHandle") ∧ (parseMethodDescriptor yX12_setWind.desc).map (fun d => d.parameters.length) = some 2 := by decide +kernel
theorem ydX12_thrown : (yX12_thrown.cls ≠ "java/lang/invoke/MethodHandle" ∧ yX12_thrown.cls ≠ "java/lang/invoke/VarHandle") ∧ (parseMethodDescriptor yX12_thrown.desc).map (fun d => d.parameters.length) = some 0 := by decide +kernel
theorem ydX12_wash : (yX12_wash.cls ≠ "java/lang/invoke/MethodHandle" ∧ yX12_wash.cls ≠ "java/lang/invoke/VarHandle") ∧ (parseMethodDescriptor yX12_wash.desc).map (fun d => d.parameters.length) = some 1 := by decide +kernel
theorem ydX12_weigh : (yX12_weigh.cls ≠ "java/lang/invoke/MethodHandle" ∧ yX12_weigh.cls ≠ "java/lang/invoke/VarHandle") ∧ (parseMethodDescriptor yX12_weigh.desc).map (fun d => d.parameters.length) = some 1 := by decide +kernel
theorem dL_law_28 : decode cL_law 28 = .ok (.iload 5, 2) := by decide +kernel
theorem dL_law_30 : decode cL_law 30 = .ok (.aload_n 0, 1) := by decide +kernel
theorem dL_law_31 : decode cL_law 31 = .ok (.arraylength, 1) := by decide +kernel
theorem dL_law_32 : decode cL_law 32 = .ok (.iconst 5, 1) := by decide +kernel
theorem dL_law_33 : decode cL_law 33 = .ok (.isub, 1) := by decide +kernel
theorem dL_law_34 : decode cL_law 34 = .ok (.if_icmp .gt 3493, 3) := by decide +kernel
theorem dL_law_264 : decode cL_law 264 = .ok (.aload_n 1, 1) := by decide +kernel
theorem dL_law_265 : decode cL_law 265 = .ok (.aload_n 0, 1) := by decide +kernel
theorem dL_law_266 : decode cL_law 266 = .ok (.iload 5, 2) := by decide +kernel
theorem dL_law_268 : decode cL_law 268 = .ok (.iconst 1, 1) := by decide +kernel
theorem dL_law_269 : decode cL_law 269 = .ok (.iadd, 1) := by decide +kernel
theorem dL_law_270 : decode cL_law 270 = .ok (.iaload, 1) := by decide +kernel
theorem dL_law_271 : decode cL_law 271 = .ok (.aload_n 0, 1) := by decide +kernel
theorem dL_law_272 : decode cL_law 272 = .ok (.iload 5, 2) := by decide +kernel
theorem dL_law_274 : decode cL_law 274 = .ok (.iconst 2, 1) := by decide +kernel
theorem dL_law_275 : decode cL_law 275 = .ok (.iadd, 1) := by decide +kernel
theorem dL_law_276 : decode cL_law 276 = .ok (.iaload, 1) := by decide +kernel
theorem dL_law_277 : decode cL_law 277 = .ok (.aload_n 0, 1) := by decide +kernel
theorem dL_law_278 : decode cL_law 278 = .ok (.iload 5, 2) := by decide +kernel
theorem dL_law_280 : decode cL_law 280 = .ok (.iconst 3, 1) := by decide +kernel
theorem dL_law_281 : decode cL_law 281 = .ok (.iadd, 1) := by decide +kernel
theorem dL_law_282 : decode cL_law 282 = .ok (.iaload, 1) := by decide +kernel
theorem dL_law_283 : decode cL_law 283 = .ok (.aload_n 3, 1) := by decide +kernel
theorem dL_law_284 : decode cL_law 284 = .ok (.invokestatic 177, 3) := by decide +kernel
theorem dL_law_287 : decode cL_law 287 = .ok (.istore 6, 2) := by decide +kernel
theorem dL_law_289 : decode cL_law 289 = .ok (.aload_n 2, 1) := by decide +kernel
theorem dL_law_290 : decode cL_law 290 = .ok (.aload_n 0, 1) := by decide +kernel
theorem dL_law_291 : decode cL_law 291 = .ok (.iload 5, 2) := by decide +kernel
theorem dL_law_293 : decode cL_law 293 = .ok (.iconst 1, 1) := by decide +kernel
theorem dL_law_294 : decode cL_law 294 = .ok (.iadd, 1) := by decide +kernel
theorem dL_law_295 : decode cL_law 295 = .ok (.iaload, 1) := by decide +kernel
theorem dL_law_296 : decode cL_law 296 = .ok (.aload_n 0, 1) := by decide +kernel
theorem dL_law_297 : decode cL_law 297 = .ok (.iload 5, 2) := by decide +kernel
theorem dL_law_299 : decode cL_law 299 = .ok (.iconst 2, 1) := by decide +kernel
theorem dL_law_300 : decode cL_law 300 = .ok (.iadd, 1) := by decide +kernel
theorem dL_law_301 : decode cL_law 301 = .ok (.iaload, 1) := by decide +kernel
theorem dL_law_302 : decode cL_law 302 = .ok (.aload_n 0, 1) := by decide +kernel
theorem dL_law_303 : decode cL_law 303 = .ok (.iload 5, 2) := by decide +kernel
theorem dL_law_305 : decode cL_law 305 = .ok (.iconst 3, 1) := by decide +kernel
theorem dL_law_306 : decode cL_law 306 = .ok (.iadd, 1) := by decide +kernel
theorem dL_law_307 : decode cL_law 307 = .ok (.iaload, 1) := by decide +kernel
theorem dL_law_308 : decode cL_law 308 = .ok (.invokevirtual 182, 3) := by decide +kernel
theorem dL_law_311 : decode cL_law 311 = .ok (.istore 7, 2) := by decide +kernel
theorem dL_law_313 : decode cL_law 313 = .ok (.aload_n 2, 1) := by decide +kernel
theorem dL_law_314 : decode cL_law 314 = .ok (.invokevirtual 183, 3) := by decide +kernel
theorem dL_law_317 : decode cL_law 317 = .ok (.iload 6, 2) := by decide +kernel
theorem dL_law_319 : decode cL_law 319 = .ok (.if_icmp .eq 5, 3) := by decide +kernel
theorem dL_law_324 : decode cL_law 324 = .ok (.iload 6, 2) := by decide +kernel
theorem dL_law_326 : decode cL_law 326 = .ok (.ifCond .ne 15, 3) := by decide +kernel
theorem dL_law_329 : decode cL_law 329 = .ok (.aload_n 3, 1) := by decide +kernel
theorem dL_law_330 : decode cL_law 330 = .ok (.iconst 0, 1) := by decide +kernel
theorem dL_law_331 : decode cL_law 331 = .ok (.laload, 1) := by decide +kernel
theorem dL_law_332 : decode cL_law 332 = .ok (.iload 7, 2) := by decide +kernel
theorem dL_law_334 : decode cL_law 334 = .ok (.i2l, 1) := by decide +kernel
theorem dL_law_335 : decode cL_law 335 = .ok (.lcmp, 1) := by decide +kernel
theorem dL_law_336 : decode cL_law 336 = .ok (.ifCond .eq 5, 3) := by decide +kernel
theorem dL_law_341 : decode cL_law 341 = .ok (.goto 3180, 3) := by decide +kernel
theorem dL_law_344 : decode cL_law 344 = .ok (.aload_n 1, 1) := by decide +kernel
theorem dL_law_345 : decode cL_law 345 = .ok (.aload_n 0, 1) := by decide +kernel
theorem dL_law_346 : decode cL_law 346 = .ok (.iload 5, 2) := by decide +kernel
theorem dL_law_348 : decode cL_law 348 = .ok (.iconst 1, 1) := by decide +kernel
theorem dL_law_349 : decode cL_law 349 = .ok (.iadd, 1) := by decide +kernel
theorem dL_law_350 : decode cL_law 350 = .ok (.iaload, 1) := by decide +kernel
theorem dL_law_351 : decode cL_law 351 = .ok (.aload_n 0, 1) := by decide +kernel
theorem dL_law_352 : decode cL_law 352 = .ok (.iload 5, 2) := by decide +kernel
theorem dL_law_354 : decode cL_law 354 = .ok (.iconst 2, 1) := by decide +kernel
theorem dL_law_355 : decode cL_law 355 = .ok (.iadd, 1) := by decide +kernel
theorem dL_law_356 : decode cL_law 356 = .ok (.iaload, 1) := by decide +kernel
theorem dL_law_357 : decode cL_law 357 = .ok (.aload_n 0, 1) := by decide +kernel
theorem dL_law_358 : decode cL_law 358 = .ok (.iload 5, 2) := by decide +kernel
theorem dL_law_360 : decode cL_law 360 = .ok (.iconst 3, 1) := by decide +kernel
theorem dL_law_361 : decode cL_law 361 = .ok (.iadd, 1) := by decide +kernel
theorem dL_law_362 : decode cL_law 362 = .ok (.iaload, 1) := by decide +kernel
theorem dL_law_363 : decode cL_law 363 = .ok (.aload_n 0, 1) := by decide +kernel
theorem dL_law_364 : decode cL_law 364 = .ok (.iload 5, 2) := by decide +kernel
theorem dL_law_366 : decode cL_law 366 = .ok (.iconst 4, 1) := by decide +kernel
theorem dL_law_367 : decode cL_law 367 = .ok (.iadd, 1) := by decide +kernel
theorem dL_law_368 : decode cL_law 368 = .ok (.iaload, 1) := by decide +kernel
theorem dL_law_369 : decode cL_law 369 = .ok (.aload_n 3, 1) := by decide +kernel
theorem dL_law_370 : decode cL_law 370 = .ok (.invokestatic 187, 3) := by decide +kernel
theorem dL_law_373 : decode cL_law 373 = .ok (.istore 6, 2) := by decide +kernel
theorem dL_law_375 : decode cL_law 375 = .ok (.aload_n 2, 1) := by decide +kernel
theorem dL_law_376 : decode cL_law 376 = .ok (.aload_n 0, 1) := by decide +kernel
theorem dL_law_377 : decode cL_law 377 = .ok (.iload 5, 2) := by decide +kernel
theorem dL_law_379 : decode cL_law 379 = .ok (.iconst 1, 1) := by decide +kernel
theorem dL_law_380 : decode cL_law 380 = .ok (.iadd, 1) := by decide +kernel
theorem dL_law_381 : decode cL_law 381 = .ok (.iaload, 1) := by decide +kernel
theorem dL_law_382 : decode cL_law 382 = .ok (.aload_n 0, 1) := by decide +kernel
theorem dL_law_383 : decode cL_law 383 = .ok (.iload 5, 2) := by decide +kernel
theorem dL_law_385 : decode cL_law 385 = .ok (.iconst 2, 1) := by decide +kernel
theorem dL_law_386 : decode cL_law 386 = .ok (.iadd, 1) := by decide +kernel
theorem dL_law_387 : decode cL_law 387 = .ok (.iaload, 1) := by decide +kernel
theorem dL_law_388 : decode cL_law 388 = .ok (.aload_n 0, 1) := by decide +kernel
theorem dL_law_389 : decode cL_law 389 = .ok (.iload 5, 2) := by decide +kernel
theorem dL_law_391 : decode cL_law 391 = .ok (.iconst 3, 1) := by decide +kernel
theorem dL_law_392 : decode cL_law 392 = .ok (.iadd, 1) := by decide +kernel
theorem dL_law_393 : decode cL_law 393 = .ok (.iaload, 1) := by decide +kernel
theorem dL_law_394 : decode cL_law 394 = .ok (.aload_n 0, 1) := by decide +kernel
theorem dL_law_395 : decode cL_law 395 = .ok (.iload 5, 2) := by decide +kernel
theorem dL_law_397 : decode cL_law 397 = .ok (.iconst 4, 1) := by decide +kernel
theorem dL_law_398 : decode cL_law 398 = .ok (.iadd, 1) := by decide +kernel
theorem dL_law_399 : decode cL_law 399 = .ok (.iaload, 1) := by decide +kernel
theorem dL_law_400 : decode cL_law 400 = .ok (.invokevirtual 190, 3) := by decide +kernel
theorem dL_law_403 : decode cL_law 403 = .ok (.istore 7, 2) := by decide +kernel
theorem dL_law_405 : decode cL_law 405 = .ok (.aload_n 2, 1) := by decide +kernel
theorem dL_law_406 : decode cL_law 406 = .ok (.invokevirtual 183, 3) := by decide +kernel
theorem dL_law_409 : decode cL_law 409 = .ok (.iload 6, 2) := by decide +kernel
theorem dL_law_411 : decode cL_law 411 = .ok (.if_icmp .eq 5, 3) := by decide +kernel
theorem dL_law_416 : decode cL_law 416 = .ok (.iload 6, 2) := by decide +kernel
theorem dL_law_418 : decode cL_law 418 = .ok (.ifCond .ne 15, 3) := by decide +kernel
theorem dL_law_433 : decode cL_law 433 = .ok (.goto 3088, 3) := by decide +kernel
theorem dL_law_436 : decode cL_law 436 = .ok (.aload_n 1, 1) := by decide +kernel
theorem dL_law_437 : decode cL_law 437 = .ok (.aload_n 0, 1) := by decide +kernel
theorem dL_law_438 : decode cL_law 438 = .ok (.iload 5, 2) := by decide +kernel
theorem dL_law_440 : decode cL_law 440 = .ok (.iconst 1, 1) := by decide +kernel
theorem dL_law_441 : decode cL_law 441 = .ok (.iadd, 1) := by decide +kernel
theorem dL_law_442 : decode cL_law 442 = .ok (.iaload, 1) := by decide +kernel
theorem dL_law_443 : decode cL_law 443 = .ok (.aload_n 3, 1) := by decide +kernel
theorem dL_law_444 : decode cL_law 444 = .ok (.invokestatic 191, 3) := by decide +kernel
theorem dL_law_447 : decode cL_law 447 = .ok (.istore 6, 2) := by decide +kernel
theorem dL_law_449 : decode cL_law 449 = .ok (.aload_n 2, 1) := by decide +kernel
theorem dL_law_450 : decode cL_law 450 = .ok (.aload_n 0, 1) := by decide +kernel
theorem dL_law_451 : decode cL_law 451 = .ok (.iload 5, 2) := by decide +kernel
theorem dL_law_453 : decode cL_law 453 = .ok (.iconst 1, 1) := by decide +kernel
theorem dL_law_454 : decode cL_law 454 = .ok (.iadd, 1) := by decide +kernel
theorem dL_law_455 : decode cL_law 455 = .ok (.iaload, 1) := by decide +kernel
theorem dL_law_456 : decode cL_law 456 = .ok (.invokevirtual 194, 3) := by decide +kernel
theorem dL_law_459 : decode cL_law 459 = .ok (.istore 7, 2) := by decide +kernel
theorem dL_law_461 : decode cL_law 461 = .ok (.aload_n 2, 1) := by decide +kernel
theorem dL_law_462 : decode cL_law 462 = .ok (.invokevirtual 183, 3) := by decide +kernel
theorem dL_law_465 : decode cL_law 465 = .ok (.iload 6, 2) := by decide +kernel
theorem dL_law_467 : decode cL_law 467 = .ok (.if_icmp .eq 5, 3) := by decide +kernel
theorem dL_law_472 : decode cL_law 472 = .ok (.iload 6, 2) := by decide +kernel
theorem dL_law_474 : decode cL_law 474 = .ok (.ifCond .ne 15, 3) := by decide +kernel
theorem dL_law_489 : decode cL_law 489 = .ok (.goto 3032, 3) := by decide +kernel
theorem dL_law_492 : decode cL_law 492 = .ok (.aload_n 1, 1) := by decide +kernel
theorem dL_law_493 : decode cL_law 493 = .ok (.aload_n 0, 1) := by decide +kernel
theorem dL_law_494 : decode cL_law 494 = .ok (.iload 5, 2) := by decide +kernel
theorem dL_law_496 : decode cL_law 496 = .ok (.iconst 1, 1) := by decide +kernel
theorem dL_law_497 : decode cL_law 497 = .ok (.iadd, 1) := by decide +kernel
theorem dL_law_498 : decode cL_law 498 = .ok (.iaload, 1) := by decide +kernel
theorem dL_law_499 : decode cL_law 499 = .ok (.aload_n 0, 1) := by decide +kernel
theorem dL_law_500 : decode cL_law 500 = .ok (.iload 5, 2) := by decide +kernel
theorem dL_law_502 : decode cL_law 502 = .ok (.iconst 2, 1) := by decide +kernel
theorem dL_law_503 : decode cL_law 503 = .ok (.iadd, 1) := by decide +kernel
theorem dL_law_504 : decode cL_law 504 = .ok (.iaload, 1) := by decide +kernel
theorem dL_law_505 : decode cL_law 505 = .ok (.i2c, 1) := by decide +kernel
theorem dL_law_506 : decode cL_law 506 = .ok (.aload_n 3, 1) := by decide +kernel
theorem dL_law_507 : decode cL_law 507 = .ok (.invokestatic 195, 3) := by decide +kernel
theorem dL_law_510 : decode cL_law 510 = .ok (.istore 6, 2) := by decide +kernel
theorem dL_law_512 : decode cL_law 512 = .ok (.aload_n 2, 1) := by decide +kernel
theorem dL_law_513 : decode cL_law 513 = .ok (.aload_n 0, 1) := by decide +kernel
theorem dL_law_514 : decode cL_law 514 = .ok (.iload 5, 2) := by decide +kernel
theorem dL_law_516 : decode cL_law 516 = .ok (.iconst 1, 1) := by decide +kernel
theorem dL_law_517 : decode cL_law 517 = .ok (.iadd, 1) := by decide +kernel
theorem dL_law_518 : decode cL_law 518 = .ok (.iaload, 1) := by decide +kernel
theorem dL_law_519 : decode cL_law 519 = .ok (.aload_n 0, 1) := by decide +kernel
theorem dL_law_520 : decode cL_law 520 = .ok (.iload 5, 2) := by decide +kernel
theorem dL_law_522 : decode cL_law 522 = .ok (.iconst 2, 1) := by decide +kernel
theorem dL_law_523 : decode cL_law 523 = .ok (.iadd, 1) := by decide +kernel
theorem dL_law_524 : decode cL_law 524 = .ok (.iaload, 1) := by decide +kernel
theorem dL_law_525 : decode cL_law 525 = .ok (.i2c, 1) := by decide +kernel
