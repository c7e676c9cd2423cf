section
-- ===== PART A: goes FIRST, ahead of the names: the tables' words, and 'selects' of the private methods out of them =====
/-- a private method of a class that the tables say can be made, by its rows of tables_1 -/
def lw_okq (q : MethodName × Nat) : Prop := (q.1.cls ≠ "java/lang/invoke/MethodHandle" ∧ q.1.cls ≠ "java/lang/invoke/VarHandle") ∧ Cond.instantiable q.1.cls q.2 ∈ tables_1 ∧ Cond.privateMethod q.1 ∈ tables_1 ∧ Cond.instanceMethod q.1 ∈ tables_1
theorem lw_p0 : lw_okq (⟨"GalleonWave", "areKeptHoursSound", "()Z"⟩, 11) := ⟨⟨by decide +kernel, by decide +kernel⟩, List.mem_of_getElem? (i := 39) (by decide +kernel), List.mem_of_getElem? (i := 219) (by decide +kernel), List.mem_of_getElem? (i := 220) (by decide +kernel)⟩
theorem lw_p1 : lw_okq (⟨"GalleonWave", "isKeptHourSound", "(LGalleonWave$Kept;I)Z"⟩, 11) := ⟨⟨by decide +kernel, by decide +kernel⟩, List.mem_of_getElem? (i := 39) (by decide +kernel), List.mem_of_getElem? (i := 227) (by decide +kernel), List.mem_of_getElem? (i := 228) (by decide +kernel)⟩
theorem lw_p2 : lw_okq (⟨"GalleonWave", "isPerson", "(I)Z"⟩, 11) := ⟨⟨by decide +kernel, by decide +kernel⟩, List.mem_of_getElem? (i := 39) (by decide +kernel), List.mem_of_getElem? (i := 231) (by decide +kernel), List.mem_of_getElem? (i := 232) (by decide +kernel)⟩
theorem lw_p3 : lw_okq (⟨"GalleonWave", "areCrewsSound", "()Z"⟩, 11) := ⟨⟨by decide +kernel, by decide +kernel⟩, List.mem_of_getElem? (i := 39) (by decide +kernel), List.mem_of_getElem? (i := 336) (by decide +kernel), List.mem_of_getElem? (i := 337) (by decide +kernel)⟩
theorem lw_p4 : lw_okq (⟨"GalleonWave", "countCrew", "(I)I"⟩, 11) := ⟨⟨by decide +kernel, by decide +kernel⟩, List.mem_of_getElem? (i := 39) (by decide +kernel), List.mem_of_getElem? (i := 340) (by decide +kernel), List.mem_of_getElem? (i := 341) (by decide +kernel)⟩
theorem lw_p5 : lw_okq (⟨"GalleonWave", "countAboard", "()I"⟩, 11) := ⟨⟨by decide +kernel, by decide +kernel⟩, List.mem_of_getElem? (i := 39) (by decide +kernel), List.mem_of_getElem? (i := 344) (by decide +kernel), List.mem_of_getElem? (i := 345) (by decide +kernel)⟩
theorem lw_p6 : lw_okq (⟨"java/lang/Throwable", "fillInStackTrace", "(I)Ljava/lang/Throwable;"⟩, 6) := ⟨⟨by decide +kernel, by decide +kernel⟩, List.mem_of_getElem? (i := 405) (by decide +kernel), List.mem_of_getElem? (i := 403) (by decide +kernel), List.mem_of_getElem? (i := 404) (by decide +kernel)⟩
theorem lw_p7 : lw_okq (⟨"java/util/ArrayList", "add", "(Ljava/lang/Object;[Ljava/lang/Object;I)V"⟩, 3) := ⟨⟨by decide +kernel, by decide +kernel⟩, List.mem_of_getElem? (i := 47) (by decide +kernel), List.mem_of_getElem? (i := 505) (by decide +kernel), List.mem_of_getElem? (i := 506) (by decide +kernel)⟩
theorem lw_p8 : lw_okq (⟨"java/util/ArrayList", "grow", "()[Ljava/lang/Object;"⟩, 3) := ⟨⟨by decide +kernel, by decide +kernel⟩, List.mem_of_getElem? (i := 47) (by decide +kernel), List.mem_of_getElem? (i := 509) (by decide +kernel), List.mem_of_getElem? (i := 510) (by decide +kernel)⟩
theorem lw_p9 : lw_okq (⟨"java/util/ArrayList", "grow", "(I)[Ljava/lang/Object;"⟩, 3) := ⟨⟨by decide +kernel, by decide +kernel⟩, List.mem_of_getElem? (i := 47) (by decide +kernel), List.mem_of_getElem? (i := 513) (by decide +kernel), List.mem_of_getElem? (i := 514) (by decide +kernel)⟩
theorem lw_p10 : lw_okq (⟨"GalleonWave", "landAt", "(I)LGalleonWave$Land;"⟩, 11) := ⟨⟨by decide +kernel, by decide +kernel⟩, List.mem_of_getElem? (i := 39) (by decide +kernel), List.mem_of_getElem? (i := 597) (by decide +kernel), List.mem_of_getElem? (i := 598) (by decide +kernel)⟩
theorem lw_p11 : lw_okq (⟨"GalleonWave", "passHour", "()V"⟩, 11) := ⟨⟨by decide +kernel, by decide +kernel⟩, List.mem_of_getElem? (i := 39) (by decide +kernel), List.mem_of_getElem? (i := 693) (by decide +kernel), List.mem_of_getElem? (i := 694) (by decide +kernel)⟩
theorem lw_p12 : lw_okq (⟨"GalleonWave", "runGenerators", "()V"⟩, 11) := ⟨⟨by decide +kernel, by decide +kernel⟩, List.mem_of_getElem? (i := 39) (by decide +kernel), List.mem_of_getElem? (i := 697) (by decide +kernel), List.mem_of_getElem? (i := 698) (by decide +kernel)⟩
theorem lw_p13 : lw_okq (⟨"GalleonWave", "goOnAir", "()V"⟩, 11) := ⟨⟨by decide +kernel, by decide +kernel⟩, List.mem_of_getElem? (i := 39) (by decide +kernel), List.mem_of_getElem? (i := 709) (by decide +kernel), List.mem_of_getElem? (i := 710) (by decide +kernel)⟩
theorem lw_p14 : lw_okq (⟨"GalleonWave", "listen", "()V"⟩, 11) := ⟨⟨by decide +kernel, by decide +kernel⟩, List.mem_of_getElem? (i := 39) (by decide +kernel), List.mem_of_getElem? (i := 718) (by decide +kernel), List.mem_of_getElem? (i := 719) (by decide +kernel)⟩
theorem lw_p15 : lw_okq (⟨"GalleonWave", "strongestHeard", "(LGalleonWave$Town;)I"⟩, 11) := ⟨⟨by decide +kernel, by decide +kernel⟩, List.mem_of_getElem? (i := 39) (by decide +kernel), List.mem_of_getElem? (i := 722) (by decide +kernel), List.mem_of_getElem? (i := 723) (by decide +kernel)⟩
def lw_privs_1 : List (MethodName × Nat) := [(⟨"GalleonWave", "areKeptHoursSound", "()Z"⟩, 11), (⟨"GalleonWave", "isKeptHourSound", "(LGalleonWave$Kept;I)Z"⟩, 11), (⟨"GalleonWave", "isPerson", "(I)Z"⟩, 11), (⟨"GalleonWave", "areCrewsSound", "()Z"⟩, 11), (⟨"GalleonWave", "countCrew", "(I)I"⟩, 11), (⟨"GalleonWave", "countAboard", "()I"⟩, 11), (⟨"java/lang/Throwable", "fillInStackTrace", "(I)Ljava/lang/Throwable;"⟩, 6), (⟨"java/util/ArrayList", "add", "(Ljava/lang/Object;[Ljava/lang/Object;I)V"⟩, 3), (⟨"java/util/ArrayList", "grow", "()[Ljava/lang/Object;"⟩, 3), (⟨"java/util/ArrayList", "grow", "(I)[Ljava/lang/Object;"⟩, 3), (⟨"GalleonWave", "landAt", "(I)LGalleonWave$Land;"⟩, 11), (⟨"GalleonWave", "passHour", "()V"⟩, 11), (⟨"GalleonWave", "runGenerators", "()V"⟩, 11), (⟨"GalleonWave", "goOnAir", "()V"⟩, 11), (⟨"GalleonWave", "listen", "()V"⟩, 11), (⟨"GalleonWave", "strongestHeard", "(LGalleonWave$Town;)I"⟩, 11)]
theorem lw_r1 : ∀ q ∈ lw_privs_1, lw_okq q := List.forall_mem_cons.mpr ⟨lw_p0, List.forall_mem_cons.mpr ⟨lw_p1, List.forall_mem_cons.mpr ⟨lw_p2, List.forall_mem_cons.mpr ⟨lw_p3, List.forall_mem_cons.mpr ⟨lw_p4, List.forall_mem_cons.mpr ⟨lw_p5, List.forall_mem_cons.mpr ⟨lw_p6, List.forall_mem_cons.mpr ⟨lw_p7, List.forall_mem_cons.mpr ⟨lw_p8, List.forall_mem_cons.mpr ⟨lw_p9, List.forall_mem_cons.mpr ⟨lw_p10, List.forall_mem_cons.mpr ⟨lw_p11, List.forall_mem_cons.mpr ⟨lw_p12, List.forall_mem_cons.mpr ⟨lw_p13, List.forall_mem_cons.mpr ⟨lw_p14, List.forall_mem_cons.mpr ⟨lw_p15, fun _ h => absurd h List.not_mem_nil⟩⟩⟩⟩⟩⟩⟩⟩⟩⟩⟩⟩⟩⟩⟩⟩
theorem lw_p16 : lw_okq (⟨"GalleonWave", "signalOf", "(LGalleonWave$Ship;LGalleonWave$Town;)I"⟩, 11) := ⟨⟨by decide +kernel, by decide +kernel⟩, List.mem_of_getElem? (i := 39) (by decide +kernel), List.mem_of_getElem? (i := 726) (by decide +kernel), List.mem_of_getElem? (i := 727) (by decide +kernel)⟩
theorem lw_p17 : lw_okq (⟨"GalleonWave", "disturbance", "(IILGalleonWave$Town;)I"⟩, 11) := ⟨⟨by decide +kernel, by decide +kernel⟩, List.mem_of_getElem? (i := 39) (by decide +kernel), List.mem_of_getElem? (i := 745) (by decide +kernel), List.mem_of_getElem? (i := 746) (by decide +kernel)⟩
theorem lw_p18 : lw_okq (⟨"GalleonWave", "playSpots", "()V"⟩, 11) := ⟨⟨by decide +kernel, by decide +kernel⟩, List.mem_of_getElem? (i := 39) (by decide +kernel), List.mem_of_getElem? (i := 749) (by decide +kernel), List.mem_of_getElem? (i := 750) (by decide +kernel)⟩
theorem lw_p19 : lw_okq (⟨"GalleonWave", "landAround", "(LGalleonWave$Ship;)I"⟩, 11) := ⟨⟨by decide +kernel, by decide +kernel⟩, List.mem_of_getElem? (i := 39) (by decide +kernel), List.mem_of_getElem? (i := 753) (by decide +kernel), List.mem_of_getElem? (i := 754) (by decide +kernel)⟩
theorem lw_p20 : lw_okq (⟨"GalleonWave", "isInsideLine", "(LGalleonWave$Land;LGalleonWave$Ship;)Z"⟩, 11) := ⟨⟨by decide +kernel, by decide +kernel⟩, List.mem_of_getElem? (i := 39) (by decide +kernel), List.mem_of_getElem? (i := 757) (by decide +kernel), List.mem_of_getElem? (i := 758) (by decide +kernel)⟩
theorem lw_p21 : lw_okq (⟨"GalleonWave", "countPayingThousands", "(II)I"⟩, 11) := ⟨⟨by decide +kernel, by decide +kernel⟩, List.mem_of_getElem? (i := 39) (by decide +kernel), List.mem_of_getElem? (i := 761) (by decide +kernel), List.mem_of_getElem? (i := 762) (by decide +kernel)⟩
theorem lw_p22 : lw_okq (⟨"GalleonWave", "isForbidden", "(II)Z"⟩, 11) := ⟨⟨by decide +kernel, by decide +kernel⟩, List.mem_of_getElem? (i := 39) (by decide +kernel), List.mem_of_getElem? (i := 765) (by decide +kernel), List.mem_of_getElem? (i := 766) (by decide +kernel)⟩
theorem lw_p23 : lw_okq (⟨"GalleonWave", "speak", "()V"⟩, 11) := ⟨⟨by decide +kernel, by decide +kernel⟩, List.mem_of_getElem? (i := 39) (by decide +kernel), List.mem_of_getElem? (i := 777) (by decide +kernel), List.mem_of_getElem? (i := 778) (by decide +kernel)⟩
theorem lw_p24 : lw_okq (⟨"GalleonWave", "chooseSpeaker", "(ILGalleonWave$Programme;)I"⟩, 11) := ⟨⟨by decide +kernel, by decide +kernel⟩, List.mem_of_getElem? (i := 39) (by decide +kernel), List.mem_of_getElem? (i := 781) (by decide +kernel), List.mem_of_getElem? (i := 782) (by decide +kernel)⟩
theorem lw_p25 : lw_okq (⟨"GalleonWave", "canSpeak", "(II)Z"⟩, 11) := ⟨⟨by decide +kernel, by decide +kernel⟩, List.mem_of_getElem? (i := 39) (by decide +kernel), List.mem_of_getElem? (i := 789) (by decide +kernel), List.mem_of_getElem? (i := 790) (by decide +kernel)⟩
theorem lw_p26 : lw_okq (⟨"GalleonWave", "commitOffence", "(III)V"⟩, 11) := ⟨⟨by decide +kernel, by decide +kernel⟩, List.mem_of_getElem? (i := 39) (by decide +kernel), List.mem_of_getElem? (i := 801) (by decide +kernel), List.mem_of_getElem? (i := 802) (by decide +kernel)⟩
theorem lw_p27 : lw_okq (⟨"GalleonWave", "addEvidence", "(I)V"⟩, 11) := ⟨⟨by decide +kernel, by decide +kernel⟩, List.mem_of_getElem? (i := 39) (by decide +kernel), List.mem_of_getElem? (i := 805) (by decide +kernel), List.mem_of_getElem? (i := 806) (by decide +kernel)⟩
theorem lw_p28 : lw_okq (⟨"GalleonWave", "keepHour", "()V"⟩, 11) := ⟨⟨by decide +kernel, by decide +kernel⟩, List.mem_of_getElem? (i := 39) (by decide +kernel), List.mem_of_getElem? (i := 809) (by decide +kernel), List.mem_of_getElem? (i := 810) (by decide +kernel)⟩
theorem lw_p29 : lw_okq (⟨"GalleonWave", "eatAndTire", "()V"⟩, 11) := ⟨⟨by decide +kernel, by decide +kernel⟩, List.mem_of_getElem? (i := 39) (by decide +kernel), List.mem_of_getElem? (i := 817) (by decide +kernel), List.mem_of_getElem? (i := 818) (by decide +kernel)⟩
theorem lw_p30 : lw_okq (⟨"GalleonWave", "gatherSalt", "()V"⟩, 11) := ⟨⟨by decide +kernel, by decide +kernel⟩, List.mem_of_getElem? (i := 39) (by decide +kernel), List.mem_of_getElem? (i := 825) (by decide +kernel), List.mem_of_getElem? (i := 826) (by decide +kernel)⟩
theorem lw_p31 : lw_okq (⟨"GalleonWave", "moveShips", "()V"⟩, 11) := ⟨⟨by decide +kernel, by decide +kernel⟩, List.mem_of_getElem? (i := 39) (by decide +kernel), List.mem_of_getElem? (i := 830) (by decide +kernel), List.mem_of_getElem? (i := 831) (by decide +kernel)⟩
def lw_privs_2 : List (MethodName × Nat) := [(⟨"GalleonWave", "signalOf", "(LGalleonWave$Ship;LGalleonWave$Town;)I"⟩, 11), (⟨"GalleonWave", "disturbance", "(IILGalleonWave$Town;)I"⟩, 11), (⟨"GalleonWave", "playSpots", "()V"⟩, 11), (⟨"GalleonWave", "landAround", "(LGalleonWave$Ship;)I"⟩, 11), (⟨"GalleonWave", "isInsideLine", "(LGalleonWave$Land;LGalleonWave$Ship;)Z"⟩, 11), (⟨"GalleonWave", "countPayingThousands", "(II)I"⟩, 11), (⟨"GalleonWave", "isForbidden", "(II)Z"⟩, 11), (⟨"GalleonWave", "speak", "()V"⟩, 11), (⟨"GalleonWave", "chooseSpeaker", "(ILGalleonWave$Programme;)I"⟩, 11), (⟨"GalleonWave", "canSpeak", "(II)Z"⟩, 11), (⟨"GalleonWave", "commitOffence", "(III)V"⟩, 11), (⟨"GalleonWave", "addEvidence", "(I)V"⟩, 11), (⟨"GalleonWave", "keepHour", "()V"⟩, 11), (⟨"GalleonWave", "eatAndTire", "()V"⟩, 11), (⟨"GalleonWave", "gatherSalt", "()V"⟩, 11), (⟨"GalleonWave", "moveShips", "()V"⟩, 11)]
theorem lw_r2 : ∀ q ∈ lw_privs_2, lw_okq q := List.forall_mem_cons.mpr ⟨lw_p16, List.forall_mem_cons.mpr ⟨lw_p17, List.forall_mem_cons.mpr ⟨lw_p18, List.forall_mem_cons.mpr ⟨lw_p19, List.forall_mem_cons.mpr ⟨lw_p20, List.forall_mem_cons.mpr ⟨lw_p21, List.forall_mem_cons.mpr ⟨lw_p22, List.forall_mem_cons.mpr ⟨lw_p23, List.forall_mem_cons.mpr ⟨lw_p24, List.forall_mem_cons.mpr ⟨lw_p25, List.forall_mem_cons.mpr ⟨lw_p26, List.forall_mem_cons.mpr ⟨lw_p27, List.forall_mem_cons.mpr ⟨lw_p28, List.forall_mem_cons.mpr ⟨lw_p29, List.forall_mem_cons.mpr ⟨lw_p30, List.forall_mem_cons.mpr ⟨lw_p31, fun _ h => absurd h List.not_mem_nil⟩⟩⟩⟩⟩⟩⟩⟩⟩⟩⟩⟩⟩⟩⟩⟩
theorem lw_p32 : lw_okq (⟨"GalleonWave", "isStranded", "(LGalleonWave$Ship;)Z"⟩, 11) := ⟨⟨by decide +kernel, by decide +kernel⟩, List.mem_of_getElem? (i := 39) (by decide +kernel), List.mem_of_getElem? (i := 834) (by decide +kernel), List.mem_of_getElem? (i := 835) (by decide +kernel)⟩
theorem lw_p33 : lw_okq (⟨"GalleonWave", "moveShip", "(LGalleonWave$Ship;)V"⟩, 11) := ⟨⟨by decide +kernel, by decide +kernel⟩, List.mem_of_getElem? (i := 39) (by decide +kernel), List.mem_of_getElem? (i := 838) (by decide +kernel), List.mem_of_getElem? (i := 839) (by decide +kernel)⟩
theorem lw_p34 : lw_okq (⟨"GalleonWave", "windEast", "()I"⟩, 11) := ⟨⟨by decide +kernel, by decide +kernel⟩, List.mem_of_getElem? (i := 39) (by decide +kernel), List.mem_of_getElem? (i := 842) (by decide +kernel), List.mem_of_getElem? (i := 843) (by decide +kernel)⟩
theorem lw_p35 : lw_okq (⟨"GalleonWave", "windNorth", "()I"⟩, 11) := ⟨⟨by decide +kernel, by decide +kernel⟩, List.mem_of_getElem? (i := 39) (by decide +kernel), List.mem_of_getElem? (i := 846) (by decide +kernel), List.mem_of_getElem? (i := 847) (by decide +kernel)⟩
theorem lw_p36 : lw_okq (⟨"GalleonWave", "shipAt", "(I)LGalleonWave$Ship;"⟩, 11) := ⟨⟨by decide +kernel, by decide +kernel⟩, List.mem_of_getElem? (i := 39) (by decide +kernel), List.mem_of_getElem? (i := 1009) (by decide +kernel), List.mem_of_getElem? (i := 1010) (by decide +kernel)⟩
theorem lw_p37 : lw_okq (⟨"GalleonWave", "townAt", "(I)LGalleonWave$Town;"⟩, 11) := ⟨⟨by decide +kernel, by decide +kernel⟩, List.mem_of_getElem? (i := 39) (by decide +kernel), List.mem_of_getElem? (i := 1169) (by decide +kernel), List.mem_of_getElem? (i := 1170) (by decide +kernel)⟩
theorem lw_p38 : lw_okq (⟨"GalleonWave", "personAt", "(I)LGalleonWave$Person;"⟩, 11) := ⟨⟨by decide +kernel, by decide +kernel⟩, List.mem_of_getElem? (i := 39) (by decide +kernel), List.mem_of_getElem? (i := 1228) (by decide +kernel), List.mem_of_getElem? (i := 1229) (by decide +kernel)⟩
theorem lw_p39 : lw_okq (⟨"GalleonWave", "countBooked", "(I)I"⟩, 11) := ⟨⟨by decide +kernel, by decide +kernel⟩, List.mem_of_getElem? (i := 39) (by decide +kernel), List.mem_of_getElem? (i := 1258) (by decide +kernel), List.mem_of_getElem? (i := 1259) (by decide +kernel)⟩
theorem lw_p40 : lw_okq (⟨"GalleonWave", "takeTiredAshore", "(I)V"⟩, 11) := ⟨⟨by decide +kernel, by decide +kernel⟩, List.mem_of_getElem? (i := 39) (by decide +kernel), List.mem_of_getElem? (i := 1270) (by decide +kernel), List.mem_of_getElem? (i := 1271) (by decide +kernel)⟩
theorem lw_p41 : lw_okq (⟨"GalleonWave", "takeBookedAboard", "(II)V"⟩, 11) := ⟨⟨by decide +kernel, by decide +kernel⟩, List.mem_of_getElem? (i := 39) (by decide +kernel), List.mem_of_getElem? (i := 1278) (by decide +kernel), List.mem_of_getElem? (i := 1279) (by decide +kernel)⟩
theorem lw_p42 : lw_okq (⟨"GalleonWave", "isPersonOrTape", "(I)Z"⟩, 11) := ⟨⟨by decide +kernel, by decide +kernel⟩, List.mem_of_getElem? (i := 39) (by decide +kernel), List.mem_of_getElem? (i := 1293) (by decide +kernel), List.mem_of_getElem? (i := 1294) (by decide +kernel)⟩
theorem lw_p43 : lw_okq (⟨"GalleonWave", "requireRecording", "(I)V"⟩, 11) := ⟨⟨by decide +kernel, by decide +kernel⟩, List.mem_of_getElem? (i := 39) (by decide +kernel), List.mem_of_getElem? (i := 1431) (by decide +kernel), List.mem_of_getElem? (i := 1432) (by decide +kernel)⟩
theorem lw_p44 : lw_okq (⟨"GalleonWaveModel", "isThrown", "(ZI)Z"⟩, 59) := ⟨⟨by decide +kernel, by decide +kernel⟩, List.mem_of_getElem? (i := 1507) (by decide +kernel), List.mem_of_getElem? (i := 1714) (by decide +kernel), List.mem_of_getElem? (i := 1715) (by decide +kernel)⟩
theorem lw_p45 : lw_okq (⟨"GalleonWaveModel", "isNoLand", "(I)Z"⟩, 59) := ⟨⟨by decide +kernel, by decide +kernel⟩, List.mem_of_getElem? (i := 1507) (by decide +kernel), List.mem_of_getElem? (i := 1722) (by decide +kernel), List.mem_of_getElem? (i := 1723) (by decide +kernel)⟩
theorem lw_p46 : lw_okq (⟨"GalleonWaveModel", "actOf", "(II)I"⟩, 59) := ⟨⟨by decide +kernel, by decide +kernel⟩, List.mem_of_getElem? (i := 1507) (by decide +kernel), List.mem_of_getElem? (i := 1731) (by decide +kernel), List.mem_of_getElem? (i := 1732) (by decide +kernel)⟩
theorem lw_p47 : lw_okq (⟨"GalleonWaveModel", "isNoShip", "(I)Z"⟩, 59) := ⟨⟨by decide +kernel, by decide +kernel⟩, List.mem_of_getElem? (i := 1507) (by decide +kernel), List.mem_of_getElem? (i := 1845) (by decide +kernel), List.mem_of_getElem? (i := 1846) (by decide +kernel)⟩
def lw_privs_3 : List (MethodName × Nat) := [(⟨"GalleonWave", "isStranded", "(LGalleonWave$Ship;)Z"⟩, 11), (⟨"GalleonWave", "moveShip", "(LGalleonWave$Ship;)V"⟩, 11), (⟨"GalleonWave", "windEast", "()I"⟩, 11), (⟨"GalleonWave", "windNorth", "()I"⟩, 11), (⟨"GalleonWave", "shipAt", "(I)LGalleonWave$Ship;"⟩, 11), (⟨"GalleonWave", "townAt", "(I)LGalleonWave$Town;"⟩, 11), (⟨"GalleonWave", "personAt", "(I)LGalleonWave$Person;"⟩, 11), (⟨"GalleonWave", "countBooked", "(I)I"⟩, 11), (⟨"GalleonWave", "takeTiredAshore", "(I)V"⟩, 11), (⟨"GalleonWave", "takeBookedAboard", "(II)V"⟩, 11), (⟨"GalleonWave", "isPersonOrTape", "(I)Z"⟩, 11), (⟨"GalleonWave", "requireRecording", "(I)V"⟩, 11), (⟨"GalleonWaveModel", "isThrown", "(ZI)Z"⟩, 59), (⟨"GalleonWaveModel", "isNoLand", "(I)Z"⟩, 59), (⟨"GalleonWaveModel", "actOf", "(II)I"⟩, 59), (⟨"GalleonWaveModel", "isNoShip", "(I)Z"⟩, 59)]
theorem lw_r3 : ∀ q ∈ lw_privs_3, lw_okq q := List.forall_mem_cons.mpr ⟨lw_p32, List.forall_mem_cons.mpr ⟨lw_p33, List.forall_mem_cons.mpr ⟨lw_p34, List.forall_mem_cons.mpr ⟨lw_p35, List.forall_mem_cons.mpr ⟨lw_p36, List.forall_mem_cons.mpr ⟨lw_p37, List.forall_mem_cons.mpr ⟨lw_p38, List.forall_mem_cons.mpr ⟨lw_p39, List.forall_mem_cons.mpr ⟨lw_p40, List.forall_mem_cons.mpr ⟨lw_p41, List.forall_mem_cons.mpr ⟨lw_p42, List.forall_mem_cons.mpr ⟨lw_p43, List.forall_mem_cons.mpr ⟨lw_p44, List.forall_mem_cons.mpr ⟨lw_p45, List.forall_mem_cons.mpr ⟨lw_p46, List.forall_mem_cons.mpr ⟨lw_p47, fun _ h => absurd h List.not_mem_nil⟩⟩⟩⟩⟩⟩⟩⟩⟩⟩⟩⟩⟩⟩⟩⟩
theorem lw_p48 : lw_okq (⟨"GalleonWaveModel", "insideOf", "(I)I"⟩, 59) := ⟨⟨by decide +kernel, by decide +kernel⟩, List.mem_of_getElem? (i := 1507) (by decide +kernel), List.mem_of_getElem? (i := 1853) (by decide +kernel), List.mem_of_getElem? (i := 1854) (by decide +kernel)⟩
theorem lw_p49 : lw_okq (⟨"GalleonWaveModel", "isInside", "(II)Z"⟩, 59) := ⟨⟨by decide +kernel, by decide +kernel⟩, List.mem_of_getElem? (i := 1507) (by decide +kernel), List.mem_of_getElem? (i := 1857) (by decide +kernel), List.mem_of_getElem? (i := 1858) (by decide +kernel)⟩
theorem lw_p50 : lw_okq (⟨"GalleonWaveModel", "isAgroundNow", "(I)Z"⟩, 59) := ⟨⟨by decide +kernel, by decide +kernel⟩, List.mem_of_getElem? (i := 1507) (by decide +kernel), List.mem_of_getElem? (i := 1871) (by decide +kernel), List.mem_of_getElem? (i := 1872) (by decide +kernel)⟩
theorem lw_p51 : lw_okq (⟨"GalleonWaveModel", "crewOf", "(I)I"⟩, 59) := ⟨⟨by decide +kernel, by decide +kernel⟩, List.mem_of_getElem? (i := 1507) (by decide +kernel), List.mem_of_getElem? (i := 1913) (by decide +kernel), List.mem_of_getElem? (i := 1914) (by decide +kernel)⟩
theorem lw_p52 : lw_okq (⟨"GalleonWaveModel", "runsGenerators", "(I)V"⟩, 59) := ⟨⟨by decide +kernel, by decide +kernel⟩, List.mem_of_getElem? (i := 1507) (by decide +kernel), List.mem_of_getElem? (i := 1929) (by decide +kernel), List.mem_of_getElem? (i := 1930) (by decide +kernel)⟩
theorem lw_p53 : lw_okq (⟨"GalleonWaveModel", "canBeOnAir", "(I)Z"⟩, 59) := ⟨⟨by decide +kernel, by decide +kernel⟩, List.mem_of_getElem? (i := 1507) (by decide +kernel), List.mem_of_getElem? (i := 1933) (by decide +kernel), List.mem_of_getElem? (i := 1934) (by decide +kernel)⟩
theorem lw_p54 : lw_okq (⟨"GalleonWaveModel", "listens", "(I)V"⟩, 59) := ⟨⟨by decide +kernel, by decide +kernel⟩, List.mem_of_getElem? (i := 1507) (by decide +kernel), List.mem_of_getElem? (i := 1937) (by decide +kernel), List.mem_of_getElem? (i := 1938) (by decide +kernel)⟩
theorem lw_p55 : lw_okq (⟨"GalleonWaveModel", "isHeard", "(II)Z"⟩, 59) := ⟨⟨by decide +kernel, by decide +kernel⟩, List.mem_of_getElem? (i := 1507) (by decide +kernel), List.mem_of_getElem? (i := 1941) (by decide +kernel), List.mem_of_getElem? (i := 1942) (by decide +kernel)⟩
theorem lw_p56 : lw_okq (⟨"GalleonWaveModel", "signalOf", "(II)I"⟩, 59) := ⟨⟨by decide +kernel, by decide +kernel⟩, List.mem_of_getElem? (i := 1507) (by decide +kernel), List.mem_of_getElem? (i := 1945) (by decide +kernel), List.mem_of_getElem? (i := 1946) (by decide +kernel)⟩
theorem lw_p57 : lw_okq (⟨"GalleonWaveModel", "isDay", "()Z"⟩, 59) := ⟨⟨by decide +kernel, by decide +kernel⟩, List.mem_of_getElem? (i := 1507) (by decide +kernel), List.mem_of_getElem? (i := 1949) (by decide +kernel), List.mem_of_getElem? (i := 1950) (by decide +kernel)⟩
theorem lw_p58 : lw_okq (⟨"GalleonWaveModel", "playsSpot", "(I)V"⟩, 59) := ⟨⟨by decide +kernel, by decide +kernel⟩, List.mem_of_getElem? (i := 1507) (by decide +kernel), List.mem_of_getElem? (i := 1953) (by decide +kernel), List.mem_of_getElem? (i := 1954) (by decide +kernel)⟩
theorem lw_p59 : lw_okq (⟨"GalleonWaveModel", "forbids", "(II)Z"⟩, 59) := ⟨⟨by decide +kernel, by decide +kernel⟩, List.mem_of_getElem? (i := 1507) (by decide +kernel), List.mem_of_getElem? (i := 1957) (by decide +kernel), List.mem_of_getElem? (i := 1958) (by decide +kernel)⟩
theorem lw_p60 : lw_okq (⟨"GalleonWaveModel", "speaks", "(I)V"⟩, 59) := ⟨⟨by decide +kernel, by decide +kernel⟩, List.mem_of_getElem? (i := 1507) (by decide +kernel), List.mem_of_getElem? (i := 1961) (by decide +kernel), List.mem_of_getElem? (i := 1962) (by decide +kernel)⟩
theorem lw_p61 : lw_okq (⟨"GalleonWaveModel", "speakerOf", "(I)I"⟩, 59) := ⟨⟨by decide +kernel, by decide +kernel⟩, List.mem_of_getElem? (i := 1507) (by decide +kernel), List.mem_of_getElem? (i := 1965) (by decide +kernel), List.mem_of_getElem? (i := 1966) (by decide +kernel)⟩
theorem lw_p62 : lw_okq (⟨"GalleonWaveModel", "canSpeak", "(II)Z"⟩, 59) := ⟨⟨by decide +kernel, by decide +kernel⟩, List.mem_of_getElem? (i := 1507) (by decide +kernel), List.mem_of_getElem? (i := 1969) (by decide +kernel), List.mem_of_getElem? (i := 1970) (by decide +kernel)⟩
theorem lw_p63 : lw_okq (⟨"GalleonWaveModel", "isPlannedElse", "(II)Z"⟩, 59) := ⟨⟨by decide +kernel, by decide +kernel⟩, List.mem_of_getElem? (i := 1507) (by decide +kernel), List.mem_of_getElem? (i := 1973) (by decide +kernel), List.mem_of_getElem? (i := 1974) (by decide +kernel)⟩
def lw_privs_4 : List (MethodName × Nat) := [(⟨"GalleonWaveModel", "insideOf", "(I)I"⟩, 59), (⟨"GalleonWaveModel", "isInside", "(II)Z"⟩, 59), (⟨"GalleonWaveModel", "isAgroundNow", "(I)Z"⟩, 59), (⟨"GalleonWaveModel", "crewOf", "(I)I"⟩, 59), (⟨"GalleonWaveModel", "runsGenerators", "(I)V"⟩, 59), (⟨"GalleonWaveModel", "canBeOnAir", "(I)Z"⟩, 59), (⟨"GalleonWaveModel", "listens", "(I)V"⟩, 59), (⟨"GalleonWaveModel", "isHeard", "(II)Z"⟩, 59), (⟨"GalleonWaveModel", "signalOf", "(II)I"⟩, 59), (⟨"GalleonWaveModel", "isDay", "()Z"⟩, 59), (⟨"GalleonWaveModel", "playsSpot", "(I)V"⟩, 59), (⟨"GalleonWaveModel", "forbids", "(II)Z"⟩, 59), (⟨"GalleonWaveModel", "speaks", "(I)V"⟩, 59), (⟨"GalleonWaveModel", "speakerOf", "(I)I"⟩, 59), (⟨"GalleonWaveModel", "canSpeak", "(II)Z"⟩, 59), (⟨"GalleonWaveModel", "isPlannedElse", "(II)Z"⟩, 59)]
theorem lw_r4 : ∀ q ∈ lw_privs_4, lw_okq q := List.forall_mem_cons.mpr ⟨lw_p48, List.forall_mem_cons.mpr ⟨lw_p49, List.forall_mem_cons.mpr ⟨lw_p50, List.forall_mem_cons.mpr ⟨lw_p51, List.forall_mem_cons.mpr ⟨lw_p52, List.forall_mem_cons.mpr ⟨lw_p53, List.forall_mem_cons.mpr ⟨lw_p54, List.forall_mem_cons.mpr ⟨lw_p55, List.forall_mem_cons.mpr ⟨lw_p56, List.forall_mem_cons.mpr ⟨lw_p57, List.forall_mem_cons.mpr ⟨lw_p58, List.forall_mem_cons.mpr ⟨lw_p59, List.forall_mem_cons.mpr ⟨lw_p60, List.forall_mem_cons.mpr ⟨lw_p61, List.forall_mem_cons.mpr ⟨lw_p62, List.forall_mem_cons.mpr ⟨lw_p63, fun _ h => absurd h List.not_mem_nil⟩⟩⟩⟩⟩⟩⟩⟩⟩⟩⟩⟩⟩⟩⟩⟩
theorem lw_p64 : lw_okq (⟨"GalleonWaveModel", "offends", "(III)V"⟩, 59) := ⟨⟨by decide +kernel, by decide +kernel⟩, List.mem_of_getElem? (i := 1507) (by decide +kernel), List.mem_of_getElem? (i := 1977) (by decide +kernel), List.mem_of_getElem? (i := 1978) (by decide +kernel)⟩
theorem lw_p65 : lw_okq (⟨"java/util/ArrayList", "fastRemove", "([Ljava/lang/Object;I)V"⟩, 3) := ⟨⟨by decide +kernel, by decide +kernel⟩, List.mem_of_getElem? (i := 47) (by decide +kernel), List.mem_of_getElem? (i := 1987) (by decide +kernel), List.mem_of_getElem? (i := 1988) (by decide +kernel)⟩
theorem lw_p66 : lw_okq (⟨"GalleonWaveModel", "eats", "(I)V"⟩, 59) := ⟨⟨by decide +kernel, by decide +kernel⟩, List.mem_of_getElem? (i := 1507) (by decide +kernel), List.mem_of_getElem? (i := 1992) (by decide +kernel), List.mem_of_getElem? (i := 1993) (by decide +kernel)⟩
theorem lw_p67 : lw_okq (⟨"GalleonWaveModel", "moves", "(I)V"⟩, 59) := ⟨⟨by decide +kernel, by decide +kernel⟩, List.mem_of_getElem? (i := 1507) (by decide +kernel), List.mem_of_getElem? (i := 1997) (by decide +kernel), List.mem_of_getElem? (i := 1998) (by decide +kernel)⟩
theorem lw_p68 : lw_okq (⟨"GalleonWaveModel", "isNoTown", "(I)Z"⟩, 59) := ⟨⟨by decide +kernel, by decide +kernel⟩, List.mem_of_getElem? (i := 1507) (by decide +kernel), List.mem_of_getElem? (i := 2012) (by decide +kernel), List.mem_of_getElem? (i := 2013) (by decide +kernel)⟩
theorem lw_p69 : lw_okq (⟨"GalleonWaveModel", "isNobody", "(I)Z"⟩, 59) := ⟨⟨by decide +kernel, by decide +kernel⟩, List.mem_of_getElem? (i := 1507) (by decide +kernel), List.mem_of_getElem? (i := 2032) (by decide +kernel), List.mem_of_getElem? (i := 2033) (by decide +kernel)⟩
theorem lw_p70 : lw_okq (⟨"GalleonWaveModel", "isTiredNow", "(I)Z"⟩, 59) := ⟨⟨by decide +kernel, by decide +kernel⟩, List.mem_of_getElem? (i := 1507) (by decide +kernel), List.mem_of_getElem? (i := 2040) (by decide +kernel), List.mem_of_getElem? (i := 2041) (by decide +kernel)⟩
theorem lw_p71 : lw_okq (⟨"GalleonWaveModel", "isNoRecording", "(I)Z"⟩, 59) := ⟨⟨by decide +kernel, by decide +kernel⟩, List.mem_of_getElem? (i := 1507) (by decide +kernel), List.mem_of_getElem? (i := 2108) (by decide +kernel), List.mem_of_getElem? (i := 2109) (by decide +kernel)⟩
theorem lw_p72 : lw_okq (⟨"GalleonWaveModel", "leads", "(II)Z"⟩, 59) := ⟨⟨by decide +kernel, by decide +kernel⟩, List.mem_of_getElem? (i := 1507) (by decide +kernel), List.mem_of_getElem? (i := 2112) (by decide +kernel), List.mem_of_getElem? (i := 2113) (by decide +kernel)⟩
theorem lw_p73 : lw_okq (⟨"GalleonWaveModel", "isLike", "(II)Z"⟩, 59) := ⟨⟨by decide +kernel, by decide +kernel⟩, List.mem_of_getElem? (i := 1507) (by decide +kernel), List.mem_of_getElem? (i := 2120) (by decide +kernel), List.mem_of_getElem? (i := 2121) (by decide +kernel)⟩
theorem lw_p74 : lw_okq (⟨"GalleonWaveModel", "dateOf", "(IZ)I"⟩, 59) := ⟨⟨by decide +kernel, by decide +kernel⟩, List.mem_of_getElem? (i := 1507) (by decide +kernel), List.mem_of_getElem? (i := 2129) (by decide +kernel), List.mem_of_getElem? (i := 2130) (by decide +kernel)⟩
theorem lw_p75 : lw_okq (⟨"GalleonWaveModel", "inOrder", "()[I"⟩, 59) := ⟨⟨by decide +kernel, by decide +kernel⟩, List.mem_of_getElem? (i := 1507) (by decide +kernel), List.mem_of_getElem? (i := 2133) (by decide +kernel), List.mem_of_getElem? (i := 2134) (by decide +kernel)⟩
theorem lw_p76 : lw_okq (⟨"GalleonWaveModel", "depthOf", "(I)I"⟩, 59) := ⟨⟨by decide +kernel, by decide +kernel⟩, List.mem_of_getElem? (i := 1507) (by decide +kernel), List.mem_of_getElem? (i := 2137) (by decide +kernel), List.mem_of_getElem? (i := 2138) (by decide +kernel)⟩
theorem lw_p77 : lw_okq (⟨"GalleonWaveModel", "canDate", "([II[I)Z"⟩, 59) := ⟨⟨by decide +kernel, by decide +kernel⟩, List.mem_of_getElem? (i := 1507) (by decide +kernel), List.mem_of_getElem? (i := 2141) (by decide +kernel), List.mem_of_getElem? (i := 2142) (by decide +kernel)⟩
def lw_privs_5 : List (MethodName × Nat) := [(⟨"GalleonWaveModel", "offends", "(III)V"⟩, 59), (⟨"java/util/ArrayList", "fastRemove", "([Ljava/lang/Object;I)V"⟩, 3), (⟨"GalleonWaveModel", "eats", "(I)V"⟩, 59), (⟨"GalleonWaveModel", "moves", "(I)V"⟩, 59), (⟨"GalleonWaveModel", "isNoTown", "(I)Z"⟩, 59), (⟨"GalleonWaveModel", "isNobody", "(I)Z"⟩, 59), (⟨"GalleonWaveModel", "isTiredNow", "(I)Z"⟩, 59), (⟨"GalleonWaveModel", "isNoRecording", "(I)Z"⟩, 59), (⟨"GalleonWaveModel", "leads", "(II)Z"⟩, 59), (⟨"GalleonWaveModel", "isLike", "(II)Z"⟩, 59), (⟨"GalleonWaveModel", "dateOf", "(IZ)I"⟩, 59), (⟨"GalleonWaveModel", "inOrder", "()[I"⟩, 59), (⟨"GalleonWaveModel", "depthOf", "(I)I"⟩, 59), (⟨"GalleonWaveModel", "canDate", "([II[I)Z"⟩, 59)]
theorem lw_r5 : ∀ q ∈ lw_privs_5, lw_okq q := List.forall_mem_cons.mpr ⟨lw_p64, List.forall_mem_cons.mpr ⟨lw_p65, List.forall_mem_cons.mpr ⟨lw_p66, List.forall_mem_cons.mpr ⟨lw_p67, List.forall_mem_cons.mpr ⟨lw_p68, List.forall_mem_cons.mpr ⟨lw_p69, List.forall_mem_cons.mpr ⟨lw_p70, List.forall_mem_cons.mpr ⟨lw_p71, List.forall_mem_cons.mpr ⟨lw_p72, List.forall_mem_cons.mpr ⟨lw_p73, List.forall_mem_cons.mpr ⟨lw_p74, List.forall_mem_cons.mpr ⟨lw_p75, List.forall_mem_cons.mpr ⟨lw_p76, List.forall_mem_cons.mpr ⟨lw_p77, fun _ h => absurd h List.not_mem_nil⟩⟩⟩⟩⟩⟩⟩⟩⟩⟩⟩⟩⟩⟩
def lw_privs : List (MethodName × Nat) := lw_privs_1 ++ (lw_privs_2 ++ (lw_privs_3 ++ (lw_privs_4 ++ (lw_privs_5))))
def lw_tbl : List Cond := k2_sels lw_privs ++ tables_1
theorem lw_privs_ok : ∀ q ∈ lw_privs, lw_okq q := by
  show ∀ q ∈ lw_privs_1 ++ (lw_privs_2 ++ (lw_privs_3 ++ (lw_privs_4 ++ (lw_privs_5)))), lw_okq q
  exact List.forall_mem_append.mpr ⟨lw_r1, List.forall_mem_append.mpr ⟨lw_r2, List.forall_mem_append.mpr ⟨lw_r3, List.forall_mem_append.mpr ⟨lw_r4, lw_r5⟩⟩⟩⟩
/-- the streams that the claim lets the run draw from -/
abbrev lw_cs : List Choice := [Jvm.Choice.named "NaN.bits"]
theorem lw_bits : nanBits ∈ lw_cs := by first | decide | exact List.mem_cons_self | simp [lw_cs, nanBits]

/-! va_AOA: the printed names speak of it (va_mna), no text of the kit defines it here: mine, after va_AO -/
def va_AOA (t : FieldType) (U : State) : Prop := (Cond.arrayOver (.array t)).before #[] U = true
theorem va_AOA.of {t : FieldType} {A : Array Value} {U : State} (h : (Cond.arrayOver (.array t)).before A U = true) : va_AOA t U := h
theorem va_AOA.use {t : FieldType} {A : Array Value} {U : State} (h : va_AOA t U) : (Cond.arrayOver (.array t)).before A U = true := h
theorem va_AOA.moved {t : FieldType} {u U : State} (hvm : u.vm.Alike U.vm) (h : va_AOA t u) : va_AOA t U := by
  have h0 : (Cond.arrayOver (.array t)).holds #[] u none u [] = true := h
  simp only [Cond.holds, Cond.value, beq_iff_eq] at h0
  cases hc : u.vm.findClass (FieldType.array t).toString with
  | none => simp [hc] at h0
  | some comp =>
    simp only [hc, Option.bind_some, Option.bind_eq_some_iff, Option.map_eq_some_iff] at h0
    obtain ⟨c, h2, k, h3, hb⟩ := h0
    obtain ⟨k', hk', he⟩ := hvm.2.2 _ _ h3
    have hi : (U.vm.classes.findIdx? fun (x : Class) => match x.kind with | .array component _ => component == comp | _ => false) = some c := by
      have e : U.vm.bare = u.vm.bare := by first | exact hvm.bare_eq | exact hvm.bare_eq.symm
      have h9 := va_idx_bare U.vm comp
      have h8 := va_idx_bare u.vm comp
      rw [e] at h9
      exact h9.symm.trans (h8.trans h2)
    have f1 : U.vm.findClass (FieldType.array t).toString = some comp := by rw [hvm.findClass]; exact hc
    have hkind : k'.kind = k.kind := by rw [he]
    unfold va_AOA Cond.before Cond.holds
    simp only [Cond.value]
    rw [f1, Option.bind_some]
    refine (congrArg (fun o : Option Nat => (o.bind (fun c => (U.vm.classes[c]?).map fun (k : Class) => match k.kind with | .array _ ty => decide (ty = FieldType.array t) && decide (U.vm.findClass ("[" ++ (FieldType.array t).toString) = some c) | _ => false) == some true)) hi).trans ?_
    have hf : U.vm.findClass ("[" ++ (FieldType.array t).toString) = u.vm.findClass ("[" ++ (FieldType.array t).toString) := by rw [hvm.findClass]
    simp only [Option.bind_some, hk', Option.map_some, hkind, hf]
    exact (congrArg (fun z : Bool => (some z == some true)) hb).trans rfl
/-! ===== BEGIN words of one list among another's, by their places ===== -/
theorem goodIn_r {big : List Cond} (ws : List Cond) (ps : List Nat) (hp : ws = ps.filterMap (fun i => big[i]?)) (h : ws.all goodWord = true) : GoodIn big ws := by
  intro w hw
  have h1 := List.all_eq_true.mp h w hw
  rw [hp] at hw
  obtain ⟨i, -, hi⟩ := List.mem_filterMap.mp hw
  have hm : w ∈ big := by first | exact List.mem_of_getElem? hi | exact List.getElem?_mem hi
  exact ⟨hm, good_of_word h1⟩
theorem goodIn_app {big a b : List Cond} (ha : GoodIn big a) (hb : GoodIn big b) : GoodIn big (a ++ b) := fun w h => (List.mem_append.mp h).elim (ha w) (hb w)
theorem goodIn_ca {big a b : List Cond} {c : Cond} (ha : GoodIn big (c :: a)) (hb : GoodIn big b) : GoodIn big (c :: (a ++ b)) := fun w h => (List.mem_cons.mp h).elim (fun e => ha w (List.mem_cons.mpr (Or.inl e))) (fun h => (List.mem_append.mp h).elim (fun h => ha w (List.mem_cons.mpr (Or.inr h))) (hb w))
theorem goodIn_sub {big ws : List Cond} (hm : ∀ w ∈ ws, w ∈ big) (h : ws.all goodWord = true) : GoodIn big ws := fun w hw => ⟨hm w hw, good_of_word (List.all_eq_true.mp h w hw)⟩
/-! ===== END ===== -/

/-! ===== BEGIN new T[n][m]: the outer array a place, the inner ones among the pooled ===== -/
/-- f, but v at every address of l -/
def vr_up {α : Type} (f : Nat → α) (l : List Nat) (v : α) : Nat → α := fun a => if a ∈ l then v else f a
theorem vr_up_in {α : Type} {f : Nat → α} {l : List Nat} {v : α} {a : Nat} (h : a ∈ l) : vr_up f l v a = v := if_pos h
theorem vr_up_ne {α : Type} {f : Nat → α} {l : List Nat} {v : α} {a : Nat} (h : a ∉ l) : vr_up f l v a = f a := if_neg h
theorem vr_rows {L l : List Nat} {f : Nat → va_E} {e : va_E} (h : ∀ a, a ∈ l → a ∉ L) : va_pl L f ++ l.map (fun a => (a, e)) = va_pl (L ++ l) (vr_up f l e) := by
  unfold va_pl
  rw [List.map_append]
  congr 1
  · apply List.map_congr_left
    intro a ha
    rw [vr_up_ne (fun q => h a q ha)]
  · apply List.map_congr_left
    intro a ha
    rw [vr_up_in ha]
theorem vr_lay {X rows : va_W} {x : Nat × va_E} {pl : va_W} {D : va_G} {cl : List vw_C} {H : Heap} (hP : va_P D cl (((X ++ pl) ++ [x]) ++ rows) H) : va_P D cl ((X ++ [x]) ++ (pl ++ rows)) H := by
  rw [List.append_assoc (X ++ pl)] at hP
  have h := va_P.swap hP
  rw [← List.append_assoc X] at h
  have h2 := va_P.swap h
  rw [List.append_assoc (X ++ [x])] at h2
  exact h2
theorem vr_layD {X rows : va_W} {x : Nat × va_E} {pl : va_W} {A : Nat → Prop} (hD : va_D A (((X ++ pl) ++ [x]) ++ rows)) : va_D A ((X ++ [x]) ++ (pl ++ rows)) := by
  rw [List.append_assoc (X ++ pl)] at hD
  have h := va_D.swap hD
  rw [← List.append_assoc X] at h
  have h2 := va_D.swap h
  rw [List.append_assoc (X ++ [x])] at h2
  exact h2
theorem vr_outer (c : ClassId) (N h0 : Nat) : ∀ i : Nat, Jvm.Free.Multi.outerC c N h0 i = arrV c N (fun j => va_rf (if j < i then some (h0 + 1 + j) else none))
  | 0 => by
    show ({ cls := c, slots := Array.replicate N .null, vm := .none } : Cell) = _
    rw [arrV_new]
    refine congrArg (arrV c N) (funext fun j => ?_)
    simp [va_rf]
  | i + 1 => by
    show (Jvm.Free.Multi.outerC c N h0 i).setSlot i (.ref (h0 + 1 + i)) = _
    rw [vr_outer c N h0 i, arrV_store]
    refine congrArg (arrV c N) (funext fun j => ?_)
    by_cases e : j = i
    · subst e
      simp [updV, va_rf]
    · by_cases h : j < i
      · simp [updV, e, h, Nat.lt_succ_of_lt h]
      · simp [updV, e, h, show ¬ j < i + 1 by omega]
section VGM
variable {p : Program} {l : Launch} {e : Env} {R : Room} {s : State} {m : MethodId} {args : Array Value} {below : List Frame} {meth : Method} {c : Code} {H : Heap} {locs : List Loc} {cells slots : Nat} {Q : State → Prop}
variable {cc : ByteArray} {pc : Nat} {ls : Array Slot} {rest : List Value} {D : va_G} {cl : List vw_C} {A : Nat → Prop} {a : Nat} {tys : List (ClassId × FieldType)} {ws : va_W} {H0 : Heap}
theorem va_mna {X : va_W} {L : List Nat} {f : Nat → va_E} {cc : ByteArray} (hexec : p.tables.exec = Jvm.exec) (hb : c.code = cc) {own : String} {index : Nat} {ty : FieldType} {cy : ClassId} (hown : s.vm.findClass own = some m.cls) (hclink : (Cond.classLink own index ("[" ++ (FieldType.array ty).toString)).before args s = true) (hover : va_AOA ty s) (harr : (Cond.arrayClass ty).before args s = true) (hcy : s.vm.findClass (FieldType.array ty).toString = some cy)
    (hK : va_K D cl tys s) (hP : va_P D cl (X ++ va_pl L f) H) (hD : va_D A (X ++ va_pl L f)) (hS : va_S A H0 H locs) (hA : ∀ q, H0.size ≤ q → A q) {n k : Int32} {N' K' : Nat} {z : vp_A} (hn : ¬ n < 0) (hk : ¬ k < 0) (hN : n.toNatClampNeg = N') (hM : k.toNatClampNeg = K')
    (hb1 : N' * 4 ≤ 536870912) (hb2 : K' * componentBytes ty ≤ 536870912) (hb3 : K' ≤ 536870912) (hdf : fits ty (defaultValue ty) = true) (hdd : (defaultValue ty).isDefault = true) (hcells : cells + (1 + N') ≤ R.cells) (hslots : slots + (N' + N' * K') ≤ R.slots) (hz : ∀ c : ClassId, Jvm.Free.Multi.innerC c K' (defaultValue ty) = vp_cell c z) (hdg : decode cc pc = .ok (.multianewarray index 2, 4))
    (kk : ∀ (q : Nat) (r : Nat → Nat) (cA : ClassId) (H1 : Heap), (∀ i j : Nat, i < N' → j < N' → r i = r j → i = j) → (∀ i : Nat, i < N' → r i ∉ L) → va_K D cl (tys ++ [(cA, .array ty)]) s →
      va_P D cl ((X ++ [(q, .inl (cA, N', .inr (.inr (.inr (.inr (fun i => if i < N' then some (r i) else none))))))]) ++ va_pl (L ++ (List.range N').map r) (vr_up f ((List.range N').map r) (.inl (cy, z)))) H1 → va_D A ((X ++ [(q, .inl (cA, N', .inr (.inr (.inr (.inr (fun i => if i < N' then some (r i) else none))))))]) ++ va_pl (L ++ (List.range N').map r) (vr_up f ((List.range N').map r) (.inl (cy, z)))) → va_S A H0 H1 locs →
      W p l e R s m args below meth c H1 locs (cells + 1 + N') (slots + N' + N' * K') Q (F0 m (pc + 4) ls (.ref q :: rest))) : W p l e R s m args below meth c H locs cells slots Q (F0 m pc ls (.int k :: .int n :: rest)) := by
  subst hN
  subst hM
  intro T hT Xs
  obtain ⟨vm₁, cA, comp, -, fA, fC, hO, -, X', step⟩ := Xs.multianewarray2F hexec hown hclink (va_AOA.use hover) harr (g := F0 m pc ls (.int k :: .int n :: rest)) rfl (by rw [hb]; exact hdg) rfl hn hk hb1 hb2 hb3 hdf hdd hcells hslots
  have ec : some cy = some comp := hcy.symm.trans fC
  cases ec
  generalize hF : Jvm.Free.Multi.fill (T.setVm vm₁) cA cy n.toNatClampNeg k.toNatClampNeg (defaultValue ty) n.toNatClampNeg = F at X' step
  have hTh : (T.setVm vm₁).heap = H := hT
  obtain ⟨f1, f2, -, -⟩ := Jvm.Free.Multi.fill_facts (T.setVm vm₁) cA cy n.toNatClampNeg k.toNatClampNeg (defaultValue ty) n.toNatClampNeg
  rw [hF, hTh] at f1 f2
  have hold : ∀ x : Nat, x < H.size → F.heap[x]? = H[x]? := fun x hx => by
    have := Jvm.Free.Multi.fill_old (T.setVm vm₁) cA cy n.toNatClampNeg k.toNatClampNeg (defaultValue ty) (a := x) (by rw [hTh]; exact hx) n.toNatClampNeg
    rw [hF, hTh] at this
    exact this
  have hrow : ∀ j : Nat, j < n.toNatClampNeg → F.heap[H.size + 1 + j]? = some (vp_cell cy z) := fun j hj => by
    have := Jvm.Free.Multi.fill_inner (T.setVm vm₁) cA cy n.toNatClampNeg k.toNatClampNeg (defaultValue ty) n.toNatClampNeg j hj
    rw [hF, hTh, hz] at this
    exact this
  have hout : Jvm.Free.Multi.outerC cA n.toNatClampNeg H.size n.toNatClampNeg = vp_cell cA (n.toNatClampNeg, .inr (.inr (.inr (.inr (fun i => if i < n.toNatClampNeg then some (H.size + 1 + i) else none))))) := by
    rw [vp_cell_q]
    exact vr_outer cA n.toNatClampNeg H.size n.toNatClampNeg
  rw [hout] at f2
  have hlt : ∀ a, a ∈ L → a < H.size := fun a ha => by
    obtain ⟨k9, hk9⟩ := va_pl_get (X := X) (f := f) ha
    exact (hP k9 _ hk9).lt
  have hnl : ∀ i : Nat, i < n.toNatClampNeg → H.size + 1 + i ∉ L := fun i _ h => by
    have := hlt _ h
    omega
  have hnm : ∀ a, a ∈ (List.range n.toNatClampNeg).map (fun i => H.size + 1 + i) → a ∉ L := fun a ha h => by
    obtain ⟨i, -, rfl⟩ := List.mem_map.mp ha
    have := hlt _ h
    omega
  have hP0 : va_P D cl (X ++ va_pl L f) F.heap := hP.kept (fun k9 x hx => hold x.1 ((hP k9 x hx).lt))
  have hP1 : va_P D cl ((X ++ va_pl L f) ++ [(H.size, .inl (cA, n.toNatClampNeg, .inr (.inr (.inr (.inr (fun i => if i < n.toNatClampNeg then some (H.size + 1 + i) else none))))))]) F.heap := hP0.app (fun k9 x hx => by
    have h0 : k9 < 1 := (List.getElem?_eq_some_iff.mp hx).1
    rw [show k9 = 0 by omega] at hx
    cases hx
    exact f2)
  have hP2 : va_P D cl (((X ++ va_pl L f) ++ [(H.size, .inl (cA, n.toNatClampNeg, .inr (.inr (.inr (.inr (fun i => if i < n.toNatClampNeg then some (H.size + 1 + i) else none))))))]) ++ ((List.range n.toNatClampNeg).map (fun i => H.size + 1 + i)).map (fun a => (a, .inl (cy, z)))) F.heap := hP1.app (fun k9 x hx => by
    obtain ⟨a, ha, rfl⟩ := List.mem_map.mp (List.mem_of_getElem? hx)
    obtain ⟨i, hi, rfl⟩ := List.mem_map.mp ha
    exact hrow i (List.mem_range.mp hi))
  have hD2 : va_D A (((X ++ va_pl L f) ++ [(H.size, .inl (cA, n.toNatClampNeg, .inr (.inr (.inr (.inr (fun i => if i < n.toNatClampNeg then some (H.size + 1 + i) else none))))))]) ++ ((List.range n.toNatClampNeg).map (fun i => H.size + 1 + i)).map (fun a => (a, .inl (cy, z)))) := by
    have hD1 := hD.push (e := .inl (cA, n.toNatClampNeg, .inr (.inr (.inr (.inr (fun i => if i < n.toNatClampNeg then some (H.size + 1 + i) else none)))))) hP rfl (hA _ hS.1)
    generalize hW1 : (X ++ va_pl L f) ++ [(H.size, .inl (cA, n.toNatClampNeg, .inr (.inr (.inr (.inr (fun i => if i < n.toNatClampNeg then some (H.size + 1 + i) else none))))))] = W1 at hD1 hP1 ⊢
    have hle : ∀ (k9 : Nat) (x : Nat × va_E), W1[k9]? = some x → x.1 ≤ H.size := fun k9 x hx => by
      rw [← hW1] at hx
      by_cases hl : k9 < (X ++ va_pl L f).length
      · rw [List.getElem?_append_left hl] at hx
        exact Nat.le_of_lt ((hP k9 x hx).lt)
      · rw [List.getElem?_append_right (by omega)] at hx
        have h0 : k9 - (X ++ va_pl L f).length < 1 := (List.getElem?_eq_some_iff.mp hx).1
        rw [show k9 - (X ++ va_pl L f).length = 0 by omega] at hx
        cases hx
        exact Nat.le_refl _
    have hr : ∀ (k9 : Nat) (x : Nat × va_E), (((List.range n.toNatClampNeg).map (fun i => H.size + 1 + i)).map (fun a => ((a, .inl (cy, z)) : Nat × va_E)))[k9]? = some x → x.1 = H.size + 1 + k9 := fun k9 x hx => by
      rw [List.getElem?_map, List.getElem?_map] at hx
      by_cases h9 : k9 < n.toNatClampNeg
      · rw [List.getElem?_range h9] at hx
        cases hx
        rfl
      · have hn0 : (List.range n.toNatClampNeg)[k9]? = none := List.getElem?_eq_none (by rw [List.length_range]; omega)
        rw [hn0] at hx
        cases hx
    refine ⟨fun i j x y hi hj hxy => ?_, fun k9 x hx => ?_⟩
    · by_cases h1 : i < W1.length <;> by_cases h2 : j < W1.length
      · rw [List.getElem?_append_left h1] at hi
        rw [List.getElem?_append_left h2] at hj
        exact hD1.1 i j x y hi hj hxy
      · rw [List.getElem?_append_left h1] at hi
        rw [List.getElem?_append_right (by omega)] at hj
        have := hle _ _ hi
        have := hr _ _ hj
        omega
      · rw [List.getElem?_append_right (by omega)] at hi
        rw [List.getElem?_append_left h2] at hj
        have := hle _ _ hj
        have := hr _ _ hi
        omega
      · rw [List.getElem?_append_right (by omega)] at hi hj
        have := hr _ _ hi
        have := hr _ _ hj
        omega
    · by_cases h1 : k9 < W1.length
      · rw [List.getElem?_append_left h1] at hx
        exact hD1.2 k9 x hx
      · rw [List.getElem?_append_right (by omega)] at hx
        have := hr _ _ hx
        exact hA _ (by have := hS.1; omega)
  have hAr : ArrOfT s cA (.array ty) := fun N9 z9 => by
    obtain ⟨-, k9, hk9, cm9, hkk9⟩ := (hO 0 0 0).1
    exact ⟨(fun q hq => by cases hq), k9, hk9, cm9, hkk9⟩
  have hK2 : va_K D cl (tys ++ [(cA, .array ty)]) s := ⟨hK.1, fun k9 x hx => by
    by_cases hl : k9 < tys.length
    · rw [List.getElem?_append_left hl] at hx
      exact hK.2 k9 x hx
    · rw [List.getElem?_append_right (by omega)] at hx
      have h0 : k9 - tys.length < 1 := (List.getElem?_eq_some_iff.mp hx).1
      rw [show k9 - tys.length = 0 by omega] at hx
      cases hx
      exact ⟨hAr, fA⟩⟩
  obtain ⟨t, a1, b1⟩ := kk H.size (fun i => H.size + 1 + i) cA F.heap (fun i j _ _ h => by have h9 : H.size + 1 + i = H.size + 1 + j := h; omega) hnl hK2 (by rw [← vr_rows hnm]; exact vr_lay hP2) (by rw [← vr_rows hnm]; exact vr_layD hD2) ⟨by rw [f1]; have := hS.1; omega, fun x h1 h2 => (hold x (Nat.lt_of_lt_of_le h1 hS.1)).trans (hS.2.1 x h1 h2), hS.2.2⟩ F rfl X'
  refine ⟨t, step t ?_, b1⟩
  have e : T.heap.size = H.size := by rw [hT]
  rw [e]
  exact a1
end VGM
/-! ===== END ===== -/

/-! ===== BEGIN exceptions that leave a method, and their catching by the caller (launches without stack traces) ===== -/
section VXA
/-! The laws vx_back, vx_callV, vx_callS, vx_callSW, vx_throw0, vx_throwS follow proofs of the library, with one case more: JvmDerived/Free/Laws.lean (Back.of_free), Shelf42/LK1.lean (callV, callS), Shelf/KitTraced.lean (throwNew0V, throwNewS). -/
/-- where a method has thrown q: the class by its name, the cell, what was written, the world -/
def vx_T (XC : String → State → State → Prop) (st : State) (q : Addr) (t : State) (mc ms : Nat) (free : Addr → Prop) : Prop :=
  ∃ (E : String) (ce : Cell) (L : List Loc), XC E st t ∧ t.heap[q]? = some ce ∧ ce.vm = .none ∧ st.vm.findClass E = some ce.cls ∧ st.WarmedH t.vm ∧ st.sameButNew ({ t with vm := st.vm } : State) L mc ms ∧ ∀ z ∈ L, free z.base
def vx_Q (Qc : Array Value → State → Outcome → State → Prop) (XC : String → State → State → Prop) (mc ms : Nat) (free : Addr → Prop) : Array Value → State → Outcome → State → Prop := fun a st o t =>
  (Qc a st o t ∧ ∃ L, FrameEnd st o t L mc ms ∧ ∀ q ∈ L, free q.base) ∨ ∃ q, o = .threw q ∧ vx_T XC st q t mc ms free
/-- a callee that returns or throws -/
def vx_Met (l : Launch) (y : MethodName) (ws : List Cond) (rm : Room) (Pc : Array Value → State → Prop) (Qc : Array Value → State → Outcome → State → Prop) (XC : String → State → State → Prop) (mc ms : Nat) (free : Addr → Prop) : Prop :=
  MetFree l y (headSpec ws rm) Pc (fun _ _ _ _ _ => True) (vx_Q Qc XC mc ms free)
def vx_Post (XC : String → State → State → Prop) (mc ms : Nat) (free : Addr → Prop) : Pt → Array Value → Addr → Pt → Prop := fun A a q B =>
  ∃ (g : JFrame) (mk : MethodId) (t : State) (L : List Loc) (E : String) (ce : Cell), B.U.heap = t.heap ∧ B.U.vm = t.vm ∧ XC E (A.U.calling g mk a) t ∧ t.heap[q]? = some ce ∧ ce.vm = .none ∧ A.U.vm.findClass E = some ce.cls ∧ B.locs = A.locs ++ L ∧ (∀ z ∈ L, free z.base) ∧ B.cells = A.cells + mc ∧ B.slots = A.slots + ms
def vx_Back (l : Launch) (R : Room) (p : Program) (e : Env) (below : List Frame) (s : State) (sargs : Array Value) (y : MethodName) (len W9 : Nat)
    (Pre : Pt → Array Value → Prop) (Post : Pt → Array Value → Option Value → Pt → Prop) (PostX : Pt → Array Value → Addr → Pt → Prop) : Prop :=
  ∀ (m : MethodId) (meth : Method) (c : Code) (A : Pt) (g : JFrame) (ig : Instr) (mk : MethodId) (a : Array Value),
    Stand p l e R s m sargs below meth c A.U A.locs A.cells A.slots → g.method = m → g.locals.size = c.maxLocals → decode c.code g.pc = .ok (ig, len) →
    2 * g.monitorRoom + (g.stack.map fun v => v.category).sum ≤ W9 → A.U.methodNamed? y = some mk → Pre A a →
    (∃ (v : Option Value) (B : Pt), Stand p l e R s m sargs below meth c B.U B.locs B.cells B.slots ∧ Post A a v B ∧
      Steps p.tables e below (doInvoke e (A.U.setTop g) [] mk a).1 (B.U.setTop { g with pc := g.pc + len, stack := v.toList ++ g.stack })) ∨
    (∃ (q : Addr) (B : Pt), Stand p l e R s m sargs below meth c B.U B.locs B.cells B.slots ∧ PostX A a q B ∧
      Steps p.tables e below (doInvoke e (A.U.setTop g) [] mk a).1 ((B.U.setTop g).pushFrame (.throwing q)))
section Payer
variable {l : Launch} {R : Room} {p : Program} {e : Env} {below : List Frame} {s : State} {sargs : Array Value} {y : MethodName} {len W9 : Nat}
theorem vx_back {ws : List Cond} {rm : Room} {Pc : Array Value → State → Prop} {Qc : Array Value → State → Outcome → State → Prop} {XC : String → State → State → Prop} {mc ms : Nat} {free : Addr → Prop} {bytes : ByteArray} {maxL : Nat} {ret : Option FieldType}
    (hM : vx_Met l y ws rm Pc Qc XC mc ms free) (hblind : FrameBlind Pc) (hrc : rm.cells = mc) (hrs : rm.slots = ms)
    (hframes : rm.frames + 1 ≤ R.frames) (hlocals : W9 + (maxL + 11) + rm.locals ≤ R.locals)
    (hws : ∀ w ∈ ws, ∀ a' U, s.WarmedH U.vm → w.before a' U = true) (hcode : Cond.code y bytes maxL ret ∈ ws) (hinit : ∀ a' U, s.WarmedH U.vm → (Cond.initialized y.cls).before a' U = true) :
    vx_Back l R p e below s sargs y len W9 (PreOf R mc ms Pc) (PostOf Qc mc ms free) (vx_Post XC mc ms free) := by
  intro m meth c A g ig mk a X hg hsize hdg hW hn hp
  have h1 : (headSpec ws rm).pre.before a A.U = true := atoms_intro fun w hw => hws w hw _ _ X.warmed
  have h2 : (Cond.code y bytes maxL ret).before a A.U = true := hws _ hcode _ _ X.warmed
  have h3 : (Cond.initialized y.cls).before a A.U = true := hinit _ _ X.warmed
  have h4 : A.cells + (headSpec ws rm).room.cells ≤ R.cells := by rw [show (headSpec ws rm).room.cells = mc from hrc]; exact hp.1
  have h5 : A.slots + (headSpec ws rm).room.slots ≤ R.slots := by rw [show (headSpec ws rm).room.slots = ms from hrs]; exact hp.2.1
  have hPc : Pc a (A.U.calling g mk a) := hblind _ _ _ _ hp.2.2
  obtain ⟨U, Ls, c0, s0⟩ := A
  dsimp only [Pt.U, Pt.locs, Pt.cells, Pt.slots] at h1 h2 h3 h4 h5 X hn hPc ⊢
  obtain ⟨methY, cY, hmY, hcY, -, hlY, -, -, -, -⟩ := Cond.code_spec hn h2
  obtain ⟨kY, hkY, -⟩ := className_of_methodNamed hn
  have hinitY : kY.init = .initialized := Cond.initialized_spec (findClass_of_methodNamed hn) hkY h3
  have h : At U g.method c below := by rw [hg]; exact X.here
  have hlocals9 : W9 + (maxL + 11) + (headSpec ws rm).room.locals ≤ R.locals := hlocals
  have happ : (headSpec ws rm).appliesLoose y e.platform (U.calling g mk a) = true :=
    Spec.appliesLoose_calling (g := g) h hdg hn hkY hinitY
      (X.room_calling (g := g) (R' := (headSpec ws rm).room) hsize hmY hcY hframes (by rw [hlY]; omega) h4 h5) h1
  obtain ⟨mid, hmid⟩ := h.above
  have hfr : (U.setTop g).frames = (.java g :: mid) ++ below := by rw [State.frames_setTop' g h.top, hmid]; rfl
  obtain ⟨o, s₂, hsteps, -, hend, hq⟩ := Steps.callFree hM p X.admits X.cas X.clock (acts := []) hfr happ hPc trivial
  have hq' : vx_Q Qc XC mc ms free a (U.calling g mk a) o s₂ := hq
  rw [State.frames_setTop' g h.top] at hend
  obtain ⟨g₀, hg0⟩ := Option.isSome_iff_exists.mp h.top
  obtain ⟨r, hr⟩ := State.topJava?_eq_some.mp hg0
  have hr' : (({ U with heap := s₂.heap, slotsUsed := s₂.slotsUsed } : State).setVm s₂.vm).frames = .java g₀ :: r := hr
  rcases hq' with ⟨hqc, L, hfe, hL⟩ | ⟨q, rfl, E, ce, L, hx, hce, hcv, hcl, hW₂, hsm, hL⟩
  · obtain ⟨⟨v, rfl⟩, hW₂, e2, q2, q3, q4, q5, q6⟩ := id hfe
    have e3 : s₂ = ({ (U.calling g mk a).setFrames s₂.frames with heap := s₂.heap, slotsUsed := s₂.slotsUsed } : State).setVm s₂.vm := by
      have : s₂ = ({ s₂ with vm := (U.calling g mk a).vm } : State).setVm s₂.vm := rfl
      rw [e2] at this
      exact this
    obtain ⟨c₂, i₂, len₂, hc₂, hd₂, hf₂⟩ := hend
    have hW' : U.WarmedH s₂.vm := hW₂
    have hcc : c₂ = c := by
      have h1 : s₂.code? g.method = U.code? g.method := by
        rw [State.code?_eq, State.code?_eq, hW'.alike.method?]
      exact Option.some.inj (hc₂.symm.trans (h1.trans h.code))
    subst hcc
    have hlen : len₂ = len := by rw [hdg] at hd₂; cases hd₂; rfl
    subst hlen
    have hs₂ : s₂ = (({ U with heap := s₂.heap, slotsUsed := s₂.slotsUsed } : State).setVm s₂.vm).setTop { g with pc := g.pc + len₂, stack := v.toList ++ g.stack } := by
      refine e3.trans ?_
      rw [hf₂, State.calling_eq h.top, State.setFrames_setFrames, State.setTop_of_frames _ hr', hr]
      rfl
    have hsame : U.sameButNew ({ U with heap := s₂.heap, slotsUsed := s₂.slotsUsed } : State) L mc ms := by
      refine ⟨?_, q2, q3, q4, q5, q6⟩
      obtain ⟨t, ht, -⟩ := State.frames_cons hr
      show ({ U with heap := s₂.heap, slotsUsed := s₂.slotsUsed } : State) = { U.setFrames U.frames with heap := s₂.heap, slotsUsed := s₂.slotsUsed }
      rw [State.setFrames_self ht]
    subst hg
    refine Or.inl ⟨v, ⟨(({ U with heap := s₂.heap, slotsUsed := s₂.slotsUsed } : State).setVm s₂.vm), Ls ++ L, c0 + mc, s0 + ms⟩,
      ⟨X.admits, X.cas, X.clock, X.frames, X.room, X.hears, X.method, X.code, (X.here.setHeapUsed s₂.heap s₂.slotsUsed).setVm hW'.alike, X.tail, State.WarmedH.trans X.warmed hW', X.limits, X.bytes, X.same.trans (hsame.setVm s.vm)⟩,
      ⟨g, mk, s₂, L, rfl, rfl, hqc, rfl, hL, rfl, rfl⟩, ?_⟩
    show Steps p.tables e below _ ((({ U with heap := s₂.heap, slotsUsed := s₂.slotsUsed } : State).setVm s₂.vm).setTop { g with pc := g.pc + len₂, stack := v.toList ++ g.stack })
    rw [← hs₂]
    exact hsteps
  · obtain ⟨e2, q2, q3, q4, q5, q6⟩ := id hsm
    have e3 : s₂ = ({ (U.calling g mk a).setFrames s₂.frames with heap := s₂.heap, slotsUsed := s₂.slotsUsed } : State).setVm s₂.vm := by
      have : s₂ = ({ s₂ with vm := (U.calling g mk a).vm } : State).setVm s₂.vm := rfl
      rw [e2] at this
      exact this
    have hf₂ : s₂.frames = .throwing q :: .java g :: U.frames.tail := hend
    have hW' : U.WarmedH s₂.vm := hW₂
    have hs₂ : s₂ = ((({ U with heap := s₂.heap, slotsUsed := s₂.slotsUsed } : State).setVm s₂.vm).setTop g).pushFrame (.throwing q) := by
      refine e3.trans ?_
      rw [hf₂, State.calling_eq h.top, State.setFrames_setFrames, State.pushFrame, State.frames_setTop _ hr', State.setTop_of_frames _ hr', State.setFrames_setFrames, hr]
      rfl
    have hsame : U.sameButNew ({ U with heap := s₂.heap, slotsUsed := s₂.slotsUsed } : State) L mc ms := by
      refine ⟨?_, q2, q3, q4, q5, q6⟩
      obtain ⟨t, ht, -⟩ := State.frames_cons hr
      show ({ U with heap := s₂.heap, slotsUsed := s₂.slotsUsed } : State) = { U.setFrames U.frames with heap := s₂.heap, slotsUsed := s₂.slotsUsed }
      rw [State.setFrames_self ht]
    subst hg
    refine Or.inr ⟨q, ⟨(({ U with heap := s₂.heap, slotsUsed := s₂.slotsUsed } : State).setVm s₂.vm), Ls ++ L, c0 + mc, s0 + ms⟩,
      ⟨X.admits, X.cas, X.clock, X.frames, X.room, X.hears, X.method, X.code, (X.here.setHeapUsed s₂.heap s₂.slotsUsed).setVm hW'.alike, X.tail, State.WarmedH.trans X.warmed hW', X.limits, X.bytes, X.same.trans (hsame.setVm s.vm)⟩,
      ⟨g, mk, s₂, L, E, ce, rfl, rfl, hx, hce, hcv, hcl, rfl, hL, rfl, rfl⟩, ?_⟩
    show Steps p.tables e below _ (((({ U with heap := s₂.heap, slotsUsed := s₂.slotsUsed } : State).setVm s₂.vm).setTop g).pushFrame (.throwing q))
    rw [← hs₂]
    exact hsteps
end Payer
section Calls
variable {p : Program} {l : Launch} {e : Env} {R : Room} {s : State} {m : MethodId} {args : Array Value} {below : List Frame} {meth : Method} {c : Code} {T : State} {locs : List Loc} {cells slots : Nat}
theorem vx_callV (X : Stand p l e R s m args below meth c T locs cells slots) (hexec : p.tables.exec = Jvm.exec) {own C : String} {index : Nat} {y : MethodName} {bytes : ByteArray} {maxL : Nat} {ret : Option FieldType}
    (hown : s.vm.findClass own = some m.cls) (hlink : (Cond.methodLink own index y).before args s = true) (hinst : (Cond.instanceMethod y).before args s = true) (hsel : (Cond.selects C y y).before args s = true)
    (hcode : (Cond.code y bytes maxL ret).before args s = true) (hy : y.cls ≠ "java/lang/invoke/MethodHandle" ∧ y.cls ≠ "java/lang/invoke/VarHandle")
    {W9 : Nat} {Pre : Pt → Array Value → Prop} {Post : Pt → Array Value → Option Value → Pt → Prop} {PostX : Pt → Array Value → Addr → Pt → Prop} (hK : vx_Back l R p e below s args y 3 W9 Pre Post PostX)
    {b : Addr} {cellB : Cell} (hcell : T.heap[b]? = some cellB) (hobj : cellB.vm.isStatics = false) (hcls : s.vm.findClass C = some cellB.cls)
    {g : JFrame} (hg : g.method = m) (hsize : g.locals.size = c.maxLocals) {argsL rest : List Value} (hlen : ∀ sig, parseMethodDescriptor y.desc = some sig → argsL.length = sig.parameters.length)
    (hstack : g.stack = argsL.reverse ++ .ref b :: rest) (hW : 2 * g.monitorRoom + (rest.map fun v => v.category).sum ≤ W9) (hdg : decode c.code g.pc = .ok (.invokevirtual index, 3))
    (hpre : ∀ vm₁, s.WarmedH vm₁ → Pre ⟨T.setVm vm₁, locs, cells, slots⟩ (Value.ref b :: argsL).toArray) :
    (∃ (v : Option Value) (vm₁ : Vm) (B : Pt), s.WarmedH vm₁ ∧ Stand p l e R s m args below meth c B.U B.locs B.cells B.slots ∧ Post ⟨T.setVm vm₁, locs, cells, slots⟩ (Value.ref b :: argsL).toArray v B ∧
      ∀ target, Steps p.tables e below (B.U.setTop { g with pc := g.pc + 3, stack := v.toList ++ rest }) target → Steps p.tables e below (T.setTop g) target) ∨
    (∃ (q : Addr) (vm₁ : Vm) (B : Pt), s.WarmedH vm₁ ∧ Stand p l e R s m args below meth c B.U B.locs B.cells B.slots ∧ PostX ⟨T.setVm vm₁, locs, cells, slots⟩ (Value.ref b :: argsL).toArray q B ∧
      Steps p.tables e below (T.setTop g) ((B.U.setTop { g with stack := rest }).pushFrame (.throwing q))) := by
  obtain ⟨mk, methM, hnamed, hmethM, hstM, habM⟩ := Cond.instanceMethod_spec hinst
  obtain ⟨methM', cM, hmethM', -, -, -, -, -, -, hsigM⟩ := Cond.code_spec hnamed hcode
  cases hmethM.symm.trans hmethM'
  obtain ⟨c2, r2, m2, q1, q2, q3, q4, kP, hkP, hkPi⟩ := Cond.selects_spec hsel
  cases hcls.symm.trans q1
  cases (State.methodFound?_of_named hnamed hy).symm.trans q2
  cases hnamed.symm.trans q3
  have hselP : selectMethod e.platform s.vm cellB.cls mk = .method mk := by rw [Launch.admits_selectMethod X.admits]; exact q4
  obtain ⟨vm₁, X₁, hstep₁⟩ := X.invokevirtual hexec hown hlink hnamed hmethM hstM hkP hkPi hy (a := b) (cell := cellB) hcell
    (fun z h => by rw [h] at hobj; cases hobj) hselP hmethM habM hkP hkPi (g := g) hg (argsL := argsL) (rest := rest) (hlen _ hsigM) hstack hdg
  rcases hK m meth c ⟨T.setVm vm₁, locs, cells, slots⟩ { g with stack := rest } (.invokevirtual index) mk (Value.ref b :: argsL).toArray X₁ hg hsize hdg hW (X₁.named hnamed) (hpre vm₁ X₁.warmed) with ⟨v, B, X', hpost, hsteps⟩ | ⟨q, B, X', hpost, hsteps⟩
  · exact Or.inl ⟨v, vm₁, B, X₁.warmed, X', hpost, fun target h => hstep₁ _ fun acts => by rw [doInvoke_state]; exact hsteps.trans h⟩
  · exact Or.inr ⟨q, vm₁, B, X₁.warmed, X', hpost, hstep₁ _ fun acts => by rw [doInvoke_state]; exact hsteps⟩
theorem vx_callS (X : Stand p l e R s m args below meth c T locs cells slots) (hexec : p.tables.exec = Jvm.exec) {own : String} {index : Nat} {y : MethodName} {bytes : ByteArray} {maxL : Nat} {ret : Option FieldType}
    (hown : s.vm.findClass own = some m.cls) (hlink : (Cond.methodLink own index y).before args s = true) (hstat : (Cond.static y).before args s = true) (hinit : (Cond.initialized y.cls).before args s = true)
    (hcode : (Cond.code y bytes maxL ret).before args s = true) (hy : y.cls ≠ "java/lang/invoke/MethodHandle" ∧ y.cls ≠ "java/lang/invoke/VarHandle")
    {W9 : Nat} {Pre : Pt → Array Value → Prop} {Post : Pt → Array Value → Option Value → Pt → Prop} {PostX : Pt → Array Value → Addr → Pt → Prop} (hK : vx_Back l R p e below s args y 3 W9 Pre Post PostX)
    {g : JFrame} (hg : g.method = m) (hsize : g.locals.size = c.maxLocals) {argsL rest : List Value} (hlen : ∀ sig, parseMethodDescriptor y.desc = some sig → argsL.length = sig.parameters.length)
    (hstack : g.stack = argsL.reverse ++ rest) (hW : 2 * g.monitorRoom + (rest.map fun v => v.category).sum ≤ W9) (hdg : decode c.code g.pc = .ok (.invokestatic index, 3))
    (hpre : ∀ vm₁, s.WarmedH vm₁ → Pre ⟨T.setVm vm₁, locs, cells, slots⟩ argsL.toArray) :
    (∃ (v : Option Value) (vm₁ : Vm) (B : Pt), s.WarmedH vm₁ ∧ Stand p l e R s m args below meth c B.U B.locs B.cells B.slots ∧ Post ⟨T.setVm vm₁, locs, cells, slots⟩ argsL.toArray v B ∧
      ∀ target, Steps p.tables e below (B.U.setTop { g with pc := g.pc + 3, stack := v.toList ++ rest }) target → Steps p.tables e below (T.setTop g) target) ∨
    (∃ (q : Addr) (vm₁ : Vm) (B : Pt), s.WarmedH vm₁ ∧ Stand p l e R s m args below meth c B.U B.locs B.cells B.slots ∧ PostX ⟨T.setVm vm₁, locs, cells, slots⟩ argsL.toArray q B ∧
      Steps p.tables e below (T.setTop g) ((B.U.setTop { g with stack := rest }).pushFrame (.throwing q))) := by
  obtain ⟨mk, hnamed⟩ := Cond.code_named hcode
  obtain ⟨methM, cM, hmethM, -, -, -, -, -, -, hsigM⟩ := Cond.code_spec hnamed hcode
  have hstatic : methM.isStatic = true := Cond.static_spec hnamed hmethM hstat
  obtain ⟨kP, hkP, -⟩ := className_of_methodNamed hnamed
  have hinitP : kP.init = .initialized := Cond.initialized_spec (findClass_of_methodNamed hnamed) hkP hinit
  obtain ⟨vm₁, X₁, hstep₁⟩ := X.invokestatic hexec hown hlink hnamed hmethM hstatic hkP hinitP hy (g := g) hg (argsL := argsL) (rest := rest) (hlen _ hsigM) hstack hdg
  rcases hK m meth c ⟨T.setVm vm₁, locs, cells, slots⟩ { g with stack := rest } (.invokestatic index) mk argsL.toArray X₁ hg hsize hdg hW (X₁.named hnamed) (hpre vm₁ X₁.warmed) with ⟨v, B, X', hpost, hsteps⟩ | ⟨q, B, X', hpost, hsteps⟩
  · exact Or.inl ⟨v, vm₁, B, X₁.warmed, X', hpost, fun target h => hstep₁ _ fun acts => by rw [doInvoke_state]; exact hsteps.trans h⟩
  · exact Or.inr ⟨q, vm₁, B, X₁.warmed, X', hpost, hstep₁ _ fun acts => by rw [doInvoke_state]; exact hsteps⟩
end Calls
theorem vx_cls {s : State} {T : State} {vm₁ : Vm} {E : String} {k : ClassId} (hW : s.WarmedH vm₁) (h : (T.setVm vm₁).vm.findClass E = some k) : s.vm.findClass E = some k := by
  have h1 : vm₁.findClass E = some k := h
  rw [hW.alike.findClass] at h1
  exact h1
/-- the method's frame g, with q thrown over it -/
def vx_W (p : Program) (l : Launch) (e : Env) (R : Room) (s : State) (m : MethodId) (args : Array Value) (below : List Frame) (meth : Method) (c : Code) (H : Heap) (locs : List Loc) (cells slots : Nat) (Q : State → Prop) (g : JFrame) (q : Addr) : Prop :=
  ∀ T : State, T.heap = H → Stand p l e R s m args below meth c T locs cells slots → ∃ t, Steps p.tables e below ((T.setTop g).pushFrame (.throwing q)) t ∧ Q t
def vx_Run (p : Program) (l : Launch) (e : Env) (R : Room) (s : State) (m : MethodId) (args : Array Value) (below : List Frame) (meth : Method) (c : Code) (H : Heap) (locs : List Loc) (cells slots mc ms : Nat) (g : JFrame) (rest : List Value) (Qa : State → Outcome → State → Prop) (XC : String → State → State → Prop) (free : Addr → Prop) : Prop :=
  ∀ T : State, T.heap = H → Stand p l e R s m args below meth c T locs cells slots →
    (∃ (v : Option Value) (st₀ t T' : State) (L : List Loc), st₀.heap = H ∧ Stand p l e R s m args below meth c T' (locs ++ L) (cells + mc) (slots + ms) ∧ (∀ q ∈ L, free q.base) ∧ T'.heap = t.heap ∧ T'.vm = t.vm ∧ Qa st₀ (.returned v) t ∧
      Goes p e below T g T' { g with pc := g.pc + 3, stack := v.toList ++ rest }) ∨
    (∃ (q : Addr) (st₀ t T' : State) (L : List Loc) (E : String) (ce : Cell), st₀.heap = H ∧ Stand p l e R s m args below meth c T' (locs ++ L) (cells + mc) (slots + ms) ∧ (∀ z ∈ L, free z.base) ∧ T'.heap = t.heap ∧ T'.vm = t.vm ∧ XC E st₀ t ∧ t.heap[q]? = some ce ∧ ce.vm = .none ∧ s.vm.findClass E = some ce.cls ∧
      Steps p.tables e below (T.setTop g) ((T'.setTop { g with stack := rest }).pushFrame (.throwing q)))
def vx_X {S : Type} (px : S → Prop) (B : String → S → State → Prop) (A : Nat → Prop) : String → State → State → Prop := fun E st t => ∃ u : S, px u ∧ B E u t ∧ va_F A st t
section Runs
variable {p : Program} {l : Launch} {e : Env} {R : Room} {s : State} {m : MethodId} {args : Array Value} {below : List Frame} {meth : Method} {c : Code} {H : Heap} {locs : List Loc} {cells slots : Nat}
variable {y : MethodName} {bytes cc : ByteArray} {maxL nL mc ms n index : Nat} {ret : Option FieldType} {ws : List Cond} {rm : Room} {Pc : Array Value → State → Prop} {Qc : Array Value → State → Outcome → State → Prop} {XC : String → State → State → Prop} {free : Addr → Prop} {Ts : List Cond} {own C : String} {b : Addr} {As rest : List Value} {g : JFrame}
theorem vx_callBack (cb : CallB R s args own index y bytes maxL ret ws rm mc ms n) (hM : vx_Met l y ws rm Pc Qc XC mc ms free) (hbl : FrameBlind Pc) : vx_Back l R p e below s args y 3 8 (PreOf R mc ms Pc) (PostOf Qc mc ms free) (vx_Post XC mc ms free) := by
  obtain ⟨hrc, hrs, hfr, hlo, hws, hcw, -, hini, -⟩ := cb
  exact vx_back (bytes := bytes) (maxL := maxL) (ret := ret) hM hbl hrc hrs hfr hlo hws hcw (fun a' U hW => word_at hW (Or.inl (by first | rfl | simp [Cond.onTables, Cond.keeps, Cond.steady])) hini)
theorem vx_runV (S : CallFix p m c cc nL s args Ts own) (hM : vx_Met l y ws rm Pc Qc XC mc ms free) (cw : CallW R s args own C index y bytes maxL ret ws rm mc ms n) (hp : PreV s H C b Pc As)
    (hg : g.method = m) (hn : As.length = n) (hsize : g.locals.size = nL) (hstack : g.stack = As.reverse ++ .ref b :: rest) (hW : 2 * g.monitorRoom + (rest.map fun v => v.category).sum ≤ 8) (hdg : decode cc g.pc = .ok (.invokevirtual index, 3)) (hf : cells + mc ≤ R.cells ∧ slots + ms ≤ R.slots) :
    vx_Run p l e R s m args below meth c H locs cells slots mc ms g rest (Qc (Value.ref b :: As).toArray) XC free := by
  have hK : vx_Back l R p e below s args y 3 8 (PreOf R mc ms Pc) (PostOf Qc mc ms free) (vx_Post XC mc ms free) := vx_callBack cw.1 hM hp.1
  obtain ⟨⟨-, -, -, -, -, -, hcode, -, hy, hlen, hl⟩, hin, hse⟩ := cw
  obtain ⟨hx, hb, hml, ho, -⟩ := S
  obtain ⟨-, ⟨cellB, hcB, hoB, hclB⟩, hPc⟩ := hp
  intro T hT X
  rcases vx_callV X hx (C := C) (bytes := bytes) (maxL := maxL) (ret := ret) ho hl hin hse hcode hy hK (by rw [hT]; exact hcB) hoB hclB hg (hsize.trans hml.symm) (argsL := As) (rest := rest) (fun sig h => hn.trans (hlen sig h)) hstack hW (by rw [hb]; exact hdg)
    (fun vm₁ hW₁ => ⟨hf.1, hf.2, hPc (T.setVm vm₁) hT hW₁⟩) with ⟨v, vm₁, ⟨U', l2, c2, s2⟩, hW₁, X', ⟨g', mk, t, L, e1, e2, hq, h1, hL, h2, h3⟩, st⟩ | ⟨q, vm₁, ⟨U', l2, c2, s2⟩, hW₁, X', ⟨g', mk, t, L, E, ce, e1, e2, hq, hce, hcv, hcl, h1, hL, h2, h3⟩, st⟩
  · dsimp only [Pt.U, Pt.locs, Pt.cells, Pt.slots] at X' e1 e2 h1 h2 h3 st
    subst h1; subst h2; subst h3
    exact Or.inl ⟨v, (T.setVm vm₁).calling g' mk (Value.ref b :: As).toArray, t, U', L, hT, X', hL, e1, e2, hq, st⟩
  · dsimp only [Pt.U, Pt.locs, Pt.cells, Pt.slots] at X' e1 e2 h1 h2 h3 st hcl
    subst h1; subst h2; subst h3
    exact Or.inr ⟨q, (T.setVm vm₁).calling g' mk (Value.ref b :: As).toArray, t, U', L, E, ce, hT, X', hL, e1, e2, hq, hce, hcv, vx_cls hW₁ hcl, st⟩
theorem vx_runS (S : CallFix p m c cc nL s args Ts own) (hM : vx_Met l y ws rm Pc Qc XC mc ms free) (cw : CallB R s args own index y bytes maxL ret ws rm mc ms n ∧ (Cond.static y).before args s = true) (hp : PreS s H Pc As)
    (hg : g.method = m) (hn : As.length = n) (hsize : g.locals.size = nL) (hstack : g.stack = As.reverse ++ rest) (hW : 2 * g.monitorRoom + (rest.map fun v => v.category).sum ≤ 8) (hdg : decode cc g.pc = .ok (.invokestatic index, 3)) (hf : cells + mc ≤ R.cells ∧ slots + ms ≤ R.slots) :
    vx_Run p l e R s m args below meth c H locs cells slots mc ms g rest (Qc As.toArray) XC free := by
  have hK : vx_Back l R p e below s args y 3 8 (PreOf R mc ms Pc) (PostOf Qc mc ms free) (vx_Post XC mc ms free) := vx_callBack cw.1 hM hp.1
  obtain ⟨⟨-, -, -, -, -, -, hcode, hini, hy, hlen, hl⟩, hstt⟩ := cw
  obtain ⟨hx, hb, hml, ho, -⟩ := S
  intro T hT X
  rcases vx_callS X hx (bytes := bytes) (maxL := maxL) (ret := ret) ho hl hstt hini hcode hy hK hg (hsize.trans hml.symm) (argsL := As) (rest := rest) (fun sig h => hn.trans (hlen sig h)) hstack hW (by rw [hb]; exact hdg)
    (fun vm₁ hW₁ => ⟨hf.1, hf.2, hp.2 (T.setVm vm₁) hT hW₁⟩) with ⟨v, vm₁, ⟨U', l2, c2, s2⟩, hW₁, X', ⟨g', mk, t, L, e1, e2, hq, h1, hL, h2, h3⟩, st⟩ | ⟨q, vm₁, ⟨U', l2, c2, s2⟩, hW₁, X', ⟨g', mk, t, L, E, ce, e1, e2, hq, hce, hcv, hcl, h1, hL, h2, h3⟩, st⟩
  · dsimp only [Pt.U, Pt.locs, Pt.cells, Pt.slots] at X' e1 e2 h1 h2 h3 st
    subst h1; subst h2; subst h3
    exact Or.inl ⟨v, (T.setVm vm₁).calling g' mk As.toArray, t, U', L, hT, X', hL, e1, e2, hq, st⟩
  · dsimp only [Pt.U, Pt.locs, Pt.cells, Pt.slots] at X' e1 e2 h1 h2 h3 st hcl
    subst h1; subst h2; subst h3
    exact Or.inr ⟨q, (T.setVm vm₁).calling g' mk As.toArray, t, U', L, E, ce, hT, X', hL, e1, e2, hq, hce, hcv, vx_cls hW₁ hcl, st⟩
end Runs
section Rows
variable {p : Program} {l : Launch} {e : Env} {R : Room} {s : State} {m : MethodId} {args : Array Value} {below : List Frame} {meth : Method} {c : Code} {H : Heap} {locs : List Loc} {cells slots : Nat} {Q : State → Prop}
variable {mc ms : Nat} {free : Addr → Prop} {A0 A1 : Nat → Prop} {H0 : Heap} {a : Array Value} {pc : Nat} {ls : Array Slot} {st0 rest : List Value}
theorem vx_keep {st₀ t T' : State} {L : List Loc} (h0 : st₀.heap = H) (e1 : T'.heap = t.heap) (hS : va_S A0 H0 H locs) (hA : ∀ q, q < H.size → A1 q → A0 q) (hf : ∀ q, free q → A0 q) (hL : ∀ q ∈ L, free q.base) (hF : va_F A1 st₀ t) :
    H.size ≤ T'.heap.size ∧ (∀ q : Nat, q < H.size → ¬ A1 q → T'.heap[q]? = H[q]?) ∧ va_S A0 H0 T'.heap (locs ++ L) := by
  obtain ⟨hz, hk⟩ := hF
  rw [h0] at hz hk
  exact ⟨by rw [e1]; exact hz, fun q h1 h2 => by rw [e1]; exact hk q h1 h2,
    ⟨Nat.le_trans hS.1 (by rw [e1]; exact hz), fun q h1 h2 => by rw [e1, hk q (Nat.lt_of_lt_of_le h1 hS.1) (fun z => h2 (hA q (Nat.lt_of_lt_of_le h1 hS.1) z))]; exact hS.2.1 q h1 h2, fun q hq => by
      rcases List.mem_append.mp hq with h | h
      · exact hS.2.2 q h
      · exact hf _ (hL q h)⟩⟩
theorem vx_calli {S SX : Type} {post : Int32 → S → Prop} {px : SX → Prop} {B : S → State → Prop} {BX : String → SX → State → Prop} {AX : Nat → Prop} (hr : vx_Run p l e R s m args below meth c H locs cells slots mc ms (F0 m pc ls st0) rest (va_Qi post B A1 a) (vx_X px BX AX) free) (hS : va_S A0 H0 H locs) (hA : ∀ q, q < H.size → A1 q → A0 q) (hf : ∀ q, free q → A0 q) (hAX : ∀ q, q < H.size → AX q → A0 q)
    (kx : ∀ (E : String) (ce : Cell) (q9 : Addr) (u : SX) (t : State) (H1 : Heap) (locs1 : List Loc), t.heap = H1 → s.vm.Alike t.vm → px u → BX E u t → H.size ≤ H1.size → (∀ q : Nat, q < H.size → ¬ AX q → H1[q]? = H[q]?) → va_S A0 H0 H1 locs1 → H1[q9]? = some ce → ce.vm = .none → s.vm.findClass E = some ce.cls → vx_W p l e R s m args below meth c H1 locs1 (cells + mc) (slots + ms) Q (F0 m pc ls rest) q9)
    (kk : ∀ (r : Int32) (u : S) (t : State) (H1 : Heap) (locs1 : List Loc), t.heap = H1 → s.vm.Alike t.vm → post r u → B u t → H.size ≤ H1.size → (∀ q : Nat, q < H.size → ¬ A1 q → H1[q]? = H[q]?) → va_S A0 H0 H1 locs1 → W p l e R s m args below meth c H1 locs1 (cells + mc) (slots + ms) Q (F0 m (pc + 3) ls (.int r :: rest))) : W p l e R s m args below meth c H locs cells slots Q (F0 m pc ls st0) := by
  intro T hT X
  rcases hr T hT X with ⟨v, st₀, t, T', L, h0, X', hL, e1, e2, ⟨⟨r, u, hv, hp, hb⟩, hF⟩, st⟩ | ⟨q, st₀, t, T', L, E, ce, h0, X', hL, e1, e2, ⟨u, hp, hb, hF⟩, hce, hcv, hcl, st⟩
  · cases hv
    obtain ⟨k1, k2, k3⟩ := vx_keep h0 e1 hS hA hf hL hF
    obtain ⟨t2, a1, b1⟩ := kk r u t T'.heap (locs ++ L) e1.symm (by rw [← e2]; exact X'.warmed.alike) hp hb k1 k2 k3 T' rfl X'
    exact ⟨t2, st t2 a1, b1⟩
  · obtain ⟨k1, k2, k3⟩ := vx_keep h0 e1 hS hAX hf hL hF
    obtain ⟨t2, a1, b1⟩ := kx E ce q u t T'.heap (locs ++ L) e1.symm (by rw [← e2]; exact X'.warmed.alike) hp hb k1 k2 k3 (by rw [e1]; exact hce) hcv hcl T' rfl X'
    exact ⟨t2, st.trans a1, b1⟩
theorem vx_calll {S SX : Type} {post : Int64 → S → Prop} {px : SX → Prop} {B : S → State → Prop} {BX : String → SX → State → Prop} {AX : Nat → Prop} (hr : vx_Run p l e R s m args below meth c H locs cells slots mc ms (F0 m pc ls st0) rest (va_Ql post B A1 a) (vx_X px BX AX) free) (hS : va_S A0 H0 H locs) (hA : ∀ q, q < H.size → A1 q → A0 q) (hf : ∀ q, free q → A0 q) (hAX : ∀ q, q < H.size → AX q → A0 q)
    (kx : ∀ (E : String) (ce : Cell) (q9 : Addr) (u : SX) (t : State) (H1 : Heap) (locs1 : List Loc), t.heap = H1 → s.vm.Alike t.vm → px u → BX E u t → H.size ≤ H1.size → (∀ q : Nat, q < H.size → ¬ AX q → H1[q]? = H[q]?) → va_S A0 H0 H1 locs1 → H1[q9]? = some ce → ce.vm = .none → s.vm.findClass E = some ce.cls → vx_W p l e R s m args below meth c H1 locs1 (cells + mc) (slots + ms) Q (F0 m pc ls rest) q9)
    (kk : ∀ (r : Int64) (u : S) (t : State) (H1 : Heap) (locs1 : List Loc), t.heap = H1 → s.vm.Alike t.vm → post r u → B u t → H.size ≤ H1.size → (∀ q : Nat, q < H.size → ¬ A1 q → H1[q]? = H[q]?) → va_S A0 H0 H1 locs1 → W p l e R s m args below meth c H1 locs1 (cells + mc) (slots + ms) Q (F0 m (pc + 3) ls (.long r :: rest))) : W p l e R s m args below meth c H locs cells slots Q (F0 m pc ls st0) := by
  intro T hT X
  rcases hr T hT X with ⟨v, st₀, t, T', L, h0, X', hL, e1, e2, ⟨⟨r, u, hv, hp, hb⟩, hF⟩, st⟩ | ⟨q, st₀, t, T', L, E, ce, h0, X', hL, e1, e2, ⟨u, hp, hb, hF⟩, hce, hcv, hcl, st⟩
  · cases hv
    obtain ⟨k1, k2, k3⟩ := vx_keep h0 e1 hS hA hf hL hF
    obtain ⟨t2, a1, b1⟩ := kk r u t T'.heap (locs ++ L) e1.symm (by rw [← e2]; exact X'.warmed.alike) hp hb k1 k2 k3 T' rfl X'
    exact ⟨t2, st t2 a1, b1⟩
  · obtain ⟨k1, k2, k3⟩ := vx_keep h0 e1 hS hAX hf hL hF
    obtain ⟨t2, a1, b1⟩ := kx E ce q u t T'.heap (locs ++ L) e1.symm (by rw [← e2]; exact X'.warmed.alike) hp hb k1 k2 k3 (by rw [e1]; exact hce) hcv hcl T' rfl X'
    exact ⟨t2, st.trans a1, b1⟩
theorem vx_callf {S SX : Type} {post : UInt32 → S → Prop} {px : SX → Prop} {B : S → State → Prop} {BX : String → SX → State → Prop} {AX : Nat → Prop} (hr : vx_Run p l e R s m args below meth c H locs cells slots mc ms (F0 m pc ls st0) rest (va_Qf post B A1 a) (vx_X px BX AX) free) (hS : va_S A0 H0 H locs) (hA : ∀ q, q < H.size → A1 q → A0 q) (hf : ∀ q, free q → A0 q) (hAX : ∀ q, q < H.size → AX q → A0 q)
    (kx : ∀ (E : String) (ce : Cell) (q9 : Addr) (u : SX) (t : State) (H1 : Heap) (locs1 : List Loc), t.heap = H1 → s.vm.Alike t.vm → px u → BX E u t → H.size ≤ H1.size → (∀ q : Nat, q < H.size → ¬ AX q → H1[q]? = H[q]?) → va_S A0 H0 H1 locs1 → H1[q9]? = some ce → ce.vm = .none → s.vm.findClass E = some ce.cls → vx_W p l e R s m args below meth c H1 locs1 (cells + mc) (slots + ms) Q (F0 m pc ls rest) q9)
    (kk : ∀ (r : UInt32) (u : S) (t : State) (H1 : Heap) (locs1 : List Loc), t.heap = H1 → s.vm.Alike t.vm → post r u → B u t → H.size ≤ H1.size → (∀ q : Nat, q < H.size → ¬ A1 q → H1[q]? = H[q]?) → va_S A0 H0 H1 locs1 → W p l e R s m args below meth c H1 locs1 (cells + mc) (slots + ms) Q (F0 m (pc + 3) ls (.float r :: rest))) : W p l e R s m args below meth c H locs cells slots Q (F0 m pc ls st0) := by
  intro T hT X
  rcases hr T hT X with ⟨v, st₀, t, T', L, h0, X', hL, e1, e2, ⟨⟨r, u, hv, hp, hb⟩, hF⟩, st⟩ | ⟨q, st₀, t, T', L, E, ce, h0, X', hL, e1, e2, ⟨u, hp, hb, hF⟩, hce, hcv, hcl, st⟩
  · cases hv
    obtain ⟨k1, k2, k3⟩ := vx_keep h0 e1 hS hA hf hL hF
    obtain ⟨t2, a1, b1⟩ := kk r u t T'.heap (locs ++ L) e1.symm (by rw [← e2]; exact X'.warmed.alike) hp hb k1 k2 k3 T' rfl X'
    exact ⟨t2, st t2 a1, b1⟩
  · obtain ⟨k1, k2, k3⟩ := vx_keep h0 e1 hS hAX hf hL hF
    obtain ⟨t2, a1, b1⟩ := kx E ce q u t T'.heap (locs ++ L) e1.symm (by rw [← e2]; exact X'.warmed.alike) hp hb k1 k2 k3 (by rw [e1]; exact hce) hcv hcl T' rfl X'
    exact ⟨t2, st.trans a1, b1⟩
theorem vx_calld {S SX : Type} {post : UInt64 → S → Prop} {px : SX → Prop} {B : S → State → Prop} {BX : String → SX → State → Prop} {AX : Nat → Prop} (hr : vx_Run p l e R s m args below meth c H locs cells slots mc ms (F0 m pc ls st0) rest (va_Qd post B A1 a) (vx_X px BX AX) free) (hS : va_S A0 H0 H locs) (hA : ∀ q, q < H.size → A1 q → A0 q) (hf : ∀ q, free q → A0 q) (hAX : ∀ q, q < H.size → AX q → A0 q)
    (kx : ∀ (E : String) (ce : Cell) (q9 : Addr) (u : SX) (t : State) (H1 : Heap) (locs1 : List Loc), t.heap = H1 → s.vm.Alike t.vm → px u → BX E u t → H.size ≤ H1.size → (∀ q : Nat, q < H.size → ¬ AX q → H1[q]? = H[q]?) → va_S A0 H0 H1 locs1 → H1[q9]? = some ce → ce.vm = .none → s.vm.findClass E = some ce.cls → vx_W p l e R s m args below meth c H1 locs1 (cells + mc) (slots + ms) Q (F0 m pc ls rest) q9)
    (kk : ∀ (r : UInt64) (u : S) (t : State) (H1 : Heap) (locs1 : List Loc), t.heap = H1 → s.vm.Alike t.vm → post r u → B u t → H.size ≤ H1.size → (∀ q : Nat, q < H.size → ¬ A1 q → H1[q]? = H[q]?) → va_S A0 H0 H1 locs1 → W p l e R s m args below meth c H1 locs1 (cells + mc) (slots + ms) Q (F0 m (pc + 3) ls (.double r :: rest))) : W p l e R s m args below meth c H locs cells slots Q (F0 m pc ls st0) := by
  intro T hT X
  rcases hr T hT X with ⟨v, st₀, t, T', L, h0, X', hL, e1, e2, ⟨⟨r, u, hv, hp, hb⟩, hF⟩, st⟩ | ⟨q, st₀, t, T', L, E, ce, h0, X', hL, e1, e2, ⟨u, hp, hb, hF⟩, hce, hcv, hcl, st⟩
  · cases hv
    obtain ⟨k1, k2, k3⟩ := vx_keep h0 e1 hS hA hf hL hF
    obtain ⟨t2, a1, b1⟩ := kk r u t T'.heap (locs ++ L) e1.symm (by rw [← e2]; exact X'.warmed.alike) hp hb k1 k2 k3 T' rfl X'
    exact ⟨t2, st t2 a1, b1⟩
  · obtain ⟨k1, k2, k3⟩ := vx_keep h0 e1 hS hAX hf hL hF
    obtain ⟨t2, a1, b1⟩ := kx E ce q u t T'.heap (locs ++ L) e1.symm (by rw [← e2]; exact X'.warmed.alike) hp hb k1 k2 k3 (by rw [e1]; exact hce) hcv hcl T' rfl X'
    exact ⟨t2, st.trans a1, b1⟩
theorem vx_callv {S SX : Type} {post : S → Prop} {px : SX → Prop} {B : S → State → Prop} {BX : String → SX → State → Prop} {AX : Nat → Prop} (hr : vx_Run p l e R s m args below meth c H locs cells slots mc ms (F0 m pc ls st0) rest (va_Qv post B A1 a) (vx_X px BX AX) free) (hS : va_S A0 H0 H locs) (hA : ∀ q, q < H.size → A1 q → A0 q) (hf : ∀ q, free q → A0 q) (hAX : ∀ q, q < H.size → AX q → A0 q)
    (kx : ∀ (E : String) (ce : Cell) (q9 : Addr) (u : SX) (t : State) (H1 : Heap) (locs1 : List Loc), t.heap = H1 → s.vm.Alike t.vm → px u → BX E u t → H.size ≤ H1.size → (∀ q : Nat, q < H.size → ¬ AX q → H1[q]? = H[q]?) → va_S A0 H0 H1 locs1 → H1[q9]? = some ce → ce.vm = .none → s.vm.findClass E = some ce.cls → vx_W p l e R s m args below meth c H1 locs1 (cells + mc) (slots + ms) Q (F0 m pc ls rest) q9)
    (kk : ∀ (u : S) (t : State) (H1 : Heap) (locs1 : List Loc), t.heap = H1 → s.vm.Alike t.vm → post u → B u t → H.size ≤ H1.size → (∀ q : Nat, q < H.size → ¬ A1 q → H1[q]? = H[q]?) → va_S A0 H0 H1 locs1 → W p l e R s m args below meth c H1 locs1 (cells + mc) (slots + ms) Q (F0 m (pc + 3) ls (rest))) : W p l e R s m args below meth c H locs cells slots Q (F0 m pc ls st0) := by
  intro T hT X
  rcases hr T hT X with ⟨v, st₀, t, T', L, h0, X', hL, e1, e2, ⟨⟨u, hv, hp, hb⟩, hF⟩, st⟩ | ⟨q, st₀, t, T', L, E, ce, h0, X', hL, e1, e2, ⟨u, hp, hb, hF⟩, hce, hcv, hcl, st⟩
  · cases hv
    obtain ⟨k1, k2, k3⟩ := vx_keep h0 e1 hS hA hf hL hF
    obtain ⟨t2, a1, b1⟩ := kk u t T'.heap (locs ++ L) e1.symm (by rw [← e2]; exact X'.warmed.alike) hp hb k1 k2 k3 T' rfl X'
    exact ⟨t2, st t2 a1, b1⟩
  · obtain ⟨k1, k2, k3⟩ := vx_keep h0 e1 hS hAX hf hL hF
    obtain ⟨t2, a1, b1⟩ := kx E ce q u t T'.heap (locs ++ L) e1.symm (by rw [← e2]; exact X'.warmed.alike) hp hb k1 k2 k3 (by rw [e1]; exact hce) hcv hcl T' rfl X'
    exact ⟨t2, st.trans a1, b1⟩
/-- caught by the row x of this method's table; the rows ahead don't take it -/
theorem vx_catch {own name : String} {E : String} {ce : Cell} {q : Addr} (hown : s.vm.findClass own = some m.cls) (pre : List ExceptionTableEntry) (x : ExceptionTableEntry) (suf : List ExceptionTableEntry) (hsplit : c.exceptionTable.toList = pre ++ x :: suf)
    (hpass : ∀ z ∈ pre, covers z pc = false ∨ (z.catchType ≠ 0 ∧ ∃ nm : String, (Cond.classLink own z.catchType nm).before args s = true ∧ va_Nc E nm s)) (hx : covers x pc = true) (h0 : x.catchType ≠ 0)
    (hlink : (Cond.classLink own x.catchType name).before args s = true) (hcast : (Cond.castable E name).before args s = true) (hcell : H[q]? = some ce) (hv : ce.vm = .none) (hcl : s.vm.findClass E = some ce.cls)
    (kk : W p l e R s m args below meth c H locs cells slots Q (F0 m x.handlerPc ls [.ref q])) : vx_W p l e R s m args below meth c H locs cells slots Q (F0 m pc ls rest) q := by
  intro T hT X
  have hpl : e.platform.magicAccessors = ({} : Platform).magicAccessors := by rw [X.admits.platform]
  obtain ⟨c3, c4, hc3, hc4, hasg⟩ := Cond.castable_spec hcast
  cases Option.some.inj (hc3.symm.trans hcl)
  obtain ⟨c5, hc5, hcl5⟩ := Cond.classLink_spec hown hlink e.platform hpl
  cases Option.some.inj (hc4.symm.trans hc5)
  obtain ⟨vm', X', st⟩ := X.thenCaughtThrough q (g := F0 m pc ls rest) rfl (Steps.refl _) (by rw [hT]; exact hcell) (by rw [hv]; rfl) (by obtain ⟨k9, h9, -⟩ := Vm.findClass_spec hcl; exact ⟨k9, h9⟩) pre x suf hsplit
    (fun z hz => by
      rcases hpass z hz with h | ⟨hz0, nm, hl1, hn1⟩
      · exact Or.inl h
      · obtain ⟨c6, hc6, hcl6⟩ := Cond.classLink_spec hown hl1 e.platform hpl
        obtain ⟨a8, b8, h1, h2, h3⟩ := hn1
        cases Option.some.inj (h1.symm.trans hcl)
        cases Option.some.inj (h2.symm.trans hc6)
        exact Or.inr ⟨hz0, _, hcl6, h3⟩) hx (Or.inr ⟨h0, c4, hcl5, hasg⟩)
  obtain ⟨t, a1, b1⟩ := kk (T.setVm vm') hT X'
  exact ⟨t, st.trans a1, b1⟩
end Rows
section Ends
variable {p : Program} {l : Launch} {e : Env} {R : Room} {s : State} {m : MethodId} {args : Array Value} {below : List Frame} {meth : Method} {c : Code} {H : Heap} {locs : List Loc} {cells slots : Nat} {Q : State → Prop}
variable {mc ms : Nat} {free : Addr → Prop} {A0 A1 : Nat → Prop} {H0 : Heap} {a : Array Value} {ls : Array Slot} {st0 rest : List Value}
variable {Qc : Array Value → State → Outcome → State → Prop} {XC : String → State → State → Prop}
/-- what a body that may throw owes at its end -/
def vx_MQ (below : List Frame) (Qc : Array Value → State → Outcome → State → Prop) (XC : String → State → State → Prop) (a : Array Value) (s : State) (mc ms : Nat) (free : Addr → Prop) : State → Prop := fun t =>
  ∃ o, t.status = .running ∧ Ended t below o ∧ vx_Q Qc XC mc ms free a s o t
theorem vx_ret {g : JFrame} {mc ms : Nat} (k : W p l e R s m args below meth c H locs cells slots (MQ below Qc args s mc ms free) g) : W p l e R s m args below meth c H locs cells slots (vx_MQ below Qc XC args s mc ms free) g := by
  intro T hT X
  obtain ⟨t, a1, o, b1, b2, b3, b4⟩ := k T hT X
  exact ⟨t, a1, o, b1, b2, Or.inl ⟨b3, b4⟩⟩
/-- not caught here: it goes on to the caller -/
theorem vx_widen {g : JFrame} {q : Addr} {k n : Nat} (h1 : cells ≤ k) (h2 : slots ≤ n) (kk : vx_W p l e R s m args below meth c H locs k n Q g q) : vx_W p l e R s m args below meth c H locs cells slots Q g q := fun T hT X => kk T hT (stand_widen X h1 h2)
theorem vx_out {pc : Nat} {E : String} {ce : Cell} {q : Addr} {mc ms : Nat} (hout : ∀ x ∈ c.exceptionTable.toList, covers x pc = false) (hlocks : meth.locks = false) (hcell : H[q]? = some ce) (hv : ce.vm = .none) (hcl : s.vm.findClass E = some ce.cls)
    (hx : ∀ t : State, t.heap = H → s.vm.Alike t.vm → XC E s t) (hf : ∀ z ∈ locs, free z.base) (hc : cells ≤ mc) (hs : slots ≤ ms) :
    vx_W p l e R s m args below meth c H locs cells slots (vx_MQ below Qc XC args s mc ms free) (F0 m pc ls rest) q := by
  intro T hT X
  obtain ⟨st1, hrun, hend, hW, hsm⟩ := X.leaveThrown q (g := F0 m pc ls rest) rfl rfl rfl hout hlocks
  have hcell9 : (T.setFrames (.throwing q :: below)).heap[q]? = some ce := by
    show T.heap[q]? = some ce
    rw [hT]; exact hcell
  exact ⟨_, st1, .threw q, hrun, hend, Or.inr ⟨q, rfl, E, ce, locs, hx _ hT hW.alike, hcell9, hv, hcl, hW, hsm.mono hc hs, hf⟩⟩
theorem vx_frame {U : State} {k n : Nat} (h : s.sameButNew ({ U with vm := s.vm } : State) locs k n) : s.heap.size ≤ U.heap.size ∧ ∀ q : Nat, q < s.heap.size → (∀ z ∈ locs, z.base ≠ q) → U.heap[q]? = s.heap[q]? := by
  obtain ⟨-, h2, -, -, -, h6⟩ := h
  refine ⟨h2, fun q hq hz => ?_⟩
  obtain ⟨c9, e1, e2, e3, e4⟩ := h6 q _ (Array.getElem?_eq_getElem hq)
  have hs : c9.slots = (s.heap[q]).slots := Array.ext_getElem? fun i => e4 i fun hm => hz _ hm rfl
  have h9 : c9 = s.heap[q] := by
    rw [hs] at e2
    exact e2
  have e5 : U.heap[q]? = some c9 := e1
  rw [e5, h9, Array.getElem?_eq_getElem hq]
/-- the words of a throw but the four that speak of the heap -/
def vx_no (w : Cond) : Bool := decide (w ≠ .isRef (.static Bundle.tN "UNASSIGNED_STACK" Bundle.steD)) && decide (w ≠ .isRef (.static Bundle.tN "SUPPRESSED_SENTINEL" Bundle.listD)) && decide (w ≠ .laysStatic Bundle.tN "UNASSIGNED_STACK" Bundle.steD) && decide (w ≠ .laysStatic Bundle.tN "SUPPRESSED_SENTINEL" Bundle.listD)
def vx_at0 (own : String) (ic : Nat) (X : String) (names : List String) : List Cond := (Bundle.ownAtoms0 own ic X names).filter vx_no
def vx_atS (own : String) (ic : Nat) (X : String) (names : List String) : List Cond := (Bundle.ownAtoms own ic X names).filter vx_no
/-- a word that the tables alone decide, or a good one -/
def vx_ot (w : Cond) : Bool := w.onTables || goodWord w
theorem vx_ot_at {args a' : Array Value} {s U : State} {w : Cond} (hW : s.WarmedH U.vm) (hvm : s.vm = U.vm) (hg : vx_ot w = true) (h : w.before args s = true) : w.before a' U = true := by
  simp only [vx_ot, Bool.or_eq_true] at hg
  rcases hg with hg | hg
  · exact va_tabs hg hvm h
  · exact word_at hW (good_of_word hg) h
/-- a list's words: the good ones out of the method's own list, the others by premises of their own -/
theorem vx_hat {args : Array Value} {s : State} {L B : List Cond} (h1 : ∀ w ∈ L.filter goodWord, w.before args s = true) (h2 : ∀ w ∈ L.filter (fun w => !goodWord w), w ∈ B) (h3 : ∀ w ∈ B, w.before args s = true) : ∀ w ∈ L, w.before args s = true := by
  intro w hw
  by_cases g : goodWord w = true
  · exact h1 w (List.mem_filter.mpr ⟨hw, g⟩)
  · refine h3 w (h2 w (List.mem_filter.mpr ⟨hw, ?_⟩))
    show (!goodWord w) = true
    cases hgw : goodWord w
    · rfl
    · exact absurd hgw g
theorem vx_c {args : Array Value} {s : State} {w : Cond} {B : List Cond} (h : w.before args s = true) (t : ∀ w ∈ B, w.before args s = true) : ∀ w' ∈ w :: B, w'.before args s = true := fun w' h' => (List.mem_cons.mp h').elim (fun e => by rw [e]; exact h) (t w')
theorem vx_n {args : Array Value} {s : State} : ∀ w ∈ ([] : List Cond), w.before args s = true := fun _ h => nomatch h
theorem vx_own {args : Array Value} {s : State} {L : List Cond} (h1 : ∀ w ∈ L.filter vx_no, w.before args s = true)
    (hU : (Cond.isRef (.static Bundle.tN "UNASSIGNED_STACK" Bundle.steD)).before args s = true) (hN : (Cond.isRef (.static Bundle.tN "SUPPRESSED_SENTINEL" Bundle.listD)).before args s = true)
    (lU : (Cond.laysStatic Bundle.tN "UNASSIGNED_STACK" Bundle.steD).before args s = true) (lN : (Cond.laysStatic Bundle.tN "SUPPRESSED_SENTINEL" Bundle.listD).before args s = true) : ∀ w ∈ L, w.before args s = true := by
  intro w hw
  by_cases e1 : w = .isRef (.static Bundle.tN "UNASSIGNED_STACK" Bundle.steD)
  · rw [e1]; exact hU
  · by_cases e2 : w = .isRef (.static Bundle.tN "SUPPRESSED_SENTINEL" Bundle.listD)
    · rw [e2]; exact hN
    · by_cases e3 : w = .laysStatic Bundle.tN "UNASSIGNED_STACK" Bundle.steD
      · rw [e3]; exact lU
      · by_cases e4 : w = .laysStatic Bundle.tN "SUPPRESSED_SENTINEL" Bundle.listD
        · rw [e4]; exact lN
        · exact h1 w (List.mem_filter.mpr ⟨hw, by unfold vx_no; rw [decide_eq_true e1, decide_eq_true e2, decide_eq_true e3, decide_eq_true e4]; rfl⟩)
/-- where a static field lies, its class's statics cell in H -/
def vx_L (C n d : String) (A : Nat → Prop) (U : State) (H : Heap) : Prop := ∃ (c : ClassId) (k : Class) (i : Nat) (f : Field) (a : Nat) (cell : Cell), U.vm.findClass C = some c ∧ U.fieldFound? C n d = some (c, k, i, f) ∧ f.isStatic = true ∧ k.statics = some a ∧ H[a]? = some cell ∧ cell.vm.isStatics = true ∧ cell.cls = c ∧ f.slot < cell.slots.size ∧ k.staticTypes[f.slot]? = some f.type ∧ ¬ A a
theorem vx_L.moved {C n d : String} {A : Nat → Prop} {u U : State} {H : Heap} (hvm : u.vm.Alike U.vm) (h : vx_L C n d A u H) : vx_L C n d A U H := by
  obtain ⟨c, k, i, f, a, cell, h1, h2, h3, h4, h5, h6, h7, h8, h9, h10⟩ := h
  obtain ⟨k', hi', he⟩ := State.fieldFound?_setVm hvm h2
  exact ⟨c, k', i, f, a, cell, by rw [hvm.findClass]; exact h1, hi', h3, by rw [he]; exact h4, h5, h6, h7, h8, by rw [he]; exact h9, h10⟩
theorem vx_L.kept {C n d : String} {A : Nat → Prop} {U : State} {H H1 : Heap} (h : vx_L C n d A U H) (hq : ∀ a : Nat, a < H.size → ¬ A a → H1[a]? = H[a]?) : vx_L C n d A U H1 := by
  obtain ⟨c, k, i, f, a, cell, h1, h2, h3, h4, h5, h6, h7, h8, h9, h10⟩ := h
  exact ⟨c, k, i, f, a, cell, h1, h2, h3, h4, by rw [hq a (Array.getElem?_eq_some_iff.mp h5).1 h10]; exact h5, h6, h7, h8, h9, h10⟩
theorem vx_L.narrow {C n d : String} {A B : Nat → Prop} {U : State} {H : Heap} (h : vx_L C n d A U H) (hAB : ∀ q, B q → A q) : vx_L C n d B U H := by
  obtain ⟨c, k, i, f, a, cell, h1, h2, h3, h4, h5, h6, h7, h8, h9, h10⟩ := h
  exact ⟨c, k, i, f, a, cell, h1, h2, h3, h4, h5, h6, h7, h8, h9, fun z => h10 (hAB _ z)⟩
theorem vx_L.word {C n d : String} {A : Nat → Prop} {s : State} {args : Array Value} (h : vx_L C n d A s s.heap) : (Cond.laysStatic C n d).before args s = true := by
  obtain ⟨c, k, i, f, a, cell, h1, h2, h3, h4, h5, h6, h7, h8, h9, -⟩ := h
  show (Cond.laysStatic C n d).holds args s none s [] = true
  exact Cond.laysStatic_of h1 h2 h3 h4 h5 h6 h7 h8 h9
/-- .. and what it holds: null or some reference -/
def vx_Zq (C n d : String) (A : Nat → Prop) (U : State) (H : Heap) : Prop := va_Zq C n d A U H ∧ vx_L C n d A U H
theorem vx_Zq.moved {C n d : String} {A : Nat → Prop} {u U : State} {H : Heap} (hvm : u.vm.Alike U.vm) (h : vx_Zq C n d A u H) : vx_Zq C n d A U H := ⟨va_Zq.moved hvm h.1, vx_L.moved hvm h.2⟩
theorem vx_Zq.kept {C n d : String} {A : Nat → Prop} {U : State} {H H1 : Heap} (h : vx_Zq C n d A U H) (hq : ∀ a : Nat, a < H.size → ¬ A a → H1[a]? = H[a]?) : vx_Zq C n d A U H1 := ⟨va_Zq.kept h.1 hq, vx_L.kept h.2 hq⟩
theorem vx_Zq.narrow {C n d : String} {A B : Nat → Prop} {U : State} {H : Heap} (h : vx_Zq C n d A U H) (hAB : ∀ q, B q → A q) : vx_Zq C n d B U H := ⟨va_Zq.narrow h.1 hAB, vx_L.narrow h.2 hAB⟩
theorem vx_Zqof {args : Array Value} {s : State} {C n d : String} {A : Nat → Prop} (hl : (Cond.laysStatic C n d).before args s = true) (hini : (Cond.initialized C).before args s = true) (h : (Cond.isRef (.static C n d)).before args s = true) (hA : ∀ a : Nat, a < s.heap.size → ¬ A a) : vx_Zq C n d A s s.heap := by
  refine ⟨va_Zqof hl hini h hA, ?_⟩
  obtain ⟨c, k, i, f, a, cell, h1, h2, h3, h4, h5, h6, h7, h8, h9⟩ := Cond.laysStatic_spec hl
  exact ⟨c, k, i, f, a, cell, h1, h2, h3, h4, h5, h6, h7, h8, h9, hA a (Array.getElem?_eq_some_iff.mp h5).1⟩
theorem vx_isRef {C n d : String} {v : Value} {A : Nat → Prop} {s : State} {args : Array Value} (h : va_Z C n d v A s s.heap) (hv : v.isRef = true) : (Cond.isRef (.static C n d)).before args s = true := by
  obtain ⟨cf, kf, fi, f, a, cell, h1, h2, h3, h4, h5, h6, h7, -⟩ := h
  have he : (Term.static C n d).eval args s none [] s = some v := by
    simp [Term.eval, State.fieldNamed?, h1, h2, h4, h5, h6, h7]
  simp only [Cond.before, Cond.holds, Cond.value, he]
  cases v <;> simp_all [Value.isRef]
theorem vx_isRefq {C n d : String} {A : Nat → Prop} {s : State} {args : Array Value} (h : va_Zq C n d A s s.heap) : (Cond.isRef (.static C n d)).before args s = true := by
  rcases h with h | ⟨t, h⟩
  · exact vx_isRef h rfl
  · exact vx_isRef h rfl
/-- the same frame, seen from here: as if the method were called anew in this heap -/
theorem vx_rebase {T : State} (X : Stand p l e R s m args below meth c T locs cells slots) {R' : Room} (hf : R'.frames ≤ R.frames) (hl : R'.locals ≤ R.locals) (hc : cells + R'.cells ≤ R.cells) (hs : slots + R'.slots ≤ R.slots) :
    Stand p l e R' ((T.setVm s.vm).setFrames (.invoking m args :: below)) m args below meth c T [] 0 0 := by
  have htop : (T.setVm s.vm).topJava?.isSome := X.here.top
  have hF : ((T.setVm s.vm).setFrames (.invoking m args :: below)).frames = .invoking m args :: below := State.frames_setFrames _ (State.cur_lt_of_top htop)
  obtain ⟨g₀, hg0⟩ := Option.isSome_iff_exists.mp htop
  obtain ⟨r, hr⟩ := State.topJava?_eq_some.mp hg0
  have hl9 : e.platform.stackLimits (T.setVm s.vm).me = e.platform.stackLimits s.me := X.limits
  have hb9 : (T.setVm s.vm).me.stackBytes = s.me.stackBytes := X.bytes
  refine ⟨X.admits, X.cas, X.clock, hF, ?_, X.hears, X.method, X.code, X.here, X.tail, X.warmed, ?_, ?_, ?_⟩
  · have h := X.room
    have hU : ((T.setVm s.vm).setFrames (.invoking m args :: below)).localsInUse = s.localsInUse := by
      rw [State.localsInUse_invoking hF (meth := meth) (c := c) X.method X.code, State.localsInUse_invoking X.frames X.method X.code]
    simp only [State.hasRoom, Bool.and_eq_true, decide_eq_true_eq] at h ⊢
    obtain ⟨⟨⟨⟨h1, h2, h3, h4, h5, h6⟩, h7⟩, h8⟩, h9⟩ := h
    rw [X.frames, List.length_cons] at h2 h3
    have q1 := X.heapSize
    have q2 := X.used
    simp only [hF, hU, List.length_cons, State.stackLimits_setFrames, State.stackBytes_setFrames, hl9, hb9]
    refine ⟨⟨⟨⟨by omega, by omega, by omega, by omega, by omega, h6⟩, ?_⟩, ?_⟩, X.book⟩
    · show T.heap.size + R'.cells ≤ e.platform.maxCells
      omega
    · show T.slotsUsed + R'.slots ≤ e.platform.maxSlots
      omega
  · rw [State.stackLimits_setFrames]; rfl
  · rw [State.stackBytes_setFrames]; rfl
  · refine ⟨?_, Nat.le_refl _, Nat.le_refl _, ?_, ?_, fun a c9 h9 => ⟨c9, h9, rfl, rfl, fun _ _ => rfl⟩⟩
    · obtain ⟨t, ht, -⟩ := State.frames_cons hr
      show T.setVm s.vm = { ((T.setVm s.vm).setFrames (.invoking m args :: below)).setFrames (T.setVm s.vm).frames with heap := T.heap, slotsUsed := T.slotsUsed }
      rw [State.setFrames_setFrames, State.setFrames_self ht]
      rfl
    · show T.slotsUsed = T.slotsUsed + ((T.heap.toList.drop T.heap.size).map (·.slots.size)).sum
      rw [List.drop_eq_nil_of_le (Nat.le_of_eq Array.length_toList)]
      rfl
    · show ((T.heap.toList.drop T.heap.size).map (·.slots.size)).sum ≤ 0
      rw [List.drop_eq_nil_of_le (Nat.le_of_eq Array.length_toList)]
      exact Nat.le_refl _
/-- 'throw new E()': new; dup; invokespecial; athrow -/
theorem vx_throw0 {cc : ByteArray} {pc : Nat} (hexec : p.tables.exec = Jvm.exec) (hb : c.code = cc) (hl : l.stackTraces = false) {own cls : String} {names : List String} {ik ic mc ms : Nat} {A : Nat → Prop}
    (hown : s.vm.findClass own = some m.cls) (hcls : Bundle.fit cls = true) (hnames : ∀ n ∈ names, Bundle.fit n = true)
    (hk : (Cond.classLink own ik cls).before args s = true) (hini : (Cond.initialized cls).before args s = true) (hat : ∀ w ∈ vx_at0 own ic cls names, w.before args s = true)
    (hgood : ∀ w ∈ Cond.classLink own ik cls :: Cond.initialized cls :: vx_at0 own ic cls names, vx_ot w = true)
    (hU : vx_Zq Bundle.tN "UNASSIGNED_STACK" Bundle.steD A s s.heap) (hN : vx_Zq Bundle.tN "SUPPRESSED_SENTINEL" Bundle.listD A s s.heap) (hS : va_S A s.heap H locs) (hsize : ls.size = c.maxLocals)
    (d0 : decode cc pc = .ok (.new ik, 3)) (d3 : decode cc (pc + 3) = .ok (.dup, 1)) (d4 : decode cc (pc + 4) = .ok (.invokespecial ic, 3)) (d7 : decode cc (pc + 7) = .ok (.athrow, 1))
    (hout : ∀ x ∈ c.exceptionTable.toList, covers x (pc + 7) = false)
    (hRframes : names.length + 3 < R.frames) (hRlocals : (rest.map fun v => v.category).sum + (13 * (names.length + 1) + 42) ≤ R.locals) (hRcells : cells + 1 ≤ R.cells) (hRslots : slots + 6 ≤ R.slots) (hlocks : meth.locks = false)
    (hx : ∀ t : State, s.vm.Alike t.vm → H.size ≤ t.heap.size → (∀ q : Nat, q < H.size → t.heap[q]? = H[q]?) → XC cls s t)
    (hf : ∀ z ∈ locs, free z.base) (hc : cells + 1 ≤ mc) (hs : slots + 6 ≤ ms) :
    W p l e R s m args below meth c H locs cells slots (vx_MQ below Qc XC args s mc ms free) (F0 m pc ls rest) := by
  intro T hT X
  have htr : e.platform.stackTraces = false := (show e.platform.stackTraces = l.stackTraces by rw [X.admits.platform]).trans hl
  have Y := vx_rebase X (R' := { frames := R.frames, locals := R.locals, cells := 1, slots := 6 }) (Nat.le_refl _) (Nat.le_refl _) hRcells hRslots
  obtain ⟨s', hA⟩ : ∃ z, z = (T.setVm s.vm).setFrames (.invoking m args :: below) := ⟨_, rfl⟩
  rw [← hA] at Y
  have hvm : s'.vm = s.vm := by rw [hA]; rfl
  have hhp : s'.heap = H := by rw [hA]; exact hT
  have hW0 : s.WarmedH s'.vm := by rw [hvm]; exact State.WarmedH.refl s
  have hat' : ∀ w ∈ vx_at0 own ic cls names, w.before args s' = true := fun w hw => vx_ot_at hW0 hvm.symm (hgood w (List.mem_cons_of_mem _ (List.mem_cons_of_mem _ hw))) (hat w hw)
  have hk' : (Cond.classLink own ik cls).before args s' = true := vx_ot_at hW0 hvm.symm (hgood _ List.mem_cons_self) hk
  have hini' : (Cond.initialized cls).before args s' = true := vx_ot_at hW0 hvm.symm (hgood _ (List.mem_cons_of_mem _ List.mem_cons_self)) hini
  have hU' : vx_Zq Bundle.tN "UNASSIGNED_STACK" Bundle.steD A s' s'.heap := by rw [hhp]; exact vx_Zq.moved hW0.alike (hU.kept hS.2.1)
  have hN' : vx_Zq Bundle.tN "SUPPRESSED_SENTINEL" Bundle.listD A s' s'.heap := by rw [hhp]; exact vx_Zq.moved hW0.alike (hN.kept hS.2.1)
  have h : ∀ w ∈ Bundle.ownAtoms0 own ic cls names, w.before args s' = true := vx_own hat' (vx_isRefq hU'.1) (vx_isRefq hN'.1) hU'.2.word hN'.2.word
  have hown' : s'.vm.findClass own = some m.cls := by rw [hvm]; exact hown
  have hins : (Cond.instantiable cls 6).before args s' = true := h _ (by simp [Bundle.ownAtoms0])
  obtain ⟨vm₁, cX, kX, hfX, hkX, -, -, X₁, st1⟩ := Y.newCold hexec (own := own) (C := cls) (index := ik) (n := 6) hown' hk' hins hini'
    (g := F0 m pc ls rest) rfl (by rw [hb]; exact d0) (Nat.le_refl _) (Nat.le_refl _)
  generalize hT1 : (T.setVm vm₁).pushCell { cls := cX, slots := kX.instanceTypes.map defaultValue, vm := .none } = T1 at X₁ st1
  have hcat : (Value.ref T.heap.size).category = 1 := rfl
  have hcellA : T1.heap[T.heap.size]? = some (freshCell cX kX) := by rw [← hT1]; exact State.heap_pushCell_size _ _
  have d3' : decode c.code (pc + 3) = .ok (.dup, 1) := by rw [hb]; exact d3
  obtain ⟨U, hsteps, hrun, hend, hW, hsame, ce, hce, hO⟩ := X₁.ctorThrow0 hexec htr (own := own) (cls := cls) (names := names) (ic := ic) hown' hcls hnames h (fun x hx => nomatch hx) hfX hkX hcellA (by rw [hhp, hT]; exact Nat.le_refl _)
    (g := { method := m, pc := pc + 4, locals := ls, stack := .ref T.heap.size :: .ref T.heap.size :: rest, locked := none }) rfl hsize rfl rfl (rest := rest) rfl
    (by rw [hb]; exact d4) (by rw [hb]; exact d7) hout hRframes (by simp only [List.map_cons, List.sum_cons, hcat]; omega) hlocks
  obtain ⟨f1, f2⟩ := vx_frame hsame
  rw [hhp] at f1 f2
  have hWs : s.WarmedH U.vm := State.WarmedH.trans hW0 hW
  have hcl : s.vm.findClass cls = some ce.cls := by
    have h9 := hO.cls
    rw [hvm] at h9
    exact h9
  have hall : s.sameButNew ({ U with vm := s.vm } : State) locs mc ms := by
    subst hA
    obtain ⟨e1, e2⟩ := hsame
    rw [State.setFrames_setFrames] at e1
    have h2 : (T.setVm s.vm).sameButNew ({ U with vm := s.vm } : State) [] (0 + 1) (0 + 6) := ⟨e1, e2⟩
    have h3 := X.same.trans h2
    rw [List.append_nil] at h3
    exact h3.mono hc hs
  refine ⟨U, ?_, .threw T.heap.size, hrun, hend, Or.inr ⟨T.heap.size, rfl, cls, ce, locs, hx U hWs.alike f1 (fun q hq => f2 q hq (fun z hz => nomatch hz)), hce, hO.vm, hcl, hWs, hall, hf⟩⟩
  refine st1 _ ?_
  show Steps p.tables e below (T1.setTop { method := m, pc := pc + 3, locals := ls, stack := .ref T.heap.size :: rest, locked := none }) _
  jvm_step X₁.here [X₁.here.top, hexec, d3', Value.category]
  exact hsteps
/-- 'throw new E("text")': new; dup; ldc; invokespecial; athrow -/
theorem vx_throwS {cc : ByteArray} {pc : Nat} (hexec : p.tables.exec = Jvm.exec) (hb : c.code = cc) (hl : l.stackTraces = false) {own cls text : String} {names : List String} {ik is ic mc ms sa : Nat} {A : Nat → Prop}
    (hown : s.vm.findClass own = some m.cls) (hcls : Bundle.fit cls = true) (hnames : ∀ n ∈ names, Bundle.fit n = true)
    (hk : (Cond.classLink own ik cls).before args s = true) (hini : (Cond.initialized cls).before args s = true) (hstr : vk_R own is text sa s) (hat : ∀ w ∈ vx_atS own ic cls names, w.before args s = true)
    (hgood : ∀ w ∈ Cond.classLink own ik cls :: Cond.initialized cls :: vx_atS own ic cls names, vx_ot w = true)
    (hU : vx_Zq Bundle.tN "UNASSIGNED_STACK" Bundle.steD A s s.heap) (hN : vx_Zq Bundle.tN "SUPPRESSED_SENTINEL" Bundle.listD A s s.heap) (hS : va_S A s.heap H locs) (hsize : ls.size = c.maxLocals)
    (d0 : decode cc pc = .ok (.new ik, 3)) (d3 : decode cc (pc + 3) = .ok (.dup, 1)) (d4 : decode cc (pc + 4) = .ok (.ldc is, 2)) (d6 : decode cc (pc + 6) = .ok (.invokespecial ic, 3)) (d9 : decode cc (pc + 9) = .ok (.athrow, 1))
    (hout : ∀ x ∈ c.exceptionTable.toList, covers x (pc + 9) = false)
    (hRframes : names.length + 3 < R.frames) (hRlocals : (rest.map fun v => v.category).sum + (13 * (names.length + 1) + 43) ≤ R.locals) (hRcells : cells + 1 ≤ R.cells) (hRslots : slots + 6 ≤ R.slots) (hlocks : meth.locks = false)
    (hx : ∀ t : State, s.vm.Alike t.vm → H.size ≤ t.heap.size → (∀ q : Nat, q < H.size → t.heap[q]? = H[q]?) → XC cls s t)
    (hf : ∀ z ∈ locs, free z.base) (hc : cells + 1 ≤ mc) (hs : slots + 6 ≤ ms) :
    W p l e R s m args below meth c H locs cells slots (vx_MQ below Qc XC args s mc ms free) (F0 m pc ls rest) := by
  intro T hT X
  have htr : e.platform.stackTraces = false := (show e.platform.stackTraces = l.stackTraces by rw [X.admits.platform]).trans hl
  have Y := vx_rebase X (R' := { frames := R.frames, locals := R.locals, cells := 1, slots := 6 }) (Nat.le_refl _) (Nat.le_refl _) hRcells hRslots
  obtain ⟨s', hA⟩ : ∃ z, z = (T.setVm s.vm).setFrames (.invoking m args :: below) := ⟨_, rfl⟩
  rw [← hA] at Y
  have hvm : s'.vm = s.vm := by rw [hA]; rfl
  have hhp : s'.heap = H := by rw [hA]; exact hT
  have hW0 : s.WarmedH s'.vm := by rw [hvm]; exact State.WarmedH.refl s
  have hat' : ∀ w ∈ vx_atS own ic cls names, w.before args s' = true := fun w hw => vx_ot_at hW0 hvm.symm (hgood w (List.mem_cons_of_mem _ (List.mem_cons_of_mem _ hw))) (hat w hw)
  have hk' : (Cond.classLink own ik cls).before args s' = true := vx_ot_at hW0 hvm.symm (hgood _ List.mem_cons_self) hk
  have hini' : (Cond.initialized cls).before args s' = true := vx_ot_at hW0 hvm.symm (hgood _ (List.mem_cons_of_mem _ List.mem_cons_self)) hini
  have hU' : vx_Zq Bundle.tN "UNASSIGNED_STACK" Bundle.steD A s' s'.heap := by rw [hhp]; exact vx_Zq.moved hW0.alike (hU.kept hS.2.1)
  have hN' : vx_Zq Bundle.tN "SUPPRESSED_SENTINEL" Bundle.listD A s' s'.heap := by rw [hhp]; exact vx_Zq.moved hW0.alike (hN.kept hS.2.1)
  have h : ∀ w ∈ Bundle.ownAtoms own ic cls names, w.before args s' = true := vx_own hat' (vx_isRefq hU'.1) (vx_isRefq hN'.1) hU'.2.word hN'.2.word
  have hown' : s'.vm.findClass own = some m.cls := by rw [hvm]; exact hown
  have hins : (Cond.instantiable cls 6).before args s' = true := h _ (by simp [Bundle.ownAtoms])
  obtain ⟨vm₁, cX, kX, hfX, hkX, -, -, X₁, st1⟩ := Y.newCold hexec (own := own) (C := cls) (index := ik) (n := 6) hown' hk' hins hini'
    (g := F0 m pc ls rest) rfl (by rw [hb]; exact d0) (Nat.le_refl _) (Nat.le_refl _)
  generalize hT1 : (T.setVm vm₁).pushCell { cls := cX, slots := kX.instanceTypes.map defaultValue, vm := .none } = T1 at X₁ st1
  have hcat : (Value.ref T.heap.size).category = 1 := rfl
  have hcellA : T1.heap[T.heap.size]? = some (freshCell cX kX) := by rw [← hT1]; exact State.heap_pushCell_size _ _
  have d3' : decode c.code (pc + 3) = .ok (.dup, 1) := by rw [hb]; exact d3
  have d4' : decode c.code (pc + 4) = .ok (.ldc is, 2) := by rw [hb]; exact d4
  have hstr' : vk_R own is text sa s' := vk_R.warm hW0 hstr
  obtain ⟨U, hsteps, hrun, hend, hW, hsame, ce, hce, hO⟩ := X₁.ctorThrowS hexec htr (own := own) (cls := cls) (names := names) (ic := ic) hown' hcls hnames h (fun x hx => nomatch hx) hfX hkX hcellA (by rw [hhp, hT]; exact Nat.le_refl _) (msg := .ref sa) rfl
    (g := { method := m, pc := pc + 6, locals := ls, stack := .ref sa :: .ref T.heap.size :: .ref T.heap.size :: rest, locked := none }) rfl hsize rfl rfl (rest := rest) rfl
    (by rw [hb]; exact d6) (by rw [hb]; exact d9) hout hRframes (by simp only [List.map_cons, List.sum_cons, hcat]; omega) hlocks
  obtain ⟨f1, f2⟩ := vx_frame hsame
  rw [hhp] at f1 f2
  have hWs : s.WarmedH U.vm := State.WarmedH.trans hW0 hW
  have hcl : s.vm.findClass cls = some ce.cls := by
    have h9 := hO.cls
    rw [hvm] at h9
    exact h9
  have hall : s.sameButNew ({ U with vm := s.vm } : State) locs mc ms := by
    subst hA
    obtain ⟨e1, e2⟩ := hsame
    rw [State.setFrames_setFrames] at e1
    have h2 : (T.setVm s.vm).sameButNew ({ U with vm := s.vm } : State) [] (0 + 1) (0 + 6) := ⟨e1, e2⟩
    have h3 := X.same.trans h2
    rw [List.append_nil] at h3
    exact h3.mono hc hs
  refine ⟨U, ?_, .threw T.heap.size, hrun, hend, Or.inr ⟨T.heap.size, rfl, cls, ce, locs, hx U hWs.alike f1 (fun q hq => f2 q hq (fun z hz => nomatch hz)), hce, hO.vm, hcl, hWs, hall, hf⟩⟩
  refine st1 _ ?_
  show Steps p.tables e below (T1.setTop { method := m, pc := pc + 3, locals := ls, stack := .ref T.heap.size :: rest, locked := none }) _
  jvm_step X₁.here [X₁.here.top, hexec, d3', Value.category]
  exact X₁.ldcString hexec (own := own) (text := text) (index := is) (a := sa) hown' hstr'.1 hstr'.2
    (g := { method := m, pc := pc + 4, locals := ls, stack := .ref T.heap.size :: .ref T.heap.size :: rest, locked := none }) rfl d4' _ hsteps
/-- 'throw new E("text")', the text by a wide index -/
theorem vx_throwSW {cc : ByteArray} {pc : Nat} (hexec : p.tables.exec = Jvm.exec) (hb : c.code = cc) (hl : l.stackTraces = false) {own cls text : String} {names : List String} {ik is ic mc ms sa : Nat} {A : Nat → Prop}
    (hown : s.vm.findClass own = some m.cls) (hcls : Bundle.fit cls = true) (hnames : ∀ n ∈ names, Bundle.fit n = true)
    (hk : (Cond.classLink own ik cls).before args s = true) (hini : (Cond.initialized cls).before args s = true) (hstr : vk_R own is text sa s) (hat : ∀ w ∈ vx_atS own ic cls names, w.before args s = true)
    (hgood : ∀ w ∈ Cond.classLink own ik cls :: Cond.initialized cls :: vx_atS own ic cls names, vx_ot w = true)
    (hU : vx_Zq Bundle.tN "UNASSIGNED_STACK" Bundle.steD A s s.heap) (hN : vx_Zq Bundle.tN "SUPPRESSED_SENTINEL" Bundle.listD A s s.heap) (hS : va_S A s.heap H locs) (hsize : ls.size = c.maxLocals)
    (d0 : decode cc pc = .ok (.new ik, 3)) (d3 : decode cc (pc + 3) = .ok (.dup, 1)) (d4 : decode cc (pc + 4) = .ok (.ldc_w is, 3)) (d7 : decode cc (pc + 7) = .ok (.invokespecial ic, 3)) (d10 : decode cc (pc + 10) = .ok (.athrow, 1))
    (hout : ∀ x ∈ c.exceptionTable.toList, covers x (pc + 10) = false)
    (hRframes : names.length + 3 < R.frames) (hRlocals : (rest.map fun v => v.category).sum + (13 * (names.length + 1) + 43) ≤ R.locals) (hRcells : cells + 1 ≤ R.cells) (hRslots : slots + 6 ≤ R.slots) (hlocks : meth.locks = false)
    (hx : ∀ t : State, s.vm.Alike t.vm → H.size ≤ t.heap.size → (∀ q : Nat, q < H.size → t.heap[q]? = H[q]?) → XC cls s t)
    (hf : ∀ z ∈ locs, free z.base) (hc : cells + 1 ≤ mc) (hs : slots + 6 ≤ ms) :
    W p l e R s m args below meth c H locs cells slots (vx_MQ below Qc XC args s mc ms free) (F0 m pc ls rest) := by
  intro T hT X
  have htr : e.platform.stackTraces = false := (show e.platform.stackTraces = l.stackTraces by rw [X.admits.platform]).trans hl
  have Y := vx_rebase X (R' := { frames := R.frames, locals := R.locals, cells := 1, slots := 6 }) (Nat.le_refl _) (Nat.le_refl _) hRcells hRslots
  obtain ⟨s', hA⟩ : ∃ z, z = (T.setVm s.vm).setFrames (.invoking m args :: below) := ⟨_, rfl⟩
  rw [← hA] at Y
  have hvm : s'.vm = s.vm := by rw [hA]; rfl
  have hhp : s'.heap = H := by rw [hA]; exact hT
  have hW0 : s.WarmedH s'.vm := by rw [hvm]; exact State.WarmedH.refl s
  have hat' : ∀ w ∈ vx_atS own ic cls names, w.before args s' = true := fun w hw => vx_ot_at hW0 hvm.symm (hgood w (List.mem_cons_of_mem _ (List.mem_cons_of_mem _ hw))) (hat w hw)
  have hk' : (Cond.classLink own ik cls).before args s' = true := vx_ot_at hW0 hvm.symm (hgood _ List.mem_cons_self) hk
  have hini' : (Cond.initialized cls).before args s' = true := vx_ot_at hW0 hvm.symm (hgood _ (List.mem_cons_of_mem _ List.mem_cons_self)) hini
  have hU' : vx_Zq Bundle.tN "UNASSIGNED_STACK" Bundle.steD A s' s'.heap := by rw [hhp]; exact vx_Zq.moved hW0.alike (hU.kept hS.2.1)
  have hN' : vx_Zq Bundle.tN "SUPPRESSED_SENTINEL" Bundle.listD A s' s'.heap := by rw [hhp]; exact vx_Zq.moved hW0.alike (hN.kept hS.2.1)
  have h : ∀ w ∈ Bundle.ownAtoms own ic cls names, w.before args s' = true := vx_own hat' (vx_isRefq hU'.1) (vx_isRefq hN'.1) hU'.2.word hN'.2.word
  have hown' : s'.vm.findClass own = some m.cls := by rw [hvm]; exact hown
  have hins : (Cond.instantiable cls 6).before args s' = true := h _ (by simp [Bundle.ownAtoms])
  obtain ⟨vm₁, cX, kX, hfX, hkX, -, -, X₁, st1⟩ := Y.newCold hexec (own := own) (C := cls) (index := ik) (n := 6) hown' hk' hins hini'
    (g := F0 m pc ls rest) rfl (by rw [hb]; exact d0) (Nat.le_refl _) (Nat.le_refl _)
  generalize hT1 : (T.setVm vm₁).pushCell { cls := cX, slots := kX.instanceTypes.map defaultValue, vm := .none } = T1 at X₁ st1
  have hcat : (Value.ref T.heap.size).category = 1 := rfl
  have hcellA : T1.heap[T.heap.size]? = some (freshCell cX kX) := by rw [← hT1]; exact State.heap_pushCell_size _ _
  have d3' : decode c.code (pc + 3) = .ok (.dup, 1) := by rw [hb]; exact d3
  have d4' : decode c.code (pc + 4) = .ok (.ldc_w is, 3) := by rw [hb]; exact d4
  have hstr' : vk_R own is text sa s' := vk_R.warm hW0 hstr
  obtain ⟨U, hsteps, hrun, hend, hW, hsame, ce, hce, hO⟩ := X₁.ctorThrowS hexec htr (own := own) (cls := cls) (names := names) (ic := ic) hown' hcls hnames h (fun x hx => nomatch hx) hfX hkX hcellA (by rw [hhp, hT]; exact Nat.le_refl _) (msg := .ref sa) rfl
    (g := { method := m, pc := pc + 7, locals := ls, stack := .ref sa :: .ref T.heap.size :: .ref T.heap.size :: rest, locked := none }) rfl hsize rfl rfl (rest := rest) rfl
    (by rw [hb]; exact d7) (by rw [hb]; exact d10) hout hRframes (by simp only [List.map_cons, List.sum_cons, hcat]; omega) hlocks
  obtain ⟨f1, f2⟩ := vx_frame hsame
  rw [hhp] at f1 f2
  have hWs : s.WarmedH U.vm := State.WarmedH.trans hW0 hW
  have hcl : s.vm.findClass cls = some ce.cls := by
    have h9 := hO.cls
    rw [hvm] at h9
    exact h9
  have hall : s.sameButNew ({ U with vm := s.vm } : State) locs mc ms := by
    subst hA
    obtain ⟨e1, e2⟩ := hsame
    rw [State.setFrames_setFrames] at e1
    have h2 : (T.setVm s.vm).sameButNew ({ U with vm := s.vm } : State) [] (0 + 1) (0 + 6) := ⟨e1, e2⟩
    have h3 := X.same.trans h2
    rw [List.append_nil] at h3
    exact h3.mono hc hs
  refine ⟨U, ?_, .threw T.heap.size, hrun, hend, Or.inr ⟨T.heap.size, rfl, cls, ce, locs, hx U hWs.alike f1 (fun q hq => f2 q hq (fun z hz => nomatch hz)), hce, hO.vm, hcl, hWs, hall, hf⟩⟩
  refine st1 _ ?_
  show Steps p.tables e below (T1.setTop { method := m, pc := pc + 3, locals := ls, stack := .ref T.heap.size :: rest, locked := none }) _
  jvm_step X₁.here [X₁.here.top, hexec, d3', Value.category]
  exact X₁.ldcStringW hexec (own := own) (text := text) (index := is) (a := sa) hown' hstr'.1 hstr'.2
    (g := { method := m, pc := pc + 4, locals := ls, stack := .ref T.heap.size :: .ref T.heap.size :: rest, locked := none }) rfl d4' _ hsteps
end Ends
section Bodies
variable {l : Launch}
theorem vx_ofW {y : MethodName} {ws ws' : List Cond} {rm : Room} {Pc : Array Value → State → Prop} {Qc : Array Value → State → Outcome → State → Prop} {XC : String → State → State → Prop} {mc ms : Nat} {free : Addr → Prop} {cc : ByteArray} {maxL : Nat} {ret : Option FieldType}
    (hy : plainName y.cls = true) (hw : ws = Cond.code y cc maxL ret :: ws')
    (body : ∀ p e s m args below meth c s₁, BodyLoose p l y (headSpec ws rm) cc maxL ret e s m args below meth c s₁ → c.maxLocals = maxL → (∀ x ∈ c.exceptionTable.toList, False) → Pc args s →
      W p l e (headSpec ws rm).room s m args below meth c s.heap [] 0 0 (vx_MQ below Qc XC args s mc ms free) (entryFrame m args maxL)) : vx_Met l y ws rm Pc Qc XC mc ms free := by
  refine MetFree.of_bodyS (code := cc) (maxLocals := maxL) (ret := ret) hy ?_ ?_
  · intro args s m h hn
    obtain ⟨meth, c, h1, h2, h3, h4, h5, h6, -, -⟩ := Cond.code_spec hn (atoms_spec (ws := ws) h _ (by rw [hw]; exact List.mem_cons_self))
    exact ⟨meth, c, h1, h2, h3, h4, h5, h6⟩
  · intro p e s m args below meth c s₁ B hml hP _
    have hh0 : s₁.heap = s.heap := by rw [B.state]; rfl
    have ht : ∀ x ∈ c.exceptionTable.toList, False := by
      obtain ⟨meth9, c9, h1, h2, -, -, -, -, h7, -⟩ := Cond.code_spec B.named (atoms_spec (ws := ws) B.pre _ (by rw [hw]; exact List.mem_cons_self))
      cases Option.some.inj (h1.symm.trans B.method)
      cases Option.some.inj (h2.symm.trans (Stand.of_body B).code)
      intro x hx
      rw [Array.isEmpty_iff.mp h7] at hx
      cases hx
    obtain ⟨t, a1, o, b1, b2, b3⟩ := body p e s m args below meth c s₁ B hml ht hP s₁ hh0 (Stand.of_body B)
    exact ⟨t, o, a1, b1, b2, b3⟩
/-- the table of a body with handlers -/
theorem vx_table {p : Program} {x y : MethodName} {S : Spec} {cc bytes : ByteArray} {maxL maxL' : Nat} {ret ret' : Option FieldType} {e : Env} {s s₁ : State} {m : MethodId} {args : Array Value} {below : List Frame} {meth : Method} {c : Code} {hh : List (Nat × Nat × Nat × Nat)}
    (B : BodyLoose p l y S cc maxL ret e s m args below meth c s₁) (h : (Cond.codeWith y bytes maxL' ret' hh).before args s = true) : c.exceptionTable.toList = tableOf hh := by
  obtain ⟨m9, meth9, c9, hn9, h1, h2, -, -, h6, -⟩ := Cond.codeWith_spec h
  cases Option.some.inj (hn9.symm.trans B.named)
  cases Option.some.inj (h1.symm.trans B.method)
  cases Option.some.inj (h2.symm.trans (Stand.of_body B).code)
  rw [← h6, table_eq]
end Bodies
end VXA
/-! ===== END ===== -/
/-! ===== BEGIN a static call of a method with an exception table ===== -/
section VXS
variable {p : Program} {l : Launch} {e : Env} {R : Room} {s : State} {m : MethodId} {args : Array Value} {below : List Frame} {meth : Method} {c : Code} {T : State} {H : Heap} {locs : List Loc} {cells slots : Nat}
abbrev vx_CSW (R : Room) (s : State) (args : Array Value) (own : String) (index : Nat) (y : MethodName) (bytes : ByteArray) (maxL : Nat) (ret : Option FieldType) (hh : List (Nat × Nat × Nat × Nat)) (ws : List Cond) (rm : Room) (mc ms n : Nat) : Prop :=
  (rm.cells = mc ∧ rm.slots = ms ∧ rm.frames + 1 ≤ R.frames ∧ 8 + (maxL + 11) + rm.locals ≤ R.locals ∧ (∀ w ∈ ws, ∀ (a' : Array Value) (U : State), s.WarmedH U.vm → w.before a' U = true) ∧ Cond.codeWith y bytes maxL ret hh ∈ ws) ∧
  (Cond.codeWith y bytes maxL ret hh).before args s = true ∧ (Cond.initialized y.cls).before args s = true ∧ (y.cls ≠ "java/lang/invoke/MethodHandle" ∧ y.cls ≠ "java/lang/invoke/VarHandle") ∧
  (∀ sig, parseMethodDescriptor y.desc = some sig → n = sig.parameters.length) ∧ (Cond.methodLink own index y).before args s = true ∧ (Cond.static y).before args s = true
theorem vx_cwSW {own : String} {index maxL mc ms : Nat} {y : MethodName} {bytes : ByteArray} {ret : Option FieldType} {hh : List (Nat × Nat × Nat × Nat)} {Ts ws ws' : List Cond} {rm : Room} (n : Nat) (ht : ∀ w ∈ Ts, w.before args s = true) (hT : GoodIn Ts (va_wsS own index y ws)) (hw : ws = Cond.codeWith y bytes maxL ret hh :: ws') (hrc : rm.cells = mc) (hrs : rm.slots = ms)
    (hd : y.cls ≠ "java/lang/invoke/MethodHandle" ∧ y.cls ≠ "java/lang/invoke/VarHandle" ∧ (parseMethodDescriptor y.desc).map (fun d => d.parameters.length) = some n) (hR : rm.frames + 1 ≤ R.frames ∧ 8 + (maxL + 11) + rm.locals ≤ R.locals) :
    vx_CSW R s args own index y bytes maxL ret hh ws rm mc ms n := by
  have ok : ∀ w ∈ va_wsS own index y ws, w.before args s = true := fun w h => ht w (hT w h).1
  have hG : GoodIn Ts ws := fun w h => hT w (by unfold va_wsS; exact List.mem_append_right _ h)
  have hc : Cond.codeWith y bytes maxL ret hh ∈ ws := by rw [hw]; exact List.mem_cons_self
  refine ⟨⟨hrc, hrs, hR.1, hR.2, pay_in ht hG, hc⟩, ht _ (hG _ hc).1, ok _ (by simp [va_wsS]), ⟨hd.1, hd.2.1⟩, fun sig h => ?_, ok _ (by simp [va_wsS]), ok _ (by simp [va_wsS])⟩
  have h2 := hd.2.2
  rw [h] at h2
  exact (Option.some.inj h2).symm
theorem vx_callSW (X : Stand p l e R s m args below meth c T locs cells slots) (hexec : p.tables.exec = Jvm.exec) {own : String} {index : Nat} {y : MethodName} {bytes : ByteArray} {maxL : Nat} {ret : Option FieldType} {hh : List (Nat × Nat × Nat × Nat)}
    (hown : s.vm.findClass own = some m.cls) (hlink : (Cond.methodLink own index y).before args s = true) (hstat : (Cond.static y).before args s = true) (hinit : (Cond.initialized y.cls).before args s = true)
    (hcode : (Cond.codeWith y bytes maxL ret hh).before args s = true) (hy : y.cls ≠ "java/lang/invoke/MethodHandle" ∧ y.cls ≠ "java/lang/invoke/VarHandle")
    {W9 : Nat} {Pre : Pt → Array Value → Prop} {Post : Pt → Array Value → Option Value → Pt → Prop} (hK : Back l R p e below s args y 3 W9 Pre Post)
    {g : JFrame} (hg : g.method = m) (hsize : g.locals.size = c.maxLocals) {argsL rest : List Value} (hlen : ∀ sig, parseMethodDescriptor y.desc = some sig → argsL.length = sig.parameters.length)
    (hstack : g.stack = argsL.reverse ++ rest) (hW : 2 * g.monitorRoom + (rest.map fun v => v.category).sum ≤ W9) (hdg : decode c.code g.pc = .ok (.invokestatic index, 3))
    (hpre : ∀ vm₁, s.WarmedH vm₁ → Pre ⟨T.setVm vm₁, locs, cells, slots⟩ argsL.toArray) :
    ∃ (v : Option Value) (vm₁ : Vm) (B : Pt), s.WarmedH vm₁ ∧ Stand p l e R s m args below meth c B.U B.locs B.cells B.slots ∧ Post ⟨T.setVm vm₁, locs, cells, slots⟩ argsL.toArray v B ∧
      ∀ target, Steps p.tables e below (B.U.setTop { g with pc := g.pc + 3, stack := v.toList ++ rest }) target → Steps p.tables e below (T.setTop g) target := by
  obtain ⟨mk, methM, cM, hnamed, hmethM, -, -, -, -, -, -, hsigM⟩ := Cond.codeWith_spec hcode
  have hstatic : methM.isStatic = true := Cond.static_spec hnamed hmethM hstat
  obtain ⟨kP, hkP, -⟩ := className_of_methodNamed hnamed
  have hinitP : kP.init = .initialized := Cond.initialized_spec (findClass_of_methodNamed hnamed) hkP hinit
  obtain ⟨vm₁, X₁, hstep₁⟩ := X.invokestatic hexec hown hlink hnamed hmethM hstatic hkP hinitP hy (g := g) hg (argsL := argsL) (rest := rest) (hlen _ hsigM) hstack hdg
  obtain ⟨v, B, X', hpost, hsteps⟩ := hK m meth c ⟨T.setVm vm₁, locs, cells, slots⟩ { g with stack := rest } (.invokestatic index) mk argsL.toArray X₁ hg hsize hdg hW (X₁.named hnamed) (hpre vm₁ X₁.warmed)
  exact ⟨v, vm₁, B, X₁.warmed, X', hpost, fun target h => hstep₁ _ fun acts => by rw [doInvoke_state]; exact hsteps.trans h⟩
theorem vx_runSW {y : MethodName} {bytes cc : ByteArray} {maxL nL mc ms n index : Nat} {ret : Option FieldType} {hh : List (Nat × Nat × Nat × Nat)} {ws : List Cond} {rm : Room} {Pc : Array Value → State → Prop} {Qc : Array Value → State → Outcome → State → Prop} {free : Addr → Prop} {Ts : List Cond} {own : String} {As rest : List Value} {g : JFrame}
    (S : CallFix p m c cc nL s args Ts own) (hM : Met l y ws rm Pc Qc mc ms free) (cw : vx_CSW R s args own index y bytes maxL ret hh ws rm mc ms n) (hp : PreS s H Pc As)
    (hg : g.method = m) (hn : As.length = n) (hsize : g.locals.size = nL) (hstack : g.stack = As.reverse ++ rest) (hW : 2 * g.monitorRoom + (rest.map fun v => v.category).sum ≤ 8) (hdg : decode cc g.pc = .ok (.invokestatic index, 3)) (hf : cells + mc ≤ R.cells ∧ slots + ms ≤ R.slots) :
    va_Run p l e R s m args below meth c H locs cells slots mc ms g rest (Qc As.toArray) (free) := by
  obtain ⟨⟨hrc, hrs, hfr, hlo, hws, hcw⟩, hcode, hini, hy, hlen, hl, hstt⟩ := cw
  have hK : Back l R p e below s args y 3 8 (PreOf R mc ms Pc) (PostOf Qc mc ms free) := va_backW (hh := hh) (bytes := bytes) (maxL := maxL) (ret := ret) hM hp.1 hrc hrs hfr hlo hws hcw (fun a' U hW => word_at hW (Or.inl (by first | rfl | simp [Cond.onTables, Cond.keeps, Cond.steady])) hini)
  obtain ⟨hx, hb, hml, ho, -⟩ := S
  intro T hT X
  obtain ⟨v, vm₁, ⟨U', l2, c2, s2⟩, hW₁, X', ⟨g', mk, t, L, e1, e2, hq, h1, hL, h2, h3⟩, st⟩ := vx_callSW X hx (hh := hh) (bytes := bytes) (maxL := maxL) (ret := ret) ho hl hstt hini hcode hy hK hg (hsize.trans hml.symm) (argsL := As) (rest := rest) (fun sig h => hn.trans (hlen sig h)) hstack hW (by rw [hb]; exact hdg)
    (fun vm₁ hW₁ => ⟨hf.1, hf.2, hp.2 (T.setVm vm₁) hT hW₁⟩)
  dsimp only [Pt.U, Pt.locs, Pt.cells, Pt.slots] at X' e1 e2 h1 h2 h3 st
  subst h1; subst h2; subst h3
  exact ⟨v, (T.setVm vm₁).calling g' mk As.toArray, t, U', L, hT, X', hL, e1, e2, hq, st⟩
/-- not caught here, past rows that name other classes: it goes on to the caller -/
theorem vx_outP {p : Program} {l : Launch} {e : Env} {R : Room} {s : State} {m : MethodId} {args : Array Value} {below : List Frame} {meth : Method} {c : Code} {H : Heap} {locs : List Loc} {cells slots : Nat} {free : Addr → Prop} {ls : Array Slot} {rest : List Value} {Qc : Array Value → State → Outcome → State → Prop} {XC : String → State → State → Prop}
    {pc : Nat} {own E : String} {ce : Cell} {q : Addr} {mc ms : Nat} (hown : s.vm.findClass own = some m.cls) (hlocks : meth.locks = false)
    (hpass : ∀ z ∈ c.exceptionTable.toList, covers z pc = false ∨ (z.catchType ≠ 0 ∧ ∃ nm : String, (Cond.classLink own z.catchType nm).before args s = true ∧ va_Nc E nm s)) (hcell : H[q]? = some ce) (hv : ce.vm = .none) (hcl : s.vm.findClass E = some ce.cls)
    (hx : ∀ t : State, t.heap = H → s.vm.Alike t.vm → XC E s t) (hf : ∀ z ∈ locs, free z.base) (hc : cells ≤ mc) (hs : slots ≤ ms) :
    vx_W p l e R s m args below meth c H locs cells slots (vx_MQ below Qc XC args s mc ms free) (F0 m pc ls rest) q := by
  intro T hT X
  have hpl : e.platform.magicAccessors = ({} : Platform).magicAccessors := by rw [X.admits.platform]
  obtain ⟨vm', hW', X', st⟩ := X.outThrough hlocks q (g := F0 m pc ls rest) rfl rfl rfl (cell := ce) (by rw [hT]; exact hcell) (by rw [hv]; rfl)
    (by obtain ⟨k9, h9, -⟩ := Vm.findClass_spec hcl; exact ⟨k9, h9⟩) (fun z hz => by
      rcases hpass z hz with h | ⟨hz0, nm, hl1, hn1⟩
      · exact Or.inl h
      · obtain ⟨c6, hc6, hcl6⟩ := Cond.classLink_spec hown hl1 e.platform hpl
        obtain ⟨a8, b8, h1, h2, h3⟩ := hn1
        cases Option.some.inj (h1.symm.trans hcl)
        cases Option.some.inj (h2.symm.trans hc6)
        exact Or.inr ⟨hz0, _, hcl6, h3⟩)
  obtain ⟨g₀, hfr⟩ := X'.frames_eq
  have hcell9 : ((T.setVm vm').setFrames (.throwing q :: below)).heap[q]? = some ce := by
    show T.heap[q]? = some ce
    rw [hT]; exact hcell
  have hend : Ended ((T.setVm vm').setFrames (.throwing q :: below)) below (.threw q) := State.frames_setFrames _ (State.cur_lt_of_frames hfr)
  refine ⟨(T.setVm vm').setFrames (.throwing q :: below), ?_, .threw q, X'.here.running, hend, Or.inr ⟨q, rfl, E, ce, locs, hx _ hT (X'.ends _).1.alike, hcell9, hv, hcl, (X'.ends _).1, (X'.ends _).2.mono hc hs, hf⟩⟩
  rw [X.pushThrowing_eq]
  exact st
/-- a thing of a world lies in the heap -/
theorem vx_lt {D : va_G} {cl : List vw_C} {ws : va_W} {H1 : Heap} (h : va_P D cl ws H1) {k : Nat} {q : Nat × va_E} (hk : ws[k]? = some q) : q.1 < H1.size := (h k q hk).lt
end VXS
/-! ===== END ===== -/
/-! ===== BEGIN methods with a table of their own: called by a name, returning or throwing ===== -/
section VXH
/-! vx_backW, vx_callVX, vx_callSX, vx_callVW, vx_runVW, vx_runVX, vx_runSX, vx_ofWH follow the same proofs as their sisters above (Free/Laws.lean, Shelf42/LK1.lean); vx_outP calls Shelf42/NT130.lean (outThrough). -/
section
variable {l : Launch} {R : Room} {p : Program} {e : Env} {below : List Frame} {s : State} {sargs : Array Value} {y : MethodName} {len W9 : Nat}
theorem vx_backW {ws : List Cond} {rm : Room} {Pc : Array Value → State → Prop} {Qc : Array Value → State → Outcome → State → Prop} {XC : String → State → State → Prop} {mc ms : Nat} {free : Addr → Prop} {bytes : ByteArray} {maxL : Nat} {ret : Option FieldType} {hh : List (Nat × Nat × Nat × Nat)}
    (hM : vx_Met l y ws rm Pc Qc XC mc ms free) (hblind : FrameBlind Pc) (hrc : rm.cells = mc) (hrs : rm.slots = ms)
    (hframes : rm.frames + 1 ≤ R.frames) (hlocals : W9 + (maxL + 11) + rm.locals ≤ R.locals)
    (hws : ∀ w ∈ ws, ∀ a' U, s.WarmedH U.vm → w.before a' U = true) (hcode : Cond.codeWith y bytes maxL ret hh ∈ ws) (hinit : ∀ a' U, s.WarmedH U.vm → (Cond.initialized y.cls).before a' U = true) :
    vx_Back l R p e below s sargs y len W9 (PreOf R mc ms Pc) (PostOf Qc mc ms free) (vx_Post XC mc ms free) := by
  intro m meth c A g ig mk a X hg hsize hdg hW hn hp
  have h1 : (headSpec ws rm).pre.before a A.U = true := atoms_intro fun w hw => hws w hw _ _ X.warmed
  have h2 : (Cond.codeWith y bytes maxL ret hh).before a A.U = true := hws _ hcode _ _ X.warmed
  have h3 : (Cond.initialized y.cls).before a A.U = true := hinit _ _ X.warmed
  have h4 : A.cells + (headSpec ws rm).room.cells ≤ R.cells := by rw [show (headSpec ws rm).room.cells = mc from hrc]; exact hp.1
  have h5 : A.slots + (headSpec ws rm).room.slots ≤ R.slots := by rw [show (headSpec ws rm).room.slots = ms from hrs]; exact hp.2.1
  have hPc : Pc a (A.U.calling g mk a) := hblind _ _ _ _ hp.2.2
  obtain ⟨U, Ls, c0, s0⟩ := A
  dsimp only [Pt.U, Pt.locs, Pt.cells, Pt.slots] at h1 h2 h3 h4 h5 X hn hPc ⊢
  obtain ⟨m9, methY, cY, hn9, hmY, hcY, -, hlY, -⟩ := Cond.codeWith_spec h2
  cases Option.some.inj (hn9.symm.trans hn)
  obtain ⟨kY, hkY, -⟩ := className_of_methodNamed hn
  have hinitY : kY.init = .initialized := Cond.initialized_spec (findClass_of_methodNamed hn) hkY h3
  have h : At U g.method c below := by rw [hg]; exact X.here
  have hlocals9 : W9 + (maxL + 11) + (headSpec ws rm).room.locals ≤ R.locals := hlocals
  have happ : (headSpec ws rm).appliesLoose y e.platform (U.calling g mk a) = true :=
    Spec.appliesLoose_calling (g := g) h hdg hn hkY hinitY
      (X.room_calling (g := g) (R' := (headSpec ws rm).room) hsize hmY hcY hframes (by rw [hlY]; omega) h4 h5) h1
  obtain ⟨mid, hmid⟩ := h.above
  have hfr : (U.setTop g).frames = (.java g :: mid) ++ below := by rw [State.frames_setTop' g h.top, hmid]; rfl
  obtain ⟨o, s₂, hsteps, -, hend, hq⟩ := Steps.callFree hM p X.admits X.cas X.clock (acts := []) hfr happ hPc trivial
  have hq' : vx_Q Qc XC mc ms free a (U.calling g mk a) o s₂ := hq
  rw [State.frames_setTop' g h.top] at hend
  obtain ⟨g₀, hg0⟩ := Option.isSome_iff_exists.mp h.top
  obtain ⟨r, hr⟩ := State.topJava?_eq_some.mp hg0
  have hr' : (({ U with heap := s₂.heap, slotsUsed := s₂.slotsUsed } : State).setVm s₂.vm).frames = .java g₀ :: r := hr
  rcases hq' with ⟨hqc, L, hfe, hL⟩ | ⟨q, rfl, E, ce, L, hx, hce, hcv, hcl, hW₂, hsm, hL⟩
  · obtain ⟨⟨v, rfl⟩, hW₂, e2, q2, q3, q4, q5, q6⟩ := id hfe
    have e3 : s₂ = ({ (U.calling g mk a).setFrames s₂.frames with heap := s₂.heap, slotsUsed := s₂.slotsUsed } : State).setVm s₂.vm := by
      have : s₂ = ({ s₂ with vm := (U.calling g mk a).vm } : State).setVm s₂.vm := rfl
      rw [e2] at this
      exact this
    obtain ⟨c₂, i₂, len₂, hc₂, hd₂, hf₂⟩ := hend
    have hW' : U.WarmedH s₂.vm := hW₂
    have hcc : c₂ = c := by
      have h1 : s₂.code? g.method = U.code? g.method := by
        rw [State.code?_eq, State.code?_eq, hW'.alike.method?]
      exact Option.some.inj (hc₂.symm.trans (h1.trans h.code))
    subst hcc
    have hlen : len₂ = len := by rw [hdg] at hd₂; cases hd₂; rfl
    subst hlen
    have hs₂ : s₂ = (({ U with heap := s₂.heap, slotsUsed := s₂.slotsUsed } : State).setVm s₂.vm).setTop { g with pc := g.pc + len₂, stack := v.toList ++ g.stack } := by
      refine e3.trans ?_
      rw [hf₂, State.calling_eq h.top, State.setFrames_setFrames, State.setTop_of_frames _ hr', hr]
      rfl
    have hsame : U.sameButNew ({ U with heap := s₂.heap, slotsUsed := s₂.slotsUsed } : State) L mc ms := by
      refine ⟨?_, q2, q3, q4, q5, q6⟩
      obtain ⟨t, ht, -⟩ := State.frames_cons hr
      show ({ U with heap := s₂.heap, slotsUsed := s₂.slotsUsed } : State) = { U.setFrames U.frames with heap := s₂.heap, slotsUsed := s₂.slotsUsed }
      rw [State.setFrames_self ht]
    subst hg
    refine Or.inl ⟨v, ⟨(({ U with heap := s₂.heap, slotsUsed := s₂.slotsUsed } : State).setVm s₂.vm), Ls ++ L, c0 + mc, s0 + ms⟩,
      ⟨X.admits, X.cas, X.clock, X.frames, X.room, X.hears, X.method, X.code, (X.here.setHeapUsed s₂.heap s₂.slotsUsed).setVm hW'.alike, X.tail, State.WarmedH.trans X.warmed hW', X.limits, X.bytes, X.same.trans (hsame.setVm s.vm)⟩,
      ⟨g, mk, s₂, L, rfl, rfl, hqc, rfl, hL, rfl, rfl⟩, ?_⟩
    show Steps p.tables e below _ ((({ U with heap := s₂.heap, slotsUsed := s₂.slotsUsed } : State).setVm s₂.vm).setTop { g with pc := g.pc + len₂, stack := v.toList ++ g.stack })
    rw [← hs₂]
    exact hsteps
  · obtain ⟨e2, q2, q3, q4, q5, q6⟩ := id hsm
    have e3 : s₂ = ({ (U.calling g mk a).setFrames s₂.frames with heap := s₂.heap, slotsUsed := s₂.slotsUsed } : State).setVm s₂.vm := by
      have : s₂ = ({ s₂ with vm := (U.calling g mk a).vm } : State).setVm s₂.vm := rfl
      rw [e2] at this
      exact this
    have hf₂ : s₂.frames = .throwing q :: .java g :: U.frames.tail := hend
    have hW' : U.WarmedH s₂.vm := hW₂
    have hs₂ : s₂ = ((({ U with heap := s₂.heap, slotsUsed := s₂.slotsUsed } : State).setVm s₂.vm).setTop g).pushFrame (.throwing q) := by
      refine e3.trans ?_
      rw [hf₂, State.calling_eq h.top, State.setFrames_setFrames, State.pushFrame, State.frames_setTop _ hr', State.setTop_of_frames _ hr', State.setFrames_setFrames, hr]
      rfl
    have hsame : U.sameButNew ({ U with heap := s₂.heap, slotsUsed := s₂.slotsUsed } : State) L mc ms := by
      refine ⟨?_, q2, q3, q4, q5, q6⟩
      obtain ⟨t, ht, -⟩ := State.frames_cons hr
      show ({ U with heap := s₂.heap, slotsUsed := s₂.slotsUsed } : State) = { U.setFrames U.frames with heap := s₂.heap, slotsUsed := s₂.slotsUsed }
      rw [State.setFrames_self ht]
    subst hg
    refine Or.inr ⟨q, ⟨(({ U with heap := s₂.heap, slotsUsed := s₂.slotsUsed } : State).setVm s₂.vm), Ls ++ L, c0 + mc, s0 + ms⟩,
      ⟨X.admits, X.cas, X.clock, X.frames, X.room, X.hears, X.method, X.code, (X.here.setHeapUsed s₂.heap s₂.slotsUsed).setVm hW'.alike, X.tail, State.WarmedH.trans X.warmed hW', X.limits, X.bytes, X.same.trans (hsame.setVm s.vm)⟩,
      ⟨g, mk, s₂, L, E, ce, rfl, rfl, hx, hce, hcv, hcl, rfl, hL, rfl, rfl⟩, ?_⟩
    show Steps p.tables e below _ (((({ U with heap := s₂.heap, slotsUsed := s₂.slotsUsed } : State).setVm s₂.vm).setTop g).pushFrame (.throwing q))
    rw [← hs₂]
    exact hsteps
end
variable {p : Program} {l : Launch} {e : Env} {R : Room} {s : State} {m : MethodId} {args : Array Value} {below : List Frame} {meth : Method} {c : Code} {T : State} {H : Heap} {locs : List Loc} {cells slots : Nat}
theorem vx_callVX (X : Stand p l e R s m args below meth c T locs cells slots) (hexec : p.tables.exec = Jvm.exec) {own C : String} {index : Nat} {y : MethodName} {bytes : ByteArray} {maxL : Nat} {ret : Option FieldType} {hh : List (Nat × Nat × Nat × Nat)}
    (hown : s.vm.findClass own = some m.cls) (hlink : (Cond.methodLink own index y).before args s = true) (hinst : (Cond.instanceMethod y).before args s = true) (hsel : (Cond.selects C y y).before args s = true)
    (hcode : (Cond.codeWith y bytes maxL ret hh).before args s = true) (hy : y.cls ≠ "java/lang/invoke/MethodHandle" ∧ y.cls ≠ "java/lang/invoke/VarHandle")
    {W9 : Nat} {Pre : Pt → Array Value → Prop} {Post : Pt → Array Value → Option Value → Pt → Prop} {PostX : Pt → Array Value → Addr → Pt → Prop} (hK : vx_Back l R p e below s args y 3 W9 Pre Post PostX)
    {b : Addr} {cellB : Cell} (hcell : T.heap[b]? = some cellB) (hobj : cellB.vm.isStatics = false) (hcls : s.vm.findClass C = some cellB.cls)
    {g : JFrame} (hg : g.method = m) (hsize : g.locals.size = c.maxLocals) {argsL rest : List Value} (hlen : ∀ sig, parseMethodDescriptor y.desc = some sig → argsL.length = sig.parameters.length)
    (hstack : g.stack = argsL.reverse ++ .ref b :: rest) (hW : 2 * g.monitorRoom + (rest.map fun v => v.category).sum ≤ W9) (hdg : decode c.code g.pc = .ok (.invokevirtual index, 3))
    (hpre : ∀ vm₁, s.WarmedH vm₁ → Pre ⟨T.setVm vm₁, locs, cells, slots⟩ (Value.ref b :: argsL).toArray) :
    (∃ (v : Option Value) (vm₁ : Vm) (B : Pt), s.WarmedH vm₁ ∧ Stand p l e R s m args below meth c B.U B.locs B.cells B.slots ∧ Post ⟨T.setVm vm₁, locs, cells, slots⟩ (Value.ref b :: argsL).toArray v B ∧
      ∀ target, Steps p.tables e below (B.U.setTop { g with pc := g.pc + 3, stack := v.toList ++ rest }) target → Steps p.tables e below (T.setTop g) target) ∨
    (∃ (q : Addr) (vm₁ : Vm) (B : Pt), s.WarmedH vm₁ ∧ Stand p l e R s m args below meth c B.U B.locs B.cells B.slots ∧ PostX ⟨T.setVm vm₁, locs, cells, slots⟩ (Value.ref b :: argsL).toArray q B ∧
      Steps p.tables e below (T.setTop g) ((B.U.setTop { g with stack := rest }).pushFrame (.throwing q))) := by
  obtain ⟨mk, methM, hnamed, hmethM, hstM, habM⟩ := Cond.instanceMethod_spec hinst
  obtain ⟨m8, methM', cM, hn8, hmethM', -, -, -, -, -, -, hsigM⟩ := Cond.codeWith_spec hcode
  cases Option.some.inj (hn8.symm.trans hnamed)
  cases hmethM.symm.trans hmethM'
  obtain ⟨c2, r2, m2, q1, q2, q3, q4, kP, hkP, hkPi⟩ := Cond.selects_spec hsel
  cases hcls.symm.trans q1
  cases (State.methodFound?_of_named hnamed hy).symm.trans q2
  cases hnamed.symm.trans q3
  have hselP : selectMethod e.platform s.vm cellB.cls mk = .method mk := by rw [Launch.admits_selectMethod X.admits]; exact q4
  obtain ⟨vm₁, X₁, hstep₁⟩ := X.invokevirtual hexec hown hlink hnamed hmethM hstM hkP hkPi hy (a := b) (cell := cellB) hcell
    (fun z h => by rw [h] at hobj; cases hobj) hselP hmethM habM hkP hkPi (g := g) hg (argsL := argsL) (rest := rest) (hlen _ hsigM) hstack hdg
  rcases hK m meth c ⟨T.setVm vm₁, locs, cells, slots⟩ { g with stack := rest } (.invokevirtual index) mk (Value.ref b :: argsL).toArray X₁ hg hsize hdg hW (X₁.named hnamed) (hpre vm₁ X₁.warmed) with ⟨v, B, X', hpost, hsteps⟩ | ⟨q, B, X', hpost, hsteps⟩
  · exact Or.inl ⟨v, vm₁, B, X₁.warmed, X', hpost, fun target h => hstep₁ _ fun acts => by rw [doInvoke_state]; exact hsteps.trans h⟩
  · exact Or.inr ⟨q, vm₁, B, X₁.warmed, X', hpost, hstep₁ _ fun acts => by rw [doInvoke_state]; exact hsteps⟩
theorem vx_callSX (X : Stand p l e R s m args below meth c T locs cells slots) (hexec : p.tables.exec = Jvm.exec) {own : String} {index : Nat} {y : MethodName} {bytes : ByteArray} {maxL : Nat} {ret : Option FieldType} {hh : List (Nat × Nat × Nat × Nat)}
    (hown : s.vm.findClass own = some m.cls) (hlink : (Cond.methodLink own index y).before args s = true) (hstat : (Cond.static y).before args s = true) (hinit : (Cond.initialized y.cls).before args s = true)
    (hcode : (Cond.codeWith y bytes maxL ret hh).before args s = true) (hy : y.cls ≠ "java/lang/invoke/MethodHandle" ∧ y.cls ≠ "java/lang/invoke/VarHandle")
    {W9 : Nat} {Pre : Pt → Array Value → Prop} {Post : Pt → Array Value → Option Value → Pt → Prop} {PostX : Pt → Array Value → Addr → Pt → Prop} (hK : vx_Back l R p e below s args y 3 W9 Pre Post PostX)
    {g : JFrame} (hg : g.method = m) (hsize : g.locals.size = c.maxLocals) {argsL rest : List Value} (hlen : ∀ sig, parseMethodDescriptor y.desc = some sig → argsL.length = sig.parameters.length)
    (hstack : g.stack = argsL.reverse ++ rest) (hW : 2 * g.monitorRoom + (rest.map fun v => v.category).sum ≤ W9) (hdg : decode c.code g.pc = .ok (.invokestatic index, 3))
    (hpre : ∀ vm₁, s.WarmedH vm₁ → Pre ⟨T.setVm vm₁, locs, cells, slots⟩ argsL.toArray) :
    (∃ (v : Option Value) (vm₁ : Vm) (B : Pt), s.WarmedH vm₁ ∧ Stand p l e R s m args below meth c B.U B.locs B.cells B.slots ∧ Post ⟨T.setVm vm₁, locs, cells, slots⟩ argsL.toArray v B ∧
      ∀ target, Steps p.tables e below (B.U.setTop { g with pc := g.pc + 3, stack := v.toList ++ rest }) target → Steps p.tables e below (T.setTop g) target) ∨
    (∃ (q : Addr) (vm₁ : Vm) (B : Pt), s.WarmedH vm₁ ∧ Stand p l e R s m args below meth c B.U B.locs B.cells B.slots ∧ PostX ⟨T.setVm vm₁, locs, cells, slots⟩ argsL.toArray q B ∧
      Steps p.tables e below (T.setTop g) ((B.U.setTop { g with stack := rest }).pushFrame (.throwing q))) := by
  obtain ⟨mk, methM, cM, hnamed, hmethM, -, -, -, -, -, -, hsigM⟩ := Cond.codeWith_spec hcode
  have hstatic : methM.isStatic = true := Cond.static_spec hnamed hmethM hstat
  obtain ⟨kP, hkP, -⟩ := className_of_methodNamed hnamed
  have hinitP : kP.init = .initialized := Cond.initialized_spec (findClass_of_methodNamed hnamed) hkP hinit
  obtain ⟨vm₁, X₁, hstep₁⟩ := X.invokestatic hexec hown hlink hnamed hmethM hstatic hkP hinitP hy (g := g) hg (argsL := argsL) (rest := rest) (hlen _ hsigM) hstack hdg
  rcases hK m meth c ⟨T.setVm vm₁, locs, cells, slots⟩ { g with stack := rest } (.invokestatic index) mk argsL.toArray X₁ hg hsize hdg hW (X₁.named hnamed) (hpre vm₁ X₁.warmed) with ⟨v, B, X', hpost, hsteps⟩ | ⟨q, B, X', hpost, hsteps⟩
  · exact Or.inl ⟨v, vm₁, B, X₁.warmed, X', hpost, fun target h => hstep₁ _ fun acts => by rw [doInvoke_state]; exact hsteps.trans h⟩
  · exact Or.inr ⟨q, vm₁, B, X₁.warmed, X', hpost, hstep₁ _ fun acts => by rw [doInvoke_state]; exact hsteps⟩
theorem vx_callVW (X : Stand p l e R s m args below meth c T locs cells slots) (hexec : p.tables.exec = Jvm.exec) {own C : String} {index : Nat} {y : MethodName} {bytes : ByteArray} {maxL : Nat} {ret : Option FieldType} {hh : List (Nat × Nat × Nat × Nat)}
    (hown : s.vm.findClass own = some m.cls) (hlink : (Cond.methodLink own index y).before args s = true) (hinst : (Cond.instanceMethod y).before args s = true) (hsel : (Cond.selects C y y).before args s = true)
    (hcode : (Cond.codeWith y bytes maxL ret hh).before args s = true) (hy : y.cls ≠ "java/lang/invoke/MethodHandle" ∧ y.cls ≠ "java/lang/invoke/VarHandle")
    {W9 : Nat} {Pre : Pt → Array Value → Prop} {Post : Pt → Array Value → Option Value → Pt → Prop} (hK : Back l R p e below s args y 3 W9 Pre Post)
    {b : Addr} {cellB : Cell} (hcell : T.heap[b]? = some cellB) (hobj : cellB.vm.isStatics = false) (hcls : s.vm.findClass C = some cellB.cls)
    {g : JFrame} (hg : g.method = m) (hsize : g.locals.size = c.maxLocals) {argsL rest : List Value} (hlen : ∀ sig, parseMethodDescriptor y.desc = some sig → argsL.length = sig.parameters.length)
    (hstack : g.stack = argsL.reverse ++ .ref b :: rest) (hW : 2 * g.monitorRoom + (rest.map fun v => v.category).sum ≤ W9) (hdg : decode c.code g.pc = .ok (.invokevirtual index, 3))
    (hpre : ∀ vm₁, s.WarmedH vm₁ → Pre ⟨T.setVm vm₁, locs, cells, slots⟩ (Value.ref b :: argsL).toArray) :
    ∃ (v : Option Value) (vm₁ : Vm) (B : Pt), s.WarmedH vm₁ ∧ Stand p l e R s m args below meth c B.U B.locs B.cells B.slots ∧ Post ⟨T.setVm vm₁, locs, cells, slots⟩ (Value.ref b :: argsL).toArray v B ∧
      ∀ target, Steps p.tables e below (B.U.setTop { g with pc := g.pc + 3, stack := v.toList ++ rest }) target → Steps p.tables e below (T.setTop g) target := by
  obtain ⟨mk, methM, hnamed, hmethM, hstM, habM⟩ := Cond.instanceMethod_spec hinst
  obtain ⟨m8, methM', cM, hn8, hmethM', -, -, -, -, -, -, hsigM⟩ := Cond.codeWith_spec hcode
  cases Option.some.inj (hn8.symm.trans hnamed)
  cases hmethM.symm.trans hmethM'
  obtain ⟨c2, r2, m2, q1, q2, q3, q4, kP, hkP, hkPi⟩ := Cond.selects_spec hsel
  cases hcls.symm.trans q1
  cases (State.methodFound?_of_named hnamed hy).symm.trans q2
  cases hnamed.symm.trans q3
  have hselP : selectMethod e.platform s.vm cellB.cls mk = .method mk := by rw [Launch.admits_selectMethod X.admits]; exact q4
  obtain ⟨vm₁, X₁, hstep₁⟩ := X.invokevirtual hexec hown hlink hnamed hmethM hstM hkP hkPi hy (a := b) (cell := cellB) hcell
    (fun z h => by rw [h] at hobj; cases hobj) hselP hmethM habM hkP hkPi (g := g) hg (argsL := argsL) (rest := rest) (hlen _ hsigM) hstack hdg
  obtain ⟨v, B, X', hpost, hsteps⟩ := hK m meth c ⟨T.setVm vm₁, locs, cells, slots⟩ { g with stack := rest } (.invokevirtual index) mk (Value.ref b :: argsL).toArray X₁ hg hsize hdg hW (X₁.named hnamed) (hpre vm₁ X₁.warmed)
  exact ⟨v, vm₁, B, X₁.warmed, X', hpost, fun target h => hstep₁ _ fun acts => by rw [doInvoke_state]; exact hsteps.trans h⟩
abbrev vx_CVW (R : Room) (s : State) (args : Array Value) (own C : String) (index : Nat) (y : MethodName) (bytes : ByteArray) (maxL : Nat) (ret : Option FieldType) (hh : List (Nat × Nat × Nat × Nat)) (ws : List Cond) (rm : Room) (mc ms n : Nat) : Prop :=
  (rm.cells = mc ∧ rm.slots = ms ∧ rm.frames + 1 ≤ R.frames ∧ 8 + (maxL + 11) + rm.locals ≤ R.locals ∧ (∀ w ∈ ws, ∀ (a' : Array Value) (U : State), s.WarmedH U.vm → w.before a' U = true) ∧ Cond.codeWith y bytes maxL ret hh ∈ ws) ∧
  (Cond.codeWith y bytes maxL ret hh).before args s = true ∧ (Cond.initialized y.cls).before args s = true ∧ (y.cls ≠ "java/lang/invoke/MethodHandle" ∧ y.cls ≠ "java/lang/invoke/VarHandle") ∧
  (∀ sig, parseMethodDescriptor y.desc = some sig → n = sig.parameters.length) ∧ (Cond.methodLink own index y).before args s = true ∧ (Cond.instanceMethod y).before args s = true ∧ (Cond.selects C y y).before args s = true
theorem vx_cwVW {own C : String} {index maxL mc ms : Nat} {y : MethodName} {bytes : ByteArray} {ret : Option FieldType} {hh : List (Nat × Nat × Nat × Nat)} {Ts ws ws' : List Cond} {rm : Room} (n : Nat) (ht : ∀ w ∈ Ts, w.before args s = true) (hT : GoodIn Ts (wsV own index C y ws)) (hw : ws = Cond.codeWith y bytes maxL ret hh :: ws') (hrc : rm.cells = mc) (hrs : rm.slots = ms)
    (hd : y.cls = C ∧ y.cls ≠ "java/lang/invoke/MethodHandle" ∧ y.cls ≠ "java/lang/invoke/VarHandle" ∧ (parseMethodDescriptor y.desc).map (fun d => d.parameters.length) = some n) (hR : rm.frames + 1 ≤ R.frames ∧ 8 + (maxL + 11) + rm.locals ≤ R.locals) :
    vx_CVW R s args own C index y bytes maxL ret hh ws rm mc ms n := by
  obtain ⟨hC, hd⟩ := hd
  subst hC
  have ok : ∀ w ∈ wsV own index y.cls y ws, w.before args s = true := fun w h => ht w (hT w h).1
  have hG : GoodIn Ts ws := fun w h => hT w (by unfold wsV; exact List.mem_append_right _ h)
  have hc : Cond.codeWith y bytes maxL ret hh ∈ ws := by rw [hw]; exact List.mem_cons_self
  refine ⟨⟨hrc, hrs, hR.1, hR.2, pay_in ht hG, hc⟩, ht _ (hG _ hc).1, ok _ (by simp [wsV]), ⟨hd.1, hd.2.1⟩, fun sig h => ?_, ok _ (by simp [wsV]), ok _ (by simp [wsV]), ok _ (by simp [wsV])⟩
  have h2 := hd.2.2
  rw [h] at h2
  exact (Option.some.inj h2).symm
theorem vx_runVW {y : MethodName} {bytes cc : ByteArray} {maxL nL mc ms n index : Nat} {ret : Option FieldType} {hh : List (Nat × Nat × Nat × Nat)} {ws : List Cond} {rm : Room} {Pc : Array Value → State → Prop} {Qc : Array Value → State → Outcome → State → Prop} {free : Addr → Prop} {Ts : List Cond} {own C : String} {b : Addr} {As rest : List Value} {g : JFrame}
    (S : CallFix p m c cc nL s args Ts own) (hM : Met l y ws rm Pc Qc mc ms free) (cw : vx_CVW R s args own C index y bytes maxL ret hh ws rm mc ms n) (hp : PreV s H C b Pc As)
    (hg : g.method = m) (hn : As.length = n) (hsize : g.locals.size = nL) (hstack : g.stack = As.reverse ++ .ref b :: rest) (hW : 2 * g.monitorRoom + (rest.map fun v => v.category).sum ≤ 8) (hdg : decode cc g.pc = .ok (.invokevirtual index, 3)) (hf : cells + mc ≤ R.cells ∧ slots + ms ≤ R.slots) :
    va_Run p l e R s m args below meth c H locs cells slots mc ms g rest (Qc (Value.ref b :: As).toArray) free := by
  obtain ⟨⟨hrc, hrs, hfr, hlo, hws, hcw⟩, hcode, hini, hy, hlen, hl, hin, hse⟩ := cw
  have hK : Back l R p e below s args y 3 8 (PreOf R mc ms Pc) (PostOf Qc mc ms free) := va_backW (hh := hh) (bytes := bytes) (maxL := maxL) (ret := ret) hM hp.1 hrc hrs hfr hlo hws hcw (fun a' U hW => word_at hW (Or.inl (by first | rfl | simp [Cond.onTables, Cond.keeps, Cond.steady])) hini)
  obtain ⟨hx, hb, hml, ho, -⟩ := S
  obtain ⟨-, ⟨cellB, hcB, hoB, hclB⟩, hPc⟩ := hp
  intro T hT X
  obtain ⟨v, vm₁, ⟨U', l2, c2, s2⟩, hW₁, X', ⟨g', mk, t, L, e1, e2, hq, h1, hL, h2, h3⟩, st⟩ := vx_callVW X hx (C := C) (hh := hh) (bytes := bytes) (maxL := maxL) (ret := ret) ho hl hin hse hcode hy hK (by rw [hT]; exact hcB) hoB hclB hg (hsize.trans hml.symm) (argsL := As) (rest := rest) (fun sig h => hn.trans (hlen sig h)) hstack hW (by rw [hb]; exact hdg)
    (fun vm₁ hW₁ => ⟨hf.1, hf.2, hPc (T.setVm vm₁) hT hW₁⟩)
  dsimp only [Pt.U, Pt.locs, Pt.cells, Pt.slots] at X' e1 e2 h1 h2 h3 st
  subst h1; subst h2; subst h3
  exact ⟨v, (T.setVm vm₁).calling g' mk (Value.ref b :: As).toArray, t, U', L, hT, X', hL, e1, e2, hq, st⟩
section
variable {y : MethodName} {bytes cc : ByteArray} {maxL nL mc ms n index : Nat} {ret : Option FieldType} {ws : List Cond} {rm : Room} {Pc : Array Value → State → Prop} {Qc : Array Value → State → Outcome → State → Prop} {XC : String → State → State → Prop} {free : Addr → Prop} {Ts : List Cond} {own C : String} {b : Addr} {As rest : List Value} {g : JFrame}
theorem vx_runVX {hh : List (Nat × Nat × Nat × Nat)} (S : CallFix p m c cc nL s args Ts own) (hM : vx_Met l y ws rm Pc Qc XC mc ms free) (cw : vx_CVW R s args own C index y bytes maxL ret hh ws rm mc ms n) (hp : PreV s H C b Pc As)
    (hg : g.method = m) (hn : As.length = n) (hsize : g.locals.size = nL) (hstack : g.stack = As.reverse ++ .ref b :: rest) (hW : 2 * g.monitorRoom + (rest.map fun v => v.category).sum ≤ 8) (hdg : decode cc g.pc = .ok (.invokevirtual index, 3)) (hf : cells + mc ≤ R.cells ∧ slots + ms ≤ R.slots) :
    vx_Run p l e R s m args below meth c H locs cells slots mc ms g rest (Qc (Value.ref b :: As).toArray) XC free := by
  obtain ⟨⟨hrc, hrs, hfr, hlo, hws, hcw⟩, hcode, hini, hy, hlen, hl, hin, hse⟩ := cw
  have hK : vx_Back l R p e below s args y 3 8 (PreOf R mc ms Pc) (PostOf Qc mc ms free) (vx_Post XC mc ms free) := vx_backW (hh := hh) (bytes := bytes) (maxL := maxL) (ret := ret) hM hp.1 hrc hrs hfr hlo hws hcw (fun a' U hW => word_at hW (Or.inl (by first | rfl | simp [Cond.onTables, Cond.keeps, Cond.steady])) hini)
  obtain ⟨hx, hb, hml, ho, -⟩ := S
  obtain ⟨-, ⟨cellB, hcB, hoB, hclB⟩, hPc⟩ := hp
  intro T hT X
  rcases vx_callVX X hx (C := C) (hh := hh) (bytes := bytes) (maxL := maxL) (ret := ret) ho hl hin hse hcode hy hK (by rw [hT]; exact hcB) hoB hclB hg (hsize.trans hml.symm) (argsL := As) (rest := rest) (fun sig h => hn.trans (hlen sig h)) hstack hW (by rw [hb]; exact hdg)
    (fun vm₁ hW₁ => ⟨hf.1, hf.2, hPc (T.setVm vm₁) hT hW₁⟩) with ⟨v, vm₁, ⟨U', l2, c2, s2⟩, hW₁, X', ⟨g', mk, t, L, e1, e2, hq, h1, hL, h2, h3⟩, st⟩ | ⟨q, vm₁, ⟨U', l2, c2, s2⟩, hW₁, X', ⟨g', mk, t, L, E, ce, e1, e2, hq, hce, hcv, hcl, h1, hL, h2, h3⟩, st⟩
  · dsimp only [Pt.U, Pt.locs, Pt.cells, Pt.slots] at X' e1 e2 h1 h2 h3 st
    subst h1; subst h2; subst h3
    exact Or.inl ⟨v, (T.setVm vm₁).calling g' mk (Value.ref b :: As).toArray, t, U', L, hT, X', hL, e1, e2, hq, st⟩
  · dsimp only [Pt.U, Pt.locs, Pt.cells, Pt.slots] at X' e1 e2 h1 h2 h3 st hcl
    subst h1; subst h2; subst h3
    exact Or.inr ⟨q, (T.setVm vm₁).calling g' mk (Value.ref b :: As).toArray, t, U', L, E, ce, hT, X', hL, e1, e2, hq, hce, hcv, vx_cls hW₁ hcl, st⟩
theorem vx_runSX {hh : List (Nat × Nat × Nat × Nat)} (S : CallFix p m c cc nL s args Ts own) (hM : vx_Met l y ws rm Pc Qc XC mc ms free) (cw : vx_CSW R s args own index y bytes maxL ret hh ws rm mc ms n) (hp : PreS s H Pc As)
    (hg : g.method = m) (hn : As.length = n) (hsize : g.locals.size = nL) (hstack : g.stack = As.reverse ++ rest) (hW : 2 * g.monitorRoom + (rest.map fun v => v.category).sum ≤ 8) (hdg : decode cc g.pc = .ok (.invokestatic index, 3)) (hf : cells + mc ≤ R.cells ∧ slots + ms ≤ R.slots) :
    vx_Run p l e R s m args below meth c H locs cells slots mc ms g rest (Qc As.toArray) XC free := by
  obtain ⟨⟨hrc, hrs, hfr, hlo, hws, hcw⟩, hcode, hini, hy, hlen, hl, hstt⟩ := cw
  have hK : vx_Back l R p e below s args y 3 8 (PreOf R mc ms Pc) (PostOf Qc mc ms free) (vx_Post XC mc ms free) := vx_backW (hh := hh) (bytes := bytes) (maxL := maxL) (ret := ret) hM hp.1 hrc hrs hfr hlo hws hcw (fun a' U hW => word_at hW (Or.inl (by first | rfl | simp [Cond.onTables, Cond.keeps, Cond.steady])) hini)
  obtain ⟨hx, hb, hml, ho, -⟩ := S
  intro T hT X
  rcases vx_callSX X hx (hh := hh) (bytes := bytes) (maxL := maxL) (ret := ret) ho hl hstt hini hcode hy hK hg (hsize.trans hml.symm) (argsL := As) (rest := rest) (fun sig h => hn.trans (hlen sig h)) hstack hW (by rw [hb]; exact hdg)
    (fun vm₁ hW₁ => ⟨hf.1, hf.2, hp.2 (T.setVm vm₁) hT hW₁⟩) with ⟨v, vm₁, ⟨U', l2, c2, s2⟩, hW₁, X', ⟨g', mk, t, L, e1, e2, hq, h1, hL, h2, h3⟩, st⟩ | ⟨q, vm₁, ⟨U', l2, c2, s2⟩, hW₁, X', ⟨g', mk, t, L, E, ce, e1, e2, hq, hce, hcv, hcl, h1, hL, h2, h3⟩, st⟩
  · dsimp only [Pt.U, Pt.locs, Pt.cells, Pt.slots] at X' e1 e2 h1 h2 h3 st
    subst h1; subst h2; subst h3
    exact Or.inl ⟨v, (T.setVm vm₁).calling g' mk As.toArray, t, U', L, hT, X', hL, e1, e2, hq, st⟩
  · dsimp only [Pt.U, Pt.locs, Pt.cells, Pt.slots] at X' e1 e2 h1 h2 h3 st hcl
    subst h1; subst h2; subst h3
    exact Or.inr ⟨q, (T.setVm vm₁).calling g' mk As.toArray, t, U', L, E, ce, hT, X', hL, e1, e2, hq, hce, hcv, vx_cls hW₁ hcl, st⟩
end
end VXH
theorem vx_ofWH {l : Launch} {y : MethodName} {ws ws' : List Cond} {rm : Room} {Pc : Array Value → State → Prop} {Qc : Array Value → State → Outcome → State → Prop} {XC : String → State → State → Prop} {mc ms : Nat} {free : Addr → Prop} {cc : ByteArray} {maxL : Nat} {ret : Option FieldType} {hh : List (Nat × Nat × Nat × Nat)}
    (hy : plainName y.cls = true) (hw : ws = Cond.codeWith y cc maxL ret hh :: ws')
    (body : ∀ p e s m args below meth c s₁, BodyLoose p l y (headSpec ws rm) cc maxL ret e s m args below meth c s₁ → c.maxLocals = maxL → Pc args s →
      W p l e (headSpec ws rm).room s m args below meth c s.heap [] 0 0 (vx_MQ below Qc XC args s mc ms free) (entryFrame m args maxL)) : vx_Met l y ws rm Pc Qc XC mc ms free := by
  refine MetFree.of_bodyS (code := cc) (maxLocals := maxL) (ret := ret) hy ?_ ?_
  · intro args s m h hn
    obtain ⟨m9, meth, c, hn9, h1, h2, h3, h4, -, h5, h6, -⟩ := Cond.codeWith_spec (atoms_spec (ws := ws) h _ (by rw [hw]; exact List.mem_cons_self))
    cases hn.symm.trans hn9
    exact ⟨meth, c, h1, h2, h3, h4, h5, h6⟩
  · intro p e s m args below meth c s₁ B hml hP _
    have hh0 : s₁.heap = s.heap := by rw [B.state]; rfl
    obtain ⟨t, a1, o, b1, b2, b3⟩ := body p e s m args below meth c s₁ B hml hP s₁ hh0 (Stand.of_body B)
    exact ⟨t, o, a1, b1, b2, b3⟩
/-! ===== END ===== -/

/-! ===== BEGIN what the machine throws by itself, no traces kept ===== -/
section VXM
set_option maxHeartbeats 1000000 in
/-- the machine throws cls with the message text, no traces kept: from its note over the frame g to 'throwing' over the same frame (follows the proofs of Stand.vmThrowsMessage, Shelf/KitTracedVmS.lean, and Stand.throwsMessageColdBareV, StandMessageColdV.lean, without the step out of the frame) -/
theorem vx_vmAt {p : Program} {l : Launch} {e : Env} {R : Room} {s : State} {m₀ : MethodId} {args : Array Value} {below : List Frame} {meth : Method} {c : Code} {W : State} {locs : List Loc} {cells slots : Nat}
    (X : Stand p l e R s m₀ args below meth c W locs cells slots) (hexec : p.tables.exec = Jvm.exec) (htr : e.platform.stackTraces = false) {cls : String} {names : List String} {text : String}
    (hcls : Bundle.fit cls = true) (hnames : ∀ n ∈ names, Bundle.fit n = true) (hsoe : (cls == "java/lang/StackOverflowError") = false) (hoom : (cls == "java/lang/OutOfMemoryError") = false)
    (h : ∀ a ∈ Bundle.messageArmAtoms cls names, a.before args s = true)
    (hlocs : ∀ x ∈ locs, ∀ cell, s.heap[x.base]? = some cell → cell.vm.isStatics = false)
    (htext : (text == notModelled) = false) (hlimit : ¬ (stringBytes (stringToUtf16 text)).size > e.platform.arrayLengthLimit) (hheap : ¬ (stringBytes (stringToUtf16 text)).size * componentBytes .byte > e.platform.maxHeapBytes)
    {g : JFrame} (hg : g.method = m₀) (hsize : g.locals.size = c.maxLocals)
    (hRframes : names.length + 4 < R.frames) (hRlocals : 2 * g.monitorRoom + (g.stack.map fun v => v.category).sum + 10240 ≤ R.locals) (hshort : 13 * names.length + 55 ≤ 10240)
    (hRcells : cells + 3 ≤ R.cells) (hRslots : slots + ((stringBytes (stringToUtf16 text)).size + 4 + 6) ≤ R.slots) (hlocks : meth.locks = false) :
    ∃ (S : State) (q : Addr) (ce : Cell), (∀ target, Steps p.tables e below ((S.setTop g).pushFrame (.throwing q)) target → Steps p.tables e below ((W.setTop g).pushFrame (.throwNew cls (some text) none)) target) ∧
      Stand p l e R s m₀ args below meth c S locs (cells + 3) (slots + ((stringBytes (stringToUtf16 text)).size + 4 + 6)) ∧ S.heap[q]? = some ce ∧ s.vm.findClass cls = some ce.cls ∧ ce.vm = .none := by
  have howns : e.platform.frameOwnsMonitors = true := by rw [X.admits.platform]
  have hfin : e.platform.finalization = false := by rw [X.admits.platform]
  have hpl : e.platform.magicAccessors = ({} : Platform).magicAccessors := by rw [X.admits.platform]
  have a : ∀ x, x ∈ Bundle.messageArmAtoms cls names → x.holds args s none s [] = true := fun x hx => h x hx
  obtain ⟨T, Z0, L, -, Y⟩ := ThrowableC.of_atoms (args := args) howns hfin hpl (fun x hx => h x (by simp [Bundle.messageArmAtoms, hx]))
  obtain ⟨Z, M, LZ, LM, hnZ⟩ := Init0T.ofS_atoms (args := args) hpl L Y (fun x hx => h x (by simp [Bundle.messageArmAtoms, hx]))
  obtain ⟨P1, Ps, hlen, L1, hL, hP1m, hlink1, hlink⟩ := Bundle.chainS (args := args) hpl hnZ names cls hcls hnames (fun x hx => h x (by simp [Bundle.messageArmAtoms, hx]))
  obtain ⟨Zs, LZs, hn4, hfitv, hfitc⟩ := StringT.of_atoms (args := args) (fun x hx => h x (by simp [Bundle.messageArmAtoms, hx]))
  have hfound : s.vm.findClass cls = some P1.m.cls := findClass_of_methodNamed hP1m
  obtain ⟨c1, kX, hc1, hk, hord, -, -, hn6⟩ := Cond.instantiable_spec (a (.instantiable cls 6) (by simp [Bundle.messageArmAtoms]))
  cases Option.some.inj (hc1.symm.trans hfound)
  have hinit := Cond.initialized_spec hfound hk (a (.initialized cls) (by simp [Bundle.messageArmAtoms]))
  have hctor : kX.findMethod "<init>" "(Ljava/lang/String;)V" = some P1.m.idx := findMethod_of_methodNamed hP1m hk
  have hsel0 : selectMethod e.platform s.vm P1.m.cls T.fill0 = .method T.fill0 := by
    obtain ⟨c2, r2, m2, q1, q2, q3, q4, -⟩ := Cond.selects_spec (a (.selects cls Bundle.tFill0 Bundle.tFill0) (by simp [Bundle.messageArmAtoms]))
    cases Option.some.inj (q1.symm.trans hfound)
    cases Option.some.inj (q2.symm.trans (State.methodFound?_of_named Y.fill0 (by decide)))
    cases Option.some.inj (q3.symm.trans Y.fill0)
    rw [Launch.admits_selectMethod X.admits]; exact q4
  have hselF : selectMethod e.platform s.vm P1.m.cls T.fill = .method T.fill := by
    obtain ⟨c2, r2, m2, q1, q2, q3, q4, -⟩ := Cond.selects_spec (a (.selects cls Bundle.tFill Bundle.tFill) (by simp [Bundle.messageArmAtoms]))
    cases Option.some.inj (q1.symm.trans hfound)
    cases Option.some.inj (q2.symm.trans (State.methodFound?_of_named Y.fill (by decide)))
    cases Option.some.inj (q3.symm.trans Y.fill)
    rw [Launch.admits_selectMethod X.admits]; exact q4
  obtain ⟨cellS0, hcS0, hiss⟩ := Y.statics
  obtain ⟨u0, hu0⟩ := Cond.staticRefV Y.unassigned L.unassignedStatic L.statics hcS0 hiss (a (.isRef (.static Bundle.tN "UNASSIGNED_STACK" Bundle.steD)) (by simp [Bundle.messageArmAtoms]))
  obtain ⟨sen, hsen⟩ := Cond.staticRefV Y.sentinel L.sentinelStatic L.statics hcS0 hiss (a (.isRef (.static Bundle.tN "SUPPRESSED_SENTINEL" Bundle.listD)) (by simp [Bundle.messageArmAtoms]))
  obtain ⟨ci198, i198, fB, hk198, hg198, ha198, hsB, -, hnB, htB, hffB⟩ := Cond.ownField (t := .object "java/lang/Object") Y.found L.cls (by decide +kernel) (a (.fieldLink Bundle.tN 198 Bundle.tN "backtrace" "Ljava/lang/Object;") (by simp [Bundle.messageArmAtoms])) (a (.lays Bundle.tN Bundle.tN "backtrace" "Ljava/lang/Object;") (by simp [Bundle.messageArmAtoms])) e.platform hpl
  obtain ⟨cellS, hcS', heS, -, hkeep⟩ := X.same.2.2.2.2.2 T.aS cellS0 hcS0
  have hcellS : W.heap[T.aS]? = some cellS := hcS'
  have hout' : ∀ i, (⟨T.aS, i⟩ : Loc) ∉ locs := fun i hmem => by
    have := hlocs _ hmem cellS0 hcS0
    rw [hiss] at this; cases this
  have hknownS : cellS.vm ≠ .unknown := by
    rw [heS]; intro hu
    rw [show cellS0.vm = .unknown from hu] at hiss
    cases hiss
  have hvU : cellS.slots[T.fUnassigned.slot]? = some u0.v := by rw [hkeep _ (hout' _)]; exact hu0
  have hvSen : cellS.slots[T.fSentinel.slot]? = some sen.v := by rw [hkeep _ (hout' _)]; exact hsen
  obtain ⟨iM, hffM⟩ := Y.msg
  obtain ⟨tyC, dC, hdC, hdnC⟩ := Cond.laysAt hfound hk Y.cause (a (.lays cls Bundle.tN "cause" "Ljava/lang/Throwable;") (by simp [Bundle.messageArmAtoms]))
  obtain ⟨tyS, dS, hdS, hdnS⟩ := Cond.laysAt hfound hk Y.stack (a (.lays cls Bundle.tN "stackTrace" Bundle.steD) (by simp [Bundle.messageArmAtoms]))
  obtain ⟨tyP, dP, hdP, hdnP⟩ := Cond.laysAt hfound hk Y.supp (a (.lays cls Bundle.tN "suppressedExceptions" Bundle.listD) (by simp [Bundle.messageArmAtoms]))
  obtain ⟨tyM, dM, hdM, hdnM⟩ := Cond.laysAt hfound hk hffM (a (.lays cls Bundle.tN "detailMessage" "Ljava/lang/String;") (by simp [Bundle.messageArmAtoms]))
  obtain ⟨tyB, dB, hdB, hdnB⟩ := Cond.laysAt hfound hk hffB (a (.lays cls Bundle.tN "backtrace" "Ljava/lang/Object;") (by simp [Bundle.messageArmAtoms]))
  have bC := Cond.laysApart hdB hdC hdnB hdnC (by rw [hnB, Y.causeName]; decide)
  have bS := Cond.laysApart hdB hdS hdnB hdnS (by rw [hnB, Y.stackName]; decide)
  have bP := Cond.laysApart hdB hdP hdnB hdnP (by rw [hnB, Y.suppName]; decide)
  have hbk : ((preparedCellV T.toThrowableT (freshCell P1.m.cls kX) (W.heap.size + 2) u0 sen).withEntry W.cur).slots[fB.slot]? = some .null := by
    have := fresh_default (c := P1.m.cls) tyB
    rw [htB] at this
    simpa [preparedCellV, Cell.setSlot, Cell.withEntry, Array.getElem?_setIfInBounds, bC, bS, bP, bC.symm, bS.symm, bP.symm, defaultValue] using this
  have tkC := Takes.of_laid (v := .ref (W.heap.size + 2)) hk hord tyC (by rw [Y.causeType]; rfl)
  have tkS := Takes.of_laid (v := u0.v) hk hord tyS (by rw [Y.stackType]; exact fits_refV_array _ u0)
  have tkP := Takes.of_laid (v := sen.v) hk hord tyP (by rw [Y.suppType]; exact fits_refV_object _ sen)
  have tkM := Takes.of_laid (v := .ref (W.heap.size + 1)) hk hord tyM (by rw [Y.msgType]; rfl)
  have hskip : SkipFacts T e.platform s (fun u => u) u0 ((preparedCellV T.toThrowableT (freshCell P1.m.cls kX) (W.heap.size + 2) u0 sen).withEntry W.cur) := ⟨{ ci198 := ci198, i198 := i198, fBack := fB }, ⟨hk198, hg198, ha198, hsB⟩, hbk, fun _ _ => rfl⟩
  have h0 : At W g.method c below := by rw [hg]; exact X.here
  obtain ⟨hbeyond, hfreeW⟩ := X.vmMayThrow hsize (.throwNew cls (some text) none) (fun f hf => by cases hf) rfl hRlocals
  have hfr' : W.frames.length + Ps.length + 4 < (e.platform.stackLimits W.me).1 := by have := X.framesAbove hRframes; omega
  have hwd' : (stackUse (.java g :: W.frames.tail)).2 + 13 * Ps.length + 55 ≤ (e.platform.stackLimits W.me).2 := by have := X.stackAbove hsize (K := 13 * Ps.length + 55) (by omega); omega
  have hslots : W.slotsUsed + (stringBytes (stringToUtf16 text)).size + Zs.kS.instanceTypes.size + kX.instanceTypes.size ≤ e.platform.maxSlots := by
    have := X.slotsAbove hRslots
    rw [hn4, hn6]
    omega
  obtain ⟨vm', hW', st⟩ := Steps.vmThrowsMessageColdByV p (s₀ := s) (S := W) (g := g) h0 hexec T L Z LZ M LM X.warmed (t := W.cur) rfl Zs LZs P1 L1 Ps hL hlink1 hlink hsoe hoom hfound hk hinit hord hctor
    (Launch.admits_hotImplicitExceptions X.admits) hbeyond hfreeW htext hlimit hheap (X.cellsAbove hRcells) hslots (hfitv _) (hfitc _)
    (Nn := fun u => u) heapOnly_id (fun _ _ => rfl) (fun _ => rfl) (fun u x y => setCell_twice _ _ _ _) (fun _ => Nat.le_refl _) (cN := ((preparedCellV T.toThrowableT (freshCell P1.m.cls kX) (W.heap.size + 2) u0 sen).withEntry W.cur))
    hsel0 hcellS hknownS hvU tkS (fun _ hu => hu) (fun _ hu => hu) rfl rfl rfl (by simp [preparedCellV, Cell.setSlot, Cell.withEntry]) hskip (fun _ _ hA hW _ hroom _ hrest => L.nativeOff p htr hA hW hroom hrest) hselF hvSen tkC tkP tkM Y.objLocals rfl hfr' hwd'
  rw [plainBareV_eq T.toThrowableT (W.heap.size + 2) u0 sen (.ref (W.heap.size + 1)) W.cur rfl rfl] at st
  obtain ⟨-, -, w3, w4, -, -, -⟩ := withThrown_facts e.platform W Zs text P1.m.cls kX
  have X3 := ((X.pushed (bytesOf Zs.cB (stringToUtf16 text))).pushed (stringAt Zs.cS Zs.kS Zs.fv Zs.fc (stringToUtf16 text) W.heap.size)).pushed (freshCell P1.m.cls kX)
  rw [← withString_eq] at X3
  have X4 := X3.noted hW'
  have ha : (W.heap.size + 2) < ((withThrown W Zs text P1.m.cls kX).setVm vm').heap.size := by show _ < (withThrown W Zs text P1.m.cls kX).heap.size; rw [w3]; omega
  have hcell : ((withThrown W Zs text P1.m.cls kX).setVm vm').heap[(W.heap.size + 2)]? = some (freshCell P1.m.cls kX) := w4
  have X5 := ((((X4.stored hcell T.fCause.slot (.ref (W.heap.size + 2))).storedAgain ha T.fStack.slot u0.v).storedAgain ha T.fSupp.slot sen.v).storedAgain ha T.fStack.slot u0.v).storedAgain ha T.fMsg.slot (.ref (W.heap.size + 1))
  obtain ⟨g₁, hfrM⟩ := X5.frames_eq
  have hU : ((((withThrown W Zs text P1.m.cls kX).setVm vm').setCell (W.heap.size + 2) (plainBareV T.toThrowableT (freshCell P1.m.cls kX) (W.heap.size + 2) u0 sen (.ref (W.heap.size + 1)))).setTop g).pushFrame (.throwing (W.heap.size + 2)) = (((withThrown W Zs text P1.m.cls kX).setVm vm').setCell (W.heap.size + 2) (plainBareV T.toThrowableT (freshCell P1.m.cls kX) (W.heap.size + 2) u0 sen (.ref (W.heap.size + 1)))).setFrames (.throwing (W.heap.size + 2) :: .java g :: below) := by
    rw [State.pushFrame, State.frames_setTop _ hfrM, State.setTop_of_frames _ hfrM, State.setFrames_setFrames]
  have b1 : (bytesOf Zs.cB (stringToUtf16 text)).slots.size = (stringBytes (stringToUtf16 text)).size := by
    rw [(Cell.writeAll_facts _ _).2.2]; simp [bytes0]
  have b2 : (stringAt Zs.cS Zs.kS Zs.fv Zs.fc (stringToUtf16 text) W.heap.size).slots.size = 4 := by simp [string0, Cell.setSlot, hn4]
  have b3 : (freshCell P1.m.cls kX).slots.size = 6 := by simp [hn6]
  rw [b1, b2, b3] at X5
  have e9 : slots + (stringBytes (stringToUtf16 text)).size + 4 + 6 = slots + ((stringBytes (stringToUtf16 text)).size + 4 + 6) := by omega
  rw [e9] at X5
  simp only [List.append_assoc, List.cons_append, List.nil_append] at X5
  refine ⟨((withThrown W Zs text P1.m.cls kX).setVm vm').setCell (W.heap.size + 2) (plainBareV T.toThrowableT (freshCell P1.m.cls kX) (W.heap.size + 2) u0 sen (.ref (W.heap.size + 1))), W.heap.size + 2, _, fun target ht => st _ (by rw [X.tail, ← hU]; exact ht),
    X5.forget (fun y hy => ?_), heapAt_setCell_self _ ha, hfound, rfl⟩
  simp only [List.mem_cons, List.not_mem_nil, or_false] at hy
  have hge : s.heap.size ≤ W.heap.size := X.same.2.1
  rcases hy with rfl | rfl | rfl | rfl | rfl <;> exact Nat.le_trans hge (Nat.le_add_right _ 2)
set_option maxHeartbeats 1000000 in
/-- the machine throws NullPointerException, no traces kept: from its note over the frame g to 'throwing' over the same frame (follows the proof of Stand.vmThrowsNpe, Shelf42/KT2.lean; throwsNpeColdBareVAt, Shelf42/NT91.lean, called) -/
theorem vx_npeAt {p : Program} {l : Launch} {e : Env} {R : Room} {s : State} {m₀ : MethodId} {args : Array Value} {below : List Frame} {meth : Method} {c : Code} {W : State} {locs : List Loc} {cells slots : Nat}
    (X : Stand p l e R s m₀ args below meth c W locs cells slots) (hexec : p.tables.exec = Jvm.exec) (htr : e.platform.stackTraces = false) {n : Nat}
    (h : ∀ a ∈ Bundle.npeArmAtoms n, a.before args s = true)
    (hlocs : ∀ x ∈ locs, ∀ cell, s.heap[x.base]? = some cell → cell.vm.isStatics = false)
    {g : JFrame} (hg : g.method = m₀) (hsize : g.locals.size = c.maxLocals)
    (hRframes : 7 < R.frames) (hRlocals : 2 * g.monitorRoom + (g.stack.map fun v => v.category).sum + 10240 ≤ R.locals)
    (hRcells : cells + 1 ≤ R.cells) (hRslots : slots + n ≤ R.slots) (hlocks : meth.locks = false) :
    ∃ (S : State) (q : Addr) (ce : Cell), (∀ target, Steps p.tables e below ((S.setTop g).pushFrame (.throwing q)) target → Steps p.tables e below ((W.setTop g).pushFrame (.throwNew "java/lang/NullPointerException" none none)) target) ∧
      Stand p l e R s m₀ args below meth c S locs (cells + 1) (slots + n) ∧ S.heap[q]? = some ce ∧ s.vm.findClass "java/lang/NullPointerException" = some ce.cls ∧ ce.vm = .none := by
  have howns : e.platform.frameOwnsMonitors = true := by rw [X.admits.platform]
  have hfin : e.platform.finalization = false := by rw [X.admits.platform]
  have hpl : e.platform.magicAccessors = ({} : Platform).magicAccessors := by rw [X.admits.platform]
  have hpl2 : e.platform.arrayCloneIsPublic = true := by rw [X.admits.platform]
  have a' : ∀ x, x ∈ Bundle.npeArmAtoms n → x.holds args s none s [] = true := fun x hx => h x hx
  obtain ⟨T, Z, L, LZ, Y⟩ := ThrowableC.of_atoms (args := args) howns hfin hpl (fun x hx => h x (by simp [Bundle.npeArmAtoms, hx]))
  obtain ⟨N, LN, hcN, hnNF, hordN, hffS⟩ := NpeC.of_atoms (args := args) hpl hpl2 L Y (fun x hx => h x (by simp [Bundle.npeArmAtoms, hx]))
  obtain ⟨P1, L1, hP1m, hP1s⟩ := PassC.of_atoms (args := args) (s := s) hpl (X := Bundle.nN) (Y := Bundle.rN) (by decide) (by decide) LibCode.NullPointerException.Init0.at_0 LibCode.NullPointerException.Init0.at_1 LibCode.NullPointerException.Init0.at_4 (fun x hx => h x (by simp [Bundle.npeArmAtoms, hx]))
  obtain ⟨PR, LR, hPRm, hPRs⟩ := PassC.of_atoms (args := args) (s := s) hpl (X := Bundle.rN) (Y := Bundle.eN) (by decide) (by decide) LibCode.RuntimeException.Init0.at_0 LibCode.RuntimeException.Init0.at_1 LibCode.RuntimeException.Init0.at_4 (fun x hx => h x (by simp [Bundle.npeArmAtoms, hx]))
  obtain ⟨PE, LEx, hPEm, hPEs⟩ := PassC.of_atoms (args := args) (s := s) hpl (X := Bundle.eN) (Y := Bundle.tN) (by decide) (by decide) LibCode.Exception.Init0.at_0 LibCode.Exception.Init0.at_1 LibCode.Exception.Init0.at_4 (fun x hx => h x (by simp [Bundle.npeArmAtoms, hx]))
  have hfound : s.vm.findClass Bundle.nN = some P1.m.cls := findClass_of_methodNamed hP1m
  have ecls : N.cN = P1.m.cls := Option.some.inj (hcN.symm.trans hfound)
  have hk : s.vm.classes[P1.m.cls]? = some N.kN := by rw [← ecls]; exact LN.cls
  have hinit := Cond.initialized_spec hfound hk (a' (.initialized Bundle.nN) (by simp [Bundle.npeArmAtoms]))
  have hctor : N.kN.findMethod "<init>" "()V" = some P1.m.idx := findMethod_of_methodNamed hP1m hk
  obtain ⟨c1, k1, hc1, hk1, -, -, -, hn⟩ := Cond.instantiable_spec (a' (.instantiable Bundle.nN n) (by simp [Bundle.npeArmAtoms]))
  cases Option.some.inj (hc1.symm.trans hfound)
  cases Option.some.inj (hk1.symm.trans hk)
  have hfsz : (freshCell P1.m.cls N.kN).slots.size = n := by simp [hn]
  have hlink1 : P1.sup = PR.m := Option.some.inj (hP1s.symm.trans hPRm)
  have hlinkR : PR.sup = PE.m := Option.some.inj (hPRs.symm.trans hPEm)
  have hlinkE : PE.sup = Z.m T.toThrowableT := Option.some.inj (hPEs.symm.trans Y.init0)
  have hLs : ∀ P, P ∈ [PR, PE] → P.Links0 e.platform s := fun P hP => by
    simp only [List.mem_cons, List.not_mem_nil, or_false] at hP
    rcases hP with rfl | rfl
    · exact LR
    · exact LEx
  have hsel0 : selectMethod e.platform s.vm P1.m.cls T.fill0 = .method T.fill0 := by
    obtain ⟨c2, r2, m2, q1, q2, q3, q4, -⟩ := Cond.selects_spec (a' (.selects Bundle.nN Bundle.tFill0 Bundle.tFill0) (by simp [Bundle.npeArmAtoms]))
    cases Option.some.inj (q1.symm.trans hfound)
    cases Option.some.inj (q2.symm.trans (State.methodFound?_of_named Y.fill0 (by decide)))
    cases Option.some.inj (q3.symm.trans Y.fill0)
    rw [Launch.admits_selectMethod X.admits]; exact q4
  have hselF : selectMethod e.platform s.vm P1.m.cls T.fill = .method N.fill := by
    obtain ⟨c2, r2, m2, q1, q2, q3, q4, -⟩ := Cond.selects_spec (a' (.selects Bundle.nN Bundle.tFill Bundle.nFill) (by simp [Bundle.npeArmAtoms]))
    cases Option.some.inj (q1.symm.trans hfound)
    cases Option.some.inj (q2.symm.trans (State.methodFound?_of_named Y.fill (by decide)))
    cases Option.some.inj (q3.symm.trans hnNF)
    rw [Launch.admits_selectMethod X.admits]; exact q4
  obtain ⟨cellS0, hcS0, hiss⟩ := Y.statics
  obtain ⟨u0, hu0⟩ := Cond.staticRefV Y.unassigned L.unassignedStatic L.statics hcS0 hiss (a' (.isRef (.static Bundle.tN "UNASSIGNED_STACK" Bundle.steD)) (by simp [Bundle.npeArmAtoms]))
  obtain ⟨sen, hsen⟩ := Cond.staticRefV Y.sentinel L.sentinelStatic L.statics hcS0 hiss (a' (.isRef (.static Bundle.tN "SUPPRESSED_SENTINEL" Bundle.listD)) (by simp [Bundle.npeArmAtoms]))
  obtain ⟨ci198, i198, fB, hk198, hg198, ha198, hsB, -, hnB, htB, hffB⟩ := Cond.ownField (t := .object "java/lang/Object") Y.found L.cls (by decide +kernel) (a' (.fieldLink Bundle.tN 198 Bundle.tN "backtrace" Bundle.objD) (by simp [Bundle.npeArmAtoms])) (a' (.lays Bundle.tN Bundle.tN "backtrace" Bundle.objD) (by simp [Bundle.npeArmAtoms])) e.platform hpl
  obtain ⟨cellS, hcS', heS, -, hkeep⟩ := X.same.2.2.2.2.2 T.aS cellS0 hcS0
  have hcellS : W.heap[T.aS]? = some cellS := hcS'
  have hout' : ∀ i, (⟨T.aS, i⟩ : Loc) ∉ locs := fun i hmem => by
    have := hlocs _ hmem cellS0 hcS0
    rw [hiss] at this; cases this
  have hknownS : cellS.vm ≠ .unknown := by
    rw [heS]; intro hu
    rw [show cellS0.vm = .unknown from hu] at hiss
    cases hiss
  have hvU : cellS.slots[T.fUnassigned.slot]? = some u0.v := by rw [hkeep _ (hout' _)]; exact hu0
  have hvSen : cellS.slots[T.fSentinel.slot]? = some sen.v := by rw [hkeep _ (hout' _)]; exact hsen
  obtain ⟨tyC, dC, hdC, hdnC⟩ := Cond.laysAt hfound hk Y.cause (a' (.lays Bundle.nN Bundle.tN "cause" "Ljava/lang/Throwable;") (by simp [Bundle.npeArmAtoms]))
  obtain ⟨tyS, dS, hdS, hdnS⟩ := Cond.laysAt hfound hk Y.stack (a' (.lays Bundle.nN Bundle.tN "stackTrace" Bundle.steD) (by simp [Bundle.npeArmAtoms]))
  obtain ⟨tyP, dP, hdP, hdnP⟩ := Cond.laysAt hfound hk Y.supp (a' (.lays Bundle.nN Bundle.tN "suppressedExceptions" Bundle.listD) (by simp [Bundle.npeArmAtoms]))
  obtain ⟨tyX, dX, hdX, hdnX⟩ := Cond.laysAt hfound hk hffS (a' (.lays Bundle.nN Bundle.nN "extendedMessageState" "I") (by simp [Bundle.npeArmAtoms, Bundle.npeAtoms]))
  obtain ⟨hnX, htX⟩ := State.fieldFound?_type hffS (t := .int) (by decide +kernel)
  have xC := Cond.laysApart hdC hdX hdnC hdnX (by rw [hnX, Y.causeName]; decide)
  have xS := Cond.laysApart hdS hdX hdnS hdnX (by rw [hnX, Y.stackName]; decide)
  have xP := Cond.laysApart hdP hdX hdnP hdnX (by rw [hnX, Y.suppName]; decide)
  have hv0 : (freshCell P1.m.cls N.kN).slots[N.fState.slot]? = some (.int 0) := by
    have := fresh_default (c := P1.m.cls) tyX
    rw [htX] at this; exact this
  obtain ⟨tyB, dB, hdB, hdnB⟩ := Cond.laysAt hfound hk hffB (a' (.lays Bundle.nN Bundle.tN "backtrace" Bundle.objD) (by simp [Bundle.npeArmAtoms]))
  have bC := Cond.laysApart hdB hdC hdnB hdnC (by rw [hnB, Y.causeName]; decide)
  have bS := Cond.laysApart hdB hdS hdnB hdnS (by rw [hnB, Y.stackName]; decide)
  have bP := Cond.laysApart hdB hdP hdnB hdnP (by rw [hnB, Y.suppName]; decide)
  have bX := Cond.laysApart hdB hdX hdnB hdnX (by rw [hnB, hnX]; decide)
  have hbk : ((npeCell N.toNpeT (preparedCellV T.toThrowableT (freshCell P1.m.cls N.kN) W.heap.size u0 sen) W.cur).withEntry W.cur).slots[fB.slot]? = some .null := by
    have := fresh_default (c := P1.m.cls) tyB
    rw [htB] at this
    simpa [npeCell, preparedCellV, Cell.setSlot, Cell.withEntry, Array.getElem?_setIfInBounds, bC, bS, bP, bX, bC.symm, bS.symm, bP.symm, bX.symm, defaultValue] using this
  have tkC := Takes.of_laid (v := .ref W.heap.size) hk hordN tyC (by rw [Y.causeType]; rfl)
  have tkS := Takes.of_laid (v := u0.v) hk hordN tyS (by rw [Y.stackType]; exact fits_refV_array _ u0)
  have tkP := Takes.of_laid (v := sen.v) hk hordN tyP (by rw [Y.suppType]; exact fits_refV_object _ sen)
  have tkX := Takes.of_laid (v := .int 1) hk hordN tyX (by rw [htX]; rfl)
  have hskip : SkipFacts T e.platform s (fun u => u) u0 ((npeCell N.toNpeT (preparedCellV T.toThrowableT (freshCell P1.m.cls N.kN) W.heap.size u0 sen) W.cur).withEntry W.cur) := ⟨{ ci198 := ci198, i198 := i198, fBack := fB }, ⟨hk198, hg198, ha198, hsB⟩, hbk, fun _ _ => rfl⟩
  obtain ⟨vm', X3, st, -⟩ := X.throwsNpeColdBareVAt hexec hg hsize T L Z LZ N LN P1 L1 [PR, PE] hLs hlink1 ⟨hlinkR, hlinkE, trivial⟩ hfound hk hinit hordN hctor hsel0 hselF hcellS hknownS hvU hvSen
    hv0 xC xS xP tkC tkS tkP tkX Y.objLocals hskip (fun _ _ hA hW _ hroom _ hrest => L.nativeOff p htr hA hW hroom hrest) (by simpa using hRframes) hRlocals (by simp) hRcells (by rw [hn]; exact hRslots)
  have hlt : W.heap.size < ((W.pushCell (freshCell P1.m.cls N.kN)).setVm vm').heap.size := by
    show W.heap.size < (W.pushCell (freshCell P1.m.cls N.kN)).heap.size
    rw [State.heap_size_pushCell]; omega
  rw [hfsz] at X3
  obtain ⟨g₁, hfrM⟩ := X3.frames_eq
  have hU : ((((W.pushCell (freshCell P1.m.cls N.kN)).setVm vm').setCell W.heap.size (npeBareV T.toThrowableT N.toNpeT (freshCell P1.m.cls N.kN) W.heap.size u0 sen)).setTop g).pushFrame (.throwing W.heap.size) = (((W.pushCell (freshCell P1.m.cls N.kN)).setVm vm').setCell W.heap.size (npeBareV T.toThrowableT N.toNpeT (freshCell P1.m.cls N.kN) W.heap.size u0 sen)).setFrames (.throwing W.heap.size :: .java g :: below) := by
    rw [State.pushFrame, State.frames_setTop _ hfrM, State.setTop_of_frames _ hfrM, State.setFrames_setFrames]
  refine ⟨_, W.heap.size, _, fun target ht => st.trans (by rw [← hU]; exact ht), X3.forget (fun y hy => ?_), heapAt_setCell_self _ hlt, hfound, rfl⟩
  simp only [List.mem_cons, List.not_mem_nil, or_false] at hy
  have hge : s.heap.size ≤ W.heap.size := X.same.2.1
  rcases hy with rfl | rfl | rfl | rfl | rfl <;> exact hge
/-- the words of a machine's NullPointerException, but the four that speak of the heap -/
def vx_atN (n : Nat) : List Cond := (Bundle.npeArmAtoms n).filter vx_no
/-- the words of a machine's throw with a message, but the four that speak of the heap -/
def vx_atM (X : String) (names : List String) : List Cond := (Bundle.messageArmAtoms X names).filter vx_no
section
variable {p : Program} {l : Launch} {e : Env} {R : Room} {s : State} {m : MethodId} {args : Array Value} {below : List Frame} {meth : Method} {c : Code} {H : Heap} {locs : List Loc} {cells slots : Nat}
/-- a frame seen from a rebased start, seen from the first start again -/
theorem vx_back9 {T S : State} {R' : Room} {k n : Nat} (X : Stand p l e R s m args below meth c T locs cells slots) (Y : Stand p l e R' ((T.setVm s.vm).setFrames (.invoking m args :: below)) m args below meth c T [] 0 0) (Z : Stand p l e R' ((T.setVm s.vm).setFrames (.invoking m args :: below)) m args below meth c S [] k n) :
    Stand p l e R s m args below meth c S locs (cells + k) (slots + n) := by
  have hW0 : s.WarmedH ((T.setVm s.vm).setFrames (.invoking m args :: below)).vm := State.WarmedH.refl s
  refine { admits := X.admits, cas := X.cas, clock := X.clock, frames := X.frames, room := X.room, hears := X.hears, method := X.method, code := X.code, here := Z.here, tail := Z.tail, warmed := State.WarmedH.trans hW0 Z.warmed, limits := Z.limits.trans (Y.limits.symm.trans X.limits), bytes := Z.bytes.trans (Y.bytes.symm.trans X.bytes), same := ?_ }
  obtain ⟨e1, e2⟩ := Z.same
  rw [State.setFrames_setFrames] at e1
  have h2 : (T.setVm s.vm).sameButNew (S.setVm s.vm) [] k n := ⟨e1, e2⟩
  have h3 := X.same.trans h2
  rw [List.append_nil] at h3
  exact h3
/-- from the machine's note that E is thrown here with this text -/
def vx_Note (p : Program) (l : Launch) (e : Env) (R : Room) (s : State) (m : MethodId) (args : Array Value) (below : List Frame) (meth : Method) (c : Code) (H : Heap) (locs : List Loc) (cells slots : Nat) (Q : State → Prop) (g : JFrame) (E text : String) : Prop :=
  ∀ T : State, T.heap = H → Stand p l e R s m args below meth c T locs cells slots → ∃ t, Steps p.tables e below ((T.setTop g).pushFrame (.throwNew E (some text) none)) t ∧ Q t
theorem vx_vm {pc : Nat} {ls : Array Slot} {rest : List Value} {Q : State → Prop} (hexec : p.tables.exec = Jvm.exec) (hl : l.stackTraces = false) {cls text : String} {names : List String} {nb : Nat} {A : Nat → Prop}
    (hcls : Bundle.fit cls = true) (hnames : ∀ n ∈ names, Bundle.fit n = true) (hsoe : (cls == "java/lang/StackOverflowError") = false) (hoom : (cls == "java/lang/OutOfMemoryError") = false)
    (hat : ∀ w ∈ vx_atM cls names, w.before args s = true) (hgood : ∀ w ∈ vx_atM cls names, vx_ot w = true)
    (hU : vx_Zq Bundle.tN "UNASSIGNED_STACK" Bundle.steD A s s.heap) (hN : vx_Zq Bundle.tN "SUPPRESSED_SENTINEL" Bundle.listD A s s.heap) (hS : va_S A s.heap H locs) (hsize : ls.size = c.maxLocals)
    (htext : (text == notModelled) = false) (hnb : (stringBytes (stringToUtf16 text)).size ≤ nb) (hnb1 : nb ≤ 1000)
    (hRframes : names.length + 4 < R.frames) (hRlocals : (rest.map fun v => v.category).sum + 10240 ≤ R.locals) (hshort : 13 * names.length + 55 ≤ 10240) (hRcells : cells + 3 ≤ R.cells) (hRslots : slots + (nb + 10) ≤ R.slots) (hlocks : meth.locks = false)
    (k : ∀ (H1 : Heap) (q9 : Addr) (ce : Cell), H.size ≤ H1.size → (∀ q : Nat, q < H.size → H1[q]? = H[q]?) → va_S A s.heap H1 locs → H1[q9]? = some ce → ce.vm = .none → s.vm.findClass cls = some ce.cls → vx_W p l e R s m args below meth c H1 locs (cells + 3) (slots + (nb + 10)) Q (F0 m pc ls rest) q9) :
    vx_Note p l e R s m args below meth c H locs cells slots Q (F0 m pc ls rest) cls text := by
  intro T hT X
  have htr : e.platform.stackTraces = false := (show e.platform.stackTraces = l.stackTraces by rw [X.admits.platform]).trans hl
  have Y := vx_rebase X (R' := { frames := R.frames, locals := R.locals, cells := 3, slots := nb + 10 }) (Nat.le_refl _) (Nat.le_refl _) hRcells hRslots
  have hhp : ((T.setVm s.vm).setFrames (.invoking m args :: below)).heap = H := hT
  have hW0 : s.WarmedH ((T.setVm s.vm).setFrames (.invoking m args :: below)).vm := State.WarmedH.refl s
  have hat' : ∀ w ∈ vx_atM cls names, w.before args ((T.setVm s.vm).setFrames (.invoking m args :: below)) = true := fun w hw => vx_ot_at hW0 rfl (hgood w hw) (hat w hw)
  have hU' : vx_Zq Bundle.tN "UNASSIGNED_STACK" Bundle.steD A ((T.setVm s.vm).setFrames (.invoking m args :: below)) ((T.setVm s.vm).setFrames (.invoking m args :: below)).heap := by rw [hhp]; exact vx_Zq.moved hW0.alike (hU.kept hS.2.1)
  have hN' : vx_Zq Bundle.tN "SUPPRESSED_SENTINEL" Bundle.listD A ((T.setVm s.vm).setFrames (.invoking m args :: below)) ((T.setVm s.vm).setFrames (.invoking m args :: below)).heap := by rw [hhp]; exact vx_Zq.moved hW0.alike (hN.kept hS.2.1)
  obtain ⟨S, q, ce, st, Z, hce, hcl', hv⟩ := vx_vmAt Y hexec htr (cls := cls) (names := names) (text := text) hcls hnames hsoe hoom (vx_own hat' (vx_isRefq hU'.1) (vx_isRefq hN'.1) hU'.2.word hN'.2.word) (fun x hx => nomatch hx) htext
    (by rw [Launch.admits_arrayLengthLimit X.admits]; omega) (by rw [Launch.admits_maxHeapBytes X.admits]; simp only [componentBytes]; omega)
    (g := F0 m pc ls rest) rfl hsize hRframes (by show 2 * 0 + (rest.map fun v => v.category).sum + 10240 ≤ R.locals; omega) hshort (by show 0 + 3 ≤ 3; omega) (by show 0 + (_ + 4 + 6) ≤ nb + 10; omega) hlocks
  obtain ⟨f1, f2⟩ := vx_frame Z.same
  have f1' : H.size ≤ S.heap.size := by rw [← hT]; exact f1
  have f2' : ∀ q : Nat, q < H.size → S.heap[q]? = H[q]? := fun q hq => by
    rw [← hT]
    exact f2 q (by rw [← hT] at hq; exact hq) (fun z hz => nomatch hz)
  have X5 := vx_back9 X Y Z
  have X6 : Stand p l e R s m args below meth c S locs (cells + 3) (slots + (nb + 10)) := { X5 with same := X5.same.mono (by omega) (by omega) }
  obtain ⟨t, a1, b1⟩ := k S.heap q ce f1' f2' ⟨Nat.le_trans hS.1 f1', fun q h1 h2 => (f2' q (Nat.lt_of_lt_of_le h1 hS.1)).trans (hS.2.1 q h1 h2), hS.2.2⟩ hce hv hcl' S rfl X6
  exact ⟨t, st t a1, b1⟩
/-- from the machine's note that NullPointerException is thrown here -/
def vx_NoteN (p : Program) (l : Launch) (e : Env) (R : Room) (s : State) (m : MethodId) (args : Array Value) (below : List Frame) (meth : Method) (c : Code) (H : Heap) (locs : List Loc) (cells slots : Nat) (Q : State → Prop) (g : JFrame) : Prop :=
  ∀ T : State, T.heap = H → Stand p l e R s m args below meth c T locs cells slots → ∃ t, Steps p.tables e below ((T.setTop g).pushFrame (.throwNew "java/lang/NullPointerException" none none)) t ∧ Q t
theorem vx_npe {pc : Nat} {ls : Array Slot} {rest : List Value} {Q : State → Prop} (hexec : p.tables.exec = Jvm.exec) (hl : l.stackTraces = false) {nb : Nat} {A : Nat → Prop}
    (hat : ∀ w ∈ vx_atN nb, w.before args s = true) (hgood : ∀ w ∈ vx_atN nb, vx_ot w = true)
    (hU : vx_Zq Bundle.tN "UNASSIGNED_STACK" Bundle.steD A s s.heap) (hN : vx_Zq Bundle.tN "SUPPRESSED_SENTINEL" Bundle.listD A s s.heap) (hS : va_S A s.heap H locs) (hsize : ls.size = c.maxLocals)
    (hRframes : 7 < R.frames) (hRlocals : (rest.map fun v => v.category).sum + 10240 ≤ R.locals) (hRcells : cells + 1 ≤ R.cells) (hRslots : slots + nb ≤ R.slots) (hlocks : meth.locks = false)
    (k : ∀ (H1 : Heap) (q9 : Addr) (ce : Cell), H.size ≤ H1.size → (∀ q : Nat, q < H.size → H1[q]? = H[q]?) → va_S A s.heap H1 locs → H1[q9]? = some ce → ce.vm = .none → s.vm.findClass "java/lang/NullPointerException" = some ce.cls → vx_W p l e R s m args below meth c H1 locs (cells + 1) (slots + nb) Q (F0 m pc ls rest) q9) :
    vx_NoteN p l e R s m args below meth c H locs cells slots Q (F0 m pc ls rest) := by
  intro T hT X
  have htr : e.platform.stackTraces = false := (show e.platform.stackTraces = l.stackTraces by rw [X.admits.platform]).trans hl
  have Y := vx_rebase X (R' := { frames := R.frames, locals := R.locals, cells := 1, slots := nb }) (Nat.le_refl _) (Nat.le_refl _) hRcells hRslots
  have hhp : ((T.setVm s.vm).setFrames (.invoking m args :: below)).heap = H := hT
  have hW0 : s.WarmedH ((T.setVm s.vm).setFrames (.invoking m args :: below)).vm := State.WarmedH.refl s
  have hat' : ∀ w ∈ vx_atN nb, w.before args ((T.setVm s.vm).setFrames (.invoking m args :: below)) = true := fun w hw => vx_ot_at hW0 rfl (hgood w hw) (hat w hw)
  have hU' : vx_Zq Bundle.tN "UNASSIGNED_STACK" Bundle.steD A ((T.setVm s.vm).setFrames (.invoking m args :: below)) ((T.setVm s.vm).setFrames (.invoking m args :: below)).heap := by rw [hhp]; exact vx_Zq.moved hW0.alike (hU.kept hS.2.1)
  have hN' : vx_Zq Bundle.tN "SUPPRESSED_SENTINEL" Bundle.listD A ((T.setVm s.vm).setFrames (.invoking m args :: below)) ((T.setVm s.vm).setFrames (.invoking m args :: below)).heap := by rw [hhp]; exact vx_Zq.moved hW0.alike (hN.kept hS.2.1)
  obtain ⟨S, q, ce, st, Z, hce, hcl', hv⟩ := vx_npeAt Y hexec htr (n := nb) (vx_own hat' (vx_isRefq hU'.1) (vx_isRefq hN'.1) hU'.2.word hN'.2.word) (fun x hx => nomatch hx)
    (g := F0 m pc ls rest) rfl hsize hRframes (by show 2 * 0 + (rest.map fun v => v.category).sum + 10240 ≤ R.locals; omega) (by show 0 + 1 ≤ 1; omega) (by show 0 + nb ≤ nb; omega) hlocks
  obtain ⟨f1, f2⟩ := vx_frame Z.same
  have f1' : H.size ≤ S.heap.size := by rw [← hT]; exact f1
  have f2' : ∀ q : Nat, q < H.size → S.heap[q]? = H[q]? := fun q hq => by
    rw [← hT]
    exact f2 q (by rw [← hT] at hq; exact hq) (fun z hz => nomatch hz)
  have X5 := vx_back9 X Y Z
  have X6 : Stand p l e R s m args below meth c S locs (cells + 1) (slots + nb) := { X5 with same := X5.same.mono (by omega) (by omega) }
  obtain ⟨t, a1, b1⟩ := k S.heap q ce f1' f2' ⟨Nat.le_trans hS.1 f1', fun q h1 h2 => (f2' q (Nat.lt_of_lt_of_le h1 hS.1)).trans (hS.2.1 q h1 h2), hS.2.2⟩ hce hv hcl' S rfl X6
  exact ⟨t, st t a1, b1⟩
variable {Q : State → Prop} {cc : ByteArray} {pc : Nat} {ls : Array Slot} {rest : List Value}
theorem vx_idivZ (hexec : p.tables.exec = Jvm.exec) (hb : c.code = cc) {a b : Int32} (h0 : b = 0) (d : decode cc pc = .ok (.idiv, 1)) (k : vx_Note p l e R s m args below meth c H locs cells slots Q (F0 m pc ls rest) "java/lang/ArithmeticException" "/ by zero") :
    W p l e R s m args below meth c H locs cells slots Q (F0 m pc ls (.int b :: .int a :: rest)) := by
  intro T hT X
  obtain ⟨t, st, q⟩ := k T hT X
  exact ⟨t, X.idivZero hexec (g := F0 m pc ls (.int b :: .int a :: rest)) rfl (a := a) (rest := rest) (by rw [h0]) (by rw [hb]; exact d) t st, q⟩
theorem vx_iremZ (hexec : p.tables.exec = Jvm.exec) (hb : c.code = cc) {a b : Int32} (h0 : b = 0) (d : decode cc pc = .ok (.irem, 1)) (k : vx_Note p l e R s m args below meth c H locs cells slots Q (F0 m pc ls rest) "java/lang/ArithmeticException" "/ by zero") :
    W p l e R s m args below meth c H locs cells slots Q (F0 m pc ls (.int b :: .int a :: rest)) := by
  intro T hT X
  obtain ⟨t, st, q⟩ := k T hT X
  exact ⟨t, X.iremZero hexec (g := F0 m pc ls (.int b :: .int a :: rest)) rfl (a := a) (rest := rest) (by rw [h0]) (by rw [hb]; exact d) t st, q⟩
theorem vx_ldivZ (hexec : p.tables.exec = Jvm.exec) (hb : c.code = cc) {a b : Int64} (h0 : b = 0) (d : decode cc pc = .ok (.ldiv, 1)) (k : vx_Note p l e R s m args below meth c H locs cells slots Q (F0 m pc ls rest) "java/lang/ArithmeticException" "/ by zero") :
    W p l e R s m args below meth c H locs cells slots Q (F0 m pc ls (.long b :: .long a :: rest)) := by
  intro T hT X
  obtain ⟨t, st, q⟩ := k T hT X
  exact ⟨t, X.ldivZero hexec (g := F0 m pc ls (.long b :: .long a :: rest)) rfl (a := a) (rest := rest) (by rw [h0]) (by rw [hb]; exact d) t st, q⟩
theorem vx_lremZ (hexec : p.tables.exec = Jvm.exec) (hb : c.code = cc) {a b : Int64} (h0 : b = 0) (d : decode cc pc = .ok (.lrem, 1)) (k : vx_Note p l e R s m args below meth c H locs cells slots Q (F0 m pc ls rest) "java/lang/ArithmeticException" "/ by zero") :
    W p l e R s m args below meth c H locs cells slots Q (F0 m pc ls (.long b :: .long a :: rest)) := by
  intro T hT X
  obtain ⟨t, st, q⟩ := k T hT X
  exact ⟨t, X.lremZero hexec (g := F0 m pc ls (.long b :: .long a :: rest)) rfl (a := a) (rest := rest) (by rw [h0]) (by rw [hb]; exact d) t st, q⟩
theorem vx_ialdZ {D : va_G} {cl : List vw_C} {ws : va_W} {tys : List (ClassId × FieldType)} {a : Nat} (hexec : p.tables.exec = Jvm.exec) (hb : c.code = cc) (hK : va_K D cl tys s) (hP : va_P D cl ws H) (q0 t0 : Nat) {cA : ClassId} {n : Nat} {f : Nat → Int32} (ha : ws[q0]? = some (a, .inl (cA, n, .inl f))) (ht : tys[t0]? = some (cA, .int)) {i : Int32} (hout : ¬ vp_in i n) (hdg : decode cc pc = .ok (.iaload, 1))
    (k : ∀ tx : String, tx = (toString "Index " ++ toString i ++ toString " out of bounds for length " ++ toString n : String) → vx_Note p l e R s m args below meth c H locs cells slots Q (F0 m pc ls rest) "java/lang/ArrayIndexOutOfBoundsException" tx) : W p l e R s m args below meth c H locs cells slots Q (F0 m pc ls (.int i :: .ref a :: rest)) := by
  intro T hT X
  obtain ⟨t, st, q⟩ := k _ rfl T hT X
  refine ⟨t, ?_, q⟩
  have h1 := X.ialoadOut hexec (by rw [hT]; exact hP q0 _ ha) ((hK.2 t0 _ ht).1 n (fun j => .int (f j))) (j := i) (by show (i < 0 ∨ (arrV _ _ _).slots.size ≤ _); rw [arrV_size]; exact Classical.byContradiction hout) (g := F0 m pc ls (.int i :: .ref a :: rest)) rfl (rest := rest) rfl (by rw [hb]; exact hdg) t
  simp only [arrV_size] at h1
  exact h1 st
theorem vx_iastZ {D : va_G} {cl : List vw_C} {ws : va_W} {tys : List (ClassId × FieldType)} {a : Nat} (hexec : p.tables.exec = Jvm.exec) (hb : c.code = cc) (hK : va_K D cl tys s) (hP : va_P D cl ws H) (q0 t0 : Nat) {cA : ClassId} {n : Nat} {f : Nat → Int32} (ha : ws[q0]? = some (a, .inl (cA, n, .inl f))) (ht : tys[t0]? = some (cA, .int)) {i : Int32} {x : Int32} (hout : ¬ vp_in i n) (hdg : decode cc pc = .ok (.iastore, 1))
    (k : ∀ tx : String, tx = (toString "Index " ++ toString i ++ toString " out of bounds for length " ++ toString n : String) → vx_Note p l e R s m args below meth c H locs cells slots Q (F0 m pc ls rest) "java/lang/ArrayIndexOutOfBoundsException" tx) : W p l e R s m args below meth c H locs cells slots Q (F0 m pc ls (.int x :: .int i :: .ref a :: rest)) := by
  intro T hT X
  obtain ⟨t, st, q⟩ := k _ rfl T hT X
  refine ⟨t, ?_, q⟩
  have h1 := X.iastoreOut hexec (by rw [hT]; exact hP q0 _ ha) ((hK.2 t0 _ ht).1 n (fun j => .int (f j))) (j := i) (by show (i < 0 ∨ (arrV _ _ _).slots.size ≤ _); rw [arrV_size]; exact Classical.byContradiction hout) (g := F0 m pc ls (.int x :: .int i :: .ref a :: rest)) rfl (rest := rest) rfl (by rw [hb]; exact hdg) t
  simp only [arrV_size] at h1
  exact h1 st
theorem vx_baldZ {D : va_G} {cl : List vw_C} {ws : va_W} {tys : List (ClassId × FieldType)} {a : Nat} (hexec : p.tables.exec = Jvm.exec) (hb : c.code = cc) (hK : va_K D cl tys s) (hP : va_P D cl ws H) (q0 t0 : Nat) {cA : ClassId} {n : Nat} {f : Nat → Int32} (ha : ws[q0]? = some (a, .inl (cA, n, .inl f))) (ht : tys[t0]? = some (cA, .byte)) {i : Int32} (hout : ¬ vp_in i n) (hdg : decode cc pc = .ok (.baload, 1))
    (k : ∀ tx : String, tx = (toString "Index " ++ toString i ++ toString " out of bounds for length " ++ toString n : String) → vx_Note p l e R s m args below meth c H locs cells slots Q (F0 m pc ls rest) "java/lang/ArrayIndexOutOfBoundsException" tx) : W p l e R s m args below meth c H locs cells slots Q (F0 m pc ls (.int i :: .ref a :: rest)) := by
  intro T hT X
  obtain ⟨t, st, q⟩ := k _ rfl T hT X
  refine ⟨t, ?_, q⟩
  have h1 := X.baloadOut hexec (by rw [hT]; exact hP q0 _ ha) ((hK.2 t0 _ ht).1 n (fun j => .int (f j))) (j := i) (by show (i < 0 ∨ (arrV _ _ _).slots.size ≤ _); rw [arrV_size]; exact Classical.byContradiction hout) (g := F0 m pc ls (.int i :: .ref a :: rest)) rfl (rest := rest) rfl (by rw [hb]; exact hdg) t
  simp only [arrV_size] at h1
  exact h1 st
theorem vx_bastZ {D : va_G} {cl : List vw_C} {ws : va_W} {tys : List (ClassId × FieldType)} {a : Nat} (hexec : p.tables.exec = Jvm.exec) (hb : c.code = cc) (hK : va_K D cl tys s) (hP : va_P D cl ws H) (q0 t0 : Nat) {cA : ClassId} {n : Nat} {f : Nat → Int32} (ha : ws[q0]? = some (a, .inl (cA, n, .inl f))) (ht : tys[t0]? = some (cA, .byte)) {i : Int32} {x : Int32} (hout : ¬ vp_in i n) (hdg : decode cc pc = .ok (.bastore, 1))
    (k : ∀ tx : String, tx = (toString "Index " ++ toString i ++ toString " out of bounds for length " ++ toString n : String) → vx_Note p l e R s m args below meth c H locs cells slots Q (F0 m pc ls rest) "java/lang/ArrayIndexOutOfBoundsException" tx) : W p l e R s m args below meth c H locs cells slots Q (F0 m pc ls (.int x :: .int i :: .ref a :: rest)) := by
  intro T hT X
  obtain ⟨t, st, q⟩ := k _ rfl T hT X
  refine ⟨t, ?_, q⟩
  have h1 := X.bastoreOut hexec (by rw [hT]; exact hP q0 _ ha) ((hK.2 t0 _ ht).1 n (fun j => .int (f j))) (j := i) (by show (i < 0 ∨ (arrV _ _ _).slots.size ≤ _); rw [arrV_size]; exact Classical.byContradiction hout) (g := F0 m pc ls (.int x :: .int i :: .ref a :: rest)) rfl (rest := rest) rfl (by rw [hb]; exact hdg) t
  simp only [arrV_size] at h1
  exact h1 st
theorem vx_zaldZ {D : va_G} {cl : List vw_C} {ws : va_W} {tys : List (ClassId × FieldType)} {a : Nat} (hexec : p.tables.exec = Jvm.exec) (hb : c.code = cc) (hK : va_K D cl tys s) (hP : va_P D cl ws H) (q0 t0 : Nat) {cA : ClassId} {n : Nat} {f : Nat → Int32} (ha : ws[q0]? = some (a, .inl (cA, n, .inl f))) (ht : tys[t0]? = some (cA, .boolean)) {i : Int32} (hout : ¬ vp_in i n) (hdg : decode cc pc = .ok (.baload, 1))
    (k : ∀ tx : String, tx = (toString "Index " ++ toString i ++ toString " out of bounds for length " ++ toString n : String) → vx_Note p l e R s m args below meth c H locs cells slots Q (F0 m pc ls rest) "java/lang/ArrayIndexOutOfBoundsException" tx) : W p l e R s m args below meth c H locs cells slots Q (F0 m pc ls (.int i :: .ref a :: rest)) := by
  intro T hT X
  obtain ⟨t, st, q⟩ := k _ rfl T hT X
  refine ⟨t, ?_, q⟩
  have h1 := X.baloadOut hexec (by rw [hT]; exact hP q0 _ ha) ((hK.2 t0 _ ht).1 n (fun j => .int (f j))) (j := i) (by show (i < 0 ∨ (arrV _ _ _).slots.size ≤ _); rw [arrV_size]; exact Classical.byContradiction hout) (g := F0 m pc ls (.int i :: .ref a :: rest)) rfl (rest := rest) rfl (by rw [hb]; exact hdg) t
  simp only [arrV_size] at h1
  exact h1 st
theorem vx_zastZ {D : va_G} {cl : List vw_C} {ws : va_W} {tys : List (ClassId × FieldType)} {a : Nat} (hexec : p.tables.exec = Jvm.exec) (hb : c.code = cc) (hK : va_K D cl tys s) (hP : va_P D cl ws H) (q0 t0 : Nat) {cA : ClassId} {n : Nat} {f : Nat → Int32} (ha : ws[q0]? = some (a, .inl (cA, n, .inl f))) (ht : tys[t0]? = some (cA, .boolean)) {i : Int32} {x : Int32} (hout : ¬ vp_in i n) (hdg : decode cc pc = .ok (.bastore, 1))
    (k : ∀ tx : String, tx = (toString "Index " ++ toString i ++ toString " out of bounds for length " ++ toString n : String) → vx_Note p l e R s m args below meth c H locs cells slots Q (F0 m pc ls rest) "java/lang/ArrayIndexOutOfBoundsException" tx) : W p l e R s m args below meth c H locs cells slots Q (F0 m pc ls (.int x :: .int i :: .ref a :: rest)) := by
  intro T hT X
  obtain ⟨t, st, q⟩ := k _ rfl T hT X
  refine ⟨t, ?_, q⟩
  have h1 := X.bastoreOut hexec (by rw [hT]; exact hP q0 _ ha) ((hK.2 t0 _ ht).1 n (fun j => .int (f j))) (j := i) (by show (i < 0 ∨ (arrV _ _ _).slots.size ≤ _); rw [arrV_size]; exact Classical.byContradiction hout) (g := F0 m pc ls (.int x :: .int i :: .ref a :: rest)) rfl (rest := rest) rfl (by rw [hb]; exact hdg) t
  simp only [arrV_size] at h1
  exact h1 st
theorem vx_caldZ {D : va_G} {cl : List vw_C} {ws : va_W} {tys : List (ClassId × FieldType)} {a : Nat} (hexec : p.tables.exec = Jvm.exec) (hb : c.code = cc) (hK : va_K D cl tys s) (hP : va_P D cl ws H) (q0 t0 : Nat) {cA : ClassId} {n : Nat} {f : Nat → Int32} (ha : ws[q0]? = some (a, .inl (cA, n, .inl f))) (ht : tys[t0]? = some (cA, .char)) {i : Int32} (hout : ¬ vp_in i n) (hdg : decode cc pc = .ok (.caload, 1))
    (k : ∀ tx : String, tx = (toString "Index " ++ toString i ++ toString " out of bounds for length " ++ toString n : String) → vx_Note p l e R s m args below meth c H locs cells slots Q (F0 m pc ls rest) "java/lang/ArrayIndexOutOfBoundsException" tx) : W p l e R s m args below meth c H locs cells slots Q (F0 m pc ls (.int i :: .ref a :: rest)) := by
  intro T hT X
  obtain ⟨t, st, q⟩ := k _ rfl T hT X
  refine ⟨t, ?_, q⟩
  have h1 := X.caloadOut hexec (by rw [hT]; exact hP q0 _ ha) ((hK.2 t0 _ ht).1 n (fun j => .int (f j))) (j := i) (by show (i < 0 ∨ (arrV _ _ _).slots.size ≤ _); rw [arrV_size]; exact Classical.byContradiction hout) (g := F0 m pc ls (.int i :: .ref a :: rest)) rfl (rest := rest) rfl (by rw [hb]; exact hdg) t
  simp only [arrV_size] at h1
  exact h1 st
theorem vx_castZ {D : va_G} {cl : List vw_C} {ws : va_W} {tys : List (ClassId × FieldType)} {a : Nat} (hexec : p.tables.exec = Jvm.exec) (hb : c.code = cc) (hK : va_K D cl tys s) (hP : va_P D cl ws H) (q0 t0 : Nat) {cA : ClassId} {n : Nat} {f : Nat → Int32} (ha : ws[q0]? = some (a, .inl (cA, n, .inl f))) (ht : tys[t0]? = some (cA, .char)) {i : Int32} {x : Int32} (hout : ¬ vp_in i n) (hdg : decode cc pc = .ok (.castore, 1))
    (k : ∀ tx : String, tx = (toString "Index " ++ toString i ++ toString " out of bounds for length " ++ toString n : String) → vx_Note p l e R s m args below meth c H locs cells slots Q (F0 m pc ls rest) "java/lang/ArrayIndexOutOfBoundsException" tx) : W p l e R s m args below meth c H locs cells slots Q (F0 m pc ls (.int x :: .int i :: .ref a :: rest)) := by
  intro T hT X
  obtain ⟨t, st, q⟩ := k _ rfl T hT X
  refine ⟨t, ?_, q⟩
  have h1 := X.castoreOut hexec (by rw [hT]; exact hP q0 _ ha) ((hK.2 t0 _ ht).1 n (fun j => .int (f j))) (j := i) (by show (i < 0 ∨ (arrV _ _ _).slots.size ≤ _); rw [arrV_size]; exact Classical.byContradiction hout) (g := F0 m pc ls (.int x :: .int i :: .ref a :: rest)) rfl (rest := rest) rfl (by rw [hb]; exact hdg) t
  simp only [arrV_size] at h1
  exact h1 st
theorem vx_saldZ {D : va_G} {cl : List vw_C} {ws : va_W} {tys : List (ClassId × FieldType)} {a : Nat} (hexec : p.tables.exec = Jvm.exec) (hb : c.code = cc) (hK : va_K D cl tys s) (hP : va_P D cl ws H) (q0 t0 : Nat) {cA : ClassId} {n : Nat} {f : Nat → Int32} (ha : ws[q0]? = some (a, .inl (cA, n, .inl f))) (ht : tys[t0]? = some (cA, .short)) {i : Int32} (hout : ¬ vp_in i n) (hdg : decode cc pc = .ok (.saload, 1))
    (k : ∀ tx : String, tx = (toString "Index " ++ toString i ++ toString " out of bounds for length " ++ toString n : String) → vx_Note p l e R s m args below meth c H locs cells slots Q (F0 m pc ls rest) "java/lang/ArrayIndexOutOfBoundsException" tx) : W p l e R s m args below meth c H locs cells slots Q (F0 m pc ls (.int i :: .ref a :: rest)) := by
  intro T hT X
  obtain ⟨t, st, q⟩ := k _ rfl T hT X
  refine ⟨t, ?_, q⟩
  have h1 := X.saloadOut hexec (by rw [hT]; exact hP q0 _ ha) ((hK.2 t0 _ ht).1 n (fun j => .int (f j))) (j := i) (by show (i < 0 ∨ (arrV _ _ _).slots.size ≤ _); rw [arrV_size]; exact Classical.byContradiction hout) (g := F0 m pc ls (.int i :: .ref a :: rest)) rfl (rest := rest) rfl (by rw [hb]; exact hdg) t
  simp only [arrV_size] at h1
  exact h1 st
theorem vx_sastZ {D : va_G} {cl : List vw_C} {ws : va_W} {tys : List (ClassId × FieldType)} {a : Nat} (hexec : p.tables.exec = Jvm.exec) (hb : c.code = cc) (hK : va_K D cl tys s) (hP : va_P D cl ws H) (q0 t0 : Nat) {cA : ClassId} {n : Nat} {f : Nat → Int32} (ha : ws[q0]? = some (a, .inl (cA, n, .inl f))) (ht : tys[t0]? = some (cA, .short)) {i : Int32} {x : Int32} (hout : ¬ vp_in i n) (hdg : decode cc pc = .ok (.sastore, 1))
    (k : ∀ tx : String, tx = (toString "Index " ++ toString i ++ toString " out of bounds for length " ++ toString n : String) → vx_Note p l e R s m args below meth c H locs cells slots Q (F0 m pc ls rest) "java/lang/ArrayIndexOutOfBoundsException" tx) : W p l e R s m args below meth c H locs cells slots Q (F0 m pc ls (.int x :: .int i :: .ref a :: rest)) := by
  intro T hT X
  obtain ⟨t, st, q⟩ := k _ rfl T hT X
  refine ⟨t, ?_, q⟩
  have h1 := X.sastoreOut hexec (by rw [hT]; exact hP q0 _ ha) ((hK.2 t0 _ ht).1 n (fun j => .int (f j))) (j := i) (by show (i < 0 ∨ (arrV _ _ _).slots.size ≤ _); rw [arrV_size]; exact Classical.byContradiction hout) (g := F0 m pc ls (.int x :: .int i :: .ref a :: rest)) rfl (rest := rest) rfl (by rw [hb]; exact hdg) t
  simp only [arrV_size] at h1
  exact h1 st
theorem vx_laldZ {D : va_G} {cl : List vw_C} {ws : va_W} {tys : List (ClassId × FieldType)} {a : Nat} (hexec : p.tables.exec = Jvm.exec) (hb : c.code = cc) (hK : va_K D cl tys s) (hP : va_P D cl ws H) (q0 t0 : Nat) {cA : ClassId} {n : Nat} {f : Nat → Int64} (ha : ws[q0]? = some (a, .inl (cA, n, .inr (.inl f)))) (ht : tys[t0]? = some (cA, .long)) {i : Int32} (hout : ¬ vp_in i n) (hdg : decode cc pc = .ok (.laload, 1))
    (k : ∀ tx : String, tx = (toString "Index " ++ toString i ++ toString " out of bounds for length " ++ toString n : String) → vx_Note p l e R s m args below meth c H locs cells slots Q (F0 m pc ls rest) "java/lang/ArrayIndexOutOfBoundsException" tx) : W p l e R s m args below meth c H locs cells slots Q (F0 m pc ls (.int i :: .ref a :: rest)) := by
  intro T hT X
  obtain ⟨t, st, q⟩ := k _ rfl T hT X
  refine ⟨t, ?_, q⟩
  have h1 := X.laloadOut hexec (by rw [hT]; exact hP q0 _ ha) ((hK.2 t0 _ ht).1 n (fun j => .long (f j))) (j := i) (by show (i < 0 ∨ (arrV _ _ _).slots.size ≤ _); rw [arrV_size]; exact Classical.byContradiction hout) (g := F0 m pc ls (.int i :: .ref a :: rest)) rfl (rest := rest) rfl (by rw [hb]; exact hdg) t
  simp only [arrV_size] at h1
  exact h1 st
theorem vx_lastZ {D : va_G} {cl : List vw_C} {ws : va_W} {tys : List (ClassId × FieldType)} {a : Nat} (hexec : p.tables.exec = Jvm.exec) (hb : c.code = cc) (hK : va_K D cl tys s) (hP : va_P D cl ws H) (q0 t0 : Nat) {cA : ClassId} {n : Nat} {f : Nat → Int64} (ha : ws[q0]? = some (a, .inl (cA, n, .inr (.inl f)))) (ht : tys[t0]? = some (cA, .long)) {i : Int32} {x : Int64} (hout : ¬ vp_in i n) (hdg : decode cc pc = .ok (.lastore, 1))
    (k : ∀ tx : String, tx = (toString "Index " ++ toString i ++ toString " out of bounds for length " ++ toString n : String) → vx_Note p l e R s m args below meth c H locs cells slots Q (F0 m pc ls rest) "java/lang/ArrayIndexOutOfBoundsException" tx) : W p l e R s m args below meth c H locs cells slots Q (F0 m pc ls (.long x :: .int i :: .ref a :: rest)) := by
  intro T hT X
  obtain ⟨t, st, q⟩ := k _ rfl T hT X
  refine ⟨t, ?_, q⟩
  have h1 := X.lastoreOut hexec (by rw [hT]; exact hP q0 _ ha) ((hK.2 t0 _ ht).1 n (fun j => .long (f j))) (j := i) (by show (i < 0 ∨ (arrV _ _ _).slots.size ≤ _); rw [arrV_size]; exact Classical.byContradiction hout) (g := F0 m pc ls (.long x :: .int i :: .ref a :: rest)) rfl (rest := rest) rfl (by rw [hb]; exact hdg) t
  simp only [arrV_size] at h1
  exact h1 st
theorem vx_faldZ {D : va_G} {cl : List vw_C} {ws : va_W} {tys : List (ClassId × FieldType)} {a : Nat} (hexec : p.tables.exec = Jvm.exec) (hb : c.code = cc) (hK : va_K D cl tys s) (hP : va_P D cl ws H) (q0 t0 : Nat) {cA : ClassId} {n : Nat} {f : Nat → UInt32} (ha : ws[q0]? = some (a, .inl (cA, n, .inr (.inr (.inl f))))) (ht : tys[t0]? = some (cA, .float)) {i : Int32} (hout : ¬ vp_in i n) (hdg : decode cc pc = .ok (.faload, 1))
    (k : ∀ tx : String, tx = (toString "Index " ++ toString i ++ toString " out of bounds for length " ++ toString n : String) → vx_Note p l e R s m args below meth c H locs cells slots Q (F0 m pc ls rest) "java/lang/ArrayIndexOutOfBoundsException" tx) : W p l e R s m args below meth c H locs cells slots Q (F0 m pc ls (.int i :: .ref a :: rest)) := by
  intro T hT X
  obtain ⟨t, st, q⟩ := k _ rfl T hT X
  refine ⟨t, ?_, q⟩
  have h1 := X.faloadOut hexec (by rw [hT]; exact hP q0 _ ha) ((hK.2 t0 _ ht).1 n (fun j => .float (f j))) (j := i) (by show (i < 0 ∨ (arrV _ _ _).slots.size ≤ _); rw [arrV_size]; exact Classical.byContradiction hout) (g := F0 m pc ls (.int i :: .ref a :: rest)) rfl (rest := rest) rfl (by rw [hb]; exact hdg) t
  simp only [arrV_size] at h1
  exact h1 st
theorem vx_fastZ {D : va_G} {cl : List vw_C} {ws : va_W} {tys : List (ClassId × FieldType)} {a : Nat} (hexec : p.tables.exec = Jvm.exec) (hb : c.code = cc) (hK : va_K D cl tys s) (hP : va_P D cl ws H) (q0 t0 : Nat) {cA : ClassId} {n : Nat} {f : Nat → UInt32} (ha : ws[q0]? = some (a, .inl (cA, n, .inr (.inr (.inl f))))) (ht : tys[t0]? = some (cA, .float)) {i : Int32} {x : UInt32} (hout : ¬ vp_in i n) (hdg : decode cc pc = .ok (.fastore, 1))
    (k : ∀ tx : String, tx = (toString "Index " ++ toString i ++ toString " out of bounds for length " ++ toString n : String) → vx_Note p l e R s m args below meth c H locs cells slots Q (F0 m pc ls rest) "java/lang/ArrayIndexOutOfBoundsException" tx) : W p l e R s m args below meth c H locs cells slots Q (F0 m pc ls (.float x :: .int i :: .ref a :: rest)) := by
  intro T hT X
  obtain ⟨t, st, q⟩ := k _ rfl T hT X
  refine ⟨t, ?_, q⟩
  have h1 := X.fastoreOut hexec (by rw [hT]; exact hP q0 _ ha) ((hK.2 t0 _ ht).1 n (fun j => .float (f j))) (j := i) (by show (i < 0 ∨ (arrV _ _ _).slots.size ≤ _); rw [arrV_size]; exact Classical.byContradiction hout) (g := F0 m pc ls (.float x :: .int i :: .ref a :: rest)) rfl (rest := rest) rfl (by rw [hb]; exact hdg) t
  simp only [arrV_size] at h1
  exact h1 st
theorem vx_daldZ {D : va_G} {cl : List vw_C} {ws : va_W} {tys : List (ClassId × FieldType)} {a : Nat} (hexec : p.tables.exec = Jvm.exec) (hb : c.code = cc) (hK : va_K D cl tys s) (hP : va_P D cl ws H) (q0 t0 : Nat) {cA : ClassId} {n : Nat} {f : Nat → UInt64} (ha : ws[q0]? = some (a, .inl (cA, n, .inr (.inr (.inr (.inl f)))))) (ht : tys[t0]? = some (cA, .double)) {i : Int32} (hout : ¬ vp_in i n) (hdg : decode cc pc = .ok (.daload, 1))
    (k : ∀ tx : String, tx = (toString "Index " ++ toString i ++ toString " out of bounds for length " ++ toString n : String) → vx_Note p l e R s m args below meth c H locs cells slots Q (F0 m pc ls rest) "java/lang/ArrayIndexOutOfBoundsException" tx) : W p l e R s m args below meth c H locs cells slots Q (F0 m pc ls (.int i :: .ref a :: rest)) := by
  intro T hT X
  obtain ⟨t, st, q⟩ := k _ rfl T hT X
  refine ⟨t, ?_, q⟩
  have h1 := X.daloadOut hexec (by rw [hT]; exact hP q0 _ ha) ((hK.2 t0 _ ht).1 n (fun j => .double (f j))) (j := i) (by show (i < 0 ∨ (arrV _ _ _).slots.size ≤ _); rw [arrV_size]; exact Classical.byContradiction hout) (g := F0 m pc ls (.int i :: .ref a :: rest)) rfl (rest := rest) rfl (by rw [hb]; exact hdg) t
  simp only [arrV_size] at h1
  exact h1 st
theorem vx_dastZ {D : va_G} {cl : List vw_C} {ws : va_W} {tys : List (ClassId × FieldType)} {a : Nat} (hexec : p.tables.exec = Jvm.exec) (hb : c.code = cc) (hK : va_K D cl tys s) (hP : va_P D cl ws H) (q0 t0 : Nat) {cA : ClassId} {n : Nat} {f : Nat → UInt64} (ha : ws[q0]? = some (a, .inl (cA, n, .inr (.inr (.inr (.inl f)))))) (ht : tys[t0]? = some (cA, .double)) {i : Int32} {x : UInt64} (hout : ¬ vp_in i n) (hdg : decode cc pc = .ok (.dastore, 1))
    (k : ∀ tx : String, tx = (toString "Index " ++ toString i ++ toString " out of bounds for length " ++ toString n : String) → vx_Note p l e R s m args below meth c H locs cells slots Q (F0 m pc ls rest) "java/lang/ArrayIndexOutOfBoundsException" tx) : W p l e R s m args below meth c H locs cells slots Q (F0 m pc ls (.double x :: .int i :: .ref a :: rest)) := by
  intro T hT X
  obtain ⟨t, st, q⟩ := k _ rfl T hT X
  refine ⟨t, ?_, q⟩
  have h1 := X.dastoreOut hexec (by rw [hT]; exact hP q0 _ ha) ((hK.2 t0 _ ht).1 n (fun j => .double (f j))) (j := i) (by show (i < 0 ∨ (arrV _ _ _).slots.size ≤ _); rw [arrV_size]; exact Classical.byContradiction hout) (g := F0 m pc ls (.double x :: .int i :: .ref a :: rest)) rfl (rest := rest) rfl (by rw [hb]; exact hdg) t
  simp only [arrV_size] at h1
  exact h1 st
theorem vx_arraylengthN (hexec : p.tables.exec = Jvm.exec) (hb : c.code = cc) (hdg : decode cc pc = .ok (.arraylength, 1)) (k : vx_NoteN p l e R s m args below meth c H locs cells slots Q (F0 m pc ls rest)) : W p l e R s m args below meth c H locs cells slots Q (F0 m pc ls (.null :: rest)) := by
  intro T hT X
  obtain ⟨t, st, q⟩ := k T hT X
  exact ⟨t, X.arraylengthNull hexec (g := F0 m pc ls (.null :: rest)) rfl (rest := rest) rfl (by rw [hb]; exact hdg) t st, q⟩
theorem vx_ialoadN (hexec : p.tables.exec = Jvm.exec) (hb : c.code = cc) {i : Int32} (hdg : decode cc pc = .ok (.iaload, 1)) (k : vx_NoteN p l e R s m args below meth c H locs cells slots Q (F0 m pc ls rest)) : W p l e R s m args below meth c H locs cells slots Q (F0 m pc ls (.int i :: .null :: rest)) := by
  intro T hT X
  obtain ⟨t, st, q⟩ := k T hT X
  exact ⟨t, X.ialoadNull hexec (g := F0 m pc ls (.int i :: .null :: rest)) rfl (rest := rest) rfl (by rw [hb]; exact hdg) t st, q⟩
theorem vx_laloadN (hexec : p.tables.exec = Jvm.exec) (hb : c.code = cc) {i : Int32} (hdg : decode cc pc = .ok (.laload, 1)) (k : vx_NoteN p l e R s m args below meth c H locs cells slots Q (F0 m pc ls rest)) : W p l e R s m args below meth c H locs cells slots Q (F0 m pc ls (.int i :: .null :: rest)) := by
  intro T hT X
  obtain ⟨t, st, q⟩ := k T hT X
  exact ⟨t, X.laloadNull hexec (g := F0 m pc ls (.int i :: .null :: rest)) rfl (rest := rest) rfl (by rw [hb]; exact hdg) t st, q⟩
theorem vx_faloadN (hexec : p.tables.exec = Jvm.exec) (hb : c.code = cc) {i : Int32} (hdg : decode cc pc = .ok (.faload, 1)) (k : vx_NoteN p l e R s m args below meth c H locs cells slots Q (F0 m pc ls rest)) : W p l e R s m args below meth c H locs cells slots Q (F0 m pc ls (.int i :: .null :: rest)) := by
  intro T hT X
  obtain ⟨t, st, q⟩ := k T hT X
  exact ⟨t, X.faloadNull hexec (g := F0 m pc ls (.int i :: .null :: rest)) rfl (rest := rest) rfl (by rw [hb]; exact hdg) t st, q⟩
theorem vx_daloadN (hexec : p.tables.exec = Jvm.exec) (hb : c.code = cc) {i : Int32} (hdg : decode cc pc = .ok (.daload, 1)) (k : vx_NoteN p l e R s m args below meth c H locs cells slots Q (F0 m pc ls rest)) : W p l e R s m args below meth c H locs cells slots Q (F0 m pc ls (.int i :: .null :: rest)) := by
  intro T hT X
  obtain ⟨t, st, q⟩ := k T hT X
  exact ⟨t, X.daloadNull hexec (g := F0 m pc ls (.int i :: .null :: rest)) rfl (rest := rest) rfl (by rw [hb]; exact hdg) t st, q⟩
theorem vx_aaloadN (hexec : p.tables.exec = Jvm.exec) (hb : c.code = cc) {i : Int32} (hdg : decode cc pc = .ok (.aaload, 1)) (k : vx_NoteN p l e R s m args below meth c H locs cells slots Q (F0 m pc ls rest)) : W p l e R s m args below meth c H locs cells slots Q (F0 m pc ls (.int i :: .null :: rest)) := by
  intro T hT X
  obtain ⟨t, st, q⟩ := k T hT X
  exact ⟨t, X.aaloadNull hexec (g := F0 m pc ls (.int i :: .null :: rest)) rfl (rest := rest) rfl (by rw [hb]; exact hdg) t st, q⟩
theorem vx_baloadN (hexec : p.tables.exec = Jvm.exec) (hb : c.code = cc) {i : Int32} (hdg : decode cc pc = .ok (.baload, 1)) (k : vx_NoteN p l e R s m args below meth c H locs cells slots Q (F0 m pc ls rest)) : W p l e R s m args below meth c H locs cells slots Q (F0 m pc ls (.int i :: .null :: rest)) := by
  intro T hT X
  obtain ⟨t, st, q⟩ := k T hT X
  exact ⟨t, X.baloadNull hexec (g := F0 m pc ls (.int i :: .null :: rest)) rfl (rest := rest) rfl (by rw [hb]; exact hdg) t st, q⟩
theorem vx_caloadN (hexec : p.tables.exec = Jvm.exec) (hb : c.code = cc) {i : Int32} (hdg : decode cc pc = .ok (.caload, 1)) (k : vx_NoteN p l e R s m args below meth c H locs cells slots Q (F0 m pc ls rest)) : W p l e R s m args below meth c H locs cells slots Q (F0 m pc ls (.int i :: .null :: rest)) := by
  intro T hT X
  obtain ⟨t, st, q⟩ := k T hT X
  exact ⟨t, X.caloadNull hexec (g := F0 m pc ls (.int i :: .null :: rest)) rfl (rest := rest) rfl (by rw [hb]; exact hdg) t st, q⟩
theorem vx_saloadN (hexec : p.tables.exec = Jvm.exec) (hb : c.code = cc) {i : Int32} (hdg : decode cc pc = .ok (.saload, 1)) (k : vx_NoteN p l e R s m args below meth c H locs cells slots Q (F0 m pc ls rest)) : W p l e R s m args below meth c H locs cells slots Q (F0 m pc ls (.int i :: .null :: rest)) := by
  intro T hT X
  obtain ⟨t, st, q⟩ := k T hT X
  exact ⟨t, X.saloadNull hexec (g := F0 m pc ls (.int i :: .null :: rest)) rfl (rest := rest) rfl (by rw [hb]; exact hdg) t st, q⟩
theorem vx_iastoreN (hexec : p.tables.exec = Jvm.exec) (hb : c.code = cc) {x : Int32} {i : Int32} (hdg : decode cc pc = .ok (.iastore, 1)) (k : vx_NoteN p l e R s m args below meth c H locs cells slots Q (F0 m pc ls rest)) : W p l e R s m args below meth c H locs cells slots Q (F0 m pc ls (.int x :: .int i :: .null :: rest)) := by
  intro T hT X
  obtain ⟨t, st, q⟩ := k T hT X
  exact ⟨t, X.iastoreNull hexec (g := F0 m pc ls (.int x :: .int i :: .null :: rest)) rfl (rest := rest) rfl (by rw [hb]; exact hdg) t st, q⟩
theorem vx_lastoreN (hexec : p.tables.exec = Jvm.exec) (hb : c.code = cc) {x : Int64} {i : Int32} (hdg : decode cc pc = .ok (.lastore, 1)) (k : vx_NoteN p l e R s m args below meth c H locs cells slots Q (F0 m pc ls rest)) : W p l e R s m args below meth c H locs cells slots Q (F0 m pc ls (.long x :: .int i :: .null :: rest)) := by
  intro T hT X
  obtain ⟨t, st, q⟩ := k T hT X
  exact ⟨t, X.lastoreNull hexec (g := F0 m pc ls (.long x :: .int i :: .null :: rest)) rfl (rest := rest) rfl (by rw [hb]; exact hdg) t st, q⟩
theorem vx_fastoreN (hexec : p.tables.exec = Jvm.exec) (hb : c.code = cc) {x : UInt32} {i : Int32} (hdg : decode cc pc = .ok (.fastore, 1)) (k : vx_NoteN p l e R s m args below meth c H locs cells slots Q (F0 m pc ls rest)) : W p l e R s m args below meth c H locs cells slots Q (F0 m pc ls (.float x :: .int i :: .null :: rest)) := by
  intro T hT X
  obtain ⟨t, st, q⟩ := k T hT X
  exact ⟨t, X.fastoreNull hexec (g := F0 m pc ls (.float x :: .int i :: .null :: rest)) rfl (rest := rest) rfl (by rw [hb]; exact hdg) t st, q⟩
theorem vx_dastoreN (hexec : p.tables.exec = Jvm.exec) (hb : c.code = cc) {x : UInt64} {i : Int32} (hdg : decode cc pc = .ok (.dastore, 1)) (k : vx_NoteN p l e R s m args below meth c H locs cells slots Q (F0 m pc ls rest)) : W p l e R s m args below meth c H locs cells slots Q (F0 m pc ls (.double x :: .int i :: .null :: rest)) := by
  intro T hT X
  obtain ⟨t, st, q⟩ := k T hT X
  exact ⟨t, X.dastoreNull hexec (g := F0 m pc ls (.double x :: .int i :: .null :: rest)) rfl (rest := rest) rfl (by rw [hb]; exact hdg) t st, q⟩
theorem vx_bastoreN (hexec : p.tables.exec = Jvm.exec) (hb : c.code = cc) {x : Int32} {i : Int32} (hdg : decode cc pc = .ok (.bastore, 1)) (k : vx_NoteN p l e R s m args below meth c H locs cells slots Q (F0 m pc ls rest)) : W p l e R s m args below meth c H locs cells slots Q (F0 m pc ls (.int x :: .int i :: .null :: rest)) := by
  intro T hT X
  obtain ⟨t, st, q⟩ := k T hT X
  exact ⟨t, X.bastoreNull hexec (g := F0 m pc ls (.int x :: .int i :: .null :: rest)) rfl (rest := rest) rfl (by rw [hb]; exact hdg) t st, q⟩
theorem vx_castoreN (hexec : p.tables.exec = Jvm.exec) (hb : c.code = cc) {x : Int32} {i : Int32} (hdg : decode cc pc = .ok (.castore, 1)) (k : vx_NoteN p l e R s m args below meth c H locs cells slots Q (F0 m pc ls rest)) : W p l e R s m args below meth c H locs cells slots Q (F0 m pc ls (.int x :: .int i :: .null :: rest)) := by
  intro T hT X
  obtain ⟨t, st, q⟩ := k T hT X
  exact ⟨t, X.castoreNull hexec (g := F0 m pc ls (.int x :: .int i :: .null :: rest)) rfl (rest := rest) rfl (by rw [hb]; exact hdg) t st, q⟩
theorem vx_sastoreN (hexec : p.tables.exec = Jvm.exec) (hb : c.code = cc) {x : Int32} {i : Int32} (hdg : decode cc pc = .ok (.sastore, 1)) (k : vx_NoteN p l e R s m args below meth c H locs cells slots Q (F0 m pc ls rest)) : W p l e R s m args below meth c H locs cells slots Q (F0 m pc ls (.int x :: .int i :: .null :: rest)) := by
  intro T hT X
  obtain ⟨t, st, q⟩ := k T hT X
  exact ⟨t, X.sastoreNull hexec (g := F0 m pc ls (.int x :: .int i :: .null :: rest)) rfl (rest := rest) rfl (by rw [hb]; exact hdg) t st, q⟩
theorem vx_invokeN {own C : String} {index maxL : Nat} {y : MethodName} {bytes : ByteArray} {ret : Option FieldType} (hexec : p.tables.exec = Jvm.exec) (hb : c.code = cc) (hown : s.vm.findClass own = some m.cls) (hlink : (Cond.methodLink own index y).before args s = true) (hinst : (Cond.instanceMethod y).before args s = true) (hcode : (Cond.code y bytes maxL ret).before args s = true) (hsel : (Cond.selects C y y).before args s = true)
    (hx : y.cls ≠ "java/lang/invoke/MethodHandle" ∧ y.cls ≠ "java/lang/invoke/VarHandle") {As : List Value} (hlen : (parseMethodDescriptor y.desc).map (fun d => d.parameters.length) = some As.length) (hdg : decode cc pc = .ok (.invokevirtual index, 3))
    (k : vx_NoteN p l e R s m args below meth c H locs cells slots Q (F0 m pc ls rest)) {st0 : List Value} (hst : st0 = As.reverse ++ .null :: rest) : W p l e R s m args below meth c H locs cells slots Q (F0 m pc ls st0) := by
  intro T hT X
  obtain ⟨r0, r, hn, hrm, hstR, hsigR⟩ := va_Decl.of hinst hcode
  obtain ⟨c2, r2, m2, q1, q2, q3, q4, kP, hkP, hkPi⟩ := Cond.selects_spec hsel
  cases hn.symm.trans q3
  have hl9 : As.length = r.sig.parameters.length := by
    rw [hsigR] at hlen
    exact (Option.some.inj hlen).symm
  obtain ⟨vm', X1, st1⟩ := X.invokevirtualNull hexec hown hlink hn hrm hstR hkP hkPi hx (g := F0 m pc ls st0) rfl (argsL := As) (rest := rest) hl9 hst (by rw [hb]; exact hdg)
  obtain ⟨t, st, q⟩ := k (T.setVm vm') hT X1
  exact ⟨t, st1 t st, q⟩
theorem vx_newarrayZ {atype : ArrayType} (hexec : p.tables.exec = Jvm.exec) (hb : c.code = cc) {n : Int32} (h0 : n < 0) (hdg : decode cc pc = .ok (.newarray atype, 2)) (k : ∀ tx : String, tx = toString n → vx_Note p l e R s m args below meth c H locs cells slots Q (F0 m pc ls rest) "java/lang/NegativeArraySizeException" tx) : W p l e R s m args below meth c H locs cells slots Q (F0 m pc ls (.int n :: rest)) := by
  intro T hT X
  obtain ⟨t, st, q⟩ := k _ rfl T hT X
  exact ⟨t, X.newarrayNegative hexec (g := F0 m pc ls (.int n :: rest)) rfl h0 (rest := rest) rfl (by rw [hb]; exact hdg) t st, q⟩
end
end VXM
/-! ===== END ===== -/


def RX0 : String := "GalleonWave$Anchor"
def TX0 : u_T := fun k => match k with
  | 0 => ("GalleonWave$Anchor", "east", "I", false)
  | 1 => ("GalleonWave$Anchor", "north", "I", false)
  | 2 => ("GalleonWave$Anchor", "isDown", "Z", false)
  | 3 => ("GalleonWave$Anchor", "holds", "I", false)
  | _ => ("GalleonWave$Anchor", "dropHour", "I", false)
def tyX0 : Nat → FieldType := fun k => match k with
  | 0 => .int
  | 1 => .int
  | 2 => .boolean
  | 3 => .int
  | _ => .int
theorem nmX0 : ∀ a, a < 5 → ∀ b, b < 5 → a ≠ b → (TX0 a).2.1 ≠ (TX0 b).2.1 := by decide +kernel
theorem tyX0_ok : ∀ k, k < 5 → parseFieldDescriptor (TX0 k).2.2.1 = some (tyX0 k) := by decide +kernel
abbrev cX0_init : ByteArray := prog_2_method_1_code
def yX0_init : MethodName := ⟨RX0, "<init>", "(II)V"⟩
abbrev cX0_drop : ByteArray := prog_2_method_2_code
def yX0_drop : MethodName := ⟨RX0, "drop", "(IIII)V"⟩
def RX1 : String := "GalleonWave$Archive"
def TX1 : u_T := fun k => match k with
  | 0 => ("GalleonWave$Archive", "kept", "LGalleonWave$Kept;", true)
  | 1 => ("GalleonWave$Archive", "recordings", "Ljava/util/ArrayList;", true)
  | 2 => ("GalleonWave$Archive", "best", "[I", true)
  | 3 => ("GalleonWave$Archive", "needs", "[I", true)
  | 4 => ("GalleonWave$Archive", "fits", "[Z", true)
  | 5 => ("GalleonWave$Archive", "order", "[I", true)
  | 6 => ("GalleonWave$Archive", "places", "[I", true)
  | _ => ("GalleonWave$Archive", "toldAhead", "I", false)
def tyX1 : Nat → FieldType := fun k => match k with
  | 0 => .object "GalleonWave$Kept"
  | 1 => .object "java/util/ArrayList"
  | 2 => .array .int
  | 3 => .array .int
  | 4 => .array .boolean
  | 5 => .array .int
  | 6 => .array .int
  | _ => .int
theorem nmX1 : ∀ a, a < 8 → ∀ b, b < 8 → a ≠ b → (TX1 a).2.1 ≠ (TX1 b).2.1 := by decide +kernel
theorem tyX1_ok : ∀ k, k < 8 → parseFieldDescriptor (TX1 k).2.2.1 = some (tyX1 k) := by decide +kernel
abbrev cX1_init : ByteArray := prog_3_method_1_code
def yX1_init : MethodName := ⟨RX1, "<init>", "()V"⟩
abbrev cX1_allRecordings : ByteArray := prog_3_method_2_code
def yX1_allRecordings : MethodName := ⟨RX1, "allRecordings", "()I"⟩
abbrev cX1_aheadOf : ByteArray := prog_3_method_3_code
def yX1_aheadOf : MethodName := ⟨RX1, "aheadOf", "(I)I"⟩
abbrev cX1_isToldAhead : ByteArray := prog_3_method_4_code
def yX1_isToldAhead : MethodName := ⟨RX1, "isToldAhead", "(II)Z"⟩
abbrev cX1_isBehind : ByteArray := prog_3_method_5_code
def yX1_isBehind : MethodName := ⟨RX1, "isBehind", "(II)Z"⟩
abbrev cX1_needsOf : ByteArray := prog_3_method_6_code
def yX1_needsOf : MethodName := ⟨RX1, "needsOf", "(I)I"⟩
abbrev cX1_tellAhead : ByteArray := prog_3_method_7_code
def yX1_tellAhead : MethodName := ⟨RX1, "tellAhead", "(II)I"⟩
abbrev cX1_dateOf : ByteArray := prog_3_method_8_code
def yX1_dateOf : MethodName := ⟨RX1, "dateOf", "(IZ)I"⟩
abbrev cX1_clearFits : ByteArray := prog_3_method_9_code
def yX1_clearFits : MethodName := ⟨RX1, "clearFits", "(I)V"⟩
abbrev cX1_fitKeptHour : ByteArray := prog_3_method_10_code
def yX1_fitKeptHour : MethodName := ⟨RX1, "fitKeptHour", "(II)V"⟩
abbrev cX1_addEachLike : ByteArray := prog_3_method_11_code
def yX1_addEachLike : MethodName := ⟨RX1, "addEachLike", "(II)V"⟩
abbrev cX1_setLike : ByteArray := prog_3_method_12_code
def yX1_setLike : MethodName := ⟨RX1, "setLike", "(I)I"⟩
abbrev cX1_growDatings : ByteArray := prog_3_method_13_code
def yX1_growDatings : MethodName := ⟨RX1, "growDatings", "(IIZI)V"⟩
abbrev cX1_growDating : ByteArray := prog_3_method_14_code
def yX1_growDating : MethodName := ⟨RX1, "growDating", "(IIIZI)V"⟩
abbrev cX1_better : ByteArray := prog_3_method_15_code
def yX1_better : MethodName := ⟨RX1, "better", "(IIZ)I"⟩
abbrev cX1_areDatesAsOrdersTell : ByteArray := prog_3_method_16_code
def yX1_areDatesAsOrdersTell : MethodName := ⟨RX1, "areDatesAsOrdersTell", "()Z"⟩
abbrev cX1_dateByOrders : ByteArray := prog_3_method_17_code
def yX1_dateByOrders : MethodName := ⟨RX1, "dateByOrders", "(IZ)I"⟩
abbrev cX1_readOrder : ByteArray := prog_3_method_18_code
def yX1_readOrder : MethodName := ⟨RX1, "readOrder", "(II)Z"⟩
abbrev cX1_isOrderAsTold : ByteArray := prog_3_method_19_code
def yX1_isOrderAsTold : MethodName := ⟨RX1, "isOrderAsTold", "(I)Z"⟩
abbrev cX1_isPlaced : ByteArray := prog_3_method_20_code
def yX1_isPlaced : MethodName := ⟨RX1, "isPlaced", "(IZ)Z"⟩
abbrev cX1_canPlace : ByteArray := prog_3_method_21_code
def yX1_canPlace : MethodName := ⟨RX1, "canPlace", "(III)Z"⟩
def RX2 : String := "GalleonWave$Generator"
def TX2 : u_T := fun k => match k with
  | 0 => ("GalleonWave$Generator", "power", "I", true)
  | 1 => ("GalleonWave$Generator", "life", "I", true)
  | 2 => ("GalleonWave$Generator", "isOn", "Z", false)
  | _ => ("GalleonWave$Generator", "ranHours", "I", false)
def tyX2 : Nat → FieldType := fun k => match k with
  | 0 => .int
  | 1 => .int
  | 2 => .boolean
  | _ => .int
theorem nmX2 : ∀ a, a < 4 → ∀ b, b < 4 → a ≠ b → (TX2 a).2.1 ≠ (TX2 b).2.1 := by decide +kernel
theorem tyX2_ok : ∀ k, k < 4 → parseFieldDescriptor (TX2 k).2.2.1 = some (tyX2 k) := by decide +kernel
abbrev cX2_init : ByteArray := prog_4_method_1_code
def yX2_init : MethodName := ⟨RX2, "<init>", "(II)V"⟩
abbrev cX2_canRun : ByteArray := prog_4_method_2_code
def yX2_canRun : MethodName := ⟨RX2, "canRun", "(I)Z"⟩
def RX3 : String := "GalleonWave$Kept"
def TX3 : u_T := fun k => match k with
  | 0 => ("GalleonWave$Kept", "hours", "[I", true)
  | 1 => ("GalleonWave$Kept", "ships", "[I", true)
  | 2 => ("GalleonWave$Kept", "channels", "[I", true)
  | 3 => ("GalleonWave$Kept", "generators", "[I", true)
  | 4 => ("GalleonWave$Kept", "whos", "[I", true)
  | 5 => ("GalleonWave$Kept", "oldest", "I", false)
  | _ => ("GalleonWave$Kept", "count", "I", false)
def tyX3 : Nat → FieldType := fun k => match k with
  | 0 => .array .int
  | 1 => .array .int
  | 2 => .array .int
  | 3 => .array .int
  | 4 => .array .int
  | 5 => .int
  | _ => .int
theorem nmX3 : ∀ a, a < 7 → ∀ b, b < 7 → a ≠ b → (TX3 a).2.1 ≠ (TX3 b).2.1 := by decide +kernel
theorem tyX3_ok : ∀ k, k < 7 → parseFieldDescriptor (TX3 k).2.2.1 = some (tyX3 k) := by decide +kernel
abbrev cX3_init : ByteArray := prog_5_method_1_code
def yX3_init : MethodName := ⟨RX3, "<init>", "()V"⟩
abbrev cX3_slotOf : ByteArray := prog_5_method_2_code
def yX3_slotOf : MethodName := ⟨RX3, "slotOf", "(I)I"⟩
abbrev cX3_keep : ByteArray := prog_5_method_3_code
def yX3_keep : MethodName := ⟨RX3, "keep", "(IIIII)V"⟩
abbrev cX3_hourAt : ByteArray := prog_5_method_4_code
def yX3_hourAt : MethodName := ⟨RX3, "hourAt", "(I)I"⟩
abbrev cX3_endsHour : ByteArray := prog_5_method_5_code
def yX3_endsHour : MethodName := ⟨RX3, "endsHour", "(I)Z"⟩
abbrev cX3_isLike : ByteArray := prog_5_method_6_code
def yX3_isLike : MethodName := ⟨RX3, "isLike", "(LGalleonWave$Recording;I)Z"⟩
abbrev cX3_countLike : ByteArray := prog_5_method_7_code
def yX3_countLike : MethodName := ⟨RX3, "countLike", "(LGalleonWave$Recording;)I"⟩
abbrev cX3_countNights : ByteArray := prog_5_method_8_code
def yX3_countNights : MethodName := ⟨RX3, "countNights", "()I"⟩
def RX4 : String := "GalleonWave$Land"
def TX4 : u_T := fun k => match k with
  | 0 => ("GalleonWave$Land", "east", "I", true)
  | 1 => ("GalleonWave$Land", "north", "I", true)
  | 2 => ("GalleonWave$Land", "shallows", "I", true)
  | 3 => ("GalleonWave$Land", "actHours", "[I", true)
  | 4 => ("GalleonWave$Land", "actLines", "[I", true)
  | 5 => ("GalleonWave$Land", "actBans", "[I", true)
  | 6 => ("GalleonWave$Land", "actCount", "I", false)
  | 7 => ("GalleonWave$Land", "evidence", "I", false)
  | 8 => ("GalleonWave$Land", "fuel", "I", false)
  | 9 => ("GalleonWave$Land", "food", "I", false)
  | _ => ("GalleonWave$Land", "crystal", "I", false)
def tyX4 : Nat → FieldType := fun k => match k with
  | 0 => .int
  | 1 => .int
  | 2 => .int
  | 3 => .array .int
  | 4 => .array .int
  | 5 => .array .int
  | 6 => .int
  | 7 => .int
  | 8 => .int
  | 9 => .int
  | _ => .int
theorem nmX4 : ∀ a, a < 11 → ∀ b, b < 11 → a ≠ b → (TX4 a).2.1 ≠ (TX4 b).2.1 := by decide +kernel
theorem tyX4_ok : ∀ k, k < 11 → parseFieldDescriptor (TX4 k).2.2.1 = some (tyX4 k) := by decide +kernel
abbrev cX4_init : ByteArray := prog_6_method_1_code
def yX4_init : MethodName := ⟨RX4, "<init>", "(III)V"⟩
abbrev cX4_tellAct : ByteArray := prog_6_method_2_code
def yX4_tellAct : MethodName := ⟨RX4, "tellAct", "(III)V"⟩
abbrev cX4_newestAct : ByteArray := prog_6_method_3_code
def yX4_newestAct : MethodName := ⟨RX4, "newestAct", "(I)I"⟩
abbrev cX4_lineAt : ByteArray := prog_6_method_4_code
def yX4_lineAt : MethodName := ⟨RX4, "lineAt", "(I)I"⟩
abbrev cX4_forbids : ByteArray := prog_6_method_5_code
def yX4_forbids : MethodName := ⟨RX4, "forbids", "(II)Z"⟩
abbrev cX4_tenderCost : ByteArray := prog_6_method_6_code
def yX4_tenderCost : MethodName := ⟨RX4, "tenderCost", "()I"⟩
abbrev cX4_unloadTo : ByteArray := prog_6_method_7_code
def yX4_unloadTo : MethodName := ⟨RX4, "unloadTo", "(LGalleonWave$Ship;)V"⟩
def RX5 : String := "GalleonWave$Person"
def TX5 : u_T := fun k => match k with
  | 0 => ("GalleonWave$Person", "land", "I", true)
  | 1 => ("GalleonWave$Person", "isSpeaker", "Z", true)
  | 2 => ("GalleonWave$Person", "aboard", "I", false)
  | 3 => ("GalleonWave$Person", "hoursAboard", "I", false)
  | _ => ("GalleonWave$Person", "booked", "I", false)
def tyX5 : Nat → FieldType := fun k => match k with
  | 0 => .int
  | 1 => .boolean
  | 2 => .int
  | 3 => .int
  | _ => .int
theorem nmX5 : ∀ a, a < 5 → ∀ b, b < 5 → a ≠ b → (TX5 a).2.1 ≠ (TX5 b).2.1 := by decide +kernel
theorem tyX5_ok : ∀ k, k < 5 → parseFieldDescriptor (TX5 k).2.2.1 = some (tyX5 k) := by decide +kernel
abbrev cX5_init : ByteArray := prog_7_method_1_code
def yX5_init : MethodName := ⟨RX5, "<init>", "(IZ)V"⟩
abbrev cX5_isWeary : ByteArray := prog_7_method_2_code
def yX5_isWeary : MethodName := ⟨RX5, "isWeary", "()Z"⟩
abbrev cX5_moveTo : ByteArray := prog_7_method_3_code
def yX5_moveTo : MethodName := ⟨RX5, "moveTo", "(I)V"⟩
def RX6 : String := "GalleonWave$Programme"
def TX6 : u_T := fun k => match k with
  | 0 => ("GalleonWave$Programme", "hours", "[I", true)
  | _ => ("GalleonWave$Programme", "lastTape", "I", false)
def tyX6 : Nat → FieldType := fun k => match k with
  | 0 => .array .int
  | _ => .int
theorem nmX6 : ∀ a, a < 2 → ∀ b, b < 2 → a ≠ b → (TX6 a).2.1 ≠ (TX6 b).2.1 := by decide +kernel
theorem tyX6_ok : ∀ k, k < 2 → parseFieldDescriptor (TX6 k).2.2.1 = some (tyX6 k) := by decide +kernel
abbrev cX6_init : ByteArray := prog_8_method_1_code
def yX6_init : MethodName := ⟨RX6, "<init>", "()V"⟩
abbrev cX6_at : ByteArray := prog_8_method_2_code
def yX6_at : MethodName := ⟨RX6, "at", "(I)I"⟩
abbrev cX6_tell : ByteArray := prog_8_method_3_code
def yX6_tell : MethodName := ⟨RX6, "tell", "(II)I"⟩
abbrev cX6_hasElsewhere : ByteArray := prog_8_method_4_code
def yX6_hasElsewhere : MethodName := ⟨RX6, "hasElsewhere", "(II)Z"⟩
def RX7 : String := "GalleonWave$Recording"
def TX7 : u_T := fun k => match k with
  | 0 => ("GalleonWave$Recording", "channel", "I", true)
  | 1 => ("GalleonWave$Recording", "generators", "I", true)
  | 2 => ("GalleonWave$Recording", "who", "I", true)
  | _ => ("GalleonWave$Recording", "ahead", "I", false)
def tyX7 : Nat → FieldType := fun k => match k with
  | 0 => .int
  | 1 => .int
  | 2 => .int
  | _ => .int
theorem nmX7 : ∀ a, a < 4 → ∀ b, b < 4 → a ≠ b → (TX7 a).2.1 ≠ (TX7 b).2.1 := by decide +kernel
theorem tyX7_ok : ∀ k, k < 4 → parseFieldDescriptor (TX7 k).2.2.1 = some (tyX7 k) := by decide +kernel
abbrev cX7_init : ByteArray := prog_9_method_1_code
def yX7_init : MethodName := ⟨RX7, "<init>", "(III)V"⟩
def RX8 : String := "GalleonWave$Ship"
def TX8 : u_T := fun k => match k with
  | 0 => ("GalleonWave$Ship", "anchor", "LGalleonWave$Anchor;", true)
  | 1 => ("GalleonWave$Ship", "generators", "Ljava/util/ArrayList;", true)
  | 2 => ("GalleonWave$Ship", "programme", "LGalleonWave$Programme;", true)
  | 3 => ("GalleonWave$Ship", "spots", "LGalleonWave$Spots;", true)
  | 4 => ("GalleonWave$Ship", "east", "I", false)
  | 5 => ("GalleonWave$Ship", "north", "I", false)
  | 6 => ("GalleonWave$Ship", "fuel", "I", false)
  | 7 => ("GalleonWave$Ship", "food", "I", false)
  | 8 => ("GalleonWave$Ship", "salt", "I", false)
  | 9 => ("GalleonWave$Ship", "power", "I", false)
  | 10 => ("GalleonWave$Ship", "channel", "I", false)
  | 11 => ("GalleonWave$Ship", "ranBits", "I", false)
  | 12 => ("GalleonWave$Ship", "wasOnAir", "Z", false)
  | 13 => ("GalleonWave$Ship", "listeners", "I", false)
  | 14 => ("GalleonWave$Ship", "speaker", "I", false)
  | 15 => ("GalleonWave$Ship", "hungryHours", "I", false)
  | _ => ("GalleonWave$Ship", "isMutinous", "Z", false)
def tyX8 : Nat → FieldType := fun k => match k with
  | 0 => .object "GalleonWave$Anchor"
  | 1 => .object "java/util/ArrayList"
  | 2 => .object "GalleonWave$Programme"
  | 3 => .object "GalleonWave$Spots"
  | 4 => .int
  | 5 => .int
  | 6 => .int
  | 7 => .int
  | 8 => .int
  | 9 => .int
  | 10 => .int
  | 11 => .int
  | 12 => .boolean
  | 13 => .int
  | 14 => .int
  | 15 => .int
  | _ => .boolean
theorem nmX8 : ∀ a, a < 17 → ∀ b, b < 17 → a ≠ b → (TX8 a).2.1 ≠ (TX8 b).2.1 := by decide +kernel
theorem tyX8_ok : ∀ k, k < 17 → parseFieldDescriptor (TX8 k).2.2.1 = some (tyX8 k) := by decide +kernel
abbrev cX8_init : ByteArray := prog_10_method_1_code
def yX8_init : MethodName := ⟨RX8, "<init>", "(II)V"⟩
abbrev cX8_burnFuel : ByteArray := prog_10_method_2_code
def yX8_burnFuel : MethodName := ⟨RX8, "burnFuel", "()V"⟩
abbrev cX8_powerOf : ByteArray := prog_10_method_3_code
def yX8_powerOf : MethodName := ⟨RX8, "powerOf", "(I)I"⟩
abbrev cX8_canSend : ByteArray := prog_10_method_4_code
def yX8_canSend : MethodName := ⟨RX8, "canSend", "()Z"⟩
abbrev cX8_output : ByteArray := prog_10_method_5_code
def yX8_output : MethodName := ⟨RX8, "output", "()I"⟩
abbrev cX8_feed : ByteArray := prog_10_method_6_code
def yX8_feed : MethodName := ⟨RX8, "feed", "(I)V"⟩
abbrev cX8_moveBy : ByteArray := prog_10_method_7_code
def yX8_moveBy : MethodName := ⟨RX8, "moveBy", "(II)V"⟩
def RX9 : String := "GalleonWave$Spots"
def TX9 : u_T := fun k => match k with
  | 0 => ("GalleonWave$Spots", "left", "I", false)
  | 1 => ("GalleonWave$Spots", "soldDay", "I", false)
  | 2 => ("GalleonWave$Spots", "sold", "I", false)
  | _ => ("GalleonWave$Spots", "earned", "I", false)
def tyX9 : Nat → FieldType := fun k => match k with
  | 0 => .int
  | 1 => .int
  | 2 => .int
  | _ => .int
theorem nmX9 : ∀ a, a < 4 → ∀ b, b < 4 → a ≠ b → (TX9 a).2.1 ≠ (TX9 b).2.1 := by decide +kernel
theorem tyX9_ok : ∀ k, k < 4 → parseFieldDescriptor (TX9 k).2.2.1 = some (tyX9 k) := by decide +kernel
abbrev cX9_init : ByteArray := prog_11_method_1_code
def yX9_init : MethodName := ⟨RX9, "<init>", "()V"⟩
abbrev cX9_soldOn : ByteArray := prog_11_method_2_code
def yX9_soldOn : MethodName := ⟨RX9, "soldOn", "(I)I"⟩
abbrev cX9_addSold : ByteArray := prog_11_method_3_code
def yX9_addSold : MethodName := ⟨RX9, "addSold", "(II)V"⟩
abbrev cX9_playOne : ByteArray := prog_11_method_4_code
def yX9_playOne : MethodName := ⟨RX9, "playOne", "(I)V"⟩
abbrev cX9_takeEarned : ByteArray := prog_11_method_5_code
def yX9_takeEarned : MethodName := ⟨RX9, "takeEarned", "()I"⟩
def RX10 : String := "GalleonWave$Town"
def TX10 : u_T := fun k => match k with
  | 0 => ("GalleonWave$Town", "land", "I", true)
  | 1 => ("GalleonWave$Town", "east", "I", true)
  | 2 => ("GalleonWave$Town", "north", "I", true)
  | 3 => ("GalleonWave$Town", "thousands", "I", true)
  | _ => ("GalleonWave$Town", "heard", "I", false)
def tyX10 : Nat → FieldType := fun k => match k with
  | 0 => .int
  | 1 => .int
  | 2 => .int
  | 3 => .int
  | _ => .int
theorem nmX10 : ∀ a, a < 5 → ∀ b, b < 5 → a ≠ b → (TX10 a).2.1 ≠ (TX10 b).2.1 := by decide +kernel
theorem tyX10_ok : ∀ k, k < 5 → parseFieldDescriptor (TX10 k).2.2.1 = some (tyX10 k) := by decide +kernel
abbrev cX10_init : ByteArray := prog_12_method_1_code
def yX10_init : MethodName := ⟨RX10, "<init>", "(IIII)V"⟩
def RX11 : String := "GalleonWave"
def TX11 : u_T := fun k => match k with
  | 0 => ("GalleonWave", "lands", "Ljava/util/ArrayList;", true)
  | 1 => ("GalleonWave", "towns", "Ljava/util/ArrayList;", true)
  | 2 => ("GalleonWave", "ships", "Ljava/util/ArrayList;", true)
  | 3 => ("GalleonWave", "people", "Ljava/util/ArrayList;", true)
  | 4 => ("GalleonWave", "archive", "LGalleonWave$Archive;", true)
  | 5 => ("GalleonWave", "hour", "I", false)
  | 6 => ("GalleonWave", "windForce", "I", false)
  | 7 => ("GalleonWave", "windWay", "C", false)
  | 8 => ("GalleonWave", "tideEast", "I", false)
  | 9 => ("GalleonWave", "tideNorth", "I", false)
  | _ => ("GalleonWave", "money", "I", false)
def tyX11 : Nat → FieldType := fun k => match k with
  | 0 => .object "java/util/ArrayList"
  | 1 => .object "java/util/ArrayList"
  | 2 => .object "java/util/ArrayList"
  | 3 => .object "java/util/ArrayList"
  | 4 => .object "GalleonWave$Archive"
  | 5 => .int
  | 6 => .int
  | 7 => .char
  | 8 => .int
  | 9 => .int
  | _ => .int
theorem nmX11 : ∀ a, a < 11 → ∀ b, b < 11 → a ≠ b → (TX11 a).2.1 ≠ (TX11 b).2.1 := by decide +kernel
theorem tyX11_ok : ∀ k, k < 11 → parseFieldDescriptor (TX11 k).2.2.1 = some (tyX11 k) := by decide +kernel
abbrev cX11_init : ByteArray := prog_1_method_1_code
def yX11_init : MethodName := ⟨RX11, "<init>", "()V"⟩
abbrev cX11_addLand : ByteArray := prog_1_method_2_code
def yX11_addLand : MethodName := ⟨RX11, "addLand", "(III)I"⟩
abbrev cX11_addAct : ByteArray := prog_1_method_3_code
def yX11_addAct : MethodName := ⟨RX11, "addAct", "(IIII)I"⟩
abbrev cX11_getLine : ByteArray := prog_1_method_4_code
def yX11_getLine : MethodName := ⟨RX11, "getLine", "(I)I"⟩
abbrev cX11_setWind : ByteArray := prog_1_method_5_code
def yX11_setWind : MethodName := ⟨RX11, "setWind", "(IC)I"⟩
abbrev cX11_setTide : ByteArray := prog_1_method_6_code
def yX11_setTide : MethodName := ⟨RX11, "setTide", "(II)I"⟩
abbrev cX11_addTown : ByteArray := prog_1_method_7_code
def yX11_addTown : MethodName := ⟨RX11, "addTown", "(IIII)I"⟩
abbrev cX11_pass : ByteArray := prog_1_method_8_code
def yX11_pass : MethodName := ⟨RX11, "pass", "(I)I"⟩
abbrev cX11_addShip : ByteArray := prog_1_method_9_code
def yX11_addShip : MethodName := ⟨RX11, "addShip", "(II)I"⟩
abbrev cX11_getPlace : ByteArray := prog_1_method_10_code
def yX11_getPlace : MethodName := ⟨RX11, "getPlace", "(IZ)I"⟩
abbrev cX11_getInside : ByteArray := prog_1_method_11_code
def yX11_getInside : MethodName := ⟨RX11, "getInside", "(I)I"⟩
abbrev cX11_anchor : ByteArray := prog_1_method_12_code
def yX11_anchor : MethodName := ⟨RX11, "anchor", "(IC)I"⟩
abbrev cX11_weigh : ByteArray := prog_1_method_13_code
def yX11_weigh : MethodName := ⟨RX11, "weigh", "(I)I"⟩
abbrev cX11_isAground : ByteArray := prog_1_method_14_code
def yX11_isAground : MethodName := ⟨RX11, "isAground", "(I)Z"⟩
abbrev cX11_pullOff : ByteArray := prog_1_method_15_code
def yX11_pullOff : MethodName := ⟨RX11, "pullOff", "(I)I"⟩
abbrev cX11_addGenerator : ByteArray := prog_1_method_16_code
def yX11_addGenerator : MethodName := ⟨RX11, "addGenerator", "(III)I"⟩
abbrev cX11_setGenerator : ByteArray := prog_1_method_17_code
def yX11_setGenerator : MethodName := ⟨RX11, "setGenerator", "(IIZ)I"⟩
abbrev cX11_getFuel : ByteArray := prog_1_method_18_code
def yX11_getFuel : MethodName := ⟨RX11, "getFuel", "(I)I"⟩
abbrev cX11_getFood : ByteArray := prog_1_method_19_code
def yX11_getFood : MethodName := ⟨RX11, "getFood", "(I)I"⟩
abbrev cX11_getSalt : ByteArray := prog_1_method_20_code
def yX11_getSalt : MethodName := ⟨RX11, "getSalt", "(I)I"⟩
abbrev cX11_wash : ByteArray := prog_1_method_21_code
def yX11_wash : MethodName := ⟨RX11, "wash", "(I)I"⟩
abbrev cX11_setPower : ByteArray := prog_1_method_22_code
def yX11_setPower : MethodName := ⟨RX11, "setPower", "(II)I"⟩
abbrev cX11_getChannel : ByteArray := prog_1_method_23_code
def yX11_getChannel : MethodName := ⟨RX11, "getChannel", "(I)I"⟩
abbrev cX11_isOnAir : ByteArray := prog_1_method_24_code
def yX11_isOnAir : MethodName := ⟨RX11, "isOnAir", "(I)Z"⟩
abbrev cX11_getSignal : ByteArray := prog_1_method_25_code
def yX11_getSignal : MethodName := ⟨RX11, "getSignal", "(II)I"⟩
abbrev cX11_getHeard : ByteArray := prog_1_method_26_code
def yX11_getHeard : MethodName := ⟨RX11, "getHeard", "(I)I"⟩
abbrev cX11_getListeners : ByteArray := prog_1_method_27_code
def yX11_getListeners : MethodName := ⟨RX11, "getListeners", "(I)I"⟩
abbrev cX11_addPerson : ByteArray := prog_1_method_28_code
def yX11_addPerson : MethodName := ⟨RX11, "addPerson", "(IC)I"⟩
abbrev cX11_getAboard : ByteArray := prog_1_method_29_code
def yX11_getAboard : MethodName := ⟨RX11, "getAboard", "(I)I"⟩
abbrev cX11_isTired : ByteArray := prog_1_method_30_code
def yX11_isTired : MethodName := ⟨RX11, "isTired", "(I)Z"⟩
abbrev cX11_load : ByteArray := prog_1_method_31_code
def yX11_load : MethodName := ⟨RX11, "load", "(IIII)I"⟩
abbrev cX11_book : ByteArray := prog_1_method_32_code
def yX11_book : MethodName := ⟨RX11, "book", "(IIZ)I"⟩
abbrev cX11_send : ByteArray := prog_1_method_33_code
def yX11_send : MethodName := ⟨RX11, "send", "(IIZ)I"⟩
abbrev cX11_plan : ByteArray := prog_1_method_34_code
def yX11_plan : MethodName := ⟨RX11, "plan", "(III)I"⟩
abbrev cX11_getSpeaker : ByteArray := prog_1_method_35_code
def yX11_getSpeaker : MethodName := ⟨RX11, "getSpeaker", "(I)I"⟩
abbrev cX11_isMutiny : ByteArray := prog_1_method_36_code
def yX11_isMutiny : MethodName := ⟨RX11, "isMutiny", "(I)Z"⟩
abbrev cX11_sell : ByteArray := prog_1_method_37_code
def yX11_sell : MethodName := ⟨RX11, "sell", "(II)I"⟩
abbrev cX11_bank : ByteArray := prog_1_method_38_code
def yX11_bank : MethodName := ⟨RX11, "bank", "(I)I"⟩
abbrev cX11_getEarned : ByteArray := prog_1_method_39_code
def yX11_getEarned : MethodName := ⟨RX11, "getEarned", "(I)I"⟩
abbrev cX11_getMoney : ByteArray := prog_1_method_40_code
def yX11_getMoney : MethodName := ⟨RX11, "getMoney", "()I"⟩
abbrev cX11_getEvidence : ByteArray := prog_1_method_41_code
def yX11_getEvidence : MethodName := ⟨RX11, "getEvidence", "(I)I"⟩
abbrev cX11_raid : ByteArray := prog_1_method_42_code
def yX11_raid : MethodName := ⟨RX11, "raid", "(II)I"⟩
abbrev cX11_board : ByteArray := prog_1_method_43_code
def yX11_board : MethodName := ⟨RX11, "board", "(II)Z"⟩
abbrev cX11_getKept : ByteArray := prog_1_method_44_code
def yX11_getKept : MethodName := ⟨RX11, "getKept", "()I"⟩
abbrev cX11_addRecording : ByteArray := prog_1_method_45_code
def yX11_addRecording : MethodName := ⟨RX11, "addRecording", "(III)I"⟩
abbrev cX11_addAhead : ByteArray := prog_1_method_46_code
def yX11_addAhead : MethodName := ⟨RX11, "addAhead", "(II)I"⟩
abbrev cX11_getChoices : ByteArray := prog_1_method_47_code
def yX11_getChoices : MethodName := ⟨RX11, "getChoices", "(I)I"⟩
abbrev cX11_getDate : ByteArray := prog_1_method_48_code
def yX11_getDate : MethodName := ⟨RX11, "getDate", "(IZ)I"⟩
abbrev cX11_getNightShare : ByteArray := prog_1_method_49_code
def yX11_getNightShare : MethodName := ⟨RX11, "getNightShare", "()F"⟩
abbrev cX11_getMeanCrew : ByteArray := prog_1_method_50_code
def yX11_getMeanCrew : MethodName := ⟨RX11, "getMeanCrew", "()D"⟩
abbrev cX11_checksum : ByteArray := prog_1_method_51_code
def yX11_checksum : MethodName := ⟨RX11, "checksum", "()J"⟩
abbrev cX11_isSound : ByteArray := prog_1_method_52_code
def yX11_isSound : MethodName := ⟨RX11, "isSound", "()Z"⟩
abbrev cX11_requireRange : ByteArray := prog_1_method_53_code
def yX11_requireRange : MethodName := ⟨RX11, "requireRange", "(III)V"⟩
abbrev cX11_requirePlace : ByteArray := prog_1_method_54_code
def yX11_requirePlace : MethodName := ⟨RX11, "requirePlace", "(II)V"⟩
abbrev cX11_requireRoom : ByteArray := prog_1_method_55_code
def yX11_requireRoom : MethodName := ⟨RX11, "requireRoom", "(II)V"⟩
abbrev cX11_requireNumber : ByteArray := prog_1_method_56_code
def yX11_requireNumber : MethodName := ⟨RX11, "requireNumber", "(II)V"⟩
abbrev cX11_requireRecording : ByteArray := prog_1_method_57_code
def yX11_requireRecording : MethodName := ⟨RX11, "requireRecording", "(I)V"⟩
abbrev cX11_landAt : ByteArray := prog_1_method_58_code
def yX11_landAt : MethodName := ⟨RX11, "landAt", "(I)LGalleonWave$Land;"⟩
abbrev cX11_townAt : ByteArray := prog_1_method_59_code
def yX11_townAt : MethodName := ⟨RX11, "townAt", "(I)LGalleonWave$Town;"⟩
abbrev cX11_shipAt : ByteArray := prog_1_method_60_code
def yX11_shipAt : MethodName := ⟨RX11, "shipAt", "(I)LGalleonWave$Ship;"⟩
abbrev cX11_personAt : ByteArray := prog_1_method_61_code
def yX11_personAt : MethodName := ⟨RX11, "personAt", "(I)LGalleonWave$Person;"⟩
abbrev cX11_isPerson : ByteArray := prog_1_method_62_code
def yX11_isPerson : MethodName := ⟨RX11, "isPerson", "(I)Z"⟩
abbrev cX11_isPersonOrTape : ByteArray := prog_1_method_63_code
def yX11_isPersonOrTape : MethodName := ⟨RX11, "isPersonOrTape", "(I)Z"⟩
abbrev cX11_isTape : ByteArray := prog_1_method_64_code
def yX11_isTape : MethodName := ⟨RX11, "isTape", "(I)Z"⟩
abbrev cX11_holdOf : ByteArray := prog_1_method_65_code
def yX11_holdOf : MethodName := ⟨RX11, "holdOf", "(C)I"⟩
abbrev cX11_apart : ByteArray := prog_1_method_66_code
def yX11_apart : MethodName := ⟨RX11, "apart", "(IIII)I"⟩
abbrev cX11_within : ByteArray := prog_1_method_67_code
def yX11_within : MethodName := ⟨RX11, "within", "(I)I"⟩
abbrev cX11_isNight : ByteArray := prog_1_method_68_code
def yX11_isNight : MethodName := ⟨RX11, "isNight", "(I)Z"⟩
abbrev cX11_isInsideLine : ByteArray := prog_1_method_69_code
def yX11_isInsideLine : MethodName := ⟨RX11, "isInsideLine", "(LGalleonWave$Land;LGalleonWave$Ship;)Z"⟩
abbrev cX11_landAround : ByteArray := prog_1_method_70_code
def yX11_landAround : MethodName := ⟨RX11, "landAround", "(LGalleonWave$Ship;)I"⟩
abbrev cX11_isStranded : ByteArray := prog_1_method_71_code
def yX11_isStranded : MethodName := ⟨RX11, "isStranded", "(LGalleonWave$Ship;)Z"⟩
abbrev cX11_passHour : ByteArray := prog_1_method_72_code
def yX11_passHour : MethodName := ⟨RX11, "passHour", "()V"⟩
abbrev cX11_runGenerators : ByteArray := prog_1_method_73_code
def yX11_runGenerators : MethodName := ⟨RX11, "runGenerators", "()V"⟩
abbrev cX11_goOnAir : ByteArray := prog_1_method_74_code
def yX11_goOnAir : MethodName := ⟨RX11, "goOnAir", "()V"⟩
abbrev cX11_listen : ByteArray := prog_1_method_75_code
def yX11_listen : MethodName := ⟨RX11, "listen", "()V"⟩
abbrev cX11_strongestHeard : ByteArray := prog_1_method_76_code
def yX11_strongestHeard : MethodName := ⟨RX11, "strongestHeard", "(LGalleonWave$Town;)I"⟩
abbrev cX11_disturbance : ByteArray := prog_1_method_77_code
def yX11_disturbance : MethodName := ⟨RX11, "disturbance", "(IILGalleonWave$Town;)I"⟩
abbrev cX11_signalOf : ByteArray := prog_1_method_78_code
def yX11_signalOf : MethodName := ⟨RX11, "signalOf", "(LGalleonWave$Ship;LGalleonWave$Town;)I"⟩
abbrev cX11_playSpots : ByteArray := prog_1_method_79_code
def yX11_playSpots : MethodName := ⟨RX11, "playSpots", "()V"⟩
abbrev cX11_countPayingThousands : ByteArray := prog_1_method_80_code
def yX11_countPayingThousands : MethodName := ⟨RX11, "countPayingThousands", "(II)I"⟩
abbrev cX11_speak : ByteArray := prog_1_method_81_code
def yX11_speak : MethodName := ⟨RX11, "speak", "()V"⟩
abbrev cX11_chooseSpeaker : ByteArray := prog_1_method_82_code
def yX11_chooseSpeaker : MethodName := ⟨RX11, "chooseSpeaker", "(ILGalleonWave$Programme;)I"⟩
abbrev cX11_canSpeak : ByteArray := prog_1_method_83_code
def yX11_canSpeak : MethodName := ⟨RX11, "canSpeak", "(II)Z"⟩
abbrev cX11_keepHour : ByteArray := prog_1_method_84_code
def yX11_keepHour : MethodName := ⟨RX11, "keepHour", "()V"⟩
abbrev cX11_eatAndTire : ByteArray := prog_1_method_85_code
def yX11_eatAndTire : MethodName := ⟨RX11, "eatAndTire", "()V"⟩
abbrev cX11_gatherSalt : ByteArray := prog_1_method_86_code
def yX11_gatherSalt : MethodName := ⟨RX11, "gatherSalt", "()V"⟩
abbrev cX11_moveShips : ByteArray := prog_1_method_87_code
def yX11_moveShips : MethodName := ⟨RX11, "moveShips", "()V"⟩
abbrev cX11_moveShip : ByteArray := prog_1_method_88_code
def yX11_moveShip : MethodName := ⟨RX11, "moveShip", "(LGalleonWave$Ship;)V"⟩
abbrev cX11_windEast : ByteArray := prog_1_method_89_code
def yX11_windEast : MethodName := ⟨RX11, "windEast", "()I"⟩
abbrev cX11_windNorth : ByteArray := prog_1_method_90_code
def yX11_windNorth : MethodName := ⟨RX11, "windNorth", "()I"⟩
abbrev cX11_isForbidden : ByteArray := prog_1_method_91_code
def yX11_isForbidden : MethodName := ⟨RX11, "isForbidden", "(II)Z"⟩
abbrev cX11_commitOffence : ByteArray := prog_1_method_92_code
def yX11_commitOffence : MethodName := ⟨RX11, "commitOffence", "(III)V"⟩
abbrev cX11_addEvidence : ByteArray := prog_1_method_93_code
def yX11_addEvidence : MethodName := ⟨RX11, "addEvidence", "(I)V"⟩
abbrev cX11_countCrew : ByteArray := prog_1_method_94_code
def yX11_countCrew : MethodName := ⟨RX11, "countCrew", "(I)I"⟩
abbrev cX11_countAboard : ByteArray := prog_1_method_95_code
def yX11_countAboard : MethodName := ⟨RX11, "countAboard", "()I"⟩
abbrev cX11_countBooked : ByteArray := prog_1_method_96_code
def yX11_countBooked : MethodName := ⟨RX11, "countBooked", "(I)I"⟩
abbrev cX11_takeTiredAshore : ByteArray := prog_1_method_97_code
def yX11_takeTiredAshore : MethodName := ⟨RX11, "takeTiredAshore", "(I)V"⟩
abbrev cX11_takeBookedAboard : ByteArray := prog_1_method_98_code
def yX11_takeBookedAboard : MethodName := ⟨RX11, "takeBookedAboard", "(II)V"⟩
abbrev cX11_areKeptHoursSound : ByteArray := prog_1_method_99_code
def yX11_areKeptHoursSound : MethodName := ⟨RX11, "areKeptHoursSound", "()Z"⟩
abbrev cX11_isKeptHourSound : ByteArray := prog_1_method_100_code
def yX11_isKeptHourSound : MethodName := ⟨RX11, "isKeptHourSound", "(LGalleonWave$Kept;I)Z"⟩
abbrev cX11_areCrewsSound : ByteArray := prog_1_method_101_code
def yX11_areCrewsSound : MethodName := ⟨RX11, "areCrewsSound", "()Z"⟩
def RX12 : String := "GalleonWaveModel"
def TX12 : u_T := fun k => match k with
  | 0 => ("GalleonWaveModel", "landPlaces", "[[I", true)
  | 1 => ("GalleonWaveModel", "shallows", "[I", true)
  | 2 => ("GalleonWaveModel", "acts", "[[[I", true)
  | 3 => ("GalleonWaveModel", "actMany", "[I", true)
  | 4 => ("GalleonWaveModel", "evidence", "[I", true)
  | 5 => ("GalleonWaveModel", "loadFuel", "[I", true)
  | 6 => ("GalleonWaveModel", "loadFood", "[I", true)
  | 7 => ("GalleonWaveModel", "loadCrystal", "[I", true)
  | 8 => ("GalleonWaveModel", "booked", "[I", true)
  | 9 => ("GalleonWaveModel", "places", "[[I", true)
  | 10 => ("GalleonWaveModel", "anchored", "[[I", true)
  | 11 => ("GalleonWaveModel", "areDown", "[Z", true)
  | 12 => ("GalleonWaveModel", "holds", "[I", true)
  | 13 => ("GalleonWaveModel", "downSince", "[I", true)
  | 14 => ("GalleonWaveModel", "fuels", "[I", true)
  | 15 => ("GalleonWaveModel", "foods", "[I", true)
  | 16 => ("GalleonWaveModel", "salts", "[I", true)
  | 17 => ("GalleonWaveModel", "powers", "[I", true)
  | 18 => ("GalleonWaveModel", "channels", "[I", true)
  | 19 => ("GalleonWaveModel", "generators", "[I", true)
  | 20 => ("GalleonWaveModel", "genPowers", "[[I", true)
  | 21 => ("GalleonWaveModel", "genLives", "[[I", true)
  | 22 => ("GalleonWaveModel", "genHours", "[[I", true)
  | 23 => ("GalleonWaveModel", "areOn", "[[Z", true)
  | 24 => ("GalleonWaveModel", "ran", "[I", true)
  | 25 => ("GalleonWaveModel", "hungers", "[I", true)
  | 26 => ("GalleonWaveModel", "areMutinies", "[Z", true)
  | 27 => ("GalleonWaveModel", "plans", "[[I", true)
  | 28 => ("GalleonWaveModel", "lastTapes", "[I", true)
  | 29 => ("GalleonWaveModel", "spots", "[I", true)
  | 30 => ("GalleonWaveModel", "soldDays", "[I", true)
  | 31 => ("GalleonWaveModel", "sold", "[I", true)
  | 32 => ("GalleonWaveModel", "earned", "[I", true)
  | 33 => ("GalleonWaveModel", "areOnAir", "[Z", true)
  | 34 => ("GalleonWaveModel", "listeners", "[I", true)
  | 35 => ("GalleonWaveModel", "speakers", "[I", true)
  | 36 => ("GalleonWaveModel", "townPlaces", "[[I", true)
  | 37 => ("GalleonWaveModel", "townLands", "[I", true)
  | 38 => ("GalleonWaveModel", "thousands", "[I", true)
  | 39 => ("GalleonWaveModel", "heard", "[I", true)
  | 40 => ("GalleonWaveModel", "personLands", "[I", true)
  | 41 => ("GalleonWaveModel", "personKinds", "[C", true)
  | 42 => ("GalleonWaveModel", "aboard", "[I", true)
  | 43 => ("GalleonWaveModel", "hoursAboard", "[I", true)
  | 44 => ("GalleonWaveModel", "chronicle", "Ljava/util/ArrayList;", true)
  | 45 => ("GalleonWaveModel", "recordings", "[[I", true)
  | 46 => ("GalleonWaveModel", "areAhead", "[[Z", true)
  | 47 => ("GalleonWaveModel", "lands", "I", false)
  | 48 => ("GalleonWaveModel", "ships", "I", false)
  | 49 => ("GalleonWaveModel", "towns", "I", false)
  | 50 => ("GalleonWaveModel", "people", "I", false)
  | 51 => ("GalleonWaveModel", "recordingMany", "I", false)
  | 52 => ("GalleonWaveModel", "windForce", "I", false)
  | 53 => ("GalleonWaveModel", "windWay", "I", false)
  | 54 => ("GalleonWaveModel", "tideEast", "I", false)
  | 55 => ("GalleonWaveModel", "tideNorth", "I", false)
  | 56 => ("GalleonWaveModel", "money", "I", false)
  | 57 => ("GalleonWaveModel", "hour", "I", false)
  | _ => ("GalleonWaveModel", "thrown", "I", false)
def tyX12 : Nat → FieldType := fun k => match k with
  | 0 => .array (.array .int)
  | 1 => .array .int
  | 2 => .array (.array (.array .int))
  | 3 => .array .int
  | 4 => .array .int
  | 5 => .array .int
  | 6 => .array .int
  | 7 => .array .int
  | 8 => .array .int
  | 9 => .array (.array .int)
  | 10 => .array (.array .int)
  | 11 => .array .boolean
  | 12 => .array .int
  | 13 => .array .int
  | 14 => .array .int
  | 15 => .array .int
  | 16 => .array .int
  | 17 => .array .int
  | 18 => .array .int
  | 19 => .array .int
  | 20 => .array (.array .int)
  | 21 => .array (.array .int)
  | 22 => .array (.array .int)
  | 23 => .array (.array .boolean)
  | 24 => .array .int
  | 25 => .array .int
  | 26 => .array .boolean
  | 27 => .array (.array .int)
  | 28 => .array .int
  | 29 => .array .int
  | 30 => .array .int
  | 31 => .array .int
  | 32 => .array .int
  | 33 => .array .boolean
  | 34 => .array .int
  | 35 => .array .int
  | 36 => .array (.array .int)
  | 37 => .array .int
  | 38 => .array .int
  | 39 => .array .int
  | 40 => .array .int
  | 41 => .array .char
  | 42 => .array .int
  | 43 => .array .int
  | 44 => .object "java/util/ArrayList"
  | 45 => .array (.array .int)
  | 46 => .array (.array .boolean)
  | 47 => .int
  | 48 => .int
  | 49 => .int
  | 50 => .int
  | 51 => .int
  | 52 => .int
  | 53 => .int
  | 54 => .int
  | 55 => .int
  | 56 => .int
  | 57 => .int
  | _ => .int
theorem nmX12 : ∀ a, a < 59 → ∀ b, b < 59 → a ≠ b → (TX12 a).2.1 ≠ (TX12 b).2.1 := by decide +kernel
theorem tyX12_ok : ∀ k, k < 59 → parseFieldDescriptor (TX12 k).2.2.1 = some (tyX12 k) := by decide +kernel
abbrev cX12_init : ByteArray := prog_14_method_1_code
def yX12_init : MethodName := ⟨RX12, "<init>", "()V"⟩
abbrev cX12_thrown : ByteArray := prog_14_method_2_code
def yX12_thrown : MethodName := ⟨RX12, "thrown", "()I"⟩
abbrev cX12_isThrown : ByteArray := prog_14_method_3_code
def yX12_isThrown : MethodName := ⟨RX12, "isThrown", "(ZI)Z"⟩
abbrev cX12_isIn : ByteArray := prog_14_method_4_code
def yX12_isIn : MethodName := ⟨RX12, "isIn", "(III)Z"⟩
abbrev cX12_isPlace : ByteArray := prog_14_method_5_code
def yX12_isPlace : MethodName := ⟨RX12, "isPlace", "(II)Z"⟩
abbrev cX12_far : ByteArray := prog_14_method_6_code
def yX12_far : MethodName := ⟨RX12, "far", "([I[I)I"⟩
abbrev cX12_isNoLand : ByteArray := prog_14_method_7_code
def yX12_isNoLand : MethodName := ⟨RX12, "isNoLand", "(I)Z"⟩
abbrev cX12_isNoShip : ByteArray := prog_14_method_8_code
def yX12_isNoShip : MethodName := ⟨RX12, "isNoShip", "(I)Z"⟩
abbrev cX12_addLand : ByteArray := prog_14_method_9_code
def yX12_addLand : MethodName := ⟨RX12, "addLand", "(III)I"⟩
abbrev cX12_addAct : ByteArray := prog_14_method_10_code
def yX12_addAct : MethodName := ⟨RX12, "addAct", "(IIII)I"⟩
abbrev cX12_actOf : ByteArray := prog_14_method_11_code
def yX12_actOf : MethodName := ⟨RX12, "actOf", "(II)I"⟩
abbrev cX12_forbids : ByteArray := prog_14_method_12_code
def yX12_forbids : MethodName := ⟨RX12, "forbids", "(II)Z"⟩
abbrev cX12_getLine : ByteArray := prog_14_method_13_code
def yX12_getLine : MethodName := ⟨RX12, "getLine", "(I)I"⟩
abbrev cX12_isInside : ByteArray := prog_14_method_14_code
def yX12_isInside : MethodName := ⟨RX12, "isInside", "(II)Z"⟩
abbrev cX12_insideOf : ByteArray := prog_14_method_15_code
def yX12_insideOf : MethodName := ⟨RX12, "insideOf", "(I)I"⟩
abbrev cX12_setWind : ByteArray := prog_14_method_16_code
def yX12_setWind : MethodName := ⟨RX12, "setWind", "(IC)I"⟩
abbrev cX12_setTide : ByteArray := prog_14_method_17_code
def yX12_setTide : MethodName := ⟨RX12, "setTide", "(II)I"⟩
abbrev cX12_addTown : ByteArray := prog_14_method_18_code
def yX12_addTown : MethodName := ⟨RX12, "addTown", "(IIII)I"⟩
abbrev cX12_addShip : ByteArray := prog_14_method_19_code
def yX12_addShip : MethodName := ⟨RX12, "addShip", "(II)I"⟩
abbrev cX12_getPlace : ByteArray := prog_14_method_20_code
def yX12_getPlace : MethodName := ⟨RX12, "getPlace", "(IZ)I"⟩
abbrev cX12_getInside : ByteArray := prog_14_method_21_code
def yX12_getInside : MethodName := ⟨RX12, "getInside", "(I)I"⟩
abbrev cX12_isAgroundNow : ByteArray := prog_14_method_22_code
def yX12_isAgroundNow : MethodName := ⟨RX12, "isAgroundNow", "(I)Z"⟩
abbrev cX12_anchor : ByteArray := prog_14_method_23_code
def yX12_anchor : MethodName := ⟨RX12, "anchor", "(IC)I"⟩
abbrev cX12_weigh : ByteArray := prog_14_method_24_code
def yX12_weigh : MethodName := ⟨RX12, "weigh", "(I)I"⟩
abbrev cX12_isAground : ByteArray := prog_14_method_25_code
def yX12_isAground : MethodName := ⟨RX12, "isAground", "(I)Z"⟩
abbrev cX12_pullOff : ByteArray := prog_14_method_26_code
def yX12_pullOff : MethodName := ⟨RX12, "pullOff", "(I)I"⟩
abbrev cX12_addGenerator : ByteArray := prog_14_method_27_code
def yX12_addGenerator : MethodName := ⟨RX12, "addGenerator", "(III)I"⟩
abbrev cX12_setGenerator : ByteArray := prog_14_method_28_code
def yX12_setGenerator : MethodName := ⟨RX12, "setGenerator", "(IIZ)I"⟩
abbrev cX12_getFuel : ByteArray := prog_14_method_29_code
def yX12_getFuel : MethodName := ⟨RX12, "getFuel", "(I)I"⟩
abbrev cX12_getFood : ByteArray := prog_14_method_30_code
def yX12_getFood : MethodName := ⟨RX12, "getFood", "(I)I"⟩
abbrev cX12_getSalt : ByteArray := prog_14_method_31_code
def yX12_getSalt : MethodName := ⟨RX12, "getSalt", "(I)I"⟩
abbrev cX12_crewOf : ByteArray := prog_14_method_32_code
def yX12_crewOf : MethodName := ⟨RX12, "crewOf", "(I)I"⟩
abbrev cX12_wash : ByteArray := prog_14_method_33_code
def yX12_wash : MethodName := ⟨RX12, "wash", "(I)I"⟩
abbrev cX12_setPower : ByteArray := prog_14_method_34_code
def yX12_setPower : MethodName := ⟨RX12, "setPower", "(II)I"⟩
abbrev cX12_getChannel : ByteArray := prog_14_method_35_code
def yX12_getChannel : MethodName := ⟨RX12, "getChannel", "(I)I"⟩
abbrev cX12_isDay : ByteArray := prog_14_method_36_code
def yX12_isDay : MethodName := ⟨RX12, "isDay", "()Z"⟩
abbrev cX12_signalOf : ByteArray := prog_14_method_37_code
def yX12_signalOf : MethodName := ⟨RX12, "signalOf", "(II)I"⟩
abbrev cX12_runsGenerators : ByteArray := prog_14_method_38_code
def yX12_runsGenerators : MethodName := ⟨RX12, "runsGenerators", "(I)V"⟩
abbrev cX12_canBeOnAir : ByteArray := prog_14_method_39_code
def yX12_canBeOnAir : MethodName := ⟨RX12, "canBeOnAir", "(I)Z"⟩
abbrev cX12_isHeard : ByteArray := prog_14_method_40_code
def yX12_isHeard : MethodName := ⟨RX12, "isHeard", "(II)Z"⟩
abbrev cX12_listens : ByteArray := prog_14_method_41_code
def yX12_listens : MethodName := ⟨RX12, "listens", "(I)V"⟩
abbrev cX12_playsSpot : ByteArray := prog_14_method_42_code
def yX12_playsSpot : MethodName := ⟨RX12, "playsSpot", "(I)V"⟩
abbrev cX12_canSpeak : ByteArray := prog_14_method_43_code
def yX12_canSpeak : MethodName := ⟨RX12, "canSpeak", "(II)Z"⟩
abbrev cX12_isPlannedElse : ByteArray := prog_14_method_44_code
def yX12_isPlannedElse : MethodName := ⟨RX12, "isPlannedElse", "(II)Z"⟩
abbrev cX12_speakerOf : ByteArray := prog_14_method_45_code
def yX12_speakerOf : MethodName := ⟨RX12, "speakerOf", "(I)I"⟩
abbrev cX12_offends : ByteArray := prog_14_method_46_code
def yX12_offends : MethodName := ⟨RX12, "offends", "(III)V"⟩
abbrev cX12_speaks : ByteArray := prog_14_method_47_code
def yX12_speaks : MethodName := ⟨RX12, "speaks", "(I)V"⟩
abbrev cX12_eats : ByteArray := prog_14_method_48_code
def yX12_eats : MethodName := ⟨RX12, "eats", "(I)V"⟩
abbrev cX12_held : ByteArray := prog_14_method_49_code
def yX12_held : MethodName := ⟨RX12, "held", "(I)I"⟩
abbrev cX12_moves : ByteArray := prog_14_method_50_code
def yX12_moves : MethodName := ⟨RX12, "moves", "(I)V"⟩
abbrev cX12_pass : ByteArray := prog_14_method_51_code
def yX12_pass : MethodName := ⟨RX12, "pass", "(I)I"⟩
abbrev cX12_isOnAir : ByteArray := prog_14_method_52_code
def yX12_isOnAir : MethodName := ⟨RX12, "isOnAir", "(I)Z"⟩
abbrev cX12_isNoTown : ByteArray := prog_14_method_53_code
def yX12_isNoTown : MethodName := ⟨RX12, "isNoTown", "(I)Z"⟩
abbrev cX12_getSignal : ByteArray := prog_14_method_54_code
def yX12_getSignal : MethodName := ⟨RX12, "getSignal", "(II)I"⟩
abbrev cX12_getHeard : ByteArray := prog_14_method_55_code
def yX12_getHeard : MethodName := ⟨RX12, "getHeard", "(I)I"⟩
abbrev cX12_getListeners : ByteArray := prog_14_method_56_code
def yX12_getListeners : MethodName := ⟨RX12, "getListeners", "(I)I"⟩
abbrev cX12_isNobody : ByteArray := prog_14_method_57_code
def yX12_isNobody : MethodName := ⟨RX12, "isNobody", "(I)Z"⟩
abbrev cX12_addPerson : ByteArray := prog_14_method_58_code
def yX12_addPerson : MethodName := ⟨RX12, "addPerson", "(IC)I"⟩
abbrev cX12_getAboard : ByteArray := prog_14_method_59_code
def yX12_getAboard : MethodName := ⟨RX12, "getAboard", "(I)I"⟩
abbrev cX12_isTiredNow : ByteArray := prog_14_method_60_code
def yX12_isTiredNow : MethodName := ⟨RX12, "isTiredNow", "(I)Z"⟩
abbrev cX12_isTired : ByteArray := prog_14_method_61_code
def yX12_isTired : MethodName := ⟨RX12, "isTired", "(I)Z"⟩
abbrev cX12_load : ByteArray := prog_14_method_62_code
def yX12_load : MethodName := ⟨RX12, "load", "(IIII)I"⟩
abbrev cX12_book : ByteArray := prog_14_method_63_code
def yX12_book : MethodName := ⟨RX12, "book", "(IIZ)I"⟩
abbrev cX12_send : ByteArray := prog_14_method_64_code
def yX12_send : MethodName := ⟨RX12, "send", "(IIZ)I"⟩
abbrev cX12_plan : ByteArray := prog_14_method_65_code
def yX12_plan : MethodName := ⟨RX12, "plan", "(III)I"⟩
abbrev cX12_getSpeaker : ByteArray := prog_14_method_66_code
def yX12_getSpeaker : MethodName := ⟨RX12, "getSpeaker", "(I)I"⟩
abbrev cX12_isMutiny : ByteArray := prog_14_method_67_code
def yX12_isMutiny : MethodName := ⟨RX12, "isMutiny", "(I)Z"⟩
abbrev cX12_sell : ByteArray := prog_14_method_68_code
def yX12_sell : MethodName := ⟨RX12, "sell", "(II)I"⟩
abbrev cX12_bank : ByteArray := prog_14_method_69_code
def yX12_bank : MethodName := ⟨RX12, "bank", "(I)I"⟩
abbrev cX12_getEarned : ByteArray := prog_14_method_70_code
def yX12_getEarned : MethodName := ⟨RX12, "getEarned", "(I)I"⟩
abbrev cX12_getMoney : ByteArray := prog_14_method_71_code
def yX12_getMoney : MethodName := ⟨RX12, "getMoney", "()I"⟩
abbrev cX12_getEvidence : ByteArray := prog_14_method_72_code
def yX12_getEvidence : MethodName := ⟨RX12, "getEvidence", "(I)I"⟩
abbrev cX12_raid : ByteArray := prog_14_method_73_code
def yX12_raid : MethodName := ⟨RX12, "raid", "(II)I"⟩
abbrev cX12_board : ByteArray := prog_14_method_74_code
def yX12_board : MethodName := ⟨RX12, "board", "(II)Z"⟩
abbrev cX12_getKept : ByteArray := prog_14_method_75_code
def yX12_getKept : MethodName := ⟨RX12, "getKept", "()I"⟩
abbrev cX12_addRecording : ByteArray := prog_14_method_76_code
def yX12_addRecording : MethodName := ⟨RX12, "addRecording", "(III)I"⟩
abbrev cX12_isNoRecording : ByteArray := prog_14_method_77_code
def yX12_isNoRecording : MethodName := ⟨RX12, "isNoRecording", "(I)Z"⟩
abbrev cX12_leads : ByteArray := prog_14_method_78_code
def yX12_leads : MethodName := ⟨RX12, "leads", "(II)Z"⟩
abbrev cX12_addAhead : ByteArray := prog_14_method_79_code
def yX12_addAhead : MethodName := ⟨RX12, "addAhead", "(II)I"⟩
abbrev cX12_isLike : ByteArray := prog_14_method_80_code
def yX12_isLike : MethodName := ⟨RX12, "isLike", "(II)Z"⟩
abbrev cX12_getChoices : ByteArray := prog_14_method_81_code
def yX12_getChoices : MethodName := ⟨RX12, "getChoices", "(I)I"⟩
abbrev cX12_inOrder : ByteArray := prog_14_method_82_code
def yX12_inOrder : MethodName := ⟨RX12, "inOrder", "()[I"⟩
abbrev cX12_depthOf : ByteArray := prog_14_method_83_code
def yX12_depthOf : MethodName := ⟨RX12, "depthOf", "(I)I"⟩
abbrev cX12_canDate : ByteArray := prog_14_method_84_code
def yX12_canDate : MethodName := ⟨RX12, "canDate", "([II[I)Z"⟩
abbrev cX12_dateOf : ByteArray := prog_14_method_85_code
def yX12_dateOf : MethodName := ⟨RX12, "dateOf", "(IZ)I"⟩
abbrev cX12_getDate : ByteArray := prog_14_method_86_code
def yX12_getDate : MethodName := ⟨RX12, "getDate", "(IZ)I"⟩
abbrev cX12_getNightShare : ByteArray := prog_14_method_87_code
def yX12_getNightShare : MethodName := ⟨RX12, "getNightShare", "()F"⟩
abbrev cX12_getMeanCrew : ByteArray := prog_14_method_88_code
def yX12_getMeanCrew : MethodName := ⟨RX12, "getMeanCrew", "()D"⟩
abbrev cX12_checksum : ByteArray := prog_14_method_89_code
def yX12_checksum : MethodName := ⟨RX12, "checksum", "()J"⟩
abbrev cX12_isSound : ByteArray := prog_14_method_90_code
def yX12_isSound : MethodName := ⟨RX12, "isSound", "()Z"⟩
def RJx145de : String := "java/io/Serializable"
def TJx145de : u_T := fun k => match k with
  | _ => ("", "", "", false)
def tyJx145de : Nat → FieldType := fun k => match k with
  | _ => .int
theorem nmJx145de : ∀ a, a < 0 → ∀ b, b < 0 → a ≠ b → (TJx145de a).2.1 ≠ (TJx145de b).2.1 := by decide +kernel
theorem tyJx145de_ok : ∀ k, k < 0 → parseFieldDescriptor (TJx145de k).2.2.1 = some (tyJx145de k) := by decide +kernel
def RJx00060 : String := "java/lang/ArrayIndexOutOfBoundsException"
def TJx00060 : u_T := fun k => match k with
  | 0 => ("java/lang/Throwable", "backtrace", "Ljava/lang/Object;", false)
  | 1 => ("java/lang/Throwable", "detailMessage", "Ljava/lang/String;", false)
  | 2 => ("java/lang/Throwable", "cause", "Ljava/lang/Throwable;", false)
  | 3 => ("java/lang/Throwable", "stackTrace", "[Ljava/lang/StackTraceElement;", false)
  | 4 => ("java/lang/Throwable", "depth", "I", false)
  | _ => ("java/lang/Throwable", "suppressedExceptions", "Ljava/util/List;", false)
def tyJx00060 : Nat → FieldType := fun k => match k with
  | 0 => .object "java/lang/Object"
  | 1 => .object "java/lang/String"
  | 2 => .object "java/lang/Throwable"
  | 3 => .array (.object "java/lang/StackTraceElement")
  | 4 => .int
  | _ => .object "java/util/List"
theorem nmJx00060 : ∀ a, a < 6 → ∀ b, b < 6 → a ≠ b → (TJx00060 a).2.1 ≠ (TJx00060 b).2.1 := by decide +kernel
theorem tyJx00060_ok : ∀ k, k < 6 → parseFieldDescriptor (TJx00060 k).2.2.1 = some (tyJx00060 k) := by decide +kernel
abbrev cJx00060_init_a7421 : ByteArray := prog_17_method_2_code
def yJx00060_init_a7421 : MethodName := ⟨RJx00060, "<init>", "(Ljava/lang/String;)V"⟩
def RJx9f9b0 : String := "java/lang/CharSequence"
def TJx9f9b0 : u_T := fun k => match k with
  | _ => ("", "", "", false)
def tyJx9f9b0 : Nat → FieldType := fun k => match k with
  | _ => .int
theorem nmJx9f9b0 : ∀ a, a < 0 → ∀ b, b < 0 → a ≠ b → (TJx9f9b0 a).2.1 ≠ (TJx9f9b0 b).2.1 := by decide +kernel
theorem tyJx9f9b0_ok : ∀ k, k < 0 → parseFieldDescriptor (TJx9f9b0 k).2.2.1 = some (tyJx9f9b0 k) := by decide +kernel
def RJ11 : String := "java/lang/Character"
def TJ11 : u_T := fun k => match k with
  | _ => ("", "", "", false)
def tyJ11 : Nat → FieldType := fun k => match k with
  | _ => .int
theorem nmJ11 : ∀ a, a < 0 → ∀ b, b < 0 → a ≠ b → (TJ11 a).2.1 ≠ (TJ11 b).2.1 := by decide +kernel
theorem tyJ11_ok : ∀ k, k < 0 → parseFieldDescriptor (TJ11 k).2.2.1 = some (tyJ11 k) := by decide +kernel
abbrev cJ11_isValidCodePoint_9a6ad : ByteArray := prog_19_method_11_code
def yJ11_isValidCodePoint_9a6ad : MethodName := ⟨RJ11, "isValidCodePoint", "(I)Z"⟩
abbrev cJ11_highSurrogate_5068e : ByteArray := prog_19_method_28_code
def yJ11_highSurrogate_5068e : MethodName := ⟨RJ11, "highSurrogate", "(I)C"⟩
abbrev cJ11_lowSurrogate_5068e : ByteArray := prog_19_method_29_code
def yJ11_lowSurrogate_5068e : MethodName := ⟨RJ11, "lowSurrogate", "(I)C"⟩
def RJx8e188 : String := "java/lang/Cloneable"
def TJx8e188 : u_T := fun k => match k with
  | _ => ("", "", "", false)
def tyJx8e188 : Nat → FieldType := fun k => match k with
  | _ => .int
theorem nmJx8e188 : ∀ a, a < 0 → ∀ b, b < 0 → a ≠ b → (TJx8e188 a).2.1 ≠ (TJx8e188 b).2.1 := by decide +kernel
theorem tyJx8e188_ok : ∀ k, k < 0 → parseFieldDescriptor (TJx8e188 k).2.2.1 = some (tyJx8e188 k) := by decide +kernel
def RJxb160c : String := "java/lang/Comparable"
def TJxb160c : u_T := fun k => match k with
  | _ => ("", "", "", false)
def tyJxb160c : Nat → FieldType := fun k => match k with
  | _ => .int
theorem nmJxb160c : ∀ a, a < 0 → ∀ b, b < 0 → a ≠ b → (TJxb160c a).2.1 ≠ (TJxb160c b).2.1 := by decide +kernel
theorem tyJxb160c_ok : ∀ k, k < 0 → parseFieldDescriptor (TJxb160c k).2.2.1 = some (tyJxb160c k) := by decide +kernel
def RJxab1ab : String := "java/lang/Iterable"
def TJxab1ab : u_T := fun k => match k with
  | _ => ("", "", "", false)
def tyJxab1ab : Nat → FieldType := fun k => match k with
  | _ => .int
theorem nmJxab1ab : ∀ a, a < 0 → ∀ b, b < 0 → a ≠ b → (TJxab1ab a).2.1 ≠ (TJxab1ab b).2.1 := by decide +kernel
theorem tyJxab1ab_ok : ∀ k, k < 0 → parseFieldDescriptor (TJxab1ab k).2.2.1 = some (tyJxab1ab k) := by decide +kernel
def RJ9 : String := "java/lang/Math"
def TJ9 : u_T := fun k => match k with
  | _ => ("", "", "", false)
def tyJ9 : Nat → FieldType := fun k => match k with
  | _ => .int
theorem nmJ9 : ∀ a, a < 0 → ∀ b, b < 0 → a ≠ b → (TJ9 a).2.1 ≠ (TJ9 b).2.1 := by decide +kernel
theorem tyJ9_ok : ∀ k, k < 0 → parseFieldDescriptor (TJ9 k).2.2.1 = some (tyJ9 k) := by decide +kernel
abbrev cJ9_abs_0f7a4 : ByteArray := prog_27_method_59_code
def yJ9_abs_0f7a4 : MethodName := ⟨RJ9, "abs", "(I)I"⟩
abbrev cJ9_max_7cf53 : ByteArray := prog_27_method_65_code
def yJ9_max_7cf53 : MethodName := ⟨RJ9, "max", "(II)I"⟩
abbrev cJ9_min_7cf53 : ByteArray := prog_27_method_69_code
def yJ9_min_7cf53 : MethodName := ⟨RJ9, "min", "(II)I"⟩
def RJ0 : String := "java/lang/String"
def TJ0 : u_T := fun k => match k with
  | 0 => ("java/lang/String", "value", "[B", true)
  | _ => ("java/lang/String", "coder", "B", true)
def tyJ0 : Nat → FieldType := fun k => match k with
  | 0 => .array .byte
  | _ => .byte
theorem nmJ0 : ∀ a, a < 2 → ∀ b, b < 2 → a ≠ b → (TJ0 a).2.1 ≠ (TJ0 b).2.1 := by decide +kernel
theorem tyJ0_ok : ∀ k, k < 2 → parseFieldDescriptor (TJ0 k).2.2.1 = some (tyJ0 k) := by decide +kernel
abbrev cJ0_length_8abf5 : ByteArray := prog_29_method_54_code
def yJ0_length_8abf5 : MethodName := ⟨RJ0, "length", "()I"⟩
abbrev cJ0_indexOf_0f7a4 : ByteArray := prog_29_method_79_code
def yJ0_indexOf_0f7a4 : MethodName := ⟨RJ0, "indexOf", "(I)I"⟩
abbrev cJ0_indexOf_7cf53 : ByteArray := prog_29_method_80_code
def yJ0_indexOf_7cf53 : MethodName := ⟨RJ0, "indexOf", "(II)I"⟩
abbrev cJ0_coder_7d493 : ByteArray := prog_29_method_152_code
def yJ0_coder_7d493 : MethodName := ⟨RJ0, "coder", "()B"⟩
abbrev cJ0_isLatin1_aae02 : ByteArray := prog_29_method_154_code
def yJ0_isLatin1_aae02 : MethodName := ⟨RJ0, "isLatin1", "()Z"⟩
abbrev cJ0_checkBoundsBeginEnd_23922 : ByteArray := prog_29_method_158_code
def yJ0_checkBoundsBeginEnd_23922 : MethodName := ⟨RJ0, "checkBoundsBeginEnd", "(III)V"⟩
def RJ1 : String := "java/lang/StringLatin1"
def TJ1 : u_T := fun k => match k with
  | _ => ("", "", "", false)
def tyJ1 : Nat → FieldType := fun k => match k with
  | _ => .int
theorem nmJ1 : ∀ a, a < 0 → ∀ b, b < 0 → a ≠ b → (TJ1 a).2.1 ≠ (TJ1 b).2.1 := by decide +kernel
theorem tyJ1_ok : ∀ k, k < 0 → parseFieldDescriptor (TJ1 k).2.2.1 = some (tyJ1 k) := by decide +kernel
abbrev cJ1_canEncode_9a6ad : ByteArray := prog_30_method_4_code
def yJ1_canEncode_9a6ad : MethodName := ⟨RJ1, "canEncode", "(I)Z"⟩
abbrev cJ1_indexOf_4cfef : ByteArray := prog_30_method_22_code
def yJ1_indexOf_4cfef : MethodName := ⟨RJ1, "indexOf", "([BIII)I"⟩
abbrev cJ1_indexOfChar_4cfef : ByteArray := prog_30_method_23_code
def yJ1_indexOfChar_4cfef : MethodName := ⟨RJ1, "indexOfChar", "([BIII)I"⟩
def RJ2 : String := "java/lang/StringUTF16"
def TJ2 : u_T := fun k => match k with
  | _ => ("", "", "", false)
def tyJ2 : Nat → FieldType := fun k => match k with
  | _ => .int
theorem nmJ2 : ∀ a, a < 0 → ∀ b, b < 0 → a ≠ b → (TJ2 a).2.1 ≠ (TJ2 b).2.1 := by decide +kernel
theorem tyJ2_ok : ∀ k, k < 0 → parseFieldDescriptor (TJ2 k).2.2.1 = some (tyJ2 k) := by decide +kernel
abbrev cJ2_getChar_3b067 : ByteArray := prog_31_method_5_code
def yJ2_getChar_3b067 : MethodName := ⟨RJ2, "getChar", "([BI)C"⟩
abbrev cJ2_length_9d52b : ByteArray := prog_31_method_6_code
def yJ2_length_9d52b : MethodName := ⟨RJ2, "length", "([B)I"⟩
abbrev cJ2_indexOf_4cfef : ByteArray := prog_31_method_40_code
def yJ2_indexOf_4cfef : MethodName := ⟨RJ2, "indexOf", "([BIII)I"⟩
abbrev cJ2_indexOfChar_4cfef : ByteArray := prog_31_method_47_code
def yJ2_indexOfChar_4cfef : MethodName := ⟨RJ2, "indexOfChar", "([BIII)I"⟩
abbrev cJ2_indexOfCharUnsafe_4cfef : ByteArray := prog_31_method_48_code
def yJ2_indexOfCharUnsafe_4cfef : MethodName := ⟨RJ2, "indexOfCharUnsafe", "([BIII)I"⟩
abbrev cJ2_indexOfSupplementary_4cfef : ByteArray := prog_31_method_49_code
def yJ2_indexOfSupplementary_4cfef : MethodName := ⟨RJ2, "indexOfSupplementary", "([BIII)I"⟩
abbrev cJ2_checkBoundsBeginEnd_d044e : ByteArray := prog_31_method_93_code
def yJ2_checkBoundsBeginEnd_d044e : MethodName := ⟨RJ2, "checkBoundsBeginEnd", "(II[B)V"⟩
def RJ10 : String := "java/lang/System"
def TJ10 : u_T := fun k => match k with
  | _ => ("", "", "", false)
def tyJ10 : Nat → FieldType := fun k => match k with
  | _ => .int
theorem nmJ10 : ∀ a, a < 0 → ∀ b, b < 0 → a ≠ b → (TJ10 a).2.1 ≠ (TJ10 b).2.1 := by decide +kernel
theorem tyJ10_ok : ∀ k, k < 0 → parseFieldDescriptor (TJ10 k).2.2.1 = some (tyJ10 k) := by decide +kernel
def RJxfd54e : String := "java/lang/constant/Constable"
def TJxfd54e : u_T := fun k => match k with
  | _ => ("", "", "", false)
def tyJxfd54e : Nat → FieldType := fun k => match k with
  | _ => .int
theorem nmJxfd54e : ∀ a, a < 0 → ∀ b, b < 0 → a ≠ b → (TJxfd54e a).2.1 ≠ (TJxfd54e b).2.1 := by decide +kernel
theorem tyJxfd54e_ok : ∀ k, k < 0 → parseFieldDescriptor (TJxfd54e k).2.2.1 = some (tyJxfd54e k) := by decide +kernel
def RJx3cf43 : String := "java/lang/constant/ConstantDesc"
def TJx3cf43 : u_T := fun k => match k with
  | _ => ("", "", "", false)
def tyJx3cf43 : Nat → FieldType := fun k => match k with
  | _ => .int
theorem nmJx3cf43 : ∀ a, a < 0 → ∀ b, b < 0 → a ≠ b → (TJx3cf43 a).2.1 ≠ (TJx3cf43 b).2.1 := by decide +kernel
theorem tyJx3cf43_ok : ∀ k, k < 0 → parseFieldDescriptor (TJx3cf43 k).2.2.1 = some (tyJx3cf43 k) := by decide +kernel
def RJxa1e45 : String := "java/util/AbstractCollection"
def TJxa1e45 : u_T := fun k => match k with
  | _ => ("", "", "", false)
def tyJxa1e45 : Nat → FieldType := fun k => match k with
  | _ => .int
theorem nmJxa1e45 : ∀ a, a < 0 → ∀ b, b < 0 → a ≠ b → (TJxa1e45 a).2.1 ≠ (TJxa1e45 b).2.1 := by decide +kernel
theorem tyJxa1e45_ok : ∀ k, k < 0 → parseFieldDescriptor (TJxa1e45 k).2.2.1 = some (tyJxa1e45 k) := by decide +kernel
abbrev cJxa1e45_init_da8c8 : ByteArray := prog_37_method_1_code
def yJxa1e45_init_da8c8 : MethodName := ⟨RJxa1e45, "<init>", "()V"⟩
def RJxc12de : String := "java/util/AbstractList"
def TJxc12de : u_T := fun k => match k with
  | _ => ("", "", "", false)
def tyJxc12de : Nat → FieldType := fun k => match k with
  | _ => .int
theorem nmJxc12de : ∀ a, a < 0 → ∀ b, b < 0 → a ≠ b → (TJxc12de a).2.1 ≠ (TJxc12de b).2.1 := by decide +kernel
theorem tyJxc12de_ok : ∀ k, k < 0 → parseFieldDescriptor (TJxc12de k).2.2.1 = some (tyJxc12de k) := by decide +kernel
abbrev cJxc12de_init_da8c8 : ByteArray := prog_38_method_1_code
def yJxc12de_init_da8c8 : MethodName := ⟨RJxc12de, "<init>", "()V"⟩
def RJx35411 : String := "java/util/ArrayList$Itr"
def TJx35411 : u_T := fun k => match k with
  | 0 => ("java/util/ArrayList$Itr", "cursor", "I", false)
  | 1 => ("java/util/ArrayList$Itr", "lastRet", "I", false)
  | 2 => ("java/util/ArrayList$Itr", "expectedModCount", "I", false)
  | _ => ("java/util/ArrayList$Itr", "this$0", "Ljava/util/ArrayList;", true)
def tyJx35411 : Nat → FieldType := fun k => match k with
  | 0 => .int
  | 1 => .int
  | 2 => .int
  | _ => .object "java/util/ArrayList"
theorem nmJx35411 : ∀ a, a < 4 → ∀ b, b < 4 → a ≠ b → (TJx35411 a).2.1 ≠ (TJx35411 b).2.1 := by decide +kernel
theorem tyJx35411_ok : ∀ k, k < 4 → parseFieldDescriptor (TJx35411 k).2.2.1 = some (tyJx35411 k) := by decide +kernel
abbrev cJx35411_init_45d68 : ByteArray := prog_40_method_1_code
def yJx35411_init_45d68 : MethodName := ⟨RJx35411, "<init>", "(Ljava/util/ArrayList;)V"⟩
abbrev cJx35411_hasNext_aae02 : ByteArray := prog_40_method_2_code
def yJx35411_hasNext_aae02 : MethodName := ⟨RJx35411, "hasNext", "()Z"⟩
abbrev cJx35411_next_0502b : ByteArray := prog_40_method_3_code
def yJx35411_next_0502b : MethodName := ⟨RJx35411, "next", "()Ljava/lang/Object;"⟩
abbrev cJx35411_checkForComodification_da8c8 : ByteArray := prog_40_method_6_code
def yJx35411_checkForComodification_da8c8 : MethodName := ⟨RJx35411, "checkForComodification", "()V"⟩
def RJx4a65c : String := "java/util/ArrayList"
def TJx4a65c : u_T := fun k => match k with
  | 0 => ("java/util/AbstractList", "modCount", "I", false)
  | 1 => ("java/util/ArrayList", "elementData", "[Ljava/lang/Object;", false)
  | _ => ("java/util/ArrayList", "size", "I", false)
def tyJx4a65c : Nat → FieldType := fun k => match k with
  | 0 => .int
  | 1 => .array (.object "java/lang/Object")
  | _ => .int
theorem nmJx4a65c : ∀ a, a < 3 → ∀ b, b < 3 → a ≠ b → (TJx4a65c a).2.1 ≠ (TJx4a65c b).2.1 := by decide +kernel
theorem tyJx4a65c_ok : ∀ k, k < 3 → parseFieldDescriptor (TJx4a65c k).2.2.1 = some (tyJx4a65c k) := by decide +kernel
abbrev cJx4a65c_init_da8c8 : ByteArray := prog_39_method_2_code
def yJx4a65c_init_da8c8 : MethodName := ⟨RJx4a65c, "<init>", "()V"⟩
abbrev cJx4a65c_grow_92f84 : ByteArray := prog_39_method_6_code
def yJx4a65c_grow_92f84 : MethodName := ⟨RJx4a65c, "grow", "(I)[Ljava/lang/Object;"⟩
abbrev cJx4a65c_grow_d5877 : ByteArray := prog_39_method_7_code
def yJx4a65c_grow_d5877 : MethodName := ⟨RJx4a65c, "grow", "()[Ljava/lang/Object;"⟩
abbrev cJx4a65c_size_8abf5 : ByteArray := prog_39_method_8_code
def yJx4a65c_size_8abf5 : MethodName := ⟨RJx4a65c, "size", "()I"⟩
abbrev cJx4a65c_isEmpty_aae02 : ByteArray := prog_39_method_9_code
def yJx4a65c_isEmpty_aae02 : MethodName := ⟨RJx4a65c, "isEmpty", "()Z"⟩
abbrev cJx4a65c_elementData_915e3 : ByteArray := prog_39_method_18_code
def yJx4a65c_elementData_915e3 : MethodName := ⟨RJx4a65c, "elementData", "(I)Ljava/lang/Object;"⟩
abbrev cJx4a65c_get_915e3 : ByteArray := prog_39_method_20_code
def yJx4a65c_get_915e3 : MethodName := ⟨RJx4a65c, "get", "(I)Ljava/lang/Object;"⟩
abbrev cJx4a65c_add_72be8 : ByteArray := prog_39_method_24_code
def yJx4a65c_add_72be8 : MethodName := ⟨RJx4a65c, "add", "(Ljava/lang/Object;[Ljava/lang/Object;I)V"⟩
abbrev cJx4a65c_add_9ea2d : ByteArray := prog_39_method_25_code
def yJx4a65c_add_9ea2d : MethodName := ⟨RJx4a65c, "add", "(Ljava/lang/Object;)Z"⟩
abbrev cJx4a65c_remove_915e3 : ByteArray := prog_39_method_29_code
def yJx4a65c_remove_915e3 : MethodName := ⟨RJx4a65c, "remove", "(I)Ljava/lang/Object;"⟩
abbrev cJx4a65c_fastRemove_b59b0 : ByteArray := prog_39_method_39_code
def yJx4a65c_fastRemove_b59b0 : MethodName := ⟨RJx4a65c, "fastRemove", "([Ljava/lang/Object;I)V"⟩
abbrev cJx4a65c_iterator_32c93 : ByteArray := prog_39_method_55_code
def yJx4a65c_iterator_32c93 : MethodName := ⟨RJx4a65c, "iterator", "()Ljava/util/Iterator;"⟩
def RJ7 : String := "java/util/Arrays"
def TJ7 : u_T := fun k => match k with
  | _ => ("", "", "", false)
def tyJ7 : Nat → FieldType := fun k => match k with
  | _ => .int
theorem nmJ7 : ∀ a, a < 0 → ∀ b, b < 0 → a ≠ b → (TJ7 a).2.1 ≠ (TJ7 b).2.1 := by decide +kernel
theorem tyJ7_ok : ∀ k, k < 0 → parseFieldDescriptor (TJ7 k).2.2.1 = some (tyJ7 k) := by decide +kernel
abbrev cJ7_copyOf_1904c : ByteArray := prog_41_method_119_code
def yJ7_copyOf_1904c : MethodName := ⟨RJ7, "copyOf", "([Ljava/lang/Object;I)[Ljava/lang/Object;"⟩
abbrev cJ7_copyOf_6403c : ByteArray := prog_41_method_120_code
def yJ7_copyOf_6403c : MethodName := ⟨RJ7, "copyOf", "([Ljava/lang/Object;ILjava/lang/Class;)[Ljava/lang/Object;"⟩
def RJx5ef63 : String := "java/util/Collection"
def TJx5ef63 : u_T := fun k => match k with
  | _ => ("", "", "", false)
def tyJx5ef63 : Nat → FieldType := fun k => match k with
  | _ => .int
theorem nmJx5ef63 : ∀ a, a < 0 → ∀ b, b < 0 → a ≠ b → (TJx5ef63 a).2.1 ≠ (TJx5ef63 b).2.1 := by decide +kernel
theorem tyJx5ef63_ok : ∀ k, k < 0 → parseFieldDescriptor (TJx5ef63 k).2.2.1 = some (tyJx5ef63 k) := by decide +kernel
def RJx4d0d8 : String := "java/util/Iterator"
def TJx4d0d8 : u_T := fun k => match k with
  | _ => ("", "", "", false)
def tyJx4d0d8 : Nat → FieldType := fun k => match k with
  | _ => .int
theorem nmJx4d0d8 : ∀ a, a < 0 → ∀ b, b < 0 → a ≠ b → (TJx4d0d8 a).2.1 ≠ (TJx4d0d8 b).2.1 := by decide +kernel
theorem tyJx4d0d8_ok : ∀ k, k < 0 → parseFieldDescriptor (TJx4d0d8 k).2.2.1 = some (tyJx4d0d8 k) := by decide +kernel
def RJxbd725 : String := "java/util/List"
def TJxbd725 : u_T := fun k => match k with
  | _ => ("", "", "", false)
def tyJxbd725 : Nat → FieldType := fun k => match k with
  | _ => .int
theorem nmJxbd725 : ∀ a, a < 0 → ∀ b, b < 0 → a ≠ b → (TJxbd725 a).2.1 ≠ (TJxbd725 b).2.1 := by decide +kernel
theorem tyJxbd725_ok : ∀ k, k < 0 → parseFieldDescriptor (TJxbd725 k).2.2.1 = some (tyJxbd725 k) := by decide +kernel
def RJ15 : String := "java/util/Objects"
def TJ15 : u_T := fun k => match k with
  | _ => ("", "", "", false)
def tyJ15 : Nat → FieldType := fun k => match k with
  | _ => .int
theorem nmJ15 : ∀ a, a < 0 → ∀ b, b < 0 → a ≠ b → (TJ15 a).2.1 ≠ (TJ15 b).2.1 := by decide +kernel
theorem tyJ15_ok : ∀ k, k < 0 → parseFieldDescriptor (TJ15 k).2.2.1 = some (tyJ15 k) := by decide +kernel
abbrev cJ15_checkIndex_7cf53 : ByteArray := prog_46_method_17_code
def yJ15_checkIndex_7cf53 : MethodName := ⟨RJ15, "checkIndex", "(II)I"⟩
def RJxf0a74 : String := "java/util/RandomAccess"
def TJxf0a74 : u_T := fun k => match k with
  | _ => ("", "", "", false)
def tyJxf0a74 : Nat → FieldType := fun k => match k with
  | _ => .int
theorem nmJxf0a74 : ∀ a, a < 0 → ∀ b, b < 0 → a ≠ b → (TJxf0a74 a).2.1 ≠ (TJxf0a74 b).2.1 := by decide +kernel
theorem tyJxf0a74_ok : ∀ k, k < 0 → parseFieldDescriptor (TJxf0a74 k).2.2.1 = some (tyJxf0a74 k) := by decide +kernel
def RJxa66e6 : String := "java/util/SequencedCollection"
def TJxa66e6 : u_T := fun k => match k with
  | _ => ("", "", "", false)
def tyJxa66e6 : Nat → FieldType := fun k => match k with
  | _ => .int
theorem nmJxa66e6 : ∀ a, a < 0 → ∀ b, b < 0 → a ≠ b → (TJxa66e6 a).2.1 ≠ (TJxa66e6 b).2.1 := by decide +kernel
theorem tyJxa66e6_ok : ∀ k, k < 0 → parseFieldDescriptor (TJxa66e6 k).2.2.1 = some (tyJxa66e6 k) := by decide +kernel
def RJ8 : String := "jdk/internal/util/ArraysSupport"
def TJ8 : u_T := fun k => match k with
  | _ => ("", "", "", false)
def tyJ8 : Nat → FieldType := fun k => match k with
  | _ => .int
theorem nmJ8 : ∀ a, a < 0 → ∀ b, b < 0 → a ≠ b → (TJ8 a).2.1 ≠ (TJ8 b).2.1 := by decide +kernel
theorem tyJ8_ok : ∀ k, k < 0 → parseFieldDescriptor (TJ8 k).2.2.1 = some (tyJ8 k) := by decide +kernel
abbrev cJ8_newLength_cabcc : ByteArray := prog_49_method_27_code
def yJ8_newLength_cabcc : MethodName := ⟨RJ8, "newLength", "(III)I"⟩
abbrev cJ8_hugeLength_7cf53 : ByteArray := prog_49_method_28_code
def yJ8_hugeLength_7cf53 : MethodName := ⟨RJ8, "hugeLength", "(II)I"⟩
def RJ3 : String := "jdk/internal/util/Preconditions"
def TJ3 : u_T := fun k => match k with
  | _ => ("", "", "", false)
def tyJ3 : Nat → FieldType := fun k => match k with
  | _ => .int
theorem nmJ3 : ∀ a, a < 0 → ∀ b, b < 0 → a ≠ b → (TJ3 a).2.1 ≠ (TJ3 b).2.1 := by decide +kernel
theorem tyJ3_ok : ∀ k, k < 0 → parseFieldDescriptor (TJ3 k).2.2.1 = some (tyJ3 k) := by decide +kernel
abbrev cJ3_checkIndex_8e157 : ByteArray := prog_50_method_11_code
def yJ3_checkIndex_8e157 : MethodName := ⟨RJ3, "checkIndex", "(IILjava/util/function/BiFunction;)I"⟩
abbrev cJ3_checkFromToIndex_8c36e : ByteArray := prog_50_method_12_code
def yJ3_checkFromToIndex_8c36e : MethodName := ⟨RJ3, "checkFromToIndex", "(IIILjava/util/function/BiFunction;)I"⟩
def RL : String := "GalleonWaveLaw"
abbrev cL_addLand : ByteArray := method_3_code
def yL_addLand : MethodName := ⟨RL, "addLand", "(LGalleonWave;III[J)I"⟩
abbrev cL_addAct : ByteArray := method_4_code
def yL_addAct : MethodName := ⟨RL, "addAct", "(LGalleonWave;IIII[J)I"⟩
abbrev cL_getLine : ByteArray := method_5_code
def yL_getLine : MethodName := ⟨RL, "getLine", "(LGalleonWave;I[J)I"⟩
abbrev cL_setWind : ByteArray := method_6_code
def yL_setWind : MethodName := ⟨RL, "setWind", "(LGalleonWave;IC[J)I"⟩
abbrev cL_setTide : ByteArray := method_7_code
def yL_setTide : MethodName := ⟨RL, "setTide", "(LGalleonWave;II[J)I"⟩
abbrev cL_addTown : ByteArray := method_8_code
def yL_addTown : MethodName := ⟨RL, "addTown", "(LGalleonWave;IIII[J)I"⟩
abbrev cL_pass : ByteArray := method_9_code
def yL_pass : MethodName := ⟨RL, "pass", "(LGalleonWave;I[J)I"⟩
abbrev cL_addShip : ByteArray := method_10_code
def yL_addShip : MethodName := ⟨RL, "addShip", "(LGalleonWave;II[J)I"⟩
abbrev cL_getPlace : ByteArray := method_11_code
def yL_getPlace : MethodName := ⟨RL, "getPlace", "(LGalleonWave;IZ[J)I"⟩
abbrev cL_getInside : ByteArray := method_12_code
def yL_getInside : MethodName := ⟨RL, "getInside", "(LGalleonWave;I[J)I"⟩
abbrev cL_anchor : ByteArray := method_13_code
def yL_anchor : MethodName := ⟨RL, "anchor", "(LGalleonWave;IC[J)I"⟩
abbrev cL_weigh : ByteArray := method_14_code
def yL_weigh : MethodName := ⟨RL, "weigh", "(LGalleonWave;I[J)I"⟩
abbrev cL_isAground : ByteArray := method_15_code
def yL_isAground : MethodName := ⟨RL, "isAground", "(LGalleonWave;I[J)I"⟩
abbrev cL_pullOff : ByteArray := method_16_code
def yL_pullOff : MethodName := ⟨RL, "pullOff", "(LGalleonWave;I[J)I"⟩
abbrev cL_addGenerator : ByteArray := method_17_code
def yL_addGenerator : MethodName := ⟨RL, "addGenerator", "(LGalleonWave;III[J)I"⟩
abbrev cL_setGenerator : ByteArray := method_18_code
def yL_setGenerator : MethodName := ⟨RL, "setGenerator", "(LGalleonWave;IIZ[J)I"⟩
abbrev cL_getFuel : ByteArray := method_19_code
def yL_getFuel : MethodName := ⟨RL, "getFuel", "(LGalleonWave;I[J)I"⟩
abbrev cL_getFood : ByteArray := method_20_code
def yL_getFood : MethodName := ⟨RL, "getFood", "(LGalleonWave;I[J)I"⟩
abbrev cL_getSalt : ByteArray := method_21_code
def yL_getSalt : MethodName := ⟨RL, "getSalt", "(LGalleonWave;I[J)I"⟩
abbrev cL_wash : ByteArray := method_22_code
def yL_wash : MethodName := ⟨RL, "wash", "(LGalleonWave;I[J)I"⟩
abbrev cL_setPower : ByteArray := method_23_code
def yL_setPower : MethodName := ⟨RL, "setPower", "(LGalleonWave;II[J)I"⟩
abbrev cL_getChannel : ByteArray := method_24_code
def yL_getChannel : MethodName := ⟨RL, "getChannel", "(LGalleonWave;I[J)I"⟩
abbrev cL_isOnAir : ByteArray := method_25_code
def yL_isOnAir : MethodName := ⟨RL, "isOnAir", "(LGalleonWave;I[J)I"⟩
abbrev cL_getSignal : ByteArray := method_26_code
def yL_getSignal : MethodName := ⟨RL, "getSignal", "(LGalleonWave;II[J)I"⟩
abbrev cL_getHeard : ByteArray := method_27_code
def yL_getHeard : MethodName := ⟨RL, "getHeard", "(LGalleonWave;I[J)I"⟩
abbrev cL_getListeners : ByteArray := method_28_code
def yL_getListeners : MethodName := ⟨RL, "getListeners", "(LGalleonWave;I[J)I"⟩
abbrev cL_addPerson : ByteArray := method_29_code
def yL_addPerson : MethodName := ⟨RL, "addPerson", "(LGalleonWave;IC[J)I"⟩
abbrev cL_getAboard : ByteArray := method_30_code
def yL_getAboard : MethodName := ⟨RL, "getAboard", "(LGalleonWave;I[J)I"⟩
abbrev cL_isTired : ByteArray := method_31_code
def yL_isTired : MethodName := ⟨RL, "isTired", "(LGalleonWave;I[J)I"⟩
abbrev cL_load : ByteArray := method_32_code
def yL_load : MethodName := ⟨RL, "load", "(LGalleonWave;IIII[J)I"⟩
abbrev cL_book : ByteArray := method_33_code
def yL_book : MethodName := ⟨RL, "book", "(LGalleonWave;IIZ[J)I"⟩
abbrev cL_send : ByteArray := method_34_code
def yL_send : MethodName := ⟨RL, "send", "(LGalleonWave;IIZ[J)I"⟩
abbrev cL_plan : ByteArray := method_35_code
def yL_plan : MethodName := ⟨RL, "plan", "(LGalleonWave;III[J)I"⟩
abbrev cL_getSpeaker : ByteArray := method_36_code
def yL_getSpeaker : MethodName := ⟨RL, "getSpeaker", "(LGalleonWave;I[J)I"⟩
abbrev cL_isMutiny : ByteArray := method_37_code
def yL_isMutiny : MethodName := ⟨RL, "isMutiny", "(LGalleonWave;I[J)I"⟩
abbrev cL_sell : ByteArray := method_38_code
def yL_sell : MethodName := ⟨RL, "sell", "(LGalleonWave;II[J)I"⟩
abbrev cL_bank : ByteArray := method_39_code
def yL_bank : MethodName := ⟨RL, "bank", "(LGalleonWave;I[J)I"⟩
abbrev cL_getEarned : ByteArray := method_40_code
def yL_getEarned : MethodName := ⟨RL, "getEarned", "(LGalleonWave;I[J)I"⟩
abbrev cL_getEvidence : ByteArray := method_41_code
def yL_getEvidence : MethodName := ⟨RL, "getEvidence", "(LGalleonWave;I[J)I"⟩
abbrev cL_raid : ByteArray := method_42_code
def yL_raid : MethodName := ⟨RL, "raid", "(LGalleonWave;II[J)I"⟩
abbrev cL_board : ByteArray := method_43_code
def yL_board : MethodName := ⟨RL, "board", "(LGalleonWave;II[J)I"⟩
abbrev cL_addRecording : ByteArray := method_44_code
def yL_addRecording : MethodName := ⟨RL, "addRecording", "(LGalleonWave;III[J)I"⟩
abbrev cL_addAhead : ByteArray := method_45_code
def yL_addAhead : MethodName := ⟨RL, "addAhead", "(LGalleonWave;II[J)I"⟩
abbrev cL_getChoices : ByteArray := method_46_code
def yL_getChoices : MethodName := ⟨RL, "getChoices", "(LGalleonWave;I[J)I"⟩
abbrev cL_getDate : ByteArray := method_47_code
def yL_getDate : MethodName := ⟨RL, "getDate", "(LGalleonWave;IZ[J)I"⟩
abbrev cL_getNightShare : ByteArray := method_48_code
def yL_getNightShare : MethodName := ⟨RL, "getNightShare", "(LGalleonWave;[D)I"⟩
abbrev cL_getMeanCrew : ByteArray := method_49_code
def yL_getMeanCrew : MethodName := ⟨RL, "getMeanCrew", "(LGalleonWave;[D)I"⟩
abbrev cL_law : ByteArray := code
def yL_law : MethodName := ⟨RL, "law", "([I)Z"⟩
abbrev vwCl : List vw_C := [(RJ0, TJ0, 2), (RJx00060, TJx00060, 6), (RJx35411, TJx35411, 4), (RJx4a65c, TJx4a65c, 3), (RX0, TX0, 5), (RX1, TX1, 8), (RX2, TX2, 4), (RX3, TX3, 7), (RX4, TX4, 11), (RX5, TX5, 5), (RX6, TX6, 2), (RX7, TX7, 4), (RX8, TX8, 17), (RX9, TX9, 4), (RX10, TX10, 5), (RX11, TX11, 11), (RX12, TX12, 59)]
theorem tb1 : ∀ w ∈ tables_1_1, w ∈ tables_1 := fun w h => List.mem_append_left _ h
theorem tb2 : ∀ w ∈ tables_1_2, w ∈ tables_1 := fun w h => List.mem_append_right _ (List.mem_append_left _ h)
theorem tb3 : ∀ w ∈ tables_1_3, w ∈ tables_1 := fun w h => List.mem_append_right _ (List.mem_append_right _ (List.mem_append_left _ h))
theorem tb4 : ∀ w ∈ tables_1_4, w ∈ tables_1 := fun w h => List.mem_append_right _ (List.mem_append_right _ (List.mem_append_right _ (List.mem_append_left _ h)))
theorem tb5 : ∀ w ∈ tables_1_5, w ∈ tables_1 := fun w h => List.mem_append_right _ (List.mem_append_right _ (List.mem_append_right _ (List.mem_append_right _ (List.mem_append_left _ h))))
theorem tb6 : ∀ w ∈ tables_1_6, w ∈ tables_1 := fun w h => List.mem_append_right _ (List.mem_append_right _ (List.mem_append_right _ (List.mem_append_right _ (List.mem_append_right _ (List.mem_append_left _ h)))))
theorem tb7 : ∀ w ∈ tables_1_7, w ∈ tables_1 := fun w h => List.mem_append_right _ (List.mem_append_right _ (List.mem_append_right _ (List.mem_append_right _ (List.mem_append_right _ (List.mem_append_right _ (List.mem_append_left _ h))))))
theorem tb8 : ∀ w ∈ tables_1_8, w ∈ tables_1 := fun w h => List.mem_append_right _ (List.mem_append_right _ (List.mem_append_right _ (List.mem_append_right _ (List.mem_append_right _ (List.mem_append_right _ (List.mem_append_right _ (List.mem_append_left _ h)))))))
theorem tb9 : ∀ w ∈ tables_1_9, w ∈ tables_1 := fun w h => List.mem_append_right _ (List.mem_append_right _ (List.mem_append_right _ (List.mem_append_right _ (List.mem_append_right _ (List.mem_append_right _ (List.mem_append_right _ (List.mem_append_right _ (List.mem_append_left _ h))))))))
theorem tb10 : ∀ w ∈ tables_1_10, w ∈ tables_1 := fun w h => List.mem_append_right _ (List.mem_append_right _ (List.mem_append_right _ (List.mem_append_right _ (List.mem_append_right _ (List.mem_append_right _ (List.mem_append_right _ (List.mem_append_right _ (List.mem_append_right _ (h)))))))))
end
section
def kstr : List (String × Nat × String) := [("GalleonWave", 80, "there is no such way"), ("GalleonWave", 124, "there is no such bottom"), ("GalleonWave", 142, "the anchor is down, or the ship is aground"), ("GalleonWave", 148, "the anchor is up, or the ship is aground"), ("GalleonWave", 153, "the ship is not aground"), ("GalleonWave", 191, "nobody is aboard"), ("GalleonWave", 216, "there is no such kind"), ("GalleonWave", 245, "that one is aboard, or goes with the tender of another land"), ("GalleonWave", 250, "the wind is too strong"), ("GalleonWave", 273, "there is no such person or tape"), ("GalleonWave", 287, "the ship was not on the air"), ("GalleonWave", 302, "more than 20 were sold on this day"), ("GalleonWave", 323, "too little evidence, or the ship is not inside the line"), ("GalleonWave", 325, "both ships are the same"), ("GalleonWave", 331, "the ships are too far apart"), ("GalleonWave", 342, "there is nobody and no tape like that"), ("GalleonWave", 353, "both recordings are the same"), ("GalleonWave", 362, "it would be ahead of itself, or it is told already"), ("GalleonWave", 375, "there is no dating"), ("GalleonWave", 379, "no hours are kept"), ("GalleonWave", 385, "there are no ships"), ("GalleonWave", 403, "a number is out of range"), ("GalleonWave", 407, "there are as many as can be"), ("GalleonWave", 412, "there is nothing of that number"), ("GalleonWaveModel", 213, "nesw"), ("GalleonWaveModel", 246, "smr")]
def knc : List (String × String) := []
abbrev kWAYS : Nat := 213
abbrev kBOTS : Nat := 246
/-! ===== BEGIN a constructor that throws (launches without stack traces) ===== -/
section VXIA
variable {p : Program} {l : Launch} {e : Env} {R : Room} {s : State} {m : MethodId} {args : Array Value} {below : List Frame} {meth : Method} {c : Code} {T : State} {locs : List Loc} {cells slots : Nat}
theorem vx_callI (X : Stand p l e R s m args below meth c T locs cells slots) (hexec : p.tables.exec = Jvm.exec) {own : String} {index : Nat} {y : MethodName} {bytes : ByteArray} {maxL : Nat}
    (hown : s.vm.findClass own = some m.cls) (hy1 : y.name = "<init>") (hlink : (Cond.methodLink own index y).before args s = true) (hinst : (Cond.instanceMethod y).before args s = true)
    (hcode : (Cond.code y bytes maxL none).before args s = true) (hy : y.cls ≠ "java/lang/invoke/MethodHandle" ∧ y.cls ≠ "java/lang/invoke/VarHandle")
    {W9 : Nat} {Pre : Pt → Array Value → Prop} {Post : Pt → Array Value → Option Value → Pt → Prop} {PostX : Pt → Array Value → Addr → Pt → Prop} (hK : vx_Back l R p e below s args y 3 W9 Pre Post PostX)
    {g : JFrame} (hg : g.method = m) (hsize : g.locals.size = c.maxLocals) {a : Addr} {argsL rest : List Value} (hlen : ∀ sig, parseMethodDescriptor y.desc = some sig → argsL.length = sig.parameters.length)
    (hstack : g.stack = argsL.reverse ++ .ref a :: rest) (hW : 2 * g.monitorRoom + (rest.map fun v => v.category).sum ≤ W9) (hdg : decode c.code g.pc = .ok (.invokespecial index, 3))
    (hpre : ∀ vm₁, s.WarmedH vm₁ → Pre ⟨T.setVm vm₁, locs, cells, slots⟩ (Value.ref a :: argsL).toArray) :
    (∃ (v : Option Value) (vm₁ : Vm) (B : Pt), s.WarmedH vm₁ ∧ Stand p l e R s m args below meth c B.U B.locs B.cells B.slots ∧ Post ⟨T.setVm vm₁, locs, cells, slots⟩ (Value.ref a :: argsL).toArray v B ∧
      ∀ target, Steps p.tables e below (B.U.setTop { g with pc := g.pc + 3, stack := v.toList ++ rest }) target → Steps p.tables e below (T.setTop g) target) ∨
    (∃ (q : Addr) (vm₁ : Vm) (B : Pt), s.WarmedH vm₁ ∧ Stand p l e R s m args below meth c B.U B.locs B.cells B.slots ∧ PostX ⟨T.setVm vm₁, locs, cells, slots⟩ (Value.ref a :: argsL).toArray q B ∧
      Steps p.tables e below (T.setTop g) ((B.U.setTop { g with stack := rest }).pushFrame (.throwing q))) := by
  subst hg
  have hpl : e.platform.magicAccessors = ({} : Platform).magicAccessors := by rw [X.admits.platform]
  obtain ⟨mk, methM, cM, kP, vm₁, hnamed, hmethM, hcodeM, -, hlocalsM, -, hkP, -, hW₁, hstep₁⟩ := Steps.initColdArgs (e := e) X.here hexec X.warmed hpl hown hy1 hy hlink hinst hcode (f := g) rfl hlen hstack hdg
  have X₁ := X.noted hW₁
  rcases hK g.method meth c ⟨T.setVm vm₁, locs, cells, slots⟩ { g with stack := rest } (.invokespecial index) mk (Value.ref a :: argsL).toArray X₁ rfl hsize hdg hW (X₁.named hnamed) (hpre vm₁ X₁.warmed) with ⟨v, B, X', hpost, hsteps⟩ | ⟨q, B, X', hpost, hsteps⟩
  · exact Or.inl ⟨v, vm₁, B, X₁.warmed, X', hpost, fun target h => hstep₁ _ fun acts => by rw [doInvoke_state]; exact hsteps.trans h⟩
  · exact Or.inr ⟨q, vm₁, B, X₁.warmed, X', hpost, hstep₁ _ fun acts => by rw [doInvoke_state]; exact hsteps⟩
end VXIA
section VXIB
variable {p : Program} {l : Launch} {e : Env} {R : Room} {s : State} {m : MethodId} {args : Array Value} {below : List Frame} {meth : Method} {c : Code} {H : Heap} {locs : List Loc} {cells slots : Nat}
variable {y : MethodName} {bytes cc : ByteArray} {maxL nL mc ms n index : Nat} {ret : Option FieldType} {ws : List Cond} {rm : Room} {Pc : Array Value → State → Prop} {Qc : Array Value → State → Outcome → State → Prop} {XC : String → State → State → Prop} {free : Addr → Prop} {Ts : List Cond} {own C : String} {b : Addr} {As rest : List Value} {g : JFrame}
theorem vx_runI (S : CallFix p m c cc nL s args Ts own) (hM : vx_Met l y ws rm Pc Qc XC mc ms free) (cw : CallB R s args own index y bytes maxL none ws rm mc ms n ∧ y.name = "<init>" ∧ (Cond.instanceMethod y).before args s = true) (hp : PreS s H Pc (.ref b :: As))
    (hg : g.method = m) (hn : As.length = n) (hsize : g.locals.size = nL) (hstack : g.stack = As.reverse ++ .ref b :: rest) (hW : 2 * g.monitorRoom + (rest.map fun v => v.category).sum ≤ 8) (hdg : decode cc g.pc = .ok (.invokespecial index, 3)) (hf : cells + mc ≤ R.cells ∧ slots + ms ≤ R.slots) :
    vx_Run p l e R s m args below meth c H locs cells slots mc ms g rest (Qc (Value.ref b :: As).toArray) XC free := by
  have hK : vx_Back l R p e below s args y 3 8 (PreOf R mc ms Pc) (PostOf Qc mc ms free) (vx_Post XC mc ms free) := vx_callBack cw.1 hM hp.1
  obtain ⟨⟨-, -, -, -, -, -, hcode, -, hy, hlen, hl⟩, hy1, hin⟩ := cw
  obtain ⟨hx, hb, hml, ho, -⟩ := S
  have hPc := hp.2
  intro T hT X
  rcases vx_callI X hx (bytes := bytes) (maxL := maxL) ho hy1 hl hin hcode hy hK hg (hsize.trans hml.symm) (a := b) (argsL := As) (rest := rest) (fun sig h => hn.trans (hlen sig h)) hstack hW (by rw [hb]; exact hdg)
    (fun vm₁ hW₁ => ⟨hf.1, hf.2, hPc (T.setVm vm₁) hT hW₁⟩) with ⟨v, vm₁, ⟨U', l2, c2, s2⟩, hW₁, X', ⟨g', mk, t, L, e1, e2, hq, h1, hL, h2, h3⟩, st⟩ | ⟨q, vm₁, ⟨U', l2, c2, s2⟩, hW₁, X', ⟨g', mk, t, L, E, ce, e1, e2, hq, hce, hcv, hcl, h1, hL, h2, h3⟩, st⟩
  · dsimp only [Pt.U, Pt.locs, Pt.cells, Pt.slots] at X' e1 e2 h1 h2 h3 st
    subst h1; subst h2; subst h3
    exact Or.inl ⟨v, (T.setVm vm₁).calling g' mk (Value.ref b :: As).toArray, t, U', L, hT, X', hL, e1, e2, hq, st⟩
  · dsimp only [Pt.U, Pt.locs, Pt.cells, Pt.slots] at X' e1 e2 h1 h2 h3 st hcl
    subst h1; subst h2; subst h3
    exact Or.inr ⟨q, (T.setVm vm₁).calling g' mk (Value.ref b :: As).toArray, t, U', L, E, ce, hT, X', hL, e1, e2, hq, hce, hcv, vx_cls hW₁ hcl, st⟩
end VXIB
/-! ===== END ===== -/
/-! MY LAYER: one environment, one form of contract, one row a call -/
def kok : Cond → Bool
  | .castable _ _ => true
  | .declares _ => true
  | w => goodWord w
def kw : List Cond := lw_tbl.filter kok
theorem kw_in {w : Cond} (h : w ∈ lw_tbl) (hk : kok w = true) : w ∈ kw := List.mem_filter.mpr ⟨h, hk⟩
theorem kw_tbl {w : Cond} (h : w ∈ kw) : w ∈ lw_tbl := (List.mem_filter.mp h).1
theorem kok_split {w : Cond} (h : kok w = true) : goodWord w = true ∨ (∃ C T, w = .castable C T) ∨ ∃ x, w = .declares x := by
  cases w <;> first | exact Or.inr (Or.inl ⟨_, _, rfl⟩) | exact Or.inr (Or.inr ⟨_, rfl⟩) | exact Or.inl h
theorem kw_moved {s U : State} (hW : s.WarmedH U.vm) (h : ∀ w ∈ kw, w.before #[] s = true) : ∀ w ∈ kw, w.before #[] U = true := by
  intro w hw
  rcases kok_split (List.mem_filter.mp hw).2 with hk | ⟨C, T, rfl⟩ | ⟨x, rfl⟩
  · exact word_at hW (good_of_word hk) (h _ hw)
  · exact va_Nw.warmC hW (h _ hw)
  · exact va_Nw.warmD hW (h _ hw)
theorem kw_args {s : State} {args : Array Value} (h : ∀ w ∈ kw, w.before #[] s = true) : ∀ w ∈ kw, w.before args s = true := by
  intro w hw
  rcases kok_split (List.mem_filter.mp hw).2 with hk | ⟨C, T, rfl⟩ | ⟨x, rfl⟩
  · exact word_at (State.WarmedH.refl s) (good_of_word hk) (h _ hw)
  · exact va_tabs rfl rfl (h _ hw)
  · exact va_tabs rfl rfl (h _ hw)
theorem kw_args' {s : State} {args : Array Value} (h : ∀ w ∈ lw_tbl, w.before args s = true) : ∀ w ∈ kw, w.before #[] s = true := by
  intro w hw
  rcases kok_split (List.mem_filter.mp hw).2 with hk | ⟨C, T, rfl⟩ | ⟨x, rfl⟩
  · exact word_at (State.WarmedH.refl s) (good_of_word hk) (h _ (kw_tbl hw))
  · exact va_tabs rfl rfl (h _ (kw_tbl hw))
  · exact va_tabs rfl rfl (h _ (kw_tbl hw))
/-- the launch's numbers: classes, slots; the empty array of ArrayList; the classes of arrays -/
abbrev kG : Type := va_G × Nat × (Nat → ClassId) × (Nat → Nat) × (Nat → Nat)
abbrev kty (g : kG) : List (ClassId × FieldType) := [(g.2.2.1 0, .int), (g.2.2.1 1, .long), (g.2.2.1 2, .boolean), (g.2.2.1 3, .double), (g.2.2.1 4, .object "java/lang/Object"), (g.2.2.1 5, .array .int)]
abbrev kE : String := "java/util/ArrayList"
/-- what every method finds: the tables' words, the statics, outside of the cells A that it may write -/
def GG (g : kG) (A : Nat → Prop) (U : State) (H : Heap) : Prop :=
  va_K g.1 vwCl (kty g) U ∧ (∀ w ∈ kw, w.before #[] U = true) ∧ (∀ q ∈ kstr, ∃ a, vk_R q.1 q.2.1 q.2.2 a U) ∧ (∀ q ∈ knc, va_Nc q.1 q.2 U) ∧ va_AO "java/lang/Object" U ∧ (va_AOA .int U ∧ va_AOA .boolean U ∧ va_AOA (.array .int) U) ∧ (vk_S 2 [4, 3] [[110, 101, 115, 119], [115, 109, 114]] g.2.2.2.1 g.2.2.2.2 A U H ∧ va_Z "java/lang/String" "COMPACT_STRINGS" "Z" (.int 1) A U H ∧ vk_R "GalleonWaveModel" kWAYS "nesw" (g.2.2.2.1 0) U ∧ vk_R "GalleonWaveModel" kBOTS "smr" (g.2.2.2.1 1) U) ∧
  va_Z kE "DEFAULTCAPACITY_EMPTY_ELEMENTDATA" "[Ljava/lang/Object;" (.ref g.2.1) A U H ∧ va_T (.object "java/lang/Object") g.2.1 0 (fun _ => .null) A U H ∧
  vx_Zq Bundle.tN "UNASSIGNED_STACK" Bundle.steD A U H ∧ vx_Zq Bundle.tN "SUPPRESSED_SENTINEL" Bundle.listD A U H
theorem GG.K {g A U H} (h : GG g A U H) : va_K g.1 vwCl (kty g) U := h.1
theorem GG.ws {g A U H} (h : GG g A U H) {args : Array Value} : ∀ w ∈ kw, w.before args U = true := kw_args h.2.1
theorem GG.w {g A U H} (h : GG g A U H) {args : Array Value} {w : Cond} (hw : w ∈ kw) : w.before args U = true := kw_args h.2.1 w hw
theorem GG.nw {g A U H} (h : GG g A U H) {w : Cond} (hw : w ∈ kw) : va_Nw w U := h.2.1 w hw
theorem GG.step {g : kG} {A A' : Nat → Prop} {s U : State} {H : Heap} {locs : List Loc} (h : GG g A s s.heap) (hS : va_S A s.heap H locs) (hU : U.heap = H) (hW : s.WarmedH U.vm) (hA : ∀ q, A' q → A q) : GG g A' U U.heap := by
  obtain ⟨h1, h2, h3, h4, h5, ⟨ha1, ha2, ha3⟩, ⟨hb1, hb2, hb3, hb4⟩, h6, h7, h8, h9⟩ := h
  have hal := hW.alike
  rw [hU]
  exact ⟨va_K.moved hal h1, kw_moved hW h2, fun q hq => by obtain ⟨a, ha⟩ := h3 q hq; exact ⟨a, vk_R.warm hW ha⟩, fun q hq => va_Nc.moved hal (h4 q hq), va_AO.moved hal h5, ⟨va_AOA.moved hal ha1, va_AOA.moved hal ha2, va_AOA.moved hal ha3⟩, ⟨(vk_S.moved hal (hb1.kept hS.2.1)).narrow hA, (va_Z.moved hal (hb2.kept hS.2.1)).narrow hA, vk_R.warm hW hb3, vk_R.warm hW hb4⟩,
    (va_Z.moved hal (h6.kept hS.2.1)).narrow hA, (va_T.moved hal (h7.kept hS.2.1)).narrow hA, (vx_Zq.moved hal (h8.kept hS.2.1)).narrow hA, (vx_Zq.moved hal (h9.kept hS.2.1)).narrow hA⟩
theorem GG.calling {g : kG} {A : Nat → Prop} {U : State} {f : JFrame} {mk : MethodId} {a : Array Value} (h : GG g A U U.heap) : GG g A (U.calling f mk a) (U.calling f mk a).heap := by
  obtain ⟨h1, h2, h3, h4, h5, ⟨ha1, ha2, ha3⟩, ⟨hb1, hb2, hb3, hb4⟩, h6, h7, h8, h9⟩ := h
  have hal : U.vm.Alike (U.calling f mk a).vm := Vm.Alike.refl U.vm
  exact ⟨va_K.moved hal h1, fun w hw => by
      rcases kok_split (List.mem_filter.mp hw).2 with hk | ⟨C, T, rfl⟩ | ⟨x, rfl⟩
      · have hW : U.WarmedH (U.calling f mk a).vm := State.WarmedH.refl U
        exact word_at hW (good_of_word hk) (h2 _ hw)
      · exact va_tabs rfl (show U.vm = (U.calling f mk a).vm from rfl) (h2 _ hw)
      · exact va_tabs rfl (show U.vm = (U.calling f mk a).vm from rfl) (h2 _ hw), fun q hq => by obtain ⟨a', ha⟩ := h3 q hq; exact ⟨a', vk_R.same (u := U) rfl ha⟩, fun q hq => va_Nc.moved hal (h4 q hq), va_AO.moved hal h5, ⟨va_AOA.moved hal ha1, va_AOA.moved hal ha2, va_AOA.moved hal ha3⟩, ⟨vk_S.moved hal hb1, va_Z.moved hal hb2, vk_R.same (u := U) rfl hb3, vk_R.same (u := U) rfl hb4⟩,
    va_Z.moved hal h6, va_T.moved hal h7, vx_Zq.moved hal h8, vx_Zq.moved hal h9⟩
/-- a method's start -/
abbrev kPc (g : kG) (av : List Value) (ws : va_W) (sz : Nat) : Array Value → State → Prop :=
  va_Pc av (fun U => U.heap.size = sz ∧ va_P g.1 vwCl ws U.heap ∧ va_D (fun _ => True) ws ∧ GG g (va_A ws sz) U U.heap)
theorem kPc_blind {g : kG} {av : List Value} {ws : va_W} {sz : Nat} : FrameBlind (kPc g av ws sz) := by
  intro a U f mk h
  obtain ⟨h0, h1, h2, h3, h4⟩ := h
  exact ⟨h0, h1, h2, h3, GG.calling h4⟩
/-- its end: it returns .. -/
def kQ (g : kG) (Φ : Option Value → va_W → Prop) (A : Nat → Prop) : Array Value → State → Outcome → State → Prop := fun _ st oc t =>
  (∃ (v : Option Value) (w1 : va_W), oc = .returned v ∧ Φ v w1 ∧ va_P g.1 vwCl w1 t.heap ∧ va_D A w1) ∧ va_F A st t
/-- .. or throws -/
def kX (g : kG) (X : String → va_W → Prop) (A : Nat → Prop) : String → State → State → Prop := fun E st t =>
  (∃ w1 : va_W, X E w1 ∧ va_P g.1 vwCl w1 t.heap ∧ va_D A w1) ∧ va_F A st t
abbrev kR (fr lo mc ms : Nat) : Room := { frames := fr, locals := lo, cells := mc, slots := ms }
/-- THE CONTRACT -/
def kc (l : Launch) (g : kG) (y : MethodName) (bytes : ByteArray) (maxL : Nat) (ret : Option FieldType) (fr lo mc ms : Nat) (av : List Value) (ws : va_W) (Φ : Option Value → va_W → Prop) (X : String → va_W → Prop) : Prop :=
  ∀ sz : Nat, vx_Met l y [Cond.code y bytes maxL ret] (kR fr lo mc ms) (kPc g av ws sz) (kQ g Φ (va_A ws sz)) (kX g X (va_A ws sz)) mc ms (va_A ws sz)
/-- .. of a method with handlers -/
def kcH (l : Launch) (g : kG) (y : MethodName) (bytes : ByteArray) (maxL : Nat) (ret : Option FieldType) (hh : List (Nat × Nat × Nat × Nat)) (fr lo mc ms : Nat) (av : List Value) (ws : va_W) (Φ : Option Value → va_W → Prop) (X : String → va_W → Prop) : Prop :=
  ∀ sz : Nat, vx_Met l y [Cond.codeWith y bytes maxL ret hh] (kR fr lo mc ms) (kPc g av ws sz) (kQ g Φ (va_A ws sz)) (kX g X (va_A ws sz)) mc ms (va_A ws sz)
/-- what a body has at hand -/
def KB (p : Program) (s : State) (m : MethodId) (meth : Method) (c : Code) (own : String) (nm : String) (cc : ByteArray) (nL : Nat) (ret : Option FieldType) : Prop :=
  p.tables.exec = Jvm.exec ∧ c.code = cc ∧ c.maxLocals = nL ∧ s.vm.findClass own = some m.cls ∧ meth.locks = false ∧ meth.sig.returnType = ret ∧ meth.name = nm
theorem kbody {l : Launch} {g : kG} {y : MethodName} {bytes : ByteArray} {maxL : Nat} {ret : Option FieldType} {fr lo mc ms : Nat} {av : List Value} {ws : va_W} {Φ : Option Value → va_W → Prop} {X : String → va_W → Prop}
    (hy : plainName y.cls = true) (hn : (lg_sl av).length ≤ maxL)
    (body : ∀ (p : Program) (e : Env) (s : State) (m : MethodId) (args : Array Value) (below : List Frame) (meth : Method) (c : Code) (A : Nat → Prop) (H : Heap), KB p s m meth c y.cls y.name bytes maxL ret → (∀ x ∈ c.exceptionTable.toList, False) → GG g A s s.heap → va_P g.1 vwCl ws H → va_D A ws → (∀ q : Nat, s.heap.size ≤ q → A q) → va_S A s.heap H [] →
      ∀ ls : Array Slot, lv_has ls maxL (lv_args 0 av) → W p l e (kR fr lo mc ms) s m args below meth c H [] 0 0 (vx_MQ below (kQ g Φ A) (kX g X A) args s mc ms A) (F0 m 0 ls [])) : kc l g y bytes maxL ret fr lo mc ms av ws Φ X := by
  intro sz
  refine vx_ofW (cc := bytes) (maxL := maxL) (ret := ret) hy rfl ?_
  intro p e s m args below meth c s₁ B hml ht hv
  obtain ⟨rfl, hsz, hP, hD, hG⟩ := hv
  subst hsz
  have hl := lv_entry av (n := maxL) hn
  rw [lg_entry_eq]
  exact body p e s m av.toArray below meth c (va_A ws s.heap.size) s.heap ⟨B.exec, B.bytes, hml, findClass_of_methodNamed B.named, B.notSynchronized, B.returns, (name_of_methodNamed B.named B.method).1⟩ ht hG hP hD.self (fun q h => Or.inr h) va_S.rf _ hl
theorem kbodyH {l : Launch} {g : kG} {y : MethodName} {bytes : ByteArray} {maxL : Nat} {ret : Option FieldType} {hh : List (Nat × Nat × Nat × Nat)} {fr lo mc ms : Nat} {av : List Value} {ws : va_W} {Φ : Option Value → va_W → Prop} {X : String → va_W → Prop}
    (hy : plainName y.cls = true) (hn : (lg_sl av).length ≤ maxL)
    (body : ∀ (p : Program) (e : Env) (s : State) (m : MethodId) (args : Array Value) (below : List Frame) (meth : Method) (c : Code) (A : Nat → Prop) (H : Heap), KB p s m meth c y.cls y.name bytes maxL ret → c.exceptionTable.toList = tableOf hh → GG g A s s.heap → va_P g.1 vwCl ws H → va_D A ws → (∀ q : Nat, s.heap.size ≤ q → A q) → va_S A s.heap H [] →
      ∀ ls : Array Slot, lv_has ls maxL (lv_args 0 av) → W p l e (kR fr lo mc ms) s m args below meth c H [] 0 0 (vx_MQ below (kQ g Φ A) (kX g X A) args s mc ms A) (F0 m 0 ls [])) : kcH l g y bytes maxL ret hh fr lo mc ms av ws Φ X := by
  intro sz
  refine vx_ofWH (cc := bytes) (maxL := maxL) (ret := ret) (hh := hh) hy rfl ?_
  intro p e s m args below meth c s₁ B hml hv
  obtain ⟨rfl, hsz, hP, hD, hG⟩ := hv
  subst hsz
  have ht := vx_table (x := y) B (atoms_spec (ws := [Cond.codeWith y bytes maxL ret hh]) B.pre _ List.mem_cons_self)
  have hl := lv_entry av (n := maxL) hn
  rw [lg_entry_eq]
  exact body p e s m av.toArray below meth c (va_A ws s.heap.size) s.heap ⟨B.exec, B.bytes, hml, findClass_of_methodNamed B.named, B.notSynchronized, B.returns, (name_of_methodNamed B.named B.method).1⟩ ht hG hP hD.self (fun q h => Or.inr h) va_S.rf _ hl
section KCALL
variable {p : Program} {l : Launch} {e : Env} {R : Room} {s : State} {m : MethodId} {args : Array Value} {below : List Frame} {meth : Method} {c : Code} {H : Heap} {locs : List Loc} {cells slots : Nat} {Q : State → Prop}
variable {g : kG} {A : Nat → Prop} {own nm : String} {cc : ByteArray} {nL : Nat} {ret0 : Option FieldType} {ws wc wr : va_W} {pc : Nat} {ls : Array Slot} {st0 rest : List Value}
variable {y : MethodName} {bytes : ByteArray} {maxL index : Nat} {ret : Option FieldType} {hh : List (Nat × Nat × Nat × Nat)} {fr lo mc ms : Nat} {Φ : Option Value → va_W → Prop} {X : String → va_W → Prop} {a : Array Value} {lv : List (Nat × Value)}
/-- how a call goes on -/
abbrev kNext (p : Program) (l : Launch) (e : Env) (R : Room) (s : State) (m : MethodId) (args : Array Value) (below : List Frame) (meth : Method) (c : Code) (cells slots : Nat) (Q : State → Prop) (g : kG) (A : Nat → Prop) (wr : va_W) (Φ : Option Value → va_W → Prop) (pc : Nat) (ls : Array Slot) (rest : List Value) : Prop :=
  ∀ (v : Option Value) (w1 : va_W) (H1 : Heap) (locs1 : List Loc), Φ v w1 → va_P g.1 vwCl (wr ++ w1) H1 → va_D A (wr ++ w1) → va_S A s.heap H1 locs1 → W p l e R s m args below meth c H1 locs1 cells slots Q (F0 m pc ls (v.toList ++ rest))
abbrev kOut (p : Program) (l : Launch) (e : Env) (R : Room) (s : State) (m : MethodId) (args : Array Value) (below : List Frame) (meth : Method) (c : Code) (cells slots : Nat) (Q : State → Prop) (g : kG) (A : Nat → Prop) (wr : va_W) (X : String → va_W → Prop) (pc : Nat) (ls : Array Slot) (rest : List Value) : Prop :=
  ∀ (E : String) (w1 : va_W) (ce : Cell) (q9 : Nat) (H1 : Heap) (locs1 : List Loc), X E w1 → va_P g.1 vwCl (wr ++ w1) H1 → va_D A (wr ++ w1) → va_S A s.heap H1 locs1 → H1[q9]? = some ce → ce.vm = .none → s.vm.findClass E = some ce.cls → vx_W p l e R s m args below meth c H1 locs1 cells slots Q (F0 m pc ls rest) q9
theorem kcall_core (hr : vx_Run p l e R s m args below meth c H locs cells slots mc ms (F0 m pc ls st0) rest (kQ g Φ (va_A wc H.size) a) (kX g X (va_A wc H.size)) (va_A wc H.size))
    (hP : va_P g.1 vwCl ws H) (hD : va_D A ws) (hS : va_S A s.heap H locs) (hA : ∀ q : Nat, s.heap.size ≤ q → A q)
    (isC isR : List Nat) (hC : isC.map (fun i => ws[i]?) = wc.map some) (hR : isR.map (fun i => ws[i]?) = wr.map some) (hn : va_nd isR = true) (hdis : ∀ i ∈ isR, i ∉ isC)
    (kx : kOut p l e R s m args below meth c (cells + mc) (slots + ms) Q g A wr X pc ls rest) (kk : kNext p l e R s m args below meth c (cells + mc) (slots + ms) Q g A wr Φ (pc + 3) ls rest) :
    W p l e R s m args below meth c H locs cells slots Q (F0 m pc ls st0) := by
  have hF : ∀ q, va_A wc H.size q → A q := va_free hD hS hA isC hC
  intro T hT X0
  rcases hr T hT X0 with ⟨v, st₀, t, T', L, h0, X', hL, e1, e2, ⟨⟨v', w1, hv, hΦ, hP1, hD1⟩, hFF⟩, st⟩ | ⟨q, st₀, t, T', L, E, ce, h0, X', hL, e1, e2, ⟨⟨w1, hx, hP1, hD1⟩, hFF⟩, hce, hcv, hcl, st⟩
  · cases hv
    obtain ⟨k1, k2, k3⟩ := vx_keep h0 e1 hS (fun q _ h => hF q h) hF hL hFF
    rw [← e1] at hP1
    obtain ⟨j1, j2⟩ := va_join hP hD isC isR hC hR hn hdis k2 hF hP1 hD1
    obtain ⟨t2, a1, b1⟩ := kk v w1 T'.heap (locs ++ L) hΦ j1 j2 k3 T' rfl X'
    exact ⟨t2, st t2 a1, b1⟩
  · obtain ⟨k1, k2, k3⟩ := vx_keep h0 e1 hS (fun q _ h => hF q h) hF hL hFF
    rw [← e1] at hP1
    obtain ⟨j1, j2⟩ := va_join hP hD isC isR hC hR hn hdis k2 hF hP1 hD1
    obtain ⟨t2, a1, b1⟩ := kx E w1 ce q T'.heap (locs ++ L) hx j1 j2 k3 (by rw [e1]; exact hce) hcv hcl T' rfl X'
    exact ⟨t2, st.trans a1, b1⟩
theorem kpre {av : List Value} (G : GG g A s s.heap) (hP : va_P g.1 vwCl ws H) (hD : va_D A ws) (hS : va_S A s.heap H locs) (hA : ∀ q : Nat, s.heap.size ≤ q → A q) (isC : List Nat) (hC : isC.map (fun i => ws[i]?) = wc.map some) (hnC : va_nd isC = true) :
    ∀ U : State, U.heap = H → s.WarmedH U.vm → kPc g av wc H.size av.toArray U := by
  have hF : ∀ q, va_A wc H.size q → A q := va_free hD hS hA isC hC
  have hs : isC.filterMap (fun i => ws[i]?) = wc := by
    have h1 : isC.filterMap (fun i => ws[i]?) = (isC.map (fun i => ws[i]?)).filterMap id := by rw [List.filterMap_map]; rfl
    rw [h1, hC, List.filterMap_map]
    show wc.filterMap some = wc
    exact List.filterMap_some
  intro U hU hW
  refine ⟨rfl, by rw [hU], ?_, ?_, GG.step G hS hU hW hF⟩
  · rw [hU]; exact hP.sub isC hs
  · exact (hD.sub isC hnC hC).weaken (fun _ _ _ _ => trivial)
/-- a method of an object, called by its name, the receiver known -/
theorem kcallVr {C : String} {b n : Nat} {As : List Value} (K : KB p s m meth c own nm cc nL ret0) (G : GG g A s s.heap) (hM : kc l g y bytes maxL ret fr lo mc ms (.ref b :: As) wc Φ X)
    (hP : va_P g.1 vwCl ws H) (hD : va_D A ws) (hS : va_S A s.heap H locs) (hA : ∀ q : Nat, s.heap.size ≤ q → A q) (hl : lv_has ls nL lv)
    (hwc : Cond.code y bytes maxL ret ∈ kw) (hwl : Cond.methodLink own index y ∈ kw) (hwi : Cond.instanceMethod y ∈ kw) (hwse : Cond.selects C y y ∈ kw) (hwin : Cond.initialized y.cls ∈ kw)
    (hd : (y.cls ≠ "java/lang/invoke/MethodHandle" ∧ y.cls ≠ "java/lang/invoke/VarHandle") ∧ (parseMethodDescriptor y.desc).map (fun d => d.parameters.length) = some n)
    (isC isR : List Nat) (hC : isC.map (fun i => ws[i]?) = wc.map some) (hR : isR.map (fun i => ws[i]?) = wr.map some) (hn : va_nd isR = true) (hnC : va_nd isC = true) (hdis : ∀ i ∈ isR, i ∉ isC)
    (hrec : ∃ cell : Cell, H[b]? = some cell ∧ cell.vm.isStatics = false ∧ s.vm.findClass C = some cell.cls)
    (hlen : As.length = n) (hst : st0 = As.reverse ++ .ref b :: rest) (hW : (rest.map fun v => v.category).sum ≤ 8) (hdg : decode cc pc = .ok (.invokevirtual index, 3)) (hRm : fr + 1 ≤ R.frames ∧ 8 + (maxL + 11) + lo ≤ R.locals) (hf : cells + mc ≤ R.cells ∧ slots + ms ≤ R.slots)
    (kx : kOut p l e R s m args below meth c (cells + mc) (slots + ms) Q g A wr X pc ls rest) (kk : kNext p l e R s m args below meth c (cells + mc) (slots + ms) Q g A wr Φ (pc + 3) ls rest) :
    W p l e R s m args below meth c H locs cells slots Q (F0 m pc ls st0) := by
  obtain ⟨hx, hb, hml, hown, -⟩ := K
  subst hst
  obtain ⟨hd1, hd2⟩ := hd
  have hlen2 : ∀ sig, parseMethodDescriptor y.desc = some sig → n = sig.parameters.length := fun sig h => by rw [h] at hd2; exact (Option.some.inj hd2).symm
  exact kcall_core (vx_runV (Ts := kw) (C := C) (b := b) (As := As) (rest := rest) ⟨hx, hb, hml, hown, G.ws⟩ (hM H.size)
    ⟨⟨rfl, rfl, hRm.1, hRm.2, fun w hw a' U hW' => by rw [List.mem_singleton.mp hw]; exact word_at hW' (Or.inl rfl) (G.w (args := args) hwc), List.mem_singleton.mpr rfl, G.w hwc, G.w hwin, hd1, hlen2, G.w hwl⟩, G.w hwi, G.w hwse⟩
    ⟨kPc_blind, hrec, kpre G hP hD hS hA isC hC hnC⟩ rfl hlen hl.1 rfl (lv_room hW) hdg hf) hP hD hS hA isC isR hC hR hn hdis kx kk
/-- a method of an object, called by its name -/
theorem kcallV {C : String} {b ci q0 n : Nat} {fs : List Value} {r0 : vw_C} {As : List Value} (K : KB p s m meth c own nm cc nL ret0) (G : GG g A s s.heap) (hM : kc l g y bytes maxL ret fr lo mc ms (.ref b :: As) wc Φ X)
    (hP : va_P g.1 vwCl ws H) (hD : va_D A ws) (hS : va_S A s.heap H locs) (hA : ∀ q : Nat, s.heap.size ≤ q → A q) (hl : lv_has ls nL lv)
    (hwc : Cond.code y bytes maxL ret ∈ kw) (hwl : Cond.methodLink own index y ∈ kw) (hwi : Cond.instanceMethod y ∈ kw) (hwse : Cond.selects C y y ∈ kw) (hwin : Cond.initialized y.cls ∈ kw)
    (hd : (y.cls ≠ "java/lang/invoke/MethodHandle" ∧ y.cls ≠ "java/lang/invoke/VarHandle") ∧ (parseMethodDescriptor y.desc).map (fun d => d.parameters.length) = some n)
    (isC isR : List Nat) (hC : isC.map (fun i => ws[i]?) = wc.map some) (hR : isR.map (fun i => ws[i]?) = wr.map some) (hn : va_nd isR = true) (hnC : va_nd isC = true) (hdis : ∀ i ∈ isR, i ∉ isC)
    (hr0 : vwCl[ci]? = some r0) (hrC : r0.1 = C) (he : ws[q0]? = some (b, .inr (ci, fs)))
    (hlen : As.length = n) (hst : st0 = As.reverse ++ .ref b :: rest) (hW : (rest.map fun v => v.category).sum ≤ 8) (hdg : decode cc pc = .ok (.invokevirtual index, 3)) (hRm : fr + 1 ≤ R.frames ∧ 8 + (maxL + 11) + lo ≤ R.locals) (hf : cells + mc ≤ R.cells ∧ slots + ms ≤ R.slots)
    (kx : kOut p l e R s m args below meth c (cells + mc) (slots + ms) Q g A wr X pc ls rest) (kk : kNext p l e R s m args below meth c (cells + mc) (slots + ms) Q g A wr Φ (pc + 3) ls rest) :
    W p l e R s m args below meth c H locs cells slots Q (F0 m pc ls st0) := by
  have hrec := va_recv (G.K) hP hr0 he
  rw [hrC] at hrec
  exact kcallVr K G hM hP hD hS hA hl hwc hwl hwi hwse hwin hd isC isR hC hR hn hnC hdis hrec hlen hst hW hdg hRm hf kx kk
/-- a constructor -/
theorem kcallI {b n : Nat} {As : List Value} (K : KB p s m meth c own nm cc nL ret0) (G : GG g A s s.heap) (hM : kc l g y bytes maxL none fr lo mc ms (.ref b :: As) wc Φ X)
    (hP : va_P g.1 vwCl ws H) (hD : va_D A ws) (hS : va_S A s.heap H locs) (hA : ∀ q : Nat, s.heap.size ≤ q → A q) (hl : lv_has ls nL lv)
    (hwc : Cond.code y bytes maxL none ∈ kw) (hwl : Cond.methodLink own index y ∈ kw) (hwi : Cond.instanceMethod y ∈ kw) (hwin : Cond.initialized y.cls ∈ kw) (hy1 : y.name = "<init>")
    (hd : (y.cls ≠ "java/lang/invoke/MethodHandle" ∧ y.cls ≠ "java/lang/invoke/VarHandle") ∧ (parseMethodDescriptor y.desc).map (fun d => d.parameters.length) = some n)
    (isC isR : List Nat) (hC : isC.map (fun i => ws[i]?) = wc.map some) (hR : isR.map (fun i => ws[i]?) = wr.map some) (hn : va_nd isR = true) (hnC : va_nd isC = true) (hdis : ∀ i ∈ isR, i ∉ isC)
    (hlen : As.length = n) (hst : st0 = As.reverse ++ .ref b :: rest) (hW : (rest.map fun v => v.category).sum ≤ 8) (hdg : decode cc pc = .ok (.invokespecial index, 3)) (hRm : fr + 1 ≤ R.frames ∧ 8 + (maxL + 11) + lo ≤ R.locals) (hf : cells + mc ≤ R.cells ∧ slots + ms ≤ R.slots)
    (kx : kOut p l e R s m args below meth c (cells + mc) (slots + ms) Q g A wr X pc ls rest) (kk : kNext p l e R s m args below meth c (cells + mc) (slots + ms) Q g A wr Φ (pc + 3) ls rest) :
    W p l e R s m args below meth c H locs cells slots Q (F0 m pc ls st0) := by
  obtain ⟨hx, hb, hml, hown, -⟩ := K
  subst hst
  obtain ⟨hd1, hd2⟩ := hd
  have hlen2 : ∀ sig, parseMethodDescriptor y.desc = some sig → n = sig.parameters.length := fun sig h => by rw [h] at hd2; exact (Option.some.inj hd2).symm
  exact kcall_core (vx_runI (Ts := kw) (b := b) (As := As) (rest := rest) ⟨hx, hb, hml, hown, G.ws⟩ (hM H.size)
    ⟨⟨rfl, rfl, hRm.1, hRm.2, fun w hw a' U hW' => by rw [List.mem_singleton.mp hw]; exact word_at hW' (Or.inl rfl) (G.w (args := args) hwc), List.mem_singleton.mpr rfl, G.w hwc, G.w hwin, hd1, hlen2, G.w hwl⟩, hy1, G.w hwi⟩
    ⟨kPc_blind, kpre G hP hD hS hA isC hC hnC⟩ rfl hlen hl.1 rfl (lv_room hW) hdg hf) hP hD hS hA isC isR hC hR hn hdis kx kk
/-- a static method -/
theorem kcallS {n : Nat} {As : List Value} (K : KB p s m meth c own nm cc nL ret0) (G : GG g A s s.heap) (hM : kc l g y bytes maxL ret fr lo mc ms As wc Φ X)
    (hP : va_P g.1 vwCl ws H) (hD : va_D A ws) (hS : va_S A s.heap H locs) (hA : ∀ q : Nat, s.heap.size ≤ q → A q) (hl : lv_has ls nL lv)
    (hwc : Cond.code y bytes maxL ret ∈ kw) (hwl : Cond.methodLink own index y ∈ kw) (hwst : Cond.static y ∈ kw) (hwin : Cond.initialized y.cls ∈ kw)
    (hd : (y.cls ≠ "java/lang/invoke/MethodHandle" ∧ y.cls ≠ "java/lang/invoke/VarHandle") ∧ (parseMethodDescriptor y.desc).map (fun d => d.parameters.length) = some n)
    (isC isR : List Nat) (hC : isC.map (fun i => ws[i]?) = wc.map some) (hR : isR.map (fun i => ws[i]?) = wr.map some) (hn : va_nd isR = true) (hnC : va_nd isC = true) (hdis : ∀ i ∈ isR, i ∉ isC)
    (hlen : As.length = n) (hst : st0 = As.reverse ++ rest) (hW : (rest.map fun v => v.category).sum ≤ 8) (hdg : decode cc pc = .ok (.invokestatic index, 3)) (hRm : fr + 1 ≤ R.frames ∧ 8 + (maxL + 11) + lo ≤ R.locals) (hf : cells + mc ≤ R.cells ∧ slots + ms ≤ R.slots)
    (kx : kOut p l e R s m args below meth c (cells + mc) (slots + ms) Q g A wr X pc ls rest) (kk : kNext p l e R s m args below meth c (cells + mc) (slots + ms) Q g A wr Φ (pc + 3) ls rest) :
    W p l e R s m args below meth c H locs cells slots Q (F0 m pc ls st0) := by
  obtain ⟨hx, hb, hml, hown, -⟩ := K
  subst hst
  obtain ⟨hd1, hd2⟩ := hd
  have hlen2 : ∀ sig, parseMethodDescriptor y.desc = some sig → n = sig.parameters.length := fun sig h => by rw [h] at hd2; exact (Option.some.inj hd2).symm
  exact kcall_core (vx_runS (Ts := kw) (As := As) (rest := rest) ⟨hx, hb, hml, hown, G.ws⟩ (hM H.size)
    ⟨⟨rfl, rfl, hRm.1, hRm.2, fun w hw a' U hW' => by rw [List.mem_singleton.mp hw]; exact word_at hW' (Or.inl rfl) (G.w (args := args) hwc), List.mem_singleton.mpr rfl, G.w hwc, G.w hwin, hd1, hlen2, G.w hwl⟩, G.w hwst⟩
    ⟨kPc_blind, kpre G hP hD hS hA isC hC hnC⟩ rfl hlen hl.1 rfl (lv_room hW) hdg hf) hP hD hS hA isC isR hC hR hn hdis kx kk
/-- a static method with handlers of its own -/
theorem kcallSH {n : Nat} {As : List Value} (K : KB p s m meth c own nm cc nL ret0) (G : GG g A s s.heap) (hM : kcH l g y bytes maxL ret hh fr lo mc ms As wc Φ X)
    (hP : va_P g.1 vwCl ws H) (hD : va_D A ws) (hS : va_S A s.heap H locs) (hA : ∀ q : Nat, s.heap.size ≤ q → A q) (hl : lv_has ls nL lv)
    (hwc : Cond.codeWith y bytes maxL ret hh ∈ kw) (hwl : Cond.methodLink own index y ∈ kw) (hwst : Cond.static y ∈ kw) (hwin : Cond.initialized y.cls ∈ kw)
    (hd : (y.cls ≠ "java/lang/invoke/MethodHandle" ∧ y.cls ≠ "java/lang/invoke/VarHandle") ∧ (parseMethodDescriptor y.desc).map (fun d => d.parameters.length) = some n)
    (isC isR : List Nat) (hC : isC.map (fun i => ws[i]?) = wc.map some) (hR : isR.map (fun i => ws[i]?) = wr.map some) (hn : va_nd isR = true) (hnC : va_nd isC = true) (hdis : ∀ i ∈ isR, i ∉ isC)
    (hlen : As.length = n) (hst : st0 = As.reverse ++ rest) (hW : (rest.map fun v => v.category).sum ≤ 8) (hdg : decode cc pc = .ok (.invokestatic index, 3)) (hRm : fr + 1 ≤ R.frames ∧ 8 + (maxL + 11) + lo ≤ R.locals) (hf : cells + mc ≤ R.cells ∧ slots + ms ≤ R.slots)
    (kx : kOut p l e R s m args below meth c (cells + mc) (slots + ms) Q g A wr X pc ls rest) (kk : kNext p l e R s m args below meth c (cells + mc) (slots + ms) Q g A wr Φ (pc + 3) ls rest) :
    W p l e R s m args below meth c H locs cells slots Q (F0 m pc ls st0) := by
  obtain ⟨hx, hb, hml, hown, -⟩ := K
  subst hst
  have hT : GoodIn kw (va_wsS own index y [Cond.codeWith y bytes maxL ret hh]) := by
    intro w hw
    simp only [va_wsS, List.cons_append, List.nil_append, List.mem_cons, List.not_mem_nil, or_false] at hw
    rcases hw with rfl | rfl | rfl | rfl
    · exact ⟨hwl, Or.inl rfl⟩
    · exact ⟨hwst, Or.inl rfl⟩
    · exact ⟨hwin, Or.inl rfl⟩
    · exact ⟨hwc, Or.inl rfl⟩
  exact kcall_core (vx_runSX (Ts := kw) (As := As) (rest := rest) ⟨hx, hb, hml, hown, G.ws⟩ (hM H.size)
    (vx_cwSW n G.ws hT rfl rfl rfl ⟨hd.1.1, hd.1.2, hd.2⟩ hRm)
    ⟨kPc_blind, kpre G hP hD hS hA isC hC hnC⟩ rfl hlen hl.1 rfl (lv_room hW) hdg hf) hP hD hS hA isC isR hC hR hn hdis kx kk
end KCALL
section KROWS
variable {p : Program} {l : Launch} {e : Env} {R : Room} {s : State} {m : MethodId} {args : Array Value} {below : List Frame} {meth : Method} {c : Code} {H : Heap} {locs : List Loc} {cells slots : Nat} {Q : State → Prop}
variable {g : kG} {A : Nat → Prop} {own nm : String} {cc : ByteArray} {nL : Nat} {ret0 : Option FieldType} {ws wc wr : va_W} {pc : Nat} {ls : Array Slot} {st0 rest : List Value}
variable {Φ : Option Value → va_W → Prop} {X : String → va_W → Prop} {mc ms : Nat} {lv : List (Nat × Value)}
theorem GG.same {o ref n d : String} {h : Heap} (G : GG g A s h) (hw : Cond.sameField ref o n d ∈ kw) : ∀ x, s.fieldFound? o n d = some x → s.fieldFound? ref n d = some x := fun x hx => u_same (G.w (args := #[]) hw) x hx
theorem GG.str {own tx : String} {k : Nat} {h : Heap} (G : GG g A s h) (hq : (own, k, tx) ∈ kstr) : ∃ a, vk_R own k tx a s := G.2.2.1 _ hq
theorem GG.nc {C T : String} {h : Heap} (G : GG g A s h) (hq : (C, T) ∈ knc) : va_Nc C T s := G.2.2.2.1 _ hq
theorem GG.ao {h : Heap} (G : GG g A s h) : va_AO "java/lang/Object" s := G.2.2.2.2.1
theorem GG.aoa {h : Heap} (G : GG g A s h) : va_AOA .int s ∧ va_AOA .boolean s ∧ va_AOA (.array .int) s := G.2.2.2.2.2.1
theorem GG.st {h : Heap} (G : GG g A s h) : vk_S 2 [4, 3] [[110, 101, 115, 119], [115, 109, 114]] g.2.2.2.1 g.2.2.2.2 A s h := G.2.2.2.2.2.2.1.1
theorem GG.cs {h : Heap} (G : GG g A s h) : va_Z "java/lang/String" "COMPACT_STRINGS" "Z" (.int 1) A s h := G.2.2.2.2.2.2.1.2.1
theorem GG.ways {h : Heap} (G : GG g A s h) : vk_R "GalleonWaveModel" kWAYS "nesw" (g.2.2.2.1 0) s := G.2.2.2.2.2.2.1.2.2.1
theorem GG.bots {h : Heap} (G : GG g A s h) : vk_R "GalleonWaveModel" kBOTS "smr" (g.2.2.2.1 1) s := G.2.2.2.2.2.2.1.2.2.2
theorem GG.Z {h : Heap} (G : GG g A s h) : va_Z kE "DEFAULTCAPACITY_EMPTY_ELEMENTDATA" "[Ljava/lang/Object;" (.ref g.2.1) A s h := G.2.2.2.2.2.2.2.1
theorem GG.E {h : Heap} (G : GG g A s h) : va_T (.object "java/lang/Object") g.2.1 0 (fun _ => .null) A s h := G.2.2.2.2.2.2.2.2.1
theorem GG.U {h : Heap} (G : GG g A s h) : vx_Zq Bundle.tN "UNASSIGNED_STACK" Bundle.steD A s h := G.2.2.2.2.2.2.2.2.2.1
theorem GG.S {h : Heap} (G : GG g A s h) : vx_Zq Bundle.tN "SUPPRESSED_SENTINEL" Bundle.listD A s h := G.2.2.2.2.2.2.2.2.2.2
theorem ksubP {D : va_G} {ws w1 : va_W} {H : Heap} (hP : va_P D vwCl ws H) (isW : List Nat) (hw : isW.map (fun i => ws[i]?) = w1.map some) : va_P D vwCl w1 H := by
  refine hP.sub isW ?_
  have h1 : isW.filterMap (fun i => ws[i]?) = (isW.map (fun i => ws[i]?)).filterMap id := by rw [List.filterMap_map]; rfl
  rw [h1, hw, List.filterMap_map]
  show w1.filterMap some = w1
  exact List.filterMap_some
theorem kretI {v : Int32} (K : KB p s m meth c own nm cc nL (some .int)) (hP : va_P g.1 vwCl ws H) (hD : va_D A ws) (hS : va_S A s.heap H locs) (isW : List Nat) (w1 : va_W) (hw : isW.map (fun i => ws[i]?) = w1.map some) (hn : va_nd isW = true) (hΦ : Φ (some (.int v)) w1) (hc : cells ≤ mc) (hs : slots ≤ ms) (hdg : decode cc pc = .ok (.ireturn, 1)) :
    W p l e R s m args below meth c H locs cells slots (vx_MQ below (kQ g Φ A) (kX g X A) args s mc ms A) (F0 m pc ls [.int v]) := by
  obtain ⟨hx, hb, -, -, hlocks, hr, -⟩ := K
  refine W.widen hc hs (vx_ret ?_)
  exact W.iret hx hb hr (fun t ht hW => ⟨⟨_, w1, rfl, hΦ, by rw [ht]; exact ksubP hP isW hw, hD.sub isW hn hw⟩, hS.F ht⟩) hS.2.2 hdg hlocks
theorem kretZ {v : Int32} {ty : FieldType} (K : KB p s m meth c own nm cc nL (some ty)) (hP : va_P g.1 vwCl ws H) (hD : va_D A ws) (hS : va_S A s.heap H locs) (isW : List Nat) (w1 : va_W) (hw : isW.map (fun i => ws[i]?) = w1.map some) (hn : va_nd isW = true) (hΦ : Φ (some (.int v)) w1) (hc : cells ≤ mc) (hs : slots ≤ ms) (hdg : decode cc pc = .ok (.ireturn, 1)) (hnar : narrow ty (.int v) = .int v := by rfl) :
    W p l e R s m args below meth c H locs cells slots (vx_MQ below (kQ g Φ A) (kX g X A) args s mc ms A) (F0 m pc ls [.int v]) := by
  obtain ⟨hx, hb, -, -, hlocks, hr, -⟩ := K
  refine W.widen hc hs (vx_ret ?_)
  exact W.zret hx hb hr hnar (fun t ht hW => ⟨⟨_, w1, rfl, hΦ, by rw [ht]; exact ksubP hP isW hw, hD.sub isW hn hw⟩, hS.F ht⟩) hS.2.2 hdg hlocks
theorem kretL {v : Int64} (K : KB p s m meth c own nm cc nL (some .long)) (hP : va_P g.1 vwCl ws H) (hD : va_D A ws) (hS : va_S A s.heap H locs) (isW : List Nat) (w1 : va_W) (hw : isW.map (fun i => ws[i]?) = w1.map some) (hn : va_nd isW = true) (hΦ : Φ (some (.long v)) w1) (hc : cells ≤ mc) (hs : slots ≤ ms) (hdg : decode cc pc = .ok (.lreturn, 1)) :
    W p l e R s m args below meth c H locs cells slots (vx_MQ below (kQ g Φ A) (kX g X A) args s mc ms A) (F0 m pc ls [.long v]) := by
  obtain ⟨hx, hb, -, -, hlocks, hr, -⟩ := K
  refine W.widen hc hs (vx_ret ?_)
  exact W.lret hx hb hr (fun t ht hW => ⟨⟨_, w1, rfl, hΦ, by rw [ht]; exact ksubP hP isW hw, hD.sub isW hn hw⟩, hS.F ht⟩) hS.2.2 hdg hlocks
theorem kretV (K : KB p s m meth c own nm cc nL none) (hP : va_P g.1 vwCl ws H) (hD : va_D A ws) (hS : va_S A s.heap H locs) (isW : List Nat) (w1 : va_W) (hw : isW.map (fun i => ws[i]?) = w1.map some) (hn : va_nd isW = true) (hΦ : Φ none w1) (hc : cells ≤ mc) (hs : slots ≤ ms) (hdg : decode cc pc = .ok (.return_, 1)) :
    W p l e R s m args below meth c H locs cells slots (vx_MQ below (kQ g Φ A) (kX g X A) args s mc ms A) (F0 m pc ls []) := by
  obtain ⟨hx, hb, -, -, hlocks, hr, -⟩ := K
  refine W.widen hc hs (vx_ret ?_)
  exact W.vret hx hb hr (fun t ht hW => ⟨⟨_, w1, rfl, hΦ, by rw [ht]; exact ksubP hP isW hw, hD.sub isW hn hw⟩, hS.F ht⟩) hS.2.2 hdg hlocks
theorem kretA {v : Nat} {rt : FieldType} (K : KB p s m meth c own nm cc nL (some rt)) (hP : va_P g.1 vwCl ws H) (hD : va_D A ws) (hS : va_S A s.heap H locs) (isW : List Nat) (w1 : va_W) (hw : isW.map (fun i => ws[i]?) = w1.map some) (hn : va_nd isW = true) (hΦ : Φ (some (.ref v)) w1) (hc : cells ≤ mc) (hs : slots ≤ ms) (hdg : decode cc pc = .ok (.areturn, 1)) (hrt : (∃ n, rt = .object n) ∨ ∃ t, rt = .array t := by first | exact Or.inl ⟨_, rfl⟩ | exact Or.inr ⟨_, rfl⟩) :
    W p l e R s m args below meth c H locs cells slots (vx_MQ below (kQ g Φ A) (kX g X A) args s mc ms A) (F0 m pc ls [.ref v]) := by
  obtain ⟨hx, hb, -, -, hlocks, hr, -⟩ := K
  refine W.widen hc hs (vx_ret ?_)
  exact W.aret hx hb hr hrt (Or.inr ⟨_, rfl⟩) (fun t ht hW => ⟨⟨_, w1, rfl, hΦ, by rw [ht]; exact ksubP hP isW hw, hD.sub isW hn hw⟩, hS.F ht⟩) hS.2.2 hdg hlocks
/-- thrown by a callee, not caught here -/
theorem kthrow {E : String} {ce : Cell} {q9 : Nat} (K : KB p s m meth c own nm cc nL ret0) (ht : ∀ x ∈ c.exceptionTable.toList, False) (hP : va_P g.1 vwCl ws H) (hD : va_D A ws) (hS : va_S A s.heap H locs) (hce : H[q9]? = some ce) (hcv : ce.vm = .none) (hcl : s.vm.findClass E = some ce.cls)
    (isW : List Nat) (w1 : va_W) (hw : isW.map (fun i => ws[i]?) = w1.map some) (hn : va_nd isW = true) (hX : X E w1) (hc : cells ≤ mc) (hs : slots ≤ ms) :
    vx_W p l e R s m args below meth c H locs cells slots (vx_MQ below (kQ g Φ A) (kX g X A) args s mc ms A) (F0 m pc ls rest) q9 :=
  vx_out (fun x hx => (ht x hx).elim) K.2.2.2.2.1 hce hcv hcl (fun t ht' hal => ⟨⟨w1, hX, by rw [ht']; exact ksubP hP isW hw, hD.sub isW hn hw⟩, hS.F ht'⟩) hS.2.2 hc hs
theorem kthrowNew {cls text : String} {names : List String} {ik is ic : Nat} (hl0 : l.stackTraces = false) (K : KB p s m meth c own nm cc nL ret0) (ht : ∀ x ∈ c.exceptionTable.toList, False) (G : GG g A s s.heap) (hP : va_P g.1 vwCl ws H) (hD : va_D A ws) (hS : va_S A s.heap H locs) (hl : lv_has ls nL lv)
    (hcls : Bundle.fit cls = true) (hnames : ∀ n ∈ names, Bundle.fit n = true) (hk : Cond.classLink own ik cls ∈ kw) (hini : Cond.initialized cls ∈ kw) (hstr : ∃ a, vk_R own is text a s)
    (hat : ∀ w ∈ vx_atS own ic cls names, w ∈ kw) (hgood : ∀ w ∈ Cond.classLink own ik cls :: Cond.initialized cls :: vx_atS own ic cls names, vx_ot w = true)
    (d0 : decode cc pc = .ok (.new ik, 3)) (d3 : decode cc (pc + 3) = .ok (.dup, 1)) (d4 : decode cc (pc + 4) = .ok (.ldc is, 2)) (d6 : decode cc (pc + 6) = .ok (.invokespecial ic, 3)) (d9 : decode cc (pc + 9) = .ok (.athrow, 1))
    (hRframes : names.length + 3 < R.frames) (hRlocals : (rest.map fun v => v.category).sum + (13 * (names.length + 1) + 43) ≤ R.locals) (hRcells : cells + 1 ≤ R.cells) (hRslots : slots + 6 ≤ R.slots)
    (isW : List Nat) (w1 : va_W) (hw : isW.map (fun i => ws[i]?) = w1.map some) (hn : va_nd isW = true) (hX : X cls w1) (hc : cells + 1 ≤ mc) (hs : slots + 6 ≤ ms) :
    W p l e R s m args below meth c H locs cells slots (vx_MQ below (kQ g Φ A) (kX g X A) args s mc ms A) (F0 m pc ls rest) := by
  obtain ⟨hx, hb, hml, hown, hlocks, -, -⟩ := K
  obtain ⟨sa, hsa⟩ := hstr
  refine vx_throwS (A := A) hx hb hl0 hown hcls hnames (G.w hk) (G.w hini) hsa (fun w hw9 => G.w (hat w hw9)) hgood G.U G.S hS (hl.1.trans hml.symm) d0 d3 d4 d6 d9 (fun x hx9 => (ht x hx9).elim) hRframes hRlocals hRcells hRslots hlocks (fun t hal hz hk9 => ?_) hS.2.2 hc hs
  have hP2 : va_P g.1 vwCl w1 t.heap := (ksubP hP isW hw).kept (fun k x hx9 => hk9 x.1 ((ksubP hP isW hw k x hx9).lt))
  exact ⟨⟨w1, hX, hP2, hD.sub isW hn hw⟩, Nat.le_trans hS.1 hz, fun q h1 h2 => (hk9 q (Nat.lt_of_lt_of_le h1 hS.1)).trans (hS.2.1 q h1 h2)⟩
theorem kthrowNewW {cls text : String} {names : List String} {ik is ic : Nat} (hl0 : l.stackTraces = false) (K : KB p s m meth c own nm cc nL ret0) (ht : ∀ x ∈ c.exceptionTable.toList, False) (G : GG g A s s.heap) (hP : va_P g.1 vwCl ws H) (hD : va_D A ws) (hS : va_S A s.heap H locs) (hl : lv_has ls nL lv)
    (hcls : Bundle.fit cls = true) (hnames : ∀ n ∈ names, Bundle.fit n = true) (hk : Cond.classLink own ik cls ∈ kw) (hini : Cond.initialized cls ∈ kw) (hstr : ∃ a, vk_R own is text a s)
    (hat : ∀ w ∈ vx_atS own ic cls names, w ∈ kw) (hgood : ∀ w ∈ Cond.classLink own ik cls :: Cond.initialized cls :: vx_atS own ic cls names, vx_ot w = true)
    (d0 : decode cc pc = .ok (.new ik, 3)) (d3 : decode cc (pc + 3) = .ok (.dup, 1)) (d4 : decode cc (pc + 4) = .ok (.ldc_w is, 3)) (d7 : decode cc (pc + 7) = .ok (.invokespecial ic, 3)) (d10 : decode cc (pc + 10) = .ok (.athrow, 1))
    (hRframes : names.length + 3 < R.frames) (hRlocals : (rest.map fun v => v.category).sum + (13 * (names.length + 1) + 43) ≤ R.locals) (hRcells : cells + 1 ≤ R.cells) (hRslots : slots + 6 ≤ R.slots)
    (isW : List Nat) (w1 : va_W) (hw : isW.map (fun i => ws[i]?) = w1.map some) (hn : va_nd isW = true) (hX : X cls w1) (hc : cells + 1 ≤ mc) (hs : slots + 6 ≤ ms) :
    W p l e R s m args below meth c H locs cells slots (vx_MQ below (kQ g Φ A) (kX g X A) args s mc ms A) (F0 m pc ls rest) := by
  obtain ⟨hx, hb, hml, hown, hlocks, -, -⟩ := K
  obtain ⟨sa, hsa⟩ := hstr
  refine vx_throwSW (A := A) hx hb hl0 hown hcls hnames (G.w hk) (G.w hini) hsa (fun w hw9 => G.w (hat w hw9)) hgood G.U G.S hS (hl.1.trans hml.symm) d0 d3 d4 d7 d10 (fun x hx9 => (ht x hx9).elim) hRframes hRlocals hRcells hRslots hlocks (fun t hal hz hk9 => ?_) hS.2.2 hc hs
  have hP2 : va_P g.1 vwCl w1 t.heap := (ksubP hP isW hw).kept (fun k x hx9 => hk9 x.1 ((ksubP hP isW hw k x hx9).lt))
  exact ⟨⟨w1, hX, hP2, hD.sub isW hn hw⟩, Nat.le_trans hS.1 hz, fun q h1 h2 => (hk9 q (Nat.lt_of_lt_of_le h1 hS.1)).trans (hS.2.1 q h1 h2)⟩
/-- a new array, its class the launch's own -/
theorem knewa {atype : ArrayType} {ty : FieldType} {t0 : Nat} {cI : ClassId} {n : Int32} {N : Nat} {a0 : vp_A} (hx : p.tables.exec = Jvm.exec) (hb : c.code = cc) (harr : (Cond.arrayClass (newarray.typeOf atype)).before args s = true) (hty : newarray.typeOf atype = ty) (G : GG g A s s.heap) (ht0 : (kty g)[t0]? = some (cI, ty)) (hcls : ∀ cA, va_RA s cA ty → s.vm.findClass ("[" ++ ty.toString) = some cA)
    (hP : va_P g.1 vwCl ws H) (hD : va_D A ws) (hS : va_S A s.heap H locs) (hA : ∀ q : Nat, s.heap.size ≤ q → A q) (ha : ∀ cA : ClassId, vp_cell cA a0 = arrV cA N (fun _ => defaultValue ty)) (hn : ¬ n < 0) (hN : n.toNatClampNeg = N) (hbytes : N * componentBytes ty ≤ 536870912) (hcells : cells + 1 ≤ R.cells) (hslots : slots + N ≤ R.slots) (hdg : decode cc pc = .ok (.newarray atype, 2))
    (kk : ∀ (q : Nat) (H1 : Heap), va_P g.1 vwCl (ws ++ [(q, .inl (cI, a0))]) H1 → va_D A (ws ++ [(q, .inl (cI, a0))]) → va_S A s.heap H1 locs → W p l e R s m args below meth c H1 locs (cells + 1) (slots + N) Q (F0 m (pc + 2) ls (.ref q :: rest))) : W p l e R s m args below meth c H locs cells slots Q (F0 m pc ls (.int n :: rest)) := by
  refine va_newa hx hb harr hty G.K hP hD hS hA ha hn hN hbytes hcells hslots hdg (fun q cA H1 hK hP hD hS => ?_)
  have h1 := (G.K.2 t0 _ ht0).2
  have h2 := (hK.2 (kty g).length (cA, ty) (by simp)).2
  have h3 := (hcls _ h1).symm.trans (hcls _ h2)
  cases h3
  exact kk q H1 hP hD hS
theorem kNewa0 {n : Int32} {N : Nat} (hx : p.tables.exec = Jvm.exec) (hb : c.code = cc) (harr : (Cond.arrayClass .int).before args s = true) (G : GG g A s s.heap) (hP : va_P g.1 vwCl ws H) (hD : va_D A ws) (hS : va_S A s.heap H locs) (hA : ∀ q : Nat, s.heap.size ≤ q → A q) (hn : ¬ n < 0) (hN : n.toNatClampNeg = N) (hbytes : N * componentBytes .int ≤ 536870912) (hcells : cells + 1 ≤ R.cells) (hslots : slots + N ≤ R.slots) (hdg : decode cc pc = .ok (.newarray .int, 2))
    (kk : ∀ (q : Nat) (H1 : Heap), va_P g.1 vwCl (ws ++ [(q, .inl (g.2.2.1 0, N, .inl (fun _ => 0)))]) H1 → va_D A (ws ++ [(q, .inl (g.2.2.1 0, N, .inl (fun _ => 0)))]) → va_S A s.heap H1 locs → W p l e R s m args below meth c H1 locs (cells + 1) (slots + N) Q (F0 m (pc + 2) ls (.ref q :: rest))) : W p l e R s m args below meth c H locs cells slots Q (F0 m pc ls (.int n :: rest)) :=
  knewa (a0 := (N, .inl (fun _ => 0))) (atype := .int) (ty := .int) (t0 := 0) (cI := g.2.2.1 0) hx hb harr rfl G rfl (fun cA h => h) hP hD hS hA (fun _ => rfl) hn hN hbytes hcells hslots hdg kk
theorem kNewa1 {n : Int32} {N : Nat} (hx : p.tables.exec = Jvm.exec) (hb : c.code = cc) (harr : (Cond.arrayClass .long).before args s = true) (G : GG g A s s.heap) (hP : va_P g.1 vwCl ws H) (hD : va_D A ws) (hS : va_S A s.heap H locs) (hA : ∀ q : Nat, s.heap.size ≤ q → A q) (hn : ¬ n < 0) (hN : n.toNatClampNeg = N) (hbytes : N * componentBytes .long ≤ 536870912) (hcells : cells + 1 ≤ R.cells) (hslots : slots + N ≤ R.slots) (hdg : decode cc pc = .ok (.newarray .long, 2))
    (kk : ∀ (q : Nat) (H1 : Heap), va_P g.1 vwCl (ws ++ [(q, .inl (g.2.2.1 1, N, .inr (.inl (fun _ => 0))))]) H1 → va_D A (ws ++ [(q, .inl (g.2.2.1 1, N, .inr (.inl (fun _ => 0))))]) → va_S A s.heap H1 locs → W p l e R s m args below meth c H1 locs (cells + 1) (slots + N) Q (F0 m (pc + 2) ls (.ref q :: rest))) : W p l e R s m args below meth c H locs cells slots Q (F0 m pc ls (.int n :: rest)) :=
  knewa (a0 := (N, .inr (.inl (fun _ => 0)))) (atype := .long) (ty := .long) (t0 := 1) (cI := g.2.2.1 1) hx hb harr rfl G rfl (fun cA h => h) hP hD hS hA (fun _ => rfl) hn hN hbytes hcells hslots hdg kk
theorem kNewa2 {n : Int32} {N : Nat} (hx : p.tables.exec = Jvm.exec) (hb : c.code = cc) (harr : (Cond.arrayClass .boolean).before args s = true) (G : GG g A s s.heap) (hP : va_P g.1 vwCl ws H) (hD : va_D A ws) (hS : va_S A s.heap H locs) (hA : ∀ q : Nat, s.heap.size ≤ q → A q) (hn : ¬ n < 0) (hN : n.toNatClampNeg = N) (hbytes : N * componentBytes .boolean ≤ 536870912) (hcells : cells + 1 ≤ R.cells) (hslots : slots + N ≤ R.slots) (hdg : decode cc pc = .ok (.newarray .boolean, 2))
    (kk : ∀ (q : Nat) (H1 : Heap), va_P g.1 vwCl (ws ++ [(q, .inl (g.2.2.1 2, N, .inl (fun _ => 0)))]) H1 → va_D A (ws ++ [(q, .inl (g.2.2.1 2, N, .inl (fun _ => 0)))]) → va_S A s.heap H1 locs → W p l e R s m args below meth c H1 locs (cells + 1) (slots + N) Q (F0 m (pc + 2) ls (.ref q :: rest))) : W p l e R s m args below meth c H locs cells slots Q (F0 m pc ls (.int n :: rest)) :=
  knewa (a0 := (N, .inl (fun _ => 0))) (atype := .boolean) (ty := .boolean) (t0 := 2) (cI := g.2.2.1 2) hx hb harr rfl G rfl (fun cA h => h) hP hD hS hA (fun _ => rfl) hn hN hbytes hcells hslots hdg kk
theorem kNewa3 {n : Int32} {N : Nat} (hx : p.tables.exec = Jvm.exec) (hb : c.code = cc) (harr : (Cond.arrayClass .double).before args s = true) (G : GG g A s s.heap) (hP : va_P g.1 vwCl ws H) (hD : va_D A ws) (hS : va_S A s.heap H locs) (hA : ∀ q : Nat, s.heap.size ≤ q → A q) (hn : ¬ n < 0) (hN : n.toNatClampNeg = N) (hbytes : N * componentBytes .double ≤ 536870912) (hcells : cells + 1 ≤ R.cells) (hslots : slots + N ≤ R.slots) (hdg : decode cc pc = .ok (.newarray .double, 2))
    (kk : ∀ (q : Nat) (H1 : Heap), va_P g.1 vwCl (ws ++ [(q, .inl (g.2.2.1 3, N, .inr (.inr (.inr (.inl (fun _ => 0))))))]) H1 → va_D A (ws ++ [(q, .inl (g.2.2.1 3, N, .inr (.inr (.inr (.inl (fun _ => 0))))))]) → va_S A s.heap H1 locs → W p l e R s m args below meth c H1 locs (cells + 1) (slots + N) Q (F0 m (pc + 2) ls (.ref q :: rest))) : W p l e R s m args below meth c H locs cells slots Q (F0 m pc ls (.int n :: rest)) :=
  knewa (a0 := (N, .inr (.inr (.inr (.inl (fun _ => 0)))))) (atype := .double) (ty := .double) (t0 := 3) (cI := g.2.2.1 3) hx hb harr rfl G rfl (fun cA h => h) hP hD hS hA (fun _ => rfl) hn hN hbytes hcells hslots hdg kk
end KROWS
/-- in a range, as an answer -/
def inR (x lo hi : Int32) : Bool := decide (lo ≤ x) && decide (x ≤ hi)
theorem inR_t {x lo hi : Int32} (h1 : ¬ x < lo) (h2 : x ≤ hi) : inR x lo hi = true := by
  have h3 : lo ≤ x := Int32.not_lt.mp h1
  simp [inR, h3, h2]
theorem inR_l {x lo hi : Int32} (h1 : x < lo) : inR x lo hi = false := by
  have h3 : ¬ lo ≤ x := fun h => absurd h1 (Int32.not_lt.mpr h)
  simp [inR, h3]
theorem inR_g {x lo hi : Int32} (h1 : ¬ x ≤ hi) : inR x lo hi = false := by
  simp [inR, h1]
theorem inR_t' {x lo hi : Int32} (h1 : lo ≤ x) (h2 : x ≤ hi) : inR x lo hi = true := by simp [inR, h1, h2]
theorem inR_l' {x lo hi : Int32} (h1 : ¬ lo ≤ x) : inR x lo hi = false := by simp [inR, h1]
def kz (b : Bool) : Int32 := if b then 1 else 0
theorem kz_0 {b : Bool} : kz b = 0 ↔ b = false := by cases b <;> decide
theorem kz_n0 {b : Bool} : ¬ kz b = 0 ↔ b = true := by cases b <;> decide
theorem kz_nar (b : Bool) : narrow .boolean (.int (kz b)) = .int (kz b) := by cases b <;> rfl
theorem kNewaO {p : Program} {l : Launch} {e : Env} {R : Room} {s : State} {m : MethodId} {args : Array Value} {below : List Frame} {meth : Method} {c : Code} {H : Heap} {locs : List Loc} {cells slots : Nat} {Q : State → Prop} {g : kG} {A : Nat → Prop} {own : String} {cc : ByteArray} {ws : va_W} {pc : Nat} {ls : Array Slot} {rest : List Value} {n : Int32} {N index : Nat} (hx : p.tables.exec = Jvm.exec) (hb : c.code = cc) (hown : s.vm.findClass own = some m.cls) (hcl : (Cond.classLink own index "java/lang/Object").before args s = true) (G : GG g A s s.heap) (hP : va_P g.1 vwCl ws H) (hD : va_D A ws) (hS : va_S A s.heap H locs) (hA : ∀ q : Nat, s.heap.size ≤ q → A q) (hn : ¬ n < 0) (hN : n.toNatClampNeg = N) (hbytes : N * 4 ≤ 536870912) (hcells : cells + 1 ≤ R.cells) (hslots : slots + N ≤ R.slots) (hdg : decode cc pc = .ok (.anewarray index, 3))
    (kk : ∀ (q : Nat) (H1 : Heap), va_P g.1 vwCl (ws ++ [(q, .inl (g.2.2.1 4, N, .inr (.inr (.inr (.inr (fun _ => none))))))]) H1 → va_D A (ws ++ [(q, .inl (g.2.2.1 4, N, .inr (.inr (.inr (.inr (fun _ => none))))))]) → va_S A s.heap H1 locs → W p l e R s m args below meth c H1 locs (cells + 1) (slots + N) Q (F0 m (pc + 3) ls (.ref q :: rest))) : W p l e R s m args below meth c H locs cells slots Q (F0 m pc ls (.int n :: rest)) := by
  refine va_newq hx hb hown hcl G.ao G.K hP hD hS hA hn hN hbytes hcells hslots hdg (fun q cA H1 hK hP hD hS => ?_)
  obtain ⟨_, _, _, _, _, h1⟩ := (G.K.2 4 (g.2.2.1 4, .object "java/lang/Object") rfl).2
  obtain ⟨_, _, _, _, _, h2⟩ := (hK.2 (kty g).length (cA, .object "java/lang/Object") (by simp)).2
  have h3 := h1.symm.trans h2
  cases h3
  exact kk q H1 hP hD hS
theorem inR_n {x lo hi : Int32} {N : Nat} (h : inR x lo hi = true) (h0 : (0 : Int32) ≤ lo) (hN : hi.toInt = N) : ∃ n : Nat, n ≤ N ∧ x = nI n := by
  simp only [inR, Bool.and_eq_true, decide_eq_true_eq] at h
  exact nI_of2 hN (Int32.not_lt.mpr (Int32.le_trans h0 h.1)) h.2
/-! rows of mine: arrays that are made and not looked at again, arrays of arrays -/
theorem kdropP {D : va_G} {w1 w2 : va_W} {H : Heap} (h : va_P D vwCl (w1 ++ w2) H) : va_P D vwCl w1 H := fun k q hk => h k q (by rw [List.getElem?_append_left (List.getElem?_eq_some_iff.mp hk).1]; exact hk)
theorem kdropD {A : Nat → Prop} {w1 w2 : va_W} (h : va_D A (w1 ++ w2)) : va_D A w1 :=
  ⟨fun i j p q hi hj he => h.1 i j p q (by rw [List.getElem?_append_left (List.getElem?_eq_some_iff.mp hi).1]; exact hi) (by rw [List.getElem?_append_left (List.getElem?_eq_some_iff.mp hj).1]; exact hj) he,
   fun k q hk => h.2 k q (by rw [List.getElem?_append_left (List.getElem?_eq_some_iff.mp hk).1]; exact hk)⟩
section KROWS3
variable {p : Program} {l : Launch} {e : Env} {R : Room} {s : State} {m : MethodId} {args : Array Value} {below : List Frame} {meth : Method} {c : Code} {H : Heap} {locs : List Loc} {cells slots : Nat} {Q : State → Prop}
variable {g : kG} {A : Nat → Prop} {own nm : String} {cc : ByteArray} {nL : Nat} {ret0 : Option FieldType} {ws wc wr : va_W} {pc : Nat} {ls : Array Slot} {st0 rest : List Value}
variable {Φ : Option Value → va_W → Prop} {X : String → va_W → Prop} {mc ms : Nat} {lv : List (Nat × Value)}
theorem kc0 {h : Heap} (G : GG g A s h) : s.vm.findClass "[I" = some (g.2.2.1 0) := (G.K.2 0 (g.2.2.1 0, .int) rfl).2
theorem kc5 {h : Heap} (G : GG g A s h) : s.vm.findClass "[[I" = some (g.2.2.1 5) := (G.K.2 5 (g.2.2.1 5, .array .int) rfl).2
theorem knewaD {atype : ArrayType} {ty : FieldType} {n : Int32} {N : Nat} {a0 : vp_A} (hx : p.tables.exec = Jvm.exec) (hb : c.code = cc) (harr : (Cond.arrayClass (newarray.typeOf atype)).before args s = true) (hty : newarray.typeOf atype = ty) (G : GG g A s s.heap)
    (hP : va_P g.1 vwCl ws H) (hD : va_D A ws) (hS : va_S A s.heap H locs) (hA : ∀ q : Nat, s.heap.size ≤ q → A q) (ha : ∀ cA : ClassId, vp_cell cA a0 = arrV cA N (fun _ => defaultValue ty)) (hn : ¬ n < 0) (hN : n.toNatClampNeg = N) (hbytes : N * componentBytes ty ≤ 536870912) (hcells : cells + 1 ≤ R.cells) (hslots : slots + N ≤ R.slots) (hdg : decode cc pc = .ok (.newarray atype, 2))
    (kk : ∀ (q : Nat) (H1 : Heap), va_P g.1 vwCl ws H1 → va_D A ws → va_S A s.heap H1 locs → W p l e R s m args below meth c H1 locs (cells + 1) (slots + N) Q (F0 m (pc + 2) ls (.ref q :: rest))) : W p l e R s m args below meth c H locs cells slots Q (F0 m pc ls (.int n :: rest)) := by
  refine va_newa hx hb harr hty G.K hP hD hS hA ha hn hN hbytes hcells hslots hdg (fun q cA H1 hK hP hD hS => ?_)
  exact kk q H1 (kdropP hP) (kdropD hD) hS
theorem kmnaD {ty : FieldType} {cy : ClassId} {index : Nat} {n k : Int32} {N K : Nat} {z : vp_A} (hx : p.tables.exec = Jvm.exec) (hb : c.code = cc) (hown : s.vm.findClass own = some m.cls) (hcl : (Cond.classLink own index ("[" ++ (FieldType.array ty).toString)).before args s = true) (hover : va_AOA ty s) (harr : (Cond.arrayClass ty).before args s = true) (hcy : s.vm.findClass (FieldType.array ty).toString = some cy) (G : GG g A s s.heap)
    (hP : va_P g.1 vwCl ws H) (hD : va_D A ws) (hS : va_S A s.heap H locs) (hA : ∀ q : Nat, s.heap.size ≤ q → A q) (hn : ¬ n < 0) (hk : ¬ k < 0) (hN : n.toNatClampNeg = N) (hK : k.toNatClampNeg = K) (hb1 : N * 4 ≤ 536870912) (hb2 : K * componentBytes ty ≤ 536870912) (hb3 : K ≤ 536870912) (hdf : fits ty (defaultValue ty) = true) (hdd : (defaultValue ty).isDefault = true)
    (hcells : cells + (1 + N) ≤ R.cells) (hslots : slots + (N + N * K) ≤ R.slots) (hz : ∀ c : ClassId, Jvm.Free.Multi.innerC c K (defaultValue ty) = vp_cell c z) (hdg : decode cc pc = .ok (.multianewarray index 2, 4))
    (kk : ∀ (q : Nat) (H1 : Heap), va_P g.1 vwCl ws H1 → va_D A ws → va_S A s.heap H1 locs → W p l e R s m args below meth c H1 locs (cells + 1 + N) (slots + N + N * K) Q (F0 m (pc + 4) ls (.ref q :: rest))) : W p l e R s m args below meth c H locs cells slots Q (F0 m pc ls (.int k :: .int n :: rest)) := by
  refine va_mna (X := ws) (L := []) (f := fun _ => .inl (0, (0, .inl fun _ => 0))) hx hb hown hcl hover harr hcy G.K (by rw [show va_pl [] _ = [] from rfl, List.append_nil]; exact hP) (by rw [show va_pl [] _ = [] from rfl, List.append_nil]; exact hD) hS hA hn hk hN hK hb1 hb2 hb3 hdf hdd hcells hslots hz hdg (fun q r cA H1 _ _ _ hP hD hS => ?_)
  exact kk q H1 (kdropP (kdropP hP)) (kdropD (kdropD hD)) hS
theorem kmnaK {index : Nat} {n k : Int32} {N K : Nat} (hx : p.tables.exec = Jvm.exec) (hb : c.code = cc) (hown : s.vm.findClass own = some m.cls) (hcl : (Cond.classLink own index "[[I").before args s = true) (harr : (Cond.arrayClass .int).before args s = true) (G : GG g A s s.heap)
    (hP : va_P g.1 vwCl ws H) (hD : va_D A ws) (hS : va_S A s.heap H locs) (hA : ∀ q : Nat, s.heap.size ≤ q → A q) (hn : ¬ n < 0) (hk : ¬ k < 0) (hN : n.toNatClampNeg = N + 1) (hK : k.toNatClampNeg = K) (hb1 : (N + 1) * 4 ≤ 536870912) (hb2 : K * 4 ≤ 536870912)
    (hcells : cells + (1 + (N + 1)) ≤ R.cells) (hslots : slots + (N + 1 + (N + 1) * K) ≤ R.slots) (hdg : decode cc pc = .ok (.multianewarray index 2, 4))
    (kk : ∀ (q q0 : Nat) (f : Nat → Option Nat) (H1 : Heap), va_P g.1 vwCl (ws ++ [(q, .inl (g.2.2.1 5, N + 1, .inr (.inr (.inr (.inr (va_up f 0 (some q0))))))), (q0, .inl (g.2.2.1 0, K, .inl (fun _ => 0)))]) H1 → va_D A (ws ++ [(q, .inl (g.2.2.1 5, N + 1, .inr (.inr (.inr (.inr (va_up f 0 (some q0))))))), (q0, .inl (g.2.2.1 0, K, .inl (fun _ => 0)))]) → va_S A s.heap H1 locs → W p l e R s m args below meth c H1 locs (cells + 1 + (N + 1)) (slots + (N + 1) + (N + 1) * K) Q (F0 m (pc + 4) ls (.ref q :: rest))) : W p l e R s m args below meth c H locs cells slots Q (F0 m pc ls (.int k :: .int n :: rest)) := by
  have hz : ∀ c : ClassId, Jvm.Free.Multi.innerC c K (defaultValue .int) = vp_cell c (K, .inl (fun _ => 0)) := fun c => by
    rw [vp_cell_i]
    show ({ cls := c, slots := Array.replicate K (.int 0), vm := .none } : Cell) = _
    exact arrV_new ..
  refine va_mna (X := ws) (L := []) (f := fun _ => .inl (0, (0, .inl fun _ => 0))) (ty := .int) (cy := g.2.2.1 0) (z := (K, .inl (fun _ => 0))) hx hb hown hcl G.aoa.1 harr (kc0 G) G.K (by rw [show va_pl [] _ = [] from rfl, List.append_nil]; exact hP) (by rw [show va_pl [] _ = [] from rfl, List.append_nil]; exact hD) hS hA hn hk hN hK hb1 hb2 (by omega) rfl rfl hcells hslots hz hdg (fun q r cA H1 _ _ hK9 hP hD hS => ?_)
  have h1 := kc5 G
  have h2 : s.vm.findClass "[[I" = some cA := (hK9.2 (kty g).length (cA, .array .int) (by simp)).2
  cases h1.symm.trans h2
  have hf : (fun i => if i < N + 1 then some (r i) else none) = va_up (fun i => if i < N + 1 then some (r i) else none) 0 (some (r 0)) := by
    funext i
    by_cases hi : i = 0
    · subst hi; simp [va_up]
    · simp [va_up, hi]
  have hw : va_pl ([] ++ (List.range (N + 1)).map r) (vr_up (fun _ => (.inl (0, (0, .inl fun _ => 0)) : va_E)) ((List.range (N + 1)).map r) (.inl (g.2.2.1 0, (K, .inl (fun _ => 0))))) = [(r 0, .inl (g.2.2.1 0, (K, .inl (fun _ => 0))))] ++ va_pl (((List.range N).map Nat.succ).map r) (vr_up (fun _ => (.inl (0, (0, .inl fun _ => 0)) : va_E)) ((List.range (N + 1)).map r) (.inl (g.2.2.1 0, (K, .inl (fun _ => 0))))) := by
    have hm : r 0 ∈ (List.range (N + 1)).map r := List.mem_map.mpr ⟨0, List.mem_range.mpr (by omega), rfl⟩
    have e1 := vr_up_in (f := fun _ => (.inl (0, (0, .inl fun _ => 0)) : va_E)) (v := .inl (g.2.2.1 0, (K, .inl (fun _ => 0)))) hm
    have hL : [] ++ (List.range (N + 1)).map r = r 0 :: ((List.range N).map Nat.succ).map r := by rw [List.nil_append, List.range_succ_eq_map, List.map_cons]
    have hF : ∀ (F : Nat → va_E) (E : va_E), F (r 0) = E → va_pl ([] ++ (List.range (N + 1)).map r) F = [(r 0, E)] ++ va_pl (((List.range N).map Nat.succ).map r) F := by
      intro F E h
      rw [hL, ← h]
      rfl
    exact hF _ _ e1
  rw [hw, hf] at hP hD
  rw [← List.append_assoc, List.append_assoc ws] at hP hD
  exact kk q (r 0) _ H1 (kdropP hP) (kdropD hD) hS
theorem kaald {q0 n v : Nat} {a : Nat} {f : Nat → Option Nat} (hx : p.tables.exec = Jvm.exec) (hb : c.code = cc) (G : GG g A s s.heap) (hP : va_P g.1 vwCl ws H) (ha : ws[q0]? = some (a, .inl (g.2.2.1 5, n, .inr (.inr (.inr (.inr f)))))) {i : Int32} (hin : vp_in i n) (hv : f i.toNatClampNeg = some v) (hdg : decode cc pc = .ok (.aaload, 1))
    (kk : W p l e R s m args below meth c H locs cells slots Q (F0 m (pc + 1) ls (.ref v :: rest))) : W p l e R s m args below meth c H locs cells slots Q (F0 m pc ls (.int i :: .ref a :: rest)) := by
  have hlt : i.toNatClampNeg < n := Nat.not_le.mp fun q => hin (Or.inr q)
  exact W.aald (v := .ref v) (ty := .array .int) hx hb (hP q0 _ ha) ((G.K.2 5 (g.2.2.1 5, .array .int) rfl).1 n (fun j => va_rf (f j))) rfl (fun q => by cases q) (by show ¬ (i < 0 ∨ (arrV _ _ _).slots.size ≤ _); rw [arrV_size]; exact hin) (by show (arrV _ _ _).slots[_]? = _; rw [arrV_read _ _ hlt, hv]; rfl) rfl rfl hdg kk
theorem kaast {q0 qk n v n1 : Nat} {a : Nat} {f : Nat → Option Nat} {f1 : Nat → Int32} (hx : p.tables.exec = Jvm.exec) (hb : c.code = cc) (G : GG g A s s.heap) (hP : va_P g.1 vwCl ws H) (hD : va_D A ws) (hS : va_S A s.heap H locs) (ha : ws[q0]? = some (a, .inl (g.2.2.1 5, n, .inr (.inr (.inr (.inr f)))))) (hv : ws[qk]? = some (v, .inl (g.2.2.1 0, n1, .inl f1))) {i : Int32} (hin : vp_in i n) (hdg : decode cc pc = .ok (.aastore, 1))
    (kk : ∀ (H1 : Heap) (locs1 : List Loc), va_P g.1 vwCl (ws.set q0 (a, .inl (g.2.2.1 5, n, .inr (.inr (.inr (.inr (va_up f i.toNatClampNeg (some v)))))))) H1 → va_D A (ws.set q0 (a, .inl (g.2.2.1 5, n, .inr (.inr (.inr (.inr (va_up f i.toNatClampNeg (some v)))))))) → va_S A s.heap H1 locs1 → W p l e R s m args below meth c H1 locs1 cells slots Q (F0 m (pc + 1) ls rest)) : W p l e R s m args below meth c H locs cells slots Q (F0 m pc ls (.ref v :: .int i :: .ref a :: rest)) := by
  have hlt : i.toNatClampNeg < n := Nat.not_le.mp fun q => hin (Or.inr q)
  have h0 : ¬ i < 0 := fun q => hin (Or.inl q)
  have ho : (Cond.arrayOver (.array .int)).before (#[] : Array Value) s = true := va_AOA.use G.aoa.1
  obtain ⟨comp, cA, kA, hcomp, hkA, hkindA, hnameA⟩ := Cond.arrayOver_specA ho
  cases (kc0 G).symm.trans hcomp
  cases (kc5 G).symm.trans hnameA
  obtain ⟨kC, hkC, -⟩ := Vm.findClass_spec hcomp
  refine W.aast hx hb (hP q0 _ ha) (fun q h => by cases h) (fun h => by cases h) hkA hkindA rfl hkC ⟨h0, by show _ < (arrV _ _ _).slots.size; rw [arrV_size]; exact hlt⟩ (hP qk _ hv) (fun q h => by cases h) hkC (va_asg _ _) rfl rfl hdg fun H1 e z oq => ?_
  refine kk H1 _ (hP.set hD ha ?_ oq) (hD.set ha) (hS.put z oq (hD.2 q0 _ ha))
  show H1[a]? = some (vp_cell _ _)
  rw [e]
  show some ((vp_cell (g.2.2.1 5) (n, .inr (.inr (.inr (.inr f))))).setSlot _ _) = _
  rw [vp_cell_q, vp_cell_q, arrV_store]
  congr 2
  funext q
  by_cases hq : q = i.toNatClampNeg
  · subst hq
    simp [updV, va_up, va_rf]
  · simp [updV, va_up, hq]
theorem kclone {q0 n : Nat} {a index : Nat} {f : Nat → Int32} (hx : p.tables.exec = Jvm.exec) (hb : c.code = cc) (hml : c.maxLocals = ls.size) (hown : s.vm.findClass own = some m.cls)
    (hlink : Cond.methodLink own index ⟨"[I", "clone", "()Ljava/lang/Object;"⟩ ∈ kw) (hsame : Cond.sameMethod "[I" "java/lang/Object" "clone" "()Ljava/lang/Object;" ∈ kw) (hnat : Cond.native ⟨"java/lang/Object", "clone", "()Ljava/lang/Object;"⟩ ∈ kw) (hinst : Cond.instanceMethod ⟨"java/lang/Object", "clone", "()Ljava/lang/Object;"⟩ ∈ kw) (hsel : Cond.selects "[I" ⟨"[I", "clone", "()Ljava/lang/Object;"⟩ ⟨"java/lang/Object", "clone", "()Ljava/lang/Object;"⟩ ∈ kw) (hcl : Cond.castable "[I" "java/lang/Cloneable" ∈ kw)
    (G : GG g A s s.heap) (hP : va_P g.1 vwCl ws H) (hD : va_D A ws) (hS : va_S A s.heap H locs) (hA : ∀ q : Nat, s.heap.size ≤ q → A q) (ha : ws[q0]? = some (a, .inl (g.2.2.1 0, n, .inl f)))
    (hframes : 1 ≤ R.frames) (hlocals : (rest.map fun v => v.category).sum + 14 ≤ R.locals) (hcells : cells + 1 ≤ R.cells) (hslots : slots + n ≤ R.slots) (hdg : decode cc pc = .ok (.invokevirtual index, 3))
    (kk : ∀ (q : Nat) (H1 : Heap), va_P g.1 vwCl (ws ++ [(q, .inl (g.2.2.1 0, n, .inl f))]) H1 → va_D A (ws ++ [(q, .inl (g.2.2.1 0, n, .inl f))]) → va_S A s.heap H1 locs → W p l e R s m args below meth c H1 locs (cells + 1) (slots + n) Q (F0 m (pc + 3) ls (.ref q :: rest))) : W p l e R s m args below meth c H locs cells slots Q (F0 m pc ls (.ref a :: rest)) :=
  va_clone hx hb hml hown (G.w hlink) (G.w hsame) (G.w hnat) (G.w hinst) (G.w hsel) (G.nw hcl) G.K hP hD hS hA q0 0 ha rfl (kc0 G) (va_fit (fun i _ => rfl)) hframes hlocals hcells hslots hdg (fun q H1 _ hP hD hS => kk q H1 hP hD hS)
theorem kretF {v : UInt32} (K : KB p s m meth c own nm cc nL (some .float)) (hP : va_P g.1 vwCl ws H) (hD : va_D A ws) (hS : va_S A s.heap H locs) (isW : List Nat) (w1 : va_W) (hw : isW.map (fun i => ws[i]?) = w1.map some) (hn : va_nd isW = true) (hΦ : Φ (some (.float v)) w1) (hc : cells ≤ mc) (hs : slots ≤ ms) (hdg : decode cc pc = .ok (.freturn, 1)) :
    W p l e R s m args below meth c H locs cells slots (vx_MQ below (kQ g Φ A) (kX g X A) args s mc ms A) (F0 m pc ls [.float v]) := by
  obtain ⟨hx, hb, -, -, hlocks, hr, -⟩ := K
  refine W.widen hc hs (vx_ret ?_)
  exact W.fret hx hb hr (fun t ht hW => ⟨⟨_, w1, rfl, hΦ, by rw [ht]; exact ksubP hP isW hw, hD.sub isW hn hw⟩, hS.F ht⟩) hS.2.2 hdg hlocks
theorem kretD {v : UInt64} (K : KB p s m meth c own nm cc nL (some .double)) (hP : va_P g.1 vwCl ws H) (hD : va_D A ws) (hS : va_S A s.heap H locs) (isW : List Nat) (w1 : va_W) (hw : isW.map (fun i => ws[i]?) = w1.map some) (hn : va_nd isW = true) (hΦ : Φ (some (.double v)) w1) (hc : cells ≤ mc) (hs : slots ≤ ms) (hdg : decode cc pc = .ok (.dreturn, 1)) :
    W p l e R s m args below meth c H locs cells slots (vx_MQ below (kQ g Φ A) (kX g X A) args s mc ms A) (F0 m pc ls [.double v]) := by
  obtain ⟨hx, hb, -, -, hlocks, hr, -⟩ := K
  refine W.widen hc hs (vx_ret ?_)
  exact W.dret hx hb hr (fun t ht hW => ⟨⟨_, w1, rfl, hΦ, by rw [ht]; exact ksubP hP isW hw, hD.sub isW hn hw⟩, hS.F ht⟩) hS.2.2 hdg hlocks
theorem ksld {b L j : Nat} {xs : Nat → Int32} (hx : p.tables.exec = Jvm.exec) (hb : c.code = cc) (hX : va_X b L xs s s.heap) (hbl : b < s.heap.size) (hbA : ¬ A b) (hS : va_S A s.heap H locs) {i : Int32} (hin : vp_in i L) (hj : i.toNatClampNeg = j) (hdg : decode cc pc = .ok (.iaload, 1))
    (kk : W p l e R s m args below meth c H locs cells slots Q (F0 m (pc + 1) ls (.int (xs j) :: rest))) : W p l e R s m args below meth c H locs cells slots Q (F0 m pc ls (.int i :: .ref b :: rest)) := by
  subst hj
  exact va_sld hx hb hX hbl hbA hS hin hdg kk
end KROWS3
/-- what i2c makes -/
def kchr (x : Int32) : Int32 := (x.toUInt32 % 65536).toInt32
theorem kb_at {k : Int32} (j : Nat) (hj : j < 128) (hk : k = nI j) (x : Int32) (h0 : ¬ x < 0) (h1 : x ≤ 255) : x.toInt8.toInt32 = k ↔ x = k := by
  obtain ⟨n, hn, rfl⟩ := nI_of2 (n := 255) (by decide) h0 h1
  subst hk
  have key : ∀ n : Fin 256, ∀ j : Fin 128, ((nI n).toInt8.toInt32 = nI j ↔ nI n = nI j) := by decide +kernel
  exact key ⟨n, by omega⟩ ⟨j, hj⟩
theorem inR_no (x : Int32) : ¬ (¬ x < 0 ∧ x ≤ -1) := fun h => h.1 (Int32.lt_of_le_of_lt h.2 (by decide))
end
section
/-! new int[n][m][j]: nothing old is touched; what is made counts (a row of mine: the kit has the two-dimensional one, and its proof is followed) -/
def mo3 (c : ClassId) (N h0 w : Nat) : Nat → Cell
  | 0 => { cls := c, slots := Array.replicate N .null, vm := .none }
  | i + 1 => (mo3 c N h0 w i).setSlot i (.ref (h0 + 1 + i * w))
def mf3 (s : State) (c comp c2 : ClassId) (N M J : Nat) (dv : Value) : Nat → State
  | 0 => s.pushCell (mo3 c N s.heap.size (1 + M) 0)
  | i + 1 => (Jvm.Free.Multi.fill (mf3 s c comp c2 N M J dv i) comp c2 M J dv M).setCell s.heap.size (mo3 c N s.heap.size (1 + M) (i + 1))
theorem mo3_facts (c : ClassId) (N h0 w : Nat) : ∀ i, (mo3 c N h0 w i).cls = c ∧ (mo3 c N h0 w i).vm = .none ∧ (mo3 c N h0 w i).slots.size = N
  | 0 => ⟨rfl, rfl, by simp [mo3]⟩
  | i + 1 => by
    obtain ⟨a, b, d⟩ := mo3_facts c N h0 w i
    exact ⟨by simp [mo3, Cell.setSlot, a], by simp [mo3, Cell.setSlot, b], by simp [mo3, Cell.setSlot, d]⟩
theorem mf3_facts (s : State) (c comp c2 : ClassId) (N M J : Nat) (dv : Value) : ∀ i, (mf3 s c comp c2 N M J dv i).heap.size = s.heap.size + 1 + i * (1 + M) ∧ (mf3 s c comp c2 N M J dv i).heap[s.heap.size]? = some (mo3 c N s.heap.size (1 + M) i) ∧
    (mf3 s c comp c2 N M J dv i).vm = s.vm ∧ (mf3 s c comp c2 N M J dv i).slotsUsed = s.slotsUsed + N + i * (M + M * J)
  | 0 => ⟨by simp [mf3], by simp [mf3], rfl, by simp [mf3, mo3]⟩
  | i + 1 => by
    obtain ⟨a, b, d, u⟩ := mf3_facts s c comp c2 N M J dv i
    obtain ⟨fa, -, fd, fu⟩ := Jvm.Free.Multi.fill_facts (mf3 s c comp c2 N M J dv i) comp c2 M J dv M
    have hlt : s.heap.size < (mf3 s c comp c2 N M J dv i).heap.size := by rw [a]; omega
    have hb' : (Jvm.Free.Multi.fill (mf3 s c comp c2 N M J dv i) comp c2 M J dv M).heap[s.heap.size]? = some (mo3 c N s.heap.size (1 + M) i) := by
      rw [Jvm.Free.Multi.fill_old _ _ _ _ _ _ hlt]; exact b
    refine ⟨?_, State.heap_setCell_self hb', ?_, ?_⟩
    · show ((Jvm.Free.Multi.fill (mf3 s c comp c2 N M J dv i) comp c2 M J dv M).setCell s.heap.size (mo3 c N s.heap.size (1 + M) (i + 1))).heap.size = _
      have e1 : ∀ (S : State) (a : Addr) (ce : Cell), (S.setCell a ce).heap.size = S.heap.size := fun S a ce => by simp [State.setCell]
      rw [e1, fa, a, Nat.succ_mul]
      omega
    · show ((Jvm.Free.Multi.fill (mf3 s c comp c2 N M J dv i) comp c2 M J dv M).setCell s.heap.size (mo3 c N s.heap.size (1 + M) (i + 1))).vm = _
      have e1 : ∀ (S : State) (a : Addr) (ce : Cell), (S.setCell a ce).vm = S.vm := fun S a ce => by simp
      rw [e1, fd, d]
    · show ((Jvm.Free.Multi.fill (mf3 s c comp c2 N M J dv i) comp c2 M J dv M).setCell s.heap.size (mo3 c N s.heap.size (1 + M) (i + 1))).slotsUsed = _
      have e1 : ∀ (S : State) (a : Addr) (ce : Cell), (S.setCell a ce).slotsUsed = S.slotsUsed := fun S a ce => by simp
      rw [e1, fu, u, Nat.succ_mul]
      omega
theorem mf3_setTop (s : State) (f : JFrame) (c comp c2 : ClassId) (N M J : Nat) (dv : Value) : ∀ i, mf3 (s.setTop f) c comp c2 N M J dv i = (mf3 s c comp c2 N M J dv i).setTop f
  | 0 => rfl
  | i + 1 => by simp only [mf3, mf3_setTop s f c comp c2 N M J dv i, Jvm.Free.Multi.fill_setTop, State.heap_setTop, State.setCell_setTop]
theorem mf3_old (s : State) (c comp c2 : ClassId) (N M J : Nat) (dv : Value) {a : Addr} (ha : a < s.heap.size) : ∀ i, (mf3 s c comp c2 N M J dv i).heap[a]? = s.heap[a]?
  | 0 => State.heap_pushCell_of_lt _ _ ha
  | i + 1 => by
    have f1 := (mf3_facts s c comp c2 N M J dv i).1
    show ((Jvm.Free.Multi.fill (mf3 s c comp c2 N M J dv i) comp c2 M J dv M).setCell s.heap.size _).heap[a]? = _
    have h9 : a < (mf3 s c comp c2 N M J dv i).heap.size := Nat.lt_of_lt_of_le ha (by rw [f1]; omega)
    rw [State.heap_setCell_other (Nat.ne_of_gt ha), Jvm.Free.Multi.fill_old _ _ _ _ _ _ h9]
    exact mf3_old s c comp c2 N M J dv ha i
theorem mwp3 {E : CtlPost} {e : Env} {d : Bool} {acts : List Action} {s : State} {c comp c2 cc : ClassId} {k kc k2 : Class} {t0 t1 type : FieldType} {n m j : Int32} (hk : s.vm.classes[c]? = some k) (hkind : k.kind = .array comp t0) (href : t0.isReference = true)
    (hkc : s.vm.classes[comp]? = some kc) (hkindc : kc.kind = .array c2 t1) (href1 : t1.isReference = true) (hk2 : s.vm.classes[c2]? = some k2) (hkind2 : k2.kind = .array cc type) (hn : ¬ n < 0) (hm : ¬ m < 0) (hj : ¬ j < 0)
    (hl1 : ¬ n.toNatClampNeg > e.platform.arrayLengthLimit) (hh1 : ¬ n.toNatClampNeg * componentBytes t0 > e.platform.maxHeapBytes)
    (hl2 : ¬ m.toNatClampNeg > e.platform.arrayLengthLimit) (hh2 : ¬ m.toNatClampNeg * componentBytes t1 > e.platform.maxHeapBytes)
    (hl3 : ¬ j.toNatClampNeg > e.platform.arrayLengthLimit) (hh3 : ¬ j.toNatClampNeg * componentBytes type > e.platform.maxHeapBytes)
    (hdf : fits type (defaultValue type) = true) (hdd : (defaultValue type).isDefault = true)
    (hc : s.heap.size + 1 + n.toNatClampNeg * (1 + m.toNatClampNeg) ≤ e.platform.maxCells) (hs : s.slotsUsed + n.toNatClampNeg + n.toNatClampNeg * (m.toNatClampNeg + m.toNatClampNeg * j.toNatClampNeg) ≤ e.platform.maxSlots)
    {Q : Addr → Pre} (hq : ∀ d' acts', Q s.heap.size d' acts' (mf3 s c comp c2 n.toNatClampNeg m.toNatClampNeg j.toNatClampNeg (defaultValue type) n.toNatClampNeg)) :
    wp (multianewarray.make c [n, m, j]) Q E e d acts s := by
  have hfind : ([m, j].find? (· < 0)) = none := by simp [hm, hj]
  rw [multianewarray.make]
  simp only [wp_bind', W.ite, hn, if_false, wp_pure', W.theClass, hk, hkind, Option.some.injEq, exists_eq_left']
  refine Jvm.Free.Multi.wp_newArray hk hkind hl1 hh1 (Jvm.Free.Multi.refFits href _ (Or.inl rfl)) rfl (by omega) (by omega) ?_
  simp only [hfind]
  rw [ite_self, wp_bind', Std.Legacy.Range.forIn_eq_forIn_range']
  have hsz : ([:n.toNatClampNeg] : Std.Legacy.Range).size = n.toNatClampNeg := by simp [Std.Legacy.Range.size]
  rw [hsz]
  show wp (forIn (List.range' 0 n.toNatClampNeg 1) PUnit.unit _) _ E e d acts _
  refine wp_forIn_inv (fun rest s' => ∃ i, i ≤ n.toNatClampNeg ∧ rest = List.range' i (n.toNatClampNeg - i) ∧ s' = mf3 s c comp c2 n.toNatClampNeg m.toNatClampNeg j.toNatClampNeg (defaultValue type) i) _ _ ⟨0, Nat.zero_le _, rfl, rfl⟩ ?_ ?_
  · rintro x rest s' d' acts' Q' ⟨i, hi, hl, rfl⟩ hnext
    have hlt : i < n.toNatClampNeg := by
      rcases Nat.lt_or_ge i n.toNatClampNeg with h | h
      · exact h
      · rw [show n.toNatClampNeg - i = 0 from by omega] at hl; simp at hl
    obtain ⟨rfl, hrest⟩ : x = i ∧ rest = List.range' (i + 1) (n.toNatClampNeg - (i + 1)) := by
      rw [show n.toNatClampNeg - i = (n.toNatClampNeg - (i + 1)) + 1 from by omega, List.range'_succ] at hl
      exact ⟨(List.cons.inj hl).1, (List.cons.inj hl).2⟩
    obtain ⟨f1, f2, f3, f4⟩ := mf3_facts s c comp c2 n.toNatClampNeg m.toNatClampNeg j.toNatClampNeg (defaultValue type) x
    obtain ⟨o1, o2, o3⟩ := mo3_facts c n.toNatClampNeg s.heap.size (1 + m.toNatClampNeg) x
    have hmul : x * (1 + m.toNatClampNeg) + (1 + m.toNatClampNeg) ≤ n.toNatClampNeg * (1 + m.toNatClampNeg) := by
      have := Nat.mul_le_mul_right (1 + m.toNatClampNeg) (show x + 1 ≤ n.toNatClampNeg from hlt)
      rw [Nat.succ_mul] at this; exact this
    have hmul2 : x * (m.toNatClampNeg + m.toNatClampNeg * j.toNatClampNeg) + (m.toNatClampNeg + m.toNatClampNeg * j.toNatClampNeg) ≤ n.toNatClampNeg * (m.toNatClampNeg + m.toNatClampNeg * j.toNatClampNeg) := by
      have := Nat.mul_le_mul_right (m.toNatClampNeg + m.toNatClampNeg * j.toNatClampNeg) (show x + 1 ≤ n.toNatClampNeg from hlt)
      rw [Nat.succ_mul] at this; exact this
    simp only [wp_bind']
    refine Jvm.Free.Multi.wp_make2 (by rw [f3]; exact hkc) hkindc href1 (by rw [f3]; exact hk2) hkind2 hm hj hl2 hh2 hl3 hh3 hdf hdd (by rw [f1]; omega) (by rw [f4]; omega) (fun d2 acts2 => ?_)
    have hlt0 : s.heap.size < (mf3 s c comp c2 n.toNatClampNeg m.toNatClampNeg j.toNatClampNeg (defaultValue type) x).heap.size := by rw [f1]; omega
    obtain ⟨-, -, g3, -⟩ := Jvm.Free.Multi.fill_facts (mf3 s c comp c2 n.toNatClampNeg m.toNatClampNeg j.toNatClampNeg (defaultValue type) x) comp c2 m.toNatClampNeg j.toNatClampNeg (defaultValue type) m.toNatClampNeg
    simp only [wp_bind', W.writeLoc, wp_pure']
    refine ⟨mo3 c n.toNatClampNeg s.heap.size (1 + m.toNatClampNeg) x, by rw [Jvm.Free.Multi.fill_old _ _ _ _ _ _ hlt0]; exact f2, by rw [o2]; simp, by rw [o3]; exact hlt, ?_, hnext _ _ _ ⟨x + 1, hlt, hrest, ?_⟩⟩
    · rw [o1, o2]
      simp [State.fitsSlot, State.slotType?, g3, f3, hk, hkind, Jvm.Free.Multi.refFits href _ (Or.inr ⟨_, rfl⟩)]
    · rw [f1]; rfl
  · rintro s' d' acts' ⟨i, hi, hl, rfl⟩
    have hiN : i = n.toNatClampNeg := by
      rcases Nat.lt_or_ge i n.toNatClampNeg with h | h
      · rw [show n.toNatClampNeg - i = (n.toNatClampNeg - (i + 1)) + 1 from by omega, List.range'_succ] at hl; cases hl
      · omega
    subst hiN
    simp only [wp_pure']
    exact hq _ _
theorem mstand3 {p : Program} {l : Launch} {e : Env} {R : Room} {s : State} {m : MethodId} {args : Array Value} {below : List Frame} {meth : Method} {c : Code} {T : State} {locs : List Loc} {cells slots : Nat} (X : Stand p l e R s m args below meth c T locs cells slots) (cA comp c2 : ClassId) (N M J : Nat) (dv : Value) :
    ∀ i, ∃ L : List Loc, (∀ x ∈ L, T.heap.size ≤ x.base) ∧ Stand p l e R s m args below meth c (mf3 T cA comp c2 N M J dv i) (locs ++ L) (cells + 1 + i * (1 + M)) (slots + N + i * (M + M * J))
  | 0 => by
    have h := X.pushed (mo3 cA N T.heap.size (1 + M) 0)
    rw [(mo3_facts cA N T.heap.size (1 + M) 0).2.2] at h
    exact ⟨[], (fun x hx => absurd hx List.not_mem_nil), by simpa [mf3] using h⟩
  | i + 1 => by
    obtain ⟨L, hL, Xi⟩ := mstand3 X cA comp c2 N M J dv i
    obtain ⟨f1, f2, f3, f4⟩ := mf3_facts T cA comp c2 N M J dv i
    have hlt0 : T.heap.size < (mf3 T cA comp c2 N M J dv i).heap.size := by rw [f1]; omega
    have hcell : (Jvm.Free.Multi.fill (mf3 T cA comp c2 N M J dv i) comp c2 M J dv M).heap[T.heap.size]? = some (mo3 cA N T.heap.size (1 + M) i) := by rw [Jvm.Free.Multi.fill_old _ _ _ _ _ _ hlt0]; exact f2
    have h := (Stand.filled Xi comp c2 M J dv M).stored hcell i (.ref (T.heap.size + 1 + i * (1 + M)))
    refine ⟨L ++ ((List.range M).map fun j => (⟨(mf3 T cA comp c2 N M J dv i).heap.size, j⟩ : Loc)) ++ [⟨T.heap.size, i⟩], ?_, ?_⟩
    · intro x hx
      rcases List.mem_append.mp hx with hx | hx
      · rcases List.mem_append.mp hx with hx | hx
        · exact hL x hx
        · obtain ⟨q, -, rfl⟩ := List.mem_map.mp hx
          exact Nat.le_of_lt hlt0
      · rw [List.mem_singleton.mp hx]; exact Nat.le_refl _
    · have e2 : cells + 1 + (i + 1) * (1 + M) = cells + 1 + i * (1 + M) + 1 + M := by rw [Nat.succ_mul]; omega
      have e3 : slots + N + (i + 1) * (M + M * J) = slots + N + i * (M + M * J) + M + M * J := by rw [Nat.succ_mul]; omega
      rw [e2, e3, ← List.append_assoc, ← List.append_assoc]
      exact h
theorem kmna3 {p : Program} {l : Launch} {e : Env} {R : Room} {s : State} {m : MethodId} {args : Array Value} {below : List Frame} {meth : Method} {c : Code} {H : Heap} {locs : List Loc} {cells slots : Nat} {Q : State → Prop} {g : kG} {A : Nat → Prop} {own : String} {cc : ByteArray} {ws : va_W} {pc : Nat} {ls : Array Slot} {rest : List Value} {index N M J : Nat} {n k j : Int32} (hx : p.tables.exec = Jvm.exec) (hb : c.code = cc) (hown : s.vm.findClass own = some m.cls)
    (hcl : (Cond.classLink own index "[[[I").before args s = true) (ho1 : (Cond.arrayOver (.array (.array .int))).before args s = true) (ho2 : (Cond.arrayOver (.array .int)).before args s = true) (harr : (Cond.arrayClass .int).before args s = true)
    (hP : va_P g.1 vwCl ws H) (hD : va_D A ws) (hS : va_S A s.heap H locs) (hn : ¬ n < 0) (hk : ¬ k < 0) (hj : ¬ j < 0) (hN : n.toNatClampNeg = N) (hM : k.toNatClampNeg = M) (hJ : j.toNatClampNeg = J) (hb1 : N ≤ 1000) (hb2 : M ≤ 1000) (hb3 : J ≤ 1000)
    (hcells : cells + (1 + N * (1 + M)) ≤ R.cells) (hslots : slots + (N + N * (M + M * J)) ≤ R.slots) (hdg : decode cc pc = .ok (.multianewarray index 3, 4))
    (kk : ∀ (q : Nat) (H1 : Heap), va_P g.1 vwCl ws H1 → va_D A ws → va_S A s.heap H1 locs → W p l e R s m args below meth c H1 locs (cells + (1 + N * (1 + M))) (slots + (N + N * (M + M * J))) Q (F0 m (pc + 4) ls (.ref q :: rest))) : W p l e R s m args below meth c H locs cells slots Q (F0 m pc ls (.int j :: .int k :: .int n :: rest)) := by
  subst hN; subst hM; subst hJ
  intro T hT X
  have hpl : e.platform.magicAccessors = ({} : Platform).magicAccessors := by rw [X.admits.platform]
  obtain ⟨comp, cA, kA, hcomp, hkA, hkindA, hnameA⟩ := Cond.arrayOver_specA ho1
  obtain ⟨c2, cB, kB, hc2, hkB, hkindB, hnameB⟩ := Cond.arrayOver_specA ho2
  obtain ⟨c2', kC, c3, hc2', hkC, hkindC⟩ := Cond.arrayClass_spec harr
  have e1 : cB = comp := Option.some.inj (hnameB.symm.trans hcomp)
  subst e1
  have e2 : c2' = c2 := Option.some.inj (hc2'.symm.trans hc2)
  subst e2
  obtain ⟨c0, hfc0, hcl0⟩ := Cond.classLink_spec hown hcl e.platform hpl
  cases hnameA.symm.trans hfc0
  obtain ⟨hg₁, hwarm₁, hready₁⟩ := State.classEntry (e := e) X.warmed hcl0
  have hmc : (F0 m pc ls (.int j :: .int k :: .int n :: rest)).method = m := rfl
  generalize T.vm.noted m.cls index (.cls cA) = vm₁ at hg₁ hwarm₁ hready₁
  have hal : s.vm.Alike vm₁ := hwarm₁.alike
  obtain ⟨kA₁, hkA₁, heA⟩ := hal.2.2 _ _ hkA
  obtain ⟨kB₁, hkB₁, heB⟩ := hal.2.2 _ _ hkB
  obtain ⟨kC₁, hkC₁, heC⟩ := hal.2.2 _ _ hkC
  have X₁ := X.noted hwarm₁
  obtain ⟨hr1, hr2⟩ := X.roomAbove hcells hslots
  obtain ⟨L, hL, XF⟩ := mstand3 X₁ cA cB c2' n.toNatClampNeg k.toNatClampNeg j.toNatClampNeg (defaultValue .int) n.toNatClampNeg
  have XD := XF.dropFresh (fun x hx => Nat.le_trans X.heapGrown (hL x hx))
  obtain ⟨f1, -, f3, -⟩ := mf3_facts (T.setVm vm₁) cA cB c2' n.toNatClampNeg k.toNatClampNeg j.toNatClampNeg (defaultValue .int) n.toNatClampNeg
  have fo : ∀ a, a < H.size → (mf3 (T.setVm vm₁) cA cB c2' n.toNatClampNeg k.toNatClampNeg j.toNatClampNeg (defaultValue .int) n.toNatClampNeg).heap[a]? = H[a]? := by
    intro a ha
    rw [← hT] at ha ⊢
    exact mf3_old (T.setVm vm₁) cA cB c2' n.toNatClampNeg k.toNatClampNeg j.toNatClampNeg (defaultValue .int) ha n.toNatClampNeg
  have hz : H.size ≤ (mf3 (T.setVm vm₁) cA cB c2' n.toNatClampNeg k.toNatClampNeg j.toNatClampNeg (defaultValue .int) n.toNatClampNeg).heap.size := by
    rw [f1, ← hT]; show T.heap.size ≤ T.heap.size + 1 + _; omega
  have eC : cells + (1 + n.toNatClampNeg * (1 + k.toNatClampNeg)) = cells + 1 + n.toNatClampNeg * (1 + k.toNatClampNeg) := by omega
  have eSl : slots + (n.toNatClampNeg + n.toNatClampNeg * (k.toNatClampNeg + k.toNatClampNeg * j.toNatClampNeg)) = slots + n.toNatClampNeg + n.toNatClampNeg * (k.toNatClampNeg + k.toNatClampNeg * j.toNatClampNeg) := by omega
  have hK := kk T.heap.size _ (hP.kept (fun q x hx9 => fo x.1 ((hP q x hx9).lt))) hD ⟨Nat.le_trans hS.1 hz, fun q h1 h2 => (fo q (Nat.lt_of_lt_of_le h1 hS.1)).trans (hS.2.1 q h1 h2), hS.2.2⟩
  rw [eC, eSl] at hK
  obtain ⟨t, a1, b1⟩ := hK _ rfl XD
  refine ⟨t, ?_, b1⟩
  have hl1 : ¬ n.toNatClampNeg > e.platform.arrayLengthLimit := by rw [Launch.admits_arrayLengthLimit X.admits]; omega
  have hh1 : ¬ n.toNatClampNeg * componentBytes (.array (.array .int)) > e.platform.maxHeapBytes := by
    rw [Launch.admits_maxHeapBytes X.admits]; show ¬ n.toNatClampNeg * 4 > 536870912; omega
  have hl2 : ¬ k.toNatClampNeg > e.platform.arrayLengthLimit := by rw [Launch.admits_arrayLengthLimit X.admits]; omega
  have hh2 : ¬ k.toNatClampNeg * componentBytes (.array .int) > e.platform.maxHeapBytes := by rw [Launch.admits_maxHeapBytes X.admits]; show ¬ k.toNatClampNeg * 4 > 536870912; omega
  have hl3 : ¬ j.toNatClampNeg > e.platform.arrayLengthLimit := by rw [Launch.admits_arrayLengthLimit X.admits]; omega
  have hh3 : ¬ j.toNatClampNeg * componentBytes .int > e.platform.maxHeapBytes := by rw [Launch.admits_maxHeapBytes X.admits]; show ¬ j.toNatClampNeg * 4 > 536870912; omega
  have hdg' : decode c.code (F0 m pc ls (.int j :: .int k :: .int n :: rest)).pc = .ok (.multianewarray index 3, 4) := by rw [hb]; exact hdg
  jvm_step X.here [hx, hdg']
  simp only [multianewarray.sem, wp_bind', W.resolveClassAt_links (State.method?_setTop (F0 m pc ls (.int j :: .int k :: .int n :: rest)) X.here.top) hg₁]
  rw [W.popN, if_neg (by decide)]
  refine ⟨F0 m pc ls (.int j :: .int k :: .int n :: rest), State.topJava?_setTop' (s := T.setVm vm₁) (F0 m pc ls (.int j :: .int k :: .int n :: rest)) X.here.top, [.int n, .int k, .int j], rest, rfl, rfl, ?_⟩
  simp only [List.mapM_cons, List.mapM_nil, wp_bind', wp_pure']
  refine mwp3 (k := kA₁) (kc := kB₁) (k2 := kC₁) (comp := cB) (c2 := c2') (cc := c3) (t0 := .array (.array .int)) (t1 := .array .int) (type := .int) hkA₁ (by rw [heA]; exact hkindA) rfl hkB₁ (by rw [heB]; exact hkindB) rfl hkC₁ (by rw [heC]; exact hkindC) hn hk hj hl1 hh1 hl2 hh2 hl3 hh3 rfl rfl (by show T.heap.size + 1 + _ ≤ _; omega) (by show T.slotsUsed + _ + _ ≤ _; omega) (fun d' acts' => ?_)
  have eS : ((T.setTop (F0 m pc ls (.int j :: .int k :: .int n :: rest))).setVm vm₁).setTop (F0 m pc ls rest) = (T.setVm vm₁).setTop (F0 m pc ls rest) := by
    show ((T.setVm vm₁).setTop (F0 m pc ls (.int j :: .int k :: .int n :: rest))).setTop _ = _
    rw [State.setTop_setTop]
  rw [eS, mf3_setTop]
  simp only [wp_bind', W.mark, W.pushRef, State.topJava?_setTop' _ XD.here.top, Option.some.injEq, exists_eq_left', State.setTop_setTop, State.heap_setTop]
  intro acts
  simp [jvm, XD.here.top]
  exact a1
end
section
theorem kw_0 : Cond.classLink "GalleonWave" 78 "java/lang/IllegalArgumentException" ∈ kw := kw_in (List.mem_append_right _ (tb2 _ (List.mem_of_getElem? (i := 122) (by decide +kernel)))) (by decide +kernel)
theorem kw_1 : Cond.initialized "java/lang/IllegalArgumentException" ∈ kw := kw_in (List.mem_append_right _ (tb1 _ (List.mem_of_getElem? (i := 11) (by decide +kernel)))) (by decide +kernel)
theorem kw_2 : Cond.code ⟨"GalleonWave", "requireRange", "(III)V"⟩ prog_1_method_53_code 3 none ∈ kw := kw_in (List.mem_append_right _ (tb2 _ (List.mem_of_getElem? (i := 121) (by decide +kernel)))) (by decide +kernel)
theorem kw_3 : Cond.methodLink "GalleonWave" 40 ⟨"GalleonWave", "requireRange", "(III)V"⟩ ∈ kw := kw_in (List.mem_append_right _ (tb2 _ (List.mem_of_getElem? (i := 119) (by decide +kernel)))) (by decide +kernel)
theorem kw_4 : Cond.initialized "GalleonWave" ∈ kw := kw_in (List.mem_append_right _ (tb1 _ (List.mem_of_getElem? (i := 1) (by decide +kernel)))) (by decide +kernel)
theorem kw_5 : Cond.static ⟨"GalleonWave", "requireRange", "(III)V"⟩ ∈ kw := kw_in (List.mem_append_right _ (tb2 _ (List.mem_of_getElem? (i := 120) (by decide +kernel)))) (by decide +kernel)
theorem kw_6 : Cond.classLink "GalleonWave" 410 "java/lang/IndexOutOfBoundsException" ∈ kw := kw_in (List.mem_append_right _ (tb3 _ (List.mem_of_getElem? (i := 123) (by decide +kernel)))) (by decide +kernel)
theorem kw_7 : Cond.initialized "java/lang/IndexOutOfBoundsException" ∈ kw := kw_in (List.mem_append_right _ (tb1 _ (List.mem_of_getElem? (i := 18) (by decide +kernel)))) (by decide +kernel)
theorem kw_8 : Cond.methodLink "java/util/AbstractCollection" 1 ⟨"java/lang/Object", "<init>", "()V"⟩ ∈ kw := kw_in (List.mem_append_right _ (tb1 _ (List.mem_of_getElem? (i := 57) (by decide +kernel)))) (by decide +kernel)
theorem kw_9 : Cond.instanceMethod ⟨"java/lang/Object", "<init>", "()V"⟩ ∈ kw := kw_in (List.mem_append_right _ (tb1 _ (List.mem_of_getElem? (i := 44) (by decide +kernel)))) (by decide +kernel)
theorem kw_10 : Cond.code ⟨"java/lang/Object", "<init>", "()V"⟩ object_method_1_code 1 none ∈ kw := kw_in (List.mem_append_right _ (tb1 _ (List.mem_of_getElem? (i := 45) (by decide +kernel)))) (by decide +kernel)
theorem kw_11 : Cond.code ⟨"java/util/AbstractCollection", "<init>", "()V"⟩ prog_37_method_1_code 1 none ∈ kw := kw_in (List.mem_append_right _ (tb1 _ (List.mem_of_getElem? (i := 56) (by decide +kernel)))) (by decide +kernel)
theorem kw_12 : Cond.methodLink "java/util/AbstractList" 1 ⟨"java/util/AbstractCollection", "<init>", "()V"⟩ ∈ kw := kw_in (List.mem_append_right _ (tb1 _ (List.mem_of_getElem? (i := 54) (by decide +kernel)))) (by decide +kernel)
theorem kw_13 : Cond.initialized "java/util/AbstractCollection" ∈ kw := kw_in (List.mem_append_right _ (tb1 _ (List.mem_of_getElem? (i := 2) (by decide +kernel)))) (by decide +kernel)
theorem kw_14 : Cond.instanceMethod ⟨"java/util/AbstractCollection", "<init>", "()V"⟩ ∈ kw := kw_in (List.mem_append_right _ (tb1 _ (List.mem_of_getElem? (i := 55) (by decide +kernel)))) (by decide +kernel)
theorem kw_15 : Cond.fieldLink "java/util/AbstractList" 7 "java/util/AbstractList" "modCount" "I" ∈ kw := kw_in (List.mem_append_right _ (tb1 _ (List.mem_of_getElem? (i := 64) (by decide +kernel)))) (by decide +kernel)
theorem kw_16 : Cond.code ⟨"java/util/AbstractList", "<init>", "()V"⟩ prog_38_method_1_code 1 none ∈ kw := kw_in (List.mem_append_right _ (tb1 _ (List.mem_of_getElem? (i := 53) (by decide +kernel)))) (by decide +kernel)
theorem kw_17 : Cond.methodLink "java/util/ArrayList" 1 ⟨"java/util/AbstractList", "<init>", "()V"⟩ ∈ kw := kw_in (List.mem_append_right _ (tb1 _ (List.mem_of_getElem? (i := 51) (by decide +kernel)))) (by decide +kernel)
theorem kw_18 : Cond.initialized "java/util/AbstractList" ∈ kw := kw_in (List.mem_append_right _ (tb1 _ (List.mem_of_getElem? (i := 3) (by decide +kernel)))) (by decide +kernel)
theorem kw_19 : Cond.instanceMethod ⟨"java/util/AbstractList", "<init>", "()V"⟩ ∈ kw := kw_in (List.mem_append_right _ (tb1 _ (List.mem_of_getElem? (i := 52) (by decide +kernel)))) (by decide +kernel)
theorem kw_20 : Cond.fieldLink "java/util/ArrayList" 39 "java/util/ArrayList" "DEFAULTCAPACITY_EMPTY_ELEMENTDATA" "[Ljava/lang/Object;" ∈ kw := kw_in (List.mem_append_right _ (tb1 _ (List.mem_of_getElem? (i := 58) (by decide +kernel)))) (by decide +kernel)
theorem kw_21 : Cond.fieldLink "java/util/ArrayList" 9 "java/util/ArrayList" "elementData" "[Ljava/lang/Object;" ∈ kw := kw_in (List.mem_append_right _ (tb1 _ (List.mem_of_getElem? (i := 60) (by decide +kernel)))) (by decide +kernel)
theorem kw_22 : Cond.fieldLink "java/util/ArrayList" 48 "java/util/ArrayList" "size" "I" ∈ kw := kw_in (List.mem_append_right _ (tb1 _ (List.mem_of_getElem? (i := 63) (by decide +kernel)))) (by decide +kernel)
theorem kw_23 : Cond.methodLink "java/util/ArrayList" 79 ⟨"java/lang/Math", "max", "(II)I"⟩ ∈ kw := kw_in (List.mem_append_right _ (tb3 _ (List.mem_of_getElem? (i := 83) (by decide +kernel)))) (by decide +kernel)
theorem kw_24 : Cond.static ⟨"java/lang/Math", "max", "(II)I"⟩ ∈ kw := kw_in (List.mem_append_right _ (tb2 _ (List.mem_of_getElem? (i := 69) (by decide +kernel)))) (by decide +kernel)
theorem kw_25 : Cond.initialized "java/lang/Math" ∈ kw := kw_in (List.mem_append_right _ (tb1 _ (List.mem_of_getElem? (i := 15) (by decide +kernel)))) (by decide +kernel)
theorem kw_26 : Cond.code ⟨"java/lang/Math", "max", "(II)I"⟩ prog_27_method_65_code 2 (some .int) ∈ kw := kw_in (List.mem_append_right _ (tb2 _ (List.mem_of_getElem? (i := 70) (by decide +kernel)))) (by decide +kernel)
theorem kw_27 : Cond.classLink "java/util/ArrayList" 7 "java/lang/Object" ∈ kw := kw_in (List.mem_append_right _ (tb3 _ (List.mem_of_getElem? (i := 84) (by decide +kernel)))) (by decide +kernel)
theorem kw_28 : Cond.code ⟨"java/util/ArrayList", "grow", "(I)[Ljava/lang/Object;"⟩ prog_39_method_6_code 4 (some (.array (.object "java/lang/Object"))) ∈ kw := kw_in (List.mem_append_right _ (tb3 _ (List.mem_of_getElem? (i := 35) (by decide +kernel)))) (by decide +kernel)
theorem kw_29 : Cond.methodLink "java/util/ArrayList" 69 ⟨"java/util/ArrayList", "grow", "(I)[Ljava/lang/Object;"⟩ ∈ kw := kw_in (List.mem_append_right _ (tb3 _ (List.mem_of_getElem? (i := 32) (by decide +kernel)))) (by decide +kernel)
theorem kw_30 : Cond.initialized "java/util/ArrayList" ∈ kw := kw_in (List.mem_append_right _ (tb1 _ (List.mem_of_getElem? (i := 4) (by decide +kernel)))) (by decide +kernel)
theorem kw_31 : Cond.instanceMethod ⟨"java/util/ArrayList", "grow", "(I)[Ljava/lang/Object;"⟩ ∈ kw := kw_in (List.mem_append_right _ (tb3 _ (List.mem_of_getElem? (i := 34) (by decide +kernel)))) (by decide +kernel)
theorem kw_32 : Cond.selects "java/util/ArrayList" ⟨"java/util/ArrayList", "grow", "(I)[Ljava/lang/Object;"⟩ ⟨"java/util/ArrayList", "grow", "(I)[Ljava/lang/Object;"⟩ ∈ kw := kw_in (List.mem_append_left _ (List.mem_of_getElem? (i := 9) (by decide +kernel))) (by decide +kernel)
theorem kw_33 : Cond.code ⟨"java/util/ArrayList", "grow", "()[Ljava/lang/Object;"⟩ prog_39_method_7_code 1 (some (.array (.object "java/lang/Object"))) ∈ kw := kw_in (List.mem_append_right _ (tb3 _ (List.mem_of_getElem? (i := 31) (by decide +kernel)))) (by decide +kernel)
theorem kw_34 : Cond.methodLink "java/util/ArrayList" 129 ⟨"java/util/ArrayList", "grow", "()[Ljava/lang/Object;"⟩ ∈ kw := kw_in (List.mem_append_right _ (tb3 _ (List.mem_of_getElem? (i := 28) (by decide +kernel)))) (by decide +kernel)
theorem kw_35 : Cond.instanceMethod ⟨"java/util/ArrayList", "grow", "()[Ljava/lang/Object;"⟩ ∈ kw := kw_in (List.mem_append_right _ (tb3 _ (List.mem_of_getElem? (i := 30) (by decide +kernel)))) (by decide +kernel)
theorem kw_36 : Cond.selects "java/util/ArrayList" ⟨"java/util/ArrayList", "grow", "()[Ljava/lang/Object;"⟩ ⟨"java/util/ArrayList", "grow", "()[Ljava/lang/Object;"⟩ ∈ kw := kw_in (List.mem_append_left _ (List.mem_of_getElem? (i := 8) (by decide +kernel))) (by decide +kernel)
theorem kw_37 : Cond.fieldLink "java/util/ArrayList" 63 "java/util/ArrayList" "modCount" "I" ∈ kw := kw_in (List.mem_append_right _ (tb1 _ (List.mem_of_getElem? (i := 67) (by decide +kernel)))) (by decide +kernel)
theorem kw_38 : Cond.sameField "java/util/ArrayList" "java/util/AbstractList" "modCount" "I" ∈ kw := kw_in (List.mem_append_right _ (tb1 _ (List.mem_of_getElem? (i := 66) (by decide +kernel)))) (by decide +kernel)
theorem kw_39 : Cond.code ⟨"java/util/ArrayList", "add", "(Ljava/lang/Object;[Ljava/lang/Object;I)V"⟩ prog_39_method_24_code 4 none ∈ kw := kw_in (List.mem_append_right _ (tb3 _ (List.mem_of_getElem? (i := 27) (by decide +kernel)))) (by decide +kernel)
theorem kw_40 : Cond.methodLink "java/util/ArrayList" 131 ⟨"java/util/ArrayList", "add", "(Ljava/lang/Object;[Ljava/lang/Object;I)V"⟩ ∈ kw := kw_in (List.mem_append_right _ (tb3 _ (List.mem_of_getElem? (i := 24) (by decide +kernel)))) (by decide +kernel)
theorem kw_41 : Cond.instanceMethod ⟨"java/util/ArrayList", "add", "(Ljava/lang/Object;[Ljava/lang/Object;I)V"⟩ ∈ kw := kw_in (List.mem_append_right _ (tb3 _ (List.mem_of_getElem? (i := 26) (by decide +kernel)))) (by decide +kernel)
theorem kw_42 : Cond.selects "java/util/ArrayList" ⟨"java/util/ArrayList", "add", "(Ljava/lang/Object;[Ljava/lang/Object;I)V"⟩ ⟨"java/util/ArrayList", "add", "(Ljava/lang/Object;[Ljava/lang/Object;I)V"⟩ ∈ kw := kw_in (List.mem_append_left _ (List.mem_of_getElem? (i := 7) (by decide +kernel))) (by decide +kernel)
theorem kw_43 : Cond.fieldLink "GalleonWave" 10 "GalleonWave" "lands" "Ljava/util/ArrayList;" ∈ kw := kw_in (List.mem_append_right _ (tb1 _ (List.mem_of_getElem? (i := 147) (by decide +kernel)))) (by decide +kernel)
theorem kw_44 : Cond.code ⟨"java/util/ArrayList", "size", "()I"⟩ prog_39_method_8_code 1 (some .int) ∈ kw := kw_in (List.mem_append_right _ (tb1 _ (List.mem_of_getElem? (i := 197) (by decide +kernel)))) (by decide +kernel)
theorem kw_45 : Cond.methodLink "GalleonWave" 44 ⟨"java/util/ArrayList", "size", "()I"⟩ ∈ kw := kw_in (List.mem_append_right _ (tb1 _ (List.mem_of_getElem? (i := 194) (by decide +kernel)))) (by decide +kernel)
theorem kw_46 : Cond.instanceMethod ⟨"java/util/ArrayList", "size", "()I"⟩ ∈ kw := kw_in (List.mem_append_right _ (tb1 _ (List.mem_of_getElem? (i := 195) (by decide +kernel)))) (by decide +kernel)
theorem kw_47 : Cond.selects "java/util/ArrayList" ⟨"java/util/ArrayList", "size", "()I"⟩ ⟨"java/util/ArrayList", "size", "()I"⟩ ∈ kw := kw_in (List.mem_append_right _ (tb1 _ (List.mem_of_getElem? (i := 196) (by decide +kernel)))) (by decide +kernel)
theorem kw_48 : Cond.code ⟨"GalleonWave", "requireNumber", "(II)V"⟩ prog_1_method_56_code 2 none ∈ kw := kw_in (List.mem_append_right _ (tb3 _ (List.mem_of_getElem? (i := 122) (by decide +kernel)))) (by decide +kernel)
theorem kw_49 : Cond.methodLink "GalleonWave" 166 ⟨"GalleonWave", "requireNumber", "(II)V"⟩ ∈ kw := kw_in (List.mem_append_right _ (tb3 _ (List.mem_of_getElem? (i := 120) (by decide +kernel)))) (by decide +kernel)
theorem kw_50 : Cond.static ⟨"GalleonWave", "requireNumber", "(II)V"⟩ ∈ kw := kw_in (List.mem_append_right _ (tb3 _ (List.mem_of_getElem? (i := 121) (by decide +kernel)))) (by decide +kernel)
theorem kw_51 : Cond.fieldLink "GalleonWave" 16 "GalleonWave" "towns" "Ljava/util/ArrayList;" ∈ kw := kw_in (List.mem_append_right _ (tb1 _ (List.mem_of_getElem? (i := 148) (by decide +kernel)))) (by decide +kernel)
theorem kw_52 : Cond.fieldLink "GalleonWave" 19 "GalleonWave" "ships" "Ljava/util/ArrayList;" ∈ kw := kw_in (List.mem_append_right _ (tb1 _ (List.mem_of_getElem? (i := 149) (by decide +kernel)))) (by decide +kernel)
theorem kw_53 : Cond.fieldLink "GalleonWave" 22 "GalleonWave" "people" "Ljava/util/ArrayList;" ∈ kw := kw_in (List.mem_append_right _ (tb1 _ (List.mem_of_getElem? (i := 150) (by decide +kernel)))) (by decide +kernel)
theorem kw_54 : Cond.fieldLink "GalleonWave" 28 "GalleonWave" "archive" "LGalleonWave$Archive;" ∈ kw := kw_in (List.mem_append_right _ (tb1 _ (List.mem_of_getElem? (i := 151) (by decide +kernel)))) (by decide +kernel)
theorem kw_55 : Cond.fieldLink "GalleonWave" 344 "GalleonWave$Archive" "recordings" "Ljava/util/ArrayList;" ∈ kw := kw_in (List.mem_append_right _ (tb1 _ (List.mem_of_getElem? (i := 122) (by decide +kernel)))) (by decide +kernel)
theorem kw_56 : Cond.code ⟨"GalleonWave", "landAt", "(I)LGalleonWave$Land;"⟩ prog_1_method_58_code 2 (some (.object "GalleonWave$Land")) ∈ kw := kw_in (List.mem_append_right _ (tb3 _ (List.mem_of_getElem? (i := 119) (by decide +kernel)))) (by decide +kernel)
theorem kw_57 : Cond.methodLink "GalleonWave" 59 ⟨"GalleonWave", "landAt", "(I)LGalleonWave$Land;"⟩ ∈ kw := kw_in (List.mem_append_right _ (tb3 _ (List.mem_of_getElem? (i := 116) (by decide +kernel)))) (by decide +kernel)
theorem kw_58 : Cond.instanceMethod ⟨"GalleonWave", "landAt", "(I)LGalleonWave$Land;"⟩ ∈ kw := kw_in (List.mem_append_right _ (tb3 _ (List.mem_of_getElem? (i := 118) (by decide +kernel)))) (by decide +kernel)
theorem kw_59 : Cond.selects "GalleonWave" ⟨"GalleonWave", "landAt", "(I)LGalleonWave$Land;"⟩ ⟨"GalleonWave", "landAt", "(I)LGalleonWave$Land;"⟩ ∈ kw := kw_in (List.mem_append_left _ (List.mem_of_getElem? (i := 10) (by decide +kernel))) (by decide +kernel)
theorem kw_60 : Cond.code ⟨"GalleonWave", "shipAt", "(I)LGalleonWave$Ship;"⟩ prog_1_method_60_code 2 (some (.object "GalleonWave$Ship")) ∈ kw := kw_in (List.mem_append_right _ (tb5 _ (List.mem_of_getElem? (i := 51) (by decide +kernel)))) (by decide +kernel)
theorem kw_61 : Cond.methodLink "GalleonWave" 106 ⟨"GalleonWave", "shipAt", "(I)LGalleonWave$Ship;"⟩ ∈ kw := kw_in (List.mem_append_right _ (tb5 _ (List.mem_of_getElem? (i := 48) (by decide +kernel)))) (by decide +kernel)
theorem kw_62 : Cond.instanceMethod ⟨"GalleonWave", "shipAt", "(I)LGalleonWave$Ship;"⟩ ∈ kw := kw_in (List.mem_append_right _ (tb5 _ (List.mem_of_getElem? (i := 50) (by decide +kernel)))) (by decide +kernel)
theorem kw_63 : Cond.selects "GalleonWave" ⟨"GalleonWave", "shipAt", "(I)LGalleonWave$Ship;"⟩ ⟨"GalleonWave", "shipAt", "(I)LGalleonWave$Ship;"⟩ ∈ kw := kw_in (List.mem_append_left _ (List.mem_of_getElem? (i := 36) (by decide +kernel))) (by decide +kernel)
theorem kw_64 : Cond.fieldLink "GalleonWave" 157 "GalleonWave" "money" "I" ∈ kw := kw_in (List.mem_append_right _ (tb1 _ (List.mem_of_getElem? (i := 157) (by decide +kernel)))) (by decide +kernel)
theorem kw_65 : Cond.code ⟨"GalleonWave", "townAt", "(I)LGalleonWave$Town;"⟩ prog_1_method_59_code 2 (some (.object "GalleonWave$Town")) ∈ kw := kw_in (List.mem_append_right _ (tb5 _ (List.mem_of_getElem? (i := 211) (by decide +kernel)))) (by decide +kernel)
theorem kw_66 : Cond.methodLink "GalleonWave" 202 ⟨"GalleonWave", "townAt", "(I)LGalleonWave$Town;"⟩ ∈ kw := kw_in (List.mem_append_right _ (tb5 _ (List.mem_of_getElem? (i := 208) (by decide +kernel)))) (by decide +kernel)
theorem kw_67 : Cond.instanceMethod ⟨"GalleonWave", "townAt", "(I)LGalleonWave$Town;"⟩ ∈ kw := kw_in (List.mem_append_right _ (tb5 _ (List.mem_of_getElem? (i := 210) (by decide +kernel)))) (by decide +kernel)
theorem kw_68 : Cond.selects "GalleonWave" ⟨"GalleonWave", "townAt", "(I)LGalleonWave$Town;"⟩ ⟨"GalleonWave", "townAt", "(I)LGalleonWave$Town;"⟩ ∈ kw := kw_in (List.mem_append_left _ (List.mem_of_getElem? (i := 37) (by decide +kernel))) (by decide +kernel)
theorem kw_69 : Cond.code ⟨"GalleonWave", "personAt", "(I)LGalleonWave$Person;"⟩ prog_1_method_61_code 2 (some (.object "GalleonWave$Person")) ∈ kw := kw_in (List.mem_append_right _ (tb6 _ (List.mem_of_getElem? (i := 30) (by decide +kernel)))) (by decide +kernel)
theorem kw_70 : Cond.methodLink "GalleonWave" 223 ⟨"GalleonWave", "personAt", "(I)LGalleonWave$Person;"⟩ ∈ kw := kw_in (List.mem_append_right _ (tb6 _ (List.mem_of_getElem? (i := 27) (by decide +kernel)))) (by decide +kernel)
theorem kw_71 : Cond.instanceMethod ⟨"GalleonWave", "personAt", "(I)LGalleonWave$Person;"⟩ ∈ kw := kw_in (List.mem_append_right _ (tb6 _ (List.mem_of_getElem? (i := 29) (by decide +kernel)))) (by decide +kernel)
theorem kw_72 : Cond.selects "GalleonWave" ⟨"GalleonWave", "personAt", "(I)LGalleonWave$Person;"⟩ ⟨"GalleonWave", "personAt", "(I)LGalleonWave$Person;"⟩ ∈ kw := kw_in (List.mem_append_left _ (List.mem_of_getElem? (i := 38) (by decide +kernel))) (by decide +kernel)
theorem kw_73 : Cond.code ⟨"GalleonWave", "requireRecording", "(I)V"⟩ prog_1_method_57_code 2 none ∈ kw := kw_in (List.mem_append_right _ (tb6 _ (List.mem_of_getElem? (i := 233) (by decide +kernel)))) (by decide +kernel)
theorem kw_74 : Cond.methodLink "GalleonWave" 350 ⟨"GalleonWave", "requireRecording", "(I)V"⟩ ∈ kw := kw_in (List.mem_append_right _ (tb6 _ (List.mem_of_getElem? (i := 230) (by decide +kernel)))) (by decide +kernel)
theorem kw_75 : Cond.instanceMethod ⟨"GalleonWave", "requireRecording", "(I)V"⟩ ∈ kw := kw_in (List.mem_append_right _ (tb6 _ (List.mem_of_getElem? (i := 232) (by decide +kernel)))) (by decide +kernel)
theorem kw_76 : Cond.selects "GalleonWave" ⟨"GalleonWave", "requireRecording", "(I)V"⟩ ⟨"GalleonWave", "requireRecording", "(I)V"⟩ ∈ kw := kw_in (List.mem_append_left _ (List.mem_of_getElem? (i := 43) (by decide +kernel))) (by decide +kernel)
theorem kw_77 : Cond.fieldLink "GalleonWave" 85 "GalleonWave" "windForce" "I" ∈ kw := kw_in (List.mem_append_right _ (tb1 _ (List.mem_of_getElem? (i := 153) (by decide +kernel)))) (by decide +kernel)
theorem kw_78 : Cond.code ⟨"GalleonWave", "runGenerators", "()V"⟩ prog_1_method_73_code 2 none ∈ kw := kw_in (List.mem_append_right _ (tb3 _ (List.mem_of_getElem? (i := 219) (by decide +kernel)))) (by decide +kernel)
theorem kw_79 : Cond.methodLink "GalleonWave" 437 ⟨"GalleonWave", "runGenerators", "()V"⟩ ∈ kw := kw_in (List.mem_append_right _ (tb3 _ (List.mem_of_getElem? (i := 216) (by decide +kernel)))) (by decide +kernel)
theorem kw_80 : Cond.instanceMethod ⟨"GalleonWave", "runGenerators", "()V"⟩ ∈ kw := kw_in (List.mem_append_right _ (tb3 _ (List.mem_of_getElem? (i := 218) (by decide +kernel)))) (by decide +kernel)
theorem kw_81 : Cond.selects "GalleonWave" ⟨"GalleonWave", "runGenerators", "()V"⟩ ⟨"GalleonWave", "runGenerators", "()V"⟩ ∈ kw := kw_in (List.mem_append_left _ (List.mem_of_getElem? (i := 12) (by decide +kernel))) (by decide +kernel)
theorem kw_82 : Cond.code ⟨"GalleonWave", "goOnAir", "()V"⟩ prog_1_method_74_code 3 none ∈ kw := kw_in (List.mem_append_right _ (tb3 _ (List.mem_of_getElem? (i := 231) (by decide +kernel)))) (by decide +kernel)
theorem kw_83 : Cond.methodLink "GalleonWave" 440 ⟨"GalleonWave", "goOnAir", "()V"⟩ ∈ kw := kw_in (List.mem_append_right _ (tb3 _ (List.mem_of_getElem? (i := 228) (by decide +kernel)))) (by decide +kernel)
theorem kw_84 : Cond.instanceMethod ⟨"GalleonWave", "goOnAir", "()V"⟩ ∈ kw := kw_in (List.mem_append_right _ (tb3 _ (List.mem_of_getElem? (i := 230) (by decide +kernel)))) (by decide +kernel)
theorem kw_85 : Cond.selects "GalleonWave" ⟨"GalleonWave", "goOnAir", "()V"⟩ ⟨"GalleonWave", "goOnAir", "()V"⟩ ∈ kw := kw_in (List.mem_append_left _ (List.mem_of_getElem? (i := 13) (by decide +kernel))) (by decide +kernel)
theorem kw_86 : Cond.code ⟨"GalleonWave", "listen", "()V"⟩ prog_1_method_75_code 3 none ∈ kw := kw_in (List.mem_append_right _ (tb4 _ (List.mem_of_getElem? (i := 0) (by decide +kernel)))) (by decide +kernel)
theorem kw_87 : Cond.methodLink "GalleonWave" 443 ⟨"GalleonWave", "listen", "()V"⟩ ∈ kw := kw_in (List.mem_append_right _ (tb3 _ (List.mem_of_getElem? (i := 237) (by decide +kernel)))) (by decide +kernel)
theorem kw_88 : Cond.instanceMethod ⟨"GalleonWave", "listen", "()V"⟩ ∈ kw := kw_in (List.mem_append_right _ (tb3 _ (List.mem_of_getElem? (i := 239) (by decide +kernel)))) (by decide +kernel)
theorem kw_89 : Cond.selects "GalleonWave" ⟨"GalleonWave", "listen", "()V"⟩ ⟨"GalleonWave", "listen", "()V"⟩ ∈ kw := kw_in (List.mem_append_left _ (List.mem_of_getElem? (i := 14) (by decide +kernel))) (by decide +kernel)
theorem kw_90 : Cond.code ⟨"GalleonWave", "playSpots", "()V"⟩ prog_1_method_79_code 3 none ∈ kw := kw_in (List.mem_append_right _ (tb4 _ (List.mem_of_getElem? (i := 31) (by decide +kernel)))) (by decide +kernel)
theorem kw_91 : Cond.methodLink "GalleonWave" 446 ⟨"GalleonWave", "playSpots", "()V"⟩ ∈ kw := kw_in (List.mem_append_right _ (tb4 _ (List.mem_of_getElem? (i := 28) (by decide +kernel)))) (by decide +kernel)
theorem kw_92 : Cond.instanceMethod ⟨"GalleonWave", "playSpots", "()V"⟩ ∈ kw := kw_in (List.mem_append_right _ (tb4 _ (List.mem_of_getElem? (i := 30) (by decide +kernel)))) (by decide +kernel)
theorem kw_93 : Cond.selects "GalleonWave" ⟨"GalleonWave", "playSpots", "()V"⟩ ⟨"GalleonWave", "playSpots", "()V"⟩ ∈ kw := kw_in (List.mem_append_left _ (List.mem_of_getElem? (i := 18) (by decide +kernel))) (by decide +kernel)
theorem kw_94 : Cond.code ⟨"GalleonWave", "speak", "()V"⟩ prog_1_method_81_code 3 none ∈ kw := kw_in (List.mem_append_right _ (tb4 _ (List.mem_of_getElem? (i := 59) (by decide +kernel)))) (by decide +kernel)
theorem kw_95 : Cond.methodLink "GalleonWave" 449 ⟨"GalleonWave", "speak", "()V"⟩ ∈ kw := kw_in (List.mem_append_right _ (tb4 _ (List.mem_of_getElem? (i := 56) (by decide +kernel)))) (by decide +kernel)
theorem kw_96 : Cond.instanceMethod ⟨"GalleonWave", "speak", "()V"⟩ ∈ kw := kw_in (List.mem_append_right _ (tb4 _ (List.mem_of_getElem? (i := 58) (by decide +kernel)))) (by decide +kernel)
theorem kw_97 : Cond.selects "GalleonWave" ⟨"GalleonWave", "speak", "()V"⟩ ⟨"GalleonWave", "speak", "()V"⟩ ∈ kw := kw_in (List.mem_append_left _ (List.mem_of_getElem? (i := 23) (by decide +kernel))) (by decide +kernel)
theorem kw_98 : Cond.code ⟨"GalleonWave", "keepHour", "()V"⟩ prog_1_method_84_code 3 none ∈ kw := kw_in (List.mem_append_right _ (tb4 _ (List.mem_of_getElem? (i := 91) (by decide +kernel)))) (by decide +kernel)
theorem kw_99 : Cond.methodLink "GalleonWave" 452 ⟨"GalleonWave", "keepHour", "()V"⟩ ∈ kw := kw_in (List.mem_append_right _ (tb4 _ (List.mem_of_getElem? (i := 88) (by decide +kernel)))) (by decide +kernel)
theorem kw_100 : Cond.instanceMethod ⟨"GalleonWave", "keepHour", "()V"⟩ ∈ kw := kw_in (List.mem_append_right _ (tb4 _ (List.mem_of_getElem? (i := 90) (by decide +kernel)))) (by decide +kernel)
theorem kw_101 : Cond.selects "GalleonWave" ⟨"GalleonWave", "keepHour", "()V"⟩ ⟨"GalleonWave", "keepHour", "()V"⟩ ∈ kw := kw_in (List.mem_append_left _ (List.mem_of_getElem? (i := 28) (by decide +kernel))) (by decide +kernel)
theorem kw_102 : Cond.code ⟨"GalleonWave", "eatAndTire", "()V"⟩ prog_1_method_85_code 3 none ∈ kw := kw_in (List.mem_append_right _ (tb4 _ (List.mem_of_getElem? (i := 99) (by decide +kernel)))) (by decide +kernel)
theorem kw_103 : Cond.methodLink "GalleonWave" 455 ⟨"GalleonWave", "eatAndTire", "()V"⟩ ∈ kw := kw_in (List.mem_append_right _ (tb4 _ (List.mem_of_getElem? (i := 96) (by decide +kernel)))) (by decide +kernel)
theorem kw_104 : Cond.instanceMethod ⟨"GalleonWave", "eatAndTire", "()V"⟩ ∈ kw := kw_in (List.mem_append_right _ (tb4 _ (List.mem_of_getElem? (i := 98) (by decide +kernel)))) (by decide +kernel)
theorem kw_105 : Cond.selects "GalleonWave" ⟨"GalleonWave", "eatAndTire", "()V"⟩ ⟨"GalleonWave", "eatAndTire", "()V"⟩ ∈ kw := kw_in (List.mem_append_left _ (List.mem_of_getElem? (i := 29) (by decide +kernel))) (by decide +kernel)
theorem kw_106 : Cond.code ⟨"GalleonWave", "gatherSalt", "()V"⟩ prog_1_method_86_code 3 none ∈ kw := kw_in (List.mem_append_right _ (tb4 _ (List.mem_of_getElem? (i := 107) (by decide +kernel)))) (by decide +kernel)
theorem kw_107 : Cond.methodLink "GalleonWave" 458 ⟨"GalleonWave", "gatherSalt", "()V"⟩ ∈ kw := kw_in (List.mem_append_right _ (tb4 _ (List.mem_of_getElem? (i := 104) (by decide +kernel)))) (by decide +kernel)
theorem kw_108 : Cond.instanceMethod ⟨"GalleonWave", "gatherSalt", "()V"⟩ ∈ kw := kw_in (List.mem_append_right _ (tb4 _ (List.mem_of_getElem? (i := 106) (by decide +kernel)))) (by decide +kernel)
theorem kw_109 : Cond.selects "GalleonWave" ⟨"GalleonWave", "gatherSalt", "()V"⟩ ⟨"GalleonWave", "gatherSalt", "()V"⟩ ∈ kw := kw_in (List.mem_append_left _ (List.mem_of_getElem? (i := 30) (by decide +kernel))) (by decide +kernel)
theorem kw_110 : Cond.code ⟨"GalleonWave", "moveShips", "()V"⟩ prog_1_method_87_code 3 none ∈ kw := kw_in (List.mem_append_right _ (tb4 _ (List.mem_of_getElem? (i := 112) (by decide +kernel)))) (by decide +kernel)
theorem kw_111 : Cond.methodLink "GalleonWave" 461 ⟨"GalleonWave", "moveShips", "()V"⟩ ∈ kw := kw_in (List.mem_append_right _ (tb4 _ (List.mem_of_getElem? (i := 109) (by decide +kernel)))) (by decide +kernel)
theorem kw_112 : Cond.instanceMethod ⟨"GalleonWave", "moveShips", "()V"⟩ ∈ kw := kw_in (List.mem_append_right _ (tb4 _ (List.mem_of_getElem? (i := 111) (by decide +kernel)))) (by decide +kernel)
theorem kw_113 : Cond.selects "GalleonWave" ⟨"GalleonWave", "moveShips", "()V"⟩ ⟨"GalleonWave", "moveShips", "()V"⟩ ∈ kw := kw_in (List.mem_append_left _ (List.mem_of_getElem? (i := 31) (by decide +kernel))) (by decide +kernel)
theorem kw_114 : Cond.fieldLink "GalleonWave" 63 "GalleonWave" "hour" "I" ∈ kw := kw_in (List.mem_append_right _ (tb1 _ (List.mem_of_getElem? (i := 152) (by decide +kernel)))) (by decide +kernel)
theorem kw_115 : Cond.code ⟨"GalleonWave", "passHour", "()V"⟩ prog_1_method_72_code 1 none ∈ kw := kw_in (List.mem_append_right _ (tb3 _ (List.mem_of_getElem? (i := 215) (by decide +kernel)))) (by decide +kernel)
theorem kw_116 : Cond.methodLink "GalleonWave" 99 ⟨"GalleonWave", "passHour", "()V"⟩ ∈ kw := kw_in (List.mem_append_right _ (tb3 _ (List.mem_of_getElem? (i := 212) (by decide +kernel)))) (by decide +kernel)
theorem kw_117 : Cond.instanceMethod ⟨"GalleonWave", "passHour", "()V"⟩ ∈ kw := kw_in (List.mem_append_right _ (tb3 _ (List.mem_of_getElem? (i := 214) (by decide +kernel)))) (by decide +kernel)
theorem kw_118 : Cond.selects "GalleonWave" ⟨"GalleonWave", "passHour", "()V"⟩ ⟨"GalleonWave", "passHour", "()V"⟩ ∈ kw := kw_in (List.mem_append_left _ (List.mem_of_getElem? (i := 11) (by decide +kernel))) (by decide +kernel)
theorem kw_119 : Cond.methodLink "GalleonWave$Land" 3 ⟨"java/lang/Object", "<init>", "()V"⟩ ∈ kw := kw_in (List.mem_append_right _ (tb2 _ (List.mem_of_getElem? (i := 218) (by decide +kernel)))) (by decide +kernel)
theorem kw_120 : Cond.fieldLink "GalleonWave$Land" 9 "GalleonWave$Land" "east" "I" ∈ kw := kw_in (List.mem_append_right _ (tb2 _ (List.mem_of_getElem? (i := 219) (by decide +kernel)))) (by decide +kernel)
theorem kw_121 : Cond.fieldLink "GalleonWave$Land" 15 "GalleonWave$Land" "north" "I" ∈ kw := kw_in (List.mem_append_right _ (tb2 _ (List.mem_of_getElem? (i := 221) (by decide +kernel)))) (by decide +kernel)
theorem kw_122 : Cond.fieldLink "GalleonWave$Land" 18 "GalleonWave$Land" "shallows" "I" ∈ kw := kw_in (List.mem_append_right _ (tb2 _ (List.mem_of_getElem? (i := 223) (by decide +kernel)))) (by decide +kernel)
theorem kw_123 : Cond.arrayClass .int ∈ kw := kw_in (List.mem_append_right _ (tb1 _ (List.mem_of_getElem? (i := 116) (by decide +kernel)))) (by decide +kernel)
theorem kw_124 : Cond.fieldLink "GalleonWave$Land" 21 "GalleonWave$Land" "actHours" "[I" ∈ kw := kw_in (List.mem_append_right _ (tb2 _ (List.mem_of_getElem? (i := 225) (by decide +kernel)))) (by decide +kernel)
theorem kw_125 : Cond.fieldLink "GalleonWave$Land" 25 "GalleonWave$Land" "actLines" "[I" ∈ kw := kw_in (List.mem_append_right _ (tb2 _ (List.mem_of_getElem? (i := 226) (by decide +kernel)))) (by decide +kernel)
theorem kw_126 : Cond.fieldLink "GalleonWave$Land" 28 "GalleonWave$Land" "actBans" "[I" ∈ kw := kw_in (List.mem_append_right _ (tb2 _ (List.mem_of_getElem? (i := 227) (by decide +kernel)))) (by decide +kernel)
theorem kw_127 : Cond.fieldLink "GalleonWave$Land" 31 "GalleonWave$Land" "crystal" "I" ∈ kw := kw_in (List.mem_append_right _ (tb2 _ (List.mem_of_getElem? (i := 235) (by decide +kernel)))) (by decide +kernel)
theorem kw_128 : Cond.methodLink "GalleonWave$Recording" 1 ⟨"java/lang/Object", "<init>", "()V"⟩ ∈ kw := kw_in (List.mem_append_right _ (tb6 _ (List.mem_of_getElem? (i := 206) (by decide +kernel)))) (by decide +kernel)
theorem kw_129 : Cond.fieldLink "GalleonWave$Recording" 7 "GalleonWave$Recording" "channel" "I" ∈ kw := kw_in (List.mem_append_right _ (tb6 _ (List.mem_of_getElem? (i := 207) (by decide +kernel)))) (by decide +kernel)
theorem kw_130 : Cond.fieldLink "GalleonWave$Recording" 13 "GalleonWave$Recording" "generators" "I" ∈ kw := kw_in (List.mem_append_right _ (tb6 _ (List.mem_of_getElem? (i := 209) (by decide +kernel)))) (by decide +kernel)
theorem kw_131 : Cond.fieldLink "GalleonWave$Recording" 16 "GalleonWave$Recording" "who" "I" ∈ kw := kw_in (List.mem_append_right _ (tb6 _ (List.mem_of_getElem? (i := 211) (by decide +kernel)))) (by decide +kernel)
theorem kw_132 : Cond.methodLink "GalleonWave$Anchor" 1 ⟨"java/lang/Object", "<init>", "()V"⟩ ∈ kw := kw_in (List.mem_append_right _ (tb4 _ (List.mem_of_getElem? (i := 153) (by decide +kernel)))) (by decide +kernel)
theorem kw_133 : Cond.fieldLink "GalleonWave$Anchor" 7 "GalleonWave$Anchor" "east" "I" ∈ kw := kw_in (List.mem_append_right _ (tb4 _ (List.mem_of_getElem? (i := 154) (by decide +kernel)))) (by decide +kernel)
theorem kw_134 : Cond.fieldLink "GalleonWave$Anchor" 13 "GalleonWave$Anchor" "north" "I" ∈ kw := kw_in (List.mem_append_right _ (tb4 _ (List.mem_of_getElem? (i := 156) (by decide +kernel)))) (by decide +kernel)
theorem kw_135 : Cond.methodLink "GalleonWave$Spots" 1 ⟨"java/lang/Object", "<init>", "()V"⟩ ∈ kw := kw_in (List.mem_append_right _ (tb4 _ (List.mem_of_getElem? (i := 196) (by decide +kernel)))) (by decide +kernel)
theorem kw_136 : Cond.methodLink "GalleonWave$Programme" 3 ⟨"java/lang/Object", "<init>", "()V"⟩ ∈ kw := kw_in (List.mem_append_right _ (tb4 _ (List.mem_of_getElem? (i := 182) (by decide +kernel)))) (by decide +kernel)
theorem kw_137 : Cond.fieldLink "GalleonWave$Programme" 9 "GalleonWave$Programme" "hours" "[I" ∈ kw := kw_in (List.mem_append_right _ (tb4 _ (List.mem_of_getElem? (i := 183) (by decide +kernel)))) (by decide +kernel)
theorem kw_138 : Cond.fieldLink "GalleonWave$Programme" 15 "GalleonWave$Programme" "lastTape" "I" ∈ kw := kw_in (List.mem_append_right _ (tb4 _ (List.mem_of_getElem? (i := 184) (by decide +kernel)))) (by decide +kernel)
theorem kw_139 : Cond.methodLink "GalleonWave$Ship" 3 ⟨"java/lang/Object", "<init>", "()V"⟩ ∈ kw := kw_in (List.mem_append_right _ (tb4 _ (List.mem_of_getElem? (i := 147) (by decide +kernel)))) (by decide +kernel)
theorem kw_140 : Cond.classLink "GalleonWave$Ship" 9 "GalleonWave$Anchor" ∈ kw := kw_in (List.mem_append_right _ (tb4 _ (List.mem_of_getElem? (i := 148) (by decide +kernel)))) (by decide +kernel)
theorem kw_141 : Cond.instantiable "GalleonWave$Anchor" 5 ∈ kw := kw_in (List.mem_append_right _ (tb4 _ (List.mem_of_getElem? (i := 149) (by decide +kernel)))) (by decide +kernel)
theorem kw_142 : Cond.initialized "GalleonWave$Anchor" ∈ kw := kw_in (List.mem_append_right _ (tb1 _ (List.mem_of_getElem? (i := 28) (by decide +kernel)))) (by decide +kernel)
theorem kw_143 : Cond.code ⟨"GalleonWave$Anchor", "<init>", "(II)V"⟩ prog_2_method_1_code 3 none ∈ kw := kw_in (List.mem_append_right _ (tb4 _ (List.mem_of_getElem? (i := 152) (by decide +kernel)))) (by decide +kernel)
theorem kw_144 : Cond.methodLink "GalleonWave$Ship" 11 ⟨"GalleonWave$Anchor", "<init>", "(II)V"⟩ ∈ kw := kw_in (List.mem_append_right _ (tb4 _ (List.mem_of_getElem? (i := 150) (by decide +kernel)))) (by decide +kernel)
theorem kw_145 : Cond.instanceMethod ⟨"GalleonWave$Anchor", "<init>", "(II)V"⟩ ∈ kw := kw_in (List.mem_append_right _ (tb4 _ (List.mem_of_getElem? (i := 151) (by decide +kernel)))) (by decide +kernel)
theorem kw_146 : Cond.fieldLink "GalleonWave$Ship" 14 "GalleonWave$Ship" "anchor" "LGalleonWave$Anchor;" ∈ kw := kw_in (List.mem_append_right _ (tb4 _ (List.mem_of_getElem? (i := 212) (by decide +kernel)))) (by decide +kernel)
theorem kw_147 : Cond.classLink "GalleonWave$Ship" 20 "java/util/ArrayList" ∈ kw := kw_in (List.mem_append_right _ (tb4 _ (List.mem_of_getElem? (i := 175) (by decide +kernel)))) (by decide +kernel)
theorem kw_148 : Cond.instantiable "java/util/ArrayList" 3 ∈ kw := kw_in (List.mem_append_right _ (tb1 _ (List.mem_of_getElem? (i := 47) (by decide +kernel)))) (by decide +kernel)
theorem kw_149 : Cond.code ⟨"java/util/ArrayList", "<init>", "()V"⟩ prog_39_method_2_code 1 none ∈ kw := kw_in (List.mem_append_right _ (tb1 _ (List.mem_of_getElem? (i := 50) (by decide +kernel)))) (by decide +kernel)
theorem kw_150 : Cond.methodLink "GalleonWave$Ship" 22 ⟨"java/util/ArrayList", "<init>", "()V"⟩ ∈ kw := kw_in (List.mem_append_right _ (tb4 _ (List.mem_of_getElem? (i := 176) (by decide +kernel)))) (by decide +kernel)
theorem kw_151 : Cond.instanceMethod ⟨"java/util/ArrayList", "<init>", "()V"⟩ ∈ kw := kw_in (List.mem_append_right _ (tb1 _ (List.mem_of_getElem? (i := 49) (by decide +kernel)))) (by decide +kernel)
theorem kw_152 : Cond.fieldLink "GalleonWave$Ship" 23 "GalleonWave$Ship" "generators" "Ljava/util/ArrayList;" ∈ kw := kw_in (List.mem_append_right _ (tb4 _ (List.mem_of_getElem? (i := 214) (by decide +kernel)))) (by decide +kernel)
theorem kw_153 : Cond.classLink "GalleonWave$Ship" 27 "GalleonWave$Programme" ∈ kw := kw_in (List.mem_append_right _ (tb4 _ (List.mem_of_getElem? (i := 177) (by decide +kernel)))) (by decide +kernel)
theorem kw_154 : Cond.instantiable "GalleonWave$Programme" 2 ∈ kw := kw_in (List.mem_append_right _ (tb4 _ (List.mem_of_getElem? (i := 178) (by decide +kernel)))) (by decide +kernel)
theorem kw_155 : Cond.initialized "GalleonWave$Programme" ∈ kw := kw_in (List.mem_append_right _ (tb1 _ (List.mem_of_getElem? (i := 29) (by decide +kernel)))) (by decide +kernel)
theorem kw_156 : Cond.code ⟨"GalleonWave$Programme", "<init>", "()V"⟩ prog_8_method_1_code 2 none ∈ kw := kw_in (List.mem_append_right _ (tb4 _ (List.mem_of_getElem? (i := 181) (by decide +kernel)))) (by decide +kernel)
theorem kw_157 : Cond.methodLink "GalleonWave$Ship" 29 ⟨"GalleonWave$Programme", "<init>", "()V"⟩ ∈ kw := kw_in (List.mem_append_right _ (tb4 _ (List.mem_of_getElem? (i := 179) (by decide +kernel)))) (by decide +kernel)
theorem kw_158 : Cond.instanceMethod ⟨"GalleonWave$Programme", "<init>", "()V"⟩ ∈ kw := kw_in (List.mem_append_right _ (tb4 _ (List.mem_of_getElem? (i := 180) (by decide +kernel)))) (by decide +kernel)
theorem kw_159 : Cond.fieldLink "GalleonWave$Ship" 30 "GalleonWave$Ship" "programme" "LGalleonWave$Programme;" ∈ kw := kw_in (List.mem_append_right _ (tb4 _ (List.mem_of_getElem? (i := 216) (by decide +kernel)))) (by decide +kernel)
theorem kw_160 : Cond.classLink "GalleonWave$Ship" 34 "GalleonWave$Spots" ∈ kw := kw_in (List.mem_append_right _ (tb4 _ (List.mem_of_getElem? (i := 191) (by decide +kernel)))) (by decide +kernel)
theorem kw_161 : Cond.instantiable "GalleonWave$Spots" 4 ∈ kw := kw_in (List.mem_append_right _ (tb4 _ (List.mem_of_getElem? (i := 192) (by decide +kernel)))) (by decide +kernel)
theorem kw_162 : Cond.initialized "GalleonWave$Spots" ∈ kw := kw_in (List.mem_append_right _ (tb1 _ (List.mem_of_getElem? (i := 30) (by decide +kernel)))) (by decide +kernel)
theorem kw_163 : Cond.code ⟨"GalleonWave$Spots", "<init>", "()V"⟩ prog_11_method_1_code 1 none ∈ kw := kw_in (List.mem_append_right _ (tb4 _ (List.mem_of_getElem? (i := 195) (by decide +kernel)))) (by decide +kernel)
theorem kw_164 : Cond.methodLink "GalleonWave$Ship" 36 ⟨"GalleonWave$Spots", "<init>", "()V"⟩ ∈ kw := kw_in (List.mem_append_right _ (tb4 _ (List.mem_of_getElem? (i := 193) (by decide +kernel)))) (by decide +kernel)
theorem kw_165 : Cond.instanceMethod ⟨"GalleonWave$Spots", "<init>", "()V"⟩ ∈ kw := kw_in (List.mem_append_right _ (tb4 _ (List.mem_of_getElem? (i := 194) (by decide +kernel)))) (by decide +kernel)
theorem kw_166 : Cond.fieldLink "GalleonWave$Ship" 37 "GalleonWave$Ship" "spots" "LGalleonWave$Spots;" ∈ kw := kw_in (List.mem_append_right _ (tb4 _ (List.mem_of_getElem? (i := 218) (by decide +kernel)))) (by decide +kernel)
theorem kw_167 : Cond.fieldLink "GalleonWave$Ship" 41 "GalleonWave$Ship" "east" "I" ∈ kw := kw_in (List.mem_append_right _ (tb4 _ (List.mem_of_getElem? (i := 220) (by decide +kernel)))) (by decide +kernel)
theorem kw_168 : Cond.fieldLink "GalleonWave$Ship" 45 "GalleonWave$Ship" "north" "I" ∈ kw := kw_in (List.mem_append_right _ (tb4 _ (List.mem_of_getElem? (i := 222) (by decide +kernel)))) (by decide +kernel)
theorem kw_169 : Cond.fieldLink "GalleonWave$Ship" 48 "GalleonWave$Ship" "channel" "I" ∈ kw := kw_in (List.mem_append_right _ (tb4 _ (List.mem_of_getElem? (i := 234) (by decide +kernel)))) (by decide +kernel)
theorem kw_170 : Cond.fieldLink "GalleonWave$Ship" 51 "GalleonWave$Ship" "speaker" "I" ∈ kw := kw_in (List.mem_append_right _ (tb5 _ (List.mem_of_getElem? (i := 1) (by decide +kernel)))) (by decide +kernel)
theorem kw_171 : Cond.methodLink "GalleonWave$Kept" 3 ⟨"java/lang/Object", "<init>", "()V"⟩ ∈ kw := kw_in (List.mem_append_right _ (tb1 _ (List.mem_of_getElem? (i := 86) (by decide +kernel)))) (by decide +kernel)
theorem kw_172 : Cond.fieldLink "GalleonWave$Kept" 9 "GalleonWave$Kept" "hours" "[I" ∈ kw := kw_in (List.mem_append_right _ (tb1 _ (List.mem_of_getElem? (i := 87) (by decide +kernel)))) (by decide +kernel)
theorem kw_173 : Cond.fieldLink "GalleonWave$Kept" 15 "GalleonWave$Kept" "ships" "[I" ∈ kw := kw_in (List.mem_append_right _ (tb1 _ (List.mem_of_getElem? (i := 89) (by decide +kernel)))) (by decide +kernel)
theorem kw_174 : Cond.fieldLink "GalleonWave$Kept" 18 "GalleonWave$Kept" "channels" "[I" ∈ kw := kw_in (List.mem_append_right _ (tb1 _ (List.mem_of_getElem? (i := 91) (by decide +kernel)))) (by decide +kernel)
theorem kw_175 : Cond.fieldLink "GalleonWave$Kept" 21 "GalleonWave$Kept" "generators" "[I" ∈ kw := kw_in (List.mem_append_right _ (tb1 _ (List.mem_of_getElem? (i := 93) (by decide +kernel)))) (by decide +kernel)
theorem kw_176 : Cond.fieldLink "GalleonWave$Kept" 24 "GalleonWave$Kept" "whos" "[I" ∈ kw := kw_in (List.mem_append_right _ (tb1 _ (List.mem_of_getElem? (i := 95) (by decide +kernel)))) (by decide +kernel)
theorem kw_177 : Cond.methodLink "GalleonWave$Archive" 3 ⟨"java/lang/Object", "<init>", "()V"⟩ ∈ kw := kw_in (List.mem_append_right _ (tb1 _ (List.mem_of_getElem? (i := 80) (by decide +kernel)))) (by decide +kernel)
theorem kw_178 : Cond.classLink "GalleonWave$Archive" 9 "GalleonWave$Kept" ∈ kw := kw_in (List.mem_append_right _ (tb1 _ (List.mem_of_getElem? (i := 81) (by decide +kernel)))) (by decide +kernel)
theorem kw_179 : Cond.instantiable "GalleonWave$Kept" 7 ∈ kw := kw_in (List.mem_append_right _ (tb1 _ (List.mem_of_getElem? (i := 82) (by decide +kernel)))) (by decide +kernel)
theorem kw_180 : Cond.initialized "GalleonWave$Kept" ∈ kw := kw_in (List.mem_append_right _ (tb1 _ (List.mem_of_getElem? (i := 6) (by decide +kernel)))) (by decide +kernel)
theorem kw_181 : Cond.code ⟨"GalleonWave$Kept", "<init>", "()V"⟩ prog_5_method_1_code 1 none ∈ kw := kw_in (List.mem_append_right _ (tb1 _ (List.mem_of_getElem? (i := 85) (by decide +kernel)))) (by decide +kernel)
theorem kw_182 : Cond.methodLink "GalleonWave$Archive" 11 ⟨"GalleonWave$Kept", "<init>", "()V"⟩ ∈ kw := kw_in (List.mem_append_right _ (tb1 _ (List.mem_of_getElem? (i := 83) (by decide +kernel)))) (by decide +kernel)
theorem kw_183 : Cond.instanceMethod ⟨"GalleonWave$Kept", "<init>", "()V"⟩ ∈ kw := kw_in (List.mem_append_right _ (tb1 _ (List.mem_of_getElem? (i := 84) (by decide +kernel)))) (by decide +kernel)
theorem kw_184 : Cond.fieldLink "GalleonWave$Archive" 12 "GalleonWave$Archive" "kept" "LGalleonWave$Kept;" ∈ kw := kw_in (List.mem_append_right _ (tb1 _ (List.mem_of_getElem? (i := 119) (by decide +kernel)))) (by decide +kernel)
theorem kw_185 : Cond.classLink "GalleonWave$Archive" 18 "java/util/ArrayList" ∈ kw := kw_in (List.mem_append_right _ (tb1 _ (List.mem_of_getElem? (i := 117) (by decide +kernel)))) (by decide +kernel)
theorem kw_186 : Cond.methodLink "GalleonWave$Archive" 20 ⟨"java/util/ArrayList", "<init>", "()V"⟩ ∈ kw := kw_in (List.mem_append_right _ (tb1 _ (List.mem_of_getElem? (i := 118) (by decide +kernel)))) (by decide +kernel)
theorem kw_187 : Cond.fieldLink "GalleonWave$Archive" 21 "GalleonWave$Archive" "recordings" "Ljava/util/ArrayList;" ∈ kw := kw_in (List.mem_append_right _ (tb1 _ (List.mem_of_getElem? (i := 121) (by decide +kernel)))) (by decide +kernel)
theorem kw_188 : Cond.fieldLink "GalleonWave$Archive" 25 "GalleonWave$Archive" "best" "[I" ∈ kw := kw_in (List.mem_append_right _ (tb1 _ (List.mem_of_getElem? (i := 123) (by decide +kernel)))) (by decide +kernel)
theorem kw_189 : Cond.fieldLink "GalleonWave$Archive" 29 "GalleonWave$Archive" "needs" "[I" ∈ kw := kw_in (List.mem_append_right _ (tb1 _ (List.mem_of_getElem? (i := 124) (by decide +kernel)))) (by decide +kernel)
theorem kw_190 : Cond.arrayClass .boolean ∈ kw := kw_in (List.mem_append_right _ (tb1 _ (List.mem_of_getElem? (i := 146) (by decide +kernel)))) (by decide +kernel)
theorem kw_191 : Cond.fieldLink "GalleonWave$Archive" 32 "GalleonWave$Archive" "fits" "[Z" ∈ kw := kw_in (List.mem_append_right _ (tb1 _ (List.mem_of_getElem? (i := 125) (by decide +kernel)))) (by decide +kernel)
theorem kw_192 : Cond.fieldLink "GalleonWave$Archive" 36 "GalleonWave$Archive" "order" "[I" ∈ kw := kw_in (List.mem_append_right _ (tb1 _ (List.mem_of_getElem? (i := 126) (by decide +kernel)))) (by decide +kernel)
theorem kw_193 : Cond.fieldLink "GalleonWave$Archive" 39 "GalleonWave$Archive" "places" "[I" ∈ kw := kw_in (List.mem_append_right _ (tb1 _ (List.mem_of_getElem? (i := 127) (by decide +kernel)))) (by decide +kernel)
theorem kw_194 : Cond.methodLink "GalleonWave" 1 ⟨"java/lang/Object", "<init>", "()V"⟩ ∈ kw := kw_in (List.mem_append_right _ (tb1 _ (List.mem_of_getElem? (i := 43) (by decide +kernel)))) (by decide +kernel)
theorem kw_195 : Cond.classLink "GalleonWave" 7 "java/util/ArrayList" ∈ kw := kw_in (List.mem_append_right _ (tb1 _ (List.mem_of_getElem? (i := 46) (by decide +kernel)))) (by decide +kernel)
theorem kw_196 : Cond.methodLink "GalleonWave" 9 ⟨"java/util/ArrayList", "<init>", "()V"⟩ ∈ kw := kw_in (List.mem_append_right _ (tb1 _ (List.mem_of_getElem? (i := 48) (by decide +kernel)))) (by decide +kernel)
theorem kw_197 : Cond.classLink "GalleonWave" 25 "GalleonWave$Archive" ∈ kw := kw_in (List.mem_append_right _ (tb1 _ (List.mem_of_getElem? (i := 75) (by decide +kernel)))) (by decide +kernel)
theorem kw_198 : Cond.instantiable "GalleonWave$Archive" 8 ∈ kw := kw_in (List.mem_append_right _ (tb1 _ (List.mem_of_getElem? (i := 76) (by decide +kernel)))) (by decide +kernel)
theorem kw_199 : Cond.initialized "GalleonWave$Archive" ∈ kw := kw_in (List.mem_append_right _ (tb1 _ (List.mem_of_getElem? (i := 5) (by decide +kernel)))) (by decide +kernel)
theorem kw_200 : Cond.code ⟨"GalleonWave$Archive", "<init>", "()V"⟩ prog_3_method_1_code 1 none ∈ kw := kw_in (List.mem_append_right _ (tb1 _ (List.mem_of_getElem? (i := 79) (by decide +kernel)))) (by decide +kernel)
theorem kw_201 : Cond.methodLink "GalleonWave" 27 ⟨"GalleonWave$Archive", "<init>", "()V"⟩ ∈ kw := kw_in (List.mem_append_right _ (tb1 _ (List.mem_of_getElem? (i := 77) (by decide +kernel)))) (by decide +kernel)
theorem kw_202 : Cond.instanceMethod ⟨"GalleonWave$Archive", "<init>", "()V"⟩ ∈ kw := kw_in (List.mem_append_right _ (tb1 _ (List.mem_of_getElem? (i := 78) (by decide +kernel)))) (by decide +kernel)
theorem kw_203 : Cond.fieldLink "GalleonWave" 32 "GalleonWave" "windWay" "C" ∈ kw := kw_in (List.mem_append_right _ (tb1 _ (List.mem_of_getElem? (i := 154) (by decide +kernel)))) (by decide +kernel)
theorem kw_204 : Cond.code ⟨"GalleonWave", "requirePlace", "(II)V"⟩ prog_1_method_54_code 2 none ∈ kw := kw_in (List.mem_append_right _ (tb2 _ (List.mem_of_getElem? (i := 118) (by decide +kernel)))) (by decide +kernel)
theorem kw_205 : Cond.methodLink "GalleonWave" 36 ⟨"GalleonWave", "requirePlace", "(II)V"⟩ ∈ kw := kw_in (List.mem_append_right _ (tb2 _ (List.mem_of_getElem? (i := 116) (by decide +kernel)))) (by decide +kernel)
theorem kw_206 : Cond.static ⟨"GalleonWave", "requirePlace", "(II)V"⟩ ∈ kw := kw_in (List.mem_append_right _ (tb2 _ (List.mem_of_getElem? (i := 117) (by decide +kernel)))) (by decide +kernel)
theorem kw_207 : Cond.code ⟨"GalleonWave", "requireRoom", "(II)V"⟩ prog_1_method_55_code 2 none ∈ kw := kw_in (List.mem_append_right _ (tb2 _ (List.mem_of_getElem? (i := 196) (by decide +kernel)))) (by decide +kernel)
theorem kw_208 : Cond.methodLink "GalleonWave" 48 ⟨"GalleonWave", "requireRoom", "(II)V"⟩ ∈ kw := kw_in (List.mem_append_right _ (tb2 _ (List.mem_of_getElem? (i := 194) (by decide +kernel)))) (by decide +kernel)
theorem kw_209 : Cond.static ⟨"GalleonWave", "requireRoom", "(II)V"⟩ ∈ kw := kw_in (List.mem_append_right _ (tb2 _ (List.mem_of_getElem? (i := 195) (by decide +kernel)))) (by decide +kernel)
theorem kw_210 : Cond.classLink "GalleonWave" 51 "GalleonWave$Land" ∈ kw := kw_in (List.mem_append_right _ (tb2 _ (List.mem_of_getElem? (i := 213) (by decide +kernel)))) (by decide +kernel)
theorem kw_211 : Cond.instantiable "GalleonWave$Land" 11 ∈ kw := kw_in (List.mem_append_right _ (tb2 _ (List.mem_of_getElem? (i := 214) (by decide +kernel)))) (by decide +kernel)
theorem kw_212 : Cond.initialized "GalleonWave$Land" ∈ kw := kw_in (List.mem_append_right _ (tb1 _ (List.mem_of_getElem? (i := 13) (by decide +kernel)))) (by decide +kernel)
theorem kw_213 : Cond.code ⟨"GalleonWave$Land", "<init>", "(III)V"⟩ prog_6_method_1_code 4 none ∈ kw := kw_in (List.mem_append_right _ (tb2 _ (List.mem_of_getElem? (i := 217) (by decide +kernel)))) (by decide +kernel)
theorem kw_214 : Cond.methodLink "GalleonWave" 53 ⟨"GalleonWave$Land", "<init>", "(III)V"⟩ ∈ kw := kw_in (List.mem_append_right _ (tb2 _ (List.mem_of_getElem? (i := 215) (by decide +kernel)))) (by decide +kernel)
theorem kw_215 : Cond.instanceMethod ⟨"GalleonWave$Land", "<init>", "(III)V"⟩ ∈ kw := kw_in (List.mem_append_right _ (tb2 _ (List.mem_of_getElem? (i := 216) (by decide +kernel)))) (by decide +kernel)
theorem kw_216 : Cond.code ⟨"java/util/ArrayList", "add", "(Ljava/lang/Object;)Z"⟩ prog_39_method_25_code 2 (some .boolean) ∈ kw := kw_in (List.mem_append_right _ (tb3 _ (List.mem_of_getElem? (i := 23) (by decide +kernel)))) (by decide +kernel)
theorem kw_217 : Cond.methodLink "GalleonWave" 55 ⟨"java/util/ArrayList", "add", "(Ljava/lang/Object;)Z"⟩ ∈ kw := kw_in (List.mem_append_right _ (tb3 _ (List.mem_of_getElem? (i := 20) (by decide +kernel)))) (by decide +kernel)
theorem kw_218 : Cond.castable "GalleonWave$Land" "java/lang/Object" ∈ kw := kw_in (List.mem_append_right _ (tb10 _ (List.mem_of_getElem? (i := 74) (by decide +kernel)))) (by decide +kernel)
theorem kw_219 : Cond.instanceMethod ⟨"java/util/ArrayList", "add", "(Ljava/lang/Object;)Z"⟩ ∈ kw := kw_in (List.mem_append_right _ (tb3 _ (List.mem_of_getElem? (i := 21) (by decide +kernel)))) (by decide +kernel)
theorem kw_220 : Cond.selects "java/util/ArrayList" ⟨"java/util/ArrayList", "add", "(Ljava/lang/Object;)Z"⟩ ⟨"java/util/ArrayList", "add", "(Ljava/lang/Object;)Z"⟩ ∈ kw := kw_in (List.mem_append_right _ (tb3 _ (List.mem_of_getElem? (i := 22) (by decide +kernel)))) (by decide +kernel)
theorem kw_221 : Cond.classLink "GalleonWave" 102 "GalleonWave$Ship" ∈ kw := kw_in (List.mem_append_right _ (tb1 _ (List.mem_of_getElem? (i := 212) (by decide +kernel)))) (by decide +kernel)
theorem kw_222 : Cond.instantiable "GalleonWave$Ship" 17 ∈ kw := kw_in (List.mem_append_right _ (tb4 _ (List.mem_of_getElem? (i := 143) (by decide +kernel)))) (by decide +kernel)
theorem kw_223 : Cond.initialized "GalleonWave$Ship" ∈ kw := kw_in (List.mem_append_right _ (tb1 _ (List.mem_of_getElem? (i := 27) (by decide +kernel)))) (by decide +kernel)
theorem kw_224 : Cond.code ⟨"GalleonWave$Ship", "<init>", "(II)V"⟩ prog_10_method_1_code 3 none ∈ kw := kw_in (List.mem_append_right _ (tb4 _ (List.mem_of_getElem? (i := 146) (by decide +kernel)))) (by decide +kernel)
theorem kw_225 : Cond.methodLink "GalleonWave" 104 ⟨"GalleonWave$Ship", "<init>", "(II)V"⟩ ∈ kw := kw_in (List.mem_append_right _ (tb4 _ (List.mem_of_getElem? (i := 144) (by decide +kernel)))) (by decide +kernel)
theorem kw_226 : Cond.instanceMethod ⟨"GalleonWave$Ship", "<init>", "(II)V"⟩ ∈ kw := kw_in (List.mem_append_right _ (tb4 _ (List.mem_of_getElem? (i := 145) (by decide +kernel)))) (by decide +kernel)
theorem kw_227 : Cond.castable "GalleonWave$Ship" "java/lang/Object" ∈ kw := kw_in (List.mem_append_right _ (tb10 _ (List.mem_of_getElem? (i := 78) (by decide +kernel)))) (by decide +kernel)
theorem kw_228 : Cond.code ⟨"GalleonWave", "isPerson", "(I)Z"⟩ prog_1_method_62_code 2 (some .boolean) ∈ kw := kw_in (List.mem_append_right _ (tb1 _ (List.mem_of_getElem? (i := 233) (by decide +kernel)))) (by decide +kernel)
theorem kw_229 : Cond.methodLink "GalleonWave" 415 ⟨"GalleonWave", "isPerson", "(I)Z"⟩ ∈ kw := kw_in (List.mem_append_right _ (tb1 _ (List.mem_of_getElem? (i := 230) (by decide +kernel)))) (by decide +kernel)
theorem kw_230 : Cond.instanceMethod ⟨"GalleonWave", "isPerson", "(I)Z"⟩ ∈ kw := kw_in (List.mem_append_right _ (tb1 _ (List.mem_of_getElem? (i := 232) (by decide +kernel)))) (by decide +kernel)
theorem kw_231 : Cond.selects "GalleonWave" ⟨"GalleonWave", "isPerson", "(I)Z"⟩ ⟨"GalleonWave", "isPerson", "(I)Z"⟩ ∈ kw := kw_in (List.mem_append_left _ (List.mem_of_getElem? (i := 2) (by decide +kernel))) (by decide +kernel)
theorem kw_232 : Cond.code ⟨"GalleonWave", "isTape", "(I)Z"⟩ prog_1_method_64_code 1 (some .boolean) ∈ kw := kw_in (List.mem_append_right _ (tb2 _ (List.mem_of_getElem? (i := 4) (by decide +kernel)))) (by decide +kernel)
theorem kw_233 : Cond.methodLink "GalleonWave" 418 ⟨"GalleonWave", "isTape", "(I)Z"⟩ ∈ kw := kw_in (List.mem_append_right _ (tb2 _ (List.mem_of_getElem? (i := 2) (by decide +kernel)))) (by decide +kernel)
theorem kw_234 : Cond.static ⟨"GalleonWave", "isTape", "(I)Z"⟩ ∈ kw := kw_in (List.mem_append_right _ (tb2 _ (List.mem_of_getElem? (i := 3) (by decide +kernel)))) (by decide +kernel)
theorem kw_235 : Cond.classLink "GalleonWave" 347 "GalleonWave$Recording" ∈ kw := kw_in (List.mem_append_right _ (tb6 _ (List.mem_of_getElem? (i := 201) (by decide +kernel)))) (by decide +kernel)
theorem kw_236 : Cond.instantiable "GalleonWave$Recording" 4 ∈ kw := kw_in (List.mem_append_right _ (tb6 _ (List.mem_of_getElem? (i := 202) (by decide +kernel)))) (by decide +kernel)
theorem kw_237 : Cond.initialized "GalleonWave$Recording" ∈ kw := kw_in (List.mem_append_right _ (tb1 _ (List.mem_of_getElem? (i := 35) (by decide +kernel)))) (by decide +kernel)
theorem kw_238 : Cond.code ⟨"GalleonWave$Recording", "<init>", "(III)V"⟩ prog_9_method_1_code 4 none ∈ kw := kw_in (List.mem_append_right _ (tb6 _ (List.mem_of_getElem? (i := 205) (by decide +kernel)))) (by decide +kernel)
theorem kw_239 : Cond.methodLink "GalleonWave" 349 ⟨"GalleonWave$Recording", "<init>", "(III)V"⟩ ∈ kw := kw_in (List.mem_append_right _ (tb6 _ (List.mem_of_getElem? (i := 203) (by decide +kernel)))) (by decide +kernel)
theorem kw_240 : Cond.instanceMethod ⟨"GalleonWave$Recording", "<init>", "(III)V"⟩ ∈ kw := kw_in (List.mem_append_right _ (tb6 _ (List.mem_of_getElem? (i := 204) (by decide +kernel)))) (by decide +kernel)
theorem kw_241 : Cond.castable "GalleonWave$Recording" "java/lang/Object" ∈ kw := kw_in (List.mem_append_right _ (tb10 _ (List.mem_of_getElem? (i := 86) (by decide +kernel)))) (by decide +kernel)
theorem kw_242 : Cond.code ⟨"GalleonWave", "isPersonOrTape", "(I)Z"⟩ prog_1_method_63_code 2 (some .boolean) ∈ kw := kw_in (List.mem_append_right _ (tb6 _ (List.mem_of_getElem? (i := 95) (by decide +kernel)))) (by decide +kernel)
theorem kw_243 : Cond.methodLink "GalleonWave" 269 ⟨"GalleonWave", "isPersonOrTape", "(I)Z"⟩ ∈ kw := kw_in (List.mem_append_right _ (tb6 _ (List.mem_of_getElem? (i := 92) (by decide +kernel)))) (by decide +kernel)
theorem kw_244 : Cond.instanceMethod ⟨"GalleonWave", "isPersonOrTape", "(I)Z"⟩ ∈ kw := kw_in (List.mem_append_right _ (tb6 _ (List.mem_of_getElem? (i := 94) (by decide +kernel)))) (by decide +kernel)
theorem kw_245 : Cond.selects "GalleonWave" ⟨"GalleonWave", "isPersonOrTape", "(I)Z"⟩ ⟨"GalleonWave", "isPersonOrTape", "(I)Z"⟩ ∈ kw := kw_in (List.mem_append_left _ (List.mem_of_getElem? (i := 42) (by decide +kernel))) (by decide +kernel)
theorem kw_246 : Cond.fieldLink "GalleonWave" 88 "GalleonWave" "tideEast" "I" ∈ kw := kw_in (List.mem_append_right _ (tb1 _ (List.mem_of_getElem? (i := 155) (by decide +kernel)))) (by decide +kernel)
theorem kw_247 : Cond.fieldLink "GalleonWave" 91 "GalleonWave" "tideNorth" "I" ∈ kw := kw_in (List.mem_append_right _ (tb1 _ (List.mem_of_getElem? (i := 156) (by decide +kernel)))) (by decide +kernel)
theorem kw_248 : Cond.fieldLink "GalleonWave" 333 "GalleonWave$Archive" "kept" "LGalleonWave$Kept;" ∈ kw := kw_in (List.mem_append_right _ (tb1 _ (List.mem_of_getElem? (i := 120) (by decide +kernel)))) (by decide +kernel)
theorem kw_249 : Cond.fieldLink "GalleonWave" 337 "GalleonWave$Kept" "count" "I" ∈ kw := kw_in (List.mem_append_right _ (tb1 _ (List.mem_of_getElem? (i := 100) (by decide +kernel)))) (by decide +kernel)
theorem kw_250 : Cond.classLink "GalleonWave" 377 "java/lang/ArithmeticException" ∈ kw := kw_in (List.mem_append_right _ (tb7 _ (List.mem_of_getElem? (i := 50) (by decide +kernel)))) (by decide +kernel)
theorem kw_251 : Cond.initialized "java/lang/ArithmeticException" ∈ kw := kw_in (List.mem_append_right _ (tb1 _ (List.mem_of_getElem? (i := 36) (by decide +kernel)))) (by decide +kernel)
theorem kw_252 : Cond.constantLong "GalleonWave" 390 7 ∈ kw := kw_in (List.mem_append_right _ (tb1 _ (List.mem_of_getElem? (i := 193) (by decide +kernel)))) (by decide +kernel)
theorem kw_253 : Cond.constantLong "GalleonWave" 392 31 ∈ kw := kw_in (List.mem_append_right _ (tb1 _ (List.mem_of_getElem? (i := 213) (by decide +kernel)))) (by decide +kernel)
theorem kw_254 : Cond.methodLink "GalleonWave$Archive" 42 ⟨"java/util/ArrayList", "size", "()I"⟩ ∈ kw := kw_in (List.mem_append_right _ (tb2 _ (List.mem_of_getElem? (i := 9) (by decide +kernel)))) (by decide +kernel)
theorem kw_255 : Cond.code ⟨"GalleonWave", "countAboard", "()I"⟩ prog_1_method_95_code 3 (some .int) ∈ kw := kw_in (List.mem_append_right _ (tb2 _ (List.mem_of_getElem? (i := 106) (by decide +kernel)))) (by decide +kernel)
theorem kw_256 : Cond.methodLink "GalleonWave" 387 ⟨"GalleonWave", "countAboard", "()I"⟩ ∈ kw := kw_in (List.mem_append_right _ (tb2 _ (List.mem_of_getElem? (i := 103) (by decide +kernel)))) (by decide +kernel)
theorem kw_257 : Cond.instanceMethod ⟨"GalleonWave", "countAboard", "()I"⟩ ∈ kw := kw_in (List.mem_append_right _ (tb2 _ (List.mem_of_getElem? (i := 105) (by decide +kernel)))) (by decide +kernel)
theorem kw_258 : Cond.selects "GalleonWave" ⟨"GalleonWave", "countAboard", "()I"⟩ ⟨"GalleonWave", "countAboard", "()I"⟩ ∈ kw := kw_in (List.mem_append_left _ (List.mem_of_getElem? (i := 5) (by decide +kernel))) (by decide +kernel)
theorem kw_259 : Cond.code ⟨"GalleonWave", "areKeptHoursSound", "()Z"⟩ prog_1_method_99_code 2 (some .boolean) ∈ kw := kw_in (List.mem_append_right _ (tb1 _ (List.mem_of_getElem? (i := 221) (by decide +kernel)))) (by decide +kernel)
theorem kw_260 : Cond.methodLink "GalleonWave" 394 ⟨"GalleonWave", "areKeptHoursSound", "()Z"⟩ ∈ kw := kw_in (List.mem_append_right _ (tb1 _ (List.mem_of_getElem? (i := 218) (by decide +kernel)))) (by decide +kernel)
theorem kw_261 : Cond.instanceMethod ⟨"GalleonWave", "areKeptHoursSound", "()Z"⟩ ∈ kw := kw_in (List.mem_append_right _ (tb1 _ (List.mem_of_getElem? (i := 220) (by decide +kernel)))) (by decide +kernel)
theorem kw_262 : Cond.selects "GalleonWave" ⟨"GalleonWave", "areKeptHoursSound", "()Z"⟩ ⟨"GalleonWave", "areKeptHoursSound", "()Z"⟩ ∈ kw := kw_in (List.mem_append_left _ (List.mem_of_getElem? (i := 0) (by decide +kernel))) (by decide +kernel)
theorem kw_263 : Cond.code ⟨"GalleonWave$Archive", "areDatesAsOrdersTell", "()Z"⟩ prog_3_method_16_code 2 (some .boolean) ∈ kw := kw_in (List.mem_append_right _ (tb2 _ (List.mem_of_getElem? (i := 8) (by decide +kernel)))) (by decide +kernel)
theorem kw_264 : Cond.methodLink "GalleonWave" 397 ⟨"GalleonWave$Archive", "areDatesAsOrdersTell", "()Z"⟩ ∈ kw := kw_in (List.mem_append_right _ (tb2 _ (List.mem_of_getElem? (i := 5) (by decide +kernel)))) (by decide +kernel)
theorem kw_265 : Cond.instanceMethod ⟨"GalleonWave$Archive", "areDatesAsOrdersTell", "()Z"⟩ ∈ kw := kw_in (List.mem_append_right _ (tb2 _ (List.mem_of_getElem? (i := 6) (by decide +kernel)))) (by decide +kernel)
theorem kw_266 : Cond.selects "GalleonWave$Archive" ⟨"GalleonWave$Archive", "areDatesAsOrdersTell", "()Z"⟩ ⟨"GalleonWave$Archive", "areDatesAsOrdersTell", "()Z"⟩ ∈ kw := kw_in (List.mem_append_right _ (tb2 _ (List.mem_of_getElem? (i := 7) (by decide +kernel)))) (by decide +kernel)
theorem kw_267 : Cond.code ⟨"GalleonWave", "areCrewsSound", "()Z"⟩ prog_1_method_101_code 3 (some .boolean) ∈ kw := kw_in (List.mem_append_right _ (tb2 _ (List.mem_of_getElem? (i := 98) (by decide +kernel)))) (by decide +kernel)
theorem kw_268 : Cond.methodLink "GalleonWave" 400 ⟨"GalleonWave", "areCrewsSound", "()Z"⟩ ∈ kw := kw_in (List.mem_append_right _ (tb2 _ (List.mem_of_getElem? (i := 95) (by decide +kernel)))) (by decide +kernel)
theorem kw_269 : Cond.instanceMethod ⟨"GalleonWave", "areCrewsSound", "()Z"⟩ ∈ kw := kw_in (List.mem_append_right _ (tb2 _ (List.mem_of_getElem? (i := 97) (by decide +kernel)))) (by decide +kernel)
theorem kw_270 : Cond.selects "GalleonWave" ⟨"GalleonWave", "areCrewsSound", "()Z"⟩ ⟨"GalleonWave", "areCrewsSound", "()Z"⟩ ∈ kw := kw_in (List.mem_append_left _ (List.mem_of_getElem? (i := 3) (by decide +kernel))) (by decide +kernel)
theorem inJx4a65c : ∀ w ∈ u_ws RJx4a65c TJx4a65c 3, w ∈ kw := fun w h => kw_in ((by decide +kernel : ∀ w ∈ u_ws RJx4a65c TJx4a65c 3, w ∈ lw_tbl) w h) ((by decide +kernel : ∀ w ∈ u_ws RJx4a65c TJx4a65c 3, kok w = true) w h)
theorem inX0 : ∀ w ∈ u_ws RX0 TX0 5, w ∈ kw := fun w h => kw_in ((by decide +kernel : ∀ w ∈ u_ws RX0 TX0 5, w ∈ lw_tbl) w h) ((by decide +kernel : ∀ w ∈ u_ws RX0 TX0 5, kok w = true) w h)
theorem inX1 : ∀ w ∈ u_ws RX1 TX1 8, w ∈ kw := fun w h => kw_in ((by decide +kernel : ∀ w ∈ u_ws RX1 TX1 8, w ∈ lw_tbl) w h) ((by decide +kernel : ∀ w ∈ u_ws RX1 TX1 8, kok w = true) w h)
theorem inX11 : ∀ w ∈ u_ws RX11 TX11 11, w ∈ kw := fun w h => kw_in ((by decide +kernel : ∀ w ∈ u_ws RX11 TX11 11, w ∈ lw_tbl) w h) ((by decide +kernel : ∀ w ∈ u_ws RX11 TX11 11, kok w = true) w h)
theorem inX3 : ∀ w ∈ u_ws RX3 TX3 7, w ∈ kw := fun w h => kw_in ((by decide +kernel : ∀ w ∈ u_ws RX3 TX3 7, w ∈ lw_tbl) w h) ((by decide +kernel : ∀ w ∈ u_ws RX3 TX3 7, kok w = true) w h)
theorem inX4 : ∀ w ∈ u_ws RX4 TX4 11, w ∈ kw := fun w h => kw_in ((by decide +kernel : ∀ w ∈ u_ws RX4 TX4 11, w ∈ lw_tbl) w h) ((by decide +kernel : ∀ w ∈ u_ws RX4 TX4 11, kok w = true) w h)
theorem inX6 : ∀ w ∈ u_ws RX6 TX6 2, w ∈ kw := fun w h => kw_in ((by decide +kernel : ∀ w ∈ u_ws RX6 TX6 2, w ∈ lw_tbl) w h) ((by decide +kernel : ∀ w ∈ u_ws RX6 TX6 2, kok w = true) w h)
theorem inX7 : ∀ w ∈ u_ws RX7 TX7 4, w ∈ kw := fun w h => kw_in ((by decide +kernel : ∀ w ∈ u_ws RX7 TX7 4, w ∈ lw_tbl) w h) ((by decide +kernel : ∀ w ∈ u_ws RX7 TX7 4, kok w = true) w h)
theorem inX8 : ∀ w ∈ u_ws RX8 TX8 17, w ∈ kw := fun w h => kw_in ((by decide +kernel : ∀ w ∈ u_ws RX8 TX8 17, w ∈ lw_tbl) w h) ((by decide +kernel : ∀ w ∈ u_ws RX8 TX8 17, kok w = true) w h)
theorem inX9 : ∀ w ∈ u_ws RX9 TX9 4, w ∈ kw := fun w h => kw_in ((by decide +kernel : ∀ w ∈ u_ws RX9 TX9 4, w ∈ lw_tbl) w h) ((by decide +kernel : ∀ w ∈ u_ws RX9 TX9 4, kok w = true) w h)
theorem ydJx4a65c_add_72be8 : (yJx4a65c_add_72be8.cls ≠ "java/lang/invoke/MethodHandle" ∧ yJx4a65c_add_72be8.cls ≠ "java/lang/invoke/VarHandle") ∧ (parseMethodDescriptor yJx4a65c_add_72be8.desc).map (fun d => d.parameters.length) = some 3 := by decide +kernel
theorem ydJx4a65c_add_9ea2d : (yJx4a65c_add_9ea2d.cls ≠ "java/lang/invoke/MethodHandle" ∧ yJx4a65c_add_9ea2d.cls ≠ "java/lang/invoke/VarHandle") ∧ (parseMethodDescriptor yJx4a65c_add_9ea2d.desc).map (fun d => d.parameters.length) = some 1 := by decide +kernel
end
section
theorem ydJx4a65c_grow_92f84 : (yJx4a65c_grow_92f84.cls ≠ "java/lang/invoke/MethodHandle" ∧ yJx4a65c_grow_92f84.cls ≠ "java/lang/invoke/VarHandle") ∧ (parseMethodDescriptor yJx4a65c_grow_92f84.desc).map (fun d => d.parameters.length) = some 1 := by decide +kernel
theorem ydJx4a65c_grow_d5877 : (yJx4a65c_grow_d5877.cls ≠ "java/lang/invoke/MethodHandle" ∧ yJx4a65c_grow_d5877.cls ≠ "java/lang/invoke/VarHandle") ∧ (parseMethodDescriptor yJx4a65c_grow_d5877.desc).map (fun d => d.parameters.length) = some 0 := by decide +kernel
theorem ydJx4a65c_init_da8c8 : (yJx4a65c_init_da8c8.cls ≠ "java/lang/invoke/MethodHandle" ∧ yJx4a65c_init_da8c8.cls ≠ "java/lang/invoke/VarHandle") ∧ (parseMethodDescriptor yJx4a65c_init_da8c8.desc).map (fun d => d.parameters.length) = some 0 := by decide +kernel
theorem ydJx4a65c_size_8abf5 : (yJx4a65c_size_8abf5.cls ≠ "java/lang/invoke/MethodHandle" ∧ yJx4a65c_size_8abf5.cls ≠ "java/lang/invoke/VarHandle") ∧ (parseMethodDescriptor yJx4a65c_size_8abf5.desc).map (fun d => d.parameters.length) = some 0 := by decide +kernel
theorem ydJxa1e45_init_da8c8 : (yJxa1e45_init_da8c8.cls ≠ "java/lang/invoke/MethodHandle" ∧ yJxa1e45_init_da8c8.cls ≠ "java/lang/invoke/VarHandle") ∧ (parseMethodDescriptor yJxa1e45_init_da8c8.desc).map (fun d => d.parameters.length) = some 0 := by decide +kernel
theorem ydJxc12de_init_da8c8 : (yJxc12de_init_da8c8.cls ≠ "java/lang/invoke/MethodHandle" ∧ yJxc12de_init_da8c8.cls ≠ "java/lang/invoke/VarHandle") ∧ (parseMethodDescriptor yJxc12de_init_da8c8.desc).map (fun d => d.parameters.length) = some 0 := by decide +kernel
theorem ydX0_init : (yX0_init.cls ≠ "java/lang/invoke/MethodHandle" ∧ yX0_init.cls ≠ "java/lang/invoke/VarHandle") ∧ (parseMethodDescriptor yX0_init.desc).map (fun d => d.parameters.length) = some 2 := by decide +kernel
theorem ydX11_areCrewsSound : (yX11_areCrewsSound.cls ≠ "java/lang/invoke/MethodHandle" ∧ yX11_areCrewsSound.cls ≠ "java/lang/invoke/VarHandle") ∧ (parseMethodDescriptor yX11_areCrewsSound.desc).map (fun d => d.parameters.length) = some 0 := by decide +kernel
theorem ydX11_areKeptHoursSound : (yX11_areKeptHoursSound.cls ≠ "java/lang/invoke/MethodHandle" ∧ yX11_areKeptHoursSound.cls ≠ "java/lang/invoke/VarHandle") ∧ (parseMethodDescriptor yX11_areKeptHoursSound.desc).map (fun d => d.parameters.length) = some 0 := by decide +kernel
theorem ydX11_countAboard : (yX11_countAboard.cls ≠ "java/lang/invoke/MethodHandle" ∧ yX11_countAboard.cls ≠ "java/lang/invoke/VarHandle") ∧ (parseMethodDescriptor yX11_countAboard.desc).map (fun d => d.parameters.length) = some 0 := by decide +kernel
theorem ydX11_eatAndTire : (yX11_eatAndTire.cls ≠ "java/lang/invoke/MethodHandle" ∧ yX11_eatAndTire.cls ≠ "java/lang/invoke/VarHandle") ∧ (parseMethodDescriptor yX11_eatAndTire.desc).map (fun d => d.parameters.length) = some 0 := by decide +kernel
theorem ydX11_gatherSalt : (yX11_gatherSalt.cls ≠ "java/lang/invoke/MethodHandle" ∧ yX11_gatherSalt.cls ≠ "java/lang/invoke/VarHandle") ∧ (parseMethodDescriptor yX11_gatherSalt.desc).map (fun d => d.parameters.length) = some 0 := by decide +kernel
theorem ydX11_goOnAir : (yX11_goOnAir.cls ≠ "java/lang/invoke/MethodHandle" ∧ yX11_goOnAir.cls ≠ "java/lang/invoke/VarHandle") ∧ (parseMethodDescriptor yX11_goOnAir.desc).map (fun d => d.parameters.length) = some 0 := by decide +kernel
theorem ydX11_isPerson : (yX11_isPerson.cls ≠ "java/lang/invoke/MethodHandle" ∧ yX11_isPerson.cls ≠ "java/lang/invoke/VarHandle") ∧ (parseMethodDescriptor yX11_isPerson.desc).map (fun d => d.parameters.length) = some 1 := by decide +kernel
theorem ydX11_isPersonOrTape : (yX11_isPersonOrTape.cls ≠ "java/lang/invoke/MethodHandle" ∧ yX11_isPersonOrTape.cls ≠ "java/lang/invoke/VarHandle") ∧ (parseMethodDescriptor yX11_isPersonOrTape.desc).map (fun d => d.parameters.length) = some 1 := by decide +kernel
theorem ydX11_isTape : (yX11_isTape.cls ≠ "java/lang/invoke/MethodHandle" ∧ yX11_isTape.cls ≠ "java/lang/invoke/VarHandle") ∧ (parseMethodDescriptor yX11_isTape.desc).map (fun d => d.parameters.length) = some 1 := by decide +kernel
theorem ydX11_keepHour : (yX11_keepHour.cls ≠ "java/lang/invoke/MethodHandle" ∧ yX11_keepHour.cls ≠ "java/lang/invoke/VarHandle") ∧ (parseMethodDescriptor yX11_keepHour.desc).map (fun d => d.parameters.length) = some 0 := by decide +kernel
theorem ydX11_landAt : (yX11_landAt.cls ≠ "java/lang/invoke/MethodHandle" ∧ yX11_landAt.cls ≠ "java/lang/invoke/VarHandle") ∧ (parseMethodDescriptor yX11_landAt.desc).map (fun d => d.parameters.length) = some 1 := by decide +kernel
theorem ydX11_listen : (yX11_listen.cls ≠ "java/lang/invoke/MethodHandle" ∧ yX11_listen.cls ≠ "java/lang/invoke/VarHandle") ∧ (parseMethodDescriptor yX11_listen.desc).map (fun d => d.parameters.length) = some 0 := by decide +kernel
theorem ydX11_moveShips : (yX11_moveShips.cls ≠ "java/lang/invoke/MethodHandle" ∧ yX11_moveShips.cls ≠ "java/lang/invoke/VarHandle") ∧ (parseMethodDescriptor yX11_moveShips.desc).map (fun d => d.parameters.length) = some 0 := by decide +kernel
theorem ydX11_passHour : (yX11_passHour.cls ≠ "java/lang/invoke/MethodHandle" ∧ yX11_passHour.cls ≠ "java/lang/invoke/VarHandle") ∧ (parseMethodDescriptor yX11_passHour.desc).map (fun d => d.parameters.length) = some 0 := by decide +kernel
theorem ydX11_personAt : (yX11_personAt.cls ≠ "java/lang/invoke/MethodHandle" ∧ yX11_personAt.cls ≠ "java/lang/invoke/VarHandle") ∧ (parseMethodDescriptor yX11_personAt.desc).map (fun d => d.parameters.length) = some 1 := by decide +kernel
theorem ydX11_playSpots : (yX11_playSpots.cls ≠ "java/lang/invoke/MethodHandle" ∧ yX11_playSpots.cls ≠ "java/lang/invoke/VarHandle") ∧ (parseMethodDescriptor yX11_playSpots.desc).map (fun d => d.parameters.length) = some 0 := by decide +kernel
theorem ydX11_requireNumber : (yX11_requireNumber.cls ≠ "java/lang/invoke/MethodHandle" ∧ yX11_requireNumber.cls ≠ "java/lang/invoke/VarHandle") ∧ (parseMethodDescriptor yX11_requireNumber.desc).map (fun d => d.parameters.length) = some 2 := by decide +kernel
theorem ydX11_requirePlace : (yX11_requirePlace.cls ≠ "java/lang/invoke/MethodHandle" ∧ yX11_requirePlace.cls ≠ "java/lang/invoke/VarHandle") ∧ (parseMethodDescriptor yX11_requirePlace.desc).map (fun d => d.parameters.length) = some 2 := by decide +kernel
theorem ydX11_requireRange : (yX11_requireRange.cls ≠ "java/lang/invoke/MethodHandle" ∧ yX11_requireRange.cls ≠ "java/lang/invoke/VarHandle") ∧ (parseMethodDescriptor yX11_requireRange.desc).map (fun d => d.parameters.length) = some 3 := by decide +kernel
theorem ydX11_requireRecording : (yX11_requireRecording.cls ≠ "java/lang/invoke/MethodHandle" ∧ yX11_requireRecording.cls ≠ "java/lang/invoke/VarHandle") ∧ (parseMethodDescriptor yX11_requireRecording.desc).map (fun d => d.parameters.length) = some 1 := by decide +kernel
theorem ydX11_requireRoom : (yX11_requireRoom.cls ≠ "java/lang/invoke/MethodHandle" ∧ yX11_requireRoom.cls ≠ "java/lang/invoke/VarHandle") ∧ (parseMethodDescriptor yX11_requireRoom.desc).map (fun d => d.parameters.length) = some 2 := by decide +kernel
theorem ydX11_runGenerators : (yX11_runGenerators.cls ≠ "java/lang/invoke/MethodHandle" ∧ yX11_runGenerators.cls ≠ "java/lang/invoke/VarHandle") ∧ (parseMethodDescriptor yX11_runGenerators.desc).map (fun d => d.parameters.length) = some 0 := by decide +kernel
theorem ydX11_shipAt : (yX11_shipAt.cls ≠ "java/lang/invoke/MethodHandle" ∧ yX11_shipAt.cls ≠ "java/lang/invoke/VarHandle") ∧ (parseMethodDescriptor yX11_shipAt.desc).map (fun d => d.parameters.length) = some 1 := by decide +kernel
theorem ydX11_speak : (yX11_speak.cls ≠ "java/lang/invoke/MethodHandle" ∧ yX11_speak.cls ≠ "java/lang/invoke/VarHandle") ∧ (parseMethodDescriptor yX11_speak.desc).map (fun d => d.parameters.length) = some 0 := by decide +kernel
theorem ydX11_townAt : (yX11_townAt.cls ≠ "java/lang/invoke/MethodHandle" ∧ yX11_townAt.cls ≠ "java/lang/invoke/VarHandle") ∧ (parseMethodDescriptor yX11_townAt.desc).map (fun d => d.parameters.length) = some 1 := by decide +kernel
theorem ydX1_areDatesAsOrdersTell : (yX1_areDatesAsOrdersTell.cls ≠ "java/lang/invoke/MethodHandle" ∧ yX1_areDatesAsOrdersTell.cls ≠ "java/lang/invoke/VarHandle") ∧ (parseMethodDescriptor yX1_areDatesAsOrdersTell.desc).map (fun d => d.parameters.length) = some 0 := by decide +kernel
theorem ydX1_init : (yX1_init.cls ≠ "java/lang/invoke/MethodHandle" ∧ yX1_init.cls ≠ "java/lang/invoke/VarHandle") ∧ (parseMethodDescriptor yX1_init.desc).map (fun d => d.parameters.length) = some 0 := by decide +kernel
theorem ydX3_init : (yX3_init.cls ≠ "java/lang/invoke/MethodHandle" ∧ yX3_init.cls ≠ "java/lang/invoke/VarHandle") ∧ (parseMethodDescriptor yX3_init.desc).map (fun d => d.parameters.length) = some 0 := by decide +kernel
theorem ydX4_init : (yX4_init.cls ≠ "java/lang/invoke/MethodHandle" ∧ yX4_init.cls ≠ "java/lang/invoke/VarHandle") ∧ (parseMethodDescriptor yX4_init.desc).map (fun d => d.parameters.length) = some 3 := by decide +kernel
theorem ydX6_init : (yX6_init.cls ≠ "java/lang/invoke/MethodHandle" ∧ yX6_init.cls ≠ "java/lang/invoke/VarHandle") ∧ (parseMethodDescriptor yX6_init.desc).map (fun d => d.parameters.length) = some 0 := by decide +kernel
theorem ydX7_init : (yX7_init.cls ≠ "java/lang/invoke/MethodHandle" ∧ yX7_init.cls ≠ "java/lang/invoke/VarHandle") ∧ (parseMethodDescriptor yX7_init.desc).map (fun d => d.parameters.length) = some 3 := by decide +kernel
theorem ydX8_init : (yX8_init.cls ≠ "java/lang/invoke/MethodHandle" ∧ yX8_init.cls ≠ "java/lang/invoke/VarHandle") ∧ (parseMethodDescriptor yX8_init.desc).map (fun d => d.parameters.length) = some 2 := by decide +kernel
theorem ydX9_init : (yX9_init.cls ≠ "java/lang/invoke/MethodHandle" ∧ yX9_init.cls ≠ "java/lang/invoke/VarHandle") ∧ (parseMethodDescriptor yX9_init.desc).map (fun d => d.parameters.length) = some 0 := by decide +kernel
theorem at_X11_82 : ∀ w ∈ vx_atS RX11 82 "java/lang/IllegalArgumentException" ["java/lang/RuntimeException", "java/lang/Exception"], w ∈ kw := fun w h => kw_in ((by decide +kernel : ∀ w ∈ vx_atS RX11 82 "java/lang/IllegalArgumentException" ["java/lang/RuntimeException", "java/lang/Exception"], w ∈ lw_tbl) w h) ((by decide +kernel : ∀ w ∈ vx_atS RX11 82 "java/lang/IllegalArgumentException" ["java/lang/RuntimeException", "java/lang/Exception"], kok w = true) w h)
theorem at_X11_82g : ∀ w ∈ Cond.classLink RX11 78 "java/lang/IllegalArgumentException" :: Cond.initialized "java/lang/IllegalArgumentException" :: vx_atS RX11 82 "java/lang/IllegalArgumentException" ["java/lang/RuntimeException", "java/lang/Exception"], vx_ot w = true := by decide +kernel
theorem at_X11_381 : ∀ w ∈ vx_atS RX11 381 "java/lang/ArithmeticException" ["java/lang/RuntimeException", "java/lang/Exception"], w ∈ kw := fun w h => kw_in ((by decide +kernel : ∀ w ∈ vx_atS RX11 381 "java/lang/ArithmeticException" ["java/lang/RuntimeException", "java/lang/Exception"], w ∈ lw_tbl) w h) ((by decide +kernel : ∀ w ∈ vx_atS RX11 381 "java/lang/ArithmeticException" ["java/lang/RuntimeException", "java/lang/Exception"], kok w = true) w h)
theorem at_X11_381g : ∀ w ∈ Cond.classLink RX11 377 "java/lang/ArithmeticException" :: Cond.initialized "java/lang/ArithmeticException" :: vx_atS RX11 381 "java/lang/ArithmeticException" ["java/lang/RuntimeException", "java/lang/Exception"], vx_ot w = true := by decide +kernel
theorem at_X11_414 : ∀ w ∈ vx_atS RX11 414 "java/lang/IndexOutOfBoundsException" ["java/lang/RuntimeException", "java/lang/Exception"], w ∈ kw := fun w h => kw_in ((by decide +kernel : ∀ w ∈ vx_atS RX11 414 "java/lang/IndexOutOfBoundsException" ["java/lang/RuntimeException", "java/lang/Exception"], w ∈ lw_tbl) w h) ((by decide +kernel : ∀ w ∈ vx_atS RX11 414 "java/lang/IndexOutOfBoundsException" ["java/lang/RuntimeException", "java/lang/Exception"], kok w = true) w h)
theorem at_X11_414g : ∀ w ∈ Cond.classLink RX11 410 "java/lang/IndexOutOfBoundsException" :: Cond.initialized "java/lang/IndexOutOfBoundsException" :: vx_atS RX11 414 "java/lang/IndexOutOfBoundsException" ["java/lang/RuntimeException", "java/lang/Exception"], vx_ot w = true := by decide +kernel
theorem dX0_init_0 : decode cX0_init 0 = .ok (.aload_n 0, 1) := by decide +kernel
theorem dX0_init_1 : decode cX0_init 1 = .ok (.invokespecial 1, 3) := by decide +kernel
theorem dX0_init_4 : decode cX0_init 4 = .ok (.aload_n 0, 1) := by decide +kernel
theorem dX0_init_5 : decode cX0_init 5 = .ok (.iload_n 1, 1) := by decide +kernel
theorem dX0_init_6 : decode cX0_init 6 = .ok (.putfield 7, 3) := by decide +kernel
theorem dX0_init_9 : decode cX0_init 9 = .ok (.aload_n 0, 1) := by decide +kernel
theorem dX0_init_10 : decode cX0_init 10 = .ok (.iload_n 2, 1) := by decide +kernel
theorem dX0_init_11 : decode cX0_init 11 = .ok (.putfield 13, 3) := by decide +kernel
theorem dX0_init_14 : decode cX0_init 14 = .ok (.return_, 1) := by decide +kernel
theorem dX1_init_0 : decode cX1_init 0 = .ok (.aload_n 0, 1) := by decide +kernel
theorem dX1_init_1 : decode cX1_init 1 = .ok (.invokespecial 3, 3) := by decide +kernel
theorem dX1_init_4 : decode cX1_init 4 = .ok (.aload_n 0, 1) := by decide +kernel
theorem dX1_init_5 : decode cX1_init 5 = .ok (.new 9, 3) := by decide +kernel
theorem dX1_init_8 : decode cX1_init 8 = .ok (.dup, 1) := by decide +kernel
theorem dX1_init_9 : decode cX1_init 9 = .ok (.invokespecial 11, 3) := by decide +kernel
theorem dX1_init_12 : decode cX1_init 12 = .ok (.putfield 12, 3) := by decide +kernel
theorem dX1_init_15 : decode cX1_init 15 = .ok (.aload_n 0, 1) := by decide +kernel
theorem dX1_init_16 : decode cX1_init 16 = .ok (.new 18, 3) := by decide +kernel
theorem dX1_init_19 : decode cX1_init 19 = .ok (.dup, 1) := by decide +kernel
theorem dX1_init_20 : decode cX1_init 20 = .ok (.invokespecial 20, 3) := by decide +kernel
theorem dX1_init_23 : decode cX1_init 23 = .ok (.putfield 21, 3) := by decide +kernel
theorem dX1_init_26 : decode cX1_init 26 = .ok (.aload_n 0, 1) := by decide +kernel
theorem dX1_init_27 : decode cX1_init 27 = .ok (.bipush 64, 2) := by decide +kernel
theorem dX1_init_29 : decode cX1_init 29 = .ok (.newarray .int, 2) := by decide +kernel
theorem dX1_init_31 : decode cX1_init 31 = .ok (.putfield 25, 3) := by decide +kernel
theorem dX1_init_34 : decode cX1_init 34 = .ok (.aload_n 0, 1) := by decide +kernel
theorem dX1_init_35 : decode cX1_init 35 = .ok (.bipush 64, 2) := by decide +kernel
theorem dX1_init_37 : decode cX1_init 37 = .ok (.newarray .int, 2) := by decide +kernel
theorem dX1_init_39 : decode cX1_init 39 = .ok (.putfield 29, 3) := by decide +kernel
theorem dX1_init_42 : decode cX1_init 42 = .ok (.aload_n 0, 1) := by decide +kernel
theorem dX1_init_43 : decode cX1_init 43 = .ok (.bipush 64, 2) := by decide +kernel
theorem dX1_init_45 : decode cX1_init 45 = .ok (.newarray .boolean, 2) := by decide +kernel
theorem dX1_init_47 : decode cX1_init 47 = .ok (.putfield 32, 3) := by decide +kernel
theorem dX1_init_50 : decode cX1_init 50 = .ok (.aload_n 0, 1) := by decide +kernel
theorem dX1_init_51 : decode cX1_init 51 = .ok (.bipush 6, 2) := by decide +kernel
theorem dX1_init_53 : decode cX1_init 53 = .ok (.newarray .int, 2) := by decide +kernel
theorem dX1_init_55 : decode cX1_init 55 = .ok (.putfield 36, 3) := by decide +kernel
theorem dX1_init_58 : decode cX1_init 58 = .ok (.aload_n 0, 1) := by decide +kernel
theorem dX1_init_59 : decode cX1_init 59 = .ok (.bipush 6, 2) := by decide +kernel
theorem dX1_init_61 : decode cX1_init 61 = .ok (.newarray .int, 2) := by decide +kernel
theorem dX1_init_63 : decode cX1_init 63 = .ok (.putfield 39, 3) := by decide +kernel
theorem dX1_init_66 : decode cX1_init 66 = .ok (.return_, 1) := by decide +kernel
theorem dX1_areDatesAsOrdersTell_0 : decode cX1_areDatesAsOrdersTell 0 = .ok (.aload_n 0, 1) := by decide +kernel
theorem dX1_areDatesAsOrdersTell_1 : decode cX1_areDatesAsOrdersTell 1 = .ok (.getfield 21, 3) := by decide +kernel
theorem dX1_areDatesAsOrdersTell_4 : decode cX1_areDatesAsOrdersTell 4 = .ok (.invokevirtual 42, 3) := by decide +kernel
theorem dX1_areDatesAsOrdersTell_7 : decode cX1_areDatesAsOrdersTell 7 = .ok (.iconst 4, 1) := by decide +kernel
theorem dX1_areDatesAsOrdersTell_8 : decode cX1_areDatesAsOrdersTell 8 = .ok (.if_icmp .le 5, 3) := by decide +kernel
theorem dX1_areDatesAsOrdersTell_13 : decode cX1_areDatesAsOrdersTell 13 = .ok (.iconst 0, 1) := by decide +kernel
theorem dX1_areDatesAsOrdersTell_14 : decode cX1_areDatesAsOrdersTell 14 = .ok (.istore_n 1, 1) := by decide +kernel
theorem dX1_areDatesAsOrdersTell_15 : decode cX1_areDatesAsOrdersTell 15 = .ok (.iload_n 1, 1) := by decide +kernel
theorem dX1_areDatesAsOrdersTell_16 : decode cX1_areDatesAsOrdersTell 16 = .ok (.aload_n 0, 1) := by decide +kernel
theorem dX1_areDatesAsOrdersTell_17 : decode cX1_areDatesAsOrdersTell 17 = .ok (.getfield 21, 3) := by decide +kernel
theorem dX1_areDatesAsOrdersTell_20 : decode cX1_areDatesAsOrdersTell 20 = .ok (.invokevirtual 42, 3) := by decide +kernel
theorem dX1_areDatesAsOrdersTell_23 : decode cX1_areDatesAsOrdersTell 23 = .ok (.if_icmp .ge 41, 3) := by decide +kernel
theorem dX1_areDatesAsOrdersTell_64 : decode cX1_areDatesAsOrdersTell 64 = .ok (.iconst 1, 1) := by decide +kernel
theorem dX1_areDatesAsOrdersTell_65 : decode cX1_areDatesAsOrdersTell 65 = .ok (.ireturn, 1) := by decide +kernel
theorem dX3_init_0 : decode cX3_init 0 = .ok (.aload_n 0, 1) := by decide +kernel
theorem dX3_init_1 : decode cX3_init 1 = .ok (.invokespecial 3, 3) := by decide +kernel
theorem dX3_init_4 : decode cX3_init 4 = .ok (.aload_n 0, 1) := by decide +kernel
theorem dX3_init_5 : decode cX3_init 5 = .ok (.sipush 200, 3) := by decide +kernel
theorem dX3_init_8 : decode cX3_init 8 = .ok (.newarray .int, 2) := by decide +kernel
theorem dX3_init_10 : decode cX3_init 10 = .ok (.putfield 9, 3) := by decide +kernel
theorem dX3_init_13 : decode cX3_init 13 = .ok (.aload_n 0, 1) := by decide +kernel
theorem dX3_init_14 : decode cX3_init 14 = .ok (.sipush 200, 3) := by decide +kernel
theorem dX3_init_17 : decode cX3_init 17 = .ok (.newarray .int, 2) := by decide +kernel
theorem dX3_init_19 : decode cX3_init 19 = .ok (.putfield 15, 3) := by decide +kernel
theorem dX3_init_22 : decode cX3_init 22 = .ok (.aload_n 0, 1) := by decide +kernel
theorem dX3_init_23 : decode cX3_init 23 = .ok (.sipush 200, 3) := by decide +kernel
theorem dX3_init_26 : decode cX3_init 26 = .ok (.newarray .int, 2) := by decide +kernel
theorem dX3_init_28 : decode cX3_init 28 = .ok (.putfield 18, 3) := by decide +kernel
theorem dX3_init_31 : decode cX3_init 31 = .ok (.aload_n 0, 1) := by decide +kernel
theorem dX3_init_32 : decode cX3_init 32 = .ok (.sipush 200, 3) := by decide +kernel
theorem dX3_init_35 : decode cX3_init 35 = .ok (.newarray .int, 2) := by decide +kernel
theorem dX3_init_37 : decode cX3_init 37 = .ok (.putfield 21, 3) := by decide +kernel
theorem dX3_init_40 : decode cX3_init 40 = .ok (.aload_n 0, 1) := by decide +kernel
theorem dX3_init_41 : decode cX3_init 41 = .ok (.sipush 200, 3) := by decide +kernel
theorem dX3_init_44 : decode cX3_init 44 = .ok (.newarray .int, 2) := by decide +kernel
theorem dX3_init_46 : decode cX3_init 46 = .ok (.putfield 24, 3) := by decide +kernel
theorem dX3_init_49 : decode cX3_init 49 = .ok (.return_, 1) := by decide +kernel
theorem dX4_init_0 : decode cX4_init 0 = .ok (.aload_n 0, 1) := by decide +kernel
theorem dX4_init_1 : decode cX4_init 1 = .ok (.invokespecial 3, 3) := by decide +kernel
theorem dX4_init_4 : decode cX4_init 4 = .ok (.aload_n 0, 1) := by decide +kernel
theorem dX4_init_5 : decode cX4_init 5 = .ok (.iload_n 1, 1) := by decide +kernel
theorem dX4_init_6 : decode cX4_init 6 = .ok (.putfield 9, 3) := by decide +kernel
theorem dX4_init_9 : decode cX4_init 9 = .ok (.aload_n 0, 1) := by decide +kernel
theorem dX4_init_10 : decode cX4_init 10 = .ok (.iload_n 2, 1) := by decide +kernel
theorem dX4_init_11 : decode cX4_init 11 = .ok (.putfield 15, 3) := by decide +kernel
theorem dX4_init_14 : decode cX4_init 14 = .ok (.aload_n 0, 1) := by decide +kernel
theorem dX4_init_15 : decode cX4_init 15 = .ok (.iload_n 3, 1) := by decide +kernel
theorem dX4_init_16 : decode cX4_init 16 = .ok (.putfield 18, 3) := by decide +kernel
theorem dX4_init_19 : decode cX4_init 19 = .ok (.aload_n 0, 1) := by decide +kernel
theorem dX4_init_20 : decode cX4_init 20 = .ok (.bipush 8, 2) := by decide +kernel
theorem dX4_init_22 : decode cX4_init 22 = .ok (.newarray .int, 2) := by decide +kernel
theorem dX4_init_24 : decode cX4_init 24 = .ok (.putfield 21, 3) := by decide +kernel
theorem dX4_init_27 : decode cX4_init 27 = .ok (.aload_n 0, 1) := by decide +kernel
theorem dX4_init_28 : decode cX4_init 28 = .ok (.bipush 8, 2) := by decide +kernel
theorem dX4_init_30 : decode cX4_init 30 = .ok (.newarray .int, 2) := by decide +kernel
theorem dX4_init_32 : decode cX4_init 32 = .ok (.putfield 25, 3) := by decide +kernel
theorem dX4_init_35 : decode cX4_init 35 = .ok (.aload_n 0, 1) := by decide +kernel
theorem dX4_init_36 : decode cX4_init 36 = .ok (.bipush 8, 2) := by decide +kernel
theorem dX4_init_38 : decode cX4_init 38 = .ok (.newarray .int, 2) := by decide +kernel
theorem dX4_init_40 : decode cX4_init 40 = .ok (.putfield 28, 3) := by decide +kernel
theorem dX4_init_43 : decode cX4_init 43 = .ok (.aload_n 0, 1) := by decide +kernel
theorem dX4_init_44 : decode cX4_init 44 = .ok (.iconst (-1), 1) := by decide +kernel
theorem dX4_init_45 : decode cX4_init 45 = .ok (.putfield 31, 3) := by decide +kernel
theorem dX4_init_48 : decode cX4_init 48 = .ok (.return_, 1) := by decide +kernel
theorem dX6_init_0 : decode cX6_init 0 = .ok (.aload_n 0, 1) := by decide +kernel
theorem dX6_init_1 : decode cX6_init 1 = .ok (.invokespecial 3, 3) := by decide +kernel
theorem dX6_init_4 : decode cX6_init 4 = .ok (.aload_n 0, 1) := by decide +kernel
theorem dX6_init_5 : decode cX6_init 5 = .ok (.bipush 24, 2) := by decide +kernel
theorem dX6_init_7 : decode cX6_init 7 = .ok (.newarray .int, 2) := by decide +kernel
theorem dX6_init_9 : decode cX6_init 9 = .ok (.putfield 9, 3) := by decide +kernel
theorem dX6_init_12 : decode cX6_init 12 = .ok (.iconst 0, 1) := by decide +kernel
theorem dX6_init_13 : decode cX6_init 13 = .ok (.istore_n 1, 1) := by decide +kernel
theorem dX6_init_14 : decode cX6_init 14 = .ok (.iload_n 1, 1) := by decide +kernel
theorem dX6_init_15 : decode cX6_init 15 = .ok (.bipush 24, 2) := by decide +kernel
theorem dX6_init_17 : decode cX6_init 17 = .ok (.if_icmp .ge 16, 3) := by decide +kernel
theorem dX6_init_20 : decode cX6_init 20 = .ok (.aload_n 0, 1) := by decide +kernel
theorem dX6_init_21 : decode cX6_init 21 = .ok (.getfield 9, 3) := by decide +kernel
theorem dX6_init_24 : decode cX6_init 24 = .ok (.iload_n 1, 1) := by decide +kernel
theorem dX6_init_25 : decode cX6_init 25 = .ok (.iconst (-1), 1) := by decide +kernel
theorem dX6_init_26 : decode cX6_init 26 = .ok (.iastore, 1) := by decide +kernel
theorem dX6_init_27 : decode cX6_init 27 = .ok (.iinc 1 1, 3) := by decide +kernel
theorem dX6_init_30 : decode cX6_init 30 = .ok (.goto (-16), 3) := by decide +kernel
theorem dX6_init_33 : decode cX6_init 33 = .ok (.aload_n 0, 1) := by decide +kernel
theorem dX6_init_34 : decode cX6_init 34 = .ok (.iconst (-1), 1) := by decide +kernel
theorem dX6_init_35 : decode cX6_init 35 = .ok (.putfield 15, 3) := by decide +kernel
theorem dX6_init_38 : decode cX6_init 38 = .ok (.return_, 1) := by decide +kernel
theorem dX7_init_0 : decode cX7_init 0 = .ok (.aload_n 0, 1) := by decide +kernel
theorem dX7_init_1 : decode cX7_init 1 = .ok (.invokespecial 1, 3) := by decide +kernel
theorem dX7_init_4 : decode cX7_init 4 = .ok (.aload_n 0, 1) := by decide +kernel
theorem dX7_init_5 : decode cX7_init 5 = .ok (.iload_n 1, 1) := by decide +kernel
theorem dX7_init_6 : decode cX7_init 6 = .ok (.putfield 7, 3) := by decide +kernel
theorem dX7_init_9 : decode cX7_init 9 = .ok (.aload_n 0, 1) := by decide +kernel
theorem dX7_init_10 : decode cX7_init 10 = .ok (.iload_n 2, 1) := by decide +kernel
theorem dX7_init_11 : decode cX7_init 11 = .ok (.putfield 13, 3) := by decide +kernel
theorem dX7_init_14 : decode cX7_init 14 = .ok (.aload_n 0, 1) := by decide +kernel
theorem dX7_init_15 : decode cX7_init 15 = .ok (.iload_n 3, 1) := by decide +kernel
theorem dX7_init_16 : decode cX7_init 16 = .ok (.putfield 16, 3) := by decide +kernel
theorem dX7_init_19 : decode cX7_init 19 = .ok (.return_, 1) := by decide +kernel
theorem dX8_init_0 : decode cX8_init 0 = .ok (.aload_n 0, 1) := by decide +kernel
theorem dX8_init_1 : decode cX8_init 1 = .ok (.invokespecial 3, 3) := by decide +kernel
theorem dX8_init_4 : decode cX8_init 4 = .ok (.aload_n 0, 1) := by decide +kernel
theorem dX8_init_5 : decode cX8_init 5 = .ok (.new 9, 3) := by decide +kernel
theorem dX8_init_8 : decode cX8_init 8 = .ok (.dup, 1) := by decide +kernel
theorem dX8_init_9 : decode cX8_init 9 = .ok (.iload_n 1, 1) := by decide +kernel
theorem dX8_init_10 : decode cX8_init 10 = .ok (.iload_n 2, 1) := by decide +kernel
theorem dX8_init_11 : decode cX8_init 11 = .ok (.invokespecial 11, 3) := by decide +kernel
theorem dX8_init_14 : decode cX8_init 14 = .ok (.putfield 14, 3) := by decide +kernel
theorem dX8_init_17 : decode cX8_init 17 = .ok (.aload_n 0, 1) := by decide +kernel
theorem dX8_init_18 : decode cX8_init 18 = .ok (.new 20, 3) := by decide +kernel
theorem dX8_init_21 : decode cX8_init 21 = .ok (.dup, 1) := by decide +kernel
theorem dX8_init_22 : decode cX8_init 22 = .ok (.invokespecial 22, 3) := by decide +kernel
theorem dX8_init_25 : decode cX8_init 25 = .ok (.putfield 23, 3) := by decide +kernel
theorem dX8_init_28 : decode cX8_init 28 = .ok (.aload_n 0, 1) := by decide +kernel
theorem dX8_init_29 : decode cX8_init 29 = .ok (.new 27, 3) := by decide +kernel
theorem dX8_init_32 : decode cX8_init 32 = .ok (.dup, 1) := by decide +kernel
theorem dX8_init_33 : decode cX8_init 33 = .ok (.invokespecial 29, 3) := by decide +kernel
theorem dX8_init_36 : decode cX8_init 36 = .ok (.putfield 30, 3) := by decide +kernel
theorem dX8_init_39 : decode cX8_init 39 = .ok (.aload_n 0, 1) := by decide +kernel
theorem dX8_init_40 : decode cX8_init 40 = .ok (.new 34, 3) := by decide +kernel
theorem dX8_init_43 : decode cX8_init 43 = .ok (.dup, 1) := by decide +kernel
theorem dX8_init_44 : decode cX8_init 44 = .ok (.invokespecial 36, 3) := by decide +kernel
theorem dX8_init_47 : decode cX8_init 47 = .ok (.putfield 37, 3) := by decide +kernel
theorem dX8_init_50 : decode cX8_init 50 = .ok (.aload_n 0, 1) := by decide +kernel
theorem dX8_init_51 : decode cX8_init 51 = .ok (.iload_n 1, 1) := by decide +kernel
theorem dX8_init_52 : decode cX8_init 52 = .ok (.putfield 41, 3) := by decide +kernel
theorem dX8_init_55 : decode cX8_init 55 = .ok (.aload_n 0, 1) := by decide +kernel
theorem dX8_init_56 : decode cX8_init 56 = .ok (.iload_n 2, 1) := by decide +kernel
theorem dX8_init_57 : decode cX8_init 57 = .ok (.putfield 45, 3) := by decide +kernel
theorem dX8_init_60 : decode cX8_init 60 = .ok (.aload_n 0, 1) := by decide +kernel
theorem dX8_init_61 : decode cX8_init 61 = .ok (.iconst (-1), 1) := by decide +kernel
theorem dX8_init_62 : decode cX8_init 62 = .ok (.putfield 48, 3) := by decide +kernel
theorem dX8_init_65 : decode cX8_init 65 = .ok (.aload_n 0, 1) := by decide +kernel
theorem dX8_init_66 : decode cX8_init 66 = .ok (.iconst (-1), 1) := by decide +kernel
theorem dX8_init_67 : decode cX8_init 67 = .ok (.putfield 51, 3) := by decide +kernel
theorem dX8_init_70 : decode cX8_init 70 = .ok (.return_, 1) := by decide +kernel
theorem dX9_init_0 : decode cX9_init 0 = .ok (.aload_n 0, 1) := by decide +kernel
theorem dX9_init_1 : decode cX9_init 1 = .ok (.invokespecial 1, 3) := by decide +kernel
theorem dX9_init_4 : decode cX9_init 4 = .ok (.return_, 1) := by decide +kernel
theorem dX11_init_0 : decode cX11_init 0 = .ok (.aload_n 0, 1) := by decide +kernel
theorem dX11_init_1 : decode cX11_init 1 = .ok (.invokespecial 1, 3) := by decide +kernel
theorem dX11_init_4 : decode cX11_init 4 = .ok (.aload_n 0, 1) := by decide +kernel
theorem dX11_init_5 : decode cX11_init 5 = .ok (.new 7, 3) := by decide +kernel
theorem dX11_init_8 : decode cX11_init 8 = .ok (.dup, 1) := by decide +kernel
theorem dX11_init_9 : decode cX11_init 9 = .ok (.invokespecial 9, 3) := by decide +kernel
theorem dX11_init_12 : decode cX11_init 12 = .ok (.putfield 10, 3) := by decide +kernel
theorem dX11_init_15 : decode cX11_init 15 = .ok (.aload_n 0, 1) := by decide +kernel
theorem dX11_init_16 : decode cX11_init 16 = .ok (.new 7, 3) := by decide +kernel
theorem dX11_init_19 : decode cX11_init 19 = .ok (.dup, 1) := by decide +kernel
theorem dX11_init_20 : decode cX11_init 20 = .ok (.invokespecial 9, 3) := by decide +kernel
theorem dX11_init_23 : decode cX11_init 23 = .ok (.putfield 16, 3) := by decide +kernel
theorem dX11_init_26 : decode cX11_init 26 = .ok (.aload_n 0, 1) := by decide +kernel
theorem dX11_init_27 : decode cX11_init 27 = .ok (.new 7, 3) := by decide +kernel
theorem dX11_init_30 : decode cX11_init 30 = .ok (.dup, 1) := by decide +kernel
theorem dX11_init_31 : decode cX11_init 31 = .ok (.invokespecial 9, 3) := by decide +kernel
theorem dX11_init_34 : decode cX11_init 34 = .ok (.putfield 19, 3) := by decide +kernel
theorem dX11_init_37 : decode cX11_init 37 = .ok (.aload_n 0, 1) := by decide +kernel
theorem dX11_init_38 : decode cX11_init 38 = .ok (.new 7, 3) := by decide +kernel
theorem dX11_init_41 : decode cX11_init 41 = .ok (.dup, 1) := by decide +kernel
theorem dX11_init_42 : decode cX11_init 42 = .ok (.invokespecial 9, 3) := by decide +kernel
theorem dX11_init_45 : decode cX11_init 45 = .ok (.putfield 22, 3) := by decide +kernel
theorem dX11_init_48 : decode cX11_init 48 = .ok (.aload_n 0, 1) := by decide +kernel
theorem dX11_init_49 : decode cX11_init 49 = .ok (.new 25, 3) := by decide +kernel
theorem dX11_init_52 : decode cX11_init 52 = .ok (.dup, 1) := by decide +kernel
theorem dX11_init_53 : decode cX11_init 53 = .ok (.invokespecial 27, 3) := by decide +kernel
theorem dX11_init_56 : decode cX11_init 56 = .ok (.putfield 28, 3) := by decide +kernel
theorem dX11_init_59 : decode cX11_init 59 = .ok (.aload_n 0, 1) := by decide +kernel
theorem dX11_init_60 : decode cX11_init 60 = .ok (.bipush 110, 2) := by decide +kernel
theorem dX11_init_62 : decode cX11_init 62 = .ok (.putfield 32, 3) := by decide +kernel
theorem dX11_init_65 : decode cX11_init 65 = .ok (.return_, 1) := by decide +kernel
theorem dX11_addLand_0 : decode cX11_addLand 0 = .ok (.iload_n 1, 1) := by decide +kernel
theorem dX11_addLand_1 : decode cX11_addLand 1 = .ok (.iload_n 2, 1) := by decide +kernel
theorem dX11_addLand_2 : decode cX11_addLand 2 = .ok (.invokestatic 36, 3) := by decide +kernel
theorem dX11_addLand_5 : decode cX11_addLand 5 = .ok (.iload_n 3, 1) := by decide +kernel
theorem dX11_addLand_6 : decode cX11_addLand 6 = .ok (.iconst 1, 1) := by decide +kernel
theorem dX11_addLand_7 : decode cX11_addLand 7 = .ok (.bipush 50, 2) := by decide +kernel
theorem dX11_addLand_9 : decode cX11_addLand 9 = .ok (.invokestatic 40, 3) := by decide +kernel
theorem dX11_addLand_12 : decode cX11_addLand 12 = .ok (.aload_n 0, 1) := by decide +kernel
theorem dX11_addLand_13 : decode cX11_addLand 13 = .ok (.getfield 10, 3) := by decide +kernel
theorem dX11_addLand_16 : decode cX11_addLand 16 = .ok (.invokevirtual 44, 3) := by decide +kernel
theorem dX11_addLand_19 : decode cX11_addLand 19 = .ok (.iconst 4, 1) := by decide +kernel
theorem dX11_addLand_20 : decode cX11_addLand 20 = .ok (.invokestatic 48, 3) := by decide +kernel
theorem dX11_addLand_23 : decode cX11_addLand 23 = .ok (.aload_n 0, 1) := by decide +kernel
theorem dX11_addLand_24 : decode cX11_addLand 24 = .ok (.getfield 10, 3) := by decide +kernel
theorem dX11_addLand_27 : decode cX11_addLand 27 = .ok (.new 51, 3) := by decide +kernel
theorem dX11_addLand_30 : decode cX11_addLand 30 = .ok (.dup, 1) := by decide +kernel
theorem dX11_addLand_31 : decode cX11_addLand 31 = .ok (.iload_n 1, 1) := by decide +kernel
theorem dX11_addLand_32 : decode cX11_addLand 32 = .ok (.iload_n 2, 1) := by decide +kernel
theorem dX11_addLand_33 : decode cX11_addLand 33 = .ok (.iload_n 3, 1) := by decide +kernel
theorem dX11_addLand_34 : decode cX11_addLand 34 = .ok (.invokespecial 53, 3) := by decide +kernel
theorem dX11_addLand_37 : decode cX11_addLand 37 = .ok (.invokevirtual 55, 3) := by decide +kernel
theorem dX11_addLand_40 : decode cX11_addLand 40 = .ok (.pop, 1) := by decide +kernel
theorem dX11_addLand_41 : decode cX11_addLand 41 = .ok (.aload_n 0, 1) := by decide +kernel
theorem dX11_addLand_42 : decode cX11_addLand 42 = .ok (.getfield 10, 3) := by decide +kernel
theorem dX11_addLand_45 : decode cX11_addLand 45 = .ok (.invokevirtual 44, 3) := by decide +kernel
theorem dX11_addLand_48 : decode cX11_addLand 48 = .ok (.iconst 1, 1) := by decide +kernel
theorem dX11_addLand_49 : decode cX11_addLand 49 = .ok (.isub, 1) := by decide +kernel
theorem dX11_addLand_50 : decode cX11_addLand 50 = .ok (.ireturn, 1) := by decide +kernel
theorem dX11_addAct_0 : decode cX11_addAct 0 = .ok (.aload_n 0, 1) := by decide +kernel
theorem dX11_addAct_1 : decode cX11_addAct 1 = .ok (.iload_n 1, 1) := by decide +kernel
theorem dX11_addAct_2 : decode cX11_addAct 2 = .ok (.invokevirtual 59, 3) := by decide +kernel
theorem dX11_getLine_0 : decode cX11_getLine 0 = .ok (.aload_n 0, 1) := by decide +kernel
theorem dX11_getLine_1 : decode cX11_getLine 1 = .ok (.iload_n 1, 1) := by decide +kernel
theorem dX11_getLine_2 : decode cX11_getLine 2 = .ok (.invokevirtual 59, 3) := by decide +kernel
theorem dX11_setWind_0 : decode cX11_setWind 0 = .ok (.iload_n 1, 1) := by decide +kernel
theorem dX11_setWind_1 : decode cX11_setWind 1 = .ok (.iconst 0, 1) := by decide +kernel
theorem dX11_setWind_2 : decode cX11_setWind 2 = .ok (.bipush 12, 2) := by decide +kernel
theorem dX11_setWind_4 : decode cX11_setWind 4 = .ok (.invokestatic 40, 3) := by decide +kernel
theorem dX11_setWind_7 : decode cX11_setWind 7 = .ok (.iload_n 2, 1) := by decide +kernel
theorem dX11_setWind_8 : decode cX11_setWind 8 = .ok (.bipush 110, 2) := by decide +kernel
theorem dX11_setWind_10 : decode cX11_setWind 10 = .ok (.if_icmp .eq 31, 3) := by decide +kernel
theorem dX11_setWind_13 : decode cX11_setWind 13 = .ok (.iload_n 2, 1) := by decide +kernel
theorem dX11_setWind_14 : decode cX11_setWind 14 = .ok (.bipush 101, 2) := by decide +kernel
theorem dX11_setWind_16 : decode cX11_setWind 16 = .ok (.if_icmp .eq 25, 3) := by decide +kernel
theorem dX11_setWind_19 : decode cX11_setWind 19 = .ok (.iload_n 2, 1) := by decide +kernel
theorem dX11_setWind_20 : decode cX11_setWind 20 = .ok (.bipush 115, 2) := by decide +kernel
theorem dX11_setWind_22 : decode cX11_setWind 22 = .ok (.if_icmp .eq 19, 3) := by decide +kernel
theorem dX11_setWind_25 : decode cX11_setWind 25 = .ok (.iload_n 2, 1) := by decide +kernel
theorem dX11_setWind_26 : decode cX11_setWind 26 = .ok (.bipush 119, 2) := by decide +kernel
theorem dX11_setWind_28 : decode cX11_setWind 28 = .ok (.if_icmp .eq 13, 3) := by decide +kernel
theorem dX11_setWind_31 : decode cX11_setWind 31 = .ok (.new 78, 3) := by decide +kernel
theorem dX11_setWind_34 : decode cX11_setWind 34 = .ok (.dup, 1) := by decide +kernel
theorem dX11_setWind_35 : decode cX11_setWind 35 = .ok (.ldc 80, 2) := by decide +kernel
theorem dX11_setWind_37 : decode cX11_setWind 37 = .ok (.invokespecial 82, 3) := by decide +kernel
theorem dX11_setWind_40 : decode cX11_setWind 40 = .ok (.athrow, 1) := by decide +kernel
theorem dX11_setWind_41 : decode cX11_setWind 41 = .ok (.aload_n 0, 1) := by decide +kernel
theorem dX11_setWind_42 : decode cX11_setWind 42 = .ok (.getfield 85, 3) := by decide +kernel
theorem dX11_setWind_45 : decode cX11_setWind 45 = .ok (.istore_n 3, 1) := by decide +kernel
theorem dX11_setWind_46 : decode cX11_setWind 46 = .ok (.aload_n 0, 1) := by decide +kernel
theorem dX11_setWind_47 : decode cX11_setWind 47 = .ok (.iload_n 1, 1) := by decide +kernel
theorem dX11_setWind_48 : decode cX11_setWind 48 = .ok (.putfield 85, 3) := by decide +kernel
theorem dX11_setWind_51 : decode cX11_setWind 51 = .ok (.aload_n 0, 1) := by decide +kernel
theorem dX11_setWind_52 : decode cX11_setWind 52 = .ok (.iload_n 2, 1) := by decide +kernel
theorem dX11_setWind_53 : decode cX11_setWind 53 = .ok (.putfield 32, 3) := by decide +kernel
theorem dX11_setWind_56 : decode cX11_setWind 56 = .ok (.iload_n 3, 1) := by decide +kernel
theorem dX11_setWind_57 : decode cX11_setWind 57 = .ok (.ireturn, 1) := by decide +kernel
theorem dX11_setTide_0 : decode cX11_setTide 0 = .ok (.iload_n 1, 1) := by decide +kernel
theorem dX11_setTide_1 : decode cX11_setTide 1 = .ok (.bipush (-3), 2) := by decide +kernel
theorem dX11_setTide_3 : decode cX11_setTide 3 = .ok (.iconst 3, 1) := by decide +kernel
theorem dX11_setTide_4 : decode cX11_setTide 4 = .ok (.invokestatic 40, 3) := by decide +kernel
theorem dX11_setTide_7 : decode cX11_setTide 7 = .ok (.iload_n 2, 1) := by decide +kernel
theorem dX11_setTide_8 : decode cX11_setTide 8 = .ok (.bipush (-3), 2) := by decide +kernel
theorem dX11_setTide_10 : decode cX11_setTide 10 = .ok (.iconst 3, 1) := by decide +kernel
theorem dX11_setTide_11 : decode cX11_setTide 11 = .ok (.invokestatic 40, 3) := by decide +kernel
theorem dX11_setTide_14 : decode cX11_setTide 14 = .ok (.aload_n 0, 1) := by decide +kernel
theorem dX11_setTide_15 : decode cX11_setTide 15 = .ok (.getfield 88, 3) := by decide +kernel
theorem dX11_setTide_18 : decode cX11_setTide 18 = .ok (.istore_n 3, 1) := by decide +kernel
theorem dX11_setTide_19 : decode cX11_setTide 19 = .ok (.aload_n 0, 1) := by decide +kernel
theorem dX11_setTide_20 : decode cX11_setTide 20 = .ok (.iload_n 1, 1) := by decide +kernel
theorem dX11_setTide_21 : decode cX11_setTide 21 = .ok (.putfield 88, 3) := by decide +kernel
theorem dX11_setTide_24 : decode cX11_setTide 24 = .ok (.aload_n 0, 1) := by decide +kernel
theorem dX11_setTide_25 : decode cX11_setTide 25 = .ok (.iload_n 2, 1) := by decide +kernel
theorem dX11_setTide_26 : decode cX11_setTide 26 = .ok (.putfield 91, 3) := by decide +kernel
theorem dX11_setTide_29 : decode cX11_setTide 29 = .ok (.iload_n 3, 1) := by decide +kernel
theorem dX11_setTide_30 : decode cX11_setTide 30 = .ok (.ireturn, 1) := by decide +kernel
theorem dX11_addTown_0 : decode cX11_addTown 0 = .ok (.aload_n 0, 1) := by decide +kernel
theorem dX11_addTown_1 : decode cX11_addTown 1 = .ok (.iload_n 1, 1) := by decide +kernel
theorem dX11_addTown_2 : decode cX11_addTown 2 = .ok (.invokevirtual 59, 3) := by decide +kernel
theorem dX11_pass_0 : decode cX11_pass 0 = .ok (.iload_n 1, 1) := by decide +kernel
theorem dX11_pass_1 : decode cX11_pass 1 = .ok (.iconst 1, 1) := by decide +kernel
theorem dX11_pass_2 : decode cX11_pass 2 = .ok (.bipush 96, 2) := by decide +kernel
theorem dX11_pass_4 : decode cX11_pass 4 = .ok (.invokestatic 40, 3) := by decide +kernel
theorem dX11_pass_7 : decode cX11_pass 7 = .ok (.iconst 0, 1) := by decide +kernel
theorem dX11_pass_8 : decode cX11_pass 8 = .ok (.istore_n 2, 1) := by decide +kernel
theorem dX11_pass_9 : decode cX11_pass 9 = .ok (.iload_n 2, 1) := by decide +kernel
theorem dX11_pass_10 : decode cX11_pass 10 = .ok (.iload_n 1, 1) := by decide +kernel
theorem dX11_pass_11 : decode cX11_pass 11 = .ok (.if_icmp .ge 13, 3) := by decide +kernel
theorem dX11_pass_14 : decode cX11_pass 14 = .ok (.aload_n 0, 1) := by decide +kernel
theorem dX11_pass_15 : decode cX11_pass 15 = .ok (.invokevirtual 99, 3) := by decide +kernel
theorem dX11_pass_18 : decode cX11_pass 18 = .ok (.iinc 2 1, 3) := by decide +kernel
theorem dX11_pass_21 : decode cX11_pass 21 = .ok (.goto (-12), 3) := by decide +kernel
theorem dX11_pass_24 : decode cX11_pass 24 = .ok (.aload_n 0, 1) := by decide +kernel
theorem dX11_pass_25 : decode cX11_pass 25 = .ok (.getfield 63, 3) := by decide +kernel
theorem dX11_pass_28 : decode cX11_pass 28 = .ok (.ireturn, 1) := by decide +kernel
theorem dX11_addShip_0 : decode cX11_addShip 0 = .ok (.iload_n 1, 1) := by decide +kernel
theorem dX11_addShip_1 : decode cX11_addShip 1 = .ok (.iload_n 2, 1) := by decide +kernel
theorem dX11_addShip_2 : decode cX11_addShip 2 = .ok (.invokestatic 36, 3) := by decide +kernel
theorem dX11_addShip_5 : decode cX11_addShip 5 = .ok (.aload_n 0, 1) := by decide +kernel
theorem dX11_addShip_6 : decode cX11_addShip 6 = .ok (.getfield 19, 3) := by decide +kernel
theorem dX11_addShip_9 : decode cX11_addShip 9 = .ok (.invokevirtual 44, 3) := by decide +kernel
theorem dX11_addShip_12 : decode cX11_addShip 12 = .ok (.iconst 4, 1) := by decide +kernel
theorem dX11_addShip_13 : decode cX11_addShip 13 = .ok (.invokestatic 48, 3) := by decide +kernel
theorem dX11_addShip_16 : decode cX11_addShip 16 = .ok (.aload_n 0, 1) := by decide +kernel
theorem dX11_addShip_17 : decode cX11_addShip 17 = .ok (.getfield 19, 3) := by decide +kernel
theorem dX11_addShip_20 : decode cX11_addShip 20 = .ok (.new 102, 3) := by decide +kernel
theorem dX11_addShip_23 : decode cX11_addShip 23 = .ok (.dup, 1) := by decide +kernel
theorem dX11_addShip_24 : decode cX11_addShip 24 = .ok (.iload_n 1, 1) := by decide +kernel
theorem dX11_addShip_25 : decode cX11_addShip 25 = .ok (.iload_n 2, 1) := by decide +kernel
theorem dX11_addShip_26 : decode cX11_addShip 26 = .ok (.invokespecial 104, 3) := by decide +kernel
theorem dX11_addShip_29 : decode cX11_addShip 29 = .ok (.invokevirtual 55, 3) := by decide +kernel
theorem dX11_addShip_32 : decode cX11_addShip 32 = .ok (.pop, 1) := by decide +kernel
theorem dX11_addShip_33 : decode cX11_addShip 33 = .ok (.aload_n 0, 1) := by decide +kernel
theorem dX11_addShip_34 : decode cX11_addShip 34 = .ok (.getfield 19, 3) := by decide +kernel
theorem dX11_addShip_37 : decode cX11_addShip 37 = .ok (.invokevirtual 44, 3) := by decide +kernel
theorem dX11_addShip_40 : decode cX11_addShip 40 = .ok (.iconst 1, 1) := by decide +kernel
theorem dX11_addShip_41 : decode cX11_addShip 41 = .ok (.isub, 1) := by decide +kernel
theorem dX11_addShip_42 : decode cX11_addShip 42 = .ok (.ireturn, 1) := by decide +kernel
theorem dX11_getPlace_0 : decode cX11_getPlace 0 = .ok (.aload_n 0, 1) := by decide +kernel
theorem dX11_getPlace_1 : decode cX11_getPlace 1 = .ok (.iload_n 1, 1) := by decide +kernel
theorem dX11_getPlace_2 : decode cX11_getPlace 2 = .ok (.invokevirtual 106, 3) := by decide +kernel
theorem dX11_getInside_0 : decode cX11_getInside 0 = .ok (.aload_n 0, 1) := by decide +kernel
theorem dX11_getInside_1 : decode cX11_getInside 1 = .ok (.aload_n 0, 1) := by decide +kernel
theorem dX11_getInside_2 : decode cX11_getInside 2 = .ok (.iload_n 1, 1) := by decide +kernel
theorem dX11_getInside_3 : decode cX11_getInside 3 = .ok (.invokevirtual 106, 3) := by decide +kernel
theorem dX11_anchor_0 : decode cX11_anchor 0 = .ok (.aload_n 0, 1) := by decide +kernel
theorem dX11_anchor_1 : decode cX11_anchor 1 = .ok (.iload_n 1, 1) := by decide +kernel
theorem dX11_anchor_2 : decode cX11_anchor 2 = .ok (.invokevirtual 106, 3) := by decide +kernel
theorem dX11_weigh_0 : decode cX11_weigh 0 = .ok (.aload_n 0, 1) := by decide +kernel
theorem dX11_weigh_1 : decode cX11_weigh 1 = .ok (.iload_n 1, 1) := by decide +kernel
theorem dX11_weigh_2 : decode cX11_weigh 2 = .ok (.invokevirtual 106, 3) := by decide +kernel
theorem dX11_isAground_0 : decode cX11_isAground 0 = .ok (.aload_n 0, 1) := by decide +kernel
theorem dX11_isAground_1 : decode cX11_isAground 1 = .ok (.aload_n 0, 1) := by decide +kernel
theorem dX11_isAground_2 : decode cX11_isAground 2 = .ok (.iload_n 1, 1) := by decide +kernel
theorem dX11_isAground_3 : decode cX11_isAground 3 = .ok (.invokevirtual 106, 3) := by decide +kernel
theorem dX11_pullOff_0 : decode cX11_pullOff 0 = .ok (.aload_n 0, 1) := by decide +kernel
theorem dX11_pullOff_1 : decode cX11_pullOff 1 = .ok (.iload_n 1, 1) := by decide +kernel
theorem dX11_pullOff_2 : decode cX11_pullOff 2 = .ok (.invokevirtual 106, 3) := by decide +kernel
theorem dX11_addGenerator_0 : decode cX11_addGenerator 0 = .ok (.aload_n 0, 1) := by decide +kernel
theorem dX11_addGenerator_1 : decode cX11_addGenerator 1 = .ok (.iload_n 1, 1) := by decide +kernel
theorem dX11_addGenerator_2 : decode cX11_addGenerator 2 = .ok (.invokevirtual 106, 3) := by decide +kernel
theorem dX11_setGenerator_0 : decode cX11_setGenerator 0 = .ok (.aload_n 0, 1) := by decide +kernel
theorem dX11_setGenerator_1 : decode cX11_setGenerator 1 = .ok (.iload_n 1, 1) := by decide +kernel
theorem dX11_setGenerator_2 : decode cX11_setGenerator 2 = .ok (.invokevirtual 106, 3) := by decide +kernel
theorem dX11_getFuel_0 : decode cX11_getFuel 0 = .ok (.aload_n 0, 1) := by decide +kernel
theorem dX11_getFuel_1 : decode cX11_getFuel 1 = .ok (.iload_n 1, 1) := by decide +kernel
theorem dX11_getFuel_2 : decode cX11_getFuel 2 = .ok (.invokevirtual 106, 3) := by decide +kernel
theorem dX11_getFood_0 : decode cX11_getFood 0 = .ok (.aload_n 0, 1) := by decide +kernel
theorem dX11_getFood_1 : decode cX11_getFood 1 = .ok (.iload_n 1, 1) := by decide +kernel
theorem dX11_getFood_2 : decode cX11_getFood 2 = .ok (.invokevirtual 106, 3) := by decide +kernel
theorem dX11_getSalt_0 : decode cX11_getSalt 0 = .ok (.aload_n 0, 1) := by decide +kernel
theorem dX11_getSalt_1 : decode cX11_getSalt 1 = .ok (.iload_n 1, 1) := by decide +kernel
theorem dX11_getSalt_2 : decode cX11_getSalt 2 = .ok (.invokevirtual 106, 3) := by decide +kernel
theorem dX11_wash_0 : decode cX11_wash 0 = .ok (.aload_n 0, 1) := by decide +kernel
theorem dX11_wash_1 : decode cX11_wash 1 = .ok (.iload_n 1, 1) := by decide +kernel
theorem dX11_wash_2 : decode cX11_wash 2 = .ok (.invokevirtual 106, 3) := by decide +kernel
theorem dX11_setPower_0 : decode cX11_setPower 0 = .ok (.aload_n 0, 1) := by decide +kernel
theorem dX11_setPower_1 : decode cX11_setPower 1 = .ok (.iload_n 1, 1) := by decide +kernel
theorem dX11_setPower_2 : decode cX11_setPower 2 = .ok (.invokevirtual 106, 3) := by decide +kernel
theorem dX11_getChannel_0 : decode cX11_getChannel 0 = .ok (.aload_n 0, 1) := by decide +kernel
theorem dX11_getChannel_1 : decode cX11_getChannel 1 = .ok (.iload_n 1, 1) := by decide +kernel
theorem dX11_getChannel_2 : decode cX11_getChannel 2 = .ok (.invokevirtual 106, 3) := by decide +kernel
theorem dX11_isOnAir_0 : decode cX11_isOnAir 0 = .ok (.aload_n 0, 1) := by decide +kernel
theorem dX11_isOnAir_1 : decode cX11_isOnAir 1 = .ok (.iload_n 1, 1) := by decide +kernel
theorem dX11_isOnAir_2 : decode cX11_isOnAir 2 = .ok (.invokevirtual 106, 3) := by decide +kernel
theorem dX11_getSignal_0 : decode cX11_getSignal 0 = .ok (.aload_n 0, 1) := by decide +kernel
theorem dX11_getSignal_1 : decode cX11_getSignal 1 = .ok (.iload_n 1, 1) := by decide +kernel
theorem dX11_getSignal_2 : decode cX11_getSignal 2 = .ok (.invokevirtual 106, 3) := by decide +kernel
theorem dX11_getHeard_0 : decode cX11_getHeard 0 = .ok (.aload_n 0, 1) := by decide +kernel
theorem dX11_getHeard_1 : decode cX11_getHeard 1 = .ok (.iload_n 1, 1) := by decide +kernel
theorem dX11_getHeard_2 : decode cX11_getHeard 2 = .ok (.invokevirtual 202, 3) := by decide +kernel
theorem dX11_getListeners_0 : decode cX11_getListeners 0 = .ok (.aload_n 0, 1) := by decide +kernel
theorem dX11_getListeners_1 : decode cX11_getListeners 1 = .ok (.iload_n 1, 1) := by decide +kernel
theorem dX11_getListeners_2 : decode cX11_getListeners 2 = .ok (.invokevirtual 106, 3) := by decide +kernel
theorem dX11_addPerson_0 : decode cX11_addPerson 0 = .ok (.aload_n 0, 1) := by decide +kernel
theorem dX11_addPerson_1 : decode cX11_addPerson 1 = .ok (.iload_n 1, 1) := by decide +kernel
theorem dX11_addPerson_2 : decode cX11_addPerson 2 = .ok (.invokevirtual 59, 3) := by decide +kernel
theorem dX11_getAboard_0 : decode cX11_getAboard 0 = .ok (.aload_n 0, 1) := by decide +kernel
theorem dX11_getAboard_1 : decode cX11_getAboard 1 = .ok (.iload_n 1, 1) := by decide +kernel
theorem dX11_getAboard_2 : decode cX11_getAboard 2 = .ok (.invokevirtual 223, 3) := by decide +kernel
theorem dX11_isTired_0 : decode cX11_isTired 0 = .ok (.aload_n 0, 1) := by decide +kernel
theorem dX11_isTired_1 : decode cX11_isTired 1 = .ok (.iload_n 1, 1) := by decide +kernel
theorem dX11_isTired_2 : decode cX11_isTired 2 = .ok (.invokevirtual 223, 3) := by decide +kernel
theorem dX11_load_0 : decode cX11_load 0 = .ok (.aload_n 0, 1) := by decide +kernel
theorem dX11_load_1 : decode cX11_load 1 = .ok (.iload_n 1, 1) := by decide +kernel
theorem dX11_load_2 : decode cX11_load 2 = .ok (.invokevirtual 59, 3) := by decide +kernel
theorem dX11_book_0 : decode cX11_book 0 = .ok (.aload_n 0, 1) := by decide +kernel
theorem dX11_book_1 : decode cX11_book 1 = .ok (.iload_n 1, 1) := by decide +kernel
theorem dX11_book_2 : decode cX11_book 2 = .ok (.invokevirtual 59, 3) := by decide +kernel
theorem dX11_send_0 : decode cX11_send 0 = .ok (.aload_n 0, 1) := by decide +kernel
theorem dX11_send_1 : decode cX11_send 1 = .ok (.iload_n 1, 1) := by decide +kernel
theorem dX11_send_2 : decode cX11_send 2 = .ok (.invokevirtual 59, 3) := by decide +kernel
theorem dX11_plan_0 : decode cX11_plan 0 = .ok (.aload_n 0, 1) := by decide +kernel
theorem dX11_plan_1 : decode cX11_plan 1 = .ok (.iload_n 1, 1) := by decide +kernel
theorem dX11_plan_2 : decode cX11_plan 2 = .ok (.invokevirtual 106, 3) := by decide +kernel
theorem dX11_getSpeaker_0 : decode cX11_getSpeaker 0 = .ok (.aload_n 0, 1) := by decide +kernel
theorem dX11_getSpeaker_1 : decode cX11_getSpeaker 1 = .ok (.iload_n 1, 1) := by decide +kernel
theorem dX11_getSpeaker_2 : decode cX11_getSpeaker 2 = .ok (.invokevirtual 106, 3) := by decide +kernel
theorem dX11_isMutiny_0 : decode cX11_isMutiny 0 = .ok (.aload_n 0, 1) := by decide +kernel
theorem dX11_isMutiny_1 : decode cX11_isMutiny 1 = .ok (.iload_n 1, 1) := by decide +kernel
theorem dX11_isMutiny_2 : decode cX11_isMutiny 2 = .ok (.invokevirtual 106, 3) := by decide +kernel
theorem dX11_sell_0 : decode cX11_sell 0 = .ok (.aload_n 0, 1) := by decide +kernel
theorem dX11_sell_1 : decode cX11_sell 1 = .ok (.iload_n 1, 1) := by decide +kernel
theorem dX11_sell_2 : decode cX11_sell 2 = .ok (.invokevirtual 106, 3) := by decide +kernel
theorem dX11_bank_0 : decode cX11_bank 0 = .ok (.aload_n 0, 1) := by decide +kernel
theorem dX11_bank_1 : decode cX11_bank 1 = .ok (.dup, 1) := by decide +kernel
theorem dX11_bank_2 : decode cX11_bank 2 = .ok (.getfield 157, 3) := by decide +kernel
theorem dX11_bank_5 : decode cX11_bank 5 = .ok (.aload_n 0, 1) := by decide +kernel
theorem dX11_bank_6 : decode cX11_bank 6 = .ok (.iload_n 1, 1) := by decide +kernel
theorem dX11_bank_7 : decode cX11_bank 7 = .ok (.invokevirtual 106, 3) := by decide +kernel
theorem dX11_getEarned_0 : decode cX11_getEarned 0 = .ok (.aload_n 0, 1) := by decide +kernel
theorem dX11_getEarned_1 : decode cX11_getEarned 1 = .ok (.iload_n 1, 1) := by decide +kernel
theorem dX11_getEarned_2 : decode cX11_getEarned 2 = .ok (.invokevirtual 106, 3) := by decide +kernel
theorem dX11_getMoney_0 : decode cX11_getMoney 0 = .ok (.aload_n 0, 1) := by decide +kernel
theorem dX11_getMoney_1 : decode cX11_getMoney 1 = .ok (.getfield 157, 3) := by decide +kernel
theorem dX11_getMoney_4 : decode cX11_getMoney 4 = .ok (.ireturn, 1) := by decide +kernel
theorem dX11_getEvidence_0 : decode cX11_getEvidence 0 = .ok (.aload_n 0, 1) := by decide +kernel
theorem dX11_getEvidence_1 : decode cX11_getEvidence 1 = .ok (.iload_n 1, 1) := by decide +kernel
theorem dX11_getEvidence_2 : decode cX11_getEvidence 2 = .ok (.invokevirtual 59, 3) := by decide +kernel
theorem dX11_raid_0 : decode cX11_raid 0 = .ok (.aload_n 0, 1) := by decide +kernel
theorem dX11_raid_1 : decode cX11_raid 1 = .ok (.iload_n 1, 1) := by decide +kernel
theorem dX11_raid_2 : decode cX11_raid 2 = .ok (.invokevirtual 59, 3) := by decide +kernel
theorem dX11_board_0 : decode cX11_board 0 = .ok (.aload_n 0, 1) := by decide +kernel
theorem dX11_board_1 : decode cX11_board 1 = .ok (.iload_n 1, 1) := by decide +kernel
theorem dX11_board_2 : decode cX11_board 2 = .ok (.invokevirtual 106, 3) := by decide +kernel
theorem dX11_getKept_0 : decode cX11_getKept 0 = .ok (.aload_n 0, 1) := by decide +kernel
theorem dX11_getKept_1 : decode cX11_getKept 1 = .ok (.getfield 28, 3) := by decide +kernel
theorem dX11_getKept_4 : decode cX11_getKept 4 = .ok (.getfield 333, 3) := by decide +kernel
theorem dX11_getKept_7 : decode cX11_getKept 7 = .ok (.getfield 337, 3) := by decide +kernel
theorem dX11_getKept_10 : decode cX11_getKept 10 = .ok (.ireturn, 1) := by decide +kernel
theorem dX11_addRecording_0 : decode cX11_addRecording 0 = .ok (.iload_n 1, 1) := by decide +kernel
theorem dX11_addRecording_1 : decode cX11_addRecording 1 = .ok (.iconst (-1), 1) := by decide +kernel
theorem dX11_addRecording_2 : decode cX11_addRecording 2 = .ok (.bipush 9, 2) := by decide +kernel
theorem dX11_addRecording_4 : decode cX11_addRecording 4 = .ok (.invokestatic 40, 3) := by decide +kernel
theorem dX11_addRecording_7 : decode cX11_addRecording 7 = .ok (.iload_n 2, 1) := by decide +kernel
theorem dX11_addRecording_8 : decode cX11_addRecording 8 = .ok (.iconst (-1), 1) := by decide +kernel
theorem dX11_addRecording_9 : decode cX11_addRecording 9 = .ok (.iconst 3, 1) := by decide +kernel
theorem dX11_addRecording_10 : decode cX11_addRecording 10 = .ok (.invokestatic 40, 3) := by decide +kernel
theorem dX11_addRecording_13 : decode cX11_addRecording 13 = .ok (.iload_n 3, 1) := by decide +kernel
theorem dX11_addRecording_14 : decode cX11_addRecording 14 = .ok (.iconst (-1), 1) := by decide +kernel
theorem dX11_addRecording_15 : decode cX11_addRecording 15 = .ok (.if_icmp .eq 29, 3) := by decide +kernel
theorem dX11_addRecording_18 : decode cX11_addRecording 18 = .ok (.iload_n 3, 1) := by decide +kernel
theorem dX11_addRecording_19 : decode cX11_addRecording 19 = .ok (.sipush 200, 3) := by decide +kernel
theorem dX11_addRecording_22 : decode cX11_addRecording 22 = .ok (.if_icmp .eq 22, 3) := by decide +kernel
theorem dX11_addRecording_25 : decode cX11_addRecording 25 = .ok (.aload_n 0, 1) := by decide +kernel
theorem dX11_addRecording_26 : decode cX11_addRecording 26 = .ok (.iload_n 3, 1) := by decide +kernel
theorem dX11_addRecording_27 : decode cX11_addRecording 27 = .ok (.invokevirtual 269, 3) := by decide +kernel
theorem dX11_addRecording_30 : decode cX11_addRecording 30 = .ok (.ifCond .ne 14, 3) := by decide +kernel
theorem dX11_addRecording_33 : decode cX11_addRecording 33 = .ok (.new 78, 3) := by decide +kernel
theorem dX11_addRecording_36 : decode cX11_addRecording 36 = .ok (.dup, 1) := by decide +kernel
theorem dX11_addRecording_37 : decode cX11_addRecording 37 = .ok (.ldc_w 342, 3) := by decide +kernel
theorem dX11_addRecording_40 : decode cX11_addRecording 40 = .ok (.invokespecial 82, 3) := by decide +kernel
theorem dX11_addRecording_43 : decode cX11_addRecording 43 = .ok (.athrow, 1) := by decide +kernel
theorem dX11_addRecording_44 : decode cX11_addRecording 44 = .ok (.aload_n 0, 1) := by decide +kernel
theorem dX11_addRecording_45 : decode cX11_addRecording 45 = .ok (.getfield 28, 3) := by decide +kernel
theorem dX11_addRecording_48 : decode cX11_addRecording 48 = .ok (.getfield 344, 3) := by decide +kernel
theorem dX11_addRecording_51 : decode cX11_addRecording 51 = .ok (.invokevirtual 44, 3) := by decide +kernel
theorem dX11_addRecording_54 : decode cX11_addRecording 54 = .ok (.bipush 6, 2) := by decide +kernel
theorem dX11_addRecording_56 : decode cX11_addRecording 56 = .ok (.invokestatic 48, 3) := by decide +kernel
theorem dX11_addRecording_59 : decode cX11_addRecording 59 = .ok (.aload_n 0, 1) := by decide +kernel
theorem dX11_addRecording_60 : decode cX11_addRecording 60 = .ok (.getfield 28, 3) := by decide +kernel
theorem dX11_addRecording_63 : decode cX11_addRecording 63 = .ok (.getfield 344, 3) := by decide +kernel
theorem dX11_addRecording_66 : decode cX11_addRecording 66 = .ok (.new 347, 3) := by decide +kernel
theorem dX11_addRecording_69 : decode cX11_addRecording 69 = .ok (.dup, 1) := by decide +kernel
theorem dX11_addRecording_70 : decode cX11_addRecording 70 = .ok (.iload_n 1, 1) := by decide +kernel
theorem dX11_addRecording_71 : decode cX11_addRecording 71 = .ok (.iload_n 2, 1) := by decide +kernel
theorem dX11_addRecording_72 : decode cX11_addRecording 72 = .ok (.iload_n 3, 1) := by decide +kernel
theorem dX11_addRecording_73 : decode cX11_addRecording 73 = .ok (.invokespecial 349, 3) := by decide +kernel
theorem dX11_addRecording_76 : decode cX11_addRecording 76 = .ok (.invokevirtual 55, 3) := by decide +kernel
theorem dX11_addRecording_79 : decode cX11_addRecording 79 = .ok (.pop, 1) := by decide +kernel
theorem dX11_addRecording_80 : decode cX11_addRecording 80 = .ok (.aload_n 0, 1) := by decide +kernel
theorem dX11_addRecording_81 : decode cX11_addRecording 81 = .ok (.getfield 28, 3) := by decide +kernel
theorem dX11_addRecording_84 : decode cX11_addRecording 84 = .ok (.getfield 344, 3) := by decide +kernel
theorem dX11_addRecording_87 : decode cX11_addRecording 87 = .ok (.invokevirtual 44, 3) := by decide +kernel
theorem dX11_addRecording_90 : decode cX11_addRecording 90 = .ok (.iconst 1, 1) := by decide +kernel
theorem dX11_addRecording_91 : decode cX11_addRecording 91 = .ok (.isub, 1) := by decide +kernel
theorem dX11_addRecording_92 : decode cX11_addRecording 92 = .ok (.ireturn, 1) := by decide +kernel
theorem dX11_addAhead_0 : decode cX11_addAhead 0 = .ok (.aload_n 0, 1) := by decide +kernel
theorem dX11_addAhead_1 : decode cX11_addAhead 1 = .ok (.iload_n 1, 1) := by decide +kernel
theorem dX11_addAhead_2 : decode cX11_addAhead 2 = .ok (.invokevirtual 350, 3) := by decide +kernel
theorem dX11_getChoices_0 : decode cX11_getChoices 0 = .ok (.aload_n 0, 1) := by decide +kernel
theorem dX11_getChoices_1 : decode cX11_getChoices 1 = .ok (.iload_n 1, 1) := by decide +kernel
theorem dX11_getChoices_2 : decode cX11_getChoices 2 = .ok (.invokevirtual 350, 3) := by decide +kernel
theorem dX11_getDate_0 : decode cX11_getDate 0 = .ok (.aload_n 0, 1) := by decide +kernel
theorem dX11_getDate_1 : decode cX11_getDate 1 = .ok (.iload_n 1, 1) := by decide +kernel
theorem dX11_getDate_2 : decode cX11_getDate 2 = .ok (.invokevirtual 350, 3) := by decide +kernel
theorem dX11_getNightShare_0 : decode cX11_getNightShare 0 = .ok (.aload_n 0, 1) := by decide +kernel
theorem dX11_getNightShare_1 : decode cX11_getNightShare 1 = .ok (.getfield 28, 3) := by decide +kernel
theorem dX11_getNightShare_4 : decode cX11_getNightShare 4 = .ok (.getfield 333, 3) := by decide +kernel
theorem dX11_getNightShare_7 : decode cX11_getNightShare 7 = .ok (.getfield 337, 3) := by decide +kernel
theorem dX11_getNightShare_10 : decode cX11_getNightShare 10 = .ok (.istore_n 1, 1) := by decide +kernel
theorem dX11_getNightShare_11 : decode cX11_getNightShare 11 = .ok (.iload_n 1, 1) := by decide +kernel
theorem dX11_getNightShare_12 : decode cX11_getNightShare 12 = .ok (.ifCond .ne 14, 3) := by decide +kernel
theorem dX11_getNightShare_15 : decode cX11_getNightShare 15 = .ok (.new 377, 3) := by decide +kernel
theorem dX11_getNightShare_18 : decode cX11_getNightShare 18 = .ok (.dup, 1) := by decide +kernel
theorem dX11_getNightShare_19 : decode cX11_getNightShare 19 = .ok (.ldc_w 379, 3) := by decide +kernel
theorem dX11_getNightShare_22 : decode cX11_getNightShare 22 = .ok (.invokespecial 381, 3) := by decide +kernel
theorem dX11_getNightShare_25 : decode cX11_getNightShare 25 = .ok (.athrow, 1) := by decide +kernel
theorem dX11_getMeanCrew_0 : decode cX11_getMeanCrew 0 = .ok (.aload_n 0, 1) := by decide +kernel
theorem dX11_getMeanCrew_1 : decode cX11_getMeanCrew 1 = .ok (.getfield 19, 3) := by decide +kernel
theorem dX11_getMeanCrew_4 : decode cX11_getMeanCrew 4 = .ok (.invokevirtual 44, 3) := by decide +kernel
theorem dX11_getMeanCrew_7 : decode cX11_getMeanCrew 7 = .ok (.istore_n 1, 1) := by decide +kernel
theorem dX11_getMeanCrew_8 : decode cX11_getMeanCrew 8 = .ok (.iload_n 1, 1) := by decide +kernel
theorem dX11_getMeanCrew_9 : decode cX11_getMeanCrew 9 = .ok (.ifCond .ne 14, 3) := by decide +kernel
theorem dX11_getMeanCrew_12 : decode cX11_getMeanCrew 12 = .ok (.new 377, 3) := by decide +kernel
theorem dX11_getMeanCrew_15 : decode cX11_getMeanCrew 15 = .ok (.dup, 1) := by decide +kernel
theorem dX11_getMeanCrew_16 : decode cX11_getMeanCrew 16 = .ok (.ldc_w 385, 3) := by decide +kernel
theorem dX11_getMeanCrew_19 : decode cX11_getMeanCrew 19 = .ok (.invokespecial 381, 3) := by decide +kernel
theorem dX11_getMeanCrew_22 : decode cX11_getMeanCrew 22 = .ok (.athrow, 1) := by decide +kernel
theorem dX11_checksum_0 : decode cX11_checksum 0 = .ok (.ldc2_w 390, 3) := by decide +kernel
end
section
theorem dX11_checksum_3 : decode cX11_checksum 3 = .ok (.lstore_n 1, 1) := by decide +kernel
theorem dX11_checksum_4 : decode cX11_checksum 4 = .ok (.iconst 0, 1) := by decide +kernel
theorem dX11_checksum_5 : decode cX11_checksum 5 = .ok (.istore_n 3, 1) := by decide +kernel
theorem dX11_checksum_6 : decode cX11_checksum 6 = .ok (.iload_n 3, 1) := by decide +kernel
theorem dX11_checksum_7 : decode cX11_checksum 7 = .ok (.aload_n 0, 1) := by decide +kernel
theorem dX11_checksum_8 : decode cX11_checksum 8 = .ok (.getfield 19, 3) := by decide +kernel
theorem dX11_checksum_11 : decode cX11_checksum 11 = .ok (.invokevirtual 44, 3) := by decide +kernel
theorem dX11_checksum_14 : decode cX11_checksum 14 = .ok (.if_icmp .ge 90, 3) := by decide +kernel
theorem dX11_checksum_104 : decode cX11_checksum 104 = .ok (.ldc2_w 392, 3) := by decide +kernel
theorem dX11_checksum_107 : decode cX11_checksum 107 = .ok (.lload_n 1, 1) := by decide +kernel
theorem dX11_checksum_108 : decode cX11_checksum 108 = .ok (.lmul, 1) := by decide +kernel
theorem dX11_checksum_109 : decode cX11_checksum 109 = .ok (.aload_n 0, 1) := by decide +kernel
theorem dX11_checksum_110 : decode cX11_checksum 110 = .ok (.getfield 157, 3) := by decide +kernel
theorem dX11_checksum_113 : decode cX11_checksum 113 = .ok (.i2l, 1) := by decide +kernel
theorem dX11_checksum_114 : decode cX11_checksum 114 = .ok (.ladd, 1) := by decide +kernel
theorem dX11_checksum_115 : decode cX11_checksum 115 = .ok (.lstore_n 1, 1) := by decide +kernel
theorem dX11_checksum_116 : decode cX11_checksum 116 = .ok (.ldc2_w 392, 3) := by decide +kernel
theorem dX11_checksum_119 : decode cX11_checksum 119 = .ok (.lload_n 1, 1) := by decide +kernel
theorem dX11_checksum_120 : decode cX11_checksum 120 = .ok (.lmul, 1) := by decide +kernel
theorem dX11_checksum_121 : decode cX11_checksum 121 = .ok (.aload_n 0, 1) := by decide +kernel
theorem dX11_checksum_122 : decode cX11_checksum 122 = .ok (.getfield 63, 3) := by decide +kernel
theorem dX11_checksum_125 : decode cX11_checksum 125 = .ok (.i2l, 1) := by decide +kernel
theorem dX11_checksum_126 : decode cX11_checksum 126 = .ok (.ladd, 1) := by decide +kernel
theorem dX11_checksum_127 : decode cX11_checksum 127 = .ok (.lreturn, 1) := by decide +kernel
theorem dX11_isSound_0 : decode cX11_isSound 0 = .ok (.aload_n 0, 1) := by decide +kernel
theorem dX11_isSound_1 : decode cX11_isSound 1 = .ok (.invokevirtual 394, 3) := by decide +kernel
theorem dX11_isSound_4 : decode cX11_isSound 4 = .ok (.ifCond .eq 24, 3) := by decide +kernel
theorem dX11_isSound_7 : decode cX11_isSound 7 = .ok (.aload_n 0, 1) := by decide +kernel
theorem dX11_isSound_8 : decode cX11_isSound 8 = .ok (.getfield 28, 3) := by decide +kernel
theorem dX11_isSound_11 : decode cX11_isSound 11 = .ok (.invokevirtual 397, 3) := by decide +kernel
theorem dX11_isSound_14 : decode cX11_isSound 14 = .ok (.ifCond .eq 14, 3) := by decide +kernel
theorem dX11_isSound_17 : decode cX11_isSound 17 = .ok (.aload_n 0, 1) := by decide +kernel
theorem dX11_isSound_18 : decode cX11_isSound 18 = .ok (.invokevirtual 400, 3) := by decide +kernel
theorem dX11_isSound_21 : decode cX11_isSound 21 = .ok (.ifCond .eq 7, 3) := by decide +kernel
theorem dX11_isSound_24 : decode cX11_isSound 24 = .ok (.iconst 1, 1) := by decide +kernel
theorem dX11_isSound_25 : decode cX11_isSound 25 = .ok (.goto 4, 3) := by decide +kernel
theorem dX11_isSound_29 : decode cX11_isSound 29 = .ok (.ireturn, 1) := by decide +kernel
theorem dX11_requireRange_0 : decode cX11_requireRange 0 = .ok (.iload_n 0, 1) := by decide +kernel
theorem dX11_requireRange_1 : decode cX11_requireRange 1 = .ok (.iload_n 1, 1) := by decide +kernel
theorem dX11_requireRange_2 : decode cX11_requireRange 2 = .ok (.if_icmp .lt 8, 3) := by decide +kernel
theorem dX11_requireRange_5 : decode cX11_requireRange 5 = .ok (.iload_n 0, 1) := by decide +kernel
theorem dX11_requireRange_6 : decode cX11_requireRange 6 = .ok (.iload_n 2, 1) := by decide +kernel
theorem dX11_requireRange_7 : decode cX11_requireRange 7 = .ok (.if_icmp .le 14, 3) := by decide +kernel
theorem dX11_requireRange_10 : decode cX11_requireRange 10 = .ok (.new 78, 3) := by decide +kernel
theorem dX11_requireRange_13 : decode cX11_requireRange 13 = .ok (.dup, 1) := by decide +kernel
theorem dX11_requireRange_14 : decode cX11_requireRange 14 = .ok (.ldc_w 403, 3) := by decide +kernel
theorem dX11_requireRange_17 : decode cX11_requireRange 17 = .ok (.invokespecial 82, 3) := by decide +kernel
theorem dX11_requireRange_20 : decode cX11_requireRange 20 = .ok (.athrow, 1) := by decide +kernel
theorem dX11_requireRange_21 : decode cX11_requireRange 21 = .ok (.return_, 1) := by decide +kernel
theorem dX11_requirePlace_0 : decode cX11_requirePlace 0 = .ok (.iload_n 0, 1) := by decide +kernel
theorem dX11_requirePlace_1 : decode cX11_requirePlace 1 = .ok (.sipush (-999), 3) := by decide +kernel
theorem dX11_requirePlace_4 : decode cX11_requirePlace 4 = .ok (.sipush 999, 3) := by decide +kernel
theorem dX11_requirePlace_7 : decode cX11_requirePlace 7 = .ok (.invokestatic 40, 3) := by decide +kernel
theorem dX11_requirePlace_10 : decode cX11_requirePlace 10 = .ok (.iload_n 1, 1) := by decide +kernel
theorem dX11_requirePlace_11 : decode cX11_requirePlace 11 = .ok (.sipush (-999), 3) := by decide +kernel
theorem dX11_requirePlace_14 : decode cX11_requirePlace 14 = .ok (.sipush 999, 3) := by decide +kernel
theorem dX11_requirePlace_17 : decode cX11_requirePlace 17 = .ok (.invokestatic 40, 3) := by decide +kernel
theorem dX11_requirePlace_20 : decode cX11_requirePlace 20 = .ok (.return_, 1) := by decide +kernel
theorem dX11_requireRoom_0 : decode cX11_requireRoom 0 = .ok (.iload_n 0, 1) := by decide +kernel
theorem dX11_requireRoom_1 : decode cX11_requireRoom 1 = .ok (.iload_n 1, 1) := by decide +kernel
theorem dX11_requireRoom_2 : decode cX11_requireRoom 2 = .ok (.if_icmp .lt 14, 3) := by decide +kernel
theorem dX11_requireRoom_16 : decode cX11_requireRoom 16 = .ok (.return_, 1) := by decide +kernel
theorem dX11_requireNumber_0 : decode cX11_requireNumber 0 = .ok (.iload_n 0, 1) := by decide +kernel
theorem dX11_requireNumber_1 : decode cX11_requireNumber 1 = .ok (.ifCond .lt 8, 3) := by decide +kernel
theorem dX11_requireNumber_4 : decode cX11_requireNumber 4 = .ok (.iload_n 0, 1) := by decide +kernel
theorem dX11_requireNumber_5 : decode cX11_requireNumber 5 = .ok (.iload_n 1, 1) := by decide +kernel
theorem dX11_requireNumber_6 : decode cX11_requireNumber 6 = .ok (.if_icmp .lt 14, 3) := by decide +kernel
theorem dX11_requireNumber_9 : decode cX11_requireNumber 9 = .ok (.new 410, 3) := by decide +kernel
theorem dX11_requireNumber_12 : decode cX11_requireNumber 12 = .ok (.dup, 1) := by decide +kernel
theorem dX11_requireNumber_13 : decode cX11_requireNumber 13 = .ok (.ldc_w 412, 3) := by decide +kernel
theorem dX11_requireNumber_16 : decode cX11_requireNumber 16 = .ok (.invokespecial 414, 3) := by decide +kernel
theorem dX11_requireNumber_19 : decode cX11_requireNumber 19 = .ok (.athrow, 1) := by decide +kernel
theorem dX11_requireRecording_0 : decode cX11_requireRecording 0 = .ok (.iload_n 1, 1) := by decide +kernel
theorem dX11_requireRecording_1 : decode cX11_requireRecording 1 = .ok (.aload_n 0, 1) := by decide +kernel
theorem dX11_requireRecording_2 : decode cX11_requireRecording 2 = .ok (.getfield 28, 3) := by decide +kernel
theorem dX11_requireRecording_5 : decode cX11_requireRecording 5 = .ok (.getfield 344, 3) := by decide +kernel
theorem dX11_requireRecording_8 : decode cX11_requireRecording 8 = .ok (.invokevirtual 44, 3) := by decide +kernel
theorem dX11_requireRecording_11 : decode cX11_requireRecording 11 = .ok (.invokestatic 166, 3) := by decide +kernel
theorem dX11_landAt_0 : decode cX11_landAt 0 = .ok (.iload_n 1, 1) := by decide +kernel
theorem dX11_landAt_1 : decode cX11_landAt 1 = .ok (.aload_n 0, 1) := by decide +kernel
theorem dX11_landAt_2 : decode cX11_landAt 2 = .ok (.getfield 10, 3) := by decide +kernel
theorem dX11_landAt_5 : decode cX11_landAt 5 = .ok (.invokevirtual 44, 3) := by decide +kernel
theorem dX11_landAt_8 : decode cX11_landAt 8 = .ok (.invokestatic 166, 3) := by decide +kernel
theorem dX11_townAt_0 : decode cX11_townAt 0 = .ok (.iload_n 1, 1) := by decide +kernel
theorem dX11_townAt_1 : decode cX11_townAt 1 = .ok (.aload_n 0, 1) := by decide +kernel
theorem dX11_townAt_2 : decode cX11_townAt 2 = .ok (.getfield 16, 3) := by decide +kernel
theorem dX11_townAt_5 : decode cX11_townAt 5 = .ok (.invokevirtual 44, 3) := by decide +kernel
theorem dX11_townAt_8 : decode cX11_townAt 8 = .ok (.invokestatic 166, 3) := by decide +kernel
theorem dX11_shipAt_0 : decode cX11_shipAt 0 = .ok (.iload_n 1, 1) := by decide +kernel
theorem dX11_shipAt_1 : decode cX11_shipAt 1 = .ok (.aload_n 0, 1) := by decide +kernel
theorem dX11_shipAt_2 : decode cX11_shipAt 2 = .ok (.getfield 19, 3) := by decide +kernel
theorem dX11_shipAt_5 : decode cX11_shipAt 5 = .ok (.invokevirtual 44, 3) := by decide +kernel
theorem dX11_shipAt_8 : decode cX11_shipAt 8 = .ok (.invokestatic 166, 3) := by decide +kernel
theorem dX11_personAt_0 : decode cX11_personAt 0 = .ok (.iload_n 1, 1) := by decide +kernel
theorem dX11_personAt_1 : decode cX11_personAt 1 = .ok (.aload_n 0, 1) := by decide +kernel
theorem dX11_personAt_2 : decode cX11_personAt 2 = .ok (.getfield 22, 3) := by decide +kernel
theorem dX11_personAt_5 : decode cX11_personAt 5 = .ok (.invokevirtual 44, 3) := by decide +kernel
theorem dX11_personAt_8 : decode cX11_personAt 8 = .ok (.invokestatic 166, 3) := by decide +kernel
theorem dX11_isPerson_0 : decode cX11_isPerson 0 = .ok (.iload_n 1, 1) := by decide +kernel
theorem dX11_isPerson_1 : decode cX11_isPerson 1 = .ok (.ifCond .lt 18, 3) := by decide +kernel
theorem dX11_isPerson_4 : decode cX11_isPerson 4 = .ok (.iload_n 1, 1) := by decide +kernel
theorem dX11_isPerson_5 : decode cX11_isPerson 5 = .ok (.aload_n 0, 1) := by decide +kernel
theorem dX11_isPerson_6 : decode cX11_isPerson 6 = .ok (.getfield 22, 3) := by decide +kernel
theorem dX11_isPerson_9 : decode cX11_isPerson 9 = .ok (.invokevirtual 44, 3) := by decide +kernel
theorem dX11_isPerson_12 : decode cX11_isPerson 12 = .ok (.if_icmp .ge 7, 3) := by decide +kernel
theorem dX11_isPerson_19 : decode cX11_isPerson 19 = .ok (.iconst 0, 1) := by decide +kernel
theorem dX11_isPerson_20 : decode cX11_isPerson 20 = .ok (.ireturn, 1) := by decide +kernel
theorem dX11_isPersonOrTape_0 : decode cX11_isPersonOrTape 0 = .ok (.aload_n 0, 1) := by decide +kernel
theorem dX11_isPersonOrTape_1 : decode cX11_isPersonOrTape 1 = .ok (.iload_n 1, 1) := by decide +kernel
theorem dX11_isPersonOrTape_2 : decode cX11_isPersonOrTape 2 = .ok (.invokevirtual 415, 3) := by decide +kernel
theorem dX11_isPersonOrTape_5 : decode cX11_isPersonOrTape 5 = .ok (.ifCond .ne 10, 3) := by decide +kernel
theorem dX11_isPersonOrTape_8 : decode cX11_isPersonOrTape 8 = .ok (.iload_n 1, 1) := by decide +kernel
theorem dX11_isPersonOrTape_9 : decode cX11_isPersonOrTape 9 = .ok (.invokestatic 418, 3) := by decide +kernel
theorem dX11_isPersonOrTape_12 : decode cX11_isPersonOrTape 12 = .ok (.ifCond .eq 7, 3) := by decide +kernel
theorem dX11_isPersonOrTape_15 : decode cX11_isPersonOrTape 15 = .ok (.iconst 1, 1) := by decide +kernel
theorem dX11_isPersonOrTape_16 : decode cX11_isPersonOrTape 16 = .ok (.goto 4, 3) := by decide +kernel
theorem dX11_isPersonOrTape_19 : decode cX11_isPersonOrTape 19 = .ok (.iconst 0, 1) := by decide +kernel
theorem dX11_isPersonOrTape_20 : decode cX11_isPersonOrTape 20 = .ok (.ireturn, 1) := by decide +kernel
theorem dX11_isTape_0 : decode cX11_isTape 0 = .ok (.iload_n 0, 1) := by decide +kernel
theorem dX11_isTape_1 : decode cX11_isTape 1 = .ok (.bipush 100, 2) := by decide +kernel
theorem dX11_isTape_3 : decode cX11_isTape 3 = .ok (.if_icmp .lt 14, 3) := by decide +kernel
theorem dX11_isTape_6 : decode cX11_isTape 6 = .ok (.iload_n 0, 1) := by decide +kernel
theorem dX11_isTape_7 : decode cX11_isTape 7 = .ok (.sipush 199, 3) := by decide +kernel
theorem dX11_isTape_10 : decode cX11_isTape 10 = .ok (.if_icmp .gt 7, 3) := by decide +kernel
theorem dX11_isTape_13 : decode cX11_isTape 13 = .ok (.iconst 1, 1) := by decide +kernel
theorem dX11_isTape_14 : decode cX11_isTape 14 = .ok (.goto 4, 3) := by decide +kernel
theorem dX11_isTape_17 : decode cX11_isTape 17 = .ok (.iconst 0, 1) := by decide +kernel
theorem dX11_isTape_18 : decode cX11_isTape 18 = .ok (.ireturn, 1) := by decide +kernel
theorem dX11_passHour_0 : decode cX11_passHour 0 = .ok (.aload_n 0, 1) := by decide +kernel
theorem dX11_passHour_1 : decode cX11_passHour 1 = .ok (.invokevirtual 437, 3) := by decide +kernel
theorem dX11_passHour_4 : decode cX11_passHour 4 = .ok (.aload_n 0, 1) := by decide +kernel
theorem dX11_passHour_5 : decode cX11_passHour 5 = .ok (.invokevirtual 440, 3) := by decide +kernel
theorem dX11_passHour_8 : decode cX11_passHour 8 = .ok (.aload_n 0, 1) := by decide +kernel
theorem dX11_passHour_9 : decode cX11_passHour 9 = .ok (.invokevirtual 443, 3) := by decide +kernel
theorem dX11_passHour_12 : decode cX11_passHour 12 = .ok (.aload_n 0, 1) := by decide +kernel
theorem dX11_passHour_13 : decode cX11_passHour 13 = .ok (.invokevirtual 446, 3) := by decide +kernel
theorem dX11_passHour_16 : decode cX11_passHour 16 = .ok (.aload_n 0, 1) := by decide +kernel
theorem dX11_passHour_17 : decode cX11_passHour 17 = .ok (.invokevirtual 449, 3) := by decide +kernel
theorem dX11_passHour_20 : decode cX11_passHour 20 = .ok (.aload_n 0, 1) := by decide +kernel
theorem dX11_passHour_21 : decode cX11_passHour 21 = .ok (.invokevirtual 452, 3) := by decide +kernel
theorem dX11_passHour_24 : decode cX11_passHour 24 = .ok (.aload_n 0, 1) := by decide +kernel
theorem dX11_passHour_25 : decode cX11_passHour 25 = .ok (.invokevirtual 455, 3) := by decide +kernel
theorem dX11_passHour_28 : decode cX11_passHour 28 = .ok (.aload_n 0, 1) := by decide +kernel
theorem dX11_passHour_29 : decode cX11_passHour 29 = .ok (.invokevirtual 458, 3) := by decide +kernel
theorem dX11_passHour_32 : decode cX11_passHour 32 = .ok (.aload_n 0, 1) := by decide +kernel
theorem dX11_passHour_33 : decode cX11_passHour 33 = .ok (.invokevirtual 461, 3) := by decide +kernel
theorem dX11_passHour_36 : decode cX11_passHour 36 = .ok (.aload_n 0, 1) := by decide +kernel
theorem dX11_passHour_37 : decode cX11_passHour 37 = .ok (.dup, 1) := by decide +kernel
theorem dX11_passHour_38 : decode cX11_passHour 38 = .ok (.getfield 63, 3) := by decide +kernel
theorem dX11_passHour_41 : decode cX11_passHour 41 = .ok (.iconst 1, 1) := by decide +kernel
theorem dX11_passHour_42 : decode cX11_passHour 42 = .ok (.iadd, 1) := by decide +kernel
theorem dX11_passHour_43 : decode cX11_passHour 43 = .ok (.putfield 63, 3) := by decide +kernel
theorem dX11_passHour_46 : decode cX11_passHour 46 = .ok (.return_, 1) := by decide +kernel
theorem dX11_runGenerators_0 : decode cX11_runGenerators 0 = .ok (.iconst 0, 1) := by decide +kernel
theorem dX11_runGenerators_1 : decode cX11_runGenerators 1 = .ok (.istore_n 1, 1) := by decide +kernel
theorem dX11_runGenerators_2 : decode cX11_runGenerators 2 = .ok (.iload_n 1, 1) := by decide +kernel
theorem dX11_runGenerators_3 : decode cX11_runGenerators 3 = .ok (.aload_n 0, 1) := by decide +kernel
theorem dX11_runGenerators_4 : decode cX11_runGenerators 4 = .ok (.getfield 19, 3) := by decide +kernel
theorem dX11_runGenerators_7 : decode cX11_runGenerators 7 = .ok (.invokevirtual 44, 3) := by decide +kernel
theorem dX11_runGenerators_10 : decode cX11_runGenerators 10 = .ok (.if_icmp .ge 23, 3) := by decide +kernel
theorem dX11_runGenerators_33 : decode cX11_runGenerators 33 = .ok (.return_, 1) := by decide +kernel
theorem dX11_goOnAir_0 : decode cX11_goOnAir 0 = .ok (.iconst 0, 1) := by decide +kernel
theorem dX11_goOnAir_1 : decode cX11_goOnAir 1 = .ok (.istore_n 1, 1) := by decide +kernel
theorem dX11_goOnAir_2 : decode cX11_goOnAir 2 = .ok (.iload_n 1, 1) := by decide +kernel
theorem dX11_goOnAir_3 : decode cX11_goOnAir 3 = .ok (.aload_n 0, 1) := by decide +kernel
theorem dX11_goOnAir_4 : decode cX11_goOnAir 4 = .ok (.getfield 19, 3) := by decide +kernel
theorem dX11_goOnAir_7 : decode cX11_goOnAir 7 = .ok (.invokevirtual 44, 3) := by decide +kernel
theorem dX11_goOnAir_10 : decode cX11_goOnAir 10 = .ok (.if_icmp .ge 45, 3) := by decide +kernel
theorem dX11_goOnAir_55 : decode cX11_goOnAir 55 = .ok (.return_, 1) := by decide +kernel
theorem dX11_listen_0 : decode cX11_listen 0 = .ok (.iconst 0, 1) := by decide +kernel
theorem dX11_listen_1 : decode cX11_listen 1 = .ok (.istore_n 1, 1) := by decide +kernel
theorem dX11_listen_2 : decode cX11_listen 2 = .ok (.iload_n 1, 1) := by decide +kernel
theorem dX11_listen_3 : decode cX11_listen 3 = .ok (.aload_n 0, 1) := by decide +kernel
theorem dX11_listen_4 : decode cX11_listen 4 = .ok (.getfield 19, 3) := by decide +kernel
theorem dX11_listen_7 : decode cX11_listen 7 = .ok (.invokevirtual 44, 3) := by decide +kernel
theorem dX11_listen_10 : decode cX11_listen 10 = .ok (.if_icmp .ge 24, 3) := by decide +kernel
theorem dX11_listen_34 : decode cX11_listen 34 = .ok (.iconst 0, 1) := by decide +kernel
theorem dX11_listen_35 : decode cX11_listen 35 = .ok (.istore_n 1, 1) := by decide +kernel
theorem dX11_listen_36 : decode cX11_listen 36 = .ok (.iload_n 1, 1) := by decide +kernel
theorem dX11_listen_37 : decode cX11_listen 37 = .ok (.aload_n 0, 1) := by decide +kernel
theorem dX11_listen_38 : decode cX11_listen 38 = .ok (.getfield 16, 3) := by decide +kernel
theorem dX11_listen_41 : decode cX11_listen 41 = .ok (.invokevirtual 44, 3) := by decide +kernel
theorem dX11_listen_44 : decode cX11_listen 44 = .ok (.if_icmp .ge 77, 3) := by decide +kernel
theorem dX11_listen_121 : decode cX11_listen 121 = .ok (.return_, 1) := by decide +kernel
theorem dX11_playSpots_0 : decode cX11_playSpots 0 = .ok (.iconst 0, 1) := by decide +kernel
theorem dX11_playSpots_1 : decode cX11_playSpots 1 = .ok (.istore_n 1, 1) := by decide +kernel
theorem dX11_playSpots_2 : decode cX11_playSpots 2 = .ok (.iload_n 1, 1) := by decide +kernel
theorem dX11_playSpots_3 : decode cX11_playSpots 3 = .ok (.aload_n 0, 1) := by decide +kernel
theorem dX11_playSpots_4 : decode cX11_playSpots 4 = .ok (.getfield 19, 3) := by decide +kernel
theorem dX11_playSpots_7 : decode cX11_playSpots 7 = .ok (.invokevirtual 44, 3) := by decide +kernel
theorem dX11_playSpots_10 : decode cX11_playSpots 10 = .ok (.if_icmp .ge 48, 3) := by decide +kernel
theorem dX11_playSpots_58 : decode cX11_playSpots 58 = .ok (.return_, 1) := by decide +kernel
theorem dX11_speak_0 : decode cX11_speak 0 = .ok (.iconst 0, 1) := by decide +kernel
theorem dX11_speak_1 : decode cX11_speak 1 = .ok (.istore_n 1, 1) := by decide +kernel
theorem dX11_speak_2 : decode cX11_speak 2 = .ok (.iload_n 1, 1) := by decide +kernel
theorem dX11_speak_3 : decode cX11_speak 3 = .ok (.aload_n 0, 1) := by decide +kernel
theorem dX11_speak_4 : decode cX11_speak 4 = .ok (.getfield 19, 3) := by decide +kernel
theorem dX11_speak_7 : decode cX11_speak 7 = .ok (.invokevirtual 44, 3) := by decide +kernel
theorem dX11_speak_10 : decode cX11_speak 10 = .ok (.if_icmp .ge 79, 3) := by decide +kernel
theorem dX11_speak_89 : decode cX11_speak 89 = .ok (.return_, 1) := by decide +kernel
theorem dX11_keepHour_0 : decode cX11_keepHour 0 = .ok (.iconst 0, 1) := by decide +kernel
theorem dX11_keepHour_1 : decode cX11_keepHour 1 = .ok (.istore_n 1, 1) := by decide +kernel
theorem dX11_keepHour_2 : decode cX11_keepHour 2 = .ok (.iload_n 1, 1) := by decide +kernel
theorem dX11_keepHour_3 : decode cX11_keepHour 3 = .ok (.aload_n 0, 1) := by decide +kernel
theorem dX11_keepHour_4 : decode cX11_keepHour 4 = .ok (.getfield 19, 3) := by decide +kernel
theorem dX11_keepHour_7 : decode cX11_keepHour 7 = .ok (.invokevirtual 44, 3) := by decide +kernel
theorem dX11_keepHour_10 : decode cX11_keepHour 10 = .ok (.if_icmp .ge 55, 3) := by decide +kernel
theorem dX11_keepHour_65 : decode cX11_keepHour 65 = .ok (.return_, 1) := by decide +kernel
theorem dX11_eatAndTire_0 : decode cX11_eatAndTire 0 = .ok (.iconst 0, 1) := by decide +kernel
theorem dX11_eatAndTire_1 : decode cX11_eatAndTire 1 = .ok (.istore_n 1, 1) := by decide +kernel
theorem dX11_eatAndTire_2 : decode cX11_eatAndTire 2 = .ok (.iload_n 1, 1) := by decide +kernel
theorem dX11_eatAndTire_3 : decode cX11_eatAndTire 3 = .ok (.aload_n 0, 1) := by decide +kernel
theorem dX11_eatAndTire_4 : decode cX11_eatAndTire 4 = .ok (.getfield 19, 3) := by decide +kernel
theorem dX11_eatAndTire_7 : decode cX11_eatAndTire 7 = .ok (.invokevirtual 44, 3) := by decide +kernel
theorem dX11_eatAndTire_10 : decode cX11_eatAndTire 10 = .ok (.if_icmp .ge 28, 3) := by decide +kernel
theorem dX11_eatAndTire_38 : decode cX11_eatAndTire 38 = .ok (.iconst 0, 1) := by decide +kernel
theorem dX11_eatAndTire_39 : decode cX11_eatAndTire 39 = .ok (.istore_n 1, 1) := by decide +kernel
theorem dX11_eatAndTire_40 : decode cX11_eatAndTire 40 = .ok (.iload_n 1, 1) := by decide +kernel
theorem dX11_eatAndTire_41 : decode cX11_eatAndTire 41 = .ok (.aload_n 0, 1) := by decide +kernel
theorem dX11_eatAndTire_42 : decode cX11_eatAndTire 42 = .ok (.getfield 22, 3) := by decide +kernel
theorem dX11_eatAndTire_45 : decode cX11_eatAndTire 45 = .ok (.invokevirtual 44, 3) := by decide +kernel
theorem dX11_eatAndTire_48 : decode cX11_eatAndTire 48 = .ok (.if_icmp .ge 39, 3) := by decide +kernel
theorem dX11_eatAndTire_87 : decode cX11_eatAndTire 87 = .ok (.return_, 1) := by decide +kernel
theorem dX11_gatherSalt_0 : decode cX11_gatherSalt 0 = .ok (.aload_n 0, 1) := by decide +kernel
theorem dX11_gatherSalt_1 : decode cX11_gatherSalt 1 = .ok (.getfield 85, 3) := by decide +kernel
theorem dX11_gatherSalt_4 : decode cX11_gatherSalt 4 = .ok (.bipush 7, 2) := by decide +kernel
theorem dX11_gatherSalt_6 : decode cX11_gatherSalt 6 = .ok (.if_icmp .lt 49, 3) := by decide +kernel
theorem dX11_gatherSalt_9 : decode cX11_gatherSalt 9 = .ok (.iconst 0, 1) := by decide +kernel
theorem dX11_gatherSalt_10 : decode cX11_gatherSalt 10 = .ok (.istore_n 1, 1) := by decide +kernel
theorem dX11_gatherSalt_11 : decode cX11_gatherSalt 11 = .ok (.iload_n 1, 1) := by decide +kernel
theorem dX11_gatherSalt_12 : decode cX11_gatherSalt 12 = .ok (.aload_n 0, 1) := by decide +kernel
theorem dX11_gatherSalt_13 : decode cX11_gatherSalt 13 = .ok (.getfield 19, 3) := by decide +kernel
theorem dX11_gatherSalt_16 : decode cX11_gatherSalt 16 = .ok (.invokevirtual 44, 3) := by decide +kernel
theorem dX11_gatherSalt_19 : decode cX11_gatherSalt 19 = .ok (.if_icmp .ge 36, 3) := by decide +kernel
theorem dX11_gatherSalt_55 : decode cX11_gatherSalt 55 = .ok (.return_, 1) := by decide +kernel
theorem dX11_moveShips_0 : decode cX11_moveShips 0 = .ok (.iconst 0, 1) := by decide +kernel
theorem dX11_moveShips_1 : decode cX11_moveShips 1 = .ok (.istore_n 1, 1) := by decide +kernel
theorem dX11_moveShips_2 : decode cX11_moveShips 2 = .ok (.iload_n 1, 1) := by decide +kernel
theorem dX11_moveShips_3 : decode cX11_moveShips 3 = .ok (.aload_n 0, 1) := by decide +kernel
theorem dX11_moveShips_4 : decode cX11_moveShips 4 = .ok (.getfield 19, 3) := by decide +kernel
theorem dX11_moveShips_7 : decode cX11_moveShips 7 = .ok (.invokevirtual 44, 3) := by decide +kernel
theorem dX11_moveShips_10 : decode cX11_moveShips 10 = .ok (.if_icmp .ge 34, 3) := by decide +kernel
theorem dX11_moveShips_44 : decode cX11_moveShips 44 = .ok (.return_, 1) := by decide +kernel
theorem dX11_countAboard_0 : decode cX11_countAboard 0 = .ok (.iconst 0, 1) := by decide +kernel
theorem dX11_countAboard_1 : decode cX11_countAboard 1 = .ok (.istore_n 1, 1) := by decide +kernel
theorem dX11_countAboard_2 : decode cX11_countAboard 2 = .ok (.iconst 0, 1) := by decide +kernel
theorem dX11_countAboard_3 : decode cX11_countAboard 3 = .ok (.istore_n 2, 1) := by decide +kernel
theorem dX11_countAboard_4 : decode cX11_countAboard 4 = .ok (.iload_n 2, 1) := by decide +kernel
theorem dX11_countAboard_5 : decode cX11_countAboard 5 = .ok (.aload_n 0, 1) := by decide +kernel
theorem dX11_countAboard_6 : decode cX11_countAboard 6 = .ok (.getfield 22, 3) := by decide +kernel
theorem dX11_countAboard_9 : decode cX11_countAboard 9 = .ok (.invokevirtual 44, 3) := by decide +kernel
theorem dX11_countAboard_12 : decode cX11_countAboard 12 = .ok (.if_icmp .ge 30, 3) := by decide +kernel
theorem dX11_countAboard_42 : decode cX11_countAboard 42 = .ok (.iload_n 1, 1) := by decide +kernel
theorem dX11_countAboard_43 : decode cX11_countAboard 43 = .ok (.ireturn, 1) := by decide +kernel
theorem dX11_areKeptHoursSound_0 : decode cX11_areKeptHoursSound 0 = .ok (.iconst 0, 1) := by decide +kernel
theorem dX11_areKeptHoursSound_1 : decode cX11_areKeptHoursSound 1 = .ok (.istore_n 1, 1) := by decide +kernel
theorem dX11_areKeptHoursSound_2 : decode cX11_areKeptHoursSound 2 = .ok (.iload_n 1, 1) := by decide +kernel
theorem dX11_areKeptHoursSound_3 : decode cX11_areKeptHoursSound 3 = .ok (.aload_n 0, 1) := by decide +kernel
theorem dX11_areKeptHoursSound_4 : decode cX11_areKeptHoursSound 4 = .ok (.getfield 28, 3) := by decide +kernel
theorem dX11_areKeptHoursSound_7 : decode cX11_areKeptHoursSound 7 = .ok (.getfield 333, 3) := by decide +kernel
theorem dX11_areKeptHoursSound_10 : decode cX11_areKeptHoursSound 10 = .ok (.getfield 337, 3) := by decide +kernel
theorem dX11_areKeptHoursSound_13 : decode cX11_areKeptHoursSound 13 = .ok (.if_icmp .ge 36, 3) := by decide +kernel
theorem dX11_areKeptHoursSound_49 : decode cX11_areKeptHoursSound 49 = .ok (.iconst 1, 1) := by decide +kernel
theorem dX11_areKeptHoursSound_50 : decode cX11_areKeptHoursSound 50 = .ok (.ireturn, 1) := by decide +kernel
theorem dX11_areCrewsSound_0 : decode cX11_areCrewsSound 0 = .ok (.iconst 0, 1) := by decide +kernel
theorem dX11_areCrewsSound_1 : decode cX11_areCrewsSound 1 = .ok (.istore_n 1, 1) := by decide +kernel
theorem dX11_areCrewsSound_2 : decode cX11_areCrewsSound 2 = .ok (.iconst 0, 1) := by decide +kernel
theorem dX11_areCrewsSound_3 : decode cX11_areCrewsSound 3 = .ok (.istore_n 2, 1) := by decide +kernel
theorem dX11_areCrewsSound_4 : decode cX11_areCrewsSound 4 = .ok (.iload_n 2, 1) := by decide +kernel
theorem dX11_areCrewsSound_5 : decode cX11_areCrewsSound 5 = .ok (.aload_n 0, 1) := by decide +kernel
theorem dX11_areCrewsSound_6 : decode cX11_areCrewsSound 6 = .ok (.getfield 19, 3) := by decide +kernel
theorem dX11_areCrewsSound_9 : decode cX11_areCrewsSound 9 = .ok (.invokevirtual 44, 3) := by decide +kernel
theorem dX11_areCrewsSound_12 : decode cX11_areCrewsSound 12 = .ok (.if_icmp .ge 17, 3) := by decide +kernel
theorem dX11_areCrewsSound_29 : decode cX11_areCrewsSound 29 = .ok (.iload_n 1, 1) := by decide +kernel
theorem dX11_areCrewsSound_30 : decode cX11_areCrewsSound 30 = .ok (.aload_n 0, 1) := by decide +kernel
theorem dX11_areCrewsSound_31 : decode cX11_areCrewsSound 31 = .ok (.invokevirtual 387, 3) := by decide +kernel
theorem dX11_areCrewsSound_34 : decode cX11_areCrewsSound 34 = .ok (.if_icmp .ne 7, 3) := by decide +kernel
theorem dX11_areCrewsSound_37 : decode cX11_areCrewsSound 37 = .ok (.iconst 1, 1) := by decide +kernel
theorem dX11_areCrewsSound_38 : decode cX11_areCrewsSound 38 = .ok (.goto 4, 3) := by decide +kernel
theorem dX11_areCrewsSound_42 : decode cX11_areCrewsSound 42 = .ok (.ireturn, 1) := by decide +kernel
theorem dJxa1e45_init_da8c8_0 : decode cJxa1e45_init_da8c8 0 = .ok (.aload_n 0, 1) := by decide +kernel
theorem dJxa1e45_init_da8c8_1 : decode cJxa1e45_init_da8c8 1 = .ok (.invokespecial 1, 3) := by decide +kernel
theorem dJxa1e45_init_da8c8_4 : decode cJxa1e45_init_da8c8 4 = .ok (.return_, 1) := by decide +kernel
theorem dJxc12de_init_da8c8_0 : decode cJxc12de_init_da8c8 0 = .ok (.aload_n 0, 1) := by decide +kernel
theorem dJxc12de_init_da8c8_1 : decode cJxc12de_init_da8c8 1 = .ok (.invokespecial 1, 3) := by decide +kernel
theorem dJxc12de_init_da8c8_4 : decode cJxc12de_init_da8c8 4 = .ok (.aload_n 0, 1) := by decide +kernel
theorem dJxc12de_init_da8c8_5 : decode cJxc12de_init_da8c8 5 = .ok (.iconst 0, 1) := by decide +kernel
theorem dJxc12de_init_da8c8_6 : decode cJxc12de_init_da8c8 6 = .ok (.putfield 7, 3) := by decide +kernel
theorem dJxc12de_init_da8c8_9 : decode cJxc12de_init_da8c8 9 = .ok (.return_, 1) := by decide +kernel
theorem dJx4a65c_init_da8c8_0 : decode cJx4a65c_init_da8c8 0 = .ok (.aload_n 0, 1) := by decide +kernel
theorem dJx4a65c_init_da8c8_1 : decode cJx4a65c_init_da8c8 1 = .ok (.invokespecial 1, 3) := by decide +kernel
theorem dJx4a65c_init_da8c8_4 : decode cJx4a65c_init_da8c8 4 = .ok (.aload_n 0, 1) := by decide +kernel
theorem dJx4a65c_init_da8c8_5 : decode cJx4a65c_init_da8c8 5 = .ok (.getstatic 39, 3) := by decide +kernel
theorem dJx4a65c_init_da8c8_8 : decode cJx4a65c_init_da8c8 8 = .ok (.putfield 9, 3) := by decide +kernel
theorem dJx4a65c_init_da8c8_11 : decode cJx4a65c_init_da8c8 11 = .ok (.return_, 1) := by decide +kernel
theorem dJx4a65c_grow_92f84_0 : decode cJx4a65c_grow_92f84 0 = .ok (.aload_n 0, 1) := by decide +kernel
theorem dJx4a65c_grow_92f84_1 : decode cJx4a65c_grow_92f84 1 = .ok (.getfield 9, 3) := by decide +kernel
theorem dJx4a65c_grow_92f84_4 : decode cJx4a65c_grow_92f84 4 = .ok (.arraylength, 1) := by decide +kernel
theorem dJx4a65c_grow_92f84_5 : decode cJx4a65c_grow_92f84 5 = .ok (.istore_n 2, 1) := by decide +kernel
theorem dJx4a65c_grow_92f84_6 : decode cJx4a65c_grow_92f84 6 = .ok (.iload_n 2, 1) := by decide +kernel
theorem dJx4a65c_grow_92f84_7 : decode cJx4a65c_grow_92f84 7 = .ok (.ifCond .gt 13, 3) := by decide +kernel
theorem dJx4a65c_grow_92f84_10 : decode cJx4a65c_grow_92f84 10 = .ok (.aload_n 0, 1) := by decide +kernel
theorem dJx4a65c_grow_92f84_11 : decode cJx4a65c_grow_92f84 11 = .ok (.getfield 9, 3) := by decide +kernel
theorem dJx4a65c_grow_92f84_14 : decode cJx4a65c_grow_92f84 14 = .ok (.getstatic 39, 3) := by decide +kernel
theorem dJx4a65c_grow_92f84_17 : decode cJx4a65c_grow_92f84 17 = .ok (.if_acmp .eq 28, 3) := by decide +kernel
theorem dJx4a65c_grow_92f84_45 : decode cJx4a65c_grow_92f84 45 = .ok (.aload_n 0, 1) := by decide +kernel
theorem dJx4a65c_grow_92f84_46 : decode cJx4a65c_grow_92f84 46 = .ok (.bipush 10, 2) := by decide +kernel
theorem dJx4a65c_grow_92f84_48 : decode cJx4a65c_grow_92f84 48 = .ok (.iload_n 1, 1) := by decide +kernel
theorem dJx4a65c_grow_92f84_49 : decode cJx4a65c_grow_92f84 49 = .ok (.invokestatic 79, 3) := by decide +kernel
theorem dJx4a65c_grow_92f84_52 : decode cJx4a65c_grow_92f84 52 = .ok (.anewarray 7, 3) := by decide +kernel
theorem dJx4a65c_grow_92f84_55 : decode cJx4a65c_grow_92f84 55 = .ok (.dup_x1, 1) := by decide +kernel
theorem dJx4a65c_grow_92f84_56 : decode cJx4a65c_grow_92f84 56 = .ok (.putfield 9, 3) := by decide +kernel
theorem dJx4a65c_grow_92f84_59 : decode cJx4a65c_grow_92f84 59 = .ok (.areturn, 1) := by decide +kernel
theorem dJx4a65c_grow_d5877_0 : decode cJx4a65c_grow_d5877 0 = .ok (.aload_n 0, 1) := by decide +kernel
theorem dJx4a65c_grow_d5877_1 : decode cJx4a65c_grow_d5877 1 = .ok (.aload_n 0, 1) := by decide +kernel
theorem dJx4a65c_grow_d5877_2 : decode cJx4a65c_grow_d5877 2 = .ok (.getfield 48, 3) := by decide +kernel
theorem dJx4a65c_grow_d5877_5 : decode cJx4a65c_grow_d5877 5 = .ok (.iconst 1, 1) := by decide +kernel
theorem dJx4a65c_grow_d5877_6 : decode cJx4a65c_grow_d5877 6 = .ok (.iadd, 1) := by decide +kernel
theorem dJx4a65c_grow_d5877_7 : decode cJx4a65c_grow_d5877 7 = .ok (.invokevirtual 69, 3) := by decide +kernel
theorem dJx4a65c_grow_d5877_10 : decode cJx4a65c_grow_d5877 10 = .ok (.areturn, 1) := by decide +kernel
theorem dJx4a65c_size_8abf5_0 : decode cJx4a65c_size_8abf5 0 = .ok (.aload_n 0, 1) := by decide +kernel
theorem dJx4a65c_size_8abf5_1 : decode cJx4a65c_size_8abf5 1 = .ok (.getfield 48, 3) := by decide +kernel
theorem dJx4a65c_size_8abf5_4 : decode cJx4a65c_size_8abf5 4 = .ok (.ireturn, 1) := by decide +kernel
theorem dJx4a65c_add_72be8_0 : decode cJx4a65c_add_72be8 0 = .ok (.iload_n 3, 1) := by decide +kernel
theorem dJx4a65c_add_72be8_1 : decode cJx4a65c_add_72be8 1 = .ok (.aload_n 2, 1) := by decide +kernel
theorem dJx4a65c_add_72be8_2 : decode cJx4a65c_add_72be8 2 = .ok (.arraylength, 1) := by decide +kernel
theorem dJx4a65c_add_72be8_3 : decode cJx4a65c_add_72be8 3 = .ok (.if_icmp .ne 8, 3) := by decide +kernel
theorem dJx4a65c_add_72be8_6 : decode cJx4a65c_add_72be8 6 = .ok (.aload_n 0, 1) := by decide +kernel
theorem dJx4a65c_add_72be8_7 : decode cJx4a65c_add_72be8 7 = .ok (.invokevirtual 129, 3) := by decide +kernel
theorem dJx4a65c_add_72be8_10 : decode cJx4a65c_add_72be8 10 = .ok (.astore_n 2, 1) := by decide +kernel
theorem dJx4a65c_add_72be8_11 : decode cJx4a65c_add_72be8 11 = .ok (.aload_n 2, 1) := by decide +kernel
theorem dJx4a65c_add_72be8_12 : decode cJx4a65c_add_72be8 12 = .ok (.iload_n 3, 1) := by decide +kernel
theorem dJx4a65c_add_72be8_13 : decode cJx4a65c_add_72be8 13 = .ok (.aload_n 1, 1) := by decide +kernel
theorem dJx4a65c_add_72be8_14 : decode cJx4a65c_add_72be8 14 = .ok (.aastore, 1) := by decide +kernel
theorem dJx4a65c_add_72be8_15 : decode cJx4a65c_add_72be8 15 = .ok (.aload_n 0, 1) := by decide +kernel
theorem dJx4a65c_add_72be8_16 : decode cJx4a65c_add_72be8 16 = .ok (.iload_n 3, 1) := by decide +kernel
theorem dJx4a65c_add_72be8_17 : decode cJx4a65c_add_72be8 17 = .ok (.iconst 1, 1) := by decide +kernel
theorem dJx4a65c_add_72be8_18 : decode cJx4a65c_add_72be8 18 = .ok (.iadd, 1) := by decide +kernel
theorem dJx4a65c_add_72be8_19 : decode cJx4a65c_add_72be8 19 = .ok (.putfield 48, 3) := by decide +kernel
theorem dJx4a65c_add_72be8_22 : decode cJx4a65c_add_72be8 22 = .ok (.return_, 1) := by decide +kernel
theorem dJx4a65c_add_9ea2d_0 : decode cJx4a65c_add_9ea2d 0 = .ok (.aload_n 0, 1) := by decide +kernel
theorem dJx4a65c_add_9ea2d_1 : decode cJx4a65c_add_9ea2d 1 = .ok (.dup, 1) := by decide +kernel
theorem dJx4a65c_add_9ea2d_2 : decode cJx4a65c_add_9ea2d 2 = .ok (.getfield 63, 3) := by decide +kernel
theorem dJx4a65c_add_9ea2d_5 : decode cJx4a65c_add_9ea2d 5 = .ok (.iconst 1, 1) := by decide +kernel
theorem dJx4a65c_add_9ea2d_6 : decode cJx4a65c_add_9ea2d 6 = .ok (.iadd, 1) := by decide +kernel
theorem dJx4a65c_add_9ea2d_7 : decode cJx4a65c_add_9ea2d 7 = .ok (.putfield 63, 3) := by decide +kernel
theorem dJx4a65c_add_9ea2d_10 : decode cJx4a65c_add_9ea2d 10 = .ok (.aload_n 0, 1) := by decide +kernel
theorem dJx4a65c_add_9ea2d_11 : decode cJx4a65c_add_9ea2d 11 = .ok (.aload_n 1, 1) := by decide +kernel
theorem dJx4a65c_add_9ea2d_12 : decode cJx4a65c_add_9ea2d 12 = .ok (.aload_n 0, 1) := by decide +kernel
theorem dJx4a65c_add_9ea2d_13 : decode cJx4a65c_add_9ea2d 13 = .ok (.getfield 9, 3) := by decide +kernel
theorem dJx4a65c_add_9ea2d_16 : decode cJx4a65c_add_9ea2d 16 = .ok (.aload_n 0, 1) := by decide +kernel
theorem dJx4a65c_add_9ea2d_17 : decode cJx4a65c_add_9ea2d 17 = .ok (.getfield 48, 3) := by decide +kernel
theorem dJx4a65c_add_9ea2d_20 : decode cJx4a65c_add_9ea2d 20 = .ok (.invokevirtual 131, 3) := by decide +kernel
theorem dJx4a65c_add_9ea2d_23 : decode cJx4a65c_add_9ea2d 23 = .ok (.iconst 1, 1) := by decide +kernel
theorem dJx4a65c_add_9ea2d_24 : decode cJx4a65c_add_9ea2d 24 = .ok (.ireturn, 1) := by decide +kernel
end
section
/-- the four ways of the wind -/
def kway (w : Int32) : Bool := decide (w = 110) || decide (w = 101) || decide (w = 115) || decide (w = 119)
end
section
set_option maxHeartbeats 4000000 in
set_option maxRecDepth 100000 in
theorem m_X11_requireRange (l : Launch) (hl0 : l.stackTraces = false) (g : kG) (x : Int32) (lo : Int32) (hi : Int32)  : kc l g yX11_requireRange prog_1_method_53_code 3 none 6 82 1 6 [.int x, .int lo, .int hi] [] (fun v w => (v = none ∧ w = [] ∧ inR x lo hi = true)) (fun E w => (E = "java/lang/IllegalArgumentException" ∧ w = [] ∧ inR x lo hi = false)) := by
  refine kbody (by decide) (Nat.le_of_ble_eq_true rfl) ?_
  intro p e s m args below meth c A H K ht G hP hD hA hS ls hl
  have K : KB p s m meth c RX11 "requireRange" prog_1_method_53_code 3 none := K
  obtain ⟨hx, hb, hml, hown, hlocks, hr, hin⟩ := id K
  have hl : lv_has ls 3 [(0, .int x), (1, .int lo), (2, .int hi)] := hl
  refine lv_iload_n hx hb dX11_requireRange_0 rfl (lv_at hl 0 rfl) ?_
  refine lv_iload_n hx hb dX11_requireRange_1 rfl (lv_at hl 1 rfl) ?_
  refine lv_icmp_lt (tgt := 10) hx hb dX11_requireRange_2 (by decide) (fun c2_1 => ?_) (fun c2_1 => ?_)
  · refine kthrowNewW (cls := "java/lang/IllegalArgumentException") (text := "a number is out of range") (names := ["java/lang/RuntimeException", "java/lang/Exception"]) (ik := 78) (ic := 82) (is := 403) hl0 K ht G hP hD hS hl (by decide +kernel) (by decide +kernel) kw_0 kw_1 (G.str (by decide +kernel)) at_X11_82 at_X11_82g dX11_requireRange_10 dX11_requireRange_13 dX11_requireRange_14 dX11_requireRange_17 dX11_requireRange_20 (Nat.le_of_ble_eq_true rfl) (Nat.le_of_ble_eq_true rfl) (Nat.le_of_ble_eq_true rfl) (Nat.le_of_ble_eq_true rfl) [] [] rfl rfl (⟨rfl, rfl, (by exact inR_l c2_1)⟩) (by decide) (by decide)
  · refine lv_iload_n hx hb dX11_requireRange_5 rfl (lv_at hl 0 rfl) ?_
    refine lv_iload_n hx hb dX11_requireRange_6 rfl (lv_at hl 2 rfl) ?_
    refine lv_icmp_le (tgt := 21) hx hb dX11_requireRange_7 (by decide) (fun c7_2 => ?_) (fun c7_2 => ?_)
    · exact kretV K hP hD hS [] [] rfl rfl (⟨rfl, rfl, (by exact inR_t c2_1 c7_2)⟩) (by decide) (by decide) dX11_requireRange_21
    · refine kthrowNewW (cls := "java/lang/IllegalArgumentException") (text := "a number is out of range") (names := ["java/lang/RuntimeException", "java/lang/Exception"]) (ik := 78) (ic := 82) (is := 403) hl0 K ht G hP hD hS hl (by decide +kernel) (by decide +kernel) kw_0 kw_1 (G.str (by decide +kernel)) at_X11_82 at_X11_82g dX11_requireRange_10 dX11_requireRange_13 dX11_requireRange_14 dX11_requireRange_17 dX11_requireRange_20 (Nat.le_of_ble_eq_true rfl) (Nat.le_of_ble_eq_true rfl) (Nat.le_of_ble_eq_true rfl) (Nat.le_of_ble_eq_true rfl) [] [] rfl rfl (⟨rfl, rfl, (by exact inR_g c7_2)⟩) (by decide) (by decide)

set_option maxHeartbeats 4000000 in
set_option maxRecDepth 100000 in
theorem m_X11_requirePlace (l : Launch) (hl0 : l.stackTraces = false) (g : kG) (x : Int32) (y : Int32)  : kc l g yX11_requirePlace prog_1_method_54_code 2 none 7 104 2 12 [.int x, .int y] [] (fun v w => (v = none ∧ w = [] ∧ (inR x (-999) 999 && inR y (-999) 999) = true)) (fun E w => (E = "java/lang/IllegalArgumentException" ∧ w = [] ∧ (inR x (-999) 999 && inR y (-999) 999) = false)) := by
  refine kbody (by decide) (Nat.le_of_ble_eq_true rfl) ?_
  intro p e s m args below meth c A H K ht G hP hD hA hS ls hl
  have K : KB p s m meth c RX11 "requirePlace" prog_1_method_54_code 2 none := K
  obtain ⟨hx, hb, hml, hown, hlocks, hr, hin⟩ := id K
  have hl : lv_has ls 2 [(0, .int x), (1, .int y)] := hl
  refine lv_iload_n hx hb dX11_requirePlace_0 rfl (lv_at hl 0 rfl) ?_
  refine lv_sipush (v := (-999)) hx hb dX11_requirePlace_1 (by decide) ?_
  refine lv_sipush (v := 999) hx hb dX11_requirePlace_4 (by decide) ?_
  refine kcallS (wc := []) (wr := []) (As := [.int x, .int (-999), .int 999]) (rest := []) K G (m_X11_requireRange l hl0 g x (-999) 999 ) hP hD hS hA hl kw_2 kw_3 kw_5 kw_4 ydX11_requireRange [] [] rfl rfl rfl rfl (by decide) rfl rfl (Nat.le_of_ble_eq_true rfl) dX11_requirePlace_7 ⟨Nat.le_of_ble_eq_true rfl, Nat.le_of_ble_eq_true rfl⟩ ⟨Nat.le_of_ble_eq_true rfl, Nat.le_of_ble_eq_true rfl⟩ (fun E w1 ce q9 H locs hX hP hD hS hce hcv hcl => ?_) (fun v w1 H locs hQ hP hD hS => ?_)
  · obtain ⟨rfl, rfl, f_2⟩ := hX
    have hP : va_P g.1 vwCl [] H := hP
    have hD : va_D A [] := hD
    refine vx_widen (k := 1) (n := 6) (by decide) (by decide) ?_
    exact kthrow K ht hP hD hS hce hcv hcl [] [] rfl rfl (⟨rfl, rfl, (by simp [f_2])⟩) (by decide) (by decide)
  · obtain ⟨rfl, rfl, f_3⟩ := hQ
    have hP : va_P g.1 vwCl [] H := hP
    have hD : va_D A [] := hD
    refine W.widen (k := 1) (n := 6) (by decide) (by decide) ?_
    refine W.eq (g2 := F0 m 10 ls []) rfl ?_
    refine lv_iload_n hx hb dX11_requirePlace_10 rfl (lv_at hl 1 rfl) ?_
    refine lv_sipush (v := (-999)) hx hb dX11_requirePlace_11 (by decide) ?_
    refine lv_sipush (v := 999) hx hb dX11_requirePlace_14 (by decide) ?_
    refine kcallS (wc := []) (wr := []) (As := [.int y, .int (-999), .int 999]) (rest := []) K G (m_X11_requireRange l hl0 g y (-999) 999 ) hP hD hS hA hl kw_2 kw_3 kw_5 kw_4 ydX11_requireRange [] [] rfl rfl rfl rfl (by decide) rfl rfl (Nat.le_of_ble_eq_true rfl) dX11_requirePlace_17 ⟨Nat.le_of_ble_eq_true rfl, Nat.le_of_ble_eq_true rfl⟩ ⟨Nat.le_of_ble_eq_true rfl, Nat.le_of_ble_eq_true rfl⟩ (fun E w1 ce q9 H locs hX hP hD hS hce hcv hcl => ?_) (fun v w1 H locs hQ hP hD hS => ?_)
    · obtain ⟨rfl, rfl, f_5⟩ := hX
      have hP : va_P g.1 vwCl [] H := hP
      have hD : va_D A [] := hD
      refine vx_widen (k := 2) (n := 12) (by decide) (by decide) ?_
      exact kthrow K ht hP hD hS hce hcv hcl [] [] rfl rfl (⟨rfl, rfl, (by simp [f_3, f_5])⟩) (by decide) (by decide)
    · obtain ⟨rfl, rfl, f_6⟩ := hQ
      have hP : va_P g.1 vwCl [] H := hP
      have hD : va_D A [] := hD
      refine W.widen (k := 2) (n := 12) (by decide) (by decide) ?_
      refine W.eq (g2 := F0 m 20 ls []) rfl ?_
      exact kretV K hP hD hS [] [] rfl rfl (⟨rfl, rfl, (by simp [f_3, f_6])⟩) (by decide) (by decide) dX11_requirePlace_20

set_option maxHeartbeats 4000000 in
set_option maxRecDepth 100000 in
theorem m_X11_requireRoom (l : Launch) (hl0 : l.stackTraces = false) (g : kG) (x : Int32) (y : Int32) (hlt : x < y) : kc l g yX11_requireRoom prog_1_method_55_code 2 none 0 0 0 0 [.int x, .int y] [] (fun v w => (v = none ∧ w = [])) (fun _ _ => False) := by
  refine kbody (by decide) (Nat.le_of_ble_eq_true rfl) ?_
  intro p e s m args below meth c A H K ht G hP hD hA hS ls hl
  have K : KB p s m meth c RX11 "requireRoom" prog_1_method_55_code 2 none := K
  obtain ⟨hx, hb, hml, hown, hlocks, hr, hin⟩ := id K
  have hl : lv_has ls 2 [(0, .int x), (1, .int y)] := hl
  refine lv_iload_n hx hb dX11_requireRoom_0 rfl (lv_at hl 0 rfl) ?_
  refine lv_iload_n hx hb dX11_requireRoom_1 rfl (lv_at hl 1 rfl) ?_
  refine lv_icmp_lt (tgt := 16) hx hb dX11_requireRoom_2 (by decide) (fun c2_1 => ?_) (fun c2_1 => ?_)
  · exact kretV K hP hD hS [] [] rfl rfl (⟨rfl, rfl⟩) (by decide) (by decide) dX11_requireRoom_16
  · exact absurd c2_1 (by exact fun h => h hlt)

set_option maxHeartbeats 4000000 in
set_option maxRecDepth 100000 in
theorem m_X11_requireNumber0 (l : Launch) (hl0 : l.stackTraces = false) (g : kG) (x : Int32)  : kc l g yX11_requireNumber prog_1_method_56_code 2 none 6 82 1 6 [.int x, .int 0] [] (fun _ _ => False) (fun E w => (E = "java/lang/IndexOutOfBoundsException" ∧ w = [])) := by
  refine kbody (by decide) (Nat.le_of_ble_eq_true rfl) ?_
  intro p e s m args below meth c A H K ht G hP hD hA hS ls hl
  have K : KB p s m meth c RX11 "requireNumber" prog_1_method_56_code 2 none := K
  obtain ⟨hx, hb, hml, hown, hlocks, hr, hin⟩ := id K
  have hl : lv_has ls 2 [(0, .int x), (1, .int 0)] := hl
  refine lv_iload_n hx hb dX11_requireNumber_0 rfl (lv_at hl 0 rfl) ?_
  refine lv_if_lt (tgt := 9) hx hb dX11_requireNumber_1 (by decide) (fun c1_1 => ?_) (fun c1_1 => ?_)
  · refine kthrowNewW (cls := "java/lang/IndexOutOfBoundsException") (text := "there is nothing of that number") (names := ["java/lang/RuntimeException", "java/lang/Exception"]) (ik := 410) (ic := 414) (is := 412) hl0 K ht G hP hD hS hl (by decide +kernel) (by decide +kernel) kw_6 kw_7 (G.str (by decide +kernel)) at_X11_414 at_X11_414g dX11_requireNumber_9 dX11_requireNumber_12 dX11_requireNumber_13 dX11_requireNumber_16 dX11_requireNumber_19 (Nat.le_of_ble_eq_true rfl) (Nat.le_of_ble_eq_true rfl) (Nat.le_of_ble_eq_true rfl) (Nat.le_of_ble_eq_true rfl) [] [] rfl rfl (⟨rfl, rfl⟩) (by decide) (by decide)
  · refine lv_iload_n hx hb dX11_requireNumber_4 rfl (lv_at hl 0 rfl) ?_
    refine lv_iload_n hx hb dX11_requireNumber_5 rfl (lv_at hl 1 rfl) ?_
    refine lv_icmp_lt (tgt := 20) hx hb dX11_requireNumber_6 (by decide) (fun c6_2 => ?_) (fun c6_2 => ?_)
    · exact absurd c6_2 (by exact c1_1)
    · refine kthrowNewW (cls := "java/lang/IndexOutOfBoundsException") (text := "there is nothing of that number") (names := ["java/lang/RuntimeException", "java/lang/Exception"]) (ik := 410) (ic := 414) (is := 412) hl0 K ht G hP hD hS hl (by decide +kernel) (by decide +kernel) kw_6 kw_7 (G.str (by decide +kernel)) at_X11_414 at_X11_414g dX11_requireNumber_9 dX11_requireNumber_12 dX11_requireNumber_13 dX11_requireNumber_16 dX11_requireNumber_19 (Nat.le_of_ble_eq_true rfl) (Nat.le_of_ble_eq_true rfl) (Nat.le_of_ble_eq_true rfl) (Nat.le_of_ble_eq_true rfl) [] [] rfl rfl (⟨rfl, rfl⟩) (by decide) (by decide)

set_option maxHeartbeats 4000000 in
set_option maxRecDepth 100000 in
theorem m_Jxa1e45_init_da8c8 (l : Launch) (hl0 : l.stackTraces = false) (g : kG) (h0 : Nat)  : kc l g yJxa1e45_init_da8c8 prog_37_method_1_code 1 none 1 20 0 0 [.ref h0] [] (fun v w => (v = none ∧ w = [])) (fun _ _ => False) := by
  refine kbody (by decide) (Nat.le_of_ble_eq_true rfl) ?_
  intro p e s m args below meth c A H K ht G hP hD hA hS ls hl
  have K : KB p s m meth c RJxa1e45 "<init>" prog_37_method_1_code 1 none := K
  obtain ⟨hx, hb, hml, hown, hlocks, hr, hin⟩ := id K
  have hl : lv_has ls 1 [(0, .ref h0)] := hl
  refine lv_aload_n hx hb dJxa1e45_init_da8c8_0 rfl (lv_at hl 0 rfl) ?_
  refine W.objInit hx hb hown (G.w kw_8) (G.w kw_9) (G.w kw_10) rfl (by rw [hml]; exact hl.1) rfl dJxa1e45_init_da8c8_1 (Nat.le_of_ble_eq_true rfl) (Nat.le_of_ble_eq_true rfl) ?_
  refine W.eq (g2 := F0 m 4 ls []) rfl ?_
  exact kretV K hP hD hS [] [] rfl rfl (⟨rfl, rfl⟩) (by decide) (by decide) dJxa1e45_init_da8c8_4

set_option maxHeartbeats 4000000 in
set_option maxRecDepth 100000 in
theorem m_Jxc12de_init_da8c8 (l : Launch) (hl0 : l.stackTraces = false) (g : kG) (h0 : Nat)  : kc l g yJxc12de_init_da8c8 prog_38_method_1_code 1 none 2 40 0 0 [.ref h0] [(h0, .inr (3, [.int 0, .null, .int 0]))] (fun v w => (v = none ∧ w = [(h0, .inr (3, [.int 0, .null, .int 0]))])) (fun _ _ => False) := by
  refine kbody (by decide) (Nat.le_of_ble_eq_true rfl) ?_
  intro p e s m args below meth c A H K ht G hP hD hA hS ls hl
  have K : KB p s m meth c RJxc12de "<init>" prog_38_method_1_code 1 none := K
  obtain ⟨hx, hb, hml, hown, hlocks, hr, hin⟩ := id K
  have hl : lv_has ls 1 [(0, .ref h0)] := hl
  refine lv_aload_n hx hb dJxc12de_init_da8c8_0 rfl (lv_at hl 0 rfl) ?_
  refine kcallI (wc := []) (wr := [(h0, .inr (3, [.int 0, .null, .int 0]))]) (As := []) (rest := []) K G (m_Jxa1e45_init_da8c8 l hl0 g h0 ) hP hD hS hA hl kw_11 kw_12 kw_14 kw_13 rfl ydJxa1e45_init_da8c8 [] [0] rfl rfl rfl rfl (by decide) rfl rfl (Nat.le_of_ble_eq_true rfl) dJxc12de_init_da8c8_1 ⟨Nat.le_of_ble_eq_true rfl, Nat.le_of_ble_eq_true rfl⟩ ⟨Nat.le_of_ble_eq_true rfl, Nat.le_of_ble_eq_true rfl⟩ (fun _ _ _ _ _ _ hX _ _ _ _ _ _ => hX.elim) (fun v w1 H locs hQ hP hD hS => ?_)
  obtain ⟨rfl, rfl⟩ := hQ
  have hP : va_P g.1 vwCl [(h0, .inr (3, [.int 0, .null, .int 0]))] H := hP
  have hD : va_D A [(h0, .inr (3, [.int 0, .null, .int 0]))] := hD
  refine W.widen (k := 0) (n := 0) (by decide) (by decide) ?_
  refine W.eq (g2 := F0 m 4 ls []) rfl ?_
  refine lv_aload_n hx hb dJxc12de_init_da8c8_4 rfl (lv_at hl 0 rfl) ?_
  refine lv_iconst (v := 0) hx hb dJxc12de_init_da8c8_5 (by decide) ?_
  refine va_put (D := g.1) (ci := 3) (v := .int 0) (ty := .int) (C := RJx4a65c) (T := TJx4a65c) (N := 3) hx hb G.ws inJx4a65c tyJx4a65c tyJx4a65c_ok nmJx4a65c hown G.K hP hD hS 0 rfl rfl 0 (by decide) (G.w kw_15) (fun _ h9 => h9) (by decide +kernel) (by decide +kernel) rfl rfl (Nat.le_of_ble_eq_true rfl) dJxc12de_init_da8c8_6 (fun H locs hP hD hS => ?_)
  have hP : va_P g.1 vwCl [(h0, .inr (3, [.int 0, .null, .int 0]))] H := hP
  have hD : va_D A [(h0, .inr (3, [.int 0, .null, .int 0]))] := hD
  exact kretV K hP hD hS [0] [(h0, .inr (3, [.int 0, .null, .int 0]))] rfl rfl (⟨rfl, rfl⟩) (by decide) (by decide) dJxc12de_init_da8c8_9

set_option maxHeartbeats 4000000 in
set_option maxRecDepth 100000 in
theorem m_Jx4a65c_init_da8c8 (l : Launch) (hl0 : l.stackTraces = false) (g : kG) (h0 : Nat)  : kc l g yJx4a65c_init_da8c8 prog_39_method_2_code 1 none 3 60 0 0 [.ref h0] [(h0, .inr (3, [.int 0, .null, .int 0]))] (fun v w => (v = none ∧ w = [(h0, .inr (3, [.int 0, .ref g.2.1, .int 0]))])) (fun _ _ => False) := by
  refine kbody (by decide) (Nat.le_of_ble_eq_true rfl) ?_
  intro p e s m args below meth c A H K ht G hP hD hA hS ls hl
  have K : KB p s m meth c RJx4a65c "<init>" prog_39_method_2_code 1 none := K
  obtain ⟨hx, hb, hml, hown, hlocks, hr, hin⟩ := id K
  have hl : lv_has ls 1 [(0, .ref h0)] := hl
  refine lv_aload_n hx hb dJx4a65c_init_da8c8_0 rfl (lv_at hl 0 rfl) ?_
  refine kcallI (wc := [(h0, .inr (3, [.int 0, .null, .int 0]))]) (wr := []) (As := []) (rest := []) K G (m_Jxc12de_init_da8c8 l hl0 g h0 ) hP hD hS hA hl kw_16 kw_17 kw_19 kw_18 rfl ydJxc12de_init_da8c8 [0] [] rfl rfl rfl rfl (by decide) rfl rfl (Nat.le_of_ble_eq_true rfl) dJx4a65c_init_da8c8_1 ⟨Nat.le_of_ble_eq_true rfl, Nat.le_of_ble_eq_true rfl⟩ ⟨Nat.le_of_ble_eq_true rfl, Nat.le_of_ble_eq_true rfl⟩ (fun _ _ _ _ _ _ hX _ _ _ _ _ _ => hX.elim) (fun v w1 H locs hQ hP hD hS => ?_)
  obtain ⟨rfl, rfl⟩ := hQ
  have hP : va_P g.1 vwCl [(h0, .inr (3, [.int 0, .null, .int 0]))] H := hP
  have hD : va_D A [(h0, .inr (3, [.int 0, .null, .int 0]))] := hD
  refine W.widen (k := 0) (n := 0) (by decide) (by decide) ?_
  refine W.eq (g2 := F0 m 4 ls []) rfl ?_
  refine lv_aload_n hx hb dJx4a65c_init_da8c8_4 rfl (lv_at hl 0 rfl) ?_
  refine va_gets (v := .ref g.2.1) hx hb G.Z hS hown (G.w kw_20) (fun _ h9 => h9) dJx4a65c_init_da8c8_5 ?_
  refine va_put (D := g.1) (ci := 3) (v := .ref g.2.1) (ty := (.array (.object "java/lang/Object"))) (C := RJx4a65c) (T := TJx4a65c) (N := 3) hx hb G.ws inJx4a65c tyJx4a65c tyJx4a65c_ok nmJx4a65c hown G.K hP hD hS 0 rfl rfl 1 (by decide) (G.w kw_21) (fun _ h9 => h9) (by decide +kernel) (by decide +kernel) rfl rfl (Nat.le_of_ble_eq_true rfl) dJx4a65c_init_da8c8_8 (fun H locs hP hD hS => ?_)
  have hP : va_P g.1 vwCl [(h0, .inr (3, [.int 0, .ref g.2.1, .int 0]))] H := hP
  have hD : va_D A [(h0, .inr (3, [.int 0, .ref g.2.1, .int 0]))] := hD
  exact kretV K hP hD hS [0] [(h0, .inr (3, [.int 0, .ref g.2.1, .int 0]))] rfl rfl (⟨rfl, rfl⟩) (by decide) (by decide) dJx4a65c_init_da8c8_11

set_option maxHeartbeats 4000000 in
set_option maxRecDepth 100000 in
theorem m_Jx4a65c_size_8abf5 (l : Launch) (hl0 : l.stackTraces = false) (g : kG) (h0 : Nat) (mc0 : Int32) (e0 : Nat) (sz : Int32)  : kc l g yJx4a65c_size_8abf5 prog_39_method_8_code 1 (some .int) 0 0 0 0 [.ref h0] [(h0, .inr (3, [.int mc0, .ref e0, .int sz]))] (fun v w => (v = some (.int sz) ∧ w = [(h0, .inr (3, [.int mc0, .ref e0, .int sz]))])) (fun _ _ => False) := by
  refine kbody (by decide) (Nat.le_of_ble_eq_true rfl) ?_
  intro p e s m args below meth c A H K ht G hP hD hA hS ls hl
  have K : KB p s m meth c RJx4a65c "size" prog_39_method_8_code 1 (some .int) := K
  obtain ⟨hx, hb, hml, hown, hlocks, hr, hin⟩ := id K
  have hl : lv_has ls 1 [(0, .ref h0)] := hl
  refine lv_aload_n hx hb dJx4a65c_size_8abf5_0 rfl (lv_at hl 0 rfl) ?_
  refine va_get (D := g.1) (ci := 3) (v := .int sz) (C := RJx4a65c) (T := TJx4a65c) (N := 3) hx hb G.ws inJx4a65c hown G.K hP 0 rfl rfl 2 (by decide) (G.w kw_22) (fun _ h9 => h9) rfl dJx4a65c_size_8abf5_1 ?_
  exact kretI K hP hD hS [0] [(h0, .inr (3, [.int mc0, .ref e0, .int sz]))] rfl rfl (⟨rfl, rfl⟩) (by decide) (by decide) dJx4a65c_size_8abf5_4

set_option maxHeartbeats 4000000 in
set_option maxRecDepth 100000 in
theorem m_Jx4a65c_grow_92f84 (l : Launch) (hl0 : l.stackTraces = false) (g : kG) (h0 : Nat) (mc0 : Int32)  : kc l g yJx4a65c_grow_92f84 prog_39_method_6_code 4 (some (.array (.object "java/lang/Object"))) 1 21 1 10 [.ref h0, .int 1] [(h0, .inr (3, [.int mc0, .ref g.2.1, .int 0]))] (fun v w => (∃ q0 : Nat, v = some (.ref q0) ∧ w = [(h0, .inr (3, [.int mc0, .ref q0, .int 0])), (q0, .inl ((g.2.2.1 4), 10, .inr (.inr (.inr (.inr (fun _ => none))))))])) (fun _ _ => False) := by
  refine kbody (by decide) (Nat.le_of_ble_eq_true rfl) ?_
  intro p e s m args below meth c A H K ht G hP hD hA hS ls hl
  have K : KB p s m meth c RJx4a65c "grow" prog_39_method_6_code 4 (some (.array (.object "java/lang/Object"))) := K
  obtain ⟨hx, hb, hml, hown, hlocks, hr, hin⟩ := id K
  have hl : lv_has ls 4 [(0, .ref h0), (1, .int 1)] := hl
  refine lv_aload_n hx hb dJx4a65c_grow_92f84_0 rfl (lv_at hl 0 rfl) ?_
  refine va_get (D := g.1) (ci := 3) (v := .ref g.2.1) (C := RJx4a65c) (T := TJx4a65c) (N := 3) hx hb G.ws inJx4a65c hown G.K hP 0 rfl rfl 1 (by decide) (G.w kw_21) (fun _ h9 => h9) rfl dJx4a65c_grow_92f84_1 ?_
  refine va_tlen (v := 0) hx hb G.E hS rfl dJx4a65c_grow_92f84_4 ?_
  refine lv_istore_n (lv' := [(2, .int 0), (0, .ref h0), (1, .int 1)]) hx hb dJx4a65c_grow_92f84_5 rfl hl (by decide) rfl (fun ls hl => ?_)
  refine lv_iload_n hx hb dJx4a65c_grow_92f84_6 rfl (lv_at hl 0 rfl) ?_
  refine lv_if_gt (tgt := 20) hx hb dJx4a65c_grow_92f84_7 (by decide) (fun c7_1 => absurd c7_1 (by decide)) (fun _ => ?_)
  refine lv_aload_n hx hb dJx4a65c_grow_92f84_10 rfl (lv_at hl 1 rfl) ?_
  refine va_get (D := g.1) (ci := 3) (v := .ref g.2.1) (C := RJx4a65c) (T := TJx4a65c) (N := 3) hx hb G.ws inJx4a65c hown G.K hP 0 rfl rfl 1 (by decide) (G.w kw_21) (fun _ h9 => h9) rfl dJx4a65c_grow_92f84_11 ?_
  refine va_gets (v := .ref g.2.1) hx hb G.Z hS hown (G.w kw_20) (fun _ h9 => h9) dJx4a65c_grow_92f84_14 ?_
  refine lv_acmp_eq (rx := some g.2.1) (ry := some g.2.1) (tgt := 45) hx hb dJx4a65c_grow_92f84_17 (by decide) (fun _ => ?_) (fun h9 => absurd rfl h9)
  refine lv_aload_n hx hb dJx4a65c_grow_92f84_45 rfl (lv_at hl 1 rfl) ?_
  refine lv_bipush (v := 10) hx hb dJx4a65c_grow_92f84_46 (by decide) ?_
  refine lv_iload_n hx hb dJx4a65c_grow_92f84_48 rfl (lv_at hl 2 rfl) ?_
  refine va_mmax hx hb (by rw [hml]; exact hl.1.symm) hown (G.w kw_23) (G.w kw_24) (G.w kw_25) (G.w kw_26) (Nat.le_of_ble_eq_true rfl) (Nat.le_of_ble_eq_true rfl) (Nat.le_of_ble_eq_true rfl) (Nat.le_of_ble_eq_true rfl) dJx4a65c_grow_92f84_49 ?_
  refine lv_topi (fun y_2 ey_2 => ?_)
  obtain rfl : y_2 = 10 := ey_2.trans (by decide)
  refine kNewaO hx hb hown (G.w kw_27) G hP hD hS hA (n := 10) (N := 10) (by decide) (by decide) (by decide) (by decide) (by decide) dJx4a65c_grow_92f84_52 (fun q_3 H hP hD hS => ?_)
  have hP : va_P g.1 vwCl [(h0, .inr (3, [.int mc0, .ref g.2.1, .int 0])), (q_3, .inl ((g.2.2.1 4), 10, .inr (.inr (.inr (.inr (fun _ => none))))))] H := hP
  have hD : va_D A [(h0, .inr (3, [.int mc0, .ref g.2.1, .int 0])), (q_3, .inl ((g.2.2.1 4), 10, .inr (.inr (.inr (.inr (fun _ => none))))))] := hD
  refine W.widen (k := 1) (n := 10) (by decide) (by decide) ?_
  refine lv_dup_x1 hx hb dJx4a65c_grow_92f84_55 rfl rfl ?_
  refine va_put (D := g.1) (ci := 3) (v := .ref q_3) (ty := (.array (.object "java/lang/Object"))) (C := RJx4a65c) (T := TJx4a65c) (N := 3) hx hb G.ws inJx4a65c tyJx4a65c tyJx4a65c_ok nmJx4a65c hown G.K hP hD hS 0 rfl rfl 1 (by decide) (G.w kw_21) (fun _ h9 => h9) (by decide +kernel) (by decide +kernel) rfl rfl (Nat.le_of_ble_eq_true rfl) dJx4a65c_grow_92f84_56 (fun H locs hP hD hS => ?_)
  have hP : va_P g.1 vwCl [(h0, .inr (3, [.int mc0, .ref q_3, .int 0])), (q_3, .inl ((g.2.2.1 4), 10, .inr (.inr (.inr (.inr (fun _ => none))))))] H := hP
  have hD : va_D A [(h0, .inr (3, [.int mc0, .ref q_3, .int 0])), (q_3, .inl ((g.2.2.1 4), 10, .inr (.inr (.inr (.inr (fun _ => none))))))] := hD
  exact kretA K hP hD hS [0, 1] [(h0, .inr (3, [.int mc0, .ref q_3, .int 0])), (q_3, .inl ((g.2.2.1 4), 10, .inr (.inr (.inr (.inr (fun _ => none))))))] rfl rfl (⟨q_3, rfl, rfl⟩) (by decide) (by decide) dJx4a65c_grow_92f84_59

set_option maxHeartbeats 4000000 in
set_option maxRecDepth 100000 in
theorem m_Jx4a65c_grow_d5877 (l : Launch) (hl0 : l.stackTraces = false) (g : kG) (h0 : Nat) (mc0 : Int32)  : kc l g yJx4a65c_grow_d5877 prog_39_method_7_code 1 (some (.array (.object "java/lang/Object"))) 2 44 1 10 [.ref h0] [(h0, .inr (3, [.int mc0, .ref g.2.1, .int 0]))] (fun v w => (∃ q0 : Nat, v = some (.ref q0) ∧ w = [(h0, .inr (3, [.int mc0, .ref q0, .int 0])), (q0, .inl ((g.2.2.1 4), 10, .inr (.inr (.inr (.inr (fun _ => none))))))])) (fun _ _ => False) := by
  refine kbody (by decide) (Nat.le_of_ble_eq_true rfl) ?_
  intro p e s m args below meth c A H K ht G hP hD hA hS ls hl
  have K : KB p s m meth c RJx4a65c "grow" prog_39_method_7_code 1 (some (.array (.object "java/lang/Object"))) := K
  obtain ⟨hx, hb, hml, hown, hlocks, hr, hin⟩ := id K
  have hl : lv_has ls 1 [(0, .ref h0)] := hl
  refine lv_aload_n hx hb dJx4a65c_grow_d5877_0 rfl (lv_at hl 0 rfl) ?_
  refine lv_aload_n hx hb dJx4a65c_grow_d5877_1 rfl (lv_at hl 0 rfl) ?_
  refine va_get (D := g.1) (ci := 3) (v := .int 0) (C := RJx4a65c) (T := TJx4a65c) (N := 3) hx hb G.ws inJx4a65c hown G.K hP 0 rfl rfl 2 (by decide) (G.w kw_22) (fun _ h9 => h9) rfl dJx4a65c_grow_d5877_2 ?_
  refine lv_iconst (v := 1) hx hb dJx4a65c_grow_d5877_5 (by decide) ?_
  refine lv_iadd hx hb dJx4a65c_grow_d5877_6 ?_
  refine lv_topi (fun y_1 ey_1 => ?_)
  obtain rfl : y_1 = 1 := ey_1.trans (by decide)
  refine kcallV (wc := [(h0, .inr (3, [.int mc0, .ref g.2.1, .int 0]))]) (wr := []) (As := [.int 1]) (rest := []) K G (m_Jx4a65c_grow_92f84 l hl0 g h0 mc0 ) hP hD hS hA hl kw_28 kw_29 kw_31 kw_32 kw_30 ydJx4a65c_grow_92f84 [0] [] rfl rfl rfl rfl (by decide) (ci := 3) (q0 := 0) rfl rfl rfl rfl rfl (Nat.le_of_ble_eq_true rfl) dJx4a65c_grow_d5877_7 ⟨Nat.le_of_ble_eq_true rfl, Nat.le_of_ble_eq_true rfl⟩ ⟨Nat.le_of_ble_eq_true rfl, Nat.le_of_ble_eq_true rfl⟩ (fun _ _ _ _ _ _ hX _ _ _ _ _ _ => hX.elim) (fun v w1 H locs hQ hP hD hS => ?_)
  obtain ⟨q0_3, rfl, rfl⟩ := hQ
  have hP : va_P g.1 vwCl [(h0, .inr (3, [.int mc0, .ref q0_3, .int 0])), (q0_3, .inl ((g.2.2.1 4), 10, .inr (.inr (.inr (.inr (fun _ => none))))))] H := hP
  have hD : va_D A [(h0, .inr (3, [.int mc0, .ref q0_3, .int 0])), (q0_3, .inl ((g.2.2.1 4), 10, .inr (.inr (.inr (.inr (fun _ => none))))))] := hD
  refine W.widen (k := 1) (n := 10) (by decide) (by decide) ?_
  refine W.eq (g2 := F0 m 10 ls [.ref q0_3]) rfl ?_
  exact kretA K hP hD hS [0, 1] [(h0, .inr (3, [.int mc0, .ref q0_3, .int 0])), (q0_3, .inl ((g.2.2.1 4), 10, .inr (.inr (.inr (.inr (fun _ => none))))))] rfl rfl (⟨q0_3, rfl, rfl⟩) (by decide) (by decide) dJx4a65c_grow_d5877_10

set_option maxHeartbeats 4000000 in
set_option maxRecDepth 100000 in
theorem m_Jx4a65c_add_72be8 (l : Launch) (hl0 : l.stackTraces = false) (g : kG) (h0 : Nat) (mc0 : Int32) (v0 : Nat) (ci0 : Nat) (vs : List Value) (r0 : vw_C) (hc : vwCl[ci0]? = some r0) (hca : Cond.castable r0.1 "java/lang/Object" ∈ kw) : kc l g yJx4a65c_add_72be8 prog_39_method_24_code 4 none 3 64 1 10 [.ref h0, .ref v0, .ref g.2.1, .int 0] [(h0, .inr (3, [.int mc0, .ref g.2.1, .int 0])), (v0, .inr (ci0, vs))] (fun v w => (∃ q0 : Nat, v = none ∧ w = [(h0, .inr (3, [.int mc0, .ref q0, .int 1]))])) (fun _ _ => False) := by
  refine kbody (by decide) (Nat.le_of_ble_eq_true rfl) ?_
  intro p e s m args below meth c A H K ht G hP hD hA hS ls hl
  have K : KB p s m meth c RJx4a65c "add" prog_39_method_24_code 4 none := K
  obtain ⟨hx, hb, hml, hown, hlocks, hr, hin⟩ := id K
  have hl : lv_has ls 4 [(0, .ref h0), (1, .ref v0), (2, .ref g.2.1), (3, .int 0)] := hl
  refine lv_iload_n hx hb dJx4a65c_add_72be8_0 rfl (lv_at hl 3 rfl) ?_
  refine lv_aload_n hx hb dJx4a65c_add_72be8_1 rfl (lv_at hl 2 rfl) ?_
  refine va_tlen (v := 0) hx hb G.E hS rfl dJx4a65c_add_72be8_2 ?_
  refine lv_icmp_ne (tgt := 11) hx hb dJx4a65c_add_72be8_3 (by decide) (fun c3_1 => absurd c3_1 (by decide)) (fun _ => ?_)
  refine lv_aload_n hx hb dJx4a65c_add_72be8_6 rfl (lv_at hl 0 rfl) ?_
  refine kcallV (wc := [(h0, .inr (3, [.int mc0, .ref g.2.1, .int 0]))]) (wr := [(v0, .inr (ci0, vs))]) (As := []) (rest := []) K G (m_Jx4a65c_grow_d5877 l hl0 g h0 mc0 ) hP hD hS hA hl kw_33 kw_34 kw_35 kw_36 kw_30 ydJx4a65c_grow_d5877 [0] [1] rfl rfl rfl rfl (by decide) (ci := 3) (q0 := 0) rfl rfl rfl rfl rfl (Nat.le_of_ble_eq_true rfl) dJx4a65c_add_72be8_7 ⟨Nat.le_of_ble_eq_true rfl, Nat.le_of_ble_eq_true rfl⟩ ⟨Nat.le_of_ble_eq_true rfl, Nat.le_of_ble_eq_true rfl⟩ (fun _ _ _ _ _ _ hX _ _ _ _ _ _ => hX.elim) (fun v w1 H locs hQ hP hD hS => ?_)
  obtain ⟨q0_3, rfl, rfl⟩ := hQ
  have hP : va_P g.1 vwCl [(v0, .inr (ci0, vs)), (h0, .inr (3, [.int mc0, .ref q0_3, .int 0])), (q0_3, .inl ((g.2.2.1 4), 10, .inr (.inr (.inr (.inr (fun _ => none))))))] H := hP
  have hD : va_D A [(v0, .inr (ci0, vs)), (h0, .inr (3, [.int mc0, .ref q0_3, .int 0])), (q0_3, .inl ((g.2.2.1 4), 10, .inr (.inr (.inr (.inr (fun _ => none))))))] := hD
  refine W.widen (k := 1) (n := 10) (by decide) (by decide) ?_
  refine W.eq (g2 := F0 m 10 ls [.ref q0_3]) rfl ?_
  refine lv_astore_n (lv' := [(2, .ref q0_3), (0, .ref h0), (1, .ref v0), (3, .int 0)]) hx hb dJx4a65c_add_72be8_10 rfl hl (by decide) rfl (fun ls hl => ?_)
  refine lv_aload_n hx hb dJx4a65c_add_72be8_11 rfl (lv_at hl 0 rfl) ?_
  refine lv_iload_n hx hb dJx4a65c_add_72be8_12 rfl (lv_at hl 3 rfl) ?_
  refine lv_aload_n hx hb dJx4a65c_add_72be8_13 rfl (lv_at hl 2 rfl) ?_
  refine va_astqO (E := "java/lang/Object") hx hb G.K hP hD hS 2 4 0 ci0 rfl rfl (G.nw hca) rfl hc (i := 0) (vp_in_iff.mpr ⟨by decide, by decide⟩) dJx4a65c_add_72be8_14 (fun H locs hP hD hS => ?_)
  have hP : va_P g.1 vwCl [(v0, .inr (ci0, vs)), (h0, .inr (3, [.int mc0, .ref q0_3, .int 0])), (q0_3, .inl ((g.2.2.1 4), 10, .inr (.inr (.inr (.inr (va_up (fun _ => none) (0 : Int32).toNatClampNeg (some v0)))))))] H := hP
  have hD : va_D A [(v0, .inr (ci0, vs)), (h0, .inr (3, [.int mc0, .ref q0_3, .int 0])), (q0_3, .inl ((g.2.2.1 4), 10, .inr (.inr (.inr (.inr (va_up (fun _ => none) (0 : Int32).toNatClampNeg (some v0)))))))] := hD
  refine lv_aload_n hx hb dJx4a65c_add_72be8_15 rfl (lv_at hl 1 rfl) ?_
  refine lv_iload_n hx hb dJx4a65c_add_72be8_16 rfl (lv_at hl 3 rfl) ?_
  refine lv_iconst (v := 1) hx hb dJx4a65c_add_72be8_17 (by decide) ?_
  refine lv_iadd hx hb dJx4a65c_add_72be8_18 ?_
  refine lv_topi (fun y_4 ey_4 => ?_)
  obtain rfl : y_4 = 1 := ey_4.trans (by decide)
  refine va_put (D := g.1) (ci := 3) (v := .int 1) (ty := .int) (C := RJx4a65c) (T := TJx4a65c) (N := 3) hx hb G.ws inJx4a65c tyJx4a65c tyJx4a65c_ok nmJx4a65c hown G.K hP hD hS 1 rfl rfl 2 (by decide) (G.w kw_22) (fun _ h9 => h9) (by decide +kernel) (by decide +kernel) rfl rfl (Nat.le_of_ble_eq_true rfl) dJx4a65c_add_72be8_19 (fun H locs hP hD hS => ?_)
  have hP : va_P g.1 vwCl [(v0, .inr (ci0, vs)), (h0, .inr (3, [.int mc0, .ref q0_3, .int 1])), (q0_3, .inl ((g.2.2.1 4), 10, .inr (.inr (.inr (.inr (va_up (fun _ => none) (0 : Int32).toNatClampNeg (some v0)))))))] H := hP
  have hD : va_D A [(v0, .inr (ci0, vs)), (h0, .inr (3, [.int mc0, .ref q0_3, .int 1])), (q0_3, .inl ((g.2.2.1 4), 10, .inr (.inr (.inr (.inr (va_up (fun _ => none) (0 : Int32).toNatClampNeg (some v0)))))))] := hD
  exact kretV K hP hD hS [1] [(h0, .inr (3, [.int mc0, .ref q0_3, .int 1]))] rfl rfl (⟨q0_3, rfl, rfl⟩) (by decide) (by decide) dJx4a65c_add_72be8_22

set_option maxHeartbeats 4000000 in
set_option maxRecDepth 100000 in
theorem m_Jx4a65c_add_9ea2d (l : Launch) (hl0 : l.stackTraces = false) (g : kG) (h0 : Nat) (v0 : Nat) (ci0 : Nat) (vs : List Value) (r0 : vw_C) (hc : vwCl[ci0]? = some r0) (hca : Cond.castable r0.1 "java/lang/Object" ∈ kw) : kc l g yJx4a65c_add_9ea2d prog_39_method_25_code 2 (some .boolean) 4 87 1 10 [.ref h0, .ref v0] [(h0, .inr (3, [.int 0, .ref g.2.1, .int 0])), (v0, .inr (ci0, vs))] (fun v w => (∃ q0 : Nat, v = some (.int 1) ∧ w = [(h0, .inr (3, [.int 1, .ref q0, .int 1]))])) (fun _ _ => False) := by
  refine kbody (by decide) (Nat.le_of_ble_eq_true rfl) ?_
  intro p e s m args below meth c A H K ht G hP hD hA hS ls hl
  have K : KB p s m meth c RJx4a65c "add" prog_39_method_25_code 2 (some .boolean) := K
  obtain ⟨hx, hb, hml, hown, hlocks, hr, hin⟩ := id K
  have hl : lv_has ls 2 [(0, .ref h0), (1, .ref v0)] := hl
  refine lv_aload_n hx hb dJx4a65c_add_9ea2d_0 rfl (lv_at hl 0 rfl) ?_
  refine lv_dup hx hb dJx4a65c_add_9ea2d_1 rfl ?_
  refine va_get (D := g.1) (ci := 3) (v := .int 0) (C := RJx4a65c) (T := TJx4a65c) (N := 3) hx hb G.ws inJx4a65c hown G.K hP 0 rfl rfl 0 (by decide) (G.w kw_37) (G.same kw_38) rfl dJx4a65c_add_9ea2d_2 ?_
  refine lv_iconst (v := 1) hx hb dJx4a65c_add_9ea2d_5 (by decide) ?_
  refine lv_iadd hx hb dJx4a65c_add_9ea2d_6 ?_
  refine lv_topi (fun y_1 ey_1 => ?_)
  obtain rfl : y_1 = 1 := ey_1.trans (by decide)
  refine va_put (D := g.1) (ci := 3) (v := .int 1) (ty := .int) (C := RJx4a65c) (T := TJx4a65c) (N := 3) hx hb G.ws inJx4a65c tyJx4a65c tyJx4a65c_ok nmJx4a65c hown G.K hP hD hS 0 rfl rfl 0 (by decide) (G.w kw_37) (G.same kw_38) (by decide +kernel) (by decide +kernel) rfl rfl (Nat.le_of_ble_eq_true rfl) dJx4a65c_add_9ea2d_7 (fun H locs hP hD hS => ?_)
  have hP : va_P g.1 vwCl [(h0, .inr (3, [.int 1, .ref g.2.1, .int 0])), (v0, .inr (ci0, vs))] H := hP
  have hD : va_D A [(h0, .inr (3, [.int 1, .ref g.2.1, .int 0])), (v0, .inr (ci0, vs))] := hD
  refine lv_aload_n hx hb dJx4a65c_add_9ea2d_10 rfl (lv_at hl 0 rfl) ?_
  refine lv_aload_n hx hb dJx4a65c_add_9ea2d_11 rfl (lv_at hl 1 rfl) ?_
  refine lv_aload_n hx hb dJx4a65c_add_9ea2d_12 rfl (lv_at hl 0 rfl) ?_
  refine va_get (D := g.1) (ci := 3) (v := .ref g.2.1) (C := RJx4a65c) (T := TJx4a65c) (N := 3) hx hb G.ws inJx4a65c hown G.K hP 0 rfl rfl 1 (by decide) (G.w kw_21) (fun _ h9 => h9) rfl dJx4a65c_add_9ea2d_13 ?_
  refine lv_aload_n hx hb dJx4a65c_add_9ea2d_16 rfl (lv_at hl 0 rfl) ?_
  refine va_get (D := g.1) (ci := 3) (v := .int 0) (C := RJx4a65c) (T := TJx4a65c) (N := 3) hx hb G.ws inJx4a65c hown G.K hP 0 rfl rfl 2 (by decide) (G.w kw_22) (fun _ h9 => h9) rfl dJx4a65c_add_9ea2d_17 ?_
  refine kcallV (wc := [(h0, .inr (3, [.int 1, .ref g.2.1, .int 0])), (v0, .inr (ci0, vs))]) (wr := []) (As := [.ref v0, .ref g.2.1, .int 0]) (rest := []) K G (m_Jx4a65c_add_72be8 l hl0 g h0 1 v0 ci0 vs _ hc hca) hP hD hS hA hl kw_39 kw_40 kw_41 kw_42 kw_30 ydJx4a65c_add_72be8 [0, 1] [] rfl rfl rfl rfl (by decide) (ci := 3) (q0 := 0) rfl rfl rfl rfl rfl (Nat.le_of_ble_eq_true rfl) dJx4a65c_add_9ea2d_20 ⟨Nat.le_of_ble_eq_true rfl, Nat.le_of_ble_eq_true rfl⟩ ⟨Nat.le_of_ble_eq_true rfl, Nat.le_of_ble_eq_true rfl⟩ (fun _ _ _ _ _ _ hX _ _ _ _ _ _ => hX.elim) (fun v w1 H locs hQ hP hD hS => ?_)
  obtain ⟨q0_3, rfl, rfl⟩ := hQ
  have hP : va_P g.1 vwCl [(h0, .inr (3, [.int 1, .ref q0_3, .int 1]))] H := hP
  have hD : va_D A [(h0, .inr (3, [.int 1, .ref q0_3, .int 1]))] := hD
  refine W.widen (k := 1) (n := 10) (by decide) (by decide) ?_
  refine W.eq (g2 := F0 m 23 ls []) rfl ?_
  refine lv_iconst (v := 1) hx hb dJx4a65c_add_9ea2d_23 (by decide) ?_
  exact kretZ K hP hD hS [0] [(h0, .inr (3, [.int 1, .ref q0_3, .int 1]))] rfl rfl (⟨q0_3, rfl, rfl⟩) (by decide) (by decide) dJx4a65c_add_9ea2d_24

set_option maxHeartbeats 4000000 in
set_option maxRecDepth 100000 in
theorem m_X11_landAt (l : Launch) (hl0 : l.stackTraces = false) (g : kG) (h0 : Nat) (a1 : Nat) (a2 : Nat) (a3 : Nat) (a4 : Nat) (a5 : Nat) (tt : Int32) (wf : Int32) (ww : Int32) (te : Int32) (tn : Int32) (mo : Int32) (x : Int32)  : kc l g yX11_landAt prog_1_method_58_code 2 (some (.object "GalleonWave$Land")) 7 103 1 6 [.ref h0, .int x] [(h0, .inr (15, [.ref a1, .ref a2, .ref a3, .ref a4, .ref a5, .int tt, .int wf, .int ww, .int te, .int tn, .int mo])), (a1, .inr (3, [.int 0, .ref g.2.1, .int 0]))] (fun _ _ => False) (fun E w => (E = "java/lang/IndexOutOfBoundsException" ∧ w = [])) := by
  refine kbody (by decide) (Nat.le_of_ble_eq_true rfl) ?_
  intro p e s m args below meth c A H K ht G hP hD hA hS ls hl
  have K : KB p s m meth c RX11 "landAt" prog_1_method_58_code 2 (some (.object "GalleonWave$Land")) := K
  obtain ⟨hx, hb, hml, hown, hlocks, hr, hin⟩ := id K
  have hl : lv_has ls 2 [(0, .ref h0), (1, .int x)] := hl
  refine lv_iload_n hx hb dX11_landAt_0 rfl (lv_at hl 1 rfl) ?_
  refine lv_aload_n hx hb dX11_landAt_1 rfl (lv_at hl 0 rfl) ?_
  refine va_get (D := g.1) (ci := 15) (v := .ref a1) (C := RX11) (T := TX11) (N := 11) hx hb G.ws inX11 hown G.K hP 0 rfl rfl 0 (by decide) (G.w kw_43) (fun _ h9 => h9) rfl dX11_landAt_2 ?_
  refine kcallV (wc := [(a1, .inr (3, [.int 0, .ref g.2.1, .int 0]))]) (wr := [(h0, .inr (15, [.ref a1, .ref a2, .ref a3, .ref a4, .ref a5, .int tt, .int wf, .int ww, .int te, .int tn, .int mo]))]) (As := []) (rest := [.int x]) K G (m_Jx4a65c_size_8abf5 l hl0 g a1 0 g.2.1 0 ) hP hD hS hA hl kw_44 kw_45 kw_46 kw_47 kw_30 ydJx4a65c_size_8abf5 [1] [0] rfl rfl rfl rfl (by decide) (ci := 3) (q0 := 1) rfl rfl rfl rfl rfl (Nat.le_of_ble_eq_true rfl) dX11_landAt_5 ⟨Nat.le_of_ble_eq_true rfl, Nat.le_of_ble_eq_true rfl⟩ ⟨Nat.le_of_ble_eq_true rfl, Nat.le_of_ble_eq_true rfl⟩ (fun _ _ _ _ _ _ hX _ _ _ _ _ _ => hX.elim) (fun v w1 H locs hQ hP hD hS => ?_)
  obtain ⟨rfl, rfl⟩ := hQ
  have hP : va_P g.1 vwCl [(h0, .inr (15, [.ref a1, .ref a2, .ref a3, .ref a4, .ref a5, .int tt, .int wf, .int ww, .int te, .int tn, .int mo])), (a1, .inr (3, [.int 0, .ref g.2.1, .int 0]))] H := hP
  have hD : va_D A [(h0, .inr (15, [.ref a1, .ref a2, .ref a3, .ref a4, .ref a5, .int tt, .int wf, .int ww, .int te, .int tn, .int mo])), (a1, .inr (3, [.int 0, .ref g.2.1, .int 0]))] := hD
  refine W.widen (k := 0) (n := 0) (by decide) (by decide) ?_
  refine W.eq (g2 := F0 m 8 ls [.int 0, .int x]) rfl ?_
  refine kcallS (wc := []) (wr := [(h0, .inr (15, [.ref a1, .ref a2, .ref a3, .ref a4, .ref a5, .int tt, .int wf, .int ww, .int te, .int tn, .int mo])), (a1, .inr (3, [.int 0, .ref g.2.1, .int 0]))]) (As := [.int x, .int 0]) (rest := []) K G (m_X11_requireNumber0 l hl0 g x ) hP hD hS hA hl kw_48 kw_49 kw_50 kw_4 ydX11_requireNumber [] [0, 1] rfl rfl rfl rfl (by decide) rfl rfl (Nat.le_of_ble_eq_true rfl) dX11_landAt_8 ⟨Nat.le_of_ble_eq_true rfl, Nat.le_of_ble_eq_true rfl⟩ ⟨Nat.le_of_ble_eq_true rfl, Nat.le_of_ble_eq_true rfl⟩ (fun E w1 ce q9 H locs hX hP hD hS hce hcv hcl => ?_) (fun _ _ _ _ hQ _ _ _ => hQ.elim)
  obtain ⟨rfl, rfl⟩ := hX
  have hP : va_P g.1 vwCl [(h0, .inr (15, [.ref a1, .ref a2, .ref a3, .ref a4, .ref a5, .int tt, .int wf, .int ww, .int te, .int tn, .int mo])), (a1, .inr (3, [.int 0, .ref g.2.1, .int 0]))] H := hP
  have hD : va_D A [(h0, .inr (15, [.ref a1, .ref a2, .ref a3, .ref a4, .ref a5, .int tt, .int wf, .int ww, .int te, .int tn, .int mo])), (a1, .inr (3, [.int 0, .ref g.2.1, .int 0]))] := hD
  refine vx_widen (k := 1) (n := 6) (by decide) (by decide) ?_
  exact kthrow K ht hP hD hS hce hcv hcl [] [] rfl rfl (⟨rfl, rfl⟩) (by decide) (by decide)

set_option maxHeartbeats 4000000 in
set_option maxRecDepth 100000 in
theorem m_X11_townAt (l : Launch) (hl0 : l.stackTraces = false) (g : kG) (h0 : Nat) (a1 : Nat) (a2 : Nat) (a3 : Nat) (a4 : Nat) (a5 : Nat) (tt : Int32) (wf : Int32) (ww : Int32) (te : Int32) (tn : Int32) (mo : Int32) (x : Int32)  : kc l g yX11_townAt prog_1_method_59_code 2 (some (.object "GalleonWave$Town")) 7 103 1 6 [.ref h0, .int x] [(h0, .inr (15, [.ref a1, .ref a2, .ref a3, .ref a4, .ref a5, .int tt, .int wf, .int ww, .int te, .int tn, .int mo])), (a2, .inr (3, [.int 0, .ref g.2.1, .int 0]))] (fun _ _ => False) (fun E w => (E = "java/lang/IndexOutOfBoundsException" ∧ w = [])) := by
  refine kbody (by decide) (Nat.le_of_ble_eq_true rfl) ?_
  intro p e s m args below meth c A H K ht G hP hD hA hS ls hl
  have K : KB p s m meth c RX11 "townAt" prog_1_method_59_code 2 (some (.object "GalleonWave$Town")) := K
  obtain ⟨hx, hb, hml, hown, hlocks, hr, hin⟩ := id K
  have hl : lv_has ls 2 [(0, .ref h0), (1, .int x)] := hl
  refine lv_iload_n hx hb dX11_townAt_0 rfl (lv_at hl 1 rfl) ?_
  refine lv_aload_n hx hb dX11_townAt_1 rfl (lv_at hl 0 rfl) ?_
  refine va_get (D := g.1) (ci := 15) (v := .ref a2) (C := RX11) (T := TX11) (N := 11) hx hb G.ws inX11 hown G.K hP 0 rfl rfl 1 (by decide) (G.w kw_51) (fun _ h9 => h9) rfl dX11_townAt_2 ?_
  refine kcallV (wc := [(a2, .inr (3, [.int 0, .ref g.2.1, .int 0]))]) (wr := [(h0, .inr (15, [.ref a1, .ref a2, .ref a3, .ref a4, .ref a5, .int tt, .int wf, .int ww, .int te, .int tn, .int mo]))]) (As := []) (rest := [.int x]) K G (m_Jx4a65c_size_8abf5 l hl0 g a2 0 g.2.1 0 ) hP hD hS hA hl kw_44 kw_45 kw_46 kw_47 kw_30 ydJx4a65c_size_8abf5 [1] [0] rfl rfl rfl rfl (by decide) (ci := 3) (q0 := 1) rfl rfl rfl rfl rfl (Nat.le_of_ble_eq_true rfl) dX11_townAt_5 ⟨Nat.le_of_ble_eq_true rfl, Nat.le_of_ble_eq_true rfl⟩ ⟨Nat.le_of_ble_eq_true rfl, Nat.le_of_ble_eq_true rfl⟩ (fun _ _ _ _ _ _ hX _ _ _ _ _ _ => hX.elim) (fun v w1 H locs hQ hP hD hS => ?_)
  obtain ⟨rfl, rfl⟩ := hQ
  have hP : va_P g.1 vwCl [(h0, .inr (15, [.ref a1, .ref a2, .ref a3, .ref a4, .ref a5, .int tt, .int wf, .int ww, .int te, .int tn, .int mo])), (a2, .inr (3, [.int 0, .ref g.2.1, .int 0]))] H := hP
  have hD : va_D A [(h0, .inr (15, [.ref a1, .ref a2, .ref a3, .ref a4, .ref a5, .int tt, .int wf, .int ww, .int te, .int tn, .int mo])), (a2, .inr (3, [.int 0, .ref g.2.1, .int 0]))] := hD
  refine W.widen (k := 0) (n := 0) (by decide) (by decide) ?_
  refine W.eq (g2 := F0 m 8 ls [.int 0, .int x]) rfl ?_
  refine kcallS (wc := []) (wr := [(h0, .inr (15, [.ref a1, .ref a2, .ref a3, .ref a4, .ref a5, .int tt, .int wf, .int ww, .int te, .int tn, .int mo])), (a2, .inr (3, [.int 0, .ref g.2.1, .int 0]))]) (As := [.int x, .int 0]) (rest := []) K G (m_X11_requireNumber0 l hl0 g x ) hP hD hS hA hl kw_48 kw_49 kw_50 kw_4 ydX11_requireNumber [] [0, 1] rfl rfl rfl rfl (by decide) rfl rfl (Nat.le_of_ble_eq_true rfl) dX11_townAt_8 ⟨Nat.le_of_ble_eq_true rfl, Nat.le_of_ble_eq_true rfl⟩ ⟨Nat.le_of_ble_eq_true rfl, Nat.le_of_ble_eq_true rfl⟩ (fun E w1 ce q9 H locs hX hP hD hS hce hcv hcl => ?_) (fun _ _ _ _ hQ _ _ _ => hQ.elim)
  obtain ⟨rfl, rfl⟩ := hX
  have hP : va_P g.1 vwCl [(h0, .inr (15, [.ref a1, .ref a2, .ref a3, .ref a4, .ref a5, .int tt, .int wf, .int ww, .int te, .int tn, .int mo])), (a2, .inr (3, [.int 0, .ref g.2.1, .int 0]))] H := hP
  have hD : va_D A [(h0, .inr (15, [.ref a1, .ref a2, .ref a3, .ref a4, .ref a5, .int tt, .int wf, .int ww, .int te, .int tn, .int mo])), (a2, .inr (3, [.int 0, .ref g.2.1, .int 0]))] := hD
  refine vx_widen (k := 1) (n := 6) (by decide) (by decide) ?_
  exact kthrow K ht hP hD hS hce hcv hcl [] [] rfl rfl (⟨rfl, rfl⟩) (by decide) (by decide)

set_option maxHeartbeats 4000000 in
set_option maxRecDepth 100000 in
theorem m_X11_shipAt (l : Launch) (hl0 : l.stackTraces = false) (g : kG) (h0 : Nat) (a1 : Nat) (a2 : Nat) (a3 : Nat) (a4 : Nat) (a5 : Nat) (tt : Int32) (wf : Int32) (ww : Int32) (te : Int32) (tn : Int32) (mo : Int32) (x : Int32)  : kc l g yX11_shipAt prog_1_method_60_code 2 (some (.object "GalleonWave$Ship")) 7 103 1 6 [.ref h0, .int x] [(h0, .inr (15, [.ref a1, .ref a2, .ref a3, .ref a4, .ref a5, .int tt, .int wf, .int ww, .int te, .int tn, .int mo])), (a3, .inr (3, [.int 0, .ref g.2.1, .int 0]))] (fun _ _ => False) (fun E w => (E = "java/lang/IndexOutOfBoundsException" ∧ w = [])) := by
  refine kbody (by decide) (Nat.le_of_ble_eq_true rfl) ?_
  intro p e s m args below meth c A H K ht G hP hD hA hS ls hl
  have K : KB p s m meth c RX11 "shipAt" prog_1_method_60_code 2 (some (.object "GalleonWave$Ship")) := K
  obtain ⟨hx, hb, hml, hown, hlocks, hr, hin⟩ := id K
  have hl : lv_has ls 2 [(0, .ref h0), (1, .int x)] := hl
  refine lv_iload_n hx hb dX11_shipAt_0 rfl (lv_at hl 1 rfl) ?_
  refine lv_aload_n hx hb dX11_shipAt_1 rfl (lv_at hl 0 rfl) ?_
  refine va_get (D := g.1) (ci := 15) (v := .ref a3) (C := RX11) (T := TX11) (N := 11) hx hb G.ws inX11 hown G.K hP 0 rfl rfl 2 (by decide) (G.w kw_52) (fun _ h9 => h9) rfl dX11_shipAt_2 ?_
  refine kcallV (wc := [(a3, .inr (3, [.int 0, .ref g.2.1, .int 0]))]) (wr := [(h0, .inr (15, [.ref a1, .ref a2, .ref a3, .ref a4, .ref a5, .int tt, .int wf, .int ww, .int te, .int tn, .int mo]))]) (As := []) (rest := [.int x]) K G (m_Jx4a65c_size_8abf5 l hl0 g a3 0 g.2.1 0 ) hP hD hS hA hl kw_44 kw_45 kw_46 kw_47 kw_30 ydJx4a65c_size_8abf5 [1] [0] rfl rfl rfl rfl (by decide) (ci := 3) (q0 := 1) rfl rfl rfl rfl rfl (Nat.le_of_ble_eq_true rfl) dX11_shipAt_5 ⟨Nat.le_of_ble_eq_true rfl, Nat.le_of_ble_eq_true rfl⟩ ⟨Nat.le_of_ble_eq_true rfl, Nat.le_of_ble_eq_true rfl⟩ (fun _ _ _ _ _ _ hX _ _ _ _ _ _ => hX.elim) (fun v w1 H locs hQ hP hD hS => ?_)
  obtain ⟨rfl, rfl⟩ := hQ
  have hP : va_P g.1 vwCl [(h0, .inr (15, [.ref a1, .ref a2, .ref a3, .ref a4, .ref a5, .int tt, .int wf, .int ww, .int te, .int tn, .int mo])), (a3, .inr (3, [.int 0, .ref g.2.1, .int 0]))] H := hP
  have hD : va_D A [(h0, .inr (15, [.ref a1, .ref a2, .ref a3, .ref a4, .ref a5, .int tt, .int wf, .int ww, .int te, .int tn, .int mo])), (a3, .inr (3, [.int 0, .ref g.2.1, .int 0]))] := hD
  refine W.widen (k := 0) (n := 0) (by decide) (by decide) ?_
  refine W.eq (g2 := F0 m 8 ls [.int 0, .int x]) rfl ?_
  refine kcallS (wc := []) (wr := [(h0, .inr (15, [.ref a1, .ref a2, .ref a3, .ref a4, .ref a5, .int tt, .int wf, .int ww, .int te, .int tn, .int mo])), (a3, .inr (3, [.int 0, .ref g.2.1, .int 0]))]) (As := [.int x, .int 0]) (rest := []) K G (m_X11_requireNumber0 l hl0 g x ) hP hD hS hA hl kw_48 kw_49 kw_50 kw_4 ydX11_requireNumber [] [0, 1] rfl rfl rfl rfl (by decide) rfl rfl (Nat.le_of_ble_eq_true rfl) dX11_shipAt_8 ⟨Nat.le_of_ble_eq_true rfl, Nat.le_of_ble_eq_true rfl⟩ ⟨Nat.le_of_ble_eq_true rfl, Nat.le_of_ble_eq_true rfl⟩ (fun E w1 ce q9 H locs hX hP hD hS hce hcv hcl => ?_) (fun _ _ _ _ hQ _ _ _ => hQ.elim)
  obtain ⟨rfl, rfl⟩ := hX
  have hP : va_P g.1 vwCl [(h0, .inr (15, [.ref a1, .ref a2, .ref a3, .ref a4, .ref a5, .int tt, .int wf, .int ww, .int te, .int tn, .int mo])), (a3, .inr (3, [.int 0, .ref g.2.1, .int 0]))] H := hP
  have hD : va_D A [(h0, .inr (15, [.ref a1, .ref a2, .ref a3, .ref a4, .ref a5, .int tt, .int wf, .int ww, .int te, .int tn, .int mo])), (a3, .inr (3, [.int 0, .ref g.2.1, .int 0]))] := hD
  refine vx_widen (k := 1) (n := 6) (by decide) (by decide) ?_
  exact kthrow K ht hP hD hS hce hcv hcl [] [] rfl rfl (⟨rfl, rfl⟩) (by decide) (by decide)

set_option maxHeartbeats 4000000 in
set_option maxRecDepth 100000 in
theorem m_X11_personAt (l : Launch) (hl0 : l.stackTraces = false) (g : kG) (h0 : Nat) (a1 : Nat) (a2 : Nat) (a3 : Nat) (a4 : Nat) (a5 : Nat) (tt : Int32) (wf : Int32) (ww : Int32) (te : Int32) (tn : Int32) (mo : Int32) (x : Int32)  : kc l g yX11_personAt prog_1_method_61_code 2 (some (.object "GalleonWave$Person")) 7 103 1 6 [.ref h0, .int x] [(h0, .inr (15, [.ref a1, .ref a2, .ref a3, .ref a4, .ref a5, .int tt, .int wf, .int ww, .int te, .int tn, .int mo])), (a4, .inr (3, [.int 0, .ref g.2.1, .int 0]))] (fun _ _ => False) (fun E w => (E = "java/lang/IndexOutOfBoundsException" ∧ w = [])) := by
  refine kbody (by decide) (Nat.le_of_ble_eq_true rfl) ?_
  intro p e s m args below meth c A H K ht G hP hD hA hS ls hl
  have K : KB p s m meth c RX11 "personAt" prog_1_method_61_code 2 (some (.object "GalleonWave$Person")) := K
  obtain ⟨hx, hb, hml, hown, hlocks, hr, hin⟩ := id K
  have hl : lv_has ls 2 [(0, .ref h0), (1, .int x)] := hl
  refine lv_iload_n hx hb dX11_personAt_0 rfl (lv_at hl 1 rfl) ?_
  refine lv_aload_n hx hb dX11_personAt_1 rfl (lv_at hl 0 rfl) ?_
  refine va_get (D := g.1) (ci := 15) (v := .ref a4) (C := RX11) (T := TX11) (N := 11) hx hb G.ws inX11 hown G.K hP 0 rfl rfl 3 (by decide) (G.w kw_53) (fun _ h9 => h9) rfl dX11_personAt_2 ?_
  refine kcallV (wc := [(a4, .inr (3, [.int 0, .ref g.2.1, .int 0]))]) (wr := [(h0, .inr (15, [.ref a1, .ref a2, .ref a3, .ref a4, .ref a5, .int tt, .int wf, .int ww, .int te, .int tn, .int mo]))]) (As := []) (rest := [.int x]) K G (m_Jx4a65c_size_8abf5 l hl0 g a4 0 g.2.1 0 ) hP hD hS hA hl kw_44 kw_45 kw_46 kw_47 kw_30 ydJx4a65c_size_8abf5 [1] [0] rfl rfl rfl rfl (by decide) (ci := 3) (q0 := 1) rfl rfl rfl rfl rfl (Nat.le_of_ble_eq_true rfl) dX11_personAt_5 ⟨Nat.le_of_ble_eq_true rfl, Nat.le_of_ble_eq_true rfl⟩ ⟨Nat.le_of_ble_eq_true rfl, Nat.le_of_ble_eq_true rfl⟩ (fun _ _ _ _ _ _ hX _ _ _ _ _ _ => hX.elim) (fun v w1 H locs hQ hP hD hS => ?_)
  obtain ⟨rfl, rfl⟩ := hQ
  have hP : va_P g.1 vwCl [(h0, .inr (15, [.ref a1, .ref a2, .ref a3, .ref a4, .ref a5, .int tt, .int wf, .int ww, .int te, .int tn, .int mo])), (a4, .inr (3, [.int 0, .ref g.2.1, .int 0]))] H := hP
  have hD : va_D A [(h0, .inr (15, [.ref a1, .ref a2, .ref a3, .ref a4, .ref a5, .int tt, .int wf, .int ww, .int te, .int tn, .int mo])), (a4, .inr (3, [.int 0, .ref g.2.1, .int 0]))] := hD
  refine W.widen (k := 0) (n := 0) (by decide) (by decide) ?_
  refine W.eq (g2 := F0 m 8 ls [.int 0, .int x]) rfl ?_
  refine kcallS (wc := []) (wr := [(h0, .inr (15, [.ref a1, .ref a2, .ref a3, .ref a4, .ref a5, .int tt, .int wf, .int ww, .int te, .int tn, .int mo])), (a4, .inr (3, [.int 0, .ref g.2.1, .int 0]))]) (As := [.int x, .int 0]) (rest := []) K G (m_X11_requireNumber0 l hl0 g x ) hP hD hS hA hl kw_48 kw_49 kw_50 kw_4 ydX11_requireNumber [] [0, 1] rfl rfl rfl rfl (by decide) rfl rfl (Nat.le_of_ble_eq_true rfl) dX11_personAt_8 ⟨Nat.le_of_ble_eq_true rfl, Nat.le_of_ble_eq_true rfl⟩ ⟨Nat.le_of_ble_eq_true rfl, Nat.le_of_ble_eq_true rfl⟩ (fun E w1 ce q9 H locs hX hP hD hS hce hcv hcl => ?_) (fun _ _ _ _ hQ _ _ _ => hQ.elim)
  obtain ⟨rfl, rfl⟩ := hX
  have hP : va_P g.1 vwCl [(h0, .inr (15, [.ref a1, .ref a2, .ref a3, .ref a4, .ref a5, .int tt, .int wf, .int ww, .int te, .int tn, .int mo])), (a4, .inr (3, [.int 0, .ref g.2.1, .int 0]))] H := hP
  have hD : va_D A [(h0, .inr (15, [.ref a1, .ref a2, .ref a3, .ref a4, .ref a5, .int tt, .int wf, .int ww, .int te, .int tn, .int mo])), (a4, .inr (3, [.int 0, .ref g.2.1, .int 0]))] := hD
  refine vx_widen (k := 1) (n := 6) (by decide) (by decide) ?_
  exact kthrow K ht hP hD hS hce hcv hcl [] [] rfl rfl (⟨rfl, rfl⟩) (by decide) (by decide)

set_option maxHeartbeats 4000000 in
set_option maxRecDepth 100000 in
theorem m_X11_requireRecording (l : Launch) (hl0 : l.stackTraces = false) (g : kG) (h0 : Nat) (a1 : Nat) (a2 : Nat) (a3 : Nat) (a4 : Nat) (a5 : Nat) (tt : Int32) (wf : Int32) (ww : Int32) (te : Int32) (tn : Int32) (mo : Int32) (k0 : Nat) (r0 : Nat) (b1 : Nat) (b2 : Nat) (b3 : Nat) (b4 : Nat) (b5 : Nat) (x : Int32)  : kc l g yX11_requireRecording prog_1_method_57_code 2 none 7 103 1 6 [.ref h0, .int x] [(h0, .inr (15, [.ref a1, .ref a2, .ref a3, .ref a4, .ref a5, .int tt, .int wf, .int ww, .int te, .int tn, .int mo])), (a5, .inr (5, [.ref k0, .ref r0, .ref b1, .ref b2, .ref b3, .ref b4, .ref b5, .int 0])), (r0, .inr (3, [.int 0, .ref g.2.1, .int 0]))] (fun _ _ => False) (fun E w => (E = "java/lang/IndexOutOfBoundsException" ∧ w = [])) := by
  refine kbody (by decide) (Nat.le_of_ble_eq_true rfl) ?_
  intro p e s m args below meth c A H K ht G hP hD hA hS ls hl
  have K : KB p s m meth c RX11 "requireRecording" prog_1_method_57_code 2 none := K
  obtain ⟨hx, hb, hml, hown, hlocks, hr, hin⟩ := id K
  have hl : lv_has ls 2 [(0, .ref h0), (1, .int x)] := hl
  refine lv_iload_n hx hb dX11_requireRecording_0 rfl (lv_at hl 1 rfl) ?_
  refine lv_aload_n hx hb dX11_requireRecording_1 rfl (lv_at hl 0 rfl) ?_
  refine va_get (D := g.1) (ci := 15) (v := .ref a5) (C := RX11) (T := TX11) (N := 11) hx hb G.ws inX11 hown G.K hP 0 rfl rfl 4 (by decide) (G.w kw_54) (fun _ h9 => h9) rfl dX11_requireRecording_2 ?_
  refine va_get (D := g.1) (ci := 5) (v := .ref r0) (C := RX1) (T := TX1) (N := 8) hx hb G.ws inX1 hown G.K hP 1 rfl rfl 1 (by decide) (G.w kw_55) (fun _ h9 => h9) rfl dX11_requireRecording_5 ?_
  refine kcallV (wc := [(r0, .inr (3, [.int 0, .ref g.2.1, .int 0]))]) (wr := [(h0, .inr (15, [.ref a1, .ref a2, .ref a3, .ref a4, .ref a5, .int tt, .int wf, .int ww, .int te, .int tn, .int mo])), (a5, .inr (5, [.ref k0, .ref r0, .ref b1, .ref b2, .ref b3, .ref b4, .ref b5, .int 0]))]) (As := []) (rest := [.int x]) K G (m_Jx4a65c_size_8abf5 l hl0 g r0 0 g.2.1 0 ) hP hD hS hA hl kw_44 kw_45 kw_46 kw_47 kw_30 ydJx4a65c_size_8abf5 [2] [0, 1] rfl rfl rfl rfl (by decide) (ci := 3) (q0 := 2) rfl rfl rfl rfl rfl (Nat.le_of_ble_eq_true rfl) dX11_requireRecording_8 ⟨Nat.le_of_ble_eq_true rfl, Nat.le_of_ble_eq_true rfl⟩ ⟨Nat.le_of_ble_eq_true rfl, Nat.le_of_ble_eq_true rfl⟩ (fun _ _ _ _ _ _ hX _ _ _ _ _ _ => hX.elim) (fun v w1 H locs hQ hP hD hS => ?_)
  obtain ⟨rfl, rfl⟩ := hQ
  have hP : va_P g.1 vwCl [(h0, .inr (15, [.ref a1, .ref a2, .ref a3, .ref a4, .ref a5, .int tt, .int wf, .int ww, .int te, .int tn, .int mo])), (a5, .inr (5, [.ref k0, .ref r0, .ref b1, .ref b2, .ref b3, .ref b4, .ref b5, .int 0])), (r0, .inr (3, [.int 0, .ref g.2.1, .int 0]))] H := hP
  have hD : va_D A [(h0, .inr (15, [.ref a1, .ref a2, .ref a3, .ref a4, .ref a5, .int tt, .int wf, .int ww, .int te, .int tn, .int mo])), (a5, .inr (5, [.ref k0, .ref r0, .ref b1, .ref b2, .ref b3, .ref b4, .ref b5, .int 0])), (r0, .inr (3, [.int 0, .ref g.2.1, .int 0]))] := hD
  refine W.widen (k := 0) (n := 0) (by decide) (by decide) ?_
  refine W.eq (g2 := F0 m 11 ls [.int 0, .int x]) rfl ?_
  refine kcallS (wc := []) (wr := [(h0, .inr (15, [.ref a1, .ref a2, .ref a3, .ref a4, .ref a5, .int tt, .int wf, .int ww, .int te, .int tn, .int mo])), (a5, .inr (5, [.ref k0, .ref r0, .ref b1, .ref b2, .ref b3, .ref b4, .ref b5, .int 0])), (r0, .inr (3, [.int 0, .ref g.2.1, .int 0]))]) (As := [.int x, .int 0]) (rest := []) K G (m_X11_requireNumber0 l hl0 g x ) hP hD hS hA hl kw_48 kw_49 kw_50 kw_4 ydX11_requireNumber [] [0, 1, 2] rfl rfl rfl rfl (by decide) rfl rfl (Nat.le_of_ble_eq_true rfl) dX11_requireRecording_11 ⟨Nat.le_of_ble_eq_true rfl, Nat.le_of_ble_eq_true rfl⟩ ⟨Nat.le_of_ble_eq_true rfl, Nat.le_of_ble_eq_true rfl⟩ (fun E w1 ce q9 H locs hX hP hD hS hce hcv hcl => ?_) (fun _ _ _ _ hQ _ _ _ => hQ.elim)
  obtain ⟨rfl, rfl⟩ := hX
  have hP : va_P g.1 vwCl [(h0, .inr (15, [.ref a1, .ref a2, .ref a3, .ref a4, .ref a5, .int tt, .int wf, .int ww, .int te, .int tn, .int mo])), (a5, .inr (5, [.ref k0, .ref r0, .ref b1, .ref b2, .ref b3, .ref b4, .ref b5, .int 0])), (r0, .inr (3, [.int 0, .ref g.2.1, .int 0]))] H := hP
  have hD : va_D A [(h0, .inr (15, [.ref a1, .ref a2, .ref a3, .ref a4, .ref a5, .int tt, .int wf, .int ww, .int te, .int tn, .int mo])), (a5, .inr (5, [.ref k0, .ref r0, .ref b1, .ref b2, .ref b3, .ref b4, .ref b5, .int 0])), (r0, .inr (3, [.int 0, .ref g.2.1, .int 0]))] := hD
  refine vx_widen (k := 1) (n := 6) (by decide) (by decide) ?_
  exact kthrow K ht hP hD hS hce hcv hcl [] [] rfl rfl (⟨rfl, rfl⟩) (by decide) (by decide)

set_option maxHeartbeats 4000000 in
set_option maxRecDepth 100000 in
theorem m_X11_addAct (l : Launch) (hl0 : l.stackTraces = false) (g : kG) (h0 : Nat) (a1 : Nat) (a2 : Nat) (a3 : Nat) (a4 : Nat) (a5 : Nat) (tt : Int32) (wf : Int32) (ww : Int32) (te : Int32) (tn : Int32) (mo : Int32) (x0 : Int32) (x1 : Int32) (x2 : Int32) (x3 : Int32)  : kc l g yX11_addAct prog_1_method_3_code 6 (some .int) 8 124 1 6 [.ref h0, .int x0, .int x1, .int x2, .int x3] [(h0, .inr (15, [.ref a1, .ref a2, .ref a3, .ref a4, .ref a5, .int tt, .int wf, .int ww, .int te, .int tn, .int mo])), (a1, .inr (3, [.int 0, .ref g.2.1, .int 0]))] (fun _ _ => False) (fun E w => (E = "java/lang/IndexOutOfBoundsException" ∧ w = [])) := by
  refine kbody (by decide) (Nat.le_of_ble_eq_true rfl) ?_
  intro p e s m args below meth c A H K ht G hP hD hA hS ls hl
  have K : KB p s m meth c RX11 "addAct" prog_1_method_3_code 6 (some .int) := K
  obtain ⟨hx, hb, hml, hown, hlocks, hr, hin⟩ := id K
  have hl : lv_has ls 6 [(0, .ref h0), (1, .int x0), (2, .int x1), (3, .int x2), (4, .int x3)] := hl
  refine lv_aload_n hx hb dX11_addAct_0 rfl (lv_at hl 0 rfl) ?_
  refine lv_iload_n hx hb dX11_addAct_1 rfl (lv_at hl 1 rfl) ?_
  refine kcallV (wc := [(h0, .inr (15, [.ref a1, .ref a2, .ref a3, .ref a4, .ref a5, .int tt, .int wf, .int ww, .int te, .int tn, .int mo])), (a1, .inr (3, [.int 0, .ref g.2.1, .int 0]))]) (wr := []) (As := [.int x0]) (rest := []) K G (m_X11_landAt l hl0 g h0 a1 a2 a3 a4 a5 tt wf ww te tn mo x0 ) hP hD hS hA hl kw_56 kw_57 kw_58 kw_59 kw_4 ydX11_landAt [0, 1] [] rfl rfl rfl rfl (by decide) (ci := 15) (q0 := 0) rfl rfl rfl rfl rfl (Nat.le_of_ble_eq_true rfl) dX11_addAct_2 ⟨Nat.le_of_ble_eq_true rfl, Nat.le_of_ble_eq_true rfl⟩ ⟨Nat.le_of_ble_eq_true rfl, Nat.le_of_ble_eq_true rfl⟩ (fun E w1 ce q9 H locs hX hP hD hS hce hcv hcl => ?_) (fun _ _ _ _ hQ _ _ _ => hQ.elim)
  obtain ⟨rfl, rfl⟩ := hX
  have hP : va_P g.1 vwCl [] H := hP
  have hD : va_D A [] := hD
  refine vx_widen (k := 1) (n := 6) (by decide) (by decide) ?_
  exact kthrow K ht hP hD hS hce hcv hcl [] [] rfl rfl (⟨rfl, rfl⟩) (by decide) (by decide)

set_option maxHeartbeats 4000000 in
set_option maxRecDepth 100000 in
theorem m_X11_getLine (l : Launch) (hl0 : l.stackTraces = false) (g : kG) (h0 : Nat) (a1 : Nat) (a2 : Nat) (a3 : Nat) (a4 : Nat) (a5 : Nat) (tt : Int32) (wf : Int32) (ww : Int32) (te : Int32) (tn : Int32) (mo : Int32) (x0 : Int32)  : kc l g yX11_getLine prog_1_method_4_code 2 (some .int) 8 124 1 6 [.ref h0, .int x0] [(h0, .inr (15, [.ref a1, .ref a2, .ref a3, .ref a4, .ref a5, .int tt, .int wf, .int ww, .int te, .int tn, .int mo])), (a1, .inr (3, [.int 0, .ref g.2.1, .int 0]))] (fun _ _ => False) (fun E w => (E = "java/lang/IndexOutOfBoundsException" ∧ w = [])) := by
  refine kbody (by decide) (Nat.le_of_ble_eq_true rfl) ?_
  intro p e s m args below meth c A H K ht G hP hD hA hS ls hl
  have K : KB p s m meth c RX11 "getLine" prog_1_method_4_code 2 (some .int) := K
  obtain ⟨hx, hb, hml, hown, hlocks, hr, hin⟩ := id K
  have hl : lv_has ls 2 [(0, .ref h0), (1, .int x0)] := hl
  refine lv_aload_n hx hb dX11_getLine_0 rfl (lv_at hl 0 rfl) ?_
  refine lv_iload_n hx hb dX11_getLine_1 rfl (lv_at hl 1 rfl) ?_
  refine kcallV (wc := [(h0, .inr (15, [.ref a1, .ref a2, .ref a3, .ref a4, .ref a5, .int tt, .int wf, .int ww, .int te, .int tn, .int mo])), (a1, .inr (3, [.int 0, .ref g.2.1, .int 0]))]) (wr := []) (As := [.int x0]) (rest := []) K G (m_X11_landAt l hl0 g h0 a1 a2 a3 a4 a5 tt wf ww te tn mo x0 ) hP hD hS hA hl kw_56 kw_57 kw_58 kw_59 kw_4 ydX11_landAt [0, 1] [] rfl rfl rfl rfl (by decide) (ci := 15) (q0 := 0) rfl rfl rfl rfl rfl (Nat.le_of_ble_eq_true rfl) dX11_getLine_2 ⟨Nat.le_of_ble_eq_true rfl, Nat.le_of_ble_eq_true rfl⟩ ⟨Nat.le_of_ble_eq_true rfl, Nat.le_of_ble_eq_true rfl⟩ (fun E w1 ce q9 H locs hX hP hD hS hce hcv hcl => ?_) (fun _ _ _ _ hQ _ _ _ => hQ.elim)
  obtain ⟨rfl, rfl⟩ := hX
  have hP : va_P g.1 vwCl [] H := hP
  have hD : va_D A [] := hD
  refine vx_widen (k := 1) (n := 6) (by decide) (by decide) ?_
  exact kthrow K ht hP hD hS hce hcv hcl [] [] rfl rfl (⟨rfl, rfl⟩) (by decide) (by decide)

set_option maxHeartbeats 4000000 in
set_option maxRecDepth 100000 in
theorem m_X11_addTown (l : Launch) (hl0 : l.stackTraces = false) (g : kG) (h0 : Nat) (a1 : Nat) (a2 : Nat) (a3 : Nat) (a4 : Nat) (a5 : Nat) (tt : Int32) (wf : Int32) (ww : Int32) (te : Int32) (tn : Int32) (mo : Int32) (x0 : Int32) (x1 : Int32) (x2 : Int32) (x3 : Int32)  : kc l g yX11_addTown prog_1_method_7_code 5 (some .int) 8 124 1 6 [.ref h0, .int x0, .int x1, .int x2, .int x3] [(h0, .inr (15, [.ref a1, .ref a2, .ref a3, .ref a4, .ref a5, .int tt, .int wf, .int ww, .int te, .int tn, .int mo])), (a1, .inr (3, [.int 0, .ref g.2.1, .int 0]))] (fun _ _ => False) (fun E w => (E = "java/lang/IndexOutOfBoundsException" ∧ w = [])) := by
  refine kbody (by decide) (Nat.le_of_ble_eq_true rfl) ?_
  intro p e s m args below meth c A H K ht G hP hD hA hS ls hl
  have K : KB p s m meth c RX11 "addTown" prog_1_method_7_code 5 (some .int) := K
  obtain ⟨hx, hb, hml, hown, hlocks, hr, hin⟩ := id K
  have hl : lv_has ls 5 [(0, .ref h0), (1, .int x0), (2, .int x1), (3, .int x2), (4, .int x3)] := hl
  refine lv_aload_n hx hb dX11_addTown_0 rfl (lv_at hl 0 rfl) ?_
  refine lv_iload_n hx hb dX11_addTown_1 rfl (lv_at hl 1 rfl) ?_
  refine kcallV (wc := [(h0, .inr (15, [.ref a1, .ref a2, .ref a3, .ref a4, .ref a5, .int tt, .int wf, .int ww, .int te, .int tn, .int mo])), (a1, .inr (3, [.int 0, .ref g.2.1, .int 0]))]) (wr := []) (As := [.int x0]) (rest := []) K G (m_X11_landAt l hl0 g h0 a1 a2 a3 a4 a5 tt wf ww te tn mo x0 ) hP hD hS hA hl kw_56 kw_57 kw_58 kw_59 kw_4 ydX11_landAt [0, 1] [] rfl rfl rfl rfl (by decide) (ci := 15) (q0 := 0) rfl rfl rfl rfl rfl (Nat.le_of_ble_eq_true rfl) dX11_addTown_2 ⟨Nat.le_of_ble_eq_true rfl, Nat.le_of_ble_eq_true rfl⟩ ⟨Nat.le_of_ble_eq_true rfl, Nat.le_of_ble_eq_true rfl⟩ (fun E w1 ce q9 H locs hX hP hD hS hce hcv hcl => ?_) (fun _ _ _ _ hQ _ _ _ => hQ.elim)
  obtain ⟨rfl, rfl⟩ := hX
  have hP : va_P g.1 vwCl [] H := hP
  have hD : va_D A [] := hD
  refine vx_widen (k := 1) (n := 6) (by decide) (by decide) ?_
  exact kthrow K ht hP hD hS hce hcv hcl [] [] rfl rfl (⟨rfl, rfl⟩) (by decide) (by decide)

set_option maxHeartbeats 4000000 in
set_option maxRecDepth 100000 in
theorem m_X11_addPerson (l : Launch) (hl0 : l.stackTraces = false) (g : kG) (h0 : Nat) (a1 : Nat) (a2 : Nat) (a3 : Nat) (a4 : Nat) (a5 : Nat) (tt : Int32) (wf : Int32) (ww : Int32) (te : Int32) (tn : Int32) (mo : Int32) (x0 : Int32) (x1 : Int32)  : kc l g yX11_addPerson prog_1_method_28_code 3 (some .int) 8 124 1 6 [.ref h0, .int x0, .int x1] [(h0, .inr (15, [.ref a1, .ref a2, .ref a3, .ref a4, .ref a5, .int tt, .int wf, .int ww, .int te, .int tn, .int mo])), (a1, .inr (3, [.int 0, .ref g.2.1, .int 0]))] (fun _ _ => False) (fun E w => (E = "java/lang/IndexOutOfBoundsException" ∧ w = [])) := by
  refine kbody (by decide) (Nat.le_of_ble_eq_true rfl) ?_
  intro p e s m args below meth c A H K ht G hP hD hA hS ls hl
  have K : KB p s m meth c RX11 "addPerson" prog_1_method_28_code 3 (some .int) := K
  obtain ⟨hx, hb, hml, hown, hlocks, hr, hin⟩ := id K
  have hl : lv_has ls 3 [(0, .ref h0), (1, .int x0), (2, .int x1)] := hl
  refine lv_aload_n hx hb dX11_addPerson_0 rfl (lv_at hl 0 rfl) ?_
  refine lv_iload_n hx hb dX11_addPerson_1 rfl (lv_at hl 1 rfl) ?_
  refine kcallV (wc := [(h0, .inr (15, [.ref a1, .ref a2, .ref a3, .ref a4, .ref a5, .int tt, .int wf, .int ww, .int te, .int tn, .int mo])), (a1, .inr (3, [.int 0, .ref g.2.1, .int 0]))]) (wr := []) (As := [.int x0]) (rest := []) K G (m_X11_landAt l hl0 g h0 a1 a2 a3 a4 a5 tt wf ww te tn mo x0 ) hP hD hS hA hl kw_56 kw_57 kw_58 kw_59 kw_4 ydX11_landAt [0, 1] [] rfl rfl rfl rfl (by decide) (ci := 15) (q0 := 0) rfl rfl rfl rfl rfl (Nat.le_of_ble_eq_true rfl) dX11_addPerson_2 ⟨Nat.le_of_ble_eq_true rfl, Nat.le_of_ble_eq_true rfl⟩ ⟨Nat.le_of_ble_eq_true rfl, Nat.le_of_ble_eq_true rfl⟩ (fun E w1 ce q9 H locs hX hP hD hS hce hcv hcl => ?_) (fun _ _ _ _ hQ _ _ _ => hQ.elim)
  obtain ⟨rfl, rfl⟩ := hX
  have hP : va_P g.1 vwCl [] H := hP
  have hD : va_D A [] := hD
  refine vx_widen (k := 1) (n := 6) (by decide) (by decide) ?_
  exact kthrow K ht hP hD hS hce hcv hcl [] [] rfl rfl (⟨rfl, rfl⟩) (by decide) (by decide)
end
section
set_option maxHeartbeats 4000000 in
set_option maxRecDepth 100000 in
theorem m_X11_load (l : Launch) (hl0 : l.stackTraces = false) (g : kG) (h0 : Nat) (a1 : Nat) (a2 : Nat) (a3 : Nat) (a4 : Nat) (a5 : Nat) (tt : Int32) (wf : Int32) (ww : Int32) (te : Int32) (tn : Int32) (mo : Int32) (x0 : Int32) (x1 : Int32) (x2 : Int32) (x3 : Int32)  : kc l g yX11_load prog_1_method_31_code 6 (some .int) 8 124 1 6 [.ref h0, .int x0, .int x1, .int x2, .int x3] [(h0, .inr (15, [.ref a1, .ref a2, .ref a3, .ref a4, .ref a5, .int tt, .int wf, .int ww, .int te, .int tn, .int mo])), (a1, .inr (3, [.int 0, .ref g.2.1, .int 0]))] (fun _ _ => False) (fun E w => (E = "java/lang/IndexOutOfBoundsException" ∧ w = [])) := by
  refine kbody (by decide) (Nat.le_of_ble_eq_true rfl) ?_
  intro p e s m args below meth c A H K ht G hP hD hA hS ls hl
  have K : KB p s m meth c RX11 "load" prog_1_method_31_code 6 (some .int) := K
  obtain ⟨hx, hb, hml, hown, hlocks, hr, hin⟩ := id K
  have hl : lv_has ls 6 [(0, .ref h0), (1, .int x0), (2, .int x1), (3, .int x2), (4, .int x3)] := hl
  refine lv_aload_n hx hb dX11_load_0 rfl (lv_at hl 0 rfl) ?_
  refine lv_iload_n hx hb dX11_load_1 rfl (lv_at hl 1 rfl) ?_
  refine kcallV (wc := [(h0, .inr (15, [.ref a1, .ref a2, .ref a3, .ref a4, .ref a5, .int tt, .int wf, .int ww, .int te, .int tn, .int mo])), (a1, .inr (3, [.int 0, .ref g.2.1, .int 0]))]) (wr := []) (As := [.int x0]) (rest := []) K G (m_X11_landAt l hl0 g h0 a1 a2 a3 a4 a5 tt wf ww te tn mo x0 ) hP hD hS hA hl kw_56 kw_57 kw_58 kw_59 kw_4 ydX11_landAt [0, 1] [] rfl rfl rfl rfl (by decide) (ci := 15) (q0 := 0) rfl rfl rfl rfl rfl (Nat.le_of_ble_eq_true rfl) dX11_load_2 ⟨Nat.le_of_ble_eq_true rfl, Nat.le_of_ble_eq_true rfl⟩ ⟨Nat.le_of_ble_eq_true rfl, Nat.le_of_ble_eq_true rfl⟩ (fun E w1 ce q9 H locs hX hP hD hS hce hcv hcl => ?_) (fun _ _ _ _ hQ _ _ _ => hQ.elim)
  obtain ⟨rfl, rfl⟩ := hX
  have hP : va_P g.1 vwCl [] H := hP
  have hD : va_D A [] := hD
  refine vx_widen (k := 1) (n := 6) (by decide) (by decide) ?_
  exact kthrow K ht hP hD hS hce hcv hcl [] [] rfl rfl (⟨rfl, rfl⟩) (by decide) (by decide)

set_option maxHeartbeats 4000000 in
set_option maxRecDepth 100000 in
theorem m_X11_book (l : Launch) (hl0 : l.stackTraces = false) (g : kG) (h0 : Nat) (a1 : Nat) (a2 : Nat) (a3 : Nat) (a4 : Nat) (a5 : Nat) (tt : Int32) (wf : Int32) (ww : Int32) (te : Int32) (tn : Int32) (mo : Int32) (x0 : Int32) (x1 : Int32) (x2 : Int32)  : kc l g yX11_book prog_1_method_32_code 5 (some .int) 8 124 1 6 [.ref h0, .int x0, .int x1, .int x2] [(h0, .inr (15, [.ref a1, .ref a2, .ref a3, .ref a4, .ref a5, .int tt, .int wf, .int ww, .int te, .int tn, .int mo])), (a1, .inr (3, [.int 0, .ref g.2.1, .int 0]))] (fun _ _ => False) (fun E w => (E = "java/lang/IndexOutOfBoundsException" ∧ w = [])) := by
  refine kbody (by decide) (Nat.le_of_ble_eq_true rfl) ?_
  intro p e s m args below meth c A H K ht G hP hD hA hS ls hl
  have K : KB p s m meth c RX11 "book" prog_1_method_32_code 5 (some .int) := K
  obtain ⟨hx, hb, hml, hown, hlocks, hr, hin⟩ := id K
  have hl : lv_has ls 5 [(0, .ref h0), (1, .int x0), (2, .int x1), (3, .int x2)] := hl
  refine lv_aload_n hx hb dX11_book_0 rfl (lv_at hl 0 rfl) ?_
  refine lv_iload_n hx hb dX11_book_1 rfl (lv_at hl 1 rfl) ?_
  refine kcallV (wc := [(h0, .inr (15, [.ref a1, .ref a2, .ref a3, .ref a4, .ref a5, .int tt, .int wf, .int ww, .int te, .int tn, .int mo])), (a1, .inr (3, [.int 0, .ref g.2.1, .int 0]))]) (wr := []) (As := [.int x0]) (rest := []) K G (m_X11_landAt l hl0 g h0 a1 a2 a3 a4 a5 tt wf ww te tn mo x0 ) hP hD hS hA hl kw_56 kw_57 kw_58 kw_59 kw_4 ydX11_landAt [0, 1] [] rfl rfl rfl rfl (by decide) (ci := 15) (q0 := 0) rfl rfl rfl rfl rfl (Nat.le_of_ble_eq_true rfl) dX11_book_2 ⟨Nat.le_of_ble_eq_true rfl, Nat.le_of_ble_eq_true rfl⟩ ⟨Nat.le_of_ble_eq_true rfl, Nat.le_of_ble_eq_true rfl⟩ (fun E w1 ce q9 H locs hX hP hD hS hce hcv hcl => ?_) (fun _ _ _ _ hQ _ _ _ => hQ.elim)
  obtain ⟨rfl, rfl⟩ := hX
  have hP : va_P g.1 vwCl [] H := hP
  have hD : va_D A [] := hD
  refine vx_widen (k := 1) (n := 6) (by decide) (by decide) ?_
  exact kthrow K ht hP hD hS hce hcv hcl [] [] rfl rfl (⟨rfl, rfl⟩) (by decide) (by decide)

set_option maxHeartbeats 4000000 in
set_option maxRecDepth 100000 in
theorem m_X11_send (l : Launch) (hl0 : l.stackTraces = false) (g : kG) (h0 : Nat) (a1 : Nat) (a2 : Nat) (a3 : Nat) (a4 : Nat) (a5 : Nat) (tt : Int32) (wf : Int32) (ww : Int32) (te : Int32) (tn : Int32) (mo : Int32) (x0 : Int32) (x1 : Int32) (x2 : Int32)  : kc l g yX11_send prog_1_method_33_code 6 (some .int) 8 124 1 6 [.ref h0, .int x0, .int x1, .int x2] [(h0, .inr (15, [.ref a1, .ref a2, .ref a3, .ref a4, .ref a5, .int tt, .int wf, .int ww, .int te, .int tn, .int mo])), (a1, .inr (3, [.int 0, .ref g.2.1, .int 0]))] (fun _ _ => False) (fun E w => (E = "java/lang/IndexOutOfBoundsException" ∧ w = [])) := by
  refine kbody (by decide) (Nat.le_of_ble_eq_true rfl) ?_
  intro p e s m args below meth c A H K ht G hP hD hA hS ls hl
  have K : KB p s m meth c RX11 "send" prog_1_method_33_code 6 (some .int) := K
  obtain ⟨hx, hb, hml, hown, hlocks, hr, hin⟩ := id K
  have hl : lv_has ls 6 [(0, .ref h0), (1, .int x0), (2, .int x1), (3, .int x2)] := hl
  refine lv_aload_n hx hb dX11_send_0 rfl (lv_at hl 0 rfl) ?_
  refine lv_iload_n hx hb dX11_send_1 rfl (lv_at hl 1 rfl) ?_
  refine kcallV (wc := [(h0, .inr (15, [.ref a1, .ref a2, .ref a3, .ref a4, .ref a5, .int tt, .int wf, .int ww, .int te, .int tn, .int mo])), (a1, .inr (3, [.int 0, .ref g.2.1, .int 0]))]) (wr := []) (As := [.int x0]) (rest := []) K G (m_X11_landAt l hl0 g h0 a1 a2 a3 a4 a5 tt wf ww te tn mo x0 ) hP hD hS hA hl kw_56 kw_57 kw_58 kw_59 kw_4 ydX11_landAt [0, 1] [] rfl rfl rfl rfl (by decide) (ci := 15) (q0 := 0) rfl rfl rfl rfl rfl (Nat.le_of_ble_eq_true rfl) dX11_send_2 ⟨Nat.le_of_ble_eq_true rfl, Nat.le_of_ble_eq_true rfl⟩ ⟨Nat.le_of_ble_eq_true rfl, Nat.le_of_ble_eq_true rfl⟩ (fun E w1 ce q9 H locs hX hP hD hS hce hcv hcl => ?_) (fun _ _ _ _ hQ _ _ _ => hQ.elim)
  obtain ⟨rfl, rfl⟩ := hX
  have hP : va_P g.1 vwCl [] H := hP
  have hD : va_D A [] := hD
  refine vx_widen (k := 1) (n := 6) (by decide) (by decide) ?_
  exact kthrow K ht hP hD hS hce hcv hcl [] [] rfl rfl (⟨rfl, rfl⟩) (by decide) (by decide)

set_option maxHeartbeats 4000000 in
set_option maxRecDepth 100000 in
theorem m_X11_getEvidence (l : Launch) (hl0 : l.stackTraces = false) (g : kG) (h0 : Nat) (a1 : Nat) (a2 : Nat) (a3 : Nat) (a4 : Nat) (a5 : Nat) (tt : Int32) (wf : Int32) (ww : Int32) (te : Int32) (tn : Int32) (mo : Int32) (x0 : Int32)  : kc l g yX11_getEvidence prog_1_method_41_code 2 (some .int) 8 124 1 6 [.ref h0, .int x0] [(h0, .inr (15, [.ref a1, .ref a2, .ref a3, .ref a4, .ref a5, .int tt, .int wf, .int ww, .int te, .int tn, .int mo])), (a1, .inr (3, [.int 0, .ref g.2.1, .int 0]))] (fun _ _ => False) (fun E w => (E = "java/lang/IndexOutOfBoundsException" ∧ w = [])) := by
  refine kbody (by decide) (Nat.le_of_ble_eq_true rfl) ?_
  intro p e s m args below meth c A H K ht G hP hD hA hS ls hl
  have K : KB p s m meth c RX11 "getEvidence" prog_1_method_41_code 2 (some .int) := K
  obtain ⟨hx, hb, hml, hown, hlocks, hr, hin⟩ := id K
  have hl : lv_has ls 2 [(0, .ref h0), (1, .int x0)] := hl
  refine lv_aload_n hx hb dX11_getEvidence_0 rfl (lv_at hl 0 rfl) ?_
  refine lv_iload_n hx hb dX11_getEvidence_1 rfl (lv_at hl 1 rfl) ?_
  refine kcallV (wc := [(h0, .inr (15, [.ref a1, .ref a2, .ref a3, .ref a4, .ref a5, .int tt, .int wf, .int ww, .int te, .int tn, .int mo])), (a1, .inr (3, [.int 0, .ref g.2.1, .int 0]))]) (wr := []) (As := [.int x0]) (rest := []) K G (m_X11_landAt l hl0 g h0 a1 a2 a3 a4 a5 tt wf ww te tn mo x0 ) hP hD hS hA hl kw_56 kw_57 kw_58 kw_59 kw_4 ydX11_landAt [0, 1] [] rfl rfl rfl rfl (by decide) (ci := 15) (q0 := 0) rfl rfl rfl rfl rfl (Nat.le_of_ble_eq_true rfl) dX11_getEvidence_2 ⟨Nat.le_of_ble_eq_true rfl, Nat.le_of_ble_eq_true rfl⟩ ⟨Nat.le_of_ble_eq_true rfl, Nat.le_of_ble_eq_true rfl⟩ (fun E w1 ce q9 H locs hX hP hD hS hce hcv hcl => ?_) (fun _ _ _ _ hQ _ _ _ => hQ.elim)
  obtain ⟨rfl, rfl⟩ := hX
  have hP : va_P g.1 vwCl [] H := hP
  have hD : va_D A [] := hD
  refine vx_widen (k := 1) (n := 6) (by decide) (by decide) ?_
  exact kthrow K ht hP hD hS hce hcv hcl [] [] rfl rfl (⟨rfl, rfl⟩) (by decide) (by decide)

set_option maxHeartbeats 4000000 in
set_option maxRecDepth 100000 in
theorem m_X11_raid (l : Launch) (hl0 : l.stackTraces = false) (g : kG) (h0 : Nat) (a1 : Nat) (a2 : Nat) (a3 : Nat) (a4 : Nat) (a5 : Nat) (tt : Int32) (wf : Int32) (ww : Int32) (te : Int32) (tn : Int32) (mo : Int32) (x0 : Int32) (x1 : Int32)  : kc l g yX11_raid prog_1_method_42_code 5 (some .int) 8 124 1 6 [.ref h0, .int x0, .int x1] [(h0, .inr (15, [.ref a1, .ref a2, .ref a3, .ref a4, .ref a5, .int tt, .int wf, .int ww, .int te, .int tn, .int mo])), (a1, .inr (3, [.int 0, .ref g.2.1, .int 0]))] (fun _ _ => False) (fun E w => (E = "java/lang/IndexOutOfBoundsException" ∧ w = [])) := by
  refine kbody (by decide) (Nat.le_of_ble_eq_true rfl) ?_
  intro p e s m args below meth c A H K ht G hP hD hA hS ls hl
  have K : KB p s m meth c RX11 "raid" prog_1_method_42_code 5 (some .int) := K
  obtain ⟨hx, hb, hml, hown, hlocks, hr, hin⟩ := id K
  have hl : lv_has ls 5 [(0, .ref h0), (1, .int x0), (2, .int x1)] := hl
  refine lv_aload_n hx hb dX11_raid_0 rfl (lv_at hl 0 rfl) ?_
  refine lv_iload_n hx hb dX11_raid_1 rfl (lv_at hl 1 rfl) ?_
  refine kcallV (wc := [(h0, .inr (15, [.ref a1, .ref a2, .ref a3, .ref a4, .ref a5, .int tt, .int wf, .int ww, .int te, .int tn, .int mo])), (a1, .inr (3, [.int 0, .ref g.2.1, .int 0]))]) (wr := []) (As := [.int x0]) (rest := []) K G (m_X11_landAt l hl0 g h0 a1 a2 a3 a4 a5 tt wf ww te tn mo x0 ) hP hD hS hA hl kw_56 kw_57 kw_58 kw_59 kw_4 ydX11_landAt [0, 1] [] rfl rfl rfl rfl (by decide) (ci := 15) (q0 := 0) rfl rfl rfl rfl rfl (Nat.le_of_ble_eq_true rfl) dX11_raid_2 ⟨Nat.le_of_ble_eq_true rfl, Nat.le_of_ble_eq_true rfl⟩ ⟨Nat.le_of_ble_eq_true rfl, Nat.le_of_ble_eq_true rfl⟩ (fun E w1 ce q9 H locs hX hP hD hS hce hcv hcl => ?_) (fun _ _ _ _ hQ _ _ _ => hQ.elim)
  obtain ⟨rfl, rfl⟩ := hX
  have hP : va_P g.1 vwCl [] H := hP
  have hD : va_D A [] := hD
  refine vx_widen (k := 1) (n := 6) (by decide) (by decide) ?_
  exact kthrow K ht hP hD hS hce hcv hcl [] [] rfl rfl (⟨rfl, rfl⟩) (by decide) (by decide)

set_option maxHeartbeats 4000000 in
set_option maxRecDepth 100000 in
theorem m_X11_getPlace (l : Launch) (hl0 : l.stackTraces = false) (g : kG) (h0 : Nat) (a1 : Nat) (a2 : Nat) (a3 : Nat) (a4 : Nat) (a5 : Nat) (tt : Int32) (wf : Int32) (ww : Int32) (te : Int32) (tn : Int32) (mo : Int32) (x0 : Int32) (x1 : Int32)  : kc l g yX11_getPlace prog_1_method_10_code 4 (some .int) 8 124 1 6 [.ref h0, .int x0, .int x1] [(h0, .inr (15, [.ref a1, .ref a2, .ref a3, .ref a4, .ref a5, .int tt, .int wf, .int ww, .int te, .int tn, .int mo])), (a3, .inr (3, [.int 0, .ref g.2.1, .int 0]))] (fun _ _ => False) (fun E w => (E = "java/lang/IndexOutOfBoundsException" ∧ w = [])) := by
  refine kbody (by decide) (Nat.le_of_ble_eq_true rfl) ?_
  intro p e s m args below meth c A H K ht G hP hD hA hS ls hl
  have K : KB p s m meth c RX11 "getPlace" prog_1_method_10_code 4 (some .int) := K
  obtain ⟨hx, hb, hml, hown, hlocks, hr, hin⟩ := id K
  have hl : lv_has ls 4 [(0, .ref h0), (1, .int x0), (2, .int x1)] := hl
  refine lv_aload_n hx hb dX11_getPlace_0 rfl (lv_at hl 0 rfl) ?_
  refine lv_iload_n hx hb dX11_getPlace_1 rfl (lv_at hl 1 rfl) ?_
  refine kcallV (wc := [(h0, .inr (15, [.ref a1, .ref a2, .ref a3, .ref a4, .ref a5, .int tt, .int wf, .int ww, .int te, .int tn, .int mo])), (a3, .inr (3, [.int 0, .ref g.2.1, .int 0]))]) (wr := []) (As := [.int x0]) (rest := []) K G (m_X11_shipAt l hl0 g h0 a1 a2 a3 a4 a5 tt wf ww te tn mo x0 ) hP hD hS hA hl kw_60 kw_61 kw_62 kw_63 kw_4 ydX11_shipAt [0, 1] [] rfl rfl rfl rfl (by decide) (ci := 15) (q0 := 0) rfl rfl rfl rfl rfl (Nat.le_of_ble_eq_true rfl) dX11_getPlace_2 ⟨Nat.le_of_ble_eq_true rfl, Nat.le_of_ble_eq_true rfl⟩ ⟨Nat.le_of_ble_eq_true rfl, Nat.le_of_ble_eq_true rfl⟩ (fun E w1 ce q9 H locs hX hP hD hS hce hcv hcl => ?_) (fun _ _ _ _ hQ _ _ _ => hQ.elim)
  obtain ⟨rfl, rfl⟩ := hX
  have hP : va_P g.1 vwCl [] H := hP
  have hD : va_D A [] := hD
  refine vx_widen (k := 1) (n := 6) (by decide) (by decide) ?_
  exact kthrow K ht hP hD hS hce hcv hcl [] [] rfl rfl (⟨rfl, rfl⟩) (by decide) (by decide)

set_option maxHeartbeats 4000000 in
set_option maxRecDepth 100000 in
theorem m_X11_getInside (l : Launch) (hl0 : l.stackTraces = false) (g : kG) (h0 : Nat) (a1 : Nat) (a2 : Nat) (a3 : Nat) (a4 : Nat) (a5 : Nat) (tt : Int32) (wf : Int32) (ww : Int32) (te : Int32) (tn : Int32) (mo : Int32) (x0 : Int32)  : kc l g yX11_getInside prog_1_method_11_code 2 (some .int) 8 124 1 6 [.ref h0, .int x0] [(h0, .inr (15, [.ref a1, .ref a2, .ref a3, .ref a4, .ref a5, .int tt, .int wf, .int ww, .int te, .int tn, .int mo])), (a3, .inr (3, [.int 0, .ref g.2.1, .int 0]))] (fun _ _ => False) (fun E w => (E = "java/lang/IndexOutOfBoundsException" ∧ w = [])) := by
  refine kbody (by decide) (Nat.le_of_ble_eq_true rfl) ?_
  intro p e s m args below meth c A H K ht G hP hD hA hS ls hl
  have K : KB p s m meth c RX11 "getInside" prog_1_method_11_code 2 (some .int) := K
  obtain ⟨hx, hb, hml, hown, hlocks, hr, hin⟩ := id K
  have hl : lv_has ls 2 [(0, .ref h0), (1, .int x0)] := hl
  refine lv_aload_n hx hb dX11_getInside_0 rfl (lv_at hl 0 rfl) ?_
  refine lv_aload_n hx hb dX11_getInside_1 rfl (lv_at hl 0 rfl) ?_
  refine lv_iload_n hx hb dX11_getInside_2 rfl (lv_at hl 1 rfl) ?_
  refine kcallV (wc := [(h0, .inr (15, [.ref a1, .ref a2, .ref a3, .ref a4, .ref a5, .int tt, .int wf, .int ww, .int te, .int tn, .int mo])), (a3, .inr (3, [.int 0, .ref g.2.1, .int 0]))]) (wr := []) (As := [.int x0]) (rest := [.ref h0]) K G (m_X11_shipAt l hl0 g h0 a1 a2 a3 a4 a5 tt wf ww te tn mo x0 ) hP hD hS hA hl kw_60 kw_61 kw_62 kw_63 kw_4 ydX11_shipAt [0, 1] [] rfl rfl rfl rfl (by decide) (ci := 15) (q0 := 0) rfl rfl rfl rfl rfl (Nat.le_of_ble_eq_true rfl) dX11_getInside_3 ⟨Nat.le_of_ble_eq_true rfl, Nat.le_of_ble_eq_true rfl⟩ ⟨Nat.le_of_ble_eq_true rfl, Nat.le_of_ble_eq_true rfl⟩ (fun E w1 ce q9 H locs hX hP hD hS hce hcv hcl => ?_) (fun _ _ _ _ hQ _ _ _ => hQ.elim)
  obtain ⟨rfl, rfl⟩ := hX
  have hP : va_P g.1 vwCl [] H := hP
  have hD : va_D A [] := hD
  refine vx_widen (k := 1) (n := 6) (by decide) (by decide) ?_
  exact kthrow K ht hP hD hS hce hcv hcl [] [] rfl rfl (⟨rfl, rfl⟩) (by decide) (by decide)

set_option maxHeartbeats 4000000 in
set_option maxRecDepth 100000 in
theorem m_X11_anchor (l : Launch) (hl0 : l.stackTraces = false) (g : kG) (h0 : Nat) (a1 : Nat) (a2 : Nat) (a3 : Nat) (a4 : Nat) (a5 : Nat) (tt : Int32) (wf : Int32) (ww : Int32) (te : Int32) (tn : Int32) (mo : Int32) (x0 : Int32) (x1 : Int32)  : kc l g yX11_anchor prog_1_method_12_code 5 (some .int) 8 124 1 6 [.ref h0, .int x0, .int x1] [(h0, .inr (15, [.ref a1, .ref a2, .ref a3, .ref a4, .ref a5, .int tt, .int wf, .int ww, .int te, .int tn, .int mo])), (a3, .inr (3, [.int 0, .ref g.2.1, .int 0]))] (fun _ _ => False) (fun E w => (E = "java/lang/IndexOutOfBoundsException" ∧ w = [])) := by
  refine kbody (by decide) (Nat.le_of_ble_eq_true rfl) ?_
  intro p e s m args below meth c A H K ht G hP hD hA hS ls hl
  have K : KB p s m meth c RX11 "anchor" prog_1_method_12_code 5 (some .int) := K
  obtain ⟨hx, hb, hml, hown, hlocks, hr, hin⟩ := id K
  have hl : lv_has ls 5 [(0, .ref h0), (1, .int x0), (2, .int x1)] := hl
  refine lv_aload_n hx hb dX11_anchor_0 rfl (lv_at hl 0 rfl) ?_
  refine lv_iload_n hx hb dX11_anchor_1 rfl (lv_at hl 1 rfl) ?_
  refine kcallV (wc := [(h0, .inr (15, [.ref a1, .ref a2, .ref a3, .ref a4, .ref a5, .int tt, .int wf, .int ww, .int te, .int tn, .int mo])), (a3, .inr (3, [.int 0, .ref g.2.1, .int 0]))]) (wr := []) (As := [.int x0]) (rest := []) K G (m_X11_shipAt l hl0 g h0 a1 a2 a3 a4 a5 tt wf ww te tn mo x0 ) hP hD hS hA hl kw_60 kw_61 kw_62 kw_63 kw_4 ydX11_shipAt [0, 1] [] rfl rfl rfl rfl (by decide) (ci := 15) (q0 := 0) rfl rfl rfl rfl rfl (Nat.le_of_ble_eq_true rfl) dX11_anchor_2 ⟨Nat.le_of_ble_eq_true rfl, Nat.le_of_ble_eq_true rfl⟩ ⟨Nat.le_of_ble_eq_true rfl, Nat.le_of_ble_eq_true rfl⟩ (fun E w1 ce q9 H locs hX hP hD hS hce hcv hcl => ?_) (fun _ _ _ _ hQ _ _ _ => hQ.elim)
  obtain ⟨rfl, rfl⟩ := hX
  have hP : va_P g.1 vwCl [] H := hP
  have hD : va_D A [] := hD
  refine vx_widen (k := 1) (n := 6) (by decide) (by decide) ?_
  exact kthrow K ht hP hD hS hce hcv hcl [] [] rfl rfl (⟨rfl, rfl⟩) (by decide) (by decide)

set_option maxHeartbeats 4000000 in
set_option maxRecDepth 100000 in
theorem m_X11_weigh (l : Launch) (hl0 : l.stackTraces = false) (g : kG) (h0 : Nat) (a1 : Nat) (a2 : Nat) (a3 : Nat) (a4 : Nat) (a5 : Nat) (tt : Int32) (wf : Int32) (ww : Int32) (te : Int32) (tn : Int32) (mo : Int32) (x0 : Int32)  : kc l g yX11_weigh prog_1_method_13_code 3 (some .int) 8 124 1 6 [.ref h0, .int x0] [(h0, .inr (15, [.ref a1, .ref a2, .ref a3, .ref a4, .ref a5, .int tt, .int wf, .int ww, .int te, .int tn, .int mo])), (a3, .inr (3, [.int 0, .ref g.2.1, .int 0]))] (fun _ _ => False) (fun E w => (E = "java/lang/IndexOutOfBoundsException" ∧ w = [])) := by
  refine kbody (by decide) (Nat.le_of_ble_eq_true rfl) ?_
  intro p e s m args below meth c A H K ht G hP hD hA hS ls hl
  have K : KB p s m meth c RX11 "weigh" prog_1_method_13_code 3 (some .int) := K
  obtain ⟨hx, hb, hml, hown, hlocks, hr, hin⟩ := id K
  have hl : lv_has ls 3 [(0, .ref h0), (1, .int x0)] := hl
  refine lv_aload_n hx hb dX11_weigh_0 rfl (lv_at hl 0 rfl) ?_
  refine lv_iload_n hx hb dX11_weigh_1 rfl (lv_at hl 1 rfl) ?_
  refine kcallV (wc := [(h0, .inr (15, [.ref a1, .ref a2, .ref a3, .ref a4, .ref a5, .int tt, .int wf, .int ww, .int te, .int tn, .int mo])), (a3, .inr (3, [.int 0, .ref g.2.1, .int 0]))]) (wr := []) (As := [.int x0]) (rest := []) K G (m_X11_shipAt l hl0 g h0 a1 a2 a3 a4 a5 tt wf ww te tn mo x0 ) hP hD hS hA hl kw_60 kw_61 kw_62 kw_63 kw_4 ydX11_shipAt [0, 1] [] rfl rfl rfl rfl (by decide) (ci := 15) (q0 := 0) rfl rfl rfl rfl rfl (Nat.le_of_ble_eq_true rfl) dX11_weigh_2 ⟨Nat.le_of_ble_eq_true rfl, Nat.le_of_ble_eq_true rfl⟩ ⟨Nat.le_of_ble_eq_true rfl, Nat.le_of_ble_eq_true rfl⟩ (fun E w1 ce q9 H locs hX hP hD hS hce hcv hcl => ?_) (fun _ _ _ _ hQ _ _ _ => hQ.elim)
  obtain ⟨rfl, rfl⟩ := hX
  have hP : va_P g.1 vwCl [] H := hP
  have hD : va_D A [] := hD
  refine vx_widen (k := 1) (n := 6) (by decide) (by decide) ?_
  exact kthrow K ht hP hD hS hce hcv hcl [] [] rfl rfl (⟨rfl, rfl⟩) (by decide) (by decide)

set_option maxHeartbeats 4000000 in
set_option maxRecDepth 100000 in
theorem m_X11_isAground (l : Launch) (hl0 : l.stackTraces = false) (g : kG) (h0 : Nat) (a1 : Nat) (a2 : Nat) (a3 : Nat) (a4 : Nat) (a5 : Nat) (tt : Int32) (wf : Int32) (ww : Int32) (te : Int32) (tn : Int32) (mo : Int32) (x0 : Int32)  : kc l g yX11_isAground prog_1_method_14_code 2 (some .boolean) 8 124 1 6 [.ref h0, .int x0] [(h0, .inr (15, [.ref a1, .ref a2, .ref a3, .ref a4, .ref a5, .int tt, .int wf, .int ww, .int te, .int tn, .int mo])), (a3, .inr (3, [.int 0, .ref g.2.1, .int 0]))] (fun _ _ => False) (fun E w => (E = "java/lang/IndexOutOfBoundsException" ∧ w = [])) := by
  refine kbody (by decide) (Nat.le_of_ble_eq_true rfl) ?_
  intro p e s m args below meth c A H K ht G hP hD hA hS ls hl
  have K : KB p s m meth c RX11 "isAground" prog_1_method_14_code 2 (some .boolean) := K
  obtain ⟨hx, hb, hml, hown, hlocks, hr, hin⟩ := id K
  have hl : lv_has ls 2 [(0, .ref h0), (1, .int x0)] := hl
  refine lv_aload_n hx hb dX11_isAground_0 rfl (lv_at hl 0 rfl) ?_
  refine lv_aload_n hx hb dX11_isAground_1 rfl (lv_at hl 0 rfl) ?_
  refine lv_iload_n hx hb dX11_isAground_2 rfl (lv_at hl 1 rfl) ?_
  refine kcallV (wc := [(h0, .inr (15, [.ref a1, .ref a2, .ref a3, .ref a4, .ref a5, .int tt, .int wf, .int ww, .int te, .int tn, .int mo])), (a3, .inr (3, [.int 0, .ref g.2.1, .int 0]))]) (wr := []) (As := [.int x0]) (rest := [.ref h0]) K G (m_X11_shipAt l hl0 g h0 a1 a2 a3 a4 a5 tt wf ww te tn mo x0 ) hP hD hS hA hl kw_60 kw_61 kw_62 kw_63 kw_4 ydX11_shipAt [0, 1] [] rfl rfl rfl rfl (by decide) (ci := 15) (q0 := 0) rfl rfl rfl rfl rfl (Nat.le_of_ble_eq_true rfl) dX11_isAground_3 ⟨Nat.le_of_ble_eq_true rfl, Nat.le_of_ble_eq_true rfl⟩ ⟨Nat.le_of_ble_eq_true rfl, Nat.le_of_ble_eq_true rfl⟩ (fun E w1 ce q9 H locs hX hP hD hS hce hcv hcl => ?_) (fun _ _ _ _ hQ _ _ _ => hQ.elim)
  obtain ⟨rfl, rfl⟩ := hX
  have hP : va_P g.1 vwCl [] H := hP
  have hD : va_D A [] := hD
  refine vx_widen (k := 1) (n := 6) (by decide) (by decide) ?_
  exact kthrow K ht hP hD hS hce hcv hcl [] [] rfl rfl (⟨rfl, rfl⟩) (by decide) (by decide)

set_option maxHeartbeats 4000000 in
set_option maxRecDepth 100000 in
theorem m_X11_pullOff (l : Launch) (hl0 : l.stackTraces = false) (g : kG) (h0 : Nat) (a1 : Nat) (a2 : Nat) (a3 : Nat) (a4 : Nat) (a5 : Nat) (tt : Int32) (wf : Int32) (ww : Int32) (te : Int32) (tn : Int32) (mo : Int32) (x0 : Int32)  : kc l g yX11_pullOff prog_1_method_15_code 3 (some .int) 8 124 1 6 [.ref h0, .int x0] [(h0, .inr (15, [.ref a1, .ref a2, .ref a3, .ref a4, .ref a5, .int tt, .int wf, .int ww, .int te, .int tn, .int mo])), (a3, .inr (3, [.int 0, .ref g.2.1, .int 0]))] (fun _ _ => False) (fun E w => (E = "java/lang/IndexOutOfBoundsException" ∧ w = [])) := by
  refine kbody (by decide) (Nat.le_of_ble_eq_true rfl) ?_
  intro p e s m args below meth c A H K ht G hP hD hA hS ls hl
  have K : KB p s m meth c RX11 "pullOff" prog_1_method_15_code 3 (some .int) := K
  obtain ⟨hx, hb, hml, hown, hlocks, hr, hin⟩ := id K
  have hl : lv_has ls 3 [(0, .ref h0), (1, .int x0)] := hl
  refine lv_aload_n hx hb dX11_pullOff_0 rfl (lv_at hl 0 rfl) ?_
  refine lv_iload_n hx hb dX11_pullOff_1 rfl (lv_at hl 1 rfl) ?_
  refine kcallV (wc := [(h0, .inr (15, [.ref a1, .ref a2, .ref a3, .ref a4, .ref a5, .int tt, .int wf, .int ww, .int te, .int tn, .int mo])), (a3, .inr (3, [.int 0, .ref g.2.1, .int 0]))]) (wr := []) (As := [.int x0]) (rest := []) K G (m_X11_shipAt l hl0 g h0 a1 a2 a3 a4 a5 tt wf ww te tn mo x0 ) hP hD hS hA hl kw_60 kw_61 kw_62 kw_63 kw_4 ydX11_shipAt [0, 1] [] rfl rfl rfl rfl (by decide) (ci := 15) (q0 := 0) rfl rfl rfl rfl rfl (Nat.le_of_ble_eq_true rfl) dX11_pullOff_2 ⟨Nat.le_of_ble_eq_true rfl, Nat.le_of_ble_eq_true rfl⟩ ⟨Nat.le_of_ble_eq_true rfl, Nat.le_of_ble_eq_true rfl⟩ (fun E w1 ce q9 H locs hX hP hD hS hce hcv hcl => ?_) (fun _ _ _ _ hQ _ _ _ => hQ.elim)
  obtain ⟨rfl, rfl⟩ := hX
  have hP : va_P g.1 vwCl [] H := hP
  have hD : va_D A [] := hD
  refine vx_widen (k := 1) (n := 6) (by decide) (by decide) ?_
  exact kthrow K ht hP hD hS hce hcv hcl [] [] rfl rfl (⟨rfl, rfl⟩) (by decide) (by decide)

set_option maxHeartbeats 4000000 in
set_option maxRecDepth 100000 in
theorem m_X11_addGenerator (l : Launch) (hl0 : l.stackTraces = false) (g : kG) (h0 : Nat) (a1 : Nat) (a2 : Nat) (a3 : Nat) (a4 : Nat) (a5 : Nat) (tt : Int32) (wf : Int32) (ww : Int32) (te : Int32) (tn : Int32) (mo : Int32) (x0 : Int32) (x1 : Int32) (x2 : Int32)  : kc l g yX11_addGenerator prog_1_method_16_code 5 (some .int) 8 124 1 6 [.ref h0, .int x0, .int x1, .int x2] [(h0, .inr (15, [.ref a1, .ref a2, .ref a3, .ref a4, .ref a5, .int tt, .int wf, .int ww, .int te, .int tn, .int mo])), (a3, .inr (3, [.int 0, .ref g.2.1, .int 0]))] (fun _ _ => False) (fun E w => (E = "java/lang/IndexOutOfBoundsException" ∧ w = [])) := by
  refine kbody (by decide) (Nat.le_of_ble_eq_true rfl) ?_
  intro p e s m args below meth c A H K ht G hP hD hA hS ls hl
  have K : KB p s m meth c RX11 "addGenerator" prog_1_method_16_code 5 (some .int) := K
  obtain ⟨hx, hb, hml, hown, hlocks, hr, hin⟩ := id K
  have hl : lv_has ls 5 [(0, .ref h0), (1, .int x0), (2, .int x1), (3, .int x2)] := hl
  refine lv_aload_n hx hb dX11_addGenerator_0 rfl (lv_at hl 0 rfl) ?_
  refine lv_iload_n hx hb dX11_addGenerator_1 rfl (lv_at hl 1 rfl) ?_
  refine kcallV (wc := [(h0, .inr (15, [.ref a1, .ref a2, .ref a3, .ref a4, .ref a5, .int tt, .int wf, .int ww, .int te, .int tn, .int mo])), (a3, .inr (3, [.int 0, .ref g.2.1, .int 0]))]) (wr := []) (As := [.int x0]) (rest := []) K G (m_X11_shipAt l hl0 g h0 a1 a2 a3 a4 a5 tt wf ww te tn mo x0 ) hP hD hS hA hl kw_60 kw_61 kw_62 kw_63 kw_4 ydX11_shipAt [0, 1] [] rfl rfl rfl rfl (by decide) (ci := 15) (q0 := 0) rfl rfl rfl rfl rfl (Nat.le_of_ble_eq_true rfl) dX11_addGenerator_2 ⟨Nat.le_of_ble_eq_true rfl, Nat.le_of_ble_eq_true rfl⟩ ⟨Nat.le_of_ble_eq_true rfl, Nat.le_of_ble_eq_true rfl⟩ (fun E w1 ce q9 H locs hX hP hD hS hce hcv hcl => ?_) (fun _ _ _ _ hQ _ _ _ => hQ.elim)
  obtain ⟨rfl, rfl⟩ := hX
  have hP : va_P g.1 vwCl [] H := hP
  have hD : va_D A [] := hD
  refine vx_widen (k := 1) (n := 6) (by decide) (by decide) ?_
  exact kthrow K ht hP hD hS hce hcv hcl [] [] rfl rfl (⟨rfl, rfl⟩) (by decide) (by decide)

set_option maxHeartbeats 4000000 in
set_option maxRecDepth 100000 in
theorem m_X11_setGenerator (l : Launch) (hl0 : l.stackTraces = false) (g : kG) (h0 : Nat) (a1 : Nat) (a2 : Nat) (a3 : Nat) (a4 : Nat) (a5 : Nat) (tt : Int32) (wf : Int32) (ww : Int32) (te : Int32) (tn : Int32) (mo : Int32) (x0 : Int32) (x1 : Int32) (x2 : Int32)  : kc l g yX11_setGenerator prog_1_method_17_code 6 (some .int) 8 124 1 6 [.ref h0, .int x0, .int x1, .int x2] [(h0, .inr (15, [.ref a1, .ref a2, .ref a3, .ref a4, .ref a5, .int tt, .int wf, .int ww, .int te, .int tn, .int mo])), (a3, .inr (3, [.int 0, .ref g.2.1, .int 0]))] (fun _ _ => False) (fun E w => (E = "java/lang/IndexOutOfBoundsException" ∧ w = [])) := by
  refine kbody (by decide) (Nat.le_of_ble_eq_true rfl) ?_
  intro p e s m args below meth c A H K ht G hP hD hA hS ls hl
  have K : KB p s m meth c RX11 "setGenerator" prog_1_method_17_code 6 (some .int) := K
  obtain ⟨hx, hb, hml, hown, hlocks, hr, hin⟩ := id K
  have hl : lv_has ls 6 [(0, .ref h0), (1, .int x0), (2, .int x1), (3, .int x2)] := hl
  refine lv_aload_n hx hb dX11_setGenerator_0 rfl (lv_at hl 0 rfl) ?_
  refine lv_iload_n hx hb dX11_setGenerator_1 rfl (lv_at hl 1 rfl) ?_
  refine kcallV (wc := [(h0, .inr (15, [.ref a1, .ref a2, .ref a3, .ref a4, .ref a5, .int tt, .int wf, .int ww, .int te, .int tn, .int mo])), (a3, .inr (3, [.int 0, .ref g.2.1, .int 0]))]) (wr := []) (As := [.int x0]) (rest := []) K G (m_X11_shipAt l hl0 g h0 a1 a2 a3 a4 a5 tt wf ww te tn mo x0 ) hP hD hS hA hl kw_60 kw_61 kw_62 kw_63 kw_4 ydX11_shipAt [0, 1] [] rfl rfl rfl rfl (by decide) (ci := 15) (q0 := 0) rfl rfl rfl rfl rfl (Nat.le_of_ble_eq_true rfl) dX11_setGenerator_2 ⟨Nat.le_of_ble_eq_true rfl, Nat.le_of_ble_eq_true rfl⟩ ⟨Nat.le_of_ble_eq_true rfl, Nat.le_of_ble_eq_true rfl⟩ (fun E w1 ce q9 H locs hX hP hD hS hce hcv hcl => ?_) (fun _ _ _ _ hQ _ _ _ => hQ.elim)
  obtain ⟨rfl, rfl⟩ := hX
  have hP : va_P g.1 vwCl [] H := hP
  have hD : va_D A [] := hD
  refine vx_widen (k := 1) (n := 6) (by decide) (by decide) ?_
  exact kthrow K ht hP hD hS hce hcv hcl [] [] rfl rfl (⟨rfl, rfl⟩) (by decide) (by decide)

set_option maxHeartbeats 4000000 in
set_option maxRecDepth 100000 in
theorem m_X11_getFuel (l : Launch) (hl0 : l.stackTraces = false) (g : kG) (h0 : Nat) (a1 : Nat) (a2 : Nat) (a3 : Nat) (a4 : Nat) (a5 : Nat) (tt : Int32) (wf : Int32) (ww : Int32) (te : Int32) (tn : Int32) (mo : Int32) (x0 : Int32)  : kc l g yX11_getFuel prog_1_method_18_code 2 (some .int) 8 124 1 6 [.ref h0, .int x0] [(h0, .inr (15, [.ref a1, .ref a2, .ref a3, .ref a4, .ref a5, .int tt, .int wf, .int ww, .int te, .int tn, .int mo])), (a3, .inr (3, [.int 0, .ref g.2.1, .int 0]))] (fun _ _ => False) (fun E w => (E = "java/lang/IndexOutOfBoundsException" ∧ w = [])) := by
  refine kbody (by decide) (Nat.le_of_ble_eq_true rfl) ?_
  intro p e s m args below meth c A H K ht G hP hD hA hS ls hl
  have K : KB p s m meth c RX11 "getFuel" prog_1_method_18_code 2 (some .int) := K
  obtain ⟨hx, hb, hml, hown, hlocks, hr, hin⟩ := id K
  have hl : lv_has ls 2 [(0, .ref h0), (1, .int x0)] := hl
  refine lv_aload_n hx hb dX11_getFuel_0 rfl (lv_at hl 0 rfl) ?_
  refine lv_iload_n hx hb dX11_getFuel_1 rfl (lv_at hl 1 rfl) ?_
  refine kcallV (wc := [(h0, .inr (15, [.ref a1, .ref a2, .ref a3, .ref a4, .ref a5, .int tt, .int wf, .int ww, .int te, .int tn, .int mo])), (a3, .inr (3, [.int 0, .ref g.2.1, .int 0]))]) (wr := []) (As := [.int x0]) (rest := []) K G (m_X11_shipAt l hl0 g h0 a1 a2 a3 a4 a5 tt wf ww te tn mo x0 ) hP hD hS hA hl kw_60 kw_61 kw_62 kw_63 kw_4 ydX11_shipAt [0, 1] [] rfl rfl rfl rfl (by decide) (ci := 15) (q0 := 0) rfl rfl rfl rfl rfl (Nat.le_of_ble_eq_true rfl) dX11_getFuel_2 ⟨Nat.le_of_ble_eq_true rfl, Nat.le_of_ble_eq_true rfl⟩ ⟨Nat.le_of_ble_eq_true rfl, Nat.le_of_ble_eq_true rfl⟩ (fun E w1 ce q9 H locs hX hP hD hS hce hcv hcl => ?_) (fun _ _ _ _ hQ _ _ _ => hQ.elim)
  obtain ⟨rfl, rfl⟩ := hX
  have hP : va_P g.1 vwCl [] H := hP
  have hD : va_D A [] := hD
  refine vx_widen (k := 1) (n := 6) (by decide) (by decide) ?_
  exact kthrow K ht hP hD hS hce hcv hcl [] [] rfl rfl (⟨rfl, rfl⟩) (by decide) (by decide)

set_option maxHeartbeats 4000000 in
set_option maxRecDepth 100000 in
theorem m_X11_getFood (l : Launch) (hl0 : l.stackTraces = false) (g : kG) (h0 : Nat) (a1 : Nat) (a2 : Nat) (a3 : Nat) (a4 : Nat) (a5 : Nat) (tt : Int32) (wf : Int32) (ww : Int32) (te : Int32) (tn : Int32) (mo : Int32) (x0 : Int32)  : kc l g yX11_getFood prog_1_method_19_code 2 (some .int) 8 124 1 6 [.ref h0, .int x0] [(h0, .inr (15, [.ref a1, .ref a2, .ref a3, .ref a4, .ref a5, .int tt, .int wf, .int ww, .int te, .int tn, .int mo])), (a3, .inr (3, [.int 0, .ref g.2.1, .int 0]))] (fun _ _ => False) (fun E w => (E = "java/lang/IndexOutOfBoundsException" ∧ w = [])) := by
  refine kbody (by decide) (Nat.le_of_ble_eq_true rfl) ?_
  intro p e s m args below meth c A H K ht G hP hD hA hS ls hl
  have K : KB p s m meth c RX11 "getFood" prog_1_method_19_code 2 (some .int) := K
  obtain ⟨hx, hb, hml, hown, hlocks, hr, hin⟩ := id K
  have hl : lv_has ls 2 [(0, .ref h0), (1, .int x0)] := hl
  refine lv_aload_n hx hb dX11_getFood_0 rfl (lv_at hl 0 rfl) ?_
  refine lv_iload_n hx hb dX11_getFood_1 rfl (lv_at hl 1 rfl) ?_
  refine kcallV (wc := [(h0, .inr (15, [.ref a1, .ref a2, .ref a3, .ref a4, .ref a5, .int tt, .int wf, .int ww, .int te, .int tn, .int mo])), (a3, .inr (3, [.int 0, .ref g.2.1, .int 0]))]) (wr := []) (As := [.int x0]) (rest := []) K G (m_X11_shipAt l hl0 g h0 a1 a2 a3 a4 a5 tt wf ww te tn mo x0 ) hP hD hS hA hl kw_60 kw_61 kw_62 kw_63 kw_4 ydX11_shipAt [0, 1] [] rfl rfl rfl rfl (by decide) (ci := 15) (q0 := 0) rfl rfl rfl rfl rfl (Nat.le_of_ble_eq_true rfl) dX11_getFood_2 ⟨Nat.le_of_ble_eq_true rfl, Nat.le_of_ble_eq_true rfl⟩ ⟨Nat.le_of_ble_eq_true rfl, Nat.le_of_ble_eq_true rfl⟩ (fun E w1 ce q9 H locs hX hP hD hS hce hcv hcl => ?_) (fun _ _ _ _ hQ _ _ _ => hQ.elim)
  obtain ⟨rfl, rfl⟩ := hX
  have hP : va_P g.1 vwCl [] H := hP
  have hD : va_D A [] := hD
  refine vx_widen (k := 1) (n := 6) (by decide) (by decide) ?_
  exact kthrow K ht hP hD hS hce hcv hcl [] [] rfl rfl (⟨rfl, rfl⟩) (by decide) (by decide)

set_option maxHeartbeats 4000000 in
set_option maxRecDepth 100000 in
theorem m_X11_getSalt (l : Launch) (hl0 : l.stackTraces = false) (g : kG) (h0 : Nat) (a1 : Nat) (a2 : Nat) (a3 : Nat) (a4 : Nat) (a5 : Nat) (tt : Int32) (wf : Int32) (ww : Int32) (te : Int32) (tn : Int32) (mo : Int32) (x0 : Int32)  : kc l g yX11_getSalt prog_1_method_20_code 2 (some .int) 8 124 1 6 [.ref h0, .int x0] [(h0, .inr (15, [.ref a1, .ref a2, .ref a3, .ref a4, .ref a5, .int tt, .int wf, .int ww, .int te, .int tn, .int mo])), (a3, .inr (3, [.int 0, .ref g.2.1, .int 0]))] (fun _ _ => False) (fun E w => (E = "java/lang/IndexOutOfBoundsException" ∧ w = [])) := by
  refine kbody (by decide) (Nat.le_of_ble_eq_true rfl) ?_
  intro p e s m args below meth c A H K ht G hP hD hA hS ls hl
  have K : KB p s m meth c RX11 "getSalt" prog_1_method_20_code 2 (some .int) := K
  obtain ⟨hx, hb, hml, hown, hlocks, hr, hin⟩ := id K
  have hl : lv_has ls 2 [(0, .ref h0), (1, .int x0)] := hl
  refine lv_aload_n hx hb dX11_getSalt_0 rfl (lv_at hl 0 rfl) ?_
  refine lv_iload_n hx hb dX11_getSalt_1 rfl (lv_at hl 1 rfl) ?_
  refine kcallV (wc := [(h0, .inr (15, [.ref a1, .ref a2, .ref a3, .ref a4, .ref a5, .int tt, .int wf, .int ww, .int te, .int tn, .int mo])), (a3, .inr (3, [.int 0, .ref g.2.1, .int 0]))]) (wr := []) (As := [.int x0]) (rest := []) K G (m_X11_shipAt l hl0 g h0 a1 a2 a3 a4 a5 tt wf ww te tn mo x0 ) hP hD hS hA hl kw_60 kw_61 kw_62 kw_63 kw_4 ydX11_shipAt [0, 1] [] rfl rfl rfl rfl (by decide) (ci := 15) (q0 := 0) rfl rfl rfl rfl rfl (Nat.le_of_ble_eq_true rfl) dX11_getSalt_2 ⟨Nat.le_of_ble_eq_true rfl, Nat.le_of_ble_eq_true rfl⟩ ⟨Nat.le_of_ble_eq_true rfl, Nat.le_of_ble_eq_true rfl⟩ (fun E w1 ce q9 H locs hX hP hD hS hce hcv hcl => ?_) (fun _ _ _ _ hQ _ _ _ => hQ.elim)
  obtain ⟨rfl, rfl⟩ := hX
  have hP : va_P g.1 vwCl [] H := hP
  have hD : va_D A [] := hD
  refine vx_widen (k := 1) (n := 6) (by decide) (by decide) ?_
  exact kthrow K ht hP hD hS hce hcv hcl [] [] rfl rfl (⟨rfl, rfl⟩) (by decide) (by decide)

set_option maxHeartbeats 4000000 in
set_option maxRecDepth 100000 in
theorem m_X11_wash (l : Launch) (hl0 : l.stackTraces = false) (g : kG) (h0 : Nat) (a1 : Nat) (a2 : Nat) (a3 : Nat) (a4 : Nat) (a5 : Nat) (tt : Int32) (wf : Int32) (ww : Int32) (te : Int32) (tn : Int32) (mo : Int32) (x0 : Int32)  : kc l g yX11_wash prog_1_method_21_code 4 (some .int) 8 124 1 6 [.ref h0, .int x0] [(h0, .inr (15, [.ref a1, .ref a2, .ref a3, .ref a4, .ref a5, .int tt, .int wf, .int ww, .int te, .int tn, .int mo])), (a3, .inr (3, [.int 0, .ref g.2.1, .int 0]))] (fun _ _ => False) (fun E w => (E = "java/lang/IndexOutOfBoundsException" ∧ w = [])) := by
  refine kbody (by decide) (Nat.le_of_ble_eq_true rfl) ?_
  intro p e s m args below meth c A H K ht G hP hD hA hS ls hl
  have K : KB p s m meth c RX11 "wash" prog_1_method_21_code 4 (some .int) := K
  obtain ⟨hx, hb, hml, hown, hlocks, hr, hin⟩ := id K
  have hl : lv_has ls 4 [(0, .ref h0), (1, .int x0)] := hl
  refine lv_aload_n hx hb dX11_wash_0 rfl (lv_at hl 0 rfl) ?_
  refine lv_iload_n hx hb dX11_wash_1 rfl (lv_at hl 1 rfl) ?_
  refine kcallV (wc := [(h0, .inr (15, [.ref a1, .ref a2, .ref a3, .ref a4, .ref a5, .int tt, .int wf, .int ww, .int te, .int tn, .int mo])), (a3, .inr (3, [.int 0, .ref g.2.1, .int 0]))]) (wr := []) (As := [.int x0]) (rest := []) K G (m_X11_shipAt l hl0 g h0 a1 a2 a3 a4 a5 tt wf ww te tn mo x0 ) hP hD hS hA hl kw_60 kw_61 kw_62 kw_63 kw_4 ydX11_shipAt [0, 1] [] rfl rfl rfl rfl (by decide) (ci := 15) (q0 := 0) rfl rfl rfl rfl rfl (Nat.le_of_ble_eq_true rfl) dX11_wash_2 ⟨Nat.le_of_ble_eq_true rfl, Nat.le_of_ble_eq_true rfl⟩ ⟨Nat.le_of_ble_eq_true rfl, Nat.le_of_ble_eq_true rfl⟩ (fun E w1 ce q9 H locs hX hP hD hS hce hcv hcl => ?_) (fun _ _ _ _ hQ _ _ _ => hQ.elim)
  obtain ⟨rfl, rfl⟩ := hX
  have hP : va_P g.1 vwCl [] H := hP
  have hD : va_D A [] := hD
  refine vx_widen (k := 1) (n := 6) (by decide) (by decide) ?_
  exact kthrow K ht hP hD hS hce hcv hcl [] [] rfl rfl (⟨rfl, rfl⟩) (by decide) (by decide)

set_option maxHeartbeats 4000000 in
set_option maxRecDepth 100000 in
theorem m_X11_setPower (l : Launch) (hl0 : l.stackTraces = false) (g : kG) (h0 : Nat) (a1 : Nat) (a2 : Nat) (a3 : Nat) (a4 : Nat) (a5 : Nat) (tt : Int32) (wf : Int32) (ww : Int32) (te : Int32) (tn : Int32) (mo : Int32) (x0 : Int32) (x1 : Int32)  : kc l g yX11_setPower prog_1_method_22_code 5 (some .int) 8 124 1 6 [.ref h0, .int x0, .int x1] [(h0, .inr (15, [.ref a1, .ref a2, .ref a3, .ref a4, .ref a5, .int tt, .int wf, .int ww, .int te, .int tn, .int mo])), (a3, .inr (3, [.int 0, .ref g.2.1, .int 0]))] (fun _ _ => False) (fun E w => (E = "java/lang/IndexOutOfBoundsException" ∧ w = [])) := by
  refine kbody (by decide) (Nat.le_of_ble_eq_true rfl) ?_
  intro p e s m args below meth c A H K ht G hP hD hA hS ls hl
  have K : KB p s m meth c RX11 "setPower" prog_1_method_22_code 5 (some .int) := K
  obtain ⟨hx, hb, hml, hown, hlocks, hr, hin⟩ := id K
  have hl : lv_has ls 5 [(0, .ref h0), (1, .int x0), (2, .int x1)] := hl
  refine lv_aload_n hx hb dX11_setPower_0 rfl (lv_at hl 0 rfl) ?_
  refine lv_iload_n hx hb dX11_setPower_1 rfl (lv_at hl 1 rfl) ?_
  refine kcallV (wc := [(h0, .inr (15, [.ref a1, .ref a2, .ref a3, .ref a4, .ref a5, .int tt, .int wf, .int ww, .int te, .int tn, .int mo])), (a3, .inr (3, [.int 0, .ref g.2.1, .int 0]))]) (wr := []) (As := [.int x0]) (rest := []) K G (m_X11_shipAt l hl0 g h0 a1 a2 a3 a4 a5 tt wf ww te tn mo x0 ) hP hD hS hA hl kw_60 kw_61 kw_62 kw_63 kw_4 ydX11_shipAt [0, 1] [] rfl rfl rfl rfl (by decide) (ci := 15) (q0 := 0) rfl rfl rfl rfl rfl (Nat.le_of_ble_eq_true rfl) dX11_setPower_2 ⟨Nat.le_of_ble_eq_true rfl, Nat.le_of_ble_eq_true rfl⟩ ⟨Nat.le_of_ble_eq_true rfl, Nat.le_of_ble_eq_true rfl⟩ (fun E w1 ce q9 H locs hX hP hD hS hce hcv hcl => ?_) (fun _ _ _ _ hQ _ _ _ => hQ.elim)
  obtain ⟨rfl, rfl⟩ := hX
  have hP : va_P g.1 vwCl [] H := hP
  have hD : va_D A [] := hD
  refine vx_widen (k := 1) (n := 6) (by decide) (by decide) ?_
  exact kthrow K ht hP hD hS hce hcv hcl [] [] rfl rfl (⟨rfl, rfl⟩) (by decide) (by decide)

set_option maxHeartbeats 4000000 in
set_option maxRecDepth 100000 in
theorem m_X11_getChannel (l : Launch) (hl0 : l.stackTraces = false) (g : kG) (h0 : Nat) (a1 : Nat) (a2 : Nat) (a3 : Nat) (a4 : Nat) (a5 : Nat) (tt : Int32) (wf : Int32) (ww : Int32) (te : Int32) (tn : Int32) (mo : Int32) (x0 : Int32)  : kc l g yX11_getChannel prog_1_method_23_code 2 (some .int) 8 124 1 6 [.ref h0, .int x0] [(h0, .inr (15, [.ref a1, .ref a2, .ref a3, .ref a4, .ref a5, .int tt, .int wf, .int ww, .int te, .int tn, .int mo])), (a3, .inr (3, [.int 0, .ref g.2.1, .int 0]))] (fun _ _ => False) (fun E w => (E = "java/lang/IndexOutOfBoundsException" ∧ w = [])) := by
  refine kbody (by decide) (Nat.le_of_ble_eq_true rfl) ?_
  intro p e s m args below meth c A H K ht G hP hD hA hS ls hl
  have K : KB p s m meth c RX11 "getChannel" prog_1_method_23_code 2 (some .int) := K
  obtain ⟨hx, hb, hml, hown, hlocks, hr, hin⟩ := id K
  have hl : lv_has ls 2 [(0, .ref h0), (1, .int x0)] := hl
  refine lv_aload_n hx hb dX11_getChannel_0 rfl (lv_at hl 0 rfl) ?_
  refine lv_iload_n hx hb dX11_getChannel_1 rfl (lv_at hl 1 rfl) ?_
  refine kcallV (wc := [(h0, .inr (15, [.ref a1, .ref a2, .ref a3, .ref a4, .ref a5, .int tt, .int wf, .int ww, .int te, .int tn, .int mo])), (a3, .inr (3, [.int 0, .ref g.2.1, .int 0]))]) (wr := []) (As := [.int x0]) (rest := []) K G (m_X11_shipAt l hl0 g h0 a1 a2 a3 a4 a5 tt wf ww te tn mo x0 ) hP hD hS hA hl kw_60 kw_61 kw_62 kw_63 kw_4 ydX11_shipAt [0, 1] [] rfl rfl rfl rfl (by decide) (ci := 15) (q0 := 0) rfl rfl rfl rfl rfl (Nat.le_of_ble_eq_true rfl) dX11_getChannel_2 ⟨Nat.le_of_ble_eq_true rfl, Nat.le_of_ble_eq_true rfl⟩ ⟨Nat.le_of_ble_eq_true rfl, Nat.le_of_ble_eq_true rfl⟩ (fun E w1 ce q9 H locs hX hP hD hS hce hcv hcl => ?_) (fun _ _ _ _ hQ _ _ _ => hQ.elim)
  obtain ⟨rfl, rfl⟩ := hX
  have hP : va_P g.1 vwCl [] H := hP
  have hD : va_D A [] := hD
  refine vx_widen (k := 1) (n := 6) (by decide) (by decide) ?_
  exact kthrow K ht hP hD hS hce hcv hcl [] [] rfl rfl (⟨rfl, rfl⟩) (by decide) (by decide)

set_option maxHeartbeats 4000000 in
set_option maxRecDepth 100000 in
theorem m_X11_isOnAir (l : Launch) (hl0 : l.stackTraces = false) (g : kG) (h0 : Nat) (a1 : Nat) (a2 : Nat) (a3 : Nat) (a4 : Nat) (a5 : Nat) (tt : Int32) (wf : Int32) (ww : Int32) (te : Int32) (tn : Int32) (mo : Int32) (x0 : Int32)  : kc l g yX11_isOnAir prog_1_method_24_code 2 (some .boolean) 8 124 1 6 [.ref h0, .int x0] [(h0, .inr (15, [.ref a1, .ref a2, .ref a3, .ref a4, .ref a5, .int tt, .int wf, .int ww, .int te, .int tn, .int mo])), (a3, .inr (3, [.int 0, .ref g.2.1, .int 0]))] (fun _ _ => False) (fun E w => (E = "java/lang/IndexOutOfBoundsException" ∧ w = [])) := by
  refine kbody (by decide) (Nat.le_of_ble_eq_true rfl) ?_
  intro p e s m args below meth c A H K ht G hP hD hA hS ls hl
  have K : KB p s m meth c RX11 "isOnAir" prog_1_method_24_code 2 (some .boolean) := K
  obtain ⟨hx, hb, hml, hown, hlocks, hr, hin⟩ := id K
  have hl : lv_has ls 2 [(0, .ref h0), (1, .int x0)] := hl
  refine lv_aload_n hx hb dX11_isOnAir_0 rfl (lv_at hl 0 rfl) ?_
  refine lv_iload_n hx hb dX11_isOnAir_1 rfl (lv_at hl 1 rfl) ?_
  refine kcallV (wc := [(h0, .inr (15, [.ref a1, .ref a2, .ref a3, .ref a4, .ref a5, .int tt, .int wf, .int ww, .int te, .int tn, .int mo])), (a3, .inr (3, [.int 0, .ref g.2.1, .int 0]))]) (wr := []) (As := [.int x0]) (rest := []) K G (m_X11_shipAt l hl0 g h0 a1 a2 a3 a4 a5 tt wf ww te tn mo x0 ) hP hD hS hA hl kw_60 kw_61 kw_62 kw_63 kw_4 ydX11_shipAt [0, 1] [] rfl rfl rfl rfl (by decide) (ci := 15) (q0 := 0) rfl rfl rfl rfl rfl (Nat.le_of_ble_eq_true rfl) dX11_isOnAir_2 ⟨Nat.le_of_ble_eq_true rfl, Nat.le_of_ble_eq_true rfl⟩ ⟨Nat.le_of_ble_eq_true rfl, Nat.le_of_ble_eq_true rfl⟩ (fun E w1 ce q9 H locs hX hP hD hS hce hcv hcl => ?_) (fun _ _ _ _ hQ _ _ _ => hQ.elim)
  obtain ⟨rfl, rfl⟩ := hX
  have hP : va_P g.1 vwCl [] H := hP
  have hD : va_D A [] := hD
  refine vx_widen (k := 1) (n := 6) (by decide) (by decide) ?_
  exact kthrow K ht hP hD hS hce hcv hcl [] [] rfl rfl (⟨rfl, rfl⟩) (by decide) (by decide)

set_option maxHeartbeats 4000000 in
set_option maxRecDepth 100000 in
theorem m_X11_getSignal (l : Launch) (hl0 : l.stackTraces = false) (g : kG) (h0 : Nat) (a1 : Nat) (a2 : Nat) (a3 : Nat) (a4 : Nat) (a5 : Nat) (tt : Int32) (wf : Int32) (ww : Int32) (te : Int32) (tn : Int32) (mo : Int32) (x0 : Int32) (x1 : Int32)  : kc l g yX11_getSignal prog_1_method_25_code 4 (some .int) 8 124 1 6 [.ref h0, .int x0, .int x1] [(h0, .inr (15, [.ref a1, .ref a2, .ref a3, .ref a4, .ref a5, .int tt, .int wf, .int ww, .int te, .int tn, .int mo])), (a3, .inr (3, [.int 0, .ref g.2.1, .int 0]))] (fun _ _ => False) (fun E w => (E = "java/lang/IndexOutOfBoundsException" ∧ w = [])) := by
  refine kbody (by decide) (Nat.le_of_ble_eq_true rfl) ?_
  intro p e s m args below meth c A H K ht G hP hD hA hS ls hl
  have K : KB p s m meth c RX11 "getSignal" prog_1_method_25_code 4 (some .int) := K
  obtain ⟨hx, hb, hml, hown, hlocks, hr, hin⟩ := id K
  have hl : lv_has ls 4 [(0, .ref h0), (1, .int x0), (2, .int x1)] := hl
  refine lv_aload_n hx hb dX11_getSignal_0 rfl (lv_at hl 0 rfl) ?_
  refine lv_iload_n hx hb dX11_getSignal_1 rfl (lv_at hl 1 rfl) ?_
  refine kcallV (wc := [(h0, .inr (15, [.ref a1, .ref a2, .ref a3, .ref a4, .ref a5, .int tt, .int wf, .int ww, .int te, .int tn, .int mo])), (a3, .inr (3, [.int 0, .ref g.2.1, .int 0]))]) (wr := []) (As := [.int x0]) (rest := []) K G (m_X11_shipAt l hl0 g h0 a1 a2 a3 a4 a5 tt wf ww te tn mo x0 ) hP hD hS hA hl kw_60 kw_61 kw_62 kw_63 kw_4 ydX11_shipAt [0, 1] [] rfl rfl rfl rfl (by decide) (ci := 15) (q0 := 0) rfl rfl rfl rfl rfl (Nat.le_of_ble_eq_true rfl) dX11_getSignal_2 ⟨Nat.le_of_ble_eq_true rfl, Nat.le_of_ble_eq_true rfl⟩ ⟨Nat.le_of_ble_eq_true rfl, Nat.le_of_ble_eq_true rfl⟩ (fun E w1 ce q9 H locs hX hP hD hS hce hcv hcl => ?_) (fun _ _ _ _ hQ _ _ _ => hQ.elim)
  obtain ⟨rfl, rfl⟩ := hX
  have hP : va_P g.1 vwCl [] H := hP
  have hD : va_D A [] := hD
  refine vx_widen (k := 1) (n := 6) (by decide) (by decide) ?_
  exact kthrow K ht hP hD hS hce hcv hcl [] [] rfl rfl (⟨rfl, rfl⟩) (by decide) (by decide)

set_option maxHeartbeats 4000000 in
set_option maxRecDepth 100000 in
theorem m_X11_getListeners (l : Launch) (hl0 : l.stackTraces = false) (g : kG) (h0 : Nat) (a1 : Nat) (a2 : Nat) (a3 : Nat) (a4 : Nat) (a5 : Nat) (tt : Int32) (wf : Int32) (ww : Int32) (te : Int32) (tn : Int32) (mo : Int32) (x0 : Int32)  : kc l g yX11_getListeners prog_1_method_27_code 2 (some .int) 8 124 1 6 [.ref h0, .int x0] [(h0, .inr (15, [.ref a1, .ref a2, .ref a3, .ref a4, .ref a5, .int tt, .int wf, .int ww, .int te, .int tn, .int mo])), (a3, .inr (3, [.int 0, .ref g.2.1, .int 0]))] (fun _ _ => False) (fun E w => (E = "java/lang/IndexOutOfBoundsException" ∧ w = [])) := by
  refine kbody (by decide) (Nat.le_of_ble_eq_true rfl) ?_
  intro p e s m args below meth c A H K ht G hP hD hA hS ls hl
  have K : KB p s m meth c RX11 "getListeners" prog_1_method_27_code 2 (some .int) := K
  obtain ⟨hx, hb, hml, hown, hlocks, hr, hin⟩ := id K
  have hl : lv_has ls 2 [(0, .ref h0), (1, .int x0)] := hl
  refine lv_aload_n hx hb dX11_getListeners_0 rfl (lv_at hl 0 rfl) ?_
  refine lv_iload_n hx hb dX11_getListeners_1 rfl (lv_at hl 1 rfl) ?_
  refine kcallV (wc := [(h0, .inr (15, [.ref a1, .ref a2, .ref a3, .ref a4, .ref a5, .int tt, .int wf, .int ww, .int te, .int tn, .int mo])), (a3, .inr (3, [.int 0, .ref g.2.1, .int 0]))]) (wr := []) (As := [.int x0]) (rest := []) K G (m_X11_shipAt l hl0 g h0 a1 a2 a3 a4 a5 tt wf ww te tn mo x0 ) hP hD hS hA hl kw_60 kw_61 kw_62 kw_63 kw_4 ydX11_shipAt [0, 1] [] rfl rfl rfl rfl (by decide) (ci := 15) (q0 := 0) rfl rfl rfl rfl rfl (Nat.le_of_ble_eq_true rfl) dX11_getListeners_2 ⟨Nat.le_of_ble_eq_true rfl, Nat.le_of_ble_eq_true rfl⟩ ⟨Nat.le_of_ble_eq_true rfl, Nat.le_of_ble_eq_true rfl⟩ (fun E w1 ce q9 H locs hX hP hD hS hce hcv hcl => ?_) (fun _ _ _ _ hQ _ _ _ => hQ.elim)
  obtain ⟨rfl, rfl⟩ := hX
  have hP : va_P g.1 vwCl [] H := hP
  have hD : va_D A [] := hD
  refine vx_widen (k := 1) (n := 6) (by decide) (by decide) ?_
  exact kthrow K ht hP hD hS hce hcv hcl [] [] rfl rfl (⟨rfl, rfl⟩) (by decide) (by decide)

set_option maxHeartbeats 4000000 in
set_option maxRecDepth 100000 in
theorem m_X11_plan (l : Launch) (hl0 : l.stackTraces = false) (g : kG) (h0 : Nat) (a1 : Nat) (a2 : Nat) (a3 : Nat) (a4 : Nat) (a5 : Nat) (tt : Int32) (wf : Int32) (ww : Int32) (te : Int32) (tn : Int32) (mo : Int32) (x0 : Int32) (x1 : Int32) (x2 : Int32)  : kc l g yX11_plan prog_1_method_34_code 5 (some .int) 8 124 1 6 [.ref h0, .int x0, .int x1, .int x2] [(h0, .inr (15, [.ref a1, .ref a2, .ref a3, .ref a4, .ref a5, .int tt, .int wf, .int ww, .int te, .int tn, .int mo])), (a3, .inr (3, [.int 0, .ref g.2.1, .int 0]))] (fun _ _ => False) (fun E w => (E = "java/lang/IndexOutOfBoundsException" ∧ w = [])) := by
  refine kbody (by decide) (Nat.le_of_ble_eq_true rfl) ?_
  intro p e s m args below meth c A H K ht G hP hD hA hS ls hl
  have K : KB p s m meth c RX11 "plan" prog_1_method_34_code 5 (some .int) := K
  obtain ⟨hx, hb, hml, hown, hlocks, hr, hin⟩ := id K
  have hl : lv_has ls 5 [(0, .ref h0), (1, .int x0), (2, .int x1), (3, .int x2)] := hl
  refine lv_aload_n hx hb dX11_plan_0 rfl (lv_at hl 0 rfl) ?_
  refine lv_iload_n hx hb dX11_plan_1 rfl (lv_at hl 1 rfl) ?_
  refine kcallV (wc := [(h0, .inr (15, [.ref a1, .ref a2, .ref a3, .ref a4, .ref a5, .int tt, .int wf, .int ww, .int te, .int tn, .int mo])), (a3, .inr (3, [.int 0, .ref g.2.1, .int 0]))]) (wr := []) (As := [.int x0]) (rest := []) K G (m_X11_shipAt l hl0 g h0 a1 a2 a3 a4 a5 tt wf ww te tn mo x0 ) hP hD hS hA hl kw_60 kw_61 kw_62 kw_63 kw_4 ydX11_shipAt [0, 1] [] rfl rfl rfl rfl (by decide) (ci := 15) (q0 := 0) rfl rfl rfl rfl rfl (Nat.le_of_ble_eq_true rfl) dX11_plan_2 ⟨Nat.le_of_ble_eq_true rfl, Nat.le_of_ble_eq_true rfl⟩ ⟨Nat.le_of_ble_eq_true rfl, Nat.le_of_ble_eq_true rfl⟩ (fun E w1 ce q9 H locs hX hP hD hS hce hcv hcl => ?_) (fun _ _ _ _ hQ _ _ _ => hQ.elim)
  obtain ⟨rfl, rfl⟩ := hX
  have hP : va_P g.1 vwCl [] H := hP
  have hD : va_D A [] := hD
  refine vx_widen (k := 1) (n := 6) (by decide) (by decide) ?_
  exact kthrow K ht hP hD hS hce hcv hcl [] [] rfl rfl (⟨rfl, rfl⟩) (by decide) (by decide)

set_option maxHeartbeats 4000000 in
set_option maxRecDepth 100000 in
theorem m_X11_getSpeaker (l : Launch) (hl0 : l.stackTraces = false) (g : kG) (h0 : Nat) (a1 : Nat) (a2 : Nat) (a3 : Nat) (a4 : Nat) (a5 : Nat) (tt : Int32) (wf : Int32) (ww : Int32) (te : Int32) (tn : Int32) (mo : Int32) (x0 : Int32)  : kc l g yX11_getSpeaker prog_1_method_35_code 3 (some .int) 8 124 1 6 [.ref h0, .int x0] [(h0, .inr (15, [.ref a1, .ref a2, .ref a3, .ref a4, .ref a5, .int tt, .int wf, .int ww, .int te, .int tn, .int mo])), (a3, .inr (3, [.int 0, .ref g.2.1, .int 0]))] (fun _ _ => False) (fun E w => (E = "java/lang/IndexOutOfBoundsException" ∧ w = [])) := by
  refine kbody (by decide) (Nat.le_of_ble_eq_true rfl) ?_
  intro p e s m args below meth c A H K ht G hP hD hA hS ls hl
  have K : KB p s m meth c RX11 "getSpeaker" prog_1_method_35_code 3 (some .int) := K
  obtain ⟨hx, hb, hml, hown, hlocks, hr, hin⟩ := id K
  have hl : lv_has ls 3 [(0, .ref h0), (1, .int x0)] := hl
  refine lv_aload_n hx hb dX11_getSpeaker_0 rfl (lv_at hl 0 rfl) ?_
  refine lv_iload_n hx hb dX11_getSpeaker_1 rfl (lv_at hl 1 rfl) ?_
  refine kcallV (wc := [(h0, .inr (15, [.ref a1, .ref a2, .ref a3, .ref a4, .ref a5, .int tt, .int wf, .int ww, .int te, .int tn, .int mo])), (a3, .inr (3, [.int 0, .ref g.2.1, .int 0]))]) (wr := []) (As := [.int x0]) (rest := []) K G (m_X11_shipAt l hl0 g h0 a1 a2 a3 a4 a5 tt wf ww te tn mo x0 ) hP hD hS hA hl kw_60 kw_61 kw_62 kw_63 kw_4 ydX11_shipAt [0, 1] [] rfl rfl rfl rfl (by decide) (ci := 15) (q0 := 0) rfl rfl rfl rfl rfl (Nat.le_of_ble_eq_true rfl) dX11_getSpeaker_2 ⟨Nat.le_of_ble_eq_true rfl, Nat.le_of_ble_eq_true rfl⟩ ⟨Nat.le_of_ble_eq_true rfl, Nat.le_of_ble_eq_true rfl⟩ (fun E w1 ce q9 H locs hX hP hD hS hce hcv hcl => ?_) (fun _ _ _ _ hQ _ _ _ => hQ.elim)
  obtain ⟨rfl, rfl⟩ := hX
  have hP : va_P g.1 vwCl [] H := hP
  have hD : va_D A [] := hD
  refine vx_widen (k := 1) (n := 6) (by decide) (by decide) ?_
  exact kthrow K ht hP hD hS hce hcv hcl [] [] rfl rfl (⟨rfl, rfl⟩) (by decide) (by decide)

set_option maxHeartbeats 4000000 in
set_option maxRecDepth 100000 in
theorem m_X11_isMutiny (l : Launch) (hl0 : l.stackTraces = false) (g : kG) (h0 : Nat) (a1 : Nat) (a2 : Nat) (a3 : Nat) (a4 : Nat) (a5 : Nat) (tt : Int32) (wf : Int32) (ww : Int32) (te : Int32) (tn : Int32) (mo : Int32) (x0 : Int32)  : kc l g yX11_isMutiny prog_1_method_36_code 2 (some .boolean) 8 124 1 6 [.ref h0, .int x0] [(h0, .inr (15, [.ref a1, .ref a2, .ref a3, .ref a4, .ref a5, .int tt, .int wf, .int ww, .int te, .int tn, .int mo])), (a3, .inr (3, [.int 0, .ref g.2.1, .int 0]))] (fun _ _ => False) (fun E w => (E = "java/lang/IndexOutOfBoundsException" ∧ w = [])) := by
  refine kbody (by decide) (Nat.le_of_ble_eq_true rfl) ?_
  intro p e s m args below meth c A H K ht G hP hD hA hS ls hl
  have K : KB p s m meth c RX11 "isMutiny" prog_1_method_36_code 2 (some .boolean) := K
  obtain ⟨hx, hb, hml, hown, hlocks, hr, hin⟩ := id K
  have hl : lv_has ls 2 [(0, .ref h0), (1, .int x0)] := hl
  refine lv_aload_n hx hb dX11_isMutiny_0 rfl (lv_at hl 0 rfl) ?_
  refine lv_iload_n hx hb dX11_isMutiny_1 rfl (lv_at hl 1 rfl) ?_
  refine kcallV (wc := [(h0, .inr (15, [.ref a1, .ref a2, .ref a3, .ref a4, .ref a5, .int tt, .int wf, .int ww, .int te, .int tn, .int mo])), (a3, .inr (3, [.int 0, .ref g.2.1, .int 0]))]) (wr := []) (As := [.int x0]) (rest := []) K G (m_X11_shipAt l hl0 g h0 a1 a2 a3 a4 a5 tt wf ww te tn mo x0 ) hP hD hS hA hl kw_60 kw_61 kw_62 kw_63 kw_4 ydX11_shipAt [0, 1] [] rfl rfl rfl rfl (by decide) (ci := 15) (q0 := 0) rfl rfl rfl rfl rfl (Nat.le_of_ble_eq_true rfl) dX11_isMutiny_2 ⟨Nat.le_of_ble_eq_true rfl, Nat.le_of_ble_eq_true rfl⟩ ⟨Nat.le_of_ble_eq_true rfl, Nat.le_of_ble_eq_true rfl⟩ (fun E w1 ce q9 H locs hX hP hD hS hce hcv hcl => ?_) (fun _ _ _ _ hQ _ _ _ => hQ.elim)
  obtain ⟨rfl, rfl⟩ := hX
  have hP : va_P g.1 vwCl [] H := hP
  have hD : va_D A [] := hD
  refine vx_widen (k := 1) (n := 6) (by decide) (by decide) ?_
  exact kthrow K ht hP hD hS hce hcv hcl [] [] rfl rfl (⟨rfl, rfl⟩) (by decide) (by decide)

set_option maxHeartbeats 4000000 in
set_option maxRecDepth 100000 in
theorem m_X11_sell (l : Launch) (hl0 : l.stackTraces = false) (g : kG) (h0 : Nat) (a1 : Nat) (a2 : Nat) (a3 : Nat) (a4 : Nat) (a5 : Nat) (tt : Int32) (wf : Int32) (ww : Int32) (te : Int32) (tn : Int32) (mo : Int32) (x0 : Int32) (x1 : Int32)  : kc l g yX11_sell prog_1_method_37_code 5 (some .int) 8 124 1 6 [.ref h0, .int x0, .int x1] [(h0, .inr (15, [.ref a1, .ref a2, .ref a3, .ref a4, .ref a5, .int tt, .int wf, .int ww, .int te, .int tn, .int mo])), (a3, .inr (3, [.int 0, .ref g.2.1, .int 0]))] (fun _ _ => False) (fun E w => (E = "java/lang/IndexOutOfBoundsException" ∧ w = [])) := by
  refine kbody (by decide) (Nat.le_of_ble_eq_true rfl) ?_
  intro p e s m args below meth c A H K ht G hP hD hA hS ls hl
  have K : KB p s m meth c RX11 "sell" prog_1_method_37_code 5 (some .int) := K
  obtain ⟨hx, hb, hml, hown, hlocks, hr, hin⟩ := id K
  have hl : lv_has ls 5 [(0, .ref h0), (1, .int x0), (2, .int x1)] := hl
  refine lv_aload_n hx hb dX11_sell_0 rfl (lv_at hl 0 rfl) ?_
  refine lv_iload_n hx hb dX11_sell_1 rfl (lv_at hl 1 rfl) ?_
  refine kcallV (wc := [(h0, .inr (15, [.ref a1, .ref a2, .ref a3, .ref a4, .ref a5, .int tt, .int wf, .int ww, .int te, .int tn, .int mo])), (a3, .inr (3, [.int 0, .ref g.2.1, .int 0]))]) (wr := []) (As := [.int x0]) (rest := []) K G (m_X11_shipAt l hl0 g h0 a1 a2 a3 a4 a5 tt wf ww te tn mo x0 ) hP hD hS hA hl kw_60 kw_61 kw_62 kw_63 kw_4 ydX11_shipAt [0, 1] [] rfl rfl rfl rfl (by decide) (ci := 15) (q0 := 0) rfl rfl rfl rfl rfl (Nat.le_of_ble_eq_true rfl) dX11_sell_2 ⟨Nat.le_of_ble_eq_true rfl, Nat.le_of_ble_eq_true rfl⟩ ⟨Nat.le_of_ble_eq_true rfl, Nat.le_of_ble_eq_true rfl⟩ (fun E w1 ce q9 H locs hX hP hD hS hce hcv hcl => ?_) (fun _ _ _ _ hQ _ _ _ => hQ.elim)
  obtain ⟨rfl, rfl⟩ := hX
  have hP : va_P g.1 vwCl [] H := hP
  have hD : va_D A [] := hD
  refine vx_widen (k := 1) (n := 6) (by decide) (by decide) ?_
  exact kthrow K ht hP hD hS hce hcv hcl [] [] rfl rfl (⟨rfl, rfl⟩) (by decide) (by decide)

set_option maxHeartbeats 4000000 in
set_option maxRecDepth 100000 in
theorem m_X11_bank (l : Launch) (hl0 : l.stackTraces = false) (g : kG) (h0 : Nat) (a1 : Nat) (a2 : Nat) (a3 : Nat) (a4 : Nat) (a5 : Nat) (tt : Int32) (wf : Int32) (ww : Int32) (te : Int32) (tn : Int32) (mo : Int32) (x0 : Int32)  : kc l g yX11_bank prog_1_method_38_code 2 (some .int) 8 124 1 6 [.ref h0, .int x0] [(h0, .inr (15, [.ref a1, .ref a2, .ref a3, .ref a4, .ref a5, .int tt, .int wf, .int ww, .int te, .int tn, .int mo])), (a3, .inr (3, [.int 0, .ref g.2.1, .int 0]))] (fun _ _ => False) (fun E w => (E = "java/lang/IndexOutOfBoundsException" ∧ w = [])) := by
  refine kbody (by decide) (Nat.le_of_ble_eq_true rfl) ?_
  intro p e s m args below meth c A H K ht G hP hD hA hS ls hl
  have K : KB p s m meth c RX11 "bank" prog_1_method_38_code 2 (some .int) := K
  obtain ⟨hx, hb, hml, hown, hlocks, hr, hin⟩ := id K
  have hl : lv_has ls 2 [(0, .ref h0), (1, .int x0)] := hl
  refine lv_aload_n hx hb dX11_bank_0 rfl (lv_at hl 0 rfl) ?_
  refine lv_dup hx hb dX11_bank_1 rfl ?_
  refine va_get (D := g.1) (ci := 15) (v := .int mo) (C := RX11) (T := TX11) (N := 11) hx hb G.ws inX11 hown G.K hP 0 rfl rfl 10 (by decide) (G.w kw_64) (fun _ h9 => h9) rfl dX11_bank_2 ?_
  refine lv_aload_n hx hb dX11_bank_5 rfl (lv_at hl 0 rfl) ?_
  refine lv_iload_n hx hb dX11_bank_6 rfl (lv_at hl 1 rfl) ?_
  refine kcallV (wc := [(h0, .inr (15, [.ref a1, .ref a2, .ref a3, .ref a4, .ref a5, .int tt, .int wf, .int ww, .int te, .int tn, .int mo])), (a3, .inr (3, [.int 0, .ref g.2.1, .int 0]))]) (wr := []) (As := [.int x0]) (rest := [.int mo, .ref h0]) K G (m_X11_shipAt l hl0 g h0 a1 a2 a3 a4 a5 tt wf ww te tn mo x0 ) hP hD hS hA hl kw_60 kw_61 kw_62 kw_63 kw_4 ydX11_shipAt [0, 1] [] rfl rfl rfl rfl (by decide) (ci := 15) (q0 := 0) rfl rfl rfl rfl rfl (Nat.le_of_ble_eq_true rfl) dX11_bank_7 ⟨Nat.le_of_ble_eq_true rfl, Nat.le_of_ble_eq_true rfl⟩ ⟨Nat.le_of_ble_eq_true rfl, Nat.le_of_ble_eq_true rfl⟩ (fun E w1 ce q9 H locs hX hP hD hS hce hcv hcl => ?_) (fun _ _ _ _ hQ _ _ _ => hQ.elim)
  obtain ⟨rfl, rfl⟩ := hX
  have hP : va_P g.1 vwCl [] H := hP
  have hD : va_D A [] := hD
  refine vx_widen (k := 1) (n := 6) (by decide) (by decide) ?_
  exact kthrow K ht hP hD hS hce hcv hcl [] [] rfl rfl (⟨rfl, rfl⟩) (by decide) (by decide)

set_option maxHeartbeats 4000000 in
set_option maxRecDepth 100000 in
theorem m_X11_getEarned (l : Launch) (hl0 : l.stackTraces = false) (g : kG) (h0 : Nat) (a1 : Nat) (a2 : Nat) (a3 : Nat) (a4 : Nat) (a5 : Nat) (tt : Int32) (wf : Int32) (ww : Int32) (te : Int32) (tn : Int32) (mo : Int32) (x0 : Int32)  : kc l g yX11_getEarned prog_1_method_39_code 2 (some .int) 8 124 1 6 [.ref h0, .int x0] [(h0, .inr (15, [.ref a1, .ref a2, .ref a3, .ref a4, .ref a5, .int tt, .int wf, .int ww, .int te, .int tn, .int mo])), (a3, .inr (3, [.int 0, .ref g.2.1, .int 0]))] (fun _ _ => False) (fun E w => (E = "java/lang/IndexOutOfBoundsException" ∧ w = [])) := by
  refine kbody (by decide) (Nat.le_of_ble_eq_true rfl) ?_
  intro p e s m args below meth c A H K ht G hP hD hA hS ls hl
  have K : KB p s m meth c RX11 "getEarned" prog_1_method_39_code 2 (some .int) := K
  obtain ⟨hx, hb, hml, hown, hlocks, hr, hin⟩ := id K
  have hl : lv_has ls 2 [(0, .ref h0), (1, .int x0)] := hl
  refine lv_aload_n hx hb dX11_getEarned_0 rfl (lv_at hl 0 rfl) ?_
  refine lv_iload_n hx hb dX11_getEarned_1 rfl (lv_at hl 1 rfl) ?_
  refine kcallV (wc := [(h0, .inr (15, [.ref a1, .ref a2, .ref a3, .ref a4, .ref a5, .int tt, .int wf, .int ww, .int te, .int tn, .int mo])), (a3, .inr (3, [.int 0, .ref g.2.1, .int 0]))]) (wr := []) (As := [.int x0]) (rest := []) K G (m_X11_shipAt l hl0 g h0 a1 a2 a3 a4 a5 tt wf ww te tn mo x0 ) hP hD hS hA hl kw_60 kw_61 kw_62 kw_63 kw_4 ydX11_shipAt [0, 1] [] rfl rfl rfl rfl (by decide) (ci := 15) (q0 := 0) rfl rfl rfl rfl rfl (Nat.le_of_ble_eq_true rfl) dX11_getEarned_2 ⟨Nat.le_of_ble_eq_true rfl, Nat.le_of_ble_eq_true rfl⟩ ⟨Nat.le_of_ble_eq_true rfl, Nat.le_of_ble_eq_true rfl⟩ (fun E w1 ce q9 H locs hX hP hD hS hce hcv hcl => ?_) (fun _ _ _ _ hQ _ _ _ => hQ.elim)
  obtain ⟨rfl, rfl⟩ := hX
  have hP : va_P g.1 vwCl [] H := hP
  have hD : va_D A [] := hD
  refine vx_widen (k := 1) (n := 6) (by decide) (by decide) ?_
  exact kthrow K ht hP hD hS hce hcv hcl [] [] rfl rfl (⟨rfl, rfl⟩) (by decide) (by decide)

set_option maxHeartbeats 4000000 in
set_option maxRecDepth 100000 in
theorem m_X11_board (l : Launch) (hl0 : l.stackTraces = false) (g : kG) (h0 : Nat) (a1 : Nat) (a2 : Nat) (a3 : Nat) (a4 : Nat) (a5 : Nat) (tt : Int32) (wf : Int32) (ww : Int32) (te : Int32) (tn : Int32) (mo : Int32) (x0 : Int32) (x1 : Int32)  : kc l g yX11_board prog_1_method_43_code 5 (some .boolean) 8 124 1 6 [.ref h0, .int x0, .int x1] [(h0, .inr (15, [.ref a1, .ref a2, .ref a3, .ref a4, .ref a5, .int tt, .int wf, .int ww, .int te, .int tn, .int mo])), (a3, .inr (3, [.int 0, .ref g.2.1, .int 0]))] (fun _ _ => False) (fun E w => (E = "java/lang/IndexOutOfBoundsException" ∧ w = [])) := by
  refine kbody (by decide) (Nat.le_of_ble_eq_true rfl) ?_
  intro p e s m args below meth c A H K ht G hP hD hA hS ls hl
  have K : KB p s m meth c RX11 "board" prog_1_method_43_code 5 (some .boolean) := K
  obtain ⟨hx, hb, hml, hown, hlocks, hr, hin⟩ := id K
  have hl : lv_has ls 5 [(0, .ref h0), (1, .int x0), (2, .int x1)] := hl
  refine lv_aload_n hx hb dX11_board_0 rfl (lv_at hl 0 rfl) ?_
  refine lv_iload_n hx hb dX11_board_1 rfl (lv_at hl 1 rfl) ?_
  refine kcallV (wc := [(h0, .inr (15, [.ref a1, .ref a2, .ref a3, .ref a4, .ref a5, .int tt, .int wf, .int ww, .int te, .int tn, .int mo])), (a3, .inr (3, [.int 0, .ref g.2.1, .int 0]))]) (wr := []) (As := [.int x0]) (rest := []) K G (m_X11_shipAt l hl0 g h0 a1 a2 a3 a4 a5 tt wf ww te tn mo x0 ) hP hD hS hA hl kw_60 kw_61 kw_62 kw_63 kw_4 ydX11_shipAt [0, 1] [] rfl rfl rfl rfl (by decide) (ci := 15) (q0 := 0) rfl rfl rfl rfl rfl (Nat.le_of_ble_eq_true rfl) dX11_board_2 ⟨Nat.le_of_ble_eq_true rfl, Nat.le_of_ble_eq_true rfl⟩ ⟨Nat.le_of_ble_eq_true rfl, Nat.le_of_ble_eq_true rfl⟩ (fun E w1 ce q9 H locs hX hP hD hS hce hcv hcl => ?_) (fun _ _ _ _ hQ _ _ _ => hQ.elim)
  obtain ⟨rfl, rfl⟩ := hX
  have hP : va_P g.1 vwCl [] H := hP
  have hD : va_D A [] := hD
  refine vx_widen (k := 1) (n := 6) (by decide) (by decide) ?_
  exact kthrow K ht hP hD hS hce hcv hcl [] [] rfl rfl (⟨rfl, rfl⟩) (by decide) (by decide)
end
section
set_option maxHeartbeats 4000000 in
set_option maxRecDepth 100000 in
theorem m_X11_getHeard (l : Launch) (hl0 : l.stackTraces = false) (g : kG) (h0 : Nat) (a1 : Nat) (a2 : Nat) (a3 : Nat) (a4 : Nat) (a5 : Nat) (tt : Int32) (wf : Int32) (ww : Int32) (te : Int32) (tn : Int32) (mo : Int32) (x0 : Int32)  : kc l g yX11_getHeard prog_1_method_26_code 2 (some .int) 8 124 1 6 [.ref h0, .int x0] [(h0, .inr (15, [.ref a1, .ref a2, .ref a3, .ref a4, .ref a5, .int tt, .int wf, .int ww, .int te, .int tn, .int mo])), (a2, .inr (3, [.int 0, .ref g.2.1, .int 0]))] (fun _ _ => False) (fun E w => (E = "java/lang/IndexOutOfBoundsException" ∧ w = [])) := by
  refine kbody (by decide) (Nat.le_of_ble_eq_true rfl) ?_
  intro p e s m args below meth c A H K ht G hP hD hA hS ls hl
  have K : KB p s m meth c RX11 "getHeard" prog_1_method_26_code 2 (some .int) := K
  obtain ⟨hx, hb, hml, hown, hlocks, hr, hin⟩ := id K
  have hl : lv_has ls 2 [(0, .ref h0), (1, .int x0)] := hl
  refine lv_aload_n hx hb dX11_getHeard_0 rfl (lv_at hl 0 rfl) ?_
  refine lv_iload_n hx hb dX11_getHeard_1 rfl (lv_at hl 1 rfl) ?_
  refine kcallV (wc := [(h0, .inr (15, [.ref a1, .ref a2, .ref a3, .ref a4, .ref a5, .int tt, .int wf, .int ww, .int te, .int tn, .int mo])), (a2, .inr (3, [.int 0, .ref g.2.1, .int 0]))]) (wr := []) (As := [.int x0]) (rest := []) K G (m_X11_townAt l hl0 g h0 a1 a2 a3 a4 a5 tt wf ww te tn mo x0 ) hP hD hS hA hl kw_65 kw_66 kw_67 kw_68 kw_4 ydX11_townAt [0, 1] [] rfl rfl rfl rfl (by decide) (ci := 15) (q0 := 0) rfl rfl rfl rfl rfl (Nat.le_of_ble_eq_true rfl) dX11_getHeard_2 ⟨Nat.le_of_ble_eq_true rfl, Nat.le_of_ble_eq_true rfl⟩ ⟨Nat.le_of_ble_eq_true rfl, Nat.le_of_ble_eq_true rfl⟩ (fun E w1 ce q9 H locs hX hP hD hS hce hcv hcl => ?_) (fun _ _ _ _ hQ _ _ _ => hQ.elim)
  obtain ⟨rfl, rfl⟩ := hX
  have hP : va_P g.1 vwCl [] H := hP
  have hD : va_D A [] := hD
  refine vx_widen (k := 1) (n := 6) (by decide) (by decide) ?_
  exact kthrow K ht hP hD hS hce hcv hcl [] [] rfl rfl (⟨rfl, rfl⟩) (by decide) (by decide)

set_option maxHeartbeats 4000000 in
set_option maxRecDepth 100000 in
theorem m_X11_getAboard (l : Launch) (hl0 : l.stackTraces = false) (g : kG) (h0 : Nat) (a1 : Nat) (a2 : Nat) (a3 : Nat) (a4 : Nat) (a5 : Nat) (tt : Int32) (wf : Int32) (ww : Int32) (te : Int32) (tn : Int32) (mo : Int32) (x0 : Int32)  : kc l g yX11_getAboard prog_1_method_29_code 2 (some .int) 8 124 1 6 [.ref h0, .int x0] [(h0, .inr (15, [.ref a1, .ref a2, .ref a3, .ref a4, .ref a5, .int tt, .int wf, .int ww, .int te, .int tn, .int mo])), (a4, .inr (3, [.int 0, .ref g.2.1, .int 0]))] (fun _ _ => False) (fun E w => (E = "java/lang/IndexOutOfBoundsException" ∧ w = [])) := by
  refine kbody (by decide) (Nat.le_of_ble_eq_true rfl) ?_
  intro p e s m args below meth c A H K ht G hP hD hA hS ls hl
  have K : KB p s m meth c RX11 "getAboard" prog_1_method_29_code 2 (some .int) := K
  obtain ⟨hx, hb, hml, hown, hlocks, hr, hin⟩ := id K
  have hl : lv_has ls 2 [(0, .ref h0), (1, .int x0)] := hl
  refine lv_aload_n hx hb dX11_getAboard_0 rfl (lv_at hl 0 rfl) ?_
  refine lv_iload_n hx hb dX11_getAboard_1 rfl (lv_at hl 1 rfl) ?_
  refine kcallV (wc := [(h0, .inr (15, [.ref a1, .ref a2, .ref a3, .ref a4, .ref a5, .int tt, .int wf, .int ww, .int te, .int tn, .int mo])), (a4, .inr (3, [.int 0, .ref g.2.1, .int 0]))]) (wr := []) (As := [.int x0]) (rest := []) K G (m_X11_personAt l hl0 g h0 a1 a2 a3 a4 a5 tt wf ww te tn mo x0 ) hP hD hS hA hl kw_69 kw_70 kw_71 kw_72 kw_4 ydX11_personAt [0, 1] [] rfl rfl rfl rfl (by decide) (ci := 15) (q0 := 0) rfl rfl rfl rfl rfl (Nat.le_of_ble_eq_true rfl) dX11_getAboard_2 ⟨Nat.le_of_ble_eq_true rfl, Nat.le_of_ble_eq_true rfl⟩ ⟨Nat.le_of_ble_eq_true rfl, Nat.le_of_ble_eq_true rfl⟩ (fun E w1 ce q9 H locs hX hP hD hS hce hcv hcl => ?_) (fun _ _ _ _ hQ _ _ _ => hQ.elim)
  obtain ⟨rfl, rfl⟩ := hX
  have hP : va_P g.1 vwCl [] H := hP
  have hD : va_D A [] := hD
  refine vx_widen (k := 1) (n := 6) (by decide) (by decide) ?_
  exact kthrow K ht hP hD hS hce hcv hcl [] [] rfl rfl (⟨rfl, rfl⟩) (by decide) (by decide)

set_option maxHeartbeats 4000000 in
set_option maxRecDepth 100000 in
theorem m_X11_isTired (l : Launch) (hl0 : l.stackTraces = false) (g : kG) (h0 : Nat) (a1 : Nat) (a2 : Nat) (a3 : Nat) (a4 : Nat) (a5 : Nat) (tt : Int32) (wf : Int32) (ww : Int32) (te : Int32) (tn : Int32) (mo : Int32) (x0 : Int32)  : kc l g yX11_isTired prog_1_method_30_code 2 (some .boolean) 8 124 1 6 [.ref h0, .int x0] [(h0, .inr (15, [.ref a1, .ref a2, .ref a3, .ref a4, .ref a5, .int tt, .int wf, .int ww, .int te, .int tn, .int mo])), (a4, .inr (3, [.int 0, .ref g.2.1, .int 0]))] (fun _ _ => False) (fun E w => (E = "java/lang/IndexOutOfBoundsException" ∧ w = [])) := by
  refine kbody (by decide) (Nat.le_of_ble_eq_true rfl) ?_
  intro p e s m args below meth c A H K ht G hP hD hA hS ls hl
  have K : KB p s m meth c RX11 "isTired" prog_1_method_30_code 2 (some .boolean) := K
  obtain ⟨hx, hb, hml, hown, hlocks, hr, hin⟩ := id K
  have hl : lv_has ls 2 [(0, .ref h0), (1, .int x0)] := hl
  refine lv_aload_n hx hb dX11_isTired_0 rfl (lv_at hl 0 rfl) ?_
  refine lv_iload_n hx hb dX11_isTired_1 rfl (lv_at hl 1 rfl) ?_
  refine kcallV (wc := [(h0, .inr (15, [.ref a1, .ref a2, .ref a3, .ref a4, .ref a5, .int tt, .int wf, .int ww, .int te, .int tn, .int mo])), (a4, .inr (3, [.int 0, .ref g.2.1, .int 0]))]) (wr := []) (As := [.int x0]) (rest := []) K G (m_X11_personAt l hl0 g h0 a1 a2 a3 a4 a5 tt wf ww te tn mo x0 ) hP hD hS hA hl kw_69 kw_70 kw_71 kw_72 kw_4 ydX11_personAt [0, 1] [] rfl rfl rfl rfl (by decide) (ci := 15) (q0 := 0) rfl rfl rfl rfl rfl (Nat.le_of_ble_eq_true rfl) dX11_isTired_2 ⟨Nat.le_of_ble_eq_true rfl, Nat.le_of_ble_eq_true rfl⟩ ⟨Nat.le_of_ble_eq_true rfl, Nat.le_of_ble_eq_true rfl⟩ (fun E w1 ce q9 H locs hX hP hD hS hce hcv hcl => ?_) (fun _ _ _ _ hQ _ _ _ => hQ.elim)
  obtain ⟨rfl, rfl⟩ := hX
  have hP : va_P g.1 vwCl [] H := hP
  have hD : va_D A [] := hD
  refine vx_widen (k := 1) (n := 6) (by decide) (by decide) ?_
  exact kthrow K ht hP hD hS hce hcv hcl [] [] rfl rfl (⟨rfl, rfl⟩) (by decide) (by decide)

set_option maxHeartbeats 4000000 in
set_option maxRecDepth 100000 in
theorem m_X11_addAhead (l : Launch) (hl0 : l.stackTraces = false) (g : kG) (h0 : Nat) (a1 : Nat) (a2 : Nat) (a3 : Nat) (a4 : Nat) (a5 : Nat) (tt : Int32) (wf : Int32) (ww : Int32) (te : Int32) (tn : Int32) (mo : Int32) (k0 : Nat) (r0 : Nat) (b1 : Nat) (b2 : Nat) (b3 : Nat) (b4 : Nat) (b5 : Nat) (x0 : Int32) (x1 : Int32)  : kc l g yX11_addAhead prog_1_method_46_code 3 (some .int) 8 124 1 6 [.ref h0, .int x0, .int x1] [(h0, .inr (15, [.ref a1, .ref a2, .ref a3, .ref a4, .ref a5, .int tt, .int wf, .int ww, .int te, .int tn, .int mo])), (a5, .inr (5, [.ref k0, .ref r0, .ref b1, .ref b2, .ref b3, .ref b4, .ref b5, .int 0])), (r0, .inr (3, [.int 0, .ref g.2.1, .int 0]))] (fun _ _ => False) (fun E w => (E = "java/lang/IndexOutOfBoundsException" ∧ w = [])) := by
  refine kbody (by decide) (Nat.le_of_ble_eq_true rfl) ?_
  intro p e s m args below meth c A H K ht G hP hD hA hS ls hl
  have K : KB p s m meth c RX11 "addAhead" prog_1_method_46_code 3 (some .int) := K
  obtain ⟨hx, hb, hml, hown, hlocks, hr, hin⟩ := id K
  have hl : lv_has ls 3 [(0, .ref h0), (1, .int x0), (2, .int x1)] := hl
  refine lv_aload_n hx hb dX11_addAhead_0 rfl (lv_at hl 0 rfl) ?_
  refine lv_iload_n hx hb dX11_addAhead_1 rfl (lv_at hl 1 rfl) ?_
  refine kcallV (wc := [(h0, .inr (15, [.ref a1, .ref a2, .ref a3, .ref a4, .ref a5, .int tt, .int wf, .int ww, .int te, .int tn, .int mo])), (a5, .inr (5, [.ref k0, .ref r0, .ref b1, .ref b2, .ref b3, .ref b4, .ref b5, .int 0])), (r0, .inr (3, [.int 0, .ref g.2.1, .int 0]))]) (wr := []) (As := [.int x0]) (rest := []) K G (m_X11_requireRecording l hl0 g h0 a1 a2 a3 a4 a5 tt wf ww te tn mo k0 r0 b1 b2 b3 b4 b5 x0 ) hP hD hS hA hl kw_73 kw_74 kw_75 kw_76 kw_4 ydX11_requireRecording [0, 1, 2] [] rfl rfl rfl rfl (by decide) (ci := 15) (q0 := 0) rfl rfl rfl rfl rfl (Nat.le_of_ble_eq_true rfl) dX11_addAhead_2 ⟨Nat.le_of_ble_eq_true rfl, Nat.le_of_ble_eq_true rfl⟩ ⟨Nat.le_of_ble_eq_true rfl, Nat.le_of_ble_eq_true rfl⟩ (fun E w1 ce q9 H locs hX hP hD hS hce hcv hcl => ?_) (fun _ _ _ _ hQ _ _ _ => hQ.elim)
  obtain ⟨rfl, rfl⟩ := hX
  have hP : va_P g.1 vwCl [] H := hP
  have hD : va_D A [] := hD
  refine vx_widen (k := 1) (n := 6) (by decide) (by decide) ?_
  exact kthrow K ht hP hD hS hce hcv hcl [] [] rfl rfl (⟨rfl, rfl⟩) (by decide) (by decide)

set_option maxHeartbeats 4000000 in
set_option maxRecDepth 100000 in
theorem m_X11_getChoices (l : Launch) (hl0 : l.stackTraces = false) (g : kG) (h0 : Nat) (a1 : Nat) (a2 : Nat) (a3 : Nat) (a4 : Nat) (a5 : Nat) (tt : Int32) (wf : Int32) (ww : Int32) (te : Int32) (tn : Int32) (mo : Int32) (k0 : Nat) (r0 : Nat) (b1 : Nat) (b2 : Nat) (b3 : Nat) (b4 : Nat) (b5 : Nat) (x0 : Int32)  : kc l g yX11_getChoices prog_1_method_47_code 2 (some .int) 8 124 1 6 [.ref h0, .int x0] [(h0, .inr (15, [.ref a1, .ref a2, .ref a3, .ref a4, .ref a5, .int tt, .int wf, .int ww, .int te, .int tn, .int mo])), (a5, .inr (5, [.ref k0, .ref r0, .ref b1, .ref b2, .ref b3, .ref b4, .ref b5, .int 0])), (r0, .inr (3, [.int 0, .ref g.2.1, .int 0]))] (fun _ _ => False) (fun E w => (E = "java/lang/IndexOutOfBoundsException" ∧ w = [])) := by
  refine kbody (by decide) (Nat.le_of_ble_eq_true rfl) ?_
  intro p e s m args below meth c A H K ht G hP hD hA hS ls hl
  have K : KB p s m meth c RX11 "getChoices" prog_1_method_47_code 2 (some .int) := K
  obtain ⟨hx, hb, hml, hown, hlocks, hr, hin⟩ := id K
  have hl : lv_has ls 2 [(0, .ref h0), (1, .int x0)] := hl
  refine lv_aload_n hx hb dX11_getChoices_0 rfl (lv_at hl 0 rfl) ?_
  refine lv_iload_n hx hb dX11_getChoices_1 rfl (lv_at hl 1 rfl) ?_
  refine kcallV (wc := [(h0, .inr (15, [.ref a1, .ref a2, .ref a3, .ref a4, .ref a5, .int tt, .int wf, .int ww, .int te, .int tn, .int mo])), (a5, .inr (5, [.ref k0, .ref r0, .ref b1, .ref b2, .ref b3, .ref b4, .ref b5, .int 0])), (r0, .inr (3, [.int 0, .ref g.2.1, .int 0]))]) (wr := []) (As := [.int x0]) (rest := []) K G (m_X11_requireRecording l hl0 g h0 a1 a2 a3 a4 a5 tt wf ww te tn mo k0 r0 b1 b2 b3 b4 b5 x0 ) hP hD hS hA hl kw_73 kw_74 kw_75 kw_76 kw_4 ydX11_requireRecording [0, 1, 2] [] rfl rfl rfl rfl (by decide) (ci := 15) (q0 := 0) rfl rfl rfl rfl rfl (Nat.le_of_ble_eq_true rfl) dX11_getChoices_2 ⟨Nat.le_of_ble_eq_true rfl, Nat.le_of_ble_eq_true rfl⟩ ⟨Nat.le_of_ble_eq_true rfl, Nat.le_of_ble_eq_true rfl⟩ (fun E w1 ce q9 H locs hX hP hD hS hce hcv hcl => ?_) (fun _ _ _ _ hQ _ _ _ => hQ.elim)
  obtain ⟨rfl, rfl⟩ := hX
  have hP : va_P g.1 vwCl [] H := hP
  have hD : va_D A [] := hD
  refine vx_widen (k := 1) (n := 6) (by decide) (by decide) ?_
  exact kthrow K ht hP hD hS hce hcv hcl [] [] rfl rfl (⟨rfl, rfl⟩) (by decide) (by decide)

set_option maxHeartbeats 4000000 in
set_option maxRecDepth 100000 in
theorem m_X11_getDate (l : Launch) (hl0 : l.stackTraces = false) (g : kG) (h0 : Nat) (a1 : Nat) (a2 : Nat) (a3 : Nat) (a4 : Nat) (a5 : Nat) (tt : Int32) (wf : Int32) (ww : Int32) (te : Int32) (tn : Int32) (mo : Int32) (k0 : Nat) (r0 : Nat) (b1 : Nat) (b2 : Nat) (b3 : Nat) (b4 : Nat) (b5 : Nat) (x0 : Int32) (x1 : Int32)  : kc l g yX11_getDate prog_1_method_48_code 4 (some .int) 8 124 1 6 [.ref h0, .int x0, .int x1] [(h0, .inr (15, [.ref a1, .ref a2, .ref a3, .ref a4, .ref a5, .int tt, .int wf, .int ww, .int te, .int tn, .int mo])), (a5, .inr (5, [.ref k0, .ref r0, .ref b1, .ref b2, .ref b3, .ref b4, .ref b5, .int 0])), (r0, .inr (3, [.int 0, .ref g.2.1, .int 0]))] (fun _ _ => False) (fun E w => (E = "java/lang/IndexOutOfBoundsException" ∧ w = [])) := by
  refine kbody (by decide) (Nat.le_of_ble_eq_true rfl) ?_
  intro p e s m args below meth c A H K ht G hP hD hA hS ls hl
  have K : KB p s m meth c RX11 "getDate" prog_1_method_48_code 4 (some .int) := K
  obtain ⟨hx, hb, hml, hown, hlocks, hr, hin⟩ := id K
  have hl : lv_has ls 4 [(0, .ref h0), (1, .int x0), (2, .int x1)] := hl
  refine lv_aload_n hx hb dX11_getDate_0 rfl (lv_at hl 0 rfl) ?_
  refine lv_iload_n hx hb dX11_getDate_1 rfl (lv_at hl 1 rfl) ?_
  refine kcallV (wc := [(h0, .inr (15, [.ref a1, .ref a2, .ref a3, .ref a4, .ref a5, .int tt, .int wf, .int ww, .int te, .int tn, .int mo])), (a5, .inr (5, [.ref k0, .ref r0, .ref b1, .ref b2, .ref b3, .ref b4, .ref b5, .int 0])), (r0, .inr (3, [.int 0, .ref g.2.1, .int 0]))]) (wr := []) (As := [.int x0]) (rest := []) K G (m_X11_requireRecording l hl0 g h0 a1 a2 a3 a4 a5 tt wf ww te tn mo k0 r0 b1 b2 b3 b4 b5 x0 ) hP hD hS hA hl kw_73 kw_74 kw_75 kw_76 kw_4 ydX11_requireRecording [0, 1, 2] [] rfl rfl rfl rfl (by decide) (ci := 15) (q0 := 0) rfl rfl rfl rfl rfl (Nat.le_of_ble_eq_true rfl) dX11_getDate_2 ⟨Nat.le_of_ble_eq_true rfl, Nat.le_of_ble_eq_true rfl⟩ ⟨Nat.le_of_ble_eq_true rfl, Nat.le_of_ble_eq_true rfl⟩ (fun E w1 ce q9 H locs hX hP hD hS hce hcv hcl => ?_) (fun _ _ _ _ hQ _ _ _ => hQ.elim)
  obtain ⟨rfl, rfl⟩ := hX
  have hP : va_P g.1 vwCl [] H := hP
  have hD : va_D A [] := hD
  refine vx_widen (k := 1) (n := 6) (by decide) (by decide) ?_
  exact kthrow K ht hP hD hS hce hcv hcl [] [] rfl rfl (⟨rfl, rfl⟩) (by decide) (by decide)

set_option maxHeartbeats 4000000 in
set_option maxRecDepth 100000 in
theorem m_X11_runGenerators (l : Launch) (hl0 : l.stackTraces = false) (g : kG) (h0 : Nat) (a1 : Nat) (a2 : Nat) (a3 : Nat) (a4 : Nat) (a5 : Nat) (tt : Int32) (wf : Int32) (ww : Int32) (te : Int32) (tn : Int32) (mo : Int32)  : kc l g yX11_runGenerators prog_1_method_73_code 2 none 1 20 0 0 [.ref h0] [(h0, .inr (15, [.ref a1, .ref a2, .ref a3, .ref a4, .ref a5, .int tt, .int wf, .int ww, .int te, .int tn, .int mo])), (a3, .inr (3, [.int 0, .ref g.2.1, .int 0]))] (fun v w => (v = none ∧ w = [(h0, .inr (15, [.ref a1, .ref a2, .ref a3, .ref a4, .ref a5, .int tt, .int wf, .int ww, .int te, .int tn, .int mo])), (a3, .inr (3, [.int 0, .ref g.2.1, .int 0]))])) (fun _ _ => False) := by
  refine kbody (by decide) (Nat.le_of_ble_eq_true rfl) ?_
  intro p e s m args below meth c A H K ht G hP hD hA hS ls hl
  have K : KB p s m meth c RX11 "runGenerators" prog_1_method_73_code 2 none := K
  obtain ⟨hx, hb, hml, hown, hlocks, hr, hin⟩ := id K
  have hl : lv_has ls 2 [(0, .ref h0)] := hl
  refine lv_iconst (v := 0) hx hb dX11_runGenerators_0 (by decide) ?_
  refine lv_istore_n (lv' := [(1, .int 0), (0, .ref h0)]) hx hb dX11_runGenerators_1 rfl hl (by decide) rfl (fun ls hl => ?_)
  refine lv_iload_n hx hb dX11_runGenerators_2 rfl (lv_at hl 0 rfl) ?_
  refine lv_aload_n hx hb dX11_runGenerators_3 rfl (lv_at hl 1 rfl) ?_
  refine va_get (D := g.1) (ci := 15) (v := .ref a3) (C := RX11) (T := TX11) (N := 11) hx hb G.ws inX11 hown G.K hP 0 rfl rfl 2 (by decide) (G.w kw_52) (fun _ h9 => h9) rfl dX11_runGenerators_4 ?_
  refine kcallV (wc := [(a3, .inr (3, [.int 0, .ref g.2.1, .int 0]))]) (wr := [(h0, .inr (15, [.ref a1, .ref a2, .ref a3, .ref a4, .ref a5, .int tt, .int wf, .int ww, .int te, .int tn, .int mo]))]) (As := []) (rest := [.int 0]) K G (m_Jx4a65c_size_8abf5 l hl0 g a3 0 g.2.1 0 ) hP hD hS hA hl kw_44 kw_45 kw_46 kw_47 kw_30 ydJx4a65c_size_8abf5 [1] [0] rfl rfl rfl rfl (by decide) (ci := 3) (q0 := 1) rfl rfl rfl rfl rfl (Nat.le_of_ble_eq_true rfl) dX11_runGenerators_7 ⟨Nat.le_of_ble_eq_true rfl, Nat.le_of_ble_eq_true rfl⟩ ⟨Nat.le_of_ble_eq_true rfl, Nat.le_of_ble_eq_true rfl⟩ (fun _ _ _ _ _ _ hX _ _ _ _ _ _ => hX.elim) (fun v w1 H locs hQ hP hD hS => ?_)
  obtain ⟨rfl, rfl⟩ := hQ
  have hP : va_P g.1 vwCl [(h0, .inr (15, [.ref a1, .ref a2, .ref a3, .ref a4, .ref a5, .int tt, .int wf, .int ww, .int te, .int tn, .int mo])), (a3, .inr (3, [.int 0, .ref g.2.1, .int 0]))] H := hP
  have hD : va_D A [(h0, .inr (15, [.ref a1, .ref a2, .ref a3, .ref a4, .ref a5, .int tt, .int wf, .int ww, .int te, .int tn, .int mo])), (a3, .inr (3, [.int 0, .ref g.2.1, .int 0]))] := hD
  refine W.widen (k := 0) (n := 0) (by decide) (by decide) ?_
  refine W.eq (g2 := F0 m 10 ls [.int 0, .int 0]) rfl ?_
  refine lv_icmp_ge (tgt := 33) hx hb dX11_runGenerators_10 (by decide) (fun _ => ?_) (fun c10_2 => absurd c10_2 (by decide))
  exact kretV K hP hD hS [0, 1] [(h0, .inr (15, [.ref a1, .ref a2, .ref a3, .ref a4, .ref a5, .int tt, .int wf, .int ww, .int te, .int tn, .int mo])), (a3, .inr (3, [.int 0, .ref g.2.1, .int 0]))] rfl rfl (⟨rfl, rfl⟩) (by decide) (by decide) dX11_runGenerators_33

set_option maxHeartbeats 4000000 in
set_option maxRecDepth 100000 in
theorem m_X11_goOnAir (l : Launch) (hl0 : l.stackTraces = false) (g : kG) (h0 : Nat) (a1 : Nat) (a2 : Nat) (a3 : Nat) (a4 : Nat) (a5 : Nat) (tt : Int32) (wf : Int32) (ww : Int32) (te : Int32) (tn : Int32) (mo : Int32)  : kc l g yX11_goOnAir prog_1_method_74_code 3 none 1 20 0 0 [.ref h0] [(h0, .inr (15, [.ref a1, .ref a2, .ref a3, .ref a4, .ref a5, .int tt, .int wf, .int ww, .int te, .int tn, .int mo])), (a3, .inr (3, [.int 0, .ref g.2.1, .int 0]))] (fun v w => (v = none ∧ w = [(h0, .inr (15, [.ref a1, .ref a2, .ref a3, .ref a4, .ref a5, .int tt, .int wf, .int ww, .int te, .int tn, .int mo])), (a3, .inr (3, [.int 0, .ref g.2.1, .int 0]))])) (fun _ _ => False) := by
  refine kbody (by decide) (Nat.le_of_ble_eq_true rfl) ?_
  intro p e s m args below meth c A H K ht G hP hD hA hS ls hl
  have K : KB p s m meth c RX11 "goOnAir" prog_1_method_74_code 3 none := K
  obtain ⟨hx, hb, hml, hown, hlocks, hr, hin⟩ := id K
  have hl : lv_has ls 3 [(0, .ref h0)] := hl
  refine lv_iconst (v := 0) hx hb dX11_goOnAir_0 (by decide) ?_
  refine lv_istore_n (lv' := [(1, .int 0), (0, .ref h0)]) hx hb dX11_goOnAir_1 rfl hl (by decide) rfl (fun ls hl => ?_)
  refine lv_iload_n hx hb dX11_goOnAir_2 rfl (lv_at hl 0 rfl) ?_
  refine lv_aload_n hx hb dX11_goOnAir_3 rfl (lv_at hl 1 rfl) ?_
  refine va_get (D := g.1) (ci := 15) (v := .ref a3) (C := RX11) (T := TX11) (N := 11) hx hb G.ws inX11 hown G.K hP 0 rfl rfl 2 (by decide) (G.w kw_52) (fun _ h9 => h9) rfl dX11_goOnAir_4 ?_
  refine kcallV (wc := [(a3, .inr (3, [.int 0, .ref g.2.1, .int 0]))]) (wr := [(h0, .inr (15, [.ref a1, .ref a2, .ref a3, .ref a4, .ref a5, .int tt, .int wf, .int ww, .int te, .int tn, .int mo]))]) (As := []) (rest := [.int 0]) K G (m_Jx4a65c_size_8abf5 l hl0 g a3 0 g.2.1 0 ) hP hD hS hA hl kw_44 kw_45 kw_46 kw_47 kw_30 ydJx4a65c_size_8abf5 [1] [0] rfl rfl rfl rfl (by decide) (ci := 3) (q0 := 1) rfl rfl rfl rfl rfl (Nat.le_of_ble_eq_true rfl) dX11_goOnAir_7 ⟨Nat.le_of_ble_eq_true rfl, Nat.le_of_ble_eq_true rfl⟩ ⟨Nat.le_of_ble_eq_true rfl, Nat.le_of_ble_eq_true rfl⟩ (fun _ _ _ _ _ _ hX _ _ _ _ _ _ => hX.elim) (fun v w1 H locs hQ hP hD hS => ?_)
  obtain ⟨rfl, rfl⟩ := hQ
  have hP : va_P g.1 vwCl [(h0, .inr (15, [.ref a1, .ref a2, .ref a3, .ref a4, .ref a5, .int tt, .int wf, .int ww, .int te, .int tn, .int mo])), (a3, .inr (3, [.int 0, .ref g.2.1, .int 0]))] H := hP
  have hD : va_D A [(h0, .inr (15, [.ref a1, .ref a2, .ref a3, .ref a4, .ref a5, .int tt, .int wf, .int ww, .int te, .int tn, .int mo])), (a3, .inr (3, [.int 0, .ref g.2.1, .int 0]))] := hD
  refine W.widen (k := 0) (n := 0) (by decide) (by decide) ?_
  refine W.eq (g2 := F0 m 10 ls [.int 0, .int 0]) rfl ?_
  refine lv_icmp_ge (tgt := 55) hx hb dX11_goOnAir_10 (by decide) (fun _ => ?_) (fun c10_2 => absurd c10_2 (by decide))
  exact kretV K hP hD hS [0, 1] [(h0, .inr (15, [.ref a1, .ref a2, .ref a3, .ref a4, .ref a5, .int tt, .int wf, .int ww, .int te, .int tn, .int mo])), (a3, .inr (3, [.int 0, .ref g.2.1, .int 0]))] rfl rfl (⟨rfl, rfl⟩) (by decide) (by decide) dX11_goOnAir_55

set_option maxHeartbeats 4000000 in
set_option maxRecDepth 100000 in
theorem m_X11_playSpots (l : Launch) (hl0 : l.stackTraces = false) (g : kG) (h0 : Nat) (a1 : Nat) (a2 : Nat) (a3 : Nat) (a4 : Nat) (a5 : Nat) (tt : Int32) (wf : Int32) (ww : Int32) (te : Int32) (tn : Int32) (mo : Int32)  : kc l g yX11_playSpots prog_1_method_79_code 3 none 1 20 0 0 [.ref h0] [(h0, .inr (15, [.ref a1, .ref a2, .ref a3, .ref a4, .ref a5, .int tt, .int wf, .int ww, .int te, .int tn, .int mo])), (a3, .inr (3, [.int 0, .ref g.2.1, .int 0]))] (fun v w => (v = none ∧ w = [(h0, .inr (15, [.ref a1, .ref a2, .ref a3, .ref a4, .ref a5, .int tt, .int wf, .int ww, .int te, .int tn, .int mo])), (a3, .inr (3, [.int 0, .ref g.2.1, .int 0]))])) (fun _ _ => False) := by
  refine kbody (by decide) (Nat.le_of_ble_eq_true rfl) ?_
  intro p e s m args below meth c A H K ht G hP hD hA hS ls hl
  have K : KB p s m meth c RX11 "playSpots" prog_1_method_79_code 3 none := K
  obtain ⟨hx, hb, hml, hown, hlocks, hr, hin⟩ := id K
  have hl : lv_has ls 3 [(0, .ref h0)] := hl
  refine lv_iconst (v := 0) hx hb dX11_playSpots_0 (by decide) ?_
  refine lv_istore_n (lv' := [(1, .int 0), (0, .ref h0)]) hx hb dX11_playSpots_1 rfl hl (by decide) rfl (fun ls hl => ?_)
  refine lv_iload_n hx hb dX11_playSpots_2 rfl (lv_at hl 0 rfl) ?_
  refine lv_aload_n hx hb dX11_playSpots_3 rfl (lv_at hl 1 rfl) ?_
  refine va_get (D := g.1) (ci := 15) (v := .ref a3) (C := RX11) (T := TX11) (N := 11) hx hb G.ws inX11 hown G.K hP 0 rfl rfl 2 (by decide) (G.w kw_52) (fun _ h9 => h9) rfl dX11_playSpots_4 ?_
  refine kcallV (wc := [(a3, .inr (3, [.int 0, .ref g.2.1, .int 0]))]) (wr := [(h0, .inr (15, [.ref a1, .ref a2, .ref a3, .ref a4, .ref a5, .int tt, .int wf, .int ww, .int te, .int tn, .int mo]))]) (As := []) (rest := [.int 0]) K G (m_Jx4a65c_size_8abf5 l hl0 g a3 0 g.2.1 0 ) hP hD hS hA hl kw_44 kw_45 kw_46 kw_47 kw_30 ydJx4a65c_size_8abf5 [1] [0] rfl rfl rfl rfl (by decide) (ci := 3) (q0 := 1) rfl rfl rfl rfl rfl (Nat.le_of_ble_eq_true rfl) dX11_playSpots_7 ⟨Nat.le_of_ble_eq_true rfl, Nat.le_of_ble_eq_true rfl⟩ ⟨Nat.le_of_ble_eq_true rfl, Nat.le_of_ble_eq_true rfl⟩ (fun _ _ _ _ _ _ hX _ _ _ _ _ _ => hX.elim) (fun v w1 H locs hQ hP hD hS => ?_)
  obtain ⟨rfl, rfl⟩ := hQ
  have hP : va_P g.1 vwCl [(h0, .inr (15, [.ref a1, .ref a2, .ref a3, .ref a4, .ref a5, .int tt, .int wf, .int ww, .int te, .int tn, .int mo])), (a3, .inr (3, [.int 0, .ref g.2.1, .int 0]))] H := hP
  have hD : va_D A [(h0, .inr (15, [.ref a1, .ref a2, .ref a3, .ref a4, .ref a5, .int tt, .int wf, .int ww, .int te, .int tn, .int mo])), (a3, .inr (3, [.int 0, .ref g.2.1, .int 0]))] := hD
  refine W.widen (k := 0) (n := 0) (by decide) (by decide) ?_
  refine W.eq (g2 := F0 m 10 ls [.int 0, .int 0]) rfl ?_
  refine lv_icmp_ge (tgt := 58) hx hb dX11_playSpots_10 (by decide) (fun _ => ?_) (fun c10_2 => absurd c10_2 (by decide))
  exact kretV K hP hD hS [0, 1] [(h0, .inr (15, [.ref a1, .ref a2, .ref a3, .ref a4, .ref a5, .int tt, .int wf, .int ww, .int te, .int tn, .int mo])), (a3, .inr (3, [.int 0, .ref g.2.1, .int 0]))] rfl rfl (⟨rfl, rfl⟩) (by decide) (by decide) dX11_playSpots_58

set_option maxHeartbeats 4000000 in
set_option maxRecDepth 100000 in
theorem m_X11_speak (l : Launch) (hl0 : l.stackTraces = false) (g : kG) (h0 : Nat) (a1 : Nat) (a2 : Nat) (a3 : Nat) (a4 : Nat) (a5 : Nat) (tt : Int32) (wf : Int32) (ww : Int32) (te : Int32) (tn : Int32) (mo : Int32)  : kc l g yX11_speak prog_1_method_81_code 3 none 1 20 0 0 [.ref h0] [(h0, .inr (15, [.ref a1, .ref a2, .ref a3, .ref a4, .ref a5, .int tt, .int wf, .int ww, .int te, .int tn, .int mo])), (a3, .inr (3, [.int 0, .ref g.2.1, .int 0]))] (fun v w => (v = none ∧ w = [(h0, .inr (15, [.ref a1, .ref a2, .ref a3, .ref a4, .ref a5, .int tt, .int wf, .int ww, .int te, .int tn, .int mo])), (a3, .inr (3, [.int 0, .ref g.2.1, .int 0]))])) (fun _ _ => False) := by
  refine kbody (by decide) (Nat.le_of_ble_eq_true rfl) ?_
  intro p e s m args below meth c A H K ht G hP hD hA hS ls hl
  have K : KB p s m meth c RX11 "speak" prog_1_method_81_code 3 none := K
  obtain ⟨hx, hb, hml, hown, hlocks, hr, hin⟩ := id K
  have hl : lv_has ls 3 [(0, .ref h0)] := hl
  refine lv_iconst (v := 0) hx hb dX11_speak_0 (by decide) ?_
  refine lv_istore_n (lv' := [(1, .int 0), (0, .ref h0)]) hx hb dX11_speak_1 rfl hl (by decide) rfl (fun ls hl => ?_)
  refine lv_iload_n hx hb dX11_speak_2 rfl (lv_at hl 0 rfl) ?_
  refine lv_aload_n hx hb dX11_speak_3 rfl (lv_at hl 1 rfl) ?_
  refine va_get (D := g.1) (ci := 15) (v := .ref a3) (C := RX11) (T := TX11) (N := 11) hx hb G.ws inX11 hown G.K hP 0 rfl rfl 2 (by decide) (G.w kw_52) (fun _ h9 => h9) rfl dX11_speak_4 ?_
  refine kcallV (wc := [(a3, .inr (3, [.int 0, .ref g.2.1, .int 0]))]) (wr := [(h0, .inr (15, [.ref a1, .ref a2, .ref a3, .ref a4, .ref a5, .int tt, .int wf, .int ww, .int te, .int tn, .int mo]))]) (As := []) (rest := [.int 0]) K G (m_Jx4a65c_size_8abf5 l hl0 g a3 0 g.2.1 0 ) hP hD hS hA hl kw_44 kw_45 kw_46 kw_47 kw_30 ydJx4a65c_size_8abf5 [1] [0] rfl rfl rfl rfl (by decide) (ci := 3) (q0 := 1) rfl rfl rfl rfl rfl (Nat.le_of_ble_eq_true rfl) dX11_speak_7 ⟨Nat.le_of_ble_eq_true rfl, Nat.le_of_ble_eq_true rfl⟩ ⟨Nat.le_of_ble_eq_true rfl, Nat.le_of_ble_eq_true rfl⟩ (fun _ _ _ _ _ _ hX _ _ _ _ _ _ => hX.elim) (fun v w1 H locs hQ hP hD hS => ?_)
  obtain ⟨rfl, rfl⟩ := hQ
  have hP : va_P g.1 vwCl [(h0, .inr (15, [.ref a1, .ref a2, .ref a3, .ref a4, .ref a5, .int tt, .int wf, .int ww, .int te, .int tn, .int mo])), (a3, .inr (3, [.int 0, .ref g.2.1, .int 0]))] H := hP
  have hD : va_D A [(h0, .inr (15, [.ref a1, .ref a2, .ref a3, .ref a4, .ref a5, .int tt, .int wf, .int ww, .int te, .int tn, .int mo])), (a3, .inr (3, [.int 0, .ref g.2.1, .int 0]))] := hD
  refine W.widen (k := 0) (n := 0) (by decide) (by decide) ?_
  refine W.eq (g2 := F0 m 10 ls [.int 0, .int 0]) rfl ?_
  refine lv_icmp_ge (tgt := 89) hx hb dX11_speak_10 (by decide) (fun _ => ?_) (fun c10_2 => absurd c10_2 (by decide))
  exact kretV K hP hD hS [0, 1] [(h0, .inr (15, [.ref a1, .ref a2, .ref a3, .ref a4, .ref a5, .int tt, .int wf, .int ww, .int te, .int tn, .int mo])), (a3, .inr (3, [.int 0, .ref g.2.1, .int 0]))] rfl rfl (⟨rfl, rfl⟩) (by decide) (by decide) dX11_speak_89

set_option maxHeartbeats 4000000 in
set_option maxRecDepth 100000 in
theorem m_X11_keepHour (l : Launch) (hl0 : l.stackTraces = false) (g : kG) (h0 : Nat) (a1 : Nat) (a2 : Nat) (a3 : Nat) (a4 : Nat) (a5 : Nat) (tt : Int32) (wf : Int32) (ww : Int32) (te : Int32) (tn : Int32) (mo : Int32)  : kc l g yX11_keepHour prog_1_method_84_code 3 none 1 20 0 0 [.ref h0] [(h0, .inr (15, [.ref a1, .ref a2, .ref a3, .ref a4, .ref a5, .int tt, .int wf, .int ww, .int te, .int tn, .int mo])), (a3, .inr (3, [.int 0, .ref g.2.1, .int 0]))] (fun v w => (v = none ∧ w = [(h0, .inr (15, [.ref a1, .ref a2, .ref a3, .ref a4, .ref a5, .int tt, .int wf, .int ww, .int te, .int tn, .int mo])), (a3, .inr (3, [.int 0, .ref g.2.1, .int 0]))])) (fun _ _ => False) := by
  refine kbody (by decide) (Nat.le_of_ble_eq_true rfl) ?_
  intro p e s m args below meth c A H K ht G hP hD hA hS ls hl
  have K : KB p s m meth c RX11 "keepHour" prog_1_method_84_code 3 none := K
  obtain ⟨hx, hb, hml, hown, hlocks, hr, hin⟩ := id K
  have hl : lv_has ls 3 [(0, .ref h0)] := hl
  refine lv_iconst (v := 0) hx hb dX11_keepHour_0 (by decide) ?_
  refine lv_istore_n (lv' := [(1, .int 0), (0, .ref h0)]) hx hb dX11_keepHour_1 rfl hl (by decide) rfl (fun ls hl => ?_)
  refine lv_iload_n hx hb dX11_keepHour_2 rfl (lv_at hl 0 rfl) ?_
  refine lv_aload_n hx hb dX11_keepHour_3 rfl (lv_at hl 1 rfl) ?_
  refine va_get (D := g.1) (ci := 15) (v := .ref a3) (C := RX11) (T := TX11) (N := 11) hx hb G.ws inX11 hown G.K hP 0 rfl rfl 2 (by decide) (G.w kw_52) (fun _ h9 => h9) rfl dX11_keepHour_4 ?_
  refine kcallV (wc := [(a3, .inr (3, [.int 0, .ref g.2.1, .int 0]))]) (wr := [(h0, .inr (15, [.ref a1, .ref a2, .ref a3, .ref a4, .ref a5, .int tt, .int wf, .int ww, .int te, .int tn, .int mo]))]) (As := []) (rest := [.int 0]) K G (m_Jx4a65c_size_8abf5 l hl0 g a3 0 g.2.1 0 ) hP hD hS hA hl kw_44 kw_45 kw_46 kw_47 kw_30 ydJx4a65c_size_8abf5 [1] [0] rfl rfl rfl rfl (by decide) (ci := 3) (q0 := 1) rfl rfl rfl rfl rfl (Nat.le_of_ble_eq_true rfl) dX11_keepHour_7 ⟨Nat.le_of_ble_eq_true rfl, Nat.le_of_ble_eq_true rfl⟩ ⟨Nat.le_of_ble_eq_true rfl, Nat.le_of_ble_eq_true rfl⟩ (fun _ _ _ _ _ _ hX _ _ _ _ _ _ => hX.elim) (fun v w1 H locs hQ hP hD hS => ?_)
  obtain ⟨rfl, rfl⟩ := hQ
  have hP : va_P g.1 vwCl [(h0, .inr (15, [.ref a1, .ref a2, .ref a3, .ref a4, .ref a5, .int tt, .int wf, .int ww, .int te, .int tn, .int mo])), (a3, .inr (3, [.int 0, .ref g.2.1, .int 0]))] H := hP
  have hD : va_D A [(h0, .inr (15, [.ref a1, .ref a2, .ref a3, .ref a4, .ref a5, .int tt, .int wf, .int ww, .int te, .int tn, .int mo])), (a3, .inr (3, [.int 0, .ref g.2.1, .int 0]))] := hD
  refine W.widen (k := 0) (n := 0) (by decide) (by decide) ?_
  refine W.eq (g2 := F0 m 10 ls [.int 0, .int 0]) rfl ?_
  refine lv_icmp_ge (tgt := 65) hx hb dX11_keepHour_10 (by decide) (fun _ => ?_) (fun c10_2 => absurd c10_2 (by decide))
  exact kretV K hP hD hS [0, 1] [(h0, .inr (15, [.ref a1, .ref a2, .ref a3, .ref a4, .ref a5, .int tt, .int wf, .int ww, .int te, .int tn, .int mo])), (a3, .inr (3, [.int 0, .ref g.2.1, .int 0]))] rfl rfl (⟨rfl, rfl⟩) (by decide) (by decide) dX11_keepHour_65

set_option maxHeartbeats 4000000 in
set_option maxRecDepth 100000 in
theorem m_X11_moveShips (l : Launch) (hl0 : l.stackTraces = false) (g : kG) (h0 : Nat) (a1 : Nat) (a2 : Nat) (a3 : Nat) (a4 : Nat) (a5 : Nat) (tt : Int32) (wf : Int32) (ww : Int32) (te : Int32) (tn : Int32) (mo : Int32)  : kc l g yX11_moveShips prog_1_method_87_code 3 none 1 20 0 0 [.ref h0] [(h0, .inr (15, [.ref a1, .ref a2, .ref a3, .ref a4, .ref a5, .int tt, .int wf, .int ww, .int te, .int tn, .int mo])), (a3, .inr (3, [.int 0, .ref g.2.1, .int 0]))] (fun v w => (v = none ∧ w = [(h0, .inr (15, [.ref a1, .ref a2, .ref a3, .ref a4, .ref a5, .int tt, .int wf, .int ww, .int te, .int tn, .int mo])), (a3, .inr (3, [.int 0, .ref g.2.1, .int 0]))])) (fun _ _ => False) := by
  refine kbody (by decide) (Nat.le_of_ble_eq_true rfl) ?_
  intro p e s m args below meth c A H K ht G hP hD hA hS ls hl
  have K : KB p s m meth c RX11 "moveShips" prog_1_method_87_code 3 none := K
  obtain ⟨hx, hb, hml, hown, hlocks, hr, hin⟩ := id K
  have hl : lv_has ls 3 [(0, .ref h0)] := hl
  refine lv_iconst (v := 0) hx hb dX11_moveShips_0 (by decide) ?_
  refine lv_istore_n (lv' := [(1, .int 0), (0, .ref h0)]) hx hb dX11_moveShips_1 rfl hl (by decide) rfl (fun ls hl => ?_)
  refine lv_iload_n hx hb dX11_moveShips_2 rfl (lv_at hl 0 rfl) ?_
  refine lv_aload_n hx hb dX11_moveShips_3 rfl (lv_at hl 1 rfl) ?_
  refine va_get (D := g.1) (ci := 15) (v := .ref a3) (C := RX11) (T := TX11) (N := 11) hx hb G.ws inX11 hown G.K hP 0 rfl rfl 2 (by decide) (G.w kw_52) (fun _ h9 => h9) rfl dX11_moveShips_4 ?_
  refine kcallV (wc := [(a3, .inr (3, [.int 0, .ref g.2.1, .int 0]))]) (wr := [(h0, .inr (15, [.ref a1, .ref a2, .ref a3, .ref a4, .ref a5, .int tt, .int wf, .int ww, .int te, .int tn, .int mo]))]) (As := []) (rest := [.int 0]) K G (m_Jx4a65c_size_8abf5 l hl0 g a3 0 g.2.1 0 ) hP hD hS hA hl kw_44 kw_45 kw_46 kw_47 kw_30 ydJx4a65c_size_8abf5 [1] [0] rfl rfl rfl rfl (by decide) (ci := 3) (q0 := 1) rfl rfl rfl rfl rfl (Nat.le_of_ble_eq_true rfl) dX11_moveShips_7 ⟨Nat.le_of_ble_eq_true rfl, Nat.le_of_ble_eq_true rfl⟩ ⟨Nat.le_of_ble_eq_true rfl, Nat.le_of_ble_eq_true rfl⟩ (fun _ _ _ _ _ _ hX _ _ _ _ _ _ => hX.elim) (fun v w1 H locs hQ hP hD hS => ?_)
  obtain ⟨rfl, rfl⟩ := hQ
  have hP : va_P g.1 vwCl [(h0, .inr (15, [.ref a1, .ref a2, .ref a3, .ref a4, .ref a5, .int tt, .int wf, .int ww, .int te, .int tn, .int mo])), (a3, .inr (3, [.int 0, .ref g.2.1, .int 0]))] H := hP
  have hD : va_D A [(h0, .inr (15, [.ref a1, .ref a2, .ref a3, .ref a4, .ref a5, .int tt, .int wf, .int ww, .int te, .int tn, .int mo])), (a3, .inr (3, [.int 0, .ref g.2.1, .int 0]))] := hD
  refine W.widen (k := 0) (n := 0) (by decide) (by decide) ?_
  refine W.eq (g2 := F0 m 10 ls [.int 0, .int 0]) rfl ?_
  refine lv_icmp_ge (tgt := 44) hx hb dX11_moveShips_10 (by decide) (fun _ => ?_) (fun c10_2 => absurd c10_2 (by decide))
  exact kretV K hP hD hS [0, 1] [(h0, .inr (15, [.ref a1, .ref a2, .ref a3, .ref a4, .ref a5, .int tt, .int wf, .int ww, .int te, .int tn, .int mo])), (a3, .inr (3, [.int 0, .ref g.2.1, .int 0]))] rfl rfl (⟨rfl, rfl⟩) (by decide) (by decide) dX11_moveShips_44

set_option maxHeartbeats 4000000 in
set_option maxRecDepth 100000 in
theorem m_X11_listen (l : Launch) (hl0 : l.stackTraces = false) (g : kG) (h0 : Nat) (a1 : Nat) (a2 : Nat) (a3 : Nat) (a4 : Nat) (a5 : Nat) (tt : Int32) (wf : Int32) (ww : Int32) (te : Int32) (tn : Int32) (mo : Int32)  : kc l g yX11_listen prog_1_method_75_code 3 none 1 20 0 0 [.ref h0] [(h0, .inr (15, [.ref a1, .ref a2, .ref a3, .ref a4, .ref a5, .int tt, .int wf, .int ww, .int te, .int tn, .int mo])), (a2, .inr (3, [.int 0, .ref g.2.1, .int 0])), (a3, .inr (3, [.int 0, .ref g.2.1, .int 0]))] (fun v w => (v = none ∧ w = [(h0, .inr (15, [.ref a1, .ref a2, .ref a3, .ref a4, .ref a5, .int tt, .int wf, .int ww, .int te, .int tn, .int mo])), (a2, .inr (3, [.int 0, .ref g.2.1, .int 0])), (a3, .inr (3, [.int 0, .ref g.2.1, .int 0]))])) (fun _ _ => False) := by
  refine kbody (by decide) (Nat.le_of_ble_eq_true rfl) ?_
  intro p e s m args below meth c A H K ht G hP hD hA hS ls hl
  have K : KB p s m meth c RX11 "listen" prog_1_method_75_code 3 none := K
  obtain ⟨hx, hb, hml, hown, hlocks, hr, hin⟩ := id K
  have hl : lv_has ls 3 [(0, .ref h0)] := hl
  refine lv_iconst (v := 0) hx hb dX11_listen_0 (by decide) ?_
  refine lv_istore_n (lv' := [(1, .int 0), (0, .ref h0)]) hx hb dX11_listen_1 rfl hl (by decide) rfl (fun ls hl => ?_)
  refine lv_iload_n hx hb dX11_listen_2 rfl (lv_at hl 0 rfl) ?_
  refine lv_aload_n hx hb dX11_listen_3 rfl (lv_at hl 1 rfl) ?_
  refine va_get (D := g.1) (ci := 15) (v := .ref a3) (C := RX11) (T := TX11) (N := 11) hx hb G.ws inX11 hown G.K hP 0 rfl rfl 2 (by decide) (G.w kw_52) (fun _ h9 => h9) rfl dX11_listen_4 ?_
  refine kcallV (wc := [(a3, .inr (3, [.int 0, .ref g.2.1, .int 0]))]) (wr := [(h0, .inr (15, [.ref a1, .ref a2, .ref a3, .ref a4, .ref a5, .int tt, .int wf, .int ww, .int te, .int tn, .int mo])), (a2, .inr (3, [.int 0, .ref g.2.1, .int 0]))]) (As := []) (rest := [.int 0]) K G (m_Jx4a65c_size_8abf5 l hl0 g a3 0 g.2.1 0 ) hP hD hS hA hl kw_44 kw_45 kw_46 kw_47 kw_30 ydJx4a65c_size_8abf5 [2] [0, 1] rfl rfl rfl rfl (by decide) (ci := 3) (q0 := 2) rfl rfl rfl rfl rfl (Nat.le_of_ble_eq_true rfl) dX11_listen_7 ⟨Nat.le_of_ble_eq_true rfl, Nat.le_of_ble_eq_true rfl⟩ ⟨Nat.le_of_ble_eq_true rfl, Nat.le_of_ble_eq_true rfl⟩ (fun _ _ _ _ _ _ hX _ _ _ _ _ _ => hX.elim) (fun v w1 H locs hQ hP hD hS => ?_)
  obtain ⟨rfl, rfl⟩ := hQ
  have hP : va_P g.1 vwCl [(h0, .inr (15, [.ref a1, .ref a2, .ref a3, .ref a4, .ref a5, .int tt, .int wf, .int ww, .int te, .int tn, .int mo])), (a2, .inr (3, [.int 0, .ref g.2.1, .int 0])), (a3, .inr (3, [.int 0, .ref g.2.1, .int 0]))] H := hP
  have hD : va_D A [(h0, .inr (15, [.ref a1, .ref a2, .ref a3, .ref a4, .ref a5, .int tt, .int wf, .int ww, .int te, .int tn, .int mo])), (a2, .inr (3, [.int 0, .ref g.2.1, .int 0])), (a3, .inr (3, [.int 0, .ref g.2.1, .int 0]))] := hD
  refine W.widen (k := 0) (n := 0) (by decide) (by decide) ?_
  refine W.eq (g2 := F0 m 10 ls [.int 0, .int 0]) rfl ?_
  refine lv_icmp_ge (tgt := 34) hx hb dX11_listen_10 (by decide) (fun _ => ?_) (fun c10_2 => absurd c10_2 (by decide))
  refine lv_iconst (v := 0) hx hb dX11_listen_34 (by decide) ?_
  refine lv_istore_n (lv' := [(1, .int 0), (0, .ref h0)]) hx hb dX11_listen_35 rfl hl (by decide) rfl (fun ls hl => ?_)
  refine lv_iload_n hx hb dX11_listen_36 rfl (lv_at hl 0 rfl) ?_
  refine lv_aload_n hx hb dX11_listen_37 rfl (lv_at hl 1 rfl) ?_
  refine va_get (D := g.1) (ci := 15) (v := .ref a2) (C := RX11) (T := TX11) (N := 11) hx hb G.ws inX11 hown G.K hP 0 rfl rfl 1 (by decide) (G.w kw_51) (fun _ h9 => h9) rfl dX11_listen_38 ?_
  refine kcallV (wc := [(a2, .inr (3, [.int 0, .ref g.2.1, .int 0]))]) (wr := [(h0, .inr (15, [.ref a1, .ref a2, .ref a3, .ref a4, .ref a5, .int tt, .int wf, .int ww, .int te, .int tn, .int mo])), (a3, .inr (3, [.int 0, .ref g.2.1, .int 0]))]) (As := []) (rest := [.int 0]) K G (m_Jx4a65c_size_8abf5 l hl0 g a2 0 g.2.1 0 ) hP hD hS hA hl kw_44 kw_45 kw_46 kw_47 kw_30 ydJx4a65c_size_8abf5 [1] [0, 2] rfl rfl rfl rfl (by decide) (ci := 3) (q0 := 1) rfl rfl rfl rfl rfl (Nat.le_of_ble_eq_true rfl) dX11_listen_41 ⟨Nat.le_of_ble_eq_true rfl, Nat.le_of_ble_eq_true rfl⟩ ⟨Nat.le_of_ble_eq_true rfl, Nat.le_of_ble_eq_true rfl⟩ (fun _ _ _ _ _ _ hX _ _ _ _ _ _ => hX.elim) (fun v w1 H locs hQ hP hD hS => ?_)
  obtain ⟨rfl, rfl⟩ := hQ
  have hP : va_P g.1 vwCl [(h0, .inr (15, [.ref a1, .ref a2, .ref a3, .ref a4, .ref a5, .int tt, .int wf, .int ww, .int te, .int tn, .int mo])), (a3, .inr (3, [.int 0, .ref g.2.1, .int 0])), (a2, .inr (3, [.int 0, .ref g.2.1, .int 0]))] H := hP
  have hD : va_D A [(h0, .inr (15, [.ref a1, .ref a2, .ref a3, .ref a4, .ref a5, .int tt, .int wf, .int ww, .int te, .int tn, .int mo])), (a3, .inr (3, [.int 0, .ref g.2.1, .int 0])), (a2, .inr (3, [.int 0, .ref g.2.1, .int 0]))] := hD
  refine W.widen (k := 0) (n := 0) (by decide) (by decide) ?_
  refine W.eq (g2 := F0 m 44 ls [.int 0, .int 0]) rfl ?_
  refine lv_icmp_ge (tgt := 121) hx hb dX11_listen_44 (by decide) (fun _ => ?_) (fun c44_4 => absurd c44_4 (by decide))
  exact kretV K hP hD hS [0, 2, 1] [(h0, .inr (15, [.ref a1, .ref a2, .ref a3, .ref a4, .ref a5, .int tt, .int wf, .int ww, .int te, .int tn, .int mo])), (a2, .inr (3, [.int 0, .ref g.2.1, .int 0])), (a3, .inr (3, [.int 0, .ref g.2.1, .int 0]))] rfl rfl (⟨rfl, rfl⟩) (by decide) (by decide) dX11_listen_121

set_option maxHeartbeats 4000000 in
set_option maxRecDepth 100000 in
theorem m_X11_eatAndTire (l : Launch) (hl0 : l.stackTraces = false) (g : kG) (h0 : Nat) (a1 : Nat) (a2 : Nat) (a3 : Nat) (a4 : Nat) (a5 : Nat) (tt : Int32) (wf : Int32) (ww : Int32) (te : Int32) (tn : Int32) (mo : Int32)  : kc l g yX11_eatAndTire prog_1_method_85_code 3 none 1 20 0 0 [.ref h0] [(h0, .inr (15, [.ref a1, .ref a2, .ref a3, .ref a4, .ref a5, .int tt, .int wf, .int ww, .int te, .int tn, .int mo])), (a3, .inr (3, [.int 0, .ref g.2.1, .int 0])), (a4, .inr (3, [.int 0, .ref g.2.1, .int 0]))] (fun v w => (v = none ∧ w = [(h0, .inr (15, [.ref a1, .ref a2, .ref a3, .ref a4, .ref a5, .int tt, .int wf, .int ww, .int te, .int tn, .int mo])), (a3, .inr (3, [.int 0, .ref g.2.1, .int 0])), (a4, .inr (3, [.int 0, .ref g.2.1, .int 0]))])) (fun _ _ => False) := by
  refine kbody (by decide) (Nat.le_of_ble_eq_true rfl) ?_
  intro p e s m args below meth c A H K ht G hP hD hA hS ls hl
  have K : KB p s m meth c RX11 "eatAndTire" prog_1_method_85_code 3 none := K
  obtain ⟨hx, hb, hml, hown, hlocks, hr, hin⟩ := id K
  have hl : lv_has ls 3 [(0, .ref h0)] := hl
  refine lv_iconst (v := 0) hx hb dX11_eatAndTire_0 (by decide) ?_
  refine lv_istore_n (lv' := [(1, .int 0), (0, .ref h0)]) hx hb dX11_eatAndTire_1 rfl hl (by decide) rfl (fun ls hl => ?_)
  refine lv_iload_n hx hb dX11_eatAndTire_2 rfl (lv_at hl 0 rfl) ?_
  refine lv_aload_n hx hb dX11_eatAndTire_3 rfl (lv_at hl 1 rfl) ?_
  refine va_get (D := g.1) (ci := 15) (v := .ref a3) (C := RX11) (T := TX11) (N := 11) hx hb G.ws inX11 hown G.K hP 0 rfl rfl 2 (by decide) (G.w kw_52) (fun _ h9 => h9) rfl dX11_eatAndTire_4 ?_
  refine kcallV (wc := [(a3, .inr (3, [.int 0, .ref g.2.1, .int 0]))]) (wr := [(h0, .inr (15, [.ref a1, .ref a2, .ref a3, .ref a4, .ref a5, .int tt, .int wf, .int ww, .int te, .int tn, .int mo])), (a4, .inr (3, [.int 0, .ref g.2.1, .int 0]))]) (As := []) (rest := [.int 0]) K G (m_Jx4a65c_size_8abf5 l hl0 g a3 0 g.2.1 0 ) hP hD hS hA hl kw_44 kw_45 kw_46 kw_47 kw_30 ydJx4a65c_size_8abf5 [1] [0, 2] rfl rfl rfl rfl (by decide) (ci := 3) (q0 := 1) rfl rfl rfl rfl rfl (Nat.le_of_ble_eq_true rfl) dX11_eatAndTire_7 ⟨Nat.le_of_ble_eq_true rfl, Nat.le_of_ble_eq_true rfl⟩ ⟨Nat.le_of_ble_eq_true rfl, Nat.le_of_ble_eq_true rfl⟩ (fun _ _ _ _ _ _ hX _ _ _ _ _ _ => hX.elim) (fun v w1 H locs hQ hP hD hS => ?_)
  obtain ⟨rfl, rfl⟩ := hQ
  have hP : va_P g.1 vwCl [(h0, .inr (15, [.ref a1, .ref a2, .ref a3, .ref a4, .ref a5, .int tt, .int wf, .int ww, .int te, .int tn, .int mo])), (a4, .inr (3, [.int 0, .ref g.2.1, .int 0])), (a3, .inr (3, [.int 0, .ref g.2.1, .int 0]))] H := hP
  have hD : va_D A [(h0, .inr (15, [.ref a1, .ref a2, .ref a3, .ref a4, .ref a5, .int tt, .int wf, .int ww, .int te, .int tn, .int mo])), (a4, .inr (3, [.int 0, .ref g.2.1, .int 0])), (a3, .inr (3, [.int 0, .ref g.2.1, .int 0]))] := hD
  refine W.widen (k := 0) (n := 0) (by decide) (by decide) ?_
  refine W.eq (g2 := F0 m 10 ls [.int 0, .int 0]) rfl ?_
  refine lv_icmp_ge (tgt := 38) hx hb dX11_eatAndTire_10 (by decide) (fun _ => ?_) (fun c10_2 => absurd c10_2 (by decide))
  refine lv_iconst (v := 0) hx hb dX11_eatAndTire_38 (by decide) ?_
  refine lv_istore_n (lv' := [(1, .int 0), (0, .ref h0)]) hx hb dX11_eatAndTire_39 rfl hl (by decide) rfl (fun ls hl => ?_)
  refine lv_iload_n hx hb dX11_eatAndTire_40 rfl (lv_at hl 0 rfl) ?_
  refine lv_aload_n hx hb dX11_eatAndTire_41 rfl (lv_at hl 1 rfl) ?_
  refine va_get (D := g.1) (ci := 15) (v := .ref a4) (C := RX11) (T := TX11) (N := 11) hx hb G.ws inX11 hown G.K hP 0 rfl rfl 3 (by decide) (G.w kw_53) (fun _ h9 => h9) rfl dX11_eatAndTire_42 ?_
  refine kcallV (wc := [(a4, .inr (3, [.int 0, .ref g.2.1, .int 0]))]) (wr := [(h0, .inr (15, [.ref a1, .ref a2, .ref a3, .ref a4, .ref a5, .int tt, .int wf, .int ww, .int te, .int tn, .int mo])), (a3, .inr (3, [.int 0, .ref g.2.1, .int 0]))]) (As := []) (rest := [.int 0]) K G (m_Jx4a65c_size_8abf5 l hl0 g a4 0 g.2.1 0 ) hP hD hS hA hl kw_44 kw_45 kw_46 kw_47 kw_30 ydJx4a65c_size_8abf5 [1] [0, 2] rfl rfl rfl rfl (by decide) (ci := 3) (q0 := 1) rfl rfl rfl rfl rfl (Nat.le_of_ble_eq_true rfl) dX11_eatAndTire_45 ⟨Nat.le_of_ble_eq_true rfl, Nat.le_of_ble_eq_true rfl⟩ ⟨Nat.le_of_ble_eq_true rfl, Nat.le_of_ble_eq_true rfl⟩ (fun _ _ _ _ _ _ hX _ _ _ _ _ _ => hX.elim) (fun v w1 H locs hQ hP hD hS => ?_)
  obtain ⟨rfl, rfl⟩ := hQ
  have hP : va_P g.1 vwCl [(h0, .inr (15, [.ref a1, .ref a2, .ref a3, .ref a4, .ref a5, .int tt, .int wf, .int ww, .int te, .int tn, .int mo])), (a3, .inr (3, [.int 0, .ref g.2.1, .int 0])), (a4, .inr (3, [.int 0, .ref g.2.1, .int 0]))] H := hP
  have hD : va_D A [(h0, .inr (15, [.ref a1, .ref a2, .ref a3, .ref a4, .ref a5, .int tt, .int wf, .int ww, .int te, .int tn, .int mo])), (a3, .inr (3, [.int 0, .ref g.2.1, .int 0])), (a4, .inr (3, [.int 0, .ref g.2.1, .int 0]))] := hD
  refine W.widen (k := 0) (n := 0) (by decide) (by decide) ?_
  refine W.eq (g2 := F0 m 48 ls [.int 0, .int 0]) rfl ?_
  refine lv_icmp_ge (tgt := 87) hx hb dX11_eatAndTire_48 (by decide) (fun _ => ?_) (fun c48_4 => absurd c48_4 (by decide))
  exact kretV K hP hD hS [0, 1, 2] [(h0, .inr (15, [.ref a1, .ref a2, .ref a3, .ref a4, .ref a5, .int tt, .int wf, .int ww, .int te, .int tn, .int mo])), (a3, .inr (3, [.int 0, .ref g.2.1, .int 0])), (a4, .inr (3, [.int 0, .ref g.2.1, .int 0]))] rfl rfl (⟨rfl, rfl⟩) (by decide) (by decide) dX11_eatAndTire_87

set_option maxHeartbeats 4000000 in
set_option maxRecDepth 100000 in
theorem m_X11_gatherSalt (l : Launch) (hl0 : l.stackTraces = false) (g : kG) (h0 : Nat) (a1 : Nat) (a2 : Nat) (a3 : Nat) (a4 : Nat) (a5 : Nat) (tt : Int32) (wf : Int32) (ww : Int32) (te : Int32) (tn : Int32) (mo : Int32)  : kc l g yX11_gatherSalt prog_1_method_86_code 3 none 1 20 0 0 [.ref h0] [(h0, .inr (15, [.ref a1, .ref a2, .ref a3, .ref a4, .ref a5, .int tt, .int wf, .int ww, .int te, .int tn, .int mo])), (a3, .inr (3, [.int 0, .ref g.2.1, .int 0]))] (fun v w => (v = none ∧ w = [(h0, .inr (15, [.ref a1, .ref a2, .ref a3, .ref a4, .ref a5, .int tt, .int wf, .int ww, .int te, .int tn, .int mo])), (a3, .inr (3, [.int 0, .ref g.2.1, .int 0]))])) (fun _ _ => False) := by
  refine kbody (by decide) (Nat.le_of_ble_eq_true rfl) ?_
  intro p e s m args below meth c A H K ht G hP hD hA hS ls hl
  have K : KB p s m meth c RX11 "gatherSalt" prog_1_method_86_code 3 none := K
  obtain ⟨hx, hb, hml, hown, hlocks, hr, hin⟩ := id K
  have hl : lv_has ls 3 [(0, .ref h0)] := hl
  refine lv_aload_n hx hb dX11_gatherSalt_0 rfl (lv_at hl 0 rfl) ?_
  refine va_get (D := g.1) (ci := 15) (v := .int wf) (C := RX11) (T := TX11) (N := 11) hx hb G.ws inX11 hown G.K hP 0 rfl rfl 6 (by decide) (G.w kw_77) (fun _ h9 => h9) rfl dX11_gatherSalt_1 ?_
  refine lv_bipush (v := 7) hx hb dX11_gatherSalt_4 (by decide) ?_
  refine lv_icmp_lt (tgt := 55) hx hb dX11_gatherSalt_6 (by decide) (fun c6_1 => ?_) (fun c6_1 => ?_)
  · exact kretV K hP hD hS [0, 1] [(h0, .inr (15, [.ref a1, .ref a2, .ref a3, .ref a4, .ref a5, .int tt, .int wf, .int ww, .int te, .int tn, .int mo])), (a3, .inr (3, [.int 0, .ref g.2.1, .int 0]))] rfl rfl (⟨rfl, rfl⟩) (by decide) (by decide) dX11_gatherSalt_55
  · refine lv_iconst (v := 0) hx hb dX11_gatherSalt_9 (by decide) ?_
    refine lv_istore_n (lv' := [(1, .int 0), (0, .ref h0)]) hx hb dX11_gatherSalt_10 rfl hl (by decide) rfl (fun ls hl => ?_)
    refine lv_iload_n hx hb dX11_gatherSalt_11 rfl (lv_at hl 0 rfl) ?_
    refine lv_aload_n hx hb dX11_gatherSalt_12 rfl (lv_at hl 1 rfl) ?_
    refine va_get (D := g.1) (ci := 15) (v := .ref a3) (C := RX11) (T := TX11) (N := 11) hx hb G.ws inX11 hown G.K hP 0 rfl rfl 2 (by decide) (G.w kw_52) (fun _ h9 => h9) rfl dX11_gatherSalt_13 ?_
    refine kcallV (wc := [(a3, .inr (3, [.int 0, .ref g.2.1, .int 0]))]) (wr := [(h0, .inr (15, [.ref a1, .ref a2, .ref a3, .ref a4, .ref a5, .int tt, .int wf, .int ww, .int te, .int tn, .int mo]))]) (As := []) (rest := [.int 0]) K G (m_Jx4a65c_size_8abf5 l hl0 g a3 0 g.2.1 0 ) hP hD hS hA hl kw_44 kw_45 kw_46 kw_47 kw_30 ydJx4a65c_size_8abf5 [1] [0] rfl rfl rfl rfl (by decide) (ci := 3) (q0 := 1) rfl rfl rfl rfl rfl (Nat.le_of_ble_eq_true rfl) dX11_gatherSalt_16 ⟨Nat.le_of_ble_eq_true rfl, Nat.le_of_ble_eq_true rfl⟩ ⟨Nat.le_of_ble_eq_true rfl, Nat.le_of_ble_eq_true rfl⟩ (fun _ _ _ _ _ _ hX _ _ _ _ _ _ => hX.elim) (fun v w1 H locs hQ hP hD hS => ?_)
    obtain ⟨rfl, rfl⟩ := hQ
    have hP : va_P g.1 vwCl [(h0, .inr (15, [.ref a1, .ref a2, .ref a3, .ref a4, .ref a5, .int tt, .int wf, .int ww, .int te, .int tn, .int mo])), (a3, .inr (3, [.int 0, .ref g.2.1, .int 0]))] H := hP
    have hD : va_D A [(h0, .inr (15, [.ref a1, .ref a2, .ref a3, .ref a4, .ref a5, .int tt, .int wf, .int ww, .int te, .int tn, .int mo])), (a3, .inr (3, [.int 0, .ref g.2.1, .int 0]))] := hD
    refine W.widen (k := 0) (n := 0) (by decide) (by decide) ?_
    refine W.eq (g2 := F0 m 19 ls [.int 0, .int 0]) rfl ?_
    refine lv_icmp_ge (tgt := 55) hx hb dX11_gatherSalt_19 (by decide) (fun _ => ?_) (fun c19_3 => absurd c19_3 (by decide))
    exact kretV K hP hD hS [0, 1] [(h0, .inr (15, [.ref a1, .ref a2, .ref a3, .ref a4, .ref a5, .int tt, .int wf, .int ww, .int te, .int tn, .int mo])), (a3, .inr (3, [.int 0, .ref g.2.1, .int 0]))] rfl rfl (⟨rfl, rfl⟩) (by decide) (by decide) dX11_gatherSalt_55
end
section
set_option maxHeartbeats 4000000 in
set_option maxRecDepth 100000 in
theorem m_X11_passHour (l : Launch) (hl0 : l.stackTraces = false) (g : kG) (h0 : Nat) (a1 : Nat) (a2 : Nat) (a3 : Nat) (a4 : Nat) (a5 : Nat) (tt : Int32) (wf : Int32) (ww : Int32) (te : Int32) (tn : Int32) (mo : Int32)  : kc l g yX11_passHour prog_1_method_72_code 1 none 2 42 0 0 [.ref h0] [(h0, .inr (15, [.ref a1, .ref a2, .ref a3, .ref a4, .ref a5, .int tt, .int wf, .int ww, .int te, .int tn, .int mo])), (a2, .inr (3, [.int 0, .ref g.2.1, .int 0])), (a3, .inr (3, [.int 0, .ref g.2.1, .int 0])), (a4, .inr (3, [.int 0, .ref g.2.1, .int 0]))] (fun v w => (v = none ∧ w = [(h0, .inr (15, [.ref a1, .ref a2, .ref a3, .ref a4, .ref a5, .int (tt + 1), .int wf, .int ww, .int te, .int tn, .int mo])), (a2, .inr (3, [.int 0, .ref g.2.1, .int 0])), (a3, .inr (3, [.int 0, .ref g.2.1, .int 0])), (a4, .inr (3, [.int 0, .ref g.2.1, .int 0]))])) (fun _ _ => False) := by
  refine kbody (by decide) (Nat.le_of_ble_eq_true rfl) ?_
  intro p e s m args below meth c A H K ht G hP hD hA hS ls hl
  have K : KB p s m meth c RX11 "passHour" prog_1_method_72_code 1 none := K
  obtain ⟨hx, hb, hml, hown, hlocks, hr, hin⟩ := id K
  have hl : lv_has ls 1 [(0, .ref h0)] := hl
  refine lv_aload_n hx hb dX11_passHour_0 rfl (lv_at hl 0 rfl) ?_
  refine kcallV (wc := [(h0, .inr (15, [.ref a1, .ref a2, .ref a3, .ref a4, .ref a5, .int tt, .int wf, .int ww, .int te, .int tn, .int mo])), (a3, .inr (3, [.int 0, .ref g.2.1, .int 0]))]) (wr := [(a2, .inr (3, [.int 0, .ref g.2.1, .int 0])), (a4, .inr (3, [.int 0, .ref g.2.1, .int 0]))]) (As := []) (rest := []) K G (m_X11_runGenerators l hl0 g h0 a1 a2 a3 a4 a5 tt wf ww te tn mo ) hP hD hS hA hl kw_78 kw_79 kw_80 kw_81 kw_4 ydX11_runGenerators [0, 2] [1, 3] rfl rfl rfl rfl (by decide) (ci := 15) (q0 := 0) rfl rfl rfl rfl rfl (Nat.le_of_ble_eq_true rfl) dX11_passHour_1 ⟨Nat.le_of_ble_eq_true rfl, Nat.le_of_ble_eq_true rfl⟩ ⟨Nat.le_of_ble_eq_true rfl, Nat.le_of_ble_eq_true rfl⟩ (fun _ _ _ _ _ _ hX _ _ _ _ _ _ => hX.elim) (fun v w1 H locs hQ hP hD hS => ?_)
  obtain ⟨rfl, rfl⟩ := hQ
  have hP : va_P g.1 vwCl [(a2, .inr (3, [.int 0, .ref g.2.1, .int 0])), (a4, .inr (3, [.int 0, .ref g.2.1, .int 0])), (h0, .inr (15, [.ref a1, .ref a2, .ref a3, .ref a4, .ref a5, .int tt, .int wf, .int ww, .int te, .int tn, .int mo])), (a3, .inr (3, [.int 0, .ref g.2.1, .int 0]))] H := hP
  have hD : va_D A [(a2, .inr (3, [.int 0, .ref g.2.1, .int 0])), (a4, .inr (3, [.int 0, .ref g.2.1, .int 0])), (h0, .inr (15, [.ref a1, .ref a2, .ref a3, .ref a4, .ref a5, .int tt, .int wf, .int ww, .int te, .int tn, .int mo])), (a3, .inr (3, [.int 0, .ref g.2.1, .int 0]))] := hD
  refine W.widen (k := 0) (n := 0) (by decide) (by decide) ?_
  refine W.eq (g2 := F0 m 4 ls []) rfl ?_
  refine lv_aload_n hx hb dX11_passHour_4 rfl (lv_at hl 0 rfl) ?_
  refine kcallV (wc := [(h0, .inr (15, [.ref a1, .ref a2, .ref a3, .ref a4, .ref a5, .int tt, .int wf, .int ww, .int te, .int tn, .int mo])), (a3, .inr (3, [.int 0, .ref g.2.1, .int 0]))]) (wr := [(a2, .inr (3, [.int 0, .ref g.2.1, .int 0])), (a4, .inr (3, [.int 0, .ref g.2.1, .int 0]))]) (As := []) (rest := []) K G (m_X11_goOnAir l hl0 g h0 a1 a2 a3 a4 a5 tt wf ww te tn mo ) hP hD hS hA hl kw_82 kw_83 kw_84 kw_85 kw_4 ydX11_goOnAir [2, 3] [0, 1] rfl rfl rfl rfl (by decide) (ci := 15) (q0 := 2) rfl rfl rfl rfl rfl (Nat.le_of_ble_eq_true rfl) dX11_passHour_5 ⟨Nat.le_of_ble_eq_true rfl, Nat.le_of_ble_eq_true rfl⟩ ⟨Nat.le_of_ble_eq_true rfl, Nat.le_of_ble_eq_true rfl⟩ (fun _ _ _ _ _ _ hX _ _ _ _ _ _ => hX.elim) (fun v w1 H locs hQ hP hD hS => ?_)
  obtain ⟨rfl, rfl⟩ := hQ
  have hP : va_P g.1 vwCl [(a2, .inr (3, [.int 0, .ref g.2.1, .int 0])), (a4, .inr (3, [.int 0, .ref g.2.1, .int 0])), (h0, .inr (15, [.ref a1, .ref a2, .ref a3, .ref a4, .ref a5, .int tt, .int wf, .int ww, .int te, .int tn, .int mo])), (a3, .inr (3, [.int 0, .ref g.2.1, .int 0]))] H := hP
  have hD : va_D A [(a2, .inr (3, [.int 0, .ref g.2.1, .int 0])), (a4, .inr (3, [.int 0, .ref g.2.1, .int 0])), (h0, .inr (15, [.ref a1, .ref a2, .ref a3, .ref a4, .ref a5, .int tt, .int wf, .int ww, .int te, .int tn, .int mo])), (a3, .inr (3, [.int 0, .ref g.2.1, .int 0]))] := hD
  refine W.widen (k := 0) (n := 0) (by decide) (by decide) ?_
  refine W.eq (g2 := F0 m 8 ls []) rfl ?_
  refine lv_aload_n hx hb dX11_passHour_8 rfl (lv_at hl 0 rfl) ?_
  refine kcallV (wc := [(h0, .inr (15, [.ref a1, .ref a2, .ref a3, .ref a4, .ref a5, .int tt, .int wf, .int ww, .int te, .int tn, .int mo])), (a2, .inr (3, [.int 0, .ref g.2.1, .int 0])), (a3, .inr (3, [.int 0, .ref g.2.1, .int 0]))]) (wr := [(a4, .inr (3, [.int 0, .ref g.2.1, .int 0]))]) (As := []) (rest := []) K G (m_X11_listen l hl0 g h0 a1 a2 a3 a4 a5 tt wf ww te tn mo ) hP hD hS hA hl kw_86 kw_87 kw_88 kw_89 kw_4 ydX11_listen [2, 0, 3] [1] rfl rfl rfl rfl (by decide) (ci := 15) (q0 := 2) rfl rfl rfl rfl rfl (Nat.le_of_ble_eq_true rfl) dX11_passHour_9 ⟨Nat.le_of_ble_eq_true rfl, Nat.le_of_ble_eq_true rfl⟩ ⟨Nat.le_of_ble_eq_true rfl, Nat.le_of_ble_eq_true rfl⟩ (fun _ _ _ _ _ _ hX _ _ _ _ _ _ => hX.elim) (fun v w1 H locs hQ hP hD hS => ?_)
  obtain ⟨rfl, rfl⟩ := hQ
  have hP : va_P g.1 vwCl [(a4, .inr (3, [.int 0, .ref g.2.1, .int 0])), (h0, .inr (15, [.ref a1, .ref a2, .ref a3, .ref a4, .ref a5, .int tt, .int wf, .int ww, .int te, .int tn, .int mo])), (a2, .inr (3, [.int 0, .ref g.2.1, .int 0])), (a3, .inr (3, [.int 0, .ref g.2.1, .int 0]))] H := hP
  have hD : va_D A [(a4, .inr (3, [.int 0, .ref g.2.1, .int 0])), (h0, .inr (15, [.ref a1, .ref a2, .ref a3, .ref a4, .ref a5, .int tt, .int wf, .int ww, .int te, .int tn, .int mo])), (a2, .inr (3, [.int 0, .ref g.2.1, .int 0])), (a3, .inr (3, [.int 0, .ref g.2.1, .int 0]))] := hD
  refine W.widen (k := 0) (n := 0) (by decide) (by decide) ?_
  refine W.eq (g2 := F0 m 12 ls []) rfl ?_
  refine lv_aload_n hx hb dX11_passHour_12 rfl (lv_at hl 0 rfl) ?_
  refine kcallV (wc := [(h0, .inr (15, [.ref a1, .ref a2, .ref a3, .ref a4, .ref a5, .int tt, .int wf, .int ww, .int te, .int tn, .int mo])), (a3, .inr (3, [.int 0, .ref g.2.1, .int 0]))]) (wr := [(a4, .inr (3, [.int 0, .ref g.2.1, .int 0])), (a2, .inr (3, [.int 0, .ref g.2.1, .int 0]))]) (As := []) (rest := []) K G (m_X11_playSpots l hl0 g h0 a1 a2 a3 a4 a5 tt wf ww te tn mo ) hP hD hS hA hl kw_90 kw_91 kw_92 kw_93 kw_4 ydX11_playSpots [1, 3] [0, 2] rfl rfl rfl rfl (by decide) (ci := 15) (q0 := 1) rfl rfl rfl rfl rfl (Nat.le_of_ble_eq_true rfl) dX11_passHour_13 ⟨Nat.le_of_ble_eq_true rfl, Nat.le_of_ble_eq_true rfl⟩ ⟨Nat.le_of_ble_eq_true rfl, Nat.le_of_ble_eq_true rfl⟩ (fun _ _ _ _ _ _ hX _ _ _ _ _ _ => hX.elim) (fun v w1 H locs hQ hP hD hS => ?_)
  obtain ⟨rfl, rfl⟩ := hQ
  have hP : va_P g.1 vwCl [(a4, .inr (3, [.int 0, .ref g.2.1, .int 0])), (a2, .inr (3, [.int 0, .ref g.2.1, .int 0])), (h0, .inr (15, [.ref a1, .ref a2, .ref a3, .ref a4, .ref a5, .int tt, .int wf, .int ww, .int te, .int tn, .int mo])), (a3, .inr (3, [.int 0, .ref g.2.1, .int 0]))] H := hP
  have hD : va_D A [(a4, .inr (3, [.int 0, .ref g.2.1, .int 0])), (a2, .inr (3, [.int 0, .ref g.2.1, .int 0])), (h0, .inr (15, [.ref a1, .ref a2, .ref a3, .ref a4, .ref a5, .int tt, .int wf, .int ww, .int te, .int tn, .int mo])), (a3, .inr (3, [.int 0, .ref g.2.1, .int 0]))] := hD
  refine W.widen (k := 0) (n := 0) (by decide) (by decide) ?_
  refine W.eq (g2 := F0 m 16 ls []) rfl ?_
  refine lv_aload_n hx hb dX11_passHour_16 rfl (lv_at hl 0 rfl) ?_
  refine kcallV (wc := [(h0, .inr (15, [.ref a1, .ref a2, .ref a3, .ref a4, .ref a5, .int tt, .int wf, .int ww, .int te, .int tn, .int mo])), (a3, .inr (3, [.int 0, .ref g.2.1, .int 0]))]) (wr := [(a4, .inr (3, [.int 0, .ref g.2.1, .int 0])), (a2, .inr (3, [.int 0, .ref g.2.1, .int 0]))]) (As := []) (rest := []) K G (m_X11_speak l hl0 g h0 a1 a2 a3 a4 a5 tt wf ww te tn mo ) hP hD hS hA hl kw_94 kw_95 kw_96 kw_97 kw_4 ydX11_speak [2, 3] [0, 1] rfl rfl rfl rfl (by decide) (ci := 15) (q0 := 2) rfl rfl rfl rfl rfl (Nat.le_of_ble_eq_true rfl) dX11_passHour_17 ⟨Nat.le_of_ble_eq_true rfl, Nat.le_of_ble_eq_true rfl⟩ ⟨Nat.le_of_ble_eq_true rfl, Nat.le_of_ble_eq_true rfl⟩ (fun _ _ _ _ _ _ hX _ _ _ _ _ _ => hX.elim) (fun v w1 H locs hQ hP hD hS => ?_)
  obtain ⟨rfl, rfl⟩ := hQ
  have hP : va_P g.1 vwCl [(a4, .inr (3, [.int 0, .ref g.2.1, .int 0])), (a2, .inr (3, [.int 0, .ref g.2.1, .int 0])), (h0, .inr (15, [.ref a1, .ref a2, .ref a3, .ref a4, .ref a5, .int tt, .int wf, .int ww, .int te, .int tn, .int mo])), (a3, .inr (3, [.int 0, .ref g.2.1, .int 0]))] H := hP
  have hD : va_D A [(a4, .inr (3, [.int 0, .ref g.2.1, .int 0])), (a2, .inr (3, [.int 0, .ref g.2.1, .int 0])), (h0, .inr (15, [.ref a1, .ref a2, .ref a3, .ref a4, .ref a5, .int tt, .int wf, .int ww, .int te, .int tn, .int mo])), (a3, .inr (3, [.int 0, .ref g.2.1, .int 0]))] := hD
  refine W.widen (k := 0) (n := 0) (by decide) (by decide) ?_
  refine W.eq (g2 := F0 m 20 ls []) rfl ?_
  refine lv_aload_n hx hb dX11_passHour_20 rfl (lv_at hl 0 rfl) ?_
  refine kcallV (wc := [(h0, .inr (15, [.ref a1, .ref a2, .ref a3, .ref a4, .ref a5, .int tt, .int wf, .int ww, .int te, .int tn, .int mo])), (a3, .inr (3, [.int 0, .ref g.2.1, .int 0]))]) (wr := [(a4, .inr (3, [.int 0, .ref g.2.1, .int 0])), (a2, .inr (3, [.int 0, .ref g.2.1, .int 0]))]) (As := []) (rest := []) K G (m_X11_keepHour l hl0 g h0 a1 a2 a3 a4 a5 tt wf ww te tn mo ) hP hD hS hA hl kw_98 kw_99 kw_100 kw_101 kw_4 ydX11_keepHour [2, 3] [0, 1] rfl rfl rfl rfl (by decide) (ci := 15) (q0 := 2) rfl rfl rfl rfl rfl (Nat.le_of_ble_eq_true rfl) dX11_passHour_21 ⟨Nat.le_of_ble_eq_true rfl, Nat.le_of_ble_eq_true rfl⟩ ⟨Nat.le_of_ble_eq_true rfl, Nat.le_of_ble_eq_true rfl⟩ (fun _ _ _ _ _ _ hX _ _ _ _ _ _ => hX.elim) (fun v w1 H locs hQ hP hD hS => ?_)
  obtain ⟨rfl, rfl⟩ := hQ
  have hP : va_P g.1 vwCl [(a4, .inr (3, [.int 0, .ref g.2.1, .int 0])), (a2, .inr (3, [.int 0, .ref g.2.1, .int 0])), (h0, .inr (15, [.ref a1, .ref a2, .ref a3, .ref a4, .ref a5, .int tt, .int wf, .int ww, .int te, .int tn, .int mo])), (a3, .inr (3, [.int 0, .ref g.2.1, .int 0]))] H := hP
  have hD : va_D A [(a4, .inr (3, [.int 0, .ref g.2.1, .int 0])), (a2, .inr (3, [.int 0, .ref g.2.1, .int 0])), (h0, .inr (15, [.ref a1, .ref a2, .ref a3, .ref a4, .ref a5, .int tt, .int wf, .int ww, .int te, .int tn, .int mo])), (a3, .inr (3, [.int 0, .ref g.2.1, .int 0]))] := hD
  refine W.widen (k := 0) (n := 0) (by decide) (by decide) ?_
  refine W.eq (g2 := F0 m 24 ls []) rfl ?_
  refine lv_aload_n hx hb dX11_passHour_24 rfl (lv_at hl 0 rfl) ?_
  refine kcallV (wc := [(h0, .inr (15, [.ref a1, .ref a2, .ref a3, .ref a4, .ref a5, .int tt, .int wf, .int ww, .int te, .int tn, .int mo])), (a3, .inr (3, [.int 0, .ref g.2.1, .int 0])), (a4, .inr (3, [.int 0, .ref g.2.1, .int 0]))]) (wr := [(a2, .inr (3, [.int 0, .ref g.2.1, .int 0]))]) (As := []) (rest := []) K G (m_X11_eatAndTire l hl0 g h0 a1 a2 a3 a4 a5 tt wf ww te tn mo ) hP hD hS hA hl kw_102 kw_103 kw_104 kw_105 kw_4 ydX11_eatAndTire [2, 3, 0] [1] rfl rfl rfl rfl (by decide) (ci := 15) (q0 := 2) rfl rfl rfl rfl rfl (Nat.le_of_ble_eq_true rfl) dX11_passHour_25 ⟨Nat.le_of_ble_eq_true rfl, Nat.le_of_ble_eq_true rfl⟩ ⟨Nat.le_of_ble_eq_true rfl, Nat.le_of_ble_eq_true rfl⟩ (fun _ _ _ _ _ _ hX _ _ _ _ _ _ => hX.elim) (fun v w1 H locs hQ hP hD hS => ?_)
  obtain ⟨rfl, rfl⟩ := hQ
  have hP : va_P g.1 vwCl [(a2, .inr (3, [.int 0, .ref g.2.1, .int 0])), (h0, .inr (15, [.ref a1, .ref a2, .ref a3, .ref a4, .ref a5, .int tt, .int wf, .int ww, .int te, .int tn, .int mo])), (a3, .inr (3, [.int 0, .ref g.2.1, .int 0])), (a4, .inr (3, [.int 0, .ref g.2.1, .int 0]))] H := hP
  have hD : va_D A [(a2, .inr (3, [.int 0, .ref g.2.1, .int 0])), (h0, .inr (15, [.ref a1, .ref a2, .ref a3, .ref a4, .ref a5, .int tt, .int wf, .int ww, .int te, .int tn, .int mo])), (a3, .inr (3, [.int 0, .ref g.2.1, .int 0])), (a4, .inr (3, [.int 0, .ref g.2.1, .int 0]))] := hD
  refine W.widen (k := 0) (n := 0) (by decide) (by decide) ?_
  refine W.eq (g2 := F0 m 28 ls []) rfl ?_
  refine lv_aload_n hx hb dX11_passHour_28 rfl (lv_at hl 0 rfl) ?_
  refine kcallV (wc := [(h0, .inr (15, [.ref a1, .ref a2, .ref a3, .ref a4, .ref a5, .int tt, .int wf, .int ww, .int te, .int tn, .int mo])), (a3, .inr (3, [.int 0, .ref g.2.1, .int 0]))]) (wr := [(a2, .inr (3, [.int 0, .ref g.2.1, .int 0])), (a4, .inr (3, [.int 0, .ref g.2.1, .int 0]))]) (As := []) (rest := []) K G (m_X11_gatherSalt l hl0 g h0 a1 a2 a3 a4 a5 tt wf ww te tn mo ) hP hD hS hA hl kw_106 kw_107 kw_108 kw_109 kw_4 ydX11_gatherSalt [1, 2] [0, 3] rfl rfl rfl rfl (by decide) (ci := 15) (q0 := 1) rfl rfl rfl rfl rfl (Nat.le_of_ble_eq_true rfl) dX11_passHour_29 ⟨Nat.le_of_ble_eq_true rfl, Nat.le_of_ble_eq_true rfl⟩ ⟨Nat.le_of_ble_eq_true rfl, Nat.le_of_ble_eq_true rfl⟩ (fun _ _ _ _ _ _ hX _ _ _ _ _ _ => hX.elim) (fun v w1 H locs hQ hP hD hS => ?_)
  obtain ⟨rfl, rfl⟩ := hQ
  have hP : va_P g.1 vwCl [(a2, .inr (3, [.int 0, .ref g.2.1, .int 0])), (a4, .inr (3, [.int 0, .ref g.2.1, .int 0])), (h0, .inr (15, [.ref a1, .ref a2, .ref a3, .ref a4, .ref a5, .int tt, .int wf, .int ww, .int te, .int tn, .int mo])), (a3, .inr (3, [.int 0, .ref g.2.1, .int 0]))] H := hP
  have hD : va_D A [(a2, .inr (3, [.int 0, .ref g.2.1, .int 0])), (a4, .inr (3, [.int 0, .ref g.2.1, .int 0])), (h0, .inr (15, [.ref a1, .ref a2, .ref a3, .ref a4, .ref a5, .int tt, .int wf, .int ww, .int te, .int tn, .int mo])), (a3, .inr (3, [.int 0, .ref g.2.1, .int 0]))] := hD
  refine W.widen (k := 0) (n := 0) (by decide) (by decide) ?_
  refine W.eq (g2 := F0 m 32 ls []) rfl ?_
  refine lv_aload_n hx hb dX11_passHour_32 rfl (lv_at hl 0 rfl) ?_
  refine kcallV (wc := [(h0, .inr (15, [.ref a1, .ref a2, .ref a3, .ref a4, .ref a5, .int tt, .int wf, .int ww, .int te, .int tn, .int mo])), (a3, .inr (3, [.int 0, .ref g.2.1, .int 0]))]) (wr := [(a2, .inr (3, [.int 0, .ref g.2.1, .int 0])), (a4, .inr (3, [.int 0, .ref g.2.1, .int 0]))]) (As := []) (rest := []) K G (m_X11_moveShips l hl0 g h0 a1 a2 a3 a4 a5 tt wf ww te tn mo ) hP hD hS hA hl kw_110 kw_111 kw_112 kw_113 kw_4 ydX11_moveShips [2, 3] [0, 1] rfl rfl rfl rfl (by decide) (ci := 15) (q0 := 2) rfl rfl rfl rfl rfl (Nat.le_of_ble_eq_true rfl) dX11_passHour_33 ⟨Nat.le_of_ble_eq_true rfl, Nat.le_of_ble_eq_true rfl⟩ ⟨Nat.le_of_ble_eq_true rfl, Nat.le_of_ble_eq_true rfl⟩ (fun _ _ _ _ _ _ hX _ _ _ _ _ _ => hX.elim) (fun v w1 H locs hQ hP hD hS => ?_)
  obtain ⟨rfl, rfl⟩ := hQ
  have hP : va_P g.1 vwCl [(a2, .inr (3, [.int 0, .ref g.2.1, .int 0])), (a4, .inr (3, [.int 0, .ref g.2.1, .int 0])), (h0, .inr (15, [.ref a1, .ref a2, .ref a3, .ref a4, .ref a5, .int tt, .int wf, .int ww, .int te, .int tn, .int mo])), (a3, .inr (3, [.int 0, .ref g.2.1, .int 0]))] H := hP
  have hD : va_D A [(a2, .inr (3, [.int 0, .ref g.2.1, .int 0])), (a4, .inr (3, [.int 0, .ref g.2.1, .int 0])), (h0, .inr (15, [.ref a1, .ref a2, .ref a3, .ref a4, .ref a5, .int tt, .int wf, .int ww, .int te, .int tn, .int mo])), (a3, .inr (3, [.int 0, .ref g.2.1, .int 0]))] := hD
  refine W.widen (k := 0) (n := 0) (by decide) (by decide) ?_
  refine W.eq (g2 := F0 m 36 ls []) rfl ?_
  refine lv_aload_n hx hb dX11_passHour_36 rfl (lv_at hl 0 rfl) ?_
  refine lv_dup hx hb dX11_passHour_37 rfl ?_
  refine va_get (D := g.1) (ci := 15) (v := .int tt) (C := RX11) (T := TX11) (N := 11) hx hb G.ws inX11 hown G.K hP 2 rfl rfl 5 (by decide) (G.w kw_114) (fun _ h9 => h9) rfl dX11_passHour_38 ?_
  refine lv_iconst (v := 1) hx hb dX11_passHour_41 (by decide) ?_
  refine lv_iadd hx hb dX11_passHour_42 ?_
  refine va_put (D := g.1) (ci := 15) (v := .int (tt + 1)) (ty := .int) (C := RX11) (T := TX11) (N := 11) hx hb G.ws inX11 tyX11 tyX11_ok nmX11 hown G.K hP hD hS 2 rfl rfl 5 (by decide) (G.w kw_114) (fun _ h9 => h9) (by decide +kernel) (by decide +kernel) rfl rfl (Nat.le_of_ble_eq_true rfl) dX11_passHour_43 (fun H locs hP hD hS => ?_)
  have hP : va_P g.1 vwCl [(a2, .inr (3, [.int 0, .ref g.2.1, .int 0])), (a4, .inr (3, [.int 0, .ref g.2.1, .int 0])), (h0, .inr (15, [.ref a1, .ref a2, .ref a3, .ref a4, .ref a5, .int (tt + 1), .int wf, .int ww, .int te, .int tn, .int mo])), (a3, .inr (3, [.int 0, .ref g.2.1, .int 0]))] H := hP
  have hD : va_D A [(a2, .inr (3, [.int 0, .ref g.2.1, .int 0])), (a4, .inr (3, [.int 0, .ref g.2.1, .int 0])), (h0, .inr (15, [.ref a1, .ref a2, .ref a3, .ref a4, .ref a5, .int (tt + 1), .int wf, .int ww, .int te, .int tn, .int mo])), (a3, .inr (3, [.int 0, .ref g.2.1, .int 0]))] := hD
  exact kretV K hP hD hS [2, 0, 3, 1] [(h0, .inr (15, [.ref a1, .ref a2, .ref a3, .ref a4, .ref a5, .int (tt + 1), .int wf, .int ww, .int te, .int tn, .int mo])), (a2, .inr (3, [.int 0, .ref g.2.1, .int 0])), (a3, .inr (3, [.int 0, .ref g.2.1, .int 0])), (a4, .inr (3, [.int 0, .ref g.2.1, .int 0]))] rfl rfl (⟨rfl, rfl⟩) (by decide) (by decide) dX11_passHour_46

set_option maxHeartbeats 4000000 in
set_option maxRecDepth 100000 in
theorem m_X11_pass (l : Launch) (hl0 : l.stackTraces = false) (g : kG) (h0 : Nat) (a1 : Nat) (a2 : Nat) (a3 : Nat) (a4 : Nat) (a5 : Nat) (wf : Int32) (ww : Int32) (te : Int32) (tn : Int32) (mo : Int32) (x : Int32)  : kc l g yX11_pass prog_1_method_8_code 3 (some .int) 7 104 1 6 [.ref h0, .int x] [(h0, .inr (15, [.ref a1, .ref a2, .ref a3, .ref a4, .ref a5, .int 0, .int wf, .int ww, .int te, .int tn, .int mo])), (a2, .inr (3, [.int 0, .ref g.2.1, .int 0])), (a3, .inr (3, [.int 0, .ref g.2.1, .int 0])), (a4, .inr (3, [.int 0, .ref g.2.1, .int 0]))] (fun v w => (v = some (.int x) ∧ w = [] ∧ inR x 1 96 = true)) (fun E w => (E = "java/lang/IllegalArgumentException" ∧ w = [] ∧ inR x 1 96 = false)) := by
  refine kbody (by decide) (Nat.le_of_ble_eq_true rfl) ?_
  intro p e s m args below meth c A H K ht G hP hD hA hS ls hl
  have K : KB p s m meth c RX11 "pass" prog_1_method_8_code 3 (some .int) := K
  obtain ⟨hx, hb, hml, hown, hlocks, hr, hin⟩ := id K
  have hl : lv_has ls 3 [(0, .ref h0), (1, .int x)] := hl
  refine lv_iload_n hx hb dX11_pass_0 rfl (lv_at hl 1 rfl) ?_
  refine lv_iconst (v := 1) hx hb dX11_pass_1 (by decide) ?_
  refine lv_bipush (v := 96) hx hb dX11_pass_2 (by decide) ?_
  refine kcallS (wc := []) (wr := [(h0, .inr (15, [.ref a1, .ref a2, .ref a3, .ref a4, .ref a5, .int 0, .int wf, .int ww, .int te, .int tn, .int mo])), (a2, .inr (3, [.int 0, .ref g.2.1, .int 0])), (a3, .inr (3, [.int 0, .ref g.2.1, .int 0])), (a4, .inr (3, [.int 0, .ref g.2.1, .int 0]))]) (As := [.int x, .int 1, .int 96]) (rest := []) K G (m_X11_requireRange l hl0 g x 1 96 ) hP hD hS hA hl kw_2 kw_3 kw_5 kw_4 ydX11_requireRange [] [0, 1, 2, 3] rfl rfl rfl rfl (by decide) rfl rfl (Nat.le_of_ble_eq_true rfl) dX11_pass_4 ⟨Nat.le_of_ble_eq_true rfl, Nat.le_of_ble_eq_true rfl⟩ ⟨Nat.le_of_ble_eq_true rfl, Nat.le_of_ble_eq_true rfl⟩ (fun E w1 ce q9 H locs hX hP hD hS hce hcv hcl => ?_) (fun v w1 H locs hQ hP hD hS => ?_)
  · obtain ⟨rfl, rfl, f_2⟩ := hX
    have hP : va_P g.1 vwCl [(h0, .inr (15, [.ref a1, .ref a2, .ref a3, .ref a4, .ref a5, .int 0, .int wf, .int ww, .int te, .int tn, .int mo])), (a2, .inr (3, [.int 0, .ref g.2.1, .int 0])), (a3, .inr (3, [.int 0, .ref g.2.1, .int 0])), (a4, .inr (3, [.int 0, .ref g.2.1, .int 0]))] H := hP
    have hD : va_D A [(h0, .inr (15, [.ref a1, .ref a2, .ref a3, .ref a4, .ref a5, .int 0, .int wf, .int ww, .int te, .int tn, .int mo])), (a2, .inr (3, [.int 0, .ref g.2.1, .int 0])), (a3, .inr (3, [.int 0, .ref g.2.1, .int 0])), (a4, .inr (3, [.int 0, .ref g.2.1, .int 0]))] := hD
    refine vx_widen (k := 1) (n := 6) (by decide) (by decide) ?_
    exact kthrow K ht hP hD hS hce hcv hcl [] [] rfl rfl (⟨rfl, rfl, (by exact f_2)⟩) (by decide) (by decide)
  · obtain ⟨rfl, rfl, f_3⟩ := hQ
    have hP : va_P g.1 vwCl [(h0, .inr (15, [.ref a1, .ref a2, .ref a3, .ref a4, .ref a5, .int 0, .int wf, .int ww, .int te, .int tn, .int mo])), (a2, .inr (3, [.int 0, .ref g.2.1, .int 0])), (a3, .inr (3, [.int 0, .ref g.2.1, .int 0])), (a4, .inr (3, [.int 0, .ref g.2.1, .int 0]))] H := hP
    have hD : va_D A [(h0, .inr (15, [.ref a1, .ref a2, .ref a3, .ref a4, .ref a5, .int 0, .int wf, .int ww, .int te, .int tn, .int mo])), (a2, .inr (3, [.int 0, .ref g.2.1, .int 0])), (a3, .inr (3, [.int 0, .ref g.2.1, .int 0])), (a4, .inr (3, [.int 0, .ref g.2.1, .int 0]))] := hD
    refine W.widen (k := 1) (n := 6) (by decide) (by decide) ?_
    refine W.eq (g2 := F0 m 7 ls []) rfl ?_
    refine lv_iconst (v := 0) hx hb dX11_pass_7 (by decide) ?_
    refine lv_istore_n (lv' := [(2, .int 0), (0, .ref h0), (1, .int x)]) hx hb dX11_pass_8 rfl hl (by decide) rfl (fun ls hl => ?_)
    obtain ⟨n, hn, ex⟩ : ∃ n : Nat, n ≤ 96 ∧ x = nI n := inR_n f_3 (by decide) (by decide)
    suffices KL : ∀ (k i : Nat), k + i = n → ∀ (H : Heap) (locs : List Loc), va_P g.1 vwCl [(h0, .inr (15, [.ref a1, .ref a2, .ref a3, .ref a4, .ref a5, .int (nI i), .int wf, .int ww, .int te, .int tn, .int mo])), (a2, .inr (3, [.int 0, .ref g.2.1, .int 0])), (a3, .inr (3, [.int 0, .ref g.2.1, .int 0])), (a4, .inr (3, [.int 0, .ref g.2.1, .int 0]))] H → va_D A [(h0, .inr (15, [.ref a1, .ref a2, .ref a3, .ref a4, .ref a5, .int (nI i), .int wf, .int ww, .int te, .int tn, .int mo])), (a2, .inr (3, [.int 0, .ref g.2.1, .int 0])), (a3, .inr (3, [.int 0, .ref g.2.1, .int 0])), (a4, .inr (3, [.int 0, .ref g.2.1, .int 0]))] → va_S A s.heap H locs → ∀ ls : Array Slot, lv_has ls 3 [(0, .ref h0), (1, .int x), (2, .int (nI i))] → W p l e (kR 7 104 1 6) s m args below meth c H locs 1 6 (vx_MQ below (kQ g (fun v w => (v = some (.int x) ∧ w = [] ∧ inR x 1 96 = true)) A) (kX g (fun E w => (E = "java/lang/IllegalArgumentException" ∧ w = [] ∧ inR x 1 96 = false)) A) args s 1 6 A) (F0 m 9 ls []) from KL n 0 rfl  _ _ (ksubP hP [0, 1, 2, 3] rfl) (hD.sub [0, 1, 2, 3] rfl rfl) hS _ (lv_sub hl [1, 2, 0] rfl)
    clear hP hD hS hl
    intro k
    induction k with
    | zero =>
      intro i hi  H locs hP hD hS ls hl
      have ei : i = n := by omega
      try rw [ei] at hP
      try rw [ei] at hD
      rw [ei] at hl
      have hP : va_P g.1 vwCl [(h0, .inr (15, [.ref a1, .ref a2, .ref a3, .ref a4, .ref a5, .int (nI n), .int wf, .int ww, .int te, .int tn, .int mo])), (a2, .inr (3, [.int 0, .ref g.2.1, .int 0])), (a3, .inr (3, [.int 0, .ref g.2.1, .int 0])), (a4, .inr (3, [.int 0, .ref g.2.1, .int 0]))] H := hP
      have hD : va_D A [(h0, .inr (15, [.ref a1, .ref a2, .ref a3, .ref a4, .ref a5, .int (nI n), .int wf, .int ww, .int te, .int tn, .int mo])), (a2, .inr (3, [.int 0, .ref g.2.1, .int 0])), (a3, .inr (3, [.int 0, .ref g.2.1, .int 0])), (a4, .inr (3, [.int 0, .ref g.2.1, .int 0]))] := hD
      have hl : lv_has ls 3 [(0, .ref h0), (1, .int x), (2, .int (nI n))] := hl
      refine lv_iload_n hx hb dX11_pass_9 rfl (lv_at hl 2 rfl) ?_
      refine lv_iload_n hx hb dX11_pass_10 rfl (lv_at hl 1 rfl) ?_
      refine lv_icmp_ge (tgt := 24) hx hb dX11_pass_11 (by decide) (fun c11_4 => ?_) (fun c11_4 => ?_)
      · refine lv_aload_n hx hb dX11_pass_24 rfl (lv_at hl 0 rfl) ?_
        refine va_get (D := g.1) (ci := 15) (v := .int (nI n)) (C := RX11) (T := TX11) (N := 11) hx hb G.ws inX11 hown G.K hP 0 rfl rfl 5 (by decide) (G.w kw_114) (fun _ h9 => h9) rfl dX11_pass_25 ?_
        exact kretI K hP hD hS [] [] rfl rfl (⟨(by rw [ex]), rfl, (by exact f_3)⟩) (by decide) (by decide) dX11_pass_28
      · exact absurd c11_4 (by exact fun h => h (by rw [ex]; exact Int32.le_refl _))
    | succ k ih =>
      intro i hi  H locs hP hD hS ls hl
      refine lv_iload_n hx hb dX11_pass_9 rfl (lv_at hl 2 rfl) ?_
      refine lv_iload_n hx hb dX11_pass_10 rfl (lv_at hl 1 rfl) ?_
      refine lv_icmp_ge (tgt := 24) hx hb dX11_pass_11 (by decide) (fun c11_5 => ?_) (fun c11_5 => ?_)
      · exact absurd c11_5 (by rw [ex]; exact nI_ge (by omega) (by omega))
      · refine lv_aload_n hx hb dX11_pass_14 rfl (lv_at hl 0 rfl) ?_
        refine kcallV (wc := [(h0, .inr (15, [.ref a1, .ref a2, .ref a3, .ref a4, .ref a5, .int (nI i), .int wf, .int ww, .int te, .int tn, .int mo])), (a2, .inr (3, [.int 0, .ref g.2.1, .int 0])), (a3, .inr (3, [.int 0, .ref g.2.1, .int 0])), (a4, .inr (3, [.int 0, .ref g.2.1, .int 0]))]) (wr := []) (As := []) (rest := []) K G (m_X11_passHour l hl0 g h0 a1 a2 a3 a4 a5 (nI i) wf ww te tn mo ) hP hD hS hA hl kw_115 kw_116 kw_117 kw_118 kw_4 ydX11_passHour [0, 1, 2, 3] [] rfl rfl rfl rfl (by decide) (ci := 15) (q0 := 0) rfl rfl rfl rfl rfl (Nat.le_of_ble_eq_true rfl) dX11_pass_15 ⟨Nat.le_of_ble_eq_true rfl, Nat.le_of_ble_eq_true rfl⟩ ⟨Nat.le_of_ble_eq_true rfl, Nat.le_of_ble_eq_true rfl⟩ (fun _ _ _ _ _ _ hX _ _ _ _ _ _ => hX.elim) (fun v w1 H locs hQ hP hD hS => ?_)
        obtain ⟨rfl, rfl⟩ := hQ
        have hP : va_P g.1 vwCl [(h0, .inr (15, [.ref a1, .ref a2, .ref a3, .ref a4, .ref a5, .int ((nI i) + 1), .int wf, .int ww, .int te, .int tn, .int mo])), (a2, .inr (3, [.int 0, .ref g.2.1, .int 0])), (a3, .inr (3, [.int 0, .ref g.2.1, .int 0])), (a4, .inr (3, [.int 0, .ref g.2.1, .int 0]))] H := hP
        have hD : va_D A [(h0, .inr (15, [.ref a1, .ref a2, .ref a3, .ref a4, .ref a5, .int ((nI i) + 1), .int wf, .int ww, .int te, .int tn, .int mo])), (a2, .inr (3, [.int 0, .ref g.2.1, .int 0])), (a3, .inr (3, [.int 0, .ref g.2.1, .int 0])), (a4, .inr (3, [.int 0, .ref g.2.1, .int 0]))] := hD
        refine W.widen (k := 1) (n := 6) (by decide) (by decide) ?_
        refine W.eq (g2 := F0 m 18 ls []) rfl ?_
        refine lv_iinc (v := nI (i + 1)) (lv' := [(2, .int (nI (i + 1))), (0, .ref h0), (1, .int x)]) hx hb dX11_pass_18 hl (k := 2) rfl (nI_1 _) (by decide) rfl (fun ls hl => ?_)
        refine lv_goto (tgt := 9) hx hb dX11_pass_21 (by decide) ?_
        rw [nI_1] at hP hD
        refine ih (i + 1) (by omega)  _ _ ?_ ?_ hS _ ?_
        · exact ksubP hP [0, 1, 2, 3] rfl
        · exact hD.sub [0, 1, 2, 3] rfl rfl
        · exact lv_sub hl [1, 2, 0] rfl

set_option maxHeartbeats 4000000 in
set_option maxRecDepth 100000 in
theorem m_X4_init (l : Launch) (hl0 : l.stackTraces = false) (g : kG) (h0 : Nat) (x0 : Int32) (x1 : Int32) (x2 : Int32)  : kc l g yX4_init prog_6_method_1_code 4 none 1 20 3 24 [.ref h0, .int x0, .int x1, .int x2] [(h0, .inr (8, [.int 0, .int 0, .int 0, .null, .null, .null, .int 0, .int 0, .int 0, .int 0, .int 0]))] (fun v w => (∃ q3 : Nat, ∃ q4 : Nat, ∃ q5 : Nat, v = none ∧ w = [(h0, .inr (8, [.int x0, .int x1, .int x2, .ref q3, .ref q4, .ref q5, .int 0, .int 0, .int 0, .int 0, .int (-1)]))])) (fun _ _ => False) := by
  refine kbody (by decide) (Nat.le_of_ble_eq_true rfl) ?_
  intro p e s m args below meth c A H K ht G hP hD hA hS ls hl
  have K : KB p s m meth c RX4 "<init>" prog_6_method_1_code 4 none := K
  obtain ⟨hx, hb, hml, hown, hlocks, hr, hin⟩ := id K
  have hl : lv_has ls 4 [(0, .ref h0), (1, .int x0), (2, .int x1), (3, .int x2)] := hl
  refine lv_aload_n hx hb dX4_init_0 rfl (lv_at hl 0 rfl) ?_
  refine W.objInit hx hb hown (G.w kw_119) (G.w kw_9) (G.w kw_10) rfl (by rw [hml]; exact hl.1) rfl dX4_init_1 (Nat.le_of_ble_eq_true rfl) (Nat.le_of_ble_eq_true rfl) ?_
  refine W.eq (g2 := F0 m 4 ls []) rfl ?_
  refine lv_aload_n hx hb dX4_init_4 rfl (lv_at hl 0 rfl) ?_
  refine lv_iload_n hx hb dX4_init_5 rfl (lv_at hl 1 rfl) ?_
  refine va_putF (D := g.1) (ci := 8) (v := .int x0) (ty := .int) (C := RX4) (T := TX4) (N := 11) hx hb G.ws inX4 tyX4 tyX4_ok nmX4 hown G.K hP hD hS 0 rfl rfl 0 (by decide) (G.w kw_120) (fun _ h9 => h9) rfl hin rfl (by decide +kernel) rfl rfl (Nat.le_of_ble_eq_true rfl) dX4_init_6 (fun H locs hP hD hS => ?_)
  have hP : va_P g.1 vwCl [(h0, .inr (8, [.int x0, .int 0, .int 0, .null, .null, .null, .int 0, .int 0, .int 0, .int 0, .int 0]))] H := hP
  have hD : va_D A [(h0, .inr (8, [.int x0, .int 0, .int 0, .null, .null, .null, .int 0, .int 0, .int 0, .int 0, .int 0]))] := hD
  refine lv_aload_n hx hb dX4_init_9 rfl (lv_at hl 0 rfl) ?_
  refine lv_iload_n hx hb dX4_init_10 rfl (lv_at hl 2 rfl) ?_
  refine va_putF (D := g.1) (ci := 8) (v := .int x1) (ty := .int) (C := RX4) (T := TX4) (N := 11) hx hb G.ws inX4 tyX4 tyX4_ok nmX4 hown G.K hP hD hS 0 rfl rfl 1 (by decide) (G.w kw_121) (fun _ h9 => h9) rfl hin rfl (by decide +kernel) rfl rfl (Nat.le_of_ble_eq_true rfl) dX4_init_11 (fun H locs hP hD hS => ?_)
  have hP : va_P g.1 vwCl [(h0, .inr (8, [.int x0, .int x1, .int 0, .null, .null, .null, .int 0, .int 0, .int 0, .int 0, .int 0]))] H := hP
  have hD : va_D A [(h0, .inr (8, [.int x0, .int x1, .int 0, .null, .null, .null, .int 0, .int 0, .int 0, .int 0, .int 0]))] := hD
  refine lv_aload_n hx hb dX4_init_14 rfl (lv_at hl 0 rfl) ?_
  refine lv_iload_n hx hb dX4_init_15 rfl (lv_at hl 3 rfl) ?_
  refine va_putF (D := g.1) (ci := 8) (v := .int x2) (ty := .int) (C := RX4) (T := TX4) (N := 11) hx hb G.ws inX4 tyX4 tyX4_ok nmX4 hown G.K hP hD hS 0 rfl rfl 2 (by decide) (G.w kw_122) (fun _ h9 => h9) rfl hin rfl (by decide +kernel) rfl rfl (Nat.le_of_ble_eq_true rfl) dX4_init_16 (fun H locs hP hD hS => ?_)
  have hP : va_P g.1 vwCl [(h0, .inr (8, [.int x0, .int x1, .int x2, .null, .null, .null, .int 0, .int 0, .int 0, .int 0, .int 0]))] H := hP
  have hD : va_D A [(h0, .inr (8, [.int x0, .int x1, .int x2, .null, .null, .null, .int 0, .int 0, .int 0, .int 0, .int 0]))] := hD
  refine lv_aload_n hx hb dX4_init_19 rfl (lv_at hl 0 rfl) ?_
  refine lv_bipush (v := 8) hx hb dX4_init_20 (by decide) ?_
  refine kNewa0 hx hb (G.w kw_123) G hP hD hS hA (n := 8) (N := 8) (by decide) (by decide) (by decide) (by decide) (by decide) dX4_init_22 (fun q_1 H hP hD hS => ?_)
  have hP : va_P g.1 vwCl [(h0, .inr (8, [.int x0, .int x1, .int x2, .null, .null, .null, .int 0, .int 0, .int 0, .int 0, .int 0])), (q_1, .inl ((g.2.2.1 0), 8, .inl (fun _ => 0)))] H := hP
  have hD : va_D A [(h0, .inr (8, [.int x0, .int x1, .int x2, .null, .null, .null, .int 0, .int 0, .int 0, .int 0, .int 0])), (q_1, .inl ((g.2.2.1 0), 8, .inl (fun _ => 0)))] := hD
  refine W.widen (k := 1) (n := 8) (by decide) (by decide) ?_
  refine va_putF (D := g.1) (ci := 8) (v := .ref q_1) (ty := (.array .int)) (C := RX4) (T := TX4) (N := 11) hx hb G.ws inX4 tyX4 tyX4_ok nmX4 hown G.K hP hD hS 0 rfl rfl 3 (by decide) (G.w kw_124) (fun _ h9 => h9) rfl hin rfl (by decide +kernel) rfl rfl (Nat.le_of_ble_eq_true rfl) dX4_init_24 (fun H locs hP hD hS => ?_)
  have hP : va_P g.1 vwCl [(h0, .inr (8, [.int x0, .int x1, .int x2, .ref q_1, .null, .null, .int 0, .int 0, .int 0, .int 0, .int 0])), (q_1, .inl ((g.2.2.1 0), 8, .inl (fun _ => 0)))] H := hP
  have hD : va_D A [(h0, .inr (8, [.int x0, .int x1, .int x2, .ref q_1, .null, .null, .int 0, .int 0, .int 0, .int 0, .int 0])), (q_1, .inl ((g.2.2.1 0), 8, .inl (fun _ => 0)))] := hD
  refine lv_aload_n hx hb dX4_init_27 rfl (lv_at hl 0 rfl) ?_
  refine lv_bipush (v := 8) hx hb dX4_init_28 (by decide) ?_
  refine kNewa0 hx hb (G.w kw_123) G hP hD hS hA (n := 8) (N := 8) (by decide) (by decide) (by decide) (by decide) (by decide) dX4_init_30 (fun q_2 H hP hD hS => ?_)
  have hP : va_P g.1 vwCl [(h0, .inr (8, [.int x0, .int x1, .int x2, .ref q_1, .null, .null, .int 0, .int 0, .int 0, .int 0, .int 0])), (q_1, .inl ((g.2.2.1 0), 8, .inl (fun _ => 0))), (q_2, .inl ((g.2.2.1 0), 8, .inl (fun _ => 0)))] H := hP
  have hD : va_D A [(h0, .inr (8, [.int x0, .int x1, .int x2, .ref q_1, .null, .null, .int 0, .int 0, .int 0, .int 0, .int 0])), (q_1, .inl ((g.2.2.1 0), 8, .inl (fun _ => 0))), (q_2, .inl ((g.2.2.1 0), 8, .inl (fun _ => 0)))] := hD
  refine W.widen (k := 2) (n := 16) (by decide) (by decide) ?_
  refine va_putF (D := g.1) (ci := 8) (v := .ref q_2) (ty := (.array .int)) (C := RX4) (T := TX4) (N := 11) hx hb G.ws inX4 tyX4 tyX4_ok nmX4 hown G.K hP hD hS 0 rfl rfl 4 (by decide) (G.w kw_125) (fun _ h9 => h9) rfl hin rfl (by decide +kernel) rfl rfl (Nat.le_of_ble_eq_true rfl) dX4_init_32 (fun H locs hP hD hS => ?_)
  have hP : va_P g.1 vwCl [(h0, .inr (8, [.int x0, .int x1, .int x2, .ref q_1, .ref q_2, .null, .int 0, .int 0, .int 0, .int 0, .int 0])), (q_1, .inl ((g.2.2.1 0), 8, .inl (fun _ => 0))), (q_2, .inl ((g.2.2.1 0), 8, .inl (fun _ => 0)))] H := hP
  have hD : va_D A [(h0, .inr (8, [.int x0, .int x1, .int x2, .ref q_1, .ref q_2, .null, .int 0, .int 0, .int 0, .int 0, .int 0])), (q_1, .inl ((g.2.2.1 0), 8, .inl (fun _ => 0))), (q_2, .inl ((g.2.2.1 0), 8, .inl (fun _ => 0)))] := hD
  refine lv_aload_n hx hb dX4_init_35 rfl (lv_at hl 0 rfl) ?_
  refine lv_bipush (v := 8) hx hb dX4_init_36 (by decide) ?_
  refine kNewa0 hx hb (G.w kw_123) G hP hD hS hA (n := 8) (N := 8) (by decide) (by decide) (by decide) (by decide) (by decide) dX4_init_38 (fun q_3 H hP hD hS => ?_)
  have hP : va_P g.1 vwCl [(h0, .inr (8, [.int x0, .int x1, .int x2, .ref q_1, .ref q_2, .null, .int 0, .int 0, .int 0, .int 0, .int 0])), (q_1, .inl ((g.2.2.1 0), 8, .inl (fun _ => 0))), (q_2, .inl ((g.2.2.1 0), 8, .inl (fun _ => 0))), (q_3, .inl ((g.2.2.1 0), 8, .inl (fun _ => 0)))] H := hP
  have hD : va_D A [(h0, .inr (8, [.int x0, .int x1, .int x2, .ref q_1, .ref q_2, .null, .int 0, .int 0, .int 0, .int 0, .int 0])), (q_1, .inl ((g.2.2.1 0), 8, .inl (fun _ => 0))), (q_2, .inl ((g.2.2.1 0), 8, .inl (fun _ => 0))), (q_3, .inl ((g.2.2.1 0), 8, .inl (fun _ => 0)))] := hD
  refine W.widen (k := 3) (n := 24) (by decide) (by decide) ?_
  refine va_putF (D := g.1) (ci := 8) (v := .ref q_3) (ty := (.array .int)) (C := RX4) (T := TX4) (N := 11) hx hb G.ws inX4 tyX4 tyX4_ok nmX4 hown G.K hP hD hS 0 rfl rfl 5 (by decide) (G.w kw_126) (fun _ h9 => h9) rfl hin rfl (by decide +kernel) rfl rfl (Nat.le_of_ble_eq_true rfl) dX4_init_40 (fun H locs hP hD hS => ?_)
  have hP : va_P g.1 vwCl [(h0, .inr (8, [.int x0, .int x1, .int x2, .ref q_1, .ref q_2, .ref q_3, .int 0, .int 0, .int 0, .int 0, .int 0])), (q_1, .inl ((g.2.2.1 0), 8, .inl (fun _ => 0))), (q_2, .inl ((g.2.2.1 0), 8, .inl (fun _ => 0))), (q_3, .inl ((g.2.2.1 0), 8, .inl (fun _ => 0)))] H := hP
  have hD : va_D A [(h0, .inr (8, [.int x0, .int x1, .int x2, .ref q_1, .ref q_2, .ref q_3, .int 0, .int 0, .int 0, .int 0, .int 0])), (q_1, .inl ((g.2.2.1 0), 8, .inl (fun _ => 0))), (q_2, .inl ((g.2.2.1 0), 8, .inl (fun _ => 0))), (q_3, .inl ((g.2.2.1 0), 8, .inl (fun _ => 0)))] := hD
  refine lv_aload_n hx hb dX4_init_43 rfl (lv_at hl 0 rfl) ?_
  refine lv_iconst (v := (-1)) hx hb dX4_init_44 (by decide) ?_
  refine va_put (D := g.1) (ci := 8) (v := .int (-1)) (ty := .int) (C := RX4) (T := TX4) (N := 11) hx hb G.ws inX4 tyX4 tyX4_ok nmX4 hown G.K hP hD hS 0 rfl rfl 10 (by decide) (G.w kw_127) (fun _ h9 => h9) (by decide +kernel) (by decide +kernel) rfl rfl (Nat.le_of_ble_eq_true rfl) dX4_init_45 (fun H locs hP hD hS => ?_)
  have hP : va_P g.1 vwCl [(h0, .inr (8, [.int x0, .int x1, .int x2, .ref q_1, .ref q_2, .ref q_3, .int 0, .int 0, .int 0, .int 0, .int (-1)])), (q_1, .inl ((g.2.2.1 0), 8, .inl (fun _ => 0))), (q_2, .inl ((g.2.2.1 0), 8, .inl (fun _ => 0))), (q_3, .inl ((g.2.2.1 0), 8, .inl (fun _ => 0)))] H := hP
  have hD : va_D A [(h0, .inr (8, [.int x0, .int x1, .int x2, .ref q_1, .ref q_2, .ref q_3, .int 0, .int 0, .int 0, .int 0, .int (-1)])), (q_1, .inl ((g.2.2.1 0), 8, .inl (fun _ => 0))), (q_2, .inl ((g.2.2.1 0), 8, .inl (fun _ => 0))), (q_3, .inl ((g.2.2.1 0), 8, .inl (fun _ => 0)))] := hD
  exact kretV K hP hD hS [0] [(h0, .inr (8, [.int x0, .int x1, .int x2, .ref q_1, .ref q_2, .ref q_3, .int 0, .int 0, .int 0, .int 0, .int (-1)]))] rfl rfl (⟨q_1, q_2, q_3, rfl, rfl⟩) (by decide) (by decide) dX4_init_48

set_option maxHeartbeats 4000000 in
set_option maxRecDepth 100000 in
theorem m_X7_init (l : Launch) (hl0 : l.stackTraces = false) (g : kG) (h0 : Nat) (x0 : Int32) (x1 : Int32) (x2 : Int32)  : kc l g yX7_init prog_9_method_1_code 4 none 1 20 0 0 [.ref h0, .int x0, .int x1, .int x2] [(h0, .inr (11, [.int 0, .int 0, .int 0, .int 0]))] (fun v w => (v = none ∧ w = [(h0, .inr (11, [.int x0, .int x1, .int x2, .int 0]))])) (fun _ _ => False) := by
  refine kbody (by decide) (Nat.le_of_ble_eq_true rfl) ?_
  intro p e s m args below meth c A H K ht G hP hD hA hS ls hl
  have K : KB p s m meth c RX7 "<init>" prog_9_method_1_code 4 none := K
  obtain ⟨hx, hb, hml, hown, hlocks, hr, hin⟩ := id K
  have hl : lv_has ls 4 [(0, .ref h0), (1, .int x0), (2, .int x1), (3, .int x2)] := hl
  refine lv_aload_n hx hb dX7_init_0 rfl (lv_at hl 0 rfl) ?_
  refine W.objInit hx hb hown (G.w kw_128) (G.w kw_9) (G.w kw_10) rfl (by rw [hml]; exact hl.1) rfl dX7_init_1 (Nat.le_of_ble_eq_true rfl) (Nat.le_of_ble_eq_true rfl) ?_
  refine W.eq (g2 := F0 m 4 ls []) rfl ?_
  refine lv_aload_n hx hb dX7_init_4 rfl (lv_at hl 0 rfl) ?_
  refine lv_iload_n hx hb dX7_init_5 rfl (lv_at hl 1 rfl) ?_
  refine va_putF (D := g.1) (ci := 11) (v := .int x0) (ty := .int) (C := RX7) (T := TX7) (N := 4) hx hb G.ws inX7 tyX7 tyX7_ok nmX7 hown G.K hP hD hS 0 rfl rfl 0 (by decide) (G.w kw_129) (fun _ h9 => h9) rfl hin rfl (by decide +kernel) rfl rfl (Nat.le_of_ble_eq_true rfl) dX7_init_6 (fun H locs hP hD hS => ?_)
  have hP : va_P g.1 vwCl [(h0, .inr (11, [.int x0, .int 0, .int 0, .int 0]))] H := hP
  have hD : va_D A [(h0, .inr (11, [.int x0, .int 0, .int 0, .int 0]))] := hD
  refine lv_aload_n hx hb dX7_init_9 rfl (lv_at hl 0 rfl) ?_
  refine lv_iload_n hx hb dX7_init_10 rfl (lv_at hl 2 rfl) ?_
  refine va_putF (D := g.1) (ci := 11) (v := .int x1) (ty := .int) (C := RX7) (T := TX7) (N := 4) hx hb G.ws inX7 tyX7 tyX7_ok nmX7 hown G.K hP hD hS 0 rfl rfl 1 (by decide) (G.w kw_130) (fun _ h9 => h9) rfl hin rfl (by decide +kernel) rfl rfl (Nat.le_of_ble_eq_true rfl) dX7_init_11 (fun H locs hP hD hS => ?_)
  have hP : va_P g.1 vwCl [(h0, .inr (11, [.int x0, .int x1, .int 0, .int 0]))] H := hP
  have hD : va_D A [(h0, .inr (11, [.int x0, .int x1, .int 0, .int 0]))] := hD
  refine lv_aload_n hx hb dX7_init_14 rfl (lv_at hl 0 rfl) ?_
  refine lv_iload_n hx hb dX7_init_15 rfl (lv_at hl 3 rfl) ?_
  refine va_putF (D := g.1) (ci := 11) (v := .int x2) (ty := .int) (C := RX7) (T := TX7) (N := 4) hx hb G.ws inX7 tyX7 tyX7_ok nmX7 hown G.K hP hD hS 0 rfl rfl 2 (by decide) (G.w kw_131) (fun _ h9 => h9) rfl hin rfl (by decide +kernel) rfl rfl (Nat.le_of_ble_eq_true rfl) dX7_init_16 (fun H locs hP hD hS => ?_)
  have hP : va_P g.1 vwCl [(h0, .inr (11, [.int x0, .int x1, .int x2, .int 0]))] H := hP
  have hD : va_D A [(h0, .inr (11, [.int x0, .int x1, .int x2, .int 0]))] := hD
  exact kretV K hP hD hS [0] [(h0, .inr (11, [.int x0, .int x1, .int x2, .int 0]))] rfl rfl (⟨rfl, rfl⟩) (by decide) (by decide) dX7_init_19

set_option maxHeartbeats 4000000 in
set_option maxRecDepth 100000 in
theorem m_X0_init (l : Launch) (hl0 : l.stackTraces = false) (g : kG) (h0 : Nat) (x0 : Int32) (x1 : Int32)  : kc l g yX0_init prog_2_method_1_code 3 none 1 20 0 0 [.ref h0, .int x0, .int x1] [(h0, .inr (4, [.int 0, .int 0, .int 0, .int 0, .int 0]))] (fun v w => (v = none ∧ w = [(h0, .inr (4, [.int x0, .int x1, .int 0, .int 0, .int 0]))])) (fun _ _ => False) := by
  refine kbody (by decide) (Nat.le_of_ble_eq_true rfl) ?_
  intro p e s m args below meth c A H K ht G hP hD hA hS ls hl
  have K : KB p s m meth c RX0 "<init>" prog_2_method_1_code 3 none := K
  obtain ⟨hx, hb, hml, hown, hlocks, hr, hin⟩ := id K
  have hl : lv_has ls 3 [(0, .ref h0), (1, .int x0), (2, .int x1)] := hl
  refine lv_aload_n hx hb dX0_init_0 rfl (lv_at hl 0 rfl) ?_
  refine W.objInit hx hb hown (G.w kw_132) (G.w kw_9) (G.w kw_10) rfl (by rw [hml]; exact hl.1) rfl dX0_init_1 (Nat.le_of_ble_eq_true rfl) (Nat.le_of_ble_eq_true rfl) ?_
  refine W.eq (g2 := F0 m 4 ls []) rfl ?_
  refine lv_aload_n hx hb dX0_init_4 rfl (lv_at hl 0 rfl) ?_
  refine lv_iload_n hx hb dX0_init_5 rfl (lv_at hl 1 rfl) ?_
  refine va_put (D := g.1) (ci := 4) (v := .int x0) (ty := .int) (C := RX0) (T := TX0) (N := 5) hx hb G.ws inX0 tyX0 tyX0_ok nmX0 hown G.K hP hD hS 0 rfl rfl 0 (by decide) (G.w kw_133) (fun _ h9 => h9) (by decide +kernel) (by decide +kernel) rfl rfl (Nat.le_of_ble_eq_true rfl) dX0_init_6 (fun H locs hP hD hS => ?_)
  have hP : va_P g.1 vwCl [(h0, .inr (4, [.int x0, .int 0, .int 0, .int 0, .int 0]))] H := hP
  have hD : va_D A [(h0, .inr (4, [.int x0, .int 0, .int 0, .int 0, .int 0]))] := hD
  refine lv_aload_n hx hb dX0_init_9 rfl (lv_at hl 0 rfl) ?_
  refine lv_iload_n hx hb dX0_init_10 rfl (lv_at hl 2 rfl) ?_
  refine va_put (D := g.1) (ci := 4) (v := .int x1) (ty := .int) (C := RX0) (T := TX0) (N := 5) hx hb G.ws inX0 tyX0 tyX0_ok nmX0 hown G.K hP hD hS 0 rfl rfl 1 (by decide) (G.w kw_134) (fun _ h9 => h9) (by decide +kernel) (by decide +kernel) rfl rfl (Nat.le_of_ble_eq_true rfl) dX0_init_11 (fun H locs hP hD hS => ?_)
  have hP : va_P g.1 vwCl [(h0, .inr (4, [.int x0, .int x1, .int 0, .int 0, .int 0]))] H := hP
  have hD : va_D A [(h0, .inr (4, [.int x0, .int x1, .int 0, .int 0, .int 0]))] := hD
  exact kretV K hP hD hS [0] [(h0, .inr (4, [.int x0, .int x1, .int 0, .int 0, .int 0]))] rfl rfl (⟨rfl, rfl⟩) (by decide) (by decide) dX0_init_14

set_option maxHeartbeats 4000000 in
set_option maxRecDepth 100000 in
theorem m_X9_init (l : Launch) (hl0 : l.stackTraces = false) (g : kG) (h0 : Nat)  : kc l g yX9_init prog_11_method_1_code 1 none 1 20 0 0 [.ref h0] [(h0, .inr (13, [.int 0, .int 0, .int 0, .int 0]))] (fun v w => (v = none ∧ w = [(h0, .inr (13, [.int 0, .int 0, .int 0, .int 0]))])) (fun _ _ => False) := by
  refine kbody (by decide) (Nat.le_of_ble_eq_true rfl) ?_
  intro p e s m args below meth c A H K ht G hP hD hA hS ls hl
  have K : KB p s m meth c RX9 "<init>" prog_11_method_1_code 1 none := K
  obtain ⟨hx, hb, hml, hown, hlocks, hr, hin⟩ := id K
  have hl : lv_has ls 1 [(0, .ref h0)] := hl
  refine lv_aload_n hx hb dX9_init_0 rfl (lv_at hl 0 rfl) ?_
  refine W.objInit hx hb hown (G.w kw_135) (G.w kw_9) (G.w kw_10) rfl (by rw [hml]; exact hl.1) rfl dX9_init_1 (Nat.le_of_ble_eq_true rfl) (Nat.le_of_ble_eq_true rfl) ?_
  refine W.eq (g2 := F0 m 4 ls []) rfl ?_
  exact kretV K hP hD hS [0] [(h0, .inr (13, [.int 0, .int 0, .int 0, .int 0]))] rfl rfl (⟨rfl, rfl⟩) (by decide) (by decide) dX9_init_4

set_option maxHeartbeats 4000000 in
set_option maxRecDepth 100000 in
theorem m_X6_init (l : Launch) (hl0 : l.stackTraces = false) (g : kG) (h0 : Nat)  : kc l g yX6_init prog_8_method_1_code 2 none 1 20 1 24 [.ref h0] [(h0, .inr (10, [.null, .int 0]))] (fun v w => (∃ q0 : Nat, v = none ∧ w = [(h0, .inr (10, [.ref q0, .int (-1)]))])) (fun _ _ => False) := by
  refine kbody (by decide) (Nat.le_of_ble_eq_true rfl) ?_
  intro p e s m args below meth c A H K ht G hP hD hA hS ls hl
  have K : KB p s m meth c RX6 "<init>" prog_8_method_1_code 2 none := K
  obtain ⟨hx, hb, hml, hown, hlocks, hr, hin⟩ := id K
  have hl : lv_has ls 2 [(0, .ref h0)] := hl
  refine lv_aload_n hx hb dX6_init_0 rfl (lv_at hl 0 rfl) ?_
  refine W.objInit hx hb hown (G.w kw_136) (G.w kw_9) (G.w kw_10) rfl (by rw [hml]; exact hl.1) rfl dX6_init_1 (Nat.le_of_ble_eq_true rfl) (Nat.le_of_ble_eq_true rfl) ?_
  refine W.eq (g2 := F0 m 4 ls []) rfl ?_
  refine lv_aload_n hx hb dX6_init_4 rfl (lv_at hl 0 rfl) ?_
  refine lv_bipush (v := 24) hx hb dX6_init_5 (by decide) ?_
  refine kNewa0 hx hb (G.w kw_123) G hP hD hS hA (n := 24) (N := 24) (by decide) (by decide) (by decide) (by decide) (by decide) dX6_init_7 (fun q_1 H hP hD hS => ?_)
  have hP : va_P g.1 vwCl [(h0, .inr (10, [.null, .int 0])), (q_1, .inl ((g.2.2.1 0), 24, .inl (fun _ => 0)))] H := hP
  have hD : va_D A [(h0, .inr (10, [.null, .int 0])), (q_1, .inl ((g.2.2.1 0), 24, .inl (fun _ => 0)))] := hD
  refine W.widen (k := 1) (n := 24) (by decide) (by decide) ?_
  refine va_putF (D := g.1) (ci := 10) (v := .ref q_1) (ty := (.array .int)) (C := RX6) (T := TX6) (N := 2) hx hb G.ws inX6 tyX6 tyX6_ok nmX6 hown G.K hP hD hS 0 rfl rfl 0 (by decide) (G.w kw_137) (fun _ h9 => h9) rfl hin rfl (by decide +kernel) rfl rfl (Nat.le_of_ble_eq_true rfl) dX6_init_9 (fun H locs hP hD hS => ?_)
  have hP : va_P g.1 vwCl [(h0, .inr (10, [.ref q_1, .int 0])), (q_1, .inl ((g.2.2.1 0), 24, .inl (fun _ => 0)))] H := hP
  have hD : va_D A [(h0, .inr (10, [.ref q_1, .int 0])), (q_1, .inl ((g.2.2.1 0), 24, .inl (fun _ => 0)))] := hD
  refine lv_iconst (v := 0) hx hb dX6_init_12 (by decide) ?_
  refine lv_istore_n (lv' := [(1, .int 0), (0, .ref h0)]) hx hb dX6_init_13 rfl hl (by decide) rfl (fun ls hl => ?_)
  suffices KL : ∀ (k i : Nat), k + i = 24 → ∀ (f : Nat → Int32) (H : Heap) (locs : List Loc), va_P g.1 vwCl [(h0, .inr (10, [.ref q_1, .int 0])), (q_1, .inl ((g.2.2.1 0), 24, .inl f))] H → va_D A [(h0, .inr (10, [.ref q_1, .int 0])), (q_1, .inl ((g.2.2.1 0), 24, .inl f))] → va_S A s.heap H locs → ∀ ls : Array Slot, lv_has ls 2 [(0, .ref h0), (1, .int (nI i))] → W p l e (kR 1 20 1 24) s m args below meth c H locs 1 24 (vx_MQ below (kQ g (fun v w => (∃ q0 : Nat, v = none ∧ w = [(h0, .inr (10, [.ref q0, .int (-1)]))])) A) (kX g (fun _ _ => False) A) args s 1 24 A) (F0 m 14 ls []) from KL 24 0 rfl (fun _ => 0) _ _ (ksubP hP [0, 1] rfl) (hD.sub [0, 1] rfl rfl) hS _ (lv_sub hl [1, 0] rfl)
  clear hP hD hS hl
  intro k
  induction k with
  | zero =>
    intro i hi f H locs hP hD hS ls hl
    have ei : i = 24 := by omega
    try rw [ei] at hP
    try rw [ei] at hD
    rw [ei] at hl
    have hP : va_P g.1 vwCl [(h0, .inr (10, [.ref q_1, .int 0])), (q_1, .inl ((g.2.2.1 0), 24, .inl f))] H := hP
    have hD : va_D A [(h0, .inr (10, [.ref q_1, .int 0])), (q_1, .inl ((g.2.2.1 0), 24, .inl f))] := hD
    have hl : lv_has ls 2 [(0, .ref h0), (1, .int (nI 24))] := hl
    refine lv_iload_n hx hb dX6_init_14 rfl (lv_at hl 1 rfl) ?_
    refine lv_bipush (v := 24) hx hb dX6_init_15 (by decide) ?_
    refine lv_icmp_ge (tgt := 33) hx hb dX6_init_17 (by decide) (fun c17_2 => ?_) (fun c17_2 => ?_)
    · refine lv_aload_n hx hb dX6_init_33 rfl (lv_at hl 0 rfl) ?_
      refine lv_iconst (v := (-1)) hx hb dX6_init_34 (by decide) ?_
      refine va_put (D := g.1) (ci := 10) (v := .int (-1)) (ty := .int) (C := RX6) (T := TX6) (N := 2) hx hb G.ws inX6 tyX6 tyX6_ok nmX6 hown G.K hP hD hS 0 rfl rfl 1 (by decide) (G.w kw_138) (fun _ h9 => h9) (by decide +kernel) (by decide +kernel) rfl rfl (Nat.le_of_ble_eq_true rfl) dX6_init_35 (fun H locs hP hD hS => ?_)
      have hP : va_P g.1 vwCl [(h0, .inr (10, [.ref q_1, .int (-1)])), (q_1, .inl ((g.2.2.1 0), 24, .inl f))] H := hP
      have hD : va_D A [(h0, .inr (10, [.ref q_1, .int (-1)])), (q_1, .inl ((g.2.2.1 0), 24, .inl f))] := hD
      exact kretV K hP hD hS [0] [(h0, .inr (10, [.ref q_1, .int (-1)]))] rfl rfl (⟨q_1, rfl, rfl⟩) (by decide) (by decide) dX6_init_38
    · exact absurd c17_2 (by exact fun h => h (by decide))
  | succ k ih =>
    intro i hi f H locs hP hD hS ls hl
    refine lv_iload_n hx hb dX6_init_14 rfl (lv_at hl 1 rfl) ?_
    refine lv_bipush (v := 24) hx hb dX6_init_15 (by decide) ?_
    refine lv_icmp_ge (tgt := 33) hx hb dX6_init_17 (by decide) (fun c17_3 => ?_) (fun c17_3 => ?_)
    · exact absurd c17_3 (by exact nI_ge (a := i) (b := 24) (by omega) (by omega))
    · refine lv_aload_n hx hb dX6_init_20 rfl (lv_at hl 0 rfl) ?_
      refine va_get (D := g.1) (ci := 10) (v := .ref q_1) (C := RX6) (T := TX6) (N := 2) hx hb G.ws inX6 hown G.K hP 0 rfl rfl 0 (by decide) (G.w kw_137) (fun _ h9 => h9) rfl dX6_init_21 ?_
      refine lv_iload_n hx hb dX6_init_24 rfl (lv_at hl 1 rfl) ?_
      refine lv_iconst (v := (-1)) hx hb dX6_init_25 (by decide) ?_
      refine va_iast hx hb G.K hP hD hS 1 0 rfl rfl (i := nI i) (vp_in_nI (by omega) (by omega)) dX6_init_26 (fun H locs hP hD hS => ?_)
      have hP : va_P g.1 vwCl [(h0, .inr (10, [.ref q_1, .int 0])), (q_1, .inl ((g.2.2.1 0), 24, .inl (upd f (nI i).toNatClampNeg (-1))))] H := hP
      have hD : va_D A [(h0, .inr (10, [.ref q_1, .int 0])), (q_1, .inl ((g.2.2.1 0), 24, .inl (upd f (nI i).toNatClampNeg (-1))))] := hD
      refine lv_iinc (v := nI (i + 1)) (lv' := [(1, .int (nI (i + 1))), (0, .ref h0)]) hx hb dX6_init_27 hl (k := 1) rfl (nI_1 _) (by decide) rfl (fun ls hl => ?_)
      refine lv_goto (tgt := 14) hx hb dX6_init_30 (by decide) ?_
      refine ih (i + 1) (by omega) (upd f (nI i).toNatClampNeg (-1)) _ _ ?_ ?_ hS _ ?_
      · exact ksubP hP [0, 1] rfl
      · exact hD.sub [0, 1] rfl rfl
      · exact lv_sub hl [1, 0] rfl
end
section
set_option maxHeartbeats 4000000 in
set_option maxRecDepth 100000 in
theorem m_X8_init (l : Launch) (hl0 : l.stackTraces = false) (g : kG) (h0 : Nat) (x0 : Int32) (x1 : Int32)  : kc l g yX8_init prog_10_method_1_code 3 none 4 80 5 38 [.ref h0, .int x0, .int x1] [(h0, .inr (12, [.null, .null, .null, .null, .int 0, .int 0, .int 0, .int 0, .int 0, .int 0, .int 0, .int 0, .int 0, .int 0, .int 0, .int 0, .int 0]))] (fun v w => (∃ q0 : Nat, ∃ q1 : Nat, ∃ q2 : Nat, ∃ q3 : Nat, v = none ∧ w = [(h0, .inr (12, [.ref q0, .ref q1, .ref q2, .ref q3, .int x0, .int x1, .int 0, .int 0, .int 0, .int 0, .int (-1), .int 0, .int 0, .int 0, .int (-1), .int 0, .int 0]))])) (fun _ _ => False) := by
  refine kbody (by decide) (Nat.le_of_ble_eq_true rfl) ?_
  intro p e s m args below meth c A H K ht G hP hD hA hS ls hl
  have K : KB p s m meth c RX8 "<init>" prog_10_method_1_code 3 none := K
  obtain ⟨hx, hb, hml, hown, hlocks, hr, hin⟩ := id K
  have hl : lv_has ls 3 [(0, .ref h0), (1, .int x0), (2, .int x1)] := hl
  refine lv_aload_n hx hb dX8_init_0 rfl (lv_at hl 0 rfl) ?_
  refine W.objInit hx hb hown (G.w kw_139) (G.w kw_9) (G.w kw_10) rfl (by rw [hml]; exact hl.1) rfl dX8_init_1 (Nat.le_of_ble_eq_true rfl) (Nat.le_of_ble_eq_true rfl) ?_
  refine W.eq (g2 := F0 m 4 ls []) rfl ?_
  refine lv_aload_n hx hb dX8_init_4 rfl (lv_at hl 0 rfl) ?_
  refine va_new (D := g.1) (ci := 4) (fs := [.int 0, .int 0, .int 0, .int 0, .int 0]) (C := RX0) (T := TX0) (N := 5) hx hb G.ws inX0 tyX0 tyX0_ok hown (G.w kw_140) (G.w kw_141) (G.w kw_142) G.K hP hD hS hA rfl (fun j hj => by rcases (show j = 0 ∨ j = 1 ∨ j = 2 ∨ j = 3 ∨ j = 4 by omega) with rfl | rfl | rfl | rfl | rfl <;> rfl) (by decide) (by decide) dX8_init_5 (fun q_1 H hP hD hS => ?_)
  have hP : va_P g.1 vwCl [(h0, .inr (12, [.null, .null, .null, .null, .int 0, .int 0, .int 0, .int 0, .int 0, .int 0, .int 0, .int 0, .int 0, .int 0, .int 0, .int 0, .int 0])), (q_1, .inr (4, [.int 0, .int 0, .int 0, .int 0, .int 0]))] H := hP
  have hD : va_D A [(h0, .inr (12, [.null, .null, .null, .null, .int 0, .int 0, .int 0, .int 0, .int 0, .int 0, .int 0, .int 0, .int 0, .int 0, .int 0, .int 0, .int 0])), (q_1, .inr (4, [.int 0, .int 0, .int 0, .int 0, .int 0]))] := hD
  refine W.widen (k := 1) (n := 5) (by decide) (by decide) ?_
  refine lv_dup hx hb dX8_init_8 rfl ?_
  refine lv_iload_n hx hb dX8_init_9 rfl (lv_at hl 1 rfl) ?_
  refine lv_iload_n hx hb dX8_init_10 rfl (lv_at hl 2 rfl) ?_
  refine kcallI (wc := [(q_1, .inr (4, [.int 0, .int 0, .int 0, .int 0, .int 0]))]) (wr := [(h0, .inr (12, [.null, .null, .null, .null, .int 0, .int 0, .int 0, .int 0, .int 0, .int 0, .int 0, .int 0, .int 0, .int 0, .int 0, .int 0, .int 0]))]) (As := [.int x0, .int x1]) (rest := [.ref q_1, .ref h0]) K G (m_X0_init l hl0 g q_1 x0 x1 ) hP hD hS hA hl kw_143 kw_144 kw_145 kw_142 rfl ydX0_init [1] [0] rfl rfl rfl rfl (by decide) rfl rfl (Nat.le_of_ble_eq_true rfl) dX8_init_11 ⟨Nat.le_of_ble_eq_true rfl, Nat.le_of_ble_eq_true rfl⟩ ⟨Nat.le_of_ble_eq_true rfl, Nat.le_of_ble_eq_true rfl⟩ (fun _ _ _ _ _ _ hX _ _ _ _ _ _ => hX.elim) (fun v w1 H locs hQ hP hD hS => ?_)
  obtain ⟨rfl, rfl⟩ := hQ
  have hP : va_P g.1 vwCl [(h0, .inr (12, [.null, .null, .null, .null, .int 0, .int 0, .int 0, .int 0, .int 0, .int 0, .int 0, .int 0, .int 0, .int 0, .int 0, .int 0, .int 0])), (q_1, .inr (4, [.int x0, .int x1, .int 0, .int 0, .int 0]))] H := hP
  have hD : va_D A [(h0, .inr (12, [.null, .null, .null, .null, .int 0, .int 0, .int 0, .int 0, .int 0, .int 0, .int 0, .int 0, .int 0, .int 0, .int 0, .int 0, .int 0])), (q_1, .inr (4, [.int x0, .int x1, .int 0, .int 0, .int 0]))] := hD
  refine W.widen (k := 1) (n := 5) (by decide) (by decide) ?_
  refine W.eq (g2 := F0 m 14 ls [.ref q_1, .ref h0]) rfl ?_
  refine va_putF (D := g.1) (ci := 12) (v := .ref q_1) (ty := (.object "GalleonWave$Anchor")) (C := RX8) (T := TX8) (N := 17) hx hb G.ws inX8 tyX8 tyX8_ok nmX8 hown G.K hP hD hS 0 rfl rfl 0 (by decide) (G.w kw_146) (fun _ h9 => h9) rfl hin rfl (by decide +kernel) rfl rfl (Nat.le_of_ble_eq_true rfl) dX8_init_14 (fun H locs hP hD hS => ?_)
  have hP : va_P g.1 vwCl [(h0, .inr (12, [.ref q_1, .null, .null, .null, .int 0, .int 0, .int 0, .int 0, .int 0, .int 0, .int 0, .int 0, .int 0, .int 0, .int 0, .int 0, .int 0])), (q_1, .inr (4, [.int x0, .int x1, .int 0, .int 0, .int 0]))] H := hP
  have hD : va_D A [(h0, .inr (12, [.ref q_1, .null, .null, .null, .int 0, .int 0, .int 0, .int 0, .int 0, .int 0, .int 0, .int 0, .int 0, .int 0, .int 0, .int 0, .int 0])), (q_1, .inr (4, [.int x0, .int x1, .int 0, .int 0, .int 0]))] := hD
  refine lv_aload_n hx hb dX8_init_17 rfl (lv_at hl 0 rfl) ?_
  refine va_new (D := g.1) (ci := 3) (fs := [.int 0, .null, .int 0]) (C := RJx4a65c) (T := TJx4a65c) (N := 3) hx hb G.ws inJx4a65c tyJx4a65c tyJx4a65c_ok hown (G.w kw_147) (G.w kw_148) (G.w kw_30) G.K hP hD hS hA rfl (fun j hj => by rcases (show j = 0 ∨ j = 1 ∨ j = 2 by omega) with rfl | rfl | rfl <;> rfl) (by decide) (by decide) dX8_init_18 (fun q_3 H hP hD hS => ?_)
  have hP : va_P g.1 vwCl [(h0, .inr (12, [.ref q_1, .null, .null, .null, .int 0, .int 0, .int 0, .int 0, .int 0, .int 0, .int 0, .int 0, .int 0, .int 0, .int 0, .int 0, .int 0])), (q_1, .inr (4, [.int x0, .int x1, .int 0, .int 0, .int 0])), (q_3, .inr (3, [.int 0, .null, .int 0]))] H := hP
  have hD : va_D A [(h0, .inr (12, [.ref q_1, .null, .null, .null, .int 0, .int 0, .int 0, .int 0, .int 0, .int 0, .int 0, .int 0, .int 0, .int 0, .int 0, .int 0, .int 0])), (q_1, .inr (4, [.int x0, .int x1, .int 0, .int 0, .int 0])), (q_3, .inr (3, [.int 0, .null, .int 0]))] := hD
  refine W.widen (k := 2) (n := 8) (by decide) (by decide) ?_
  refine lv_dup hx hb dX8_init_21 rfl ?_
  refine kcallI (wc := [(q_3, .inr (3, [.int 0, .null, .int 0]))]) (wr := [(h0, .inr (12, [.ref q_1, .null, .null, .null, .int 0, .int 0, .int 0, .int 0, .int 0, .int 0, .int 0, .int 0, .int 0, .int 0, .int 0, .int 0, .int 0])), (q_1, .inr (4, [.int x0, .int x1, .int 0, .int 0, .int 0]))]) (As := []) (rest := [.ref q_3, .ref h0]) K G (m_Jx4a65c_init_da8c8 l hl0 g q_3 ) hP hD hS hA hl kw_149 kw_150 kw_151 kw_30 rfl ydJx4a65c_init_da8c8 [2] [0, 1] rfl rfl rfl rfl (by decide) rfl rfl (Nat.le_of_ble_eq_true rfl) dX8_init_22 ⟨Nat.le_of_ble_eq_true rfl, Nat.le_of_ble_eq_true rfl⟩ ⟨Nat.le_of_ble_eq_true rfl, Nat.le_of_ble_eq_true rfl⟩ (fun _ _ _ _ _ _ hX _ _ _ _ _ _ => hX.elim) (fun v w1 H locs hQ hP hD hS => ?_)
  obtain ⟨rfl, rfl⟩ := hQ
  have hP : va_P g.1 vwCl [(h0, .inr (12, [.ref q_1, .null, .null, .null, .int 0, .int 0, .int 0, .int 0, .int 0, .int 0, .int 0, .int 0, .int 0, .int 0, .int 0, .int 0, .int 0])), (q_1, .inr (4, [.int x0, .int x1, .int 0, .int 0, .int 0])), (q_3, .inr (3, [.int 0, .ref g.2.1, .int 0]))] H := hP
  have hD : va_D A [(h0, .inr (12, [.ref q_1, .null, .null, .null, .int 0, .int 0, .int 0, .int 0, .int 0, .int 0, .int 0, .int 0, .int 0, .int 0, .int 0, .int 0, .int 0])), (q_1, .inr (4, [.int x0, .int x1, .int 0, .int 0, .int 0])), (q_3, .inr (3, [.int 0, .ref g.2.1, .int 0]))] := hD
  refine W.widen (k := 2) (n := 8) (by decide) (by decide) ?_
  refine W.eq (g2 := F0 m 25 ls [.ref q_3, .ref h0]) rfl ?_
  refine va_putF (D := g.1) (ci := 12) (v := .ref q_3) (ty := (.object "java/util/ArrayList")) (C := RX8) (T := TX8) (N := 17) hx hb G.ws inX8 tyX8 tyX8_ok nmX8 hown G.K hP hD hS 0 rfl rfl 1 (by decide) (G.w kw_152) (fun _ h9 => h9) rfl hin rfl (by decide +kernel) rfl rfl (Nat.le_of_ble_eq_true rfl) dX8_init_25 (fun H locs hP hD hS => ?_)
  have hP : va_P g.1 vwCl [(h0, .inr (12, [.ref q_1, .ref q_3, .null, .null, .int 0, .int 0, .int 0, .int 0, .int 0, .int 0, .int 0, .int 0, .int 0, .int 0, .int 0, .int 0, .int 0])), (q_1, .inr (4, [.int x0, .int x1, .int 0, .int 0, .int 0])), (q_3, .inr (3, [.int 0, .ref g.2.1, .int 0]))] H := hP
  have hD : va_D A [(h0, .inr (12, [.ref q_1, .ref q_3, .null, .null, .int 0, .int 0, .int 0, .int 0, .int 0, .int 0, .int 0, .int 0, .int 0, .int 0, .int 0, .int 0, .int 0])), (q_1, .inr (4, [.int x0, .int x1, .int 0, .int 0, .int 0])), (q_3, .inr (3, [.int 0, .ref g.2.1, .int 0]))] := hD
  refine lv_aload_n hx hb dX8_init_28 rfl (lv_at hl 0 rfl) ?_
  refine va_new (D := g.1) (ci := 10) (fs := [.null, .int 0]) (C := RX6) (T := TX6) (N := 2) hx hb G.ws inX6 tyX6 tyX6_ok hown (G.w kw_153) (G.w kw_154) (G.w kw_155) G.K hP hD hS hA rfl (fun j hj => by rcases (show j = 0 ∨ j = 1 by omega) with rfl | rfl <;> rfl) (by decide) (by decide) dX8_init_29 (fun q_5 H hP hD hS => ?_)
  have hP : va_P g.1 vwCl [(h0, .inr (12, [.ref q_1, .ref q_3, .null, .null, .int 0, .int 0, .int 0, .int 0, .int 0, .int 0, .int 0, .int 0, .int 0, .int 0, .int 0, .int 0, .int 0])), (q_1, .inr (4, [.int x0, .int x1, .int 0, .int 0, .int 0])), (q_3, .inr (3, [.int 0, .ref g.2.1, .int 0])), (q_5, .inr (10, [.null, .int 0]))] H := hP
  have hD : va_D A [(h0, .inr (12, [.ref q_1, .ref q_3, .null, .null, .int 0, .int 0, .int 0, .int 0, .int 0, .int 0, .int 0, .int 0, .int 0, .int 0, .int 0, .int 0, .int 0])), (q_1, .inr (4, [.int x0, .int x1, .int 0, .int 0, .int 0])), (q_3, .inr (3, [.int 0, .ref g.2.1, .int 0])), (q_5, .inr (10, [.null, .int 0]))] := hD
  refine W.widen (k := 3) (n := 10) (by decide) (by decide) ?_
  refine lv_dup hx hb dX8_init_32 rfl ?_
  refine kcallI (wc := [(q_5, .inr (10, [.null, .int 0]))]) (wr := [(h0, .inr (12, [.ref q_1, .ref q_3, .null, .null, .int 0, .int 0, .int 0, .int 0, .int 0, .int 0, .int 0, .int 0, .int 0, .int 0, .int 0, .int 0, .int 0])), (q_1, .inr (4, [.int x0, .int x1, .int 0, .int 0, .int 0])), (q_3, .inr (3, [.int 0, .ref g.2.1, .int 0]))]) (As := []) (rest := [.ref q_5, .ref h0]) K G (m_X6_init l hl0 g q_5 ) hP hD hS hA hl kw_156 kw_157 kw_158 kw_155 rfl ydX6_init [3] [0, 1, 2] rfl rfl rfl rfl (by decide) rfl rfl (Nat.le_of_ble_eq_true rfl) dX8_init_33 ⟨Nat.le_of_ble_eq_true rfl, Nat.le_of_ble_eq_true rfl⟩ ⟨Nat.le_of_ble_eq_true rfl, Nat.le_of_ble_eq_true rfl⟩ (fun _ _ _ _ _ _ hX _ _ _ _ _ _ => hX.elim) (fun v w1 H locs hQ hP hD hS => ?_)
  obtain ⟨q0_7, rfl, rfl⟩ := hQ
  have hP : va_P g.1 vwCl [(h0, .inr (12, [.ref q_1, .ref q_3, .null, .null, .int 0, .int 0, .int 0, .int 0, .int 0, .int 0, .int 0, .int 0, .int 0, .int 0, .int 0, .int 0, .int 0])), (q_1, .inr (4, [.int x0, .int x1, .int 0, .int 0, .int 0])), (q_3, .inr (3, [.int 0, .ref g.2.1, .int 0])), (q_5, .inr (10, [.ref q0_7, .int (-1)]))] H := hP
  have hD : va_D A [(h0, .inr (12, [.ref q_1, .ref q_3, .null, .null, .int 0, .int 0, .int 0, .int 0, .int 0, .int 0, .int 0, .int 0, .int 0, .int 0, .int 0, .int 0, .int 0])), (q_1, .inr (4, [.int x0, .int x1, .int 0, .int 0, .int 0])), (q_3, .inr (3, [.int 0, .ref g.2.1, .int 0])), (q_5, .inr (10, [.ref q0_7, .int (-1)]))] := hD
  refine W.widen (k := 4) (n := 34) (by decide) (by decide) ?_
  refine W.eq (g2 := F0 m 36 ls [.ref q_5, .ref h0]) rfl ?_
  refine va_putF (D := g.1) (ci := 12) (v := .ref q_5) (ty := (.object "GalleonWave$Programme")) (C := RX8) (T := TX8) (N := 17) hx hb G.ws inX8 tyX8 tyX8_ok nmX8 hown G.K hP hD hS 0 rfl rfl 2 (by decide) (G.w kw_159) (fun _ h9 => h9) rfl hin rfl (by decide +kernel) rfl rfl (Nat.le_of_ble_eq_true rfl) dX8_init_36 (fun H locs hP hD hS => ?_)
  have hP : va_P g.1 vwCl [(h0, .inr (12, [.ref q_1, .ref q_3, .ref q_5, .null, .int 0, .int 0, .int 0, .int 0, .int 0, .int 0, .int 0, .int 0, .int 0, .int 0, .int 0, .int 0, .int 0])), (q_1, .inr (4, [.int x0, .int x1, .int 0, .int 0, .int 0])), (q_3, .inr (3, [.int 0, .ref g.2.1, .int 0])), (q_5, .inr (10, [.ref q0_7, .int (-1)]))] H := hP
  have hD : va_D A [(h0, .inr (12, [.ref q_1, .ref q_3, .ref q_5, .null, .int 0, .int 0, .int 0, .int 0, .int 0, .int 0, .int 0, .int 0, .int 0, .int 0, .int 0, .int 0, .int 0])), (q_1, .inr (4, [.int x0, .int x1, .int 0, .int 0, .int 0])), (q_3, .inr (3, [.int 0, .ref g.2.1, .int 0])), (q_5, .inr (10, [.ref q0_7, .int (-1)]))] := hD
  refine lv_aload_n hx hb dX8_init_39 rfl (lv_at hl 0 rfl) ?_
  refine va_new (D := g.1) (ci := 13) (fs := [.int 0, .int 0, .int 0, .int 0]) (C := RX9) (T := TX9) (N := 4) hx hb G.ws inX9 tyX9 tyX9_ok hown (G.w kw_160) (G.w kw_161) (G.w kw_162) G.K hP hD hS hA rfl (fun j hj => by rcases (show j = 0 ∨ j = 1 ∨ j = 2 ∨ j = 3 by omega) with rfl | rfl | rfl | rfl <;> rfl) (by decide) (by decide) dX8_init_40 (fun q_8 H hP hD hS => ?_)
  have hP : va_P g.1 vwCl [(h0, .inr (12, [.ref q_1, .ref q_3, .ref q_5, .null, .int 0, .int 0, .int 0, .int 0, .int 0, .int 0, .int 0, .int 0, .int 0, .int 0, .int 0, .int 0, .int 0])), (q_1, .inr (4, [.int x0, .int x1, .int 0, .int 0, .int 0])), (q_3, .inr (3, [.int 0, .ref g.2.1, .int 0])), (q_5, .inr (10, [.ref q0_7, .int (-1)])), (q_8, .inr (13, [.int 0, .int 0, .int 0, .int 0]))] H := hP
  have hD : va_D A [(h0, .inr (12, [.ref q_1, .ref q_3, .ref q_5, .null, .int 0, .int 0, .int 0, .int 0, .int 0, .int 0, .int 0, .int 0, .int 0, .int 0, .int 0, .int 0, .int 0])), (q_1, .inr (4, [.int x0, .int x1, .int 0, .int 0, .int 0])), (q_3, .inr (3, [.int 0, .ref g.2.1, .int 0])), (q_5, .inr (10, [.ref q0_7, .int (-1)])), (q_8, .inr (13, [.int 0, .int 0, .int 0, .int 0]))] := hD
  refine W.widen (k := 5) (n := 38) (by decide) (by decide) ?_
  refine lv_dup hx hb dX8_init_43 rfl ?_
  refine kcallI (wc := [(q_8, .inr (13, [.int 0, .int 0, .int 0, .int 0]))]) (wr := [(h0, .inr (12, [.ref q_1, .ref q_3, .ref q_5, .null, .int 0, .int 0, .int 0, .int 0, .int 0, .int 0, .int 0, .int 0, .int 0, .int 0, .int 0, .int 0, .int 0])), (q_1, .inr (4, [.int x0, .int x1, .int 0, .int 0, .int 0])), (q_3, .inr (3, [.int 0, .ref g.2.1, .int 0])), (q_5, .inr (10, [.ref q0_7, .int (-1)]))]) (As := []) (rest := [.ref q_8, .ref h0]) K G (m_X9_init l hl0 g q_8 ) hP hD hS hA hl kw_163 kw_164 kw_165 kw_162 rfl ydX9_init [4] [0, 1, 2, 3] rfl rfl rfl rfl (by decide) rfl rfl (Nat.le_of_ble_eq_true rfl) dX8_init_44 ⟨Nat.le_of_ble_eq_true rfl, Nat.le_of_ble_eq_true rfl⟩ ⟨Nat.le_of_ble_eq_true rfl, Nat.le_of_ble_eq_true rfl⟩ (fun _ _ _ _ _ _ hX _ _ _ _ _ _ => hX.elim) (fun v w1 H locs hQ hP hD hS => ?_)
  obtain ⟨rfl, rfl⟩ := hQ
  have hP : va_P g.1 vwCl [(h0, .inr (12, [.ref q_1, .ref q_3, .ref q_5, .null, .int 0, .int 0, .int 0, .int 0, .int 0, .int 0, .int 0, .int 0, .int 0, .int 0, .int 0, .int 0, .int 0])), (q_1, .inr (4, [.int x0, .int x1, .int 0, .int 0, .int 0])), (q_3, .inr (3, [.int 0, .ref g.2.1, .int 0])), (q_5, .inr (10, [.ref q0_7, .int (-1)])), (q_8, .inr (13, [.int 0, .int 0, .int 0, .int 0]))] H := hP
  have hD : va_D A [(h0, .inr (12, [.ref q_1, .ref q_3, .ref q_5, .null, .int 0, .int 0, .int 0, .int 0, .int 0, .int 0, .int 0, .int 0, .int 0, .int 0, .int 0, .int 0, .int 0])), (q_1, .inr (4, [.int x0, .int x1, .int 0, .int 0, .int 0])), (q_3, .inr (3, [.int 0, .ref g.2.1, .int 0])), (q_5, .inr (10, [.ref q0_7, .int (-1)])), (q_8, .inr (13, [.int 0, .int 0, .int 0, .int 0]))] := hD
  refine W.widen (k := 5) (n := 38) (by decide) (by decide) ?_
  refine W.eq (g2 := F0 m 47 ls [.ref q_8, .ref h0]) rfl ?_
  refine va_putF (D := g.1) (ci := 12) (v := .ref q_8) (ty := (.object "GalleonWave$Spots")) (C := RX8) (T := TX8) (N := 17) hx hb G.ws inX8 tyX8 tyX8_ok nmX8 hown G.K hP hD hS 0 rfl rfl 3 (by decide) (G.w kw_166) (fun _ h9 => h9) rfl hin rfl (by decide +kernel) rfl rfl (Nat.le_of_ble_eq_true rfl) dX8_init_47 (fun H locs hP hD hS => ?_)
  have hP : va_P g.1 vwCl [(h0, .inr (12, [.ref q_1, .ref q_3, .ref q_5, .ref q_8, .int 0, .int 0, .int 0, .int 0, .int 0, .int 0, .int 0, .int 0, .int 0, .int 0, .int 0, .int 0, .int 0])), (q_1, .inr (4, [.int x0, .int x1, .int 0, .int 0, .int 0])), (q_3, .inr (3, [.int 0, .ref g.2.1, .int 0])), (q_5, .inr (10, [.ref q0_7, .int (-1)])), (q_8, .inr (13, [.int 0, .int 0, .int 0, .int 0]))] H := hP
  have hD : va_D A [(h0, .inr (12, [.ref q_1, .ref q_3, .ref q_5, .ref q_8, .int 0, .int 0, .int 0, .int 0, .int 0, .int 0, .int 0, .int 0, .int 0, .int 0, .int 0, .int 0, .int 0])), (q_1, .inr (4, [.int x0, .int x1, .int 0, .int 0, .int 0])), (q_3, .inr (3, [.int 0, .ref g.2.1, .int 0])), (q_5, .inr (10, [.ref q0_7, .int (-1)])), (q_8, .inr (13, [.int 0, .int 0, .int 0, .int 0]))] := hD
  refine lv_aload_n hx hb dX8_init_50 rfl (lv_at hl 0 rfl) ?_
  refine lv_iload_n hx hb dX8_init_51 rfl (lv_at hl 1 rfl) ?_
  refine va_put (D := g.1) (ci := 12) (v := .int x0) (ty := .int) (C := RX8) (T := TX8) (N := 17) hx hb G.ws inX8 tyX8 tyX8_ok nmX8 hown G.K hP hD hS 0 rfl rfl 4 (by decide) (G.w kw_167) (fun _ h9 => h9) (by decide +kernel) (by decide +kernel) rfl rfl (Nat.le_of_ble_eq_true rfl) dX8_init_52 (fun H locs hP hD hS => ?_)
  have hP : va_P g.1 vwCl [(h0, .inr (12, [.ref q_1, .ref q_3, .ref q_5, .ref q_8, .int x0, .int 0, .int 0, .int 0, .int 0, .int 0, .int 0, .int 0, .int 0, .int 0, .int 0, .int 0, .int 0])), (q_1, .inr (4, [.int x0, .int x1, .int 0, .int 0, .int 0])), (q_3, .inr (3, [.int 0, .ref g.2.1, .int 0])), (q_5, .inr (10, [.ref q0_7, .int (-1)])), (q_8, .inr (13, [.int 0, .int 0, .int 0, .int 0]))] H := hP
  have hD : va_D A [(h0, .inr (12, [.ref q_1, .ref q_3, .ref q_5, .ref q_8, .int x0, .int 0, .int 0, .int 0, .int 0, .int 0, .int 0, .int 0, .int 0, .int 0, .int 0, .int 0, .int 0])), (q_1, .inr (4, [.int x0, .int x1, .int 0, .int 0, .int 0])), (q_3, .inr (3, [.int 0, .ref g.2.1, .int 0])), (q_5, .inr (10, [.ref q0_7, .int (-1)])), (q_8, .inr (13, [.int 0, .int 0, .int 0, .int 0]))] := hD
  refine lv_aload_n hx hb dX8_init_55 rfl (lv_at hl 0 rfl) ?_
  refine lv_iload_n hx hb dX8_init_56 rfl (lv_at hl 2 rfl) ?_
  refine va_put (D := g.1) (ci := 12) (v := .int x1) (ty := .int) (C := RX8) (T := TX8) (N := 17) hx hb G.ws inX8 tyX8 tyX8_ok nmX8 hown G.K hP hD hS 0 rfl rfl 5 (by decide) (G.w kw_168) (fun _ h9 => h9) (by decide +kernel) (by decide +kernel) rfl rfl (Nat.le_of_ble_eq_true rfl) dX8_init_57 (fun H locs hP hD hS => ?_)
  have hP : va_P g.1 vwCl [(h0, .inr (12, [.ref q_1, .ref q_3, .ref q_5, .ref q_8, .int x0, .int x1, .int 0, .int 0, .int 0, .int 0, .int 0, .int 0, .int 0, .int 0, .int 0, .int 0, .int 0])), (q_1, .inr (4, [.int x0, .int x1, .int 0, .int 0, .int 0])), (q_3, .inr (3, [.int 0, .ref g.2.1, .int 0])), (q_5, .inr (10, [.ref q0_7, .int (-1)])), (q_8, .inr (13, [.int 0, .int 0, .int 0, .int 0]))] H := hP
  have hD : va_D A [(h0, .inr (12, [.ref q_1, .ref q_3, .ref q_5, .ref q_8, .int x0, .int x1, .int 0, .int 0, .int 0, .int 0, .int 0, .int 0, .int 0, .int 0, .int 0, .int 0, .int 0])), (q_1, .inr (4, [.int x0, .int x1, .int 0, .int 0, .int 0])), (q_3, .inr (3, [.int 0, .ref g.2.1, .int 0])), (q_5, .inr (10, [.ref q0_7, .int (-1)])), (q_8, .inr (13, [.int 0, .int 0, .int 0, .int 0]))] := hD
  refine lv_aload_n hx hb dX8_init_60 rfl (lv_at hl 0 rfl) ?_
  refine lv_iconst (v := (-1)) hx hb dX8_init_61 (by decide) ?_
  refine va_put (D := g.1) (ci := 12) (v := .int (-1)) (ty := .int) (C := RX8) (T := TX8) (N := 17) hx hb G.ws inX8 tyX8 tyX8_ok nmX8 hown G.K hP hD hS 0 rfl rfl 10 (by decide) (G.w kw_169) (fun _ h9 => h9) (by decide +kernel) (by decide +kernel) rfl rfl (Nat.le_of_ble_eq_true rfl) dX8_init_62 (fun H locs hP hD hS => ?_)
  have hP : va_P g.1 vwCl [(h0, .inr (12, [.ref q_1, .ref q_3, .ref q_5, .ref q_8, .int x0, .int x1, .int 0, .int 0, .int 0, .int 0, .int (-1), .int 0, .int 0, .int 0, .int 0, .int 0, .int 0])), (q_1, .inr (4, [.int x0, .int x1, .int 0, .int 0, .int 0])), (q_3, .inr (3, [.int 0, .ref g.2.1, .int 0])), (q_5, .inr (10, [.ref q0_7, .int (-1)])), (q_8, .inr (13, [.int 0, .int 0, .int 0, .int 0]))] H := hP
  have hD : va_D A [(h0, .inr (12, [.ref q_1, .ref q_3, .ref q_5, .ref q_8, .int x0, .int x1, .int 0, .int 0, .int 0, .int 0, .int (-1), .int 0, .int 0, .int 0, .int 0, .int 0, .int 0])), (q_1, .inr (4, [.int x0, .int x1, .int 0, .int 0, .int 0])), (q_3, .inr (3, [.int 0, .ref g.2.1, .int 0])), (q_5, .inr (10, [.ref q0_7, .int (-1)])), (q_8, .inr (13, [.int 0, .int 0, .int 0, .int 0]))] := hD
  refine lv_aload_n hx hb dX8_init_65 rfl (lv_at hl 0 rfl) ?_
  refine lv_iconst (v := (-1)) hx hb dX8_init_66 (by decide) ?_
  refine va_put (D := g.1) (ci := 12) (v := .int (-1)) (ty := .int) (C := RX8) (T := TX8) (N := 17) hx hb G.ws inX8 tyX8 tyX8_ok nmX8 hown G.K hP hD hS 0 rfl rfl 14 (by decide) (G.w kw_170) (fun _ h9 => h9) (by decide +kernel) (by decide +kernel) rfl rfl (Nat.le_of_ble_eq_true rfl) dX8_init_67 (fun H locs hP hD hS => ?_)
  have hP : va_P g.1 vwCl [(h0, .inr (12, [.ref q_1, .ref q_3, .ref q_5, .ref q_8, .int x0, .int x1, .int 0, .int 0, .int 0, .int 0, .int (-1), .int 0, .int 0, .int 0, .int (-1), .int 0, .int 0])), (q_1, .inr (4, [.int x0, .int x1, .int 0, .int 0, .int 0])), (q_3, .inr (3, [.int 0, .ref g.2.1, .int 0])), (q_5, .inr (10, [.ref q0_7, .int (-1)])), (q_8, .inr (13, [.int 0, .int 0, .int 0, .int 0]))] H := hP
  have hD : va_D A [(h0, .inr (12, [.ref q_1, .ref q_3, .ref q_5, .ref q_8, .int x0, .int x1, .int 0, .int 0, .int 0, .int 0, .int (-1), .int 0, .int 0, .int 0, .int (-1), .int 0, .int 0])), (q_1, .inr (4, [.int x0, .int x1, .int 0, .int 0, .int 0])), (q_3, .inr (3, [.int 0, .ref g.2.1, .int 0])), (q_5, .inr (10, [.ref q0_7, .int (-1)])), (q_8, .inr (13, [.int 0, .int 0, .int 0, .int 0]))] := hD
  exact kretV K hP hD hS [0] [(h0, .inr (12, [.ref q_1, .ref q_3, .ref q_5, .ref q_8, .int x0, .int x1, .int 0, .int 0, .int 0, .int 0, .int (-1), .int 0, .int 0, .int 0, .int (-1), .int 0, .int 0]))] rfl rfl (⟨q_1, q_3, q_5, q_8, rfl, rfl⟩) (by decide) (by decide) dX8_init_70

set_option maxHeartbeats 4000000 in
set_option maxRecDepth 100000 in
theorem m_X3_init (l : Launch) (hl0 : l.stackTraces = false) (g : kG) (h0 : Nat)  : kc l g yX3_init prog_5_method_1_code 1 none 1 20 5 1000 [.ref h0] [(h0, .inr (7, [.null, .null, .null, .null, .null, .int 0, .int 0]))] (fun v w => (∃ q0 : Nat, ∃ q1 : Nat, ∃ q2 : Nat, ∃ q3 : Nat, ∃ q4 : Nat, v = none ∧ w = [(h0, .inr (7, [.ref q0, .ref q1, .ref q2, .ref q3, .ref q4, .int 0, .int 0]))])) (fun _ _ => False) := by
  refine kbody (by decide) (Nat.le_of_ble_eq_true rfl) ?_
  intro p e s m args below meth c A H K ht G hP hD hA hS ls hl
  have K : KB p s m meth c RX3 "<init>" prog_5_method_1_code 1 none := K
  obtain ⟨hx, hb, hml, hown, hlocks, hr, hin⟩ := id K
  have hl : lv_has ls 1 [(0, .ref h0)] := hl
  refine lv_aload_n hx hb dX3_init_0 rfl (lv_at hl 0 rfl) ?_
  refine W.objInit hx hb hown (G.w kw_171) (G.w kw_9) (G.w kw_10) rfl (by rw [hml]; exact hl.1) rfl dX3_init_1 (Nat.le_of_ble_eq_true rfl) (Nat.le_of_ble_eq_true rfl) ?_
  refine W.eq (g2 := F0 m 4 ls []) rfl ?_
  refine lv_aload_n hx hb dX3_init_4 rfl (lv_at hl 0 rfl) ?_
  refine lv_sipush (v := 200) hx hb dX3_init_5 (by decide) ?_
  refine kNewa0 hx hb (G.w kw_123) G hP hD hS hA (n := 200) (N := 200) (by decide) (by decide) (by decide) (by decide) (by decide) dX3_init_8 (fun q_1 H hP hD hS => ?_)
  have hP : va_P g.1 vwCl [(h0, .inr (7, [.null, .null, .null, .null, .null, .int 0, .int 0])), (q_1, .inl ((g.2.2.1 0), 200, .inl (fun _ => 0)))] H := hP
  have hD : va_D A [(h0, .inr (7, [.null, .null, .null, .null, .null, .int 0, .int 0])), (q_1, .inl ((g.2.2.1 0), 200, .inl (fun _ => 0)))] := hD
  refine W.widen (k := 1) (n := 200) (by decide) (by decide) ?_
  refine va_putF (D := g.1) (ci := 7) (v := .ref q_1) (ty := (.array .int)) (C := RX3) (T := TX3) (N := 7) hx hb G.ws inX3 tyX3 tyX3_ok nmX3 hown G.K hP hD hS 0 rfl rfl 0 (by decide) (G.w kw_172) (fun _ h9 => h9) rfl hin rfl (by decide +kernel) rfl rfl (Nat.le_of_ble_eq_true rfl) dX3_init_10 (fun H locs hP hD hS => ?_)
  have hP : va_P g.1 vwCl [(h0, .inr (7, [.ref q_1, .null, .null, .null, .null, .int 0, .int 0])), (q_1, .inl ((g.2.2.1 0), 200, .inl (fun _ => 0)))] H := hP
  have hD : va_D A [(h0, .inr (7, [.ref q_1, .null, .null, .null, .null, .int 0, .int 0])), (q_1, .inl ((g.2.2.1 0), 200, .inl (fun _ => 0)))] := hD
  refine lv_aload_n hx hb dX3_init_13 rfl (lv_at hl 0 rfl) ?_
  refine lv_sipush (v := 200) hx hb dX3_init_14 (by decide) ?_
  refine kNewa0 hx hb (G.w kw_123) G hP hD hS hA (n := 200) (N := 200) (by decide) (by decide) (by decide) (by decide) (by decide) dX3_init_17 (fun q_2 H hP hD hS => ?_)
  have hP : va_P g.1 vwCl [(h0, .inr (7, [.ref q_1, .null, .null, .null, .null, .int 0, .int 0])), (q_1, .inl ((g.2.2.1 0), 200, .inl (fun _ => 0))), (q_2, .inl ((g.2.2.1 0), 200, .inl (fun _ => 0)))] H := hP
  have hD : va_D A [(h0, .inr (7, [.ref q_1, .null, .null, .null, .null, .int 0, .int 0])), (q_1, .inl ((g.2.2.1 0), 200, .inl (fun _ => 0))), (q_2, .inl ((g.2.2.1 0), 200, .inl (fun _ => 0)))] := hD
  refine W.widen (k := 2) (n := 400) (by decide) (by decide) ?_
  refine va_putF (D := g.1) (ci := 7) (v := .ref q_2) (ty := (.array .int)) (C := RX3) (T := TX3) (N := 7) hx hb G.ws inX3 tyX3 tyX3_ok nmX3 hown G.K hP hD hS 0 rfl rfl 1 (by decide) (G.w kw_173) (fun _ h9 => h9) rfl hin rfl (by decide +kernel) rfl rfl (Nat.le_of_ble_eq_true rfl) dX3_init_19 (fun H locs hP hD hS => ?_)
  have hP : va_P g.1 vwCl [(h0, .inr (7, [.ref q_1, .ref q_2, .null, .null, .null, .int 0, .int 0])), (q_1, .inl ((g.2.2.1 0), 200, .inl (fun _ => 0))), (q_2, .inl ((g.2.2.1 0), 200, .inl (fun _ => 0)))] H := hP
  have hD : va_D A [(h0, .inr (7, [.ref q_1, .ref q_2, .null, .null, .null, .int 0, .int 0])), (q_1, .inl ((g.2.2.1 0), 200, .inl (fun _ => 0))), (q_2, .inl ((g.2.2.1 0), 200, .inl (fun _ => 0)))] := hD
  refine lv_aload_n hx hb dX3_init_22 rfl (lv_at hl 0 rfl) ?_
  refine lv_sipush (v := 200) hx hb dX3_init_23 (by decide) ?_
  refine kNewa0 hx hb (G.w kw_123) G hP hD hS hA (n := 200) (N := 200) (by decide) (by decide) (by decide) (by decide) (by decide) dX3_init_26 (fun q_3 H hP hD hS => ?_)
  have hP : va_P g.1 vwCl [(h0, .inr (7, [.ref q_1, .ref q_2, .null, .null, .null, .int 0, .int 0])), (q_1, .inl ((g.2.2.1 0), 200, .inl (fun _ => 0))), (q_2, .inl ((g.2.2.1 0), 200, .inl (fun _ => 0))), (q_3, .inl ((g.2.2.1 0), 200, .inl (fun _ => 0)))] H := hP
  have hD : va_D A [(h0, .inr (7, [.ref q_1, .ref q_2, .null, .null, .null, .int 0, .int 0])), (q_1, .inl ((g.2.2.1 0), 200, .inl (fun _ => 0))), (q_2, .inl ((g.2.2.1 0), 200, .inl (fun _ => 0))), (q_3, .inl ((g.2.2.1 0), 200, .inl (fun _ => 0)))] := hD
  refine W.widen (k := 3) (n := 600) (by decide) (by decide) ?_
  refine va_putF (D := g.1) (ci := 7) (v := .ref q_3) (ty := (.array .int)) (C := RX3) (T := TX3) (N := 7) hx hb G.ws inX3 tyX3 tyX3_ok nmX3 hown G.K hP hD hS 0 rfl rfl 2 (by decide) (G.w kw_174) (fun _ h9 => h9) rfl hin rfl (by decide +kernel) rfl rfl (Nat.le_of_ble_eq_true rfl) dX3_init_28 (fun H locs hP hD hS => ?_)
  have hP : va_P g.1 vwCl [(h0, .inr (7, [.ref q_1, .ref q_2, .ref q_3, .null, .null, .int 0, .int 0])), (q_1, .inl ((g.2.2.1 0), 200, .inl (fun _ => 0))), (q_2, .inl ((g.2.2.1 0), 200, .inl (fun _ => 0))), (q_3, .inl ((g.2.2.1 0), 200, .inl (fun _ => 0)))] H := hP
  have hD : va_D A [(h0, .inr (7, [.ref q_1, .ref q_2, .ref q_3, .null, .null, .int 0, .int 0])), (q_1, .inl ((g.2.2.1 0), 200, .inl (fun _ => 0))), (q_2, .inl ((g.2.2.1 0), 200, .inl (fun _ => 0))), (q_3, .inl ((g.2.2.1 0), 200, .inl (fun _ => 0)))] := hD
  refine lv_aload_n hx hb dX3_init_31 rfl (lv_at hl 0 rfl) ?_
  refine lv_sipush (v := 200) hx hb dX3_init_32 (by decide) ?_
  refine kNewa0 hx hb (G.w kw_123) G hP hD hS hA (n := 200) (N := 200) (by decide) (by decide) (by decide) (by decide) (by decide) dX3_init_35 (fun q_4 H hP hD hS => ?_)
  have hP : va_P g.1 vwCl [(h0, .inr (7, [.ref q_1, .ref q_2, .ref q_3, .null, .null, .int 0, .int 0])), (q_1, .inl ((g.2.2.1 0), 200, .inl (fun _ => 0))), (q_2, .inl ((g.2.2.1 0), 200, .inl (fun _ => 0))), (q_3, .inl ((g.2.2.1 0), 200, .inl (fun _ => 0))), (q_4, .inl ((g.2.2.1 0), 200, .inl (fun _ => 0)))] H := hP
  have hD : va_D A [(h0, .inr (7, [.ref q_1, .ref q_2, .ref q_3, .null, .null, .int 0, .int 0])), (q_1, .inl ((g.2.2.1 0), 200, .inl (fun _ => 0))), (q_2, .inl ((g.2.2.1 0), 200, .inl (fun _ => 0))), (q_3, .inl ((g.2.2.1 0), 200, .inl (fun _ => 0))), (q_4, .inl ((g.2.2.1 0), 200, .inl (fun _ => 0)))] := hD
  refine W.widen (k := 4) (n := 800) (by decide) (by decide) ?_
  refine va_putF (D := g.1) (ci := 7) (v := .ref q_4) (ty := (.array .int)) (C := RX3) (T := TX3) (N := 7) hx hb G.ws inX3 tyX3 tyX3_ok nmX3 hown G.K hP hD hS 0 rfl rfl 3 (by decide) (G.w kw_175) (fun _ h9 => h9) rfl hin rfl (by decide +kernel) rfl rfl (Nat.le_of_ble_eq_true rfl) dX3_init_37 (fun H locs hP hD hS => ?_)
  have hP : va_P g.1 vwCl [(h0, .inr (7, [.ref q_1, .ref q_2, .ref q_3, .ref q_4, .null, .int 0, .int 0])), (q_1, .inl ((g.2.2.1 0), 200, .inl (fun _ => 0))), (q_2, .inl ((g.2.2.1 0), 200, .inl (fun _ => 0))), (q_3, .inl ((g.2.2.1 0), 200, .inl (fun _ => 0))), (q_4, .inl ((g.2.2.1 0), 200, .inl (fun _ => 0)))] H := hP
  have hD : va_D A [(h0, .inr (7, [.ref q_1, .ref q_2, .ref q_3, .ref q_4, .null, .int 0, .int 0])), (q_1, .inl ((g.2.2.1 0), 200, .inl (fun _ => 0))), (q_2, .inl ((g.2.2.1 0), 200, .inl (fun _ => 0))), (q_3, .inl ((g.2.2.1 0), 200, .inl (fun _ => 0))), (q_4, .inl ((g.2.2.1 0), 200, .inl (fun _ => 0)))] := hD
  refine lv_aload_n hx hb dX3_init_40 rfl (lv_at hl 0 rfl) ?_
  refine lv_sipush (v := 200) hx hb dX3_init_41 (by decide) ?_
  refine kNewa0 hx hb (G.w kw_123) G hP hD hS hA (n := 200) (N := 200) (by decide) (by decide) (by decide) (by decide) (by decide) dX3_init_44 (fun q_5 H hP hD hS => ?_)
  have hP : va_P g.1 vwCl [(h0, .inr (7, [.ref q_1, .ref q_2, .ref q_3, .ref q_4, .null, .int 0, .int 0])), (q_1, .inl ((g.2.2.1 0), 200, .inl (fun _ => 0))), (q_2, .inl ((g.2.2.1 0), 200, .inl (fun _ => 0))), (q_3, .inl ((g.2.2.1 0), 200, .inl (fun _ => 0))), (q_4, .inl ((g.2.2.1 0), 200, .inl (fun _ => 0))), (q_5, .inl ((g.2.2.1 0), 200, .inl (fun _ => 0)))] H := hP
  have hD : va_D A [(h0, .inr (7, [.ref q_1, .ref q_2, .ref q_3, .ref q_4, .null, .int 0, .int 0])), (q_1, .inl ((g.2.2.1 0), 200, .inl (fun _ => 0))), (q_2, .inl ((g.2.2.1 0), 200, .inl (fun _ => 0))), (q_3, .inl ((g.2.2.1 0), 200, .inl (fun _ => 0))), (q_4, .inl ((g.2.2.1 0), 200, .inl (fun _ => 0))), (q_5, .inl ((g.2.2.1 0), 200, .inl (fun _ => 0)))] := hD
  refine W.widen (k := 5) (n := 1000) (by decide) (by decide) ?_
  refine va_putF (D := g.1) (ci := 7) (v := .ref q_5) (ty := (.array .int)) (C := RX3) (T := TX3) (N := 7) hx hb G.ws inX3 tyX3 tyX3_ok nmX3 hown G.K hP hD hS 0 rfl rfl 4 (by decide) (G.w kw_176) (fun _ h9 => h9) rfl hin rfl (by decide +kernel) rfl rfl (Nat.le_of_ble_eq_true rfl) dX3_init_46 (fun H locs hP hD hS => ?_)
  have hP : va_P g.1 vwCl [(h0, .inr (7, [.ref q_1, .ref q_2, .ref q_3, .ref q_4, .ref q_5, .int 0, .int 0])), (q_1, .inl ((g.2.2.1 0), 200, .inl (fun _ => 0))), (q_2, .inl ((g.2.2.1 0), 200, .inl (fun _ => 0))), (q_3, .inl ((g.2.2.1 0), 200, .inl (fun _ => 0))), (q_4, .inl ((g.2.2.1 0), 200, .inl (fun _ => 0))), (q_5, .inl ((g.2.2.1 0), 200, .inl (fun _ => 0)))] H := hP
  have hD : va_D A [(h0, .inr (7, [.ref q_1, .ref q_2, .ref q_3, .ref q_4, .ref q_5, .int 0, .int 0])), (q_1, .inl ((g.2.2.1 0), 200, .inl (fun _ => 0))), (q_2, .inl ((g.2.2.1 0), 200, .inl (fun _ => 0))), (q_3, .inl ((g.2.2.1 0), 200, .inl (fun _ => 0))), (q_4, .inl ((g.2.2.1 0), 200, .inl (fun _ => 0))), (q_5, .inl ((g.2.2.1 0), 200, .inl (fun _ => 0)))] := hD
  exact kretV K hP hD hS [0] [(h0, .inr (7, [.ref q_1, .ref q_2, .ref q_3, .ref q_4, .ref q_5, .int 0, .int 0]))] rfl rfl (⟨q_1, q_2, q_3, q_4, q_5, rfl, rfl⟩) (by decide) (by decide) dX3_init_49

set_option maxHeartbeats 4000000 in
set_option maxRecDepth 100000 in
theorem m_X1_init (l : Launch) (hl0 : l.stackTraces = false) (g : kG) (h0 : Nat)  : kc l g yX1_init prog_3_method_1_code 1 none 4 80 12 1214 [.ref h0] [(h0, .inr (5, [.null, .null, .null, .null, .null, .null, .null, .int 0]))] (fun v w => (∃ k0 : Nat, ∃ r0 : Nat, ∃ b1 : Nat, ∃ b2 : Nat, ∃ b3 : Nat, ∃ b4 : Nat, ∃ b5 : Nat, ∃ b6 : Nat, ∃ b7 : Nat, ∃ b8 : Nat, ∃ b9 : Nat, ∃ b10 : Nat, v = none ∧ w = [(h0, .inr (5, [.ref k0, .ref r0, .ref b1, .ref b2, .ref b3, .ref b4, .ref b5, .int 0])), (k0, .inr (7, [.ref b6, .ref b7, .ref b8, .ref b9, .ref b10, .int 0, .int 0])), (r0, .inr (3, [.int 0, .ref g.2.1, .int 0]))])) (fun _ _ => False) := by
  refine kbody (by decide) (Nat.le_of_ble_eq_true rfl) ?_
  intro p e s m args below meth c A H K ht G hP hD hA hS ls hl
  have K : KB p s m meth c RX1 "<init>" prog_3_method_1_code 1 none := K
  obtain ⟨hx, hb, hml, hown, hlocks, hr, hin⟩ := id K
  have hl : lv_has ls 1 [(0, .ref h0)] := hl
  refine lv_aload_n hx hb dX1_init_0 rfl (lv_at hl 0 rfl) ?_
  refine W.objInit hx hb hown (G.w kw_177) (G.w kw_9) (G.w kw_10) rfl (by rw [hml]; exact hl.1) rfl dX1_init_1 (Nat.le_of_ble_eq_true rfl) (Nat.le_of_ble_eq_true rfl) ?_
  refine W.eq (g2 := F0 m 4 ls []) rfl ?_
  refine lv_aload_n hx hb dX1_init_4 rfl (lv_at hl 0 rfl) ?_
  refine va_new (D := g.1) (ci := 7) (fs := [.null, .null, .null, .null, .null, .int 0, .int 0]) (C := RX3) (T := TX3) (N := 7) hx hb G.ws inX3 tyX3 tyX3_ok hown (G.w kw_178) (G.w kw_179) (G.w kw_180) G.K hP hD hS hA rfl (fun j hj => by rcases (show j = 0 ∨ j = 1 ∨ j = 2 ∨ j = 3 ∨ j = 4 ∨ j = 5 ∨ j = 6 by omega) with rfl | rfl | rfl | rfl | rfl | rfl | rfl <;> rfl) (by decide) (by decide) dX1_init_5 (fun q_1 H hP hD hS => ?_)
  have hP : va_P g.1 vwCl [(h0, .inr (5, [.null, .null, .null, .null, .null, .null, .null, .int 0])), (q_1, .inr (7, [.null, .null, .null, .null, .null, .int 0, .int 0]))] H := hP
  have hD : va_D A [(h0, .inr (5, [.null, .null, .null, .null, .null, .null, .null, .int 0])), (q_1, .inr (7, [.null, .null, .null, .null, .null, .int 0, .int 0]))] := hD
  refine W.widen (k := 1) (n := 7) (by decide) (by decide) ?_
  refine lv_dup hx hb dX1_init_8 rfl ?_
  refine kcallI (wc := [(q_1, .inr (7, [.null, .null, .null, .null, .null, .int 0, .int 0]))]) (wr := [(h0, .inr (5, [.null, .null, .null, .null, .null, .null, .null, .int 0]))]) (As := []) (rest := [.ref q_1, .ref h0]) K G (m_X3_init l hl0 g q_1 ) hP hD hS hA hl kw_181 kw_182 kw_183 kw_180 rfl ydX3_init [1] [0] rfl rfl rfl rfl (by decide) rfl rfl (Nat.le_of_ble_eq_true rfl) dX1_init_9 ⟨Nat.le_of_ble_eq_true rfl, Nat.le_of_ble_eq_true rfl⟩ ⟨Nat.le_of_ble_eq_true rfl, Nat.le_of_ble_eq_true rfl⟩ (fun _ _ _ _ _ _ hX _ _ _ _ _ _ => hX.elim) (fun v w1 H locs hQ hP hD hS => ?_)
  obtain ⟨q0_3, q1_4, q2_5, q3_6, q4_7, rfl, rfl⟩ := hQ
  have hP : va_P g.1 vwCl [(h0, .inr (5, [.null, .null, .null, .null, .null, .null, .null, .int 0])), (q_1, .inr (7, [.ref q0_3, .ref q1_4, .ref q2_5, .ref q3_6, .ref q4_7, .int 0, .int 0]))] H := hP
  have hD : va_D A [(h0, .inr (5, [.null, .null, .null, .null, .null, .null, .null, .int 0])), (q_1, .inr (7, [.ref q0_3, .ref q1_4, .ref q2_5, .ref q3_6, .ref q4_7, .int 0, .int 0]))] := hD
  refine W.widen (k := 6) (n := 1007) (by decide) (by decide) ?_
  refine W.eq (g2 := F0 m 12 ls [.ref q_1, .ref h0]) rfl ?_
  refine va_putF (D := g.1) (ci := 5) (v := .ref q_1) (ty := (.object "GalleonWave$Kept")) (C := RX1) (T := TX1) (N := 8) hx hb G.ws inX1 tyX1 tyX1_ok nmX1 hown G.K hP hD hS 0 rfl rfl 0 (by decide) (G.w kw_184) (fun _ h9 => h9) rfl hin rfl (by decide +kernel) rfl rfl (Nat.le_of_ble_eq_true rfl) dX1_init_12 (fun H locs hP hD hS => ?_)
  have hP : va_P g.1 vwCl [(h0, .inr (5, [.ref q_1, .null, .null, .null, .null, .null, .null, .int 0])), (q_1, .inr (7, [.ref q0_3, .ref q1_4, .ref q2_5, .ref q3_6, .ref q4_7, .int 0, .int 0]))] H := hP
  have hD : va_D A [(h0, .inr (5, [.ref q_1, .null, .null, .null, .null, .null, .null, .int 0])), (q_1, .inr (7, [.ref q0_3, .ref q1_4, .ref q2_5, .ref q3_6, .ref q4_7, .int 0, .int 0]))] := hD
  refine lv_aload_n hx hb dX1_init_15 rfl (lv_at hl 0 rfl) ?_
  refine va_new (D := g.1) (ci := 3) (fs := [.int 0, .null, .int 0]) (C := RJx4a65c) (T := TJx4a65c) (N := 3) hx hb G.ws inJx4a65c tyJx4a65c tyJx4a65c_ok hown (G.w kw_185) (G.w kw_148) (G.w kw_30) G.K hP hD hS hA rfl (fun j hj => by rcases (show j = 0 ∨ j = 1 ∨ j = 2 by omega) with rfl | rfl | rfl <;> rfl) (by decide) (by decide) dX1_init_16 (fun q_8 H hP hD hS => ?_)
  have hP : va_P g.1 vwCl [(h0, .inr (5, [.ref q_1, .null, .null, .null, .null, .null, .null, .int 0])), (q_1, .inr (7, [.ref q0_3, .ref q1_4, .ref q2_5, .ref q3_6, .ref q4_7, .int 0, .int 0])), (q_8, .inr (3, [.int 0, .null, .int 0]))] H := hP
  have hD : va_D A [(h0, .inr (5, [.ref q_1, .null, .null, .null, .null, .null, .null, .int 0])), (q_1, .inr (7, [.ref q0_3, .ref q1_4, .ref q2_5, .ref q3_6, .ref q4_7, .int 0, .int 0])), (q_8, .inr (3, [.int 0, .null, .int 0]))] := hD
  refine W.widen (k := 7) (n := 1010) (by decide) (by decide) ?_
  refine lv_dup hx hb dX1_init_19 rfl ?_
  refine kcallI (wc := [(q_8, .inr (3, [.int 0, .null, .int 0]))]) (wr := [(h0, .inr (5, [.ref q_1, .null, .null, .null, .null, .null, .null, .int 0])), (q_1, .inr (7, [.ref q0_3, .ref q1_4, .ref q2_5, .ref q3_6, .ref q4_7, .int 0, .int 0]))]) (As := []) (rest := [.ref q_8, .ref h0]) K G (m_Jx4a65c_init_da8c8 l hl0 g q_8 ) hP hD hS hA hl kw_149 kw_186 kw_151 kw_30 rfl ydJx4a65c_init_da8c8 [2] [0, 1] rfl rfl rfl rfl (by decide) rfl rfl (Nat.le_of_ble_eq_true rfl) dX1_init_20 ⟨Nat.le_of_ble_eq_true rfl, Nat.le_of_ble_eq_true rfl⟩ ⟨Nat.le_of_ble_eq_true rfl, Nat.le_of_ble_eq_true rfl⟩ (fun _ _ _ _ _ _ hX _ _ _ _ _ _ => hX.elim) (fun v w1 H locs hQ hP hD hS => ?_)
  obtain ⟨rfl, rfl⟩ := hQ
  have hP : va_P g.1 vwCl [(h0, .inr (5, [.ref q_1, .null, .null, .null, .null, .null, .null, .int 0])), (q_1, .inr (7, [.ref q0_3, .ref q1_4, .ref q2_5, .ref q3_6, .ref q4_7, .int 0, .int 0])), (q_8, .inr (3, [.int 0, .ref g.2.1, .int 0]))] H := hP
  have hD : va_D A [(h0, .inr (5, [.ref q_1, .null, .null, .null, .null, .null, .null, .int 0])), (q_1, .inr (7, [.ref q0_3, .ref q1_4, .ref q2_5, .ref q3_6, .ref q4_7, .int 0, .int 0])), (q_8, .inr (3, [.int 0, .ref g.2.1, .int 0]))] := hD
  refine W.widen (k := 7) (n := 1010) (by decide) (by decide) ?_
  refine W.eq (g2 := F0 m 23 ls [.ref q_8, .ref h0]) rfl ?_
  refine va_putF (D := g.1) (ci := 5) (v := .ref q_8) (ty := (.object "java/util/ArrayList")) (C := RX1) (T := TX1) (N := 8) hx hb G.ws inX1 tyX1 tyX1_ok nmX1 hown G.K hP hD hS 0 rfl rfl 1 (by decide) (G.w kw_187) (fun _ h9 => h9) rfl hin rfl (by decide +kernel) rfl rfl (Nat.le_of_ble_eq_true rfl) dX1_init_23 (fun H locs hP hD hS => ?_)
  have hP : va_P g.1 vwCl [(h0, .inr (5, [.ref q_1, .ref q_8, .null, .null, .null, .null, .null, .int 0])), (q_1, .inr (7, [.ref q0_3, .ref q1_4, .ref q2_5, .ref q3_6, .ref q4_7, .int 0, .int 0])), (q_8, .inr (3, [.int 0, .ref g.2.1, .int 0]))] H := hP
  have hD : va_D A [(h0, .inr (5, [.ref q_1, .ref q_8, .null, .null, .null, .null, .null, .int 0])), (q_1, .inr (7, [.ref q0_3, .ref q1_4, .ref q2_5, .ref q3_6, .ref q4_7, .int 0, .int 0])), (q_8, .inr (3, [.int 0, .ref g.2.1, .int 0]))] := hD
  refine lv_aload_n hx hb dX1_init_26 rfl (lv_at hl 0 rfl) ?_
  refine lv_bipush (v := 64) hx hb dX1_init_27 (by decide) ?_
  refine kNewa0 hx hb (G.w kw_123) G hP hD hS hA (n := 64) (N := 64) (by decide) (by decide) (by decide) (by decide) (by decide) dX1_init_29 (fun q_10 H hP hD hS => ?_)
  have hP : va_P g.1 vwCl [(h0, .inr (5, [.ref q_1, .ref q_8, .null, .null, .null, .null, .null, .int 0])), (q_1, .inr (7, [.ref q0_3, .ref q1_4, .ref q2_5, .ref q3_6, .ref q4_7, .int 0, .int 0])), (q_8, .inr (3, [.int 0, .ref g.2.1, .int 0])), (q_10, .inl ((g.2.2.1 0), 64, .inl (fun _ => 0)))] H := hP
  have hD : va_D A [(h0, .inr (5, [.ref q_1, .ref q_8, .null, .null, .null, .null, .null, .int 0])), (q_1, .inr (7, [.ref q0_3, .ref q1_4, .ref q2_5, .ref q3_6, .ref q4_7, .int 0, .int 0])), (q_8, .inr (3, [.int 0, .ref g.2.1, .int 0])), (q_10, .inl ((g.2.2.1 0), 64, .inl (fun _ => 0)))] := hD
  refine W.widen (k := 8) (n := 1074) (by decide) (by decide) ?_
  refine va_putF (D := g.1) (ci := 5) (v := .ref q_10) (ty := (.array .int)) (C := RX1) (T := TX1) (N := 8) hx hb G.ws inX1 tyX1 tyX1_ok nmX1 hown G.K hP hD hS 0 rfl rfl 2 (by decide) (G.w kw_188) (fun _ h9 => h9) rfl hin rfl (by decide +kernel) rfl rfl (Nat.le_of_ble_eq_true rfl) dX1_init_31 (fun H locs hP hD hS => ?_)
  have hP : va_P g.1 vwCl [(h0, .inr (5, [.ref q_1, .ref q_8, .ref q_10, .null, .null, .null, .null, .int 0])), (q_1, .inr (7, [.ref q0_3, .ref q1_4, .ref q2_5, .ref q3_6, .ref q4_7, .int 0, .int 0])), (q_8, .inr (3, [.int 0, .ref g.2.1, .int 0])), (q_10, .inl ((g.2.2.1 0), 64, .inl (fun _ => 0)))] H := hP
  have hD : va_D A [(h0, .inr (5, [.ref q_1, .ref q_8, .ref q_10, .null, .null, .null, .null, .int 0])), (q_1, .inr (7, [.ref q0_3, .ref q1_4, .ref q2_5, .ref q3_6, .ref q4_7, .int 0, .int 0])), (q_8, .inr (3, [.int 0, .ref g.2.1, .int 0])), (q_10, .inl ((g.2.2.1 0), 64, .inl (fun _ => 0)))] := hD
  refine lv_aload_n hx hb dX1_init_34 rfl (lv_at hl 0 rfl) ?_
  refine lv_bipush (v := 64) hx hb dX1_init_35 (by decide) ?_
  refine kNewa0 hx hb (G.w kw_123) G hP hD hS hA (n := 64) (N := 64) (by decide) (by decide) (by decide) (by decide) (by decide) dX1_init_37 (fun q_11 H hP hD hS => ?_)
  have hP : va_P g.1 vwCl [(h0, .inr (5, [.ref q_1, .ref q_8, .ref q_10, .null, .null, .null, .null, .int 0])), (q_1, .inr (7, [.ref q0_3, .ref q1_4, .ref q2_5, .ref q3_6, .ref q4_7, .int 0, .int 0])), (q_8, .inr (3, [.int 0, .ref g.2.1, .int 0])), (q_10, .inl ((g.2.2.1 0), 64, .inl (fun _ => 0))), (q_11, .inl ((g.2.2.1 0), 64, .inl (fun _ => 0)))] H := hP
  have hD : va_D A [(h0, .inr (5, [.ref q_1, .ref q_8, .ref q_10, .null, .null, .null, .null, .int 0])), (q_1, .inr (7, [.ref q0_3, .ref q1_4, .ref q2_5, .ref q3_6, .ref q4_7, .int 0, .int 0])), (q_8, .inr (3, [.int 0, .ref g.2.1, .int 0])), (q_10, .inl ((g.2.2.1 0), 64, .inl (fun _ => 0))), (q_11, .inl ((g.2.2.1 0), 64, .inl (fun _ => 0)))] := hD
  refine W.widen (k := 9) (n := 1138) (by decide) (by decide) ?_
  refine va_putF (D := g.1) (ci := 5) (v := .ref q_11) (ty := (.array .int)) (C := RX1) (T := TX1) (N := 8) hx hb G.ws inX1 tyX1 tyX1_ok nmX1 hown G.K hP hD hS 0 rfl rfl 3 (by decide) (G.w kw_189) (fun _ h9 => h9) rfl hin rfl (by decide +kernel) rfl rfl (Nat.le_of_ble_eq_true rfl) dX1_init_39 (fun H locs hP hD hS => ?_)
  have hP : va_P g.1 vwCl [(h0, .inr (5, [.ref q_1, .ref q_8, .ref q_10, .ref q_11, .null, .null, .null, .int 0])), (q_1, .inr (7, [.ref q0_3, .ref q1_4, .ref q2_5, .ref q3_6, .ref q4_7, .int 0, .int 0])), (q_8, .inr (3, [.int 0, .ref g.2.1, .int 0])), (q_10, .inl ((g.2.2.1 0), 64, .inl (fun _ => 0))), (q_11, .inl ((g.2.2.1 0), 64, .inl (fun _ => 0)))] H := hP
  have hD : va_D A [(h0, .inr (5, [.ref q_1, .ref q_8, .ref q_10, .ref q_11, .null, .null, .null, .int 0])), (q_1, .inr (7, [.ref q0_3, .ref q1_4, .ref q2_5, .ref q3_6, .ref q4_7, .int 0, .int 0])), (q_8, .inr (3, [.int 0, .ref g.2.1, .int 0])), (q_10, .inl ((g.2.2.1 0), 64, .inl (fun _ => 0))), (q_11, .inl ((g.2.2.1 0), 64, .inl (fun _ => 0)))] := hD
  refine lv_aload_n hx hb dX1_init_42 rfl (lv_at hl 0 rfl) ?_
  refine lv_bipush (v := 64) hx hb dX1_init_43 (by decide) ?_
  refine kNewa2 hx hb (G.w kw_190) G hP hD hS hA (n := 64) (N := 64) (by decide) (by decide) (by decide) (by decide) (by decide) dX1_init_45 (fun q_12 H hP hD hS => ?_)
  have hP : va_P g.1 vwCl [(h0, .inr (5, [.ref q_1, .ref q_8, .ref q_10, .ref q_11, .null, .null, .null, .int 0])), (q_1, .inr (7, [.ref q0_3, .ref q1_4, .ref q2_5, .ref q3_6, .ref q4_7, .int 0, .int 0])), (q_8, .inr (3, [.int 0, .ref g.2.1, .int 0])), (q_10, .inl ((g.2.2.1 0), 64, .inl (fun _ => 0))), (q_11, .inl ((g.2.2.1 0), 64, .inl (fun _ => 0))), (q_12, .inl ((g.2.2.1 2), 64, .inl (fun _ => 0)))] H := hP
  have hD : va_D A [(h0, .inr (5, [.ref q_1, .ref q_8, .ref q_10, .ref q_11, .null, .null, .null, .int 0])), (q_1, .inr (7, [.ref q0_3, .ref q1_4, .ref q2_5, .ref q3_6, .ref q4_7, .int 0, .int 0])), (q_8, .inr (3, [.int 0, .ref g.2.1, .int 0])), (q_10, .inl ((g.2.2.1 0), 64, .inl (fun _ => 0))), (q_11, .inl ((g.2.2.1 0), 64, .inl (fun _ => 0))), (q_12, .inl ((g.2.2.1 2), 64, .inl (fun _ => 0)))] := hD
  refine W.widen (k := 10) (n := 1202) (by decide) (by decide) ?_
  refine va_putF (D := g.1) (ci := 5) (v := .ref q_12) (ty := (.array .boolean)) (C := RX1) (T := TX1) (N := 8) hx hb G.ws inX1 tyX1 tyX1_ok nmX1 hown G.K hP hD hS 0 rfl rfl 4 (by decide) (G.w kw_191) (fun _ h9 => h9) rfl hin rfl (by decide +kernel) rfl rfl (Nat.le_of_ble_eq_true rfl) dX1_init_47 (fun H locs hP hD hS => ?_)
  have hP : va_P g.1 vwCl [(h0, .inr (5, [.ref q_1, .ref q_8, .ref q_10, .ref q_11, .ref q_12, .null, .null, .int 0])), (q_1, .inr (7, [.ref q0_3, .ref q1_4, .ref q2_5, .ref q3_6, .ref q4_7, .int 0, .int 0])), (q_8, .inr (3, [.int 0, .ref g.2.1, .int 0])), (q_10, .inl ((g.2.2.1 0), 64, .inl (fun _ => 0))), (q_11, .inl ((g.2.2.1 0), 64, .inl (fun _ => 0))), (q_12, .inl ((g.2.2.1 2), 64, .inl (fun _ => 0)))] H := hP
  have hD : va_D A [(h0, .inr (5, [.ref q_1, .ref q_8, .ref q_10, .ref q_11, .ref q_12, .null, .null, .int 0])), (q_1, .inr (7, [.ref q0_3, .ref q1_4, .ref q2_5, .ref q3_6, .ref q4_7, .int 0, .int 0])), (q_8, .inr (3, [.int 0, .ref g.2.1, .int 0])), (q_10, .inl ((g.2.2.1 0), 64, .inl (fun _ => 0))), (q_11, .inl ((g.2.2.1 0), 64, .inl (fun _ => 0))), (q_12, .inl ((g.2.2.1 2), 64, .inl (fun _ => 0)))] := hD
  refine lv_aload_n hx hb dX1_init_50 rfl (lv_at hl 0 rfl) ?_
  refine lv_bipush (v := 6) hx hb dX1_init_51 (by decide) ?_
  refine kNewa0 hx hb (G.w kw_123) G hP hD hS hA (n := 6) (N := 6) (by decide) (by decide) (by decide) (by decide) (by decide) dX1_init_53 (fun q_13 H hP hD hS => ?_)
  have hP : va_P g.1 vwCl [(h0, .inr (5, [.ref q_1, .ref q_8, .ref q_10, .ref q_11, .ref q_12, .null, .null, .int 0])), (q_1, .inr (7, [.ref q0_3, .ref q1_4, .ref q2_5, .ref q3_6, .ref q4_7, .int 0, .int 0])), (q_8, .inr (3, [.int 0, .ref g.2.1, .int 0])), (q_10, .inl ((g.2.2.1 0), 64, .inl (fun _ => 0))), (q_11, .inl ((g.2.2.1 0), 64, .inl (fun _ => 0))), (q_12, .inl ((g.2.2.1 2), 64, .inl (fun _ => 0))), (q_13, .inl ((g.2.2.1 0), 6, .inl (fun _ => 0)))] H := hP
  have hD : va_D A [(h0, .inr (5, [.ref q_1, .ref q_8, .ref q_10, .ref q_11, .ref q_12, .null, .null, .int 0])), (q_1, .inr (7, [.ref q0_3, .ref q1_4, .ref q2_5, .ref q3_6, .ref q4_7, .int 0, .int 0])), (q_8, .inr (3, [.int 0, .ref g.2.1, .int 0])), (q_10, .inl ((g.2.2.1 0), 64, .inl (fun _ => 0))), (q_11, .inl ((g.2.2.1 0), 64, .inl (fun _ => 0))), (q_12, .inl ((g.2.2.1 2), 64, .inl (fun _ => 0))), (q_13, .inl ((g.2.2.1 0), 6, .inl (fun _ => 0)))] := hD
  refine W.widen (k := 11) (n := 1208) (by decide) (by decide) ?_
  refine va_putF (D := g.1) (ci := 5) (v := .ref q_13) (ty := (.array .int)) (C := RX1) (T := TX1) (N := 8) hx hb G.ws inX1 tyX1 tyX1_ok nmX1 hown G.K hP hD hS 0 rfl rfl 5 (by decide) (G.w kw_192) (fun _ h9 => h9) rfl hin rfl (by decide +kernel) rfl rfl (Nat.le_of_ble_eq_true rfl) dX1_init_55 (fun H locs hP hD hS => ?_)
  have hP : va_P g.1 vwCl [(h0, .inr (5, [.ref q_1, .ref q_8, .ref q_10, .ref q_11, .ref q_12, .ref q_13, .null, .int 0])), (q_1, .inr (7, [.ref q0_3, .ref q1_4, .ref q2_5, .ref q3_6, .ref q4_7, .int 0, .int 0])), (q_8, .inr (3, [.int 0, .ref g.2.1, .int 0])), (q_10, .inl ((g.2.2.1 0), 64, .inl (fun _ => 0))), (q_11, .inl ((g.2.2.1 0), 64, .inl (fun _ => 0))), (q_12, .inl ((g.2.2.1 2), 64, .inl (fun _ => 0))), (q_13, .inl ((g.2.2.1 0), 6, .inl (fun _ => 0)))] H := hP
  have hD : va_D A [(h0, .inr (5, [.ref q_1, .ref q_8, .ref q_10, .ref q_11, .ref q_12, .ref q_13, .null, .int 0])), (q_1, .inr (7, [.ref q0_3, .ref q1_4, .ref q2_5, .ref q3_6, .ref q4_7, .int 0, .int 0])), (q_8, .inr (3, [.int 0, .ref g.2.1, .int 0])), (q_10, .inl ((g.2.2.1 0), 64, .inl (fun _ => 0))), (q_11, .inl ((g.2.2.1 0), 64, .inl (fun _ => 0))), (q_12, .inl ((g.2.2.1 2), 64, .inl (fun _ => 0))), (q_13, .inl ((g.2.2.1 0), 6, .inl (fun _ => 0)))] := hD
  refine lv_aload_n hx hb dX1_init_58 rfl (lv_at hl 0 rfl) ?_
  refine lv_bipush (v := 6) hx hb dX1_init_59 (by decide) ?_
  refine kNewa0 hx hb (G.w kw_123) G hP hD hS hA (n := 6) (N := 6) (by decide) (by decide) (by decide) (by decide) (by decide) dX1_init_61 (fun q_14 H hP hD hS => ?_)
  have hP : va_P g.1 vwCl [(h0, .inr (5, [.ref q_1, .ref q_8, .ref q_10, .ref q_11, .ref q_12, .ref q_13, .null, .int 0])), (q_1, .inr (7, [.ref q0_3, .ref q1_4, .ref q2_5, .ref q3_6, .ref q4_7, .int 0, .int 0])), (q_8, .inr (3, [.int 0, .ref g.2.1, .int 0])), (q_10, .inl ((g.2.2.1 0), 64, .inl (fun _ => 0))), (q_11, .inl ((g.2.2.1 0), 64, .inl (fun _ => 0))), (q_12, .inl ((g.2.2.1 2), 64, .inl (fun _ => 0))), (q_13, .inl ((g.2.2.1 0), 6, .inl (fun _ => 0))), (q_14, .inl ((g.2.2.1 0), 6, .inl (fun _ => 0)))] H := hP
  have hD : va_D A [(h0, .inr (5, [.ref q_1, .ref q_8, .ref q_10, .ref q_11, .ref q_12, .ref q_13, .null, .int 0])), (q_1, .inr (7, [.ref q0_3, .ref q1_4, .ref q2_5, .ref q3_6, .ref q4_7, .int 0, .int 0])), (q_8, .inr (3, [.int 0, .ref g.2.1, .int 0])), (q_10, .inl ((g.2.2.1 0), 64, .inl (fun _ => 0))), (q_11, .inl ((g.2.2.1 0), 64, .inl (fun _ => 0))), (q_12, .inl ((g.2.2.1 2), 64, .inl (fun _ => 0))), (q_13, .inl ((g.2.2.1 0), 6, .inl (fun _ => 0))), (q_14, .inl ((g.2.2.1 0), 6, .inl (fun _ => 0)))] := hD
  refine W.widen (k := 12) (n := 1214) (by decide) (by decide) ?_
  refine va_putF (D := g.1) (ci := 5) (v := .ref q_14) (ty := (.array .int)) (C := RX1) (T := TX1) (N := 8) hx hb G.ws inX1 tyX1 tyX1_ok nmX1 hown G.K hP hD hS 0 rfl rfl 6 (by decide) (G.w kw_193) (fun _ h9 => h9) rfl hin rfl (by decide +kernel) rfl rfl (Nat.le_of_ble_eq_true rfl) dX1_init_63 (fun H locs hP hD hS => ?_)
  have hP : va_P g.1 vwCl [(h0, .inr (5, [.ref q_1, .ref q_8, .ref q_10, .ref q_11, .ref q_12, .ref q_13, .ref q_14, .int 0])), (q_1, .inr (7, [.ref q0_3, .ref q1_4, .ref q2_5, .ref q3_6, .ref q4_7, .int 0, .int 0])), (q_8, .inr (3, [.int 0, .ref g.2.1, .int 0])), (q_10, .inl ((g.2.2.1 0), 64, .inl (fun _ => 0))), (q_11, .inl ((g.2.2.1 0), 64, .inl (fun _ => 0))), (q_12, .inl ((g.2.2.1 2), 64, .inl (fun _ => 0))), (q_13, .inl ((g.2.2.1 0), 6, .inl (fun _ => 0))), (q_14, .inl ((g.2.2.1 0), 6, .inl (fun _ => 0)))] H := hP
  have hD : va_D A [(h0, .inr (5, [.ref q_1, .ref q_8, .ref q_10, .ref q_11, .ref q_12, .ref q_13, .ref q_14, .int 0])), (q_1, .inr (7, [.ref q0_3, .ref q1_4, .ref q2_5, .ref q3_6, .ref q4_7, .int 0, .int 0])), (q_8, .inr (3, [.int 0, .ref g.2.1, .int 0])), (q_10, .inl ((g.2.2.1 0), 64, .inl (fun _ => 0))), (q_11, .inl ((g.2.2.1 0), 64, .inl (fun _ => 0))), (q_12, .inl ((g.2.2.1 2), 64, .inl (fun _ => 0))), (q_13, .inl ((g.2.2.1 0), 6, .inl (fun _ => 0))), (q_14, .inl ((g.2.2.1 0), 6, .inl (fun _ => 0)))] := hD
  exact kretV K hP hD hS [0, 1, 2] [(h0, .inr (5, [.ref q_1, .ref q_8, .ref q_10, .ref q_11, .ref q_12, .ref q_13, .ref q_14, .int 0])), (q_1, .inr (7, [.ref q0_3, .ref q1_4, .ref q2_5, .ref q3_6, .ref q4_7, .int 0, .int 0])), (q_8, .inr (3, [.int 0, .ref g.2.1, .int 0]))] rfl rfl (⟨q_1, q_8, q_10, q_11, q_12, q_13, q_14, q0_3, q1_4, q2_5, q3_6, q4_7, rfl, rfl⟩) (by decide) (by decide) dX1_init_66
end
section
set_option maxHeartbeats 4000000 in
set_option maxRecDepth 100000 in
theorem m_X11_init (l : Launch) (hl0 : l.stackTraces = false) (g : kG) (h0 : Nat)  : kc l g yX11_init prog_1_method_1_code 1 none 5 100 17 1234 [.ref h0] [(h0, .inr (15, [.null, .null, .null, .null, .null, .int 0, .int 0, .int 0, .int 0, .int 0, .int 0]))] (fun v w => (∃ a1 : Nat, ∃ a2 : Nat, ∃ a3 : Nat, ∃ a4 : Nat, ∃ a5 : Nat, ∃ k0 : Nat, ∃ r0 : Nat, ∃ b1 : Nat, ∃ b2 : Nat, ∃ b3 : Nat, ∃ b4 : Nat, ∃ b5 : Nat, ∃ b6 : Nat, ∃ b7 : Nat, ∃ b8 : Nat, ∃ b9 : Nat, ∃ b10 : Nat, v = none ∧ w = [(h0, .inr (15, [.ref a1, .ref a2, .ref a3, .ref a4, .ref a5, .int 0, .int 0, .int 110, .int 0, .int 0, .int 0])), (a1, .inr (3, [.int 0, .ref g.2.1, .int 0])), (a2, .inr (3, [.int 0, .ref g.2.1, .int 0])), (a3, .inr (3, [.int 0, .ref g.2.1, .int 0])), (a4, .inr (3, [.int 0, .ref g.2.1, .int 0])), (a5, .inr (5, [.ref k0, .ref r0, .ref b1, .ref b2, .ref b3, .ref b4, .ref b5, .int 0])), (k0, .inr (7, [.ref b6, .ref b7, .ref b8, .ref b9, .ref b10, .int 0, .int 0])), (r0, .inr (3, [.int 0, .ref g.2.1, .int 0]))])) (fun _ _ => False) := by
  refine kbody (by decide) (Nat.le_of_ble_eq_true rfl) ?_
  intro p e s m args below meth c A H K ht G hP hD hA hS ls hl
  have K : KB p s m meth c RX11 "<init>" prog_1_method_1_code 1 none := K
  obtain ⟨hx, hb, hml, hown, hlocks, hr, hin⟩ := id K
  have hl : lv_has ls 1 [(0, .ref h0)] := hl
  refine lv_aload_n hx hb dX11_init_0 rfl (lv_at hl 0 rfl) ?_
  refine W.objInit hx hb hown (G.w kw_194) (G.w kw_9) (G.w kw_10) rfl (by rw [hml]; exact hl.1) rfl dX11_init_1 (Nat.le_of_ble_eq_true rfl) (Nat.le_of_ble_eq_true rfl) ?_
  refine W.eq (g2 := F0 m 4 ls []) rfl ?_
  refine lv_aload_n hx hb dX11_init_4 rfl (lv_at hl 0 rfl) ?_
  refine va_new (D := g.1) (ci := 3) (fs := [.int 0, .null, .int 0]) (C := RJx4a65c) (T := TJx4a65c) (N := 3) hx hb G.ws inJx4a65c tyJx4a65c tyJx4a65c_ok hown (G.w kw_195) (G.w kw_148) (G.w kw_30) G.K hP hD hS hA rfl (fun j hj => by rcases (show j = 0 ∨ j = 1 ∨ j = 2 by omega) with rfl | rfl | rfl <;> rfl) (by decide) (by decide) dX11_init_5 (fun q_1 H hP hD hS => ?_)
  have hP : va_P g.1 vwCl [(h0, .inr (15, [.null, .null, .null, .null, .null, .int 0, .int 0, .int 0, .int 0, .int 0, .int 0])), (q_1, .inr (3, [.int 0, .null, .int 0]))] H := hP
  have hD : va_D A [(h0, .inr (15, [.null, .null, .null, .null, .null, .int 0, .int 0, .int 0, .int 0, .int 0, .int 0])), (q_1, .inr (3, [.int 0, .null, .int 0]))] := hD
  refine W.widen (k := 1) (n := 3) (by decide) (by decide) ?_
  refine lv_dup hx hb dX11_init_8 rfl ?_
  refine kcallI (wc := [(q_1, .inr (3, [.int 0, .null, .int 0]))]) (wr := [(h0, .inr (15, [.null, .null, .null, .null, .null, .int 0, .int 0, .int 0, .int 0, .int 0, .int 0]))]) (As := []) (rest := [.ref q_1, .ref h0]) K G (m_Jx4a65c_init_da8c8 l hl0 g q_1 ) hP hD hS hA hl kw_149 kw_196 kw_151 kw_30 rfl ydJx4a65c_init_da8c8 [1] [0] rfl rfl rfl rfl (by decide) rfl rfl (Nat.le_of_ble_eq_true rfl) dX11_init_9 ⟨Nat.le_of_ble_eq_true rfl, Nat.le_of_ble_eq_true rfl⟩ ⟨Nat.le_of_ble_eq_true rfl, Nat.le_of_ble_eq_true rfl⟩ (fun _ _ _ _ _ _ hX _ _ _ _ _ _ => hX.elim) (fun v w1 H locs hQ hP hD hS => ?_)
  obtain ⟨rfl, rfl⟩ := hQ
  have hP : va_P g.1 vwCl [(h0, .inr (15, [.null, .null, .null, .null, .null, .int 0, .int 0, .int 0, .int 0, .int 0, .int 0])), (q_1, .inr (3, [.int 0, .ref g.2.1, .int 0]))] H := hP
  have hD : va_D A [(h0, .inr (15, [.null, .null, .null, .null, .null, .int 0, .int 0, .int 0, .int 0, .int 0, .int 0])), (q_1, .inr (3, [.int 0, .ref g.2.1, .int 0]))] := hD
  refine W.widen (k := 1) (n := 3) (by decide) (by decide) ?_
  refine W.eq (g2 := F0 m 12 ls [.ref q_1, .ref h0]) rfl ?_
  refine va_putF (D := g.1) (ci := 15) (v := .ref q_1) (ty := (.object "java/util/ArrayList")) (C := RX11) (T := TX11) (N := 11) hx hb G.ws inX11 tyX11 tyX11_ok nmX11 hown G.K hP hD hS 0 rfl rfl 0 (by decide) (G.w kw_43) (fun _ h9 => h9) rfl hin rfl (by decide +kernel) rfl rfl (Nat.le_of_ble_eq_true rfl) dX11_init_12 (fun H locs hP hD hS => ?_)
  have hP : va_P g.1 vwCl [(h0, .inr (15, [.ref q_1, .null, .null, .null, .null, .int 0, .int 0, .int 0, .int 0, .int 0, .int 0])), (q_1, .inr (3, [.int 0, .ref g.2.1, .int 0]))] H := hP
  have hD : va_D A [(h0, .inr (15, [.ref q_1, .null, .null, .null, .null, .int 0, .int 0, .int 0, .int 0, .int 0, .int 0])), (q_1, .inr (3, [.int 0, .ref g.2.1, .int 0]))] := hD
  refine lv_aload_n hx hb dX11_init_15 rfl (lv_at hl 0 rfl) ?_
  refine va_new (D := g.1) (ci := 3) (fs := [.int 0, .null, .int 0]) (C := RJx4a65c) (T := TJx4a65c) (N := 3) hx hb G.ws inJx4a65c tyJx4a65c tyJx4a65c_ok hown (G.w kw_195) (G.w kw_148) (G.w kw_30) G.K hP hD hS hA rfl (fun j hj => by rcases (show j = 0 ∨ j = 1 ∨ j = 2 by omega) with rfl | rfl | rfl <;> rfl) (by decide) (by decide) dX11_init_16 (fun q_3 H hP hD hS => ?_)
  have hP : va_P g.1 vwCl [(h0, .inr (15, [.ref q_1, .null, .null, .null, .null, .int 0, .int 0, .int 0, .int 0, .int 0, .int 0])), (q_1, .inr (3, [.int 0, .ref g.2.1, .int 0])), (q_3, .inr (3, [.int 0, .null, .int 0]))] H := hP
  have hD : va_D A [(h0, .inr (15, [.ref q_1, .null, .null, .null, .null, .int 0, .int 0, .int 0, .int 0, .int 0, .int 0])), (q_1, .inr (3, [.int 0, .ref g.2.1, .int 0])), (q_3, .inr (3, [.int 0, .null, .int 0]))] := hD
  refine W.widen (k := 2) (n := 6) (by decide) (by decide) ?_
  refine lv_dup hx hb dX11_init_19 rfl ?_
  refine kcallI (wc := [(q_3, .inr (3, [.int 0, .null, .int 0]))]) (wr := [(h0, .inr (15, [.ref q_1, .null, .null, .null, .null, .int 0, .int 0, .int 0, .int 0, .int 0, .int 0])), (q_1, .inr (3, [.int 0, .ref g.2.1, .int 0]))]) (As := []) (rest := [.ref q_3, .ref h0]) K G (m_Jx4a65c_init_da8c8 l hl0 g q_3 ) hP hD hS hA hl kw_149 kw_196 kw_151 kw_30 rfl ydJx4a65c_init_da8c8 [2] [0, 1] rfl rfl rfl rfl (by decide) rfl rfl (Nat.le_of_ble_eq_true rfl) dX11_init_20 ⟨Nat.le_of_ble_eq_true rfl, Nat.le_of_ble_eq_true rfl⟩ ⟨Nat.le_of_ble_eq_true rfl, Nat.le_of_ble_eq_true rfl⟩ (fun _ _ _ _ _ _ hX _ _ _ _ _ _ => hX.elim) (fun v w1 H locs hQ hP hD hS => ?_)
  obtain ⟨rfl, rfl⟩ := hQ
  have hP : va_P g.1 vwCl [(h0, .inr (15, [.ref q_1, .null, .null, .null, .null, .int 0, .int 0, .int 0, .int 0, .int 0, .int 0])), (q_1, .inr (3, [.int 0, .ref g.2.1, .int 0])), (q_3, .inr (3, [.int 0, .ref g.2.1, .int 0]))] H := hP
  have hD : va_D A [(h0, .inr (15, [.ref q_1, .null, .null, .null, .null, .int 0, .int 0, .int 0, .int 0, .int 0, .int 0])), (q_1, .inr (3, [.int 0, .ref g.2.1, .int 0])), (q_3, .inr (3, [.int 0, .ref g.2.1, .int 0]))] := hD
  refine W.widen (k := 2) (n := 6) (by decide) (by decide) ?_
  refine W.eq (g2 := F0 m 23 ls [.ref q_3, .ref h0]) rfl ?_
  refine va_putF (D := g.1) (ci := 15) (v := .ref q_3) (ty := (.object "java/util/ArrayList")) (C := RX11) (T := TX11) (N := 11) hx hb G.ws inX11 tyX11 tyX11_ok nmX11 hown G.K hP hD hS 0 rfl rfl 1 (by decide) (G.w kw_51) (fun _ h9 => h9) rfl hin rfl (by decide +kernel) rfl rfl (Nat.le_of_ble_eq_true rfl) dX11_init_23 (fun H locs hP hD hS => ?_)
  have hP : va_P g.1 vwCl [(h0, .inr (15, [.ref q_1, .ref q_3, .null, .null, .null, .int 0, .int 0, .int 0, .int 0, .int 0, .int 0])), (q_1, .inr (3, [.int 0, .ref g.2.1, .int 0])), (q_3, .inr (3, [.int 0, .ref g.2.1, .int 0]))] H := hP
  have hD : va_D A [(h0, .inr (15, [.ref q_1, .ref q_3, .null, .null, .null, .int 0, .int 0, .int 0, .int 0, .int 0, .int 0])), (q_1, .inr (3, [.int 0, .ref g.2.1, .int 0])), (q_3, .inr (3, [.int 0, .ref g.2.1, .int 0]))] := hD
  refine lv_aload_n hx hb dX11_init_26 rfl (lv_at hl 0 rfl) ?_
  refine va_new (D := g.1) (ci := 3) (fs := [.int 0, .null, .int 0]) (C := RJx4a65c) (T := TJx4a65c) (N := 3) hx hb G.ws inJx4a65c tyJx4a65c tyJx4a65c_ok hown (G.w kw_195) (G.w kw_148) (G.w kw_30) G.K hP hD hS hA rfl (fun j hj => by rcases (show j = 0 ∨ j = 1 ∨ j = 2 by omega) with rfl | rfl | rfl <;> rfl) (by decide) (by decide) dX11_init_27 (fun q_5 H hP hD hS => ?_)
  have hP : va_P g.1 vwCl [(h0, .inr (15, [.ref q_1, .ref q_3, .null, .null, .null, .int 0, .int 0, .int 0, .int 0, .int 0, .int 0])), (q_1, .inr (3, [.int 0, .ref g.2.1, .int 0])), (q_3, .inr (3, [.int 0, .ref g.2.1, .int 0])), (q_5, .inr (3, [.int 0, .null, .int 0]))] H := hP
  have hD : va_D A [(h0, .inr (15, [.ref q_1, .ref q_3, .null, .null, .null, .int 0, .int 0, .int 0, .int 0, .int 0, .int 0])), (q_1, .inr (3, [.int 0, .ref g.2.1, .int 0])), (q_3, .inr (3, [.int 0, .ref g.2.1, .int 0])), (q_5, .inr (3, [.int 0, .null, .int 0]))] := hD
  refine W.widen (k := 3) (n := 9) (by decide) (by decide) ?_
  refine lv_dup hx hb dX11_init_30 rfl ?_
  refine kcallI (wc := [(q_5, .inr (3, [.int 0, .null, .int 0]))]) (wr := [(h0, .inr (15, [.ref q_1, .ref q_3, .null, .null, .null, .int 0, .int 0, .int 0, .int 0, .int 0, .int 0])), (q_1, .inr (3, [.int 0, .ref g.2.1, .int 0])), (q_3, .inr (3, [.int 0, .ref g.2.1, .int 0]))]) (As := []) (rest := [.ref q_5, .ref h0]) K G (m_Jx4a65c_init_da8c8 l hl0 g q_5 ) hP hD hS hA hl kw_149 kw_196 kw_151 kw_30 rfl ydJx4a65c_init_da8c8 [3] [0, 1, 2] rfl rfl rfl rfl (by decide) rfl rfl (Nat.le_of_ble_eq_true rfl) dX11_init_31 ⟨Nat.le_of_ble_eq_true rfl, Nat.le_of_ble_eq_true rfl⟩ ⟨Nat.le_of_ble_eq_true rfl, Nat.le_of_ble_eq_true rfl⟩ (fun _ _ _ _ _ _ hX _ _ _ _ _ _ => hX.elim) (fun v w1 H locs hQ hP hD hS => ?_)
  obtain ⟨rfl, rfl⟩ := hQ
  have hP : va_P g.1 vwCl [(h0, .inr (15, [.ref q_1, .ref q_3, .null, .null, .null, .int 0, .int 0, .int 0, .int 0, .int 0, .int 0])), (q_1, .inr (3, [.int 0, .ref g.2.1, .int 0])), (q_3, .inr (3, [.int 0, .ref g.2.1, .int 0])), (q_5, .inr (3, [.int 0, .ref g.2.1, .int 0]))] H := hP
  have hD : va_D A [(h0, .inr (15, [.ref q_1, .ref q_3, .null, .null, .null, .int 0, .int 0, .int 0, .int 0, .int 0, .int 0])), (q_1, .inr (3, [.int 0, .ref g.2.1, .int 0])), (q_3, .inr (3, [.int 0, .ref g.2.1, .int 0])), (q_5, .inr (3, [.int 0, .ref g.2.1, .int 0]))] := hD
  refine W.widen (k := 3) (n := 9) (by decide) (by decide) ?_
  refine W.eq (g2 := F0 m 34 ls [.ref q_5, .ref h0]) rfl ?_
  refine va_putF (D := g.1) (ci := 15) (v := .ref q_5) (ty := (.object "java/util/ArrayList")) (C := RX11) (T := TX11) (N := 11) hx hb G.ws inX11 tyX11 tyX11_ok nmX11 hown G.K hP hD hS 0 rfl rfl 2 (by decide) (G.w kw_52) (fun _ h9 => h9) rfl hin rfl (by decide +kernel) rfl rfl (Nat.le_of_ble_eq_true rfl) dX11_init_34 (fun H locs hP hD hS => ?_)
  have hP : va_P g.1 vwCl [(h0, .inr (15, [.ref q_1, .ref q_3, .ref q_5, .null, .null, .int 0, .int 0, .int 0, .int 0, .int 0, .int 0])), (q_1, .inr (3, [.int 0, .ref g.2.1, .int 0])), (q_3, .inr (3, [.int 0, .ref g.2.1, .int 0])), (q_5, .inr (3, [.int 0, .ref g.2.1, .int 0]))] H := hP
  have hD : va_D A [(h0, .inr (15, [.ref q_1, .ref q_3, .ref q_5, .null, .null, .int 0, .int 0, .int 0, .int 0, .int 0, .int 0])), (q_1, .inr (3, [.int 0, .ref g.2.1, .int 0])), (q_3, .inr (3, [.int 0, .ref g.2.1, .int 0])), (q_5, .inr (3, [.int 0, .ref g.2.1, .int 0]))] := hD
  refine lv_aload_n hx hb dX11_init_37 rfl (lv_at hl 0 rfl) ?_
  refine va_new (D := g.1) (ci := 3) (fs := [.int 0, .null, .int 0]) (C := RJx4a65c) (T := TJx4a65c) (N := 3) hx hb G.ws inJx4a65c tyJx4a65c tyJx4a65c_ok hown (G.w kw_195) (G.w kw_148) (G.w kw_30) G.K hP hD hS hA rfl (fun j hj => by rcases (show j = 0 ∨ j = 1 ∨ j = 2 by omega) with rfl | rfl | rfl <;> rfl) (by decide) (by decide) dX11_init_38 (fun q_7 H hP hD hS => ?_)
  have hP : va_P g.1 vwCl [(h0, .inr (15, [.ref q_1, .ref q_3, .ref q_5, .null, .null, .int 0, .int 0, .int 0, .int 0, .int 0, .int 0])), (q_1, .inr (3, [.int 0, .ref g.2.1, .int 0])), (q_3, .inr (3, [.int 0, .ref g.2.1, .int 0])), (q_5, .inr (3, [.int 0, .ref g.2.1, .int 0])), (q_7, .inr (3, [.int 0, .null, .int 0]))] H := hP
  have hD : va_D A [(h0, .inr (15, [.ref q_1, .ref q_3, .ref q_5, .null, .null, .int 0, .int 0, .int 0, .int 0, .int 0, .int 0])), (q_1, .inr (3, [.int 0, .ref g.2.1, .int 0])), (q_3, .inr (3, [.int 0, .ref g.2.1, .int 0])), (q_5, .inr (3, [.int 0, .ref g.2.1, .int 0])), (q_7, .inr (3, [.int 0, .null, .int 0]))] := hD
  refine W.widen (k := 4) (n := 12) (by decide) (by decide) ?_
  refine lv_dup hx hb dX11_init_41 rfl ?_
  refine kcallI (wc := [(q_7, .inr (3, [.int 0, .null, .int 0]))]) (wr := [(h0, .inr (15, [.ref q_1, .ref q_3, .ref q_5, .null, .null, .int 0, .int 0, .int 0, .int 0, .int 0, .int 0])), (q_1, .inr (3, [.int 0, .ref g.2.1, .int 0])), (q_3, .inr (3, [.int 0, .ref g.2.1, .int 0])), (q_5, .inr (3, [.int 0, .ref g.2.1, .int 0]))]) (As := []) (rest := [.ref q_7, .ref h0]) K G (m_Jx4a65c_init_da8c8 l hl0 g q_7 ) hP hD hS hA hl kw_149 kw_196 kw_151 kw_30 rfl ydJx4a65c_init_da8c8 [4] [0, 1, 2, 3] rfl rfl rfl rfl (by decide) rfl rfl (Nat.le_of_ble_eq_true rfl) dX11_init_42 ⟨Nat.le_of_ble_eq_true rfl, Nat.le_of_ble_eq_true rfl⟩ ⟨Nat.le_of_ble_eq_true rfl, Nat.le_of_ble_eq_true rfl⟩ (fun _ _ _ _ _ _ hX _ _ _ _ _ _ => hX.elim) (fun v w1 H locs hQ hP hD hS => ?_)
  obtain ⟨rfl, rfl⟩ := hQ
  have hP : va_P g.1 vwCl [(h0, .inr (15, [.ref q_1, .ref q_3, .ref q_5, .null, .null, .int 0, .int 0, .int 0, .int 0, .int 0, .int 0])), (q_1, .inr (3, [.int 0, .ref g.2.1, .int 0])), (q_3, .inr (3, [.int 0, .ref g.2.1, .int 0])), (q_5, .inr (3, [.int 0, .ref g.2.1, .int 0])), (q_7, .inr (3, [.int 0, .ref g.2.1, .int 0]))] H := hP
  have hD : va_D A [(h0, .inr (15, [.ref q_1, .ref q_3, .ref q_5, .null, .null, .int 0, .int 0, .int 0, .int 0, .int 0, .int 0])), (q_1, .inr (3, [.int 0, .ref g.2.1, .int 0])), (q_3, .inr (3, [.int 0, .ref g.2.1, .int 0])), (q_5, .inr (3, [.int 0, .ref g.2.1, .int 0])), (q_7, .inr (3, [.int 0, .ref g.2.1, .int 0]))] := hD
  refine W.widen (k := 4) (n := 12) (by decide) (by decide) ?_
  refine W.eq (g2 := F0 m 45 ls [.ref q_7, .ref h0]) rfl ?_
  refine va_putF (D := g.1) (ci := 15) (v := .ref q_7) (ty := (.object "java/util/ArrayList")) (C := RX11) (T := TX11) (N := 11) hx hb G.ws inX11 tyX11 tyX11_ok nmX11 hown G.K hP hD hS 0 rfl rfl 3 (by decide) (G.w kw_53) (fun _ h9 => h9) rfl hin rfl (by decide +kernel) rfl rfl (Nat.le_of_ble_eq_true rfl) dX11_init_45 (fun H locs hP hD hS => ?_)
  have hP : va_P g.1 vwCl [(h0, .inr (15, [.ref q_1, .ref q_3, .ref q_5, .ref q_7, .null, .int 0, .int 0, .int 0, .int 0, .int 0, .int 0])), (q_1, .inr (3, [.int 0, .ref g.2.1, .int 0])), (q_3, .inr (3, [.int 0, .ref g.2.1, .int 0])), (q_5, .inr (3, [.int 0, .ref g.2.1, .int 0])), (q_7, .inr (3, [.int 0, .ref g.2.1, .int 0]))] H := hP
  have hD : va_D A [(h0, .inr (15, [.ref q_1, .ref q_3, .ref q_5, .ref q_7, .null, .int 0, .int 0, .int 0, .int 0, .int 0, .int 0])), (q_1, .inr (3, [.int 0, .ref g.2.1, .int 0])), (q_3, .inr (3, [.int 0, .ref g.2.1, .int 0])), (q_5, .inr (3, [.int 0, .ref g.2.1, .int 0])), (q_7, .inr (3, [.int 0, .ref g.2.1, .int 0]))] := hD
  refine lv_aload_n hx hb dX11_init_48 rfl (lv_at hl 0 rfl) ?_
  refine va_new (D := g.1) (ci := 5) (fs := [.null, .null, .null, .null, .null, .null, .null, .int 0]) (C := RX1) (T := TX1) (N := 8) hx hb G.ws inX1 tyX1 tyX1_ok hown (G.w kw_197) (G.w kw_198) (G.w kw_199) G.K hP hD hS hA rfl (fun j hj => by rcases (show j = 0 ∨ j = 1 ∨ j = 2 ∨ j = 3 ∨ j = 4 ∨ j = 5 ∨ j = 6 ∨ j = 7 by omega) with rfl | rfl | rfl | rfl | rfl | rfl | rfl | rfl <;> rfl) (by decide) (by decide) dX11_init_49 (fun q_9 H hP hD hS => ?_)
  have hP : va_P g.1 vwCl [(h0, .inr (15, [.ref q_1, .ref q_3, .ref q_5, .ref q_7, .null, .int 0, .int 0, .int 0, .int 0, .int 0, .int 0])), (q_1, .inr (3, [.int 0, .ref g.2.1, .int 0])), (q_3, .inr (3, [.int 0, .ref g.2.1, .int 0])), (q_5, .inr (3, [.int 0, .ref g.2.1, .int 0])), (q_7, .inr (3, [.int 0, .ref g.2.1, .int 0])), (q_9, .inr (5, [.null, .null, .null, .null, .null, .null, .null, .int 0]))] H := hP
  have hD : va_D A [(h0, .inr (15, [.ref q_1, .ref q_3, .ref q_5, .ref q_7, .null, .int 0, .int 0, .int 0, .int 0, .int 0, .int 0])), (q_1, .inr (3, [.int 0, .ref g.2.1, .int 0])), (q_3, .inr (3, [.int 0, .ref g.2.1, .int 0])), (q_5, .inr (3, [.int 0, .ref g.2.1, .int 0])), (q_7, .inr (3, [.int 0, .ref g.2.1, .int 0])), (q_9, .inr (5, [.null, .null, .null, .null, .null, .null, .null, .int 0]))] := hD
  refine W.widen (k := 5) (n := 20) (by decide) (by decide) ?_
  refine lv_dup hx hb dX11_init_52 rfl ?_
  refine kcallI (wc := [(q_9, .inr (5, [.null, .null, .null, .null, .null, .null, .null, .int 0]))]) (wr := [(h0, .inr (15, [.ref q_1, .ref q_3, .ref q_5, .ref q_7, .null, .int 0, .int 0, .int 0, .int 0, .int 0, .int 0])), (q_1, .inr (3, [.int 0, .ref g.2.1, .int 0])), (q_3, .inr (3, [.int 0, .ref g.2.1, .int 0])), (q_5, .inr (3, [.int 0, .ref g.2.1, .int 0])), (q_7, .inr (3, [.int 0, .ref g.2.1, .int 0]))]) (As := []) (rest := [.ref q_9, .ref h0]) K G (m_X1_init l hl0 g q_9 ) hP hD hS hA hl kw_200 kw_201 kw_202 kw_199 rfl ydX1_init [5] [0, 1, 2, 3, 4] rfl rfl rfl rfl (by decide) rfl rfl (Nat.le_of_ble_eq_true rfl) dX11_init_53 ⟨Nat.le_of_ble_eq_true rfl, Nat.le_of_ble_eq_true rfl⟩ ⟨Nat.le_of_ble_eq_true rfl, Nat.le_of_ble_eq_true rfl⟩ (fun _ _ _ _ _ _ hX _ _ _ _ _ _ => hX.elim) (fun v w1 H locs hQ hP hD hS => ?_)
  obtain ⟨k0_11, r0_12, b1_13, b2_14, b3_15, b4_16, b5_17, b6_18, b7_19, b8_20, b9_21, b10_22, rfl, rfl⟩ := hQ
  have hP : va_P g.1 vwCl [(h0, .inr (15, [.ref q_1, .ref q_3, .ref q_5, .ref q_7, .null, .int 0, .int 0, .int 0, .int 0, .int 0, .int 0])), (q_1, .inr (3, [.int 0, .ref g.2.1, .int 0])), (q_3, .inr (3, [.int 0, .ref g.2.1, .int 0])), (q_5, .inr (3, [.int 0, .ref g.2.1, .int 0])), (q_7, .inr (3, [.int 0, .ref g.2.1, .int 0])), (q_9, .inr (5, [.ref k0_11, .ref r0_12, .ref b1_13, .ref b2_14, .ref b3_15, .ref b4_16, .ref b5_17, .int 0])), (k0_11, .inr (7, [.ref b6_18, .ref b7_19, .ref b8_20, .ref b9_21, .ref b10_22, .int 0, .int 0])), (r0_12, .inr (3, [.int 0, .ref g.2.1, .int 0]))] H := hP
  have hD : va_D A [(h0, .inr (15, [.ref q_1, .ref q_3, .ref q_5, .ref q_7, .null, .int 0, .int 0, .int 0, .int 0, .int 0, .int 0])), (q_1, .inr (3, [.int 0, .ref g.2.1, .int 0])), (q_3, .inr (3, [.int 0, .ref g.2.1, .int 0])), (q_5, .inr (3, [.int 0, .ref g.2.1, .int 0])), (q_7, .inr (3, [.int 0, .ref g.2.1, .int 0])), (q_9, .inr (5, [.ref k0_11, .ref r0_12, .ref b1_13, .ref b2_14, .ref b3_15, .ref b4_16, .ref b5_17, .int 0])), (k0_11, .inr (7, [.ref b6_18, .ref b7_19, .ref b8_20, .ref b9_21, .ref b10_22, .int 0, .int 0])), (r0_12, .inr (3, [.int 0, .ref g.2.1, .int 0]))] := hD
  refine W.widen (k := 17) (n := 1234) (by decide) (by decide) ?_
  refine W.eq (g2 := F0 m 56 ls [.ref q_9, .ref h0]) rfl ?_
  refine va_putF (D := g.1) (ci := 15) (v := .ref q_9) (ty := (.object "GalleonWave$Archive")) (C := RX11) (T := TX11) (N := 11) hx hb G.ws inX11 tyX11 tyX11_ok nmX11 hown G.K hP hD hS 0 rfl rfl 4 (by decide) (G.w kw_54) (fun _ h9 => h9) rfl hin rfl (by decide +kernel) rfl rfl (Nat.le_of_ble_eq_true rfl) dX11_init_56 (fun H locs hP hD hS => ?_)
  have hP : va_P g.1 vwCl [(h0, .inr (15, [.ref q_1, .ref q_3, .ref q_5, .ref q_7, .ref q_9, .int 0, .int 0, .int 0, .int 0, .int 0, .int 0])), (q_1, .inr (3, [.int 0, .ref g.2.1, .int 0])), (q_3, .inr (3, [.int 0, .ref g.2.1, .int 0])), (q_5, .inr (3, [.int 0, .ref g.2.1, .int 0])), (q_7, .inr (3, [.int 0, .ref g.2.1, .int 0])), (q_9, .inr (5, [.ref k0_11, .ref r0_12, .ref b1_13, .ref b2_14, .ref b3_15, .ref b4_16, .ref b5_17, .int 0])), (k0_11, .inr (7, [.ref b6_18, .ref b7_19, .ref b8_20, .ref b9_21, .ref b10_22, .int 0, .int 0])), (r0_12, .inr (3, [.int 0, .ref g.2.1, .int 0]))] H := hP
  have hD : va_D A [(h0, .inr (15, [.ref q_1, .ref q_3, .ref q_5, .ref q_7, .ref q_9, .int 0, .int 0, .int 0, .int 0, .int 0, .int 0])), (q_1, .inr (3, [.int 0, .ref g.2.1, .int 0])), (q_3, .inr (3, [.int 0, .ref g.2.1, .int 0])), (q_5, .inr (3, [.int 0, .ref g.2.1, .int 0])), (q_7, .inr (3, [.int 0, .ref g.2.1, .int 0])), (q_9, .inr (5, [.ref k0_11, .ref r0_12, .ref b1_13, .ref b2_14, .ref b3_15, .ref b4_16, .ref b5_17, .int 0])), (k0_11, .inr (7, [.ref b6_18, .ref b7_19, .ref b8_20, .ref b9_21, .ref b10_22, .int 0, .int 0])), (r0_12, .inr (3, [.int 0, .ref g.2.1, .int 0]))] := hD
  refine lv_aload_n hx hb dX11_init_59 rfl (lv_at hl 0 rfl) ?_
  refine lv_bipush (v := 110) hx hb dX11_init_60 (by decide) ?_
  refine va_put (D := g.1) (ci := 15) (v := .int 110) (ty := .char) (C := RX11) (T := TX11) (N := 11) hx hb G.ws inX11 tyX11 tyX11_ok nmX11 hown G.K hP hD hS 0 rfl rfl 7 (by decide) (G.w kw_203) (fun _ h9 => h9) (by decide +kernel) (by decide +kernel) rfl rfl (Nat.le_of_ble_eq_true rfl) dX11_init_62 (fun H locs hP hD hS => ?_)
  have hP : va_P g.1 vwCl [(h0, .inr (15, [.ref q_1, .ref q_3, .ref q_5, .ref q_7, .ref q_9, .int 0, .int 0, .int 110, .int 0, .int 0, .int 0])), (q_1, .inr (3, [.int 0, .ref g.2.1, .int 0])), (q_3, .inr (3, [.int 0, .ref g.2.1, .int 0])), (q_5, .inr (3, [.int 0, .ref g.2.1, .int 0])), (q_7, .inr (3, [.int 0, .ref g.2.1, .int 0])), (q_9, .inr (5, [.ref k0_11, .ref r0_12, .ref b1_13, .ref b2_14, .ref b3_15, .ref b4_16, .ref b5_17, .int 0])), (k0_11, .inr (7, [.ref b6_18, .ref b7_19, .ref b8_20, .ref b9_21, .ref b10_22, .int 0, .int 0])), (r0_12, .inr (3, [.int 0, .ref g.2.1, .int 0]))] H := hP
  have hD : va_D A [(h0, .inr (15, [.ref q_1, .ref q_3, .ref q_5, .ref q_7, .ref q_9, .int 0, .int 0, .int 110, .int 0, .int 0, .int 0])), (q_1, .inr (3, [.int 0, .ref g.2.1, .int 0])), (q_3, .inr (3, [.int 0, .ref g.2.1, .int 0])), (q_5, .inr (3, [.int 0, .ref g.2.1, .int 0])), (q_7, .inr (3, [.int 0, .ref g.2.1, .int 0])), (q_9, .inr (5, [.ref k0_11, .ref r0_12, .ref b1_13, .ref b2_14, .ref b3_15, .ref b4_16, .ref b5_17, .int 0])), (k0_11, .inr (7, [.ref b6_18, .ref b7_19, .ref b8_20, .ref b9_21, .ref b10_22, .int 0, .int 0])), (r0_12, .inr (3, [.int 0, .ref g.2.1, .int 0]))] := hD
  exact kretV K hP hD hS [0, 1, 2, 3, 4, 5, 6, 7] [(h0, .inr (15, [.ref q_1, .ref q_3, .ref q_5, .ref q_7, .ref q_9, .int 0, .int 0, .int 110, .int 0, .int 0, .int 0])), (q_1, .inr (3, [.int 0, .ref g.2.1, .int 0])), (q_3, .inr (3, [.int 0, .ref g.2.1, .int 0])), (q_5, .inr (3, [.int 0, .ref g.2.1, .int 0])), (q_7, .inr (3, [.int 0, .ref g.2.1, .int 0])), (q_9, .inr (5, [.ref k0_11, .ref r0_12, .ref b1_13, .ref b2_14, .ref b3_15, .ref b4_16, .ref b5_17, .int 0])), (k0_11, .inr (7, [.ref b6_18, .ref b7_19, .ref b8_20, .ref b9_21, .ref b10_22, .int 0, .int 0])), (r0_12, .inr (3, [.int 0, .ref g.2.1, .int 0]))] rfl rfl (⟨q_1, q_3, q_5, q_7, q_9, k0_11, r0_12, b1_13, b2_14, b3_15, b4_16, b5_17, b6_18, b7_19, b8_20, b9_21, b10_22, rfl, rfl⟩) (by decide) (by decide) dX11_init_65

set_option maxHeartbeats 4000000 in
set_option maxRecDepth 100000 in
theorem m_X11_addLand (l : Launch) (hl0 : l.stackTraces = false) (g : kG) (h0 : Nat) (a1 : Nat) (a2 : Nat) (a3 : Nat) (a4 : Nat) (a5 : Nat) (k0 : Nat) (r0 : Nat) (b1 : Nat) (b2 : Nat) (b3 : Nat) (b4 : Nat) (b5 : Nat) (b6 : Nat) (b7 : Nat) (b8 : Nat) (b9 : Nat) (b10 : Nat) (x0 : Int32) (x1 : Int32) (x2 : Int32)  : kc l g yX11_addLand prog_1_method_2_code 4 (some .int) 8 125 8 63 [.ref h0, .int x0, .int x1, .int x2] [(h0, .inr (15, [.ref a1, .ref a2, .ref a3, .ref a4, .ref a5, .int 0, .int 0, .int 110, .int 0, .int 0, .int 0])), (a1, .inr (3, [.int 0, .ref g.2.1, .int 0])), (a2, .inr (3, [.int 0, .ref g.2.1, .int 0])), (a3, .inr (3, [.int 0, .ref g.2.1, .int 0])), (a4, .inr (3, [.int 0, .ref g.2.1, .int 0])), (a5, .inr (5, [.ref k0, .ref r0, .ref b1, .ref b2, .ref b3, .ref b4, .ref b5, .int 0])), (k0, .inr (7, [.ref b6, .ref b7, .ref b8, .ref b9, .ref b10, .int 0, .int 0])), (r0, .inr (3, [.int 0, .ref g.2.1, .int 0]))] (fun v w => (v = some (.int 0) ∧ w = [] ∧ (inR x0 (-999) 999 && inR x1 (-999) 999 && inR x2 1 50) = true)) (fun E w => (E = "java/lang/IllegalArgumentException" ∧ w = [] ∧ (inR x0 (-999) 999 && inR x1 (-999) 999 && inR x2 1 50) = false)) := by
  refine kbody (by decide) (Nat.le_of_ble_eq_true rfl) ?_
  intro p e s m args below meth c A H K ht G hP hD hA hS ls hl
  have K : KB p s m meth c RX11 "addLand" prog_1_method_2_code 4 (some .int) := K
  obtain ⟨hx, hb, hml, hown, hlocks, hr, hin⟩ := id K
  have hl : lv_has ls 4 [(0, .ref h0), (1, .int x0), (2, .int x1), (3, .int x2)] := hl
  refine lv_iload_n hx hb dX11_addLand_0 rfl (lv_at hl 1 rfl) ?_
  refine lv_iload_n hx hb dX11_addLand_1 rfl (lv_at hl 2 rfl) ?_
  refine kcallS (wc := []) (wr := [(h0, .inr (15, [.ref a1, .ref a2, .ref a3, .ref a4, .ref a5, .int 0, .int 0, .int 110, .int 0, .int 0, .int 0])), (a1, .inr (3, [.int 0, .ref g.2.1, .int 0])), (a2, .inr (3, [.int 0, .ref g.2.1, .int 0])), (a3, .inr (3, [.int 0, .ref g.2.1, .int 0])), (a4, .inr (3, [.int 0, .ref g.2.1, .int 0])), (a5, .inr (5, [.ref k0, .ref r0, .ref b1, .ref b2, .ref b3, .ref b4, .ref b5, .int 0])), (k0, .inr (7, [.ref b6, .ref b7, .ref b8, .ref b9, .ref b10, .int 0, .int 0])), (r0, .inr (3, [.int 0, .ref g.2.1, .int 0]))]) (As := [.int x0, .int x1]) (rest := []) K G (m_X11_requirePlace l hl0 g x0 x1 ) hP hD hS hA hl kw_204 kw_205 kw_206 kw_4 ydX11_requirePlace [] [0, 1, 2, 3, 4, 5, 6, 7] rfl rfl rfl rfl (by decide) rfl rfl (Nat.le_of_ble_eq_true rfl) dX11_addLand_2 ⟨Nat.le_of_ble_eq_true rfl, Nat.le_of_ble_eq_true rfl⟩ ⟨Nat.le_of_ble_eq_true rfl, Nat.le_of_ble_eq_true rfl⟩ (fun E w1 ce q9 H locs hX hP hD hS hce hcv hcl => ?_) (fun v w1 H locs hQ hP hD hS => ?_)
  · obtain ⟨rfl, rfl, f_2⟩ := hX
    have hP : va_P g.1 vwCl [(h0, .inr (15, [.ref a1, .ref a2, .ref a3, .ref a4, .ref a5, .int 0, .int 0, .int 110, .int 0, .int 0, .int 0])), (a1, .inr (3, [.int 0, .ref g.2.1, .int 0])), (a2, .inr (3, [.int 0, .ref g.2.1, .int 0])), (a3, .inr (3, [.int 0, .ref g.2.1, .int 0])), (a4, .inr (3, [.int 0, .ref g.2.1, .int 0])), (a5, .inr (5, [.ref k0, .ref r0, .ref b1, .ref b2, .ref b3, .ref b4, .ref b5, .int 0])), (k0, .inr (7, [.ref b6, .ref b7, .ref b8, .ref b9, .ref b10, .int 0, .int 0])), (r0, .inr (3, [.int 0, .ref g.2.1, .int 0]))] H := hP
    have hD : va_D A [(h0, .inr (15, [.ref a1, .ref a2, .ref a3, .ref a4, .ref a5, .int 0, .int 0, .int 110, .int 0, .int 0, .int 0])), (a1, .inr (3, [.int 0, .ref g.2.1, .int 0])), (a2, .inr (3, [.int 0, .ref g.2.1, .int 0])), (a3, .inr (3, [.int 0, .ref g.2.1, .int 0])), (a4, .inr (3, [.int 0, .ref g.2.1, .int 0])), (a5, .inr (5, [.ref k0, .ref r0, .ref b1, .ref b2, .ref b3, .ref b4, .ref b5, .int 0])), (k0, .inr (7, [.ref b6, .ref b7, .ref b8, .ref b9, .ref b10, .int 0, .int 0])), (r0, .inr (3, [.int 0, .ref g.2.1, .int 0]))] := hD
    refine vx_widen (k := 2) (n := 12) (by decide) (by decide) ?_
    exact kthrow K ht hP hD hS hce hcv hcl [] [] rfl rfl (⟨rfl, rfl, (by simp [f_2])⟩) (by decide) (by decide)
  · obtain ⟨rfl, rfl, f_3⟩ := hQ
    have hP : va_P g.1 vwCl [(h0, .inr (15, [.ref a1, .ref a2, .ref a3, .ref a4, .ref a5, .int 0, .int 0, .int 110, .int 0, .int 0, .int 0])), (a1, .inr (3, [.int 0, .ref g.2.1, .int 0])), (a2, .inr (3, [.int 0, .ref g.2.1, .int 0])), (a3, .inr (3, [.int 0, .ref g.2.1, .int 0])), (a4, .inr (3, [.int 0, .ref g.2.1, .int 0])), (a5, .inr (5, [.ref k0, .ref r0, .ref b1, .ref b2, .ref b3, .ref b4, .ref b5, .int 0])), (k0, .inr (7, [.ref b6, .ref b7, .ref b8, .ref b9, .ref b10, .int 0, .int 0])), (r0, .inr (3, [.int 0, .ref g.2.1, .int 0]))] H := hP
    have hD : va_D A [(h0, .inr (15, [.ref a1, .ref a2, .ref a3, .ref a4, .ref a5, .int 0, .int 0, .int 110, .int 0, .int 0, .int 0])), (a1, .inr (3, [.int 0, .ref g.2.1, .int 0])), (a2, .inr (3, [.int 0, .ref g.2.1, .int 0])), (a3, .inr (3, [.int 0, .ref g.2.1, .int 0])), (a4, .inr (3, [.int 0, .ref g.2.1, .int 0])), (a5, .inr (5, [.ref k0, .ref r0, .ref b1, .ref b2, .ref b3, .ref b4, .ref b5, .int 0])), (k0, .inr (7, [.ref b6, .ref b7, .ref b8, .ref b9, .ref b10, .int 0, .int 0])), (r0, .inr (3, [.int 0, .ref g.2.1, .int 0]))] := hD
    refine W.widen (k := 2) (n := 12) (by decide) (by decide) ?_
    refine W.eq (g2 := F0 m 5 ls []) rfl ?_
    refine lv_iload_n hx hb dX11_addLand_5 rfl (lv_at hl 3 rfl) ?_
    refine lv_iconst (v := 1) hx hb dX11_addLand_6 (by decide) ?_
    refine lv_bipush (v := 50) hx hb dX11_addLand_7 (by decide) ?_
    refine kcallS (wc := []) (wr := [(h0, .inr (15, [.ref a1, .ref a2, .ref a3, .ref a4, .ref a5, .int 0, .int 0, .int 110, .int 0, .int 0, .int 0])), (a1, .inr (3, [.int 0, .ref g.2.1, .int 0])), (a2, .inr (3, [.int 0, .ref g.2.1, .int 0])), (a3, .inr (3, [.int 0, .ref g.2.1, .int 0])), (a4, .inr (3, [.int 0, .ref g.2.1, .int 0])), (a5, .inr (5, [.ref k0, .ref r0, .ref b1, .ref b2, .ref b3, .ref b4, .ref b5, .int 0])), (k0, .inr (7, [.ref b6, .ref b7, .ref b8, .ref b9, .ref b10, .int 0, .int 0])), (r0, .inr (3, [.int 0, .ref g.2.1, .int 0]))]) (As := [.int x2, .int 1, .int 50]) (rest := []) K G (m_X11_requireRange l hl0 g x2 1 50 ) hP hD hS hA hl kw_2 kw_3 kw_5 kw_4 ydX11_requireRange [] [0, 1, 2, 3, 4, 5, 6, 7] rfl rfl rfl rfl (by decide) rfl rfl (Nat.le_of_ble_eq_true rfl) dX11_addLand_9 ⟨Nat.le_of_ble_eq_true rfl, Nat.le_of_ble_eq_true rfl⟩ ⟨Nat.le_of_ble_eq_true rfl, Nat.le_of_ble_eq_true rfl⟩ (fun E w1 ce q9 H locs hX hP hD hS hce hcv hcl => ?_) (fun v w1 H locs hQ hP hD hS => ?_)
    · obtain ⟨rfl, rfl, f_5⟩ := hX
      have hP : va_P g.1 vwCl [(h0, .inr (15, [.ref a1, .ref a2, .ref a3, .ref a4, .ref a5, .int 0, .int 0, .int 110, .int 0, .int 0, .int 0])), (a1, .inr (3, [.int 0, .ref g.2.1, .int 0])), (a2, .inr (3, [.int 0, .ref g.2.1, .int 0])), (a3, .inr (3, [.int 0, .ref g.2.1, .int 0])), (a4, .inr (3, [.int 0, .ref g.2.1, .int 0])), (a5, .inr (5, [.ref k0, .ref r0, .ref b1, .ref b2, .ref b3, .ref b4, .ref b5, .int 0])), (k0, .inr (7, [.ref b6, .ref b7, .ref b8, .ref b9, .ref b10, .int 0, .int 0])), (r0, .inr (3, [.int 0, .ref g.2.1, .int 0]))] H := hP
      have hD : va_D A [(h0, .inr (15, [.ref a1, .ref a2, .ref a3, .ref a4, .ref a5, .int 0, .int 0, .int 110, .int 0, .int 0, .int 0])), (a1, .inr (3, [.int 0, .ref g.2.1, .int 0])), (a2, .inr (3, [.int 0, .ref g.2.1, .int 0])), (a3, .inr (3, [.int 0, .ref g.2.1, .int 0])), (a4, .inr (3, [.int 0, .ref g.2.1, .int 0])), (a5, .inr (5, [.ref k0, .ref r0, .ref b1, .ref b2, .ref b3, .ref b4, .ref b5, .int 0])), (k0, .inr (7, [.ref b6, .ref b7, .ref b8, .ref b9, .ref b10, .int 0, .int 0])), (r0, .inr (3, [.int 0, .ref g.2.1, .int 0]))] := hD
      refine vx_widen (k := 3) (n := 18) (by decide) (by decide) ?_
      exact kthrow K ht hP hD hS hce hcv hcl [] [] rfl rfl (⟨rfl, rfl, (by simp [f_3, f_5])⟩) (by decide) (by decide)
    · obtain ⟨rfl, rfl, f_6⟩ := hQ
      have hP : va_P g.1 vwCl [(h0, .inr (15, [.ref a1, .ref a2, .ref a3, .ref a4, .ref a5, .int 0, .int 0, .int 110, .int 0, .int 0, .int 0])), (a1, .inr (3, [.int 0, .ref g.2.1, .int 0])), (a2, .inr (3, [.int 0, .ref g.2.1, .int 0])), (a3, .inr (3, [.int 0, .ref g.2.1, .int 0])), (a4, .inr (3, [.int 0, .ref g.2.1, .int 0])), (a5, .inr (5, [.ref k0, .ref r0, .ref b1, .ref b2, .ref b3, .ref b4, .ref b5, .int 0])), (k0, .inr (7, [.ref b6, .ref b7, .ref b8, .ref b9, .ref b10, .int 0, .int 0])), (r0, .inr (3, [.int 0, .ref g.2.1, .int 0]))] H := hP
      have hD : va_D A [(h0, .inr (15, [.ref a1, .ref a2, .ref a3, .ref a4, .ref a5, .int 0, .int 0, .int 110, .int 0, .int 0, .int 0])), (a1, .inr (3, [.int 0, .ref g.2.1, .int 0])), (a2, .inr (3, [.int 0, .ref g.2.1, .int 0])), (a3, .inr (3, [.int 0, .ref g.2.1, .int 0])), (a4, .inr (3, [.int 0, .ref g.2.1, .int 0])), (a5, .inr (5, [.ref k0, .ref r0, .ref b1, .ref b2, .ref b3, .ref b4, .ref b5, .int 0])), (k0, .inr (7, [.ref b6, .ref b7, .ref b8, .ref b9, .ref b10, .int 0, .int 0])), (r0, .inr (3, [.int 0, .ref g.2.1, .int 0]))] := hD
      refine W.widen (k := 3) (n := 18) (by decide) (by decide) ?_
      refine W.eq (g2 := F0 m 12 ls []) rfl ?_
      refine lv_aload_n hx hb dX11_addLand_12 rfl (lv_at hl 0 rfl) ?_
      refine va_get (D := g.1) (ci := 15) (v := .ref a1) (C := RX11) (T := TX11) (N := 11) hx hb G.ws inX11 hown G.K hP 0 rfl rfl 0 (by decide) (G.w kw_43) (fun _ h9 => h9) rfl dX11_addLand_13 ?_
      refine kcallV (wc := [(a1, .inr (3, [.int 0, .ref g.2.1, .int 0]))]) (wr := [(h0, .inr (15, [.ref a1, .ref a2, .ref a3, .ref a4, .ref a5, .int 0, .int 0, .int 110, .int 0, .int 0, .int 0])), (a2, .inr (3, [.int 0, .ref g.2.1, .int 0])), (a3, .inr (3, [.int 0, .ref g.2.1, .int 0])), (a4, .inr (3, [.int 0, .ref g.2.1, .int 0])), (a5, .inr (5, [.ref k0, .ref r0, .ref b1, .ref b2, .ref b3, .ref b4, .ref b5, .int 0])), (k0, .inr (7, [.ref b6, .ref b7, .ref b8, .ref b9, .ref b10, .int 0, .int 0])), (r0, .inr (3, [.int 0, .ref g.2.1, .int 0]))]) (As := []) (rest := []) K G (m_Jx4a65c_size_8abf5 l hl0 g a1 0 g.2.1 0 ) hP hD hS hA hl kw_44 kw_45 kw_46 kw_47 kw_30 ydJx4a65c_size_8abf5 [1] [0, 2, 3, 4, 5, 6, 7] rfl rfl rfl rfl (by decide) (ci := 3) (q0 := 1) rfl rfl rfl rfl rfl (Nat.le_of_ble_eq_true rfl) dX11_addLand_16 ⟨Nat.le_of_ble_eq_true rfl, Nat.le_of_ble_eq_true rfl⟩ ⟨Nat.le_of_ble_eq_true rfl, Nat.le_of_ble_eq_true rfl⟩ (fun _ _ _ _ _ _ hX _ _ _ _ _ _ => hX.elim) (fun v w1 H locs hQ hP hD hS => ?_)
      obtain ⟨rfl, rfl⟩ := hQ
      have hP : va_P g.1 vwCl [(h0, .inr (15, [.ref a1, .ref a2, .ref a3, .ref a4, .ref a5, .int 0, .int 0, .int 110, .int 0, .int 0, .int 0])), (a2, .inr (3, [.int 0, .ref g.2.1, .int 0])), (a3, .inr (3, [.int 0, .ref g.2.1, .int 0])), (a4, .inr (3, [.int 0, .ref g.2.1, .int 0])), (a5, .inr (5, [.ref k0, .ref r0, .ref b1, .ref b2, .ref b3, .ref b4, .ref b5, .int 0])), (k0, .inr (7, [.ref b6, .ref b7, .ref b8, .ref b9, .ref b10, .int 0, .int 0])), (r0, .inr (3, [.int 0, .ref g.2.1, .int 0])), (a1, .inr (3, [.int 0, .ref g.2.1, .int 0]))] H := hP
      have hD : va_D A [(h0, .inr (15, [.ref a1, .ref a2, .ref a3, .ref a4, .ref a5, .int 0, .int 0, .int 110, .int 0, .int 0, .int 0])), (a2, .inr (3, [.int 0, .ref g.2.1, .int 0])), (a3, .inr (3, [.int 0, .ref g.2.1, .int 0])), (a4, .inr (3, [.int 0, .ref g.2.1, .int 0])), (a5, .inr (5, [.ref k0, .ref r0, .ref b1, .ref b2, .ref b3, .ref b4, .ref b5, .int 0])), (k0, .inr (7, [.ref b6, .ref b7, .ref b8, .ref b9, .ref b10, .int 0, .int 0])), (r0, .inr (3, [.int 0, .ref g.2.1, .int 0])), (a1, .inr (3, [.int 0, .ref g.2.1, .int 0]))] := hD
      refine W.widen (k := 3) (n := 18) (by decide) (by decide) ?_
      refine W.eq (g2 := F0 m 19 ls [.int 0]) rfl ?_
      refine lv_iconst (v := 4) hx hb dX11_addLand_19 (by decide) ?_
      refine kcallS (wc := []) (wr := [(h0, .inr (15, [.ref a1, .ref a2, .ref a3, .ref a4, .ref a5, .int 0, .int 0, .int 110, .int 0, .int 0, .int 0])), (a2, .inr (3, [.int 0, .ref g.2.1, .int 0])), (a3, .inr (3, [.int 0, .ref g.2.1, .int 0])), (a4, .inr (3, [.int 0, .ref g.2.1, .int 0])), (a5, .inr (5, [.ref k0, .ref r0, .ref b1, .ref b2, .ref b3, .ref b4, .ref b5, .int 0])), (k0, .inr (7, [.ref b6, .ref b7, .ref b8, .ref b9, .ref b10, .int 0, .int 0])), (r0, .inr (3, [.int 0, .ref g.2.1, .int 0])), (a1, .inr (3, [.int 0, .ref g.2.1, .int 0]))]) (As := [.int 0, .int 4]) (rest := []) K G (m_X11_requireRoom l hl0 g 0 4 (by first | assumption | decide)) hP hD hS hA hl kw_207 kw_208 kw_209 kw_4 ydX11_requireRoom [] [0, 1, 2, 3, 4, 5, 6, 7] rfl rfl rfl rfl (by decide) rfl rfl (Nat.le_of_ble_eq_true rfl) dX11_addLand_20 ⟨Nat.le_of_ble_eq_true rfl, Nat.le_of_ble_eq_true rfl⟩ ⟨Nat.le_of_ble_eq_true rfl, Nat.le_of_ble_eq_true rfl⟩ (fun _ _ _ _ _ _ hX _ _ _ _ _ _ => hX.elim) (fun v w1 H locs hQ hP hD hS => ?_)
      obtain ⟨rfl, rfl⟩ := hQ
      have hP : va_P g.1 vwCl [(h0, .inr (15, [.ref a1, .ref a2, .ref a3, .ref a4, .ref a5, .int 0, .int 0, .int 110, .int 0, .int 0, .int 0])), (a2, .inr (3, [.int 0, .ref g.2.1, .int 0])), (a3, .inr (3, [.int 0, .ref g.2.1, .int 0])), (a4, .inr (3, [.int 0, .ref g.2.1, .int 0])), (a5, .inr (5, [.ref k0, .ref r0, .ref b1, .ref b2, .ref b3, .ref b4, .ref b5, .int 0])), (k0, .inr (7, [.ref b6, .ref b7, .ref b8, .ref b9, .ref b10, .int 0, .int 0])), (r0, .inr (3, [.int 0, .ref g.2.1, .int 0])), (a1, .inr (3, [.int 0, .ref g.2.1, .int 0]))] H := hP
      have hD : va_D A [(h0, .inr (15, [.ref a1, .ref a2, .ref a3, .ref a4, .ref a5, .int 0, .int 0, .int 110, .int 0, .int 0, .int 0])), (a2, .inr (3, [.int 0, .ref g.2.1, .int 0])), (a3, .inr (3, [.int 0, .ref g.2.1, .int 0])), (a4, .inr (3, [.int 0, .ref g.2.1, .int 0])), (a5, .inr (5, [.ref k0, .ref r0, .ref b1, .ref b2, .ref b3, .ref b4, .ref b5, .int 0])), (k0, .inr (7, [.ref b6, .ref b7, .ref b8, .ref b9, .ref b10, .int 0, .int 0])), (r0, .inr (3, [.int 0, .ref g.2.1, .int 0])), (a1, .inr (3, [.int 0, .ref g.2.1, .int 0]))] := hD
      refine W.widen (k := 3) (n := 18) (by decide) (by decide) ?_
      refine W.eq (g2 := F0 m 23 ls []) rfl ?_
      refine lv_aload_n hx hb dX11_addLand_23 rfl (lv_at hl 0 rfl) ?_
      refine va_get (D := g.1) (ci := 15) (v := .ref a1) (C := RX11) (T := TX11) (N := 11) hx hb G.ws inX11 hown G.K hP 0 rfl rfl 0 (by decide) (G.w kw_43) (fun _ h9 => h9) rfl dX11_addLand_24 ?_
      refine va_new (D := g.1) (ci := 8) (fs := [.int 0, .int 0, .int 0, .null, .null, .null, .int 0, .int 0, .int 0, .int 0, .int 0]) (C := RX4) (T := TX4) (N := 11) hx hb G.ws inX4 tyX4 tyX4_ok hown (G.w kw_210) (G.w kw_211) (G.w kw_212) G.K hP hD hS hA rfl (fun j hj => by rcases (show j = 0 ∨ j = 1 ∨ j = 2 ∨ j = 3 ∨ j = 4 ∨ j = 5 ∨ j = 6 ∨ j = 7 ∨ j = 8 ∨ j = 9 ∨ j = 10 by omega) with rfl | rfl | rfl | rfl | rfl | rfl | rfl | rfl | rfl | rfl | rfl <;> rfl) (by decide) (by decide) dX11_addLand_27 (fun q_9 H hP hD hS => ?_)
      have hP : va_P g.1 vwCl [(h0, .inr (15, [.ref a1, .ref a2, .ref a3, .ref a4, .ref a5, .int 0, .int 0, .int 110, .int 0, .int 0, .int 0])), (a2, .inr (3, [.int 0, .ref g.2.1, .int 0])), (a3, .inr (3, [.int 0, .ref g.2.1, .int 0])), (a4, .inr (3, [.int 0, .ref g.2.1, .int 0])), (a5, .inr (5, [.ref k0, .ref r0, .ref b1, .ref b2, .ref b3, .ref b4, .ref b5, .int 0])), (k0, .inr (7, [.ref b6, .ref b7, .ref b8, .ref b9, .ref b10, .int 0, .int 0])), (r0, .inr (3, [.int 0, .ref g.2.1, .int 0])), (a1, .inr (3, [.int 0, .ref g.2.1, .int 0])), (q_9, .inr (8, [.int 0, .int 0, .int 0, .null, .null, .null, .int 0, .int 0, .int 0, .int 0, .int 0]))] H := hP
      have hD : va_D A [(h0, .inr (15, [.ref a1, .ref a2, .ref a3, .ref a4, .ref a5, .int 0, .int 0, .int 110, .int 0, .int 0, .int 0])), (a2, .inr (3, [.int 0, .ref g.2.1, .int 0])), (a3, .inr (3, [.int 0, .ref g.2.1, .int 0])), (a4, .inr (3, [.int 0, .ref g.2.1, .int 0])), (a5, .inr (5, [.ref k0, .ref r0, .ref b1, .ref b2, .ref b3, .ref b4, .ref b5, .int 0])), (k0, .inr (7, [.ref b6, .ref b7, .ref b8, .ref b9, .ref b10, .int 0, .int 0])), (r0, .inr (3, [.int 0, .ref g.2.1, .int 0])), (a1, .inr (3, [.int 0, .ref g.2.1, .int 0])), (q_9, .inr (8, [.int 0, .int 0, .int 0, .null, .null, .null, .int 0, .int 0, .int 0, .int 0, .int 0]))] := hD
      refine W.widen (k := 4) (n := 29) (by decide) (by decide) ?_
      refine lv_dup hx hb dX11_addLand_30 rfl ?_
      refine lv_iload_n hx hb dX11_addLand_31 rfl (lv_at hl 1 rfl) ?_
      refine lv_iload_n hx hb dX11_addLand_32 rfl (lv_at hl 2 rfl) ?_
      refine lv_iload_n hx hb dX11_addLand_33 rfl (lv_at hl 3 rfl) ?_
      refine kcallI (wc := [(q_9, .inr (8, [.int 0, .int 0, .int 0, .null, .null, .null, .int 0, .int 0, .int 0, .int 0, .int 0]))]) (wr := [(h0, .inr (15, [.ref a1, .ref a2, .ref a3, .ref a4, .ref a5, .int 0, .int 0, .int 110, .int 0, .int 0, .int 0])), (a2, .inr (3, [.int 0, .ref g.2.1, .int 0])), (a3, .inr (3, [.int 0, .ref g.2.1, .int 0])), (a4, .inr (3, [.int 0, .ref g.2.1, .int 0])), (a5, .inr (5, [.ref k0, .ref r0, .ref b1, .ref b2, .ref b3, .ref b4, .ref b5, .int 0])), (k0, .inr (7, [.ref b6, .ref b7, .ref b8, .ref b9, .ref b10, .int 0, .int 0])), (r0, .inr (3, [.int 0, .ref g.2.1, .int 0])), (a1, .inr (3, [.int 0, .ref g.2.1, .int 0]))]) (As := [.int x0, .int x1, .int x2]) (rest := [.ref q_9, .ref a1]) K G (m_X4_init l hl0 g q_9 x0 x1 x2 ) hP hD hS hA hl kw_213 kw_214 kw_215 kw_212 rfl ydX4_init [8] [0, 1, 2, 3, 4, 5, 6, 7] rfl rfl rfl rfl (by decide) rfl rfl (Nat.le_of_ble_eq_true rfl) dX11_addLand_34 ⟨Nat.le_of_ble_eq_true rfl, Nat.le_of_ble_eq_true rfl⟩ ⟨Nat.le_of_ble_eq_true rfl, Nat.le_of_ble_eq_true rfl⟩ (fun _ _ _ _ _ _ hX _ _ _ _ _ _ => hX.elim) (fun v w1 H locs hQ hP hD hS => ?_)
      obtain ⟨q3_11, q4_12, q5_13, rfl, rfl⟩ := hQ
      have hP : va_P g.1 vwCl [(h0, .inr (15, [.ref a1, .ref a2, .ref a3, .ref a4, .ref a5, .int 0, .int 0, .int 110, .int 0, .int 0, .int 0])), (a2, .inr (3, [.int 0, .ref g.2.1, .int 0])), (a3, .inr (3, [.int 0, .ref g.2.1, .int 0])), (a4, .inr (3, [.int 0, .ref g.2.1, .int 0])), (a5, .inr (5, [.ref k0, .ref r0, .ref b1, .ref b2, .ref b3, .ref b4, .ref b5, .int 0])), (k0, .inr (7, [.ref b6, .ref b7, .ref b8, .ref b9, .ref b10, .int 0, .int 0])), (r0, .inr (3, [.int 0, .ref g.2.1, .int 0])), (a1, .inr (3, [.int 0, .ref g.2.1, .int 0])), (q_9, .inr (8, [.int x0, .int x1, .int x2, .ref q3_11, .ref q4_12, .ref q5_13, .int 0, .int 0, .int 0, .int 0, .int (-1)]))] H := hP
      have hD : va_D A [(h0, .inr (15, [.ref a1, .ref a2, .ref a3, .ref a4, .ref a5, .int 0, .int 0, .int 110, .int 0, .int 0, .int 0])), (a2, .inr (3, [.int 0, .ref g.2.1, .int 0])), (a3, .inr (3, [.int 0, .ref g.2.1, .int 0])), (a4, .inr (3, [.int 0, .ref g.2.1, .int 0])), (a5, .inr (5, [.ref k0, .ref r0, .ref b1, .ref b2, .ref b3, .ref b4, .ref b5, .int 0])), (k0, .inr (7, [.ref b6, .ref b7, .ref b8, .ref b9, .ref b10, .int 0, .int 0])), (r0, .inr (3, [.int 0, .ref g.2.1, .int 0])), (a1, .inr (3, [.int 0, .ref g.2.1, .int 0])), (q_9, .inr (8, [.int x0, .int x1, .int x2, .ref q3_11, .ref q4_12, .ref q5_13, .int 0, .int 0, .int 0, .int 0, .int (-1)]))] := hD
      refine W.widen (k := 7) (n := 53) (by decide) (by decide) ?_
      refine W.eq (g2 := F0 m 37 ls [.ref q_9, .ref a1]) rfl ?_
      refine kcallV (wc := [(a1, .inr (3, [.int 0, .ref g.2.1, .int 0])), (q_9, .inr (8, [.int x0, .int x1, .int x2, .ref q3_11, .ref q4_12, .ref q5_13, .int 0, .int 0, .int 0, .int 0, .int (-1)]))]) (wr := [(h0, .inr (15, [.ref a1, .ref a2, .ref a3, .ref a4, .ref a5, .int 0, .int 0, .int 110, .int 0, .int 0, .int 0])), (a2, .inr (3, [.int 0, .ref g.2.1, .int 0])), (a3, .inr (3, [.int 0, .ref g.2.1, .int 0])), (a4, .inr (3, [.int 0, .ref g.2.1, .int 0])), (a5, .inr (5, [.ref k0, .ref r0, .ref b1, .ref b2, .ref b3, .ref b4, .ref b5, .int 0])), (k0, .inr (7, [.ref b6, .ref b7, .ref b8, .ref b9, .ref b10, .int 0, .int 0])), (r0, .inr (3, [.int 0, .ref g.2.1, .int 0]))]) (As := [.ref q_9]) (rest := []) K G (m_Jx4a65c_add_9ea2d l hl0 g a1 q_9 8 ([.int x0, .int x1, .int x2, .ref q3_11, .ref q4_12, .ref q5_13, .int 0, .int 0, .int 0, .int 0, .int (-1)]) _ rfl kw_218) hP hD hS hA hl kw_216 kw_217 kw_219 kw_220 kw_30 ydJx4a65c_add_9ea2d [7, 8] [0, 1, 2, 3, 4, 5, 6] rfl rfl rfl rfl (by decide) (ci := 3) (q0 := 7) rfl rfl rfl rfl rfl (Nat.le_of_ble_eq_true rfl) dX11_addLand_37 ⟨Nat.le_of_ble_eq_true rfl, Nat.le_of_ble_eq_true rfl⟩ ⟨Nat.le_of_ble_eq_true rfl, Nat.le_of_ble_eq_true rfl⟩ (fun _ _ _ _ _ _ hX _ _ _ _ _ _ => hX.elim) (fun v w1 H locs hQ hP hD hS => ?_)
      obtain ⟨q0_15, rfl, rfl⟩ := hQ
      have hP : va_P g.1 vwCl [(h0, .inr (15, [.ref a1, .ref a2, .ref a3, .ref a4, .ref a5, .int 0, .int 0, .int 110, .int 0, .int 0, .int 0])), (a2, .inr (3, [.int 0, .ref g.2.1, .int 0])), (a3, .inr (3, [.int 0, .ref g.2.1, .int 0])), (a4, .inr (3, [.int 0, .ref g.2.1, .int 0])), (a5, .inr (5, [.ref k0, .ref r0, .ref b1, .ref b2, .ref b3, .ref b4, .ref b5, .int 0])), (k0, .inr (7, [.ref b6, .ref b7, .ref b8, .ref b9, .ref b10, .int 0, .int 0])), (r0, .inr (3, [.int 0, .ref g.2.1, .int 0])), (a1, .inr (3, [.int 1, .ref q0_15, .int 1]))] H := hP
      have hD : va_D A [(h0, .inr (15, [.ref a1, .ref a2, .ref a3, .ref a4, .ref a5, .int 0, .int 0, .int 110, .int 0, .int 0, .int 0])), (a2, .inr (3, [.int 0, .ref g.2.1, .int 0])), (a3, .inr (3, [.int 0, .ref g.2.1, .int 0])), (a4, .inr (3, [.int 0, .ref g.2.1, .int 0])), (a5, .inr (5, [.ref k0, .ref r0, .ref b1, .ref b2, .ref b3, .ref b4, .ref b5, .int 0])), (k0, .inr (7, [.ref b6, .ref b7, .ref b8, .ref b9, .ref b10, .int 0, .int 0])), (r0, .inr (3, [.int 0, .ref g.2.1, .int 0])), (a1, .inr (3, [.int 1, .ref q0_15, .int 1]))] := hD
      refine W.widen (k := 8) (n := 63) (by decide) (by decide) ?_
      refine W.eq (g2 := F0 m 40 ls [.int 1]) rfl ?_
      refine lv_pop hx hb dX11_addLand_40 rfl ?_
      refine lv_aload_n hx hb dX11_addLand_41 rfl (lv_at hl 0 rfl) ?_
      refine va_get (D := g.1) (ci := 15) (v := .ref a1) (C := RX11) (T := TX11) (N := 11) hx hb G.ws inX11 hown G.K hP 0 rfl rfl 0 (by decide) (G.w kw_43) (fun _ h9 => h9) rfl dX11_addLand_42 ?_
      refine kcallV (wc := [(a1, .inr (3, [.int 1, .ref q0_15, .int 1]))]) (wr := [(h0, .inr (15, [.ref a1, .ref a2, .ref a3, .ref a4, .ref a5, .int 0, .int 0, .int 110, .int 0, .int 0, .int 0])), (a2, .inr (3, [.int 0, .ref g.2.1, .int 0])), (a3, .inr (3, [.int 0, .ref g.2.1, .int 0])), (a4, .inr (3, [.int 0, .ref g.2.1, .int 0])), (a5, .inr (5, [.ref k0, .ref r0, .ref b1, .ref b2, .ref b3, .ref b4, .ref b5, .int 0])), (k0, .inr (7, [.ref b6, .ref b7, .ref b8, .ref b9, .ref b10, .int 0, .int 0])), (r0, .inr (3, [.int 0, .ref g.2.1, .int 0]))]) (As := []) (rest := []) K G (m_Jx4a65c_size_8abf5 l hl0 g a1 1 q0_15 1 ) hP hD hS hA hl kw_44 kw_45 kw_46 kw_47 kw_30 ydJx4a65c_size_8abf5 [7] [0, 1, 2, 3, 4, 5, 6] rfl rfl rfl rfl (by decide) (ci := 3) (q0 := 7) rfl rfl rfl rfl rfl (Nat.le_of_ble_eq_true rfl) dX11_addLand_45 ⟨Nat.le_of_ble_eq_true rfl, Nat.le_of_ble_eq_true rfl⟩ ⟨Nat.le_of_ble_eq_true rfl, Nat.le_of_ble_eq_true rfl⟩ (fun _ _ _ _ _ _ hX _ _ _ _ _ _ => hX.elim) (fun v w1 H locs hQ hP hD hS => ?_)
      obtain ⟨rfl, rfl⟩ := hQ
      have hP : va_P g.1 vwCl [(h0, .inr (15, [.ref a1, .ref a2, .ref a3, .ref a4, .ref a5, .int 0, .int 0, .int 110, .int 0, .int 0, .int 0])), (a2, .inr (3, [.int 0, .ref g.2.1, .int 0])), (a3, .inr (3, [.int 0, .ref g.2.1, .int 0])), (a4, .inr (3, [.int 0, .ref g.2.1, .int 0])), (a5, .inr (5, [.ref k0, .ref r0, .ref b1, .ref b2, .ref b3, .ref b4, .ref b5, .int 0])), (k0, .inr (7, [.ref b6, .ref b7, .ref b8, .ref b9, .ref b10, .int 0, .int 0])), (r0, .inr (3, [.int 0, .ref g.2.1, .int 0])), (a1, .inr (3, [.int 1, .ref q0_15, .int 1]))] H := hP
      have hD : va_D A [(h0, .inr (15, [.ref a1, .ref a2, .ref a3, .ref a4, .ref a5, .int 0, .int 0, .int 110, .int 0, .int 0, .int 0])), (a2, .inr (3, [.int 0, .ref g.2.1, .int 0])), (a3, .inr (3, [.int 0, .ref g.2.1, .int 0])), (a4, .inr (3, [.int 0, .ref g.2.1, .int 0])), (a5, .inr (5, [.ref k0, .ref r0, .ref b1, .ref b2, .ref b3, .ref b4, .ref b5, .int 0])), (k0, .inr (7, [.ref b6, .ref b7, .ref b8, .ref b9, .ref b10, .int 0, .int 0])), (r0, .inr (3, [.int 0, .ref g.2.1, .int 0])), (a1, .inr (3, [.int 1, .ref q0_15, .int 1]))] := hD
      refine W.widen (k := 8) (n := 63) (by decide) (by decide) ?_
      refine W.eq (g2 := F0 m 48 ls [.int 1]) rfl ?_
      refine lv_iconst (v := 1) hx hb dX11_addLand_48 (by decide) ?_
      refine lv_isub hx hb dX11_addLand_49 ?_
      refine lv_topi (fun y_17 ey_17 => ?_)
      obtain rfl : y_17 = 0 := ey_17.trans (by decide)
      exact kretI K hP hD hS [] [] rfl rfl (⟨rfl, rfl, (by simp [f_3, f_6])⟩) (by decide) (by decide) dX11_addLand_50
end
section
set_option maxHeartbeats 4000000 in
set_option maxRecDepth 100000 in
theorem m_X11_addShip (l : Launch) (hl0 : l.stackTraces = false) (g : kG) (h0 : Nat) (a1 : Nat) (a2 : Nat) (a3 : Nat) (a4 : Nat) (a5 : Nat) (k0 : Nat) (r0 : Nat) (b1 : Nat) (b2 : Nat) (b3 : Nat) (b4 : Nat) (b5 : Nat) (b6 : Nat) (b7 : Nat) (b8 : Nat) (b9 : Nat) (b10 : Nat) (x0 : Int32) (x1 : Int32)  : kc l g yX11_addShip prog_1_method_9_code 3 (some .int) 8 125 9 77 [.ref h0, .int x0, .int x1] [(h0, .inr (15, [.ref a1, .ref a2, .ref a3, .ref a4, .ref a5, .int 0, .int 0, .int 110, .int 0, .int 0, .int 0])), (a1, .inr (3, [.int 0, .ref g.2.1, .int 0])), (a2, .inr (3, [.int 0, .ref g.2.1, .int 0])), (a3, .inr (3, [.int 0, .ref g.2.1, .int 0])), (a4, .inr (3, [.int 0, .ref g.2.1, .int 0])), (a5, .inr (5, [.ref k0, .ref r0, .ref b1, .ref b2, .ref b3, .ref b4, .ref b5, .int 0])), (k0, .inr (7, [.ref b6, .ref b7, .ref b8, .ref b9, .ref b10, .int 0, .int 0])), (r0, .inr (3, [.int 0, .ref g.2.1, .int 0]))] (fun v w => (v = some (.int 0) ∧ w = [] ∧ (inR x0 (-999) 999 && inR x1 (-999) 999) = true)) (fun E w => (E = "java/lang/IllegalArgumentException" ∧ w = [] ∧ (inR x0 (-999) 999 && inR x1 (-999) 999) = false)) := by
  refine kbody (by decide) (Nat.le_of_ble_eq_true rfl) ?_
  intro p e s m args below meth c A H K ht G hP hD hA hS ls hl
  have K : KB p s m meth c RX11 "addShip" prog_1_method_9_code 3 (some .int) := K
  obtain ⟨hx, hb, hml, hown, hlocks, hr, hin⟩ := id K
  have hl : lv_has ls 3 [(0, .ref h0), (1, .int x0), (2, .int x1)] := hl
  refine lv_iload_n hx hb dX11_addShip_0 rfl (lv_at hl 1 rfl) ?_
  refine lv_iload_n hx hb dX11_addShip_1 rfl (lv_at hl 2 rfl) ?_
  refine kcallS (wc := []) (wr := [(h0, .inr (15, [.ref a1, .ref a2, .ref a3, .ref a4, .ref a5, .int 0, .int 0, .int 110, .int 0, .int 0, .int 0])), (a1, .inr (3, [.int 0, .ref g.2.1, .int 0])), (a2, .inr (3, [.int 0, .ref g.2.1, .int 0])), (a3, .inr (3, [.int 0, .ref g.2.1, .int 0])), (a4, .inr (3, [.int 0, .ref g.2.1, .int 0])), (a5, .inr (5, [.ref k0, .ref r0, .ref b1, .ref b2, .ref b3, .ref b4, .ref b5, .int 0])), (k0, .inr (7, [.ref b6, .ref b7, .ref b8, .ref b9, .ref b10, .int 0, .int 0])), (r0, .inr (3, [.int 0, .ref g.2.1, .int 0]))]) (As := [.int x0, .int x1]) (rest := []) K G (m_X11_requirePlace l hl0 g x0 x1 ) hP hD hS hA hl kw_204 kw_205 kw_206 kw_4 ydX11_requirePlace [] [0, 1, 2, 3, 4, 5, 6, 7] rfl rfl rfl rfl (by decide) rfl rfl (Nat.le_of_ble_eq_true rfl) dX11_addShip_2 ⟨Nat.le_of_ble_eq_true rfl, Nat.le_of_ble_eq_true rfl⟩ ⟨Nat.le_of_ble_eq_true rfl, Nat.le_of_ble_eq_true rfl⟩ (fun E w1 ce q9 H locs hX hP hD hS hce hcv hcl => ?_) (fun v w1 H locs hQ hP hD hS => ?_)
  · obtain ⟨rfl, rfl, f_2⟩ := hX
    have hP : va_P g.1 vwCl [(h0, .inr (15, [.ref a1, .ref a2, .ref a3, .ref a4, .ref a5, .int 0, .int 0, .int 110, .int 0, .int 0, .int 0])), (a1, .inr (3, [.int 0, .ref g.2.1, .int 0])), (a2, .inr (3, [.int 0, .ref g.2.1, .int 0])), (a3, .inr (3, [.int 0, .ref g.2.1, .int 0])), (a4, .inr (3, [.int 0, .ref g.2.1, .int 0])), (a5, .inr (5, [.ref k0, .ref r0, .ref b1, .ref b2, .ref b3, .ref b4, .ref b5, .int 0])), (k0, .inr (7, [.ref b6, .ref b7, .ref b8, .ref b9, .ref b10, .int 0, .int 0])), (r0, .inr (3, [.int 0, .ref g.2.1, .int 0]))] H := hP
    have hD : va_D A [(h0, .inr (15, [.ref a1, .ref a2, .ref a3, .ref a4, .ref a5, .int 0, .int 0, .int 110, .int 0, .int 0, .int 0])), (a1, .inr (3, [.int 0, .ref g.2.1, .int 0])), (a2, .inr (3, [.int 0, .ref g.2.1, .int 0])), (a3, .inr (3, [.int 0, .ref g.2.1, .int 0])), (a4, .inr (3, [.int 0, .ref g.2.1, .int 0])), (a5, .inr (5, [.ref k0, .ref r0, .ref b1, .ref b2, .ref b3, .ref b4, .ref b5, .int 0])), (k0, .inr (7, [.ref b6, .ref b7, .ref b8, .ref b9, .ref b10, .int 0, .int 0])), (r0, .inr (3, [.int 0, .ref g.2.1, .int 0]))] := hD
    refine vx_widen (k := 2) (n := 12) (by decide) (by decide) ?_
    exact kthrow K ht hP hD hS hce hcv hcl [] [] rfl rfl (⟨rfl, rfl, (by simp [f_2])⟩) (by decide) (by decide)
  · obtain ⟨rfl, rfl, f_3⟩ := hQ
    have hP : va_P g.1 vwCl [(h0, .inr (15, [.ref a1, .ref a2, .ref a3, .ref a4, .ref a5, .int 0, .int 0, .int 110, .int 0, .int 0, .int 0])), (a1, .inr (3, [.int 0, .ref g.2.1, .int 0])), (a2, .inr (3, [.int 0, .ref g.2.1, .int 0])), (a3, .inr (3, [.int 0, .ref g.2.1, .int 0])), (a4, .inr (3, [.int 0, .ref g.2.1, .int 0])), (a5, .inr (5, [.ref k0, .ref r0, .ref b1, .ref b2, .ref b3, .ref b4, .ref b5, .int 0])), (k0, .inr (7, [.ref b6, .ref b7, .ref b8, .ref b9, .ref b10, .int 0, .int 0])), (r0, .inr (3, [.int 0, .ref g.2.1, .int 0]))] H := hP
    have hD : va_D A [(h0, .inr (15, [.ref a1, .ref a2, .ref a3, .ref a4, .ref a5, .int 0, .int 0, .int 110, .int 0, .int 0, .int 0])), (a1, .inr (3, [.int 0, .ref g.2.1, .int 0])), (a2, .inr (3, [.int 0, .ref g.2.1, .int 0])), (a3, .inr (3, [.int 0, .ref g.2.1, .int 0])), (a4, .inr (3, [.int 0, .ref g.2.1, .int 0])), (a5, .inr (5, [.ref k0, .ref r0, .ref b1, .ref b2, .ref b3, .ref b4, .ref b5, .int 0])), (k0, .inr (7, [.ref b6, .ref b7, .ref b8, .ref b9, .ref b10, .int 0, .int 0])), (r0, .inr (3, [.int 0, .ref g.2.1, .int 0]))] := hD
    refine W.widen (k := 2) (n := 12) (by decide) (by decide) ?_
    refine W.eq (g2 := F0 m 5 ls []) rfl ?_
    refine lv_aload_n hx hb dX11_addShip_5 rfl (lv_at hl 0 rfl) ?_
    refine va_get (D := g.1) (ci := 15) (v := .ref a3) (C := RX11) (T := TX11) (N := 11) hx hb G.ws inX11 hown G.K hP 0 rfl rfl 2 (by decide) (G.w kw_52) (fun _ h9 => h9) rfl dX11_addShip_6 ?_
    refine kcallV (wc := [(a3, .inr (3, [.int 0, .ref g.2.1, .int 0]))]) (wr := [(h0, .inr (15, [.ref a1, .ref a2, .ref a3, .ref a4, .ref a5, .int 0, .int 0, .int 110, .int 0, .int 0, .int 0])), (a1, .inr (3, [.int 0, .ref g.2.1, .int 0])), (a2, .inr (3, [.int 0, .ref g.2.1, .int 0])), (a4, .inr (3, [.int 0, .ref g.2.1, .int 0])), (a5, .inr (5, [.ref k0, .ref r0, .ref b1, .ref b2, .ref b3, .ref b4, .ref b5, .int 0])), (k0, .inr (7, [.ref b6, .ref b7, .ref b8, .ref b9, .ref b10, .int 0, .int 0])), (r0, .inr (3, [.int 0, .ref g.2.1, .int 0]))]) (As := []) (rest := []) K G (m_Jx4a65c_size_8abf5 l hl0 g a3 0 g.2.1 0 ) hP hD hS hA hl kw_44 kw_45 kw_46 kw_47 kw_30 ydJx4a65c_size_8abf5 [3] [0, 1, 2, 4, 5, 6, 7] rfl rfl rfl rfl (by decide) (ci := 3) (q0 := 3) rfl rfl rfl rfl rfl (Nat.le_of_ble_eq_true rfl) dX11_addShip_9 ⟨Nat.le_of_ble_eq_true rfl, Nat.le_of_ble_eq_true rfl⟩ ⟨Nat.le_of_ble_eq_true rfl, Nat.le_of_ble_eq_true rfl⟩ (fun _ _ _ _ _ _ hX _ _ _ _ _ _ => hX.elim) (fun v w1 H locs hQ hP hD hS => ?_)
    obtain ⟨rfl, rfl⟩ := hQ
    have hP : va_P g.1 vwCl [(h0, .inr (15, [.ref a1, .ref a2, .ref a3, .ref a4, .ref a5, .int 0, .int 0, .int 110, .int 0, .int 0, .int 0])), (a1, .inr (3, [.int 0, .ref g.2.1, .int 0])), (a2, .inr (3, [.int 0, .ref g.2.1, .int 0])), (a4, .inr (3, [.int 0, .ref g.2.1, .int 0])), (a5, .inr (5, [.ref k0, .ref r0, .ref b1, .ref b2, .ref b3, .ref b4, .ref b5, .int 0])), (k0, .inr (7, [.ref b6, .ref b7, .ref b8, .ref b9, .ref b10, .int 0, .int 0])), (r0, .inr (3, [.int 0, .ref g.2.1, .int 0])), (a3, .inr (3, [.int 0, .ref g.2.1, .int 0]))] H := hP
    have hD : va_D A [(h0, .inr (15, [.ref a1, .ref a2, .ref a3, .ref a4, .ref a5, .int 0, .int 0, .int 110, .int 0, .int 0, .int 0])), (a1, .inr (3, [.int 0, .ref g.2.1, .int 0])), (a2, .inr (3, [.int 0, .ref g.2.1, .int 0])), (a4, .inr (3, [.int 0, .ref g.2.1, .int 0])), (a5, .inr (5, [.ref k0, .ref r0, .ref b1, .ref b2, .ref b3, .ref b4, .ref b5, .int 0])), (k0, .inr (7, [.ref b6, .ref b7, .ref b8, .ref b9, .ref b10, .int 0, .int 0])), (r0, .inr (3, [.int 0, .ref g.2.1, .int 0])), (a3, .inr (3, [.int 0, .ref g.2.1, .int 0]))] := hD
    refine W.widen (k := 2) (n := 12) (by decide) (by decide) ?_
    refine W.eq (g2 := F0 m 12 ls [.int 0]) rfl ?_
    refine lv_iconst (v := 4) hx hb dX11_addShip_12 (by decide) ?_
    refine kcallS (wc := []) (wr := [(h0, .inr (15, [.ref a1, .ref a2, .ref a3, .ref a4, .ref a5, .int 0, .int 0, .int 110, .int 0, .int 0, .int 0])), (a1, .inr (3, [.int 0, .ref g.2.1, .int 0])), (a2, .inr (3, [.int 0, .ref g.2.1, .int 0])), (a4, .inr (3, [.int 0, .ref g.2.1, .int 0])), (a5, .inr (5, [.ref k0, .ref r0, .ref b1, .ref b2, .ref b3, .ref b4, .ref b5, .int 0])), (k0, .inr (7, [.ref b6, .ref b7, .ref b8, .ref b9, .ref b10, .int 0, .int 0])), (r0, .inr (3, [.int 0, .ref g.2.1, .int 0])), (a3, .inr (3, [.int 0, .ref g.2.1, .int 0]))]) (As := [.int 0, .int 4]) (rest := []) K G (m_X11_requireRoom l hl0 g 0 4 (by first | assumption | decide)) hP hD hS hA hl kw_207 kw_208 kw_209 kw_4 ydX11_requireRoom [] [0, 1, 2, 3, 4, 5, 6, 7] rfl rfl rfl rfl (by decide) rfl rfl (Nat.le_of_ble_eq_true rfl) dX11_addShip_13 ⟨Nat.le_of_ble_eq_true rfl, Nat.le_of_ble_eq_true rfl⟩ ⟨Nat.le_of_ble_eq_true rfl, Nat.le_of_ble_eq_true rfl⟩ (fun _ _ _ _ _ _ hX _ _ _ _ _ _ => hX.elim) (fun v w1 H locs hQ hP hD hS => ?_)
    obtain ⟨rfl, rfl⟩ := hQ
    have hP : va_P g.1 vwCl [(h0, .inr (15, [.ref a1, .ref a2, .ref a3, .ref a4, .ref a5, .int 0, .int 0, .int 110, .int 0, .int 0, .int 0])), (a1, .inr (3, [.int 0, .ref g.2.1, .int 0])), (a2, .inr (3, [.int 0, .ref g.2.1, .int 0])), (a4, .inr (3, [.int 0, .ref g.2.1, .int 0])), (a5, .inr (5, [.ref k0, .ref r0, .ref b1, .ref b2, .ref b3, .ref b4, .ref b5, .int 0])), (k0, .inr (7, [.ref b6, .ref b7, .ref b8, .ref b9, .ref b10, .int 0, .int 0])), (r0, .inr (3, [.int 0, .ref g.2.1, .int 0])), (a3, .inr (3, [.int 0, .ref g.2.1, .int 0]))] H := hP
    have hD : va_D A [(h0, .inr (15, [.ref a1, .ref a2, .ref a3, .ref a4, .ref a5, .int 0, .int 0, .int 110, .int 0, .int 0, .int 0])), (a1, .inr (3, [.int 0, .ref g.2.1, .int 0])), (a2, .inr (3, [.int 0, .ref g.2.1, .int 0])), (a4, .inr (3, [.int 0, .ref g.2.1, .int 0])), (a5, .inr (5, [.ref k0, .ref r0, .ref b1, .ref b2, .ref b3, .ref b4, .ref b5, .int 0])), (k0, .inr (7, [.ref b6, .ref b7, .ref b8, .ref b9, .ref b10, .int 0, .int 0])), (r0, .inr (3, [.int 0, .ref g.2.1, .int 0])), (a3, .inr (3, [.int 0, .ref g.2.1, .int 0]))] := hD
    refine W.widen (k := 2) (n := 12) (by decide) (by decide) ?_
    refine W.eq (g2 := F0 m 16 ls []) rfl ?_
    refine lv_aload_n hx hb dX11_addShip_16 rfl (lv_at hl 0 rfl) ?_
    refine va_get (D := g.1) (ci := 15) (v := .ref a3) (C := RX11) (T := TX11) (N := 11) hx hb G.ws inX11 hown G.K hP 0 rfl rfl 2 (by decide) (G.w kw_52) (fun _ h9 => h9) rfl dX11_addShip_17 ?_
    refine va_new (D := g.1) (ci := 12) (fs := [.null, .null, .null, .null, .int 0, .int 0, .int 0, .int 0, .int 0, .int 0, .int 0, .int 0, .int 0, .int 0, .int 0, .int 0, .int 0]) (C := RX8) (T := TX8) (N := 17) hx hb G.ws inX8 tyX8 tyX8_ok hown (G.w kw_221) (G.w kw_222) (G.w kw_223) G.K hP hD hS hA rfl (fun j hj => by rcases (show j = 0 ∨ j = 1 ∨ j = 2 ∨ j = 3 ∨ j = 4 ∨ j = 5 ∨ j = 6 ∨ j = 7 ∨ j = 8 ∨ j = 9 ∨ j = 10 ∨ j = 11 ∨ j = 12 ∨ j = 13 ∨ j = 14 ∨ j = 15 ∨ j = 16 by omega) with rfl | rfl | rfl | rfl | rfl | rfl | rfl | rfl | rfl | rfl | rfl | rfl | rfl | rfl | rfl | rfl | rfl <;> rfl) (by decide) (by decide) dX11_addShip_20 (fun q_6 H hP hD hS => ?_)
    have hP : va_P g.1 vwCl [(h0, .inr (15, [.ref a1, .ref a2, .ref a3, .ref a4, .ref a5, .int 0, .int 0, .int 110, .int 0, .int 0, .int 0])), (a1, .inr (3, [.int 0, .ref g.2.1, .int 0])), (a2, .inr (3, [.int 0, .ref g.2.1, .int 0])), (a4, .inr (3, [.int 0, .ref g.2.1, .int 0])), (a5, .inr (5, [.ref k0, .ref r0, .ref b1, .ref b2, .ref b3, .ref b4, .ref b5, .int 0])), (k0, .inr (7, [.ref b6, .ref b7, .ref b8, .ref b9, .ref b10, .int 0, .int 0])), (r0, .inr (3, [.int 0, .ref g.2.1, .int 0])), (a3, .inr (3, [.int 0, .ref g.2.1, .int 0])), (q_6, .inr (12, [.null, .null, .null, .null, .int 0, .int 0, .int 0, .int 0, .int 0, .int 0, .int 0, .int 0, .int 0, .int 0, .int 0, .int 0, .int 0]))] H := hP
    have hD : va_D A [(h0, .inr (15, [.ref a1, .ref a2, .ref a3, .ref a4, .ref a5, .int 0, .int 0, .int 110, .int 0, .int 0, .int 0])), (a1, .inr (3, [.int 0, .ref g.2.1, .int 0])), (a2, .inr (3, [.int 0, .ref g.2.1, .int 0])), (a4, .inr (3, [.int 0, .ref g.2.1, .int 0])), (a5, .inr (5, [.ref k0, .ref r0, .ref b1, .ref b2, .ref b3, .ref b4, .ref b5, .int 0])), (k0, .inr (7, [.ref b6, .ref b7, .ref b8, .ref b9, .ref b10, .int 0, .int 0])), (r0, .inr (3, [.int 0, .ref g.2.1, .int 0])), (a3, .inr (3, [.int 0, .ref g.2.1, .int 0])), (q_6, .inr (12, [.null, .null, .null, .null, .int 0, .int 0, .int 0, .int 0, .int 0, .int 0, .int 0, .int 0, .int 0, .int 0, .int 0, .int 0, .int 0]))] := hD
    refine W.widen (k := 3) (n := 29) (by decide) (by decide) ?_
    refine lv_dup hx hb dX11_addShip_23 rfl ?_
    refine lv_iload_n hx hb dX11_addShip_24 rfl (lv_at hl 1 rfl) ?_
    refine lv_iload_n hx hb dX11_addShip_25 rfl (lv_at hl 2 rfl) ?_
    refine kcallI (wc := [(q_6, .inr (12, [.null, .null, .null, .null, .int 0, .int 0, .int 0, .int 0, .int 0, .int 0, .int 0, .int 0, .int 0, .int 0, .int 0, .int 0, .int 0]))]) (wr := [(h0, .inr (15, [.ref a1, .ref a2, .ref a3, .ref a4, .ref a5, .int 0, .int 0, .int 110, .int 0, .int 0, .int 0])), (a1, .inr (3, [.int 0, .ref g.2.1, .int 0])), (a2, .inr (3, [.int 0, .ref g.2.1, .int 0])), (a4, .inr (3, [.int 0, .ref g.2.1, .int 0])), (a5, .inr (5, [.ref k0, .ref r0, .ref b1, .ref b2, .ref b3, .ref b4, .ref b5, .int 0])), (k0, .inr (7, [.ref b6, .ref b7, .ref b8, .ref b9, .ref b10, .int 0, .int 0])), (r0, .inr (3, [.int 0, .ref g.2.1, .int 0])), (a3, .inr (3, [.int 0, .ref g.2.1, .int 0]))]) (As := [.int x0, .int x1]) (rest := [.ref q_6, .ref a3]) K G (m_X8_init l hl0 g q_6 x0 x1 ) hP hD hS hA hl kw_224 kw_225 kw_226 kw_223 rfl ydX8_init [8] [0, 1, 2, 3, 4, 5, 6, 7] rfl rfl rfl rfl (by decide) rfl rfl (Nat.le_of_ble_eq_true rfl) dX11_addShip_26 ⟨Nat.le_of_ble_eq_true rfl, Nat.le_of_ble_eq_true rfl⟩ ⟨Nat.le_of_ble_eq_true rfl, Nat.le_of_ble_eq_true rfl⟩ (fun _ _ _ _ _ _ hX _ _ _ _ _ _ => hX.elim) (fun v w1 H locs hQ hP hD hS => ?_)
    obtain ⟨q0_8, q1_9, q2_10, q3_11, rfl, rfl⟩ := hQ
    have hP : va_P g.1 vwCl [(h0, .inr (15, [.ref a1, .ref a2, .ref a3, .ref a4, .ref a5, .int 0, .int 0, .int 110, .int 0, .int 0, .int 0])), (a1, .inr (3, [.int 0, .ref g.2.1, .int 0])), (a2, .inr (3, [.int 0, .ref g.2.1, .int 0])), (a4, .inr (3, [.int 0, .ref g.2.1, .int 0])), (a5, .inr (5, [.ref k0, .ref r0, .ref b1, .ref b2, .ref b3, .ref b4, .ref b5, .int 0])), (k0, .inr (7, [.ref b6, .ref b7, .ref b8, .ref b9, .ref b10, .int 0, .int 0])), (r0, .inr (3, [.int 0, .ref g.2.1, .int 0])), (a3, .inr (3, [.int 0, .ref g.2.1, .int 0])), (q_6, .inr (12, [.ref q0_8, .ref q1_9, .ref q2_10, .ref q3_11, .int x0, .int x1, .int 0, .int 0, .int 0, .int 0, .int (-1), .int 0, .int 0, .int 0, .int (-1), .int 0, .int 0]))] H := hP
    have hD : va_D A [(h0, .inr (15, [.ref a1, .ref a2, .ref a3, .ref a4, .ref a5, .int 0, .int 0, .int 110, .int 0, .int 0, .int 0])), (a1, .inr (3, [.int 0, .ref g.2.1, .int 0])), (a2, .inr (3, [.int 0, .ref g.2.1, .int 0])), (a4, .inr (3, [.int 0, .ref g.2.1, .int 0])), (a5, .inr (5, [.ref k0, .ref r0, .ref b1, .ref b2, .ref b3, .ref b4, .ref b5, .int 0])), (k0, .inr (7, [.ref b6, .ref b7, .ref b8, .ref b9, .ref b10, .int 0, .int 0])), (r0, .inr (3, [.int 0, .ref g.2.1, .int 0])), (a3, .inr (3, [.int 0, .ref g.2.1, .int 0])), (q_6, .inr (12, [.ref q0_8, .ref q1_9, .ref q2_10, .ref q3_11, .int x0, .int x1, .int 0, .int 0, .int 0, .int 0, .int (-1), .int 0, .int 0, .int 0, .int (-1), .int 0, .int 0]))] := hD
    refine W.widen (k := 8) (n := 67) (by decide) (by decide) ?_
    refine W.eq (g2 := F0 m 29 ls [.ref q_6, .ref a3]) rfl ?_
    refine kcallV (wc := [(a3, .inr (3, [.int 0, .ref g.2.1, .int 0])), (q_6, .inr (12, [.ref q0_8, .ref q1_9, .ref q2_10, .ref q3_11, .int x0, .int x1, .int 0, .int 0, .int 0, .int 0, .int (-1), .int 0, .int 0, .int 0, .int (-1), .int 0, .int 0]))]) (wr := [(h0, .inr (15, [.ref a1, .ref a2, .ref a3, .ref a4, .ref a5, .int 0, .int 0, .int 110, .int 0, .int 0, .int 0])), (a1, .inr (3, [.int 0, .ref g.2.1, .int 0])), (a2, .inr (3, [.int 0, .ref g.2.1, .int 0])), (a4, .inr (3, [.int 0, .ref g.2.1, .int 0])), (a5, .inr (5, [.ref k0, .ref r0, .ref b1, .ref b2, .ref b3, .ref b4, .ref b5, .int 0])), (k0, .inr (7, [.ref b6, .ref b7, .ref b8, .ref b9, .ref b10, .int 0, .int 0])), (r0, .inr (3, [.int 0, .ref g.2.1, .int 0]))]) (As := [.ref q_6]) (rest := []) K G (m_Jx4a65c_add_9ea2d l hl0 g a3 q_6 12 ([.ref q0_8, .ref q1_9, .ref q2_10, .ref q3_11, .int x0, .int x1, .int 0, .int 0, .int 0, .int 0, .int (-1), .int 0, .int 0, .int 0, .int (-1), .int 0, .int 0]) _ rfl kw_227) hP hD hS hA hl kw_216 kw_217 kw_219 kw_220 kw_30 ydJx4a65c_add_9ea2d [7, 8] [0, 1, 2, 3, 4, 5, 6] rfl rfl rfl rfl (by decide) (ci := 3) (q0 := 7) rfl rfl rfl rfl rfl (Nat.le_of_ble_eq_true rfl) dX11_addShip_29 ⟨Nat.le_of_ble_eq_true rfl, Nat.le_of_ble_eq_true rfl⟩ ⟨Nat.le_of_ble_eq_true rfl, Nat.le_of_ble_eq_true rfl⟩ (fun _ _ _ _ _ _ hX _ _ _ _ _ _ => hX.elim) (fun v w1 H locs hQ hP hD hS => ?_)
    obtain ⟨q0_13, rfl, rfl⟩ := hQ
    have hP : va_P g.1 vwCl [(h0, .inr (15, [.ref a1, .ref a2, .ref a3, .ref a4, .ref a5, .int 0, .int 0, .int 110, .int 0, .int 0, .int 0])), (a1, .inr (3, [.int 0, .ref g.2.1, .int 0])), (a2, .inr (3, [.int 0, .ref g.2.1, .int 0])), (a4, .inr (3, [.int 0, .ref g.2.1, .int 0])), (a5, .inr (5, [.ref k0, .ref r0, .ref b1, .ref b2, .ref b3, .ref b4, .ref b5, .int 0])), (k0, .inr (7, [.ref b6, .ref b7, .ref b8, .ref b9, .ref b10, .int 0, .int 0])), (r0, .inr (3, [.int 0, .ref g.2.1, .int 0])), (a3, .inr (3, [.int 1, .ref q0_13, .int 1]))] H := hP
    have hD : va_D A [(h0, .inr (15, [.ref a1, .ref a2, .ref a3, .ref a4, .ref a5, .int 0, .int 0, .int 110, .int 0, .int 0, .int 0])), (a1, .inr (3, [.int 0, .ref g.2.1, .int 0])), (a2, .inr (3, [.int 0, .ref g.2.1, .int 0])), (a4, .inr (3, [.int 0, .ref g.2.1, .int 0])), (a5, .inr (5, [.ref k0, .ref r0, .ref b1, .ref b2, .ref b3, .ref b4, .ref b5, .int 0])), (k0, .inr (7, [.ref b6, .ref b7, .ref b8, .ref b9, .ref b10, .int 0, .int 0])), (r0, .inr (3, [.int 0, .ref g.2.1, .int 0])), (a3, .inr (3, [.int 1, .ref q0_13, .int 1]))] := hD
    refine W.widen (k := 9) (n := 77) (by decide) (by decide) ?_
    refine W.eq (g2 := F0 m 32 ls [.int 1]) rfl ?_
    refine lv_pop hx hb dX11_addShip_32 rfl ?_
    refine lv_aload_n hx hb dX11_addShip_33 rfl (lv_at hl 0 rfl) ?_
    refine va_get (D := g.1) (ci := 15) (v := .ref a3) (C := RX11) (T := TX11) (N := 11) hx hb G.ws inX11 hown G.K hP 0 rfl rfl 2 (by decide) (G.w kw_52) (fun _ h9 => h9) rfl dX11_addShip_34 ?_
    refine kcallV (wc := [(a3, .inr (3, [.int 1, .ref q0_13, .int 1]))]) (wr := [(h0, .inr (15, [.ref a1, .ref a2, .ref a3, .ref a4, .ref a5, .int 0, .int 0, .int 110, .int 0, .int 0, .int 0])), (a1, .inr (3, [.int 0, .ref g.2.1, .int 0])), (a2, .inr (3, [.int 0, .ref g.2.1, .int 0])), (a4, .inr (3, [.int 0, .ref g.2.1, .int 0])), (a5, .inr (5, [.ref k0, .ref r0, .ref b1, .ref b2, .ref b3, .ref b4, .ref b5, .int 0])), (k0, .inr (7, [.ref b6, .ref b7, .ref b8, .ref b9, .ref b10, .int 0, .int 0])), (r0, .inr (3, [.int 0, .ref g.2.1, .int 0]))]) (As := []) (rest := []) K G (m_Jx4a65c_size_8abf5 l hl0 g a3 1 q0_13 1 ) hP hD hS hA hl kw_44 kw_45 kw_46 kw_47 kw_30 ydJx4a65c_size_8abf5 [7] [0, 1, 2, 3, 4, 5, 6] rfl rfl rfl rfl (by decide) (ci := 3) (q0 := 7) rfl rfl rfl rfl rfl (Nat.le_of_ble_eq_true rfl) dX11_addShip_37 ⟨Nat.le_of_ble_eq_true rfl, Nat.le_of_ble_eq_true rfl⟩ ⟨Nat.le_of_ble_eq_true rfl, Nat.le_of_ble_eq_true rfl⟩ (fun _ _ _ _ _ _ hX _ _ _ _ _ _ => hX.elim) (fun v w1 H locs hQ hP hD hS => ?_)
    obtain ⟨rfl, rfl⟩ := hQ
    have hP : va_P g.1 vwCl [(h0, .inr (15, [.ref a1, .ref a2, .ref a3, .ref a4, .ref a5, .int 0, .int 0, .int 110, .int 0, .int 0, .int 0])), (a1, .inr (3, [.int 0, .ref g.2.1, .int 0])), (a2, .inr (3, [.int 0, .ref g.2.1, .int 0])), (a4, .inr (3, [.int 0, .ref g.2.1, .int 0])), (a5, .inr (5, [.ref k0, .ref r0, .ref b1, .ref b2, .ref b3, .ref b4, .ref b5, .int 0])), (k0, .inr (7, [.ref b6, .ref b7, .ref b8, .ref b9, .ref b10, .int 0, .int 0])), (r0, .inr (3, [.int 0, .ref g.2.1, .int 0])), (a3, .inr (3, [.int 1, .ref q0_13, .int 1]))] H := hP
    have hD : va_D A [(h0, .inr (15, [.ref a1, .ref a2, .ref a3, .ref a4, .ref a5, .int 0, .int 0, .int 110, .int 0, .int 0, .int 0])), (a1, .inr (3, [.int 0, .ref g.2.1, .int 0])), (a2, .inr (3, [.int 0, .ref g.2.1, .int 0])), (a4, .inr (3, [.int 0, .ref g.2.1, .int 0])), (a5, .inr (5, [.ref k0, .ref r0, .ref b1, .ref b2, .ref b3, .ref b4, .ref b5, .int 0])), (k0, .inr (7, [.ref b6, .ref b7, .ref b8, .ref b9, .ref b10, .int 0, .int 0])), (r0, .inr (3, [.int 0, .ref g.2.1, .int 0])), (a3, .inr (3, [.int 1, .ref q0_13, .int 1]))] := hD
    refine W.widen (k := 9) (n := 77) (by decide) (by decide) ?_
    refine W.eq (g2 := F0 m 40 ls [.int 1]) rfl ?_
    refine lv_iconst (v := 1) hx hb dX11_addShip_40 (by decide) ?_
    refine lv_isub hx hb dX11_addShip_41 ?_
    refine lv_topi (fun y_15 ey_15 => ?_)
    obtain rfl : y_15 = 0 := ey_15.trans (by decide)
    exact kretI K hP hD hS [] [] rfl rfl (⟨rfl, rfl, (by simp [f_3])⟩) (by decide) (by decide) dX11_addShip_42

set_option maxHeartbeats 4000000 in
set_option maxRecDepth 100000 in
theorem m_X11_isPerson (l : Launch) (hl0 : l.stackTraces = false) (g : kG) (h0 : Nat) (a1 : Nat) (a2 : Nat) (a3 : Nat) (a4 : Nat) (a5 : Nat) (tt : Int32) (wf : Int32) (ww : Int32) (te : Int32) (tn : Int32) (mo : Int32) (x : Int32)  : kc l g yX11_isPerson prog_1_method_62_code 2 (some .boolean) 1 20 0 0 [.ref h0, .int x] [(h0, .inr (15, [.ref a1, .ref a2, .ref a3, .ref a4, .ref a5, .int tt, .int wf, .int ww, .int te, .int tn, .int mo])), (a4, .inr (3, [.int 0, .ref g.2.1, .int 0]))] (fun v w => (v = some (.int 0) ∧ w = [(h0, .inr (15, [.ref a1, .ref a2, .ref a3, .ref a4, .ref a5, .int tt, .int wf, .int ww, .int te, .int tn, .int mo])), (a4, .inr (3, [.int 0, .ref g.2.1, .int 0]))])) (fun _ _ => False) := by
  refine kbody (by decide) (Nat.le_of_ble_eq_true rfl) ?_
  intro p e s m args below meth c A H K ht G hP hD hA hS ls hl
  have K : KB p s m meth c RX11 "isPerson" prog_1_method_62_code 2 (some .boolean) := K
  obtain ⟨hx, hb, hml, hown, hlocks, hr, hin⟩ := id K
  have hl : lv_has ls 2 [(0, .ref h0), (1, .int x)] := hl
  refine lv_iload_n hx hb dX11_isPerson_0 rfl (lv_at hl 1 rfl) ?_
  refine lv_if_lt (tgt := 19) hx hb dX11_isPerson_1 (by decide) (fun c1_1 => ?_) (fun c1_1 => ?_)
  · refine lv_iconst (v := 0) hx hb dX11_isPerson_19 (by decide) ?_
    exact kretZ K hP hD hS [0, 1] [(h0, .inr (15, [.ref a1, .ref a2, .ref a3, .ref a4, .ref a5, .int tt, .int wf, .int ww, .int te, .int tn, .int mo])), (a4, .inr (3, [.int 0, .ref g.2.1, .int 0]))] rfl rfl (⟨rfl, rfl⟩) (by decide) (by decide) dX11_isPerson_20
  · refine lv_iload_n hx hb dX11_isPerson_4 rfl (lv_at hl 1 rfl) ?_
    refine lv_aload_n hx hb dX11_isPerson_5 rfl (lv_at hl 0 rfl) ?_
    refine va_get (D := g.1) (ci := 15) (v := .ref a4) (C := RX11) (T := TX11) (N := 11) hx hb G.ws inX11 hown G.K hP 0 rfl rfl 3 (by decide) (G.w kw_53) (fun _ h9 => h9) rfl dX11_isPerson_6 ?_
    refine kcallV (wc := [(a4, .inr (3, [.int 0, .ref g.2.1, .int 0]))]) (wr := [(h0, .inr (15, [.ref a1, .ref a2, .ref a3, .ref a4, .ref a5, .int tt, .int wf, .int ww, .int te, .int tn, .int mo]))]) (As := []) (rest := [.int x]) K G (m_Jx4a65c_size_8abf5 l hl0 g a4 0 g.2.1 0 ) hP hD hS hA hl kw_44 kw_45 kw_46 kw_47 kw_30 ydJx4a65c_size_8abf5 [1] [0] rfl rfl rfl rfl (by decide) (ci := 3) (q0 := 1) rfl rfl rfl rfl rfl (Nat.le_of_ble_eq_true rfl) dX11_isPerson_9 ⟨Nat.le_of_ble_eq_true rfl, Nat.le_of_ble_eq_true rfl⟩ ⟨Nat.le_of_ble_eq_true rfl, Nat.le_of_ble_eq_true rfl⟩ (fun _ _ _ _ _ _ hX _ _ _ _ _ _ => hX.elim) (fun v w1 H locs hQ hP hD hS => ?_)
    obtain ⟨rfl, rfl⟩ := hQ
    have hP : va_P g.1 vwCl [(h0, .inr (15, [.ref a1, .ref a2, .ref a3, .ref a4, .ref a5, .int tt, .int wf, .int ww, .int te, .int tn, .int mo])), (a4, .inr (3, [.int 0, .ref g.2.1, .int 0]))] H := hP
    have hD : va_D A [(h0, .inr (15, [.ref a1, .ref a2, .ref a3, .ref a4, .ref a5, .int tt, .int wf, .int ww, .int te, .int tn, .int mo])), (a4, .inr (3, [.int 0, .ref g.2.1, .int 0]))] := hD
    refine W.widen (k := 0) (n := 0) (by decide) (by decide) ?_
    refine W.eq (g2 := F0 m 12 ls [.int 0, .int x]) rfl ?_
    refine lv_icmp_ge (tgt := 19) hx hb dX11_isPerson_12 (by decide) (fun c12_3 => ?_) (fun c12_3 => ?_)
    · refine lv_iconst (v := 0) hx hb dX11_isPerson_19 (by decide) ?_
      exact kretZ K hP hD hS [0, 1] [(h0, .inr (15, [.ref a1, .ref a2, .ref a3, .ref a4, .ref a5, .int tt, .int wf, .int ww, .int te, .int tn, .int mo])), (a4, .inr (3, [.int 0, .ref g.2.1, .int 0]))] rfl rfl (⟨rfl, rfl⟩) (by decide) (by decide) dX11_isPerson_20
    · exact absurd c12_3 (by exact fun h => h (Int32.not_lt.mp c1_1))

set_option maxHeartbeats 4000000 in
set_option maxRecDepth 100000 in
theorem m_X11_isTape (l : Launch) (hl0 : l.stackTraces = false) (g : kG) (x : Int32)  : kc l g yX11_isTape prog_1_method_64_code 1 (some .boolean) 0 0 0 0 [.int x] [] (fun v w => (v = some (.int 1) ∧ w = [] ∧ inR x 100 199 = true) ∨ (v = some (.int 0) ∧ w = [] ∧ inR x 100 199 = false)) (fun _ _ => False) := by
  refine kbody (by decide) (Nat.le_of_ble_eq_true rfl) ?_
  intro p e s m args below meth c A H K ht G hP hD hA hS ls hl
  have K : KB p s m meth c RX11 "isTape" prog_1_method_64_code 1 (some .boolean) := K
  obtain ⟨hx, hb, hml, hown, hlocks, hr, hin⟩ := id K
  have hl : lv_has ls 1 [(0, .int x)] := hl
  refine lv_iload_n hx hb dX11_isTape_0 rfl (lv_at hl 0 rfl) ?_
  refine lv_bipush (v := 100) hx hb dX11_isTape_1 (by decide) ?_
  refine lv_icmp_lt (tgt := 17) hx hb dX11_isTape_3 (by decide) (fun c3_1 => ?_) (fun c3_1 => ?_)
  · refine lv_iconst (v := 0) hx hb dX11_isTape_17 (by decide) ?_
    exact kretZ K hP hD hS [] [] rfl rfl (Or.inr (⟨rfl, rfl, (by exact inR_l c3_1)⟩)) (by decide) (by decide) dX11_isTape_18
  · refine lv_iload_n hx hb dX11_isTape_6 rfl (lv_at hl 0 rfl) ?_
    refine lv_sipush (v := 199) hx hb dX11_isTape_7 (by decide) ?_
    refine lv_icmp_gt (tgt := 17) hx hb dX11_isTape_10 (by decide) (fun c10_2 => ?_) (fun c10_2 => ?_)
    · refine lv_iconst (v := 0) hx hb dX11_isTape_17 (by decide) ?_
      exact kretZ K hP hD hS [] [] rfl rfl (Or.inr (⟨rfl, rfl, (by exact inR_g (Int32.not_le.mpr c10_2))⟩)) (by decide) (by decide) dX11_isTape_18
    · refine lv_iconst (v := 1) hx hb dX11_isTape_13 (by decide) ?_
      refine lv_goto (tgt := 18) hx hb dX11_isTape_14 (by decide) ?_
      exact kretZ K hP hD hS [] [] rfl rfl (Or.inl ⟨rfl, rfl, (by exact inR_t c3_1 (Int32.not_lt.mp c10_2))⟩) (by decide) (by decide) dX11_isTape_18

set_option maxHeartbeats 4000000 in
set_option maxRecDepth 100000 in
theorem m_X11_isPersonOrTape (l : Launch) (hl0 : l.stackTraces = false) (g : kG) (h0 : Nat) (a1 : Nat) (a2 : Nat) (a3 : Nat) (a4 : Nat) (a5 : Nat) (tt : Int32) (wf : Int32) (ww : Int32) (te : Int32) (tn : Int32) (mo : Int32) (x : Int32)  : kc l g yX11_isPersonOrTape prog_1_method_63_code 2 (some .boolean) 2 41 0 0 [.ref h0, .int x] [(h0, .inr (15, [.ref a1, .ref a2, .ref a3, .ref a4, .ref a5, .int tt, .int wf, .int ww, .int te, .int tn, .int mo])), (a4, .inr (3, [.int 0, .ref g.2.1, .int 0]))] (fun v w => (v = some (.int 1) ∧ w = [(h0, .inr (15, [.ref a1, .ref a2, .ref a3, .ref a4, .ref a5, .int tt, .int wf, .int ww, .int te, .int tn, .int mo])), (a4, .inr (3, [.int 0, .ref g.2.1, .int 0]))] ∧ inR x 100 199 = true) ∨ (v = some (.int 0) ∧ w = [(h0, .inr (15, [.ref a1, .ref a2, .ref a3, .ref a4, .ref a5, .int tt, .int wf, .int ww, .int te, .int tn, .int mo])), (a4, .inr (3, [.int 0, .ref g.2.1, .int 0]))] ∧ inR x 100 199 = false)) (fun _ _ => False) := by
  refine kbody (by decide) (Nat.le_of_ble_eq_true rfl) ?_
  intro p e s m args below meth c A H K ht G hP hD hA hS ls hl
  have K : KB p s m meth c RX11 "isPersonOrTape" prog_1_method_63_code 2 (some .boolean) := K
  obtain ⟨hx, hb, hml, hown, hlocks, hr, hin⟩ := id K
  have hl : lv_has ls 2 [(0, .ref h0), (1, .int x)] := hl
  refine lv_aload_n hx hb dX11_isPersonOrTape_0 rfl (lv_at hl 0 rfl) ?_
  refine lv_iload_n hx hb dX11_isPersonOrTape_1 rfl (lv_at hl 1 rfl) ?_
  refine kcallV (wc := [(h0, .inr (15, [.ref a1, .ref a2, .ref a3, .ref a4, .ref a5, .int tt, .int wf, .int ww, .int te, .int tn, .int mo])), (a4, .inr (3, [.int 0, .ref g.2.1, .int 0]))]) (wr := []) (As := [.int x]) (rest := []) K G (m_X11_isPerson l hl0 g h0 a1 a2 a3 a4 a5 tt wf ww te tn mo x ) hP hD hS hA hl kw_228 kw_229 kw_230 kw_231 kw_4 ydX11_isPerson [0, 1] [] rfl rfl rfl rfl (by decide) (ci := 15) (q0 := 0) rfl rfl rfl rfl rfl (Nat.le_of_ble_eq_true rfl) dX11_isPersonOrTape_2 ⟨Nat.le_of_ble_eq_true rfl, Nat.le_of_ble_eq_true rfl⟩ ⟨Nat.le_of_ble_eq_true rfl, Nat.le_of_ble_eq_true rfl⟩ (fun _ _ _ _ _ _ hX _ _ _ _ _ _ => hX.elim) (fun v w1 H locs hQ hP hD hS => ?_)
  obtain ⟨rfl, rfl⟩ := hQ
  have hP : va_P g.1 vwCl [(h0, .inr (15, [.ref a1, .ref a2, .ref a3, .ref a4, .ref a5, .int tt, .int wf, .int ww, .int te, .int tn, .int mo])), (a4, .inr (3, [.int 0, .ref g.2.1, .int 0]))] H := hP
  have hD : va_D A [(h0, .inr (15, [.ref a1, .ref a2, .ref a3, .ref a4, .ref a5, .int tt, .int wf, .int ww, .int te, .int tn, .int mo])), (a4, .inr (3, [.int 0, .ref g.2.1, .int 0]))] := hD
  refine W.widen (k := 0) (n := 0) (by decide) (by decide) ?_
  refine W.eq (g2 := F0 m 5 ls [.int 0]) rfl ?_
  refine lv_if_ne (tgt := 15) hx hb dX11_isPersonOrTape_5 (by decide) (fun c5_2 => absurd c5_2 (by decide)) (fun _ => ?_)
  refine lv_iload_n hx hb dX11_isPersonOrTape_8 rfl (lv_at hl 1 rfl) ?_
  refine kcallS (wc := []) (wr := [(h0, .inr (15, [.ref a1, .ref a2, .ref a3, .ref a4, .ref a5, .int tt, .int wf, .int ww, .int te, .int tn, .int mo])), (a4, .inr (3, [.int 0, .ref g.2.1, .int 0]))]) (As := [.int x]) (rest := []) K G (m_X11_isTape l hl0 g x ) hP hD hS hA hl kw_232 kw_233 kw_234 kw_4 ydX11_isTape [] [0, 1] rfl rfl rfl rfl (by decide) rfl rfl (Nat.le_of_ble_eq_true rfl) dX11_isPersonOrTape_9 ⟨Nat.le_of_ble_eq_true rfl, Nat.le_of_ble_eq_true rfl⟩ ⟨Nat.le_of_ble_eq_true rfl, Nat.le_of_ble_eq_true rfl⟩ (fun _ _ _ _ _ _ hX _ _ _ _ _ _ => hX.elim) (fun v w1 H locs hQ hP hD hS => ?_)
  rcases hQ with ⟨rfl, rfl, f_4⟩ | ⟨rfl, rfl, f_5⟩
  · have hP : va_P g.1 vwCl [(h0, .inr (15, [.ref a1, .ref a2, .ref a3, .ref a4, .ref a5, .int tt, .int wf, .int ww, .int te, .int tn, .int mo])), (a4, .inr (3, [.int 0, .ref g.2.1, .int 0]))] H := hP
    have hD : va_D A [(h0, .inr (15, [.ref a1, .ref a2, .ref a3, .ref a4, .ref a5, .int tt, .int wf, .int ww, .int te, .int tn, .int mo])), (a4, .inr (3, [.int 0, .ref g.2.1, .int 0]))] := hD
    refine W.widen (k := 0) (n := 0) (by decide) (by decide) ?_
    refine W.eq (g2 := F0 m 12 ls [.int 1]) rfl ?_
    refine lv_if_eq (tgt := 19) hx hb dX11_isPersonOrTape_12 (by decide) (fun c12_6 => absurd c12_6 (by decide)) (fun _ => ?_)
    refine lv_iconst (v := 1) hx hb dX11_isPersonOrTape_15 (by decide) ?_
    refine lv_goto (tgt := 20) hx hb dX11_isPersonOrTape_16 (by decide) ?_
    exact kretZ K hP hD hS [0, 1] [(h0, .inr (15, [.ref a1, .ref a2, .ref a3, .ref a4, .ref a5, .int tt, .int wf, .int ww, .int te, .int tn, .int mo])), (a4, .inr (3, [.int 0, .ref g.2.1, .int 0]))] rfl rfl (Or.inl ⟨rfl, rfl, (by exact f_4)⟩) (by decide) (by decide) dX11_isPersonOrTape_20
  · have hP : va_P g.1 vwCl [(h0, .inr (15, [.ref a1, .ref a2, .ref a3, .ref a4, .ref a5, .int tt, .int wf, .int ww, .int te, .int tn, .int mo])), (a4, .inr (3, [.int 0, .ref g.2.1, .int 0]))] H := hP
    have hD : va_D A [(h0, .inr (15, [.ref a1, .ref a2, .ref a3, .ref a4, .ref a5, .int tt, .int wf, .int ww, .int te, .int tn, .int mo])), (a4, .inr (3, [.int 0, .ref g.2.1, .int 0]))] := hD
    refine W.widen (k := 0) (n := 0) (by decide) (by decide) ?_
    refine W.eq (g2 := F0 m 12 ls [.int 0]) rfl ?_
    refine lv_if_eq (tgt := 19) hx hb dX11_isPersonOrTape_12 (by decide) (fun _ => ?_) (fun c12_7 => absurd c12_7 (by decide))
    refine lv_iconst (v := 0) hx hb dX11_isPersonOrTape_19 (by decide) ?_
    exact kretZ K hP hD hS [0, 1] [(h0, .inr (15, [.ref a1, .ref a2, .ref a3, .ref a4, .ref a5, .int tt, .int wf, .int ww, .int te, .int tn, .int mo])), (a4, .inr (3, [.int 0, .ref g.2.1, .int 0]))] rfl rfl (Or.inr (⟨rfl, rfl, (by exact f_5)⟩)) (by decide) (by decide) dX11_isPersonOrTape_20
end
section
set_option maxHeartbeats 4000000 in
set_option maxRecDepth 100000 in
theorem m_X11_addRecording (l : Launch) (hl0 : l.stackTraces = false) (g : kG) (h0 : Nat) (a1 : Nat) (a2 : Nat) (a3 : Nat) (a4 : Nat) (a5 : Nat) (k0 : Nat) (r0 : Nat) (b1 : Nat) (b2 : Nat) (b3 : Nat) (b4 : Nat) (b5 : Nat) (b6 : Nat) (b7 : Nat) (b8 : Nat) (b9 : Nat) (b10 : Nat) (x0 : Int32) (x1 : Int32) (x2 : Int32)  : kc l g yX11_addRecording prog_1_method_45_code 4 (some .int) 7 108 4 26 [.ref h0, .int x0, .int x1, .int x2] [(h0, .inr (15, [.ref a1, .ref a2, .ref a3, .ref a4, .ref a5, .int 0, .int 0, .int 110, .int 0, .int 0, .int 0])), (a1, .inr (3, [.int 0, .ref g.2.1, .int 0])), (a2, .inr (3, [.int 0, .ref g.2.1, .int 0])), (a3, .inr (3, [.int 0, .ref g.2.1, .int 0])), (a4, .inr (3, [.int 0, .ref g.2.1, .int 0])), (a5, .inr (5, [.ref k0, .ref r0, .ref b1, .ref b2, .ref b3, .ref b4, .ref b5, .int 0])), (k0, .inr (7, [.ref b6, .ref b7, .ref b8, .ref b9, .ref b10, .int 0, .int 0])), (r0, .inr (3, [.int 0, .ref g.2.1, .int 0]))] (fun v w => (v = some (.int 0) ∧ w = [] ∧ (inR x0 (-1) 9 && inR x1 (-1) 3 && (decide (x2 = -1) || decide (x2 = 200) || inR x2 100 199)) = true)) (fun E w => (E = "java/lang/IllegalArgumentException" ∧ w = [] ∧ (inR x0 (-1) 9 && inR x1 (-1) 3 && (decide (x2 = -1) || decide (x2 = 200) || inR x2 100 199)) = false)) := by
  refine kbody (by decide) (Nat.le_of_ble_eq_true rfl) ?_
  intro p e s m args below meth c A H K ht G hP hD hA hS ls hl
  have K : KB p s m meth c RX11 "addRecording" prog_1_method_45_code 4 (some .int) := K
  obtain ⟨hx, hb, hml, hown, hlocks, hr, hin⟩ := id K
  have hl : lv_has ls 4 [(0, .ref h0), (1, .int x0), (2, .int x1), (3, .int x2)] := hl
  refine lv_iload_n hx hb dX11_addRecording_0 rfl (lv_at hl 1 rfl) ?_
  refine lv_iconst (v := (-1)) hx hb dX11_addRecording_1 (by decide) ?_
  refine lv_bipush (v := 9) hx hb dX11_addRecording_2 (by decide) ?_
  refine kcallS (wc := []) (wr := [(h0, .inr (15, [.ref a1, .ref a2, .ref a3, .ref a4, .ref a5, .int 0, .int 0, .int 110, .int 0, .int 0, .int 0])), (a1, .inr (3, [.int 0, .ref g.2.1, .int 0])), (a2, .inr (3, [.int 0, .ref g.2.1, .int 0])), (a3, .inr (3, [.int 0, .ref g.2.1, .int 0])), (a4, .inr (3, [.int 0, .ref g.2.1, .int 0])), (a5, .inr (5, [.ref k0, .ref r0, .ref b1, .ref b2, .ref b3, .ref b4, .ref b5, .int 0])), (k0, .inr (7, [.ref b6, .ref b7, .ref b8, .ref b9, .ref b10, .int 0, .int 0])), (r0, .inr (3, [.int 0, .ref g.2.1, .int 0]))]) (As := [.int x0, .int (-1), .int 9]) (rest := []) K G (m_X11_requireRange l hl0 g x0 (-1) 9 ) hP hD hS hA hl kw_2 kw_3 kw_5 kw_4 ydX11_requireRange [] [0, 1, 2, 3, 4, 5, 6, 7] rfl rfl rfl rfl (by decide) rfl rfl (Nat.le_of_ble_eq_true rfl) dX11_addRecording_4 ⟨Nat.le_of_ble_eq_true rfl, Nat.le_of_ble_eq_true rfl⟩ ⟨Nat.le_of_ble_eq_true rfl, Nat.le_of_ble_eq_true rfl⟩ (fun E w1 ce q9 H locs hX hP hD hS hce hcv hcl => ?_) (fun v w1 H locs hQ hP hD hS => ?_)
  · obtain ⟨rfl, rfl, f_2⟩ := hX
    have hP : va_P g.1 vwCl [(h0, .inr (15, [.ref a1, .ref a2, .ref a3, .ref a4, .ref a5, .int 0, .int 0, .int 110, .int 0, .int 0, .int 0])), (a1, .inr (3, [.int 0, .ref g.2.1, .int 0])), (a2, .inr (3, [.int 0, .ref g.2.1, .int 0])), (a3, .inr (3, [.int 0, .ref g.2.1, .int 0])), (a4, .inr (3, [.int 0, .ref g.2.1, .int 0])), (a5, .inr (5, [.ref k0, .ref r0, .ref b1, .ref b2, .ref b3, .ref b4, .ref b5, .int 0])), (k0, .inr (7, [.ref b6, .ref b7, .ref b8, .ref b9, .ref b10, .int 0, .int 0])), (r0, .inr (3, [.int 0, .ref g.2.1, .int 0]))] H := hP
    have hD : va_D A [(h0, .inr (15, [.ref a1, .ref a2, .ref a3, .ref a4, .ref a5, .int 0, .int 0, .int 110, .int 0, .int 0, .int 0])), (a1, .inr (3, [.int 0, .ref g.2.1, .int 0])), (a2, .inr (3, [.int 0, .ref g.2.1, .int 0])), (a3, .inr (3, [.int 0, .ref g.2.1, .int 0])), (a4, .inr (3, [.int 0, .ref g.2.1, .int 0])), (a5, .inr (5, [.ref k0, .ref r0, .ref b1, .ref b2, .ref b3, .ref b4, .ref b5, .int 0])), (k0, .inr (7, [.ref b6, .ref b7, .ref b8, .ref b9, .ref b10, .int 0, .int 0])), (r0, .inr (3, [.int 0, .ref g.2.1, .int 0]))] := hD
    refine vx_widen (k := 1) (n := 6) (by decide) (by decide) ?_
    exact kthrow K ht hP hD hS hce hcv hcl [] [] rfl rfl (⟨rfl, rfl, (by simp [f_2])⟩) (by decide) (by decide)
  · obtain ⟨rfl, rfl, f_3⟩ := hQ
    have hP : va_P g.1 vwCl [(h0, .inr (15, [.ref a1, .ref a2, .ref a3, .ref a4, .ref a5, .int 0, .int 0, .int 110, .int 0, .int 0, .int 0])), (a1, .inr (3, [.int 0, .ref g.2.1, .int 0])), (a2, .inr (3, [.int 0, .ref g.2.1, .int 0])), (a3, .inr (3, [.int 0, .ref g.2.1, .int 0])), (a4, .inr (3, [.int 0, .ref g.2.1, .int 0])), (a5, .inr (5, [.ref k0, .ref r0, .ref b1, .ref b2, .ref b3, .ref b4, .ref b5, .int 0])), (k0, .inr (7, [.ref b6, .ref b7, .ref b8, .ref b9, .ref b10, .int 0, .int 0])), (r0, .inr (3, [.int 0, .ref g.2.1, .int 0]))] H := hP
    have hD : va_D A [(h0, .inr (15, [.ref a1, .ref a2, .ref a3, .ref a4, .ref a5, .int 0, .int 0, .int 110, .int 0, .int 0, .int 0])), (a1, .inr (3, [.int 0, .ref g.2.1, .int 0])), (a2, .inr (3, [.int 0, .ref g.2.1, .int 0])), (a3, .inr (3, [.int 0, .ref g.2.1, .int 0])), (a4, .inr (3, [.int 0, .ref g.2.1, .int 0])), (a5, .inr (5, [.ref k0, .ref r0, .ref b1, .ref b2, .ref b3, .ref b4, .ref b5, .int 0])), (k0, .inr (7, [.ref b6, .ref b7, .ref b8, .ref b9, .ref b10, .int 0, .int 0])), (r0, .inr (3, [.int 0, .ref g.2.1, .int 0]))] := hD
    refine W.widen (k := 1) (n := 6) (by decide) (by decide) ?_
    refine W.eq (g2 := F0 m 7 ls []) rfl ?_
    refine lv_iload_n hx hb dX11_addRecording_7 rfl (lv_at hl 2 rfl) ?_
    refine lv_iconst (v := (-1)) hx hb dX11_addRecording_8 (by decide) ?_
    refine lv_iconst (v := 3) hx hb dX11_addRecording_9 (by decide) ?_
    refine kcallS (wc := []) (wr := [(h0, .inr (15, [.ref a1, .ref a2, .ref a3, .ref a4, .ref a5, .int 0, .int 0, .int 110, .int 0, .int 0, .int 0])), (a1, .inr (3, [.int 0, .ref g.2.1, .int 0])), (a2, .inr (3, [.int 0, .ref g.2.1, .int 0])), (a3, .inr (3, [.int 0, .ref g.2.1, .int 0])), (a4, .inr (3, [.int 0, .ref g.2.1, .int 0])), (a5, .inr (5, [.ref k0, .ref r0, .ref b1, .ref b2, .ref b3, .ref b4, .ref b5, .int 0])), (k0, .inr (7, [.ref b6, .ref b7, .ref b8, .ref b9, .ref b10, .int 0, .int 0])), (r0, .inr (3, [.int 0, .ref g.2.1, .int 0]))]) (As := [.int x1, .int (-1), .int 3]) (rest := []) K G (m_X11_requireRange l hl0 g x1 (-1) 3 ) hP hD hS hA hl kw_2 kw_3 kw_5 kw_4 ydX11_requireRange [] [0, 1, 2, 3, 4, 5, 6, 7] rfl rfl rfl rfl (by decide) rfl rfl (Nat.le_of_ble_eq_true rfl) dX11_addRecording_10 ⟨Nat.le_of_ble_eq_true rfl, Nat.le_of_ble_eq_true rfl⟩ ⟨Nat.le_of_ble_eq_true rfl, Nat.le_of_ble_eq_true rfl⟩ (fun E w1 ce q9 H locs hX hP hD hS hce hcv hcl => ?_) (fun v w1 H locs hQ hP hD hS => ?_)
    · obtain ⟨rfl, rfl, f_5⟩ := hX
      have hP : va_P g.1 vwCl [(h0, .inr (15, [.ref a1, .ref a2, .ref a3, .ref a4, .ref a5, .int 0, .int 0, .int 110, .int 0, .int 0, .int 0])), (a1, .inr (3, [.int 0, .ref g.2.1, .int 0])), (a2, .inr (3, [.int 0, .ref g.2.1, .int 0])), (a3, .inr (3, [.int 0, .ref g.2.1, .int 0])), (a4, .inr (3, [.int 0, .ref g.2.1, .int 0])), (a5, .inr (5, [.ref k0, .ref r0, .ref b1, .ref b2, .ref b3, .ref b4, .ref b5, .int 0])), (k0, .inr (7, [.ref b6, .ref b7, .ref b8, .ref b9, .ref b10, .int 0, .int 0])), (r0, .inr (3, [.int 0, .ref g.2.1, .int 0]))] H := hP
      have hD : va_D A [(h0, .inr (15, [.ref a1, .ref a2, .ref a3, .ref a4, .ref a5, .int 0, .int 0, .int 110, .int 0, .int 0, .int 0])), (a1, .inr (3, [.int 0, .ref g.2.1, .int 0])), (a2, .inr (3, [.int 0, .ref g.2.1, .int 0])), (a3, .inr (3, [.int 0, .ref g.2.1, .int 0])), (a4, .inr (3, [.int 0, .ref g.2.1, .int 0])), (a5, .inr (5, [.ref k0, .ref r0, .ref b1, .ref b2, .ref b3, .ref b4, .ref b5, .int 0])), (k0, .inr (7, [.ref b6, .ref b7, .ref b8, .ref b9, .ref b10, .int 0, .int 0])), (r0, .inr (3, [.int 0, .ref g.2.1, .int 0]))] := hD
      refine vx_widen (k := 2) (n := 12) (by decide) (by decide) ?_
      exact kthrow K ht hP hD hS hce hcv hcl [] [] rfl rfl (⟨rfl, rfl, (by simp [f_3, f_5])⟩) (by decide) (by decide)
    · obtain ⟨rfl, rfl, f_6⟩ := hQ
      have hP : va_P g.1 vwCl [(h0, .inr (15, [.ref a1, .ref a2, .ref a3, .ref a4, .ref a5, .int 0, .int 0, .int 110, .int 0, .int 0, .int 0])), (a1, .inr (3, [.int 0, .ref g.2.1, .int 0])), (a2, .inr (3, [.int 0, .ref g.2.1, .int 0])), (a3, .inr (3, [.int 0, .ref g.2.1, .int 0])), (a4, .inr (3, [.int 0, .ref g.2.1, .int 0])), (a5, .inr (5, [.ref k0, .ref r0, .ref b1, .ref b2, .ref b3, .ref b4, .ref b5, .int 0])), (k0, .inr (7, [.ref b6, .ref b7, .ref b8, .ref b9, .ref b10, .int 0, .int 0])), (r0, .inr (3, [.int 0, .ref g.2.1, .int 0]))] H := hP
      have hD : va_D A [(h0, .inr (15, [.ref a1, .ref a2, .ref a3, .ref a4, .ref a5, .int 0, .int 0, .int 110, .int 0, .int 0, .int 0])), (a1, .inr (3, [.int 0, .ref g.2.1, .int 0])), (a2, .inr (3, [.int 0, .ref g.2.1, .int 0])), (a3, .inr (3, [.int 0, .ref g.2.1, .int 0])), (a4, .inr (3, [.int 0, .ref g.2.1, .int 0])), (a5, .inr (5, [.ref k0, .ref r0, .ref b1, .ref b2, .ref b3, .ref b4, .ref b5, .int 0])), (k0, .inr (7, [.ref b6, .ref b7, .ref b8, .ref b9, .ref b10, .int 0, .int 0])), (r0, .inr (3, [.int 0, .ref g.2.1, .int 0]))] := hD
      refine W.widen (k := 2) (n := 12) (by decide) (by decide) ?_
      refine W.eq (g2 := F0 m 13 ls []) rfl ?_
      refine lv_iload_n hx hb dX11_addRecording_13 rfl (lv_at hl 3 rfl) ?_
      refine lv_iconst (v := (-1)) hx hb dX11_addRecording_14 (by decide) ?_
      refine lv_icmp_eq (tgt := 44) hx hb dX11_addRecording_15 (by decide) (fun c15_7 => ?_) (fun c15_7 => ?_)
      · refine lv_aload_n hx hb dX11_addRecording_44 rfl (lv_at hl 0 rfl) ?_
        refine va_get (D := g.1) (ci := 15) (v := .ref a5) (C := RX11) (T := TX11) (N := 11) hx hb G.ws inX11 hown G.K hP 0 rfl rfl 4 (by decide) (G.w kw_54) (fun _ h9 => h9) rfl dX11_addRecording_45 ?_
        refine va_get (D := g.1) (ci := 5) (v := .ref r0) (C := RX1) (T := TX1) (N := 8) hx hb G.ws inX1 hown G.K hP 5 rfl rfl 1 (by decide) (G.w kw_55) (fun _ h9 => h9) rfl dX11_addRecording_48 ?_
        refine kcallV (wc := [(r0, .inr (3, [.int 0, .ref g.2.1, .int 0]))]) (wr := [(h0, .inr (15, [.ref a1, .ref a2, .ref a3, .ref a4, .ref a5, .int 0, .int 0, .int 110, .int 0, .int 0, .int 0])), (a1, .inr (3, [.int 0, .ref g.2.1, .int 0])), (a2, .inr (3, [.int 0, .ref g.2.1, .int 0])), (a3, .inr (3, [.int 0, .ref g.2.1, .int 0])), (a4, .inr (3, [.int 0, .ref g.2.1, .int 0])), (a5, .inr (5, [.ref k0, .ref r0, .ref b1, .ref b2, .ref b3, .ref b4, .ref b5, .int 0])), (k0, .inr (7, [.ref b6, .ref b7, .ref b8, .ref b9, .ref b10, .int 0, .int 0]))]) (As := []) (rest := []) K G (m_Jx4a65c_size_8abf5 l hl0 g r0 0 g.2.1 0 ) hP hD hS hA hl kw_44 kw_45 kw_46 kw_47 kw_30 ydJx4a65c_size_8abf5 [7] [0, 1, 2, 3, 4, 5, 6] rfl rfl rfl rfl (by decide) (ci := 3) (q0 := 7) rfl rfl rfl rfl rfl (Nat.le_of_ble_eq_true rfl) dX11_addRecording_51 ⟨Nat.le_of_ble_eq_true rfl, Nat.le_of_ble_eq_true rfl⟩ ⟨Nat.le_of_ble_eq_true rfl, Nat.le_of_ble_eq_true rfl⟩ (fun _ _ _ _ _ _ hX _ _ _ _ _ _ => hX.elim) (fun v w1 H locs hQ hP hD hS => ?_)
        obtain ⟨rfl, rfl⟩ := hQ
        have hP : va_P g.1 vwCl [(h0, .inr (15, [.ref a1, .ref a2, .ref a3, .ref a4, .ref a5, .int 0, .int 0, .int 110, .int 0, .int 0, .int 0])), (a1, .inr (3, [.int 0, .ref g.2.1, .int 0])), (a2, .inr (3, [.int 0, .ref g.2.1, .int 0])), (a3, .inr (3, [.int 0, .ref g.2.1, .int 0])), (a4, .inr (3, [.int 0, .ref g.2.1, .int 0])), (a5, .inr (5, [.ref k0, .ref r0, .ref b1, .ref b2, .ref b3, .ref b4, .ref b5, .int 0])), (k0, .inr (7, [.ref b6, .ref b7, .ref b8, .ref b9, .ref b10, .int 0, .int 0])), (r0, .inr (3, [.int 0, .ref g.2.1, .int 0]))] H := hP
        have hD : va_D A [(h0, .inr (15, [.ref a1, .ref a2, .ref a3, .ref a4, .ref a5, .int 0, .int 0, .int 110, .int 0, .int 0, .int 0])), (a1, .inr (3, [.int 0, .ref g.2.1, .int 0])), (a2, .inr (3, [.int 0, .ref g.2.1, .int 0])), (a3, .inr (3, [.int 0, .ref g.2.1, .int 0])), (a4, .inr (3, [.int 0, .ref g.2.1, .int 0])), (a5, .inr (5, [.ref k0, .ref r0, .ref b1, .ref b2, .ref b3, .ref b4, .ref b5, .int 0])), (k0, .inr (7, [.ref b6, .ref b7, .ref b8, .ref b9, .ref b10, .int 0, .int 0])), (r0, .inr (3, [.int 0, .ref g.2.1, .int 0]))] := hD
        refine W.widen (k := 2) (n := 12) (by decide) (by decide) ?_
        refine W.eq (g2 := F0 m 54 ls [.int 0]) rfl ?_
        refine lv_bipush (v := 6) hx hb dX11_addRecording_54 (by decide) ?_
        refine kcallS (wc := []) (wr := [(h0, .inr (15, [.ref a1, .ref a2, .ref a3, .ref a4, .ref a5, .int 0, .int 0, .int 110, .int 0, .int 0, .int 0])), (a1, .inr (3, [.int 0, .ref g.2.1, .int 0])), (a2, .inr (3, [.int 0, .ref g.2.1, .int 0])), (a3, .inr (3, [.int 0, .ref g.2.1, .int 0])), (a4, .inr (3, [.int 0, .ref g.2.1, .int 0])), (a5, .inr (5, [.ref k0, .ref r0, .ref b1, .ref b2, .ref b3, .ref b4, .ref b5, .int 0])), (k0, .inr (7, [.ref b6, .ref b7, .ref b8, .ref b9, .ref b10, .int 0, .int 0])), (r0, .inr (3, [.int 0, .ref g.2.1, .int 0]))]) (As := [.int 0, .int 6]) (rest := []) K G (m_X11_requireRoom l hl0 g 0 6 (by first | assumption | decide)) hP hD hS hA hl kw_207 kw_208 kw_209 kw_4 ydX11_requireRoom [] [0, 1, 2, 3, 4, 5, 6, 7] rfl rfl rfl rfl (by decide) rfl rfl (Nat.le_of_ble_eq_true rfl) dX11_addRecording_56 ⟨Nat.le_of_ble_eq_true rfl, Nat.le_of_ble_eq_true rfl⟩ ⟨Nat.le_of_ble_eq_true rfl, Nat.le_of_ble_eq_true rfl⟩ (fun _ _ _ _ _ _ hX _ _ _ _ _ _ => hX.elim) (fun v w1 H locs hQ hP hD hS => ?_)
        obtain ⟨rfl, rfl⟩ := hQ
        have hP : va_P g.1 vwCl [(h0, .inr (15, [.ref a1, .ref a2, .ref a3, .ref a4, .ref a5, .int 0, .int 0, .int 110, .int 0, .int 0, .int 0])), (a1, .inr (3, [.int 0, .ref g.2.1, .int 0])), (a2, .inr (3, [.int 0, .ref g.2.1, .int 0])), (a3, .inr (3, [.int 0, .ref g.2.1, .int 0])), (a4, .inr (3, [.int 0, .ref g.2.1, .int 0])), (a5, .inr (5, [.ref k0, .ref r0, .ref b1, .ref b2, .ref b3, .ref b4, .ref b5, .int 0])), (k0, .inr (7, [.ref b6, .ref b7, .ref b8, .ref b9, .ref b10, .int 0, .int 0])), (r0, .inr (3, [.int 0, .ref g.2.1, .int 0]))] H := hP
        have hD : va_D A [(h0, .inr (15, [.ref a1, .ref a2, .ref a3, .ref a4, .ref a5, .int 0, .int 0, .int 110, .int 0, .int 0, .int 0])), (a1, .inr (3, [.int 0, .ref g.2.1, .int 0])), (a2, .inr (3, [.int 0, .ref g.2.1, .int 0])), (a3, .inr (3, [.int 0, .ref g.2.1, .int 0])), (a4, .inr (3, [.int 0, .ref g.2.1, .int 0])), (a5, .inr (5, [.ref k0, .ref r0, .ref b1, .ref b2, .ref b3, .ref b4, .ref b5, .int 0])), (k0, .inr (7, [.ref b6, .ref b7, .ref b8, .ref b9, .ref b10, .int 0, .int 0])), (r0, .inr (3, [.int 0, .ref g.2.1, .int 0]))] := hD
        refine W.widen (k := 2) (n := 12) (by decide) (by decide) ?_
        refine W.eq (g2 := F0 m 59 ls []) rfl ?_
        refine lv_aload_n hx hb dX11_addRecording_59 rfl (lv_at hl 0 rfl) ?_
        refine va_get (D := g.1) (ci := 15) (v := .ref a5) (C := RX11) (T := TX11) (N := 11) hx hb G.ws inX11 hown G.K hP 0 rfl rfl 4 (by decide) (G.w kw_54) (fun _ h9 => h9) rfl dX11_addRecording_60 ?_
        refine va_get (D := g.1) (ci := 5) (v := .ref r0) (C := RX1) (T := TX1) (N := 8) hx hb G.ws inX1 hown G.K hP 5 rfl rfl 1 (by decide) (G.w kw_55) (fun _ h9 => h9) rfl dX11_addRecording_63 ?_
        refine va_new (D := g.1) (ci := 11) (fs := [.int 0, .int 0, .int 0, .int 0]) (C := RX7) (T := TX7) (N := 4) hx hb G.ws inX7 tyX7 tyX7_ok hown (G.w kw_235) (G.w kw_236) (G.w kw_237) G.K hP hD hS hA rfl (fun j hj => by rcases (show j = 0 ∨ j = 1 ∨ j = 2 ∨ j = 3 by omega) with rfl | rfl | rfl | rfl <;> rfl) (by decide) (by decide) dX11_addRecording_66 (fun q_10 H hP hD hS => ?_)
        have hP : va_P g.1 vwCl [(h0, .inr (15, [.ref a1, .ref a2, .ref a3, .ref a4, .ref a5, .int 0, .int 0, .int 110, .int 0, .int 0, .int 0])), (a1, .inr (3, [.int 0, .ref g.2.1, .int 0])), (a2, .inr (3, [.int 0, .ref g.2.1, .int 0])), (a3, .inr (3, [.int 0, .ref g.2.1, .int 0])), (a4, .inr (3, [.int 0, .ref g.2.1, .int 0])), (a5, .inr (5, [.ref k0, .ref r0, .ref b1, .ref b2, .ref b3, .ref b4, .ref b5, .int 0])), (k0, .inr (7, [.ref b6, .ref b7, .ref b8, .ref b9, .ref b10, .int 0, .int 0])), (r0, .inr (3, [.int 0, .ref g.2.1, .int 0])), (q_10, .inr (11, [.int 0, .int 0, .int 0, .int 0]))] H := hP
        have hD : va_D A [(h0, .inr (15, [.ref a1, .ref a2, .ref a3, .ref a4, .ref a5, .int 0, .int 0, .int 110, .int 0, .int 0, .int 0])), (a1, .inr (3, [.int 0, .ref g.2.1, .int 0])), (a2, .inr (3, [.int 0, .ref g.2.1, .int 0])), (a3, .inr (3, [.int 0, .ref g.2.1, .int 0])), (a4, .inr (3, [.int 0, .ref g.2.1, .int 0])), (a5, .inr (5, [.ref k0, .ref r0, .ref b1, .ref b2, .ref b3, .ref b4, .ref b5, .int 0])), (k0, .inr (7, [.ref b6, .ref b7, .ref b8, .ref b9, .ref b10, .int 0, .int 0])), (r0, .inr (3, [.int 0, .ref g.2.1, .int 0])), (q_10, .inr (11, [.int 0, .int 0, .int 0, .int 0]))] := hD
        refine W.widen (k := 3) (n := 16) (by decide) (by decide) ?_
        refine lv_dup hx hb dX11_addRecording_69 rfl ?_
        refine lv_iload_n hx hb dX11_addRecording_70 rfl (lv_at hl 1 rfl) ?_
        refine lv_iload_n hx hb dX11_addRecording_71 rfl (lv_at hl 2 rfl) ?_
        refine lv_iload_n hx hb dX11_addRecording_72 rfl (lv_at hl 3 rfl) ?_
        refine kcallI (wc := [(q_10, .inr (11, [.int 0, .int 0, .int 0, .int 0]))]) (wr := [(h0, .inr (15, [.ref a1, .ref a2, .ref a3, .ref a4, .ref a5, .int 0, .int 0, .int 110, .int 0, .int 0, .int 0])), (a1, .inr (3, [.int 0, .ref g.2.1, .int 0])), (a2, .inr (3, [.int 0, .ref g.2.1, .int 0])), (a3, .inr (3, [.int 0, .ref g.2.1, .int 0])), (a4, .inr (3, [.int 0, .ref g.2.1, .int 0])), (a5, .inr (5, [.ref k0, .ref r0, .ref b1, .ref b2, .ref b3, .ref b4, .ref b5, .int 0])), (k0, .inr (7, [.ref b6, .ref b7, .ref b8, .ref b9, .ref b10, .int 0, .int 0])), (r0, .inr (3, [.int 0, .ref g.2.1, .int 0]))]) (As := [.int x0, .int x1, .int x2]) (rest := [.ref q_10, .ref r0]) K G (m_X7_init l hl0 g q_10 x0 x1 x2 ) hP hD hS hA hl kw_238 kw_239 kw_240 kw_237 rfl ydX7_init [8] [0, 1, 2, 3, 4, 5, 6, 7] rfl rfl rfl rfl (by decide) rfl rfl (Nat.le_of_ble_eq_true rfl) dX11_addRecording_73 ⟨Nat.le_of_ble_eq_true rfl, Nat.le_of_ble_eq_true rfl⟩ ⟨Nat.le_of_ble_eq_true rfl, Nat.le_of_ble_eq_true rfl⟩ (fun _ _ _ _ _ _ hX _ _ _ _ _ _ => hX.elim) (fun v w1 H locs hQ hP hD hS => ?_)
        obtain ⟨rfl, rfl⟩ := hQ
        have hP : va_P g.1 vwCl [(h0, .inr (15, [.ref a1, .ref a2, .ref a3, .ref a4, .ref a5, .int 0, .int 0, .int 110, .int 0, .int 0, .int 0])), (a1, .inr (3, [.int 0, .ref g.2.1, .int 0])), (a2, .inr (3, [.int 0, .ref g.2.1, .int 0])), (a3, .inr (3, [.int 0, .ref g.2.1, .int 0])), (a4, .inr (3, [.int 0, .ref g.2.1, .int 0])), (a5, .inr (5, [.ref k0, .ref r0, .ref b1, .ref b2, .ref b3, .ref b4, .ref b5, .int 0])), (k0, .inr (7, [.ref b6, .ref b7, .ref b8, .ref b9, .ref b10, .int 0, .int 0])), (r0, .inr (3, [.int 0, .ref g.2.1, .int 0])), (q_10, .inr (11, [.int x0, .int x1, .int x2, .int 0]))] H := hP
        have hD : va_D A [(h0, .inr (15, [.ref a1, .ref a2, .ref a3, .ref a4, .ref a5, .int 0, .int 0, .int 110, .int 0, .int 0, .int 0])), (a1, .inr (3, [.int 0, .ref g.2.1, .int 0])), (a2, .inr (3, [.int 0, .ref g.2.1, .int 0])), (a3, .inr (3, [.int 0, .ref g.2.1, .int 0])), (a4, .inr (3, [.int 0, .ref g.2.1, .int 0])), (a5, .inr (5, [.ref k0, .ref r0, .ref b1, .ref b2, .ref b3, .ref b4, .ref b5, .int 0])), (k0, .inr (7, [.ref b6, .ref b7, .ref b8, .ref b9, .ref b10, .int 0, .int 0])), (r0, .inr (3, [.int 0, .ref g.2.1, .int 0])), (q_10, .inr (11, [.int x0, .int x1, .int x2, .int 0]))] := hD
        refine W.widen (k := 3) (n := 16) (by decide) (by decide) ?_
        refine W.eq (g2 := F0 m 76 ls [.ref q_10, .ref r0]) rfl ?_
        refine kcallV (wc := [(r0, .inr (3, [.int 0, .ref g.2.1, .int 0])), (q_10, .inr (11, [.int x0, .int x1, .int x2, .int 0]))]) (wr := [(h0, .inr (15, [.ref a1, .ref a2, .ref a3, .ref a4, .ref a5, .int 0, .int 0, .int 110, .int 0, .int 0, .int 0])), (a1, .inr (3, [.int 0, .ref g.2.1, .int 0])), (a2, .inr (3, [.int 0, .ref g.2.1, .int 0])), (a3, .inr (3, [.int 0, .ref g.2.1, .int 0])), (a4, .inr (3, [.int 0, .ref g.2.1, .int 0])), (a5, .inr (5, [.ref k0, .ref r0, .ref b1, .ref b2, .ref b3, .ref b4, .ref b5, .int 0])), (k0, .inr (7, [.ref b6, .ref b7, .ref b8, .ref b9, .ref b10, .int 0, .int 0]))]) (As := [.ref q_10]) (rest := []) K G (m_Jx4a65c_add_9ea2d l hl0 g r0 q_10 11 ([.int x0, .int x1, .int x2, .int 0]) _ rfl kw_241) hP hD hS hA hl kw_216 kw_217 kw_219 kw_220 kw_30 ydJx4a65c_add_9ea2d [7, 8] [0, 1, 2, 3, 4, 5, 6] rfl rfl rfl rfl (by decide) (ci := 3) (q0 := 7) rfl rfl rfl rfl rfl (Nat.le_of_ble_eq_true rfl) dX11_addRecording_76 ⟨Nat.le_of_ble_eq_true rfl, Nat.le_of_ble_eq_true rfl⟩ ⟨Nat.le_of_ble_eq_true rfl, Nat.le_of_ble_eq_true rfl⟩ (fun _ _ _ _ _ _ hX _ _ _ _ _ _ => hX.elim) (fun v w1 H locs hQ hP hD hS => ?_)
        obtain ⟨q0_13, rfl, rfl⟩ := hQ
        have hP : va_P g.1 vwCl [(h0, .inr (15, [.ref a1, .ref a2, .ref a3, .ref a4, .ref a5, .int 0, .int 0, .int 110, .int 0, .int 0, .int 0])), (a1, .inr (3, [.int 0, .ref g.2.1, .int 0])), (a2, .inr (3, [.int 0, .ref g.2.1, .int 0])), (a3, .inr (3, [.int 0, .ref g.2.1, .int 0])), (a4, .inr (3, [.int 0, .ref g.2.1, .int 0])), (a5, .inr (5, [.ref k0, .ref r0, .ref b1, .ref b2, .ref b3, .ref b4, .ref b5, .int 0])), (k0, .inr (7, [.ref b6, .ref b7, .ref b8, .ref b9, .ref b10, .int 0, .int 0])), (r0, .inr (3, [.int 1, .ref q0_13, .int 1]))] H := hP
        have hD : va_D A [(h0, .inr (15, [.ref a1, .ref a2, .ref a3, .ref a4, .ref a5, .int 0, .int 0, .int 110, .int 0, .int 0, .int 0])), (a1, .inr (3, [.int 0, .ref g.2.1, .int 0])), (a2, .inr (3, [.int 0, .ref g.2.1, .int 0])), (a3, .inr (3, [.int 0, .ref g.2.1, .int 0])), (a4, .inr (3, [.int 0, .ref g.2.1, .int 0])), (a5, .inr (5, [.ref k0, .ref r0, .ref b1, .ref b2, .ref b3, .ref b4, .ref b5, .int 0])), (k0, .inr (7, [.ref b6, .ref b7, .ref b8, .ref b9, .ref b10, .int 0, .int 0])), (r0, .inr (3, [.int 1, .ref q0_13, .int 1]))] := hD
        refine W.widen (k := 4) (n := 26) (by decide) (by decide) ?_
        refine W.eq (g2 := F0 m 79 ls [.int 1]) rfl ?_
        refine lv_pop hx hb dX11_addRecording_79 rfl ?_
        refine lv_aload_n hx hb dX11_addRecording_80 rfl (lv_at hl 0 rfl) ?_
        refine va_get (D := g.1) (ci := 15) (v := .ref a5) (C := RX11) (T := TX11) (N := 11) hx hb G.ws inX11 hown G.K hP 0 rfl rfl 4 (by decide) (G.w kw_54) (fun _ h9 => h9) rfl dX11_addRecording_81 ?_
        refine va_get (D := g.1) (ci := 5) (v := .ref r0) (C := RX1) (T := TX1) (N := 8) hx hb G.ws inX1 hown G.K hP 5 rfl rfl 1 (by decide) (G.w kw_55) (fun _ h9 => h9) rfl dX11_addRecording_84 ?_
        refine kcallV (wc := [(r0, .inr (3, [.int 1, .ref q0_13, .int 1]))]) (wr := [(h0, .inr (15, [.ref a1, .ref a2, .ref a3, .ref a4, .ref a5, .int 0, .int 0, .int 110, .int 0, .int 0, .int 0])), (a1, .inr (3, [.int 0, .ref g.2.1, .int 0])), (a2, .inr (3, [.int 0, .ref g.2.1, .int 0])), (a3, .inr (3, [.int 0, .ref g.2.1, .int 0])), (a4, .inr (3, [.int 0, .ref g.2.1, .int 0])), (a5, .inr (5, [.ref k0, .ref r0, .ref b1, .ref b2, .ref b3, .ref b4, .ref b5, .int 0])), (k0, .inr (7, [.ref b6, .ref b7, .ref b8, .ref b9, .ref b10, .int 0, .int 0]))]) (As := []) (rest := []) K G (m_Jx4a65c_size_8abf5 l hl0 g r0 1 q0_13 1 ) hP hD hS hA hl kw_44 kw_45 kw_46 kw_47 kw_30 ydJx4a65c_size_8abf5 [7] [0, 1, 2, 3, 4, 5, 6] rfl rfl rfl rfl (by decide) (ci := 3) (q0 := 7) rfl rfl rfl rfl rfl (Nat.le_of_ble_eq_true rfl) dX11_addRecording_87 ⟨Nat.le_of_ble_eq_true rfl, Nat.le_of_ble_eq_true rfl⟩ ⟨Nat.le_of_ble_eq_true rfl, Nat.le_of_ble_eq_true rfl⟩ (fun _ _ _ _ _ _ hX _ _ _ _ _ _ => hX.elim) (fun v w1 H locs hQ hP hD hS => ?_)
        obtain ⟨rfl, rfl⟩ := hQ
        have hP : va_P g.1 vwCl [(h0, .inr (15, [.ref a1, .ref a2, .ref a3, .ref a4, .ref a5, .int 0, .int 0, .int 110, .int 0, .int 0, .int 0])), (a1, .inr (3, [.int 0, .ref g.2.1, .int 0])), (a2, .inr (3, [.int 0, .ref g.2.1, .int 0])), (a3, .inr (3, [.int 0, .ref g.2.1, .int 0])), (a4, .inr (3, [.int 0, .ref g.2.1, .int 0])), (a5, .inr (5, [.ref k0, .ref r0, .ref b1, .ref b2, .ref b3, .ref b4, .ref b5, .int 0])), (k0, .inr (7, [.ref b6, .ref b7, .ref b8, .ref b9, .ref b10, .int 0, .int 0])), (r0, .inr (3, [.int 1, .ref q0_13, .int 1]))] H := hP
        have hD : va_D A [(h0, .inr (15, [.ref a1, .ref a2, .ref a3, .ref a4, .ref a5, .int 0, .int 0, .int 110, .int 0, .int 0, .int 0])), (a1, .inr (3, [.int 0, .ref g.2.1, .int 0])), (a2, .inr (3, [.int 0, .ref g.2.1, .int 0])), (a3, .inr (3, [.int 0, .ref g.2.1, .int 0])), (a4, .inr (3, [.int 0, .ref g.2.1, .int 0])), (a5, .inr (5, [.ref k0, .ref r0, .ref b1, .ref b2, .ref b3, .ref b4, .ref b5, .int 0])), (k0, .inr (7, [.ref b6, .ref b7, .ref b8, .ref b9, .ref b10, .int 0, .int 0])), (r0, .inr (3, [.int 1, .ref q0_13, .int 1]))] := hD
        refine W.widen (k := 4) (n := 26) (by decide) (by decide) ?_
        refine W.eq (g2 := F0 m 90 ls [.int 1]) rfl ?_
        refine lv_iconst (v := 1) hx hb dX11_addRecording_90 (by decide) ?_
        refine lv_isub hx hb dX11_addRecording_91 ?_
        refine lv_topi (fun y_15 ey_15 => ?_)
        obtain rfl : y_15 = 0 := ey_15.trans (by decide)
        exact kretI K hP hD hS [] [] rfl rfl (⟨rfl, rfl, (by simp [f_3, f_6, c15_7])⟩) (by decide) (by decide) dX11_addRecording_92
      · refine lv_iload_n hx hb dX11_addRecording_18 rfl (lv_at hl 3 rfl) ?_
        refine lv_sipush (v := 200) hx hb dX11_addRecording_19 (by decide) ?_
        refine lv_icmp_eq (tgt := 44) hx hb dX11_addRecording_22 (by decide) (fun c22_16 => ?_) (fun c22_16 => ?_)
        · refine lv_aload_n hx hb dX11_addRecording_44 rfl (lv_at hl 0 rfl) ?_
          refine va_get (D := g.1) (ci := 15) (v := .ref a5) (C := RX11) (T := TX11) (N := 11) hx hb G.ws inX11 hown G.K hP 0 rfl rfl 4 (by decide) (G.w kw_54) (fun _ h9 => h9) rfl dX11_addRecording_45 ?_
          refine va_get (D := g.1) (ci := 5) (v := .ref r0) (C := RX1) (T := TX1) (N := 8) hx hb G.ws inX1 hown G.K hP 5 rfl rfl 1 (by decide) (G.w kw_55) (fun _ h9 => h9) rfl dX11_addRecording_48 ?_
          refine kcallV (wc := [(r0, .inr (3, [.int 0, .ref g.2.1, .int 0]))]) (wr := [(h0, .inr (15, [.ref a1, .ref a2, .ref a3, .ref a4, .ref a5, .int 0, .int 0, .int 110, .int 0, .int 0, .int 0])), (a1, .inr (3, [.int 0, .ref g.2.1, .int 0])), (a2, .inr (3, [.int 0, .ref g.2.1, .int 0])), (a3, .inr (3, [.int 0, .ref g.2.1, .int 0])), (a4, .inr (3, [.int 0, .ref g.2.1, .int 0])), (a5, .inr (5, [.ref k0, .ref r0, .ref b1, .ref b2, .ref b3, .ref b4, .ref b5, .int 0])), (k0, .inr (7, [.ref b6, .ref b7, .ref b8, .ref b9, .ref b10, .int 0, .int 0]))]) (As := []) (rest := []) K G (m_Jx4a65c_size_8abf5 l hl0 g r0 0 g.2.1 0 ) hP hD hS hA hl kw_44 kw_45 kw_46 kw_47 kw_30 ydJx4a65c_size_8abf5 [7] [0, 1, 2, 3, 4, 5, 6] rfl rfl rfl rfl (by decide) (ci := 3) (q0 := 7) rfl rfl rfl rfl rfl (Nat.le_of_ble_eq_true rfl) dX11_addRecording_51 ⟨Nat.le_of_ble_eq_true rfl, Nat.le_of_ble_eq_true rfl⟩ ⟨Nat.le_of_ble_eq_true rfl, Nat.le_of_ble_eq_true rfl⟩ (fun _ _ _ _ _ _ hX _ _ _ _ _ _ => hX.elim) (fun v w1 H locs hQ hP hD hS => ?_)
          obtain ⟨rfl, rfl⟩ := hQ
          have hP : va_P g.1 vwCl [(h0, .inr (15, [.ref a1, .ref a2, .ref a3, .ref a4, .ref a5, .int 0, .int 0, .int 110, .int 0, .int 0, .int 0])), (a1, .inr (3, [.int 0, .ref g.2.1, .int 0])), (a2, .inr (3, [.int 0, .ref g.2.1, .int 0])), (a3, .inr (3, [.int 0, .ref g.2.1, .int 0])), (a4, .inr (3, [.int 0, .ref g.2.1, .int 0])), (a5, .inr (5, [.ref k0, .ref r0, .ref b1, .ref b2, .ref b3, .ref b4, .ref b5, .int 0])), (k0, .inr (7, [.ref b6, .ref b7, .ref b8, .ref b9, .ref b10, .int 0, .int 0])), (r0, .inr (3, [.int 0, .ref g.2.1, .int 0]))] H := hP
          have hD : va_D A [(h0, .inr (15, [.ref a1, .ref a2, .ref a3, .ref a4, .ref a5, .int 0, .int 0, .int 110, .int 0, .int 0, .int 0])), (a1, .inr (3, [.int 0, .ref g.2.1, .int 0])), (a2, .inr (3, [.int 0, .ref g.2.1, .int 0])), (a3, .inr (3, [.int 0, .ref g.2.1, .int 0])), (a4, .inr (3, [.int 0, .ref g.2.1, .int 0])), (a5, .inr (5, [.ref k0, .ref r0, .ref b1, .ref b2, .ref b3, .ref b4, .ref b5, .int 0])), (k0, .inr (7, [.ref b6, .ref b7, .ref b8, .ref b9, .ref b10, .int 0, .int 0])), (r0, .inr (3, [.int 0, .ref g.2.1, .int 0]))] := hD
          refine W.widen (k := 2) (n := 12) (by decide) (by decide) ?_
          refine W.eq (g2 := F0 m 54 ls [.int 0]) rfl ?_
          refine lv_bipush (v := 6) hx hb dX11_addRecording_54 (by decide) ?_
          refine kcallS (wc := []) (wr := [(h0, .inr (15, [.ref a1, .ref a2, .ref a3, .ref a4, .ref a5, .int 0, .int 0, .int 110, .int 0, .int 0, .int 0])), (a1, .inr (3, [.int 0, .ref g.2.1, .int 0])), (a2, .inr (3, [.int 0, .ref g.2.1, .int 0])), (a3, .inr (3, [.int 0, .ref g.2.1, .int 0])), (a4, .inr (3, [.int 0, .ref g.2.1, .int 0])), (a5, .inr (5, [.ref k0, .ref r0, .ref b1, .ref b2, .ref b3, .ref b4, .ref b5, .int 0])), (k0, .inr (7, [.ref b6, .ref b7, .ref b8, .ref b9, .ref b10, .int 0, .int 0])), (r0, .inr (3, [.int 0, .ref g.2.1, .int 0]))]) (As := [.int 0, .int 6]) (rest := []) K G (m_X11_requireRoom l hl0 g 0 6 (by first | assumption | decide)) hP hD hS hA hl kw_207 kw_208 kw_209 kw_4 ydX11_requireRoom [] [0, 1, 2, 3, 4, 5, 6, 7] rfl rfl rfl rfl (by decide) rfl rfl (Nat.le_of_ble_eq_true rfl) dX11_addRecording_56 ⟨Nat.le_of_ble_eq_true rfl, Nat.le_of_ble_eq_true rfl⟩ ⟨Nat.le_of_ble_eq_true rfl, Nat.le_of_ble_eq_true rfl⟩ (fun _ _ _ _ _ _ hX _ _ _ _ _ _ => hX.elim) (fun v w1 H locs hQ hP hD hS => ?_)
          obtain ⟨rfl, rfl⟩ := hQ
          have hP : va_P g.1 vwCl [(h0, .inr (15, [.ref a1, .ref a2, .ref a3, .ref a4, .ref a5, .int 0, .int 0, .int 110, .int 0, .int 0, .int 0])), (a1, .inr (3, [.int 0, .ref g.2.1, .int 0])), (a2, .inr (3, [.int 0, .ref g.2.1, .int 0])), (a3, .inr (3, [.int 0, .ref g.2.1, .int 0])), (a4, .inr (3, [.int 0, .ref g.2.1, .int 0])), (a5, .inr (5, [.ref k0, .ref r0, .ref b1, .ref b2, .ref b3, .ref b4, .ref b5, .int 0])), (k0, .inr (7, [.ref b6, .ref b7, .ref b8, .ref b9, .ref b10, .int 0, .int 0])), (r0, .inr (3, [.int 0, .ref g.2.1, .int 0]))] H := hP
          have hD : va_D A [(h0, .inr (15, [.ref a1, .ref a2, .ref a3, .ref a4, .ref a5, .int 0, .int 0, .int 110, .int 0, .int 0, .int 0])), (a1, .inr (3, [.int 0, .ref g.2.1, .int 0])), (a2, .inr (3, [.int 0, .ref g.2.1, .int 0])), (a3, .inr (3, [.int 0, .ref g.2.1, .int 0])), (a4, .inr (3, [.int 0, .ref g.2.1, .int 0])), (a5, .inr (5, [.ref k0, .ref r0, .ref b1, .ref b2, .ref b3, .ref b4, .ref b5, .int 0])), (k0, .inr (7, [.ref b6, .ref b7, .ref b8, .ref b9, .ref b10, .int 0, .int 0])), (r0, .inr (3, [.int 0, .ref g.2.1, .int 0]))] := hD
          refine W.widen (k := 2) (n := 12) (by decide) (by decide) ?_
          refine W.eq (g2 := F0 m 59 ls []) rfl ?_
          refine lv_aload_n hx hb dX11_addRecording_59 rfl (lv_at hl 0 rfl) ?_
          refine va_get (D := g.1) (ci := 15) (v := .ref a5) (C := RX11) (T := TX11) (N := 11) hx hb G.ws inX11 hown G.K hP 0 rfl rfl 4 (by decide) (G.w kw_54) (fun _ h9 => h9) rfl dX11_addRecording_60 ?_
          refine va_get (D := g.1) (ci := 5) (v := .ref r0) (C := RX1) (T := TX1) (N := 8) hx hb G.ws inX1 hown G.K hP 5 rfl rfl 1 (by decide) (G.w kw_55) (fun _ h9 => h9) rfl dX11_addRecording_63 ?_
          refine va_new (D := g.1) (ci := 11) (fs := [.int 0, .int 0, .int 0, .int 0]) (C := RX7) (T := TX7) (N := 4) hx hb G.ws inX7 tyX7 tyX7_ok hown (G.w kw_235) (G.w kw_236) (G.w kw_237) G.K hP hD hS hA rfl (fun j hj => by rcases (show j = 0 ∨ j = 1 ∨ j = 2 ∨ j = 3 by omega) with rfl | rfl | rfl | rfl <;> rfl) (by decide) (by decide) dX11_addRecording_66 (fun q_19 H hP hD hS => ?_)
          have hP : va_P g.1 vwCl [(h0, .inr (15, [.ref a1, .ref a2, .ref a3, .ref a4, .ref a5, .int 0, .int 0, .int 110, .int 0, .int 0, .int 0])), (a1, .inr (3, [.int 0, .ref g.2.1, .int 0])), (a2, .inr (3, [.int 0, .ref g.2.1, .int 0])), (a3, .inr (3, [.int 0, .ref g.2.1, .int 0])), (a4, .inr (3, [.int 0, .ref g.2.1, .int 0])), (a5, .inr (5, [.ref k0, .ref r0, .ref b1, .ref b2, .ref b3, .ref b4, .ref b5, .int 0])), (k0, .inr (7, [.ref b6, .ref b7, .ref b8, .ref b9, .ref b10, .int 0, .int 0])), (r0, .inr (3, [.int 0, .ref g.2.1, .int 0])), (q_19, .inr (11, [.int 0, .int 0, .int 0, .int 0]))] H := hP
          have hD : va_D A [(h0, .inr (15, [.ref a1, .ref a2, .ref a3, .ref a4, .ref a5, .int 0, .int 0, .int 110, .int 0, .int 0, .int 0])), (a1, .inr (3, [.int 0, .ref g.2.1, .int 0])), (a2, .inr (3, [.int 0, .ref g.2.1, .int 0])), (a3, .inr (3, [.int 0, .ref g.2.1, .int 0])), (a4, .inr (3, [.int 0, .ref g.2.1, .int 0])), (a5, .inr (5, [.ref k0, .ref r0, .ref b1, .ref b2, .ref b3, .ref b4, .ref b5, .int 0])), (k0, .inr (7, [.ref b6, .ref b7, .ref b8, .ref b9, .ref b10, .int 0, .int 0])), (r0, .inr (3, [.int 0, .ref g.2.1, .int 0])), (q_19, .inr (11, [.int 0, .int 0, .int 0, .int 0]))] := hD
          refine W.widen (k := 3) (n := 16) (by decide) (by decide) ?_
          refine lv_dup hx hb dX11_addRecording_69 rfl ?_
          refine lv_iload_n hx hb dX11_addRecording_70 rfl (lv_at hl 1 rfl) ?_
          refine lv_iload_n hx hb dX11_addRecording_71 rfl (lv_at hl 2 rfl) ?_
          refine lv_iload_n hx hb dX11_addRecording_72 rfl (lv_at hl 3 rfl) ?_
          refine kcallI (wc := [(q_19, .inr (11, [.int 0, .int 0, .int 0, .int 0]))]) (wr := [(h0, .inr (15, [.ref a1, .ref a2, .ref a3, .ref a4, .ref a5, .int 0, .int 0, .int 110, .int 0, .int 0, .int 0])), (a1, .inr (3, [.int 0, .ref g.2.1, .int 0])), (a2, .inr (3, [.int 0, .ref g.2.1, .int 0])), (a3, .inr (3, [.int 0, .ref g.2.1, .int 0])), (a4, .inr (3, [.int 0, .ref g.2.1, .int 0])), (a5, .inr (5, [.ref k0, .ref r0, .ref b1, .ref b2, .ref b3, .ref b4, .ref b5, .int 0])), (k0, .inr (7, [.ref b6, .ref b7, .ref b8, .ref b9, .ref b10, .int 0, .int 0])), (r0, .inr (3, [.int 0, .ref g.2.1, .int 0]))]) (As := [.int x0, .int x1, .int x2]) (rest := [.ref q_19, .ref r0]) K G (m_X7_init l hl0 g q_19 x0 x1 x2 ) hP hD hS hA hl kw_238 kw_239 kw_240 kw_237 rfl ydX7_init [8] [0, 1, 2, 3, 4, 5, 6, 7] rfl rfl rfl rfl (by decide) rfl rfl (Nat.le_of_ble_eq_true rfl) dX11_addRecording_73 ⟨Nat.le_of_ble_eq_true rfl, Nat.le_of_ble_eq_true rfl⟩ ⟨Nat.le_of_ble_eq_true rfl, Nat.le_of_ble_eq_true rfl⟩ (fun _ _ _ _ _ _ hX _ _ _ _ _ _ => hX.elim) (fun v w1 H locs hQ hP hD hS => ?_)
          obtain ⟨rfl, rfl⟩ := hQ
          have hP : va_P g.1 vwCl [(h0, .inr (15, [.ref a1, .ref a2, .ref a3, .ref a4, .ref a5, .int 0, .int 0, .int 110, .int 0, .int 0, .int 0])), (a1, .inr (3, [.int 0, .ref g.2.1, .int 0])), (a2, .inr (3, [.int 0, .ref g.2.1, .int 0])), (a3, .inr (3, [.int 0, .ref g.2.1, .int 0])), (a4, .inr (3, [.int 0, .ref g.2.1, .int 0])), (a5, .inr (5, [.ref k0, .ref r0, .ref b1, .ref b2, .ref b3, .ref b4, .ref b5, .int 0])), (k0, .inr (7, [.ref b6, .ref b7, .ref b8, .ref b9, .ref b10, .int 0, .int 0])), (r0, .inr (3, [.int 0, .ref g.2.1, .int 0])), (q_19, .inr (11, [.int x0, .int x1, .int x2, .int 0]))] H := hP
          have hD : va_D A [(h0, .inr (15, [.ref a1, .ref a2, .ref a3, .ref a4, .ref a5, .int 0, .int 0, .int 110, .int 0, .int 0, .int 0])), (a1, .inr (3, [.int 0, .ref g.2.1, .int 0])), (a2, .inr (3, [.int 0, .ref g.2.1, .int 0])), (a3, .inr (3, [.int 0, .ref g.2.1, .int 0])), (a4, .inr (3, [.int 0, .ref g.2.1, .int 0])), (a5, .inr (5, [.ref k0, .ref r0, .ref b1, .ref b2, .ref b3, .ref b4, .ref b5, .int 0])), (k0, .inr (7, [.ref b6, .ref b7, .ref b8, .ref b9, .ref b10, .int 0, .int 0])), (r0, .inr (3, [.int 0, .ref g.2.1, .int 0])), (q_19, .inr (11, [.int x0, .int x1, .int x2, .int 0]))] := hD
          refine W.widen (k := 3) (n := 16) (by decide) (by decide) ?_
          refine W.eq (g2 := F0 m 76 ls [.ref q_19, .ref r0]) rfl ?_
          refine kcallV (wc := [(r0, .inr (3, [.int 0, .ref g.2.1, .int 0])), (q_19, .inr (11, [.int x0, .int x1, .int x2, .int 0]))]) (wr := [(h0, .inr (15, [.ref a1, .ref a2, .ref a3, .ref a4, .ref a5, .int 0, .int 0, .int 110, .int 0, .int 0, .int 0])), (a1, .inr (3, [.int 0, .ref g.2.1, .int 0])), (a2, .inr (3, [.int 0, .ref g.2.1, .int 0])), (a3, .inr (3, [.int 0, .ref g.2.1, .int 0])), (a4, .inr (3, [.int 0, .ref g.2.1, .int 0])), (a5, .inr (5, [.ref k0, .ref r0, .ref b1, .ref b2, .ref b3, .ref b4, .ref b5, .int 0])), (k0, .inr (7, [.ref b6, .ref b7, .ref b8, .ref b9, .ref b10, .int 0, .int 0]))]) (As := [.ref q_19]) (rest := []) K G (m_Jx4a65c_add_9ea2d l hl0 g r0 q_19 11 ([.int x0, .int x1, .int x2, .int 0]) _ rfl kw_241) hP hD hS hA hl kw_216 kw_217 kw_219 kw_220 kw_30 ydJx4a65c_add_9ea2d [7, 8] [0, 1, 2, 3, 4, 5, 6] rfl rfl rfl rfl (by decide) (ci := 3) (q0 := 7) rfl rfl rfl rfl rfl (Nat.le_of_ble_eq_true rfl) dX11_addRecording_76 ⟨Nat.le_of_ble_eq_true rfl, Nat.le_of_ble_eq_true rfl⟩ ⟨Nat.le_of_ble_eq_true rfl, Nat.le_of_ble_eq_true rfl⟩ (fun _ _ _ _ _ _ hX _ _ _ _ _ _ => hX.elim) (fun v w1 H locs hQ hP hD hS => ?_)
          obtain ⟨q0_22, rfl, rfl⟩ := hQ
          have hP : va_P g.1 vwCl [(h0, .inr (15, [.ref a1, .ref a2, .ref a3, .ref a4, .ref a5, .int 0, .int 0, .int 110, .int 0, .int 0, .int 0])), (a1, .inr (3, [.int 0, .ref g.2.1, .int 0])), (a2, .inr (3, [.int 0, .ref g.2.1, .int 0])), (a3, .inr (3, [.int 0, .ref g.2.1, .int 0])), (a4, .inr (3, [.int 0, .ref g.2.1, .int 0])), (a5, .inr (5, [.ref k0, .ref r0, .ref b1, .ref b2, .ref b3, .ref b4, .ref b5, .int 0])), (k0, .inr (7, [.ref b6, .ref b7, .ref b8, .ref b9, .ref b10, .int 0, .int 0])), (r0, .inr (3, [.int 1, .ref q0_22, .int 1]))] H := hP
          have hD : va_D A [(h0, .inr (15, [.ref a1, .ref a2, .ref a3, .ref a4, .ref a5, .int 0, .int 0, .int 110, .int 0, .int 0, .int 0])), (a1, .inr (3, [.int 0, .ref g.2.1, .int 0])), (a2, .inr (3, [.int 0, .ref g.2.1, .int 0])), (a3, .inr (3, [.int 0, .ref g.2.1, .int 0])), (a4, .inr (3, [.int 0, .ref g.2.1, .int 0])), (a5, .inr (5, [.ref k0, .ref r0, .ref b1, .ref b2, .ref b3, .ref b4, .ref b5, .int 0])), (k0, .inr (7, [.ref b6, .ref b7, .ref b8, .ref b9, .ref b10, .int 0, .int 0])), (r0, .inr (3, [.int 1, .ref q0_22, .int 1]))] := hD
          refine W.widen (k := 4) (n := 26) (by decide) (by decide) ?_
          refine W.eq (g2 := F0 m 79 ls [.int 1]) rfl ?_
          refine lv_pop hx hb dX11_addRecording_79 rfl ?_
          refine lv_aload_n hx hb dX11_addRecording_80 rfl (lv_at hl 0 rfl) ?_
          refine va_get (D := g.1) (ci := 15) (v := .ref a5) (C := RX11) (T := TX11) (N := 11) hx hb G.ws inX11 hown G.K hP 0 rfl rfl 4 (by decide) (G.w kw_54) (fun _ h9 => h9) rfl dX11_addRecording_81 ?_
          refine va_get (D := g.1) (ci := 5) (v := .ref r0) (C := RX1) (T := TX1) (N := 8) hx hb G.ws inX1 hown G.K hP 5 rfl rfl 1 (by decide) (G.w kw_55) (fun _ h9 => h9) rfl dX11_addRecording_84 ?_
          refine kcallV (wc := [(r0, .inr (3, [.int 1, .ref q0_22, .int 1]))]) (wr := [(h0, .inr (15, [.ref a1, .ref a2, .ref a3, .ref a4, .ref a5, .int 0, .int 0, .int 110, .int 0, .int 0, .int 0])), (a1, .inr (3, [.int 0, .ref g.2.1, .int 0])), (a2, .inr (3, [.int 0, .ref g.2.1, .int 0])), (a3, .inr (3, [.int 0, .ref g.2.1, .int 0])), (a4, .inr (3, [.int 0, .ref g.2.1, .int 0])), (a5, .inr (5, [.ref k0, .ref r0, .ref b1, .ref b2, .ref b3, .ref b4, .ref b5, .int 0])), (k0, .inr (7, [.ref b6, .ref b7, .ref b8, .ref b9, .ref b10, .int 0, .int 0]))]) (As := []) (rest := []) K G (m_Jx4a65c_size_8abf5 l hl0 g r0 1 q0_22 1 ) hP hD hS hA hl kw_44 kw_45 kw_46 kw_47 kw_30 ydJx4a65c_size_8abf5 [7] [0, 1, 2, 3, 4, 5, 6] rfl rfl rfl rfl (by decide) (ci := 3) (q0 := 7) rfl rfl rfl rfl rfl (Nat.le_of_ble_eq_true rfl) dX11_addRecording_87 ⟨Nat.le_of_ble_eq_true rfl, Nat.le_of_ble_eq_true rfl⟩ ⟨Nat.le_of_ble_eq_true rfl, Nat.le_of_ble_eq_true rfl⟩ (fun _ _ _ _ _ _ hX _ _ _ _ _ _ => hX.elim) (fun v w1 H locs hQ hP hD hS => ?_)
          obtain ⟨rfl, rfl⟩ := hQ
          have hP : va_P g.1 vwCl [(h0, .inr (15, [.ref a1, .ref a2, .ref a3, .ref a4, .ref a5, .int 0, .int 0, .int 110, .int 0, .int 0, .int 0])), (a1, .inr (3, [.int 0, .ref g.2.1, .int 0])), (a2, .inr (3, [.int 0, .ref g.2.1, .int 0])), (a3, .inr (3, [.int 0, .ref g.2.1, .int 0])), (a4, .inr (3, [.int 0, .ref g.2.1, .int 0])), (a5, .inr (5, [.ref k0, .ref r0, .ref b1, .ref b2, .ref b3, .ref b4, .ref b5, .int 0])), (k0, .inr (7, [.ref b6, .ref b7, .ref b8, .ref b9, .ref b10, .int 0, .int 0])), (r0, .inr (3, [.int 1, .ref q0_22, .int 1]))] H := hP
          have hD : va_D A [(h0, .inr (15, [.ref a1, .ref a2, .ref a3, .ref a4, .ref a5, .int 0, .int 0, .int 110, .int 0, .int 0, .int 0])), (a1, .inr (3, [.int 0, .ref g.2.1, .int 0])), (a2, .inr (3, [.int 0, .ref g.2.1, .int 0])), (a3, .inr (3, [.int 0, .ref g.2.1, .int 0])), (a4, .inr (3, [.int 0, .ref g.2.1, .int 0])), (a5, .inr (5, [.ref k0, .ref r0, .ref b1, .ref b2, .ref b3, .ref b4, .ref b5, .int 0])), (k0, .inr (7, [.ref b6, .ref b7, .ref b8, .ref b9, .ref b10, .int 0, .int 0])), (r0, .inr (3, [.int 1, .ref q0_22, .int 1]))] := hD
          refine W.widen (k := 4) (n := 26) (by decide) (by decide) ?_
          refine W.eq (g2 := F0 m 90 ls [.int 1]) rfl ?_
          refine lv_iconst (v := 1) hx hb dX11_addRecording_90 (by decide) ?_
          refine lv_isub hx hb dX11_addRecording_91 ?_
          refine lv_topi (fun y_24 ey_24 => ?_)
          obtain rfl : y_24 = 0 := ey_24.trans (by decide)
          exact kretI K hP hD hS [] [] rfl rfl (⟨rfl, rfl, (by simp [f_3, f_6, c15_7, c22_16])⟩) (by decide) (by decide) dX11_addRecording_92
        · refine lv_aload_n hx hb dX11_addRecording_25 rfl (lv_at hl 0 rfl) ?_
          refine lv_iload_n hx hb dX11_addRecording_26 rfl (lv_at hl 3 rfl) ?_
          refine kcallV (wc := [(h0, .inr (15, [.ref a1, .ref a2, .ref a3, .ref a4, .ref a5, .int 0, .int 0, .int 110, .int 0, .int 0, .int 0])), (a4, .inr (3, [.int 0, .ref g.2.1, .int 0]))]) (wr := [(a1, .inr (3, [.int 0, .ref g.2.1, .int 0])), (a2, .inr (3, [.int 0, .ref g.2.1, .int 0])), (a3, .inr (3, [.int 0, .ref g.2.1, .int 0])), (a5, .inr (5, [.ref k0, .ref r0, .ref b1, .ref b2, .ref b3, .ref b4, .ref b5, .int 0])), (k0, .inr (7, [.ref b6, .ref b7, .ref b8, .ref b9, .ref b10, .int 0, .int 0])), (r0, .inr (3, [.int 0, .ref g.2.1, .int 0]))]) (As := [.int x2]) (rest := []) K G (m_X11_isPersonOrTape l hl0 g h0 a1 a2 a3 a4 a5 0 0 110 0 0 0 x2 ) hP hD hS hA hl kw_242 kw_243 kw_244 kw_245 kw_4 ydX11_isPersonOrTape [0, 4] [1, 2, 3, 5, 6, 7] rfl rfl rfl rfl (by decide) (ci := 15) (q0 := 0) rfl rfl rfl rfl rfl (Nat.le_of_ble_eq_true rfl) dX11_addRecording_27 ⟨Nat.le_of_ble_eq_true rfl, Nat.le_of_ble_eq_true rfl⟩ ⟨Nat.le_of_ble_eq_true rfl, Nat.le_of_ble_eq_true rfl⟩ (fun _ _ _ _ _ _ hX _ _ _ _ _ _ => hX.elim) (fun v w1 H locs hQ hP hD hS => ?_)
          rcases hQ with ⟨rfl, rfl, f_26⟩ | ⟨rfl, rfl, f_27⟩
          · have hP : va_P g.1 vwCl [(a1, .inr (3, [.int 0, .ref g.2.1, .int 0])), (a2, .inr (3, [.int 0, .ref g.2.1, .int 0])), (a3, .inr (3, [.int 0, .ref g.2.1, .int 0])), (a5, .inr (5, [.ref k0, .ref r0, .ref b1, .ref b2, .ref b3, .ref b4, .ref b5, .int 0])), (k0, .inr (7, [.ref b6, .ref b7, .ref b8, .ref b9, .ref b10, .int 0, .int 0])), (r0, .inr (3, [.int 0, .ref g.2.1, .int 0])), (h0, .inr (15, [.ref a1, .ref a2, .ref a3, .ref a4, .ref a5, .int 0, .int 0, .int 110, .int 0, .int 0, .int 0])), (a4, .inr (3, [.int 0, .ref g.2.1, .int 0]))] H := hP
            have hD : va_D A [(a1, .inr (3, [.int 0, .ref g.2.1, .int 0])), (a2, .inr (3, [.int 0, .ref g.2.1, .int 0])), (a3, .inr (3, [.int 0, .ref g.2.1, .int 0])), (a5, .inr (5, [.ref k0, .ref r0, .ref b1, .ref b2, .ref b3, .ref b4, .ref b5, .int 0])), (k0, .inr (7, [.ref b6, .ref b7, .ref b8, .ref b9, .ref b10, .int 0, .int 0])), (r0, .inr (3, [.int 0, .ref g.2.1, .int 0])), (h0, .inr (15, [.ref a1, .ref a2, .ref a3, .ref a4, .ref a5, .int 0, .int 0, .int 110, .int 0, .int 0, .int 0])), (a4, .inr (3, [.int 0, .ref g.2.1, .int 0]))] := hD
            refine W.widen (k := 2) (n := 12) (by decide) (by decide) ?_
            refine W.eq (g2 := F0 m 30 ls [.int 1]) rfl ?_
            refine lv_if_ne (tgt := 44) hx hb dX11_addRecording_30 (by decide) (fun _ => ?_) (fun c30_28 => absurd c30_28 (by decide))
            refine lv_aload_n hx hb dX11_addRecording_44 rfl (lv_at hl 0 rfl) ?_
            refine va_get (D := g.1) (ci := 15) (v := .ref a5) (C := RX11) (T := TX11) (N := 11) hx hb G.ws inX11 hown G.K hP 6 rfl rfl 4 (by decide) (G.w kw_54) (fun _ h9 => h9) rfl dX11_addRecording_45 ?_
            refine va_get (D := g.1) (ci := 5) (v := .ref r0) (C := RX1) (T := TX1) (N := 8) hx hb G.ws inX1 hown G.K hP 3 rfl rfl 1 (by decide) (G.w kw_55) (fun _ h9 => h9) rfl dX11_addRecording_48 ?_
            refine kcallV (wc := [(r0, .inr (3, [.int 0, .ref g.2.1, .int 0]))]) (wr := [(a1, .inr (3, [.int 0, .ref g.2.1, .int 0])), (a2, .inr (3, [.int 0, .ref g.2.1, .int 0])), (a3, .inr (3, [.int 0, .ref g.2.1, .int 0])), (a5, .inr (5, [.ref k0, .ref r0, .ref b1, .ref b2, .ref b3, .ref b4, .ref b5, .int 0])), (k0, .inr (7, [.ref b6, .ref b7, .ref b8, .ref b9, .ref b10, .int 0, .int 0])), (h0, .inr (15, [.ref a1, .ref a2, .ref a3, .ref a4, .ref a5, .int 0, .int 0, .int 110, .int 0, .int 0, .int 0])), (a4, .inr (3, [.int 0, .ref g.2.1, .int 0]))]) (As := []) (rest := []) K G (m_Jx4a65c_size_8abf5 l hl0 g r0 0 g.2.1 0 ) hP hD hS hA hl kw_44 kw_45 kw_46 kw_47 kw_30 ydJx4a65c_size_8abf5 [5] [0, 1, 2, 3, 4, 6, 7] rfl rfl rfl rfl (by decide) (ci := 3) (q0 := 5) rfl rfl rfl rfl rfl (Nat.le_of_ble_eq_true rfl) dX11_addRecording_51 ⟨Nat.le_of_ble_eq_true rfl, Nat.le_of_ble_eq_true rfl⟩ ⟨Nat.le_of_ble_eq_true rfl, Nat.le_of_ble_eq_true rfl⟩ (fun _ _ _ _ _ _ hX _ _ _ _ _ _ => hX.elim) (fun v w1 H locs hQ hP hD hS => ?_)
            obtain ⟨rfl, rfl⟩ := hQ
            have hP : va_P g.1 vwCl [(a1, .inr (3, [.int 0, .ref g.2.1, .int 0])), (a2, .inr (3, [.int 0, .ref g.2.1, .int 0])), (a3, .inr (3, [.int 0, .ref g.2.1, .int 0])), (a5, .inr (5, [.ref k0, .ref r0, .ref b1, .ref b2, .ref b3, .ref b4, .ref b5, .int 0])), (k0, .inr (7, [.ref b6, .ref b7, .ref b8, .ref b9, .ref b10, .int 0, .int 0])), (h0, .inr (15, [.ref a1, .ref a2, .ref a3, .ref a4, .ref a5, .int 0, .int 0, .int 110, .int 0, .int 0, .int 0])), (a4, .inr (3, [.int 0, .ref g.2.1, .int 0])), (r0, .inr (3, [.int 0, .ref g.2.1, .int 0]))] H := hP
            have hD : va_D A [(a1, .inr (3, [.int 0, .ref g.2.1, .int 0])), (a2, .inr (3, [.int 0, .ref g.2.1, .int 0])), (a3, .inr (3, [.int 0, .ref g.2.1, .int 0])), (a5, .inr (5, [.ref k0, .ref r0, .ref b1, .ref b2, .ref b3, .ref b4, .ref b5, .int 0])), (k0, .inr (7, [.ref b6, .ref b7, .ref b8, .ref b9, .ref b10, .int 0, .int 0])), (h0, .inr (15, [.ref a1, .ref a2, .ref a3, .ref a4, .ref a5, .int 0, .int 0, .int 110, .int 0, .int 0, .int 0])), (a4, .inr (3, [.int 0, .ref g.2.1, .int 0])), (r0, .inr (3, [.int 0, .ref g.2.1, .int 0]))] := hD
            refine W.widen (k := 2) (n := 12) (by decide) (by decide) ?_
            refine W.eq (g2 := F0 m 54 ls [.int 0]) rfl ?_
            refine lv_bipush (v := 6) hx hb dX11_addRecording_54 (by decide) ?_
            refine kcallS (wc := []) (wr := [(a1, .inr (3, [.int 0, .ref g.2.1, .int 0])), (a2, .inr (3, [.int 0, .ref g.2.1, .int 0])), (a3, .inr (3, [.int 0, .ref g.2.1, .int 0])), (a5, .inr (5, [.ref k0, .ref r0, .ref b1, .ref b2, .ref b3, .ref b4, .ref b5, .int 0])), (k0, .inr (7, [.ref b6, .ref b7, .ref b8, .ref b9, .ref b10, .int 0, .int 0])), (h0, .inr (15, [.ref a1, .ref a2, .ref a3, .ref a4, .ref a5, .int 0, .int 0, .int 110, .int 0, .int 0, .int 0])), (a4, .inr (3, [.int 0, .ref g.2.1, .int 0])), (r0, .inr (3, [.int 0, .ref g.2.1, .int 0]))]) (As := [.int 0, .int 6]) (rest := []) K G (m_X11_requireRoom l hl0 g 0 6 (by first | assumption | decide)) hP hD hS hA hl kw_207 kw_208 kw_209 kw_4 ydX11_requireRoom [] [0, 1, 2, 3, 4, 5, 6, 7] rfl rfl rfl rfl (by decide) rfl rfl (Nat.le_of_ble_eq_true rfl) dX11_addRecording_56 ⟨Nat.le_of_ble_eq_true rfl, Nat.le_of_ble_eq_true rfl⟩ ⟨Nat.le_of_ble_eq_true rfl, Nat.le_of_ble_eq_true rfl⟩ (fun _ _ _ _ _ _ hX _ _ _ _ _ _ => hX.elim) (fun v w1 H locs hQ hP hD hS => ?_)
            obtain ⟨rfl, rfl⟩ := hQ
            have hP : va_P g.1 vwCl [(a1, .inr (3, [.int 0, .ref g.2.1, .int 0])), (a2, .inr (3, [.int 0, .ref g.2.1, .int 0])), (a3, .inr (3, [.int 0, .ref g.2.1, .int 0])), (a5, .inr (5, [.ref k0, .ref r0, .ref b1, .ref b2, .ref b3, .ref b4, .ref b5, .int 0])), (k0, .inr (7, [.ref b6, .ref b7, .ref b8, .ref b9, .ref b10, .int 0, .int 0])), (h0, .inr (15, [.ref a1, .ref a2, .ref a3, .ref a4, .ref a5, .int 0, .int 0, .int 110, .int 0, .int 0, .int 0])), (a4, .inr (3, [.int 0, .ref g.2.1, .int 0])), (r0, .inr (3, [.int 0, .ref g.2.1, .int 0]))] H := hP
            have hD : va_D A [(a1, .inr (3, [.int 0, .ref g.2.1, .int 0])), (a2, .inr (3, [.int 0, .ref g.2.1, .int 0])), (a3, .inr (3, [.int 0, .ref g.2.1, .int 0])), (a5, .inr (5, [.ref k0, .ref r0, .ref b1, .ref b2, .ref b3, .ref b4, .ref b5, .int 0])), (k0, .inr (7, [.ref b6, .ref b7, .ref b8, .ref b9, .ref b10, .int 0, .int 0])), (h0, .inr (15, [.ref a1, .ref a2, .ref a3, .ref a4, .ref a5, .int 0, .int 0, .int 110, .int 0, .int 0, .int 0])), (a4, .inr (3, [.int 0, .ref g.2.1, .int 0])), (r0, .inr (3, [.int 0, .ref g.2.1, .int 0]))] := hD
            refine W.widen (k := 2) (n := 12) (by decide) (by decide) ?_
            refine W.eq (g2 := F0 m 59 ls []) rfl ?_
            refine lv_aload_n hx hb dX11_addRecording_59 rfl (lv_at hl 0 rfl) ?_
            refine va_get (D := g.1) (ci := 15) (v := .ref a5) (C := RX11) (T := TX11) (N := 11) hx hb G.ws inX11 hown G.K hP 5 rfl rfl 4 (by decide) (G.w kw_54) (fun _ h9 => h9) rfl dX11_addRecording_60 ?_
            refine va_get (D := g.1) (ci := 5) (v := .ref r0) (C := RX1) (T := TX1) (N := 8) hx hb G.ws inX1 hown G.K hP 3 rfl rfl 1 (by decide) (G.w kw_55) (fun _ h9 => h9) rfl dX11_addRecording_63 ?_
            refine va_new (D := g.1) (ci := 11) (fs := [.int 0, .int 0, .int 0, .int 0]) (C := RX7) (T := TX7) (N := 4) hx hb G.ws inX7 tyX7 tyX7_ok hown (G.w kw_235) (G.w kw_236) (G.w kw_237) G.K hP hD hS hA rfl (fun j hj => by rcases (show j = 0 ∨ j = 1 ∨ j = 2 ∨ j = 3 by omega) with rfl | rfl | rfl | rfl <;> rfl) (by decide) (by decide) dX11_addRecording_66 (fun q_31 H hP hD hS => ?_)
            have hP : va_P g.1 vwCl [(a1, .inr (3, [.int 0, .ref g.2.1, .int 0])), (a2, .inr (3, [.int 0, .ref g.2.1, .int 0])), (a3, .inr (3, [.int 0, .ref g.2.1, .int 0])), (a5, .inr (5, [.ref k0, .ref r0, .ref b1, .ref b2, .ref b3, .ref b4, .ref b5, .int 0])), (k0, .inr (7, [.ref b6, .ref b7, .ref b8, .ref b9, .ref b10, .int 0, .int 0])), (h0, .inr (15, [.ref a1, .ref a2, .ref a3, .ref a4, .ref a5, .int 0, .int 0, .int 110, .int 0, .int 0, .int 0])), (a4, .inr (3, [.int 0, .ref g.2.1, .int 0])), (r0, .inr (3, [.int 0, .ref g.2.1, .int 0])), (q_31, .inr (11, [.int 0, .int 0, .int 0, .int 0]))] H := hP
            have hD : va_D A [(a1, .inr (3, [.int 0, .ref g.2.1, .int 0])), (a2, .inr (3, [.int 0, .ref g.2.1, .int 0])), (a3, .inr (3, [.int 0, .ref g.2.1, .int 0])), (a5, .inr (5, [.ref k0, .ref r0, .ref b1, .ref b2, .ref b3, .ref b4, .ref b5, .int 0])), (k0, .inr (7, [.ref b6, .ref b7, .ref b8, .ref b9, .ref b10, .int 0, .int 0])), (h0, .inr (15, [.ref a1, .ref a2, .ref a3, .ref a4, .ref a5, .int 0, .int 0, .int 110, .int 0, .int 0, .int 0])), (a4, .inr (3, [.int 0, .ref g.2.1, .int 0])), (r0, .inr (3, [.int 0, .ref g.2.1, .int 0])), (q_31, .inr (11, [.int 0, .int 0, .int 0, .int 0]))] := hD
            refine W.widen (k := 3) (n := 16) (by decide) (by decide) ?_
            refine lv_dup hx hb dX11_addRecording_69 rfl ?_
            refine lv_iload_n hx hb dX11_addRecording_70 rfl (lv_at hl 1 rfl) ?_
            refine lv_iload_n hx hb dX11_addRecording_71 rfl (lv_at hl 2 rfl) ?_
            refine lv_iload_n hx hb dX11_addRecording_72 rfl (lv_at hl 3 rfl) ?_
            refine kcallI (wc := [(q_31, .inr (11, [.int 0, .int 0, .int 0, .int 0]))]) (wr := [(a1, .inr (3, [.int 0, .ref g.2.1, .int 0])), (a2, .inr (3, [.int 0, .ref g.2.1, .int 0])), (a3, .inr (3, [.int 0, .ref g.2.1, .int 0])), (a5, .inr (5, [.ref k0, .ref r0, .ref b1, .ref b2, .ref b3, .ref b4, .ref b5, .int 0])), (k0, .inr (7, [.ref b6, .ref b7, .ref b8, .ref b9, .ref b10, .int 0, .int 0])), (h0, .inr (15, [.ref a1, .ref a2, .ref a3, .ref a4, .ref a5, .int 0, .int 0, .int 110, .int 0, .int 0, .int 0])), (a4, .inr (3, [.int 0, .ref g.2.1, .int 0])), (r0, .inr (3, [.int 0, .ref g.2.1, .int 0]))]) (As := [.int x0, .int x1, .int x2]) (rest := [.ref q_31, .ref r0]) K G (m_X7_init l hl0 g q_31 x0 x1 x2 ) hP hD hS hA hl kw_238 kw_239 kw_240 kw_237 rfl ydX7_init [8] [0, 1, 2, 3, 4, 5, 6, 7] rfl rfl rfl rfl (by decide) rfl rfl (Nat.le_of_ble_eq_true rfl) dX11_addRecording_73 ⟨Nat.le_of_ble_eq_true rfl, Nat.le_of_ble_eq_true rfl⟩ ⟨Nat.le_of_ble_eq_true rfl, Nat.le_of_ble_eq_true rfl⟩ (fun _ _ _ _ _ _ hX _ _ _ _ _ _ => hX.elim) (fun v w1 H locs hQ hP hD hS => ?_)
            obtain ⟨rfl, rfl⟩ := hQ
            have hP : va_P g.1 vwCl [(a1, .inr (3, [.int 0, .ref g.2.1, .int 0])), (a2, .inr (3, [.int 0, .ref g.2.1, .int 0])), (a3, .inr (3, [.int 0, .ref g.2.1, .int 0])), (a5, .inr (5, [.ref k0, .ref r0, .ref b1, .ref b2, .ref b3, .ref b4, .ref b5, .int 0])), (k0, .inr (7, [.ref b6, .ref b7, .ref b8, .ref b9, .ref b10, .int 0, .int 0])), (h0, .inr (15, [.ref a1, .ref a2, .ref a3, .ref a4, .ref a5, .int 0, .int 0, .int 110, .int 0, .int 0, .int 0])), (a4, .inr (3, [.int 0, .ref g.2.1, .int 0])), (r0, .inr (3, [.int 0, .ref g.2.1, .int 0])), (q_31, .inr (11, [.int x0, .int x1, .int x2, .int 0]))] H := hP
            have hD : va_D A [(a1, .inr (3, [.int 0, .ref g.2.1, .int 0])), (a2, .inr (3, [.int 0, .ref g.2.1, .int 0])), (a3, .inr (3, [.int 0, .ref g.2.1, .int 0])), (a5, .inr (5, [.ref k0, .ref r0, .ref b1, .ref b2, .ref b3, .ref b4, .ref b5, .int 0])), (k0, .inr (7, [.ref b6, .ref b7, .ref b8, .ref b9, .ref b10, .int 0, .int 0])), (h0, .inr (15, [.ref a1, .ref a2, .ref a3, .ref a4, .ref a5, .int 0, .int 0, .int 110, .int 0, .int 0, .int 0])), (a4, .inr (3, [.int 0, .ref g.2.1, .int 0])), (r0, .inr (3, [.int 0, .ref g.2.1, .int 0])), (q_31, .inr (11, [.int x0, .int x1, .int x2, .int 0]))] := hD
            refine W.widen (k := 3) (n := 16) (by decide) (by decide) ?_
            refine W.eq (g2 := F0 m 76 ls [.ref q_31, .ref r0]) rfl ?_
            refine kcallV (wc := [(r0, .inr (3, [.int 0, .ref g.2.1, .int 0])), (q_31, .inr (11, [.int x0, .int x1, .int x2, .int 0]))]) (wr := [(a1, .inr (3, [.int 0, .ref g.2.1, .int 0])), (a2, .inr (3, [.int 0, .ref g.2.1, .int 0])), (a3, .inr (3, [.int 0, .ref g.2.1, .int 0])), (a5, .inr (5, [.ref k0, .ref r0, .ref b1, .ref b2, .ref b3, .ref b4, .ref b5, .int 0])), (k0, .inr (7, [.ref b6, .ref b7, .ref b8, .ref b9, .ref b10, .int 0, .int 0])), (h0, .inr (15, [.ref a1, .ref a2, .ref a3, .ref a4, .ref a5, .int 0, .int 0, .int 110, .int 0, .int 0, .int 0])), (a4, .inr (3, [.int 0, .ref g.2.1, .int 0]))]) (As := [.ref q_31]) (rest := []) K G (m_Jx4a65c_add_9ea2d l hl0 g r0 q_31 11 ([.int x0, .int x1, .int x2, .int 0]) _ rfl kw_241) hP hD hS hA hl kw_216 kw_217 kw_219 kw_220 kw_30 ydJx4a65c_add_9ea2d [7, 8] [0, 1, 2, 3, 4, 5, 6] rfl rfl rfl rfl (by decide) (ci := 3) (q0 := 7) rfl rfl rfl rfl rfl (Nat.le_of_ble_eq_true rfl) dX11_addRecording_76 ⟨Nat.le_of_ble_eq_true rfl, Nat.le_of_ble_eq_true rfl⟩ ⟨Nat.le_of_ble_eq_true rfl, Nat.le_of_ble_eq_true rfl⟩ (fun _ _ _ _ _ _ hX _ _ _ _ _ _ => hX.elim) (fun v w1 H locs hQ hP hD hS => ?_)
            obtain ⟨q0_34, rfl, rfl⟩ := hQ
            have hP : va_P g.1 vwCl [(a1, .inr (3, [.int 0, .ref g.2.1, .int 0])), (a2, .inr (3, [.int 0, .ref g.2.1, .int 0])), (a3, .inr (3, [.int 0, .ref g.2.1, .int 0])), (a5, .inr (5, [.ref k0, .ref r0, .ref b1, .ref b2, .ref b3, .ref b4, .ref b5, .int 0])), (k0, .inr (7, [.ref b6, .ref b7, .ref b8, .ref b9, .ref b10, .int 0, .int 0])), (h0, .inr (15, [.ref a1, .ref a2, .ref a3, .ref a4, .ref a5, .int 0, .int 0, .int 110, .int 0, .int 0, .int 0])), (a4, .inr (3, [.int 0, .ref g.2.1, .int 0])), (r0, .inr (3, [.int 1, .ref q0_34, .int 1]))] H := hP
            have hD : va_D A [(a1, .inr (3, [.int 0, .ref g.2.1, .int 0])), (a2, .inr (3, [.int 0, .ref g.2.1, .int 0])), (a3, .inr (3, [.int 0, .ref g.2.1, .int 0])), (a5, .inr (5, [.ref k0, .ref r0, .ref b1, .ref b2, .ref b3, .ref b4, .ref b5, .int 0])), (k0, .inr (7, [.ref b6, .ref b7, .ref b8, .ref b9, .ref b10, .int 0, .int 0])), (h0, .inr (15, [.ref a1, .ref a2, .ref a3, .ref a4, .ref a5, .int 0, .int 0, .int 110, .int 0, .int 0, .int 0])), (a4, .inr (3, [.int 0, .ref g.2.1, .int 0])), (r0, .inr (3, [.int 1, .ref q0_34, .int 1]))] := hD
            refine W.widen (k := 4) (n := 26) (by decide) (by decide) ?_
            refine W.eq (g2 := F0 m 79 ls [.int 1]) rfl ?_
            refine lv_pop hx hb dX11_addRecording_79 rfl ?_
            refine lv_aload_n hx hb dX11_addRecording_80 rfl (lv_at hl 0 rfl) ?_
            refine va_get (D := g.1) (ci := 15) (v := .ref a5) (C := RX11) (T := TX11) (N := 11) hx hb G.ws inX11 hown G.K hP 5 rfl rfl 4 (by decide) (G.w kw_54) (fun _ h9 => h9) rfl dX11_addRecording_81 ?_
            refine va_get (D := g.1) (ci := 5) (v := .ref r0) (C := RX1) (T := TX1) (N := 8) hx hb G.ws inX1 hown G.K hP 3 rfl rfl 1 (by decide) (G.w kw_55) (fun _ h9 => h9) rfl dX11_addRecording_84 ?_
            refine kcallV (wc := [(r0, .inr (3, [.int 1, .ref q0_34, .int 1]))]) (wr := [(a1, .inr (3, [.int 0, .ref g.2.1, .int 0])), (a2, .inr (3, [.int 0, .ref g.2.1, .int 0])), (a3, .inr (3, [.int 0, .ref g.2.1, .int 0])), (a5, .inr (5, [.ref k0, .ref r0, .ref b1, .ref b2, .ref b3, .ref b4, .ref b5, .int 0])), (k0, .inr (7, [.ref b6, .ref b7, .ref b8, .ref b9, .ref b10, .int 0, .int 0])), (h0, .inr (15, [.ref a1, .ref a2, .ref a3, .ref a4, .ref a5, .int 0, .int 0, .int 110, .int 0, .int 0, .int 0])), (a4, .inr (3, [.int 0, .ref g.2.1, .int 0]))]) (As := []) (rest := []) K G (m_Jx4a65c_size_8abf5 l hl0 g r0 1 q0_34 1 ) hP hD hS hA hl kw_44 kw_45 kw_46 kw_47 kw_30 ydJx4a65c_size_8abf5 [7] [0, 1, 2, 3, 4, 5, 6] rfl rfl rfl rfl (by decide) (ci := 3) (q0 := 7) rfl rfl rfl rfl rfl (Nat.le_of_ble_eq_true rfl) dX11_addRecording_87 ⟨Nat.le_of_ble_eq_true rfl, Nat.le_of_ble_eq_true rfl⟩ ⟨Nat.le_of_ble_eq_true rfl, Nat.le_of_ble_eq_true rfl⟩ (fun _ _ _ _ _ _ hX _ _ _ _ _ _ => hX.elim) (fun v w1 H locs hQ hP hD hS => ?_)
            obtain ⟨rfl, rfl⟩ := hQ
            have hP : va_P g.1 vwCl [(a1, .inr (3, [.int 0, .ref g.2.1, .int 0])), (a2, .inr (3, [.int 0, .ref g.2.1, .int 0])), (a3, .inr (3, [.int 0, .ref g.2.1, .int 0])), (a5, .inr (5, [.ref k0, .ref r0, .ref b1, .ref b2, .ref b3, .ref b4, .ref b5, .int 0])), (k0, .inr (7, [.ref b6, .ref b7, .ref b8, .ref b9, .ref b10, .int 0, .int 0])), (h0, .inr (15, [.ref a1, .ref a2, .ref a3, .ref a4, .ref a5, .int 0, .int 0, .int 110, .int 0, .int 0, .int 0])), (a4, .inr (3, [.int 0, .ref g.2.1, .int 0])), (r0, .inr (3, [.int 1, .ref q0_34, .int 1]))] H := hP
            have hD : va_D A [(a1, .inr (3, [.int 0, .ref g.2.1, .int 0])), (a2, .inr (3, [.int 0, .ref g.2.1, .int 0])), (a3, .inr (3, [.int 0, .ref g.2.1, .int 0])), (a5, .inr (5, [.ref k0, .ref r0, .ref b1, .ref b2, .ref b3, .ref b4, .ref b5, .int 0])), (k0, .inr (7, [.ref b6, .ref b7, .ref b8, .ref b9, .ref b10, .int 0, .int 0])), (h0, .inr (15, [.ref a1, .ref a2, .ref a3, .ref a4, .ref a5, .int 0, .int 0, .int 110, .int 0, .int 0, .int 0])), (a4, .inr (3, [.int 0, .ref g.2.1, .int 0])), (r0, .inr (3, [.int 1, .ref q0_34, .int 1]))] := hD
            refine W.widen (k := 4) (n := 26) (by decide) (by decide) ?_
            refine W.eq (g2 := F0 m 90 ls [.int 1]) rfl ?_
            refine lv_iconst (v := 1) hx hb dX11_addRecording_90 (by decide) ?_
            refine lv_isub hx hb dX11_addRecording_91 ?_
            refine lv_topi (fun y_36 ey_36 => ?_)
            obtain rfl : y_36 = 0 := ey_36.trans (by decide)
            exact kretI K hP hD hS [] [] rfl rfl (⟨rfl, rfl, (by simp [f_3, f_6, c15_7, c22_16, f_26])⟩) (by decide) (by decide) dX11_addRecording_92
          · have hP : va_P g.1 vwCl [(a1, .inr (3, [.int 0, .ref g.2.1, .int 0])), (a2, .inr (3, [.int 0, .ref g.2.1, .int 0])), (a3, .inr (3, [.int 0, .ref g.2.1, .int 0])), (a5, .inr (5, [.ref k0, .ref r0, .ref b1, .ref b2, .ref b3, .ref b4, .ref b5, .int 0])), (k0, .inr (7, [.ref b6, .ref b7, .ref b8, .ref b9, .ref b10, .int 0, .int 0])), (r0, .inr (3, [.int 0, .ref g.2.1, .int 0])), (h0, .inr (15, [.ref a1, .ref a2, .ref a3, .ref a4, .ref a5, .int 0, .int 0, .int 110, .int 0, .int 0, .int 0])), (a4, .inr (3, [.int 0, .ref g.2.1, .int 0]))] H := hP
            have hD : va_D A [(a1, .inr (3, [.int 0, .ref g.2.1, .int 0])), (a2, .inr (3, [.int 0, .ref g.2.1, .int 0])), (a3, .inr (3, [.int 0, .ref g.2.1, .int 0])), (a5, .inr (5, [.ref k0, .ref r0, .ref b1, .ref b2, .ref b3, .ref b4, .ref b5, .int 0])), (k0, .inr (7, [.ref b6, .ref b7, .ref b8, .ref b9, .ref b10, .int 0, .int 0])), (r0, .inr (3, [.int 0, .ref g.2.1, .int 0])), (h0, .inr (15, [.ref a1, .ref a2, .ref a3, .ref a4, .ref a5, .int 0, .int 0, .int 110, .int 0, .int 0, .int 0])), (a4, .inr (3, [.int 0, .ref g.2.1, .int 0]))] := hD
            refine W.widen (k := 2) (n := 12) (by decide) (by decide) ?_
            refine W.eq (g2 := F0 m 30 ls [.int 0]) rfl ?_
            refine lv_if_ne (tgt := 44) hx hb dX11_addRecording_30 (by decide) (fun c30_37 => absurd c30_37 (by decide)) (fun _ => ?_)
            refine kthrowNewW (cls := "java/lang/IllegalArgumentException") (text := "there is nobody and no tape like that") (names := ["java/lang/RuntimeException", "java/lang/Exception"]) (ik := 78) (ic := 82) (is := 342) hl0 K ht G hP hD hS hl (by decide +kernel) (by decide +kernel) kw_0 kw_1 (G.str (by decide +kernel)) at_X11_82 at_X11_82g dX11_addRecording_33 dX11_addRecording_36 dX11_addRecording_37 dX11_addRecording_40 dX11_addRecording_43 (Nat.le_of_ble_eq_true rfl) (Nat.le_of_ble_eq_true rfl) (Nat.le_of_ble_eq_true rfl) (Nat.le_of_ble_eq_true rfl) [] [] rfl rfl (⟨rfl, rfl, (by simp [f_3, f_6, c15_7, c22_16, f_27])⟩) (by decide) (by decide)
end
section
set_option maxHeartbeats 4000000 in
set_option maxRecDepth 100000 in
theorem m_X11_setWind (l : Launch) (hl0 : l.stackTraces = false) (g : kG) (h0 : Nat) (a1 : Nat) (a2 : Nat) (a3 : Nat) (a4 : Nat) (a5 : Nat) (tt : Int32) (wf : Int32) (ww : Int32) (te : Int32) (tn : Int32) (mo : Int32) (x0 : Int32) (x1 : Int32) (hn : narrow .char (.int x1) = .int x1) (hf : fits .char (.int x1) = true) : kc l g yX11_setWind prog_1_method_5_code 4 (some .int) 7 104 2 12 [.ref h0, .int x0, .int x1] [(h0, .inr (15, [.ref a1, .ref a2, .ref a3, .ref a4, .ref a5, .int tt, .int wf, .int ww, .int te, .int tn, .int mo]))] (fun v w => (v = some (.int wf) ∧ w = [] ∧ (inR x0 0 12 && kway x1) = true)) (fun E w => (E = "java/lang/IllegalArgumentException" ∧ w = [] ∧ (inR x0 0 12 && kway x1) = false)) := by
  refine kbody (by decide) (Nat.le_of_ble_eq_true rfl) ?_
  intro p e s m args below meth c A H K ht G hP hD hA hS ls hl
  have K : KB p s m meth c RX11 "setWind" prog_1_method_5_code 4 (some .int) := K
  obtain ⟨hx, hb, hml, hown, hlocks, hr, hin⟩ := id K
  have hl : lv_has ls 4 [(0, .ref h0), (1, .int x0), (2, .int x1)] := hl
  refine lv_iload_n hx hb dX11_setWind_0 rfl (lv_at hl 1 rfl) ?_
  refine lv_iconst (v := 0) hx hb dX11_setWind_1 (by decide) ?_
  refine lv_bipush (v := 12) hx hb dX11_setWind_2 (by decide) ?_
  refine kcallS (wc := []) (wr := [(h0, .inr (15, [.ref a1, .ref a2, .ref a3, .ref a4, .ref a5, .int tt, .int wf, .int ww, .int te, .int tn, .int mo]))]) (As := [.int x0, .int 0, .int 12]) (rest := []) K G (m_X11_requireRange l hl0 g x0 0 12 ) hP hD hS hA hl kw_2 kw_3 kw_5 kw_4 ydX11_requireRange [] [0] rfl rfl rfl rfl (by decide) rfl rfl (Nat.le_of_ble_eq_true rfl) dX11_setWind_4 ⟨Nat.le_of_ble_eq_true rfl, Nat.le_of_ble_eq_true rfl⟩ ⟨Nat.le_of_ble_eq_true rfl, Nat.le_of_ble_eq_true rfl⟩ (fun E w1 ce q9 H locs hX hP hD hS hce hcv hcl => ?_) (fun v w1 H locs hQ hP hD hS => ?_)
  · obtain ⟨rfl, rfl, f_2⟩ := hX
    have hP : va_P g.1 vwCl [(h0, .inr (15, [.ref a1, .ref a2, .ref a3, .ref a4, .ref a5, .int tt, .int wf, .int ww, .int te, .int tn, .int mo]))] H := hP
    have hD : va_D A [(h0, .inr (15, [.ref a1, .ref a2, .ref a3, .ref a4, .ref a5, .int tt, .int wf, .int ww, .int te, .int tn, .int mo]))] := hD
    refine vx_widen (k := 1) (n := 6) (by decide) (by decide) ?_
    exact kthrow K ht hP hD hS hce hcv hcl [] [] rfl rfl (⟨rfl, rfl, (by simp [kway, f_2])⟩) (by decide) (by decide)
  · obtain ⟨rfl, rfl, f_3⟩ := hQ
    have hP : va_P g.1 vwCl [(h0, .inr (15, [.ref a1, .ref a2, .ref a3, .ref a4, .ref a5, .int tt, .int wf, .int ww, .int te, .int tn, .int mo]))] H := hP
    have hD : va_D A [(h0, .inr (15, [.ref a1, .ref a2, .ref a3, .ref a4, .ref a5, .int tt, .int wf, .int ww, .int te, .int tn, .int mo]))] := hD
    refine W.widen (k := 1) (n := 6) (by decide) (by decide) ?_
    refine W.eq (g2 := F0 m 7 ls []) rfl ?_
    refine lv_iload_n hx hb dX11_setWind_7 rfl (lv_at hl 2 rfl) ?_
    refine lv_bipush (v := 110) hx hb dX11_setWind_8 (by decide) ?_
    refine lv_icmp_eq (tgt := 41) hx hb dX11_setWind_10 (by decide) (fun c10_4 => ?_) (fun c10_4 => ?_)
    · refine lv_aload_n hx hb dX11_setWind_41 rfl (lv_at hl 0 rfl) ?_
      refine va_get (D := g.1) (ci := 15) (v := .int wf) (C := RX11) (T := TX11) (N := 11) hx hb G.ws inX11 hown G.K hP 0 rfl rfl 6 (by decide) (G.w kw_77) (fun _ h9 => h9) rfl dX11_setWind_42 ?_
      refine lv_istore_n (lv' := [(3, .int wf), (0, .ref h0), (1, .int x0), (2, .int x1)]) hx hb dX11_setWind_45 rfl hl (by decide) rfl (fun ls hl => ?_)
      refine lv_aload_n hx hb dX11_setWind_46 rfl (lv_at hl 1 rfl) ?_
      refine lv_iload_n hx hb dX11_setWind_47 rfl (lv_at hl 2 rfl) ?_
      refine va_put (D := g.1) (ci := 15) (v := .int x0) (ty := .int) (C := RX11) (T := TX11) (N := 11) hx hb G.ws inX11 tyX11 tyX11_ok nmX11 hown G.K hP hD hS 0 rfl rfl 6 (by decide) (G.w kw_77) (fun _ h9 => h9) (by decide +kernel) (by decide +kernel) rfl rfl (Nat.le_of_ble_eq_true rfl) dX11_setWind_48 (fun H locs hP hD hS => ?_)
      have hP : va_P g.1 vwCl [(h0, .inr (15, [.ref a1, .ref a2, .ref a3, .ref a4, .ref a5, .int tt, .int x0, .int ww, .int te, .int tn, .int mo]))] H := hP
      have hD : va_D A [(h0, .inr (15, [.ref a1, .ref a2, .ref a3, .ref a4, .ref a5, .int tt, .int x0, .int ww, .int te, .int tn, .int mo]))] := hD
      refine lv_aload_n hx hb dX11_setWind_51 rfl (lv_at hl 1 rfl) ?_
      refine lv_iload_n hx hb dX11_setWind_52 rfl (lv_at hl 3 rfl) ?_
      refine va_put (D := g.1) (ci := 15) (v := .int x1) (ty := .char) (C := RX11) (T := TX11) (N := 11) hx hb G.ws inX11 tyX11 tyX11_ok nmX11 hown G.K hP hD hS 0 rfl rfl 7 (by decide) (G.w kw_203) (fun _ h9 => h9) (by decide +kernel) (by decide +kernel) hn hf (Nat.le_of_ble_eq_true rfl) dX11_setWind_53 (fun H locs hP hD hS => ?_)
      have hP : va_P g.1 vwCl [(h0, .inr (15, [.ref a1, .ref a2, .ref a3, .ref a4, .ref a5, .int tt, .int x0, .int x1, .int te, .int tn, .int mo]))] H := hP
      have hD : va_D A [(h0, .inr (15, [.ref a1, .ref a2, .ref a3, .ref a4, .ref a5, .int tt, .int x0, .int x1, .int te, .int tn, .int mo]))] := hD
      refine lv_iload_n hx hb dX11_setWind_56 rfl (lv_at hl 0 rfl) ?_
      exact kretI K hP hD hS [] [] rfl rfl (⟨rfl, rfl, (by simp [kway, f_3, c10_4])⟩) (by decide) (by decide) dX11_setWind_57
    · refine lv_iload_n hx hb dX11_setWind_13 rfl (lv_at hl 2 rfl) ?_
      refine lv_bipush (v := 101) hx hb dX11_setWind_14 (by decide) ?_
      refine lv_icmp_eq (tgt := 41) hx hb dX11_setWind_16 (by decide) (fun c16_5 => ?_) (fun c16_5 => ?_)
      · refine lv_aload_n hx hb dX11_setWind_41 rfl (lv_at hl 0 rfl) ?_
        refine va_get (D := g.1) (ci := 15) (v := .int wf) (C := RX11) (T := TX11) (N := 11) hx hb G.ws inX11 hown G.K hP 0 rfl rfl 6 (by decide) (G.w kw_77) (fun _ h9 => h9) rfl dX11_setWind_42 ?_
        refine lv_istore_n (lv' := [(3, .int wf), (0, .ref h0), (1, .int x0), (2, .int x1)]) hx hb dX11_setWind_45 rfl hl (by decide) rfl (fun ls hl => ?_)
        refine lv_aload_n hx hb dX11_setWind_46 rfl (lv_at hl 1 rfl) ?_
        refine lv_iload_n hx hb dX11_setWind_47 rfl (lv_at hl 2 rfl) ?_
        refine va_put (D := g.1) (ci := 15) (v := .int x0) (ty := .int) (C := RX11) (T := TX11) (N := 11) hx hb G.ws inX11 tyX11 tyX11_ok nmX11 hown G.K hP hD hS 0 rfl rfl 6 (by decide) (G.w kw_77) (fun _ h9 => h9) (by decide +kernel) (by decide +kernel) rfl rfl (Nat.le_of_ble_eq_true rfl) dX11_setWind_48 (fun H locs hP hD hS => ?_)
        have hP : va_P g.1 vwCl [(h0, .inr (15, [.ref a1, .ref a2, .ref a3, .ref a4, .ref a5, .int tt, .int x0, .int ww, .int te, .int tn, .int mo]))] H := hP
        have hD : va_D A [(h0, .inr (15, [.ref a1, .ref a2, .ref a3, .ref a4, .ref a5, .int tt, .int x0, .int ww, .int te, .int tn, .int mo]))] := hD
        refine lv_aload_n hx hb dX11_setWind_51 rfl (lv_at hl 1 rfl) ?_
        refine lv_iload_n hx hb dX11_setWind_52 rfl (lv_at hl 3 rfl) ?_
        refine va_put (D := g.1) (ci := 15) (v := .int x1) (ty := .char) (C := RX11) (T := TX11) (N := 11) hx hb G.ws inX11 tyX11 tyX11_ok nmX11 hown G.K hP hD hS 0 rfl rfl 7 (by decide) (G.w kw_203) (fun _ h9 => h9) (by decide +kernel) (by decide +kernel) hn hf (Nat.le_of_ble_eq_true rfl) dX11_setWind_53 (fun H locs hP hD hS => ?_)
        have hP : va_P g.1 vwCl [(h0, .inr (15, [.ref a1, .ref a2, .ref a3, .ref a4, .ref a5, .int tt, .int x0, .int x1, .int te, .int tn, .int mo]))] H := hP
        have hD : va_D A [(h0, .inr (15, [.ref a1, .ref a2, .ref a3, .ref a4, .ref a5, .int tt, .int x0, .int x1, .int te, .int tn, .int mo]))] := hD
        refine lv_iload_n hx hb dX11_setWind_56 rfl (lv_at hl 0 rfl) ?_
        exact kretI K hP hD hS [] [] rfl rfl (⟨rfl, rfl, (by simp [kway, f_3, c10_4, c16_5])⟩) (by decide) (by decide) dX11_setWind_57
      · refine lv_iload_n hx hb dX11_setWind_19 rfl (lv_at hl 2 rfl) ?_
        refine lv_bipush (v := 115) hx hb dX11_setWind_20 (by decide) ?_
        refine lv_icmp_eq (tgt := 41) hx hb dX11_setWind_22 (by decide) (fun c22_6 => ?_) (fun c22_6 => ?_)
        · refine lv_aload_n hx hb dX11_setWind_41 rfl (lv_at hl 0 rfl) ?_
          refine va_get (D := g.1) (ci := 15) (v := .int wf) (C := RX11) (T := TX11) (N := 11) hx hb G.ws inX11 hown G.K hP 0 rfl rfl 6 (by decide) (G.w kw_77) (fun _ h9 => h9) rfl dX11_setWind_42 ?_
          refine lv_istore_n (lv' := [(3, .int wf), (0, .ref h0), (1, .int x0), (2, .int x1)]) hx hb dX11_setWind_45 rfl hl (by decide) rfl (fun ls hl => ?_)
          refine lv_aload_n hx hb dX11_setWind_46 rfl (lv_at hl 1 rfl) ?_
          refine lv_iload_n hx hb dX11_setWind_47 rfl (lv_at hl 2 rfl) ?_
          refine va_put (D := g.1) (ci := 15) (v := .int x0) (ty := .int) (C := RX11) (T := TX11) (N := 11) hx hb G.ws inX11 tyX11 tyX11_ok nmX11 hown G.K hP hD hS 0 rfl rfl 6 (by decide) (G.w kw_77) (fun _ h9 => h9) (by decide +kernel) (by decide +kernel) rfl rfl (Nat.le_of_ble_eq_true rfl) dX11_setWind_48 (fun H locs hP hD hS => ?_)
          have hP : va_P g.1 vwCl [(h0, .inr (15, [.ref a1, .ref a2, .ref a3, .ref a4, .ref a5, .int tt, .int x0, .int ww, .int te, .int tn, .int mo]))] H := hP
          have hD : va_D A [(h0, .inr (15, [.ref a1, .ref a2, .ref a3, .ref a4, .ref a5, .int tt, .int x0, .int ww, .int te, .int tn, .int mo]))] := hD
          refine lv_aload_n hx hb dX11_setWind_51 rfl (lv_at hl 1 rfl) ?_
          refine lv_iload_n hx hb dX11_setWind_52 rfl (lv_at hl 3 rfl) ?_
          refine va_put (D := g.1) (ci := 15) (v := .int x1) (ty := .char) (C := RX11) (T := TX11) (N := 11) hx hb G.ws inX11 tyX11 tyX11_ok nmX11 hown G.K hP hD hS 0 rfl rfl 7 (by decide) (G.w kw_203) (fun _ h9 => h9) (by decide +kernel) (by decide +kernel) hn hf (Nat.le_of_ble_eq_true rfl) dX11_setWind_53 (fun H locs hP hD hS => ?_)
          have hP : va_P g.1 vwCl [(h0, .inr (15, [.ref a1, .ref a2, .ref a3, .ref a4, .ref a5, .int tt, .int x0, .int x1, .int te, .int tn, .int mo]))] H := hP
          have hD : va_D A [(h0, .inr (15, [.ref a1, .ref a2, .ref a3, .ref a4, .ref a5, .int tt, .int x0, .int x1, .int te, .int tn, .int mo]))] := hD
          refine lv_iload_n hx hb dX11_setWind_56 rfl (lv_at hl 0 rfl) ?_
          exact kretI K hP hD hS [] [] rfl rfl (⟨rfl, rfl, (by simp [kway, f_3, c10_4, c16_5, c22_6])⟩) (by decide) (by decide) dX11_setWind_57
        · refine lv_iload_n hx hb dX11_setWind_25 rfl (lv_at hl 2 rfl) ?_
          refine lv_bipush (v := 119) hx hb dX11_setWind_26 (by decide) ?_
          refine lv_icmp_eq (tgt := 41) hx hb dX11_setWind_28 (by decide) (fun c28_7 => ?_) (fun c28_7 => ?_)
          · refine lv_aload_n hx hb dX11_setWind_41 rfl (lv_at hl 0 rfl) ?_
            refine va_get (D := g.1) (ci := 15) (v := .int wf) (C := RX11) (T := TX11) (N := 11) hx hb G.ws inX11 hown G.K hP 0 rfl rfl 6 (by decide) (G.w kw_77) (fun _ h9 => h9) rfl dX11_setWind_42 ?_
            refine lv_istore_n (lv' := [(3, .int wf), (0, .ref h0), (1, .int x0), (2, .int x1)]) hx hb dX11_setWind_45 rfl hl (by decide) rfl (fun ls hl => ?_)
            refine lv_aload_n hx hb dX11_setWind_46 rfl (lv_at hl 1 rfl) ?_
            refine lv_iload_n hx hb dX11_setWind_47 rfl (lv_at hl 2 rfl) ?_
            refine va_put (D := g.1) (ci := 15) (v := .int x0) (ty := .int) (C := RX11) (T := TX11) (N := 11) hx hb G.ws inX11 tyX11 tyX11_ok nmX11 hown G.K hP hD hS 0 rfl rfl 6 (by decide) (G.w kw_77) (fun _ h9 => h9) (by decide +kernel) (by decide +kernel) rfl rfl (Nat.le_of_ble_eq_true rfl) dX11_setWind_48 (fun H locs hP hD hS => ?_)
            have hP : va_P g.1 vwCl [(h0, .inr (15, [.ref a1, .ref a2, .ref a3, .ref a4, .ref a5, .int tt, .int x0, .int ww, .int te, .int tn, .int mo]))] H := hP
            have hD : va_D A [(h0, .inr (15, [.ref a1, .ref a2, .ref a3, .ref a4, .ref a5, .int tt, .int x0, .int ww, .int te, .int tn, .int mo]))] := hD
            refine lv_aload_n hx hb dX11_setWind_51 rfl (lv_at hl 1 rfl) ?_
            refine lv_iload_n hx hb dX11_setWind_52 rfl (lv_at hl 3 rfl) ?_
            refine va_put (D := g.1) (ci := 15) (v := .int x1) (ty := .char) (C := RX11) (T := TX11) (N := 11) hx hb G.ws inX11 tyX11 tyX11_ok nmX11 hown G.K hP hD hS 0 rfl rfl 7 (by decide) (G.w kw_203) (fun _ h9 => h9) (by decide +kernel) (by decide +kernel) hn hf (Nat.le_of_ble_eq_true rfl) dX11_setWind_53 (fun H locs hP hD hS => ?_)
            have hP : va_P g.1 vwCl [(h0, .inr (15, [.ref a1, .ref a2, .ref a3, .ref a4, .ref a5, .int tt, .int x0, .int x1, .int te, .int tn, .int mo]))] H := hP
            have hD : va_D A [(h0, .inr (15, [.ref a1, .ref a2, .ref a3, .ref a4, .ref a5, .int tt, .int x0, .int x1, .int te, .int tn, .int mo]))] := hD
            refine lv_iload_n hx hb dX11_setWind_56 rfl (lv_at hl 0 rfl) ?_
            exact kretI K hP hD hS [] [] rfl rfl (⟨rfl, rfl, (by simp [kway, f_3, c10_4, c16_5, c22_6, c28_7])⟩) (by decide) (by decide) dX11_setWind_57
          · refine kthrowNew (cls := "java/lang/IllegalArgumentException") (text := "there is no such way") (names := ["java/lang/RuntimeException", "java/lang/Exception"]) (ik := 78) (ic := 82) (is := 80) hl0 K ht G hP hD hS hl (by decide +kernel) (by decide +kernel) kw_0 kw_1 (G.str (by decide +kernel)) at_X11_82 at_X11_82g dX11_setWind_31 dX11_setWind_34 dX11_setWind_35 dX11_setWind_37 dX11_setWind_40 (Nat.le_of_ble_eq_true rfl) (Nat.le_of_ble_eq_true rfl) (Nat.le_of_ble_eq_true rfl) (Nat.le_of_ble_eq_true rfl) [] [] rfl rfl (⟨rfl, rfl, (by simp [kway, f_3, c10_4, c16_5, c22_6, c28_7])⟩) (by decide) (by decide)

set_option maxHeartbeats 4000000 in
set_option maxRecDepth 100000 in
theorem m_X11_setTide (l : Launch) (hl0 : l.stackTraces = false) (g : kG) (h0 : Nat) (a1 : Nat) (a2 : Nat) (a3 : Nat) (a4 : Nat) (a5 : Nat) (tt : Int32) (wf : Int32) (ww : Int32) (te : Int32) (tn : Int32) (mo : Int32) (x0 : Int32) (x1 : Int32)  : kc l g yX11_setTide prog_1_method_6_code 4 (some .int) 7 104 2 12 [.ref h0, .int x0, .int x1] [(h0, .inr (15, [.ref a1, .ref a2, .ref a3, .ref a4, .ref a5, .int tt, .int wf, .int ww, .int te, .int tn, .int mo]))] (fun v w => (v = some (.int te) ∧ w = [] ∧ (inR x0 (-3) 3 && inR x1 (-3) 3) = true)) (fun E w => (E = "java/lang/IllegalArgumentException" ∧ w = [] ∧ (inR x0 (-3) 3 && inR x1 (-3) 3) = false)) := by
  refine kbody (by decide) (Nat.le_of_ble_eq_true rfl) ?_
  intro p e s m args below meth c A H K ht G hP hD hA hS ls hl
  have K : KB p s m meth c RX11 "setTide" prog_1_method_6_code 4 (some .int) := K
  obtain ⟨hx, hb, hml, hown, hlocks, hr, hin⟩ := id K
  have hl : lv_has ls 4 [(0, .ref h0), (1, .int x0), (2, .int x1)] := hl
  refine lv_iload_n hx hb dX11_setTide_0 rfl (lv_at hl 1 rfl) ?_
  refine lv_bipush (v := (-3)) hx hb dX11_setTide_1 (by decide) ?_
  refine lv_iconst (v := 3) hx hb dX11_setTide_3 (by decide) ?_
  refine kcallS (wc := []) (wr := [(h0, .inr (15, [.ref a1, .ref a2, .ref a3, .ref a4, .ref a5, .int tt, .int wf, .int ww, .int te, .int tn, .int mo]))]) (As := [.int x0, .int (-3), .int 3]) (rest := []) K G (m_X11_requireRange l hl0 g x0 (-3) 3 ) hP hD hS hA hl kw_2 kw_3 kw_5 kw_4 ydX11_requireRange [] [0] rfl rfl rfl rfl (by decide) rfl rfl (Nat.le_of_ble_eq_true rfl) dX11_setTide_4 ⟨Nat.le_of_ble_eq_true rfl, Nat.le_of_ble_eq_true rfl⟩ ⟨Nat.le_of_ble_eq_true rfl, Nat.le_of_ble_eq_true rfl⟩ (fun E w1 ce q9 H locs hX hP hD hS hce hcv hcl => ?_) (fun v w1 H locs hQ hP hD hS => ?_)
  · obtain ⟨rfl, rfl, f_2⟩ := hX
    have hP : va_P g.1 vwCl [(h0, .inr (15, [.ref a1, .ref a2, .ref a3, .ref a4, .ref a5, .int tt, .int wf, .int ww, .int te, .int tn, .int mo]))] H := hP
    have hD : va_D A [(h0, .inr (15, [.ref a1, .ref a2, .ref a3, .ref a4, .ref a5, .int tt, .int wf, .int ww, .int te, .int tn, .int mo]))] := hD
    refine vx_widen (k := 1) (n := 6) (by decide) (by decide) ?_
    exact kthrow K ht hP hD hS hce hcv hcl [] [] rfl rfl (⟨rfl, rfl, (by simp [f_2])⟩) (by decide) (by decide)
  · obtain ⟨rfl, rfl, f_3⟩ := hQ
    have hP : va_P g.1 vwCl [(h0, .inr (15, [.ref a1, .ref a2, .ref a3, .ref a4, .ref a5, .int tt, .int wf, .int ww, .int te, .int tn, .int mo]))] H := hP
    have hD : va_D A [(h0, .inr (15, [.ref a1, .ref a2, .ref a3, .ref a4, .ref a5, .int tt, .int wf, .int ww, .int te, .int tn, .int mo]))] := hD
    refine W.widen (k := 1) (n := 6) (by decide) (by decide) ?_
    refine W.eq (g2 := F0 m 7 ls []) rfl ?_
    refine lv_iload_n hx hb dX11_setTide_7 rfl (lv_at hl 2 rfl) ?_
    refine lv_bipush (v := (-3)) hx hb dX11_setTide_8 (by decide) ?_
    refine lv_iconst (v := 3) hx hb dX11_setTide_10 (by decide) ?_
    refine kcallS (wc := []) (wr := [(h0, .inr (15, [.ref a1, .ref a2, .ref a3, .ref a4, .ref a5, .int tt, .int wf, .int ww, .int te, .int tn, .int mo]))]) (As := [.int x1, .int (-3), .int 3]) (rest := []) K G (m_X11_requireRange l hl0 g x1 (-3) 3 ) hP hD hS hA hl kw_2 kw_3 kw_5 kw_4 ydX11_requireRange [] [0] rfl rfl rfl rfl (by decide) rfl rfl (Nat.le_of_ble_eq_true rfl) dX11_setTide_11 ⟨Nat.le_of_ble_eq_true rfl, Nat.le_of_ble_eq_true rfl⟩ ⟨Nat.le_of_ble_eq_true rfl, Nat.le_of_ble_eq_true rfl⟩ (fun E w1 ce q9 H locs hX hP hD hS hce hcv hcl => ?_) (fun v w1 H locs hQ hP hD hS => ?_)
    · obtain ⟨rfl, rfl, f_5⟩ := hX
      have hP : va_P g.1 vwCl [(h0, .inr (15, [.ref a1, .ref a2, .ref a3, .ref a4, .ref a5, .int tt, .int wf, .int ww, .int te, .int tn, .int mo]))] H := hP
      have hD : va_D A [(h0, .inr (15, [.ref a1, .ref a2, .ref a3, .ref a4, .ref a5, .int tt, .int wf, .int ww, .int te, .int tn, .int mo]))] := hD
      refine vx_widen (k := 2) (n := 12) (by decide) (by decide) ?_
      exact kthrow K ht hP hD hS hce hcv hcl [] [] rfl rfl (⟨rfl, rfl, (by simp [f_3, f_5])⟩) (by decide) (by decide)
    · obtain ⟨rfl, rfl, f_6⟩ := hQ
      have hP : va_P g.1 vwCl [(h0, .inr (15, [.ref a1, .ref a2, .ref a3, .ref a4, .ref a5, .int tt, .int wf, .int ww, .int te, .int tn, .int mo]))] H := hP
      have hD : va_D A [(h0, .inr (15, [.ref a1, .ref a2, .ref a3, .ref a4, .ref a5, .int tt, .int wf, .int ww, .int te, .int tn, .int mo]))] := hD
      refine W.widen (k := 2) (n := 12) (by decide) (by decide) ?_
      refine W.eq (g2 := F0 m 14 ls []) rfl ?_
      refine lv_aload_n hx hb dX11_setTide_14 rfl (lv_at hl 0 rfl) ?_
      refine va_get (D := g.1) (ci := 15) (v := .int te) (C := RX11) (T := TX11) (N := 11) hx hb G.ws inX11 hown G.K hP 0 rfl rfl 8 (by decide) (G.w kw_246) (fun _ h9 => h9) rfl dX11_setTide_15 ?_
      refine lv_istore_n (lv' := [(3, .int te), (0, .ref h0), (1, .int x0), (2, .int x1)]) hx hb dX11_setTide_18 rfl hl (by decide) rfl (fun ls hl => ?_)
      refine lv_aload_n hx hb dX11_setTide_19 rfl (lv_at hl 1 rfl) ?_
      refine lv_iload_n hx hb dX11_setTide_20 rfl (lv_at hl 2 rfl) ?_
      refine va_put (D := g.1) (ci := 15) (v := .int x0) (ty := .int) (C := RX11) (T := TX11) (N := 11) hx hb G.ws inX11 tyX11 tyX11_ok nmX11 hown G.K hP hD hS 0 rfl rfl 8 (by decide) (G.w kw_246) (fun _ h9 => h9) (by decide +kernel) (by decide +kernel) rfl rfl (Nat.le_of_ble_eq_true rfl) dX11_setTide_21 (fun H locs hP hD hS => ?_)
      have hP : va_P g.1 vwCl [(h0, .inr (15, [.ref a1, .ref a2, .ref a3, .ref a4, .ref a5, .int tt, .int wf, .int ww, .int x0, .int tn, .int mo]))] H := hP
      have hD : va_D A [(h0, .inr (15, [.ref a1, .ref a2, .ref a3, .ref a4, .ref a5, .int tt, .int wf, .int ww, .int x0, .int tn, .int mo]))] := hD
      refine lv_aload_n hx hb dX11_setTide_24 rfl (lv_at hl 1 rfl) ?_
      refine lv_iload_n hx hb dX11_setTide_25 rfl (lv_at hl 3 rfl) ?_
      refine va_put (D := g.1) (ci := 15) (v := .int x1) (ty := .int) (C := RX11) (T := TX11) (N := 11) hx hb G.ws inX11 tyX11 tyX11_ok nmX11 hown G.K hP hD hS 0 rfl rfl 9 (by decide) (G.w kw_247) (fun _ h9 => h9) (by decide +kernel) (by decide +kernel) rfl rfl (Nat.le_of_ble_eq_true rfl) dX11_setTide_26 (fun H locs hP hD hS => ?_)
      have hP : va_P g.1 vwCl [(h0, .inr (15, [.ref a1, .ref a2, .ref a3, .ref a4, .ref a5, .int tt, .int wf, .int ww, .int x0, .int x1, .int mo]))] H := hP
      have hD : va_D A [(h0, .inr (15, [.ref a1, .ref a2, .ref a3, .ref a4, .ref a5, .int tt, .int wf, .int ww, .int x0, .int x1, .int mo]))] := hD
      refine lv_iload_n hx hb dX11_setTide_29 rfl (lv_at hl 0 rfl) ?_
      exact kretI K hP hD hS [] [] rfl rfl (⟨rfl, rfl, (by simp [f_3, f_6])⟩) (by decide) (by decide) dX11_setTide_30

set_option maxHeartbeats 4000000 in
set_option maxRecDepth 100000 in
theorem m_X11_getMoney (l : Launch) (hl0 : l.stackTraces = false) (g : kG) (h0 : Nat) (a1 : Nat) (a2 : Nat) (a3 : Nat) (a4 : Nat) (a5 : Nat) (tt : Int32) (wf : Int32) (ww : Int32) (te : Int32) (tn : Int32) (mo : Int32)  : kc l g yX11_getMoney prog_1_method_40_code 1 (some .int) 0 0 0 0 [.ref h0] [(h0, .inr (15, [.ref a1, .ref a2, .ref a3, .ref a4, .ref a5, .int tt, .int wf, .int ww, .int te, .int tn, .int mo]))] (fun v w => (v = some (.int mo) ∧ w = [])) (fun _ _ => False) := by
  refine kbody (by decide) (Nat.le_of_ble_eq_true rfl) ?_
  intro p e s m args below meth c A H K ht G hP hD hA hS ls hl
  have K : KB p s m meth c RX11 "getMoney" prog_1_method_40_code 1 (some .int) := K
  obtain ⟨hx, hb, hml, hown, hlocks, hr, hin⟩ := id K
  have hl : lv_has ls 1 [(0, .ref h0)] := hl
  refine lv_aload_n hx hb dX11_getMoney_0 rfl (lv_at hl 0 rfl) ?_
  refine va_get (D := g.1) (ci := 15) (v := .int mo) (C := RX11) (T := TX11) (N := 11) hx hb G.ws inX11 hown G.K hP 0 rfl rfl 10 (by decide) (G.w kw_64) (fun _ h9 => h9) rfl dX11_getMoney_1 ?_
  exact kretI K hP hD hS [] [] rfl rfl (⟨rfl, rfl⟩) (by decide) (by decide) dX11_getMoney_4

set_option maxHeartbeats 4000000 in
set_option maxRecDepth 100000 in
theorem m_X11_getKept (l : Launch) (hl0 : l.stackTraces = false) (g : kG) (h0 : Nat) (a1 : Nat) (a2 : Nat) (a3 : Nat) (a4 : Nat) (a5 : Nat) (k0 : Nat) (r0 : Nat) (b1 : Nat) (b2 : Nat) (b3 : Nat) (b4 : Nat) (b5 : Nat) (b6 : Nat) (b7 : Nat) (b8 : Nat) (b9 : Nat) (b10 : Nat)  : kc l g yX11_getKept prog_1_method_44_code 1 (some .int) 0 0 0 0 [.ref h0] [(h0, .inr (15, [.ref a1, .ref a2, .ref a3, .ref a4, .ref a5, .int 0, .int 0, .int 110, .int 0, .int 0, .int 0])), (a1, .inr (3, [.int 0, .ref g.2.1, .int 0])), (a2, .inr (3, [.int 0, .ref g.2.1, .int 0])), (a3, .inr (3, [.int 0, .ref g.2.1, .int 0])), (a4, .inr (3, [.int 0, .ref g.2.1, .int 0])), (a5, .inr (5, [.ref k0, .ref r0, .ref b1, .ref b2, .ref b3, .ref b4, .ref b5, .int 0])), (k0, .inr (7, [.ref b6, .ref b7, .ref b8, .ref b9, .ref b10, .int 0, .int 0])), (r0, .inr (3, [.int 0, .ref g.2.1, .int 0]))] (fun v w => (v = some (.int 0) ∧ w = [])) (fun _ _ => False) := by
  refine kbody (by decide) (Nat.le_of_ble_eq_true rfl) ?_
  intro p e s m args below meth c A H K ht G hP hD hA hS ls hl
  have K : KB p s m meth c RX11 "getKept" prog_1_method_44_code 1 (some .int) := K
  obtain ⟨hx, hb, hml, hown, hlocks, hr, hin⟩ := id K
  have hl : lv_has ls 1 [(0, .ref h0)] := hl
  refine lv_aload_n hx hb dX11_getKept_0 rfl (lv_at hl 0 rfl) ?_
  refine va_get (D := g.1) (ci := 15) (v := .ref a5) (C := RX11) (T := TX11) (N := 11) hx hb G.ws inX11 hown G.K hP 0 rfl rfl 4 (by decide) (G.w kw_54) (fun _ h9 => h9) rfl dX11_getKept_1 ?_
  refine va_get (D := g.1) (ci := 5) (v := .ref k0) (C := RX1) (T := TX1) (N := 8) hx hb G.ws inX1 hown G.K hP 5 rfl rfl 0 (by decide) (G.w kw_248) (fun _ h9 => h9) rfl dX11_getKept_4 ?_
  refine va_get (D := g.1) (ci := 7) (v := .int 0) (C := RX3) (T := TX3) (N := 7) hx hb G.ws inX3 hown G.K hP 6 rfl rfl 6 (by decide) (G.w kw_249) (fun _ h9 => h9) rfl dX11_getKept_7 ?_
  exact kretI K hP hD hS [] [] rfl rfl (⟨rfl, rfl⟩) (by decide) (by decide) dX11_getKept_10

set_option maxHeartbeats 4000000 in
set_option maxRecDepth 100000 in
theorem m_X11_getNightShare (l : Launch) (hl0 : l.stackTraces = false) (g : kG) (h0 : Nat) (a1 : Nat) (a2 : Nat) (a3 : Nat) (a4 : Nat) (a5 : Nat) (k0 : Nat) (r0 : Nat) (b1 : Nat) (b2 : Nat) (b3 : Nat) (b4 : Nat) (b5 : Nat) (b6 : Nat) (b7 : Nat) (b8 : Nat) (b9 : Nat) (b10 : Nat)  : kc l g yX11_getNightShare prog_1_method_49_code 2 (some .float) 6 82 1 6 [.ref h0] [(h0, .inr (15, [.ref a1, .ref a2, .ref a3, .ref a4, .ref a5, .int 0, .int 0, .int 110, .int 0, .int 0, .int 0])), (a1, .inr (3, [.int 0, .ref g.2.1, .int 0])), (a2, .inr (3, [.int 0, .ref g.2.1, .int 0])), (a3, .inr (3, [.int 0, .ref g.2.1, .int 0])), (a4, .inr (3, [.int 0, .ref g.2.1, .int 0])), (a5, .inr (5, [.ref k0, .ref r0, .ref b1, .ref b2, .ref b3, .ref b4, .ref b5, .int 0])), (k0, .inr (7, [.ref b6, .ref b7, .ref b8, .ref b9, .ref b10, .int 0, .int 0])), (r0, .inr (3, [.int 0, .ref g.2.1, .int 0]))] (fun _ _ => False) (fun E w => (E = "java/lang/ArithmeticException" ∧ w = [])) := by
  refine kbody (by decide) (Nat.le_of_ble_eq_true rfl) ?_
  intro p e s m args below meth c A H K ht G hP hD hA hS ls hl
  have K : KB p s m meth c RX11 "getNightShare" prog_1_method_49_code 2 (some .float) := K
  obtain ⟨hx, hb, hml, hown, hlocks, hr, hin⟩ := id K
  have hl : lv_has ls 2 [(0, .ref h0)] := hl
  refine lv_aload_n hx hb dX11_getNightShare_0 rfl (lv_at hl 0 rfl) ?_
  refine va_get (D := g.1) (ci := 15) (v := .ref a5) (C := RX11) (T := TX11) (N := 11) hx hb G.ws inX11 hown G.K hP 0 rfl rfl 4 (by decide) (G.w kw_54) (fun _ h9 => h9) rfl dX11_getNightShare_1 ?_
  refine va_get (D := g.1) (ci := 5) (v := .ref k0) (C := RX1) (T := TX1) (N := 8) hx hb G.ws inX1 hown G.K hP 5 rfl rfl 0 (by decide) (G.w kw_248) (fun _ h9 => h9) rfl dX11_getNightShare_4 ?_
  refine va_get (D := g.1) (ci := 7) (v := .int 0) (C := RX3) (T := TX3) (N := 7) hx hb G.ws inX3 hown G.K hP 6 rfl rfl 6 (by decide) (G.w kw_249) (fun _ h9 => h9) rfl dX11_getNightShare_7 ?_
  refine lv_istore_n (lv' := [(1, .int 0), (0, .ref h0)]) hx hb dX11_getNightShare_10 rfl hl (by decide) rfl (fun ls hl => ?_)
  refine lv_iload_n hx hb dX11_getNightShare_11 rfl (lv_at hl 0 rfl) ?_
  refine lv_if_ne (tgt := 26) hx hb dX11_getNightShare_12 (by decide) (fun c12_1 => absurd c12_1 (by decide)) (fun _ => ?_)
  refine kthrowNewW (cls := "java/lang/ArithmeticException") (text := "no hours are kept") (names := ["java/lang/RuntimeException", "java/lang/Exception"]) (ik := 377) (ic := 381) (is := 379) hl0 K ht G hP hD hS hl (by decide +kernel) (by decide +kernel) kw_250 kw_251 (G.str (by decide +kernel)) at_X11_381 at_X11_381g dX11_getNightShare_15 dX11_getNightShare_18 dX11_getNightShare_19 dX11_getNightShare_22 dX11_getNightShare_25 (Nat.le_of_ble_eq_true rfl) (Nat.le_of_ble_eq_true rfl) (Nat.le_of_ble_eq_true rfl) (Nat.le_of_ble_eq_true rfl) [] [] rfl rfl (⟨rfl, rfl⟩) (by decide) (by decide)

set_option maxHeartbeats 4000000 in
set_option maxRecDepth 100000 in
theorem m_X11_getMeanCrew (l : Launch) (hl0 : l.stackTraces = false) (g : kG) (h0 : Nat) (a1 : Nat) (a2 : Nat) (a3 : Nat) (a4 : Nat) (a5 : Nat) (k0 : Nat) (r0 : Nat) (b1 : Nat) (b2 : Nat) (b3 : Nat) (b4 : Nat) (b5 : Nat) (b6 : Nat) (b7 : Nat) (b8 : Nat) (b9 : Nat) (b10 : Nat)  : kc l g yX11_getMeanCrew prog_1_method_50_code 2 (some .double) 6 82 1 6 [.ref h0] [(h0, .inr (15, [.ref a1, .ref a2, .ref a3, .ref a4, .ref a5, .int 0, .int 0, .int 110, .int 0, .int 0, .int 0])), (a1, .inr (3, [.int 0, .ref g.2.1, .int 0])), (a2, .inr (3, [.int 0, .ref g.2.1, .int 0])), (a3, .inr (3, [.int 0, .ref g.2.1, .int 0])), (a4, .inr (3, [.int 0, .ref g.2.1, .int 0])), (a5, .inr (5, [.ref k0, .ref r0, .ref b1, .ref b2, .ref b3, .ref b4, .ref b5, .int 0])), (k0, .inr (7, [.ref b6, .ref b7, .ref b8, .ref b9, .ref b10, .int 0, .int 0])), (r0, .inr (3, [.int 0, .ref g.2.1, .int 0]))] (fun _ _ => False) (fun E w => (E = "java/lang/ArithmeticException" ∧ w = [])) := by
  refine kbody (by decide) (Nat.le_of_ble_eq_true rfl) ?_
  intro p e s m args below meth c A H K ht G hP hD hA hS ls hl
  have K : KB p s m meth c RX11 "getMeanCrew" prog_1_method_50_code 2 (some .double) := K
  obtain ⟨hx, hb, hml, hown, hlocks, hr, hin⟩ := id K
  have hl : lv_has ls 2 [(0, .ref h0)] := hl
  refine lv_aload_n hx hb dX11_getMeanCrew_0 rfl (lv_at hl 0 rfl) ?_
  refine va_get (D := g.1) (ci := 15) (v := .ref a3) (C := RX11) (T := TX11) (N := 11) hx hb G.ws inX11 hown G.K hP 0 rfl rfl 2 (by decide) (G.w kw_52) (fun _ h9 => h9) rfl dX11_getMeanCrew_1 ?_
  refine kcallV (wc := [(a3, .inr (3, [.int 0, .ref g.2.1, .int 0]))]) (wr := [(h0, .inr (15, [.ref a1, .ref a2, .ref a3, .ref a4, .ref a5, .int 0, .int 0, .int 110, .int 0, .int 0, .int 0])), (a1, .inr (3, [.int 0, .ref g.2.1, .int 0])), (a2, .inr (3, [.int 0, .ref g.2.1, .int 0])), (a4, .inr (3, [.int 0, .ref g.2.1, .int 0])), (a5, .inr (5, [.ref k0, .ref r0, .ref b1, .ref b2, .ref b3, .ref b4, .ref b5, .int 0])), (k0, .inr (7, [.ref b6, .ref b7, .ref b8, .ref b9, .ref b10, .int 0, .int 0])), (r0, .inr (3, [.int 0, .ref g.2.1, .int 0]))]) (As := []) (rest := []) K G (m_Jx4a65c_size_8abf5 l hl0 g a3 0 g.2.1 0 ) hP hD hS hA hl kw_44 kw_45 kw_46 kw_47 kw_30 ydJx4a65c_size_8abf5 [3] [0, 1, 2, 4, 5, 6, 7] rfl rfl rfl rfl (by decide) (ci := 3) (q0 := 3) rfl rfl rfl rfl rfl (Nat.le_of_ble_eq_true rfl) dX11_getMeanCrew_4 ⟨Nat.le_of_ble_eq_true rfl, Nat.le_of_ble_eq_true rfl⟩ ⟨Nat.le_of_ble_eq_true rfl, Nat.le_of_ble_eq_true rfl⟩ (fun _ _ _ _ _ _ hX _ _ _ _ _ _ => hX.elim) (fun v w1 H locs hQ hP hD hS => ?_)
  obtain ⟨rfl, rfl⟩ := hQ
  have hP : va_P g.1 vwCl [(h0, .inr (15, [.ref a1, .ref a2, .ref a3, .ref a4, .ref a5, .int 0, .int 0, .int 110, .int 0, .int 0, .int 0])), (a1, .inr (3, [.int 0, .ref g.2.1, .int 0])), (a2, .inr (3, [.int 0, .ref g.2.1, .int 0])), (a4, .inr (3, [.int 0, .ref g.2.1, .int 0])), (a5, .inr (5, [.ref k0, .ref r0, .ref b1, .ref b2, .ref b3, .ref b4, .ref b5, .int 0])), (k0, .inr (7, [.ref b6, .ref b7, .ref b8, .ref b9, .ref b10, .int 0, .int 0])), (r0, .inr (3, [.int 0, .ref g.2.1, .int 0])), (a3, .inr (3, [.int 0, .ref g.2.1, .int 0]))] H := hP
  have hD : va_D A [(h0, .inr (15, [.ref a1, .ref a2, .ref a3, .ref a4, .ref a5, .int 0, .int 0, .int 110, .int 0, .int 0, .int 0])), (a1, .inr (3, [.int 0, .ref g.2.1, .int 0])), (a2, .inr (3, [.int 0, .ref g.2.1, .int 0])), (a4, .inr (3, [.int 0, .ref g.2.1, .int 0])), (a5, .inr (5, [.ref k0, .ref r0, .ref b1, .ref b2, .ref b3, .ref b4, .ref b5, .int 0])), (k0, .inr (7, [.ref b6, .ref b7, .ref b8, .ref b9, .ref b10, .int 0, .int 0])), (r0, .inr (3, [.int 0, .ref g.2.1, .int 0])), (a3, .inr (3, [.int 0, .ref g.2.1, .int 0]))] := hD
  refine W.widen (k := 0) (n := 0) (by decide) (by decide) ?_
  refine W.eq (g2 := F0 m 7 ls [.int 0]) rfl ?_
  refine lv_istore_n (lv' := [(1, .int 0), (0, .ref h0)]) hx hb dX11_getMeanCrew_7 rfl hl (by decide) rfl (fun ls hl => ?_)
  refine lv_iload_n hx hb dX11_getMeanCrew_8 rfl (lv_at hl 0 rfl) ?_
  refine lv_if_ne (tgt := 23) hx hb dX11_getMeanCrew_9 (by decide) (fun c9_2 => absurd c9_2 (by decide)) (fun _ => ?_)
  refine kthrowNewW (cls := "java/lang/ArithmeticException") (text := "there are no ships") (names := ["java/lang/RuntimeException", "java/lang/Exception"]) (ik := 377) (ic := 381) (is := 385) hl0 K ht G hP hD hS hl (by decide +kernel) (by decide +kernel) kw_250 kw_251 (G.str (by decide +kernel)) at_X11_381 at_X11_381g dX11_getMeanCrew_12 dX11_getMeanCrew_15 dX11_getMeanCrew_16 dX11_getMeanCrew_19 dX11_getMeanCrew_22 (Nat.le_of_ble_eq_true rfl) (Nat.le_of_ble_eq_true rfl) (Nat.le_of_ble_eq_true rfl) (Nat.le_of_ble_eq_true rfl) [] [] rfl rfl (⟨rfl, rfl⟩) (by decide) (by decide)

set_option maxHeartbeats 4000000 in
set_option maxRecDepth 100000 in
theorem m_X11_checksum (l : Launch) (hl0 : l.stackTraces = false) (g : kG) (h0 : Nat) (a1 : Nat) (a2 : Nat) (a3 : Nat) (a4 : Nat) (a5 : Nat) (k0 : Nat) (r0 : Nat) (b1 : Nat) (b2 : Nat) (b3 : Nat) (b4 : Nat) (b5 : Nat) (b6 : Nat) (b7 : Nat) (b8 : Nat) (b9 : Nat) (b10 : Nat)  : kc l g yX11_checksum prog_1_method_51_code 5 (some .long) 1 20 0 0 [.ref h0] [(h0, .inr (15, [.ref a1, .ref a2, .ref a3, .ref a4, .ref a5, .int 0, .int 0, .int 110, .int 0, .int 0, .int 0])), (a1, .inr (3, [.int 0, .ref g.2.1, .int 0])), (a2, .inr (3, [.int 0, .ref g.2.1, .int 0])), (a3, .inr (3, [.int 0, .ref g.2.1, .int 0])), (a4, .inr (3, [.int 0, .ref g.2.1, .int 0])), (a5, .inr (5, [.ref k0, .ref r0, .ref b1, .ref b2, .ref b3, .ref b4, .ref b5, .int 0])), (k0, .inr (7, [.ref b6, .ref b7, .ref b8, .ref b9, .ref b10, .int 0, .int 0])), (r0, .inr (3, [.int 0, .ref g.2.1, .int 0]))] (fun v w => (v = some (.long 6727) ∧ w = [])) (fun _ _ => False) := by
  refine kbody (by decide) (Nat.le_of_ble_eq_true rfl) ?_
  intro p e s m args below meth c A H K ht G hP hD hA hS ls hl
  have K : KB p s m meth c RX11 "checksum" prog_1_method_51_code 5 (some .long) := K
  obtain ⟨hx, hb, hml, hown, hlocks, hr, hin⟩ := id K
  have hl : lv_has ls 5 [(0, .ref h0)] := hl
  refine lv_ldc2 (v := 7) hx hb hown (G.w kw_252) dX11_checksum_0 ?_
  refine lv_lstore_n (lv' := [(1, .long 7), (0, .ref h0)]) hx hb dX11_checksum_3 rfl hl (by decide) rfl (fun ls hl => ?_)
  refine lv_iconst (v := 0) hx hb dX11_checksum_4 (by decide) ?_
  refine lv_istore_n (lv' := [(3, .int 0), (1, .long 7), (0, .ref h0)]) hx hb dX11_checksum_5 rfl hl (by decide) rfl (fun ls hl => ?_)
  refine lv_iload_n hx hb dX11_checksum_6 rfl (lv_at hl 0 rfl) ?_
  refine lv_aload_n hx hb dX11_checksum_7 rfl (lv_at hl 2 rfl) ?_
  refine va_get (D := g.1) (ci := 15) (v := .ref a3) (C := RX11) (T := TX11) (N := 11) hx hb G.ws inX11 hown G.K hP 0 rfl rfl 2 (by decide) (G.w kw_52) (fun _ h9 => h9) rfl dX11_checksum_8 ?_
  refine kcallV (wc := [(a3, .inr (3, [.int 0, .ref g.2.1, .int 0]))]) (wr := [(h0, .inr (15, [.ref a1, .ref a2, .ref a3, .ref a4, .ref a5, .int 0, .int 0, .int 110, .int 0, .int 0, .int 0])), (a1, .inr (3, [.int 0, .ref g.2.1, .int 0])), (a2, .inr (3, [.int 0, .ref g.2.1, .int 0])), (a4, .inr (3, [.int 0, .ref g.2.1, .int 0])), (a5, .inr (5, [.ref k0, .ref r0, .ref b1, .ref b2, .ref b3, .ref b4, .ref b5, .int 0])), (k0, .inr (7, [.ref b6, .ref b7, .ref b8, .ref b9, .ref b10, .int 0, .int 0])), (r0, .inr (3, [.int 0, .ref g.2.1, .int 0]))]) (As := []) (rest := [.int 0]) K G (m_Jx4a65c_size_8abf5 l hl0 g a3 0 g.2.1 0 ) hP hD hS hA hl kw_44 kw_45 kw_46 kw_47 kw_30 ydJx4a65c_size_8abf5 [3] [0, 1, 2, 4, 5, 6, 7] rfl rfl rfl rfl (by decide) (ci := 3) (q0 := 3) rfl rfl rfl rfl rfl (Nat.le_of_ble_eq_true rfl) dX11_checksum_11 ⟨Nat.le_of_ble_eq_true rfl, Nat.le_of_ble_eq_true rfl⟩ ⟨Nat.le_of_ble_eq_true rfl, Nat.le_of_ble_eq_true rfl⟩ (fun _ _ _ _ _ _ hX _ _ _ _ _ _ => hX.elim) (fun v w1 H locs hQ hP hD hS => ?_)
  obtain ⟨rfl, rfl⟩ := hQ
  have hP : va_P g.1 vwCl [(h0, .inr (15, [.ref a1, .ref a2, .ref a3, .ref a4, .ref a5, .int 0, .int 0, .int 110, .int 0, .int 0, .int 0])), (a1, .inr (3, [.int 0, .ref g.2.1, .int 0])), (a2, .inr (3, [.int 0, .ref g.2.1, .int 0])), (a4, .inr (3, [.int 0, .ref g.2.1, .int 0])), (a5, .inr (5, [.ref k0, .ref r0, .ref b1, .ref b2, .ref b3, .ref b4, .ref b5, .int 0])), (k0, .inr (7, [.ref b6, .ref b7, .ref b8, .ref b9, .ref b10, .int 0, .int 0])), (r0, .inr (3, [.int 0, .ref g.2.1, .int 0])), (a3, .inr (3, [.int 0, .ref g.2.1, .int 0]))] H := hP
  have hD : va_D A [(h0, .inr (15, [.ref a1, .ref a2, .ref a3, .ref a4, .ref a5, .int 0, .int 0, .int 110, .int 0, .int 0, .int 0])), (a1, .inr (3, [.int 0, .ref g.2.1, .int 0])), (a2, .inr (3, [.int 0, .ref g.2.1, .int 0])), (a4, .inr (3, [.int 0, .ref g.2.1, .int 0])), (a5, .inr (5, [.ref k0, .ref r0, .ref b1, .ref b2, .ref b3, .ref b4, .ref b5, .int 0])), (k0, .inr (7, [.ref b6, .ref b7, .ref b8, .ref b9, .ref b10, .int 0, .int 0])), (r0, .inr (3, [.int 0, .ref g.2.1, .int 0])), (a3, .inr (3, [.int 0, .ref g.2.1, .int 0]))] := hD
  refine W.widen (k := 0) (n := 0) (by decide) (by decide) ?_
  refine W.eq (g2 := F0 m 14 ls [.int 0, .int 0]) rfl ?_
  refine lv_icmp_ge (tgt := 104) hx hb dX11_checksum_14 (by decide) (fun _ => ?_) (fun c14_2 => absurd c14_2 (by decide))
  refine lv_ldc2 (v := 31) hx hb hown (G.w kw_253) dX11_checksum_104 ?_
  refine lv_lload_n hx hb dX11_checksum_107 rfl (lv_at hl 1 rfl) ?_
  refine lv_lmul hx hb dX11_checksum_108 ?_
  refine lv_topl (fun y_3 ey_3 => ?_)
  obtain rfl : y_3 = 217 := ey_3.trans (by decide)
  refine lv_aload_n hx hb dX11_checksum_109 rfl (lv_at hl 2 rfl) ?_
  refine va_get (D := g.1) (ci := 15) (v := .int 0) (C := RX11) (T := TX11) (N := 11) hx hb G.ws inX11 hown G.K hP 0 rfl rfl 10 (by decide) (G.w kw_64) (fun _ h9 => h9) rfl dX11_checksum_110 ?_
  refine lv_i2l (v := 0) hx hb dX11_checksum_113 (by decide) ?_
  refine lv_ladd hx hb dX11_checksum_114 ?_
  refine lv_topl (fun y_4 ey_4 => ?_)
  obtain rfl : y_4 = 217 := ey_4.trans (by decide)
  refine lv_lstore_n (lv' := [(1, .long 217), (3, .int 0), (0, .ref h0)]) hx hb dX11_checksum_115 rfl hl (by decide) rfl (fun ls hl => ?_)
  refine lv_ldc2 (v := 31) hx hb hown (G.w kw_253) dX11_checksum_116 ?_
  refine lv_lload_n hx hb dX11_checksum_119 rfl (lv_at hl 0 rfl) ?_
  refine lv_lmul hx hb dX11_checksum_120 ?_
  refine lv_topl (fun y_5 ey_5 => ?_)
  obtain rfl : y_5 = 6727 := ey_5.trans (by decide)
  refine lv_aload_n hx hb dX11_checksum_121 rfl (lv_at hl 2 rfl) ?_
  refine va_get (D := g.1) (ci := 15) (v := .int 0) (C := RX11) (T := TX11) (N := 11) hx hb G.ws inX11 hown G.K hP 0 rfl rfl 5 (by decide) (G.w kw_114) (fun _ h9 => h9) rfl dX11_checksum_122 ?_
  refine lv_i2l (v := 0) hx hb dX11_checksum_125 (by decide) ?_
  refine lv_ladd hx hb dX11_checksum_126 ?_
  refine lv_topl (fun y_6 ey_6 => ?_)
  obtain rfl : y_6 = 6727 := ey_6.trans (by decide)
  exact kretL K hP hD hS [] [] rfl rfl (⟨rfl, rfl⟩) (by decide) (by decide) dX11_checksum_127

set_option maxHeartbeats 4000000 in
set_option maxRecDepth 100000 in
theorem m_X11_areKeptHoursSound (l : Launch) (hl0 : l.stackTraces = false) (g : kG) (h0 : Nat) (a1 : Nat) (a2 : Nat) (a3 : Nat) (a4 : Nat) (a5 : Nat) (k0 : Nat) (r0 : Nat) (b1 : Nat) (b2 : Nat) (b3 : Nat) (b4 : Nat) (b5 : Nat) (b6 : Nat) (b7 : Nat) (b8 : Nat) (b9 : Nat) (b10 : Nat)  : kc l g yX11_areKeptHoursSound prog_1_method_99_code 2 (some .boolean) 0 0 0 0 [.ref h0] [(h0, .inr (15, [.ref a1, .ref a2, .ref a3, .ref a4, .ref a5, .int 0, .int 0, .int 110, .int 0, .int 0, .int 0])), (a1, .inr (3, [.int 0, .ref g.2.1, .int 0])), (a2, .inr (3, [.int 0, .ref g.2.1, .int 0])), (a3, .inr (3, [.int 0, .ref g.2.1, .int 0])), (a4, .inr (3, [.int 0, .ref g.2.1, .int 0])), (a5, .inr (5, [.ref k0, .ref r0, .ref b1, .ref b2, .ref b3, .ref b4, .ref b5, .int 0])), (k0, .inr (7, [.ref b6, .ref b7, .ref b8, .ref b9, .ref b10, .int 0, .int 0])), (r0, .inr (3, [.int 0, .ref g.2.1, .int 0]))] (fun v w => (v = some (.int 1) ∧ w = [(h0, .inr (15, [.ref a1, .ref a2, .ref a3, .ref a4, .ref a5, .int 0, .int 0, .int 110, .int 0, .int 0, .int 0])), (a1, .inr (3, [.int 0, .ref g.2.1, .int 0])), (a2, .inr (3, [.int 0, .ref g.2.1, .int 0])), (a3, .inr (3, [.int 0, .ref g.2.1, .int 0])), (a4, .inr (3, [.int 0, .ref g.2.1, .int 0])), (a5, .inr (5, [.ref k0, .ref r0, .ref b1, .ref b2, .ref b3, .ref b4, .ref b5, .int 0])), (k0, .inr (7, [.ref b6, .ref b7, .ref b8, .ref b9, .ref b10, .int 0, .int 0])), (r0, .inr (3, [.int 0, .ref g.2.1, .int 0]))])) (fun _ _ => False) := by
  refine kbody (by decide) (Nat.le_of_ble_eq_true rfl) ?_
  intro p e s m args below meth c A H K ht G hP hD hA hS ls hl
  have K : KB p s m meth c RX11 "areKeptHoursSound" prog_1_method_99_code 2 (some .boolean) := K
  obtain ⟨hx, hb, hml, hown, hlocks, hr, hin⟩ := id K
  have hl : lv_has ls 2 [(0, .ref h0)] := hl
  refine lv_iconst (v := 0) hx hb dX11_areKeptHoursSound_0 (by decide) ?_
  refine lv_istore_n (lv' := [(1, .int 0), (0, .ref h0)]) hx hb dX11_areKeptHoursSound_1 rfl hl (by decide) rfl (fun ls hl => ?_)
  refine lv_iload_n hx hb dX11_areKeptHoursSound_2 rfl (lv_at hl 0 rfl) ?_
  refine lv_aload_n hx hb dX11_areKeptHoursSound_3 rfl (lv_at hl 1 rfl) ?_
  refine va_get (D := g.1) (ci := 15) (v := .ref a5) (C := RX11) (T := TX11) (N := 11) hx hb G.ws inX11 hown G.K hP 0 rfl rfl 4 (by decide) (G.w kw_54) (fun _ h9 => h9) rfl dX11_areKeptHoursSound_4 ?_
  refine va_get (D := g.1) (ci := 5) (v := .ref k0) (C := RX1) (T := TX1) (N := 8) hx hb G.ws inX1 hown G.K hP 5 rfl rfl 0 (by decide) (G.w kw_248) (fun _ h9 => h9) rfl dX11_areKeptHoursSound_7 ?_
  refine va_get (D := g.1) (ci := 7) (v := .int 0) (C := RX3) (T := TX3) (N := 7) hx hb G.ws inX3 hown G.K hP 6 rfl rfl 6 (by decide) (G.w kw_249) (fun _ h9 => h9) rfl dX11_areKeptHoursSound_10 ?_
  refine lv_icmp_ge (tgt := 49) hx hb dX11_areKeptHoursSound_13 (by decide) (fun _ => ?_) (fun c13_1 => absurd c13_1 (by decide))
  refine lv_iconst (v := 1) hx hb dX11_areKeptHoursSound_49 (by decide) ?_
  exact kretZ K hP hD hS [0, 1, 2, 3, 4, 5, 6, 7] [(h0, .inr (15, [.ref a1, .ref a2, .ref a3, .ref a4, .ref a5, .int 0, .int 0, .int 110, .int 0, .int 0, .int 0])), (a1, .inr (3, [.int 0, .ref g.2.1, .int 0])), (a2, .inr (3, [.int 0, .ref g.2.1, .int 0])), (a3, .inr (3, [.int 0, .ref g.2.1, .int 0])), (a4, .inr (3, [.int 0, .ref g.2.1, .int 0])), (a5, .inr (5, [.ref k0, .ref r0, .ref b1, .ref b2, .ref b3, .ref b4, .ref b5, .int 0])), (k0, .inr (7, [.ref b6, .ref b7, .ref b8, .ref b9, .ref b10, .int 0, .int 0])), (r0, .inr (3, [.int 0, .ref g.2.1, .int 0]))] rfl rfl (⟨rfl, rfl⟩) (by decide) (by decide) dX11_areKeptHoursSound_50

set_option maxHeartbeats 4000000 in
set_option maxRecDepth 100000 in
theorem m_X1_areDatesAsOrdersTell (l : Launch) (hl0 : l.stackTraces = false) (g : kG) (a5 : Nat) (k0 : Nat) (r0 : Nat) (b1 : Nat) (b2 : Nat) (b3 : Nat) (b4 : Nat) (b5 : Nat) (b1 : Nat) (b2 : Nat) (b3 : Nat) (b4 : Nat) (b5 : Nat)  : kc l g yX1_areDatesAsOrdersTell prog_3_method_16_code 2 (some .boolean) 1 20 0 0 [.ref a5] [(a5, .inr (5, [.ref k0, .ref r0, .ref b1, .ref b2, .ref b3, .ref b4, .ref b5, .int 0])), (r0, .inr (3, [.int 0, .ref g.2.1, .int 0]))] (fun v w => (v = some (.int 1) ∧ w = [(a5, .inr (5, [.ref k0, .ref r0, .ref b1, .ref b2, .ref b3, .ref b4, .ref b5, .int 0])), (r0, .inr (3, [.int 0, .ref g.2.1, .int 0]))])) (fun _ _ => False) := by
  refine kbody (by decide) (Nat.le_of_ble_eq_true rfl) ?_
  intro p e s m args below meth c A H K ht G hP hD hA hS ls hl
  have K : KB p s m meth c RX1 "areDatesAsOrdersTell" prog_3_method_16_code 2 (some .boolean) := K
  obtain ⟨hx, hb, hml, hown, hlocks, hr, hin⟩ := id K
  have hl : lv_has ls 2 [(0, .ref a5)] := hl
  refine lv_aload_n hx hb dX1_areDatesAsOrdersTell_0 rfl (lv_at hl 0 rfl) ?_
  refine va_get (D := g.1) (ci := 5) (v := .ref r0) (C := RX1) (T := TX1) (N := 8) hx hb G.ws inX1 hown G.K hP 0 rfl rfl 1 (by decide) (G.w kw_187) (fun _ h9 => h9) rfl dX1_areDatesAsOrdersTell_1 ?_
  refine kcallV (wc := [(r0, .inr (3, [.int 0, .ref g.2.1, .int 0]))]) (wr := [(a5, .inr (5, [.ref k0, .ref r0, .ref b1, .ref b2, .ref b3, .ref b4, .ref b5, .int 0]))]) (As := []) (rest := []) K G (m_Jx4a65c_size_8abf5 l hl0 g r0 0 g.2.1 0 ) hP hD hS hA hl kw_44 kw_254 kw_46 kw_47 kw_30 ydJx4a65c_size_8abf5 [1] [0] rfl rfl rfl rfl (by decide) (ci := 3) (q0 := 1) rfl rfl rfl rfl rfl (Nat.le_of_ble_eq_true rfl) dX1_areDatesAsOrdersTell_4 ⟨Nat.le_of_ble_eq_true rfl, Nat.le_of_ble_eq_true rfl⟩ ⟨Nat.le_of_ble_eq_true rfl, Nat.le_of_ble_eq_true rfl⟩ (fun _ _ _ _ _ _ hX _ _ _ _ _ _ => hX.elim) (fun v w1 H locs hQ hP hD hS => ?_)
  obtain ⟨rfl, rfl⟩ := hQ
  have hP : va_P g.1 vwCl [(a5, .inr (5, [.ref k0, .ref r0, .ref b1, .ref b2, .ref b3, .ref b4, .ref b5, .int 0])), (r0, .inr (3, [.int 0, .ref g.2.1, .int 0]))] H := hP
  have hD : va_D A [(a5, .inr (5, [.ref k0, .ref r0, .ref b1, .ref b2, .ref b3, .ref b4, .ref b5, .int 0])), (r0, .inr (3, [.int 0, .ref g.2.1, .int 0]))] := hD
  refine W.widen (k := 0) (n := 0) (by decide) (by decide) ?_
  refine W.eq (g2 := F0 m 7 ls [.int 0]) rfl ?_
  refine lv_iconst (v := 4) hx hb dX1_areDatesAsOrdersTell_7 (by decide) ?_
  refine lv_icmp_le (tgt := 13) hx hb dX1_areDatesAsOrdersTell_8 (by decide) (fun _ => ?_) (fun c8_2 => absurd c8_2 (by decide))
  refine lv_iconst (v := 0) hx hb dX1_areDatesAsOrdersTell_13 (by decide) ?_
  refine lv_istore_n (lv' := [(1, .int 0), (0, .ref a5)]) hx hb dX1_areDatesAsOrdersTell_14 rfl hl (by decide) rfl (fun ls hl => ?_)
  refine lv_iload_n hx hb dX1_areDatesAsOrdersTell_15 rfl (lv_at hl 0 rfl) ?_
  refine lv_aload_n hx hb dX1_areDatesAsOrdersTell_16 rfl (lv_at hl 1 rfl) ?_
  refine va_get (D := g.1) (ci := 5) (v := .ref r0) (C := RX1) (T := TX1) (N := 8) hx hb G.ws inX1 hown G.K hP 0 rfl rfl 1 (by decide) (G.w kw_187) (fun _ h9 => h9) rfl dX1_areDatesAsOrdersTell_17 ?_
  refine kcallV (wc := [(r0, .inr (3, [.int 0, .ref g.2.1, .int 0]))]) (wr := [(a5, .inr (5, [.ref k0, .ref r0, .ref b1, .ref b2, .ref b3, .ref b4, .ref b5, .int 0]))]) (As := []) (rest := [.int 0]) K G (m_Jx4a65c_size_8abf5 l hl0 g r0 0 g.2.1 0 ) hP hD hS hA hl kw_44 kw_254 kw_46 kw_47 kw_30 ydJx4a65c_size_8abf5 [1] [0] rfl rfl rfl rfl (by decide) (ci := 3) (q0 := 1) rfl rfl rfl rfl rfl (Nat.le_of_ble_eq_true rfl) dX1_areDatesAsOrdersTell_20 ⟨Nat.le_of_ble_eq_true rfl, Nat.le_of_ble_eq_true rfl⟩ ⟨Nat.le_of_ble_eq_true rfl, Nat.le_of_ble_eq_true rfl⟩ (fun _ _ _ _ _ _ hX _ _ _ _ _ _ => hX.elim) (fun v w1 H locs hQ hP hD hS => ?_)
  obtain ⟨rfl, rfl⟩ := hQ
  have hP : va_P g.1 vwCl [(a5, .inr (5, [.ref k0, .ref r0, .ref b1, .ref b2, .ref b3, .ref b4, .ref b5, .int 0])), (r0, .inr (3, [.int 0, .ref g.2.1, .int 0]))] H := hP
  have hD : va_D A [(a5, .inr (5, [.ref k0, .ref r0, .ref b1, .ref b2, .ref b3, .ref b4, .ref b5, .int 0])), (r0, .inr (3, [.int 0, .ref g.2.1, .int 0]))] := hD
  refine W.widen (k := 0) (n := 0) (by decide) (by decide) ?_
  refine W.eq (g2 := F0 m 23 ls [.int 0, .int 0]) rfl ?_
  refine lv_icmp_ge (tgt := 64) hx hb dX1_areDatesAsOrdersTell_23 (by decide) (fun _ => ?_) (fun c23_4 => absurd c23_4 (by decide))
  refine lv_iconst (v := 1) hx hb dX1_areDatesAsOrdersTell_64 (by decide) ?_
  exact kretZ K hP hD hS [0, 1] [(a5, .inr (5, [.ref k0, .ref r0, .ref b1, .ref b2, .ref b3, .ref b4, .ref b5, .int 0])), (r0, .inr (3, [.int 0, .ref g.2.1, .int 0]))] rfl rfl (⟨rfl, rfl⟩) (by decide) (by decide) dX1_areDatesAsOrdersTell_65

set_option maxHeartbeats 4000000 in
set_option maxRecDepth 100000 in
theorem m_X11_countAboard (l : Launch) (hl0 : l.stackTraces = false) (g : kG) (h0 : Nat) (a1 : Nat) (a2 : Nat) (a3 : Nat) (a4 : Nat) (a5 : Nat) (k0 : Nat) (r0 : Nat) (b1 : Nat) (b2 : Nat) (b3 : Nat) (b4 : Nat) (b5 : Nat) (b6 : Nat) (b7 : Nat) (b8 : Nat) (b9 : Nat) (b10 : Nat)  : kc l g yX11_countAboard prog_1_method_95_code 3 (some .int) 1 20 0 0 [.ref h0] [(h0, .inr (15, [.ref a1, .ref a2, .ref a3, .ref a4, .ref a5, .int 0, .int 0, .int 110, .int 0, .int 0, .int 0])), (a1, .inr (3, [.int 0, .ref g.2.1, .int 0])), (a2, .inr (3, [.int 0, .ref g.2.1, .int 0])), (a3, .inr (3, [.int 0, .ref g.2.1, .int 0])), (a4, .inr (3, [.int 0, .ref g.2.1, .int 0])), (a5, .inr (5, [.ref k0, .ref r0, .ref b1, .ref b2, .ref b3, .ref b4, .ref b5, .int 0])), (k0, .inr (7, [.ref b6, .ref b7, .ref b8, .ref b9, .ref b10, .int 0, .int 0])), (r0, .inr (3, [.int 0, .ref g.2.1, .int 0]))] (fun v w => (v = some (.int 0) ∧ w = [(h0, .inr (15, [.ref a1, .ref a2, .ref a3, .ref a4, .ref a5, .int 0, .int 0, .int 110, .int 0, .int 0, .int 0])), (a1, .inr (3, [.int 0, .ref g.2.1, .int 0])), (a2, .inr (3, [.int 0, .ref g.2.1, .int 0])), (a3, .inr (3, [.int 0, .ref g.2.1, .int 0])), (a4, .inr (3, [.int 0, .ref g.2.1, .int 0])), (a5, .inr (5, [.ref k0, .ref r0, .ref b1, .ref b2, .ref b3, .ref b4, .ref b5, .int 0])), (k0, .inr (7, [.ref b6, .ref b7, .ref b8, .ref b9, .ref b10, .int 0, .int 0])), (r0, .inr (3, [.int 0, .ref g.2.1, .int 0]))])) (fun _ _ => False) := by
  refine kbody (by decide) (Nat.le_of_ble_eq_true rfl) ?_
  intro p e s m args below meth c A H K ht G hP hD hA hS ls hl
  have K : KB p s m meth c RX11 "countAboard" prog_1_method_95_code 3 (some .int) := K
  obtain ⟨hx, hb, hml, hown, hlocks, hr, hin⟩ := id K
  have hl : lv_has ls 3 [(0, .ref h0)] := hl
  refine lv_iconst (v := 0) hx hb dX11_countAboard_0 (by decide) ?_
  refine lv_istore_n (lv' := [(1, .int 0), (0, .ref h0)]) hx hb dX11_countAboard_1 rfl hl (by decide) rfl (fun ls hl => ?_)
  refine lv_iconst (v := 0) hx hb dX11_countAboard_2 (by decide) ?_
  refine lv_istore_n (lv' := [(2, .int 0), (1, .int 0), (0, .ref h0)]) hx hb dX11_countAboard_3 rfl hl (by decide) rfl (fun ls hl => ?_)
  refine lv_iload_n hx hb dX11_countAboard_4 rfl (lv_at hl 0 rfl) ?_
  refine lv_aload_n hx hb dX11_countAboard_5 rfl (lv_at hl 2 rfl) ?_
  refine va_get (D := g.1) (ci := 15) (v := .ref a4) (C := RX11) (T := TX11) (N := 11) hx hb G.ws inX11 hown G.K hP 0 rfl rfl 3 (by decide) (G.w kw_53) (fun _ h9 => h9) rfl dX11_countAboard_6 ?_
  refine kcallV (wc := [(a4, .inr (3, [.int 0, .ref g.2.1, .int 0]))]) (wr := [(h0, .inr (15, [.ref a1, .ref a2, .ref a3, .ref a4, .ref a5, .int 0, .int 0, .int 110, .int 0, .int 0, .int 0])), (a1, .inr (3, [.int 0, .ref g.2.1, .int 0])), (a2, .inr (3, [.int 0, .ref g.2.1, .int 0])), (a3, .inr (3, [.int 0, .ref g.2.1, .int 0])), (a5, .inr (5, [.ref k0, .ref r0, .ref b1, .ref b2, .ref b3, .ref b4, .ref b5, .int 0])), (k0, .inr (7, [.ref b6, .ref b7, .ref b8, .ref b9, .ref b10, .int 0, .int 0])), (r0, .inr (3, [.int 0, .ref g.2.1, .int 0]))]) (As := []) (rest := [.int 0]) K G (m_Jx4a65c_size_8abf5 l hl0 g a4 0 g.2.1 0 ) hP hD hS hA hl kw_44 kw_45 kw_46 kw_47 kw_30 ydJx4a65c_size_8abf5 [4] [0, 1, 2, 3, 5, 6, 7] rfl rfl rfl rfl (by decide) (ci := 3) (q0 := 4) rfl rfl rfl rfl rfl (Nat.le_of_ble_eq_true rfl) dX11_countAboard_9 ⟨Nat.le_of_ble_eq_true rfl, Nat.le_of_ble_eq_true rfl⟩ ⟨Nat.le_of_ble_eq_true rfl, Nat.le_of_ble_eq_true rfl⟩ (fun _ _ _ _ _ _ hX _ _ _ _ _ _ => hX.elim) (fun v w1 H locs hQ hP hD hS => ?_)
  obtain ⟨rfl, rfl⟩ := hQ
  have hP : va_P g.1 vwCl [(h0, .inr (15, [.ref a1, .ref a2, .ref a3, .ref a4, .ref a5, .int 0, .int 0, .int 110, .int 0, .int 0, .int 0])), (a1, .inr (3, [.int 0, .ref g.2.1, .int 0])), (a2, .inr (3, [.int 0, .ref g.2.1, .int 0])), (a3, .inr (3, [.int 0, .ref g.2.1, .int 0])), (a5, .inr (5, [.ref k0, .ref r0, .ref b1, .ref b2, .ref b3, .ref b4, .ref b5, .int 0])), (k0, .inr (7, [.ref b6, .ref b7, .ref b8, .ref b9, .ref b10, .int 0, .int 0])), (r0, .inr (3, [.int 0, .ref g.2.1, .int 0])), (a4, .inr (3, [.int 0, .ref g.2.1, .int 0]))] H := hP
  have hD : va_D A [(h0, .inr (15, [.ref a1, .ref a2, .ref a3, .ref a4, .ref a5, .int 0, .int 0, .int 110, .int 0, .int 0, .int 0])), (a1, .inr (3, [.int 0, .ref g.2.1, .int 0])), (a2, .inr (3, [.int 0, .ref g.2.1, .int 0])), (a3, .inr (3, [.int 0, .ref g.2.1, .int 0])), (a5, .inr (5, [.ref k0, .ref r0, .ref b1, .ref b2, .ref b3, .ref b4, .ref b5, .int 0])), (k0, .inr (7, [.ref b6, .ref b7, .ref b8, .ref b9, .ref b10, .int 0, .int 0])), (r0, .inr (3, [.int 0, .ref g.2.1, .int 0])), (a4, .inr (3, [.int 0, .ref g.2.1, .int 0]))] := hD
  refine W.widen (k := 0) (n := 0) (by decide) (by decide) ?_
  refine W.eq (g2 := F0 m 12 ls [.int 0, .int 0]) rfl ?_
  refine lv_icmp_ge (tgt := 42) hx hb dX11_countAboard_12 (by decide) (fun _ => ?_) (fun c12_2 => absurd c12_2 (by decide))
  refine lv_iload_n hx hb dX11_countAboard_42 rfl (lv_at hl 1 rfl) ?_
  exact kretI K hP hD hS [0, 1, 2, 3, 7, 4, 5, 6] [(h0, .inr (15, [.ref a1, .ref a2, .ref a3, .ref a4, .ref a5, .int 0, .int 0, .int 110, .int 0, .int 0, .int 0])), (a1, .inr (3, [.int 0, .ref g.2.1, .int 0])), (a2, .inr (3, [.int 0, .ref g.2.1, .int 0])), (a3, .inr (3, [.int 0, .ref g.2.1, .int 0])), (a4, .inr (3, [.int 0, .ref g.2.1, .int 0])), (a5, .inr (5, [.ref k0, .ref r0, .ref b1, .ref b2, .ref b3, .ref b4, .ref b5, .int 0])), (k0, .inr (7, [.ref b6, .ref b7, .ref b8, .ref b9, .ref b10, .int 0, .int 0])), (r0, .inr (3, [.int 0, .ref g.2.1, .int 0]))] rfl rfl (⟨rfl, rfl⟩) (by decide) (by decide) dX11_countAboard_43

set_option maxHeartbeats 4000000 in
set_option maxRecDepth 100000 in
theorem m_X11_areCrewsSound (l : Launch) (hl0 : l.stackTraces = false) (g : kG) (h0 : Nat) (a1 : Nat) (a2 : Nat) (a3 : Nat) (a4 : Nat) (a5 : Nat) (k0 : Nat) (r0 : Nat) (b1 : Nat) (b2 : Nat) (b3 : Nat) (b4 : Nat) (b5 : Nat) (b6 : Nat) (b7 : Nat) (b8 : Nat) (b9 : Nat) (b10 : Nat)  : kc l g yX11_areCrewsSound prog_1_method_101_code 3 (some .boolean) 2 42 0 0 [.ref h0] [(h0, .inr (15, [.ref a1, .ref a2, .ref a3, .ref a4, .ref a5, .int 0, .int 0, .int 110, .int 0, .int 0, .int 0])), (a1, .inr (3, [.int 0, .ref g.2.1, .int 0])), (a2, .inr (3, [.int 0, .ref g.2.1, .int 0])), (a3, .inr (3, [.int 0, .ref g.2.1, .int 0])), (a4, .inr (3, [.int 0, .ref g.2.1, .int 0])), (a5, .inr (5, [.ref k0, .ref r0, .ref b1, .ref b2, .ref b3, .ref b4, .ref b5, .int 0])), (k0, .inr (7, [.ref b6, .ref b7, .ref b8, .ref b9, .ref b10, .int 0, .int 0])), (r0, .inr (3, [.int 0, .ref g.2.1, .int 0]))] (fun v w => (v = some (.int 1) ∧ w = [(h0, .inr (15, [.ref a1, .ref a2, .ref a3, .ref a4, .ref a5, .int 0, .int 0, .int 110, .int 0, .int 0, .int 0])), (a1, .inr (3, [.int 0, .ref g.2.1, .int 0])), (a2, .inr (3, [.int 0, .ref g.2.1, .int 0])), (a3, .inr (3, [.int 0, .ref g.2.1, .int 0])), (a4, .inr (3, [.int 0, .ref g.2.1, .int 0])), (a5, .inr (5, [.ref k0, .ref r0, .ref b1, .ref b2, .ref b3, .ref b4, .ref b5, .int 0])), (k0, .inr (7, [.ref b6, .ref b7, .ref b8, .ref b9, .ref b10, .int 0, .int 0])), (r0, .inr (3, [.int 0, .ref g.2.1, .int 0]))])) (fun _ _ => False) := by
  refine kbody (by decide) (Nat.le_of_ble_eq_true rfl) ?_
  intro p e s m args below meth c A H K ht G hP hD hA hS ls hl
  have K : KB p s m meth c RX11 "areCrewsSound" prog_1_method_101_code 3 (some .boolean) := K
  obtain ⟨hx, hb, hml, hown, hlocks, hr, hin⟩ := id K
  have hl : lv_has ls 3 [(0, .ref h0)] := hl
  refine lv_iconst (v := 0) hx hb dX11_areCrewsSound_0 (by decide) ?_
  refine lv_istore_n (lv' := [(1, .int 0), (0, .ref h0)]) hx hb dX11_areCrewsSound_1 rfl hl (by decide) rfl (fun ls hl => ?_)
  refine lv_iconst (v := 0) hx hb dX11_areCrewsSound_2 (by decide) ?_
  refine lv_istore_n (lv' := [(2, .int 0), (1, .int 0), (0, .ref h0)]) hx hb dX11_areCrewsSound_3 rfl hl (by decide) rfl (fun ls hl => ?_)
  refine lv_iload_n hx hb dX11_areCrewsSound_4 rfl (lv_at hl 0 rfl) ?_
  refine lv_aload_n hx hb dX11_areCrewsSound_5 rfl (lv_at hl 2 rfl) ?_
  refine va_get (D := g.1) (ci := 15) (v := .ref a3) (C := RX11) (T := TX11) (N := 11) hx hb G.ws inX11 hown G.K hP 0 rfl rfl 2 (by decide) (G.w kw_52) (fun _ h9 => h9) rfl dX11_areCrewsSound_6 ?_
  refine kcallV (wc := [(a3, .inr (3, [.int 0, .ref g.2.1, .int 0]))]) (wr := [(h0, .inr (15, [.ref a1, .ref a2, .ref a3, .ref a4, .ref a5, .int 0, .int 0, .int 110, .int 0, .int 0, .int 0])), (a1, .inr (3, [.int 0, .ref g.2.1, .int 0])), (a2, .inr (3, [.int 0, .ref g.2.1, .int 0])), (a4, .inr (3, [.int 0, .ref g.2.1, .int 0])), (a5, .inr (5, [.ref k0, .ref r0, .ref b1, .ref b2, .ref b3, .ref b4, .ref b5, .int 0])), (k0, .inr (7, [.ref b6, .ref b7, .ref b8, .ref b9, .ref b10, .int 0, .int 0])), (r0, .inr (3, [.int 0, .ref g.2.1, .int 0]))]) (As := []) (rest := [.int 0]) K G (m_Jx4a65c_size_8abf5 l hl0 g a3 0 g.2.1 0 ) hP hD hS hA hl kw_44 kw_45 kw_46 kw_47 kw_30 ydJx4a65c_size_8abf5 [3] [0, 1, 2, 4, 5, 6, 7] rfl rfl rfl rfl (by decide) (ci := 3) (q0 := 3) rfl rfl rfl rfl rfl (Nat.le_of_ble_eq_true rfl) dX11_areCrewsSound_9 ⟨Nat.le_of_ble_eq_true rfl, Nat.le_of_ble_eq_true rfl⟩ ⟨Nat.le_of_ble_eq_true rfl, Nat.le_of_ble_eq_true rfl⟩ (fun _ _ _ _ _ _ hX _ _ _ _ _ _ => hX.elim) (fun v w1 H locs hQ hP hD hS => ?_)
  obtain ⟨rfl, rfl⟩ := hQ
  have hP : va_P g.1 vwCl [(h0, .inr (15, [.ref a1, .ref a2, .ref a3, .ref a4, .ref a5, .int 0, .int 0, .int 110, .int 0, .int 0, .int 0])), (a1, .inr (3, [.int 0, .ref g.2.1, .int 0])), (a2, .inr (3, [.int 0, .ref g.2.1, .int 0])), (a4, .inr (3, [.int 0, .ref g.2.1, .int 0])), (a5, .inr (5, [.ref k0, .ref r0, .ref b1, .ref b2, .ref b3, .ref b4, .ref b5, .int 0])), (k0, .inr (7, [.ref b6, .ref b7, .ref b8, .ref b9, .ref b10, .int 0, .int 0])), (r0, .inr (3, [.int 0, .ref g.2.1, .int 0])), (a3, .inr (3, [.int 0, .ref g.2.1, .int 0]))] H := hP
  have hD : va_D A [(h0, .inr (15, [.ref a1, .ref a2, .ref a3, .ref a4, .ref a5, .int 0, .int 0, .int 110, .int 0, .int 0, .int 0])), (a1, .inr (3, [.int 0, .ref g.2.1, .int 0])), (a2, .inr (3, [.int 0, .ref g.2.1, .int 0])), (a4, .inr (3, [.int 0, .ref g.2.1, .int 0])), (a5, .inr (5, [.ref k0, .ref r0, .ref b1, .ref b2, .ref b3, .ref b4, .ref b5, .int 0])), (k0, .inr (7, [.ref b6, .ref b7, .ref b8, .ref b9, .ref b10, .int 0, .int 0])), (r0, .inr (3, [.int 0, .ref g.2.1, .int 0])), (a3, .inr (3, [.int 0, .ref g.2.1, .int 0]))] := hD
  refine W.widen (k := 0) (n := 0) (by decide) (by decide) ?_
  refine W.eq (g2 := F0 m 12 ls [.int 0, .int 0]) rfl ?_
  refine lv_icmp_ge (tgt := 29) hx hb dX11_areCrewsSound_12 (by decide) (fun _ => ?_) (fun c12_2 => absurd c12_2 (by decide))
  refine lv_iload_n hx hb dX11_areCrewsSound_29 rfl (lv_at hl 1 rfl) ?_
  refine lv_aload_n hx hb dX11_areCrewsSound_30 rfl (lv_at hl 2 rfl) ?_
  refine kcallV (wc := [(h0, .inr (15, [.ref a1, .ref a2, .ref a3, .ref a4, .ref a5, .int 0, .int 0, .int 110, .int 0, .int 0, .int 0])), (a1, .inr (3, [.int 0, .ref g.2.1, .int 0])), (a2, .inr (3, [.int 0, .ref g.2.1, .int 0])), (a3, .inr (3, [.int 0, .ref g.2.1, .int 0])), (a4, .inr (3, [.int 0, .ref g.2.1, .int 0])), (a5, .inr (5, [.ref k0, .ref r0, .ref b1, .ref b2, .ref b3, .ref b4, .ref b5, .int 0])), (k0, .inr (7, [.ref b6, .ref b7, .ref b8, .ref b9, .ref b10, .int 0, .int 0])), (r0, .inr (3, [.int 0, .ref g.2.1, .int 0]))]) (wr := []) (As := []) (rest := [.int 0]) K G (m_X11_countAboard l hl0 g h0 a1 a2 a3 a4 a5 k0 r0 b1 b2 b3 b4 b5 b6 b7 b8 b9 b10 ) hP hD hS hA hl kw_255 kw_256 kw_257 kw_258 kw_4 ydX11_countAboard [0, 1, 2, 7, 3, 4, 5, 6] [] rfl rfl rfl rfl (by decide) (ci := 15) (q0 := 0) rfl rfl rfl rfl rfl (Nat.le_of_ble_eq_true rfl) dX11_areCrewsSound_31 ⟨Nat.le_of_ble_eq_true rfl, Nat.le_of_ble_eq_true rfl⟩ ⟨Nat.le_of_ble_eq_true rfl, Nat.le_of_ble_eq_true rfl⟩ (fun _ _ _ _ _ _ hX _ _ _ _ _ _ => hX.elim) (fun v w1 H locs hQ hP hD hS => ?_)
  obtain ⟨rfl, rfl⟩ := hQ
  have hP : va_P g.1 vwCl [(h0, .inr (15, [.ref a1, .ref a2, .ref a3, .ref a4, .ref a5, .int 0, .int 0, .int 110, .int 0, .int 0, .int 0])), (a1, .inr (3, [.int 0, .ref g.2.1, .int 0])), (a2, .inr (3, [.int 0, .ref g.2.1, .int 0])), (a3, .inr (3, [.int 0, .ref g.2.1, .int 0])), (a4, .inr (3, [.int 0, .ref g.2.1, .int 0])), (a5, .inr (5, [.ref k0, .ref r0, .ref b1, .ref b2, .ref b3, .ref b4, .ref b5, .int 0])), (k0, .inr (7, [.ref b6, .ref b7, .ref b8, .ref b9, .ref b10, .int 0, .int 0])), (r0, .inr (3, [.int 0, .ref g.2.1, .int 0]))] H := hP
  have hD : va_D A [(h0, .inr (15, [.ref a1, .ref a2, .ref a3, .ref a4, .ref a5, .int 0, .int 0, .int 110, .int 0, .int 0, .int 0])), (a1, .inr (3, [.int 0, .ref g.2.1, .int 0])), (a2, .inr (3, [.int 0, .ref g.2.1, .int 0])), (a3, .inr (3, [.int 0, .ref g.2.1, .int 0])), (a4, .inr (3, [.int 0, .ref g.2.1, .int 0])), (a5, .inr (5, [.ref k0, .ref r0, .ref b1, .ref b2, .ref b3, .ref b4, .ref b5, .int 0])), (k0, .inr (7, [.ref b6, .ref b7, .ref b8, .ref b9, .ref b10, .int 0, .int 0])), (r0, .inr (3, [.int 0, .ref g.2.1, .int 0]))] := hD
  refine W.widen (k := 0) (n := 0) (by decide) (by decide) ?_
  refine W.eq (g2 := F0 m 34 ls [.int 0, .int 0]) rfl ?_
  refine lv_icmp_ne (tgt := 41) hx hb dX11_areCrewsSound_34 (by decide) (fun c34_4 => absurd c34_4 (by decide)) (fun _ => ?_)
  refine lv_iconst (v := 1) hx hb dX11_areCrewsSound_37 (by decide) ?_
  refine lv_goto (tgt := 42) hx hb dX11_areCrewsSound_38 (by decide) ?_
  exact kretZ K hP hD hS [0, 1, 2, 3, 4, 5, 6, 7] [(h0, .inr (15, [.ref a1, .ref a2, .ref a3, .ref a4, .ref a5, .int 0, .int 0, .int 110, .int 0, .int 0, .int 0])), (a1, .inr (3, [.int 0, .ref g.2.1, .int 0])), (a2, .inr (3, [.int 0, .ref g.2.1, .int 0])), (a3, .inr (3, [.int 0, .ref g.2.1, .int 0])), (a4, .inr (3, [.int 0, .ref g.2.1, .int 0])), (a5, .inr (5, [.ref k0, .ref r0, .ref b1, .ref b2, .ref b3, .ref b4, .ref b5, .int 0])), (k0, .inr (7, [.ref b6, .ref b7, .ref b8, .ref b9, .ref b10, .int 0, .int 0])), (r0, .inr (3, [.int 0, .ref g.2.1, .int 0]))] rfl rfl (⟨rfl, rfl⟩) (by decide) (by decide) dX11_areCrewsSound_42
end
section
set_option maxHeartbeats 4000000 in
set_option maxRecDepth 100000 in
theorem m_X11_isSound (l : Launch) (hl0 : l.stackTraces = false) (g : kG) (h0 : Nat) (a1 : Nat) (a2 : Nat) (a3 : Nat) (a4 : Nat) (a5 : Nat) (k0 : Nat) (r0 : Nat) (b1 : Nat) (b2 : Nat) (b3 : Nat) (b4 : Nat) (b5 : Nat) (b6 : Nat) (b7 : Nat) (b8 : Nat) (b9 : Nat) (b10 : Nat)  : kc l g yX11_isSound prog_1_method_52_code 1 (some .boolean) 3 64 0 0 [.ref h0] [(h0, .inr (15, [.ref a1, .ref a2, .ref a3, .ref a4, .ref a5, .int 0, .int 0, .int 110, .int 0, .int 0, .int 0])), (a1, .inr (3, [.int 0, .ref g.2.1, .int 0])), (a2, .inr (3, [.int 0, .ref g.2.1, .int 0])), (a3, .inr (3, [.int 0, .ref g.2.1, .int 0])), (a4, .inr (3, [.int 0, .ref g.2.1, .int 0])), (a5, .inr (5, [.ref k0, .ref r0, .ref b1, .ref b2, .ref b3, .ref b4, .ref b5, .int 0])), (k0, .inr (7, [.ref b6, .ref b7, .ref b8, .ref b9, .ref b10, .int 0, .int 0])), (r0, .inr (3, [.int 0, .ref g.2.1, .int 0]))] (fun v w => (v = some (.int 1) ∧ w = [])) (fun _ _ => False) := by
  refine kbody (by decide) (Nat.le_of_ble_eq_true rfl) ?_
  intro p e s m args below meth c A H K ht G hP hD hA hS ls hl
  have K : KB p s m meth c RX11 "isSound" prog_1_method_52_code 1 (some .boolean) := K
  obtain ⟨hx, hb, hml, hown, hlocks, hr, hin⟩ := id K
  have hl : lv_has ls 1 [(0, .ref h0)] := hl
  refine lv_aload_n hx hb dX11_isSound_0 rfl (lv_at hl 0 rfl) ?_
  refine kcallV (wc := [(h0, .inr (15, [.ref a1, .ref a2, .ref a3, .ref a4, .ref a5, .int 0, .int 0, .int 110, .int 0, .int 0, .int 0])), (a1, .inr (3, [.int 0, .ref g.2.1, .int 0])), (a2, .inr (3, [.int 0, .ref g.2.1, .int 0])), (a3, .inr (3, [.int 0, .ref g.2.1, .int 0])), (a4, .inr (3, [.int 0, .ref g.2.1, .int 0])), (a5, .inr (5, [.ref k0, .ref r0, .ref b1, .ref b2, .ref b3, .ref b4, .ref b5, .int 0])), (k0, .inr (7, [.ref b6, .ref b7, .ref b8, .ref b9, .ref b10, .int 0, .int 0])), (r0, .inr (3, [.int 0, .ref g.2.1, .int 0]))]) (wr := []) (As := []) (rest := []) K G (m_X11_areKeptHoursSound l hl0 g h0 a1 a2 a3 a4 a5 k0 r0 b1 b2 b3 b4 b5 b6 b7 b8 b9 b10 ) hP hD hS hA hl kw_259 kw_260 kw_261 kw_262 kw_4 ydX11_areKeptHoursSound [0, 1, 2, 3, 4, 5, 6, 7] [] rfl rfl rfl rfl (by decide) (ci := 15) (q0 := 0) rfl rfl rfl rfl rfl (Nat.le_of_ble_eq_true rfl) dX11_isSound_1 ⟨Nat.le_of_ble_eq_true rfl, Nat.le_of_ble_eq_true rfl⟩ ⟨Nat.le_of_ble_eq_true rfl, Nat.le_of_ble_eq_true rfl⟩ (fun _ _ _ _ _ _ hX _ _ _ _ _ _ => hX.elim) (fun v w1 H locs hQ hP hD hS => ?_)
  obtain ⟨rfl, rfl⟩ := hQ
  have hP : va_P g.1 vwCl [(h0, .inr (15, [.ref a1, .ref a2, .ref a3, .ref a4, .ref a5, .int 0, .int 0, .int 110, .int 0, .int 0, .int 0])), (a1, .inr (3, [.int 0, .ref g.2.1, .int 0])), (a2, .inr (3, [.int 0, .ref g.2.1, .int 0])), (a3, .inr (3, [.int 0, .ref g.2.1, .int 0])), (a4, .inr (3, [.int 0, .ref g.2.1, .int 0])), (a5, .inr (5, [.ref k0, .ref r0, .ref b1, .ref b2, .ref b3, .ref b4, .ref b5, .int 0])), (k0, .inr (7, [.ref b6, .ref b7, .ref b8, .ref b9, .ref b10, .int 0, .int 0])), (r0, .inr (3, [.int 0, .ref g.2.1, .int 0]))] H := hP
  have hD : va_D A [(h0, .inr (15, [.ref a1, .ref a2, .ref a3, .ref a4, .ref a5, .int 0, .int 0, .int 110, .int 0, .int 0, .int 0])), (a1, .inr (3, [.int 0, .ref g.2.1, .int 0])), (a2, .inr (3, [.int 0, .ref g.2.1, .int 0])), (a3, .inr (3, [.int 0, .ref g.2.1, .int 0])), (a4, .inr (3, [.int 0, .ref g.2.1, .int 0])), (a5, .inr (5, [.ref k0, .ref r0, .ref b1, .ref b2, .ref b3, .ref b4, .ref b5, .int 0])), (k0, .inr (7, [.ref b6, .ref b7, .ref b8, .ref b9, .ref b10, .int 0, .int 0])), (r0, .inr (3, [.int 0, .ref g.2.1, .int 0]))] := hD
  refine W.widen (k := 0) (n := 0) (by decide) (by decide) ?_
  refine W.eq (g2 := F0 m 4 ls [.int 1]) rfl ?_
  refine lv_if_eq (tgt := 28) hx hb dX11_isSound_4 (by decide) (fun c4_2 => absurd c4_2 (by decide)) (fun _ => ?_)
  refine lv_aload_n hx hb dX11_isSound_7 rfl (lv_at hl 0 rfl) ?_
  refine va_get (D := g.1) (ci := 15) (v := .ref a5) (C := RX11) (T := TX11) (N := 11) hx hb G.ws inX11 hown G.K hP 0 rfl rfl 4 (by decide) (G.w kw_54) (fun _ h9 => h9) rfl dX11_isSound_8 ?_
  refine kcallV (wc := [(a5, .inr (5, [.ref k0, .ref r0, .ref b1, .ref b2, .ref b3, .ref b4, .ref b5, .int 0])), (r0, .inr (3, [.int 0, .ref g.2.1, .int 0]))]) (wr := [(h0, .inr (15, [.ref a1, .ref a2, .ref a3, .ref a4, .ref a5, .int 0, .int 0, .int 110, .int 0, .int 0, .int 0])), (a1, .inr (3, [.int 0, .ref g.2.1, .int 0])), (a2, .inr (3, [.int 0, .ref g.2.1, .int 0])), (a3, .inr (3, [.int 0, .ref g.2.1, .int 0])), (a4, .inr (3, [.int 0, .ref g.2.1, .int 0])), (k0, .inr (7, [.ref b6, .ref b7, .ref b8, .ref b9, .ref b10, .int 0, .int 0]))]) (As := []) (rest := []) K G (m_X1_areDatesAsOrdersTell l hl0 g a5 k0 r0 b1 b2 b3 b4 b5 b1 b2 b3 b4 b5 ) hP hD hS hA hl kw_263 kw_264 kw_265 kw_266 kw_199 ydX1_areDatesAsOrdersTell [5, 7] [0, 1, 2, 3, 4, 6] rfl rfl rfl rfl (by decide) (ci := 5) (q0 := 5) rfl rfl rfl rfl rfl (Nat.le_of_ble_eq_true rfl) dX11_isSound_11 ⟨Nat.le_of_ble_eq_true rfl, Nat.le_of_ble_eq_true rfl⟩ ⟨Nat.le_of_ble_eq_true rfl, Nat.le_of_ble_eq_true rfl⟩ (fun _ _ _ _ _ _ hX _ _ _ _ _ _ => hX.elim) (fun v w1 H locs hQ hP hD hS => ?_)
  obtain ⟨rfl, rfl⟩ := hQ
  have hP : va_P g.1 vwCl [(h0, .inr (15, [.ref a1, .ref a2, .ref a3, .ref a4, .ref a5, .int 0, .int 0, .int 110, .int 0, .int 0, .int 0])), (a1, .inr (3, [.int 0, .ref g.2.1, .int 0])), (a2, .inr (3, [.int 0, .ref g.2.1, .int 0])), (a3, .inr (3, [.int 0, .ref g.2.1, .int 0])), (a4, .inr (3, [.int 0, .ref g.2.1, .int 0])), (k0, .inr (7, [.ref b6, .ref b7, .ref b8, .ref b9, .ref b10, .int 0, .int 0])), (a5, .inr (5, [.ref k0, .ref r0, .ref b1, .ref b2, .ref b3, .ref b4, .ref b5, .int 0])), (r0, .inr (3, [.int 0, .ref g.2.1, .int 0]))] H := hP
  have hD : va_D A [(h0, .inr (15, [.ref a1, .ref a2, .ref a3, .ref a4, .ref a5, .int 0, .int 0, .int 110, .int 0, .int 0, .int 0])), (a1, .inr (3, [.int 0, .ref g.2.1, .int 0])), (a2, .inr (3, [.int 0, .ref g.2.1, .int 0])), (a3, .inr (3, [.int 0, .ref g.2.1, .int 0])), (a4, .inr (3, [.int 0, .ref g.2.1, .int 0])), (k0, .inr (7, [.ref b6, .ref b7, .ref b8, .ref b9, .ref b10, .int 0, .int 0])), (a5, .inr (5, [.ref k0, .ref r0, .ref b1, .ref b2, .ref b3, .ref b4, .ref b5, .int 0])), (r0, .inr (3, [.int 0, .ref g.2.1, .int 0]))] := hD
  refine W.widen (k := 0) (n := 0) (by decide) (by decide) ?_
  refine W.eq (g2 := F0 m 14 ls [.int 1]) rfl ?_
  refine lv_if_eq (tgt := 28) hx hb dX11_isSound_14 (by decide) (fun c14_4 => absurd c14_4 (by decide)) (fun _ => ?_)
  refine lv_aload_n hx hb dX11_isSound_17 rfl (lv_at hl 0 rfl) ?_
  refine kcallV (wc := [(h0, .inr (15, [.ref a1, .ref a2, .ref a3, .ref a4, .ref a5, .int 0, .int 0, .int 110, .int 0, .int 0, .int 0])), (a1, .inr (3, [.int 0, .ref g.2.1, .int 0])), (a2, .inr (3, [.int 0, .ref g.2.1, .int 0])), (a3, .inr (3, [.int 0, .ref g.2.1, .int 0])), (a4, .inr (3, [.int 0, .ref g.2.1, .int 0])), (a5, .inr (5, [.ref k0, .ref r0, .ref b1, .ref b2, .ref b3, .ref b4, .ref b5, .int 0])), (k0, .inr (7, [.ref b6, .ref b7, .ref b8, .ref b9, .ref b10, .int 0, .int 0])), (r0, .inr (3, [.int 0, .ref g.2.1, .int 0]))]) (wr := []) (As := []) (rest := []) K G (m_X11_areCrewsSound l hl0 g h0 a1 a2 a3 a4 a5 k0 r0 b1 b2 b3 b4 b5 b6 b7 b8 b9 b10 ) hP hD hS hA hl kw_267 kw_268 kw_269 kw_270 kw_4 ydX11_areCrewsSound [0, 1, 2, 3, 4, 6, 5, 7] [] rfl rfl rfl rfl (by decide) (ci := 15) (q0 := 0) rfl rfl rfl rfl rfl (Nat.le_of_ble_eq_true rfl) dX11_isSound_18 ⟨Nat.le_of_ble_eq_true rfl, Nat.le_of_ble_eq_true rfl⟩ ⟨Nat.le_of_ble_eq_true rfl, Nat.le_of_ble_eq_true rfl⟩ (fun _ _ _ _ _ _ hX _ _ _ _ _ _ => hX.elim) (fun v w1 H locs hQ hP hD hS => ?_)
  obtain ⟨rfl, rfl⟩ := hQ
  have hP : va_P g.1 vwCl [(h0, .inr (15, [.ref a1, .ref a2, .ref a3, .ref a4, .ref a5, .int 0, .int 0, .int 110, .int 0, .int 0, .int 0])), (a1, .inr (3, [.int 0, .ref g.2.1, .int 0])), (a2, .inr (3, [.int 0, .ref g.2.1, .int 0])), (a3, .inr (3, [.int 0, .ref g.2.1, .int 0])), (a4, .inr (3, [.int 0, .ref g.2.1, .int 0])), (a5, .inr (5, [.ref k0, .ref r0, .ref b1, .ref b2, .ref b3, .ref b4, .ref b5, .int 0])), (k0, .inr (7, [.ref b6, .ref b7, .ref b8, .ref b9, .ref b10, .int 0, .int 0])), (r0, .inr (3, [.int 0, .ref g.2.1, .int 0]))] H := hP
  have hD : va_D A [(h0, .inr (15, [.ref a1, .ref a2, .ref a3, .ref a4, .ref a5, .int 0, .int 0, .int 110, .int 0, .int 0, .int 0])), (a1, .inr (3, [.int 0, .ref g.2.1, .int 0])), (a2, .inr (3, [.int 0, .ref g.2.1, .int 0])), (a3, .inr (3, [.int 0, .ref g.2.1, .int 0])), (a4, .inr (3, [.int 0, .ref g.2.1, .int 0])), (a5, .inr (5, [.ref k0, .ref r0, .ref b1, .ref b2, .ref b3, .ref b4, .ref b5, .int 0])), (k0, .inr (7, [.ref b6, .ref b7, .ref b8, .ref b9, .ref b10, .int 0, .int 0])), (r0, .inr (3, [.int 0, .ref g.2.1, .int 0]))] := hD
  refine W.widen (k := 0) (n := 0) (by decide) (by decide) ?_
  refine W.eq (g2 := F0 m 21 ls [.int 1]) rfl ?_
  refine lv_if_eq (tgt := 28) hx hb dX11_isSound_21 (by decide) (fun c21_6 => absurd c21_6 (by decide)) (fun _ => ?_)
  refine lv_iconst (v := 1) hx hb dX11_isSound_24 (by decide) ?_
  refine lv_goto (tgt := 29) hx hb dX11_isSound_25 (by decide) ?_
  exact kretZ K hP hD hS [] [] rfl rfl (⟨rfl, rfl⟩) (by decide) (by decide) dX11_isSound_29
end
