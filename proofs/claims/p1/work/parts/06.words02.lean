theorem dX12_board_0 : decode cX12_board 0 = .ok (.aload_n 0, 1) := by decide +kernel
theorem dX12_board_1 : decode cX12_board 1 = .ok (.aload_n 0, 1) := by decide +kernel
theorem dX12_board_2 : decode cX12_board 2 = .ok (.iload_n 1, 1) := by decide +kernel
theorem dX12_board_3 : decode cX12_board 3 = .ok (.invokevirtual 240, 3) := by decide +kernel
theorem dX12_board_6 : decode cX12_board 6 = .ok (.ifCond .ne 11, 3) := by decide +kernel
theorem dX12_board_17 : decode cX12_board 17 = .ok (.iconst 1, 1) := by decide +kernel
theorem dX12_board_18 : decode cX12_board 18 = .ok (.goto 4, 3) := by decide +kernel
theorem dX12_board_22 : decode cX12_board 22 = .ok (.iconst 1, 1) := by decide +kernel
theorem dX12_board_23 : decode cX12_board 23 = .ok (.invokevirtual 191, 3) := by decide +kernel
theorem dX12_board_26 : decode cX12_board 26 = .ok (.ifCond .ne 54, 3) := by decide +kernel
theorem dX12_board_80 : decode cX12_board 80 = .ok (.iconst 0, 1) := by decide +kernel
theorem dX12_board_81 : decode cX12_board 81 = .ok (.ireturn, 1) := by decide +kernel
theorem dX12_getKept_0 : decode cX12_getKept 0 = .ok (.aload_n 0, 1) := by decide +kernel
theorem dX12_getKept_1 : decode cX12_getKept 1 = .ok (.iconst 0, 1) := by decide +kernel
theorem dX12_getKept_2 : decode cX12_getKept 2 = .ok (.putfield 163, 3) := by decide +kernel
theorem dX12_getKept_5 : decode cX12_getKept 5 = .ok (.aload_n 0, 1) := by decide +kernel
theorem dX12_getKept_6 : decode cX12_getKept 6 = .ok (.getfield 153, 3) := by decide +kernel
theorem dX12_getKept_9 : decode cX12_getKept 9 = .ok (.invokevirtual 293, 3) := by decide +kernel
theorem dX12_getKept_12 : decode cX12_getKept 12 = .ok (.ireturn, 1) := by decide +kernel
theorem dX12_addRecording_0 : decode cX12_addRecording 0 = .ok (.iload_n 3, 1) := by decide +kernel
theorem dX12_addRecording_1 : decode cX12_addRecording 1 = .ok (.iconst (-1), 1) := by decide +kernel
theorem dX12_addRecording_2 : decode cX12_addRecording 2 = .ok (.if_icmp .eq 23, 3) := by decide +kernel
theorem dX12_addRecording_5 : decode cX12_addRecording 5 = .ok (.aload_n 0, 1) := by decide +kernel
theorem dX12_addRecording_6 : decode cX12_addRecording 6 = .ok (.iload_n 3, 1) := by decide +kernel
theorem dX12_addRecording_7 : decode cX12_addRecording 7 = .ok (.invokevirtual 332, 3) := by decide +kernel
theorem dX12_addRecording_10 : decode cX12_addRecording 10 = .ok (.ifCond .eq 15, 3) := by decide +kernel
theorem dX12_addRecording_13 : decode cX12_addRecording 13 = .ok (.iload_n 3, 1) := by decide +kernel
theorem dX12_addRecording_14 : decode cX12_addRecording 14 = .ok (.bipush 100, 2) := by decide +kernel
theorem dX12_addRecording_16 : decode cX12_addRecording 16 = .ok (.sipush 200, 3) := by decide +kernel
theorem dX12_addRecording_19 : decode cX12_addRecording 19 = .ok (.invokestatic 167, 3) := by decide +kernel
theorem dX12_addRecording_22 : decode cX12_addRecording 22 = .ok (.ifCond .eq 7, 3) := by decide +kernel
theorem dX12_addRecording_25 : decode cX12_addRecording 25 = .ok (.iconst 1, 1) := by decide +kernel
theorem dX12_addRecording_26 : decode cX12_addRecording 26 = .ok (.goto 4, 3) := by decide +kernel
theorem dX12_addRecording_29 : decode cX12_addRecording 29 = .ok (.iconst 0, 1) := by decide +kernel
theorem dX12_addRecording_30 : decode cX12_addRecording 30 = .ok (.istore 4, 2) := by decide +kernel
theorem dX12_addRecording_32 : decode cX12_addRecording 32 = .ok (.aload_n 0, 1) := by decide +kernel
theorem dX12_addRecording_33 : decode cX12_addRecording 33 = .ok (.iload_n 1, 1) := by decide +kernel
theorem dX12_addRecording_34 : decode cX12_addRecording 34 = .ok (.iconst (-1), 1) := by decide +kernel
theorem dX12_addRecording_35 : decode cX12_addRecording 35 = .ok (.bipush 9, 2) := by decide +kernel
theorem dX12_addRecording_37 : decode cX12_addRecording 37 = .ok (.invokestatic 167, 3) := by decide +kernel
theorem dX12_addRecording_40 : decode cX12_addRecording 40 = .ok (.ifCond .eq 17, 3) := by decide +kernel
theorem dX12_addRecording_43 : decode cX12_addRecording 43 = .ok (.iload_n 2, 1) := by decide +kernel
theorem dX12_addRecording_44 : decode cX12_addRecording 44 = .ok (.iconst (-1), 1) := by decide +kernel
theorem dX12_addRecording_45 : decode cX12_addRecording 45 = .ok (.iconst 3, 1) := by decide +kernel
theorem dX12_addRecording_46 : decode cX12_addRecording 46 = .ok (.invokestatic 167, 3) := by decide +kernel
theorem dX12_addRecording_49 : decode cX12_addRecording 49 = .ok (.ifCond .eq 8, 3) := by decide +kernel
theorem dX12_addRecording_52 : decode cX12_addRecording 52 = .ok (.iload 4, 2) := by decide +kernel
theorem dX12_addRecording_54 : decode cX12_addRecording 54 = .ok (.ifCond .ne 7, 3) := by decide +kernel
theorem dX12_addRecording_57 : decode cX12_addRecording 57 = .ok (.iconst 1, 1) := by decide +kernel
theorem dX12_addRecording_58 : decode cX12_addRecording 58 = .ok (.goto 4, 3) := by decide +kernel
theorem dX12_addRecording_61 : decode cX12_addRecording 61 = .ok (.iconst 0, 1) := by decide +kernel
theorem dX12_addRecording_62 : decode cX12_addRecording 62 = .ok (.iconst 1, 1) := by decide +kernel
theorem dX12_addRecording_63 : decode cX12_addRecording 63 = .ok (.invokevirtual 191, 3) := by decide +kernel
theorem dX12_addRecording_66 : decode cX12_addRecording 66 = .ok (.ifCond .ne 25, 3) := by decide +kernel
theorem dX12_addRecording_69 : decode cX12_addRecording 69 = .ok (.aload_n 0, 1) := by decide +kernel
theorem dX12_addRecording_70 : decode cX12_addRecording 70 = .ok (.aload_n 0, 1) := by decide +kernel
theorem dX12_addRecording_71 : decode cX12_addRecording 71 = .ok (.getfield 338, 3) := by decide +kernel
theorem dX12_addRecording_74 : decode cX12_addRecording 74 = .ok (.bipush 6, 2) := by decide +kernel
theorem dX12_addRecording_76 : decode cX12_addRecording 76 = .ok (.if_icmp .ne 7, 3) := by decide +kernel
theorem dX12_addRecording_83 : decode cX12_addRecording 83 = .ok (.iconst 0, 1) := by decide +kernel
theorem dX12_addRecording_84 : decode cX12_addRecording 84 = .ok (.iconst 2, 1) := by decide +kernel
theorem dX12_addRecording_85 : decode cX12_addRecording 85 = .ok (.invokevirtual 191, 3) := by decide +kernel
theorem dX12_addRecording_88 : decode cX12_addRecording 88 = .ok (.ifCond .eq 5, 3) := by decide +kernel
theorem dX12_addRecording_91 : decode cX12_addRecording 91 = .ok (.iconst 0, 1) := by decide +kernel
theorem dX12_addRecording_92 : decode cX12_addRecording 92 = .ok (.ireturn, 1) := by decide +kernel
theorem dX12_addRecording_93 : decode cX12_addRecording 93 = .ok (.aload_n 0, 1) := by decide +kernel
theorem dX12_addRecording_94 : decode cX12_addRecording 94 = .ok (.getfield 157, 3) := by decide +kernel
theorem dX12_addRecording_97 : decode cX12_addRecording 97 = .ok (.aload_n 0, 1) := by decide +kernel
theorem dX12_addRecording_98 : decode cX12_addRecording 98 = .ok (.getfield 338, 3) := by decide +kernel
theorem dX12_addRecording_101 : decode cX12_addRecording 101 = .ok (.aaload, 1) := by decide +kernel
theorem dX12_addRecording_102 : decode cX12_addRecording 102 = .ok (.iconst 0, 1) := by decide +kernel
theorem dX12_addRecording_103 : decode cX12_addRecording 103 = .ok (.iload_n 1, 1) := by decide +kernel
theorem dX12_addRecording_104 : decode cX12_addRecording 104 = .ok (.iastore, 1) := by decide +kernel
theorem dX12_addRecording_105 : decode cX12_addRecording 105 = .ok (.aload_n 0, 1) := by decide +kernel
theorem dX12_addRecording_106 : decode cX12_addRecording 106 = .ok (.getfield 157, 3) := by decide +kernel
theorem dX12_addRecording_109 : decode cX12_addRecording 109 = .ok (.aload_n 0, 1) := by decide +kernel
theorem dX12_addRecording_110 : decode cX12_addRecording 110 = .ok (.getfield 338, 3) := by decide +kernel
theorem dX12_addRecording_113 : decode cX12_addRecording 113 = .ok (.aaload, 1) := by decide +kernel
theorem dX12_addRecording_114 : decode cX12_addRecording 114 = .ok (.iconst 1, 1) := by decide +kernel
theorem dX12_addRecording_115 : decode cX12_addRecording 115 = .ok (.iload_n 2, 1) := by decide +kernel
theorem dX12_addRecording_116 : decode cX12_addRecording 116 = .ok (.iastore, 1) := by decide +kernel
theorem dX12_addRecording_117 : decode cX12_addRecording 117 = .ok (.aload_n 0, 1) := by decide +kernel
theorem dX12_addRecording_118 : decode cX12_addRecording 118 = .ok (.getfield 157, 3) := by decide +kernel
theorem dX12_addRecording_121 : decode cX12_addRecording 121 = .ok (.aload_n 0, 1) := by decide +kernel
theorem dX12_addRecording_122 : decode cX12_addRecording 122 = .ok (.getfield 338, 3) := by decide +kernel
theorem dX12_addRecording_125 : decode cX12_addRecording 125 = .ok (.aaload, 1) := by decide +kernel
theorem dX12_addRecording_126 : decode cX12_addRecording 126 = .ok (.iconst 2, 1) := by decide +kernel
theorem dX12_addRecording_127 : decode cX12_addRecording 127 = .ok (.iload_n 3, 1) := by decide +kernel
theorem dX12_addRecording_128 : decode cX12_addRecording 128 = .ok (.iastore, 1) := by decide +kernel
theorem dX12_addRecording_129 : decode cX12_addRecording 129 = .ok (.aload_n 0, 1) := by decide +kernel
theorem dX12_addRecording_130 : decode cX12_addRecording 130 = .ok (.dup, 1) := by decide +kernel
theorem dX12_addRecording_131 : decode cX12_addRecording 131 = .ok (.getfield 338, 3) := by decide +kernel
theorem dX12_addRecording_134 : decode cX12_addRecording 134 = .ok (.iconst 1, 1) := by decide +kernel
theorem dX12_addRecording_135 : decode cX12_addRecording 135 = .ok (.iadd, 1) := by decide +kernel
theorem dX12_addRecording_136 : decode cX12_addRecording 136 = .ok (.putfield 338, 3) := by decide +kernel
theorem dX12_addRecording_139 : decode cX12_addRecording 139 = .ok (.aload_n 0, 1) := by decide +kernel
theorem dX12_addRecording_140 : decode cX12_addRecording 140 = .ok (.getfield 338, 3) := by decide +kernel
theorem dX12_addRecording_143 : decode cX12_addRecording 143 = .ok (.iconst 1, 1) := by decide +kernel
theorem dX12_addRecording_144 : decode cX12_addRecording 144 = .ok (.isub, 1) := by decide +kernel
theorem dX12_addRecording_145 : decode cX12_addRecording 145 = .ok (.ireturn, 1) := by decide +kernel
theorem dX12_isNoRecording_0 : decode cX12_isNoRecording 0 = .ok (.iload_n 1, 1) := by decide +kernel
theorem dX12_isNoRecording_1 : decode cX12_isNoRecording 1 = .ok (.iconst 0, 1) := by decide +kernel
theorem dX12_isNoRecording_2 : decode cX12_isNoRecording 2 = .ok (.aload_n 0, 1) := by decide +kernel
theorem dX12_isNoRecording_3 : decode cX12_isNoRecording 3 = .ok (.getfield 338, 3) := by decide +kernel
theorem dX12_isNoRecording_6 : decode cX12_isNoRecording 6 = .ok (.iconst 1, 1) := by decide +kernel
theorem dX12_isNoRecording_7 : decode cX12_isNoRecording 7 = .ok (.isub, 1) := by decide +kernel
theorem dX12_isNoRecording_8 : decode cX12_isNoRecording 8 = .ok (.invokestatic 167, 3) := by decide +kernel
theorem dX12_isNoRecording_11 : decode cX12_isNoRecording 11 = .ok (.ifCond .ne 7, 3) := by decide +kernel
theorem dX12_isNoRecording_14 : decode cX12_isNoRecording 14 = .ok (.iconst 1, 1) := by decide +kernel
theorem dX12_isNoRecording_15 : decode cX12_isNoRecording 15 = .ok (.goto 4, 3) := by decide +kernel
theorem dX12_isNoRecording_19 : decode cX12_isNoRecording 19 = .ok (.ireturn, 1) := by decide +kernel
theorem dX12_addAhead_0 : decode cX12_addAhead 0 = .ok (.aload_n 0, 1) := by decide +kernel
theorem dX12_addAhead_1 : decode cX12_addAhead 1 = .ok (.aload_n 0, 1) := by decide +kernel
theorem dX12_addAhead_2 : decode cX12_addAhead 2 = .ok (.iload_n 1, 1) := by decide +kernel
theorem dX12_addAhead_3 : decode cX12_addAhead 3 = .ok (.invokevirtual 344, 3) := by decide +kernel
theorem dX12_addAhead_6 : decode cX12_addAhead 6 = .ok (.ifCond .ne 11, 3) := by decide +kernel
theorem dX12_addAhead_17 : decode cX12_addAhead 17 = .ok (.iconst 1, 1) := by decide +kernel
theorem dX12_addAhead_18 : decode cX12_addAhead 18 = .ok (.goto 4, 3) := by decide +kernel
theorem dX12_addAhead_22 : decode cX12_addAhead 22 = .ok (.iconst 1, 1) := by decide +kernel
theorem dX12_addAhead_23 : decode cX12_addAhead 23 = .ok (.invokevirtual 191, 3) := by decide +kernel
theorem dX12_addAhead_26 : decode cX12_addAhead 26 = .ok (.ifCond .ne 54, 3) := by decide +kernel
theorem dX12_addAhead_80 : decode cX12_addAhead 80 = .ok (.iconst 0, 1) := by decide +kernel
theorem dX12_addAhead_81 : decode cX12_addAhead 81 = .ok (.ireturn, 1) := by decide +kernel
theorem dX12_getChoices_0 : decode cX12_getChoices 0 = .ok (.aload_n 0, 1) := by decide +kernel
theorem dX12_getChoices_1 : decode cX12_getChoices 1 = .ok (.aload_n 0, 1) := by decide +kernel
theorem dX12_getChoices_2 : decode cX12_getChoices 2 = .ok (.iload_n 1, 1) := by decide +kernel
theorem dX12_getChoices_3 : decode cX12_getChoices 3 = .ok (.invokevirtual 344, 3) := by decide +kernel
theorem dX12_getChoices_6 : decode cX12_getChoices 6 = .ok (.iconst 1, 1) := by decide +kernel
theorem dX12_getChoices_7 : decode cX12_getChoices 7 = .ok (.invokevirtual 191, 3) := by decide +kernel
theorem dX12_getChoices_10 : decode cX12_getChoices 10 = .ok (.ifCond .eq 5, 3) := by decide +kernel
theorem dX12_getChoices_13 : decode cX12_getChoices 13 = .ok (.iconst 0, 1) := by decide +kernel
theorem dX12_getChoices_14 : decode cX12_getChoices 14 = .ok (.ireturn, 1) := by decide +kernel
theorem dX12_getDate_0 : decode cX12_getDate 0 = .ok (.aload_n 0, 1) := by decide +kernel
theorem dX12_getDate_1 : decode cX12_getDate 1 = .ok (.aload_n 0, 1) := by decide +kernel
theorem dX12_getDate_2 : decode cX12_getDate 2 = .ok (.iload_n 1, 1) := by decide +kernel
theorem dX12_getDate_3 : decode cX12_getDate 3 = .ok (.invokevirtual 344, 3) := by decide +kernel
theorem dX12_getDate_6 : decode cX12_getDate 6 = .ok (.iconst 1, 1) := by decide +kernel
theorem dX12_getDate_7 : decode cX12_getDate 7 = .ok (.invokevirtual 191, 3) := by decide +kernel
theorem dX12_getDate_10 : decode cX12_getDate 10 = .ok (.ifCond .eq 5, 3) := by decide +kernel
theorem dX12_getDate_13 : decode cX12_getDate 13 = .ok (.iconst 0, 1) := by decide +kernel
theorem dX12_getDate_14 : decode cX12_getDate 14 = .ok (.ireturn, 1) := by decide +kernel
theorem dX12_getNightShare_0 : decode cX12_getNightShare 0 = .ok (.aload_n 0, 1) := by decide +kernel
theorem dX12_getNightShare_1 : decode cX12_getNightShare 1 = .ok (.aload_n 0, 1) := by decide +kernel
theorem dX12_getNightShare_2 : decode cX12_getNightShare 2 = .ok (.getfield 153, 3) := by decide +kernel
theorem dX12_getNightShare_5 : decode cX12_getNightShare 5 = .ok (.invokevirtual 368, 3) := by decide +kernel
theorem dX12_getNightShare_8 : decode cX12_getNightShare 8 = .ok (.iconst 1, 1) := by decide +kernel
theorem dX12_getNightShare_9 : decode cX12_getNightShare 9 = .ok (.invokevirtual 191, 3) := by decide +kernel
theorem dX12_getNightShare_12 : decode cX12_getNightShare 12 = .ok (.ifCond .eq 5, 3) := by decide +kernel
theorem dX12_getNightShare_15 : decode cX12_getNightShare 15 = .ok (.fconst 0, 1) := by decide +kernel
theorem dX12_getNightShare_16 : decode cX12_getNightShare 16 = .ok (.freturn, 1) := by decide +kernel
theorem dX12_getMeanCrew_0 : decode cX12_getMeanCrew 0 = .ok (.aload_n 0, 1) := by decide +kernel
theorem dX12_getMeanCrew_1 : decode cX12_getMeanCrew 1 = .ok (.aload_n 0, 1) := by decide +kernel
theorem dX12_getMeanCrew_2 : decode cX12_getMeanCrew 2 = .ok (.getfield 184, 3) := by decide +kernel
theorem dX12_getMeanCrew_5 : decode cX12_getMeanCrew 5 = .ok (.ifCond .ne 7, 3) := by decide +kernel
theorem dX12_getMeanCrew_8 : decode cX12_getMeanCrew 8 = .ok (.iconst 1, 1) := by decide +kernel
theorem dX12_getMeanCrew_9 : decode cX12_getMeanCrew 9 = .ok (.goto 4, 3) := by decide +kernel
theorem dX12_getMeanCrew_13 : decode cX12_getMeanCrew 13 = .ok (.iconst 1, 1) := by decide +kernel
theorem dX12_getMeanCrew_14 : decode cX12_getMeanCrew 14 = .ok (.invokevirtual 191, 3) := by decide +kernel
theorem dX12_getMeanCrew_17 : decode cX12_getMeanCrew 17 = .ok (.ifCond .eq 5, 3) := by decide +kernel
theorem dX12_getMeanCrew_20 : decode cX12_getMeanCrew 20 = .ok (.dconst 0, 1) := by decide +kernel
theorem dX12_getMeanCrew_21 : decode cX12_getMeanCrew 21 = .ok (.dreturn, 1) := by decide +kernel
theorem dX12_checksum_0 : decode cX12_checksum 0 = .ok (.aload_n 0, 1) := by decide +kernel
theorem dX12_checksum_1 : decode cX12_checksum 1 = .ok (.iconst 0, 1) := by decide +kernel
theorem dX12_checksum_2 : decode cX12_checksum 2 = .ok (.putfield 163, 3) := by decide +kernel
theorem dX12_checksum_5 : decode cX12_checksum 5 = .ok (.ldc2_w 383, 3) := by decide +kernel
theorem dX12_checksum_8 : decode cX12_checksum 8 = .ok (.lstore_n 1, 1) := by decide +kernel
theorem dX12_checksum_9 : decode cX12_checksum 9 = .ok (.iconst 0, 1) := by decide +kernel
theorem dX12_checksum_10 : decode cX12_checksum 10 = .ok (.istore_n 3, 1) := by decide +kernel
theorem dX12_checksum_11 : decode cX12_checksum 11 = .ok (.iload_n 3, 1) := by decide +kernel
theorem dX12_checksum_12 : decode cX12_checksum 12 = .ok (.aload_n 0, 1) := by decide +kernel
theorem dX12_checksum_13 : decode cX12_checksum 13 = .ok (.getfield 184, 3) := by decide +kernel
theorem dX12_checksum_16 : decode cX12_checksum 16 = .ok (.if_icmp .ge 83, 3) := by decide +kernel
theorem dX12_checksum_99 : decode cX12_checksum 99 = .ok (.ldc2_w 385, 3) := by decide +kernel
theorem dX12_checksum_102 : decode cX12_checksum 102 = .ok (.lload_n 1, 1) := by decide +kernel
theorem dX12_checksum_103 : decode cX12_checksum 103 = .ok (.lmul, 1) := by decide +kernel
theorem dX12_checksum_104 : decode cX12_checksum 104 = .ok (.aload_n 0, 1) := by decide +kernel
theorem dX12_checksum_105 : decode cX12_checksum 105 = .ok (.getfield 254, 3) := by decide +kernel
theorem dX12_checksum_108 : decode cX12_checksum 108 = .ok (.i2l, 1) := by decide +kernel
theorem dX12_checksum_109 : decode cX12_checksum 109 = .ok (.ladd, 1) := by decide +kernel
theorem dX12_checksum_110 : decode cX12_checksum 110 = .ok (.lstore_n 1, 1) := by decide +kernel
theorem dX12_checksum_111 : decode cX12_checksum 111 = .ok (.ldc2_w 385, 3) := by decide +kernel
theorem dX12_checksum_114 : decode cX12_checksum 114 = .ok (.lload_n 1, 1) := by decide +kernel
theorem dX12_checksum_115 : decode cX12_checksum 115 = .ok (.lmul, 1) := by decide +kernel
theorem dX12_checksum_116 : decode cX12_checksum 116 = .ok (.aload_n 0, 1) := by decide +kernel
theorem dX12_checksum_117 : decode cX12_checksum 117 = .ok (.getfield 199, 3) := by decide +kernel
theorem dX12_checksum_120 : decode cX12_checksum 120 = .ok (.i2l, 1) := by decide +kernel
theorem dX12_checksum_121 : decode cX12_checksum 121 = .ok (.ladd, 1) := by decide +kernel
theorem dX12_checksum_122 : decode cX12_checksum 122 = .ok (.lreturn, 1) := by decide +kernel
theorem dX12_isSound_0 : decode cX12_isSound 0 = .ok (.aload_n 0, 1) := by decide +kernel
theorem dX12_isSound_1 : decode cX12_isSound 1 = .ok (.iconst 0, 1) := by decide +kernel
theorem dX12_isSound_2 : decode cX12_isSound 2 = .ok (.putfield 163, 3) := by decide +kernel
theorem dX12_isSound_5 : decode cX12_isSound 5 = .ok (.iconst 1, 1) := by decide +kernel
theorem dX12_isSound_6 : decode cX12_isSound 6 = .ok (.ireturn, 1) := by decide +kernel
theorem dJ0_length_8abf5_0 : decode cJ0_length_8abf5 0 = .ok (.aload_n 0, 1) := by decide +kernel
theorem dJ0_length_8abf5_1 : decode cJ0_length_8abf5 1 = .ok (.getfield 9, 3) := by decide +kernel
theorem dJ0_length_8abf5_4 : decode cJ0_length_8abf5 4 = .ok (.arraylength, 1) := by decide +kernel
theorem dJ0_length_8abf5_5 : decode cJ0_length_8abf5 5 = .ok (.aload_n 0, 1) := by decide +kernel
theorem dJ0_length_8abf5_6 : decode cJ0_length_8abf5 6 = .ok (.invokevirtual 335, 3) := by decide +kernel
theorem dJ0_length_8abf5_9 : decode cJ0_length_8abf5 9 = .ok (.ishr, 1) := by decide +kernel
theorem dJ0_length_8abf5_10 : decode cJ0_length_8abf5 10 = .ok (.ireturn, 1) := by decide +kernel
theorem dJ0_indexOf_0f7a4_0 : decode cJ0_indexOf_0f7a4 0 = .ok (.aload_n 0, 1) := by decide +kernel
theorem dJ0_indexOf_0f7a4_1 : decode cJ0_indexOf_0f7a4 1 = .ok (.iload_n 1, 1) := by decide +kernel
theorem dJ0_indexOf_0f7a4_2 : decode cJ0_indexOf_0f7a4 2 = .ok (.iconst 0, 1) := by decide +kernel
theorem dJ0_indexOf_0f7a4_3 : decode cJ0_indexOf_0f7a4 3 = .ok (.invokevirtual 633, 3) := by decide +kernel
theorem dJ0_indexOf_0f7a4_6 : decode cJ0_indexOf_0f7a4 6 = .ok (.ireturn, 1) := by decide +kernel
theorem dJ0_indexOf_7cf53_0 : decode cJ0_indexOf_7cf53 0 = .ok (.aload_n 0, 1) := by decide +kernel
theorem dJ0_indexOf_7cf53_1 : decode cJ0_indexOf_7cf53 1 = .ok (.invokevirtual 492, 3) := by decide +kernel
theorem dJ0_indexOf_7cf53_4 : decode cJ0_indexOf_7cf53 4 = .ok (.ifCond .eq 19, 3) := by decide +kernel
theorem dJ0_indexOf_7cf53_7 : decode cJ0_indexOf_7cf53 7 = .ok (.aload_n 0, 1) := by decide +kernel
theorem dJ0_indexOf_7cf53_8 : decode cJ0_indexOf_7cf53 8 = .ok (.getfield 9, 3) := by decide +kernel
theorem dJ0_indexOf_7cf53_11 : decode cJ0_indexOf_7cf53 11 = .ok (.iload_n 1, 1) := by decide +kernel
theorem dJ0_indexOf_7cf53_12 : decode cJ0_indexOf_7cf53 12 = .ok (.iload_n 2, 1) := by decide +kernel
theorem dJ0_indexOf_7cf53_13 : decode cJ0_indexOf_7cf53 13 = .ok (.aload_n 0, 1) := by decide +kernel
theorem dJ0_indexOf_7cf53_14 : decode cJ0_indexOf_7cf53 14 = .ok (.invokevirtual 505, 3) := by decide +kernel
theorem dJ0_indexOf_7cf53_17 : decode cJ0_indexOf_7cf53 17 = .ok (.invokestatic 637, 3) := by decide +kernel
theorem dJ0_indexOf_7cf53_20 : decode cJ0_indexOf_7cf53 20 = .ok (.goto 16, 3) := by decide +kernel
theorem dJ0_indexOf_7cf53_36 : decode cJ0_indexOf_7cf53 36 = .ok (.ireturn, 1) := by decide +kernel
theorem dJ0_coder_7d493_0 : decode cJ0_coder_7d493 0 = .ok (.getstatic 38, 3) := by decide +kernel
theorem dJ0_coder_7d493_3 : decode cJ0_coder_7d493 3 = .ok (.ifCond .eq 10, 3) := by decide +kernel
theorem dJ0_coder_7d493_6 : decode cJ0_coder_7d493 6 = .ok (.aload_n 0, 1) := by decide +kernel
theorem dJ0_coder_7d493_7 : decode cJ0_coder_7d493 7 = .ok (.getfield 15, 3) := by decide +kernel
theorem dJ0_coder_7d493_10 : decode cJ0_coder_7d493 10 = .ok (.goto 4, 3) := by decide +kernel
theorem dJ0_coder_7d493_14 : decode cJ0_coder_7d493 14 = .ok (.ireturn, 1) := by decide +kernel
theorem dJ0_isLatin1_aae02_0 : decode cJ0_isLatin1_aae02 0 = .ok (.getstatic 38, 3) := by decide +kernel
theorem dJ0_isLatin1_aae02_3 : decode cJ0_isLatin1_aae02 3 = .ok (.ifCond .eq 14, 3) := by decide +kernel
theorem dJ0_isLatin1_aae02_6 : decode cJ0_isLatin1_aae02 6 = .ok (.aload_n 0, 1) := by decide +kernel
theorem dJ0_isLatin1_aae02_7 : decode cJ0_isLatin1_aae02 7 = .ok (.getfield 15, 3) := by decide +kernel
theorem dJ0_isLatin1_aae02_10 : decode cJ0_isLatin1_aae02 10 = .ok (.ifCond .ne 7, 3) := by decide +kernel
theorem dJ0_isLatin1_aae02_13 : decode cJ0_isLatin1_aae02 13 = .ok (.iconst 1, 1) := by decide +kernel
theorem dJ0_isLatin1_aae02_14 : decode cJ0_isLatin1_aae02 14 = .ok (.goto 4, 3) := by decide +kernel
theorem dJ0_isLatin1_aae02_18 : decode cJ0_isLatin1_aae02 18 = .ok (.ireturn, 1) := by decide +kernel
theorem dJ1_canEncode_9a6ad_0 : decode cJ1_canEncode_9a6ad 0 = .ok (.iload_n 0, 1) := by decide +kernel
theorem dJ1_canEncode_9a6ad_1 : decode cJ1_canEncode_9a6ad 1 = .ok (.ifCond .lt 14, 3) := by decide +kernel
theorem dJ1_canEncode_9a6ad_4 : decode cJ1_canEncode_9a6ad 4 = .ok (.iload_n 0, 1) := by decide +kernel
theorem dJ1_canEncode_9a6ad_5 : decode cJ1_canEncode_9a6ad 5 = .ok (.sipush 255, 3) := by decide +kernel
theorem dJ1_canEncode_9a6ad_8 : decode cJ1_canEncode_9a6ad 8 = .ok (.if_icmp .gt 7, 3) := by decide +kernel
theorem dJ1_canEncode_9a6ad_11 : decode cJ1_canEncode_9a6ad 11 = .ok (.iconst 1, 1) := by decide +kernel
theorem dJ1_canEncode_9a6ad_12 : decode cJ1_canEncode_9a6ad 12 = .ok (.goto 4, 3) := by decide +kernel
theorem dJ1_canEncode_9a6ad_15 : decode cJ1_canEncode_9a6ad 15 = .ok (.iconst 0, 1) := by decide +kernel
theorem dJ1_canEncode_9a6ad_16 : decode cJ1_canEncode_9a6ad 16 = .ok (.ireturn, 1) := by decide +kernel
theorem dJ1_indexOf_4cfef_0 : decode cJ1_indexOf_4cfef 0 = .ok (.iload_n 1, 1) := by decide +kernel
theorem dJ1_indexOf_4cfef_1 : decode cJ1_indexOf_4cfef 1 = .ok (.invokestatic 88, 3) := by decide +kernel
theorem dJ1_indexOf_4cfef_4 : decode cJ1_indexOf_4cfef 4 = .ok (.ifCond .ne 5, 3) := by decide +kernel
theorem dJ1_indexOf_4cfef_7 : decode cJ1_indexOf_4cfef 7 = .ok (.iconst (-1), 1) := by decide +kernel
theorem dJ1_indexOf_4cfef_8 : decode cJ1_indexOf_4cfef 8 = .ok (.ireturn, 1) := by decide +kernel
theorem dJ1_indexOf_4cfef_9 : decode cJ1_indexOf_4cfef 9 = .ok (.iload_n 2, 1) := by decide +kernel
theorem dJ1_indexOf_4cfef_10 : decode cJ1_indexOf_4cfef 10 = .ok (.iconst 0, 1) := by decide +kernel
theorem dJ1_indexOf_4cfef_11 : decode cJ1_indexOf_4cfef 11 = .ok (.invokestatic 92, 3) := by decide +kernel
theorem dJ1_indexOf_4cfef_14 : decode cJ1_indexOf_4cfef 14 = .ok (.istore_n 2, 1) := by decide +kernel
theorem dJ1_indexOf_4cfef_15 : decode cJ1_indexOf_4cfef 15 = .ok (.iload_n 3, 1) := by decide +kernel
theorem dJ1_indexOf_4cfef_16 : decode cJ1_indexOf_4cfef 16 = .ok (.aload_n 0, 1) := by decide +kernel
theorem dJ1_indexOf_4cfef_17 : decode cJ1_indexOf_4cfef 17 = .ok (.arraylength, 1) := by decide +kernel
theorem dJ1_indexOf_4cfef_18 : decode cJ1_indexOf_4cfef 18 = .ok (.invokestatic 38, 3) := by decide +kernel
theorem dJ1_indexOf_4cfef_21 : decode cJ1_indexOf_4cfef 21 = .ok (.istore_n 3, 1) := by decide +kernel
theorem dJ1_indexOf_4cfef_22 : decode cJ1_indexOf_4cfef 22 = .ok (.iload_n 2, 1) := by decide +kernel
theorem dJ1_indexOf_4cfef_23 : decode cJ1_indexOf_4cfef 23 = .ok (.iload_n 3, 1) := by decide +kernel
theorem dJ1_indexOf_4cfef_24 : decode cJ1_indexOf_4cfef 24 = .ok (.if_icmp .lt 5, 3) := by decide +kernel
theorem dJ1_indexOf_4cfef_29 : decode cJ1_indexOf_4cfef 29 = .ok (.aload_n 0, 1) := by decide +kernel
theorem dJ1_indexOf_4cfef_30 : decode cJ1_indexOf_4cfef 30 = .ok (.iload_n 1, 1) := by decide +kernel
theorem dJ1_indexOf_4cfef_31 : decode cJ1_indexOf_4cfef 31 = .ok (.iload_n 2, 1) := by decide +kernel
theorem dJ1_indexOf_4cfef_32 : decode cJ1_indexOf_4cfef 32 = .ok (.iload_n 3, 1) := by decide +kernel
theorem dJ1_indexOf_4cfef_33 : decode cJ1_indexOf_4cfef 33 = .ok (.invokestatic 95, 3) := by decide +kernel
theorem dJ1_indexOf_4cfef_36 : decode cJ1_indexOf_4cfef 36 = .ok (.ireturn, 1) := by decide +kernel
theorem dJ1_indexOfChar_4cfef_0 : decode cJ1_indexOfChar_4cfef 0 = .ok (.iload_n 1, 1) := by decide +kernel
theorem dJ1_indexOfChar_4cfef_1 : decode cJ1_indexOfChar_4cfef 1 = .ok (.i2b, 1) := by decide +kernel
theorem dJ1_indexOfChar_4cfef_2 : decode cJ1_indexOfChar_4cfef 2 = .ok (.istore 4, 2) := by decide +kernel
theorem dJ1_indexOfChar_4cfef_4 : decode cJ1_indexOfChar_4cfef 4 = .ok (.iload_n 2, 1) := by decide +kernel
theorem dJ1_indexOfChar_4cfef_5 : decode cJ1_indexOfChar_4cfef 5 = .ok (.istore 5, 2) := by decide +kernel
theorem dJ1_indexOfChar_4cfef_7 : decode cJ1_indexOfChar_4cfef 7 = .ok (.iload 5, 2) := by decide +kernel
theorem dJ1_indexOfChar_4cfef_9 : decode cJ1_indexOfChar_4cfef 9 = .ok (.iload_n 3, 1) := by decide +kernel
theorem dJ1_indexOfChar_4cfef_10 : decode cJ1_indexOfChar_4cfef 10 = .ok (.if_icmp .ge 21, 3) := by decide +kernel
theorem dJ1_indexOfChar_4cfef_13 : decode cJ1_indexOfChar_4cfef 13 = .ok (.aload_n 0, 1) := by decide +kernel
theorem dJ1_indexOfChar_4cfef_14 : decode cJ1_indexOfChar_4cfef 14 = .ok (.iload 5, 2) := by decide +kernel
theorem dJ1_indexOfChar_4cfef_16 : decode cJ1_indexOfChar_4cfef 16 = .ok (.baload, 1) := by decide +kernel
theorem dJ1_indexOfChar_4cfef_17 : decode cJ1_indexOfChar_4cfef 17 = .ok (.iload 4, 2) := by decide +kernel
theorem dJ1_indexOfChar_4cfef_19 : decode cJ1_indexOfChar_4cfef 19 = .ok (.if_icmp .ne 6, 3) := by decide +kernel
theorem dJ1_indexOfChar_4cfef_22 : decode cJ1_indexOfChar_4cfef 22 = .ok (.iload 5, 2) := by decide +kernel
theorem dJ1_indexOfChar_4cfef_24 : decode cJ1_indexOfChar_4cfef 24 = .ok (.ireturn, 1) := by decide +kernel
theorem dJ1_indexOfChar_4cfef_25 : decode cJ1_indexOfChar_4cfef 25 = .ok (.iinc 5 1, 3) := by decide +kernel
theorem dJ1_indexOfChar_4cfef_28 : decode cJ1_indexOfChar_4cfef 28 = .ok (.goto (-21), 3) := by decide +kernel
theorem dJ1_indexOfChar_4cfef_31 : decode cJ1_indexOfChar_4cfef 31 = .ok (.iconst (-1), 1) := by decide +kernel
theorem dJ1_indexOfChar_4cfef_32 : decode cJ1_indexOfChar_4cfef 32 = .ok (.ireturn, 1) := by decide +kernel
theorem dJx4a65c_isEmpty_aae02_0 : decode cJx4a65c_isEmpty_aae02 0 = .ok (.aload_n 0, 1) := by decide +kernel
theorem dJx4a65c_isEmpty_aae02_1 : decode cJx4a65c_isEmpty_aae02 1 = .ok (.getfield 48, 3) := by decide +kernel
theorem dJx4a65c_isEmpty_aae02_4 : decode cJx4a65c_isEmpty_aae02 4 = .ok (.ifCond .ne 7, 3) := by decide +kernel
theorem dJx4a65c_isEmpty_aae02_7 : decode cJx4a65c_isEmpty_aae02 7 = .ok (.iconst 1, 1) := by decide +kernel
theorem dJx4a65c_isEmpty_aae02_8 : decode cJx4a65c_isEmpty_aae02 8 = .ok (.goto 4, 3) := by decide +kernel
theorem dJx4a65c_isEmpty_aae02_12 : decode cJx4a65c_isEmpty_aae02 12 = .ok (.ireturn, 1) := by decide +kernel
