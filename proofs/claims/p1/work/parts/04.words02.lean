theorem dX11_checksum_6 : decode cX11_checksum 6 = .ok (.iload_n 3, 1) := by decide +kernel
theorem dX11_checksum_7 : decode cX11_checksum 7 = .ok (.aload_n 0, 1) := by decide +kernel
theorem dX11_checksum_8 : decode cX11_checksum 8 = .ok (.getfield 19, 3) := by decide +kernel
theorem dX11_checksum_11 : decode cX11_checksum 11 = .ok (.invokevirtual 44, 3) := by decide +kernel
theorem dX11_checksum_14 : decode cX11_checksum 14 = .ok (.if_icmp .ge 90, 3) := by decide +kernel
theorem dX11_checksum_104 : decode cX11_checksum 104 = .ok (.ldc2_w 392, 3) := by decide +kernel
theorem dX11_checksum_107 : decode cX11_checksum 107 = .ok (.lload_n 1, 1) := by decide +kernel
theorem dX11_checksum_108 : decode cX11_checksum 108 = .ok (.lmul, 1) := by decide +kernel
theorem dX11_checksum_109 : decode cX11_checksum 109 = .ok (.aload_n 0, 1) := by decide +kernel
theorem dX11_checksum_110 : decode cX11_checksum 110 = .ok (.getfield 157, 3) := by decide +kernel
theorem dX11_checksum_113 : decode cX11_checksum 113 = .ok (.i2l, 1) := by decide +kernel
theorem dX11_checksum_114 : decode cX11_checksum 114 = .ok (.ladd, 1) := by decide +kernel
theorem dX11_checksum_115 : decode cX11_checksum 115 = .ok (.lstore_n 1, 1) := by decide +kernel
theorem dX11_checksum_116 : decode cX11_checksum 116 = .ok (.ldc2_w 392, 3) := by decide +kernel
theorem dX11_checksum_119 : decode cX11_checksum 119 = .ok (.lload_n 1, 1) := by decide +kernel
theorem dX11_checksum_120 : decode cX11_checksum 120 = .ok (.lmul, 1) := by decide +kernel
theorem dX11_checksum_121 : decode cX11_checksum 121 = .ok (.aload_n 0, 1) := by decide +kernel
theorem dX11_checksum_122 : decode cX11_checksum 122 = .ok (.getfield 63, 3) := by decide +kernel
theorem dX11_checksum_125 : decode cX11_checksum 125 = .ok (.i2l, 1) := by decide +kernel
theorem dX11_checksum_126 : decode cX11_checksum 126 = .ok (.ladd, 1) := by decide +kernel
theorem dX11_checksum_127 : decode cX11_checksum 127 = .ok (.lreturn, 1) := by decide +kernel
theorem dX11_isSound_0 : decode cX11_isSound 0 = .ok (.aload_n 0, 1) := by decide +kernel
theorem dX11_isSound_1 : decode cX11_isSound 1 = .ok (.invokevirtual 394, 3) := by decide +kernel
theorem dX11_isSound_4 : decode cX11_isSound 4 = .ok (.ifCond .eq 24, 3) := by decide +kernel
theorem dX11_isSound_7 : decode cX11_isSound 7 = .ok (.aload_n 0, 1) := by decide +kernel
theorem dX11_isSound_8 : decode cX11_isSound 8 = .ok (.getfield 28, 3) := by decide +kernel
theorem dX11_isSound_11 : decode cX11_isSound 11 = .ok (.invokevirtual 397, 3) := by decide +kernel
theorem dX11_isSound_14 : decode cX11_isSound 14 = .ok (.ifCond .eq 14, 3) := by decide +kernel
theorem dX11_isSound_17 : decode cX11_isSound 17 = .ok (.aload_n 0, 1) := by decide +kernel
theorem dX11_isSound_18 : decode cX11_isSound 18 = .ok (.invokevirtual 400, 3) := by decide +kernel
theorem dX11_isSound_21 : decode cX11_isSound 21 = .ok (.ifCond .eq 7, 3) := by decide +kernel
theorem dX11_isSound_24 : decode cX11_isSound 24 = .ok (.iconst 1, 1) := by decide +kernel
theorem dX11_isSound_25 : decode cX11_isSound 25 = .ok (.goto 4, 3) := by decide +kernel
theorem dX11_isSound_29 : decode cX11_isSound 29 = .ok (.ireturn, 1) := by decide +kernel
theorem dX11_requireRange_0 : decode cX11_requireRange 0 = .ok (.iload_n 0, 1) := by decide +kernel
theorem dX11_requireRange_1 : decode cX11_requireRange 1 = .ok (.iload_n 1, 1) := by decide +kernel
theorem dX11_requireRange_2 : decode cX11_requireRange 2 = .ok (.if_icmp .lt 8, 3) := by decide +kernel
theorem dX11_requireRange_5 : decode cX11_requireRange 5 = .ok (.iload_n 0, 1) := by decide +kernel
theorem dX11_requireRange_6 : decode cX11_requireRange 6 = .ok (.iload_n 2, 1) := by decide +kernel
theorem dX11_requireRange_7 : decode cX11_requireRange 7 = .ok (.if_icmp .le 14, 3) := by decide +kernel
theorem dX11_requireRange_10 : decode cX11_requireRange 10 = .ok (.new 78, 3) := by decide +kernel
theorem dX11_requireRange_13 : decode cX11_requireRange 13 = .ok (.dup, 1) := by decide +kernel
theorem dX11_requireRange_14 : decode cX11_requireRange 14 = .ok (.ldc_w 403, 3) := by decide +kernel
theorem dX11_requireRange_17 : decode cX11_requireRange 17 = .ok (.invokespecial 82, 3) := by decide +kernel
theorem dX11_requireRange_20 : decode cX11_requireRange 20 = .ok (.athrow, 1) := by decide +kernel
theorem dX11_requireRange_21 : decode cX11_requireRange 21 = .ok (.return_, 1) := by decide +kernel
theorem dX11_requirePlace_0 : decode cX11_requirePlace 0 = .ok (.iload_n 0, 1) := by decide +kernel
theorem dX11_requirePlace_1 : decode cX11_requirePlace 1 = .ok (.sipush (-999), 3) := by decide +kernel
theorem dX11_requirePlace_4 : decode cX11_requirePlace 4 = .ok (.sipush 999, 3) := by decide +kernel
theorem dX11_requirePlace_7 : decode cX11_requirePlace 7 = .ok (.invokestatic 40, 3) := by decide +kernel
theorem dX11_requirePlace_10 : decode cX11_requirePlace 10 = .ok (.iload_n 1, 1) := by decide +kernel
theorem dX11_requirePlace_11 : decode cX11_requirePlace 11 = .ok (.sipush (-999), 3) := by decide +kernel
theorem dX11_requirePlace_14 : decode cX11_requirePlace 14 = .ok (.sipush 999, 3) := by decide +kernel
theorem dX11_requirePlace_17 : decode cX11_requirePlace 17 = .ok (.invokestatic 40, 3) := by decide +kernel
theorem dX11_requirePlace_20 : decode cX11_requirePlace 20 = .ok (.return_, 1) := by decide +kernel
theorem dX11_requireRoom_0 : decode cX11_requireRoom 0 = .ok (.iload_n 0, 1) := by decide +kernel
theorem dX11_requireRoom_1 : decode cX11_requireRoom 1 = .ok (.iload_n 1, 1) := by decide +kernel
theorem dX11_requireRoom_2 : decode cX11_requireRoom 2 = .ok (.if_icmp .lt 14, 3) := by decide +kernel
theorem dX11_requireRoom_16 : decode cX11_requireRoom 16 = .ok (.return_, 1) := by decide +kernel
theorem dX11_requireNumber_0 : decode cX11_requireNumber 0 = .ok (.iload_n 0, 1) := by decide +kernel
theorem dX11_requireNumber_1 : decode cX11_requireNumber 1 = .ok (.ifCond .lt 8, 3) := by decide +kernel
theorem dX11_requireNumber_4 : decode cX11_requireNumber 4 = .ok (.iload_n 0, 1) := by decide +kernel
theorem dX11_requireNumber_5 : decode cX11_requireNumber 5 = .ok (.iload_n 1, 1) := by decide +kernel
theorem dX11_requireNumber_6 : decode cX11_requireNumber 6 = .ok (.if_icmp .lt 14, 3) := by decide +kernel
theorem dX11_requireNumber_9 : decode cX11_requireNumber 9 = .ok (.new 410, 3) := by decide +kernel
theorem dX11_requireNumber_12 : decode cX11_requireNumber 12 = .ok (.dup, 1) := by decide +kernel
theorem dX11_requireNumber_13 : decode cX11_requireNumber 13 = .ok (.ldc_w 412, 3) := by decide +kernel
theorem dX11_requireNumber_16 : decode cX11_requireNumber 16 = .ok (.invokespecial 414, 3) := by decide +kernel
theorem dX11_requireNumber_19 : decode cX11_requireNumber 19 = .ok (.athrow, 1) := by decide +kernel
theorem dX11_requireRecording_0 : decode cX11_requireRecording 0 = .ok (.iload_n 1, 1) := by decide +kernel
theorem dX11_requireRecording_1 : decode cX11_requireRecording 1 = .ok (.aload_n 0, 1) := by decide +kernel
theorem dX11_requireRecording_2 : decode cX11_requireRecording 2 = .ok (.getfield 28, 3) := by decide +kernel
theorem dX11_requireRecording_5 : decode cX11_requireRecording 5 = .ok (.getfield 344, 3) := by decide +kernel
theorem dX11_requireRecording_8 : decode cX11_requireRecording 8 = .ok (.invokevirtual 44, 3) := by decide +kernel
theorem dX11_requireRecording_11 : decode cX11_requireRecording 11 = .ok (.invokestatic 166, 3) := by decide +kernel
theorem dX11_landAt_0 : decode cX11_landAt 0 = .ok (.iload_n 1, 1) := by decide +kernel
theorem dX11_landAt_1 : decode cX11_landAt 1 = .ok (.aload_n 0, 1) := by decide +kernel
theorem dX11_landAt_2 : decode cX11_landAt 2 = .ok (.getfield 10, 3) := by decide +kernel
theorem dX11_landAt_5 : decode cX11_landAt 5 = .ok (.invokevirtual 44, 3) := by decide +kernel
theorem dX11_landAt_8 : decode cX11_landAt 8 = .ok (.invokestatic 166, 3) := by decide +kernel
theorem dX11_townAt_0 : decode cX11_townAt 0 = .ok (.iload_n 1, 1) := by decide +kernel
theorem dX11_townAt_1 : decode cX11_townAt 1 = .ok (.aload_n 0, 1) := by decide +kernel
theorem dX11_townAt_2 : decode cX11_townAt 2 = .ok (.getfield 16, 3) := by decide +kernel
theorem dX11_townAt_5 : decode cX11_townAt 5 = .ok (.invokevirtual 44, 3) := by decide +kernel
theorem dX11_townAt_8 : decode cX11_townAt 8 = .ok (.invokestatic 166, 3) := by decide +kernel
theorem dX11_shipAt_0 : decode cX11_shipAt 0 = .ok (.iload_n 1, 1) := by decide +kernel
theorem dX11_shipAt_1 : decode cX11_shipAt 1 = .ok (.aload_n 0, 1) := by decide +kernel
theorem dX11_shipAt_2 : decode cX11_shipAt 2 = .ok (.getfield 19, 3) := by decide +kernel
theorem dX11_shipAt_5 : decode cX11_shipAt 5 = .ok (.invokevirtual 44, 3) := by decide +kernel
theorem dX11_shipAt_8 : decode cX11_shipAt 8 = .ok (.invokestatic 166, 3) := by decide +kernel
theorem dX11_personAt_0 : decode cX11_personAt 0 = .ok (.iload_n 1, 1) := by decide +kernel
theorem dX11_personAt_1 : decode cX11_personAt 1 = .ok (.aload_n 0, 1) := by decide +kernel
theorem dX11_personAt_2 : decode cX11_personAt 2 = .ok (.getfield 22, 3) := by decide +kernel
theorem dX11_personAt_5 : decode cX11_personAt 5 = .ok (.invokevirtual 44, 3) := by decide +kernel
theorem dX11_personAt_8 : decode cX11_personAt 8 = .ok (.invokestatic 166, 3) := by decide +kernel
theorem dX11_isPerson_0 : decode cX11_isPerson 0 = .ok (.iload_n 1, 1) := by decide +kernel
theorem dX11_isPerson_1 : decode cX11_isPerson 1 = .ok (.ifCond .lt 18, 3) := by decide +kernel
theorem dX11_isPerson_4 : decode cX11_isPerson 4 = .ok (.iload_n 1, 1) := by decide +kernel
theorem dX11_isPerson_5 : decode cX11_isPerson 5 = .ok (.aload_n 0, 1) := by decide +kernel
theorem dX11_isPerson_6 : decode cX11_isPerson 6 = .ok (.getfield 22, 3) := by decide +kernel
theorem dX11_isPerson_9 : decode cX11_isPerson 9 = .ok (.invokevirtual 44, 3) := by decide +kernel
theorem dX11_isPerson_12 : decode cX11_isPerson 12 = .ok (.if_icmp .ge 7, 3) := by decide +kernel
theorem dX11_isPerson_19 : decode cX11_isPerson 19 = .ok (.iconst 0, 1) := by decide +kernel
theorem dX11_isPerson_20 : decode cX11_isPerson 20 = .ok (.ireturn, 1) := by decide +kernel
theorem dX11_isPersonOrTape_0 : decode cX11_isPersonOrTape 0 = .ok (.aload_n 0, 1) := by decide +kernel
theorem dX11_isPersonOrTape_1 : decode cX11_isPersonOrTape 1 = .ok (.iload_n 1, 1) := by decide +kernel
theorem dX11_isPersonOrTape_2 : decode cX11_isPersonOrTape 2 = .ok (.invokevirtual 415, 3) := by decide +kernel
theorem dX11_isPersonOrTape_5 : decode cX11_isPersonOrTape 5 = .ok (.ifCond .ne 10, 3) := by decide +kernel
theorem dX11_isPersonOrTape_8 : decode cX11_isPersonOrTape 8 = .ok (.iload_n 1, 1) := by decide +kernel
theorem dX11_isPersonOrTape_9 : decode cX11_isPersonOrTape 9 = .ok (.invokestatic 418, 3) := by decide +kernel
theorem dX11_isPersonOrTape_12 : decode cX11_isPersonOrTape 12 = .ok (.ifCond .eq 7, 3) := by decide +kernel
theorem dX11_isPersonOrTape_15 : decode cX11_isPersonOrTape 15 = .ok (.iconst 1, 1) := by decide +kernel
theorem dX11_isPersonOrTape_16 : decode cX11_isPersonOrTape 16 = .ok (.goto 4, 3) := by decide +kernel
theorem dX11_isPersonOrTape_19 : decode cX11_isPersonOrTape 19 = .ok (.iconst 0, 1) := by decide +kernel
theorem dX11_isPersonOrTape_20 : decode cX11_isPersonOrTape 20 = .ok (.ireturn, 1) := by decide +kernel
theorem dX11_isTape_0 : decode cX11_isTape 0 = .ok (.iload_n 0, 1) := by decide +kernel
theorem dX11_isTape_1 : decode cX11_isTape 1 = .ok (.bipush 100, 2) := by decide +kernel
theorem dX11_isTape_3 : decode cX11_isTape 3 = .ok (.if_icmp .lt 14, 3) := by decide +kernel
theorem dX11_isTape_6 : decode cX11_isTape 6 = .ok (.iload_n 0, 1) := by decide +kernel
theorem dX11_isTape_7 : decode cX11_isTape 7 = .ok (.sipush 199, 3) := by decide +kernel
theorem dX11_isTape_10 : decode cX11_isTape 10 = .ok (.if_icmp .gt 7, 3) := by decide +kernel
theorem dX11_isTape_13 : decode cX11_isTape 13 = .ok (.iconst 1, 1) := by decide +kernel
theorem dX11_isTape_14 : decode cX11_isTape 14 = .ok (.goto 4, 3) := by decide +kernel
theorem dX11_isTape_17 : decode cX11_isTape 17 = .ok (.iconst 0, 1) := by decide +kernel
theorem dX11_isTape_18 : decode cX11_isTape 18 = .ok (.ireturn, 1) := by decide +kernel
theorem dX11_passHour_0 : decode cX11_passHour 0 = .ok (.aload_n 0, 1) := by decide +kernel
theorem dX11_passHour_1 : decode cX11_passHour 1 = .ok (.invokevirtual 437, 3) := by decide +kernel
theorem dX11_passHour_4 : decode cX11_passHour 4 = .ok (.aload_n 0, 1) := by decide +kernel
theorem dX11_passHour_5 : decode cX11_passHour 5 = .ok (.invokevirtual 440, 3) := by decide +kernel
theorem dX11_passHour_8 : decode cX11_passHour 8 = .ok (.aload_n 0, 1) := by decide +kernel
theorem dX11_passHour_9 : decode cX11_passHour 9 = .ok (.invokevirtual 443, 3) := by decide +kernel
theorem dX11_passHour_12 : decode cX11_passHour 12 = .ok (.aload_n 0, 1) := by decide +kernel
theorem dX11_passHour_13 : decode cX11_passHour 13 = .ok (.invokevirtual 446, 3) := by decide +kernel
theorem dX11_passHour_16 : decode cX11_passHour 16 = .ok (.aload_n 0, 1) := by decide +kernel
theorem dX11_passHour_17 : decode cX11_passHour 17 = .ok (.invokevirtual 449, 3) := by decide +kernel
theorem dX11_passHour_20 : decode cX11_passHour 20 = .ok (.aload_n 0, 1) := by decide +kernel
theorem dX11_passHour_21 : decode cX11_passHour 21 = .ok (.invokevirtual 452, 3) := by decide +kernel
theorem dX11_passHour_24 : decode cX11_passHour 24 = .ok (.aload_n 0, 1) := by decide +kernel
theorem dX11_passHour_25 : decode cX11_passHour 25 = .ok (.invokevirtual 455, 3) := by decide +kernel
theorem dX11_passHour_28 : decode cX11_passHour 28 = .ok (.aload_n 0, 1) := by decide +kernel
theorem dX11_passHour_29 : decode cX11_passHour 29 = .ok (.invokevirtual 458, 3) := by decide +kernel
theorem dX11_passHour_32 : decode cX11_passHour 32 = .ok (.aload_n 0, 1) := by decide +kernel
theorem dX11_passHour_33 : decode cX11_passHour 33 = .ok (.invokevirtual 461, 3) := by decide +kernel
theorem dX11_passHour_36 : decode cX11_passHour 36 = .ok (.aload_n 0, 1) := by decide +kernel
theorem dX11_passHour_37 : decode cX11_passHour 37 = .ok (.dup, 1) := by decide +kernel
theorem dX11_passHour_38 : decode cX11_passHour 38 = .ok (.getfield 63, 3) := by decide +kernel
theorem dX11_passHour_41 : decode cX11_passHour 41 = .ok (.iconst 1, 1) := by decide +kernel
theorem dX11_passHour_42 : decode cX11_passHour 42 = .ok (.iadd, 1) := by decide +kernel
theorem dX11_passHour_43 : decode cX11_passHour 43 = .ok (.putfield 63, 3) := by decide +kernel
theorem dX11_passHour_46 : decode cX11_passHour 46 = .ok (.return_, 1) := by decide +kernel
theorem dX11_runGenerators_0 : decode cX11_runGenerators 0 = .ok (.iconst 0, 1) := by decide +kernel
theorem dX11_runGenerators_1 : decode cX11_runGenerators 1 = .ok (.istore_n 1, 1) := by decide +kernel
theorem dX11_runGenerators_2 : decode cX11_runGenerators 2 = .ok (.iload_n 1, 1) := by decide +kernel
theorem dX11_runGenerators_3 : decode cX11_runGenerators 3 = .ok (.aload_n 0, 1) := by decide +kernel
theorem dX11_runGenerators_4 : decode cX11_runGenerators 4 = .ok (.getfield 19, 3) := by decide +kernel
theorem dX11_runGenerators_7 : decode cX11_runGenerators 7 = .ok (.invokevirtual 44, 3) := by decide +kernel
theorem dX11_runGenerators_10 : decode cX11_runGenerators 10 = .ok (.if_icmp .ge 23, 3) := by decide +kernel
theorem dX11_runGenerators_33 : decode cX11_runGenerators 33 = .ok (.return_, 1) := by decide +kernel
theorem dX11_goOnAir_0 : decode cX11_goOnAir 0 = .ok (.iconst 0, 1) := by decide +kernel
theorem dX11_goOnAir_1 : decode cX11_goOnAir 1 = .ok (.istore_n 1, 1) := by decide +kernel
theorem dX11_goOnAir_2 : decode cX11_goOnAir 2 = .ok (.iload_n 1, 1) := by decide +kernel
theorem dX11_goOnAir_3 : decode cX11_goOnAir 3 = .ok (.aload_n 0, 1) := by decide +kernel
theorem dX11_goOnAir_4 : decode cX11_goOnAir 4 = .ok (.getfield 19, 3) := by decide +kernel
theorem dX11_goOnAir_7 : decode cX11_goOnAir 7 = .ok (.invokevirtual 44, 3) := by decide +kernel
theorem dX11_goOnAir_10 : decode cX11_goOnAir 10 = .ok (.if_icmp .ge 45, 3) := by decide +kernel
theorem dX11_goOnAir_55 : decode cX11_goOnAir 55 = .ok (.return_, 1) := by decide +kernel
theorem dX11_listen_0 : decode cX11_listen 0 = .ok (.iconst 0, 1) := by decide +kernel
theorem dX11_listen_1 : decode cX11_listen 1 = .ok (.istore_n 1, 1) := by decide +kernel
theorem dX11_listen_2 : decode cX11_listen 2 = .ok (.iload_n 1, 1) := by decide +kernel
theorem dX11_listen_3 : decode cX11_listen 3 = .ok (.aload_n 0, 1) := by decide +kernel
theorem dX11_listen_4 : decode cX11_listen 4 = .ok (.getfield 19, 3) := by decide +kernel
theorem dX11_listen_7 : decode cX11_listen 7 = .ok (.invokevirtual 44, 3) := by decide +kernel
theorem dX11_listen_10 : decode cX11_listen 10 = .ok (.if_icmp .ge 24, 3) := by decide +kernel
theorem dX11_listen_34 : decode cX11_listen 34 = .ok (.iconst 0, 1) := by decide +kernel
theorem dX11_listen_35 : decode cX11_listen 35 = .ok (.istore_n 1, 1) := by decide +kernel
theorem dX11_listen_36 : decode cX11_listen 36 = .ok (.iload_n 1, 1) := by decide +kernel
theorem dX11_listen_37 : decode cX11_listen 37 = .ok (.aload_n 0, 1) := by decide +kernel
theorem dX11_listen_38 : decode cX11_listen 38 = .ok (.getfield 16, 3) := by decide +kernel
theorem dX11_listen_41 : decode cX11_listen 41 = .ok (.invokevirtual 44, 3) := by decide +kernel
theorem dX11_listen_44 : decode cX11_listen 44 = .ok (.if_icmp .ge 77, 3) := by decide +kernel
theorem dX11_listen_121 : decode cX11_listen 121 = .ok (.return_, 1) := by decide +kernel
theorem dX11_playSpots_0 : decode cX11_playSpots 0 = .ok (.iconst 0, 1) := by decide +kernel
theorem dX11_playSpots_1 : decode cX11_playSpots 1 = .ok (.istore_n 1, 1) := by decide +kernel
theorem dX11_playSpots_2 : decode cX11_playSpots 2 = .ok (.iload_n 1, 1) := by decide +kernel
theorem dX11_playSpots_3 : decode cX11_playSpots 3 = .ok (.aload_n 0, 1) := by decide +kernel
theorem dX11_playSpots_4 : decode cX11_playSpots 4 = .ok (.getfield 19, 3) := by decide +kernel
theorem dX11_playSpots_7 : decode cX11_playSpots 7 = .ok (.invokevirtual 44, 3) := by decide +kernel
theorem dX11_playSpots_10 : decode cX11_playSpots 10 = .ok (.if_icmp .ge 48, 3) := by decide +kernel
theorem dX11_playSpots_58 : decode cX11_playSpots 58 = .ok (.return_, 1) := by decide +kernel
theorem dX11_speak_0 : decode cX11_speak 0 = .ok (.iconst 0, 1) := by decide +kernel
theorem dX11_speak_1 : decode cX11_speak 1 = .ok (.istore_n 1, 1) := by decide +kernel
theorem dX11_speak_2 : decode cX11_speak 2 = .ok (.iload_n 1, 1) := by decide +kernel
theorem dX11_speak_3 : decode cX11_speak 3 = .ok (.aload_n 0, 1) := by decide +kernel
theorem dX11_speak_4 : decode cX11_speak 4 = .ok (.getfield 19, 3) := by decide +kernel
theorem dX11_speak_7 : decode cX11_speak 7 = .ok (.invokevirtual 44, 3) := by decide +kernel
theorem dX11_speak_10 : decode cX11_speak 10 = .ok (.if_icmp .ge 79, 3) := by decide +kernel
theorem dX11_speak_89 : decode cX11_speak 89 = .ok (.return_, 1) := by decide +kernel
theorem dX11_keepHour_0 : decode cX11_keepHour 0 = .ok (.iconst 0, 1) := by decide +kernel
theorem dX11_keepHour_1 : decode cX11_keepHour 1 = .ok (.istore_n 1, 1) := by decide +kernel
theorem dX11_keepHour_2 : decode cX11_keepHour 2 = .ok (.iload_n 1, 1) := by decide +kernel
theorem dX11_keepHour_3 : decode cX11_keepHour 3 = .ok (.aload_n 0, 1) := by decide +kernel
theorem dX11_keepHour_4 : decode cX11_keepHour 4 = .ok (.getfield 19, 3) := by decide +kernel
theorem dX11_keepHour_7 : decode cX11_keepHour 7 = .ok (.invokevirtual 44, 3) := by decide +kernel
theorem dX11_keepHour_10 : decode cX11_keepHour 10 = .ok (.if_icmp .ge 55, 3) := by decide +kernel
theorem dX11_keepHour_65 : decode cX11_keepHour 65 = .ok (.return_, 1) := by decide +kernel
theorem dX11_eatAndTire_0 : decode cX11_eatAndTire 0 = .ok (.iconst 0, 1) := by decide +kernel
theorem dX11_eatAndTire_1 : decode cX11_eatAndTire 1 = .ok (.istore_n 1, 1) := by decide +kernel
theorem dX11_eatAndTire_2 : decode cX11_eatAndTire 2 = .ok (.iload_n 1, 1) := by decide +kernel
theorem dX11_eatAndTire_3 : decode cX11_eatAndTire 3 = .ok (.aload_n 0, 1) := by decide +kernel
theorem dX11_eatAndTire_4 : decode cX11_eatAndTire 4 = .ok (.getfield 19, 3) := by decide +kernel
theorem dX11_eatAndTire_7 : decode cX11_eatAndTire 7 = .ok (.invokevirtual 44, 3) := by decide +kernel
theorem dX11_eatAndTire_10 : decode cX11_eatAndTire 10 = .ok (.if_icmp .ge 28, 3) := by decide +kernel
theorem dX11_eatAndTire_38 : decode cX11_eatAndTire 38 = .ok (.iconst 0, 1) := by decide +kernel
theorem dX11_eatAndTire_39 : decode cX11_eatAndTire 39 = .ok (.istore_n 1, 1) := by decide +kernel
theorem dX11_eatAndTire_40 : decode cX11_eatAndTire 40 = .ok (.iload_n 1, 1) := by decide +kernel
theorem dX11_eatAndTire_41 : decode cX11_eatAndTire 41 = .ok (.aload_n 0, 1) := by decide +kernel
theorem dX11_eatAndTire_42 : decode cX11_eatAndTire 42 = .ok (.getfield 22, 3) := by decide +kernel
theorem dX11_eatAndTire_45 : decode cX11_eatAndTire 45 = .ok (.invokevirtual 44, 3) := by decide +kernel
theorem dX11_eatAndTire_48 : decode cX11_eatAndTire 48 = .ok (.if_icmp .ge 39, 3) := by decide +kernel
theorem dX11_eatAndTire_87 : decode cX11_eatAndTire 87 = .ok (.return_, 1) := by decide +kernel
theorem dX11_gatherSalt_0 : decode cX11_gatherSalt 0 = .ok (.aload_n 0, 1) := by decide +kernel
theorem dX11_gatherSalt_1 : decode cX11_gatherSalt 1 = .ok (.getfield 85, 3) := by decide +kernel
theorem dX11_gatherSalt_4 : decode cX11_gatherSalt 4 = .ok (.bipush 7, 2) := by decide +kernel
theorem dX11_gatherSalt_6 : decode cX11_gatherSalt 6 = .ok (.if_icmp .lt 49, 3) := by decide +kernel
theorem dX11_gatherSalt_9 : decode cX11_gatherSalt 9 = .ok (.iconst 0, 1) := by decide +kernel
theorem dX11_gatherSalt_10 : decode cX11_gatherSalt 10 = .ok (.istore_n 1, 1) := by decide +kernel
theorem dX11_gatherSalt_11 : decode cX11_gatherSalt 11 = .ok (.iload_n 1, 1) := by decide +kernel
theorem dX11_gatherSalt_12 : decode cX11_gatherSalt 12 = .ok (.aload_n 0, 1) := by decide +kernel
theorem dX11_gatherSalt_13 : decode cX11_gatherSalt 13 = .ok (.getfield 19, 3) := by decide +kernel
theorem dX11_gatherSalt_16 : decode cX11_gatherSalt 16 = .ok (.invokevirtual 44, 3) := by decide +kernel
theorem dX11_gatherSalt_19 : decode cX11_gatherSalt 19 = .ok (.if_icmp .ge 36, 3) := by decide +kernel
theorem dX11_gatherSalt_55 : decode cX11_gatherSalt 55 = .ok (.return_, 1) := by decide +kernel
theorem dX11_moveShips_0 : decode cX11_moveShips 0 = .ok (.iconst 0, 1) := by decide +kernel
theorem dX11_moveShips_1 : decode cX11_moveShips 1 = .ok (.istore_n 1, 1) := by decide +kernel
theorem dX11_moveShips_2 : decode cX11_moveShips 2 = .ok (.iload_n 1, 1) := by decide +kernel
theorem dX11_moveShips_3 : decode cX11_moveShips 3 = .ok (.aload_n 0, 1) := by decide +kernel
theorem dX11_moveShips_4 : decode cX11_moveShips 4 = .ok (.getfield 19, 3) := by decide +kernel
theorem dX11_moveShips_7 : decode cX11_moveShips 7 = .ok (.invokevirtual 44, 3) := by decide +kernel
theorem dX11_moveShips_10 : decode cX11_moveShips 10 = .ok (.if_icmp .ge 34, 3) := by decide +kernel
theorem dX11_moveShips_44 : decode cX11_moveShips 44 = .ok (.return_, 1) := by decide +kernel
theorem dX11_countAboard_0 : decode cX11_countAboard 0 = .ok (.iconst 0, 1) := by decide +kernel
theorem dX11_countAboard_1 : decode cX11_countAboard 1 = .ok (.istore_n 1, 1) := by decide +kernel
theorem dX11_countAboard_2 : decode cX11_countAboard 2 = .ok (.iconst 0, 1) := by decide +kernel
theorem dX11_countAboard_3 : decode cX11_countAboard 3 = .ok (.istore_n 2, 1) := by decide +kernel
theorem dX11_countAboard_4 : decode cX11_countAboard 4 = .ok (.iload_n 2, 1) := by decide +kernel
theorem dX11_countAboard_5 : decode cX11_countAboard 5 = .ok (.aload_n 0, 1) := by decide +kernel
theorem dX11_countAboard_6 : decode cX11_countAboard 6 = .ok (.getfield 22, 3) := by decide +kernel
theorem dX11_countAboard_9 : decode cX11_countAboard 9 = .ok (.invokevirtual 44, 3) := by decide +kernel
theorem dX11_countAboard_12 : decode cX11_countAboard 12 = .ok (.if_icmp .ge 30, 3) := by decide +kernel
theorem dX11_countAboard_42 : decode cX11_countAboard 42 = .ok (.iload_n 1, 1) := by decide +kernel
theorem dX11_countAboard_43 : decode cX11_countAboard 43 = .ok (.ireturn, 1) := by decide +kernel
theorem dX11_areKeptHoursSound_0 : decode cX11_areKeptHoursSound 0 = .ok (.iconst 0, 1) := by decide +kernel
theorem dX11_areKeptHoursSound_1 : decode cX11_areKeptHoursSound 1 = .ok (.istore_n 1, 1) := by decide +kernel
theorem dX11_areKeptHoursSound_2 : decode cX11_areKeptHoursSound 2 = .ok (.iload_n 1, 1) := by decide +kernel
theorem dX11_areKeptHoursSound_3 : decode cX11_areKeptHoursSound 3 = .ok (.aload_n 0, 1) := by decide +kernel
theorem dX11_areKeptHoursSound_4 : decode cX11_areKeptHoursSound 4 = .ok (.getfield 28, 3) := by decide +kernel
theorem dX11_areKeptHoursSound_7 : decode cX11_areKeptHoursSound 7 = .ok (.getfield 333, 3) := by decide +kernel
theorem dX11_areKeptHoursSound_10 : decode cX11_areKeptHoursSound 10 = .ok (.getfield 337, 3) := by decide +kernel
theorem dX11_areKeptHoursSound_13 : decode cX11_areKeptHoursSound 13 = .ok (.if_icmp .ge 36, 3) := by decide +kernel
theorem dX11_areKeptHoursSound_49 : decode cX11_areKeptHoursSound 49 = .ok (.iconst 1, 1) := by decide +kernel
theorem dX11_areKeptHoursSound_50 : decode cX11_areKeptHoursSound 50 = .ok (.ireturn, 1) := by decide +kernel
theorem dX11_areCrewsSound_0 : decode cX11_areCrewsSound 0 = .ok (.iconst 0, 1) := by decide +kernel
theorem dX11_areCrewsSound_1 : decode cX11_areCrewsSound 1 = .ok (.istore_n 1, 1) := by decide +kernel
theorem dX11_areCrewsSound_2 : decode cX11_areCrewsSound 2 = .ok (.iconst 0, 1) := by decide +kernel
theorem dX11_areCrewsSound_3 : decode cX11_areCrewsSound 3 = .ok (.istore_n 2, 1) := by decide +kernel
theorem dX11_areCrewsSound_4 : decode cX11_areCrewsSound 4 = .ok (.iload_n 2, 1) := by decide +kernel
theorem dX11_areCrewsSound_5 : decode cX11_areCrewsSound 5 = .ok (.aload_n 0, 1) := by decide +kernel
theorem dX11_areCrewsSound_6 : decode cX11_areCrewsSound 6 = .ok (.getfield 19, 3) := by decide +kernel
theorem dX11_areCrewsSound_9 : decode cX11_areCrewsSound 9 = .ok (.invokevirtual 44, 3) := by decide +kernel
theorem dX11_areCrewsSound_12 : decode cX11_areCrewsSound 12 = .ok (.if_icmp .ge 17, 3) := by decide +kernel
theorem dX11_areCrewsSound_29 : decode cX11_areCrewsSound 29 = .ok (.iload_n 1, 1) := by decide +kernel
theorem dX11_areCrewsSound_30 : decode cX11_areCrewsSound 30 = .ok (.aload_n 0, 1) := by decide +kernel
theorem dX11_areCrewsSound_31 : decode cX11_areCrewsSound 31 = .ok (.invokevirtual 387, 3) := by decide +kernel
theorem dX11_areCrewsSound_34 : decode cX11_areCrewsSound 34 = .ok (.if_icmp .ne 7, 3) := by decide +kernel
theorem dX11_areCrewsSound_37 : decode cX11_areCrewsSound 37 = .ok (.iconst 1, 1) := by decide +kernel
theorem dX11_areCrewsSound_38 : decode cX11_areCrewsSound 38 = .ok (.goto 4, 3) := by decide +kernel
theorem dX11_areCrewsSound_42 : decode cX11_areCrewsSound 42 = .ok (.ireturn, 1) := by decide +kernel
theorem dJxa1e45_init_da8c8_0 : decode cJxa1e45_init_da8c8 0 = .ok (.aload_n 0, 1) := by decide +kernel
theorem dJxa1e45_init_da8c8_1 : decode cJxa1e45_init_da8c8 1 = .ok (.invokespecial 1, 3) := by decide +kernel
theorem dJxa1e45_init_da8c8_4 : decode cJxa1e45_init_da8c8 4 = .ok (.return_, 1) := by decide +kernel
theorem dJxc12de_init_da8c8_0 : decode cJxc12de_init_da8c8 0 = .ok (.aload_n 0, 1) := by decide +kernel
theorem dJxc12de_init_da8c8_1 : decode cJxc12de_init_da8c8 1 = .ok (.invokespecial 1, 3) := by decide +kernel
theorem dJxc12de_init_da8c8_4 : decode cJxc12de_init_da8c8 4 = .ok (.aload_n 0, 1) := by decide +kernel
theorem dJxc12de_init_da8c8_5 : decode cJxc12de_init_da8c8 5 = .ok (.iconst 0, 1) := by decide +kernel
theorem dJxc12de_init_da8c8_6 : decode cJxc12de_init_da8c8 6 = .ok (.putfield 7, 3) := by decide +kernel
theorem dJxc12de_init_da8c8_9 : decode cJxc12de_init_da8c8 9 = .ok (.return_, 1) := by decide +kernel
theorem dJx4a65c_init_da8c8_0 : decode cJx4a65c_init_da8c8 0 = .ok (.aload_n 0, 1) := by decide +kernel
theorem dJx4a65c_init_da8c8_1 : decode cJx4a65c_init_da8c8 1 = .ok (.invokespecial 1, 3) := by decide +kernel
theorem dJx4a65c_init_da8c8_4 : decode cJx4a65c_init_da8c8 4 = .ok (.aload_n 0, 1) := by decide +kernel
theorem dJx4a65c_init_da8c8_5 : decode cJx4a65c_init_da8c8 5 = .ok (.getstatic 39, 3) := by decide +kernel
theorem dJx4a65c_init_da8c8_8 : decode cJx4a65c_init_da8c8 8 = .ok (.putfield 9, 3) := by decide +kernel
theorem dJx4a65c_init_da8c8_11 : decode cJx4a65c_init_da8c8 11 = .ok (.return_, 1) := by decide +kernel
theorem dJx4a65c_grow_92f84_0 : decode cJx4a65c_grow_92f84 0 = .ok (.aload_n 0, 1) := by decide +kernel
theorem dJx4a65c_grow_92f84_1 : decode cJx4a65c_grow_92f84 1 = .ok (.getfield 9, 3) := by decide +kernel
theorem dJx4a65c_grow_92f84_4 : decode cJx4a65c_grow_92f84 4 = .ok (.arraylength, 1) := by decide +kernel
theorem dJx4a65c_grow_92f84_5 : decode cJx4a65c_grow_92f84 5 = .ok (.istore_n 2, 1) := by decide +kernel
theorem dJx4a65c_grow_92f84_6 : decode cJx4a65c_grow_92f84 6 = .ok (.iload_n 2, 1) := by decide +kernel
theorem dJx4a65c_grow_92f84_7 : decode cJx4a65c_grow_92f84 7 = .ok (.ifCond .gt 13, 3) := by decide +kernel
theorem dJx4a65c_grow_92f84_10 : decode cJx4a65c_grow_92f84 10 = .ok (.aload_n 0, 1) := by decide +kernel
theorem dJx4a65c_grow_92f84_11 : decode cJx4a65c_grow_92f84 11 = .ok (.getfield 9, 3) := by decide +kernel
theorem dJx4a65c_grow_92f84_14 : decode cJx4a65c_grow_92f84 14 = .ok (.getstatic 39, 3) := by decide +kernel
theorem dJx4a65c_grow_92f84_17 : decode cJx4a65c_grow_92f84 17 = .ok (.if_acmp .eq 28, 3) := by decide +kernel
theorem dJx4a65c_grow_92f84_45 : decode cJx4a65c_grow_92f84 45 = .ok (.aload_n 0, 1) := by decide +kernel
theorem dJx4a65c_grow_92f84_46 : decode cJx4a65c_grow_92f84 46 = .ok (.bipush 10, 2) := by decide +kernel
theorem dJx4a65c_grow_92f84_48 : decode cJx4a65c_grow_92f84 48 = .ok (.iload_n 1, 1) := by decide +kernel
theorem dJx4a65c_grow_92f84_49 : decode cJx4a65c_grow_92f84 49 = .ok (.invokestatic 79, 3) := by decide +kernel
theorem dJx4a65c_grow_92f84_52 : decode cJx4a65c_grow_92f84 52 = .ok (.anewarray 7, 3) := by decide +kernel
theorem dJx4a65c_grow_92f84_55 : decode cJx4a65c_grow_92f84 55 = .ok (.dup_x1, 1) := by decide +kernel
theorem dJx4a65c_grow_92f84_56 : decode cJx4a65c_grow_92f84 56 = .ok (.putfield 9, 3) := by decide +kernel
theorem dJx4a65c_grow_92f84_59 : decode cJx4a65c_grow_92f84 59 = .ok (.areturn, 1) := by decide +kernel
theorem dJx4a65c_grow_d5877_0 : decode cJx4a65c_grow_d5877 0 = .ok (.aload_n 0, 1) := by decide +kernel
theorem dJx4a65c_grow_d5877_1 : decode cJx4a65c_grow_d5877 1 = .ok (.aload_n 0, 1) := by decide +kernel
theorem dJx4a65c_grow_d5877_2 : decode cJx4a65c_grow_d5877 2 = .ok (.getfield 48, 3) := by decide +kernel
theorem dJx4a65c_grow_d5877_5 : decode cJx4a65c_grow_d5877 5 = .ok (.iconst 1, 1) := by decide +kernel
theorem dJx4a65c_grow_d5877_6 : decode cJx4a65c_grow_d5877 6 = .ok (.iadd, 1) := by decide +kernel
theorem dJx4a65c_grow_d5877_7 : decode cJx4a65c_grow_d5877 7 = .ok (.invokevirtual 69, 3) := by decide +kernel
theorem dJx4a65c_grow_d5877_10 : decode cJx4a65c_grow_d5877 10 = .ok (.areturn, 1) := by decide +kernel
theorem dJx4a65c_size_8abf5_0 : decode cJx4a65c_size_8abf5 0 = .ok (.aload_n 0, 1) := by decide +kernel
theorem dJx4a65c_size_8abf5_1 : decode cJx4a65c_size_8abf5 1 = .ok (.getfield 48, 3) := by decide +kernel
theorem dJx4a65c_size_8abf5_4 : decode cJx4a65c_size_8abf5 4 = .ok (.ireturn, 1) := by decide +kernel
theorem dJx4a65c_add_72be8_0 : decode cJx4a65c_add_72be8 0 = .ok (.iload_n 3, 1) := by decide +kernel
theorem dJx4a65c_add_72be8_1 : decode cJx4a65c_add_72be8 1 = .ok (.aload_n 2, 1) := by decide +kernel
theorem dJx4a65c_add_72be8_2 : decode cJx4a65c_add_72be8 2 = .ok (.arraylength, 1) := by decide +kernel
theorem dJx4a65c_add_72be8_3 : decode cJx4a65c_add_72be8 3 = .ok (.if_icmp .ne 8, 3) := by decide +kernel
theorem dJx4a65c_add_72be8_6 : decode cJx4a65c_add_72be8 6 = .ok (.aload_n 0, 1) := by decide +kernel
theorem dJx4a65c_add_72be8_7 : decode cJx4a65c_add_72be8 7 = .ok (.invokevirtual 129, 3) := by decide +kernel
theorem dJx4a65c_add_72be8_10 : decode cJx4a65c_add_72be8 10 = .ok (.astore_n 2, 1) := by decide +kernel
theorem dJx4a65c_add_72be8_11 : decode cJx4a65c_add_72be8 11 = .ok (.aload_n 2, 1) := by decide +kernel
theorem dJx4a65c_add_72be8_12 : decode cJx4a65c_add_72be8 12 = .ok (.iload_n 3, 1) := by decide +kernel
theorem dJx4a65c_add_72be8_13 : decode cJx4a65c_add_72be8 13 = .ok (.aload_n 1, 1) := by decide +kernel
theorem dJx4a65c_add_72be8_14 : decode cJx4a65c_add_72be8 14 = .ok (.aastore, 1) := by decide +kernel
theorem dJx4a65c_add_72be8_15 : decode cJx4a65c_add_72be8 15 = .ok (.aload_n 0, 1) := by decide +kernel
theorem dJx4a65c_add_72be8_16 : decode cJx4a65c_add_72be8 16 = .ok (.iload_n 3, 1) := by decide +kernel
theorem dJx4a65c_add_72be8_17 : decode cJx4a65c_add_72be8 17 = .ok (.iconst 1, 1) := by decide +kernel
theorem dJx4a65c_add_72be8_18 : decode cJx4a65c_add_72be8 18 = .ok (.iadd, 1) := by decide +kernel
theorem dJx4a65c_add_72be8_19 : decode cJx4a65c_add_72be8 19 = .ok (.putfield 48, 3) := by decide +kernel
theorem dJx4a65c_add_72be8_22 : decode cJx4a65c_add_72be8 22 = .ok (.return_, 1) := by decide +kernel
theorem dJx4a65c_add_9ea2d_0 : decode cJx4a65c_add_9ea2d 0 = .ok (.aload_n 0, 1) := by decide +kernel
theorem dJx4a65c_add_9ea2d_1 : decode cJx4a65c_add_9ea2d 1 = .ok (.dup, 1) := by decide +kernel
theorem dJx4a65c_add_9ea2d_2 : decode cJx4a65c_add_9ea2d 2 = .ok (.getfield 63, 3) := by decide +kernel
theorem dJx4a65c_add_9ea2d_5 : decode cJx4a65c_add_9ea2d 5 = .ok (.iconst 1, 1) := by decide +kernel
theorem dJx4a65c_add_9ea2d_6 : decode cJx4a65c_add_9ea2d 6 = .ok (.iadd, 1) := by decide +kernel
theorem dJx4a65c_add_9ea2d_7 : decode cJx4a65c_add_9ea2d 7 = .ok (.putfield 63, 3) := by decide +kernel
theorem dJx4a65c_add_9ea2d_10 : decode cJx4a65c_add_9ea2d 10 = .ok (.aload_n 0, 1) := by decide +kernel
theorem dJx4a65c_add_9ea2d_11 : decode cJx4a65c_add_9ea2d 11 = .ok (.aload_n 1, 1) := by decide +kernel
theorem dJx4a65c_add_9ea2d_12 : decode cJx4a65c_add_9ea2d 12 = .ok (.aload_n 0, 1) := by decide +kernel
theorem dJx4a65c_add_9ea2d_13 : decode cJx4a65c_add_9ea2d 13 = .ok (.getfield 9, 3) := by decide +kernel
theorem dJx4a65c_add_9ea2d_16 : decode cJx4a65c_add_9ea2d 16 = .ok (.aload_n 0, 1) := by decide +kernel
theorem dJx4a65c_add_9ea2d_17 : decode cJx4a65c_add_9ea2d 17 = .ok (.getfield 48, 3) := by decide +kernel
theorem dJx4a65c_add_9ea2d_20 : decode cJx4a65c_add_9ea2d 20 = .ok (.invokevirtual 131, 3) := by decide +kernel
theorem dJx4a65c_add_9ea2d_23 : decode cJx4a65c_add_9ea2d 23 = .ok (.iconst 1, 1) := by decide +kernel
theorem dJx4a65c_add_9ea2d_24 : decode cJx4a65c_add_9ea2d 24 = .ok (.ireturn, 1) := by decide +kernel
