theorem dX8_feed_19 : decode cX8_feed 19 = .ok (.putfield 101, 3) := by decide +kernel
theorem dX8_feed_22 : decode cX8_feed 22 = .ok (.aload_n 0, 1) := by decide +kernel
theorem dX8_feed_23 : decode cX8_feed 23 = .ok (.iconst 0, 1) := by decide +kernel
theorem dX8_feed_24 : decode cX8_feed 24 = .ok (.aload_n 0, 1) := by decide +kernel
theorem dX8_feed_25 : decode cX8_feed 25 = .ok (.getfield 98, 3) := by decide +kernel
theorem dX8_feed_28 : decode cX8_feed 28 = .ok (.iload_n 1, 1) := by decide +kernel
theorem dX8_feed_29 : decode cX8_feed 29 = .ok (.isub, 1) := by decide +kernel
theorem dX8_feed_30 : decode cX8_feed 30 = .ok (.invokestatic 92, 3) := by decide +kernel
theorem dX8_feed_33 : decode cX8_feed 33 = .ok (.putfield 98, 3) := by decide +kernel
theorem dX8_feed_36 : decode cX8_feed 36 = .ok (.aload_n 0, 1) := by decide +kernel
theorem dX8_feed_37 : decode cX8_feed 37 = .ok (.getfield 101, 3) := by decide +kernel
theorem dX8_feed_40 : decode cX8_feed 40 = .ok (.bipush 24, 2) := by decide +kernel
theorem dX8_feed_42 : decode cX8_feed 42 = .ok (.if_icmp .lt 8, 3) := by decide +kernel
theorem dX8_feed_45 : decode cX8_feed 45 = .ok (.aload_n 0, 1) := by decide +kernel
theorem dX8_feed_46 : decode cX8_feed 46 = .ok (.iconst 1, 1) := by decide +kernel
theorem dX8_feed_47 : decode cX8_feed 47 = .ok (.putfield 85, 3) := by decide +kernel
theorem dX8_feed_50 : decode cX8_feed 50 = .ok (.return_, 1) := by decide +kernel
theorem dX8_moveBy_0 : decode cX8_moveBy 0 = .ok (.aload_n 0, 1) := by decide +kernel
theorem dX8_moveBy_1 : decode cX8_moveBy 1 = .ok (.aload_n 0, 1) := by decide +kernel
theorem dX8_moveBy_2 : decode cX8_moveBy 2 = .ok (.getfield 41, 3) := by decide +kernel
theorem dX8_moveBy_5 : decode cX8_moveBy 5 = .ok (.iload_n 1, 1) := by decide +kernel
theorem dX8_moveBy_6 : decode cX8_moveBy 6 = .ok (.iadd, 1) := by decide +kernel
theorem dX8_moveBy_7 : decode cX8_moveBy 7 = .ok (.invokestatic 104, 3) := by decide +kernel
theorem dX8_moveBy_10 : decode cX8_moveBy 10 = .ok (.putfield 41, 3) := by decide +kernel
theorem dX8_moveBy_13 : decode cX8_moveBy 13 = .ok (.aload_n 0, 1) := by decide +kernel
theorem dX8_moveBy_14 : decode cX8_moveBy 14 = .ok (.aload_n 0, 1) := by decide +kernel
theorem dX8_moveBy_15 : decode cX8_moveBy 15 = .ok (.getfield 45, 3) := by decide +kernel
theorem dX8_moveBy_18 : decode cX8_moveBy 18 = .ok (.iload_n 2, 1) := by decide +kernel
theorem dX8_moveBy_19 : decode cX8_moveBy 19 = .ok (.iadd, 1) := by decide +kernel
theorem dX8_moveBy_20 : decode cX8_moveBy 20 = .ok (.invokestatic 104, 3) := by decide +kernel
theorem dX8_moveBy_23 : decode cX8_moveBy 23 = .ok (.putfield 45, 3) := by decide +kernel
theorem dX8_moveBy_26 : decode cX8_moveBy 26 = .ok (.return_, 1) := by decide +kernel
theorem dX9_playOne_0 : decode cX9_playOne 0 = .ok (.aload_n 0, 1) := by decide +kernel
theorem dX9_playOne_1 : decode cX9_playOne 1 = .ok (.getfield 20, 3) := by decide +kernel
theorem dX9_playOne_4 : decode cX9_playOne 4 = .ok (.ifCond .le 23, 3) := by decide +kernel
theorem dX9_playOne_7 : decode cX9_playOne 7 = .ok (.aload_n 0, 1) := by decide +kernel
theorem dX9_playOne_8 : decode cX9_playOne 8 = .ok (.dup, 1) := by decide +kernel
theorem dX9_playOne_9 : decode cX9_playOne 9 = .ok (.getfield 20, 3) := by decide +kernel
theorem dX9_playOne_12 : decode cX9_playOne 12 = .ok (.iconst 1, 1) := by decide +kernel
theorem dX9_playOne_13 : decode cX9_playOne 13 = .ok (.isub, 1) := by decide +kernel
theorem dX9_playOne_14 : decode cX9_playOne 14 = .ok (.putfield 20, 3) := by decide +kernel
theorem dX9_playOne_17 : decode cX9_playOne 17 = .ok (.aload_n 0, 1) := by decide +kernel
theorem dX9_playOne_18 : decode cX9_playOne 18 = .ok (.dup, 1) := by decide +kernel
theorem dX9_playOne_19 : decode cX9_playOne 19 = .ok (.getfield 23, 3) := by decide +kernel
theorem dX9_playOne_22 : decode cX9_playOne 22 = .ok (.iload_n 1, 1) := by decide +kernel
theorem dX9_playOne_23 : decode cX9_playOne 23 = .ok (.iadd, 1) := by decide +kernel
theorem dX9_playOne_24 : decode cX9_playOne 24 = .ok (.putfield 23, 3) := by decide +kernel
theorem dX9_playOne_27 : decode cX9_playOne 27 = .ok (.return_, 1) := by decide +kernel
theorem dX11_isPerson_0 : decode cX11_isPerson 0 = .ok (.iload_n 1, 1) := by decide +kernel
theorem dX11_isPerson_1 : decode cX11_isPerson 1 = .ok (.ifCond .lt 18, 3) := by decide +kernel
theorem dX11_isPerson_4 : decode cX11_isPerson 4 = .ok (.iload_n 1, 1) := by decide +kernel
theorem dX11_isPerson_5 : decode cX11_isPerson 5 = .ok (.aload_n 0, 1) := by decide +kernel
theorem dX11_isPerson_6 : decode cX11_isPerson 6 = .ok (.getfield 22, 3) := by decide +kernel
theorem dX11_isPerson_9 : decode cX11_isPerson 9 = .ok (.invokevirtual 44, 3) := by decide +kernel
theorem dX11_isPerson_12 : decode cX11_isPerson 12 = .ok (.if_icmp .ge 7, 3) := by decide +kernel
theorem dX11_isPerson_15 : decode cX11_isPerson 15 = .ok (.iconst 1, 1) := by decide +kernel
theorem dX11_isPerson_16 : decode cX11_isPerson 16 = .ok (.goto 4, 3) := by decide +kernel
theorem dX11_isPerson_19 : decode cX11_isPerson 19 = .ok (.iconst 0, 1) := by decide +kernel
theorem dX11_isPerson_20 : decode cX11_isPerson 20 = .ok (.ireturn, 1) := by decide +kernel
theorem dX11_isTape_0 : decode cX11_isTape 0 = .ok (.iload_n 0, 1) := by decide +kernel
theorem dX11_isTape_1 : decode cX11_isTape 1 = .ok (.bipush 100, 2) := by decide +kernel
theorem dX11_isTape_3 : decode cX11_isTape 3 = .ok (.if_icmp .lt 14, 3) := by decide +kernel
theorem dX11_isTape_6 : decode cX11_isTape 6 = .ok (.iload_n 0, 1) := by decide +kernel
theorem dX11_isTape_7 : decode cX11_isTape 7 = .ok (.sipush 199, 3) := by decide +kernel
theorem dX11_isTape_10 : decode cX11_isTape 10 = .ok (.if_icmp .gt 7, 3) := by decide +kernel
theorem dX11_isTape_13 : decode cX11_isTape 13 = .ok (.iconst 1, 1) := by decide +kernel
theorem dX11_isTape_14 : decode cX11_isTape 14 = .ok (.goto 4, 3) := by decide +kernel
theorem dX11_isTape_17 : decode cX11_isTape 17 = .ok (.iconst 0, 1) := by decide +kernel
theorem dX11_isTape_18 : decode cX11_isTape 18 = .ok (.ireturn, 1) := by decide +kernel
theorem dX11_holdOf_0 : decode cX11_holdOf 0 = .ok (.iload_n 0, 1) := by decide +kernel
theorem dX11_holdOf_1 : decode cX11_holdOf 1 = .ok (.bipush 115, 2) := by decide +kernel
theorem dX11_holdOf_3 : decode cX11_holdOf 3 = .ok (.if_icmp .ne 8, 3) := by decide +kernel
theorem dX11_holdOf_6 : decode cX11_holdOf 6 = .ok (.bipush 8, 2) := by decide +kernel
theorem dX11_holdOf_8 : decode cX11_holdOf 8 = .ok (.goto 25, 3) := by decide +kernel
theorem dX11_holdOf_11 : decode cX11_holdOf 11 = .ok (.iload_n 0, 1) := by decide +kernel
theorem dX11_holdOf_12 : decode cX11_holdOf 12 = .ok (.bipush 109, 2) := by decide +kernel
theorem dX11_holdOf_14 : decode cX11_holdOf 14 = .ok (.if_icmp .ne 8, 3) := by decide +kernel
theorem dX11_holdOf_17 : decode cX11_holdOf 17 = .ok (.bipush 6, 2) := by decide +kernel
theorem dX11_holdOf_19 : decode cX11_holdOf 19 = .ok (.goto 14, 3) := by decide +kernel
theorem dX11_holdOf_22 : decode cX11_holdOf 22 = .ok (.iload_n 0, 1) := by decide +kernel
theorem dX11_holdOf_23 : decode cX11_holdOf 23 = .ok (.bipush 114, 2) := by decide +kernel
theorem dX11_holdOf_25 : decode cX11_holdOf 25 = .ok (.if_icmp .ne 7, 3) := by decide +kernel
theorem dX11_holdOf_28 : decode cX11_holdOf 28 = .ok (.iconst 4, 1) := by decide +kernel
theorem dX11_holdOf_29 : decode cX11_holdOf 29 = .ok (.goto 4, 3) := by decide +kernel
theorem dX11_holdOf_32 : decode cX11_holdOf 32 = .ok (.iconst 0, 1) := by decide +kernel
theorem dX11_holdOf_33 : decode cX11_holdOf 33 = .ok (.ireturn, 1) := by decide +kernel
theorem dX11_apart_0 : decode cX11_apart 0 = .ok (.iload_n 0, 1) := by decide +kernel
theorem dX11_apart_1 : decode cX11_apart 1 = .ok (.iload_n 2, 1) := by decide +kernel
theorem dX11_apart_2 : decode cX11_apart 2 = .ok (.isub, 1) := by decide +kernel
theorem dX11_apart_3 : decode cX11_apart 3 = .ok (.invokestatic 421, 3) := by decide +kernel
theorem dX11_apart_6 : decode cX11_apart 6 = .ok (.iload_n 1, 1) := by decide +kernel
theorem dX11_apart_7 : decode cX11_apart 7 = .ok (.iload_n 3, 1) := by decide +kernel
theorem dX11_apart_8 : decode cX11_apart 8 = .ok (.isub, 1) := by decide +kernel
theorem dX11_apart_9 : decode cX11_apart 9 = .ok (.invokestatic 421, 3) := by decide +kernel
theorem dX11_apart_12 : decode cX11_apart 12 = .ok (.invokestatic 426, 3) := by decide +kernel
theorem dX11_apart_15 : decode cX11_apart 15 = .ok (.ireturn, 1) := by decide +kernel
theorem dX11_within_0 : decode cX11_within 0 = .ok (.sipush (-999), 3) := by decide +kernel
theorem dX11_within_3 : decode cX11_within 3 = .ok (.sipush 999, 3) := by decide +kernel
theorem dX11_within_6 : decode cX11_within 6 = .ok (.iload_n 0, 1) := by decide +kernel
theorem dX11_within_7 : decode cX11_within 7 = .ok (.invokestatic 429, 3) := by decide +kernel
theorem dX11_within_10 : decode cX11_within 10 = .ok (.invokestatic 426, 3) := by decide +kernel
theorem dX11_within_13 : decode cX11_within 13 = .ok (.ireturn, 1) := by decide +kernel
theorem dX11_isNight_0 : decode cX11_isNight 0 = .ok (.iload_n 0, 1) := by decide +kernel
theorem dX11_isNight_1 : decode cX11_isNight 1 = .ok (.bipush 24, 2) := by decide +kernel
theorem dX11_isNight_3 : decode cX11_isNight 3 = .ok (.irem, 1) := by decide +kernel
theorem dX11_isNight_4 : decode cX11_isNight 4 = .ok (.istore_n 1, 1) := by decide +kernel
theorem dX11_isNight_5 : decode cX11_isNight 5 = .ok (.iload_n 1, 1) := by decide +kernel
theorem dX11_isNight_6 : decode cX11_isNight 6 = .ok (.bipush 6, 2) := by decide +kernel
theorem dX11_isNight_8 : decode cX11_isNight 8 = .ok (.if_icmp .lt 9, 3) := by decide +kernel
theorem dX11_isNight_11 : decode cX11_isNight 11 = .ok (.iload_n 1, 1) := by decide +kernel
theorem dX11_isNight_12 : decode cX11_isNight 12 = .ok (.bipush 17, 2) := by decide +kernel
theorem dX11_isNight_14 : decode cX11_isNight 14 = .ok (.if_icmp .le 7, 3) := by decide +kernel
theorem dX11_isNight_17 : decode cX11_isNight 17 = .ok (.iconst 1, 1) := by decide +kernel
theorem dX11_isNight_18 : decode cX11_isNight 18 = .ok (.goto 4, 3) := by decide +kernel
theorem dX11_isNight_21 : decode cX11_isNight 21 = .ok (.iconst 0, 1) := by decide +kernel
theorem dX11_isNight_22 : decode cX11_isNight 22 = .ok (.ireturn, 1) := by decide +kernel
theorem dX11_isInsideLine_0 : decode cX11_isInsideLine 0 = .ok (.aload_n 1, 1) := by decide +kernel
theorem dX11_isInsideLine_1 : decode cX11_isInsideLine 1 = .ok (.getfield 432, 3) := by decide +kernel
theorem dX11_isInsideLine_4 : decode cX11_isInsideLine 4 = .ok (.aload_n 1, 1) := by decide +kernel
theorem dX11_isInsideLine_5 : decode cX11_isInsideLine 5 = .ok (.getfield 433, 3) := by decide +kernel
theorem dX11_isInsideLine_8 : decode cX11_isInsideLine 8 = .ok (.aload_n 2, 1) := by decide +kernel
theorem dX11_isInsideLine_9 : decode cX11_isInsideLine 9 = .ok (.getfield 110, 3) := by decide +kernel
theorem dX11_isInsideLine_12 : decode cX11_isInsideLine 12 = .ok (.aload_n 2, 1) := by decide +kernel
theorem dX11_isInsideLine_13 : decode cX11_isInsideLine 13 = .ok (.getfield 113, 3) := by decide +kernel
theorem dX11_isInsideLine_16 : decode cX11_isInsideLine 16 = .ok (.invokestatic 327, 3) := by decide +kernel
theorem dX11_isInsideLine_19 : decode cX11_isInsideLine 19 = .ok (.aload_n 1, 1) := by decide +kernel
theorem dX11_isInsideLine_20 : decode cX11_isInsideLine 20 = .ok (.aload_n 0, 1) := by decide +kernel
theorem dX11_isInsideLine_21 : decode cX11_isInsideLine 21 = .ok (.getfield 63, 3) := by decide +kernel
theorem dX11_isInsideLine_24 : decode cX11_isInsideLine 24 = .ok (.invokevirtual 74, 3) := by decide +kernel
theorem dX11_isInsideLine_27 : decode cX11_isInsideLine 27 = .ok (.if_icmp .gt 7, 3) := by decide +kernel
theorem dX11_isInsideLine_30 : decode cX11_isInsideLine 30 = .ok (.iconst 1, 1) := by decide +kernel
theorem dX11_isInsideLine_31 : decode cX11_isInsideLine 31 = .ok (.goto 4, 3) := by decide +kernel
theorem dX11_isInsideLine_34 : decode cX11_isInsideLine 34 = .ok (.iconst 0, 1) := by decide +kernel
theorem dX11_isInsideLine_35 : decode cX11_isInsideLine 35 = .ok (.ireturn, 1) := by decide +kernel
theorem dX11_landAround_0 : decode cX11_landAround 0 = .ok (.iconst 0, 1) := by decide +kernel
theorem dX11_landAround_1 : decode cX11_landAround 1 = .ok (.istore_n 2, 1) := by decide +kernel
theorem dX11_landAround_2 : decode cX11_landAround 2 = .ok (.iload_n 2, 1) := by decide +kernel
theorem dX11_landAround_3 : decode cX11_landAround 3 = .ok (.aload_n 0, 1) := by decide +kernel
theorem dX11_landAround_4 : decode cX11_landAround 4 = .ok (.getfield 10, 3) := by decide +kernel
theorem dX11_landAround_7 : decode cX11_landAround 7 = .ok (.invokevirtual 44, 3) := by decide +kernel
theorem dX11_landAround_10 : decode cX11_landAround 10 = .ok (.if_icmp .ge 30, 3) := by decide +kernel
theorem dX11_landAround_13 : decode cX11_landAround 13 = .ok (.aload_n 0, 1) := by decide +kernel
theorem dX11_landAround_14 : decode cX11_landAround 14 = .ok (.aload_n 0, 1) := by decide +kernel
theorem dX11_landAround_15 : decode cX11_landAround 15 = .ok (.getfield 10, 3) := by decide +kernel
theorem dX11_landAround_18 : decode cX11_landAround 18 = .ok (.iload_n 2, 1) := by decide +kernel
theorem dX11_landAround_19 : decode cX11_landAround 19 = .ok (.invokevirtual 169, 3) := by decide +kernel
theorem dX11_landAround_22 : decode cX11_landAround 22 = .ok (.checkcast 51, 3) := by decide +kernel
theorem dX11_landAround_25 : decode cX11_landAround 25 = .ok (.aload_n 1, 1) := by decide +kernel
theorem dX11_landAround_26 : decode cX11_landAround 26 = .ok (.invokevirtual 319, 3) := by decide +kernel
theorem dX11_landAround_29 : decode cX11_landAround 29 = .ok (.ifCond .eq 5, 3) := by decide +kernel
theorem dX11_landAround_34 : decode cX11_landAround 34 = .ok (.iinc 2 1, 3) := by decide +kernel
theorem dX11_landAround_37 : decode cX11_landAround 37 = .ok (.goto (-35), 3) := by decide +kernel
theorem dX11_landAround_40 : decode cX11_landAround 40 = .ok (.iconst (-1), 1) := by decide +kernel
theorem dX11_landAround_41 : decode cX11_landAround 41 = .ok (.ireturn, 1) := by decide +kernel
theorem dX11_isStranded_0 : decode cX11_isStranded 0 = .ok (.iconst 0, 1) := by decide +kernel
theorem dX11_isStranded_1 : decode cX11_isStranded 1 = .ok (.istore_n 2, 1) := by decide +kernel
theorem dX11_isStranded_2 : decode cX11_isStranded 2 = .ok (.iload_n 2, 1) := by decide +kernel
theorem dX11_isStranded_3 : decode cX11_isStranded 3 = .ok (.aload_n 0, 1) := by decide +kernel
theorem dX11_isStranded_4 : decode cX11_isStranded 4 = .ok (.getfield 10, 3) := by decide +kernel
theorem dX11_isStranded_7 : decode cX11_isStranded 7 = .ok (.invokevirtual 44, 3) := by decide +kernel
theorem dX11_isStranded_10 : decode cX11_isStranded 10 = .ok (.if_icmp .ge 49, 3) := by decide +kernel
theorem dX11_isStranded_13 : decode cX11_isStranded 13 = .ok (.aload_n 0, 1) := by decide +kernel
theorem dX11_isStranded_14 : decode cX11_isStranded 14 = .ok (.getfield 10, 3) := by decide +kernel
theorem dX11_isStranded_17 : decode cX11_isStranded 17 = .ok (.iload_n 2, 1) := by decide +kernel
theorem dX11_isStranded_18 : decode cX11_isStranded 18 = .ok (.invokevirtual 169, 3) := by decide +kernel
theorem dX11_isStranded_21 : decode cX11_isStranded 21 = .ok (.checkcast 51, 3) := by decide +kernel
theorem dX11_isStranded_24 : decode cX11_isStranded 24 = .ok (.astore_n 3, 1) := by decide +kernel
theorem dX11_isStranded_25 : decode cX11_isStranded 25 = .ok (.aload_n 3, 1) := by decide +kernel
theorem dX11_isStranded_26 : decode cX11_isStranded 26 = .ok (.getfield 432, 3) := by decide +kernel
theorem dX11_isStranded_29 : decode cX11_isStranded 29 = .ok (.aload_n 3, 1) := by decide +kernel
theorem dX11_isStranded_30 : decode cX11_isStranded 30 = .ok (.getfield 433, 3) := by decide +kernel
theorem dX11_isStranded_33 : decode cX11_isStranded 33 = .ok (.aload_n 1, 1) := by decide +kernel
theorem dX11_isStranded_34 : decode cX11_isStranded 34 = .ok (.getfield 110, 3) := by decide +kernel
theorem dX11_isStranded_37 : decode cX11_isStranded 37 = .ok (.aload_n 1, 1) := by decide +kernel
theorem dX11_isStranded_38 : decode cX11_isStranded 38 = .ok (.getfield 113, 3) := by decide +kernel
theorem dX11_isStranded_41 : decode cX11_isStranded 41 = .ok (.invokestatic 327, 3) := by decide +kernel
theorem dX11_isStranded_44 : decode cX11_isStranded 44 = .ok (.aload_n 3, 1) := by decide +kernel
theorem dX11_isStranded_45 : decode cX11_isStranded 45 = .ok (.getfield 434, 3) := by decide +kernel
theorem dX11_isStranded_48 : decode cX11_isStranded 48 = .ok (.if_icmp .gt 5, 3) := by decide +kernel
theorem dX11_isStranded_51 : decode cX11_isStranded 51 = .ok (.iconst 1, 1) := by decide +kernel
theorem dX11_isStranded_52 : decode cX11_isStranded 52 = .ok (.ireturn, 1) := by decide +kernel
theorem dX11_isStranded_53 : decode cX11_isStranded 53 = .ok (.iinc 2 1, 3) := by decide +kernel
theorem dX11_isStranded_56 : decode cX11_isStranded 56 = .ok (.goto (-54), 3) := by decide +kernel
theorem dX11_isStranded_59 : decode cX11_isStranded 59 = .ok (.iconst 0, 1) := by decide +kernel
theorem dX11_isStranded_60 : decode cX11_isStranded 60 = .ok (.ireturn, 1) := by decide +kernel
theorem dX11_runGenerators_0 : decode cX11_runGenerators 0 = .ok (.iconst 0, 1) := by decide +kernel
theorem dX11_runGenerators_1 : decode cX11_runGenerators 1 = .ok (.istore_n 1, 1) := by decide +kernel
theorem dX11_runGenerators_2 : decode cX11_runGenerators 2 = .ok (.iload_n 1, 1) := by decide +kernel
theorem dX11_runGenerators_3 : decode cX11_runGenerators 3 = .ok (.aload_n 0, 1) := by decide +kernel
theorem dX11_runGenerators_4 : decode cX11_runGenerators 4 = .ok (.getfield 19, 3) := by decide +kernel
theorem dX11_runGenerators_7 : decode cX11_runGenerators 7 = .ok (.invokevirtual 44, 3) := by decide +kernel
theorem dX11_runGenerators_10 : decode cX11_runGenerators 10 = .ok (.if_icmp .ge 23, 3) := by decide +kernel
theorem dX11_runGenerators_13 : decode cX11_runGenerators 13 = .ok (.aload_n 0, 1) := by decide +kernel
theorem dX11_runGenerators_14 : decode cX11_runGenerators 14 = .ok (.getfield 19, 3) := by decide +kernel
theorem dX11_runGenerators_17 : decode cX11_runGenerators 17 = .ok (.iload_n 1, 1) := by decide +kernel
theorem dX11_runGenerators_18 : decode cX11_runGenerators 18 = .ok (.invokevirtual 169, 3) := by decide +kernel
theorem dX11_runGenerators_21 : decode cX11_runGenerators 21 = .ok (.checkcast 102, 3) := by decide +kernel
theorem dX11_runGenerators_24 : decode cX11_runGenerators 24 = .ok (.invokevirtual 464, 3) := by decide +kernel
theorem dX11_runGenerators_27 : decode cX11_runGenerators 27 = .ok (.iinc 1 1, 3) := by decide +kernel
theorem dX11_runGenerators_30 : decode cX11_runGenerators 30 = .ok (.goto (-28), 3) := by decide +kernel
theorem dX11_runGenerators_33 : decode cX11_runGenerators 33 = .ok (.return_, 1) := by decide +kernel
theorem dX11_goOnAir_0 : decode cX11_goOnAir 0 = .ok (.iconst 0, 1) := by decide +kernel
theorem dX11_goOnAir_1 : decode cX11_goOnAir 1 = .ok (.istore_n 1, 1) := by decide +kernel
theorem dX11_goOnAir_2 : decode cX11_goOnAir 2 = .ok (.iload_n 1, 1) := by decide +kernel
theorem dX11_goOnAir_3 : decode cX11_goOnAir 3 = .ok (.aload_n 0, 1) := by decide +kernel
theorem dX11_goOnAir_4 : decode cX11_goOnAir 4 = .ok (.getfield 19, 3) := by decide +kernel
theorem dX11_goOnAir_7 : decode cX11_goOnAir 7 = .ok (.invokevirtual 44, 3) := by decide +kernel
theorem dX11_goOnAir_10 : decode cX11_goOnAir 10 = .ok (.if_icmp .ge 45, 3) := by decide +kernel
theorem dX11_goOnAir_13 : decode cX11_goOnAir 13 = .ok (.aload_n 0, 1) := by decide +kernel
theorem dX11_goOnAir_14 : decode cX11_goOnAir 14 = .ok (.getfield 19, 3) := by decide +kernel
theorem dX11_goOnAir_17 : decode cX11_goOnAir 17 = .ok (.iload_n 1, 1) := by decide +kernel
theorem dX11_goOnAir_18 : decode cX11_goOnAir 18 = .ok (.invokevirtual 169, 3) := by decide +kernel
theorem dX11_goOnAir_21 : decode cX11_goOnAir 21 = .ok (.checkcast 102, 3) := by decide +kernel
theorem dX11_goOnAir_24 : decode cX11_goOnAir 24 = .ok (.astore_n 2, 1) := by decide +kernel
theorem dX11_goOnAir_25 : decode cX11_goOnAir 25 = .ok (.aload_n 2, 1) := by decide +kernel
theorem dX11_goOnAir_26 : decode cX11_goOnAir 26 = .ok (.aload_n 2, 1) := by decide +kernel
theorem dX11_goOnAir_27 : decode cX11_goOnAir 27 = .ok (.invokevirtual 467, 3) := by decide +kernel
theorem dX11_goOnAir_30 : decode cX11_goOnAir 30 = .ok (.ifCond .eq 15, 3) := by decide +kernel
theorem dX11_goOnAir_33 : decode cX11_goOnAir 33 = .ok (.aload_n 0, 1) := by decide +kernel
theorem dX11_goOnAir_34 : decode cX11_goOnAir 34 = .ok (.iload_n 1, 1) := by decide +kernel
theorem dX11_goOnAir_35 : decode cX11_goOnAir 35 = .ok (.invokevirtual 188, 3) := by decide +kernel
theorem dX11_goOnAir_38 : decode cX11_goOnAir 38 = .ok (.ifCond .le 7, 3) := by decide +kernel
theorem dX11_goOnAir_41 : decode cX11_goOnAir 41 = .ok (.iconst 1, 1) := by decide +kernel
theorem dX11_goOnAir_42 : decode cX11_goOnAir 42 = .ok (.goto 4, 3) := by decide +kernel
theorem dX11_goOnAir_45 : decode cX11_goOnAir 45 = .ok (.iconst 0, 1) := by decide +kernel
theorem dX11_goOnAir_46 : decode cX11_goOnAir 46 = .ok (.putfield 199, 3) := by decide +kernel
theorem dX11_goOnAir_49 : decode cX11_goOnAir 49 = .ok (.iinc 1 1, 3) := by decide +kernel
theorem dX11_goOnAir_52 : decode cX11_goOnAir 52 = .ok (.goto (-50), 3) := by decide +kernel
theorem dX11_goOnAir_55 : decode cX11_goOnAir 55 = .ok (.return_, 1) := by decide +kernel
theorem dX11_strongestHeard_0 : decode cX11_strongestHeard 0 = .ok (.iconst (-1), 1) := by decide +kernel
theorem dX11_strongestHeard_1 : decode cX11_strongestHeard 1 = .ok (.istore_n 2, 1) := by decide +kernel
theorem dX11_strongestHeard_2 : decode cX11_strongestHeard 2 = .ok (.iconst 0, 1) := by decide +kernel
theorem dX11_strongestHeard_3 : decode cX11_strongestHeard 3 = .ok (.istore_n 3, 1) := by decide +kernel
theorem dX11_strongestHeard_4 : decode cX11_strongestHeard 4 = .ok (.iconst 0, 1) := by decide +kernel
theorem dX11_strongestHeard_5 : decode cX11_strongestHeard 5 = .ok (.istore 4, 2) := by decide +kernel
theorem dX11_strongestHeard_7 : decode cX11_strongestHeard 7 = .ok (.iload 4, 2) := by decide +kernel
theorem dX11_strongestHeard_9 : decode cX11_strongestHeard 9 = .ok (.aload_n 0, 1) := by decide +kernel
theorem dX11_strongestHeard_10 : decode cX11_strongestHeard 10 = .ok (.getfield 19, 3) := by decide +kernel
theorem dX11_strongestHeard_13 : decode cX11_strongestHeard 13 = .ok (.invokevirtual 44, 3) := by decide +kernel
theorem dX11_strongestHeard_16 : decode cX11_strongestHeard 16 = .ok (.if_icmp .ge 82, 3) := by decide +kernel
theorem dX11_strongestHeard_19 : decode cX11_strongestHeard 19 = .ok (.aload_n 0, 1) := by decide +kernel
theorem dX11_strongestHeard_20 : decode cX11_strongestHeard 20 = .ok (.getfield 19, 3) := by decide +kernel
theorem dX11_strongestHeard_23 : decode cX11_strongestHeard 23 = .ok (.iload 4, 2) := by decide +kernel
theorem dX11_strongestHeard_25 : decode cX11_strongestHeard 25 = .ok (.invokevirtual 169, 3) := by decide +kernel
theorem dX11_strongestHeard_28 : decode cX11_strongestHeard 28 = .ok (.checkcast 102, 3) := by decide +kernel
theorem dX11_strongestHeard_31 : decode cX11_strongestHeard 31 = .ok (.astore 5, 2) := by decide +kernel
theorem dX11_strongestHeard_33 : decode cX11_strongestHeard 33 = .ok (.aload 5, 2) := by decide +kernel
theorem dX11_strongestHeard_35 : decode cX11_strongestHeard 35 = .ok (.getfield 199, 3) := by decide +kernel
theorem dX11_strongestHeard_38 : decode cX11_strongestHeard 38 = .ok (.ifCond .eq 13, 3) := by decide +kernel
theorem dX11_strongestHeard_41 : decode cX11_strongestHeard 41 = .ok (.aload_n 0, 1) := by decide +kernel
theorem dX11_strongestHeard_42 : decode cX11_strongestHeard 42 = .ok (.aload 5, 2) := by decide +kernel
theorem dX11_strongestHeard_44 : decode cX11_strongestHeard 44 = .ok (.aload_n 1, 1) := by decide +kernel
theorem dX11_strongestHeard_45 : decode cX11_strongestHeard 45 = .ok (.invokevirtual 206, 3) := by decide +kernel
theorem dX11_strongestHeard_48 : decode cX11_strongestHeard 48 = .ok (.goto 4, 3) := by decide +kernel
theorem dX11_strongestHeard_51 : decode cX11_strongestHeard 51 = .ok (.iconst 0, 1) := by decide +kernel
theorem dX11_strongestHeard_52 : decode cX11_strongestHeard 52 = .ok (.istore 6, 2) := by decide +kernel
theorem dX11_strongestHeard_54 : decode cX11_strongestHeard 54 = .ok (.iload 6, 2) := by decide +kernel
theorem dX11_strongestHeard_56 : decode cX11_strongestHeard 56 = .ok (.iload_n 3, 1) := by decide +kernel
theorem dX11_strongestHeard_57 : decode cX11_strongestHeard 57 = .ok (.if_icmp .le 35, 3) := by decide +kernel
theorem dX11_strongestHeard_60 : decode cX11_strongestHeard 60 = .ok (.iload 6, 2) := by decide +kernel
theorem dX11_strongestHeard_62 : decode cX11_strongestHeard 62 = .ok (.bipush 20, 2) := by decide +kernel
theorem dX11_strongestHeard_64 : decode cX11_strongestHeard 64 = .ok (.if_icmp .lt 28, 3) := by decide +kernel
theorem dX11_strongestHeard_67 : decode cX11_strongestHeard 67 = .ok (.iload 6, 2) := by decide +kernel
theorem dX11_strongestHeard_69 : decode cX11_strongestHeard 69 = .ok (.iconst 2, 1) := by decide +kernel
theorem dX11_strongestHeard_70 : decode cX11_strongestHeard 70 = .ok (.aload_n 0, 1) := by decide +kernel
theorem dX11_strongestHeard_71 : decode cX11_strongestHeard 71 = .ok (.iload 4, 2) := by decide +kernel
theorem dX11_strongestHeard_73 : decode cX11_strongestHeard 73 = .ok (.aload 5, 2) := by decide +kernel
theorem dX11_strongestHeard_75 : decode cX11_strongestHeard 75 = .ok (.getfield 196, 3) := by decide +kernel
theorem dX11_strongestHeard_78 : decode cX11_strongestHeard 78 = .ok (.aload_n 1, 1) := by decide +kernel
theorem dX11_strongestHeard_79 : decode cX11_strongestHeard 79 = .ok (.invokevirtual 477, 3) := by decide +kernel
theorem dX11_strongestHeard_82 : decode cX11_strongestHeard 82 = .ok (.imul, 1) := by decide +kernel
theorem dX11_strongestHeard_83 : decode cX11_strongestHeard 83 = .ok (.if_icmp .lt 9, 3) := by decide +kernel
theorem dX11_strongestHeard_86 : decode cX11_strongestHeard 86 = .ok (.iload 4, 2) := by decide +kernel
theorem dX11_strongestHeard_88 : decode cX11_strongestHeard 88 = .ok (.istore_n 2, 1) := by decide +kernel
theorem dX11_strongestHeard_89 : decode cX11_strongestHeard 89 = .ok (.iload 6, 2) := by decide +kernel
theorem dX11_strongestHeard_91 : decode cX11_strongestHeard 91 = .ok (.istore_n 3, 1) := by decide +kernel
theorem dX11_strongestHeard_92 : decode cX11_strongestHeard 92 = .ok (.iinc 4 1, 3) := by decide +kernel
theorem dX11_strongestHeard_95 : decode cX11_strongestHeard 95 = .ok (.goto (-88), 3) := by decide +kernel
theorem dX11_strongestHeard_98 : decode cX11_strongestHeard 98 = .ok (.iload_n 2, 1) := by decide +kernel
theorem dX11_strongestHeard_99 : decode cX11_strongestHeard 99 = .ok (.ireturn, 1) := by decide +kernel
theorem dX11_disturbance_0 : decode cX11_disturbance 0 = .ok (.iconst 0, 1) := by decide +kernel
theorem dX11_disturbance_1 : decode cX11_disturbance 1 = .ok (.istore 4, 2) := by decide +kernel
theorem dX11_disturbance_3 : decode cX11_disturbance 3 = .ok (.iconst 0, 1) := by decide +kernel
theorem dX11_disturbance_4 : decode cX11_disturbance 4 = .ok (.istore 5, 2) := by decide +kernel
theorem dX11_disturbance_6 : decode cX11_disturbance 6 = .ok (.iload 5, 2) := by decide +kernel
theorem dX11_disturbance_8 : decode cX11_disturbance 8 = .ok (.aload_n 0, 1) := by decide +kernel
theorem dX11_disturbance_9 : decode cX11_disturbance 9 = .ok (.getfield 19, 3) := by decide +kernel
theorem dX11_disturbance_12 : decode cX11_disturbance 12 = .ok (.invokevirtual 44, 3) := by decide +kernel
theorem dX11_disturbance_15 : decode cX11_disturbance 15 = .ok (.if_icmp .ge 58, 3) := by decide +kernel
theorem dX11_disturbance_18 : decode cX11_disturbance 18 = .ok (.aload_n 0, 1) := by decide +kernel
theorem dX11_disturbance_19 : decode cX11_disturbance 19 = .ok (.getfield 19, 3) := by decide +kernel
theorem dX11_disturbance_22 : decode cX11_disturbance 22 = .ok (.iload 5, 2) := by decide +kernel
theorem dX11_disturbance_24 : decode cX11_disturbance 24 = .ok (.invokevirtual 169, 3) := by decide +kernel
theorem dX11_disturbance_27 : decode cX11_disturbance 27 = .ok (.checkcast 102, 3) := by decide +kernel
theorem dX11_disturbance_30 : decode cX11_disturbance 30 = .ok (.astore 6, 2) := by decide +kernel
theorem dX11_disturbance_32 : decode cX11_disturbance 32 = .ok (.iload 5, 2) := by decide +kernel
theorem dX11_disturbance_34 : decode cX11_disturbance 34 = .ok (.iload_n 1, 1) := by decide +kernel
theorem dX11_disturbance_35 : decode cX11_disturbance 35 = .ok (.if_icmp .eq 32, 3) := by decide +kernel
theorem dX11_disturbance_38 : decode cX11_disturbance 38 = .ok (.aload 6, 2) := by decide +kernel
theorem dX11_disturbance_40 : decode cX11_disturbance 40 = .ok (.getfield 199, 3) := by decide +kernel
theorem dX11_disturbance_43 : decode cX11_disturbance 43 = .ok (.ifCond .eq 24, 3) := by decide +kernel
theorem dX11_disturbance_46 : decode cX11_disturbance 46 = .ok (.aload 6, 2) := by decide +kernel
theorem dX11_disturbance_48 : decode cX11_disturbance 48 = .ok (.getfield 196, 3) := by decide +kernel
theorem dX11_disturbance_51 : decode cX11_disturbance 51 = .ok (.iload_n 2, 1) := by decide +kernel
theorem dX11_disturbance_52 : decode cX11_disturbance 52 = .ok (.if_icmp .ne 15, 3) := by decide +kernel
theorem dX11_disturbance_55 : decode cX11_disturbance 55 = .ok (.iload 4, 2) := by decide +kernel
theorem dX11_disturbance_57 : decode cX11_disturbance 57 = .ok (.aload_n 0, 1) := by decide +kernel
theorem dX11_disturbance_58 : decode cX11_disturbance 58 = .ok (.aload 6, 2) := by decide +kernel
theorem dX11_disturbance_60 : decode cX11_disturbance 60 = .ok (.aload_n 3, 1) := by decide +kernel
theorem dX11_disturbance_61 : decode cX11_disturbance 61 = .ok (.invokevirtual 206, 3) := by decide +kernel
theorem dX11_disturbance_64 : decode cX11_disturbance 64 = .ok (.iadd, 1) := by decide +kernel
theorem dX11_disturbance_65 : decode cX11_disturbance 65 = .ok (.istore 4, 2) := by decide +kernel
theorem dX11_disturbance_67 : decode cX11_disturbance 67 = .ok (.iinc 5 1, 3) := by decide +kernel
theorem dX11_disturbance_70 : decode cX11_disturbance 70 = .ok (.goto (-64), 3) := by decide +kernel
theorem dX11_disturbance_73 : decode cX11_disturbance 73 = .ok (.iload 4, 2) := by decide +kernel
theorem dX11_disturbance_75 : decode cX11_disturbance 75 = .ok (.ireturn, 1) := by decide +kernel
theorem dX11_signalOf_0 : decode cX11_signalOf 0 = .ok (.aload_n 1, 1) := by decide +kernel
theorem dX11_signalOf_1 : decode cX11_signalOf 1 = .ok (.getfield 110, 3) := by decide +kernel
theorem dX11_signalOf_4 : decode cX11_signalOf 4 = .ok (.aload_n 1, 1) := by decide +kernel
theorem dX11_signalOf_5 : decode cX11_signalOf 5 = .ok (.getfield 113, 3) := by decide +kernel
theorem dX11_signalOf_8 : decode cX11_signalOf 8 = .ok (.aload_n 2, 1) := by decide +kernel
theorem dX11_signalOf_9 : decode cX11_signalOf 9 = .ok (.getfield 481, 3) := by decide +kernel
theorem dX11_signalOf_12 : decode cX11_signalOf 12 = .ok (.aload_n 2, 1) := by decide +kernel
theorem dX11_signalOf_13 : decode cX11_signalOf 13 = .ok (.getfield 482, 3) := by decide +kernel
theorem dX11_signalOf_16 : decode cX11_signalOf 16 = .ok (.invokestatic 327, 3) := by decide +kernel
theorem dX11_signalOf_19 : decode cX11_signalOf 19 = .ok (.istore_n 3, 1) := by decide +kernel
theorem dX11_signalOf_20 : decode cX11_signalOf 20 = .ok (.sipush 1000, 3) := by decide +kernel
theorem dX11_signalOf_23 : decode cX11_signalOf 23 = .ok (.aload_n 1, 1) := by decide +kernel
theorem dX11_signalOf_24 : decode cX11_signalOf 24 = .ok (.invokevirtual 483, 3) := by decide +kernel
theorem dX11_signalOf_27 : decode cX11_signalOf 27 = .ok (.imul, 1) := by decide +kernel
theorem dX11_signalOf_28 : decode cX11_signalOf 28 = .ok (.aload_n 0, 1) := by decide +kernel
theorem dX11_signalOf_29 : decode cX11_signalOf 29 = .ok (.getfield 63, 3) := by decide +kernel
theorem dX11_signalOf_32 : decode cX11_signalOf 32 = .ok (.invokestatic 486, 3) := by decide +kernel
theorem dX11_signalOf_35 : decode cX11_signalOf 35 = .ok (.ifCond .eq 7, 3) := by decide +kernel
theorem dX11_signalOf_38 : decode cX11_signalOf 38 = .ok (.iconst 2, 1) := by decide +kernel
theorem dX11_signalOf_39 : decode cX11_signalOf 39 = .ok (.goto 4, 3) := by decide +kernel
theorem dX11_signalOf_42 : decode cX11_signalOf 42 = .ok (.iconst 1, 1) := by decide +kernel
theorem dX11_signalOf_43 : decode cX11_signalOf 43 = .ok (.imul, 1) := by decide +kernel
theorem dX11_signalOf_44 : decode cX11_signalOf 44 = .ok (.istore 4, 2) := by decide +kernel
theorem dX11_signalOf_46 : decode cX11_signalOf 46 = .ok (.iload 4, 2) := by decide +kernel
theorem dX11_signalOf_48 : decode cX11_signalOf 48 = .ok (.iload_n 3, 1) := by decide +kernel
theorem dX11_signalOf_49 : decode cX11_signalOf 49 = .ok (.iload_n 3, 1) := by decide +kernel
theorem dX11_signalOf_50 : decode cX11_signalOf 50 = .ok (.imul, 1) := by decide +kernel
theorem dX11_signalOf_51 : decode cX11_signalOf 51 = .ok (.bipush 10, 2) := by decide +kernel
theorem dX11_signalOf_53 : decode cX11_signalOf 53 = .ok (.iadd, 1) := by decide +kernel
theorem dX11_signalOf_54 : decode cX11_signalOf 54 = .ok (.idiv, 1) := by decide +kernel
theorem dX11_signalOf_55 : decode cX11_signalOf 55 = .ok (.ireturn, 1) := by decide +kernel
theorem dX11_canSpeak_0 : decode cX11_canSpeak 0 = .ok (.aload_n 0, 1) := by decide +kernel
theorem dX11_canSpeak_1 : decode cX11_canSpeak 1 = .ok (.iload_n 1, 1) := by decide +kernel
theorem dX11_canSpeak_2 : decode cX11_canSpeak 2 = .ok (.invokevirtual 415, 3) := by decide +kernel
theorem dX11_canSpeak_5 : decode cX11_canSpeak 5 = .ok (.ifCond .ne 5, 3) := by decide +kernel
theorem dX11_canSpeak_8 : decode cX11_canSpeak 8 = .ok (.iconst 0, 1) := by decide +kernel
theorem dX11_canSpeak_9 : decode cX11_canSpeak 9 = .ok (.ireturn, 1) := by decide +kernel
theorem dX11_canSpeak_10 : decode cX11_canSpeak 10 = .ok (.aload_n 0, 1) := by decide +kernel
theorem dX11_canSpeak_11 : decode cX11_canSpeak 11 = .ok (.getfield 22, 3) := by decide +kernel
theorem dX11_canSpeak_14 : decode cX11_canSpeak 14 = .ok (.iload_n 1, 1) := by decide +kernel
theorem dX11_canSpeak_15 : decode cX11_canSpeak 15 = .ok (.invokevirtual 169, 3) := by decide +kernel
theorem dX11_canSpeak_18 : decode cX11_canSpeak 18 = .ok (.checkcast 218, 3) := by decide +kernel
theorem dX11_canSpeak_21 : decode cX11_canSpeak 21 = .ok (.astore_n 3, 1) := by decide +kernel
theorem dX11_canSpeak_22 : decode cX11_canSpeak 22 = .ok (.aload_n 3, 1) := by decide +kernel
theorem dX11_canSpeak_23 : decode cX11_canSpeak 23 = .ok (.getfield 518, 3) := by decide +kernel
theorem dX11_canSpeak_26 : decode cX11_canSpeak 26 = .ok (.ifCond .eq 22, 3) := by decide +kernel
theorem dX11_canSpeak_48 : decode cX11_canSpeak 48 = .ok (.iconst 0, 1) := by decide +kernel
theorem dX11_canSpeak_49 : decode cX11_canSpeak 49 = .ok (.ireturn, 1) := by decide +kernel
theorem dX11_eatAndTire_0 : decode cX11_eatAndTire 0 = .ok (.iconst 0, 1) := by decide +kernel
theorem dX11_eatAndTire_1 : decode cX11_eatAndTire 1 = .ok (.istore_n 1, 1) := by decide +kernel
theorem dX11_eatAndTire_2 : decode cX11_eatAndTire 2 = .ok (.iload_n 1, 1) := by decide +kernel
theorem dX11_eatAndTire_3 : decode cX11_eatAndTire 3 = .ok (.aload_n 0, 1) := by decide +kernel
theorem dX11_eatAndTire_4 : decode cX11_eatAndTire 4 = .ok (.getfield 19, 3) := by decide +kernel
theorem dX11_eatAndTire_7 : decode cX11_eatAndTire 7 = .ok (.invokevirtual 44, 3) := by decide +kernel
theorem dX11_eatAndTire_10 : decode cX11_eatAndTire 10 = .ok (.if_icmp .ge 28, 3) := by decide +kernel
theorem dX11_eatAndTire_13 : decode cX11_eatAndTire 13 = .ok (.aload_n 0, 1) := by decide +kernel
theorem dX11_eatAndTire_14 : decode cX11_eatAndTire 14 = .ok (.getfield 19, 3) := by decide +kernel
theorem dX11_eatAndTire_17 : decode cX11_eatAndTire 17 = .ok (.iload_n 1, 1) := by decide +kernel
theorem dX11_eatAndTire_18 : decode cX11_eatAndTire 18 = .ok (.invokevirtual 169, 3) := by decide +kernel
theorem dX11_eatAndTire_21 : decode cX11_eatAndTire 21 = .ok (.checkcast 102, 3) := by decide +kernel
theorem dX11_eatAndTire_24 : decode cX11_eatAndTire 24 = .ok (.aload_n 0, 1) := by decide +kernel
theorem dX11_eatAndTire_25 : decode cX11_eatAndTire 25 = .ok (.iload_n 1, 1) := by decide +kernel
theorem dX11_eatAndTire_26 : decode cX11_eatAndTire 26 = .ok (.invokevirtual 188, 3) := by decide +kernel
theorem dX11_eatAndTire_29 : decode cX11_eatAndTire 29 = .ok (.invokevirtual 528, 3) := by decide +kernel
theorem dX11_eatAndTire_32 : decode cX11_eatAndTire 32 = .ok (.iinc 1 1, 3) := by decide +kernel
theorem dX11_eatAndTire_35 : decode cX11_eatAndTire 35 = .ok (.goto (-33), 3) := by decide +kernel
theorem dX11_eatAndTire_38 : decode cX11_eatAndTire 38 = .ok (.iconst 0, 1) := by decide +kernel
theorem dX11_eatAndTire_39 : decode cX11_eatAndTire 39 = .ok (.istore_n 1, 1) := by decide +kernel
theorem dX11_eatAndTire_40 : decode cX11_eatAndTire 40 = .ok (.iload_n 1, 1) := by decide +kernel
theorem dX11_eatAndTire_41 : decode cX11_eatAndTire 41 = .ok (.aload_n 0, 1) := by decide +kernel
theorem dX11_eatAndTire_42 : decode cX11_eatAndTire 42 = .ok (.getfield 22, 3) := by decide +kernel
theorem dX11_eatAndTire_45 : decode cX11_eatAndTire 45 = .ok (.invokevirtual 44, 3) := by decide +kernel
theorem dX11_eatAndTire_48 : decode cX11_eatAndTire 48 = .ok (.if_icmp .ge 39, 3) := by decide +kernel
theorem dX11_eatAndTire_51 : decode cX11_eatAndTire 51 = .ok (.aload_n 0, 1) := by decide +kernel
theorem dX11_eatAndTire_52 : decode cX11_eatAndTire 52 = .ok (.getfield 22, 3) := by decide +kernel
theorem dX11_eatAndTire_55 : decode cX11_eatAndTire 55 = .ok (.iload_n 1, 1) := by decide +kernel
theorem dX11_eatAndTire_56 : decode cX11_eatAndTire 56 = .ok (.invokevirtual 169, 3) := by decide +kernel
theorem dX11_eatAndTire_59 : decode cX11_eatAndTire 59 = .ok (.checkcast 218, 3) := by decide +kernel
theorem dX11_eatAndTire_62 : decode cX11_eatAndTire 62 = .ok (.astore_n 2, 1) := by decide +kernel
theorem dX11_eatAndTire_63 : decode cX11_eatAndTire 63 = .ok (.aload_n 2, 1) := by decide +kernel
theorem dX11_eatAndTire_64 : decode cX11_eatAndTire 64 = .ok (.getfield 227, 3) := by decide +kernel
theorem dX11_eatAndTire_67 : decode cX11_eatAndTire 67 = .ok (.iconst (-1), 1) := by decide +kernel
theorem dX11_eatAndTire_68 : decode cX11_eatAndTire 68 = .ok (.if_icmp .eq 13, 3) := by decide +kernel
theorem dX11_eatAndTire_71 : decode cX11_eatAndTire 71 = .ok (.aload_n 2, 1) := by decide +kernel
theorem dX11_eatAndTire_72 : decode cX11_eatAndTire 72 = .ok (.dup, 1) := by decide +kernel
theorem dX11_eatAndTire_73 : decode cX11_eatAndTire 73 = .ok (.getfield 531, 3) := by decide +kernel
theorem dX11_eatAndTire_76 : decode cX11_eatAndTire 76 = .ok (.iconst 1, 1) := by decide +kernel
theorem dX11_eatAndTire_77 : decode cX11_eatAndTire 77 = .ok (.iadd, 1) := by decide +kernel
theorem dX11_eatAndTire_78 : decode cX11_eatAndTire 78 = .ok (.putfield 531, 3) := by decide +kernel
theorem dX11_eatAndTire_81 : decode cX11_eatAndTire 81 = .ok (.iinc 1 1, 3) := by decide +kernel
theorem dX11_eatAndTire_84 : decode cX11_eatAndTire 84 = .ok (.goto (-44), 3) := by decide +kernel
theorem dX11_eatAndTire_87 : decode cX11_eatAndTire 87 = .ok (.return_, 1) := by decide +kernel
theorem dX11_gatherSalt_0 : decode cX11_gatherSalt 0 = .ok (.aload_n 0, 1) := by decide +kernel
theorem dX11_gatherSalt_1 : decode cX11_gatherSalt 1 = .ok (.getfield 85, 3) := by decide +kernel
theorem dX11_gatherSalt_4 : decode cX11_gatherSalt 4 = .ok (.bipush 7, 2) := by decide +kernel
theorem dX11_gatherSalt_6 : decode cX11_gatherSalt 6 = .ok (.if_icmp .lt 49, 3) := by decide +kernel
theorem dX11_gatherSalt_9 : decode cX11_gatherSalt 9 = .ok (.iconst 0, 1) := by decide +kernel
theorem dX11_gatherSalt_10 : decode cX11_gatherSalt 10 = .ok (.istore_n 1, 1) := by decide +kernel
theorem dX11_gatherSalt_11 : decode cX11_gatherSalt 11 = .ok (.iload_n 1, 1) := by decide +kernel
theorem dX11_gatherSalt_12 : decode cX11_gatherSalt 12 = .ok (.aload_n 0, 1) := by decide +kernel
theorem dX11_gatherSalt_13 : decode cX11_gatherSalt 13 = .ok (.getfield 19, 3) := by decide +kernel
theorem dX11_gatherSalt_16 : decode cX11_gatherSalt 16 = .ok (.invokevirtual 44, 3) := by decide +kernel
theorem dX11_gatherSalt_19 : decode cX11_gatherSalt 19 = .ok (.if_icmp .ge 36, 3) := by decide +kernel
theorem dX11_gatherSalt_22 : decode cX11_gatherSalt 22 = .ok (.aload_n 0, 1) := by decide +kernel
theorem dX11_gatherSalt_23 : decode cX11_gatherSalt 23 = .ok (.getfield 19, 3) := by decide +kernel
theorem dX11_gatherSalt_26 : decode cX11_gatherSalt 26 = .ok (.iload_n 1, 1) := by decide +kernel
theorem dX11_gatherSalt_27 : decode cX11_gatherSalt 27 = .ok (.invokevirtual 169, 3) := by decide +kernel
theorem dX11_gatherSalt_30 : decode cX11_gatherSalt 30 = .ok (.checkcast 102, 3) := by decide +kernel
theorem dX11_gatherSalt_33 : decode cX11_gatherSalt 33 = .ok (.astore_n 2, 1) := by decide +kernel
theorem dX11_gatherSalt_34 : decode cX11_gatherSalt 34 = .ok (.aload_n 2, 1) := by decide +kernel
theorem dX11_gatherSalt_35 : decode cX11_gatherSalt 35 = .ok (.bipush 8, 2) := by decide +kernel
theorem dX11_gatherSalt_37 : decode cX11_gatherSalt 37 = .ok (.aload_n 2, 1) := by decide +kernel
theorem dX11_gatherSalt_38 : decode cX11_gatherSalt 38 = .ok (.getfield 185, 3) := by decide +kernel
theorem dX11_gatherSalt_41 : decode cX11_gatherSalt 41 = .ok (.iconst 1, 1) := by decide +kernel
theorem dX11_gatherSalt_42 : decode cX11_gatherSalt 42 = .ok (.iadd, 1) := by decide +kernel
theorem dX11_gatherSalt_43 : decode cX11_gatherSalt 43 = .ok (.invokestatic 429, 3) := by decide +kernel
theorem dX11_gatherSalt_46 : decode cX11_gatherSalt 46 = .ok (.putfield 185, 3) := by decide +kernel
theorem dX11_gatherSalt_49 : decode cX11_gatherSalt 49 = .ok (.iinc 1 1, 3) := by decide +kernel
theorem dX11_gatherSalt_52 : decode cX11_gatherSalt 52 = .ok (.goto (-41), 3) := by decide +kernel
theorem dX11_gatherSalt_55 : decode cX11_gatherSalt 55 = .ok (.return_, 1) := by decide +kernel
theorem dX11_moveShip_0 : decode cX11_moveShip 0 = .ok (.aload_n 1, 1) := by decide +kernel
theorem dX11_moveShip_1 : decode cX11_moveShip 1 = .ok (.getfield 126, 3) := by decide +kernel
theorem dX11_moveShip_4 : decode cX11_moveShip 4 = .ok (.getfield 130, 3) := by decide +kernel
theorem dX11_moveShip_7 : decode cX11_moveShip 7 = .ok (.ifCond .eq 39, 3) := by decide +kernel
theorem dX11_moveShip_10 : decode cX11_moveShip 10 = .ok (.iconst 0, 1) := by decide +kernel
theorem dX11_moveShip_11 : decode cX11_moveShip 11 = .ok (.aload_n 0, 1) := by decide +kernel
theorem dX11_moveShip_12 : decode cX11_moveShip 12 = .ok (.getfield 85, 3) := by decide +kernel
theorem dX11_moveShip_15 : decode cX11_moveShip 15 = .ok (.aload_n 1, 1) := by decide +kernel
theorem dX11_moveShip_16 : decode cX11_moveShip 16 = .ok (.getfield 126, 3) := by decide +kernel
theorem dX11_moveShip_19 : decode cX11_moveShip 19 = .ok (.getfield 537, 3) := by decide +kernel
theorem dX11_moveShip_22 : decode cX11_moveShip 22 = .ok (.isub, 1) := by decide +kernel
theorem dX11_moveShip_23 : decode cX11_moveShip 23 = .ok (.invokestatic 426, 3) := by decide +kernel
theorem dX11_moveShip_26 : decode cX11_moveShip 26 = .ok (.istore_n 2, 1) := by decide +kernel
theorem dX11_moveShip_27 : decode cX11_moveShip 27 = .ok (.aload_n 1, 1) := by decide +kernel
theorem dX11_moveShip_28 : decode cX11_moveShip 28 = .ok (.iload_n 2, 1) := by decide +kernel
theorem dX11_moveShip_29 : decode cX11_moveShip 29 = .ok (.aload_n 0, 1) := by decide +kernel
theorem dX11_moveShip_30 : decode cX11_moveShip 30 = .ok (.invokevirtual 540, 3) := by decide +kernel
theorem dX11_moveShip_33 : decode cX11_moveShip 33 = .ok (.imul, 1) := by decide +kernel
theorem dX11_moveShip_34 : decode cX11_moveShip 34 = .ok (.iload_n 2, 1) := by decide +kernel
theorem dX11_moveShip_35 : decode cX11_moveShip 35 = .ok (.aload_n 0, 1) := by decide +kernel
theorem dX11_moveShip_36 : decode cX11_moveShip 36 = .ok (.invokevirtual 543, 3) := by decide +kernel
theorem dX11_moveShip_39 : decode cX11_moveShip 39 = .ok (.imul, 1) := by decide +kernel
theorem dX11_moveShip_40 : decode cX11_moveShip 40 = .ok (.invokevirtual 546, 3) := by decide +kernel
theorem dX11_moveShip_43 : decode cX11_moveShip 43 = .ok (.goto 61, 3) := by decide +kernel
theorem dX11_moveShip_46 : decode cX11_moveShip 46 = .ok (.aload_n 0, 1) := by decide +kernel
theorem dX11_moveShip_47 : decode cX11_moveShip 47 = .ok (.getfield 85, 3) := by decide +kernel
theorem dX11_moveShip_50 : decode cX11_moveShip 50 = .ok (.iconst 2, 1) := by decide +kernel
theorem dX11_moveShip_51 : decode cX11_moveShip 51 = .ok (.idiv, 1) := by decide +kernel
theorem dX11_moveShip_52 : decode cX11_moveShip 52 = .ok (.istore_n 2, 1) := by decide +kernel
theorem dX11_moveShip_53 : decode cX11_moveShip 53 = .ok (.aload_n 0, 1) := by decide +kernel
theorem dX11_moveShip_54 : decode cX11_moveShip 54 = .ok (.getfield 63, 3) := by decide +kernel
theorem dX11_moveShip_57 : decode cX11_moveShip 57 = .ok (.bipush 24, 2) := by decide +kernel
theorem dX11_moveShip_59 : decode cX11_moveShip 59 = .ok (.irem, 1) := by decide +kernel
theorem dX11_moveShip_60 : decode cX11_moveShip 60 = .ok (.bipush 6, 2) := by decide +kernel
theorem dX11_moveShip_62 : decode cX11_moveShip 62 = .ok (.idiv, 1) := by decide +kernel
theorem dX11_moveShip_63 : decode cX11_moveShip 63 = .ok (.iconst 2, 1) := by decide +kernel
theorem dX11_moveShip_64 : decode cX11_moveShip 64 = .ok (.irem, 1) := by decide +kernel
theorem dX11_moveShip_65 : decode cX11_moveShip 65 = .ok (.ifCond .ne 7, 3) := by decide +kernel
theorem dX11_moveShip_68 : decode cX11_moveShip 68 = .ok (.iconst 1, 1) := by decide +kernel
theorem dX11_moveShip_69 : decode cX11_moveShip 69 = .ok (.goto 4, 3) := by decide +kernel
theorem dX11_moveShip_72 : decode cX11_moveShip 72 = .ok (.iconst (-1), 1) := by decide +kernel
theorem dX11_moveShip_73 : decode cX11_moveShip 73 = .ok (.istore_n 3, 1) := by decide +kernel
theorem dX11_moveShip_74 : decode cX11_moveShip 74 = .ok (.aload_n 1, 1) := by decide +kernel
theorem dX11_moveShip_75 : decode cX11_moveShip 75 = .ok (.iload_n 2, 1) := by decide +kernel
theorem dX11_moveShip_76 : decode cX11_moveShip 76 = .ok (.aload_n 0, 1) := by decide +kernel
theorem dX11_moveShip_77 : decode cX11_moveShip 77 = .ok (.invokevirtual 540, 3) := by decide +kernel
theorem dX11_moveShip_80 : decode cX11_moveShip 80 = .ok (.imul, 1) := by decide +kernel
theorem dX11_moveShip_81 : decode cX11_moveShip 81 = .ok (.iload_n 3, 1) := by decide +kernel
theorem dX11_moveShip_82 : decode cX11_moveShip 82 = .ok (.aload_n 0, 1) := by decide +kernel
theorem dX11_moveShip_83 : decode cX11_moveShip 83 = .ok (.getfield 88, 3) := by decide +kernel
theorem dX11_moveShip_86 : decode cX11_moveShip 86 = .ok (.imul, 1) := by decide +kernel
theorem dX11_moveShip_87 : decode cX11_moveShip 87 = .ok (.iadd, 1) := by decide +kernel
theorem dX11_moveShip_88 : decode cX11_moveShip 88 = .ok (.iload_n 2, 1) := by decide +kernel
theorem dX11_moveShip_89 : decode cX11_moveShip 89 = .ok (.aload_n 0, 1) := by decide +kernel
theorem dX11_moveShip_90 : decode cX11_moveShip 90 = .ok (.invokevirtual 543, 3) := by decide +kernel
theorem dX11_moveShip_93 : decode cX11_moveShip 93 = .ok (.imul, 1) := by decide +kernel
theorem dX11_moveShip_94 : decode cX11_moveShip 94 = .ok (.iload_n 3, 1) := by decide +kernel
theorem dX11_moveShip_95 : decode cX11_moveShip 95 = .ok (.aload_n 0, 1) := by decide +kernel
theorem dX11_moveShip_96 : decode cX11_moveShip 96 = .ok (.getfield 91, 3) := by decide +kernel
theorem dX11_moveShip_99 : decode cX11_moveShip 99 = .ok (.imul, 1) := by decide +kernel
theorem dX11_moveShip_100 : decode cX11_moveShip 100 = .ok (.iadd, 1) := by decide +kernel
theorem dX11_moveShip_101 : decode cX11_moveShip 101 = .ok (.invokevirtual 546, 3) := by decide +kernel
theorem dX11_moveShip_104 : decode cX11_moveShip 104 = .ok (.return_, 1) := by decide +kernel
theorem dX11_windEast_0 : decode cX11_windEast 0 = .ok (.aload_n 0, 1) := by decide +kernel
theorem dX11_windEast_1 : decode cX11_windEast 1 = .ok (.getfield 32, 3) := by decide +kernel
theorem dX11_windEast_4 : decode cX11_windEast 4 = .ok (.bipush 101, 2) := by decide +kernel
theorem dX11_windEast_6 : decode cX11_windEast 6 = .ok (.if_icmp .ne 7, 3) := by decide +kernel
theorem dX11_windEast_9 : decode cX11_windEast 9 = .ok (.iconst 1, 1) := by decide +kernel
theorem dX11_windEast_10 : decode cX11_windEast 10 = .ok (.goto 17, 3) := by decide +kernel
theorem dX11_windEast_13 : decode cX11_windEast 13 = .ok (.aload_n 0, 1) := by decide +kernel
theorem dX11_windEast_14 : decode cX11_windEast 14 = .ok (.getfield 32, 3) := by decide +kernel
theorem dX11_windEast_17 : decode cX11_windEast 17 = .ok (.bipush 119, 2) := by decide +kernel
theorem dX11_windEast_19 : decode cX11_windEast 19 = .ok (.if_icmp .ne 7, 3) := by decide +kernel
theorem dX11_windEast_22 : decode cX11_windEast 22 = .ok (.iconst (-1), 1) := by decide +kernel
theorem dX11_windEast_23 : decode cX11_windEast 23 = .ok (.goto 4, 3) := by decide +kernel
theorem dX11_windEast_26 : decode cX11_windEast 26 = .ok (.iconst 0, 1) := by decide +kernel
theorem dX11_windEast_27 : decode cX11_windEast 27 = .ok (.ireturn, 1) := by decide +kernel
theorem dX11_windNorth_0 : decode cX11_windNorth 0 = .ok (.aload_n 0, 1) := by decide +kernel
theorem dX11_windNorth_1 : decode cX11_windNorth 1 = .ok (.getfield 32, 3) := by decide +kernel
theorem dX11_windNorth_4 : decode cX11_windNorth 4 = .ok (.bipush 110, 2) := by decide +kernel
theorem dX11_windNorth_6 : decode cX11_windNorth 6 = .ok (.if_icmp .ne 7, 3) := by decide +kernel
theorem dX11_windNorth_9 : decode cX11_windNorth 9 = .ok (.iconst 1, 1) := by decide +kernel
theorem dX11_windNorth_10 : decode cX11_windNorth 10 = .ok (.goto 17, 3) := by decide +kernel
theorem dX11_windNorth_13 : decode cX11_windNorth 13 = .ok (.aload_n 0, 1) := by decide +kernel
theorem dX11_windNorth_14 : decode cX11_windNorth 14 = .ok (.getfield 32, 3) := by decide +kernel
theorem dX11_windNorth_17 : decode cX11_windNorth 17 = .ok (.bipush 115, 2) := by decide +kernel
theorem dX11_windNorth_19 : decode cX11_windNorth 19 = .ok (.if_icmp .ne 7, 3) := by decide +kernel
theorem dX11_windNorth_22 : decode cX11_windNorth 22 = .ok (.iconst (-1), 1) := by decide +kernel
theorem dX11_windNorth_23 : decode cX11_windNorth 23 = .ok (.goto 4, 3) := by decide +kernel
theorem dX11_windNorth_26 : decode cX11_windNorth 26 = .ok (.iconst 0, 1) := by decide +kernel
theorem dX11_windNorth_27 : decode cX11_windNorth 27 = .ok (.ireturn, 1) := by decide +kernel
theorem dX11_isForbidden_0 : decode cX11_isForbidden 0 = .ok (.iload_n 1, 1) := by decide +kernel
theorem dX11_isForbidden_1 : decode cX11_isForbidden 1 = .ok (.ifCond .lt 40, 3) := by decide +kernel
theorem dX11_isForbidden_4 : decode cX11_isForbidden 4 = .ok (.iload_n 1, 1) := by decide +kernel
theorem dX11_isForbidden_5 : decode cX11_isForbidden 5 = .ok (.aload_n 0, 1) := by decide +kernel
theorem dX11_isForbidden_6 : decode cX11_isForbidden 6 = .ok (.getfield 10, 3) := by decide +kernel
theorem dX11_isForbidden_9 : decode cX11_isForbidden 9 = .ok (.invokevirtual 44, 3) := by decide +kernel
theorem dX11_isForbidden_12 : decode cX11_isForbidden 12 = .ok (.if_icmp .ge 29, 3) := by decide +kernel
theorem dX11_isForbidden_15 : decode cX11_isForbidden 15 = .ok (.aload_n 0, 1) := by decide +kernel
theorem dX11_isForbidden_16 : decode cX11_isForbidden 16 = .ok (.getfield 10, 3) := by decide +kernel
theorem dX11_isForbidden_19 : decode cX11_isForbidden 19 = .ok (.iload_n 1, 1) := by decide +kernel
theorem dX11_isForbidden_20 : decode cX11_isForbidden 20 = .ok (.invokevirtual 169, 3) := by decide +kernel
theorem dX11_isForbidden_23 : decode cX11_isForbidden 23 = .ok (.checkcast 51, 3) := by decide +kernel
theorem dX11_isForbidden_26 : decode cX11_isForbidden 26 = .ok (.iload_n 2, 1) := by decide +kernel
theorem dX11_isForbidden_27 : decode cX11_isForbidden 27 = .ok (.aload_n 0, 1) := by decide +kernel
theorem dX11_isForbidden_28 : decode cX11_isForbidden 28 = .ok (.getfield 63, 3) := by decide +kernel
theorem dX11_isForbidden_31 : decode cX11_isForbidden 31 = .ok (.invokevirtual 549, 3) := by decide +kernel
theorem dX11_isForbidden_34 : decode cX11_isForbidden 34 = .ok (.ifCond .eq 7, 3) := by decide +kernel
theorem dX11_isForbidden_41 : decode cX11_isForbidden 41 = .ok (.iconst 0, 1) := by decide +kernel
theorem dX11_isForbidden_42 : decode cX11_isForbidden 42 = .ok (.ireturn, 1) := by decide +kernel
theorem dX11_commitOffence_0 : decode cX11_commitOffence 0 = .ok (.iload_n 1, 1) := by decide +kernel
theorem dX11_commitOffence_1 : decode cX11_commitOffence 1 = .ok (.iload_n 2, 1) := by decide +kernel
theorem dX11_commitOffence_2 : decode cX11_commitOffence 2 = .ok (.if_icmp .eq 17, 3) := by decide +kernel
theorem dX11_commitOffence_5 : decode cX11_commitOffence 5 = .ok (.aload_n 0, 1) := by decide +kernel
theorem dX11_commitOffence_6 : decode cX11_commitOffence 6 = .ok (.iload_n 1, 1) := by decide +kernel
theorem dX11_commitOffence_7 : decode cX11_commitOffence 7 = .ok (.iload_n 3, 1) := by decide +kernel
theorem dX11_commitOffence_8 : decode cX11_commitOffence 8 = .ok (.invokevirtual 498, 3) := by decide +kernel
theorem dX11_commitOffence_11 : decode cX11_commitOffence 11 = .ok (.ifCond .eq 8, 3) := by decide +kernel
theorem dX11_commitOffence_19 : decode cX11_commitOffence 19 = .ok (.aload_n 0, 1) := by decide +kernel
theorem dX11_commitOffence_20 : decode cX11_commitOffence 20 = .ok (.iload_n 2, 1) := by decide +kernel
theorem dX11_commitOffence_21 : decode cX11_commitOffence 21 = .ok (.invokevirtual 552, 3) := by decide +kernel
theorem dX11_commitOffence_24 : decode cX11_commitOffence 24 = .ok (.return_, 1) := by decide +kernel
theorem dX11_addEvidence_0 : decode cX11_addEvidence 0 = .ok (.iload_n 1, 1) := by decide +kernel
theorem dX11_addEvidence_1 : decode cX11_addEvidence 1 = .ok (.ifCond .lt 34, 3) := by decide +kernel
theorem dX11_addEvidence_35 : decode cX11_addEvidence 35 = .ok (.return_, 1) := by decide +kernel
theorem dX11_countCrew_0 : decode cX11_countCrew 0 = .ok (.iconst 0, 1) := by decide +kernel
theorem dX11_countCrew_1 : decode cX11_countCrew 1 = .ok (.istore_n 2, 1) := by decide +kernel
theorem dX11_countCrew_2 : decode cX11_countCrew 2 = .ok (.iconst 0, 1) := by decide +kernel
theorem dX11_countCrew_3 : decode cX11_countCrew 3 = .ok (.istore_n 3, 1) := by decide +kernel
theorem dX11_countCrew_4 : decode cX11_countCrew 4 = .ok (.iload_n 3, 1) := by decide +kernel
theorem dX11_countCrew_5 : decode cX11_countCrew 5 = .ok (.aload_n 0, 1) := by decide +kernel
theorem dX11_countCrew_6 : decode cX11_countCrew 6 = .ok (.getfield 22, 3) := by decide +kernel
theorem dX11_countCrew_9 : decode cX11_countCrew 9 = .ok (.invokevirtual 44, 3) := by decide +kernel
theorem dX11_countCrew_12 : decode cX11_countCrew 12 = .ok (.if_icmp .ge 30, 3) := by decide +kernel
theorem dX11_countCrew_15 : decode cX11_countCrew 15 = .ok (.aload_n 0, 1) := by decide +kernel
theorem dX11_countCrew_16 : decode cX11_countCrew 16 = .ok (.getfield 22, 3) := by decide +kernel
theorem dX11_countCrew_19 : decode cX11_countCrew 19 = .ok (.iload_n 3, 1) := by decide +kernel
theorem dX11_countCrew_20 : decode cX11_countCrew 20 = .ok (.invokevirtual 169, 3) := by decide +kernel
theorem dX11_countCrew_23 : decode cX11_countCrew 23 = .ok (.checkcast 218, 3) := by decide +kernel
theorem dX11_countCrew_26 : decode cX11_countCrew 26 = .ok (.getfield 227, 3) := by decide +kernel
theorem dX11_countCrew_29 : decode cX11_countCrew 29 = .ok (.iload_n 1, 1) := by decide +kernel
theorem dX11_countCrew_30 : decode cX11_countCrew 30 = .ok (.if_icmp .ne 6, 3) := by decide +kernel
theorem dX11_countCrew_33 : decode cX11_countCrew 33 = .ok (.iinc 2 1, 3) := by decide +kernel
theorem dX11_countCrew_36 : decode cX11_countCrew 36 = .ok (.iinc 3 1, 3) := by decide +kernel
theorem dX11_countCrew_39 : decode cX11_countCrew 39 = .ok (.goto (-35), 3) := by decide +kernel
theorem dX11_countCrew_42 : decode cX11_countCrew 42 = .ok (.iload_n 2, 1) := by decide +kernel
theorem dX11_countCrew_43 : decode cX11_countCrew 43 = .ok (.ireturn, 1) := by decide +kernel
theorem dJx4a65c_size_8abf5_0 : decode cJx4a65c_size_8abf5 0 = .ok (.aload_n 0, 1) := by decide +kernel
theorem dJx4a65c_size_8abf5_1 : decode cJx4a65c_size_8abf5 1 = .ok (.getfield 48, 3) := by decide +kernel
theorem dJx4a65c_size_8abf5_4 : decode cJx4a65c_size_8abf5 4 = .ok (.ireturn, 1) := by decide +kernel
theorem dJx4a65c_elementData_915e3_0 : decode cJx4a65c_elementData_915e3 0 = .ok (.aload_n 0, 1) := by decide +kernel
theorem dJx4a65c_elementData_915e3_1 : decode cJx4a65c_elementData_915e3 1 = .ok (.getfield 9, 3) := by decide +kernel
theorem dJx4a65c_elementData_915e3_4 : decode cJx4a65c_elementData_915e3 4 = .ok (.iload_n 1, 1) := by decide +kernel
theorem dJx4a65c_elementData_915e3_5 : decode cJx4a65c_elementData_915e3 5 = .ok (.aaload, 1) := by decide +kernel
theorem dJx4a65c_elementData_915e3_6 : decode cJx4a65c_elementData_915e3 6 = .ok (.areturn, 1) := by decide +kernel
theorem dJx4a65c_get_915e3_0 : decode cJx4a65c_get_915e3 0 = .ok (.iload_n 1, 1) := by decide +kernel
theorem dJx4a65c_get_915e3_1 : decode cJx4a65c_get_915e3 1 = .ok (.aload_n 0, 1) := by decide +kernel
theorem dJx4a65c_get_915e3_2 : decode cJx4a65c_get_915e3 2 = .ok (.getfield 48, 3) := by decide +kernel
theorem dJx4a65c_get_915e3_5 : decode cJx4a65c_get_915e3 5 = .ok (.invokestatic 118, 3) := by decide +kernel
theorem dJx4a65c_get_915e3_8 : decode cJx4a65c_get_915e3 8 = .ok (.pop, 1) := by decide +kernel
theorem dJx4a65c_get_915e3_9 : decode cJx4a65c_get_915e3 9 = .ok (.aload_n 0, 1) := by decide +kernel
theorem dJx4a65c_get_915e3_10 : decode cJx4a65c_get_915e3 10 = .ok (.iload_n 1, 1) := by decide +kernel
theorem dJx4a65c_get_915e3_11 : decode cJx4a65c_get_915e3 11 = .ok (.invokevirtual 123, 3) := by decide +kernel
theorem dJx4a65c_get_915e3_14 : decode cJx4a65c_get_915e3 14 = .ok (.areturn, 1) := by decide +kernel
theorem dJ15_checkIndex_7cf53_0 : decode cJ15_checkIndex_7cf53 0 = .ok (.iload_n 0, 1) := by decide +kernel
theorem dJ15_checkIndex_7cf53_1 : decode cJ15_checkIndex_7cf53 1 = .ok (.iload_n 1, 1) := by decide +kernel
theorem dJ15_checkIndex_7cf53_2 : decode cJ15_checkIndex_7cf53 2 = .ok (.aconst_null, 1) := by decide +kernel
theorem dJ15_checkIndex_7cf53_3 : decode cJ15_checkIndex_7cf53 3 = .ok (.invokestatic 105, 3) := by decide +kernel
theorem dJ15_checkIndex_7cf53_6 : decode cJ15_checkIndex_7cf53 6 = .ok (.ireturn, 1) := by decide +kernel
theorem dJ3_checkIndex_8e157_0 : decode cJ3_checkIndex_8e157 0 = .ok (.iload_n 0, 1) := by decide +kernel
theorem dJ3_checkIndex_8e157_1 : decode cJ3_checkIndex_8e157 1 = .ok (.ifCond .lt 8, 3) := by decide +kernel
theorem dJ3_checkIndex_8e157_4 : decode cJ3_checkIndex_8e157 4 = .ok (.iload_n 0, 1) := by decide +kernel
theorem dJ3_checkIndex_8e157_5 : decode cJ3_checkIndex_8e157 5 = .ok (.iload_n 1, 1) := by decide +kernel
theorem dJ3_checkIndex_8e157_6 : decode cJ3_checkIndex_8e157 6 = .ok (.if_icmp .lt 10, 3) := by decide +kernel
theorem dJ3_checkIndex_8e157_16 : decode cJ3_checkIndex_8e157 16 = .ok (.iload_n 0, 1) := by decide +kernel
theorem dJ3_checkIndex_8e157_17 : decode cJ3_checkIndex_8e157 17 = .ok (.ireturn, 1) := by decide +kernel
