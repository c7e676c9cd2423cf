theorem dX11_isNight_14 : decode cX11_isNight 14 = .ok (.if_icmp .le 7, 3) := by decide +kernel
theorem dX11_isNight_17 : decode cX11_isNight 17 = .ok (.iconst 1, 1) := by decide +kernel
theorem dX11_isNight_18 : decode cX11_isNight 18 = .ok (.goto 4, 3) := by decide +kernel
theorem dX11_isNight_21 : decode cX11_isNight 21 = .ok (.iconst 0, 1) := by decide +kernel
theorem dX11_isNight_22 : decode cX11_isNight 22 = .ok (.ireturn, 1) := by decide +kernel
theorem dX11_isInsideLine_0 : decode cX11_isInsideLine 0 = .ok (.aload_n 1, 1) := by decide +kernel
theorem dX11_isInsideLine_1 : decode cX11_isInsideLine 1 = .ok (.getfield 432, 3) := by decide +kernel
theorem dX11_isInsideLine_4 : decode cX11_isInsideLine 4 = .ok (.aload_n 1, 1) := by decide +kernel
theorem dX11_isInsideLine_5 : decode cX11_isInsideLine 5 = .ok (.getfield 433, 3) := by decide +kernel
theorem dX11_isInsideLine_8 : decode cX11_isInsideLine 8 = .ok (.aload_n 2, 1) := by decide +kernel
theorem dX11_isInsideLine_9 : decode cX11_isInsideLine 9 = .ok (.getfield 110, 3) := by decide +kernel
theorem dX11_isInsideLine_12 : decode cX11_isInsideLine 12 = .ok (.aload_n 2, 1) := by decide +kernel
theorem dX11_isInsideLine_13 : decode cX11_isInsideLine 13 = .ok (.getfield 113, 3) := by decide +kernel
theorem dX11_isInsideLine_16 : decode cX11_isInsideLine 16 = .ok (.invokestatic 327, 3) := by decide +kernel
theorem dX11_isInsideLine_19 : decode cX11_isInsideLine 19 = .ok (.aload_n 1, 1) := by decide +kernel
theorem dX11_isInsideLine_20 : decode cX11_isInsideLine 20 = .ok (.aload_n 0, 1) := by decide +kernel
theorem dX11_isInsideLine_21 : decode cX11_isInsideLine 21 = .ok (.getfield 63, 3) := by decide +kernel
theorem dX11_isInsideLine_24 : decode cX11_isInsideLine 24 = .ok (.invokevirtual 74, 3) := by decide +kernel
theorem dX11_isInsideLine_27 : decode cX11_isInsideLine 27 = .ok (.if_icmp .gt 7, 3) := by decide +kernel
theorem dX11_isInsideLine_30 : decode cX11_isInsideLine 30 = .ok (.iconst 1, 1) := by decide +kernel
theorem dX11_isInsideLine_31 : decode cX11_isInsideLine 31 = .ok (.goto 4, 3) := by decide +kernel
theorem dX11_isInsideLine_34 : decode cX11_isInsideLine 34 = .ok (.iconst 0, 1) := by decide +kernel
theorem dX11_isInsideLine_35 : decode cX11_isInsideLine 35 = .ok (.ireturn, 1) := by decide +kernel
theorem dX11_landAround_0 : decode cX11_landAround 0 = .ok (.iconst 0, 1) := by decide +kernel
theorem dX11_landAround_1 : decode cX11_landAround 1 = .ok (.istore_n 2, 1) := by decide +kernel
theorem dX11_landAround_2 : decode cX11_landAround 2 = .ok (.iload_n 2, 1) := by decide +kernel
theorem dX11_landAround_3 : decode cX11_landAround 3 = .ok (.aload_n 0, 1) := by decide +kernel
theorem dX11_landAround_4 : decode cX11_landAround 4 = .ok (.getfield 10, 3) := by decide +kernel
theorem dX11_landAround_7 : decode cX11_landAround 7 = .ok (.invokevirtual 44, 3) := by decide +kernel
theorem dX11_landAround_10 : decode cX11_landAround 10 = .ok (.if_icmp .ge 30, 3) := by decide +kernel
theorem dX11_landAround_13 : decode cX11_landAround 13 = .ok (.aload_n 0, 1) := by decide +kernel
theorem dX11_landAround_14 : decode cX11_landAround 14 = .ok (.aload_n 0, 1) := by decide +kernel
theorem dX11_landAround_15 : decode cX11_landAround 15 = .ok (.getfield 10, 3) := by decide +kernel
theorem dX11_landAround_18 : decode cX11_landAround 18 = .ok (.iload_n 2, 1) := by decide +kernel
theorem dX11_landAround_19 : decode cX11_landAround 19 = .ok (.invokevirtual 169, 3) := by decide +kernel
theorem dX11_landAround_22 : decode cX11_landAround 22 = .ok (.checkcast 51, 3) := by decide +kernel
theorem dX11_landAround_25 : decode cX11_landAround 25 = .ok (.aload_n 1, 1) := by decide +kernel
theorem dX11_landAround_26 : decode cX11_landAround 26 = .ok (.invokevirtual 319, 3) := by decide +kernel
theorem dX11_landAround_29 : decode cX11_landAround 29 = .ok (.ifCond .eq 5, 3) := by decide +kernel
theorem dX11_landAround_34 : decode cX11_landAround 34 = .ok (.iinc 2 1, 3) := by decide +kernel
theorem dX11_landAround_37 : decode cX11_landAround 37 = .ok (.goto (-35), 3) := by decide +kernel
theorem dX11_landAround_40 : decode cX11_landAround 40 = .ok (.iconst (-1), 1) := by decide +kernel
theorem dX11_landAround_41 : decode cX11_landAround 41 = .ok (.ireturn, 1) := by decide +kernel
theorem dX11_isStranded_0 : decode cX11_isStranded 0 = .ok (.iconst 0, 1) := by decide +kernel
theorem dX11_isStranded_1 : decode cX11_isStranded 1 = .ok (.istore_n 2, 1) := by decide +kernel
theorem dX11_isStranded_2 : decode cX11_isStranded 2 = .ok (.iload_n 2, 1) := by decide +kernel
theorem dX11_isStranded_3 : decode cX11_isStranded 3 = .ok (.aload_n 0, 1) := by decide +kernel
theorem dX11_isStranded_4 : decode cX11_isStranded 4 = .ok (.getfield 10, 3) := by decide +kernel
theorem dX11_isStranded_7 : decode cX11_isStranded 7 = .ok (.invokevirtual 44, 3) := by decide +kernel
theorem dX11_isStranded_10 : decode cX11_isStranded 10 = .ok (.if_icmp .ge 49, 3) := by decide +kernel
theorem dX11_isStranded_13 : decode cX11_isStranded 13 = .ok (.aload_n 0, 1) := by decide +kernel
theorem dX11_isStranded_14 : decode cX11_isStranded 14 = .ok (.getfield 10, 3) := by decide +kernel
theorem dX11_isStranded_17 : decode cX11_isStranded 17 = .ok (.iload_n 2, 1) := by decide +kernel
theorem dX11_isStranded_18 : decode cX11_isStranded 18 = .ok (.invokevirtual 169, 3) := by decide +kernel
theorem dX11_isStranded_21 : decode cX11_isStranded 21 = .ok (.checkcast 51, 3) := by decide +kernel
theorem dX11_isStranded_24 : decode cX11_isStranded 24 = .ok (.astore_n 3, 1) := by decide +kernel
theorem dX11_isStranded_25 : decode cX11_isStranded 25 = .ok (.aload_n 3, 1) := by decide +kernel
theorem dX11_isStranded_26 : decode cX11_isStranded 26 = .ok (.getfield 432, 3) := by decide +kernel
theorem dX11_isStranded_29 : decode cX11_isStranded 29 = .ok (.aload_n 3, 1) := by decide +kernel
theorem dX11_isStranded_30 : decode cX11_isStranded 30 = .ok (.getfield 433, 3) := by decide +kernel
theorem dX11_isStranded_33 : decode cX11_isStranded 33 = .ok (.aload_n 1, 1) := by decide +kernel
theorem dX11_isStranded_34 : decode cX11_isStranded 34 = .ok (.getfield 110, 3) := by decide +kernel
theorem dX11_isStranded_37 : decode cX11_isStranded 37 = .ok (.aload_n 1, 1) := by decide +kernel
theorem dX11_isStranded_38 : decode cX11_isStranded 38 = .ok (.getfield 113, 3) := by decide +kernel
theorem dX11_isStranded_41 : decode cX11_isStranded 41 = .ok (.invokestatic 327, 3) := by decide +kernel
theorem dX11_isStranded_44 : decode cX11_isStranded 44 = .ok (.aload_n 3, 1) := by decide +kernel
theorem dX11_isStranded_45 : decode cX11_isStranded 45 = .ok (.getfield 434, 3) := by decide +kernel
theorem dX11_isStranded_48 : decode cX11_isStranded 48 = .ok (.if_icmp .gt 5, 3) := by decide +kernel
theorem dX11_isStranded_51 : decode cX11_isStranded 51 = .ok (.iconst 1, 1) := by decide +kernel
theorem dX11_isStranded_52 : decode cX11_isStranded 52 = .ok (.ireturn, 1) := by decide +kernel
theorem dX11_isStranded_53 : decode cX11_isStranded 53 = .ok (.iinc 2 1, 3) := by decide +kernel
theorem dX11_isStranded_56 : decode cX11_isStranded 56 = .ok (.goto (-54), 3) := by decide +kernel
theorem dX11_isStranded_59 : decode cX11_isStranded 59 = .ok (.iconst 0, 1) := by decide +kernel
theorem dX11_isStranded_60 : decode cX11_isStranded 60 = .ok (.ireturn, 1) := by decide +kernel
theorem dX11_strongestHeard_0 : decode cX11_strongestHeard 0 = .ok (.iconst (-1), 1) := by decide +kernel
theorem dX11_strongestHeard_1 : decode cX11_strongestHeard 1 = .ok (.istore_n 2, 1) := by decide +kernel
theorem dX11_strongestHeard_2 : decode cX11_strongestHeard 2 = .ok (.iconst 0, 1) := by decide +kernel
theorem dX11_strongestHeard_3 : decode cX11_strongestHeard 3 = .ok (.istore_n 3, 1) := by decide +kernel
theorem dX11_strongestHeard_4 : decode cX11_strongestHeard 4 = .ok (.iconst 0, 1) := by decide +kernel
theorem dX11_strongestHeard_5 : decode cX11_strongestHeard 5 = .ok (.istore 4, 2) := by decide +kernel
theorem dX11_strongestHeard_7 : decode cX11_strongestHeard 7 = .ok (.iload 4, 2) := by decide +kernel
theorem dX11_strongestHeard_9 : decode cX11_strongestHeard 9 = .ok (.aload_n 0, 1) := by decide +kernel
theorem dX11_strongestHeard_10 : decode cX11_strongestHeard 10 = .ok (.getfield 19, 3) := by decide +kernel
theorem dX11_strongestHeard_13 : decode cX11_strongestHeard 13 = .ok (.invokevirtual 44, 3) := by decide +kernel
theorem dX11_strongestHeard_16 : decode cX11_strongestHeard 16 = .ok (.if_icmp .ge 82, 3) := by decide +kernel
theorem dX11_strongestHeard_19 : decode cX11_strongestHeard 19 = .ok (.aload_n 0, 1) := by decide +kernel
theorem dX11_strongestHeard_20 : decode cX11_strongestHeard 20 = .ok (.getfield 19, 3) := by decide +kernel
theorem dX11_strongestHeard_23 : decode cX11_strongestHeard 23 = .ok (.iload 4, 2) := by decide +kernel
theorem dX11_strongestHeard_25 : decode cX11_strongestHeard 25 = .ok (.invokevirtual 169, 3) := by decide +kernel
theorem dX11_strongestHeard_28 : decode cX11_strongestHeard 28 = .ok (.checkcast 102, 3) := by decide +kernel
theorem dX11_strongestHeard_31 : decode cX11_strongestHeard 31 = .ok (.astore 5, 2) := by decide +kernel
theorem dX11_strongestHeard_33 : decode cX11_strongestHeard 33 = .ok (.aload 5, 2) := by decide +kernel
theorem dX11_strongestHeard_35 : decode cX11_strongestHeard 35 = .ok (.getfield 199, 3) := by decide +kernel
theorem dX11_strongestHeard_38 : decode cX11_strongestHeard 38 = .ok (.ifCond .eq 13, 3) := by decide +kernel
theorem dX11_strongestHeard_41 : decode cX11_strongestHeard 41 = .ok (.aload_n 0, 1) := by decide +kernel
theorem dX11_strongestHeard_42 : decode cX11_strongestHeard 42 = .ok (.aload 5, 2) := by decide +kernel
theorem dX11_strongestHeard_44 : decode cX11_strongestHeard 44 = .ok (.aload_n 1, 1) := by decide +kernel
theorem dX11_strongestHeard_45 : decode cX11_strongestHeard 45 = .ok (.invokevirtual 206, 3) := by decide +kernel
theorem dX11_strongestHeard_48 : decode cX11_strongestHeard 48 = .ok (.goto 4, 3) := by decide +kernel
theorem dX11_strongestHeard_51 : decode cX11_strongestHeard 51 = .ok (.iconst 0, 1) := by decide +kernel
theorem dX11_strongestHeard_52 : decode cX11_strongestHeard 52 = .ok (.istore 6, 2) := by decide +kernel
theorem dX11_strongestHeard_54 : decode cX11_strongestHeard 54 = .ok (.iload 6, 2) := by decide +kernel
theorem dX11_strongestHeard_56 : decode cX11_strongestHeard 56 = .ok (.iload_n 3, 1) := by decide +kernel
theorem dX11_strongestHeard_57 : decode cX11_strongestHeard 57 = .ok (.if_icmp .le 35, 3) := by decide +kernel
theorem dX11_strongestHeard_60 : decode cX11_strongestHeard 60 = .ok (.iload 6, 2) := by decide +kernel
theorem dX11_strongestHeard_62 : decode cX11_strongestHeard 62 = .ok (.bipush 20, 2) := by decide +kernel
theorem dX11_strongestHeard_64 : decode cX11_strongestHeard 64 = .ok (.if_icmp .lt 28, 3) := by decide +kernel
theorem dX11_strongestHeard_67 : decode cX11_strongestHeard 67 = .ok (.iload 6, 2) := by decide +kernel
theorem dX11_strongestHeard_69 : decode cX11_strongestHeard 69 = .ok (.iconst 2, 1) := by decide +kernel
theorem dX11_strongestHeard_70 : decode cX11_strongestHeard 70 = .ok (.aload_n 0, 1) := by decide +kernel
theorem dX11_strongestHeard_71 : decode cX11_strongestHeard 71 = .ok (.iload 4, 2) := by decide +kernel
theorem dX11_strongestHeard_73 : decode cX11_strongestHeard 73 = .ok (.aload 5, 2) := by decide +kernel
theorem dX11_strongestHeard_75 : decode cX11_strongestHeard 75 = .ok (.getfield 196, 3) := by decide +kernel
theorem dX11_strongestHeard_78 : decode cX11_strongestHeard 78 = .ok (.aload_n 1, 1) := by decide +kernel
theorem dX11_strongestHeard_79 : decode cX11_strongestHeard 79 = .ok (.invokevirtual 477, 3) := by decide +kernel
theorem dX11_strongestHeard_82 : decode cX11_strongestHeard 82 = .ok (.imul, 1) := by decide +kernel
theorem dX11_strongestHeard_83 : decode cX11_strongestHeard 83 = .ok (.if_icmp .lt 9, 3) := by decide +kernel
theorem dX11_strongestHeard_86 : decode cX11_strongestHeard 86 = .ok (.iload 4, 2) := by decide +kernel
theorem dX11_strongestHeard_88 : decode cX11_strongestHeard 88 = .ok (.istore_n 2, 1) := by decide +kernel
theorem dX11_strongestHeard_89 : decode cX11_strongestHeard 89 = .ok (.iload 6, 2) := by decide +kernel
theorem dX11_strongestHeard_91 : decode cX11_strongestHeard 91 = .ok (.istore_n 3, 1) := by decide +kernel
theorem dX11_strongestHeard_92 : decode cX11_strongestHeard 92 = .ok (.iinc 4 1, 3) := by decide +kernel
theorem dX11_strongestHeard_95 : decode cX11_strongestHeard 95 = .ok (.goto (-88), 3) := by decide +kernel
theorem dX11_strongestHeard_98 : decode cX11_strongestHeard 98 = .ok (.iload_n 2, 1) := by decide +kernel
theorem dX11_strongestHeard_99 : decode cX11_strongestHeard 99 = .ok (.ireturn, 1) := by decide +kernel
theorem dX11_disturbance_0 : decode cX11_disturbance 0 = .ok (.iconst 0, 1) := by decide +kernel
theorem dX11_disturbance_1 : decode cX11_disturbance 1 = .ok (.istore 4, 2) := by decide +kernel
theorem dX11_disturbance_3 : decode cX11_disturbance 3 = .ok (.iconst 0, 1) := by decide +kernel
theorem dX11_disturbance_4 : decode cX11_disturbance 4 = .ok (.istore 5, 2) := by decide +kernel
theorem dX11_disturbance_6 : decode cX11_disturbance 6 = .ok (.iload 5, 2) := by decide +kernel
theorem dX11_disturbance_8 : decode cX11_disturbance 8 = .ok (.aload_n 0, 1) := by decide +kernel
theorem dX11_disturbance_9 : decode cX11_disturbance 9 = .ok (.getfield 19, 3) := by decide +kernel
theorem dX11_disturbance_12 : decode cX11_disturbance 12 = .ok (.invokevirtual 44, 3) := by decide +kernel
theorem dX11_disturbance_15 : decode cX11_disturbance 15 = .ok (.if_icmp .ge 58, 3) := by decide +kernel
theorem dX11_disturbance_18 : decode cX11_disturbance 18 = .ok (.aload_n 0, 1) := by decide +kernel
theorem dX11_disturbance_19 : decode cX11_disturbance 19 = .ok (.getfield 19, 3) := by decide +kernel
theorem dX11_disturbance_22 : decode cX11_disturbance 22 = .ok (.iload 5, 2) := by decide +kernel
theorem dX11_disturbance_24 : decode cX11_disturbance 24 = .ok (.invokevirtual 169, 3) := by decide +kernel
theorem dX11_disturbance_27 : decode cX11_disturbance 27 = .ok (.checkcast 102, 3) := by decide +kernel
theorem dX11_disturbance_30 : decode cX11_disturbance 30 = .ok (.astore 6, 2) := by decide +kernel
theorem dX11_disturbance_32 : decode cX11_disturbance 32 = .ok (.iload 5, 2) := by decide +kernel
theorem dX11_disturbance_34 : decode cX11_disturbance 34 = .ok (.iload_n 1, 1) := by decide +kernel
theorem dX11_disturbance_35 : decode cX11_disturbance 35 = .ok (.if_icmp .eq 32, 3) := by decide +kernel
theorem dX11_disturbance_38 : decode cX11_disturbance 38 = .ok (.aload 6, 2) := by decide +kernel
theorem dX11_disturbance_40 : decode cX11_disturbance 40 = .ok (.getfield 199, 3) := by decide +kernel
theorem dX11_disturbance_43 : decode cX11_disturbance 43 = .ok (.ifCond .eq 24, 3) := by decide +kernel
theorem dX11_disturbance_46 : decode cX11_disturbance 46 = .ok (.aload 6, 2) := by decide +kernel
theorem dX11_disturbance_48 : decode cX11_disturbance 48 = .ok (.getfield 196, 3) := by decide +kernel
theorem dX11_disturbance_51 : decode cX11_disturbance 51 = .ok (.iload_n 2, 1) := by decide +kernel
theorem dX11_disturbance_52 : decode cX11_disturbance 52 = .ok (.if_icmp .ne 15, 3) := by decide +kernel
theorem dX11_disturbance_55 : decode cX11_disturbance 55 = .ok (.iload 4, 2) := by decide +kernel
theorem dX11_disturbance_57 : decode cX11_disturbance 57 = .ok (.aload_n 0, 1) := by decide +kernel
theorem dX11_disturbance_58 : decode cX11_disturbance 58 = .ok (.aload 6, 2) := by decide +kernel
theorem dX11_disturbance_60 : decode cX11_disturbance 60 = .ok (.aload_n 3, 1) := by decide +kernel
theorem dX11_disturbance_61 : decode cX11_disturbance 61 = .ok (.invokevirtual 206, 3) := by decide +kernel
theorem dX11_disturbance_64 : decode cX11_disturbance 64 = .ok (.iadd, 1) := by decide +kernel
theorem dX11_disturbance_65 : decode cX11_disturbance 65 = .ok (.istore 4, 2) := by decide +kernel
theorem dX11_disturbance_67 : decode cX11_disturbance 67 = .ok (.iinc 5 1, 3) := by decide +kernel
theorem dX11_disturbance_70 : decode cX11_disturbance 70 = .ok (.goto (-64), 3) := by decide +kernel
theorem dX11_disturbance_73 : decode cX11_disturbance 73 = .ok (.iload 4, 2) := by decide +kernel
theorem dX11_disturbance_75 : decode cX11_disturbance 75 = .ok (.ireturn, 1) := by decide +kernel
theorem dX11_signalOf_0 : decode cX11_signalOf 0 = .ok (.aload_n 1, 1) := by decide +kernel
theorem dX11_signalOf_1 : decode cX11_signalOf 1 = .ok (.getfield 110, 3) := by decide +kernel
theorem dX11_signalOf_4 : decode cX11_signalOf 4 = .ok (.aload_n 1, 1) := by decide +kernel
theorem dX11_signalOf_5 : decode cX11_signalOf 5 = .ok (.getfield 113, 3) := by decide +kernel
theorem dX11_signalOf_8 : decode cX11_signalOf 8 = .ok (.aload_n 2, 1) := by decide +kernel
theorem dX11_signalOf_9 : decode cX11_signalOf 9 = .ok (.getfield 481, 3) := by decide +kernel
theorem dX11_signalOf_12 : decode cX11_signalOf 12 = .ok (.aload_n 2, 1) := by decide +kernel
theorem dX11_signalOf_13 : decode cX11_signalOf 13 = .ok (.getfield 482, 3) := by decide +kernel
theorem dX11_signalOf_16 : decode cX11_signalOf 16 = .ok (.invokestatic 327, 3) := by decide +kernel
theorem dX11_signalOf_19 : decode cX11_signalOf 19 = .ok (.istore_n 3, 1) := by decide +kernel
theorem dX11_signalOf_20 : decode cX11_signalOf 20 = .ok (.sipush 1000, 3) := by decide +kernel
theorem dX11_signalOf_23 : decode cX11_signalOf 23 = .ok (.aload_n 1, 1) := by decide +kernel
theorem dX11_signalOf_24 : decode cX11_signalOf 24 = .ok (.invokevirtual 483, 3) := by decide +kernel
theorem dX11_signalOf_27 : decode cX11_signalOf 27 = .ok (.imul, 1) := by decide +kernel
theorem dX11_signalOf_28 : decode cX11_signalOf 28 = .ok (.aload_n 0, 1) := by decide +kernel
theorem dX11_signalOf_29 : decode cX11_signalOf 29 = .ok (.getfield 63, 3) := by decide +kernel
theorem dX11_signalOf_32 : decode cX11_signalOf 32 = .ok (.invokestatic 486, 3) := by decide +kernel
theorem dX11_signalOf_35 : decode cX11_signalOf 35 = .ok (.ifCond .eq 7, 3) := by decide +kernel
theorem dX11_signalOf_38 : decode cX11_signalOf 38 = .ok (.iconst 2, 1) := by decide +kernel
theorem dX11_signalOf_39 : decode cX11_signalOf 39 = .ok (.goto 4, 3) := by decide +kernel
theorem dX11_signalOf_42 : decode cX11_signalOf 42 = .ok (.iconst 1, 1) := by decide +kernel
theorem dX11_signalOf_43 : decode cX11_signalOf 43 = .ok (.imul, 1) := by decide +kernel
theorem dX11_signalOf_44 : decode cX11_signalOf 44 = .ok (.istore 4, 2) := by decide +kernel
theorem dX11_signalOf_46 : decode cX11_signalOf 46 = .ok (.iload 4, 2) := by decide +kernel
theorem dX11_signalOf_48 : decode cX11_signalOf 48 = .ok (.iload_n 3, 1) := by decide +kernel
theorem dX11_signalOf_49 : decode cX11_signalOf 49 = .ok (.iload_n 3, 1) := by decide +kernel
theorem dX11_signalOf_50 : decode cX11_signalOf 50 = .ok (.imul, 1) := by decide +kernel
theorem dX11_signalOf_51 : decode cX11_signalOf 51 = .ok (.bipush 10, 2) := by decide +kernel
theorem dX11_signalOf_53 : decode cX11_signalOf 53 = .ok (.iadd, 1) := by decide +kernel
theorem dX11_signalOf_54 : decode cX11_signalOf 54 = .ok (.idiv, 1) := by decide +kernel
theorem dX11_signalOf_55 : decode cX11_signalOf 55 = .ok (.ireturn, 1) := by decide +kernel
theorem dX11_canSpeak_0 : decode cX11_canSpeak 0 = .ok (.aload_n 0, 1) := by decide +kernel
theorem dX11_canSpeak_1 : decode cX11_canSpeak 1 = .ok (.iload_n 1, 1) := by decide +kernel
theorem dX11_canSpeak_2 : decode cX11_canSpeak 2 = .ok (.invokevirtual 415, 3) := by decide +kernel
theorem dX11_canSpeak_5 : decode cX11_canSpeak 5 = .ok (.ifCond .ne 5, 3) := by decide +kernel
theorem dX11_canSpeak_8 : decode cX11_canSpeak 8 = .ok (.iconst 0, 1) := by decide +kernel
theorem dX11_canSpeak_9 : decode cX11_canSpeak 9 = .ok (.ireturn, 1) := by decide +kernel
theorem dX11_canSpeak_10 : decode cX11_canSpeak 10 = .ok (.aload_n 0, 1) := by decide +kernel
theorem dX11_canSpeak_11 : decode cX11_canSpeak 11 = .ok (.getfield 22, 3) := by decide +kernel
theorem dX11_canSpeak_14 : decode cX11_canSpeak 14 = .ok (.iload_n 1, 1) := by decide +kernel
theorem dX11_canSpeak_15 : decode cX11_canSpeak 15 = .ok (.invokevirtual 169, 3) := by decide +kernel
theorem dX11_canSpeak_18 : decode cX11_canSpeak 18 = .ok (.checkcast 218, 3) := by decide +kernel
theorem dX11_canSpeak_21 : decode cX11_canSpeak 21 = .ok (.astore_n 3, 1) := by decide +kernel
theorem dX11_canSpeak_22 : decode cX11_canSpeak 22 = .ok (.aload_n 3, 1) := by decide +kernel
theorem dX11_canSpeak_23 : decode cX11_canSpeak 23 = .ok (.getfield 518, 3) := by decide +kernel
theorem dX11_canSpeak_26 : decode cX11_canSpeak 26 = .ok (.ifCond .eq 22, 3) := by decide +kernel
theorem dX11_canSpeak_48 : decode cX11_canSpeak 48 = .ok (.iconst 0, 1) := by decide +kernel
theorem dX11_canSpeak_49 : decode cX11_canSpeak 49 = .ok (.ireturn, 1) := by decide +kernel
theorem dX11_isForbidden_0 : decode cX11_isForbidden 0 = .ok (.iload_n 1, 1) := by decide +kernel
theorem dX11_isForbidden_1 : decode cX11_isForbidden 1 = .ok (.ifCond .lt 40, 3) := by decide +kernel
theorem dX11_isForbidden_4 : decode cX11_isForbidden 4 = .ok (.iload_n 1, 1) := by decide +kernel
theorem dX11_isForbidden_5 : decode cX11_isForbidden 5 = .ok (.aload_n 0, 1) := by decide +kernel
theorem dX11_isForbidden_6 : decode cX11_isForbidden 6 = .ok (.getfield 10, 3) := by decide +kernel
theorem dX11_isForbidden_9 : decode cX11_isForbidden 9 = .ok (.invokevirtual 44, 3) := by decide +kernel
theorem dX11_isForbidden_12 : decode cX11_isForbidden 12 = .ok (.if_icmp .ge 29, 3) := by decide +kernel
theorem dX11_isForbidden_15 : decode cX11_isForbidden 15 = .ok (.aload_n 0, 1) := by decide +kernel
theorem dX11_isForbidden_16 : decode cX11_isForbidden 16 = .ok (.getfield 10, 3) := by decide +kernel
theorem dX11_isForbidden_19 : decode cX11_isForbidden 19 = .ok (.iload_n 1, 1) := by decide +kernel
theorem dX11_isForbidden_20 : decode cX11_isForbidden 20 = .ok (.invokevirtual 169, 3) := by decide +kernel
theorem dX11_isForbidden_23 : decode cX11_isForbidden 23 = .ok (.checkcast 51, 3) := by decide +kernel
theorem dX11_isForbidden_26 : decode cX11_isForbidden 26 = .ok (.iload_n 2, 1) := by decide +kernel
theorem dX11_isForbidden_27 : decode cX11_isForbidden 27 = .ok (.aload_n 0, 1) := by decide +kernel
theorem dX11_isForbidden_28 : decode cX11_isForbidden 28 = .ok (.getfield 63, 3) := by decide +kernel
theorem dX11_isForbidden_31 : decode cX11_isForbidden 31 = .ok (.invokevirtual 549, 3) := by decide +kernel
theorem dX11_isForbidden_34 : decode cX11_isForbidden 34 = .ok (.ifCond .eq 7, 3) := by decide +kernel
theorem dX11_isForbidden_41 : decode cX11_isForbidden 41 = .ok (.iconst 0, 1) := by decide +kernel
theorem dX11_isForbidden_42 : decode cX11_isForbidden 42 = .ok (.ireturn, 1) := by decide +kernel
theorem dX11_commitOffence_0 : decode cX11_commitOffence 0 = .ok (.iload_n 1, 1) := by decide +kernel
theorem dX11_commitOffence_1 : decode cX11_commitOffence 1 = .ok (.iload_n 2, 1) := by decide +kernel
theorem dX11_commitOffence_2 : decode cX11_commitOffence 2 = .ok (.if_icmp .eq 17, 3) := by decide +kernel
theorem dX11_commitOffence_5 : decode cX11_commitOffence 5 = .ok (.aload_n 0, 1) := by decide +kernel
theorem dX11_commitOffence_6 : decode cX11_commitOffence 6 = .ok (.iload_n 1, 1) := by decide +kernel
theorem dX11_commitOffence_7 : decode cX11_commitOffence 7 = .ok (.iload_n 3, 1) := by decide +kernel
theorem dX11_commitOffence_8 : decode cX11_commitOffence 8 = .ok (.invokevirtual 498, 3) := by decide +kernel
theorem dX11_commitOffence_11 : decode cX11_commitOffence 11 = .ok (.ifCond .eq 8, 3) := by decide +kernel
theorem dX11_commitOffence_19 : decode cX11_commitOffence 19 = .ok (.aload_n 0, 1) := by decide +kernel
theorem dX11_commitOffence_20 : decode cX11_commitOffence 20 = .ok (.iload_n 2, 1) := by decide +kernel
theorem dX11_commitOffence_21 : decode cX11_commitOffence 21 = .ok (.invokevirtual 552, 3) := by decide +kernel
theorem dX11_commitOffence_24 : decode cX11_commitOffence 24 = .ok (.return_, 1) := by decide +kernel
theorem dX11_addEvidence_0 : decode cX11_addEvidence 0 = .ok (.iload_n 1, 1) := by decide +kernel
theorem dX11_addEvidence_1 : decode cX11_addEvidence 1 = .ok (.ifCond .lt 34, 3) := by decide +kernel
theorem dX11_addEvidence_35 : decode cX11_addEvidence 35 = .ok (.return_, 1) := by decide +kernel
theorem dX11_countCrew_0 : decode cX11_countCrew 0 = .ok (.iconst 0, 1) := by decide +kernel
theorem dX11_countCrew_1 : decode cX11_countCrew 1 = .ok (.istore_n 2, 1) := by decide +kernel
theorem dX11_countCrew_2 : decode cX11_countCrew 2 = .ok (.iconst 0, 1) := by decide +kernel
theorem dX11_countCrew_3 : decode cX11_countCrew 3 = .ok (.istore_n 3, 1) := by decide +kernel
theorem dX11_countCrew_4 : decode cX11_countCrew 4 = .ok (.iload_n 3, 1) := by decide +kernel
theorem dX11_countCrew_5 : decode cX11_countCrew 5 = .ok (.aload_n 0, 1) := by decide +kernel
theorem dX11_countCrew_6 : decode cX11_countCrew 6 = .ok (.getfield 22, 3) := by decide +kernel
theorem dX11_countCrew_9 : decode cX11_countCrew 9 = .ok (.invokevirtual 44, 3) := by decide +kernel
theorem dX11_countCrew_12 : decode cX11_countCrew 12 = .ok (.if_icmp .ge 30, 3) := by decide +kernel
theorem dX11_countCrew_15 : decode cX11_countCrew 15 = .ok (.aload_n 0, 1) := by decide +kernel
theorem dX11_countCrew_16 : decode cX11_countCrew 16 = .ok (.getfield 22, 3) := by decide +kernel
theorem dX11_countCrew_19 : decode cX11_countCrew 19 = .ok (.iload_n 3, 1) := by decide +kernel
theorem dX11_countCrew_20 : decode cX11_countCrew 20 = .ok (.invokevirtual 169, 3) := by decide +kernel
theorem dX11_countCrew_23 : decode cX11_countCrew 23 = .ok (.checkcast 218, 3) := by decide +kernel
theorem dX11_countCrew_26 : decode cX11_countCrew 26 = .ok (.getfield 227, 3) := by decide +kernel
theorem dX11_countCrew_29 : decode cX11_countCrew 29 = .ok (.iload_n 1, 1) := by decide +kernel
theorem dX11_countCrew_30 : decode cX11_countCrew 30 = .ok (.if_icmp .ne 6, 3) := by decide +kernel
theorem dX11_countCrew_33 : decode cX11_countCrew 33 = .ok (.iinc 2 1, 3) := by decide +kernel
theorem dX11_countCrew_36 : decode cX11_countCrew 36 = .ok (.iinc 3 1, 3) := by decide +kernel
theorem dX11_countCrew_39 : decode cX11_countCrew 39 = .ok (.goto (-35), 3) := by decide +kernel
theorem dX11_countCrew_42 : decode cX11_countCrew 42 = .ok (.iload_n 2, 1) := by decide +kernel
theorem dX11_countCrew_43 : decode cX11_countCrew 43 = .ok (.ireturn, 1) := by decide +kernel
theorem dJx4a65c_size_8abf5_0 : decode cJx4a65c_size_8abf5 0 = .ok (.aload_n 0, 1) := by decide +kernel
theorem dJx4a65c_size_8abf5_1 : decode cJx4a65c_size_8abf5 1 = .ok (.getfield 48, 3) := by decide +kernel
theorem dJx4a65c_size_8abf5_4 : decode cJx4a65c_size_8abf5 4 = .ok (.ireturn, 1) := by decide +kernel
theorem dJx4a65c_elementData_915e3_0 : decode cJx4a65c_elementData_915e3 0 = .ok (.aload_n 0, 1) := by decide +kernel
theorem dJx4a65c_elementData_915e3_1 : decode cJx4a65c_elementData_915e3 1 = .ok (.getfield 9, 3) := by decide +kernel
theorem dJx4a65c_elementData_915e3_4 : decode cJx4a65c_elementData_915e3 4 = .ok (.iload_n 1, 1) := by decide +kernel
theorem dJx4a65c_elementData_915e3_5 : decode cJx4a65c_elementData_915e3 5 = .ok (.aaload, 1) := by decide +kernel
theorem dJx4a65c_elementData_915e3_6 : decode cJx4a65c_elementData_915e3 6 = .ok (.areturn, 1) := by decide +kernel
theorem dJx4a65c_get_915e3_0 : decode cJx4a65c_get_915e3 0 = .ok (.iload_n 1, 1) := by decide +kernel
theorem dJx4a65c_get_915e3_1 : decode cJx4a65c_get_915e3 1 = .ok (.aload_n 0, 1) := by decide +kernel
theorem dJx4a65c_get_915e3_2 : decode cJx4a65c_get_915e3 2 = .ok (.getfield 48, 3) := by decide +kernel
theorem dJx4a65c_get_915e3_5 : decode cJx4a65c_get_915e3 5 = .ok (.invokestatic 118, 3) := by decide +kernel
theorem dJx4a65c_get_915e3_8 : decode cJx4a65c_get_915e3 8 = .ok (.pop, 1) := by decide +kernel
theorem dJx4a65c_get_915e3_9 : decode cJx4a65c_get_915e3 9 = .ok (.aload_n 0, 1) := by decide +kernel
theorem dJx4a65c_get_915e3_10 : decode cJx4a65c_get_915e3 10 = .ok (.iload_n 1, 1) := by decide +kernel
theorem dJx4a65c_get_915e3_11 : decode cJx4a65c_get_915e3 11 = .ok (.invokevirtual 123, 3) := by decide +kernel
theorem dJx4a65c_get_915e3_14 : decode cJx4a65c_get_915e3 14 = .ok (.areturn, 1) := by decide +kernel
theorem dJ15_checkIndex_7cf53_0 : decode cJ15_checkIndex_7cf53 0 = .ok (.iload_n 0, 1) := by decide +kernel
theorem dJ15_checkIndex_7cf53_1 : decode cJ15_checkIndex_7cf53 1 = .ok (.iload_n 1, 1) := by decide +kernel
theorem dJ15_checkIndex_7cf53_2 : decode cJ15_checkIndex_7cf53 2 = .ok (.aconst_null, 1) := by decide +kernel
theorem dJ15_checkIndex_7cf53_3 : decode cJ15_checkIndex_7cf53 3 = .ok (.invokestatic 105, 3) := by decide +kernel
theorem dJ15_checkIndex_7cf53_6 : decode cJ15_checkIndex_7cf53 6 = .ok (.ireturn, 1) := by decide +kernel
theorem dJ3_checkIndex_8e157_0 : decode cJ3_checkIndex_8e157 0 = .ok (.iload_n 0, 1) := by decide +kernel
theorem dJ3_checkIndex_8e157_1 : decode cJ3_checkIndex_8e157 1 = .ok (.ifCond .lt 8, 3) := by decide +kernel
theorem dJ3_checkIndex_8e157_4 : decode cJ3_checkIndex_8e157 4 = .ok (.iload_n 0, 1) := by decide +kernel
theorem dJ3_checkIndex_8e157_5 : decode cJ3_checkIndex_8e157 5 = .ok (.iload_n 1, 1) := by decide +kernel
theorem dJ3_checkIndex_8e157_6 : decode cJ3_checkIndex_8e157 6 = .ok (.if_icmp .lt 10, 3) := by decide +kernel
theorem dJ3_checkIndex_8e157_16 : decode cJ3_checkIndex_8e157 16 = .ok (.iload_n 0, 1) := by decide +kernel
theorem dJ3_checkIndex_8e157_17 : decode cJ3_checkIndex_8e157 17 = .ok (.ireturn, 1) := by decide +kernel
