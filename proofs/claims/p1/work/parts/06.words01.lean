theorem dX12_isNoShip_3 : decode cX12_isNoShip 3 = .ok (.getfield 184, 3) := by decide +kernel
theorem dX12_isNoShip_6 : decode cX12_isNoShip 6 = .ok (.iconst 1, 1) := by decide +kernel
theorem dX12_isNoShip_7 : decode cX12_isNoShip 7 = .ok (.isub, 1) := by decide +kernel
theorem dX12_isNoShip_8 : decode cX12_isNoShip 8 = .ok (.invokestatic 167, 3) := by decide +kernel
theorem dX12_isNoShip_11 : decode cX12_isNoShip 11 = .ok (.ifCond .ne 7, 3) := by decide +kernel
theorem dX12_isNoShip_14 : decode cX12_isNoShip 14 = .ok (.iconst 1, 1) := by decide +kernel
theorem dX12_isNoShip_15 : decode cX12_isNoShip 15 = .ok (.goto 4, 3) := by decide +kernel
theorem dX12_isNoShip_19 : decode cX12_isNoShip 19 = .ok (.ireturn, 1) := by decide +kernel
theorem dX12_addLand_0 : decode cX12_addLand 0 = .ok (.aload_n 0, 1) := by decide +kernel
theorem dX12_addLand_1 : decode cX12_addLand 1 = .ok (.iload_n 1, 1) := by decide +kernel
theorem dX12_addLand_2 : decode cX12_addLand 2 = .ok (.iload_n 2, 1) := by decide +kernel
theorem dX12_addLand_3 : decode cX12_addLand 3 = .ok (.invokestatic 187, 3) := by decide +kernel
theorem dX12_addLand_6 : decode cX12_addLand 6 = .ok (.ifCond .eq 13, 3) := by decide +kernel
theorem dX12_addLand_9 : decode cX12_addLand 9 = .ok (.iload_n 3, 1) := by decide +kernel
theorem dX12_addLand_10 : decode cX12_addLand 10 = .ok (.iconst 1, 1) := by decide +kernel
theorem dX12_addLand_11 : decode cX12_addLand 11 = .ok (.bipush 50, 2) := by decide +kernel
theorem dX12_addLand_13 : decode cX12_addLand 13 = .ok (.invokestatic 167, 3) := by decide +kernel
theorem dX12_addLand_16 : decode cX12_addLand 16 = .ok (.ifCond .ne 7, 3) := by decide +kernel
theorem dX12_addLand_19 : decode cX12_addLand 19 = .ok (.iconst 1, 1) := by decide +kernel
theorem dX12_addLand_20 : decode cX12_addLand 20 = .ok (.goto 4, 3) := by decide +kernel
theorem dX12_addLand_23 : decode cX12_addLand 23 = .ok (.iconst 0, 1) := by decide +kernel
theorem dX12_addLand_24 : decode cX12_addLand 24 = .ok (.iconst 1, 1) := by decide +kernel
theorem dX12_addLand_25 : decode cX12_addLand 25 = .ok (.invokevirtual 191, 3) := by decide +kernel
theorem dX12_addLand_28 : decode cX12_addLand 28 = .ok (.ifCond .ne 24, 3) := by decide +kernel
theorem dX12_addLand_31 : decode cX12_addLand 31 = .ok (.aload_n 0, 1) := by decide +kernel
theorem dX12_addLand_32 : decode cX12_addLand 32 = .ok (.aload_n 0, 1) := by decide +kernel
theorem dX12_addLand_33 : decode cX12_addLand 33 = .ok (.getfield 181, 3) := by decide +kernel
theorem dX12_addLand_36 : decode cX12_addLand 36 = .ok (.iconst 4, 1) := by decide +kernel
theorem dX12_addLand_37 : decode cX12_addLand 37 = .ok (.if_icmp .ne 7, 3) := by decide +kernel
theorem dX12_addLand_44 : decode cX12_addLand 44 = .ok (.iconst 0, 1) := by decide +kernel
theorem dX12_addLand_45 : decode cX12_addLand 45 = .ok (.iconst 2, 1) := by decide +kernel
theorem dX12_addLand_46 : decode cX12_addLand 46 = .ok (.invokevirtual 191, 3) := by decide +kernel
theorem dX12_addLand_49 : decode cX12_addLand 49 = .ok (.ifCond .eq 5, 3) := by decide +kernel
theorem dX12_addLand_52 : decode cX12_addLand 52 = .ok (.iconst 0, 1) := by decide +kernel
theorem dX12_addLand_53 : decode cX12_addLand 53 = .ok (.ireturn, 1) := by decide +kernel
theorem dX12_addLand_54 : decode cX12_addLand 54 = .ok (.aload_n 0, 1) := by decide +kernel
theorem dX12_addLand_55 : decode cX12_addLand 55 = .ok (.getfield 11, 3) := by decide +kernel
theorem dX12_addLand_58 : decode cX12_addLand 58 = .ok (.aload_n 0, 1) := by decide +kernel
theorem dX12_addLand_59 : decode cX12_addLand 59 = .ok (.getfield 181, 3) := by decide +kernel
theorem dX12_addLand_62 : decode cX12_addLand 62 = .ok (.aaload, 1) := by decide +kernel
theorem dX12_addLand_63 : decode cX12_addLand 63 = .ok (.iconst 0, 1) := by decide +kernel
theorem dX12_addLand_64 : decode cX12_addLand 64 = .ok (.iload_n 1, 1) := by decide +kernel
theorem dX12_addLand_65 : decode cX12_addLand 65 = .ok (.iastore, 1) := by decide +kernel
theorem dX12_addLand_66 : decode cX12_addLand 66 = .ok (.aload_n 0, 1) := by decide +kernel
theorem dX12_addLand_67 : decode cX12_addLand 67 = .ok (.getfield 11, 3) := by decide +kernel
theorem dX12_addLand_70 : decode cX12_addLand 70 = .ok (.aload_n 0, 1) := by decide +kernel
theorem dX12_addLand_71 : decode cX12_addLand 71 = .ok (.getfield 181, 3) := by decide +kernel
theorem dX12_addLand_74 : decode cX12_addLand 74 = .ok (.aaload, 1) := by decide +kernel
theorem dX12_addLand_75 : decode cX12_addLand 75 = .ok (.iconst 1, 1) := by decide +kernel
theorem dX12_addLand_76 : decode cX12_addLand 76 = .ok (.iload_n 2, 1) := by decide +kernel
theorem dX12_addLand_77 : decode cX12_addLand 77 = .ok (.iastore, 1) := by decide +kernel
theorem dX12_addLand_78 : decode cX12_addLand 78 = .ok (.aload_n 0, 1) := by decide +kernel
theorem dX12_addLand_79 : decode cX12_addLand 79 = .ok (.getfield 14, 3) := by decide +kernel
theorem dX12_addLand_82 : decode cX12_addLand 82 = .ok (.aload_n 0, 1) := by decide +kernel
theorem dX12_addLand_83 : decode cX12_addLand 83 = .ok (.getfield 181, 3) := by decide +kernel
theorem dX12_addLand_86 : decode cX12_addLand 86 = .ok (.iload_n 3, 1) := by decide +kernel
theorem dX12_addLand_87 : decode cX12_addLand 87 = .ok (.iastore, 1) := by decide +kernel
theorem dX12_addLand_88 : decode cX12_addLand 88 = .ok (.aload_n 0, 1) := by decide +kernel
theorem dX12_addLand_89 : decode cX12_addLand 89 = .ok (.dup, 1) := by decide +kernel
theorem dX12_addLand_90 : decode cX12_addLand 90 = .ok (.getfield 181, 3) := by decide +kernel
theorem dX12_addLand_93 : decode cX12_addLand 93 = .ok (.iconst 1, 1) := by decide +kernel
theorem dX12_addLand_94 : decode cX12_addLand 94 = .ok (.iadd, 1) := by decide +kernel
theorem dX12_addLand_95 : decode cX12_addLand 95 = .ok (.putfield 181, 3) := by decide +kernel
theorem dX12_addLand_98 : decode cX12_addLand 98 = .ok (.aload_n 0, 1) := by decide +kernel
theorem dX12_addLand_99 : decode cX12_addLand 99 = .ok (.getfield 181, 3) := by decide +kernel
theorem dX12_addLand_102 : decode cX12_addLand 102 = .ok (.iconst 1, 1) := by decide +kernel
theorem dX12_addLand_103 : decode cX12_addLand 103 = .ok (.isub, 1) := by decide +kernel
theorem dX12_addLand_104 : decode cX12_addLand 104 = .ok (.ireturn, 1) := by decide +kernel
theorem dX12_addAct_0 : decode cX12_addAct 0 = .ok (.aload_n 0, 1) := by decide +kernel
theorem dX12_addAct_1 : decode cX12_addAct 1 = .ok (.aload_n 0, 1) := by decide +kernel
theorem dX12_addAct_2 : decode cX12_addAct 2 = .ok (.iload_n 1, 1) := by decide +kernel
theorem dX12_addAct_3 : decode cX12_addAct 3 = .ok (.invokevirtual 195, 3) := by decide +kernel
theorem dX12_addAct_6 : decode cX12_addAct 6 = .ok (.iconst 1, 1) := by decide +kernel
theorem dX12_addAct_7 : decode cX12_addAct 7 = .ok (.invokevirtual 191, 3) := by decide +kernel
theorem dX12_addAct_10 : decode cX12_addAct 10 = .ok (.ifCond .ne 75, 3) := by decide +kernel
theorem dX12_addAct_85 : decode cX12_addAct 85 = .ok (.iconst 0, 1) := by decide +kernel
theorem dX12_addAct_86 : decode cX12_addAct 86 = .ok (.ireturn, 1) := by decide +kernel
theorem dX12_getLine_0 : decode cX12_getLine 0 = .ok (.aload_n 0, 1) := by decide +kernel
theorem dX12_getLine_1 : decode cX12_getLine 1 = .ok (.aload_n 0, 1) := by decide +kernel
theorem dX12_getLine_2 : decode cX12_getLine 2 = .ok (.iload_n 1, 1) := by decide +kernel
theorem dX12_getLine_3 : decode cX12_getLine 3 = .ok (.invokevirtual 195, 3) := by decide +kernel
theorem dX12_getLine_6 : decode cX12_getLine 6 = .ok (.iconst 1, 1) := by decide +kernel
theorem dX12_getLine_7 : decode cX12_getLine 7 = .ok (.invokevirtual 191, 3) := by decide +kernel
theorem dX12_getLine_10 : decode cX12_getLine 10 = .ok (.ifCond .eq 7, 3) := by decide +kernel
theorem dX12_getLine_13 : decode cX12_getLine 13 = .ok (.iconst 0, 1) := by decide +kernel
theorem dX12_getLine_14 : decode cX12_getLine 14 = .ok (.goto 9, 3) := by decide +kernel
theorem dX12_getLine_23 : decode cX12_getLine 23 = .ok (.ireturn, 1) := by decide +kernel
theorem dX12_setWind_0 : decode cX12_setWind 0 = .ok (.aload_n 0, 1) := by decide +kernel
theorem dX12_setWind_1 : decode cX12_setWind 1 = .ok (.ldc 213, 2) := by decide +kernel
theorem dX12_setWind_3 : decode cX12_setWind 3 = .ok (.iload_n 2, 1) := by decide +kernel
theorem dX12_setWind_4 : decode cX12_setWind 4 = .ok (.invokevirtual 215, 3) := by decide +kernel
theorem dX12_setWind_7 : decode cX12_setWind 7 = .ok (.ifCond .lt 13, 3) := by decide +kernel
theorem dX12_setWind_10 : decode cX12_setWind 10 = .ok (.iload_n 1, 1) := by decide +kernel
theorem dX12_setWind_11 : decode cX12_setWind 11 = .ok (.iconst 0, 1) := by decide +kernel
theorem dX12_setWind_12 : decode cX12_setWind 12 = .ok (.bipush 12, 2) := by decide +kernel
theorem dX12_setWind_14 : decode cX12_setWind 14 = .ok (.invokestatic 167, 3) := by decide +kernel
theorem dX12_setWind_17 : decode cX12_setWind 17 = .ok (.ifCond .ne 7, 3) := by decide +kernel
theorem dX12_setWind_20 : decode cX12_setWind 20 = .ok (.iconst 1, 1) := by decide +kernel
theorem dX12_setWind_21 : decode cX12_setWind 21 = .ok (.goto 4, 3) := by decide +kernel
theorem dX12_setWind_24 : decode cX12_setWind 24 = .ok (.iconst 0, 1) := by decide +kernel
theorem dX12_setWind_25 : decode cX12_setWind 25 = .ok (.iconst 1, 1) := by decide +kernel
theorem dX12_setWind_26 : decode cX12_setWind 26 = .ok (.invokevirtual 191, 3) := by decide +kernel
theorem dX12_setWind_29 : decode cX12_setWind 29 = .ok (.ifCond .eq 5, 3) := by decide +kernel
theorem dX12_setWind_32 : decode cX12_setWind 32 = .ok (.iconst 0, 1) := by decide +kernel
theorem dX12_setWind_33 : decode cX12_setWind 33 = .ok (.ireturn, 1) := by decide +kernel
theorem dX12_setWind_34 : decode cX12_setWind 34 = .ok (.aload_n 0, 1) := by decide +kernel
theorem dX12_setWind_35 : decode cX12_setWind 35 = .ok (.getfield 220, 3) := by decide +kernel
theorem dX12_setWind_38 : decode cX12_setWind 38 = .ok (.istore_n 3, 1) := by decide +kernel
theorem dX12_setWind_39 : decode cX12_setWind 39 = .ok (.aload_n 0, 1) := by decide +kernel
theorem dX12_setWind_40 : decode cX12_setWind 40 = .ok (.iload_n 1, 1) := by decide +kernel
theorem dX12_setWind_41 : decode cX12_setWind 41 = .ok (.putfield 220, 3) := by decide +kernel
theorem dX12_setWind_44 : decode cX12_setWind 44 = .ok (.aload_n 0, 1) := by decide +kernel
theorem dX12_setWind_45 : decode cX12_setWind 45 = .ok (.ldc 213, 2) := by decide +kernel
theorem dX12_setWind_47 : decode cX12_setWind 47 = .ok (.iload_n 2, 1) := by decide +kernel
theorem dX12_setWind_48 : decode cX12_setWind 48 = .ok (.invokevirtual 215, 3) := by decide +kernel
theorem dX12_setWind_51 : decode cX12_setWind 51 = .ok (.putfield 223, 3) := by decide +kernel
theorem dX12_setWind_54 : decode cX12_setWind 54 = .ok (.iload_n 3, 1) := by decide +kernel
theorem dX12_setWind_55 : decode cX12_setWind 55 = .ok (.ireturn, 1) := by decide +kernel
theorem dX12_setTide_0 : decode cX12_setTide 0 = .ok (.aload_n 0, 1) := by decide +kernel
theorem dX12_setTide_1 : decode cX12_setTide 1 = .ok (.iload_n 1, 1) := by decide +kernel
theorem dX12_setTide_2 : decode cX12_setTide 2 = .ok (.bipush (-3), 2) := by decide +kernel
theorem dX12_setTide_4 : decode cX12_setTide 4 = .ok (.iconst 3, 1) := by decide +kernel
theorem dX12_setTide_5 : decode cX12_setTide 5 = .ok (.invokestatic 167, 3) := by decide +kernel
theorem dX12_setTide_8 : decode cX12_setTide 8 = .ok (.ifCond .eq 13, 3) := by decide +kernel
theorem dX12_setTide_11 : decode cX12_setTide 11 = .ok (.iload_n 2, 1) := by decide +kernel
theorem dX12_setTide_12 : decode cX12_setTide 12 = .ok (.bipush (-3), 2) := by decide +kernel
theorem dX12_setTide_14 : decode cX12_setTide 14 = .ok (.iconst 3, 1) := by decide +kernel
theorem dX12_setTide_15 : decode cX12_setTide 15 = .ok (.invokestatic 167, 3) := by decide +kernel
theorem dX12_setTide_18 : decode cX12_setTide 18 = .ok (.ifCond .ne 7, 3) := by decide +kernel
theorem dX12_setTide_21 : decode cX12_setTide 21 = .ok (.iconst 1, 1) := by decide +kernel
theorem dX12_setTide_22 : decode cX12_setTide 22 = .ok (.goto 4, 3) := by decide +kernel
theorem dX12_setTide_25 : decode cX12_setTide 25 = .ok (.iconst 0, 1) := by decide +kernel
theorem dX12_setTide_26 : decode cX12_setTide 26 = .ok (.iconst 1, 1) := by decide +kernel
theorem dX12_setTide_27 : decode cX12_setTide 27 = .ok (.invokevirtual 191, 3) := by decide +kernel
theorem dX12_setTide_30 : decode cX12_setTide 30 = .ok (.ifCond .eq 5, 3) := by decide +kernel
theorem dX12_setTide_33 : decode cX12_setTide 33 = .ok (.iconst 0, 1) := by decide +kernel
theorem dX12_setTide_34 : decode cX12_setTide 34 = .ok (.ireturn, 1) := by decide +kernel
theorem dX12_setTide_35 : decode cX12_setTide 35 = .ok (.aload_n 0, 1) := by decide +kernel
theorem dX12_setTide_36 : decode cX12_setTide 36 = .ok (.getfield 226, 3) := by decide +kernel
theorem dX12_setTide_39 : decode cX12_setTide 39 = .ok (.istore_n 3, 1) := by decide +kernel
theorem dX12_setTide_40 : decode cX12_setTide 40 = .ok (.aload_n 0, 1) := by decide +kernel
theorem dX12_setTide_41 : decode cX12_setTide 41 = .ok (.iload_n 1, 1) := by decide +kernel
theorem dX12_setTide_42 : decode cX12_setTide 42 = .ok (.putfield 226, 3) := by decide +kernel
theorem dX12_setTide_45 : decode cX12_setTide 45 = .ok (.aload_n 0, 1) := by decide +kernel
theorem dX12_setTide_46 : decode cX12_setTide 46 = .ok (.iload_n 2, 1) := by decide +kernel
theorem dX12_setTide_47 : decode cX12_setTide 47 = .ok (.putfield 229, 3) := by decide +kernel
theorem dX12_setTide_50 : decode cX12_setTide 50 = .ok (.iload_n 3, 1) := by decide +kernel
theorem dX12_setTide_51 : decode cX12_setTide 51 = .ok (.ireturn, 1) := by decide +kernel
theorem dX12_addTown_0 : decode cX12_addTown 0 = .ok (.aload_n 0, 1) := by decide +kernel
theorem dX12_addTown_1 : decode cX12_addTown 1 = .ok (.aload_n 0, 1) := by decide +kernel
theorem dX12_addTown_2 : decode cX12_addTown 2 = .ok (.iload_n 1, 1) := by decide +kernel
theorem dX12_addTown_3 : decode cX12_addTown 3 = .ok (.invokevirtual 195, 3) := by decide +kernel
theorem dX12_addTown_6 : decode cX12_addTown 6 = .ok (.iconst 1, 1) := by decide +kernel
theorem dX12_addTown_7 : decode cX12_addTown 7 = .ok (.invokevirtual 191, 3) := by decide +kernel
theorem dX12_addTown_10 : decode cX12_addTown 10 = .ok (.ifCond .ne 58, 3) := by decide +kernel
theorem dX12_addTown_68 : decode cX12_addTown 68 = .ok (.iconst 0, 1) := by decide +kernel
theorem dX12_addTown_69 : decode cX12_addTown 69 = .ok (.ireturn, 1) := by decide +kernel
theorem dX12_addShip_0 : decode cX12_addShip 0 = .ok (.aload_n 0, 1) := by decide +kernel
theorem dX12_addShip_1 : decode cX12_addShip 1 = .ok (.iload_n 1, 1) := by decide +kernel
theorem dX12_addShip_2 : decode cX12_addShip 2 = .ok (.iload_n 2, 1) := by decide +kernel
theorem dX12_addShip_3 : decode cX12_addShip 3 = .ok (.invokestatic 187, 3) := by decide +kernel
theorem dX12_addShip_6 : decode cX12_addShip 6 = .ok (.ifCond .ne 7, 3) := by decide +kernel
theorem dX12_addShip_9 : decode cX12_addShip 9 = .ok (.iconst 1, 1) := by decide +kernel
theorem dX12_addShip_10 : decode cX12_addShip 10 = .ok (.goto 4, 3) := by decide +kernel
theorem dX12_addShip_13 : decode cX12_addShip 13 = .ok (.iconst 0, 1) := by decide +kernel
theorem dX12_addShip_14 : decode cX12_addShip 14 = .ok (.iconst 1, 1) := by decide +kernel
theorem dX12_addShip_15 : decode cX12_addShip 15 = .ok (.invokevirtual 191, 3) := by decide +kernel
theorem dX12_addShip_18 : decode cX12_addShip 18 = .ok (.ifCond .ne 24, 3) := by decide +kernel
theorem dX12_addShip_21 : decode cX12_addShip 21 = .ok (.aload_n 0, 1) := by decide +kernel
theorem dX12_addShip_22 : decode cX12_addShip 22 = .ok (.aload_n 0, 1) := by decide +kernel
theorem dX12_addShip_23 : decode cX12_addShip 23 = .ok (.getfield 184, 3) := by decide +kernel
theorem dX12_addShip_26 : decode cX12_addShip 26 = .ok (.iconst 4, 1) := by decide +kernel
theorem dX12_addShip_27 : decode cX12_addShip 27 = .ok (.if_icmp .ne 7, 3) := by decide +kernel
theorem dX12_addShip_34 : decode cX12_addShip 34 = .ok (.iconst 0, 1) := by decide +kernel
theorem dX12_addShip_35 : decode cX12_addShip 35 = .ok (.iconst 2, 1) := by decide +kernel
theorem dX12_addShip_36 : decode cX12_addShip 36 = .ok (.invokevirtual 191, 3) := by decide +kernel
theorem dX12_addShip_39 : decode cX12_addShip 39 = .ok (.ifCond .eq 5, 3) := by decide +kernel
theorem dX12_addShip_42 : decode cX12_addShip 42 = .ok (.iconst 0, 1) := by decide +kernel
theorem dX12_addShip_43 : decode cX12_addShip 43 = .ok (.ireturn, 1) := by decide +kernel
theorem dX12_addShip_44 : decode cX12_addShip 44 = .ok (.aload_n 0, 1) := by decide +kernel
theorem dX12_addShip_45 : decode cX12_addShip 45 = .ok (.getfield 41, 3) := by decide +kernel
theorem dX12_addShip_48 : decode cX12_addShip 48 = .ok (.aload_n 0, 1) := by decide +kernel
theorem dX12_addShip_49 : decode cX12_addShip 49 = .ok (.getfield 184, 3) := by decide +kernel
theorem dX12_addShip_52 : decode cX12_addShip 52 = .ok (.aaload, 1) := by decide +kernel
theorem dX12_addShip_53 : decode cX12_addShip 53 = .ok (.iconst 0, 1) := by decide +kernel
theorem dX12_addShip_54 : decode cX12_addShip 54 = .ok (.iload_n 1, 1) := by decide +kernel
theorem dX12_addShip_55 : decode cX12_addShip 55 = .ok (.iastore, 1) := by decide +kernel
theorem dX12_addShip_56 : decode cX12_addShip 56 = .ok (.aload_n 0, 1) := by decide +kernel
theorem dX12_addShip_57 : decode cX12_addShip 57 = .ok (.getfield 41, 3) := by decide +kernel
theorem dX12_addShip_60 : decode cX12_addShip 60 = .ok (.aload_n 0, 1) := by decide +kernel
theorem dX12_addShip_61 : decode cX12_addShip 61 = .ok (.getfield 184, 3) := by decide +kernel
theorem dX12_addShip_64 : decode cX12_addShip 64 = .ok (.aaload, 1) := by decide +kernel
theorem dX12_addShip_65 : decode cX12_addShip 65 = .ok (.iconst 1, 1) := by decide +kernel
theorem dX12_addShip_66 : decode cX12_addShip 66 = .ok (.iload_n 2, 1) := by decide +kernel
theorem dX12_addShip_67 : decode cX12_addShip 67 = .ok (.iastore, 1) := by decide +kernel
theorem dX12_addShip_68 : decode cX12_addShip 68 = .ok (.aload_n 0, 1) := by decide +kernel
theorem dX12_addShip_69 : decode cX12_addShip 69 = .ok (.getfield 44, 3) := by decide +kernel
theorem dX12_addShip_72 : decode cX12_addShip 72 = .ok (.aload_n 0, 1) := by decide +kernel
theorem dX12_addShip_73 : decode cX12_addShip 73 = .ok (.getfield 184, 3) := by decide +kernel
theorem dX12_addShip_76 : decode cX12_addShip 76 = .ok (.aload_n 0, 1) := by decide +kernel
theorem dX12_addShip_77 : decode cX12_addShip 77 = .ok (.getfield 41, 3) := by decide +kernel
theorem dX12_addShip_80 : decode cX12_addShip 80 = .ok (.aload_n 0, 1) := by decide +kernel
theorem dX12_addShip_81 : decode cX12_addShip 81 = .ok (.getfield 184, 3) := by decide +kernel
theorem dX12_addShip_84 : decode cX12_addShip 84 = .ok (.aaload, 1) := by decide +kernel
theorem dX12_addShip_85 : decode cX12_addShip 85 = .ok (.invokevirtual 235, 3) := by decide +kernel
theorem dX12_addShip_88 : decode cX12_addShip 88 = .ok (.checkcast 236, 3) := by decide +kernel
theorem dX12_addShip_91 : decode cX12_addShip 91 = .ok (.aastore, 1) := by decide +kernel
theorem dX12_addShip_92 : decode cX12_addShip 92 = .ok (.aload_n 0, 1) := by decide +kernel
theorem dX12_addShip_93 : decode cX12_addShip 93 = .ok (.getfield 69, 3) := by decide +kernel
theorem dX12_addShip_96 : decode cX12_addShip 96 = .ok (.aload_n 0, 1) := by decide +kernel
theorem dX12_addShip_97 : decode cX12_addShip 97 = .ok (.getfield 184, 3) := by decide +kernel
theorem dX12_addShip_100 : decode cX12_addShip 100 = .ok (.iconst (-1), 1) := by decide +kernel
theorem dX12_addShip_101 : decode cX12_addShip 101 = .ok (.iastore, 1) := by decide +kernel
theorem dX12_addShip_102 : decode cX12_addShip 102 = .ok (.aload_n 0, 1) := by decide +kernel
theorem dX12_addShip_103 : decode cX12_addShip 103 = .ok (.getfield 101, 3) := by decide +kernel
theorem dX12_addShip_106 : decode cX12_addShip 106 = .ok (.aload_n 0, 1) := by decide +kernel
theorem dX12_addShip_107 : decode cX12_addShip 107 = .ok (.getfield 184, 3) := by decide +kernel
theorem dX12_addShip_110 : decode cX12_addShip 110 = .ok (.iconst (-1), 1) := by decide +kernel
theorem dX12_addShip_111 : decode cX12_addShip 111 = .ok (.iastore, 1) := by decide +kernel
theorem dX12_addShip_112 : decode cX12_addShip 112 = .ok (.aload_n 0, 1) := by decide +kernel
theorem dX12_addShip_113 : decode cX12_addShip 113 = .ok (.getfield 107, 3) := by decide +kernel
theorem dX12_addShip_116 : decode cX12_addShip 116 = .ok (.aload_n 0, 1) := by decide +kernel
theorem dX12_addShip_117 : decode cX12_addShip 117 = .ok (.getfield 184, 3) := by decide +kernel
theorem dX12_addShip_120 : decode cX12_addShip 120 = .ok (.iconst (-1), 1) := by decide +kernel
theorem dX12_addShip_121 : decode cX12_addShip 121 = .ok (.iastore, 1) := by decide +kernel
theorem dX12_addShip_122 : decode cX12_addShip 122 = .ok (.iconst 0, 1) := by decide +kernel
theorem dX12_addShip_123 : decode cX12_addShip 123 = .ok (.istore_n 3, 1) := by decide +kernel
theorem dX12_addShip_124 : decode cX12_addShip 124 = .ok (.iload_n 3, 1) := by decide +kernel
theorem dX12_addShip_125 : decode cX12_addShip 125 = .ok (.bipush 24, 2) := by decide +kernel
theorem dX12_addShip_127 : decode cX12_addShip 127 = .ok (.if_icmp .ge 21, 3) := by decide +kernel
theorem dX12_addShip_130 : decode cX12_addShip 130 = .ok (.aload_n 0, 1) := by decide +kernel
theorem dX12_addShip_131 : decode cX12_addShip 131 = .ok (.getfield 98, 3) := by decide +kernel
theorem dX12_addShip_134 : decode cX12_addShip 134 = .ok (.aload_n 0, 1) := by decide +kernel
theorem dX12_addShip_135 : decode cX12_addShip 135 = .ok (.getfield 184, 3) := by decide +kernel
theorem dX12_addShip_138 : decode cX12_addShip 138 = .ok (.aaload, 1) := by decide +kernel
theorem dX12_addShip_139 : decode cX12_addShip 139 = .ok (.iload_n 3, 1) := by decide +kernel
theorem dX12_addShip_140 : decode cX12_addShip 140 = .ok (.iconst (-1), 1) := by decide +kernel
theorem dX12_addShip_141 : decode cX12_addShip 141 = .ok (.iastore, 1) := by decide +kernel
theorem dX12_addShip_142 : decode cX12_addShip 142 = .ok (.iinc 3 1, 3) := by decide +kernel
theorem dX12_addShip_145 : decode cX12_addShip 145 = .ok (.goto (-21), 3) := by decide +kernel
theorem dX12_addShip_148 : decode cX12_addShip 148 = .ok (.aload_n 0, 1) := by decide +kernel
theorem dX12_addShip_149 : decode cX12_addShip 149 = .ok (.dup, 1) := by decide +kernel
theorem dX12_addShip_150 : decode cX12_addShip 150 = .ok (.getfield 184, 3) := by decide +kernel
theorem dX12_addShip_153 : decode cX12_addShip 153 = .ok (.iconst 1, 1) := by decide +kernel
theorem dX12_addShip_154 : decode cX12_addShip 154 = .ok (.iadd, 1) := by decide +kernel
theorem dX12_addShip_155 : decode cX12_addShip 155 = .ok (.putfield 184, 3) := by decide +kernel
theorem dX12_addShip_158 : decode cX12_addShip 158 = .ok (.aload_n 0, 1) := by decide +kernel
theorem dX12_addShip_159 : decode cX12_addShip 159 = .ok (.getfield 184, 3) := by decide +kernel
theorem dX12_addShip_162 : decode cX12_addShip 162 = .ok (.iconst 1, 1) := by decide +kernel
theorem dX12_addShip_163 : decode cX12_addShip 163 = .ok (.isub, 1) := by decide +kernel
theorem dX12_addShip_164 : decode cX12_addShip 164 = .ok (.ireturn, 1) := by decide +kernel
theorem dX12_getPlace_0 : decode cX12_getPlace 0 = .ok (.aload_n 0, 1) := by decide +kernel
theorem dX12_getPlace_1 : decode cX12_getPlace 1 = .ok (.aload_n 0, 1) := by decide +kernel
theorem dX12_getPlace_2 : decode cX12_getPlace 2 = .ok (.iload_n 1, 1) := by decide +kernel
theorem dX12_getPlace_3 : decode cX12_getPlace 3 = .ok (.invokevirtual 240, 3) := by decide +kernel
theorem dX12_getPlace_6 : decode cX12_getPlace 6 = .ok (.iconst 1, 1) := by decide +kernel
theorem dX12_getPlace_7 : decode cX12_getPlace 7 = .ok (.invokevirtual 191, 3) := by decide +kernel
theorem dX12_getPlace_10 : decode cX12_getPlace 10 = .ok (.ifCond .eq 7, 3) := by decide +kernel
theorem dX12_getPlace_13 : decode cX12_getPlace 13 = .ok (.iconst 0, 1) := by decide +kernel
theorem dX12_getPlace_14 : decode cX12_getPlace 14 = .ok (.goto 19, 3) := by decide +kernel
theorem dX12_getPlace_33 : decode cX12_getPlace 33 = .ok (.ireturn, 1) := by decide +kernel
theorem dX12_getInside_0 : decode cX12_getInside 0 = .ok (.aload_n 0, 1) := by decide +kernel
theorem dX12_getInside_1 : decode cX12_getInside 1 = .ok (.aload_n 0, 1) := by decide +kernel
theorem dX12_getInside_2 : decode cX12_getInside 2 = .ok (.iload_n 1, 1) := by decide +kernel
theorem dX12_getInside_3 : decode cX12_getInside 3 = .ok (.invokevirtual 240, 3) := by decide +kernel
theorem dX12_getInside_6 : decode cX12_getInside 6 = .ok (.iconst 1, 1) := by decide +kernel
theorem dX12_getInside_7 : decode cX12_getInside 7 = .ok (.invokevirtual 191, 3) := by decide +kernel
theorem dX12_getInside_10 : decode cX12_getInside 10 = .ok (.ifCond .eq 7, 3) := by decide +kernel
theorem dX12_getInside_13 : decode cX12_getInside 13 = .ok (.iconst 0, 1) := by decide +kernel
theorem dX12_getInside_14 : decode cX12_getInside 14 = .ok (.goto 8, 3) := by decide +kernel
theorem dX12_getInside_22 : decode cX12_getInside 22 = .ok (.ireturn, 1) := by decide +kernel
theorem dX12_anchor_0 : decode cX12_anchor 0 = .ok (.aload_n 0, 1) := by decide +kernel
theorem dX12_anchor_1 : decode cX12_anchor 1 = .ok (.aload_n 0, 1) := by decide +kernel
theorem dX12_anchor_2 : decode cX12_anchor 2 = .ok (.iload_n 1, 1) := by decide +kernel
theorem dX12_anchor_3 : decode cX12_anchor 3 = .ok (.invokevirtual 240, 3) := by decide +kernel
theorem dX12_anchor_6 : decode cX12_anchor 6 = .ok (.iconst 1, 1) := by decide +kernel
theorem dX12_anchor_7 : decode cX12_anchor 7 = .ok (.invokevirtual 191, 3) := by decide +kernel
theorem dX12_anchor_10 : decode cX12_anchor 10 = .ok (.ifCond .ne 55, 3) := by decide +kernel
theorem dX12_anchor_65 : decode cX12_anchor 65 = .ok (.iconst 0, 1) := by decide +kernel
theorem dX12_anchor_66 : decode cX12_anchor 66 = .ok (.ireturn, 1) := by decide +kernel
theorem dX12_weigh_0 : decode cX12_weigh 0 = .ok (.aload_n 0, 1) := by decide +kernel
theorem dX12_weigh_1 : decode cX12_weigh 1 = .ok (.aload_n 0, 1) := by decide +kernel
theorem dX12_weigh_2 : decode cX12_weigh 2 = .ok (.iload_n 1, 1) := by decide +kernel
theorem dX12_weigh_3 : decode cX12_weigh 3 = .ok (.invokevirtual 240, 3) := by decide +kernel
theorem dX12_weigh_6 : decode cX12_weigh 6 = .ok (.iconst 1, 1) := by decide +kernel
theorem dX12_weigh_7 : decode cX12_weigh 7 = .ok (.invokevirtual 191, 3) := by decide +kernel
theorem dX12_weigh_10 : decode cX12_weigh 10 = .ok (.ifCond .ne 33, 3) := by decide +kernel
theorem dX12_weigh_43 : decode cX12_weigh 43 = .ok (.iconst 0, 1) := by decide +kernel
theorem dX12_weigh_44 : decode cX12_weigh 44 = .ok (.ireturn, 1) := by decide +kernel
theorem dX12_isAground_0 : decode cX12_isAground 0 = .ok (.aload_n 0, 1) := by decide +kernel
theorem dX12_isAground_1 : decode cX12_isAground 1 = .ok (.aload_n 0, 1) := by decide +kernel
theorem dX12_isAground_2 : decode cX12_isAground 2 = .ok (.iload_n 1, 1) := by decide +kernel
theorem dX12_isAground_3 : decode cX12_isAground 3 = .ok (.invokevirtual 240, 3) := by decide +kernel
theorem dX12_isAground_6 : decode cX12_isAground 6 = .ok (.iconst 1, 1) := by decide +kernel
theorem dX12_isAground_7 : decode cX12_isAground 7 = .ok (.invokevirtual 191, 3) := by decide +kernel
theorem dX12_isAground_10 : decode cX12_isAground 10 = .ok (.ifCond .ne 15, 3) := by decide +kernel
theorem dX12_isAground_25 : decode cX12_isAground 25 = .ok (.iconst 0, 1) := by decide +kernel
theorem dX12_isAground_26 : decode cX12_isAground 26 = .ok (.ireturn, 1) := by decide +kernel
theorem dX12_pullOff_0 : decode cX12_pullOff 0 = .ok (.aload_n 0, 1) := by decide +kernel
theorem dX12_pullOff_1 : decode cX12_pullOff 1 = .ok (.aload_n 0, 1) := by decide +kernel
theorem dX12_pullOff_2 : decode cX12_pullOff 2 = .ok (.iload_n 1, 1) := by decide +kernel
theorem dX12_pullOff_3 : decode cX12_pullOff 3 = .ok (.invokevirtual 240, 3) := by decide +kernel
theorem dX12_pullOff_6 : decode cX12_pullOff 6 = .ok (.iconst 1, 1) := by decide +kernel
theorem dX12_pullOff_7 : decode cX12_pullOff 7 = .ok (.invokevirtual 191, 3) := by decide +kernel
theorem dX12_pullOff_10 : decode cX12_pullOff 10 = .ok (.ifCond .ne 24, 3) := by decide +kernel
theorem dX12_pullOff_34 : decode cX12_pullOff 34 = .ok (.iconst 0, 1) := by decide +kernel
theorem dX12_pullOff_35 : decode cX12_pullOff 35 = .ok (.ireturn, 1) := by decide +kernel
theorem dX12_addGenerator_0 : decode cX12_addGenerator 0 = .ok (.aload_n 0, 1) := by decide +kernel
theorem dX12_addGenerator_1 : decode cX12_addGenerator 1 = .ok (.aload_n 0, 1) := by decide +kernel
theorem dX12_addGenerator_2 : decode cX12_addGenerator 2 = .ok (.iload_n 1, 1) := by decide +kernel
theorem dX12_addGenerator_3 : decode cX12_addGenerator 3 = .ok (.invokevirtual 240, 3) := by decide +kernel
theorem dX12_addGenerator_6 : decode cX12_addGenerator 6 = .ok (.iconst 1, 1) := by decide +kernel
theorem dX12_addGenerator_7 : decode cX12_addGenerator 7 = .ok (.invokevirtual 191, 3) := by decide +kernel
theorem dX12_addGenerator_10 : decode cX12_addGenerator 10 = .ok (.ifCond .ne 60, 3) := by decide +kernel
theorem dX12_addGenerator_70 : decode cX12_addGenerator 70 = .ok (.iconst 0, 1) := by decide +kernel
theorem dX12_addGenerator_71 : decode cX12_addGenerator 71 = .ok (.ireturn, 1) := by decide +kernel
theorem dX12_setGenerator_0 : decode cX12_setGenerator 0 = .ok (.aload_n 0, 1) := by decide +kernel
theorem dX12_setGenerator_1 : decode cX12_setGenerator 1 = .ok (.aload_n 0, 1) := by decide +kernel
theorem dX12_setGenerator_2 : decode cX12_setGenerator 2 = .ok (.iload_n 1, 1) := by decide +kernel
theorem dX12_setGenerator_3 : decode cX12_setGenerator 3 = .ok (.invokevirtual 240, 3) := by decide +kernel
theorem dX12_setGenerator_6 : decode cX12_setGenerator 6 = .ok (.ifCond .ne 19, 3) := by decide +kernel
theorem dX12_setGenerator_25 : decode cX12_setGenerator 25 = .ok (.iconst 1, 1) := by decide +kernel
theorem dX12_setGenerator_26 : decode cX12_setGenerator 26 = .ok (.goto 4, 3) := by decide +kernel
theorem dX12_setGenerator_30 : decode cX12_setGenerator 30 = .ok (.iconst 1, 1) := by decide +kernel
theorem dX12_setGenerator_31 : decode cX12_setGenerator 31 = .ok (.invokevirtual 191, 3) := by decide +kernel
theorem dX12_setGenerator_34 : decode cX12_setGenerator 34 = .ok (.ifCond .eq 5, 3) := by decide +kernel
theorem dX12_setGenerator_37 : decode cX12_setGenerator 37 = .ok (.iconst 0, 1) := by decide +kernel
theorem dX12_setGenerator_38 : decode cX12_setGenerator 38 = .ok (.ireturn, 1) := by decide +kernel
theorem dX12_getFuel_0 : decode cX12_getFuel 0 = .ok (.aload_n 0, 1) := by decide +kernel
theorem dX12_getFuel_1 : decode cX12_getFuel 1 = .ok (.aload_n 0, 1) := by decide +kernel
theorem dX12_getFuel_2 : decode cX12_getFuel 2 = .ok (.iload_n 1, 1) := by decide +kernel
theorem dX12_getFuel_3 : decode cX12_getFuel 3 = .ok (.invokevirtual 240, 3) := by decide +kernel
theorem dX12_getFuel_6 : decode cX12_getFuel 6 = .ok (.iconst 1, 1) := by decide +kernel
theorem dX12_getFuel_7 : decode cX12_getFuel 7 = .ok (.invokevirtual 191, 3) := by decide +kernel
theorem dX12_getFuel_10 : decode cX12_getFuel 10 = .ok (.ifCond .eq 7, 3) := by decide +kernel
theorem dX12_getFuel_13 : decode cX12_getFuel 13 = .ok (.iconst 0, 1) := by decide +kernel
theorem dX12_getFuel_14 : decode cX12_getFuel 14 = .ok (.goto 9, 3) := by decide +kernel
theorem dX12_getFuel_23 : decode cX12_getFuel 23 = .ok (.ireturn, 1) := by decide +kernel
theorem dX12_getFood_0 : decode cX12_getFood 0 = .ok (.aload_n 0, 1) := by decide +kernel
theorem dX12_getFood_1 : decode cX12_getFood 1 = .ok (.aload_n 0, 1) := by decide +kernel
theorem dX12_getFood_2 : decode cX12_getFood 2 = .ok (.iload_n 1, 1) := by decide +kernel
theorem dX12_getFood_3 : decode cX12_getFood 3 = .ok (.invokevirtual 240, 3) := by decide +kernel
theorem dX12_getFood_6 : decode cX12_getFood 6 = .ok (.iconst 1, 1) := by decide +kernel
theorem dX12_getFood_7 : decode cX12_getFood 7 = .ok (.invokevirtual 191, 3) := by decide +kernel
theorem dX12_getFood_10 : decode cX12_getFood 10 = .ok (.ifCond .eq 7, 3) := by decide +kernel
theorem dX12_getFood_13 : decode cX12_getFood 13 = .ok (.iconst 0, 1) := by decide +kernel
theorem dX12_getFood_14 : decode cX12_getFood 14 = .ok (.goto 9, 3) := by decide +kernel
theorem dX12_getFood_23 : decode cX12_getFood 23 = .ok (.ireturn, 1) := by decide +kernel
theorem dX12_getSalt_0 : decode cX12_getSalt 0 = .ok (.aload_n 0, 1) := by decide +kernel
theorem dX12_getSalt_1 : decode cX12_getSalt 1 = .ok (.aload_n 0, 1) := by decide +kernel
theorem dX12_getSalt_2 : decode cX12_getSalt 2 = .ok (.iload_n 1, 1) := by decide +kernel
theorem dX12_getSalt_3 : decode cX12_getSalt 3 = .ok (.invokevirtual 240, 3) := by decide +kernel
theorem dX12_getSalt_6 : decode cX12_getSalt 6 = .ok (.iconst 1, 1) := by decide +kernel
theorem dX12_getSalt_7 : decode cX12_getSalt 7 = .ok (.invokevirtual 191, 3) := by decide +kernel
theorem dX12_getSalt_10 : decode cX12_getSalt 10 = .ok (.ifCond .eq 7, 3) := by decide +kernel
theorem dX12_getSalt_13 : decode cX12_getSalt 13 = .ok (.iconst 0, 1) := by decide +kernel
theorem dX12_getSalt_14 : decode cX12_getSalt 14 = .ok (.goto 9, 3) := by decide +kernel
theorem dX12_getSalt_23 : decode cX12_getSalt 23 = .ok (.ireturn, 1) := by decide +kernel
theorem dX12_wash_0 : decode cX12_wash 0 = .ok (.aload_n 0, 1) := by decide +kernel
theorem dX12_wash_1 : decode cX12_wash 1 = .ok (.aload_n 0, 1) := by decide +kernel
theorem dX12_wash_2 : decode cX12_wash 2 = .ok (.iload_n 1, 1) := by decide +kernel
theorem dX12_wash_3 : decode cX12_wash 3 = .ok (.invokevirtual 240, 3) := by decide +kernel
theorem dX12_wash_6 : decode cX12_wash 6 = .ok (.iconst 1, 1) := by decide +kernel
theorem dX12_wash_7 : decode cX12_wash 7 = .ok (.invokevirtual 191, 3) := by decide +kernel
theorem dX12_wash_10 : decode cX12_wash 10 = .ok (.ifCond .ne 24, 3) := by decide +kernel
theorem dX12_wash_34 : decode cX12_wash 34 = .ok (.iconst 0, 1) := by decide +kernel
theorem dX12_wash_35 : decode cX12_wash 35 = .ok (.ireturn, 1) := by decide +kernel
theorem dX12_setPower_0 : decode cX12_setPower 0 = .ok (.aload_n 0, 1) := by decide +kernel
theorem dX12_setPower_1 : decode cX12_setPower 1 = .ok (.aload_n 0, 1) := by decide +kernel
theorem dX12_setPower_2 : decode cX12_setPower 2 = .ok (.iload_n 1, 1) := by decide +kernel
theorem dX12_setPower_3 : decode cX12_setPower 3 = .ok (.invokevirtual 240, 3) := by decide +kernel
theorem dX12_setPower_6 : decode cX12_setPower 6 = .ok (.iconst 1, 1) := by decide +kernel
theorem dX12_setPower_7 : decode cX12_setPower 7 = .ok (.invokevirtual 191, 3) := by decide +kernel
theorem dX12_setPower_10 : decode cX12_setPower 10 = .ok (.ifCond .ne 26, 3) := by decide +kernel
theorem dX12_setPower_36 : decode cX12_setPower 36 = .ok (.iconst 0, 1) := by decide +kernel
theorem dX12_setPower_37 : decode cX12_setPower 37 = .ok (.ireturn, 1) := by decide +kernel
theorem dX12_getChannel_0 : decode cX12_getChannel 0 = .ok (.aload_n 0, 1) := by decide +kernel
theorem dX12_getChannel_1 : decode cX12_getChannel 1 = .ok (.aload_n 0, 1) := by decide +kernel
theorem dX12_getChannel_2 : decode cX12_getChannel 2 = .ok (.iload_n 1, 1) := by decide +kernel
theorem dX12_getChannel_3 : decode cX12_getChannel 3 = .ok (.invokevirtual 240, 3) := by decide +kernel
theorem dX12_getChannel_6 : decode cX12_getChannel 6 = .ok (.iconst 1, 1) := by decide +kernel
theorem dX12_getChannel_7 : decode cX12_getChannel 7 = .ok (.invokevirtual 191, 3) := by decide +kernel
theorem dX12_getChannel_10 : decode cX12_getChannel 10 = .ok (.ifCond .eq 7, 3) := by decide +kernel
theorem dX12_getChannel_13 : decode cX12_getChannel 13 = .ok (.iconst 0, 1) := by decide +kernel
theorem dX12_getChannel_14 : decode cX12_getChannel 14 = .ok (.goto 9, 3) := by decide +kernel
theorem dX12_getChannel_23 : decode cX12_getChannel 23 = .ok (.ireturn, 1) := by decide +kernel
theorem dX12_pass_0 : decode cX12_pass 0 = .ok (.aload_n 0, 1) := by decide +kernel
theorem dX12_pass_1 : decode cX12_pass 1 = .ok (.iload_n 1, 1) := by decide +kernel
theorem dX12_pass_2 : decode cX12_pass 2 = .ok (.iconst 1, 1) := by decide +kernel
theorem dX12_pass_3 : decode cX12_pass 3 = .ok (.bipush 96, 2) := by decide +kernel
theorem dX12_pass_5 : decode cX12_pass 5 = .ok (.invokestatic 167, 3) := by decide +kernel
theorem dX12_pass_8 : decode cX12_pass 8 = .ok (.ifCond .ne 7, 3) := by decide +kernel
theorem dX12_pass_11 : decode cX12_pass 11 = .ok (.iconst 1, 1) := by decide +kernel
theorem dX12_pass_12 : decode cX12_pass 12 = .ok (.goto 4, 3) := by decide +kernel
theorem dX12_pass_15 : decode cX12_pass 15 = .ok (.iconst 0, 1) := by decide +kernel
theorem dX12_pass_16 : decode cX12_pass 16 = .ok (.iconst 1, 1) := by decide +kernel
theorem dX12_pass_17 : decode cX12_pass 17 = .ok (.invokevirtual 191, 3) := by decide +kernel
theorem dX12_pass_20 : decode cX12_pass 20 = .ok (.ifCond .eq 5, 3) := by decide +kernel
theorem dX12_pass_23 : decode cX12_pass 23 = .ok (.iconst 0, 1) := by decide +kernel
theorem dX12_pass_24 : decode cX12_pass 24 = .ok (.ireturn, 1) := by decide +kernel
theorem dX12_pass_25 : decode cX12_pass 25 = .ok (.iconst 0, 1) := by decide +kernel
theorem dX12_pass_26 : decode cX12_pass 26 = .ok (.istore_n 2, 1) := by decide +kernel
theorem dX12_pass_27 : decode cX12_pass 27 = .ok (.iload_n 2, 1) := by decide +kernel
theorem dX12_pass_28 : decode cX12_pass 28 = .ok (.iload_n 1, 1) := by decide +kernel
theorem dX12_pass_29 : decode cX12_pass 29 = .ok (.if_icmp .ge 184, 3) := by decide +kernel
theorem dX12_pass_32 : decode cX12_pass 32 = .ok (.iconst 0, 1) := by decide +kernel
theorem dX12_pass_33 : decode cX12_pass 33 = .ok (.istore_n 3, 1) := by decide +kernel
theorem dX12_pass_34 : decode cX12_pass 34 = .ok (.iload_n 3, 1) := by decide +kernel
theorem dX12_pass_35 : decode cX12_pass 35 = .ok (.aload_n 0, 1) := by decide +kernel
theorem dX12_pass_36 : decode cX12_pass 36 = .ok (.getfield 184, 3) := by decide +kernel
theorem dX12_pass_39 : decode cX12_pass 39 = .ok (.if_icmp .ge 32, 3) := by decide +kernel
theorem dX12_pass_71 : decode cX12_pass 71 = .ok (.iconst 0, 1) := by decide +kernel
theorem dX12_pass_72 : decode cX12_pass 72 = .ok (.istore_n 3, 1) := by decide +kernel
theorem dX12_pass_73 : decode cX12_pass 73 = .ok (.iload_n 3, 1) := by decide +kernel
theorem dX12_pass_74 : decode cX12_pass 74 = .ok (.aload_n 0, 1) := by decide +kernel
theorem dX12_pass_75 : decode cX12_pass 75 = .ok (.getfield 232, 3) := by decide +kernel
theorem dX12_pass_78 : decode cX12_pass 78 = .ok (.if_icmp .ge 14, 3) := by decide +kernel
theorem dX12_pass_92 : decode cX12_pass 92 = .ok (.iconst 0, 1) := by decide +kernel
theorem dX12_pass_93 : decode cX12_pass 93 = .ok (.istore_n 3, 1) := by decide +kernel
theorem dX12_pass_94 : decode cX12_pass 94 = .ok (.iload_n 3, 1) := by decide +kernel
theorem dX12_pass_95 : decode cX12_pass 95 = .ok (.aload_n 0, 1) := by decide +kernel
theorem dX12_pass_96 : decode cX12_pass 96 = .ok (.getfield 184, 3) := by decide +kernel
theorem dX12_pass_99 : decode cX12_pass 99 = .ok (.if_icmp .ge 14, 3) := by decide +kernel
theorem dX12_pass_113 : decode cX12_pass 113 = .ok (.iconst 0, 1) := by decide +kernel
theorem dX12_pass_114 : decode cX12_pass 114 = .ok (.istore_n 3, 1) := by decide +kernel
theorem dX12_pass_115 : decode cX12_pass 115 = .ok (.iload_n 3, 1) := by decide +kernel
theorem dX12_pass_116 : decode cX12_pass 116 = .ok (.aload_n 0, 1) := by decide +kernel
theorem dX12_pass_117 : decode cX12_pass 117 = .ok (.getfield 184, 3) := by decide +kernel
theorem dX12_pass_120 : decode cX12_pass 120 = .ok (.if_icmp .ge 14, 3) := by decide +kernel
theorem dX12_pass_134 : decode cX12_pass 134 = .ok (.iconst 0, 1) := by decide +kernel
theorem dX12_pass_135 : decode cX12_pass 135 = .ok (.istore_n 3, 1) := by decide +kernel
theorem dX12_pass_136 : decode cX12_pass 136 = .ok (.iload_n 3, 1) := by decide +kernel
theorem dX12_pass_137 : decode cX12_pass 137 = .ok (.aload_n 0, 1) := by decide +kernel
theorem dX12_pass_138 : decode cX12_pass 138 = .ok (.getfield 184, 3) := by decide +kernel
theorem dX12_pass_141 : decode cX12_pass 141 = .ok (.if_icmp .ge 56, 3) := by decide +kernel
theorem dX12_pass_197 : decode cX12_pass 197 = .ok (.aload_n 0, 1) := by decide +kernel
theorem dX12_pass_198 : decode cX12_pass 198 = .ok (.dup, 1) := by decide +kernel
theorem dX12_pass_199 : decode cX12_pass 199 = .ok (.getfield 199, 3) := by decide +kernel
theorem dX12_pass_202 : decode cX12_pass 202 = .ok (.iconst 1, 1) := by decide +kernel
theorem dX12_pass_203 : decode cX12_pass 203 = .ok (.iadd, 1) := by decide +kernel
theorem dX12_pass_204 : decode cX12_pass 204 = .ok (.putfield 199, 3) := by decide +kernel
theorem dX12_pass_207 : decode cX12_pass 207 = .ok (.iinc 2 1, 3) := by decide +kernel
theorem dX12_pass_210 : decode cX12_pass 210 = .ok (.goto (-183), 3) := by decide +kernel
theorem dX12_pass_213 : decode cX12_pass 213 = .ok (.aload_n 0, 1) := by decide +kernel
theorem dX12_pass_214 : decode cX12_pass 214 = .ok (.getfield 199, 3) := by decide +kernel
theorem dX12_pass_217 : decode cX12_pass 217 = .ok (.ireturn, 1) := by decide +kernel
theorem dX12_isOnAir_0 : decode cX12_isOnAir 0 = .ok (.aload_n 0, 1) := by decide +kernel
theorem dX12_isOnAir_1 : decode cX12_isOnAir 1 = .ok (.aload_n 0, 1) := by decide +kernel
theorem dX12_isOnAir_2 : decode cX12_isOnAir 2 = .ok (.iload_n 1, 1) := by decide +kernel
theorem dX12_isOnAir_3 : decode cX12_isOnAir 3 = .ok (.invokevirtual 240, 3) := by decide +kernel
theorem dX12_isOnAir_6 : decode cX12_isOnAir 6 = .ok (.iconst 1, 1) := by decide +kernel
theorem dX12_isOnAir_7 : decode cX12_isOnAir 7 = .ok (.invokevirtual 191, 3) := by decide +kernel
theorem dX12_isOnAir_10 : decode cX12_isOnAir 10 = .ok (.ifCond .ne 16, 3) := by decide +kernel
theorem dX12_isOnAir_26 : decode cX12_isOnAir 26 = .ok (.iconst 0, 1) := by decide +kernel
theorem dX12_isOnAir_27 : decode cX12_isOnAir 27 = .ok (.ireturn, 1) := by decide +kernel
theorem dX12_isNoTown_0 : decode cX12_isNoTown 0 = .ok (.iload_n 1, 1) := by decide +kernel
theorem dX12_isNoTown_1 : decode cX12_isNoTown 1 = .ok (.iconst 0, 1) := by decide +kernel
theorem dX12_isNoTown_2 : decode cX12_isNoTown 2 = .ok (.aload_n 0, 1) := by decide +kernel
theorem dX12_isNoTown_3 : decode cX12_isNoTown 3 = .ok (.getfield 232, 3) := by decide +kernel
theorem dX12_isNoTown_6 : decode cX12_isNoTown 6 = .ok (.iconst 1, 1) := by decide +kernel
theorem dX12_isNoTown_7 : decode cX12_isNoTown 7 = .ok (.isub, 1) := by decide +kernel
theorem dX12_isNoTown_8 : decode cX12_isNoTown 8 = .ok (.invokestatic 167, 3) := by decide +kernel
theorem dX12_isNoTown_11 : decode cX12_isNoTown 11 = .ok (.ifCond .ne 7, 3) := by decide +kernel
theorem dX12_isNoTown_14 : decode cX12_isNoTown 14 = .ok (.iconst 1, 1) := by decide +kernel
theorem dX12_isNoTown_15 : decode cX12_isNoTown 15 = .ok (.goto 4, 3) := by decide +kernel
theorem dX12_isNoTown_19 : decode cX12_isNoTown 19 = .ok (.ireturn, 1) := by decide +kernel
theorem dX12_getSignal_0 : decode cX12_getSignal 0 = .ok (.aload_n 0, 1) := by decide +kernel
theorem dX12_getSignal_1 : decode cX12_getSignal 1 = .ok (.aload_n 0, 1) := by decide +kernel
theorem dX12_getSignal_2 : decode cX12_getSignal 2 = .ok (.iload_n 1, 1) := by decide +kernel
theorem dX12_getSignal_3 : decode cX12_getSignal 3 = .ok (.invokevirtual 240, 3) := by decide +kernel
theorem dX12_getSignal_6 : decode cX12_getSignal 6 = .ok (.ifCond .ne 11, 3) := by decide +kernel
theorem dX12_getSignal_17 : decode cX12_getSignal 17 = .ok (.iconst 1, 1) := by decide +kernel
theorem dX12_getSignal_18 : decode cX12_getSignal 18 = .ok (.goto 4, 3) := by decide +kernel
theorem dX12_getSignal_22 : decode cX12_getSignal 22 = .ok (.iconst 1, 1) := by decide +kernel
theorem dX12_getSignal_23 : decode cX12_getSignal 23 = .ok (.invokevirtual 191, 3) := by decide +kernel
theorem dX12_getSignal_26 : decode cX12_getSignal 26 = .ok (.ifCond .eq 7, 3) := by decide +kernel
theorem dX12_getSignal_29 : decode cX12_getSignal 29 = .ok (.iconst 0, 1) := by decide +kernel
theorem dX12_getSignal_30 : decode cX12_getSignal 30 = .ok (.goto 9, 3) := by decide +kernel
theorem dX12_getSignal_39 : decode cX12_getSignal 39 = .ok (.ireturn, 1) := by decide +kernel
theorem dX12_getHeard_0 : decode cX12_getHeard 0 = .ok (.aload_n 0, 1) := by decide +kernel
theorem dX12_getHeard_1 : decode cX12_getHeard 1 = .ok (.aload_n 0, 1) := by decide +kernel
theorem dX12_getHeard_2 : decode cX12_getHeard 2 = .ok (.iload_n 1, 1) := by decide +kernel
theorem dX12_getHeard_3 : decode cX12_getHeard 3 = .ok (.invokevirtual 329, 3) := by decide +kernel
theorem dX12_getHeard_6 : decode cX12_getHeard 6 = .ok (.iconst 1, 1) := by decide +kernel
theorem dX12_getHeard_7 : decode cX12_getHeard 7 = .ok (.invokevirtual 191, 3) := by decide +kernel
theorem dX12_getHeard_10 : decode cX12_getHeard 10 = .ok (.ifCond .eq 7, 3) := by decide +kernel
theorem dX12_getHeard_13 : decode cX12_getHeard 13 = .ok (.iconst 0, 1) := by decide +kernel
theorem dX12_getHeard_14 : decode cX12_getHeard 14 = .ok (.goto 9, 3) := by decide +kernel
theorem dX12_getHeard_23 : decode cX12_getHeard 23 = .ok (.ireturn, 1) := by decide +kernel
theorem dX12_getListeners_0 : decode cX12_getListeners 0 = .ok (.aload_n 0, 1) := by decide +kernel
theorem dX12_getListeners_1 : decode cX12_getListeners 1 = .ok (.aload_n 0, 1) := by decide +kernel
theorem dX12_getListeners_2 : decode cX12_getListeners 2 = .ok (.iload_n 1, 1) := by decide +kernel
theorem dX12_getListeners_3 : decode cX12_getListeners 3 = .ok (.invokevirtual 240, 3) := by decide +kernel
theorem dX12_getListeners_6 : decode cX12_getListeners 6 = .ok (.iconst 1, 1) := by decide +kernel
theorem dX12_getListeners_7 : decode cX12_getListeners 7 = .ok (.invokevirtual 191, 3) := by decide +kernel
theorem dX12_getListeners_10 : decode cX12_getListeners 10 = .ok (.ifCond .eq 7, 3) := by decide +kernel
theorem dX12_getListeners_13 : decode cX12_getListeners 13 = .ok (.iconst 0, 1) := by decide +kernel
theorem dX12_getListeners_14 : decode cX12_getListeners 14 = .ok (.goto 9, 3) := by decide +kernel
theorem dX12_getListeners_23 : decode cX12_getListeners 23 = .ok (.ireturn, 1) := by decide +kernel
theorem dX12_isNobody_0 : decode cX12_isNobody 0 = .ok (.iload_n 1, 1) := by decide +kernel
theorem dX12_isNobody_1 : decode cX12_isNobody 1 = .ok (.iconst 0, 1) := by decide +kernel
theorem dX12_isNobody_2 : decode cX12_isNobody 2 = .ok (.aload_n 0, 1) := by decide +kernel
theorem dX12_isNobody_3 : decode cX12_isNobody 3 = .ok (.getfield 257, 3) := by decide +kernel
theorem dX12_isNobody_6 : decode cX12_isNobody 6 = .ok (.iconst 1, 1) := by decide +kernel
theorem dX12_isNobody_7 : decode cX12_isNobody 7 = .ok (.isub, 1) := by decide +kernel
theorem dX12_isNobody_8 : decode cX12_isNobody 8 = .ok (.invokestatic 167, 3) := by decide +kernel
theorem dX12_isNobody_11 : decode cX12_isNobody 11 = .ok (.ifCond .ne 7, 3) := by decide +kernel
theorem dX12_isNobody_14 : decode cX12_isNobody 14 = .ok (.iconst 1, 1) := by decide +kernel
theorem dX12_isNobody_15 : decode cX12_isNobody 15 = .ok (.goto 4, 3) := by decide +kernel
theorem dX12_isNobody_19 : decode cX12_isNobody 19 = .ok (.ireturn, 1) := by decide +kernel
theorem dX12_addPerson_0 : decode cX12_addPerson 0 = .ok (.aload_n 0, 1) := by decide +kernel
theorem dX12_addPerson_1 : decode cX12_addPerson 1 = .ok (.aload_n 0, 1) := by decide +kernel
theorem dX12_addPerson_2 : decode cX12_addPerson 2 = .ok (.iload_n 1, 1) := by decide +kernel
theorem dX12_addPerson_3 : decode cX12_addPerson 3 = .ok (.invokevirtual 195, 3) := by decide +kernel
theorem dX12_addPerson_6 : decode cX12_addPerson 6 = .ok (.iconst 1, 1) := by decide +kernel
theorem dX12_addPerson_7 : decode cX12_addPerson 7 = .ok (.invokevirtual 191, 3) := by decide +kernel
theorem dX12_addPerson_10 : decode cX12_addPerson 10 = .ok (.ifCond .ne 50, 3) := by decide +kernel
theorem dX12_addPerson_60 : decode cX12_addPerson 60 = .ok (.iconst 0, 1) := by decide +kernel
theorem dX12_addPerson_61 : decode cX12_addPerson 61 = .ok (.ireturn, 1) := by decide +kernel
theorem dX12_getAboard_0 : decode cX12_getAboard 0 = .ok (.aload_n 0, 1) := by decide +kernel
theorem dX12_getAboard_1 : decode cX12_getAboard 1 = .ok (.aload_n 0, 1) := by decide +kernel
theorem dX12_getAboard_2 : decode cX12_getAboard 2 = .ok (.iload_n 1, 1) := by decide +kernel
theorem dX12_getAboard_3 : decode cX12_getAboard 3 = .ok (.invokevirtual 332, 3) := by decide +kernel
theorem dX12_getAboard_6 : decode cX12_getAboard 6 = .ok (.iconst 1, 1) := by decide +kernel
theorem dX12_getAboard_7 : decode cX12_getAboard 7 = .ok (.invokevirtual 191, 3) := by decide +kernel
theorem dX12_getAboard_10 : decode cX12_getAboard 10 = .ok (.ifCond .eq 7, 3) := by decide +kernel
theorem dX12_getAboard_13 : decode cX12_getAboard 13 = .ok (.iconst 0, 1) := by decide +kernel
theorem dX12_getAboard_14 : decode cX12_getAboard 14 = .ok (.goto 9, 3) := by decide +kernel
theorem dX12_getAboard_23 : decode cX12_getAboard 23 = .ok (.ireturn, 1) := by decide +kernel
theorem dX12_isTired_0 : decode cX12_isTired 0 = .ok (.aload_n 0, 1) := by decide +kernel
theorem dX12_isTired_1 : decode cX12_isTired 1 = .ok (.aload_n 0, 1) := by decide +kernel
theorem dX12_isTired_2 : decode cX12_isTired 2 = .ok (.iload_n 1, 1) := by decide +kernel
theorem dX12_isTired_3 : decode cX12_isTired 3 = .ok (.invokevirtual 332, 3) := by decide +kernel
theorem dX12_isTired_6 : decode cX12_isTired 6 = .ok (.iconst 1, 1) := by decide +kernel
theorem dX12_isTired_7 : decode cX12_isTired 7 = .ok (.invokevirtual 191, 3) := by decide +kernel
theorem dX12_isTired_10 : decode cX12_isTired 10 = .ok (.ifCond .ne 15, 3) := by decide +kernel
theorem dX12_isTired_25 : decode cX12_isTired 25 = .ok (.iconst 0, 1) := by decide +kernel
theorem dX12_isTired_26 : decode cX12_isTired 26 = .ok (.ireturn, 1) := by decide +kernel
theorem dX12_load_0 : decode cX12_load 0 = .ok (.aload_n 0, 1) := by decide +kernel
theorem dX12_load_1 : decode cX12_load 1 = .ok (.aload_n 0, 1) := by decide +kernel
theorem dX12_load_2 : decode cX12_load 2 = .ok (.iload_n 1, 1) := by decide +kernel
theorem dX12_load_3 : decode cX12_load 3 = .ok (.invokevirtual 195, 3) := by decide +kernel
theorem dX12_load_6 : decode cX12_load 6 = .ok (.iconst 1, 1) := by decide +kernel
theorem dX12_load_7 : decode cX12_load 7 = .ok (.invokevirtual 191, 3) := by decide +kernel
theorem dX12_load_10 : decode cX12_load 10 = .ok (.ifCond .ne 49, 3) := by decide +kernel
theorem dX12_load_59 : decode cX12_load 59 = .ok (.iconst 0, 1) := by decide +kernel
theorem dX12_load_60 : decode cX12_load 60 = .ok (.ireturn, 1) := by decide +kernel
theorem dX12_book_0 : decode cX12_book 0 = .ok (.aload_n 0, 1) := by decide +kernel
theorem dX12_book_1 : decode cX12_book 1 = .ok (.aload_n 0, 1) := by decide +kernel
theorem dX12_book_2 : decode cX12_book 2 = .ok (.iload_n 1, 1) := by decide +kernel
theorem dX12_book_3 : decode cX12_book 3 = .ok (.invokevirtual 195, 3) := by decide +kernel
theorem dX12_book_6 : decode cX12_book 6 = .ok (.ifCond .ne 11, 3) := by decide +kernel
theorem dX12_book_17 : decode cX12_book 17 = .ok (.iconst 1, 1) := by decide +kernel
theorem dX12_book_18 : decode cX12_book 18 = .ok (.goto 4, 3) := by decide +kernel
theorem dX12_book_22 : decode cX12_book 22 = .ok (.iconst 1, 1) := by decide +kernel
theorem dX12_book_23 : decode cX12_book 23 = .ok (.invokevirtual 191, 3) := by decide +kernel
theorem dX12_book_26 : decode cX12_book 26 = .ok (.ifCond .ne 46, 3) := by decide +kernel
theorem dX12_book_72 : decode cX12_book 72 = .ok (.iconst 0, 1) := by decide +kernel
theorem dX12_book_73 : decode cX12_book 73 = .ok (.ireturn, 1) := by decide +kernel
theorem dX12_send_0 : decode cX12_send 0 = .ok (.aload_n 0, 1) := by decide +kernel
theorem dX12_send_1 : decode cX12_send 1 = .ok (.aload_n 0, 1) := by decide +kernel
theorem dX12_send_2 : decode cX12_send 2 = .ok (.iload_n 1, 1) := by decide +kernel
theorem dX12_send_3 : decode cX12_send 3 = .ok (.invokevirtual 195, 3) := by decide +kernel
theorem dX12_send_6 : decode cX12_send 6 = .ok (.ifCond .ne 11, 3) := by decide +kernel
theorem dX12_send_17 : decode cX12_send 17 = .ok (.iconst 1, 1) := by decide +kernel
theorem dX12_send_18 : decode cX12_send 18 = .ok (.goto 4, 3) := by decide +kernel
theorem dX12_send_22 : decode cX12_send 22 = .ok (.iconst 1, 1) := by decide +kernel
theorem dX12_send_23 : decode cX12_send 23 = .ok (.invokevirtual 191, 3) := by decide +kernel
theorem dX12_send_26 : decode cX12_send 26 = .ok (.ifCond .ne 25, 3) := by decide +kernel
theorem dX12_send_51 : decode cX12_send 51 = .ok (.iconst 0, 1) := by decide +kernel
theorem dX12_send_52 : decode cX12_send 52 = .ok (.ireturn, 1) := by decide +kernel
theorem dX12_plan_0 : decode cX12_plan 0 = .ok (.aload_n 0, 1) := by decide +kernel
theorem dX12_plan_1 : decode cX12_plan 1 = .ok (.aload_n 0, 1) := by decide +kernel
theorem dX12_plan_2 : decode cX12_plan 2 = .ok (.iload_n 1, 1) := by decide +kernel
theorem dX12_plan_3 : decode cX12_plan 3 = .ok (.invokevirtual 240, 3) := by decide +kernel
theorem dX12_plan_6 : decode cX12_plan 6 = .ok (.iconst 1, 1) := by decide +kernel
theorem dX12_plan_7 : decode cX12_plan 7 = .ok (.invokevirtual 191, 3) := by decide +kernel
theorem dX12_plan_10 : decode cX12_plan 10 = .ok (.ifCond .ne 51, 3) := by decide +kernel
theorem dX12_plan_61 : decode cX12_plan 61 = .ok (.iconst 0, 1) := by decide +kernel
theorem dX12_plan_62 : decode cX12_plan 62 = .ok (.ireturn, 1) := by decide +kernel
theorem dX12_getSpeaker_0 : decode cX12_getSpeaker 0 = .ok (.aload_n 0, 1) := by decide +kernel
theorem dX12_getSpeaker_1 : decode cX12_getSpeaker 1 = .ok (.aload_n 0, 1) := by decide +kernel
theorem dX12_getSpeaker_2 : decode cX12_getSpeaker 2 = .ok (.iload_n 1, 1) := by decide +kernel
theorem dX12_getSpeaker_3 : decode cX12_getSpeaker 3 = .ok (.invokevirtual 240, 3) := by decide +kernel
theorem dX12_getSpeaker_6 : decode cX12_getSpeaker 6 = .ok (.iconst 1, 1) := by decide +kernel
theorem dX12_getSpeaker_7 : decode cX12_getSpeaker 7 = .ok (.invokevirtual 191, 3) := by decide +kernel
theorem dX12_getSpeaker_10 : decode cX12_getSpeaker 10 = .ok (.ifCond .ne 25, 3) := by decide +kernel
theorem dX12_getSpeaker_35 : decode cX12_getSpeaker 35 = .ok (.iconst 0, 1) := by decide +kernel
theorem dX12_getSpeaker_36 : decode cX12_getSpeaker 36 = .ok (.goto 9, 3) := by decide +kernel
theorem dX12_getSpeaker_45 : decode cX12_getSpeaker 45 = .ok (.ireturn, 1) := by decide +kernel
theorem dX12_isMutiny_0 : decode cX12_isMutiny 0 = .ok (.aload_n 0, 1) := by decide +kernel
theorem dX12_isMutiny_1 : decode cX12_isMutiny 1 = .ok (.aload_n 0, 1) := by decide +kernel
theorem dX12_isMutiny_2 : decode cX12_isMutiny 2 = .ok (.iload_n 1, 1) := by decide +kernel
theorem dX12_isMutiny_3 : decode cX12_isMutiny 3 = .ok (.invokevirtual 240, 3) := by decide +kernel
theorem dX12_isMutiny_6 : decode cX12_isMutiny 6 = .ok (.iconst 1, 1) := by decide +kernel
theorem dX12_isMutiny_7 : decode cX12_isMutiny 7 = .ok (.invokevirtual 191, 3) := by decide +kernel
theorem dX12_isMutiny_10 : decode cX12_isMutiny 10 = .ok (.ifCond .ne 16, 3) := by decide +kernel
theorem dX12_isMutiny_26 : decode cX12_isMutiny 26 = .ok (.iconst 0, 1) := by decide +kernel
theorem dX12_isMutiny_27 : decode cX12_isMutiny 27 = .ok (.ireturn, 1) := by decide +kernel
theorem dX12_sell_0 : decode cX12_sell 0 = .ok (.aload_n 0, 1) := by decide +kernel
theorem dX12_sell_1 : decode cX12_sell 1 = .ok (.aload_n 0, 1) := by decide +kernel
theorem dX12_sell_2 : decode cX12_sell 2 = .ok (.iload_n 1, 1) := by decide +kernel
theorem dX12_sell_3 : decode cX12_sell 3 = .ok (.invokevirtual 240, 3) := by decide +kernel
theorem dX12_sell_6 : decode cX12_sell 6 = .ok (.iconst 1, 1) := by decide +kernel
theorem dX12_sell_7 : decode cX12_sell 7 = .ok (.invokevirtual 191, 3) := by decide +kernel
theorem dX12_sell_10 : decode cX12_sell 10 = .ok (.ifCond .ne 26, 3) := by decide +kernel
theorem dX12_sell_36 : decode cX12_sell 36 = .ok (.iconst 0, 1) := by decide +kernel
theorem dX12_sell_37 : decode cX12_sell 37 = .ok (.ireturn, 1) := by decide +kernel
theorem dX12_bank_0 : decode cX12_bank 0 = .ok (.aload_n 0, 1) := by decide +kernel
theorem dX12_bank_1 : decode cX12_bank 1 = .ok (.aload_n 0, 1) := by decide +kernel
theorem dX12_bank_2 : decode cX12_bank 2 = .ok (.iload_n 1, 1) := by decide +kernel
theorem dX12_bank_3 : decode cX12_bank 3 = .ok (.invokevirtual 240, 3) := by decide +kernel
theorem dX12_bank_6 : decode cX12_bank 6 = .ok (.iconst 1, 1) := by decide +kernel
theorem dX12_bank_7 : decode cX12_bank 7 = .ok (.invokevirtual 191, 3) := by decide +kernel
theorem dX12_bank_10 : decode cX12_bank 10 = .ok (.ifCond .eq 5, 3) := by decide +kernel
theorem dX12_bank_13 : decode cX12_bank 13 = .ok (.iconst 0, 1) := by decide +kernel
theorem dX12_bank_14 : decode cX12_bank 14 = .ok (.ireturn, 1) := by decide +kernel
theorem dX12_getEarned_0 : decode cX12_getEarned 0 = .ok (.aload_n 0, 1) := by decide +kernel
theorem dX12_getEarned_1 : decode cX12_getEarned 1 = .ok (.aload_n 0, 1) := by decide +kernel
theorem dX12_getEarned_2 : decode cX12_getEarned 2 = .ok (.iload_n 1, 1) := by decide +kernel
theorem dX12_getEarned_3 : decode cX12_getEarned 3 = .ok (.invokevirtual 240, 3) := by decide +kernel
theorem dX12_getEarned_6 : decode cX12_getEarned 6 = .ok (.iconst 1, 1) := by decide +kernel
theorem dX12_getEarned_7 : decode cX12_getEarned 7 = .ok (.invokevirtual 191, 3) := by decide +kernel
theorem dX12_getEarned_10 : decode cX12_getEarned 10 = .ok (.ifCond .eq 7, 3) := by decide +kernel
theorem dX12_getEarned_13 : decode cX12_getEarned 13 = .ok (.iconst 0, 1) := by decide +kernel
theorem dX12_getEarned_14 : decode cX12_getEarned 14 = .ok (.goto 9, 3) := by decide +kernel
theorem dX12_getEarned_23 : decode cX12_getEarned 23 = .ok (.ireturn, 1) := by decide +kernel
theorem dX12_getMoney_0 : decode cX12_getMoney 0 = .ok (.aload_n 0, 1) := by decide +kernel
theorem dX12_getMoney_1 : decode cX12_getMoney 1 = .ok (.iconst 0, 1) := by decide +kernel
theorem dX12_getMoney_2 : decode cX12_getMoney 2 = .ok (.putfield 163, 3) := by decide +kernel
theorem dX12_getMoney_5 : decode cX12_getMoney 5 = .ok (.aload_n 0, 1) := by decide +kernel
theorem dX12_getMoney_6 : decode cX12_getMoney 6 = .ok (.getfield 254, 3) := by decide +kernel
theorem dX12_getMoney_9 : decode cX12_getMoney 9 = .ok (.ireturn, 1) := by decide +kernel
theorem dX12_getEvidence_0 : decode cX12_getEvidence 0 = .ok (.aload_n 0, 1) := by decide +kernel
theorem dX12_getEvidence_1 : decode cX12_getEvidence 1 = .ok (.aload_n 0, 1) := by decide +kernel
theorem dX12_getEvidence_2 : decode cX12_getEvidence 2 = .ok (.iload_n 1, 1) := by decide +kernel
theorem dX12_getEvidence_3 : decode cX12_getEvidence 3 = .ok (.invokevirtual 195, 3) := by decide +kernel
theorem dX12_getEvidence_6 : decode cX12_getEvidence 6 = .ok (.iconst 1, 1) := by decide +kernel
theorem dX12_getEvidence_7 : decode cX12_getEvidence 7 = .ok (.invokevirtual 191, 3) := by decide +kernel
theorem dX12_getEvidence_10 : decode cX12_getEvidence 10 = .ok (.ifCond .eq 7, 3) := by decide +kernel
theorem dX12_getEvidence_13 : decode cX12_getEvidence 13 = .ok (.iconst 0, 1) := by decide +kernel
theorem dX12_getEvidence_14 : decode cX12_getEvidence 14 = .ok (.goto 9, 3) := by decide +kernel
theorem dX12_getEvidence_23 : decode cX12_getEvidence 23 = .ok (.ireturn, 1) := by decide +kernel
theorem dX12_raid_0 : decode cX12_raid 0 = .ok (.aload_n 0, 1) := by decide +kernel
theorem dX12_raid_1 : decode cX12_raid 1 = .ok (.aload_n 0, 1) := by decide +kernel
theorem dX12_raid_2 : decode cX12_raid 2 = .ok (.iload_n 1, 1) := by decide +kernel
theorem dX12_raid_3 : decode cX12_raid 3 = .ok (.invokevirtual 195, 3) := by decide +kernel
theorem dX12_raid_6 : decode cX12_raid 6 = .ok (.ifCond .ne 11, 3) := by decide +kernel
theorem dX12_raid_17 : decode cX12_raid 17 = .ok (.iconst 1, 1) := by decide +kernel
theorem dX12_raid_18 : decode cX12_raid 18 = .ok (.goto 4, 3) := by decide +kernel
theorem dX12_raid_22 : decode cX12_raid 22 = .ok (.iconst 1, 1) := by decide +kernel
theorem dX12_raid_23 : decode cX12_raid 23 = .ok (.invokevirtual 191, 3) := by decide +kernel
theorem dX12_raid_26 : decode cX12_raid 26 = .ok (.ifCond .ne 35, 3) := by decide +kernel
theorem dX12_raid_61 : decode cX12_raid 61 = .ok (.iconst 0, 1) := by decide +kernel
theorem dX12_raid_62 : decode cX12_raid 62 = .ok (.ireturn, 1) := by decide +kernel
