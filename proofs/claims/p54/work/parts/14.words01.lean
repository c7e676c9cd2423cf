theorem dX11_book_13 : decode cX11_book 13 = .ok (.aload 4, 2) := by decide +kernel
theorem dX11_book_15 : decode cX11_book 15 = .ok (.getfield 227, 3) := by decide +kernel
theorem dX11_book_18 : decode cX11_book 18 = .ok (.iconst (-1), 1) := by decide +kernel
theorem dX11_book_19 : decode cX11_book 19 = .ok (.if_icmp .ne 21, 3) := by decide +kernel
theorem dX11_book_22 : decode cX11_book 22 = .ok (.aload 4, 2) := by decide +kernel
theorem dX11_book_24 : decode cX11_book 24 = .ok (.getfield 242, 3) := by decide +kernel
theorem dX11_book_27 : decode cX11_book 27 = .ok (.iconst (-1), 1) := by decide +kernel
theorem dX11_book_28 : decode cX11_book 28 = .ok (.if_icmp .eq 22, 3) := by decide +kernel
theorem dX11_book_50 : decode cX11_book 50 = .ok (.aload 4, 2) := by decide +kernel
theorem dX11_book_52 : decode cX11_book 52 = .ok (.iload_n 3, 1) := by decide +kernel
theorem dX11_book_53 : decode cX11_book 53 = .ok (.ifCond .eq 7, 3) := by decide +kernel
theorem dX11_book_56 : decode cX11_book 56 = .ok (.iload_n 1, 1) := by decide +kernel
theorem dX11_book_57 : decode cX11_book 57 = .ok (.goto 4, 3) := by decide +kernel
theorem dX11_book_61 : decode cX11_book 61 = .ok (.putfield 242, 3) := by decide +kernel
theorem dX11_book_64 : decode cX11_book 64 = .ok (.aload_n 0, 1) := by decide +kernel
theorem dX11_book_65 : decode cX11_book 65 = .ok (.iload_n 1, 1) := by decide +kernel
theorem dX11_book_66 : decode cX11_book 66 = .ok (.invokevirtual 247, 3) := by decide +kernel
theorem dX11_book_69 : decode cX11_book 69 = .ok (.ireturn, 1) := by decide +kernel
theorem dX11_send_0 : decode cX11_send 0 = .ok (.aload_n 0, 1) := by decide +kernel
theorem dX11_send_1 : decode cX11_send 1 = .ok (.iload_n 1, 1) := by decide +kernel
theorem dX11_send_2 : decode cX11_send 2 = .ok (.invokevirtual 59, 3) := by decide +kernel
theorem dX11_send_5 : decode cX11_send 5 = .ok (.astore 4, 2) := by decide +kernel
theorem dX11_send_7 : decode cX11_send 7 = .ok (.aload_n 0, 1) := by decide +kernel
theorem dX11_send_8 : decode cX11_send 8 = .ok (.iload_n 2, 1) := by decide +kernel
theorem dX11_send_9 : decode cX11_send 9 = .ok (.invokevirtual 106, 3) := by decide +kernel
theorem dX11_send_12 : decode cX11_send 12 = .ok (.astore 5, 2) := by decide +kernel
theorem dX11_send_14 : decode cX11_send 14 = .ok (.aload_n 0, 1) := by decide +kernel
theorem dX11_send_15 : decode cX11_send 15 = .ok (.getfield 85, 3) := by decide +kernel
theorem dX11_send_18 : decode cX11_send 18 = .ok (.bipush 7, 2) := by decide +kernel
theorem dX11_send_20 : decode cX11_send 20 = .ok (.if_icmp .le 13, 3) := by decide +kernel
theorem dX11_send_33 : decode cX11_send 33 = .ok (.aload_n 0, 1) := by decide +kernel
theorem dX11_send_34 : decode cX11_send 34 = .ok (.dup, 1) := by decide +kernel
theorem dX11_send_35 : decode cX11_send 35 = .ok (.getfield 157, 3) := by decide +kernel
theorem dX11_send_38 : decode cX11_send 38 = .ok (.aload 4, 2) := by decide +kernel
theorem dX11_send_40 : decode cX11_send 40 = .ok (.invokevirtual 239, 3) := by decide +kernel
theorem dX11_send_43 : decode cX11_send 43 = .ok (.isub, 1) := by decide +kernel
theorem dX11_send_44 : decode cX11_send 44 = .ok (.putfield 157, 3) := by decide +kernel
theorem dX11_send_47 : decode cX11_send 47 = .ok (.aload_n 0, 1) := by decide +kernel
theorem dX11_send_48 : decode cX11_send 48 = .ok (.iload_n 1, 1) := by decide +kernel
theorem dX11_send_49 : decode cX11_send 49 = .ok (.aload_n 0, 1) := by decide +kernel
theorem dX11_send_50 : decode cX11_send 50 = .ok (.aload 5, 2) := by decide +kernel
theorem dX11_send_52 : decode cX11_send 52 = .ok (.invokevirtual 116, 3) := by decide +kernel
theorem dX11_send_55 : decode cX11_send 55 = .ok (.iconst 1, 1) := by decide +kernel
theorem dX11_send_56 : decode cX11_send 56 = .ok (.invokevirtual 252, 3) := by decide +kernel
theorem dX11_send_59 : decode cX11_send 59 = .ok (.iload_n 3, 1) := by decide +kernel
theorem dX11_send_60 : decode cX11_send 60 = .ok (.ifCond .eq 8, 3) := by decide +kernel
theorem dX11_send_68 : decode cX11_send 68 = .ok (.aload_n 0, 1) := by decide +kernel
theorem dX11_send_69 : decode cX11_send 69 = .ok (.iload_n 1, 1) := by decide +kernel
theorem dX11_send_70 : decode cX11_send 70 = .ok (.iload_n 2, 1) := by decide +kernel
theorem dX11_send_71 : decode cX11_send 71 = .ok (.invokevirtual 259, 3) := by decide +kernel
theorem dX11_send_74 : decode cX11_send 74 = .ok (.aload 4, 2) := by decide +kernel
theorem dX11_send_76 : decode cX11_send 76 = .ok (.aload 5, 2) := by decide +kernel
theorem dX11_send_78 : decode cX11_send 78 = .ok (.invokevirtual 262, 3) := by decide +kernel
theorem dX11_send_81 : decode cX11_send 81 = .ok (.aload 5, 2) := by decide +kernel
theorem dX11_send_83 : decode cX11_send 83 = .ok (.iconst 0, 1) := by decide +kernel
theorem dX11_send_84 : decode cX11_send 84 = .ok (.putfield 266, 3) := by decide +kernel
theorem dX11_send_87 : decode cX11_send 87 = .ok (.aload_n 0, 1) := by decide +kernel
theorem dX11_send_88 : decode cX11_send 88 = .ok (.getfield 157, 3) := by decide +kernel
theorem dX11_send_91 : decode cX11_send 91 = .ok (.ireturn, 1) := by decide +kernel
theorem dX11_sell_0 : decode cX11_sell 0 = .ok (.aload_n 0, 1) := by decide +kernel
theorem dX11_sell_1 : decode cX11_sell 1 = .ok (.iload_n 1, 1) := by decide +kernel
theorem dX11_sell_2 : decode cX11_sell 2 = .ok (.invokevirtual 106, 3) := by decide +kernel
theorem dX11_sell_5 : decode cX11_sell 5 = .ok (.astore_n 3, 1) := by decide +kernel
theorem dX11_sell_6 : decode cX11_sell 6 = .ok (.iload_n 2, 1) := by decide +kernel
theorem dX11_sell_7 : decode cX11_sell 7 = .ok (.iconst 1, 1) := by decide +kernel
theorem dX11_sell_8 : decode cX11_sell 8 = .ok (.bipush 20, 2) := by decide +kernel
theorem dX11_sell_10 : decode cX11_sell 10 = .ok (.invokestatic 40, 3) := by decide +kernel
theorem dX11_sell_13 : decode cX11_sell 13 = .ok (.aload_n 0, 1) := by decide +kernel
theorem dX11_sell_14 : decode cX11_sell 14 = .ok (.getfield 63, 3) := by decide +kernel
theorem dX11_sell_17 : decode cX11_sell 17 = .ok (.bipush 24, 2) := by decide +kernel
theorem dX11_sell_19 : decode cX11_sell 19 = .ok (.idiv, 1) := by decide +kernel
theorem dX11_sell_20 : decode cX11_sell 20 = .ok (.istore 4, 2) := by decide +kernel
theorem dX11_sell_22 : decode cX11_sell 22 = .ok (.aload_n 3, 1) := by decide +kernel
theorem dX11_sell_23 : decode cX11_sell 23 = .ok (.getfield 293, 3) := by decide +kernel
theorem dX11_sell_26 : decode cX11_sell 26 = .ok (.iload 4, 2) := by decide +kernel
theorem dX11_sell_28 : decode cX11_sell 28 = .ok (.invokevirtual 297, 3) := by decide +kernel
theorem dX11_sell_31 : decode cX11_sell 31 = .ok (.iload_n 2, 1) := by decide +kernel
theorem dX11_sell_32 : decode cX11_sell 32 = .ok (.iadd, 1) := by decide +kernel
theorem dX11_sell_33 : decode cX11_sell 33 = .ok (.bipush 20, 2) := by decide +kernel
theorem dX11_sell_35 : decode cX11_sell 35 = .ok (.if_icmp .le 14, 3) := by decide +kernel
theorem dX11_sell_49 : decode cX11_sell 49 = .ok (.aload_n 3, 1) := by decide +kernel
theorem dX11_sell_50 : decode cX11_sell 50 = .ok (.getfield 293, 3) := by decide +kernel
theorem dX11_sell_53 : decode cX11_sell 53 = .ok (.iload 4, 2) := by decide +kernel
theorem dX11_sell_55 : decode cX11_sell 55 = .ok (.iload_n 2, 1) := by decide +kernel
theorem dX11_sell_56 : decode cX11_sell 56 = .ok (.invokevirtual 304, 3) := by decide +kernel
theorem dX11_sell_59 : decode cX11_sell 59 = .ok (.aload_n 3, 1) := by decide +kernel
theorem dX11_sell_60 : decode cX11_sell 60 = .ok (.getfield 293, 3) := by decide +kernel
theorem dX11_sell_63 : decode cX11_sell 63 = .ok (.getfield 307, 3) := by decide +kernel
theorem dX11_sell_66 : decode cX11_sell 66 = .ok (.ireturn, 1) := by decide +kernel
theorem dX11_countBooked_0 : decode cX11_countBooked 0 = .ok (.iconst 0, 1) := by decide +kernel
theorem dX11_countBooked_1 : decode cX11_countBooked 1 = .ok (.istore_n 2, 1) := by decide +kernel
theorem dX11_countBooked_2 : decode cX11_countBooked 2 = .ok (.iconst 0, 1) := by decide +kernel
theorem dX11_countBooked_3 : decode cX11_countBooked 3 = .ok (.istore_n 3, 1) := by decide +kernel
theorem dX11_countBooked_4 : decode cX11_countBooked 4 = .ok (.iload_n 3, 1) := by decide +kernel
theorem dX11_countBooked_5 : decode cX11_countBooked 5 = .ok (.aload_n 0, 1) := by decide +kernel
theorem dX11_countBooked_6 : decode cX11_countBooked 6 = .ok (.getfield 22, 3) := by decide +kernel
theorem dX11_countBooked_9 : decode cX11_countBooked 9 = .ok (.invokevirtual 44, 3) := by decide +kernel
theorem dX11_countBooked_12 : decode cX11_countBooked 12 = .ok (.if_icmp .ge 30, 3) := by decide +kernel
theorem dX11_countBooked_15 : decode cX11_countBooked 15 = .ok (.aload_n 0, 1) := by decide +kernel
theorem dX11_countBooked_16 : decode cX11_countBooked 16 = .ok (.getfield 22, 3) := by decide +kernel
theorem dX11_countBooked_19 : decode cX11_countBooked 19 = .ok (.iload_n 3, 1) := by decide +kernel
theorem dX11_countBooked_20 : decode cX11_countBooked 20 = .ok (.invokevirtual 169, 3) := by decide +kernel
theorem dX11_countBooked_23 : decode cX11_countBooked 23 = .ok (.checkcast 218, 3) := by decide +kernel
theorem dX11_countBooked_26 : decode cX11_countBooked 26 = .ok (.getfield 242, 3) := by decide +kernel
theorem dX11_countBooked_29 : decode cX11_countBooked 29 = .ok (.iload_n 1, 1) := by decide +kernel
theorem dX11_countBooked_30 : decode cX11_countBooked 30 = .ok (.if_icmp .ne 6, 3) := by decide +kernel
theorem dX11_countBooked_33 : decode cX11_countBooked 33 = .ok (.iinc 2 1, 3) := by decide +kernel
theorem dX11_countBooked_36 : decode cX11_countBooked 36 = .ok (.iinc 3 1, 3) := by decide +kernel
theorem dX11_countBooked_39 : decode cX11_countBooked 39 = .ok (.goto (-35), 3) := by decide +kernel
theorem dX11_countBooked_42 : decode cX11_countBooked 42 = .ok (.iload_n 2, 1) := by decide +kernel
theorem dX11_countBooked_43 : decode cX11_countBooked 43 = .ok (.ireturn, 1) := by decide +kernel
theorem dX11_takeBookedAboard_0 : decode cX11_takeBookedAboard 0 = .ok (.iconst 0, 1) := by decide +kernel
theorem dX11_takeBookedAboard_1 : decode cX11_takeBookedAboard 1 = .ok (.istore_n 3, 1) := by decide +kernel
theorem dX11_takeBookedAboard_2 : decode cX11_takeBookedAboard 2 = .ok (.iload_n 3, 1) := by decide +kernel
theorem dX11_takeBookedAboard_3 : decode cX11_takeBookedAboard 3 = .ok (.aload_n 0, 1) := by decide +kernel
theorem dX11_takeBookedAboard_4 : decode cX11_takeBookedAboard 4 = .ok (.getfield 22, 3) := by decide +kernel
theorem dX11_takeBookedAboard_7 : decode cX11_takeBookedAboard 7 = .ok (.invokevirtual 44, 3) := by decide +kernel
theorem dX11_takeBookedAboard_10 : decode cX11_takeBookedAboard 10 = .ok (.if_icmp .ge 37, 3) := by decide +kernel
theorem dX11_takeBookedAboard_13 : decode cX11_takeBookedAboard 13 = .ok (.aload_n 0, 1) := by decide +kernel
theorem dX11_takeBookedAboard_14 : decode cX11_takeBookedAboard 14 = .ok (.getfield 22, 3) := by decide +kernel
theorem dX11_takeBookedAboard_17 : decode cX11_takeBookedAboard 17 = .ok (.iload_n 3, 1) := by decide +kernel
theorem dX11_takeBookedAboard_18 : decode cX11_takeBookedAboard 18 = .ok (.invokevirtual 169, 3) := by decide +kernel
theorem dX11_takeBookedAboard_21 : decode cX11_takeBookedAboard 21 = .ok (.checkcast 218, 3) := by decide +kernel
theorem dX11_takeBookedAboard_24 : decode cX11_takeBookedAboard 24 = .ok (.astore 4, 2) := by decide +kernel
theorem dX11_takeBookedAboard_26 : decode cX11_takeBookedAboard 26 = .ok (.aload 4, 2) := by decide +kernel
theorem dX11_takeBookedAboard_28 : decode cX11_takeBookedAboard 28 = .ok (.getfield 242, 3) := by decide +kernel
theorem dX11_takeBookedAboard_31 : decode cX11_takeBookedAboard 31 = .ok (.iload_n 1, 1) := by decide +kernel
theorem dX11_takeBookedAboard_32 : decode cX11_takeBookedAboard 32 = .ok (.if_icmp .ne 9, 3) := by decide +kernel
theorem dX11_takeBookedAboard_35 : decode cX11_takeBookedAboard 35 = .ok (.aload 4, 2) := by decide +kernel
theorem dX11_takeBookedAboard_37 : decode cX11_takeBookedAboard 37 = .ok (.iload_n 2, 1) := by decide +kernel
theorem dX11_takeBookedAboard_38 : decode cX11_takeBookedAboard 38 = .ok (.invokevirtual 555, 3) := by decide +kernel
theorem dX11_takeBookedAboard_41 : decode cX11_takeBookedAboard 41 = .ok (.iinc 3 1, 3) := by decide +kernel
theorem dX11_takeBookedAboard_44 : decode cX11_takeBookedAboard 44 = .ok (.goto (-42), 3) := by decide +kernel
theorem dX11_takeBookedAboard_47 : decode cX11_takeBookedAboard 47 = .ok (.return_, 1) := by decide +kernel
