theorem dX11_isTape_0 : decode cX11_isTape 0 = .ok (.iload_n 0, 1) := by decide +kernel
theorem dX11_isTape_1 : decode cX11_isTape 1 = .ok (.bipush 100, 2) := by decide +kernel
theorem dX11_isTape_3 : decode cX11_isTape 3 = .ok (.if_icmp .lt 14, 3) := by decide +kernel
theorem dX11_isTape_6 : decode cX11_isTape 6 = .ok (.iload_n 0, 1) := by decide +kernel
theorem dX11_isTape_7 : decode cX11_isTape 7 = .ok (.sipush 199, 3) := by decide +kernel
theorem dX11_isTape_10 : decode cX11_isTape 10 = .ok (.if_icmp .gt 7, 3) := by decide +kernel
theorem dX11_isTape_13 : decode cX11_isTape 13 = .ok (.iconst 1, 1) := by decide +kernel
theorem dX11_isTape_14 : decode cX11_isTape 14 = .ok (.goto 4, 3) := by decide +kernel
theorem dX11_isTape_17 : decode cX11_isTape 17 = .ok (.iconst 0, 1) := by decide +kernel
theorem dX11_isTape_18 : decode cX11_isTape 18 = .ok (.ireturn, 1) := by decide +kernel
theorem dX11_holdOf_0 : decode cX11_holdOf 0 = .ok (.iload_n 0, 1) := by decide +kernel
theorem dX11_holdOf_1 : decode cX11_holdOf 1 = .ok (.bipush 115, 2) := by decide +kernel
theorem dX11_holdOf_3 : decode cX11_holdOf 3 = .ok (.if_icmp .ne 8, 3) := by decide +kernel
theorem dX11_holdOf_6 : decode cX11_holdOf 6 = .ok (.bipush 8, 2) := by decide +kernel
theorem dX11_holdOf_8 : decode cX11_holdOf 8 = .ok (.goto 25, 3) := by decide +kernel
theorem dX11_holdOf_11 : decode cX11_holdOf 11 = .ok (.iload_n 0, 1) := by decide +kernel
theorem dX11_holdOf_12 : decode cX11_holdOf 12 = .ok (.bipush 109, 2) := by decide +kernel
theorem dX11_holdOf_14 : decode cX11_holdOf 14 = .ok (.if_icmp .ne 8, 3) := by decide +kernel
theorem dX11_holdOf_17 : decode cX11_holdOf 17 = .ok (.bipush 6, 2) := by decide +kernel
theorem dX11_holdOf_19 : decode cX11_holdOf 19 = .ok (.goto 14, 3) := by decide +kernel
theorem dX11_holdOf_22 : decode cX11_holdOf 22 = .ok (.iload_n 0, 1) := by decide +kernel
theorem dX11_holdOf_23 : decode cX11_holdOf 23 = .ok (.bipush 114, 2) := by decide +kernel
theorem dX11_holdOf_25 : decode cX11_holdOf 25 = .ok (.if_icmp .ne 7, 3) := by decide +kernel
theorem dX11_holdOf_28 : decode cX11_holdOf 28 = .ok (.iconst 4, 1) := by decide +kernel
theorem dX11_holdOf_29 : decode cX11_holdOf 29 = .ok (.goto 4, 3) := by decide +kernel
theorem dX11_holdOf_32 : decode cX11_holdOf 32 = .ok (.iconst 0, 1) := by decide +kernel
theorem dX11_holdOf_33 : decode cX11_holdOf 33 = .ok (.ireturn, 1) := by decide +kernel
theorem dX11_isNight_0 : decode cX11_isNight 0 = .ok (.iload_n 0, 1) := by decide +kernel
theorem dX11_isNight_1 : decode cX11_isNight 1 = .ok (.bipush 24, 2) := by decide +kernel
theorem dX11_isNight_3 : decode cX11_isNight 3 = .ok (.irem, 1) := by decide +kernel
theorem dX11_isNight_4 : decode cX11_isNight 4 = .ok (.istore_n 1, 1) := by decide +kernel
theorem dX11_isNight_5 : decode cX11_isNight 5 = .ok (.iload_n 1, 1) := by decide +kernel
theorem dX11_isNight_6 : decode cX11_isNight 6 = .ok (.bipush 6, 2) := by decide +kernel
theorem dX11_isNight_8 : decode cX11_isNight 8 = .ok (.if_icmp .lt 9, 3) := by decide +kernel
theorem dX11_isNight_11 : decode cX11_isNight 11 = .ok (.iload_n 1, 1) := by decide +kernel
theorem dX11_isNight_12 : decode cX11_isNight 12 = .ok (.bipush 17, 2) := by decide +kernel
theorem dX11_isNight_14 : decode cX11_isNight 14 = .ok (.if_icmp .le 7, 3) := by decide +kernel
theorem dX11_isNight_17 : decode cX11_isNight 17 = .ok (.iconst 1, 1) := by decide +kernel
theorem dX11_isNight_18 : decode cX11_isNight 18 = .ok (.goto 4, 3) := by decide +kernel
theorem dX11_isNight_21 : decode cX11_isNight 21 = .ok (.iconst 0, 1) := by decide +kernel
theorem dX11_isNight_22 : decode cX11_isNight 22 = .ok (.ireturn, 1) := by decide +kernel
