theorem dL_pass_14 : decode cL_pass 14 = .ok (.ireturn, 1) := by decide +kernel
theorem dL_pass_15 : decode cL_pass 15 = .ok (.iconst 0, 1) := by decide +kernel
theorem dL_pass_16 : decode cL_pass 16 = .ok (.ireturn, 1) := by decide +kernel
theorem dL_addShip_0 : decode cL_addShip 0 = .ok (.aload_n 3, 1) := by decide +kernel
theorem dL_addShip_1 : decode cL_addShip 1 = .ok (.iconst 0, 1) := by decide +kernel
theorem dL_addShip_2 : decode cL_addShip 2 = .ok (.aload_n 0, 1) := by decide +kernel
theorem dL_addShip_3 : decode cL_addShip 3 = .ok (.iload_n 1, 1) := by decide +kernel
theorem dL_addShip_4 : decode cL_addShip 4 = .ok (.iload_n 2, 1) := by decide +kernel
theorem dL_addShip_5 : decode cL_addShip 5 = .ok (.invokevirtual 41, 3) := by decide +kernel
theorem dL_addShip_8 : decode cL_addShip 8 = .ok (.i2l, 1) := by decide +kernel
theorem dL_addShip_9 : decode cL_addShip 9 = .ok (.lastore, 1) := by decide +kernel
theorem dL_addShip_10 : decode cL_addShip 10 = .ok (.goto 11, 3) := by decide +kernel
theorem dL_addShip_13 : decode cL_addShip 13 = .ok (.astore 4, 2) := by decide +kernel
theorem dL_addShip_15 : decode cL_addShip 15 = .ok (.iconst 1, 1) := by decide +kernel
theorem dL_addShip_16 : decode cL_addShip 16 = .ok (.ireturn, 1) := by decide +kernel
theorem dL_addShip_21 : decode cL_addShip 21 = .ok (.iconst 0, 1) := by decide +kernel
theorem dL_addShip_22 : decode cL_addShip 22 = .ok (.ireturn, 1) := by decide +kernel
theorem dL_getPlace_0 : decode cL_getPlace 0 = .ok (.aload_n 3, 1) := by decide +kernel
theorem dL_getPlace_1 : decode cL_getPlace 1 = .ok (.iconst 0, 1) := by decide +kernel
theorem dL_getPlace_2 : decode cL_getPlace 2 = .ok (.aload_n 0, 1) := by decide +kernel
theorem dL_getPlace_3 : decode cL_getPlace 3 = .ok (.iload_n 1, 1) := by decide +kernel
theorem dL_getPlace_4 : decode cL_getPlace 4 = .ok (.iload_n 2, 1) := by decide +kernel
theorem dL_getPlace_5 : decode cL_getPlace 5 = .ok (.invokevirtual 44, 3) := by decide +kernel
theorem dL_getPlace_13 : decode cL_getPlace 13 = .ok (.astore 4, 2) := by decide +kernel
theorem dL_getPlace_15 : decode cL_getPlace 15 = .ok (.iconst 1, 1) := by decide +kernel
theorem dL_getPlace_16 : decode cL_getPlace 16 = .ok (.ireturn, 1) := by decide +kernel
theorem dL_getInside_0 : decode cL_getInside 0 = .ok (.aload_n 2, 1) := by decide +kernel
theorem dL_getInside_1 : decode cL_getInside 1 = .ok (.iconst 0, 1) := by decide +kernel
theorem dL_getInside_2 : decode cL_getInside 2 = .ok (.aload_n 0, 1) := by decide +kernel
theorem dL_getInside_3 : decode cL_getInside 3 = .ok (.iload_n 1, 1) := by decide +kernel
theorem dL_getInside_4 : decode cL_getInside 4 = .ok (.invokevirtual 48, 3) := by decide +kernel
theorem dL_getInside_12 : decode cL_getInside 12 = .ok (.astore_n 3, 1) := by decide +kernel
theorem dL_getInside_13 : decode cL_getInside 13 = .ok (.iconst 1, 1) := by decide +kernel
theorem dL_getInside_14 : decode cL_getInside 14 = .ok (.ireturn, 1) := by decide +kernel
theorem dL_anchor_0 : decode cL_anchor 0 = .ok (.aload_n 3, 1) := by decide +kernel
theorem dL_anchor_1 : decode cL_anchor 1 = .ok (.iconst 0, 1) := by decide +kernel
theorem dL_anchor_2 : decode cL_anchor 2 = .ok (.aload_n 0, 1) := by decide +kernel
theorem dL_anchor_3 : decode cL_anchor 3 = .ok (.iload_n 1, 1) := by decide +kernel
theorem dL_anchor_4 : decode cL_anchor 4 = .ok (.iload_n 2, 1) := by decide +kernel
theorem dL_anchor_5 : decode cL_anchor 5 = .ok (.invokevirtual 51, 3) := by decide +kernel
theorem dL_anchor_13 : decode cL_anchor 13 = .ok (.astore 4, 2) := by decide +kernel
theorem dL_anchor_15 : decode cL_anchor 15 = .ok (.iconst 1, 1) := by decide +kernel
theorem dL_anchor_16 : decode cL_anchor 16 = .ok (.ireturn, 1) := by decide +kernel
theorem dL_weigh_0 : decode cL_weigh 0 = .ok (.aload_n 2, 1) := by decide +kernel
theorem dL_weigh_1 : decode cL_weigh 1 = .ok (.iconst 0, 1) := by decide +kernel
theorem dL_weigh_2 : decode cL_weigh 2 = .ok (.aload_n 0, 1) := by decide +kernel
theorem dL_weigh_3 : decode cL_weigh 3 = .ok (.iload_n 1, 1) := by decide +kernel
theorem dL_weigh_4 : decode cL_weigh 4 = .ok (.invokevirtual 56, 3) := by decide +kernel
theorem dL_weigh_12 : decode cL_weigh 12 = .ok (.astore_n 3, 1) := by decide +kernel
theorem dL_weigh_13 : decode cL_weigh 13 = .ok (.iconst 1, 1) := by decide +kernel
theorem dL_weigh_14 : decode cL_weigh 14 = .ok (.ireturn, 1) := by decide +kernel
theorem dL_isAground_0 : decode cL_isAground 0 = .ok (.aload_n 2, 1) := by decide +kernel
theorem dL_isAground_1 : decode cL_isAground 1 = .ok (.iconst 0, 1) := by decide +kernel
theorem dL_isAground_2 : decode cL_isAground 2 = .ok (.aload_n 0, 1) := by decide +kernel
theorem dL_isAground_3 : decode cL_isAground 3 = .ok (.iload_n 1, 1) := by decide +kernel
theorem dL_isAground_4 : decode cL_isAground 4 = .ok (.invokevirtual 59, 3) := by decide +kernel
theorem dL_isAground_19 : decode cL_isAground 19 = .ok (.astore_n 3, 1) := by decide +kernel
theorem dL_isAground_20 : decode cL_isAground 20 = .ok (.iconst 1, 1) := by decide +kernel
theorem dL_isAground_21 : decode cL_isAground 21 = .ok (.ireturn, 1) := by decide +kernel
theorem dL_pullOff_0 : decode cL_pullOff 0 = .ok (.aload_n 2, 1) := by decide +kernel
theorem dL_pullOff_1 : decode cL_pullOff 1 = .ok (.iconst 0, 1) := by decide +kernel
theorem dL_pullOff_2 : decode cL_pullOff 2 = .ok (.aload_n 0, 1) := by decide +kernel
theorem dL_pullOff_3 : decode cL_pullOff 3 = .ok (.iload_n 1, 1) := by decide +kernel
theorem dL_pullOff_4 : decode cL_pullOff 4 = .ok (.invokevirtual 63, 3) := by decide +kernel
theorem dL_pullOff_12 : decode cL_pullOff 12 = .ok (.astore_n 3, 1) := by decide +kernel
theorem dL_pullOff_13 : decode cL_pullOff 13 = .ok (.iconst 1, 1) := by decide +kernel
theorem dL_pullOff_14 : decode cL_pullOff 14 = .ok (.ireturn, 1) := by decide +kernel
theorem dL_addGenerator_0 : decode cL_addGenerator 0 = .ok (.aload 4, 2) := by decide +kernel
theorem dL_addGenerator_2 : decode cL_addGenerator 2 = .ok (.iconst 0, 1) := by decide +kernel
theorem dL_addGenerator_3 : decode cL_addGenerator 3 = .ok (.aload_n 0, 1) := by decide +kernel
theorem dL_addGenerator_4 : decode cL_addGenerator 4 = .ok (.iload_n 1, 1) := by decide +kernel
theorem dL_addGenerator_5 : decode cL_addGenerator 5 = .ok (.iload_n 2, 1) := by decide +kernel
theorem dL_addGenerator_6 : decode cL_addGenerator 6 = .ok (.iload_n 3, 1) := by decide +kernel
theorem dL_addGenerator_7 : decode cL_addGenerator 7 = .ok (.invokevirtual 66, 3) := by decide +kernel
theorem dL_addGenerator_15 : decode cL_addGenerator 15 = .ok (.astore 5, 2) := by decide +kernel
theorem dL_addGenerator_17 : decode cL_addGenerator 17 = .ok (.iconst 1, 1) := by decide +kernel
theorem dL_addGenerator_18 : decode cL_addGenerator 18 = .ok (.ireturn, 1) := by decide +kernel
theorem dL_setGenerator_0 : decode cL_setGenerator 0 = .ok (.aload 4, 2) := by decide +kernel
theorem dL_setGenerator_2 : decode cL_setGenerator 2 = .ok (.iconst 0, 1) := by decide +kernel
theorem dL_setGenerator_3 : decode cL_setGenerator 3 = .ok (.aload_n 0, 1) := by decide +kernel
theorem dL_setGenerator_4 : decode cL_setGenerator 4 = .ok (.iload_n 1, 1) := by decide +kernel
theorem dL_setGenerator_5 : decode cL_setGenerator 5 = .ok (.iload_n 2, 1) := by decide +kernel
theorem dL_setGenerator_6 : decode cL_setGenerator 6 = .ok (.iload_n 3, 1) := by decide +kernel
theorem dL_setGenerator_7 : decode cL_setGenerator 7 = .ok (.invokevirtual 69, 3) := by decide +kernel
theorem dL_setGenerator_15 : decode cL_setGenerator 15 = .ok (.astore 5, 2) := by decide +kernel
theorem dL_setGenerator_17 : decode cL_setGenerator 17 = .ok (.iconst 1, 1) := by decide +kernel
theorem dL_setGenerator_18 : decode cL_setGenerator 18 = .ok (.ireturn, 1) := by decide +kernel
theorem dL_getFuel_0 : decode cL_getFuel 0 = .ok (.aload_n 2, 1) := by decide +kernel
theorem dL_getFuel_1 : decode cL_getFuel 1 = .ok (.iconst 0, 1) := by decide +kernel
theorem dL_getFuel_2 : decode cL_getFuel 2 = .ok (.aload_n 0, 1) := by decide +kernel
theorem dL_getFuel_3 : decode cL_getFuel 3 = .ok (.iload_n 1, 1) := by decide +kernel
theorem dL_getFuel_4 : decode cL_getFuel 4 = .ok (.invokevirtual 73, 3) := by decide +kernel
theorem dL_getFuel_12 : decode cL_getFuel 12 = .ok (.astore_n 3, 1) := by decide +kernel
theorem dL_getFuel_13 : decode cL_getFuel 13 = .ok (.iconst 1, 1) := by decide +kernel
theorem dL_getFuel_14 : decode cL_getFuel 14 = .ok (.ireturn, 1) := by decide +kernel
theorem dL_getFood_0 : decode cL_getFood 0 = .ok (.aload_n 2, 1) := by decide +kernel
theorem dL_getFood_1 : decode cL_getFood 1 = .ok (.iconst 0, 1) := by decide +kernel
theorem dL_getFood_2 : decode cL_getFood 2 = .ok (.aload_n 0, 1) := by decide +kernel
theorem dL_getFood_3 : decode cL_getFood 3 = .ok (.iload_n 1, 1) := by decide +kernel
theorem dL_getFood_4 : decode cL_getFood 4 = .ok (.invokevirtual 76, 3) := by decide +kernel
theorem dL_getFood_12 : decode cL_getFood 12 = .ok (.astore_n 3, 1) := by decide +kernel
theorem dL_getFood_13 : decode cL_getFood 13 = .ok (.iconst 1, 1) := by decide +kernel
theorem dL_getFood_14 : decode cL_getFood 14 = .ok (.ireturn, 1) := by decide +kernel
theorem dL_getSalt_0 : decode cL_getSalt 0 = .ok (.aload_n 2, 1) := by decide +kernel
theorem dL_getSalt_1 : decode cL_getSalt 1 = .ok (.iconst 0, 1) := by decide +kernel
theorem dL_getSalt_2 : decode cL_getSalt 2 = .ok (.aload_n 0, 1) := by decide +kernel
theorem dL_getSalt_3 : decode cL_getSalt 3 = .ok (.iload_n 1, 1) := by decide +kernel
theorem dL_getSalt_4 : decode cL_getSalt 4 = .ok (.invokevirtual 79, 3) := by decide +kernel
theorem dL_getSalt_12 : decode cL_getSalt 12 = .ok (.astore_n 3, 1) := by decide +kernel
theorem dL_getSalt_13 : decode cL_getSalt 13 = .ok (.iconst 1, 1) := by decide +kernel
theorem dL_getSalt_14 : decode cL_getSalt 14 = .ok (.ireturn, 1) := by decide +kernel
theorem dL_wash_0 : decode cL_wash 0 = .ok (.aload_n 2, 1) := by decide +kernel
theorem dL_wash_1 : decode cL_wash 1 = .ok (.iconst 0, 1) := by decide +kernel
theorem dL_wash_2 : decode cL_wash 2 = .ok (.aload_n 0, 1) := by decide +kernel
theorem dL_wash_3 : decode cL_wash 3 = .ok (.iload_n 1, 1) := by decide +kernel
theorem dL_wash_4 : decode cL_wash 4 = .ok (.invokevirtual 82, 3) := by decide +kernel
theorem dL_wash_12 : decode cL_wash 12 = .ok (.astore_n 3, 1) := by decide +kernel
theorem dL_wash_13 : decode cL_wash 13 = .ok (.iconst 1, 1) := by decide +kernel
theorem dL_wash_14 : decode cL_wash 14 = .ok (.ireturn, 1) := by decide +kernel
theorem dL_setPower_0 : decode cL_setPower 0 = .ok (.aload_n 3, 1) := by decide +kernel
theorem dL_setPower_1 : decode cL_setPower 1 = .ok (.iconst 0, 1) := by decide +kernel
theorem dL_setPower_2 : decode cL_setPower 2 = .ok (.aload_n 0, 1) := by decide +kernel
theorem dL_setPower_3 : decode cL_setPower 3 = .ok (.iload_n 1, 1) := by decide +kernel
theorem dL_setPower_4 : decode cL_setPower 4 = .ok (.iload_n 2, 1) := by decide +kernel
theorem dL_setPower_5 : decode cL_setPower 5 = .ok (.invokevirtual 85, 3) := by decide +kernel
theorem dL_setPower_13 : decode cL_setPower 13 = .ok (.astore 4, 2) := by decide +kernel
theorem dL_setPower_15 : decode cL_setPower 15 = .ok (.iconst 1, 1) := by decide +kernel
theorem dL_setPower_16 : decode cL_setPower 16 = .ok (.ireturn, 1) := by decide +kernel
theorem dL_getChannel_0 : decode cL_getChannel 0 = .ok (.aload_n 2, 1) := by decide +kernel
theorem dL_getChannel_1 : decode cL_getChannel 1 = .ok (.iconst 0, 1) := by decide +kernel
theorem dL_getChannel_2 : decode cL_getChannel 2 = .ok (.aload_n 0, 1) := by decide +kernel
theorem dL_getChannel_3 : decode cL_getChannel 3 = .ok (.iload_n 1, 1) := by decide +kernel
theorem dL_getChannel_4 : decode cL_getChannel 4 = .ok (.invokevirtual 88, 3) := by decide +kernel
theorem dL_getChannel_12 : decode cL_getChannel 12 = .ok (.astore_n 3, 1) := by decide +kernel
theorem dL_getChannel_13 : decode cL_getChannel 13 = .ok (.iconst 1, 1) := by decide +kernel
theorem dL_getChannel_14 : decode cL_getChannel 14 = .ok (.ireturn, 1) := by decide +kernel
theorem dL_isOnAir_0 : decode cL_isOnAir 0 = .ok (.aload_n 2, 1) := by decide +kernel
theorem dL_isOnAir_1 : decode cL_isOnAir 1 = .ok (.iconst 0, 1) := by decide +kernel
theorem dL_isOnAir_2 : decode cL_isOnAir 2 = .ok (.aload_n 0, 1) := by decide +kernel
theorem dL_isOnAir_3 : decode cL_isOnAir 3 = .ok (.iload_n 1, 1) := by decide +kernel
theorem dL_isOnAir_4 : decode cL_isOnAir 4 = .ok (.invokevirtual 91, 3) := by decide +kernel
theorem dL_isOnAir_19 : decode cL_isOnAir 19 = .ok (.astore_n 3, 1) := by decide +kernel
theorem dL_isOnAir_20 : decode cL_isOnAir 20 = .ok (.iconst 1, 1) := by decide +kernel
theorem dL_isOnAir_21 : decode cL_isOnAir 21 = .ok (.ireturn, 1) := by decide +kernel
theorem dL_getSignal_0 : decode cL_getSignal 0 = .ok (.aload_n 3, 1) := by decide +kernel
theorem dL_getSignal_1 : decode cL_getSignal 1 = .ok (.iconst 0, 1) := by decide +kernel
theorem dL_getSignal_2 : decode cL_getSignal 2 = .ok (.aload_n 0, 1) := by decide +kernel
theorem dL_getSignal_3 : decode cL_getSignal 3 = .ok (.iload_n 1, 1) := by decide +kernel
theorem dL_getSignal_4 : decode cL_getSignal 4 = .ok (.iload_n 2, 1) := by decide +kernel
theorem dL_getSignal_5 : decode cL_getSignal 5 = .ok (.invokevirtual 94, 3) := by decide +kernel
theorem dL_getSignal_13 : decode cL_getSignal 13 = .ok (.astore 4, 2) := by decide +kernel
theorem dL_getSignal_15 : decode cL_getSignal 15 = .ok (.iconst 1, 1) := by decide +kernel
theorem dL_getSignal_16 : decode cL_getSignal 16 = .ok (.ireturn, 1) := by decide +kernel
theorem dL_getHeard_0 : decode cL_getHeard 0 = .ok (.aload_n 2, 1) := by decide +kernel
theorem dL_getHeard_1 : decode cL_getHeard 1 = .ok (.iconst 0, 1) := by decide +kernel
theorem dL_getHeard_2 : decode cL_getHeard 2 = .ok (.aload_n 0, 1) := by decide +kernel
theorem dL_getHeard_3 : decode cL_getHeard 3 = .ok (.iload_n 1, 1) := by decide +kernel
theorem dL_getHeard_4 : decode cL_getHeard 4 = .ok (.invokevirtual 97, 3) := by decide +kernel
theorem dL_getHeard_12 : decode cL_getHeard 12 = .ok (.astore_n 3, 1) := by decide +kernel
theorem dL_getHeard_13 : decode cL_getHeard 13 = .ok (.iconst 1, 1) := by decide +kernel
theorem dL_getHeard_14 : decode cL_getHeard 14 = .ok (.ireturn, 1) := by decide +kernel
theorem dL_getListeners_0 : decode cL_getListeners 0 = .ok (.aload_n 2, 1) := by decide +kernel
theorem dL_getListeners_1 : decode cL_getListeners 1 = .ok (.iconst 0, 1) := by decide +kernel
theorem dL_getListeners_2 : decode cL_getListeners 2 = .ok (.aload_n 0, 1) := by decide +kernel
theorem dL_getListeners_3 : decode cL_getListeners 3 = .ok (.iload_n 1, 1) := by decide +kernel
theorem dL_getListeners_4 : decode cL_getListeners 4 = .ok (.invokevirtual 100, 3) := by decide +kernel
theorem dL_getListeners_12 : decode cL_getListeners 12 = .ok (.astore_n 3, 1) := by decide +kernel
theorem dL_getListeners_13 : decode cL_getListeners 13 = .ok (.iconst 1, 1) := by decide +kernel
theorem dL_getListeners_14 : decode cL_getListeners 14 = .ok (.ireturn, 1) := by decide +kernel
theorem dL_addPerson_0 : decode cL_addPerson 0 = .ok (.aload_n 3, 1) := by decide +kernel
theorem dL_addPerson_1 : decode cL_addPerson 1 = .ok (.iconst 0, 1) := by decide +kernel
theorem dL_addPerson_2 : decode cL_addPerson 2 = .ok (.aload_n 0, 1) := by decide +kernel
theorem dL_addPerson_3 : decode cL_addPerson 3 = .ok (.iload_n 1, 1) := by decide +kernel
theorem dL_addPerson_4 : decode cL_addPerson 4 = .ok (.iload_n 2, 1) := by decide +kernel
theorem dL_addPerson_5 : decode cL_addPerson 5 = .ok (.invokevirtual 103, 3) := by decide +kernel
theorem dL_addPerson_13 : decode cL_addPerson 13 = .ok (.astore 4, 2) := by decide +kernel
theorem dL_addPerson_15 : decode cL_addPerson 15 = .ok (.iconst 1, 1) := by decide +kernel
theorem dL_addPerson_16 : decode cL_addPerson 16 = .ok (.ireturn, 1) := by decide +kernel
theorem dL_getAboard_0 : decode cL_getAboard 0 = .ok (.aload_n 2, 1) := by decide +kernel
theorem dL_getAboard_1 : decode cL_getAboard 1 = .ok (.iconst 0, 1) := by decide +kernel
theorem dL_getAboard_2 : decode cL_getAboard 2 = .ok (.aload_n 0, 1) := by decide +kernel
theorem dL_getAboard_3 : decode cL_getAboard 3 = .ok (.iload_n 1, 1) := by decide +kernel
theorem dL_getAboard_4 : decode cL_getAboard 4 = .ok (.invokevirtual 106, 3) := by decide +kernel
theorem dL_getAboard_12 : decode cL_getAboard 12 = .ok (.astore_n 3, 1) := by decide +kernel
theorem dL_getAboard_13 : decode cL_getAboard 13 = .ok (.iconst 1, 1) := by decide +kernel
theorem dL_getAboard_14 : decode cL_getAboard 14 = .ok (.ireturn, 1) := by decide +kernel
theorem dL_isTired_0 : decode cL_isTired 0 = .ok (.aload_n 2, 1) := by decide +kernel
theorem dL_isTired_1 : decode cL_isTired 1 = .ok (.iconst 0, 1) := by decide +kernel
theorem dL_isTired_2 : decode cL_isTired 2 = .ok (.aload_n 0, 1) := by decide +kernel
theorem dL_isTired_3 : decode cL_isTired 3 = .ok (.iload_n 1, 1) := by decide +kernel
theorem dL_isTired_4 : decode cL_isTired 4 = .ok (.invokevirtual 109, 3) := by decide +kernel
theorem dL_isTired_19 : decode cL_isTired 19 = .ok (.astore_n 3, 1) := by decide +kernel
theorem dL_isTired_20 : decode cL_isTired 20 = .ok (.iconst 1, 1) := by decide +kernel
theorem dL_isTired_21 : decode cL_isTired 21 = .ok (.ireturn, 1) := by decide +kernel
theorem dL_load_0 : decode cL_load 0 = .ok (.aload 5, 2) := by decide +kernel
theorem dL_load_2 : decode cL_load 2 = .ok (.iconst 0, 1) := by decide +kernel
theorem dL_load_3 : decode cL_load 3 = .ok (.aload_n 0, 1) := by decide +kernel
theorem dL_load_4 : decode cL_load 4 = .ok (.iload_n 1, 1) := by decide +kernel
theorem dL_load_5 : decode cL_load 5 = .ok (.iload_n 2, 1) := by decide +kernel
theorem dL_load_6 : decode cL_load 6 = .ok (.iload_n 3, 1) := by decide +kernel
theorem dL_load_7 : decode cL_load 7 = .ok (.iload 4, 2) := by decide +kernel
theorem dL_load_9 : decode cL_load 9 = .ok (.invokevirtual 112, 3) := by decide +kernel
theorem dL_load_17 : decode cL_load 17 = .ok (.astore 6, 2) := by decide +kernel
theorem dL_load_19 : decode cL_load 19 = .ok (.iconst 1, 1) := by decide +kernel
theorem dL_load_20 : decode cL_load 20 = .ok (.ireturn, 1) := by decide +kernel
theorem dL_book_0 : decode cL_book 0 = .ok (.aload 4, 2) := by decide +kernel
theorem dL_book_2 : decode cL_book 2 = .ok (.iconst 0, 1) := by decide +kernel
theorem dL_book_3 : decode cL_book 3 = .ok (.aload_n 0, 1) := by decide +kernel
theorem dL_book_4 : decode cL_book 4 = .ok (.iload_n 1, 1) := by decide +kernel
theorem dL_book_5 : decode cL_book 5 = .ok (.iload_n 2, 1) := by decide +kernel
theorem dL_book_6 : decode cL_book 6 = .ok (.iload_n 3, 1) := by decide +kernel
theorem dL_book_7 : decode cL_book 7 = .ok (.invokevirtual 115, 3) := by decide +kernel
theorem dL_book_15 : decode cL_book 15 = .ok (.astore 5, 2) := by decide +kernel
theorem dL_book_17 : decode cL_book 17 = .ok (.iconst 1, 1) := by decide +kernel
theorem dL_book_18 : decode cL_book 18 = .ok (.ireturn, 1) := by decide +kernel
theorem dL_send_0 : decode cL_send 0 = .ok (.aload 4, 2) := by decide +kernel
theorem dL_send_2 : decode cL_send 2 = .ok (.iconst 0, 1) := by decide +kernel
theorem dL_send_3 : decode cL_send 3 = .ok (.aload_n 0, 1) := by decide +kernel
theorem dL_send_4 : decode cL_send 4 = .ok (.iload_n 1, 1) := by decide +kernel
theorem dL_send_5 : decode cL_send 5 = .ok (.iload_n 2, 1) := by decide +kernel
theorem dL_send_6 : decode cL_send 6 = .ok (.iload_n 3, 1) := by decide +kernel
theorem dL_send_7 : decode cL_send 7 = .ok (.invokevirtual 118, 3) := by decide +kernel
theorem dL_send_15 : decode cL_send 15 = .ok (.astore 5, 2) := by decide +kernel
theorem dL_send_17 : decode cL_send 17 = .ok (.iconst 1, 1) := by decide +kernel
theorem dL_send_18 : decode cL_send 18 = .ok (.ireturn, 1) := by decide +kernel
theorem dL_plan_0 : decode cL_plan 0 = .ok (.aload 4, 2) := by decide +kernel
theorem dL_plan_2 : decode cL_plan 2 = .ok (.iconst 0, 1) := by decide +kernel
theorem dL_plan_3 : decode cL_plan 3 = .ok (.aload_n 0, 1) := by decide +kernel
theorem dL_plan_4 : decode cL_plan 4 = .ok (.iload_n 1, 1) := by decide +kernel
theorem dL_plan_5 : decode cL_plan 5 = .ok (.iload_n 2, 1) := by decide +kernel
theorem dL_plan_6 : decode cL_plan 6 = .ok (.iload_n 3, 1) := by decide +kernel
theorem dL_plan_7 : decode cL_plan 7 = .ok (.invokevirtual 121, 3) := by decide +kernel
theorem dL_plan_15 : decode cL_plan 15 = .ok (.astore 5, 2) := by decide +kernel
theorem dL_plan_17 : decode cL_plan 17 = .ok (.iconst 1, 1) := by decide +kernel
theorem dL_plan_18 : decode cL_plan 18 = .ok (.ireturn, 1) := by decide +kernel
theorem dL_getSpeaker_0 : decode cL_getSpeaker 0 = .ok (.aload_n 2, 1) := by decide +kernel
theorem dL_getSpeaker_1 : decode cL_getSpeaker 1 = .ok (.iconst 0, 1) := by decide +kernel
theorem dL_getSpeaker_2 : decode cL_getSpeaker 2 = .ok (.aload_n 0, 1) := by decide +kernel
theorem dL_getSpeaker_3 : decode cL_getSpeaker 3 = .ok (.iload_n 1, 1) := by decide +kernel
theorem dL_getSpeaker_4 : decode cL_getSpeaker 4 = .ok (.invokevirtual 124, 3) := by decide +kernel
theorem dL_getSpeaker_12 : decode cL_getSpeaker 12 = .ok (.astore_n 3, 1) := by decide +kernel
theorem dL_getSpeaker_13 : decode cL_getSpeaker 13 = .ok (.iconst 1, 1) := by decide +kernel
theorem dL_getSpeaker_14 : decode cL_getSpeaker 14 = .ok (.ireturn, 1) := by decide +kernel
theorem dL_isMutiny_0 : decode cL_isMutiny 0 = .ok (.aload_n 2, 1) := by decide +kernel
theorem dL_isMutiny_1 : decode cL_isMutiny 1 = .ok (.iconst 0, 1) := by decide +kernel
theorem dL_isMutiny_2 : decode cL_isMutiny 2 = .ok (.aload_n 0, 1) := by decide +kernel
theorem dL_isMutiny_3 : decode cL_isMutiny 3 = .ok (.iload_n 1, 1) := by decide +kernel
theorem dL_isMutiny_4 : decode cL_isMutiny 4 = .ok (.invokevirtual 129, 3) := by decide +kernel
theorem dL_isMutiny_19 : decode cL_isMutiny 19 = .ok (.astore_n 3, 1) := by decide +kernel
theorem dL_isMutiny_20 : decode cL_isMutiny 20 = .ok (.iconst 1, 1) := by decide +kernel
theorem dL_isMutiny_21 : decode cL_isMutiny 21 = .ok (.ireturn, 1) := by decide +kernel
theorem dL_sell_0 : decode cL_sell 0 = .ok (.aload_n 3, 1) := by decide +kernel
theorem dL_sell_1 : decode cL_sell 1 = .ok (.iconst 0, 1) := by decide +kernel
theorem dL_sell_2 : decode cL_sell 2 = .ok (.aload_n 0, 1) := by decide +kernel
theorem dL_sell_3 : decode cL_sell 3 = .ok (.iload_n 1, 1) := by decide +kernel
theorem dL_sell_4 : decode cL_sell 4 = .ok (.iload_n 2, 1) := by decide +kernel
theorem dL_sell_5 : decode cL_sell 5 = .ok (.invokevirtual 132, 3) := by decide +kernel
theorem dL_sell_13 : decode cL_sell 13 = .ok (.astore 4, 2) := by decide +kernel
theorem dL_sell_15 : decode cL_sell 15 = .ok (.iconst 1, 1) := by decide +kernel
theorem dL_sell_16 : decode cL_sell 16 = .ok (.ireturn, 1) := by decide +kernel
theorem dL_bank_0 : decode cL_bank 0 = .ok (.aload_n 2, 1) := by decide +kernel
theorem dL_bank_1 : decode cL_bank 1 = .ok (.iconst 0, 1) := by decide +kernel
theorem dL_bank_2 : decode cL_bank 2 = .ok (.aload_n 0, 1) := by decide +kernel
theorem dL_bank_3 : decode cL_bank 3 = .ok (.iload_n 1, 1) := by decide +kernel
theorem dL_bank_4 : decode cL_bank 4 = .ok (.invokevirtual 135, 3) := by decide +kernel
theorem dL_bank_12 : decode cL_bank 12 = .ok (.astore_n 3, 1) := by decide +kernel
theorem dL_bank_13 : decode cL_bank 13 = .ok (.iconst 1, 1) := by decide +kernel
theorem dL_bank_14 : decode cL_bank 14 = .ok (.ireturn, 1) := by decide +kernel
theorem dL_getEarned_0 : decode cL_getEarned 0 = .ok (.aload_n 2, 1) := by decide +kernel
theorem dL_getEarned_1 : decode cL_getEarned 1 = .ok (.iconst 0, 1) := by decide +kernel
theorem dL_getEarned_2 : decode cL_getEarned 2 = .ok (.aload_n 0, 1) := by decide +kernel
theorem dL_getEarned_3 : decode cL_getEarned 3 = .ok (.iload_n 1, 1) := by decide +kernel
theorem dL_getEarned_4 : decode cL_getEarned 4 = .ok (.invokevirtual 138, 3) := by decide +kernel
theorem dL_getEarned_12 : decode cL_getEarned 12 = .ok (.astore_n 3, 1) := by decide +kernel
theorem dL_getEarned_13 : decode cL_getEarned 13 = .ok (.iconst 1, 1) := by decide +kernel
theorem dL_getEarned_14 : decode cL_getEarned 14 = .ok (.ireturn, 1) := by decide +kernel
theorem dL_getEvidence_0 : decode cL_getEvidence 0 = .ok (.aload_n 2, 1) := by decide +kernel
theorem dL_getEvidence_1 : decode cL_getEvidence 1 = .ok (.iconst 0, 1) := by decide +kernel
theorem dL_getEvidence_2 : decode cL_getEvidence 2 = .ok (.aload_n 0, 1) := by decide +kernel
theorem dL_getEvidence_3 : decode cL_getEvidence 3 = .ok (.iload_n 1, 1) := by decide +kernel
theorem dL_getEvidence_4 : decode cL_getEvidence 4 = .ok (.invokevirtual 141, 3) := by decide +kernel
theorem dL_getEvidence_12 : decode cL_getEvidence 12 = .ok (.astore_n 3, 1) := by decide +kernel
theorem dL_getEvidence_13 : decode cL_getEvidence 13 = .ok (.iconst 1, 1) := by decide +kernel
theorem dL_getEvidence_14 : decode cL_getEvidence 14 = .ok (.ireturn, 1) := by decide +kernel
theorem dL_raid_0 : decode cL_raid 0 = .ok (.aload_n 3, 1) := by decide +kernel
theorem dL_raid_1 : decode cL_raid 1 = .ok (.iconst 0, 1) := by decide +kernel
theorem dL_raid_2 : decode cL_raid 2 = .ok (.aload_n 0, 1) := by decide +kernel
theorem dL_raid_3 : decode cL_raid 3 = .ok (.iload_n 1, 1) := by decide +kernel
theorem dL_raid_4 : decode cL_raid 4 = .ok (.iload_n 2, 1) := by decide +kernel
theorem dL_raid_5 : decode cL_raid 5 = .ok (.invokevirtual 144, 3) := by decide +kernel
theorem dL_raid_13 : decode cL_raid 13 = .ok (.astore 4, 2) := by decide +kernel
theorem dL_raid_15 : decode cL_raid 15 = .ok (.iconst 1, 1) := by decide +kernel
theorem dL_raid_16 : decode cL_raid 16 = .ok (.ireturn, 1) := by decide +kernel
theorem dL_board_0 : decode cL_board 0 = .ok (.aload_n 3, 1) := by decide +kernel
theorem dL_board_1 : decode cL_board 1 = .ok (.iconst 0, 1) := by decide +kernel
theorem dL_board_2 : decode cL_board 2 = .ok (.aload_n 0, 1) := by decide +kernel
theorem dL_board_3 : decode cL_board 3 = .ok (.iload_n 1, 1) := by decide +kernel
theorem dL_board_4 : decode cL_board 4 = .ok (.iload_n 2, 1) := by decide +kernel
theorem dL_board_5 : decode cL_board 5 = .ok (.invokevirtual 147, 3) := by decide +kernel
theorem dL_board_20 : decode cL_board 20 = .ok (.astore 4, 2) := by decide +kernel
theorem dL_board_22 : decode cL_board 22 = .ok (.iconst 1, 1) := by decide +kernel
theorem dL_board_23 : decode cL_board 23 = .ok (.ireturn, 1) := by decide +kernel
theorem dL_addRecording_0 : decode cL_addRecording 0 = .ok (.aload 4, 2) := by decide +kernel
theorem dL_addRecording_2 : decode cL_addRecording 2 = .ok (.iconst 0, 1) := by decide +kernel
theorem dL_addRecording_3 : decode cL_addRecording 3 = .ok (.aload_n 0, 1) := by decide +kernel
theorem dL_addRecording_4 : decode cL_addRecording 4 = .ok (.iload_n 1, 1) := by decide +kernel
theorem dL_addRecording_5 : decode cL_addRecording 5 = .ok (.iload_n 2, 1) := by decide +kernel
theorem dL_addRecording_6 : decode cL_addRecording 6 = .ok (.iload_n 3, 1) := by decide +kernel
theorem dL_addRecording_7 : decode cL_addRecording 7 = .ok (.invokevirtual 151, 3) := by decide +kernel
theorem dL_addRecording_10 : decode cL_addRecording 10 = .ok (.i2l, 1) := by decide +kernel
theorem dL_addRecording_11 : decode cL_addRecording 11 = .ok (.lastore, 1) := by decide +kernel
theorem dL_addRecording_12 : decode cL_addRecording 12 = .ok (.goto 11, 3) := by decide +kernel
theorem dL_addRecording_15 : decode cL_addRecording 15 = .ok (.astore 5, 2) := by decide +kernel
theorem dL_addRecording_17 : decode cL_addRecording 17 = .ok (.iconst 1, 1) := by decide +kernel
theorem dL_addRecording_18 : decode cL_addRecording 18 = .ok (.ireturn, 1) := by decide +kernel
theorem dL_addRecording_23 : decode cL_addRecording 23 = .ok (.iconst 0, 1) := by decide +kernel
theorem dL_addRecording_24 : decode cL_addRecording 24 = .ok (.ireturn, 1) := by decide +kernel
theorem dL_addAhead_0 : decode cL_addAhead 0 = .ok (.aload_n 3, 1) := by decide +kernel
theorem dL_addAhead_1 : decode cL_addAhead 1 = .ok (.iconst 0, 1) := by decide +kernel
theorem dL_addAhead_2 : decode cL_addAhead 2 = .ok (.aload_n 0, 1) := by decide +kernel
theorem dL_addAhead_3 : decode cL_addAhead 3 = .ok (.iload_n 1, 1) := by decide +kernel
theorem dL_addAhead_4 : decode cL_addAhead 4 = .ok (.iload_n 2, 1) := by decide +kernel
theorem dL_addAhead_5 : decode cL_addAhead 5 = .ok (.invokevirtual 154, 3) := by decide +kernel
theorem dL_addAhead_13 : decode cL_addAhead 13 = .ok (.astore 4, 2) := by decide +kernel
theorem dL_addAhead_15 : decode cL_addAhead 15 = .ok (.iconst 1, 1) := by decide +kernel
theorem dL_addAhead_16 : decode cL_addAhead 16 = .ok (.ireturn, 1) := by decide +kernel
theorem dL_getChoices_0 : decode cL_getChoices 0 = .ok (.aload_n 2, 1) := by decide +kernel
theorem dL_getChoices_1 : decode cL_getChoices 1 = .ok (.iconst 0, 1) := by decide +kernel
theorem dL_getChoices_2 : decode cL_getChoices 2 = .ok (.aload_n 0, 1) := by decide +kernel
theorem dL_getChoices_3 : decode cL_getChoices 3 = .ok (.iload_n 1, 1) := by decide +kernel
theorem dL_getChoices_4 : decode cL_getChoices 4 = .ok (.invokevirtual 157, 3) := by decide +kernel
theorem dL_getChoices_12 : decode cL_getChoices 12 = .ok (.astore_n 3, 1) := by decide +kernel
theorem dL_getChoices_13 : decode cL_getChoices 13 = .ok (.iconst 1, 1) := by decide +kernel
theorem dL_getChoices_14 : decode cL_getChoices 14 = .ok (.ireturn, 1) := by decide +kernel
theorem dL_getDate_0 : decode cL_getDate 0 = .ok (.aload_n 3, 1) := by decide +kernel
theorem dL_getDate_1 : decode cL_getDate 1 = .ok (.iconst 0, 1) := by decide +kernel
theorem dL_getDate_2 : decode cL_getDate 2 = .ok (.aload_n 0, 1) := by decide +kernel
theorem dL_getDate_3 : decode cL_getDate 3 = .ok (.iload_n 1, 1) := by decide +kernel
theorem dL_getDate_4 : decode cL_getDate 4 = .ok (.iload_n 2, 1) := by decide +kernel
theorem dL_getDate_5 : decode cL_getDate 5 = .ok (.invokevirtual 160, 3) := by decide +kernel
theorem dL_getDate_13 : decode cL_getDate 13 = .ok (.astore 4, 2) := by decide +kernel
theorem dL_getDate_15 : decode cL_getDate 15 = .ok (.iconst 1, 1) := by decide +kernel
theorem dL_getDate_16 : decode cL_getDate 16 = .ok (.ireturn, 1) := by decide +kernel
theorem dL_getNightShare_0 : decode cL_getNightShare 0 = .ok (.aload_n 1, 1) := by decide +kernel
theorem dL_getNightShare_1 : decode cL_getNightShare 1 = .ok (.iconst 0, 1) := by decide +kernel
theorem dL_getNightShare_2 : decode cL_getNightShare 2 = .ok (.aload_n 0, 1) := by decide +kernel
theorem dL_getNightShare_3 : decode cL_getNightShare 3 = .ok (.invokevirtual 163, 3) := by decide +kernel
theorem dL_getNightShare_11 : decode cL_getNightShare 11 = .ok (.astore_n 2, 1) := by decide +kernel
theorem dL_getNightShare_12 : decode cL_getNightShare 12 = .ok (.iconst 1, 1) := by decide +kernel
theorem dL_getNightShare_13 : decode cL_getNightShare 13 = .ok (.ireturn, 1) := by decide +kernel
theorem dL_getMeanCrew_0 : decode cL_getMeanCrew 0 = .ok (.aload_n 1, 1) := by decide +kernel
theorem dL_getMeanCrew_1 : decode cL_getMeanCrew 1 = .ok (.iconst 0, 1) := by decide +kernel
theorem dL_getMeanCrew_2 : decode cL_getMeanCrew 2 = .ok (.aload_n 0, 1) := by decide +kernel
theorem dL_getMeanCrew_3 : decode cL_getMeanCrew 3 = .ok (.invokevirtual 169, 3) := by decide +kernel
theorem dL_getMeanCrew_10 : decode cL_getMeanCrew 10 = .ok (.astore_n 2, 1) := by decide +kernel
theorem dL_getMeanCrew_11 : decode cL_getMeanCrew 11 = .ok (.iconst 1, 1) := by decide +kernel
theorem dL_getMeanCrew_12 : decode cL_getMeanCrew 12 = .ok (.ireturn, 1) := by decide +kernel
