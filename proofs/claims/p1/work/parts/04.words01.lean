theorem ydJx4a65c_grow_d5877 : (yJx4a65c_grow_d5877.cls ≠ "java/lang/invoke/MethodHandle" ∧ yJx4a65c_grow_d5877.cls ≠ "java/lang/invoke/VarHandle") ∧ (parseMethodDescriptor yJx4a65c_grow_d5877.desc).map (fun d => d.parameters.length) = some 0 := by decide +kernel
theorem ydJx4a65c_init_da8c8 : (yJx4a65c_init_da8c8.cls ≠ "java/lang/invoke/MethodHandle" ∧ yJx4a65c_init_da8c8.cls ≠ "java/lang/invoke/VarHandle") ∧ (parseMethodDescriptor yJx4a65c_init_da8c8.desc).map (fun d => d.parameters.length) = some 0 := by decide +kernel
theorem ydJx4a65c_size_8abf5 : (yJx4a65c_size_8abf5.cls ≠ "java/lang/invoke/MethodHandle" ∧ yJx4a65c_size_8abf5.cls ≠ "java/lang/invoke/VarHandle") ∧ (parseMethodDescriptor yJx4a65c_size_8abf5.desc).map (fun d => d.parameters.length) = some 0 := by decide +kernel
theorem ydJxa1e45_init_da8c8 : (yJxa1e45_init_da8c8.cls ≠ "java/lang/invoke/MethodHandle" ∧ yJxa1e45_init_da8c8.cls ≠ "java/lang/invoke/VarHandle") ∧ (parseMethodDescriptor yJxa1e45_init_da8c8.desc).map (fun d => d.parameters.length) = some 0 := by decide +kernel
theorem ydJxc12de_init_da8c8 : (yJxc12de_init_da8c8.cls ≠ "java/lang/invoke/MethodHandle" ∧ yJxc12de_init_da8c8.cls ≠ "java/lang/invoke/VarHandle") ∧ (parseMethodDescriptor yJxc12de_init_da8c8.desc).map (fun d => d.parameters.length) = some 0 := by decide +kernel
theorem ydX0_init : (yX0_init.cls ≠ "java/lang/invoke/MethodHandle" ∧ yX0_init.cls ≠ "java/lang/invoke/VarHandle") ∧ (parseMethodDescriptor yX0_init.desc).map (fun d => d.parameters.length) = some 2 := by decide +kernel
theorem ydX11_areCrewsSound : (yX11_areCrewsSound.cls ≠ "java/lang/invoke/MethodHandle" ∧ yX11_areCrewsSound.cls ≠ "java/lang/invoke/VarHandle") ∧ (parseMethodDescriptor yX11_areCrewsSound.desc).map (fun d => d.parameters.length) = some 0 := by decide +kernel
theorem ydX11_areKeptHoursSound : (yX11_areKeptHoursSound.cls ≠ "java/lang/invoke/MethodHandle" ∧ yX11_areKeptHoursSound.cls ≠ "java/lang/invoke/VarHandle") ∧ (parseMethodDescriptor yX11_areKeptHoursSound.desc).map (fun d => d.parameters.length) = some 0 := by decide +kernel
theorem ydX11_countAboard : (yX11_countAboard.cls ≠ "java/lang/invoke/MethodHandle" ∧ yX11_countAboard.cls ≠ "java/lang/invoke/VarHandle") ∧ (parseMethodDescriptor yX11_countAboard.desc).map (fun d => d.parameters.length) = some 0 := by decide +kernel
theorem ydX11_eatAndTire : (yX11_eatAndTire.cls ≠ "java/lang/invoke/MethodHandle" ∧ yX11_eatAndTire.cls ≠ "java/lang/invoke/VarHandle") ∧ (parseMethodDescriptor yX11_eatAndTire.desc).map (fun d => d.parameters.length) = some 0 := by decide +kernel
theorem ydX11_gatherSalt : (yX11_gatherSalt.cls ≠ "java/lang/invoke/MethodHandle" ∧ yX11_gatherSalt.cls ≠ "java/lang/invoke/VarHandle") ∧ (parseMethodDescriptor yX11_gatherSalt.desc).map (fun d => d.parameters.length) = some 0 := by decide +kernel
theorem ydX11_goOnAir : (yX11_goOnAir.cls ≠ "java/lang/invoke/MethodHandle" ∧ yX11_goOnAir.cls ≠ "java/lang/invoke/VarHandle") ∧ (parseMethodDescriptor yX11_goOnAir.desc).map (fun d => d.parameters.length) = some 0 := by decide +kernel
theorem ydX11_isPerson : (yX11_isPerson.cls ≠ "java/lang/invoke/MethodHandle" ∧ yX11_isPerson.cls ≠ "java/lang/invoke/VarHandle") ∧ (parseMethodDescriptor yX11_isPerson.desc).map (fun d => d.parameters.length) = some 1 := by decide +kernel
theorem ydX11_isPersonOrTape : (yX11_isPersonOrTape.cls ≠ "java/lang/invoke/MethodHandle" ∧ yX11_isPersonOrTape.cls ≠ "java/lang/invoke/VarHandle") ∧ (parseMethodDescriptor yX11_isPersonOrTape.desc).map (fun d => d.parameters.length) = some 1 := by decide +kernel
theorem ydX11_isTape : (yX11_isTape.cls ≠ "java/lang/invoke/MethodHandle" ∧ yX11_isTape.cls ≠ "java/lang/invoke/VarHandle") ∧ (parseMethodDescriptor yX11_isTape.desc).map (fun d => d.parameters.length) = some 1 := by decide +kernel
theorem ydX11_keepHour : (yX11_keepHour.cls ≠ "java/lang/invoke/MethodHandle" ∧ yX11_keepHour.cls ≠ "java/lang/invoke/VarHandle") ∧ (parseMethodDescriptor yX11_keepHour.desc).map (fun d => d.parameters.length) = some 0 := by decide +kernel
theorem ydX11_landAt : (yX11_landAt.cls ≠ "java/lang/invoke/MethodHandle" ∧ yX11_landAt.cls ≠ "java/lang/invoke/VarHandle") ∧ (parseMethodDescriptor yX11_landAt.desc).map (fun d => d.parameters.length) = some 1 := by decide +kernel
theorem ydX11_listen : (yX11_listen.cls ≠ "java/lang/invoke/MethodHandle" ∧ yX11_listen.cls ≠ "java/lang/invoke/VarHandle") ∧ (parseMethodDescriptor yX11_listen.desc).map (fun d => d.parameters.length) = some 0 := by decide +kernel
theorem ydX11_moveShips : (yX11_moveShips.cls ≠ "java/lang/invoke/MethodHandle" ∧ yX11_moveShips.cls ≠ "java/lang/invoke/VarHandle") ∧ (parseMethodDescriptor yX11_moveShips.desc).map (fun d => d.parameters.length) = some 0 := by decide +kernel
theorem ydX11_passHour : (yX11_passHour.cls ≠ "java/lang/invoke/MethodHandle" ∧ yX11_passHour.cls ≠ "java/lang/invoke/VarHandle") ∧ (parseMethodDescriptor yX11_passHour.desc).map (fun d => d.parameters.length) = some 0 := by decide +kernel
theorem ydX11_personAt : (yX11_personAt.cls ≠ "java/lang/invoke/MethodHandle" ∧ yX11_personAt.cls ≠ "java/lang/invoke/VarHandle") ∧ (parseMethodDescriptor yX11_personAt.desc).map (fun d => d.parameters.length) = some 1 := by decide +kernel
theorem ydX11_playSpots : (yX11_playSpots.cls ≠ "java/lang/invoke/MethodHandle" ∧ yX11_playSpots.cls ≠ "java/lang/invoke/VarHandle") ∧ (parseMethodDescriptor yX11_playSpots.desc).map (fun d => d.parameters.length) = some 0 := by decide +kernel
theorem ydX11_requireNumber : (yX11_requireNumber.cls ≠ "java/lang/invoke/MethodHandle" ∧ yX11_requireNumber.cls ≠ "java/lang/invoke/VarHandle") ∧ (parseMethodDescriptor yX11_requireNumber.desc).map (fun d => d.parameters.length) = some 2 := by decide +kernel
theorem ydX11_requirePlace : (yX11_requirePlace.cls ≠ "java/lang/invoke/MethodHandle" ∧ yX11_requirePlace.cls ≠ "java/lang/invoke/VarHandle") ∧ (parseMethodDescriptor yX11_requirePlace.desc).map (fun d => d.parameters.length) = some 2 := by decide +kernel
theorem ydX11_requireRange : (yX11_requireRange.cls ≠ "java/lang/invoke/MethodHandle" ∧ yX11_requireRange.cls ≠ "java/lang/invoke/VarHandle") ∧ (parseMethodDescriptor yX11_requireRange.desc).map (fun d => d.parameters.length) = some 3 := by decide +kernel
theorem ydX11_requireRecording : (yX11_requireRecording.cls ≠ "java/lang/invoke/MethodHandle" ∧ yX11_requireRecording.cls ≠ "java/lang/invoke/VarHandle") ∧ (parseMethodDescriptor yX11_requireRecording.desc).map (fun d => d.parameters.length) = some 1 := by decide +kernel
theorem ydX11_requireRoom : (yX11_requireRoom.cls ≠ "java/lang/invoke/MethodHandle" ∧ yX11_requireRoom.cls ≠ "java/lang/invoke/VarHandle") ∧ (parseMethodDescriptor yX11_requireRoom.desc).map (fun d => d.parameters.length) = some 2 := by decide +kernel
theorem ydX11_runGenerators : (yX11_runGenerators.cls ≠ "java/lang/invoke/MethodHandle" ∧ yX11_runGenerators.cls ≠ "java/lang/invoke/VarHandle") ∧ (parseMethodDescriptor yX11_runGenerators.desc).map (fun d => d.parameters.length) = some 0 := by decide +kernel
theorem ydX11_shipAt : (yX11_shipAt.cls ≠ "java/lang/invoke/MethodHandle" ∧ yX11_shipAt.cls ≠ "java/lang/invoke/VarHandle") ∧ (parseMethodDescriptor yX11_shipAt.desc).map (fun d => d.parameters.length) = some 1 := by decide +kernel
theorem ydX11_speak : (yX11_speak.cls ≠ "java/lang/invoke/MethodHandle" ∧ yX11_speak.cls ≠ "java/lang/invoke/VarHandle") ∧ (parseMethodDescriptor yX11_speak.desc).map (fun d => d.parameters.length) = some 0 := by decide +kernel
theorem ydX11_townAt : (yX11_townAt.cls ≠ "java/lang/invoke/MethodHandle" ∧ yX11_townAt.cls ≠ "java/lang/invoke/VarHandle") ∧ (parseMethodDescriptor yX11_townAt.desc).map (fun d => d.parameters.length) = some 1 := by decide +kernel
theorem ydX1_areDatesAsOrdersTell : (yX1_areDatesAsOrdersTell.cls ≠ "java/lang/invoke/MethodHandle" ∧ yX1_areDatesAsOrdersTell.cls ≠ "java/lang/invoke/VarHandle") ∧ (parseMethodDescriptor yX1_areDatesAsOrdersTell.desc).map (fun d => d.parameters.length) = some 0 := by decide +kernel
theorem ydX1_init : (yX1_init.cls ≠ "java/lang/invoke/MethodHandle" ∧ yX1_init.cls ≠ "java/lang/invoke/VarHandle") ∧ (parseMethodDescriptor yX1_init.desc).map (fun d => d.parameters.length) = some 0 := by decide +kernel
theorem ydX3_init : (yX3_init.cls ≠ "java/lang/invoke/MethodHandle" ∧ yX3_init.cls ≠ "java/lang/invoke/VarHandle") ∧ (parseMethodDescriptor yX3_init.desc).map (fun d => d.parameters.length) = some 0 := by decide +kernel
theorem ydX4_init : (yX4_init.cls ≠ "java/lang/invoke/MethodHandle" ∧ yX4_init.cls ≠ "java/lang/invoke/VarHandle") ∧ (parseMethodDescriptor yX4_init.desc).map (fun d => d.parameters.length) = some 3 := by decide +kernel
theorem ydX6_init : (yX6_init.cls ≠ "java/lang/invoke/MethodHandle" ∧ yX6_init.cls ≠ "java/lang/invoke/VarHandle") ∧ (parseMethodDescriptor yX6_init.desc).map (fun d => d.parameters.length) = some 0 := by decide +kernel
theorem ydX7_init : (yX7_init.cls ≠ "java/lang/invoke/MethodHandle" ∧ yX7_init.cls ≠ "java/lang/invoke/VarHandle") ∧ (parseMethodDescriptor yX7_init.desc).map (fun d => d.parameters.length) = some 3 := by decide +kernel
theorem ydX8_init : (yX8_init.cls ≠ "java/lang/invoke/MethodHandle" ∧ yX8_init.cls ≠ "java/lang/invoke/VarHandle") ∧ (parseMethodDescriptor yX8_init.desc).map (fun d => d.parameters.length) = some 2 := by decide +kernel
theorem ydX9_init : (yX9_init.cls ≠ "java/lang/invoke/MethodHandle" ∧ yX9_init.cls ≠ "java/lang/invoke/VarHandle") ∧ (parseMethodDescriptor yX9_init.desc).map (fun d => d.parameters.length) = some 0 := by decide +kernel
theorem at_X11_82 : ∀ w ∈ vx_atS RX11 82 "java/lang/IllegalArgumentException" ["java/lang/RuntimeException", "java/lang/Exception"], w ∈ kw := fun w h => kw_in ((by decide +kernel : ∀ w ∈ vx_atS RX11 82 "java/lang/IllegalArgumentException" ["java/lang/RuntimeException", "java/lang/Exception"], w ∈ lw_tbl) w h) ((by decide +kernel : ∀ w ∈ vx_atS RX11 82 "java/lang/IllegalArgumentException" ["java/lang/RuntimeException", "java/lang/Exception"], kok w = true) w h)
theorem at_X11_82g : ∀ w ∈ Cond.classLink RX11 78 "java/lang/IllegalArgumentException" :: Cond.initialized "java/lang/IllegalArgumentException" :: vx_atS RX11 82 "java/lang/IllegalArgumentException" ["java/lang/RuntimeException", "java/lang/Exception"], vx_ot w = true := by decide +kernel
theorem at_X11_381 : ∀ w ∈ vx_atS RX11 381 "java/lang/ArithmeticException" ["java/lang/RuntimeException", "java/lang/Exception"], w ∈ kw := fun w h => kw_in ((by decide +kernel : ∀ w ∈ vx_atS RX11 381 "java/lang/ArithmeticException" ["java/lang/RuntimeException", "java/lang/Exception"], w ∈ lw_tbl) w h) ((by decide +kernel : ∀ w ∈ vx_atS RX11 381 "java/lang/ArithmeticException" ["java/lang/RuntimeException", "java/lang/Exception"], kok w = true) w h)
theorem at_X11_381g : ∀ w ∈ Cond.classLink RX11 377 "java/lang/ArithmeticException" :: Cond.initialized "java/lang/ArithmeticException" :: vx_atS RX11 381 "java/lang/ArithmeticException" ["java/lang/RuntimeException", "java/lang/Exception"], vx_ot w = true := by decide +kernel
theorem at_X11_414 : ∀ w ∈ vx_atS RX11 414 "java/lang/IndexOutOfBoundsException" ["java/lang/RuntimeException", "java/lang/Exception"], w ∈ kw := fun w h => kw_in ((by decide +kernel : ∀ w ∈ vx_atS RX11 414 "java/lang/IndexOutOfBoundsException" ["java/lang/RuntimeException", "java/lang/Exception"], w ∈ lw_tbl) w h) ((by decide +kernel : ∀ w ∈ vx_atS RX11 414 "java/lang/IndexOutOfBoundsException" ["java/lang/RuntimeException", "java/lang/Exception"], kok w = true) w h)
theorem at_X11_414g : ∀ w ∈ Cond.classLink RX11 410 "java/lang/IndexOutOfBoundsException" :: Cond.initialized "java/lang/IndexOutOfBoundsException" :: vx_atS RX11 414 "java/lang/IndexOutOfBoundsException" ["java/lang/RuntimeException", "java/lang/Exception"], vx_ot w = true := by decide +kernel
theorem dX0_init_0 : decode cX0_init 0 = .ok (.aload_n 0, 1) := by decide +kernel
theorem dX0_init_1 : decode cX0_init 1 = .ok (.invokespecial 1, 3) := by decide +kernel
theorem dX0_init_4 : decode cX0_init 4 = .ok (.aload_n 0, 1) := by decide +kernel
theorem dX0_init_5 : decode cX0_init 5 = .ok (.iload_n 1, 1) := by decide +kernel
theorem dX0_init_6 : decode cX0_init 6 = .ok (.putfield 7, 3) := by decide +kernel
theorem dX0_init_9 : decode cX0_init 9 = .ok (.aload_n 0, 1) := by decide +kernel
theorem dX0_init_10 : decode cX0_init 10 = .ok (.iload_n 2, 1) := by decide +kernel
theorem dX0_init_11 : decode cX0_init 11 = .ok (.putfield 13, 3) := by decide +kernel
theorem dX0_init_14 : decode cX0_init 14 = .ok (.return_, 1) := by decide +kernel
theorem dX1_init_0 : decode cX1_init 0 = .ok (.aload_n 0, 1) := by decide +kernel
theorem dX1_init_1 : decode cX1_init 1 = .ok (.invokespecial 3, 3) := by decide +kernel
theorem dX1_init_4 : decode cX1_init 4 = .ok (.aload_n 0, 1) := by decide +kernel
theorem dX1_init_5 : decode cX1_init 5 = .ok (.new 9, 3) := by decide +kernel
theorem dX1_init_8 : decode cX1_init 8 = .ok (.dup, 1) := by decide +kernel
theorem dX1_init_9 : decode cX1_init 9 = .ok (.invokespecial 11, 3) := by decide +kernel
theorem dX1_init_12 : decode cX1_init 12 = .ok (.putfield 12, 3) := by decide +kernel
theorem dX1_init_15 : decode cX1_init 15 = .ok (.aload_n 0, 1) := by decide +kernel
theorem dX1_init_16 : decode cX1_init 16 = .ok (.new 18, 3) := by decide +kernel
theorem dX1_init_19 : decode cX1_init 19 = .ok (.dup, 1) := by decide +kernel
theorem dX1_init_20 : decode cX1_init 20 = .ok (.invokespecial 20, 3) := by decide +kernel
theorem dX1_init_23 : decode cX1_init 23 = .ok (.putfield 21, 3) := by decide +kernel
theorem dX1_init_26 : decode cX1_init 26 = .ok (.aload_n 0, 1) := by decide +kernel
theorem dX1_init_27 : decode cX1_init 27 = .ok (.bipush 64, 2) := by decide +kernel
theorem dX1_init_29 : decode cX1_init 29 = .ok (.newarray .int, 2) := by decide +kernel
theorem dX1_init_31 : decode cX1_init 31 = .ok (.putfield 25, 3) := by decide +kernel
theorem dX1_init_34 : decode cX1_init 34 = .ok (.aload_n 0, 1) := by decide +kernel
theorem dX1_init_35 : decode cX1_init 35 = .ok (.bipush 64, 2) := by decide +kernel
theorem dX1_init_37 : decode cX1_init 37 = .ok (.newarray .int, 2) := by decide +kernel
theorem dX1_init_39 : decode cX1_init 39 = .ok (.putfield 29, 3) := by decide +kernel
theorem dX1_init_42 : decode cX1_init 42 = .ok (.aload_n 0, 1) := by decide +kernel
theorem dX1_init_43 : decode cX1_init 43 = .ok (.bipush 64, 2) := by decide +kernel
theorem dX1_init_45 : decode cX1_init 45 = .ok (.newarray .boolean, 2) := by decide +kernel
theorem dX1_init_47 : decode cX1_init 47 = .ok (.putfield 32, 3) := by decide +kernel
theorem dX1_init_50 : decode cX1_init 50 = .ok (.aload_n 0, 1) := by decide +kernel
theorem dX1_init_51 : decode cX1_init 51 = .ok (.bipush 6, 2) := by decide +kernel
theorem dX1_init_53 : decode cX1_init 53 = .ok (.newarray .int, 2) := by decide +kernel
theorem dX1_init_55 : decode cX1_init 55 = .ok (.putfield 36, 3) := by decide +kernel
theorem dX1_init_58 : decode cX1_init 58 = .ok (.aload_n 0, 1) := by decide +kernel
theorem dX1_init_59 : decode cX1_init 59 = .ok (.bipush 6, 2) := by decide +kernel
theorem dX1_init_61 : decode cX1_init 61 = .ok (.newarray .int, 2) := by decide +kernel
theorem dX1_init_63 : decode cX1_init 63 = .ok (.putfield 39, 3) := by decide +kernel
theorem dX1_init_66 : decode cX1_init 66 = .ok (.return_, 1) := by decide +kernel
theorem dX1_areDatesAsOrdersTell_0 : decode cX1_areDatesAsOrdersTell 0 = .ok (.aload_n 0, 1) := by decide +kernel
theorem dX1_areDatesAsOrdersTell_1 : decode cX1_areDatesAsOrdersTell 1 = .ok (.getfield 21, 3) := by decide +kernel
theorem dX1_areDatesAsOrdersTell_4 : decode cX1_areDatesAsOrdersTell 4 = .ok (.invokevirtual 42, 3) := by decide +kernel
theorem dX1_areDatesAsOrdersTell_7 : decode cX1_areDatesAsOrdersTell 7 = .ok (.iconst 4, 1) := by decide +kernel
theorem dX1_areDatesAsOrdersTell_8 : decode cX1_areDatesAsOrdersTell 8 = .ok (.if_icmp .le 5, 3) := by decide +kernel
theorem dX1_areDatesAsOrdersTell_13 : decode cX1_areDatesAsOrdersTell 13 = .ok (.iconst 0, 1) := by decide +kernel
theorem dX1_areDatesAsOrdersTell_14 : decode cX1_areDatesAsOrdersTell 14 = .ok (.istore_n 1, 1) := by decide +kernel
theorem dX1_areDatesAsOrdersTell_15 : decode cX1_areDatesAsOrdersTell 15 = .ok (.iload_n 1, 1) := by decide +kernel
theorem dX1_areDatesAsOrdersTell_16 : decode cX1_areDatesAsOrdersTell 16 = .ok (.aload_n 0, 1) := by decide +kernel
theorem dX1_areDatesAsOrdersTell_17 : decode cX1_areDatesAsOrdersTell 17 = .ok (.getfield 21, 3) := by decide +kernel
theorem dX1_areDatesAsOrdersTell_20 : decode cX1_areDatesAsOrdersTell 20 = .ok (.invokevirtual 42, 3) := by decide +kernel
theorem dX1_areDatesAsOrdersTell_23 : decode cX1_areDatesAsOrdersTell 23 = .ok (.if_icmp .ge 41, 3) := by decide +kernel
theorem dX1_areDatesAsOrdersTell_64 : decode cX1_areDatesAsOrdersTell 64 = .ok (.iconst 1, 1) := by decide +kernel
theorem dX1_areDatesAsOrdersTell_65 : decode cX1_areDatesAsOrdersTell 65 = .ok (.ireturn, 1) := by decide +kernel
theorem dX3_init_0 : decode cX3_init 0 = .ok (.aload_n 0, 1) := by decide +kernel
theorem dX3_init_1 : decode cX3_init 1 = .ok (.invokespecial 3, 3) := by decide +kernel
theorem dX3_init_4 : decode cX3_init 4 = .ok (.aload_n 0, 1) := by decide +kernel
theorem dX3_init_5 : decode cX3_init 5 = .ok (.sipush 200, 3) := by decide +kernel
theorem dX3_init_8 : decode cX3_init 8 = .ok (.newarray .int, 2) := by decide +kernel
theorem dX3_init_10 : decode cX3_init 10 = .ok (.putfield 9, 3) := by decide +kernel
theorem dX3_init_13 : decode cX3_init 13 = .ok (.aload_n 0, 1) := by decide +kernel
theorem dX3_init_14 : decode cX3_init 14 = .ok (.sipush 200, 3) := by decide +kernel
theorem dX3_init_17 : decode cX3_init 17 = .ok (.newarray .int, 2) := by decide +kernel
theorem dX3_init_19 : decode cX3_init 19 = .ok (.putfield 15, 3) := by decide +kernel
theorem dX3_init_22 : decode cX3_init 22 = .ok (.aload_n 0, 1) := by decide +kernel
theorem dX3_init_23 : decode cX3_init 23 = .ok (.sipush 200, 3) := by decide +kernel
theorem dX3_init_26 : decode cX3_init 26 = .ok (.newarray .int, 2) := by decide +kernel
theorem dX3_init_28 : decode cX3_init 28 = .ok (.putfield 18, 3) := by decide +kernel
theorem dX3_init_31 : decode cX3_init 31 = .ok (.aload_n 0, 1) := by decide +kernel
theorem dX3_init_32 : decode cX3_init 32 = .ok (.sipush 200, 3) := by decide +kernel
theorem dX3_init_35 : decode cX3_init 35 = .ok (.newarray .int, 2) := by decide +kernel
theorem dX3_init_37 : decode cX3_init 37 = .ok (.putfield 21, 3) := by decide +kernel
theorem dX3_init_40 : decode cX3_init 40 = .ok (.aload_n 0, 1) := by decide +kernel
theorem dX3_init_41 : decode cX3_init 41 = .ok (.sipush 200, 3) := by decide +kernel
theorem dX3_init_44 : decode cX3_init 44 = .ok (.newarray .int, 2) := by decide +kernel
theorem dX3_init_46 : decode cX3_init 46 = .ok (.putfield 24, 3) := by decide +kernel
theorem dX3_init_49 : decode cX3_init 49 = .ok (.return_, 1) := by decide +kernel
theorem dX4_init_0 : decode cX4_init 0 = .ok (.aload_n 0, 1) := by decide +kernel
theorem dX4_init_1 : decode cX4_init 1 = .ok (.invokespecial 3, 3) := by decide +kernel
theorem dX4_init_4 : decode cX4_init 4 = .ok (.aload_n 0, 1) := by decide +kernel
theorem dX4_init_5 : decode cX4_init 5 = .ok (.iload_n 1, 1) := by decide +kernel
theorem dX4_init_6 : decode cX4_init 6 = .ok (.putfield 9, 3) := by decide +kernel
theorem dX4_init_9 : decode cX4_init 9 = .ok (.aload_n 0, 1) := by decide +kernel
theorem dX4_init_10 : decode cX4_init 10 = .ok (.iload_n 2, 1) := by decide +kernel
theorem dX4_init_11 : decode cX4_init 11 = .ok (.putfield 15, 3) := by decide +kernel
theorem dX4_init_14 : decode cX4_init 14 = .ok (.aload_n 0, 1) := by decide +kernel
theorem dX4_init_15 : decode cX4_init 15 = .ok (.iload_n 3, 1) := by decide +kernel
theorem dX4_init_16 : decode cX4_init 16 = .ok (.putfield 18, 3) := by decide +kernel
theorem dX4_init_19 : decode cX4_init 19 = .ok (.aload_n 0, 1) := by decide +kernel
theorem dX4_init_20 : decode cX4_init 20 = .ok (.bipush 8, 2) := by decide +kernel
theorem dX4_init_22 : decode cX4_init 22 = .ok (.newarray .int, 2) := by decide +kernel
theorem dX4_init_24 : decode cX4_init 24 = .ok (.putfield 21, 3) := by decide +kernel
theorem dX4_init_27 : decode cX4_init 27 = .ok (.aload_n 0, 1) := by decide +kernel
theorem dX4_init_28 : decode cX4_init 28 = .ok (.bipush 8, 2) := by decide +kernel
theorem dX4_init_30 : decode cX4_init 30 = .ok (.newarray .int, 2) := by decide +kernel
theorem dX4_init_32 : decode cX4_init 32 = .ok (.putfield 25, 3) := by decide +kernel
theorem dX4_init_35 : decode cX4_init 35 = .ok (.aload_n 0, 1) := by decide +kernel
theorem dX4_init_36 : decode cX4_init 36 = .ok (.bipush 8, 2) := by decide +kernel
theorem dX4_init_38 : decode cX4_init 38 = .ok (.newarray .int, 2) := by decide +kernel
theorem dX4_init_40 : decode cX4_init 40 = .ok (.putfield 28, 3) := by decide +kernel
theorem dX4_init_43 : decode cX4_init 43 = .ok (.aload_n 0, 1) := by decide +kernel
theorem dX4_init_44 : decode cX4_init 44 = .ok (.iconst (-1), 1) := by decide +kernel
theorem dX4_init_45 : decode cX4_init 45 = .ok (.putfield 31, 3) := by decide +kernel
theorem dX4_init_48 : decode cX4_init 48 = .ok (.return_, 1) := by decide +kernel
theorem dX6_init_0 : decode cX6_init 0 = .ok (.aload_n 0, 1) := by decide +kernel
theorem dX6_init_1 : decode cX6_init 1 = .ok (.invokespecial 3, 3) := by decide +kernel
theorem dX6_init_4 : decode cX6_init 4 = .ok (.aload_n 0, 1) := by decide +kernel
theorem dX6_init_5 : decode cX6_init 5 = .ok (.bipush 24, 2) := by decide +kernel
theorem dX6_init_7 : decode cX6_init 7 = .ok (.newarray .int, 2) := by decide +kernel
theorem dX6_init_9 : decode cX6_init 9 = .ok (.putfield 9, 3) := by decide +kernel
theorem dX6_init_12 : decode cX6_init 12 = .ok (.iconst 0, 1) := by decide +kernel
theorem dX6_init_13 : decode cX6_init 13 = .ok (.istore_n 1, 1) := by decide +kernel
theorem dX6_init_14 : decode cX6_init 14 = .ok (.iload_n 1, 1) := by decide +kernel
theorem dX6_init_15 : decode cX6_init 15 = .ok (.bipush 24, 2) := by decide +kernel
theorem dX6_init_17 : decode cX6_init 17 = .ok (.if_icmp .ge 16, 3) := by decide +kernel
theorem dX6_init_20 : decode cX6_init 20 = .ok (.aload_n 0, 1) := by decide +kernel
theorem dX6_init_21 : decode cX6_init 21 = .ok (.getfield 9, 3) := by decide +kernel
theorem dX6_init_24 : decode cX6_init 24 = .ok (.iload_n 1, 1) := by decide +kernel
theorem dX6_init_25 : decode cX6_init 25 = .ok (.iconst (-1), 1) := by decide +kernel
theorem dX6_init_26 : decode cX6_init 26 = .ok (.iastore, 1) := by decide +kernel
theorem dX6_init_27 : decode cX6_init 27 = .ok (.iinc 1 1, 3) := by decide +kernel
theorem dX6_init_30 : decode cX6_init 30 = .ok (.goto (-16), 3) := by decide +kernel
theorem dX6_init_33 : decode cX6_init 33 = .ok (.aload_n 0, 1) := by decide +kernel
theorem dX6_init_34 : decode cX6_init 34 = .ok (.iconst (-1), 1) := by decide +kernel
theorem dX6_init_35 : decode cX6_init 35 = .ok (.putfield 15, 3) := by decide +kernel
theorem dX6_init_38 : decode cX6_init 38 = .ok (.return_, 1) := by decide +kernel
theorem dX7_init_0 : decode cX7_init 0 = .ok (.aload_n 0, 1) := by decide +kernel
theorem dX7_init_1 : decode cX7_init 1 = .ok (.invokespecial 1, 3) := by decide +kernel
theorem dX7_init_4 : decode cX7_init 4 = .ok (.aload_n 0, 1) := by decide +kernel
theorem dX7_init_5 : decode cX7_init 5 = .ok (.iload_n 1, 1) := by decide +kernel
theorem dX7_init_6 : decode cX7_init 6 = .ok (.putfield 7, 3) := by decide +kernel
theorem dX7_init_9 : decode cX7_init 9 = .ok (.aload_n 0, 1) := by decide +kernel
theorem dX7_init_10 : decode cX7_init 10 = .ok (.iload_n 2, 1) := by decide +kernel
theorem dX7_init_11 : decode cX7_init 11 = .ok (.putfield 13, 3) := by decide +kernel
theorem dX7_init_14 : decode cX7_init 14 = .ok (.aload_n 0, 1) := by decide +kernel
theorem dX7_init_15 : decode cX7_init 15 = .ok (.iload_n 3, 1) := by decide +kernel
theorem dX7_init_16 : decode cX7_init 16 = .ok (.putfield 16, 3) := by decide +kernel
theorem dX7_init_19 : decode cX7_init 19 = .ok (.return_, 1) := by decide +kernel
theorem dX8_init_0 : decode cX8_init 0 = .ok (.aload_n 0, 1) := by decide +kernel
theorem dX8_init_1 : decode cX8_init 1 = .ok (.invokespecial 3, 3) := by decide +kernel
theorem dX8_init_4 : decode cX8_init 4 = .ok (.aload_n 0, 1) := by decide +kernel
theorem dX8_init_5 : decode cX8_init 5 = .ok (.new 9, 3) := by decide +kernel
theorem dX8_init_8 : decode cX8_init 8 = .ok (.dup, 1) := by decide +kernel
theorem dX8_init_9 : decode cX8_init 9 = .ok (.iload_n 1, 1) := by decide +kernel
theorem dX8_init_10 : decode cX8_init 10 = .ok (.iload_n 2, 1) := by decide +kernel
theorem dX8_init_11 : decode cX8_init 11 = .ok (.invokespecial 11, 3) := by decide +kernel
theorem dX8_init_14 : decode cX8_init 14 = .ok (.putfield 14, 3) := by decide +kernel
theorem dX8_init_17 : decode cX8_init 17 = .ok (.aload_n 0, 1) := by decide +kernel
theorem dX8_init_18 : decode cX8_init 18 = .ok (.new 20, 3) := by decide +kernel
theorem dX8_init_21 : decode cX8_init 21 = .ok (.dup, 1) := by decide +kernel
theorem dX8_init_22 : decode cX8_init 22 = .ok (.invokespecial 22, 3) := by decide +kernel
theorem dX8_init_25 : decode cX8_init 25 = .ok (.putfield 23, 3) := by decide +kernel
theorem dX8_init_28 : decode cX8_init 28 = .ok (.aload_n 0, 1) := by decide +kernel
theorem dX8_init_29 : decode cX8_init 29 = .ok (.new 27, 3) := by decide +kernel
theorem dX8_init_32 : decode cX8_init 32 = .ok (.dup, 1) := by decide +kernel
theorem dX8_init_33 : decode cX8_init 33 = .ok (.invokespecial 29, 3) := by decide +kernel
theorem dX8_init_36 : decode cX8_init 36 = .ok (.putfield 30, 3) := by decide +kernel
theorem dX8_init_39 : decode cX8_init 39 = .ok (.aload_n 0, 1) := by decide +kernel
theorem dX8_init_40 : decode cX8_init 40 = .ok (.new 34, 3) := by decide +kernel
theorem dX8_init_43 : decode cX8_init 43 = .ok (.dup, 1) := by decide +kernel
theorem dX8_init_44 : decode cX8_init 44 = .ok (.invokespecial 36, 3) := by decide +kernel
theorem dX8_init_47 : decode cX8_init 47 = .ok (.putfield 37, 3) := by decide +kernel
theorem dX8_init_50 : decode cX8_init 50 = .ok (.aload_n 0, 1) := by decide +kernel
theorem dX8_init_51 : decode cX8_init 51 = .ok (.iload_n 1, 1) := by decide +kernel
theorem dX8_init_52 : decode cX8_init 52 = .ok (.putfield 41, 3) := by decide +kernel
theorem dX8_init_55 : decode cX8_init 55 = .ok (.aload_n 0, 1) := by decide +kernel
theorem dX8_init_56 : decode cX8_init 56 = .ok (.iload_n 2, 1) := by decide +kernel
theorem dX8_init_57 : decode cX8_init 57 = .ok (.putfield 45, 3) := by decide +kernel
theorem dX8_init_60 : decode cX8_init 60 = .ok (.aload_n 0, 1) := by decide +kernel
theorem dX8_init_61 : decode cX8_init 61 = .ok (.iconst (-1), 1) := by decide +kernel
theorem dX8_init_62 : decode cX8_init 62 = .ok (.putfield 48, 3) := by decide +kernel
theorem dX8_init_65 : decode cX8_init 65 = .ok (.aload_n 0, 1) := by decide +kernel
theorem dX8_init_66 : decode cX8_init 66 = .ok (.iconst (-1), 1) := by decide +kernel
theorem dX8_init_67 : decode cX8_init 67 = .ok (.putfield 51, 3) := by decide +kernel
theorem dX8_init_70 : decode cX8_init 70 = .ok (.return_, 1) := by decide +kernel
theorem dX9_init_0 : decode cX9_init 0 = .ok (.aload_n 0, 1) := by decide +kernel
theorem dX9_init_1 : decode cX9_init 1 = .ok (.invokespecial 1, 3) := by decide +kernel
theorem dX9_init_4 : decode cX9_init 4 = .ok (.return_, 1) := by decide +kernel
theorem dX11_init_0 : decode cX11_init 0 = .ok (.aload_n 0, 1) := by decide +kernel
theorem dX11_init_1 : decode cX11_init 1 = .ok (.invokespecial 1, 3) := by decide +kernel
theorem dX11_init_4 : decode cX11_init 4 = .ok (.aload_n 0, 1) := by decide +kernel
theorem dX11_init_5 : decode cX11_init 5 = .ok (.new 7, 3) := by decide +kernel
theorem dX11_init_8 : decode cX11_init 8 = .ok (.dup, 1) := by decide +kernel
theorem dX11_init_9 : decode cX11_init 9 = .ok (.invokespecial 9, 3) := by decide +kernel
theorem dX11_init_12 : decode cX11_init 12 = .ok (.putfield 10, 3) := by decide +kernel
theorem dX11_init_15 : decode cX11_init 15 = .ok (.aload_n 0, 1) := by decide +kernel
theorem dX11_init_16 : decode cX11_init 16 = .ok (.new 7, 3) := by decide +kernel
theorem dX11_init_19 : decode cX11_init 19 = .ok (.dup, 1) := by decide +kernel
theorem dX11_init_20 : decode cX11_init 20 = .ok (.invokespecial 9, 3) := by decide +kernel
theorem dX11_init_23 : decode cX11_init 23 = .ok (.putfield 16, 3) := by decide +kernel
theorem dX11_init_26 : decode cX11_init 26 = .ok (.aload_n 0, 1) := by decide +kernel
theorem dX11_init_27 : decode cX11_init 27 = .ok (.new 7, 3) := by decide +kernel
theorem dX11_init_30 : decode cX11_init 30 = .ok (.dup, 1) := by decide +kernel
theorem dX11_init_31 : decode cX11_init 31 = .ok (.invokespecial 9, 3) := by decide +kernel
theorem dX11_init_34 : decode cX11_init 34 = .ok (.putfield 19, 3) := by decide +kernel
theorem dX11_init_37 : decode cX11_init 37 = .ok (.aload_n 0, 1) := by decide +kernel
theorem dX11_init_38 : decode cX11_init 38 = .ok (.new 7, 3) := by decide +kernel
theorem dX11_init_41 : decode cX11_init 41 = .ok (.dup, 1) := by decide +kernel
theorem dX11_init_42 : decode cX11_init 42 = .ok (.invokespecial 9, 3) := by decide +kernel
theorem dX11_init_45 : decode cX11_init 45 = .ok (.putfield 22, 3) := by decide +kernel
theorem dX11_init_48 : decode cX11_init 48 = .ok (.aload_n 0, 1) := by decide +kernel
theorem dX11_init_49 : decode cX11_init 49 = .ok (.new 25, 3) := by decide +kernel
theorem dX11_init_52 : decode cX11_init 52 = .ok (.dup, 1) := by decide +kernel
theorem dX11_init_53 : decode cX11_init 53 = .ok (.invokespecial 27, 3) := by decide +kernel
theorem dX11_init_56 : decode cX11_init 56 = .ok (.putfield 28, 3) := by decide +kernel
theorem dX11_init_59 : decode cX11_init 59 = .ok (.aload_n 0, 1) := by decide +kernel
theorem dX11_init_60 : decode cX11_init 60 = .ok (.bipush 110, 2) := by decide +kernel
theorem dX11_init_62 : decode cX11_init 62 = .ok (.putfield 32, 3) := by decide +kernel
theorem dX11_init_65 : decode cX11_init 65 = .ok (.return_, 1) := by decide +kernel
theorem dX11_addLand_0 : decode cX11_addLand 0 = .ok (.iload_n 1, 1) := by decide +kernel
theorem dX11_addLand_1 : decode cX11_addLand 1 = .ok (.iload_n 2, 1) := by decide +kernel
theorem dX11_addLand_2 : decode cX11_addLand 2 = .ok (.invokestatic 36, 3) := by decide +kernel
theorem dX11_addLand_5 : decode cX11_addLand 5 = .ok (.iload_n 3, 1) := by decide +kernel
theorem dX11_addLand_6 : decode cX11_addLand 6 = .ok (.iconst 1, 1) := by decide +kernel
theorem dX11_addLand_7 : decode cX11_addLand 7 = .ok (.bipush 50, 2) := by decide +kernel
theorem dX11_addLand_9 : decode cX11_addLand 9 = .ok (.invokestatic 40, 3) := by decide +kernel
theorem dX11_addLand_12 : decode cX11_addLand 12 = .ok (.aload_n 0, 1) := by decide +kernel
theorem dX11_addLand_13 : decode cX11_addLand 13 = .ok (.getfield 10, 3) := by decide +kernel
theorem dX11_addLand_16 : decode cX11_addLand 16 = .ok (.invokevirtual 44, 3) := by decide +kernel
theorem dX11_addLand_19 : decode cX11_addLand 19 = .ok (.iconst 4, 1) := by decide +kernel
theorem dX11_addLand_20 : decode cX11_addLand 20 = .ok (.invokestatic 48, 3) := by decide +kernel
theorem dX11_addLand_23 : decode cX11_addLand 23 = .ok (.aload_n 0, 1) := by decide +kernel
theorem dX11_addLand_24 : decode cX11_addLand 24 = .ok (.getfield 10, 3) := by decide +kernel
theorem dX11_addLand_27 : decode cX11_addLand 27 = .ok (.new 51, 3) := by decide +kernel
theorem dX11_addLand_30 : decode cX11_addLand 30 = .ok (.dup, 1) := by decide +kernel
theorem dX11_addLand_31 : decode cX11_addLand 31 = .ok (.iload_n 1, 1) := by decide +kernel
theorem dX11_addLand_32 : decode cX11_addLand 32 = .ok (.iload_n 2, 1) := by decide +kernel
theorem dX11_addLand_33 : decode cX11_addLand 33 = .ok (.iload_n 3, 1) := by decide +kernel
theorem dX11_addLand_34 : decode cX11_addLand 34 = .ok (.invokespecial 53, 3) := by decide +kernel
theorem dX11_addLand_37 : decode cX11_addLand 37 = .ok (.invokevirtual 55, 3) := by decide +kernel
theorem dX11_addLand_40 : decode cX11_addLand 40 = .ok (.pop, 1) := by decide +kernel
theorem dX11_addLand_41 : decode cX11_addLand 41 = .ok (.aload_n 0, 1) := by decide +kernel
theorem dX11_addLand_42 : decode cX11_addLand 42 = .ok (.getfield 10, 3) := by decide +kernel
theorem dX11_addLand_45 : decode cX11_addLand 45 = .ok (.invokevirtual 44, 3) := by decide +kernel
theorem dX11_addLand_48 : decode cX11_addLand 48 = .ok (.iconst 1, 1) := by decide +kernel
theorem dX11_addLand_49 : decode cX11_addLand 49 = .ok (.isub, 1) := by decide +kernel
theorem dX11_addLand_50 : decode cX11_addLand 50 = .ok (.ireturn, 1) := by decide +kernel
theorem dX11_addAct_0 : decode cX11_addAct 0 = .ok (.aload_n 0, 1) := by decide +kernel
theorem dX11_addAct_1 : decode cX11_addAct 1 = .ok (.iload_n 1, 1) := by decide +kernel
theorem dX11_addAct_2 : decode cX11_addAct 2 = .ok (.invokevirtual 59, 3) := by decide +kernel
theorem dX11_getLine_0 : decode cX11_getLine 0 = .ok (.aload_n 0, 1) := by decide +kernel
theorem dX11_getLine_1 : decode cX11_getLine 1 = .ok (.iload_n 1, 1) := by decide +kernel
theorem dX11_getLine_2 : decode cX11_getLine 2 = .ok (.invokevirtual 59, 3) := by decide +kernel
theorem dX11_setWind_0 : decode cX11_setWind 0 = .ok (.iload_n 1, 1) := by decide +kernel
theorem dX11_setWind_1 : decode cX11_setWind 1 = .ok (.iconst 0, 1) := by decide +kernel
theorem dX11_setWind_2 : decode cX11_setWind 2 = .ok (.bipush 12, 2) := by decide +kernel
theorem dX11_setWind_4 : decode cX11_setWind 4 = .ok (.invokestatic 40, 3) := by decide +kernel
theorem dX11_setWind_7 : decode cX11_setWind 7 = .ok (.iload_n 2, 1) := by decide +kernel
theorem dX11_setWind_8 : decode cX11_setWind 8 = .ok (.bipush 110, 2) := by decide +kernel
theorem dX11_setWind_10 : decode cX11_setWind 10 = .ok (.if_icmp .eq 31, 3) := by decide +kernel
theorem dX11_setWind_13 : decode cX11_setWind 13 = .ok (.iload_n 2, 1) := by decide +kernel
theorem dX11_setWind_14 : decode cX11_setWind 14 = .ok (.bipush 101, 2) := by decide +kernel
theorem dX11_setWind_16 : decode cX11_setWind 16 = .ok (.if_icmp .eq 25, 3) := by decide +kernel
theorem dX11_setWind_19 : decode cX11_setWind 19 = .ok (.iload_n 2, 1) := by decide +kernel
theorem dX11_setWind_20 : decode cX11_setWind 20 = .ok (.bipush 115, 2) := by decide +kernel
theorem dX11_setWind_22 : decode cX11_setWind 22 = .ok (.if_icmp .eq 19, 3) := by decide +kernel
theorem dX11_setWind_25 : decode cX11_setWind 25 = .ok (.iload_n 2, 1) := by decide +kernel
theorem dX11_setWind_26 : decode cX11_setWind 26 = .ok (.bipush 119, 2) := by decide +kernel
theorem dX11_setWind_28 : decode cX11_setWind 28 = .ok (.if_icmp .eq 13, 3) := by decide +kernel
theorem dX11_setWind_31 : decode cX11_setWind 31 = .ok (.new 78, 3) := by decide +kernel
theorem dX11_setWind_34 : decode cX11_setWind 34 = .ok (.dup, 1) := by decide +kernel
theorem dX11_setWind_35 : decode cX11_setWind 35 = .ok (.ldc 80, 2) := by decide +kernel
theorem dX11_setWind_37 : decode cX11_setWind 37 = .ok (.invokespecial 82, 3) := by decide +kernel
theorem dX11_setWind_40 : decode cX11_setWind 40 = .ok (.athrow, 1) := by decide +kernel
theorem dX11_setWind_41 : decode cX11_setWind 41 = .ok (.aload_n 0, 1) := by decide +kernel
theorem dX11_setWind_42 : decode cX11_setWind 42 = .ok (.getfield 85, 3) := by decide +kernel
theorem dX11_setWind_45 : decode cX11_setWind 45 = .ok (.istore_n 3, 1) := by decide +kernel
theorem dX11_setWind_46 : decode cX11_setWind 46 = .ok (.aload_n 0, 1) := by decide +kernel
theorem dX11_setWind_47 : decode cX11_setWind 47 = .ok (.iload_n 1, 1) := by decide +kernel
theorem dX11_setWind_48 : decode cX11_setWind 48 = .ok (.putfield 85, 3) := by decide +kernel
theorem dX11_setWind_51 : decode cX11_setWind 51 = .ok (.aload_n 0, 1) := by decide +kernel
theorem dX11_setWind_52 : decode cX11_setWind 52 = .ok (.iload_n 2, 1) := by decide +kernel
theorem dX11_setWind_53 : decode cX11_setWind 53 = .ok (.putfield 32, 3) := by decide +kernel
theorem dX11_setWind_56 : decode cX11_setWind 56 = .ok (.iload_n 3, 1) := by decide +kernel
theorem dX11_setWind_57 : decode cX11_setWind 57 = .ok (.ireturn, 1) := by decide +kernel
theorem dX11_setTide_0 : decode cX11_setTide 0 = .ok (.iload_n 1, 1) := by decide +kernel
theorem dX11_setTide_1 : decode cX11_setTide 1 = .ok (.bipush (-3), 2) := by decide +kernel
theorem dX11_setTide_3 : decode cX11_setTide 3 = .ok (.iconst 3, 1) := by decide +kernel
theorem dX11_setTide_4 : decode cX11_setTide 4 = .ok (.invokestatic 40, 3) := by decide +kernel
theorem dX11_setTide_7 : decode cX11_setTide 7 = .ok (.iload_n 2, 1) := by decide +kernel
theorem dX11_setTide_8 : decode cX11_setTide 8 = .ok (.bipush (-3), 2) := by decide +kernel
theorem dX11_setTide_10 : decode cX11_setTide 10 = .ok (.iconst 3, 1) := by decide +kernel
theorem dX11_setTide_11 : decode cX11_setTide 11 = .ok (.invokestatic 40, 3) := by decide +kernel
theorem dX11_setTide_14 : decode cX11_setTide 14 = .ok (.aload_n 0, 1) := by decide +kernel
theorem dX11_setTide_15 : decode cX11_setTide 15 = .ok (.getfield 88, 3) := by decide +kernel
theorem dX11_setTide_18 : decode cX11_setTide 18 = .ok (.istore_n 3, 1) := by decide +kernel
theorem dX11_setTide_19 : decode cX11_setTide 19 = .ok (.aload_n 0, 1) := by decide +kernel
theorem dX11_setTide_20 : decode cX11_setTide 20 = .ok (.iload_n 1, 1) := by decide +kernel
theorem dX11_setTide_21 : decode cX11_setTide 21 = .ok (.putfield 88, 3) := by decide +kernel
theorem dX11_setTide_24 : decode cX11_setTide 24 = .ok (.aload_n 0, 1) := by decide +kernel
theorem dX11_setTide_25 : decode cX11_setTide 25 = .ok (.iload_n 2, 1) := by decide +kernel
theorem dX11_setTide_26 : decode cX11_setTide 26 = .ok (.putfield 91, 3) := by decide +kernel
theorem dX11_setTide_29 : decode cX11_setTide 29 = .ok (.iload_n 3, 1) := by decide +kernel
theorem dX11_setTide_30 : decode cX11_setTide 30 = .ok (.ireturn, 1) := by decide +kernel
theorem dX11_addTown_0 : decode cX11_addTown 0 = .ok (.aload_n 0, 1) := by decide +kernel
theorem dX11_addTown_1 : decode cX11_addTown 1 = .ok (.iload_n 1, 1) := by decide +kernel
theorem dX11_addTown_2 : decode cX11_addTown 2 = .ok (.invokevirtual 59, 3) := by decide +kernel
theorem dX11_pass_0 : decode cX11_pass 0 = .ok (.iload_n 1, 1) := by decide +kernel
theorem dX11_pass_1 : decode cX11_pass 1 = .ok (.iconst 1, 1) := by decide +kernel
theorem dX11_pass_2 : decode cX11_pass 2 = .ok (.bipush 96, 2) := by decide +kernel
theorem dX11_pass_4 : decode cX11_pass 4 = .ok (.invokestatic 40, 3) := by decide +kernel
theorem dX11_pass_7 : decode cX11_pass 7 = .ok (.iconst 0, 1) := by decide +kernel
theorem dX11_pass_8 : decode cX11_pass 8 = .ok (.istore_n 2, 1) := by decide +kernel
theorem dX11_pass_9 : decode cX11_pass 9 = .ok (.iload_n 2, 1) := by decide +kernel
theorem dX11_pass_10 : decode cX11_pass 10 = .ok (.iload_n 1, 1) := by decide +kernel
theorem dX11_pass_11 : decode cX11_pass 11 = .ok (.if_icmp .ge 13, 3) := by decide +kernel
theorem dX11_pass_14 : decode cX11_pass 14 = .ok (.aload_n 0, 1) := by decide +kernel
theorem dX11_pass_15 : decode cX11_pass 15 = .ok (.invokevirtual 99, 3) := by decide +kernel
theorem dX11_pass_18 : decode cX11_pass 18 = .ok (.iinc 2 1, 3) := by decide +kernel
theorem dX11_pass_21 : decode cX11_pass 21 = .ok (.goto (-12), 3) := by decide +kernel
theorem dX11_pass_24 : decode cX11_pass 24 = .ok (.aload_n 0, 1) := by decide +kernel
theorem dX11_pass_25 : decode cX11_pass 25 = .ok (.getfield 63, 3) := by decide +kernel
theorem dX11_pass_28 : decode cX11_pass 28 = .ok (.ireturn, 1) := by decide +kernel
theorem dX11_addShip_0 : decode cX11_addShip 0 = .ok (.iload_n 1, 1) := by decide +kernel
theorem dX11_addShip_1 : decode cX11_addShip 1 = .ok (.iload_n 2, 1) := by decide +kernel
theorem dX11_addShip_2 : decode cX11_addShip 2 = .ok (.invokestatic 36, 3) := by decide +kernel
theorem dX11_addShip_5 : decode cX11_addShip 5 = .ok (.aload_n 0, 1) := by decide +kernel
theorem dX11_addShip_6 : decode cX11_addShip 6 = .ok (.getfield 19, 3) := by decide +kernel
theorem dX11_addShip_9 : decode cX11_addShip 9 = .ok (.invokevirtual 44, 3) := by decide +kernel
theorem dX11_addShip_12 : decode cX11_addShip 12 = .ok (.iconst 4, 1) := by decide +kernel
theorem dX11_addShip_13 : decode cX11_addShip 13 = .ok (.invokestatic 48, 3) := by decide +kernel
theorem dX11_addShip_16 : decode cX11_addShip 16 = .ok (.aload_n 0, 1) := by decide +kernel
theorem dX11_addShip_17 : decode cX11_addShip 17 = .ok (.getfield 19, 3) := by decide +kernel
theorem dX11_addShip_20 : decode cX11_addShip 20 = .ok (.new 102, 3) := by decide +kernel
theorem dX11_addShip_23 : decode cX11_addShip 23 = .ok (.dup, 1) := by decide +kernel
theorem dX11_addShip_24 : decode cX11_addShip 24 = .ok (.iload_n 1, 1) := by decide +kernel
theorem dX11_addShip_25 : decode cX11_addShip 25 = .ok (.iload_n 2, 1) := by decide +kernel
theorem dX11_addShip_26 : decode cX11_addShip 26 = .ok (.invokespecial 104, 3) := by decide +kernel
theorem dX11_addShip_29 : decode cX11_addShip 29 = .ok (.invokevirtual 55, 3) := by decide +kernel
theorem dX11_addShip_32 : decode cX11_addShip 32 = .ok (.pop, 1) := by decide +kernel
theorem dX11_addShip_33 : decode cX11_addShip 33 = .ok (.aload_n 0, 1) := by decide +kernel
theorem dX11_addShip_34 : decode cX11_addShip 34 = .ok (.getfield 19, 3) := by decide +kernel
theorem dX11_addShip_37 : decode cX11_addShip 37 = .ok (.invokevirtual 44, 3) := by decide +kernel
theorem dX11_addShip_40 : decode cX11_addShip 40 = .ok (.iconst 1, 1) := by decide +kernel
theorem dX11_addShip_41 : decode cX11_addShip 41 = .ok (.isub, 1) := by decide +kernel
theorem dX11_addShip_42 : decode cX11_addShip 42 = .ok (.ireturn, 1) := by decide +kernel
theorem dX11_getPlace_0 : decode cX11_getPlace 0 = .ok (.aload_n 0, 1) := by decide +kernel
theorem dX11_getPlace_1 : decode cX11_getPlace 1 = .ok (.iload_n 1, 1) := by decide +kernel
theorem dX11_getPlace_2 : decode cX11_getPlace 2 = .ok (.invokevirtual 106, 3) := by decide +kernel
theorem dX11_getInside_0 : decode cX11_getInside 0 = .ok (.aload_n 0, 1) := by decide +kernel
theorem dX11_getInside_1 : decode cX11_getInside 1 = .ok (.aload_n 0, 1) := by decide +kernel
theorem dX11_getInside_2 : decode cX11_getInside 2 = .ok (.iload_n 1, 1) := by decide +kernel
theorem dX11_getInside_3 : decode cX11_getInside 3 = .ok (.invokevirtual 106, 3) := by decide +kernel
theorem dX11_anchor_0 : decode cX11_anchor 0 = .ok (.aload_n 0, 1) := by decide +kernel
theorem dX11_anchor_1 : decode cX11_anchor 1 = .ok (.iload_n 1, 1) := by decide +kernel
theorem dX11_anchor_2 : decode cX11_anchor 2 = .ok (.invokevirtual 106, 3) := by decide +kernel
theorem dX11_weigh_0 : decode cX11_weigh 0 = .ok (.aload_n 0, 1) := by decide +kernel
theorem dX11_weigh_1 : decode cX11_weigh 1 = .ok (.iload_n 1, 1) := by decide +kernel
theorem dX11_weigh_2 : decode cX11_weigh 2 = .ok (.invokevirtual 106, 3) := by decide +kernel
theorem dX11_isAground_0 : decode cX11_isAground 0 = .ok (.aload_n 0, 1) := by decide +kernel
theorem dX11_isAground_1 : decode cX11_isAground 1 = .ok (.aload_n 0, 1) := by decide +kernel
theorem dX11_isAground_2 : decode cX11_isAground 2 = .ok (.iload_n 1, 1) := by decide +kernel
theorem dX11_isAground_3 : decode cX11_isAground 3 = .ok (.invokevirtual 106, 3) := by decide +kernel
theorem dX11_pullOff_0 : decode cX11_pullOff 0 = .ok (.aload_n 0, 1) := by decide +kernel
theorem dX11_pullOff_1 : decode cX11_pullOff 1 = .ok (.iload_n 1, 1) := by decide +kernel
theorem dX11_pullOff_2 : decode cX11_pullOff 2 = .ok (.invokevirtual 106, 3) := by decide +kernel
theorem dX11_addGenerator_0 : decode cX11_addGenerator 0 = .ok (.aload_n 0, 1) := by decide +kernel
theorem dX11_addGenerator_1 : decode cX11_addGenerator 1 = .ok (.iload_n 1, 1) := by decide +kernel
theorem dX11_addGenerator_2 : decode cX11_addGenerator 2 = .ok (.invokevirtual 106, 3) := by decide +kernel
theorem dX11_setGenerator_0 : decode cX11_setGenerator 0 = .ok (.aload_n 0, 1) := by decide +kernel
theorem dX11_setGenerator_1 : decode cX11_setGenerator 1 = .ok (.iload_n 1, 1) := by decide +kernel
theorem dX11_setGenerator_2 : decode cX11_setGenerator 2 = .ok (.invokevirtual 106, 3) := by decide +kernel
theorem dX11_getFuel_0 : decode cX11_getFuel 0 = .ok (.aload_n 0, 1) := by decide +kernel
theorem dX11_getFuel_1 : decode cX11_getFuel 1 = .ok (.iload_n 1, 1) := by decide +kernel
theorem dX11_getFuel_2 : decode cX11_getFuel 2 = .ok (.invokevirtual 106, 3) := by decide +kernel
theorem dX11_getFood_0 : decode cX11_getFood 0 = .ok (.aload_n 0, 1) := by decide +kernel
theorem dX11_getFood_1 : decode cX11_getFood 1 = .ok (.iload_n 1, 1) := by decide +kernel
theorem dX11_getFood_2 : decode cX11_getFood 2 = .ok (.invokevirtual 106, 3) := by decide +kernel
theorem dX11_getSalt_0 : decode cX11_getSalt 0 = .ok (.aload_n 0, 1) := by decide +kernel
theorem dX11_getSalt_1 : decode cX11_getSalt 1 = .ok (.iload_n 1, 1) := by decide +kernel
theorem dX11_getSalt_2 : decode cX11_getSalt 2 = .ok (.invokevirtual 106, 3) := by decide +kernel
theorem dX11_wash_0 : decode cX11_wash 0 = .ok (.aload_n 0, 1) := by decide +kernel
theorem dX11_wash_1 : decode cX11_wash 1 = .ok (.iload_n 1, 1) := by decide +kernel
theorem dX11_wash_2 : decode cX11_wash 2 = .ok (.invokevirtual 106, 3) := by decide +kernel
theorem dX11_setPower_0 : decode cX11_setPower 0 = .ok (.aload_n 0, 1) := by decide +kernel
theorem dX11_setPower_1 : decode cX11_setPower 1 = .ok (.iload_n 1, 1) := by decide +kernel
theorem dX11_setPower_2 : decode cX11_setPower 2 = .ok (.invokevirtual 106, 3) := by decide +kernel
theorem dX11_getChannel_0 : decode cX11_getChannel 0 = .ok (.aload_n 0, 1) := by decide +kernel
theorem dX11_getChannel_1 : decode cX11_getChannel 1 = .ok (.iload_n 1, 1) := by decide +kernel
theorem dX11_getChannel_2 : decode cX11_getChannel 2 = .ok (.invokevirtual 106, 3) := by decide +kernel
theorem dX11_isOnAir_0 : decode cX11_isOnAir 0 = .ok (.aload_n 0, 1) := by decide +kernel
theorem dX11_isOnAir_1 : decode cX11_isOnAir 1 = .ok (.iload_n 1, 1) := by decide +kernel
theorem dX11_isOnAir_2 : decode cX11_isOnAir 2 = .ok (.invokevirtual 106, 3) := by decide +kernel
theorem dX11_getSignal_0 : decode cX11_getSignal 0 = .ok (.aload_n 0, 1) := by decide +kernel
theorem dX11_getSignal_1 : decode cX11_getSignal 1 = .ok (.iload_n 1, 1) := by decide +kernel
theorem dX11_getSignal_2 : decode cX11_getSignal 2 = .ok (.invokevirtual 106, 3) := by decide +kernel
theorem dX11_getHeard_0 : decode cX11_getHeard 0 = .ok (.aload_n 0, 1) := by decide +kernel
theorem dX11_getHeard_1 : decode cX11_getHeard 1 = .ok (.iload_n 1, 1) := by decide +kernel
theorem dX11_getHeard_2 : decode cX11_getHeard 2 = .ok (.invokevirtual 202, 3) := by decide +kernel
theorem dX11_getListeners_0 : decode cX11_getListeners 0 = .ok (.aload_n 0, 1) := by decide +kernel
theorem dX11_getListeners_1 : decode cX11_getListeners 1 = .ok (.iload_n 1, 1) := by decide +kernel
theorem dX11_getListeners_2 : decode cX11_getListeners 2 = .ok (.invokevirtual 106, 3) := by decide +kernel
theorem dX11_addPerson_0 : decode cX11_addPerson 0 = .ok (.aload_n 0, 1) := by decide +kernel
theorem dX11_addPerson_1 : decode cX11_addPerson 1 = .ok (.iload_n 1, 1) := by decide +kernel
theorem dX11_addPerson_2 : decode cX11_addPerson 2 = .ok (.invokevirtual 59, 3) := by decide +kernel
theorem dX11_getAboard_0 : decode cX11_getAboard 0 = .ok (.aload_n 0, 1) := by decide +kernel
theorem dX11_getAboard_1 : decode cX11_getAboard 1 = .ok (.iload_n 1, 1) := by decide +kernel
theorem dX11_getAboard_2 : decode cX11_getAboard 2 = .ok (.invokevirtual 223, 3) := by decide +kernel
theorem dX11_isTired_0 : decode cX11_isTired 0 = .ok (.aload_n 0, 1) := by decide +kernel
theorem dX11_isTired_1 : decode cX11_isTired 1 = .ok (.iload_n 1, 1) := by decide +kernel
theorem dX11_isTired_2 : decode cX11_isTired 2 = .ok (.invokevirtual 223, 3) := by decide +kernel
theorem dX11_load_0 : decode cX11_load 0 = .ok (.aload_n 0, 1) := by decide +kernel
theorem dX11_load_1 : decode cX11_load 1 = .ok (.iload_n 1, 1) := by decide +kernel
theorem dX11_load_2 : decode cX11_load 2 = .ok (.invokevirtual 59, 3) := by decide +kernel
theorem dX11_book_0 : decode cX11_book 0 = .ok (.aload_n 0, 1) := by decide +kernel
theorem dX11_book_1 : decode cX11_book 1 = .ok (.iload_n 1, 1) := by decide +kernel
theorem dX11_book_2 : decode cX11_book 2 = .ok (.invokevirtual 59, 3) := by decide +kernel
theorem dX11_send_0 : decode cX11_send 0 = .ok (.aload_n 0, 1) := by decide +kernel
theorem dX11_send_1 : decode cX11_send 1 = .ok (.iload_n 1, 1) := by decide +kernel
theorem dX11_send_2 : decode cX11_send 2 = .ok (.invokevirtual 59, 3) := by decide +kernel
theorem dX11_plan_0 : decode cX11_plan 0 = .ok (.aload_n 0, 1) := by decide +kernel
theorem dX11_plan_1 : decode cX11_plan 1 = .ok (.iload_n 1, 1) := by decide +kernel
theorem dX11_plan_2 : decode cX11_plan 2 = .ok (.invokevirtual 106, 3) := by decide +kernel
theorem dX11_getSpeaker_0 : decode cX11_getSpeaker 0 = .ok (.aload_n 0, 1) := by decide +kernel
theorem dX11_getSpeaker_1 : decode cX11_getSpeaker 1 = .ok (.iload_n 1, 1) := by decide +kernel
theorem dX11_getSpeaker_2 : decode cX11_getSpeaker 2 = .ok (.invokevirtual 106, 3) := by decide +kernel
theorem dX11_isMutiny_0 : decode cX11_isMutiny 0 = .ok (.aload_n 0, 1) := by decide +kernel
theorem dX11_isMutiny_1 : decode cX11_isMutiny 1 = .ok (.iload_n 1, 1) := by decide +kernel
theorem dX11_isMutiny_2 : decode cX11_isMutiny 2 = .ok (.invokevirtual 106, 3) := by decide +kernel
theorem dX11_sell_0 : decode cX11_sell 0 = .ok (.aload_n 0, 1) := by decide +kernel
theorem dX11_sell_1 : decode cX11_sell 1 = .ok (.iload_n 1, 1) := by decide +kernel
theorem dX11_sell_2 : decode cX11_sell 2 = .ok (.invokevirtual 106, 3) := by decide +kernel
theorem dX11_bank_0 : decode cX11_bank 0 = .ok (.aload_n 0, 1) := by decide +kernel
theorem dX11_bank_1 : decode cX11_bank 1 = .ok (.dup, 1) := by decide +kernel
theorem dX11_bank_2 : decode cX11_bank 2 = .ok (.getfield 157, 3) := by decide +kernel
theorem dX11_bank_5 : decode cX11_bank 5 = .ok (.aload_n 0, 1) := by decide +kernel
theorem dX11_bank_6 : decode cX11_bank 6 = .ok (.iload_n 1, 1) := by decide +kernel
theorem dX11_bank_7 : decode cX11_bank 7 = .ok (.invokevirtual 106, 3) := by decide +kernel
theorem dX11_getEarned_0 : decode cX11_getEarned 0 = .ok (.aload_n 0, 1) := by decide +kernel
theorem dX11_getEarned_1 : decode cX11_getEarned 1 = .ok (.iload_n 1, 1) := by decide +kernel
theorem dX11_getEarned_2 : decode cX11_getEarned 2 = .ok (.invokevirtual 106, 3) := by decide +kernel
theorem dX11_getMoney_0 : decode cX11_getMoney 0 = .ok (.aload_n 0, 1) := by decide +kernel
theorem dX11_getMoney_1 : decode cX11_getMoney 1 = .ok (.getfield 157, 3) := by decide +kernel
theorem dX11_getMoney_4 : decode cX11_getMoney 4 = .ok (.ireturn, 1) := by decide +kernel
theorem dX11_getEvidence_0 : decode cX11_getEvidence 0 = .ok (.aload_n 0, 1) := by decide +kernel
theorem dX11_getEvidence_1 : decode cX11_getEvidence 1 = .ok (.iload_n 1, 1) := by decide +kernel
theorem dX11_getEvidence_2 : decode cX11_getEvidence 2 = .ok (.invokevirtual 59, 3) := by decide +kernel
theorem dX11_raid_0 : decode cX11_raid 0 = .ok (.aload_n 0, 1) := by decide +kernel
theorem dX11_raid_1 : decode cX11_raid 1 = .ok (.iload_n 1, 1) := by decide +kernel
theorem dX11_raid_2 : decode cX11_raid 2 = .ok (.invokevirtual 59, 3) := by decide +kernel
theorem dX11_board_0 : decode cX11_board 0 = .ok (.aload_n 0, 1) := by decide +kernel
theorem dX11_board_1 : decode cX11_board 1 = .ok (.iload_n 1, 1) := by decide +kernel
theorem dX11_board_2 : decode cX11_board 2 = .ok (.invokevirtual 106, 3) := by decide +kernel
theorem dX11_getKept_0 : decode cX11_getKept 0 = .ok (.aload_n 0, 1) := by decide +kernel
theorem dX11_getKept_1 : decode cX11_getKept 1 = .ok (.getfield 28, 3) := by decide +kernel
theorem dX11_getKept_4 : decode cX11_getKept 4 = .ok (.getfield 333, 3) := by decide +kernel
theorem dX11_getKept_7 : decode cX11_getKept 7 = .ok (.getfield 337, 3) := by decide +kernel
theorem dX11_getKept_10 : decode cX11_getKept 10 = .ok (.ireturn, 1) := by decide +kernel
theorem dX11_addRecording_0 : decode cX11_addRecording 0 = .ok (.iload_n 1, 1) := by decide +kernel
theorem dX11_addRecording_1 : decode cX11_addRecording 1 = .ok (.iconst (-1), 1) := by decide +kernel
theorem dX11_addRecording_2 : decode cX11_addRecording 2 = .ok (.bipush 9, 2) := by decide +kernel
theorem dX11_addRecording_4 : decode cX11_addRecording 4 = .ok (.invokestatic 40, 3) := by decide +kernel
theorem dX11_addRecording_7 : decode cX11_addRecording 7 = .ok (.iload_n 2, 1) := by decide +kernel
theorem dX11_addRecording_8 : decode cX11_addRecording 8 = .ok (.iconst (-1), 1) := by decide +kernel
theorem dX11_addRecording_9 : decode cX11_addRecording 9 = .ok (.iconst 3, 1) := by decide +kernel
theorem dX11_addRecording_10 : decode cX11_addRecording 10 = .ok (.invokestatic 40, 3) := by decide +kernel
theorem dX11_addRecording_13 : decode cX11_addRecording 13 = .ok (.iload_n 3, 1) := by decide +kernel
theorem dX11_addRecording_14 : decode cX11_addRecording 14 = .ok (.iconst (-1), 1) := by decide +kernel
theorem dX11_addRecording_15 : decode cX11_addRecording 15 = .ok (.if_icmp .eq 29, 3) := by decide +kernel
theorem dX11_addRecording_18 : decode cX11_addRecording 18 = .ok (.iload_n 3, 1) := by decide +kernel
theorem dX11_addRecording_19 : decode cX11_addRecording 19 = .ok (.sipush 200, 3) := by decide +kernel
theorem dX11_addRecording_22 : decode cX11_addRecording 22 = .ok (.if_icmp .eq 22, 3) := by decide +kernel
theorem dX11_addRecording_25 : decode cX11_addRecording 25 = .ok (.aload_n 0, 1) := by decide +kernel
theorem dX11_addRecording_26 : decode cX11_addRecording 26 = .ok (.iload_n 3, 1) := by decide +kernel
theorem dX11_addRecording_27 : decode cX11_addRecording 27 = .ok (.invokevirtual 269, 3) := by decide +kernel
theorem dX11_addRecording_30 : decode cX11_addRecording 30 = .ok (.ifCond .ne 14, 3) := by decide +kernel
theorem dX11_addRecording_33 : decode cX11_addRecording 33 = .ok (.new 78, 3) := by decide +kernel
theorem dX11_addRecording_36 : decode cX11_addRecording 36 = .ok (.dup, 1) := by decide +kernel
theorem dX11_addRecording_37 : decode cX11_addRecording 37 = .ok (.ldc_w 342, 3) := by decide +kernel
theorem dX11_addRecording_40 : decode cX11_addRecording 40 = .ok (.invokespecial 82, 3) := by decide +kernel
theorem dX11_addRecording_43 : decode cX11_addRecording 43 = .ok (.athrow, 1) := by decide +kernel
theorem dX11_addRecording_44 : decode cX11_addRecording 44 = .ok (.aload_n 0, 1) := by decide +kernel
theorem dX11_addRecording_45 : decode cX11_addRecording 45 = .ok (.getfield 28, 3) := by decide +kernel
theorem dX11_addRecording_48 : decode cX11_addRecording 48 = .ok (.getfield 344, 3) := by decide +kernel
theorem dX11_addRecording_51 : decode cX11_addRecording 51 = .ok (.invokevirtual 44, 3) := by decide +kernel
theorem dX11_addRecording_54 : decode cX11_addRecording 54 = .ok (.bipush 6, 2) := by decide +kernel
theorem dX11_addRecording_56 : decode cX11_addRecording 56 = .ok (.invokestatic 48, 3) := by decide +kernel
theorem dX11_addRecording_59 : decode cX11_addRecording 59 = .ok (.aload_n 0, 1) := by decide +kernel
theorem dX11_addRecording_60 : decode cX11_addRecording 60 = .ok (.getfield 28, 3) := by decide +kernel
theorem dX11_addRecording_63 : decode cX11_addRecording 63 = .ok (.getfield 344, 3) := by decide +kernel
theorem dX11_addRecording_66 : decode cX11_addRecording 66 = .ok (.new 347, 3) := by decide +kernel
theorem dX11_addRecording_69 : decode cX11_addRecording 69 = .ok (.dup, 1) := by decide +kernel
theorem dX11_addRecording_70 : decode cX11_addRecording 70 = .ok (.iload_n 1, 1) := by decide +kernel
theorem dX11_addRecording_71 : decode cX11_addRecording 71 = .ok (.iload_n 2, 1) := by decide +kernel
theorem dX11_addRecording_72 : decode cX11_addRecording 72 = .ok (.iload_n 3, 1) := by decide +kernel
theorem dX11_addRecording_73 : decode cX11_addRecording 73 = .ok (.invokespecial 349, 3) := by decide +kernel
theorem dX11_addRecording_76 : decode cX11_addRecording 76 = .ok (.invokevirtual 55, 3) := by decide +kernel
theorem dX11_addRecording_79 : decode cX11_addRecording 79 = .ok (.pop, 1) := by decide +kernel
theorem dX11_addRecording_80 : decode cX11_addRecording 80 = .ok (.aload_n 0, 1) := by decide +kernel
theorem dX11_addRecording_81 : decode cX11_addRecording 81 = .ok (.getfield 28, 3) := by decide +kernel
theorem dX11_addRecording_84 : decode cX11_addRecording 84 = .ok (.getfield 344, 3) := by decide +kernel
theorem dX11_addRecording_87 : decode cX11_addRecording 87 = .ok (.invokevirtual 44, 3) := by decide +kernel
theorem dX11_addRecording_90 : decode cX11_addRecording 90 = .ok (.iconst 1, 1) := by decide +kernel
theorem dX11_addRecording_91 : decode cX11_addRecording 91 = .ok (.isub, 1) := by decide +kernel
theorem dX11_addRecording_92 : decode cX11_addRecording 92 = .ok (.ireturn, 1) := by decide +kernel
theorem dX11_addAhead_0 : decode cX11_addAhead 0 = .ok (.aload_n 0, 1) := by decide +kernel
theorem dX11_addAhead_1 : decode cX11_addAhead 1 = .ok (.iload_n 1, 1) := by decide +kernel
theorem dX11_addAhead_2 : decode cX11_addAhead 2 = .ok (.invokevirtual 350, 3) := by decide +kernel
theorem dX11_getChoices_0 : decode cX11_getChoices 0 = .ok (.aload_n 0, 1) := by decide +kernel
theorem dX11_getChoices_1 : decode cX11_getChoices 1 = .ok (.iload_n 1, 1) := by decide +kernel
theorem dX11_getChoices_2 : decode cX11_getChoices 2 = .ok (.invokevirtual 350, 3) := by decide +kernel
theorem dX11_getDate_0 : decode cX11_getDate 0 = .ok (.aload_n 0, 1) := by decide +kernel
theorem dX11_getDate_1 : decode cX11_getDate 1 = .ok (.iload_n 1, 1) := by decide +kernel
theorem dX11_getDate_2 : decode cX11_getDate 2 = .ok (.invokevirtual 350, 3) := by decide +kernel
theorem dX11_getNightShare_0 : decode cX11_getNightShare 0 = .ok (.aload_n 0, 1) := by decide +kernel
theorem dX11_getNightShare_1 : decode cX11_getNightShare 1 = .ok (.getfield 28, 3) := by decide +kernel
theorem dX11_getNightShare_4 : decode cX11_getNightShare 4 = .ok (.getfield 333, 3) := by decide +kernel
theorem dX11_getNightShare_7 : decode cX11_getNightShare 7 = .ok (.getfield 337, 3) := by decide +kernel
theorem dX11_getNightShare_10 : decode cX11_getNightShare 10 = .ok (.istore_n 1, 1) := by decide +kernel
theorem dX11_getNightShare_11 : decode cX11_getNightShare 11 = .ok (.iload_n 1, 1) := by decide +kernel
theorem dX11_getNightShare_12 : decode cX11_getNightShare 12 = .ok (.ifCond .ne 14, 3) := by decide +kernel
theorem dX11_getNightShare_15 : decode cX11_getNightShare 15 = .ok (.new 377, 3) := by decide +kernel
theorem dX11_getNightShare_18 : decode cX11_getNightShare 18 = .ok (.dup, 1) := by decide +kernel
theorem dX11_getNightShare_19 : decode cX11_getNightShare 19 = .ok (.ldc_w 379, 3) := by decide +kernel
theorem dX11_getNightShare_22 : decode cX11_getNightShare 22 = .ok (.invokespecial 381, 3) := by decide +kernel
theorem dX11_getNightShare_25 : decode cX11_getNightShare 25 = .ok (.athrow, 1) := by decide +kernel
theorem dX11_getMeanCrew_0 : decode cX11_getMeanCrew 0 = .ok (.aload_n 0, 1) := by decide +kernel
theorem dX11_getMeanCrew_1 : decode cX11_getMeanCrew 1 = .ok (.getfield 19, 3) := by decide +kernel
theorem dX11_getMeanCrew_4 : decode cX11_getMeanCrew 4 = .ok (.invokevirtual 44, 3) := by decide +kernel
theorem dX11_getMeanCrew_7 : decode cX11_getMeanCrew 7 = .ok (.istore_n 1, 1) := by decide +kernel
theorem dX11_getMeanCrew_8 : decode cX11_getMeanCrew 8 = .ok (.iload_n 1, 1) := by decide +kernel
theorem dX11_getMeanCrew_9 : decode cX11_getMeanCrew 9 = .ok (.ifCond .ne 14, 3) := by decide +kernel
theorem dX11_getMeanCrew_12 : decode cX11_getMeanCrew 12 = .ok (.new 377, 3) := by decide +kernel
theorem dX11_getMeanCrew_15 : decode cX11_getMeanCrew 15 = .ok (.dup, 1) := by decide +kernel
theorem dX11_getMeanCrew_16 : decode cX11_getMeanCrew 16 = .ok (.ldc_w 385, 3) := by decide +kernel
theorem dX11_getMeanCrew_19 : decode cX11_getMeanCrew 19 = .ok (.invokespecial 381, 3) := by decide +kernel
theorem dX11_getMeanCrew_22 : decode cX11_getMeanCrew 22 = .ok (.athrow, 1) := by decide +kernel
theorem dX11_checksum_0 : decode cX11_checksum 0 = .ok (.ldc2_w 390, 3) := by decide +kernel
theorem dX11_checksum_3 : decode cX11_checksum 3 = .ok (.lstore_n 1, 1) := by decide +kernel
theorem dX11_checksum_4 : decode cX11_checksum 4 = .ok (.iconst 0, 1) := by decide +kernel
theorem dX11_checksum_5 : decode cX11_checksum 5 = .ok (.istore_n 3, 1) := by decide +kernel
