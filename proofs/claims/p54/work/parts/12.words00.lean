theorem kw_395 : Cond.classLink "GalleonWave" 78 "java/lang/IllegalArgumentException" ∈ kw := kw_in (List.mem_append_right _ (tb2 _ (List.mem_of_getElem? (i := 179) (by decide +kernel)))) (by decide +kernel)
theorem kw_396 : Cond.initialized "java/lang/IllegalArgumentException" ∈ kw := kw_in (List.mem_append_right _ (tb1 _ (List.mem_of_getElem? (i := 10) (by decide +kernel)))) (by decide +kernel)
theorem kw_397 : Cond.code ⟨"GalleonWave", "requirePlace", "(II)V"⟩ prog_1_method_54_code 2 none ∈ kw := kw_in (List.mem_append_right _ (tb2 _ (List.mem_of_getElem? (i := 175) (by decide +kernel)))) (by decide +kernel)
theorem kw_398 : Cond.methodLink "GalleonWave" 36 ⟨"GalleonWave", "requirePlace", "(II)V"⟩ ∈ kw := kw_in (List.mem_append_right _ (tb2 _ (List.mem_of_getElem? (i := 173) (by decide +kernel)))) (by decide +kernel)
theorem kw_399 : Cond.static ⟨"GalleonWave", "requirePlace", "(II)V"⟩ ∈ kw := kw_in (List.mem_append_right _ (tb2 _ (List.mem_of_getElem? (i := 174) (by decide +kernel)))) (by decide +kernel)
theorem kw_400 : Cond.classLink "GalleonWave" 410 "java/lang/IndexOutOfBoundsException" ∈ kw := kw_in (List.mem_append_right _ (tb3 _ (List.mem_of_getElem? (i := 137) (by decide +kernel)))) (by decide +kernel)
theorem kw_401 : Cond.initialized "java/lang/IndexOutOfBoundsException" ∈ kw := kw_in (List.mem_append_right _ (tb1 _ (List.mem_of_getElem? (i := 20) (by decide +kernel)))) (by decide +kernel)
theorem kw_402 : Cond.code ⟨"GalleonWave", "requireNumber", "(II)V"⟩ prog_1_method_56_code 2 none ∈ kw := kw_in (List.mem_append_right _ (tb3 _ (List.mem_of_getElem? (i := 136) (by decide +kernel)))) (by decide +kernel)
theorem kw_403 : Cond.methodLink "GalleonWave" 166 ⟨"GalleonWave", "requireNumber", "(II)V"⟩ ∈ kw := kw_in (List.mem_append_right _ (tb3 _ (List.mem_of_getElem? (i := 134) (by decide +kernel)))) (by decide +kernel)
theorem kw_404 : Cond.static ⟨"GalleonWave", "requireNumber", "(II)V"⟩ ∈ kw := kw_in (List.mem_append_right _ (tb3 _ (List.mem_of_getElem? (i := 135) (by decide +kernel)))) (by decide +kernel)
theorem kw_405 : Cond.code ⟨"GalleonWave", "landAt", "(I)LGalleonWave$Land;"⟩ prog_1_method_58_code 2 (some (.object "GalleonWave$Land")) ∈ kw := kw_in (List.mem_append_right _ (tb3 _ (List.mem_of_getElem? (i := 133) (by decide +kernel)))) (by decide +kernel)
theorem kw_406 : Cond.methodLink "GalleonWave" 59 ⟨"GalleonWave", "landAt", "(I)LGalleonWave$Land;"⟩ ∈ kw := kw_in (List.mem_append_right _ (tb3 _ (List.mem_of_getElem? (i := 130) (by decide +kernel)))) (by decide +kernel)
theorem kw_407 : Cond.instanceMethod ⟨"GalleonWave", "landAt", "(I)LGalleonWave$Land;"⟩ ∈ kw := kw_in (List.mem_append_right _ (tb3 _ (List.mem_of_getElem? (i := 132) (by decide +kernel)))) (by decide +kernel)
theorem kw_408 : Cond.selects "GalleonWave" ⟨"GalleonWave", "landAt", "(I)LGalleonWave$Land;"⟩ ⟨"GalleonWave", "landAt", "(I)LGalleonWave$Land;"⟩ ∈ kw := kw_in (List.mem_append_left _ (List.mem_of_getElem? (i := 10) (by decide +kernel))) (by decide +kernel)
theorem kw_409 : Cond.code ⟨"GalleonWave", "requireRoom", "(II)V"⟩ prog_1_method_55_code 2 none ∈ kw := kw_in (List.mem_append_right _ (tb2 _ (List.mem_of_getElem? (i := 197) (by decide +kernel)))) (by decide +kernel)
theorem kw_410 : Cond.methodLink "GalleonWave" 48 ⟨"GalleonWave", "requireRoom", "(II)V"⟩ ∈ kw := kw_in (List.mem_append_right _ (tb2 _ (List.mem_of_getElem? (i := 195) (by decide +kernel)))) (by decide +kernel)
theorem kw_411 : Cond.static ⟨"GalleonWave", "requireRoom", "(II)V"⟩ ∈ kw := kw_in (List.mem_append_right _ (tb2 _ (List.mem_of_getElem? (i := 196) (by decide +kernel)))) (by decide +kernel)
theorem kw_412 : Cond.instantiable "GalleonWave$Land" 11 ∈ kw := kw_in (List.mem_append_right _ (tb2 _ (List.mem_of_getElem? (i := 215) (by decide +kernel)))) (by decide +kernel)
theorem kw_413 : Cond.code ⟨"GalleonWave$Land", "<init>", "(III)V"⟩ prog_6_method_1_code 4 none ∈ kw := kw_in (List.mem_append_right _ (tb2 _ (List.mem_of_getElem? (i := 218) (by decide +kernel)))) (by decide +kernel)
theorem kw_414 : Cond.methodLink "GalleonWave" 53 ⟨"GalleonWave$Land", "<init>", "(III)V"⟩ ∈ kw := kw_in (List.mem_append_right _ (tb2 _ (List.mem_of_getElem? (i := 216) (by decide +kernel)))) (by decide +kernel)
theorem kw_415 : Cond.instanceMethod ⟨"GalleonWave$Land", "<init>", "(III)V"⟩ ∈ kw := kw_in (List.mem_append_right _ (tb2 _ (List.mem_of_getElem? (i := 217) (by decide +kernel)))) (by decide +kernel)
theorem kw_416 : Cond.code ⟨"java/util/ArrayList", "add", "(Ljava/lang/Object;)Z"⟩ prog_38_method_25_code 2 (some .boolean) ∈ kw := kw_in (List.mem_append_right _ (tb3 _ (List.mem_of_getElem? (i := 23) (by decide +kernel)))) (by decide +kernel)
theorem kw_417 : Cond.methodLink "GalleonWave" 55 ⟨"java/util/ArrayList", "add", "(Ljava/lang/Object;)Z"⟩ ∈ kw := kw_in (List.mem_append_right _ (tb3 _ (List.mem_of_getElem? (i := 20) (by decide +kernel)))) (by decide +kernel)
theorem kw_418 : Cond.castable "GalleonWave$Land" "java/lang/Object" ∈ kw := kw_in (List.mem_append_right _ (tb6 _ (List.mem_of_getElem? (i := 149) (by decide +kernel)))) (by decide +kernel)
theorem kw_419 : Cond.instanceMethod ⟨"java/util/ArrayList", "add", "(Ljava/lang/Object;)Z"⟩ ∈ kw := kw_in (List.mem_append_right _ (tb3 _ (List.mem_of_getElem? (i := 21) (by decide +kernel)))) (by decide +kernel)
theorem kw_420 : Cond.selects "java/util/ArrayList" ⟨"java/util/ArrayList", "add", "(Ljava/lang/Object;)Z"⟩ ⟨"java/util/ArrayList", "add", "(Ljava/lang/Object;)Z"⟩ ∈ kw := kw_in (List.mem_append_right _ (tb3 _ (List.mem_of_getElem? (i := 22) (by decide +kernel)))) (by decide +kernel)
theorem ydJx4a65c_add_9ea2d : (yJx4a65c_add_9ea2d.cls ≠ "java/lang/invoke/MethodHandle" ∧ yJx4a65c_add_9ea2d.cls ≠ "java/lang/invoke/VarHandle") ∧ (parseMethodDescriptor yJx4a65c_add_9ea2d.desc).map (fun d => d.parameters.length) = some 1 := by decide +kernel
theorem ydX11_landAt : (yX11_landAt.cls ≠ "java/lang/invoke/MethodHandle" ∧ yX11_landAt.cls ≠ "java/lang/invoke/VarHandle") ∧ (parseMethodDescriptor yX11_landAt.desc).map (fun d => d.parameters.length) = some 1 := by decide +kernel
theorem ydX11_requireNumber : (yX11_requireNumber.cls ≠ "java/lang/invoke/MethodHandle" ∧ yX11_requireNumber.cls ≠ "java/lang/invoke/VarHandle") ∧ (parseMethodDescriptor yX11_requireNumber.desc).map (fun d => d.parameters.length) = some 2 := by decide +kernel
theorem ydX11_requirePlace : (yX11_requirePlace.cls ≠ "java/lang/invoke/MethodHandle" ∧ yX11_requirePlace.cls ≠ "java/lang/invoke/VarHandle") ∧ (parseMethodDescriptor yX11_requirePlace.desc).map (fun d => d.parameters.length) = some 2 := by decide +kernel
theorem ydX11_requireRoom : (yX11_requireRoom.cls ≠ "java/lang/invoke/MethodHandle" ∧ yX11_requireRoom.cls ≠ "java/lang/invoke/VarHandle") ∧ (parseMethodDescriptor yX11_requireRoom.desc).map (fun d => d.parameters.length) = some 2 := by decide +kernel
theorem ydX4_init : (yX4_init.cls ≠ "java/lang/invoke/MethodHandle" ∧ yX4_init.cls ≠ "java/lang/invoke/VarHandle") ∧ (parseMethodDescriptor yX4_init.desc).map (fun d => d.parameters.length) = some 3 := by decide +kernel
theorem at_X11_82 : ∀ w ∈ vx_atS RX11 82 "java/lang/IllegalArgumentException" ["java/lang/RuntimeException", "java/lang/Exception"], w ∈ kw := fun w h => kw_in ((by decide +kernel : ∀ w ∈ vx_atS RX11 82 "java/lang/IllegalArgumentException" ["java/lang/RuntimeException", "java/lang/Exception"], w ∈ lw_tbl) w h) ((by decide +kernel : ∀ w ∈ vx_atS RX11 82 "java/lang/IllegalArgumentException" ["java/lang/RuntimeException", "java/lang/Exception"], kok w = true) w h)
theorem at_X11_82g : ∀ w ∈ Cond.classLink RX11 78 "java/lang/IllegalArgumentException" :: Cond.initialized "java/lang/IllegalArgumentException" :: vx_atS RX11 82 "java/lang/IllegalArgumentException" ["java/lang/RuntimeException", "java/lang/Exception"], vx_ot w = true := by decide +kernel
theorem at_X11_414 : ∀ w ∈ vx_atS RX11 414 "java/lang/IndexOutOfBoundsException" ["java/lang/RuntimeException", "java/lang/Exception"], w ∈ kw := fun w h => kw_in ((by decide +kernel : ∀ w ∈ vx_atS RX11 414 "java/lang/IndexOutOfBoundsException" ["java/lang/RuntimeException", "java/lang/Exception"], w ∈ lw_tbl) w h) ((by decide +kernel : ∀ w ∈ vx_atS RX11 414 "java/lang/IndexOutOfBoundsException" ["java/lang/RuntimeException", "java/lang/Exception"], kok w = true) w h)
theorem at_X11_414g : ∀ w ∈ Cond.classLink RX11 410 "java/lang/IndexOutOfBoundsException" :: Cond.initialized "java/lang/IndexOutOfBoundsException" :: vx_atS RX11 414 "java/lang/IndexOutOfBoundsException" ["java/lang/RuntimeException", "java/lang/Exception"], vx_ot w = true := by decide +kernel
theorem dX11_addLand_0 : decode cX11_addLand 0 = .ok (.iload_n 1, 1) := by decide +kernel
theorem dX11_addLand_1 : decode cX11_addLand 1 = .ok (.iload_n 2, 1) := by decide +kernel
theorem dX11_addLand_2 : decode cX11_addLand 2 = .ok (.invokestatic 36, 3) := by decide +kernel
theorem dX11_addLand_5 : decode cX11_addLand 5 = .ok (.iload_n 3, 1) := by decide +kernel
theorem dX11_addLand_6 : decode cX11_addLand 6 = .ok (.iconst 1, 1) := by decide +kernel
theorem dX11_addLand_7 : decode cX11_addLand 7 = .ok (.bipush 50, 2) := by decide +kernel
theorem dX11_addLand_9 : decode cX11_addLand 9 = .ok (.invokestatic 40, 3) := by decide +kernel
theorem dX11_addLand_12 : decode cX11_addLand 12 = .ok (.aload_n 0, 1) := by decide +kernel
theorem dX11_addLand_13 : decode cX11_addLand 13 = .ok (.getfield 10, 3) := by decide +kernel
theorem dX11_addLand_16 : decode cX11_addLand 16 = .ok (.invokevirtual 44, 3) := by decide +kernel
theorem dX11_addLand_19 : decode cX11_addLand 19 = .ok (.iconst 4, 1) := by decide +kernel
theorem dX11_addLand_20 : decode cX11_addLand 20 = .ok (.invokestatic 48, 3) := by decide +kernel
theorem dX11_addLand_23 : decode cX11_addLand 23 = .ok (.aload_n 0, 1) := by decide +kernel
theorem dX11_addLand_24 : decode cX11_addLand 24 = .ok (.getfield 10, 3) := by decide +kernel
theorem dX11_addLand_27 : decode cX11_addLand 27 = .ok (.new 51, 3) := by decide +kernel
theorem dX11_addLand_30 : decode cX11_addLand 30 = .ok (.dup, 1) := by decide +kernel
theorem dX11_addLand_31 : decode cX11_addLand 31 = .ok (.iload_n 1, 1) := by decide +kernel
theorem dX11_addLand_32 : decode cX11_addLand 32 = .ok (.iload_n 2, 1) := by decide +kernel
theorem dX11_addLand_33 : decode cX11_addLand 33 = .ok (.iload_n 3, 1) := by decide +kernel
theorem dX11_addLand_34 : decode cX11_addLand 34 = .ok (.invokespecial 53, 3) := by decide +kernel
theorem dX11_addLand_37 : decode cX11_addLand 37 = .ok (.invokevirtual 55, 3) := by decide +kernel
theorem dX11_addLand_40 : decode cX11_addLand 40 = .ok (.pop, 1) := by decide +kernel
theorem dX11_addLand_41 : decode cX11_addLand 41 = .ok (.aload_n 0, 1) := by decide +kernel
theorem dX11_addLand_42 : decode cX11_addLand 42 = .ok (.getfield 10, 3) := by decide +kernel
theorem dX11_addLand_45 : decode cX11_addLand 45 = .ok (.invokevirtual 44, 3) := by decide +kernel
theorem dX11_addLand_48 : decode cX11_addLand 48 = .ok (.iconst 1, 1) := by decide +kernel
theorem dX11_addLand_49 : decode cX11_addLand 49 = .ok (.isub, 1) := by decide +kernel
theorem dX11_addLand_50 : decode cX11_addLand 50 = .ok (.ireturn, 1) := by decide +kernel
theorem dX11_setWind_0 : decode cX11_setWind 0 = .ok (.iload_n 1, 1) := by decide +kernel
theorem dX11_setWind_1 : decode cX11_setWind 1 = .ok (.iconst 0, 1) := by decide +kernel
theorem dX11_setWind_2 : decode cX11_setWind 2 = .ok (.bipush 12, 2) := by decide +kernel
theorem dX11_setWind_4 : decode cX11_setWind 4 = .ok (.invokestatic 40, 3) := by decide +kernel
theorem dX11_addTown_0 : decode cX11_addTown 0 = .ok (.aload_n 0, 1) := by decide +kernel
theorem dX11_addTown_1 : decode cX11_addTown 1 = .ok (.iload_n 1, 1) := by decide +kernel
theorem dX11_addTown_2 : decode cX11_addTown 2 = .ok (.invokevirtual 59, 3) := by decide +kernel
theorem dX11_addShip_0 : decode cX11_addShip 0 = .ok (.iload_n 1, 1) := by decide +kernel
theorem dX11_addShip_1 : decode cX11_addShip 1 = .ok (.iload_n 2, 1) := by decide +kernel
theorem dX11_addShip_2 : decode cX11_addShip 2 = .ok (.invokestatic 36, 3) := by decide +kernel
theorem dX11_requireRange_10 : decode cX11_requireRange 10 = .ok (.new 78, 3) := by decide +kernel
theorem dX11_requireRange_13 : decode cX11_requireRange 13 = .ok (.dup, 1) := by decide +kernel
theorem dX11_requireRange_14 : decode cX11_requireRange 14 = .ok (.ldc_w 403, 3) := by decide +kernel
theorem dX11_requireRange_17 : decode cX11_requireRange 17 = .ok (.invokespecial 82, 3) := by decide +kernel
theorem dX11_requireRange_20 : decode cX11_requireRange 20 = .ok (.athrow, 1) := by decide +kernel
theorem dX11_requirePlace_0 : decode cX11_requirePlace 0 = .ok (.iload_n 0, 1) := by decide +kernel
theorem dX11_requirePlace_1 : decode cX11_requirePlace 1 = .ok (.sipush (-999), 3) := by decide +kernel
theorem dX11_requirePlace_4 : decode cX11_requirePlace 4 = .ok (.sipush 999, 3) := by decide +kernel
theorem dX11_requirePlace_7 : decode cX11_requirePlace 7 = .ok (.invokestatic 40, 3) := by decide +kernel
theorem dX11_requirePlace_10 : decode cX11_requirePlace 10 = .ok (.iload_n 1, 1) := by decide +kernel
theorem dX11_requirePlace_11 : decode cX11_requirePlace 11 = .ok (.sipush (-999), 3) := by decide +kernel
theorem dX11_requirePlace_14 : decode cX11_requirePlace 14 = .ok (.sipush 999, 3) := by decide +kernel
theorem dX11_requirePlace_17 : decode cX11_requirePlace 17 = .ok (.invokestatic 40, 3) := by decide +kernel
theorem dX11_requirePlace_20 : decode cX11_requirePlace 20 = .ok (.return_, 1) := by decide +kernel
theorem dX11_requireRoom_0 : decode cX11_requireRoom 0 = .ok (.iload_n 0, 1) := by decide +kernel
theorem dX11_requireRoom_1 : decode cX11_requireRoom 1 = .ok (.iload_n 1, 1) := by decide +kernel
theorem dX11_requireRoom_2 : decode cX11_requireRoom 2 = .ok (.if_icmp .lt 14, 3) := by decide +kernel
theorem dX11_requireRoom_16 : decode cX11_requireRoom 16 = .ok (.return_, 1) := by decide +kernel
theorem dX11_requireNumber_0 : decode cX11_requireNumber 0 = .ok (.iload_n 0, 1) := by decide +kernel
theorem dX11_requireNumber_1 : decode cX11_requireNumber 1 = .ok (.ifCond .lt 8, 3) := by decide +kernel
theorem dX11_requireNumber_4 : decode cX11_requireNumber 4 = .ok (.iload_n 0, 1) := by decide +kernel
theorem dX11_requireNumber_5 : decode cX11_requireNumber 5 = .ok (.iload_n 1, 1) := by decide +kernel
theorem dX11_requireNumber_6 : decode cX11_requireNumber 6 = .ok (.if_icmp .lt 14, 3) := by decide +kernel
theorem dX11_requireNumber_9 : decode cX11_requireNumber 9 = .ok (.new 410, 3) := by decide +kernel
theorem dX11_requireNumber_12 : decode cX11_requireNumber 12 = .ok (.dup, 1) := by decide +kernel
theorem dX11_requireNumber_13 : decode cX11_requireNumber 13 = .ok (.ldc_w 412, 3) := by decide +kernel
theorem dX11_requireNumber_16 : decode cX11_requireNumber 16 = .ok (.invokespecial 414, 3) := by decide +kernel
theorem dX11_requireNumber_19 : decode cX11_requireNumber 19 = .ok (.athrow, 1) := by decide +kernel
theorem dX11_requireNumber_20 : decode cX11_requireNumber 20 = .ok (.return_, 1) := by decide +kernel
theorem dX11_landAt_0 : decode cX11_landAt 0 = .ok (.iload_n 1, 1) := by decide +kernel
theorem dX11_landAt_1 : decode cX11_landAt 1 = .ok (.aload_n 0, 1) := by decide +kernel
theorem dX11_landAt_2 : decode cX11_landAt 2 = .ok (.getfield 10, 3) := by decide +kernel
theorem dX11_landAt_5 : decode cX11_landAt 5 = .ok (.invokevirtual 44, 3) := by decide +kernel
theorem dX11_landAt_8 : decode cX11_landAt 8 = .ok (.invokestatic 166, 3) := by decide +kernel
theorem dX11_landAt_11 : decode cX11_landAt 11 = .ok (.aload_n 0, 1) := by decide +kernel
theorem dX11_landAt_12 : decode cX11_landAt 12 = .ok (.getfield 10, 3) := by decide +kernel
theorem dX11_landAt_15 : decode cX11_landAt 15 = .ok (.iload_n 1, 1) := by decide +kernel
theorem dX11_landAt_16 : decode cX11_landAt 16 = .ok (.invokevirtual 169, 3) := by decide +kernel
theorem dX11_landAt_19 : decode cX11_landAt 19 = .ok (.checkcast 51, 3) := by decide +kernel
theorem dX11_landAt_22 : decode cX11_landAt 22 = .ok (.areturn, 1) := by decide +kernel
theorem dX11_townAt_0 : decode cX11_townAt 0 = .ok (.iload_n 1, 1) := by decide +kernel
theorem dX11_townAt_1 : decode cX11_townAt 1 = .ok (.aload_n 0, 1) := by decide +kernel
theorem dX11_townAt_2 : decode cX11_townAt 2 = .ok (.getfield 16, 3) := by decide +kernel
theorem dX11_townAt_5 : decode cX11_townAt 5 = .ok (.invokevirtual 44, 3) := by decide +kernel
theorem dX11_townAt_8 : decode cX11_townAt 8 = .ok (.invokestatic 166, 3) := by decide +kernel
theorem dX11_townAt_11 : decode cX11_townAt 11 = .ok (.aload_n 0, 1) := by decide +kernel
theorem dX11_townAt_12 : decode cX11_townAt 12 = .ok (.getfield 16, 3) := by decide +kernel
theorem dX11_townAt_15 : decode cX11_townAt 15 = .ok (.iload_n 1, 1) := by decide +kernel
theorem dX11_townAt_16 : decode cX11_townAt 16 = .ok (.invokevirtual 169, 3) := by decide +kernel
theorem dX11_townAt_19 : decode cX11_townAt 19 = .ok (.checkcast 94, 3) := by decide +kernel
theorem dX11_townAt_22 : decode cX11_townAt 22 = .ok (.areturn, 1) := by decide +kernel
theorem dX11_shipAt_0 : decode cX11_shipAt 0 = .ok (.iload_n 1, 1) := by decide +kernel
theorem dX11_shipAt_1 : decode cX11_shipAt 1 = .ok (.aload_n 0, 1) := by decide +kernel
theorem dX11_shipAt_2 : decode cX11_shipAt 2 = .ok (.getfield 19, 3) := by decide +kernel
theorem dX11_shipAt_5 : decode cX11_shipAt 5 = .ok (.invokevirtual 44, 3) := by decide +kernel
theorem dX11_shipAt_8 : decode cX11_shipAt 8 = .ok (.invokestatic 166, 3) := by decide +kernel
theorem dX11_shipAt_11 : decode cX11_shipAt 11 = .ok (.aload_n 0, 1) := by decide +kernel
theorem dX11_shipAt_12 : decode cX11_shipAt 12 = .ok (.getfield 19, 3) := by decide +kernel
theorem dX11_shipAt_15 : decode cX11_shipAt 15 = .ok (.iload_n 1, 1) := by decide +kernel
theorem dX11_shipAt_16 : decode cX11_shipAt 16 = .ok (.invokevirtual 169, 3) := by decide +kernel
theorem dX11_shipAt_19 : decode cX11_shipAt 19 = .ok (.checkcast 102, 3) := by decide +kernel
theorem dX11_shipAt_22 : decode cX11_shipAt 22 = .ok (.areturn, 1) := by decide +kernel
theorem dX11_personAt_0 : decode cX11_personAt 0 = .ok (.iload_n 1, 1) := by decide +kernel
theorem dX11_personAt_1 : decode cX11_personAt 1 = .ok (.aload_n 0, 1) := by decide +kernel
theorem dX11_personAt_2 : decode cX11_personAt 2 = .ok (.getfield 22, 3) := by decide +kernel
theorem dX11_personAt_5 : decode cX11_personAt 5 = .ok (.invokevirtual 44, 3) := by decide +kernel
theorem dX11_personAt_8 : decode cX11_personAt 8 = .ok (.invokestatic 166, 3) := by decide +kernel
theorem dX11_personAt_11 : decode cX11_personAt 11 = .ok (.aload_n 0, 1) := by decide +kernel
theorem dX11_personAt_12 : decode cX11_personAt 12 = .ok (.getfield 22, 3) := by decide +kernel
theorem dX11_personAt_15 : decode cX11_personAt 15 = .ok (.iload_n 1, 1) := by decide +kernel
theorem dX11_personAt_16 : decode cX11_personAt 16 = .ok (.invokevirtual 169, 3) := by decide +kernel
theorem dX11_personAt_19 : decode cX11_personAt 19 = .ok (.checkcast 218, 3) := by decide +kernel
theorem dX11_personAt_22 : decode cX11_personAt 22 = .ok (.areturn, 1) := by decide +kernel
