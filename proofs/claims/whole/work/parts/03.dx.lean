theorem dX0_init_0 : decode cX0_init 0 = .ok (.aload_n 0, 1) := by decide +kernel
theorem dX0_init_1 : decode cX0_init 1 = .ok (.invokespecial 3, 3) := by decide +kernel
theorem dX0_init_4 : decode cX0_init 4 = .ok (.aload_n 0, 1) := by decide +kernel
theorem dX0_init_5 : decode cX0_init 5 = .ok (.new 9, 3) := by decide +kernel
theorem dX0_init_8 : decode cX0_init 8 = .ok (.dup, 1) := by decide +kernel
theorem dX0_init_9 : decode cX0_init 9 = .ok (.sipush 256, 3) := by decide +kernel
theorem dX0_init_12 : decode cX0_init 12 = .ok (.invokespecial 11, 3) := by decide +kernel
theorem dX0_init_15 : decode cX0_init 15 = .ok (.putfield 14, 3) := by decide +kernel
theorem dX0_init_18 : decode cX0_init 18 = .ok (.return_, 1) := by decide +kernel
theorem dX0_count_0 : decode cX0_count 0 = .ok (.aload_n 0, 1) := by decide +kernel
theorem dX0_count_1 : decode cX0_count 1 = .ok (.getfield 20, 3) := by decide +kernel
theorem dX0_count_4 : decode cX0_count 4 = .ok (.ireturn, 1) := by decide +kernel
theorem dX0_room_0 : decode cX0_room 0 = .ok (.aload_n 0, 1) := by decide +kernel
theorem dX0_room_1 : decode cX0_room 1 = .ok (.getfield 14, 3) := by decide +kernel
theorem dX0_room_4 : decode cX0_room 4 = .ok (.invokevirtual 24, 3) := by decide +kernel
theorem dX0_room_7 : decode cX0_room 7 = .ok (.aload_n 0, 1) := by decide +kernel
theorem dX0_room_8 : decode cX0_room 8 = .ok (.getfield 20, 3) := by decide +kernel
theorem dX0_room_11 : decode cX0_room 11 = .ok (.isub, 1) := by decide +kernel
theorem dX0_room_12 : decode cX0_room 12 = .ok (.ireturn, 1) := by decide +kernel
theorem dX0_numberAt_0 : decode cX0_numberAt 0 = .ok (.aload_n 0, 1) := by decide +kernel
theorem dX0_numberAt_1 : decode cX0_numberAt 1 = .ok (.getfield 14, 3) := by decide +kernel
theorem dX0_numberAt_4 : decode cX0_numberAt 4 = .ok (.iload_n 1, 1) := by decide +kernel
theorem dX0_numberAt_5 : decode cX0_numberAt 5 = .ok (.invokevirtual 27, 3) := by decide +kernel
theorem dX0_numberAt_8 : decode cX0_numberAt 8 = .ok (.sipush 255, 3) := by decide +kernel
theorem dX0_numberAt_11 : decode cX0_numberAt 11 = .ok (.iand, 1) := by decide +kernel
theorem dX0_numberAt_12 : decode cX0_numberAt 12 = .ok (.ireturn, 1) := by decide +kernel
theorem dX0_gather_0 : decode cX0_gather 0 = .ok (.aload_n 0, 1) := by decide +kernel
theorem dX0_gather_1 : decode cX0_gather 1 = .ok (.getfield 14, 3) := by decide +kernel
theorem dX0_gather_4 : decode cX0_gather 4 = .ok (.aload_n 0, 1) := by decide +kernel
theorem dX0_gather_5 : decode cX0_gather 5 = .ok (.getfield 20, 3) := by decide +kernel
theorem dX0_gather_8 : decode cX0_gather 8 = .ok (.iload_n 1, 1) := by decide +kernel
theorem dX0_gather_9 : decode cX0_gather 9 = .ok (.invokevirtual 31, 3) := by decide +kernel
theorem dX0_gather_12 : decode cX0_gather 12 = .ok (.pop, 1) := by decide +kernel
theorem dX0_gather_13 : decode cX0_gather 13 = .ok (.aload_n 0, 1) := by decide +kernel
theorem dX0_gather_14 : decode cX0_gather 14 = .ok (.dup, 1) := by decide +kernel
theorem dX0_gather_15 : decode cX0_gather 15 = .ok (.getfield 20, 3) := by decide +kernel
theorem dX0_gather_18 : decode cX0_gather 18 = .ok (.iconst 1, 1) := by decide +kernel
theorem dX0_gather_19 : decode cX0_gather 19 = .ok (.iadd, 1) := by decide +kernel
theorem dX0_gather_20 : decode cX0_gather 20 = .ok (.putfield 20, 3) := by decide +kernel
theorem dX0_gather_23 : decode cX0_gather 23 = .ok (.return_, 1) := by decide +kernel
theorem dX0_gatherPart_0 : decode cX0_gatherPart 0 = .ok (.aload_n 1, 1) := by decide +kernel
theorem dX0_gatherPart_1 : decode cX0_gatherPart 1 = .ok (.aload_n 0, 1) := by decide +kernel
theorem dX0_gatherPart_2 : decode cX0_gatherPart 2 = .ok (.getfield 14, 3) := by decide +kernel
theorem dX0_gatherPart_5 : decode cX0_gatherPart 5 = .ok (.aload_n 0, 1) := by decide +kernel
theorem dX0_gatherPart_6 : decode cX0_gatherPart 6 = .ok (.getfield 20, 3) := by decide +kernel
theorem dX0_gatherPart_9 : decode cX0_gatherPart 9 = .ok (.iload_n 2, 1) := by decide +kernel
theorem dX0_gatherPart_10 : decode cX0_gatherPart 10 = .ok (.iload_n 3, 1) := by decide +kernel
theorem dX0_gatherPart_11 : decode cX0_gatherPart 11 = .ok (.invokevirtual 35, 3) := by decide +kernel
theorem dX0_gatherPart_14 : decode cX0_gatherPart 14 = .ok (.aload_n 0, 1) := by decide +kernel
theorem dX0_gatherPart_15 : decode cX0_gatherPart 15 = .ok (.dup, 1) := by decide +kernel
theorem dX0_gatherPart_16 : decode cX0_gatherPart 16 = .ok (.getfield 20, 3) := by decide +kernel
theorem dX0_gatherPart_19 : decode cX0_gatherPart 19 = .ok (.iload_n 3, 1) := by decide +kernel
theorem dX0_gatherPart_20 : decode cX0_gatherPart 20 = .ok (.iadd, 1) := by decide +kernel
theorem dX0_gatherPart_21 : decode cX0_gatherPart 21 = .ok (.putfield 20, 3) := by decide +kernel
theorem dX0_gatherPart_24 : decode cX0_gatherPart 24 = .ok (.return_, 1) := by decide +kernel
theorem dX0_clear_0 : decode cX0_clear 0 = .ok (.aload_n 0, 1) := by decide +kernel
theorem dX0_clear_1 : decode cX0_clear 1 = .ok (.iconst 0, 1) := by decide +kernel
theorem dX0_clear_2 : decode cX0_clear 2 = .ok (.putfield 20, 3) := by decide +kernel
theorem dX0_clear_5 : decode cX0_clear 5 = .ok (.return_, 1) := by decide +kernel
theorem dX0_copy_0 : decode cX0_copy 0 = .ok (.new 9, 3) := by decide +kernel
theorem dX0_copy_3 : decode cX0_copy 3 = .ok (.dup, 1) := by decide +kernel
theorem dX0_copy_4 : decode cX0_copy 4 = .ok (.aload_n 0, 1) := by decide +kernel
theorem dX0_copy_5 : decode cX0_copy 5 = .ok (.getfield 20, 3) := by decide +kernel
theorem dX0_copy_8 : decode cX0_copy 8 = .ok (.invokespecial 11, 3) := by decide +kernel
theorem dX0_copy_11 : decode cX0_copy 11 = .ok (.astore_n 1, 1) := by decide +kernel
theorem dX0_copy_12 : decode cX0_copy 12 = .ok (.aload_n 0, 1) := by decide +kernel
theorem dX0_copy_13 : decode cX0_copy 13 = .ok (.getfield 14, 3) := by decide +kernel
theorem dX0_copy_16 : decode cX0_copy 16 = .ok (.aload_n 1, 1) := by decide +kernel
theorem dX0_copy_17 : decode cX0_copy 17 = .ok (.iconst 0, 1) := by decide +kernel
theorem dX0_copy_18 : decode cX0_copy 18 = .ok (.iconst 0, 1) := by decide +kernel
theorem dX0_copy_19 : decode cX0_copy 19 = .ok (.aload_n 0, 1) := by decide +kernel
theorem dX0_copy_20 : decode cX0_copy 20 = .ok (.getfield 20, 3) := by decide +kernel
theorem dX0_copy_23 : decode cX0_copy 23 = .ok (.invokevirtual 35, 3) := by decide +kernel
theorem dX0_copy_26 : decode cX0_copy 26 = .ok (.aload_n 1, 1) := by decide +kernel
theorem dX0_copy_27 : decode cX0_copy 27 = .ok (.areturn, 1) := by decide +kernel
theorem dX0_addedTo_0 : decode cX0_addedTo 0 = .ok (.aload_n 0, 1) := by decide +kernel
theorem dX0_addedTo_1 : decode cX0_addedTo 1 = .ok (.getfield 14, 3) := by decide +kernel
theorem dX0_addedTo_4 : decode cX0_addedTo 4 = .ok (.lload_n 1, 1) := by decide +kernel
theorem dX0_addedTo_5 : decode cX0_addedTo 5 = .ok (.aload_n 0, 1) := by decide +kernel
theorem dX0_addedTo_6 : decode cX0_addedTo 6 = .ok (.getfield 20, 3) := by decide +kernel
theorem dX0_addedTo_9 : decode cX0_addedTo 9 = .ok (.invokevirtual 39, 3) := by decide +kernel
theorem dX0_addedTo_12 : decode cX0_addedTo 12 = .ok (.lreturn, 1) := by decide +kernel
theorem dX1_init_0 : decode cX1_init 0 = .ok (.aload_n 0, 1) := by decide +kernel
theorem dX1_init_1 : decode cX1_init 1 = .ok (.invokespecial 1, 3) := by decide +kernel
theorem dX1_init_4 : decode cX1_init 4 = .ok (.aload_n 0, 1) := by decide +kernel
theorem dX1_init_5 : decode cX1_init 5 = .ok (.new 7, 3) := by decide +kernel
theorem dX1_init_8 : decode cX1_init 8 = .ok (.dup, 1) := by decide +kernel
theorem dX1_init_9 : decode cX1_init 9 = .ok (.iconst 0, 1) := by decide +kernel
theorem dX1_init_10 : decode cX1_init 10 = .ok (.invokespecial 9, 3) := by decide +kernel
theorem dX1_init_13 : decode cX1_init 13 = .ok (.putfield 12, 3) := by decide +kernel
theorem dX1_init_16 : decode cX1_init 16 = .ok (.return_, 1) := by decide +kernel
theorem dX1_start_0 : decode cX1_start 0 = .ok (.aload_n 0, 1) := by decide +kernel
theorem dX1_start_1 : decode cX1_start 1 = .ok (.aload_n 1, 1) := by decide +kernel
theorem dX1_start_2 : decode cX1_start 2 = .ok (.putfield 12, 3) := by decide +kernel
theorem dX1_start_5 : decode cX1_start 5 = .ok (.aload_n 0, 1) := by decide +kernel
theorem dX1_start_6 : decode cX1_start 6 = .ok (.iconst 1, 1) := by decide +kernel
theorem dX1_start_7 : decode cX1_start 7 = .ok (.putfield 18, 3) := by decide +kernel
theorem dX1_start_10 : decode cX1_start 10 = .ok (.aload_n 0, 1) := by decide +kernel
theorem dX1_start_11 : decode cX1_start 11 = .ok (.iconst 0, 1) := by decide +kernel
theorem dX1_start_12 : decode cX1_start 12 = .ok (.putfield 22, 3) := by decide +kernel
theorem dX1_start_15 : decode cX1_start 15 = .ok (.aload_n 0, 1) := by decide +kernel
theorem dX1_start_16 : decode cX1_start 16 = .ok (.iconst 0, 1) := by decide +kernel
theorem dX1_start_17 : decode cX1_start 17 = .ok (.putfield 26, 3) := by decide +kernel
theorem dX1_start_20 : decode cX1_start 20 = .ok (.aload_n 0, 1) := by decide +kernel
theorem dX1_start_21 : decode cX1_start 21 = .ok (.invokevirtual 29, 3) := by decide +kernel
theorem dX1_start_24 : decode cX1_start 24 = .ok (.return_, 1) := by decide +kernel
theorem dX1_isStarted_0 : decode cX1_isStarted 0 = .ok (.aload_n 0, 1) := by decide +kernel
theorem dX1_isStarted_1 : decode cX1_isStarted 1 = .ok (.getfield 18, 3) := by decide +kernel
theorem dX1_isStarted_4 : decode cX1_isStarted 4 = .ok (.ireturn, 1) := by decide +kernel
theorem dX1_isOver_0 : decode cX1_isOver 0 = .ok (.aload_n 0, 1) := by decide +kernel
theorem dX1_isOver_1 : decode cX1_isOver 1 = .ok (.getfield 12, 3) := by decide +kernel
theorem dX1_isOver_4 : decode cX1_isOver 4 = .ok (.aload_n 1, 1) := by decide +kernel
theorem dX1_isOver_5 : decode cX1_isOver 5 = .ok (.if_acmp .ne 7, 3) := by decide +kernel
theorem dX1_isOver_8 : decode cX1_isOver 8 = .ok (.iconst 1, 1) := by decide +kernel
theorem dX1_isOver_9 : decode cX1_isOver 9 = .ok (.goto 4, 3) := by decide +kernel
theorem dX1_isOver_12 : decode cX1_isOver 12 = .ok (.iconst 0, 1) := by decide +kernel
theorem dX1_isOver_13 : decode cX1_isOver 13 = .ok (.ireturn, 1) := by decide +kernel
theorem dX1_whole_0 : decode cX1_whole 0 = .ok (.aload_n 0, 1) := by decide +kernel
theorem dX1_whole_1 : decode cX1_whole 1 = .ok (.getfield 12, 3) := by decide +kernel
theorem dX1_whole_4 : decode cX1_whole 4 = .ok (.invokevirtual 32, 3) := by decide +kernel
theorem dX1_whole_7 : decode cX1_whole 7 = .ok (.ireturn, 1) := by decide +kernel
theorem dX1_remaining_0 : decode cX1_remaining 0 = .ok (.aload_n 0, 1) := by decide +kernel
theorem dX1_remaining_1 : decode cX1_remaining 1 = .ok (.getfield 12, 3) := by decide +kernel
theorem dX1_remaining_4 : decode cX1_remaining 4 = .ok (.invokevirtual 32, 3) := by decide +kernel
theorem dX1_remaining_7 : decode cX1_remaining 7 = .ok (.aload_n 0, 1) := by decide +kernel
theorem dX1_remaining_8 : decode cX1_remaining 8 = .ok (.getfield 22, 3) := by decide +kernel
theorem dX1_remaining_11 : decode cX1_remaining 11 = .ok (.isub, 1) := by decide +kernel
theorem dX1_remaining_12 : decode cX1_remaining 12 = .ok (.ireturn, 1) := by decide +kernel
theorem dX1_tell_0 : decode cX1_tell 0 = .ok (.aload_n 0, 1) := by decide +kernel
theorem dX1_tell_1 : decode cX1_tell 1 = .ok (.dup, 1) := by decide +kernel
theorem dX1_tell_2 : decode cX1_tell 2 = .ok (.getfield 26, 3) := by decide +kernel
theorem dX1_tell_5 : decode cX1_tell 5 = .ok (.iload_n 1, 1) := by decide +kernel
theorem dX1_tell_6 : decode cX1_tell 6 = .ok (.iadd, 1) := by decide +kernel
theorem dX1_tell_7 : decode cX1_tell 7 = .ok (.putfield 26, 3) := by decide +kernel
theorem dX1_tell_10 : decode cX1_tell 10 = .ok (.iload_n 1, 1) := by decide +kernel
theorem dX1_tell_11 : decode cX1_tell 11 = .ok (.ireturn, 1) := by decide +kernel
theorem dX1_hasToldAll_0 : decode cX1_hasToldAll 0 = .ok (.aload_n 0, 1) := by decide +kernel
theorem dX1_hasToldAll_1 : decode cX1_hasToldAll 1 = .ok (.getfield 26, 3) := by decide +kernel
theorem dX1_hasToldAll_4 : decode cX1_hasToldAll 4 = .ok (.aload_n 0, 1) := by decide +kernel
theorem dX1_hasToldAll_5 : decode cX1_hasToldAll 5 = .ok (.invokevirtual 36, 3) := by decide +kernel
theorem dX1_hasToldAll_8 : decode cX1_hasToldAll 8 = .ok (.iadd, 1) := by decide +kernel
theorem dX1_hasToldAll_9 : decode cX1_hasToldAll 9 = .ok (.aload_n 0, 1) := by decide +kernel
theorem dX1_hasToldAll_10 : decode cX1_hasToldAll 10 = .ok (.getfield 12, 3) := by decide +kernel
theorem dX1_hasToldAll_13 : decode cX1_hasToldAll 13 = .ok (.invokevirtual 32, 3) := by decide +kernel
theorem dX1_hasToldAll_16 : decode cX1_hasToldAll 16 = .ok (.if_icmp .ne 7, 3) := by decide +kernel
theorem dX1_hasToldAll_19 : decode cX1_hasToldAll 19 = .ok (.iconst 1, 1) := by decide +kernel
theorem dX1_hasToldAll_20 : decode cX1_hasToldAll 20 = .ok (.goto 4, 3) := by decide +kernel
theorem dX1_hasToldAll_23 : decode cX1_hasToldAll 23 = .ok (.iconst 0, 1) := by decide +kernel
theorem dX1_hasToldAll_24 : decode cX1_hasToldAll 24 = .ok (.ireturn, 1) := by decide +kernel
theorem dX1_setMark_0 : decode cX1_setMark 0 = .ok (.aload_n 0, 1) := by decide +kernel
theorem dX1_setMark_1 : decode cX1_setMark 1 = .ok (.aload_n 0, 1) := by decide +kernel
theorem dX1_setMark_2 : decode cX1_setMark 2 = .ok (.getfield 22, 3) := by decide +kernel
theorem dX1_setMark_5 : decode cX1_setMark 5 = .ok (.putfield 39, 3) := by decide +kernel
theorem dX1_setMark_8 : decode cX1_setMark 8 = .ok (.aload_n 0, 1) := by decide +kernel
theorem dX1_setMark_9 : decode cX1_setMark 9 = .ok (.aload_n 0, 1) := by decide +kernel
theorem dX1_setMark_10 : decode cX1_setMark 10 = .ok (.getfield 26, 3) := by decide +kernel
theorem dX1_setMark_13 : decode cX1_setMark 13 = .ok (.putfield 42, 3) := by decide +kernel
theorem dX1_setMark_16 : decode cX1_setMark 16 = .ok (.return_, 1) := by decide +kernel
theorem dX1_goBack_0 : decode cX1_goBack 0 = .ok (.aload_n 0, 1) := by decide +kernel
theorem dX1_goBack_1 : decode cX1_goBack 1 = .ok (.aload_n 0, 1) := by decide +kernel
theorem dX1_goBack_2 : decode cX1_goBack 2 = .ok (.getfield 39, 3) := by decide +kernel
theorem dX1_goBack_5 : decode cX1_goBack 5 = .ok (.putfield 22, 3) := by decide +kernel
theorem dX1_goBack_8 : decode cX1_goBack 8 = .ok (.aload_n 0, 1) := by decide +kernel
theorem dX1_goBack_9 : decode cX1_goBack 9 = .ok (.aload_n 0, 1) := by decide +kernel
theorem dX1_goBack_10 : decode cX1_goBack 10 = .ok (.getfield 42, 3) := by decide +kernel
theorem dX1_goBack_13 : decode cX1_goBack 13 = .ok (.putfield 26, 3) := by decide +kernel
theorem dX1_goBack_16 : decode cX1_goBack 16 = .ok (.return_, 1) := by decide +kernel
theorem dX1_peek_0 : decode cX1_peek 0 = .ok (.aload_n 0, 1) := by decide +kernel
theorem dX1_peek_1 : decode cX1_peek 1 = .ok (.getfield 12, 3) := by decide +kernel
theorem dX1_peek_4 : decode cX1_peek 4 = .ok (.aload_n 0, 1) := by decide +kernel
theorem dX1_peek_5 : decode cX1_peek 5 = .ok (.getfield 22, 3) := by decide +kernel
theorem dX1_peek_8 : decode cX1_peek 8 = .ok (.invokevirtual 45, 3) := by decide +kernel
theorem dX1_peek_11 : decode cX1_peek 11 = .ok (.sipush 255, 3) := by decide +kernel
theorem dX1_peek_14 : decode cX1_peek 14 = .ok (.iand, 1) := by decide +kernel
theorem dX1_peek_15 : decode cX1_peek 15 = .ok (.ireturn, 1) := by decide +kernel
theorem dX1_next_0 : decode cX1_next 0 = .ok (.aload_n 0, 1) := by decide +kernel
theorem dX1_next_1 : decode cX1_next 1 = .ok (.invokevirtual 49, 3) := by decide +kernel
theorem dX1_next_4 : decode cX1_next 4 = .ok (.istore_n 1, 1) := by decide +kernel
theorem dX1_next_5 : decode cX1_next 5 = .ok (.aload_n 0, 1) := by decide +kernel
theorem dX1_next_6 : decode cX1_next 6 = .ok (.lconst 1, 1) := by decide +kernel
theorem dX1_next_7 : decode cX1_next 7 = .ok (.invokevirtual 52, 3) := by decide +kernel
theorem dX1_next_10 : decode cX1_next 10 = .ok (.pop, 1) := by decide +kernel
theorem dX1_next_11 : decode cX1_next 11 = .ok (.iload_n 1, 1) := by decide +kernel
theorem dX1_next_12 : decode cX1_next 12 = .ok (.ireturn, 1) := by decide +kernel
theorem dX1_asManyAs_0 : decode cX1_asManyAs 0 = .ok (.lload_n 1, 1) := by decide +kernel
theorem dX1_asManyAs_1 : decode cX1_asManyAs 1 = .ok (.aload_n 0, 1) := by decide +kernel
theorem dX1_asManyAs_2 : decode cX1_asManyAs 2 = .ok (.getfield 12, 3) := by decide +kernel
theorem dX1_asManyAs_5 : decode cX1_asManyAs 5 = .ok (.invokevirtual 32, 3) := by decide +kernel
theorem dX1_asManyAs_8 : decode cX1_asManyAs 8 = .ok (.aload_n 0, 1) := by decide +kernel
theorem dX1_asManyAs_9 : decode cX1_asManyAs 9 = .ok (.getfield 22, 3) := by decide +kernel
theorem dX1_asManyAs_12 : decode cX1_asManyAs 12 = .ok (.isub, 1) := by decide +kernel
theorem dX1_asManyAs_13 : decode cX1_asManyAs 13 = .ok (.i2l, 1) := by decide +kernel
theorem dX1_asManyAs_14 : decode cX1_asManyAs 14 = .ok (.invokestatic 56, 3) := by decide +kernel
theorem dX1_asManyAs_17 : decode cX1_asManyAs 17 = .ok (.l2i, 1) := by decide +kernel
theorem dX1_asManyAs_18 : decode cX1_asManyAs 18 = .ok (.ireturn, 1) := by decide +kernel
theorem dX1_pass_0 : decode cX1_pass 0 = .ok (.aload_n 0, 1) := by decide +kernel
theorem dX1_pass_1 : decode cX1_pass 1 = .ok (.lload_n 1, 1) := by decide +kernel
theorem dX1_pass_2 : decode cX1_pass 2 = .ok (.invokevirtual 62, 3) := by decide +kernel
theorem dX1_pass_5 : decode cX1_pass 5 = .ok (.istore_n 3, 1) := by decide +kernel
theorem dX1_pass_6 : decode cX1_pass 6 = .ok (.aload_n 0, 1) := by decide +kernel
theorem dX1_pass_7 : decode cX1_pass 7 = .ok (.dup, 1) := by decide +kernel
theorem dX1_pass_8 : decode cX1_pass 8 = .ok (.getfield 22, 3) := by decide +kernel
theorem dX1_pass_11 : decode cX1_pass 11 = .ok (.iload_n 3, 1) := by decide +kernel
theorem dX1_pass_12 : decode cX1_pass 12 = .ok (.iadd, 1) := by decide +kernel
theorem dX1_pass_13 : decode cX1_pass 13 = .ok (.putfield 22, 3) := by decide +kernel
theorem dX1_pass_16 : decode cX1_pass 16 = .ok (.iload_n 3, 1) := by decide +kernel
theorem dX1_pass_17 : decode cX1_pass 17 = .ok (.ireturn, 1) := by decide +kernel
theorem dX1_distanceTo_0 : decode cX1_distanceTo 0 = .ok (.aload_n 0, 1) := by decide +kernel
theorem dX1_distanceTo_1 : decode cX1_distanceTo 1 = .ok (.invokevirtual 36, 3) := by decide +kernel
theorem dX1_distanceTo_4 : decode cX1_distanceTo 4 = .ok (.istore_n 2, 1) := by decide +kernel
theorem dX1_distanceTo_5 : decode cX1_distanceTo 5 = .ok (.iconst 0, 1) := by decide +kernel
theorem dX1_distanceTo_6 : decode cX1_distanceTo 6 = .ok (.istore_n 3, 1) := by decide +kernel
theorem dX1_distanceTo_7 : decode cX1_distanceTo 7 = .ok (.iload_n 3, 1) := by decide +kernel
theorem dX1_distanceTo_8 : decode cX1_distanceTo 8 = .ok (.iload_n 2, 1) := by decide +kernel
theorem dX1_distanceTo_9 : decode cX1_distanceTo 9 = .ok (.if_icmp .ge 32, 3) := by decide +kernel
theorem dX1_distanceTo_12 : decode cX1_distanceTo 12 = .ok (.aload_n 0, 1) := by decide +kernel
theorem dX1_distanceTo_13 : decode cX1_distanceTo 13 = .ok (.getfield 12, 3) := by decide +kernel
theorem dX1_distanceTo_16 : decode cX1_distanceTo 16 = .ok (.aload_n 0, 1) := by decide +kernel
theorem dX1_distanceTo_17 : decode cX1_distanceTo 17 = .ok (.getfield 22, 3) := by decide +kernel
theorem dX1_distanceTo_20 : decode cX1_distanceTo 20 = .ok (.iload_n 3, 1) := by decide +kernel
theorem dX1_distanceTo_21 : decode cX1_distanceTo 21 = .ok (.iadd, 1) := by decide +kernel
theorem dX1_distanceTo_22 : decode cX1_distanceTo 22 = .ok (.invokevirtual 45, 3) := by decide +kernel
theorem dX1_distanceTo_25 : decode cX1_distanceTo 25 = .ok (.sipush 255, 3) := by decide +kernel
theorem dX1_distanceTo_28 : decode cX1_distanceTo 28 = .ok (.iand, 1) := by decide +kernel
theorem dX1_distanceTo_29 : decode cX1_distanceTo 29 = .ok (.iload_n 1, 1) := by decide +kernel
theorem dX1_distanceTo_30 : decode cX1_distanceTo 30 = .ok (.if_icmp .ne 5, 3) := by decide +kernel
theorem dX1_distanceTo_33 : decode cX1_distanceTo 33 = .ok (.iload_n 3, 1) := by decide +kernel
theorem dX1_distanceTo_34 : decode cX1_distanceTo 34 = .ok (.ireturn, 1) := by decide +kernel
theorem dX1_distanceTo_35 : decode cX1_distanceTo 35 = .ok (.iinc 3 1, 3) := by decide +kernel
theorem dX1_distanceTo_38 : decode cX1_distanceTo 38 = .ok (.goto (-31), 3) := by decide +kernel
theorem dX1_distanceTo_41 : decode cX1_distanceTo 41 = .ok (.iload_n 2, 1) := by decide +kernel
theorem dX1_distanceTo_42 : decode cX1_distanceTo 42 = .ok (.ireturn, 1) := by decide +kernel
theorem dX1_moveInto_0 : decode cX1_moveInto 0 = .ok (.aload_n 0, 1) := by decide +kernel
theorem dX1_moveInto_1 : decode cX1_moveInto 1 = .ok (.iload_n 3, 1) := by decide +kernel
theorem dX1_moveInto_2 : decode cX1_moveInto 2 = .ok (.i2l, 1) := by decide +kernel
theorem dX1_moveInto_3 : decode cX1_moveInto 3 = .ok (.invokevirtual 62, 3) := by decide +kernel
theorem dX1_moveInto_6 : decode cX1_moveInto 6 = .ok (.istore 4, 2) := by decide +kernel
theorem dX1_moveInto_8 : decode cX1_moveInto 8 = .ok (.aload_n 0, 1) := by decide +kernel
theorem dX1_moveInto_9 : decode cX1_moveInto 9 = .ok (.getfield 12, 3) := by decide +kernel
theorem dX1_moveInto_12 : decode cX1_moveInto 12 = .ok (.aload_n 1, 1) := by decide +kernel
theorem dX1_moveInto_13 : decode cX1_moveInto 13 = .ok (.iload_n 2, 1) := by decide +kernel
theorem dX1_moveInto_14 : decode cX1_moveInto 14 = .ok (.aload_n 0, 1) := by decide +kernel
theorem dX1_moveInto_15 : decode cX1_moveInto 15 = .ok (.getfield 22, 3) := by decide +kernel
theorem dX1_moveInto_18 : decode cX1_moveInto 18 = .ok (.iload 4, 2) := by decide +kernel
theorem dX1_moveInto_20 : decode cX1_moveInto 20 = .ok (.invokevirtual 65, 3) := by decide +kernel
theorem dX1_moveInto_23 : decode cX1_moveInto 23 = .ok (.aload_n 0, 1) := by decide +kernel
theorem dX1_moveInto_24 : decode cX1_moveInto 24 = .ok (.iload 4, 2) := by decide +kernel
theorem dX1_moveInto_26 : decode cX1_moveInto 26 = .ok (.i2l, 1) := by decide +kernel
theorem dX1_moveInto_27 : decode cX1_moveInto 27 = .ok (.invokevirtual 52, 3) := by decide +kernel
theorem dX1_moveInto_30 : decode cX1_moveInto 30 = .ok (.ireturn, 1) := by decide +kernel
theorem dX1_nextRow_0 : decode cX1_nextRow 0 = .ok (.new 7, 3) := by decide +kernel
theorem dX1_nextRow_3 : decode cX1_nextRow 3 = .ok (.dup, 1) := by decide +kernel
theorem dX1_nextRow_4 : decode cX1_nextRow 4 = .ok (.aload_n 0, 1) := by decide +kernel
theorem dX1_nextRow_5 : decode cX1_nextRow 5 = .ok (.iload_n 1, 1) := by decide +kernel
theorem dX1_nextRow_6 : decode cX1_nextRow 6 = .ok (.i2l, 1) := by decide +kernel
theorem dX1_nextRow_7 : decode cX1_nextRow 7 = .ok (.invokevirtual 62, 3) := by decide +kernel
theorem dX1_nextRow_10 : decode cX1_nextRow 10 = .ok (.invokespecial 9, 3) := by decide +kernel
theorem dX1_nextRow_13 : decode cX1_nextRow 13 = .ok (.astore_n 2, 1) := by decide +kernel
theorem dX1_nextRow_14 : decode cX1_nextRow 14 = .ok (.aload_n 0, 1) := by decide +kernel
theorem dX1_nextRow_15 : decode cX1_nextRow 15 = .ok (.aload_n 2, 1) := by decide +kernel
theorem dX1_nextRow_16 : decode cX1_nextRow 16 = .ok (.iconst 0, 1) := by decide +kernel
theorem dX1_nextRow_17 : decode cX1_nextRow 17 = .ok (.aload_n 2, 1) := by decide +kernel
theorem dX1_nextRow_18 : decode cX1_nextRow 18 = .ok (.invokevirtual 32, 3) := by decide +kernel
theorem dX1_nextRow_21 : decode cX1_nextRow 21 = .ok (.invokevirtual 69, 3) := by decide +kernel
theorem dX1_nextRow_24 : decode cX1_nextRow 24 = .ok (.pop, 1) := by decide +kernel
theorem dX1_nextRow_25 : decode cX1_nextRow 25 = .ok (.aload_n 2, 1) := by decide +kernel
theorem dX1_nextRow_26 : decode cX1_nextRow 26 = .ok (.areturn, 1) := by decide +kernel
theorem dX1_pourInto_0 : decode cX1_pourInto 0 = .ok (.aload_n 0, 1) := by decide +kernel
theorem dX1_pourInto_1 : decode cX1_pourInto 1 = .ok (.iload_n 2, 1) := by decide +kernel
theorem dX1_pourInto_2 : decode cX1_pourInto 2 = .ok (.i2l, 1) := by decide +kernel
theorem dX1_pourInto_3 : decode cX1_pourInto 3 = .ok (.invokevirtual 62, 3) := by decide +kernel
theorem dX1_pourInto_6 : decode cX1_pourInto 6 = .ok (.istore_n 3, 1) := by decide +kernel
theorem dX1_pourInto_7 : decode cX1_pourInto 7 = .ok (.aload_n 1, 1) := by decide +kernel
theorem dX1_pourInto_8 : decode cX1_pourInto 8 = .ok (.aload_n 0, 1) := by decide +kernel
theorem dX1_pourInto_9 : decode cX1_pourInto 9 = .ok (.getfield 12, 3) := by decide +kernel
theorem dX1_pourInto_12 : decode cX1_pourInto 12 = .ok (.aload_n 0, 1) := by decide +kernel
theorem dX1_pourInto_13 : decode cX1_pourInto 13 = .ok (.getfield 22, 3) := by decide +kernel
theorem dX1_pourInto_16 : decode cX1_pourInto 16 = .ok (.iload_n 3, 1) := by decide +kernel
theorem dX1_pourInto_17 : decode cX1_pourInto 17 = .ok (.invokevirtual 73, 3) := by decide +kernel
theorem dX1_pourInto_20 : decode cX1_pourInto 20 = .ok (.aload_n 0, 1) := by decide +kernel
theorem dX1_pourInto_21 : decode cX1_pourInto 21 = .ok (.iload_n 3, 1) := by decide +kernel
theorem dX1_pourInto_22 : decode cX1_pourInto 22 = .ok (.i2l, 1) := by decide +kernel
theorem dX1_pourInto_23 : decode cX1_pourInto 23 = .ok (.invokevirtual 52, 3) := by decide +kernel
theorem dX1_pourInto_26 : decode cX1_pourInto 26 = .ok (.ireturn, 1) := by decide +kernel
theorem dX2_init_0 : decode cX2_init 0 = .ok (.aload_n 0, 1) := by decide +kernel
theorem dX2_init_1 : decode cX2_init 1 = .ok (.invokespecial 1, 3) := by decide +kernel
theorem dX2_init_4 : decode cX2_init 4 = .ok (.aload_n 0, 1) := by decide +kernel
theorem dX2_init_5 : decode cX2_init 5 = .ok (.iload_n 1, 1) := by decide +kernel
theorem dX2_init_6 : decode cX2_init 6 = .ok (.iconst 0, 1) := by decide +kernel
theorem dX2_init_7 : decode cX2_init 7 = .ok (.invokestatic 7, 3) := by decide +kernel
theorem dX2_init_10 : decode cX2_init 10 = .ok (.newarray .byte, 2) := by decide +kernel
theorem dX2_init_12 : decode cX2_init 12 = .ok (.putfield 13, 3) := by decide +kernel
theorem dX2_init_15 : decode cX2_init 15 = .ok (.return_, 1) := by decide +kernel
theorem dX2_count_0 : decode cX2_count 0 = .ok (.aload_n 0, 1) := by decide +kernel
theorem dX2_count_1 : decode cX2_count 1 = .ok (.getfield 13, 3) := by decide +kernel
theorem dX2_count_4 : decode cX2_count 4 = .ok (.arraylength, 1) := by decide +kernel
theorem dX2_count_5 : decode cX2_count 5 = .ok (.ireturn, 1) := by decide +kernel
theorem dX2_has_0 : decode cX2_has 0 = .ok (.iload_n 1, 1) := by decide +kernel
theorem dX2_has_1 : decode cX2_has 1 = .ok (.ifCond .lt 16, 3) := by decide +kernel
theorem dX2_has_4 : decode cX2_has 4 = .ok (.iload_n 1, 1) := by decide +kernel
theorem dX2_has_5 : decode cX2_has 5 = .ok (.aload_n 0, 1) := by decide +kernel
theorem dX2_has_6 : decode cX2_has 6 = .ok (.getfield 13, 3) := by decide +kernel
theorem dX2_has_9 : decode cX2_has 9 = .ok (.arraylength, 1) := by decide +kernel
theorem dX2_has_10 : decode cX2_has 10 = .ok (.if_icmp .ge 7, 3) := by decide +kernel
theorem dX2_has_13 : decode cX2_has 13 = .ok (.iconst 1, 1) := by decide +kernel
theorem dX2_has_14 : decode cX2_has 14 = .ok (.goto 4, 3) := by decide +kernel
theorem dX2_has_17 : decode cX2_has 17 = .ok (.iconst 0, 1) := by decide +kernel
theorem dX2_has_18 : decode cX2_has 18 = .ok (.ireturn, 1) := by decide +kernel
theorem dX2_byteAt_0 : decode cX2_byteAt 0 = .ok (.aload_n 0, 1) := by decide +kernel
theorem dX2_byteAt_1 : decode cX2_byteAt 1 = .ok (.iload_n 1, 1) := by decide +kernel
theorem dX2_byteAt_2 : decode cX2_byteAt 2 = .ok (.invokevirtual 19, 3) := by decide +kernel
theorem dX2_byteAt_5 : decode cX2_byteAt 5 = .ok (.ifCond .eq 12, 3) := by decide +kernel
theorem dX2_byteAt_8 : decode cX2_byteAt 8 = .ok (.aload_n 0, 1) := by decide +kernel
theorem dX2_byteAt_9 : decode cX2_byteAt 9 = .ok (.getfield 13, 3) := by decide +kernel
theorem dX2_byteAt_12 : decode cX2_byteAt 12 = .ok (.iload_n 1, 1) := by decide +kernel
theorem dX2_byteAt_13 : decode cX2_byteAt 13 = .ok (.baload, 1) := by decide +kernel
theorem dX2_byteAt_14 : decode cX2_byteAt 14 = .ok (.goto 4, 3) := by decide +kernel
theorem dX2_byteAt_17 : decode cX2_byteAt 17 = .ok (.iconst 0, 1) := by decide +kernel
theorem dX2_byteAt_18 : decode cX2_byteAt 18 = .ok (.ireturn, 1) := by decide +kernel
theorem dX2_exchange_0 : decode cX2_exchange 0 = .ok (.aload_n 0, 1) := by decide +kernel
theorem dX2_exchange_1 : decode cX2_exchange 1 = .ok (.iload_n 1, 1) := by decide +kernel
theorem dX2_exchange_2 : decode cX2_exchange 2 = .ok (.invokevirtual 23, 3) := by decide +kernel
theorem dX2_exchange_5 : decode cX2_exchange 5 = .ok (.istore_n 3, 1) := by decide +kernel
theorem dX2_exchange_6 : decode cX2_exchange 6 = .ok (.aload_n 0, 1) := by decide +kernel
theorem dX2_exchange_7 : decode cX2_exchange 7 = .ok (.iload_n 1, 1) := by decide +kernel
theorem dX2_exchange_8 : decode cX2_exchange 8 = .ok (.invokevirtual 19, 3) := by decide +kernel
theorem dX2_exchange_11 : decode cX2_exchange 11 = .ok (.ifCond .eq 11, 3) := by decide +kernel
theorem dX2_exchange_14 : decode cX2_exchange 14 = .ok (.aload_n 0, 1) := by decide +kernel
theorem dX2_exchange_15 : decode cX2_exchange 15 = .ok (.getfield 13, 3) := by decide +kernel
theorem dX2_exchange_18 : decode cX2_exchange 18 = .ok (.iload_n 1, 1) := by decide +kernel
theorem dX2_exchange_19 : decode cX2_exchange 19 = .ok (.iload_n 2, 1) := by decide +kernel
theorem dX2_exchange_20 : decode cX2_exchange 20 = .ok (.i2b, 1) := by decide +kernel
theorem dX2_exchange_21 : decode cX2_exchange 21 = .ok (.bastore, 1) := by decide +kernel
theorem dX2_exchange_22 : decode cX2_exchange 22 = .ok (.iload_n 3, 1) := by decide +kernel
theorem dX2_exchange_23 : decode cX2_exchange 23 = .ok (.ireturn, 1) := by decide +kernel
theorem dX2_hasPart_0 : decode cX2_hasPart 0 = .ok (.iload_n 1, 1) := by decide +kernel
theorem dX2_hasPart_1 : decode cX2_hasPart 1 = .ok (.ifCond .lt 31, 3) := by decide +kernel
theorem dX2_hasPart_4 : decode cX2_hasPart 4 = .ok (.iload_n 2, 1) := by decide +kernel
theorem dX2_hasPart_5 : decode cX2_hasPart 5 = .ok (.ifCond .lt 27, 3) := by decide +kernel
theorem dX2_hasPart_8 : decode cX2_hasPart 8 = .ok (.iload_n 1, 1) := by decide +kernel
theorem dX2_hasPart_9 : decode cX2_hasPart 9 = .ok (.aload_n 0, 1) := by decide +kernel
theorem dX2_hasPart_10 : decode cX2_hasPart 10 = .ok (.getfield 13, 3) := by decide +kernel
theorem dX2_hasPart_13 : decode cX2_hasPart 13 = .ok (.arraylength, 1) := by decide +kernel
theorem dX2_hasPart_14 : decode cX2_hasPart 14 = .ok (.if_icmp .gt 18, 3) := by decide +kernel
theorem dX2_hasPart_17 : decode cX2_hasPart 17 = .ok (.iload_n 2, 1) := by decide +kernel
theorem dX2_hasPart_18 : decode cX2_hasPart 18 = .ok (.aload_n 0, 1) := by decide +kernel
theorem dX2_hasPart_19 : decode cX2_hasPart 19 = .ok (.getfield 13, 3) := by decide +kernel
theorem dX2_hasPart_22 : decode cX2_hasPart 22 = .ok (.arraylength, 1) := by decide +kernel
theorem dX2_hasPart_23 : decode cX2_hasPart 23 = .ok (.iload_n 1, 1) := by decide +kernel
theorem dX2_hasPart_24 : decode cX2_hasPart 24 = .ok (.isub, 1) := by decide +kernel
theorem dX2_hasPart_25 : decode cX2_hasPart 25 = .ok (.if_icmp .gt 7, 3) := by decide +kernel
theorem dX2_hasPart_28 : decode cX2_hasPart 28 = .ok (.iconst 1, 1) := by decide +kernel
theorem dX2_hasPart_29 : decode cX2_hasPart 29 = .ok (.goto 4, 3) := by decide +kernel
theorem dX2_hasPart_32 : decode cX2_hasPart 32 = .ok (.iconst 0, 1) := by decide +kernel
theorem dX2_hasPart_33 : decode cX2_hasPart 33 = .ok (.ireturn, 1) := by decide +kernel
theorem dX2_copyTo_0 : decode cX2_copyTo 0 = .ok (.aload_n 0, 1) := by decide +kernel
theorem dX2_copyTo_1 : decode cX2_copyTo 1 = .ok (.iload_n 3, 1) := by decide +kernel
theorem dX2_copyTo_2 : decode cX2_copyTo 2 = .ok (.iload 4, 2) := by decide +kernel
theorem dX2_copyTo_4 : decode cX2_copyTo 4 = .ok (.invokevirtual 27, 3) := by decide +kernel
theorem dX2_copyTo_7 : decode cX2_copyTo 7 = .ok (.ifCond .eq 28, 3) := by decide +kernel
theorem dX2_copyTo_10 : decode cX2_copyTo 10 = .ok (.aload_n 1, 1) := by decide +kernel
theorem dX2_copyTo_11 : decode cX2_copyTo 11 = .ok (.iload_n 2, 1) := by decide +kernel
theorem dX2_copyTo_12 : decode cX2_copyTo 12 = .ok (.iload 4, 2) := by decide +kernel
theorem dX2_copyTo_14 : decode cX2_copyTo 14 = .ok (.invokevirtual 27, 3) := by decide +kernel
theorem dX2_copyTo_17 : decode cX2_copyTo 17 = .ok (.ifCond .eq 18, 3) := by decide +kernel
theorem dX2_copyTo_20 : decode cX2_copyTo 20 = .ok (.aload_n 0, 1) := by decide +kernel
theorem dX2_copyTo_21 : decode cX2_copyTo 21 = .ok (.getfield 13, 3) := by decide +kernel
theorem dX2_copyTo_24 : decode cX2_copyTo 24 = .ok (.iload_n 3, 1) := by decide +kernel
theorem dX2_copyTo_25 : decode cX2_copyTo 25 = .ok (.aload_n 1, 1) := by decide +kernel
theorem dX2_copyTo_26 : decode cX2_copyTo 26 = .ok (.getfield 13, 3) := by decide +kernel
theorem dX2_copyTo_29 : decode cX2_copyTo 29 = .ok (.iload_n 2, 1) := by decide +kernel
theorem dX2_copyTo_30 : decode cX2_copyTo 30 = .ok (.iload 4, 2) := by decide +kernel
theorem dX2_copyTo_32 : decode cX2_copyTo 32 = .ok (.invokestatic 31, 3) := by decide +kernel
theorem dX2_copyTo_35 : decode cX2_copyTo 35 = .ok (.return_, 1) := by decide +kernel
theorem dX2_addedTo_0 : decode cX2_addedTo 0 = .ok (.lload_n 1, 1) := by decide +kernel
theorem dX2_addedTo_1 : decode cX2_addedTo 1 = .ok (.lstore 4, 2) := by decide +kernel
theorem dX2_addedTo_3 : decode cX2_addedTo 3 = .ok (.iconst 0, 1) := by decide +kernel
theorem dX2_addedTo_4 : decode cX2_addedTo 4 = .ok (.istore 6, 2) := by decide +kernel
theorem dX2_addedTo_6 : decode cX2_addedTo 6 = .ok (.iload 6, 2) := by decide +kernel
theorem dX2_addedTo_8 : decode cX2_addedTo 8 = .ok (.iload_n 3, 1) := by decide +kernel
theorem dX2_addedTo_9 : decode cX2_addedTo 9 = .ok (.if_icmp .ge 25, 3) := by decide +kernel
theorem dX2_addedTo_12 : decode cX2_addedTo 12 = .ok (.ldc2_w 37, 3) := by decide +kernel
theorem dX2_addedTo_15 : decode cX2_addedTo 15 = .ok (.lload 4, 2) := by decide +kernel
theorem dX2_addedTo_17 : decode cX2_addedTo 17 = .ok (.lmul, 1) := by decide +kernel
theorem dX2_addedTo_18 : decode cX2_addedTo 18 = .ok (.aload_n 0, 1) := by decide +kernel
theorem dX2_addedTo_19 : decode cX2_addedTo 19 = .ok (.iload 6, 2) := by decide +kernel
theorem dX2_addedTo_21 : decode cX2_addedTo 21 = .ok (.invokevirtual 23, 3) := by decide +kernel
theorem dX2_addedTo_24 : decode cX2_addedTo 24 = .ok (.i2l, 1) := by decide +kernel
theorem dX2_addedTo_25 : decode cX2_addedTo 25 = .ok (.ladd, 1) := by decide +kernel
theorem dX2_addedTo_26 : decode cX2_addedTo 26 = .ok (.lstore 4, 2) := by decide +kernel
theorem dX2_addedTo_28 : decode cX2_addedTo 28 = .ok (.iinc 6 1, 3) := by decide +kernel
theorem dX2_addedTo_31 : decode cX2_addedTo 31 = .ok (.goto (-25), 3) := by decide +kernel
theorem dX2_addedTo_34 : decode cX2_addedTo 34 = .ok (.lload 4, 2) := by decide +kernel
theorem dX2_addedTo_36 : decode cX2_addedTo 36 = .ok (.lreturn, 1) := by decide +kernel
theorem dX3_init_0 : decode cX3_init 0 = .ok (.aload_n 0, 1) := by decide +kernel
theorem dX3_init_1 : decode cX3_init 1 = .ok (.invokespecial 1, 3) := by decide +kernel
theorem dX3_init_4 : decode cX3_init 4 = .ok (.aload_n 0, 1) := by decide +kernel
theorem dX3_init_5 : decode cX3_init 5 = .ok (.iconst 4, 1) := by decide +kernel
theorem dX3_init_6 : decode cX3_init 6 = .ok (.anewarray 9, 3) := by decide +kernel
theorem dX3_init_9 : decode cX3_init 9 = .ok (.putfield 11, 3) := by decide +kernel
theorem dX3_init_12 : decode cX3_init 12 = .ok (.iconst 0, 1) := by decide +kernel
theorem dX3_init_13 : decode cX3_init 13 = .ok (.istore_n 1, 1) := by decide +kernel
theorem dX3_init_14 : decode cX3_init 14 = .ok (.iload_n 1, 1) := by decide +kernel
theorem dX3_init_15 : decode cX3_init 15 = .ok (.aload_n 0, 1) := by decide +kernel
theorem dX3_init_16 : decode cX3_init 16 = .ok (.getfield 11, 3) := by decide +kernel
theorem dX3_init_19 : decode cX3_init 19 = .ok (.arraylength, 1) := by decide +kernel
theorem dX3_init_20 : decode cX3_init 20 = .ok (.if_icmp .ge 23, 3) := by decide +kernel
theorem dX3_init_23 : decode cX3_init 23 = .ok (.aload_n 0, 1) := by decide +kernel
theorem dX3_init_24 : decode cX3_init 24 = .ok (.getfield 11, 3) := by decide +kernel
theorem dX3_init_27 : decode cX3_init 27 = .ok (.iload_n 1, 1) := by decide +kernel
theorem dX3_init_28 : decode cX3_init 28 = .ok (.new 9, 3) := by decide +kernel
theorem dX3_init_31 : decode cX3_init 31 = .ok (.dup, 1) := by decide +kernel
theorem dX3_init_32 : decode cX3_init 32 = .ok (.iconst 0, 1) := by decide +kernel
theorem dX3_init_33 : decode cX3_init 33 = .ok (.invokespecial 15, 3) := by decide +kernel
theorem dX3_init_36 : decode cX3_init 36 = .ok (.aastore, 1) := by decide +kernel
theorem dX3_init_37 : decode cX3_init 37 = .ok (.iinc 1 1, 3) := by decide +kernel
theorem dX3_init_40 : decode cX3_init 40 = .ok (.goto (-26), 3) := by decide +kernel
theorem dX3_init_43 : decode cX3_init 43 = .ok (.aload_n 0, 1) := by decide +kernel
theorem dX3_init_44 : decode cX3_init 44 = .ok (.iconst 3, 1) := by decide +kernel
theorem dX3_init_45 : decode cX3_init 45 = .ok (.anewarray 18, 3) := by decide +kernel
theorem dX3_init_48 : decode cX3_init 48 = .ok (.putfield 20, 3) := by decide +kernel
theorem dX3_init_51 : decode cX3_init 51 = .ok (.iconst 0, 1) := by decide +kernel
theorem dX3_init_52 : decode cX3_init 52 = .ok (.istore_n 1, 1) := by decide +kernel
theorem dX3_init_53 : decode cX3_init 53 = .ok (.iload_n 1, 1) := by decide +kernel
theorem dX3_init_54 : decode cX3_init 54 = .ok (.aload_n 0, 1) := by decide +kernel
theorem dX3_init_55 : decode cX3_init 55 = .ok (.getfield 20, 3) := by decide +kernel
theorem dX3_init_58 : decode cX3_init 58 = .ok (.arraylength, 1) := by decide +kernel
theorem dX3_init_59 : decode cX3_init 59 = .ok (.if_icmp .ge 22, 3) := by decide +kernel
theorem dX3_init_62 : decode cX3_init 62 = .ok (.aload_n 0, 1) := by decide +kernel
theorem dX3_init_63 : decode cX3_init 63 = .ok (.getfield 20, 3) := by decide +kernel
theorem dX3_init_66 : decode cX3_init 66 = .ok (.iload_n 1, 1) := by decide +kernel
theorem dX3_init_67 : decode cX3_init 67 = .ok (.new 18, 3) := by decide +kernel
theorem dX3_init_70 : decode cX3_init 70 = .ok (.dup, 1) := by decide +kernel
theorem dX3_init_71 : decode cX3_init 71 = .ok (.invokespecial 24, 3) := by decide +kernel
theorem dX3_init_74 : decode cX3_init 74 = .ok (.aastore, 1) := by decide +kernel
theorem dX3_init_75 : decode cX3_init 75 = .ok (.iinc 1 1, 3) := by decide +kernel
theorem dX3_init_78 : decode cX3_init 78 = .ok (.goto (-25), 3) := by decide +kernel
theorem dX3_init_81 : decode cX3_init 81 = .ok (.aload_n 0, 1) := by decide +kernel
theorem dX3_init_82 : decode cX3_init 82 = .ok (.iconst 3, 1) := by decide +kernel
theorem dX3_init_83 : decode cX3_init 83 = .ok (.anewarray 25, 3) := by decide +kernel
theorem dX3_init_86 : decode cX3_init 86 = .ok (.putfield 27, 3) := by decide +kernel
theorem dX3_init_89 : decode cX3_init 89 = .ok (.iconst 0, 1) := by decide +kernel
theorem dX3_init_90 : decode cX3_init 90 = .ok (.istore_n 1, 1) := by decide +kernel
theorem dX3_init_91 : decode cX3_init 91 = .ok (.iload_n 1, 1) := by decide +kernel
theorem dX3_init_92 : decode cX3_init 92 = .ok (.aload_n 0, 1) := by decide +kernel
theorem dX3_init_93 : decode cX3_init 93 = .ok (.getfield 27, 3) := by decide +kernel
theorem dX3_init_96 : decode cX3_init 96 = .ok (.arraylength, 1) := by decide +kernel
theorem dX3_init_97 : decode cX3_init 97 = .ok (.if_icmp .ge 22, 3) := by decide +kernel
theorem dX3_init_100 : decode cX3_init 100 = .ok (.aload_n 0, 1) := by decide +kernel
theorem dX3_init_101 : decode cX3_init 101 = .ok (.getfield 27, 3) := by decide +kernel
theorem dX3_init_104 : decode cX3_init 104 = .ok (.iload_n 1, 1) := by decide +kernel
theorem dX3_init_105 : decode cX3_init 105 = .ok (.new 25, 3) := by decide +kernel
theorem dX3_init_108 : decode cX3_init 108 = .ok (.dup, 1) := by decide +kernel
theorem dX3_init_109 : decode cX3_init 109 = .ok (.invokespecial 31, 3) := by decide +kernel
theorem dX3_init_112 : decode cX3_init 112 = .ok (.aastore, 1) := by decide +kernel
theorem dX3_init_113 : decode cX3_init 113 = .ok (.iinc 1 1, 3) := by decide +kernel
theorem dX3_init_116 : decode cX3_init 116 = .ok (.goto (-25), 3) := by decide +kernel
theorem dX3_init_119 : decode cX3_init 119 = .ok (.aload_n 0, 1) := by decide +kernel
theorem dX3_init_120 : decode cX3_init 120 = .ok (.new 25, 3) := by decide +kernel
theorem dX3_init_123 : decode cX3_init 123 = .ok (.dup, 1) := by decide +kernel
theorem dX3_init_124 : decode cX3_init 124 = .ok (.invokespecial 31, 3) := by decide +kernel
theorem dX3_init_127 : decode cX3_init 127 = .ok (.putfield 32, 3) := by decide +kernel
theorem dX3_init_130 : decode cX3_init 130 = .ok (.aload_n 0, 1) := by decide +kernel
theorem dX3_init_131 : decode cX3_init 131 = .ok (.new 18, 3) := by decide +kernel
theorem dX3_init_134 : decode cX3_init 134 = .ok (.dup, 1) := by decide +kernel
theorem dX3_init_135 : decode cX3_init 135 = .ok (.invokespecial 24, 3) := by decide +kernel
theorem dX3_init_138 : decode cX3_init 138 = .ok (.putfield 36, 3) := by decide +kernel
theorem dX3_init_141 : decode cX3_init 141 = .ok (.return_, 1) := by decide +kernel
theorem dX3_make_0 : decode cX3_make 0 = .ok (.aload_n 0, 1) := by decide +kernel
theorem dX3_make_1 : decode cX3_make 1 = .ok (.iload_n 1, 1) := by decide +kernel
theorem dX3_make_2 : decode cX3_make 2 = .ok (.invokevirtual 40, 3) := by decide +kernel
theorem dX3_make_5 : decode cX3_make 5 = .ok (.astore_n 3, 1) := by decide +kernel
theorem dX3_make_6 : decode cX3_make 6 = .ok (.iload_n 2, 1) := by decide +kernel
theorem dX3_make_7 : decode cX3_make 7 = .ok (.ifCond .lt 10, 3) := by decide +kernel
theorem dX3_make_10 : decode cX3_make 10 = .ok (.iload_n 2, 1) := by decide +kernel
theorem dX3_make_11 : decode cX3_make 11 = .ok (.sipush 256, 3) := by decide +kernel
theorem dX3_make_14 : decode cX3_make 14 = .ok (.if_icmp .le 13, 3) := by decide +kernel
theorem dX3_make_17 : decode cX3_make 17 = .ok (.new 44, 3) := by decide +kernel
theorem dX3_make_20 : decode cX3_make 20 = .ok (.dup, 1) := by decide +kernel
theorem dX3_make_21 : decode cX3_make 21 = .ok (.ldc 46, 2) := by decide +kernel
theorem dX3_make_23 : decode cX3_make 23 = .ok (.invokespecial 48, 3) := by decide +kernel
theorem dX3_make_26 : decode cX3_make 26 = .ok (.athrow, 1) := by decide +kernel
theorem dX3_make_27 : decode cX3_make 27 = .ok (.aload_n 0, 1) := by decide +kernel
theorem dX3_make_28 : decode cX3_make 28 = .ok (.getfield 11, 3) := by decide +kernel
theorem dX3_make_31 : decode cX3_make 31 = .ok (.iload_n 1, 1) := by decide +kernel
theorem dX3_make_32 : decode cX3_make 32 = .ok (.new 9, 3) := by decide +kernel
theorem dX3_make_35 : decode cX3_make 35 = .ok (.dup, 1) := by decide +kernel
theorem dX3_make_36 : decode cX3_make 36 = .ok (.iload_n 2, 1) := by decide +kernel
theorem dX3_make_37 : decode cX3_make 37 = .ok (.invokespecial 15, 3) := by decide +kernel
theorem dX3_make_40 : decode cX3_make 40 = .ok (.aastore, 1) := by decide +kernel
theorem dX3_make_41 : decode cX3_make 41 = .ok (.aload_n 3, 1) := by decide +kernel
theorem dX3_make_42 : decode cX3_make 42 = .ok (.invokevirtual 51, 3) := by decide +kernel
theorem dX3_make_45 : decode cX3_make 45 = .ok (.ireturn, 1) := by decide +kernel
theorem dX3_lend_0 : decode cX3_lend 0 = .ok (.aload_n 0, 1) := by decide +kernel
theorem dX3_lend_1 : decode cX3_lend 1 = .ok (.iload_n 1, 1) := by decide +kernel
theorem dX3_lend_2 : decode cX3_lend 2 = .ok (.invokevirtual 40, 3) := by decide +kernel
theorem dX3_lend_5 : decode cX3_lend 5 = .ok (.astore_n 3, 1) := by decide +kernel
theorem dX3_lend_6 : decode cX3_lend 6 = .ok (.aload_n 0, 1) := by decide +kernel
theorem dX3_lend_7 : decode cX3_lend 7 = .ok (.iload_n 2, 1) := by decide +kernel
theorem dX3_lend_8 : decode cX3_lend 8 = .ok (.invokevirtual 40, 3) := by decide +kernel
theorem dX3_lend_11 : decode cX3_lend 11 = .ok (.astore 4, 2) := by decide +kernel
theorem dX3_lend_13 : decode cX3_lend 13 = .ok (.aload_n 0, 1) := by decide +kernel
theorem dX3_lend_14 : decode cX3_lend 14 = .ok (.getfield 11, 3) := by decide +kernel
theorem dX3_lend_17 : decode cX3_lend 17 = .ok (.iload_n 2, 1) := by decide +kernel
theorem dX3_lend_18 : decode cX3_lend 18 = .ok (.aload_n 3, 1) := by decide +kernel
theorem dX3_lend_19 : decode cX3_lend 19 = .ok (.aastore, 1) := by decide +kernel
theorem dX3_lend_20 : decode cX3_lend 20 = .ok (.aload 4, 2) := by decide +kernel
theorem dX3_lend_22 : decode cX3_lend 22 = .ok (.invokevirtual 51, 3) := by decide +kernel
theorem dX3_lend_25 : decode cX3_lend 25 = .ok (.ireturn, 1) := by decide +kernel
theorem dX3_length_0 : decode cX3_length 0 = .ok (.aload_n 0, 1) := by decide +kernel
theorem dX3_length_1 : decode cX3_length 1 = .ok (.iload_n 1, 1) := by decide +kernel
theorem dX3_length_2 : decode cX3_length 2 = .ok (.invokevirtual 40, 3) := by decide +kernel
theorem dX3_length_5 : decode cX3_length 5 = .ok (.invokevirtual 51, 3) := by decide +kernel
theorem dX3_length_8 : decode cX3_length 8 = .ok (.ireturn, 1) := by decide +kernel
theorem dX3_get_0 : decode cX3_get 0 = .ok (.aload_n 0, 1) := by decide +kernel
theorem dX3_get_1 : decode cX3_get 1 = .ok (.iload_n 1, 1) := by decide +kernel
theorem dX3_get_2 : decode cX3_get 2 = .ok (.invokevirtual 40, 3) := by decide +kernel
theorem dX3_get_5 : decode cX3_get 5 = .ok (.astore_n 3, 1) := by decide +kernel
theorem dX3_get_6 : decode cX3_get 6 = .ok (.aload_n 3, 1) := by decide +kernel
theorem dX3_get_7 : decode cX3_get 7 = .ok (.iload_n 2, 1) := by decide +kernel
theorem dX3_get_8 : decode cX3_get 8 = .ok (.iconst 1, 1) := by decide +kernel
theorem dX3_get_9 : decode cX3_get 9 = .ok (.invokestatic 55, 3) := by decide +kernel
theorem dX3_get_12 : decode cX3_get 12 = .ok (.aload_n 3, 1) := by decide +kernel
theorem dX3_get_13 : decode cX3_get 13 = .ok (.iload_n 2, 1) := by decide +kernel
theorem dX3_get_14 : decode cX3_get 14 = .ok (.invokevirtual 59, 3) := by decide +kernel
theorem dX3_get_17 : decode cX3_get 17 = .ok (.ireturn, 1) := by decide +kernel
theorem dX3_put_0 : decode cX3_put 0 = .ok (.aload_n 0, 1) := by decide +kernel
theorem dX3_put_1 : decode cX3_put 1 = .ok (.iload_n 1, 1) := by decide +kernel
theorem dX3_put_2 : decode cX3_put 2 = .ok (.invokevirtual 40, 3) := by decide +kernel
theorem dX3_put_5 : decode cX3_put 5 = .ok (.astore 4, 2) := by decide +kernel
theorem dX3_put_7 : decode cX3_put 7 = .ok (.aload 4, 2) := by decide +kernel
theorem dX3_put_9 : decode cX3_put 9 = .ok (.iload_n 2, 1) := by decide +kernel
theorem dX3_put_10 : decode cX3_put 10 = .ok (.iconst 1, 1) := by decide +kernel
theorem dX3_put_11 : decode cX3_put 11 = .ok (.invokestatic 55, 3) := by decide +kernel
theorem dX3_put_14 : decode cX3_put 14 = .ok (.aload 4, 2) := by decide +kernel
theorem dX3_put_16 : decode cX3_put 16 = .ok (.iload_n 2, 1) := by decide +kernel
theorem dX3_put_17 : decode cX3_put 17 = .ok (.iload_n 3, 1) := by decide +kernel
theorem dX3_put_18 : decode cX3_put 18 = .ok (.invokevirtual 63, 3) := by decide +kernel
theorem dX3_put_21 : decode cX3_put 21 = .ok (.ireturn, 1) := by decide +kernel
theorem dX3_fill_0 : decode cX3_fill 0 = .ok (.aload_n 0, 1) := by decide +kernel
theorem dX3_fill_1 : decode cX3_fill 1 = .ok (.iload_n 1, 1) := by decide +kernel
theorem dX3_fill_2 : decode cX3_fill 2 = .ok (.invokevirtual 40, 3) := by decide +kernel
theorem dX3_fill_5 : decode cX3_fill 5 = .ok (.astore 6, 2) := by decide +kernel
theorem dX3_fill_7 : decode cX3_fill 7 = .ok (.aload 6, 2) := by decide +kernel
theorem dX3_fill_9 : decode cX3_fill 9 = .ok (.iload_n 2, 1) := by decide +kernel
theorem dX3_fill_10 : decode cX3_fill 10 = .ok (.iload_n 3, 1) := by decide +kernel
theorem dX3_fill_11 : decode cX3_fill 11 = .ok (.invokestatic 55, 3) := by decide +kernel
theorem dX3_fill_14 : decode cX3_fill 14 = .ok (.iconst 0, 1) := by decide +kernel
theorem dX3_fill_15 : decode cX3_fill 15 = .ok (.istore 7, 2) := by decide +kernel
theorem dX3_fill_17 : decode cX3_fill 17 = .ok (.iload 4, 2) := by decide +kernel
theorem dX3_fill_19 : decode cX3_fill 19 = .ok (.istore 8, 2) := by decide +kernel
theorem dX3_fill_21 : decode cX3_fill 21 = .ok (.iconst 0, 1) := by decide +kernel
theorem dX3_fill_22 : decode cX3_fill 22 = .ok (.istore 9, 2) := by decide +kernel
theorem dX3_fill_24 : decode cX3_fill 24 = .ok (.iload 9, 2) := by decide +kernel
theorem dX3_fill_26 : decode cX3_fill 26 = .ok (.iload_n 3, 1) := by decide +kernel
theorem dX3_fill_27 : decode cX3_fill 27 = .ok (.if_icmp .ge 32, 3) := by decide +kernel
theorem dX3_fill_30 : decode cX3_fill 30 = .ok (.iload 7, 2) := by decide +kernel
theorem dX3_fill_32 : decode cX3_fill 32 = .ok (.aload 6, 2) := by decide +kernel
theorem dX3_fill_34 : decode cX3_fill 34 = .ok (.iload_n 2, 1) := by decide +kernel
theorem dX3_fill_35 : decode cX3_fill 35 = .ok (.iload 9, 2) := by decide +kernel
theorem dX3_fill_37 : decode cX3_fill 37 = .ok (.iadd, 1) := by decide +kernel
theorem dX3_fill_38 : decode cX3_fill 38 = .ok (.iload 8, 2) := by decide +kernel
theorem dX3_fill_40 : decode cX3_fill 40 = .ok (.invokevirtual 63, 3) := by decide +kernel
theorem dX3_fill_43 : decode cX3_fill 43 = .ok (.iadd, 1) := by decide +kernel
theorem dX3_fill_44 : decode cX3_fill 44 = .ok (.istore 7, 2) := by decide +kernel
theorem dX3_fill_46 : decode cX3_fill 46 = .ok (.iload 8, 2) := by decide +kernel
theorem dX3_fill_48 : decode cX3_fill 48 = .ok (.iload 5, 2) := by decide +kernel
theorem dX3_fill_50 : decode cX3_fill 50 = .ok (.iadd, 1) := by decide +kernel
theorem dX3_fill_51 : decode cX3_fill 51 = .ok (.istore 8, 2) := by decide +kernel
theorem dX3_fill_53 : decode cX3_fill 53 = .ok (.iinc 9 1, 3) := by decide +kernel
theorem dX3_fill_56 : decode cX3_fill 56 = .ok (.goto (-32), 3) := by decide +kernel
theorem dX3_fill_59 : decode cX3_fill 59 = .ok (.iload 7, 2) := by decide +kernel
theorem dX3_fill_61 : decode cX3_fill 61 = .ok (.ireturn, 1) := by decide +kernel
theorem dX3_isLike_0 : decode cX3_isLike 0 = .ok (.aload_n 0, 1) := by decide +kernel
theorem dX3_isLike_1 : decode cX3_isLike 1 = .ok (.iload_n 1, 1) := by decide +kernel
theorem dX3_isLike_2 : decode cX3_isLike 2 = .ok (.invokevirtual 40, 3) := by decide +kernel
theorem dX3_isLike_5 : decode cX3_isLike 5 = .ok (.astore_n 3, 1) := by decide +kernel
theorem dX3_isLike_6 : decode cX3_isLike 6 = .ok (.aload_n 0, 1) := by decide +kernel
theorem dX3_isLike_7 : decode cX3_isLike 7 = .ok (.iload_n 2, 1) := by decide +kernel
theorem dX3_isLike_8 : decode cX3_isLike 8 = .ok (.invokevirtual 40, 3) := by decide +kernel
theorem dX3_isLike_11 : decode cX3_isLike 11 = .ok (.astore 4, 2) := by decide +kernel
theorem dX3_isLike_13 : decode cX3_isLike 13 = .ok (.aload_n 3, 1) := by decide +kernel
theorem dX3_isLike_14 : decode cX3_isLike 14 = .ok (.invokevirtual 51, 3) := by decide +kernel
theorem dX3_isLike_17 : decode cX3_isLike 17 = .ok (.aload 4, 2) := by decide +kernel
theorem dX3_isLike_19 : decode cX3_isLike 19 = .ok (.invokevirtual 51, 3) := by decide +kernel
theorem dX3_isLike_22 : decode cX3_isLike 22 = .ok (.if_icmp .eq 5, 3) := by decide +kernel
theorem dX3_isLike_25 : decode cX3_isLike 25 = .ok (.iconst 0, 1) := by decide +kernel
theorem dX3_isLike_26 : decode cX3_isLike 26 = .ok (.ireturn, 1) := by decide +kernel
theorem dX3_isLike_27 : decode cX3_isLike 27 = .ok (.iconst 0, 1) := by decide +kernel
theorem dX3_isLike_28 : decode cX3_isLike 28 = .ok (.istore 5, 2) := by decide +kernel
theorem dX3_isLike_30 : decode cX3_isLike 30 = .ok (.iload 5, 2) := by decide +kernel
theorem dX3_isLike_32 : decode cX3_isLike 32 = .ok (.aload_n 3, 1) := by decide +kernel
theorem dX3_isLike_33 : decode cX3_isLike 33 = .ok (.invokevirtual 51, 3) := by decide +kernel
theorem dX3_isLike_36 : decode cX3_isLike 36 = .ok (.if_icmp .ge 27, 3) := by decide +kernel
theorem dX3_isLike_39 : decode cX3_isLike 39 = .ok (.aload_n 3, 1) := by decide +kernel
theorem dX3_isLike_40 : decode cX3_isLike 40 = .ok (.iload 5, 2) := by decide +kernel
theorem dX3_isLike_42 : decode cX3_isLike 42 = .ok (.invokevirtual 59, 3) := by decide +kernel
theorem dX3_isLike_45 : decode cX3_isLike 45 = .ok (.aload 4, 2) := by decide +kernel
theorem dX3_isLike_47 : decode cX3_isLike 47 = .ok (.iload 5, 2) := by decide +kernel
theorem dX3_isLike_49 : decode cX3_isLike 49 = .ok (.invokevirtual 59, 3) := by decide +kernel
theorem dX3_isLike_52 : decode cX3_isLike 52 = .ok (.if_icmp .eq 5, 3) := by decide +kernel
theorem dX3_isLike_55 : decode cX3_isLike 55 = .ok (.iconst 0, 1) := by decide +kernel
theorem dX3_isLike_56 : decode cX3_isLike 56 = .ok (.ireturn, 1) := by decide +kernel
theorem dX3_isLike_57 : decode cX3_isLike 57 = .ok (.iinc 5 1, 3) := by decide +kernel
theorem dX3_isLike_60 : decode cX3_isLike 60 = .ok (.goto (-30), 3) := by decide +kernel
theorem dX3_isLike_63 : decode cX3_isLike 63 = .ok (.iconst 1, 1) := by decide +kernel
theorem dX3_isLike_64 : decode cX3_isLike 64 = .ok (.ireturn, 1) := by decide +kernel
theorem dX3_write_0 : decode cX3_write 0 = .ok (.aload_n 0, 1) := by decide +kernel
theorem dX3_write_1 : decode cX3_write 1 = .ok (.iload_n 1, 1) := by decide +kernel
theorem dX3_write_2 : decode cX3_write 2 = .ok (.invokevirtual 67, 3) := by decide +kernel
theorem dX3_write_5 : decode cX3_write 5 = .ok (.astore_n 3, 1) := by decide +kernel
theorem dX3_write_6 : decode cX3_write 6 = .ok (.aload_n 3, 1) := by decide +kernel
theorem dX3_write_7 : decode cX3_write 7 = .ok (.iconst 1, 1) := by decide +kernel
theorem dX3_write_8 : decode cX3_write 8 = .ok (.invokestatic 71, 3) := by decide +kernel
theorem dX3_write_11 : decode cX3_write 11 = .ok (.aload_n 3, 1) := by decide +kernel
theorem dX3_write_12 : decode cX3_write 12 = .ok (.iload_n 2, 1) := by decide +kernel
theorem dX3_write_13 : decode cX3_write 13 = .ok (.invokevirtual 75, 3) := by decide +kernel
theorem dX3_write_16 : decode cX3_write 16 = .ok (.aload_n 3, 1) := by decide +kernel
theorem dX3_write_17 : decode cX3_write 17 = .ok (.invokevirtual 78, 3) := by decide +kernel
theorem dX3_write_20 : decode cX3_write 20 = .ok (.ireturn, 1) := by decide +kernel
theorem dX3_writePart_0 : decode cX3_writePart 0 = .ok (.aload_n 0, 1) := by decide +kernel
theorem dX3_writePart_1 : decode cX3_writePart 1 = .ok (.iload_n 1, 1) := by decide +kernel
theorem dX3_writePart_2 : decode cX3_writePart 2 = .ok (.invokevirtual 67, 3) := by decide +kernel
theorem dX3_writePart_5 : decode cX3_writePart 5 = .ok (.astore 5, 2) := by decide +kernel
theorem dX3_writePart_7 : decode cX3_writePart 7 = .ok (.aload_n 0, 1) := by decide +kernel
theorem dX3_writePart_8 : decode cX3_writePart 8 = .ok (.iload_n 2, 1) := by decide +kernel
theorem dX3_writePart_9 : decode cX3_writePart 9 = .ok (.invokevirtual 40, 3) := by decide +kernel
theorem dX3_writePart_12 : decode cX3_writePart 12 = .ok (.astore 6, 2) := by decide +kernel
theorem dX3_writePart_14 : decode cX3_writePart 14 = .ok (.aload 6, 2) := by decide +kernel
theorem dX3_writePart_16 : decode cX3_writePart 16 = .ok (.iload_n 3, 1) := by decide +kernel
theorem dX3_writePart_17 : decode cX3_writePart 17 = .ok (.iload 4, 2) := by decide +kernel
theorem dX3_writePart_19 : decode cX3_writePart 19 = .ok (.invokestatic 55, 3) := by decide +kernel
theorem dX3_writePart_22 : decode cX3_writePart 22 = .ok (.aload 5, 2) := by decide +kernel
theorem dX3_writePart_24 : decode cX3_writePart 24 = .ok (.iload 4, 2) := by decide +kernel
theorem dX3_writePart_26 : decode cX3_writePart 26 = .ok (.invokestatic 71, 3) := by decide +kernel
theorem dX3_writePart_29 : decode cX3_writePart 29 = .ok (.aload 5, 2) := by decide +kernel
theorem dX3_writePart_31 : decode cX3_writePart 31 = .ok (.aload 6, 2) := by decide +kernel
theorem dX3_writePart_33 : decode cX3_writePart 33 = .ok (.iload_n 3, 1) := by decide +kernel
theorem dX3_writePart_34 : decode cX3_writePart 34 = .ok (.iload 4, 2) := by decide +kernel
theorem dX3_writePart_36 : decode cX3_writePart 36 = .ok (.invokevirtual 79, 3) := by decide +kernel
theorem dX3_writePart_39 : decode cX3_writePart 39 = .ok (.aload 5, 2) := by decide +kernel
theorem dX3_writePart_41 : decode cX3_writePart 41 = .ok (.invokevirtual 78, 3) := by decide +kernel
theorem dX3_writePart_44 : decode cX3_writePart 44 = .ok (.ireturn, 1) := by decide +kernel
theorem dX3_writeRow_0 : decode cX3_writeRow 0 = .ok (.aload_n 0, 1) := by decide +kernel
theorem dX3_writeRow_1 : decode cX3_writeRow 1 = .ok (.iload_n 1, 1) := by decide +kernel
theorem dX3_writeRow_2 : decode cX3_writeRow 2 = .ok (.invokevirtual 67, 3) := by decide +kernel
theorem dX3_writeRow_5 : decode cX3_writeRow 5 = .ok (.astore_n 3, 1) := by decide +kernel
theorem dX3_writeRow_6 : decode cX3_writeRow 6 = .ok (.aload_n 0, 1) := by decide +kernel
theorem dX3_writeRow_7 : decode cX3_writeRow 7 = .ok (.iload_n 2, 1) := by decide +kernel
theorem dX3_writeRow_8 : decode cX3_writeRow 8 = .ok (.invokevirtual 40, 3) := by decide +kernel
theorem dX3_writeRow_11 : decode cX3_writeRow 11 = .ok (.astore 4, 2) := by decide +kernel
theorem dX3_writeRow_13 : decode cX3_writeRow 13 = .ok (.aload_n 3, 1) := by decide +kernel
theorem dX3_writeRow_14 : decode cX3_writeRow 14 = .ok (.aload 4, 2) := by decide +kernel
theorem dX3_writeRow_16 : decode cX3_writeRow 16 = .ok (.invokevirtual 51, 3) := by decide +kernel
theorem dX3_writeRow_19 : decode cX3_writeRow 19 = .ok (.invokestatic 71, 3) := by decide +kernel
theorem dX3_writeRow_22 : decode cX3_writeRow 22 = .ok (.aload_n 3, 1) := by decide +kernel
theorem dX3_writeRow_23 : decode cX3_writeRow 23 = .ok (.aload 4, 2) := by decide +kernel
theorem dX3_writeRow_25 : decode cX3_writeRow 25 = .ok (.iconst 0, 1) := by decide +kernel
theorem dX3_writeRow_26 : decode cX3_writeRow 26 = .ok (.aload 4, 2) := by decide +kernel
theorem dX3_writeRow_28 : decode cX3_writeRow 28 = .ok (.invokevirtual 51, 3) := by decide +kernel
theorem dX3_writeRow_31 : decode cX3_writeRow 31 = .ok (.invokevirtual 79, 3) := by decide +kernel
theorem dX3_writeRow_34 : decode cX3_writeRow 34 = .ok (.aload_n 3, 1) := by decide +kernel
theorem dX3_writeRow_35 : decode cX3_writeRow 35 = .ok (.invokevirtual 78, 3) := by decide +kernel
theorem dX3_writeRow_38 : decode cX3_writeRow 38 = .ok (.ireturn, 1) := by decide +kernel
theorem dX3_writeNumber_0 : decode cX3_writeNumber 0 = .ok (.aload_n 0, 1) := by decide +kernel
theorem dX3_writeNumber_1 : decode cX3_writeNumber 1 = .ok (.iload_n 1, 1) := by decide +kernel
theorem dX3_writeNumber_2 : decode cX3_writeNumber 2 = .ok (.invokevirtual 67, 3) := by decide +kernel
theorem dX3_writeNumber_5 : decode cX3_writeNumber 5 = .ok (.astore_n 3, 1) := by decide +kernel
theorem dX3_writeNumber_6 : decode cX3_writeNumber 6 = .ok (.aload_n 3, 1) := by decide +kernel
theorem dX3_writeNumber_7 : decode cX3_writeNumber 7 = .ok (.iconst 4, 1) := by decide +kernel
theorem dX3_writeNumber_8 : decode cX3_writeNumber 8 = .ok (.invokestatic 71, 3) := by decide +kernel
theorem dX3_writeNumber_11 : decode cX3_writeNumber 11 = .ok (.bipush 24, 2) := by decide +kernel
theorem dX3_writeNumber_13 : decode cX3_writeNumber 13 = .ok (.istore 4, 2) := by decide +kernel
theorem dX3_writeNumber_15 : decode cX3_writeNumber 15 = .ok (.iload 4, 2) := by decide +kernel
theorem dX3_writeNumber_17 : decode cX3_writeNumber 17 = .ok (.ifCond .lt 17, 3) := by decide +kernel
theorem dX3_writeNumber_20 : decode cX3_writeNumber 20 = .ok (.aload_n 3, 1) := by decide +kernel
theorem dX3_writeNumber_21 : decode cX3_writeNumber 21 = .ok (.iload_n 2, 1) := by decide +kernel
theorem dX3_writeNumber_22 : decode cX3_writeNumber 22 = .ok (.iload 4, 2) := by decide +kernel
theorem dX3_writeNumber_24 : decode cX3_writeNumber 24 = .ok (.ishr, 1) := by decide +kernel
theorem dX3_writeNumber_25 : decode cX3_writeNumber 25 = .ok (.invokevirtual 75, 3) := by decide +kernel
theorem dX3_writeNumber_28 : decode cX3_writeNumber 28 = .ok (.iinc 4 (-8), 3) := by decide +kernel
theorem dX3_writeNumber_31 : decode cX3_writeNumber 31 = .ok (.goto (-16), 3) := by decide +kernel
theorem dX3_writeNumber_34 : decode cX3_writeNumber 34 = .ok (.aload_n 3, 1) := by decide +kernel
theorem dX3_writeNumber_35 : decode cX3_writeNumber 35 = .ok (.invokevirtual 78, 3) := by decide +kernel
theorem dX3_writeNumber_38 : decode cX3_writeNumber 38 = .ok (.ireturn, 1) := by decide +kernel
theorem dX3_size_0 : decode cX3_size 0 = .ok (.aload_n 0, 1) := by decide +kernel
theorem dX3_size_1 : decode cX3_size 1 = .ok (.iload_n 1, 1) := by decide +kernel
theorem dX3_size_2 : decode cX3_size 2 = .ok (.invokevirtual 67, 3) := by decide +kernel
theorem dX3_size_5 : decode cX3_size 5 = .ok (.invokevirtual 78, 3) := by decide +kernel
theorem dX3_size_8 : decode cX3_size 8 = .ok (.ireturn, 1) := by decide +kernel
theorem dX3_empty_0 : decode cX3_empty 0 = .ok (.aload_n 0, 1) := by decide +kernel
theorem dX3_empty_1 : decode cX3_empty 1 = .ok (.iload_n 1, 1) := by decide +kernel
theorem dX3_empty_2 : decode cX3_empty 2 = .ok (.invokevirtual 67, 3) := by decide +kernel
theorem dX3_empty_5 : decode cX3_empty 5 = .ok (.astore_n 2, 1) := by decide +kernel
theorem dX3_empty_6 : decode cX3_empty 6 = .ok (.aload_n 2, 1) := by decide +kernel
theorem dX3_empty_7 : decode cX3_empty 7 = .ok (.invokevirtual 78, 3) := by decide +kernel
theorem dX3_empty_10 : decode cX3_empty 10 = .ok (.istore_n 3, 1) := by decide +kernel
theorem dX3_empty_11 : decode cX3_empty 11 = .ok (.aload_n 2, 1) := by decide +kernel
theorem dX3_empty_12 : decode cX3_empty 12 = .ok (.invokevirtual 82, 3) := by decide +kernel
theorem dX3_empty_15 : decode cX3_empty 15 = .ok (.iload_n 3, 1) := by decide +kernel
theorem dX3_empty_16 : decode cX3_empty 16 = .ok (.ireturn, 1) := by decide +kernel
theorem dX3_take_0 : decode cX3_take 0 = .ok (.aload_n 0, 1) := by decide +kernel
theorem dX3_take_1 : decode cX3_take 1 = .ok (.iload_n 1, 1) := by decide +kernel
theorem dX3_take_2 : decode cX3_take 2 = .ok (.invokevirtual 67, 3) := by decide +kernel
theorem dX3_take_5 : decode cX3_take 5 = .ok (.astore_n 3, 1) := by decide +kernel
theorem dX3_take_6 : decode cX3_take 6 = .ok (.aload_n 0, 1) := by decide +kernel
theorem dX3_take_7 : decode cX3_take 7 = .ok (.iload_n 2, 1) := by decide +kernel
theorem dX3_take_8 : decode cX3_take 8 = .ok (.invokevirtual 85, 3) := by decide +kernel
theorem dX3_take_11 : decode cX3_take 11 = .ok (.aload_n 3, 1) := by decide +kernel
theorem dX3_take_12 : decode cX3_take 12 = .ok (.invokevirtual 88, 3) := by decide +kernel
theorem dX3_take_15 : decode cX3_take 15 = .ok (.astore 4, 2) := by decide +kernel
theorem dX3_take_17 : decode cX3_take 17 = .ok (.aload_n 0, 1) := by decide +kernel
theorem dX3_take_18 : decode cX3_take 18 = .ok (.getfield 11, 3) := by decide +kernel
theorem dX3_take_21 : decode cX3_take 21 = .ok (.iload_n 2, 1) := by decide +kernel
theorem dX3_take_22 : decode cX3_take 22 = .ok (.aload 4, 2) := by decide +kernel
theorem dX3_take_24 : decode cX3_take 24 = .ok (.aastore, 1) := by decide +kernel
theorem dX3_take_25 : decode cX3_take 25 = .ok (.aload 4, 2) := by decide +kernel
theorem dX3_take_27 : decode cX3_take 27 = .ok (.invokevirtual 51, 3) := by decide +kernel
theorem dX3_take_30 : decode cX3_take 30 = .ok (.ireturn, 1) := by decide +kernel
theorem dX3_open_0 : decode cX3_open 0 = .ok (.aload_n 0, 1) := by decide +kernel
theorem dX3_open_1 : decode cX3_open 1 = .ok (.iload_n 1, 1) := by decide +kernel
theorem dX3_open_2 : decode cX3_open 2 = .ok (.invokevirtual 92, 3) := by decide +kernel
theorem dX3_open_5 : decode cX3_open 5 = .ok (.astore_n 3, 1) := by decide +kernel
theorem dX3_open_6 : decode cX3_open 6 = .ok (.aload_n 3, 1) := by decide +kernel
theorem dX3_open_7 : decode cX3_open 7 = .ok (.aload_n 0, 1) := by decide +kernel
theorem dX3_open_8 : decode cX3_open 8 = .ok (.iload_n 2, 1) := by decide +kernel
theorem dX3_open_9 : decode cX3_open 9 = .ok (.invokevirtual 40, 3) := by decide +kernel
theorem dX3_open_12 : decode cX3_open 12 = .ok (.invokevirtual 96, 3) := by decide +kernel
theorem dX3_open_15 : decode cX3_open 15 = .ok (.aload_n 3, 1) := by decide +kernel
theorem dX3_open_16 : decode cX3_open 16 = .ok (.invokevirtual 100, 3) := by decide +kernel
theorem dX3_open_19 : decode cX3_open 19 = .ok (.ireturn, 1) := by decide +kernel
theorem dX3_isOpen_0 : decode cX3_isOpen 0 = .ok (.aload_n 0, 1) := by decide +kernel
theorem dX3_isOpen_1 : decode cX3_isOpen 1 = .ok (.iload_n 1, 1) := by decide +kernel
theorem dX3_isOpen_2 : decode cX3_isOpen 2 = .ok (.invokevirtual 92, 3) := by decide +kernel
theorem dX3_isOpen_5 : decode cX3_isOpen 5 = .ok (.invokevirtual 103, 3) := by decide +kernel
theorem dX3_isOpen_8 : decode cX3_isOpen 8 = .ok (.ireturn, 1) := by decide +kernel
theorem dX3_read_0 : decode cX3_read 0 = .ok (.aload_n 0, 1) := by decide +kernel
theorem dX3_read_1 : decode cX3_read 1 = .ok (.iload_n 1, 1) := by decide +kernel
theorem dX3_read_2 : decode cX3_read 2 = .ok (.invokevirtual 92, 3) := by decide +kernel
theorem dX3_read_5 : decode cX3_read 5 = .ok (.astore_n 2, 1) := by decide +kernel
theorem dX3_read_6 : decode cX3_read 6 = .ok (.aload_n 2, 1) := by decide +kernel
theorem dX3_read_7 : decode cX3_read 7 = .ok (.invokestatic 107, 3) := by decide +kernel
theorem dX3_read_10 : decode cX3_read 10 = .ok (.aload_n 2, 1) := by decide +kernel
theorem dX3_read_11 : decode cX3_read 11 = .ok (.invokevirtual 100, 3) := by decide +kernel
theorem dX3_read_14 : decode cX3_read 14 = .ok (.ifCond .ne 5, 3) := by decide +kernel
theorem dX3_read_17 : decode cX3_read 17 = .ok (.iconst (-1), 1) := by decide +kernel
theorem dX3_read_18 : decode cX3_read 18 = .ok (.ireturn, 1) := by decide +kernel
theorem dX3_read_19 : decode cX3_read 19 = .ok (.aload_n 2, 1) := by decide +kernel
theorem dX3_read_20 : decode cX3_read 20 = .ok (.iconst 1, 1) := by decide +kernel
theorem dX3_read_21 : decode cX3_read 21 = .ok (.invokevirtual 111, 3) := by decide +kernel
theorem dX3_read_24 : decode cX3_read 24 = .ok (.pop, 1) := by decide +kernel
theorem dX3_read_25 : decode cX3_read 25 = .ok (.aload_n 2, 1) := by decide +kernel
theorem dX3_read_26 : decode cX3_read 26 = .ok (.invokevirtual 114, 3) := by decide +kernel
theorem dX3_read_29 : decode cX3_read 29 = .ok (.ireturn, 1) := by decide +kernel
theorem dX3_readPart_0 : decode cX3_readPart 0 = .ok (.aload_n 0, 1) := by decide +kernel
theorem dX3_readPart_1 : decode cX3_readPart 1 = .ok (.iload_n 1, 1) := by decide +kernel
theorem dX3_readPart_2 : decode cX3_readPart 2 = .ok (.invokevirtual 92, 3) := by decide +kernel
theorem dX3_readPart_5 : decode cX3_readPart 5 = .ok (.astore 5, 2) := by decide +kernel
theorem dX3_readPart_7 : decode cX3_readPart 7 = .ok (.aload_n 0, 1) := by decide +kernel
theorem dX3_readPart_8 : decode cX3_readPart 8 = .ok (.iload_n 2, 1) := by decide +kernel
theorem dX3_readPart_9 : decode cX3_readPart 9 = .ok (.invokevirtual 40, 3) := by decide +kernel
theorem dX3_readPart_12 : decode cX3_readPart 12 = .ok (.astore 6, 2) := by decide +kernel
theorem dX3_readPart_14 : decode cX3_readPart 14 = .ok (.aload 6, 2) := by decide +kernel
theorem dX3_readPart_16 : decode cX3_readPart 16 = .ok (.iload_n 3, 1) := by decide +kernel
theorem dX3_readPart_17 : decode cX3_readPart 17 = .ok (.iload 4, 2) := by decide +kernel
theorem dX3_readPart_19 : decode cX3_readPart 19 = .ok (.invokestatic 55, 3) := by decide +kernel
theorem dX3_readPart_22 : decode cX3_readPart 22 = .ok (.aload 5, 2) := by decide +kernel
theorem dX3_readPart_24 : decode cX3_readPart 24 = .ok (.invokestatic 107, 3) := by decide +kernel
theorem dX3_readPart_27 : decode cX3_readPart 27 = .ok (.aload 5, 2) := by decide +kernel
theorem dX3_readPart_29 : decode cX3_readPart 29 = .ok (.invokevirtual 100, 3) := by decide +kernel
theorem dX3_readPart_32 : decode cX3_readPart 32 = .ok (.ifCond .ne 5, 3) := by decide +kernel
theorem dX3_readPart_35 : decode cX3_readPart 35 = .ok (.iconst (-1), 1) := by decide +kernel
theorem dX3_readPart_36 : decode cX3_readPart 36 = .ok (.ireturn, 1) := by decide +kernel
theorem dX3_readPart_37 : decode cX3_readPart 37 = .ok (.aload 5, 2) := by decide +kernel
theorem dX3_readPart_39 : decode cX3_readPart 39 = .ok (.aload 5, 2) := by decide +kernel
theorem dX3_readPart_41 : decode cX3_readPart 41 = .ok (.aload 6, 2) := by decide +kernel
theorem dX3_readPart_43 : decode cX3_readPart 43 = .ok (.iload_n 3, 1) := by decide +kernel
theorem dX3_readPart_44 : decode cX3_readPart 44 = .ok (.iload 4, 2) := by decide +kernel
theorem dX3_readPart_46 : decode cX3_readPart 46 = .ok (.invokevirtual 117, 3) := by decide +kernel
theorem dX3_readPart_49 : decode cX3_readPart 49 = .ok (.invokevirtual 111, 3) := by decide +kernel
theorem dX3_readPart_52 : decode cX3_readPart 52 = .ok (.ireturn, 1) := by decide +kernel
theorem dX3_readFull_0 : decode cX3_readFull 0 = .ok (.aload_n 0, 1) := by decide +kernel
theorem dX3_readFull_1 : decode cX3_readFull 1 = .ok (.iload_n 1, 1) := by decide +kernel
theorem dX3_readFull_2 : decode cX3_readFull 2 = .ok (.invokevirtual 92, 3) := by decide +kernel
theorem dX3_readFull_5 : decode cX3_readFull 5 = .ok (.astore 5, 2) := by decide +kernel
theorem dX3_readFull_7 : decode cX3_readFull 7 = .ok (.aload_n 0, 1) := by decide +kernel
theorem dX3_readFull_8 : decode cX3_readFull 8 = .ok (.iload_n 2, 1) := by decide +kernel
theorem dX3_readFull_9 : decode cX3_readFull 9 = .ok (.invokevirtual 40, 3) := by decide +kernel
theorem dX3_readFull_12 : decode cX3_readFull 12 = .ok (.astore 6, 2) := by decide +kernel
theorem dX3_readFull_14 : decode cX3_readFull 14 = .ok (.aload 6, 2) := by decide +kernel
theorem dX3_readFull_16 : decode cX3_readFull 16 = .ok (.iload_n 3, 1) := by decide +kernel
theorem dX3_readFull_17 : decode cX3_readFull 17 = .ok (.iload 4, 2) := by decide +kernel
theorem dX3_readFull_19 : decode cX3_readFull 19 = .ok (.invokestatic 55, 3) := by decide +kernel
theorem dX3_readFull_22 : decode cX3_readFull 22 = .ok (.aload 5, 2) := by decide +kernel
theorem dX3_readFull_24 : decode cX3_readFull 24 = .ok (.invokestatic 107, 3) := by decide +kernel
theorem dX3_readFull_27 : decode cX3_readFull 27 = .ok (.aload 5, 2) := by decide +kernel
theorem dX3_readFull_29 : decode cX3_readFull 29 = .ok (.aload 6, 2) := by decide +kernel
theorem dX3_readFull_31 : decode cX3_readFull 31 = .ok (.invokevirtual 121, 3) := by decide +kernel
theorem dX3_readFull_34 : decode cX3_readFull 34 = .ok (.ifCond .eq 13, 3) := by decide +kernel
theorem dX3_readFull_37 : decode cX3_readFull 37 = .ok (.new 44, 3) := by decide +kernel
theorem dX3_readFull_40 : decode cX3_readFull 40 = .ok (.dup, 1) := by decide +kernel
theorem dX3_readFull_41 : decode cX3_readFull 41 = .ok (.ldc 125, 2) := by decide +kernel
theorem dX3_readFull_43 : decode cX3_readFull 43 = .ok (.invokespecial 48, 3) := by decide +kernel
theorem dX3_readFull_46 : decode cX3_readFull 46 = .ok (.athrow, 1) := by decide +kernel
theorem dX3_readFull_47 : decode cX3_readFull 47 = .ok (.aload 5, 2) := by decide +kernel
theorem dX3_readFull_49 : decode cX3_readFull 49 = .ok (.aload 5, 2) := by decide +kernel
theorem dX3_readFull_51 : decode cX3_readFull 51 = .ok (.aload 6, 2) := by decide +kernel
theorem dX3_readFull_53 : decode cX3_readFull 53 = .ok (.iload_n 3, 1) := by decide +kernel
theorem dX3_readFull_54 : decode cX3_readFull 54 = .ok (.iload 4, 2) := by decide +kernel
theorem dX3_readFull_56 : decode cX3_readFull 56 = .ok (.invokevirtual 117, 3) := by decide +kernel
theorem dX3_readFull_59 : decode cX3_readFull 59 = .ok (.invokevirtual 111, 3) := by decide +kernel
theorem dX3_readFull_62 : decode cX3_readFull 62 = .ok (.ireturn, 1) := by decide +kernel
theorem dX3_readSome_0 : decode cX3_readSome 0 = .ok (.aload_n 0, 1) := by decide +kernel
theorem dX3_readSome_1 : decode cX3_readSome 1 = .ok (.iload_n 1, 1) := by decide +kernel
theorem dX3_readSome_2 : decode cX3_readSome 2 = .ok (.invokevirtual 92, 3) := by decide +kernel
theorem dX3_readSome_5 : decode cX3_readSome 5 = .ok (.astore 4, 2) := by decide +kernel
theorem dX3_readSome_7 : decode cX3_readSome 7 = .ok (.aload_n 0, 1) := by decide +kernel
theorem dX3_readSome_8 : decode cX3_readSome 8 = .ok (.iload_n 2, 1) := by decide +kernel
theorem dX3_readSome_9 : decode cX3_readSome 9 = .ok (.invokevirtual 85, 3) := by decide +kernel
theorem dX3_readSome_12 : decode cX3_readSome 12 = .ok (.iload_n 3, 1) := by decide +kernel
theorem dX3_readSome_13 : decode cX3_readSome 13 = .ok (.i2l, 1) := by decide +kernel
theorem dX3_readSome_14 : decode cX3_readSome 14 = .ok (.invokestatic 127, 3) := by decide +kernel
theorem dX3_readSome_17 : decode cX3_readSome 17 = .ok (.aload 4, 2) := by decide +kernel
theorem dX3_readSome_19 : decode cX3_readSome 19 = .ok (.invokestatic 107, 3) := by decide +kernel
theorem dX3_readSome_22 : decode cX3_readSome 22 = .ok (.aload_n 0, 1) := by decide +kernel
theorem dX3_readSome_23 : decode cX3_readSome 23 = .ok (.getfield 11, 3) := by decide +kernel
theorem dX3_readSome_26 : decode cX3_readSome 26 = .ok (.iload_n 2, 1) := by decide +kernel
theorem dX3_readSome_27 : decode cX3_readSome 27 = .ok (.aload 4, 2) := by decide +kernel
theorem dX3_readSome_29 : decode cX3_readSome 29 = .ok (.iload_n 3, 1) := by decide +kernel
theorem dX3_readSome_30 : decode cX3_readSome 30 = .ok (.invokevirtual 131, 3) := by decide +kernel
theorem dX3_readSome_33 : decode cX3_readSome 33 = .ok (.aastore, 1) := by decide +kernel
theorem dX3_readSome_34 : decode cX3_readSome 34 = .ok (.aload 4, 2) := by decide +kernel
theorem dX3_readSome_36 : decode cX3_readSome 36 = .ok (.aload_n 0, 1) := by decide +kernel
theorem dX3_readSome_37 : decode cX3_readSome 37 = .ok (.getfield 11, 3) := by decide +kernel
theorem dX3_readSome_40 : decode cX3_readSome 40 = .ok (.iload_n 2, 1) := by decide +kernel
theorem dX3_readSome_41 : decode cX3_readSome 41 = .ok (.aaload, 1) := by decide +kernel
theorem dX3_readSome_42 : decode cX3_readSome 42 = .ok (.invokevirtual 51, 3) := by decide +kernel
theorem dX3_readSome_45 : decode cX3_readSome 45 = .ok (.invokevirtual 111, 3) := by decide +kernel
theorem dX3_readSome_48 : decode cX3_readSome 48 = .ok (.ireturn, 1) := by decide +kernel
theorem dX3_readNumber_0 : decode cX3_readNumber 0 = .ok (.aload_n 0, 1) := by decide +kernel
theorem dX3_readNumber_1 : decode cX3_readNumber 1 = .ok (.iload_n 1, 1) := by decide +kernel
theorem dX3_readNumber_2 : decode cX3_readNumber 2 = .ok (.invokevirtual 92, 3) := by decide +kernel
theorem dX3_readNumber_5 : decode cX3_readNumber 5 = .ok (.astore_n 2, 1) := by decide +kernel
theorem dX3_readNumber_6 : decode cX3_readNumber 6 = .ok (.aload_n 2, 1) := by decide +kernel
theorem dX3_readNumber_7 : decode cX3_readNumber 7 = .ok (.invokestatic 107, 3) := by decide +kernel
theorem dX3_readNumber_10 : decode cX3_readNumber 10 = .ok (.aload_n 2, 1) := by decide +kernel
theorem dX3_readNumber_11 : decode cX3_readNumber 11 = .ok (.invokevirtual 100, 3) := by decide +kernel
theorem dX3_readNumber_14 : decode cX3_readNumber 14 = .ok (.iconst 4, 1) := by decide +kernel
theorem dX3_readNumber_15 : decode cX3_readNumber 15 = .ok (.if_icmp .ge 13, 3) := by decide +kernel
theorem dX3_readNumber_18 : decode cX3_readNumber 18 = .ok (.new 134, 3) := by decide +kernel
theorem dX3_readNumber_21 : decode cX3_readNumber 21 = .ok (.dup, 1) := by decide +kernel
theorem dX3_readNumber_22 : decode cX3_readNumber 22 = .ok (.ldc 136, 2) := by decide +kernel
theorem dX3_readNumber_24 : decode cX3_readNumber 24 = .ok (.invokespecial 138, 3) := by decide +kernel
theorem dX3_readNumber_27 : decode cX3_readNumber 27 = .ok (.athrow, 1) := by decide +kernel
theorem dX3_readNumber_28 : decode cX3_readNumber 28 = .ok (.iconst 0, 1) := by decide +kernel
theorem dX3_readNumber_29 : decode cX3_readNumber 29 = .ok (.istore_n 3, 1) := by decide +kernel
theorem dX3_readNumber_30 : decode cX3_readNumber 30 = .ok (.iconst 0, 1) := by decide +kernel
theorem dX3_readNumber_31 : decode cX3_readNumber 31 = .ok (.istore 4, 2) := by decide +kernel
theorem dX3_readNumber_33 : decode cX3_readNumber 33 = .ok (.iload 4, 2) := by decide +kernel
theorem dX3_readNumber_35 : decode cX3_readNumber 35 = .ok (.iconst 4, 1) := by decide +kernel
theorem dX3_readNumber_36 : decode cX3_readNumber 36 = .ok (.if_icmp .ge 19, 3) := by decide +kernel
theorem dX3_readNumber_39 : decode cX3_readNumber 39 = .ok (.iload_n 3, 1) := by decide +kernel
theorem dX3_readNumber_40 : decode cX3_readNumber 40 = .ok (.bipush 8, 2) := by decide +kernel
theorem dX3_readNumber_42 : decode cX3_readNumber 42 = .ok (.ishl, 1) := by decide +kernel
theorem dX3_readNumber_43 : decode cX3_readNumber 43 = .ok (.aload_n 2, 1) := by decide +kernel
theorem dX3_readNumber_44 : decode cX3_readNumber 44 = .ok (.invokevirtual 114, 3) := by decide +kernel
theorem dX3_readNumber_47 : decode cX3_readNumber 47 = .ok (.ior, 1) := by decide +kernel
theorem dX3_readNumber_48 : decode cX3_readNumber 48 = .ok (.istore_n 3, 1) := by decide +kernel
theorem dX3_readNumber_49 : decode cX3_readNumber 49 = .ok (.iinc 4 1, 3) := by decide +kernel
theorem dX3_readNumber_52 : decode cX3_readNumber 52 = .ok (.goto (-19), 3) := by decide +kernel
theorem dX3_readNumber_55 : decode cX3_readNumber 55 = .ok (.aload_n 2, 1) := by decide +kernel
theorem dX3_readNumber_56 : decode cX3_readNumber 56 = .ok (.iconst 4, 1) := by decide +kernel
theorem dX3_readNumber_57 : decode cX3_readNumber 57 = .ok (.invokevirtual 111, 3) := by decide +kernel
theorem dX3_readNumber_60 : decode cX3_readNumber 60 = .ok (.pop, 1) := by decide +kernel
theorem dX3_readNumber_61 : decode cX3_readNumber 61 = .ok (.iload_n 3, 1) := by decide +kernel
theorem dX3_readNumber_62 : decode cX3_readNumber 62 = .ok (.ireturn, 1) := by decide +kernel
theorem dX3_readLine_0 : decode cX3_readLine 0 = .ok (.aload_n 0, 1) := by decide +kernel
theorem dX3_readLine_1 : decode cX3_readLine 1 = .ok (.iload_n 1, 1) := by decide +kernel
theorem dX3_readLine_2 : decode cX3_readLine 2 = .ok (.invokevirtual 92, 3) := by decide +kernel
theorem dX3_readLine_5 : decode cX3_readLine 5 = .ok (.astore_n 3, 1) := by decide +kernel
theorem dX3_readLine_6 : decode cX3_readLine 6 = .ok (.aload_n 0, 1) := by decide +kernel
theorem dX3_readLine_7 : decode cX3_readLine 7 = .ok (.iload_n 2, 1) := by decide +kernel
theorem dX3_readLine_8 : decode cX3_readLine 8 = .ok (.invokevirtual 85, 3) := by decide +kernel
theorem dX3_readLine_11 : decode cX3_readLine 11 = .ok (.aload_n 3, 1) := by decide +kernel
theorem dX3_readLine_12 : decode cX3_readLine 12 = .ok (.invokestatic 107, 3) := by decide +kernel
theorem dX3_readLine_15 : decode cX3_readLine 15 = .ok (.aload_n 3, 1) := by decide +kernel
theorem dX3_readLine_16 : decode cX3_readLine 16 = .ok (.invokevirtual 100, 3) := by decide +kernel
theorem dX3_readLine_19 : decode cX3_readLine 19 = .ok (.ifCond .ne 5, 3) := by decide +kernel
theorem dX3_readLine_22 : decode cX3_readLine 22 = .ok (.iconst (-1), 1) := by decide +kernel
theorem dX3_readLine_23 : decode cX3_readLine 23 = .ok (.ireturn, 1) := by decide +kernel
theorem dX3_readLine_24 : decode cX3_readLine 24 = .ok (.aload_n 0, 1) := by decide +kernel
theorem dX3_readLine_25 : decode cX3_readLine 25 = .ok (.getfield 11, 3) := by decide +kernel
theorem dX3_readLine_28 : decode cX3_readLine 28 = .ok (.iload_n 2, 1) := by decide +kernel
theorem dX3_readLine_29 : decode cX3_readLine 29 = .ok (.aload_n 3, 1) := by decide +kernel
theorem dX3_readLine_30 : decode cX3_readLine 30 = .ok (.aload_n 3, 1) := by decide +kernel
theorem dX3_readLine_31 : decode cX3_readLine 31 = .ok (.bipush 10, 2) := by decide +kernel
theorem dX3_readLine_33 : decode cX3_readLine 33 = .ok (.invokevirtual 139, 3) := by decide +kernel
theorem dX3_readLine_36 : decode cX3_readLine 36 = .ok (.invokevirtual 131, 3) := by decide +kernel
theorem dX3_readLine_39 : decode cX3_readLine 39 = .ok (.aastore, 1) := by decide +kernel
theorem dX3_readLine_40 : decode cX3_readLine 40 = .ok (.aload_n 3, 1) := by decide +kernel
theorem dX3_readLine_41 : decode cX3_readLine 41 = .ok (.aload_n 0, 1) := by decide +kernel
theorem dX3_readLine_42 : decode cX3_readLine 42 = .ok (.getfield 11, 3) := by decide +kernel
theorem dX3_readLine_45 : decode cX3_readLine 45 = .ok (.iload_n 2, 1) := by decide +kernel
theorem dX3_readLine_46 : decode cX3_readLine 46 = .ok (.aaload, 1) := by decide +kernel
theorem dX3_readLine_47 : decode cX3_readLine 47 = .ok (.invokevirtual 51, 3) := by decide +kernel
theorem dX3_readLine_50 : decode cX3_readLine 50 = .ok (.invokevirtual 111, 3) := by decide +kernel
theorem dX3_readLine_53 : decode cX3_readLine 53 = .ok (.istore 4, 2) := by decide +kernel
theorem dX3_readLine_55 : decode cX3_readLine 55 = .ok (.aload_n 3, 1) := by decide +kernel
theorem dX3_readLine_56 : decode cX3_readLine 56 = .ok (.aload_n 3, 1) := by decide +kernel
theorem dX3_readLine_57 : decode cX3_readLine 57 = .ok (.lconst 1, 1) := by decide +kernel
theorem dX3_readLine_58 : decode cX3_readLine 58 = .ok (.invokevirtual 142, 3) := by decide +kernel
theorem dX3_readLine_61 : decode cX3_readLine 61 = .ok (.invokevirtual 111, 3) := by decide +kernel
theorem dX3_readLine_64 : decode cX3_readLine 64 = .ok (.pop, 1) := by decide +kernel
theorem dX3_readLine_65 : decode cX3_readLine 65 = .ok (.iload 4, 2) := by decide +kernel
theorem dX3_readLine_67 : decode cX3_readLine 67 = .ok (.ireturn, 1) := by decide +kernel
theorem dX3_find_0 : decode cX3_find 0 = .ok (.aload_n 0, 1) := by decide +kernel
theorem dX3_find_1 : decode cX3_find 1 = .ok (.iload_n 1, 1) := by decide +kernel
theorem dX3_find_2 : decode cX3_find 2 = .ok (.invokevirtual 92, 3) := by decide +kernel
theorem dX3_find_5 : decode cX3_find 5 = .ok (.astore_n 3, 1) := by decide +kernel
theorem dX3_find_6 : decode cX3_find 6 = .ok (.aload_n 3, 1) := by decide +kernel
theorem dX3_find_7 : decode cX3_find 7 = .ok (.invokestatic 107, 3) := by decide +kernel
theorem dX3_find_10 : decode cX3_find 10 = .ok (.aload_n 3, 1) := by decide +kernel
theorem dX3_find_11 : decode cX3_find 11 = .ok (.iload_n 2, 1) := by decide +kernel
theorem dX3_find_12 : decode cX3_find 12 = .ok (.invokevirtual 139, 3) := by decide +kernel
theorem dX3_find_15 : decode cX3_find 15 = .ok (.istore 4, 2) := by decide +kernel
theorem dX3_find_17 : decode cX3_find 17 = .ok (.iload 4, 2) := by decide +kernel
theorem dX3_find_19 : decode cX3_find 19 = .ok (.aload_n 3, 1) := by decide +kernel
theorem dX3_find_20 : decode cX3_find 20 = .ok (.invokevirtual 100, 3) := by decide +kernel
theorem dX3_find_23 : decode cX3_find 23 = .ok (.if_icmp .ge 17, 3) := by decide +kernel
theorem dX3_find_26 : decode cX3_find 26 = .ok (.aload_n 3, 1) := by decide +kernel
theorem dX3_find_27 : decode cX3_find 27 = .ok (.aload_n 3, 1) := by decide +kernel
theorem dX3_find_28 : decode cX3_find 28 = .ok (.iload 4, 2) := by decide +kernel
theorem dX3_find_30 : decode cX3_find 30 = .ok (.iconst 1, 1) := by decide +kernel
theorem dX3_find_31 : decode cX3_find 31 = .ok (.iadd, 1) := by decide +kernel
theorem dX3_find_32 : decode cX3_find 32 = .ok (.i2l, 1) := by decide +kernel
theorem dX3_find_33 : decode cX3_find 33 = .ok (.invokevirtual 142, 3) := by decide +kernel
theorem dX3_find_36 : decode cX3_find 36 = .ok (.invokevirtual 111, 3) := by decide +kernel
theorem dX3_find_39 : decode cX3_find 39 = .ok (.ireturn, 1) := by decide +kernel
theorem dX3_find_40 : decode cX3_find 40 = .ok (.iconst (-1), 1) := by decide +kernel
theorem dX3_find_41 : decode cX3_find 41 = .ok (.aload_n 3, 1) := by decide +kernel
theorem dX3_find_42 : decode cX3_find 42 = .ok (.aload_n 3, 1) := by decide +kernel
theorem dX3_find_43 : decode cX3_find 43 = .ok (.iload 4, 2) := by decide +kernel
theorem dX3_find_45 : decode cX3_find 45 = .ok (.i2l, 1) := by decide +kernel
theorem dX3_find_46 : decode cX3_find 46 = .ok (.invokevirtual 142, 3) := by decide +kernel
theorem dX3_find_49 : decode cX3_find 49 = .ok (.invokevirtual 111, 3) := by decide +kernel
theorem dX3_find_52 : decode cX3_find 52 = .ok (.isub, 1) := by decide +kernel
theorem dX3_find_53 : decode cX3_find 53 = .ok (.ireturn, 1) := by decide +kernel
theorem dX3_skip_0 : decode cX3_skip 0 = .ok (.aload_n 0, 1) := by decide +kernel
theorem dX3_skip_1 : decode cX3_skip 1 = .ok (.iload_n 1, 1) := by decide +kernel
theorem dX3_skip_2 : decode cX3_skip 2 = .ok (.invokevirtual 92, 3) := by decide +kernel
theorem dX3_skip_5 : decode cX3_skip 5 = .ok (.astore 4, 2) := by decide +kernel
theorem dX3_skip_7 : decode cX3_skip 7 = .ok (.lload_n 2, 1) := by decide +kernel
theorem dX3_skip_8 : decode cX3_skip 8 = .ok (.invokestatic 127, 3) := by decide +kernel
theorem dX3_skip_11 : decode cX3_skip 11 = .ok (.aload 4, 2) := by decide +kernel
theorem dX3_skip_13 : decode cX3_skip 13 = .ok (.invokestatic 107, 3) := by decide +kernel
theorem dX3_skip_16 : decode cX3_skip 16 = .ok (.aload 4, 2) := by decide +kernel
theorem dX3_skip_18 : decode cX3_skip 18 = .ok (.aload 4, 2) := by decide +kernel
theorem dX3_skip_20 : decode cX3_skip 20 = .ok (.lload_n 2, 1) := by decide +kernel
theorem dX3_skip_21 : decode cX3_skip 21 = .ok (.invokevirtual 142, 3) := by decide +kernel
theorem dX3_skip_24 : decode cX3_skip 24 = .ok (.invokevirtual 111, 3) := by decide +kernel
theorem dX3_skip_27 : decode cX3_skip 27 = .ok (.i2l, 1) := by decide +kernel
theorem dX3_skip_28 : decode cX3_skip 28 = .ok (.lreturn, 1) := by decide +kernel
theorem dX3_left_0 : decode cX3_left 0 = .ok (.aload_n 0, 1) := by decide +kernel
theorem dX3_left_1 : decode cX3_left 1 = .ok (.iload_n 1, 1) := by decide +kernel
theorem dX3_left_2 : decode cX3_left 2 = .ok (.invokevirtual 92, 3) := by decide +kernel
theorem dX3_left_5 : decode cX3_left 5 = .ok (.astore_n 2, 1) := by decide +kernel
theorem dX3_left_6 : decode cX3_left 6 = .ok (.aload_n 2, 1) := by decide +kernel
theorem dX3_left_7 : decode cX3_left 7 = .ok (.invokestatic 107, 3) := by decide +kernel
theorem dX3_left_10 : decode cX3_left 10 = .ok (.aload_n 2, 1) := by decide +kernel
theorem dX3_left_11 : decode cX3_left 11 = .ok (.invokevirtual 100, 3) := by decide +kernel
theorem dX3_left_14 : decode cX3_left 14 = .ok (.ireturn, 1) := by decide +kernel
theorem dX3_mark_0 : decode cX3_mark 0 = .ok (.aload_n 0, 1) := by decide +kernel
theorem dX3_mark_1 : decode cX3_mark 1 = .ok (.iload_n 1, 1) := by decide +kernel
theorem dX3_mark_2 : decode cX3_mark 2 = .ok (.invokevirtual 92, 3) := by decide +kernel
theorem dX3_mark_5 : decode cX3_mark 5 = .ok (.astore_n 3, 1) := by decide +kernel
theorem dX3_mark_6 : decode cX3_mark 6 = .ok (.aload_n 3, 1) := by decide +kernel
theorem dX3_mark_7 : decode cX3_mark 7 = .ok (.invokestatic 107, 3) := by decide +kernel
theorem dX3_mark_10 : decode cX3_mark 10 = .ok (.aload_n 3, 1) := by decide +kernel
theorem dX3_mark_11 : decode cX3_mark 11 = .ok (.invokevirtual 146, 3) := by decide +kernel
theorem dX3_mark_14 : decode cX3_mark 14 = .ok (.aload_n 3, 1) := by decide +kernel
theorem dX3_mark_15 : decode cX3_mark 15 = .ok (.invokevirtual 100, 3) := by decide +kernel
theorem dX3_mark_18 : decode cX3_mark 18 = .ok (.ireturn, 1) := by decide +kernel
theorem dX3_back_0 : decode cX3_back 0 = .ok (.aload_n 0, 1) := by decide +kernel
theorem dX3_back_1 : decode cX3_back 1 = .ok (.iload_n 1, 1) := by decide +kernel
theorem dX3_back_2 : decode cX3_back 2 = .ok (.invokevirtual 92, 3) := by decide +kernel
theorem dX3_back_5 : decode cX3_back 5 = .ok (.astore_n 2, 1) := by decide +kernel
theorem dX3_back_6 : decode cX3_back 6 = .ok (.aload_n 2, 1) := by decide +kernel
theorem dX3_back_7 : decode cX3_back 7 = .ok (.invokestatic 107, 3) := by decide +kernel
theorem dX3_back_10 : decode cX3_back 10 = .ok (.aload_n 2, 1) := by decide +kernel
theorem dX3_back_11 : decode cX3_back 11 = .ok (.invokevirtual 149, 3) := by decide +kernel
theorem dX3_back_14 : decode cX3_back 14 = .ok (.aload_n 2, 1) := by decide +kernel
theorem dX3_back_15 : decode cX3_back 15 = .ok (.invokevirtual 100, 3) := by decide +kernel
theorem dX3_back_18 : decode cX3_back 18 = .ok (.ireturn, 1) := by decide +kernel
theorem dX3_pour_0 : decode cX3_pour 0 = .ok (.aload_n 0, 1) := by decide +kernel
theorem dX3_pour_1 : decode cX3_pour 1 = .ok (.iload_n 1, 1) := by decide +kernel
theorem dX3_pour_2 : decode cX3_pour 2 = .ok (.invokevirtual 92, 3) := by decide +kernel
theorem dX3_pour_5 : decode cX3_pour 5 = .ok (.astore_n 3, 1) := by decide +kernel
theorem dX3_pour_6 : decode cX3_pour 6 = .ok (.aload_n 0, 1) := by decide +kernel
theorem dX3_pour_7 : decode cX3_pour 7 = .ok (.iload_n 2, 1) := by decide +kernel
theorem dX3_pour_8 : decode cX3_pour 8 = .ok (.invokevirtual 67, 3) := by decide +kernel
theorem dX3_pour_11 : decode cX3_pour 11 = .ok (.astore 4, 2) := by decide +kernel
theorem dX3_pour_13 : decode cX3_pour 13 = .ok (.aload_n 3, 1) := by decide +kernel
theorem dX3_pour_14 : decode cX3_pour 14 = .ok (.invokestatic 107, 3) := by decide +kernel
theorem dX3_pour_17 : decode cX3_pour 17 = .ok (.aload 4, 2) := by decide +kernel
theorem dX3_pour_19 : decode cX3_pour 19 = .ok (.aload_n 3, 1) := by decide +kernel
theorem dX3_pour_20 : decode cX3_pour 20 = .ok (.invokevirtual 100, 3) := by decide +kernel
theorem dX3_pour_23 : decode cX3_pour 23 = .ok (.invokestatic 71, 3) := by decide +kernel
theorem dX3_pour_26 : decode cX3_pour 26 = .ok (.aload_n 3, 1) := by decide +kernel
theorem dX3_pour_27 : decode cX3_pour 27 = .ok (.aload_n 3, 1) := by decide +kernel
theorem dX3_pour_28 : decode cX3_pour 28 = .ok (.aload 4, 2) := by decide +kernel
theorem dX3_pour_30 : decode cX3_pour 30 = .ok (.aload_n 3, 1) := by decide +kernel
theorem dX3_pour_31 : decode cX3_pour 31 = .ok (.invokevirtual 100, 3) := by decide +kernel
theorem dX3_pour_34 : decode cX3_pour 34 = .ok (.invokevirtual 152, 3) := by decide +kernel
theorem dX3_pour_37 : decode cX3_pour 37 = .ok (.invokevirtual 111, 3) := by decide +kernel
theorem dX3_pour_40 : decode cX3_pour 40 = .ok (.ireturn, 1) := by decide +kernel
theorem dX3_pourParts_0 : decode cX3_pourParts 0 = .ok (.aload_n 0, 1) := by decide +kernel
theorem dX3_pourParts_1 : decode cX3_pourParts 1 = .ok (.iload_n 1, 1) := by decide +kernel
theorem dX3_pourParts_2 : decode cX3_pourParts 2 = .ok (.invokevirtual 92, 3) := by decide +kernel
theorem dX3_pourParts_5 : decode cX3_pourParts 5 = .ok (.astore 4, 2) := by decide +kernel
theorem dX3_pourParts_7 : decode cX3_pourParts 7 = .ok (.aload_n 0, 1) := by decide +kernel
theorem dX3_pourParts_8 : decode cX3_pourParts 8 = .ok (.iload_n 2, 1) := by decide +kernel
theorem dX3_pourParts_9 : decode cX3_pourParts 9 = .ok (.invokevirtual 67, 3) := by decide +kernel
theorem dX3_pourParts_12 : decode cX3_pourParts 12 = .ok (.astore 5, 2) := by decide +kernel
theorem dX3_pourParts_14 : decode cX3_pourParts 14 = .ok (.iload_n 3, 1) := by decide +kernel
theorem dX3_pourParts_15 : decode cX3_pourParts 15 = .ok (.iconst 1, 1) := by decide +kernel
theorem dX3_pourParts_16 : decode cX3_pourParts 16 = .ok (.if_icmp .lt 9, 3) := by decide +kernel
theorem dX3_pourParts_19 : decode cX3_pourParts 19 = .ok (.iload_n 3, 1) := by decide +kernel
theorem dX3_pourParts_20 : decode cX3_pourParts 20 = .ok (.bipush 64, 2) := by decide +kernel
theorem dX3_pourParts_22 : decode cX3_pourParts 22 = .ok (.if_icmp .le 13, 3) := by decide +kernel
theorem dX3_pourParts_25 : decode cX3_pourParts 25 = .ok (.new 44, 3) := by decide +kernel
theorem dX3_pourParts_28 : decode cX3_pourParts 28 = .ok (.dup, 1) := by decide +kernel
theorem dX3_pourParts_29 : decode cX3_pourParts 29 = .ok (.ldc 156, 2) := by decide +kernel
theorem dX3_pourParts_31 : decode cX3_pourParts 31 = .ok (.invokespecial 48, 3) := by decide +kernel
theorem dX3_pourParts_34 : decode cX3_pourParts 34 = .ok (.athrow, 1) := by decide +kernel
theorem dX3_pourParts_35 : decode cX3_pourParts 35 = .ok (.aload 4, 2) := by decide +kernel
theorem dX3_pourParts_37 : decode cX3_pourParts 37 = .ok (.invokestatic 107, 3) := by decide +kernel
theorem dX3_pourParts_40 : decode cX3_pourParts 40 = .ok (.aload 5, 2) := by decide +kernel
theorem dX3_pourParts_42 : decode cX3_pourParts 42 = .ok (.aload 4, 2) := by decide +kernel
theorem dX3_pourParts_44 : decode cX3_pourParts 44 = .ok (.invokevirtual 100, 3) := by decide +kernel
theorem dX3_pourParts_47 : decode cX3_pourParts 47 = .ok (.invokestatic 71, 3) := by decide +kernel
theorem dX3_pourParts_50 : decode cX3_pourParts 50 = .ok (.aload 4, 2) := by decide +kernel
theorem dX3_pourParts_52 : decode cX3_pourParts 52 = .ok (.aload 5, 2) := by decide +kernel
theorem dX3_pourParts_54 : decode cX3_pourParts 54 = .ok (.iload_n 3, 1) := by decide +kernel
theorem dX3_pourParts_55 : decode cX3_pourParts 55 = .ok (.invokestatic 158, 3) := by decide +kernel
theorem dX3_pourParts_58 : decode cX3_pourParts 58 = .ok (.ireturn, 1) := by decide +kernel
theorem dX3_alike_0 : decode cX3_alike 0 = .ok (.aload_n 0, 1) := by decide +kernel
theorem dX3_alike_1 : decode cX3_alike 1 = .ok (.iload_n 1, 1) := by decide +kernel
theorem dX3_alike_2 : decode cX3_alike 2 = .ok (.invokevirtual 92, 3) := by decide +kernel
theorem dX3_alike_5 : decode cX3_alike 5 = .ok (.astore_n 3, 1) := by decide +kernel
theorem dX3_alike_6 : decode cX3_alike 6 = .ok (.aload_n 0, 1) := by decide +kernel
theorem dX3_alike_7 : decode cX3_alike 7 = .ok (.iload_n 2, 1) := by decide +kernel
theorem dX3_alike_8 : decode cX3_alike 8 = .ok (.invokevirtual 92, 3) := by decide +kernel
theorem dX3_alike_11 : decode cX3_alike 11 = .ok (.astore 4, 2) := by decide +kernel
theorem dX3_alike_13 : decode cX3_alike 13 = .ok (.iload_n 1, 1) := by decide +kernel
theorem dX3_alike_14 : decode cX3_alike 14 = .ok (.iload_n 2, 1) := by decide +kernel
theorem dX3_alike_15 : decode cX3_alike 15 = .ok (.if_icmp .ne 13, 3) := by decide +kernel
theorem dX3_alike_18 : decode cX3_alike 18 = .ok (.new 44, 3) := by decide +kernel
theorem dX3_alike_21 : decode cX3_alike 21 = .ok (.dup, 1) := by decide +kernel
theorem dX3_alike_22 : decode cX3_alike 22 = .ok (.ldc 162, 2) := by decide +kernel
theorem dX3_alike_24 : decode cX3_alike 24 = .ok (.invokespecial 48, 3) := by decide +kernel
theorem dX3_alike_27 : decode cX3_alike 27 = .ok (.athrow, 1) := by decide +kernel
theorem dX3_alike_28 : decode cX3_alike 28 = .ok (.aload_n 3, 1) := by decide +kernel
theorem dX3_alike_29 : decode cX3_alike 29 = .ok (.invokestatic 107, 3) := by decide +kernel
theorem dX3_alike_32 : decode cX3_alike 32 = .ok (.aload 4, 2) := by decide +kernel
theorem dX3_alike_34 : decode cX3_alike 34 = .ok (.invokestatic 107, 3) := by decide +kernel
theorem dX3_alike_37 : decode cX3_alike 37 = .ok (.aload_n 3, 1) := by decide +kernel
theorem dX3_alike_38 : decode cX3_alike 38 = .ok (.invokevirtual 100, 3) := by decide +kernel
theorem dX3_alike_41 : decode cX3_alike 41 = .ok (.aload 4, 2) := by decide +kernel
theorem dX3_alike_43 : decode cX3_alike 43 = .ok (.invokevirtual 100, 3) := by decide +kernel
theorem dX3_alike_46 : decode cX3_alike 46 = .ok (.invokestatic 164, 3) := by decide +kernel
theorem dX3_alike_49 : decode cX3_alike 49 = .ok (.istore 5, 2) := by decide +kernel
theorem dX3_alike_51 : decode cX3_alike 51 = .ok (.iconst 0, 1) := by decide +kernel
theorem dX3_alike_52 : decode cX3_alike 52 = .ok (.istore 6, 2) := by decide +kernel
theorem dX3_alike_54 : decode cX3_alike 54 = .ok (.iload 6, 2) := by decide +kernel
theorem dX3_alike_56 : decode cX3_alike 56 = .ok (.iload 5, 2) := by decide +kernel
theorem dX3_alike_58 : decode cX3_alike 58 = .ok (.if_icmp .ge 34, 3) := by decide +kernel
theorem dX3_alike_61 : decode cX3_alike 61 = .ok (.aload_n 3, 1) := by decide +kernel
theorem dX3_alike_62 : decode cX3_alike 62 = .ok (.invokevirtual 169, 3) := by decide +kernel
theorem dX3_alike_65 : decode cX3_alike 65 = .ok (.aload 4, 2) := by decide +kernel
theorem dX3_alike_67 : decode cX3_alike 67 = .ok (.invokevirtual 169, 3) := by decide +kernel
theorem dX3_alike_70 : decode cX3_alike 70 = .ok (.if_icmp .ne 22, 3) := by decide +kernel
theorem dX3_alike_73 : decode cX3_alike 73 = .ok (.aload_n 3, 1) := by decide +kernel
theorem dX3_alike_74 : decode cX3_alike 74 = .ok (.lconst 1, 1) := by decide +kernel
theorem dX3_alike_75 : decode cX3_alike 75 = .ok (.invokevirtual 142, 3) := by decide +kernel
theorem dX3_alike_78 : decode cX3_alike 78 = .ok (.pop, 1) := by decide +kernel
theorem dX3_alike_79 : decode cX3_alike 79 = .ok (.aload 4, 2) := by decide +kernel
theorem dX3_alike_81 : decode cX3_alike 81 = .ok (.lconst 1, 1) := by decide +kernel
theorem dX3_alike_82 : decode cX3_alike 82 = .ok (.invokevirtual 142, 3) := by decide +kernel
theorem dX3_alike_85 : decode cX3_alike 85 = .ok (.pop, 1) := by decide +kernel
theorem dX3_alike_86 : decode cX3_alike 86 = .ok (.iinc 6 1, 3) := by decide +kernel
theorem dX3_alike_89 : decode cX3_alike 89 = .ok (.goto (-35), 3) := by decide +kernel
theorem dX3_alike_92 : decode cX3_alike 92 = .ok (.aload_n 3, 1) := by decide +kernel
theorem dX3_alike_93 : decode cX3_alike 93 = .ok (.iload 6, 2) := by decide +kernel
theorem dX3_alike_95 : decode cX3_alike 95 = .ok (.invokevirtual 111, 3) := by decide +kernel
theorem dX3_alike_98 : decode cX3_alike 98 = .ok (.pop, 1) := by decide +kernel
theorem dX3_alike_99 : decode cX3_alike 99 = .ok (.aload 4, 2) := by decide +kernel
theorem dX3_alike_101 : decode cX3_alike 101 = .ok (.iload 6, 2) := by decide +kernel
theorem dX3_alike_103 : decode cX3_alike 103 = .ok (.invokevirtual 111, 3) := by decide +kernel
theorem dX3_alike_106 : decode cX3_alike 106 = .ok (.pop, 1) := by decide +kernel
theorem dX3_alike_107 : decode cX3_alike 107 = .ok (.aload_n 3, 1) := by decide +kernel
theorem dX3_alike_108 : decode cX3_alike 108 = .ok (.invokevirtual 146, 3) := by decide +kernel
theorem dX3_alike_111 : decode cX3_alike 111 = .ok (.aload 4, 2) := by decide +kernel
theorem dX3_alike_113 : decode cX3_alike 113 = .ok (.invokevirtual 146, 3) := by decide +kernel
theorem dX3_alike_116 : decode cX3_alike 116 = .ok (.iload 6, 2) := by decide +kernel
theorem dX3_alike_118 : decode cX3_alike 118 = .ok (.ireturn, 1) := by decide +kernel
theorem dX3_leftShare_0 : decode cX3_leftShare 0 = .ok (.aload_n 0, 1) := by decide +kernel
theorem dX3_leftShare_1 : decode cX3_leftShare 1 = .ok (.iload_n 1, 1) := by decide +kernel
theorem dX3_leftShare_2 : decode cX3_leftShare 2 = .ok (.invokevirtual 92, 3) := by decide +kernel
theorem dX3_leftShare_5 : decode cX3_leftShare 5 = .ok (.astore_n 2, 1) := by decide +kernel
theorem dX3_leftShare_6 : decode cX3_leftShare 6 = .ok (.aload_n 2, 1) := by decide +kernel
theorem dX3_leftShare_7 : decode cX3_leftShare 7 = .ok (.invokestatic 107, 3) := by decide +kernel
theorem dX3_leftShare_10 : decode cX3_leftShare 10 = .ok (.aload_n 2, 1) := by decide +kernel
theorem dX3_leftShare_11 : decode cX3_leftShare 11 = .ok (.invokevirtual 172, 3) := by decide +kernel
theorem dX3_leftShare_14 : decode cX3_leftShare 14 = .ok (.istore_n 3, 1) := by decide +kernel
theorem dX3_leftShare_15 : decode cX3_leftShare 15 = .ok (.iload_n 3, 1) := by decide +kernel
theorem dX3_leftShare_16 : decode cX3_leftShare 16 = .ok (.ifCond .ne 13, 3) := by decide +kernel
theorem dX3_leftShare_19 : decode cX3_leftShare 19 = .ok (.new 175, 3) := by decide +kernel
theorem dX3_leftShare_22 : decode cX3_leftShare 22 = .ok (.dup, 1) := by decide +kernel
theorem dX3_leftShare_23 : decode cX3_leftShare 23 = .ok (.ldc 177, 2) := by decide +kernel
theorem dX3_leftShare_25 : decode cX3_leftShare 25 = .ok (.invokespecial 179, 3) := by decide +kernel
theorem dX3_leftShare_28 : decode cX3_leftShare 28 = .ok (.athrow, 1) := by decide +kernel
theorem dX3_leftShare_29 : decode cX3_leftShare 29 = .ok (.aload_n 2, 1) := by decide +kernel
theorem dX3_leftShare_30 : decode cX3_leftShare 30 = .ok (.invokevirtual 100, 3) := by decide +kernel
theorem dX3_leftShare_33 : decode cX3_leftShare 33 = .ok (.i2f, 1) := by decide +kernel
theorem dX3_leftShare_34 : decode cX3_leftShare 34 = .ok (.iload_n 3, 1) := by decide +kernel
theorem dX3_leftShare_35 : decode cX3_leftShare 35 = .ok (.i2f, 1) := by decide +kernel
theorem dX3_leftShare_36 : decode cX3_leftShare 36 = .ok (.fdiv, 1) := by decide +kernel
theorem dX3_leftShare_37 : decode cX3_leftShare 37 = .ok (.freturn, 1) := by decide +kernel
theorem dX3_meanSize_0 : decode cX3_meanSize 0 = .ok (.iconst 0, 1) := by decide +kernel
theorem dX3_meanSize_1 : decode cX3_meanSize 1 = .ok (.istore_n 1, 1) := by decide +kernel
theorem dX3_meanSize_2 : decode cX3_meanSize 2 = .ok (.iconst 0, 1) := by decide +kernel
theorem dX3_meanSize_3 : decode cX3_meanSize 3 = .ok (.istore_n 2, 1) := by decide +kernel
theorem dX3_meanSize_4 : decode cX3_meanSize 4 = .ok (.iconst 0, 1) := by decide +kernel
theorem dX3_meanSize_5 : decode cX3_meanSize 5 = .ok (.istore_n 3, 1) := by decide +kernel
theorem dX3_meanSize_6 : decode cX3_meanSize 6 = .ok (.iload_n 3, 1) := by decide +kernel
theorem dX3_meanSize_7 : decode cX3_meanSize 7 = .ok (.aload_n 0, 1) := by decide +kernel
theorem dX3_meanSize_8 : decode cX3_meanSize 8 = .ok (.getfield 20, 3) := by decide +kernel
theorem dX3_meanSize_11 : decode cX3_meanSize 11 = .ok (.arraylength, 1) := by decide +kernel
theorem dX3_meanSize_12 : decode cX3_meanSize 12 = .ok (.if_icmp .ge 36, 3) := by decide +kernel
theorem dX3_meanSize_15 : decode cX3_meanSize 15 = .ok (.aload_n 0, 1) := by decide +kernel
theorem dX3_meanSize_16 : decode cX3_meanSize 16 = .ok (.getfield 20, 3) := by decide +kernel
theorem dX3_meanSize_19 : decode cX3_meanSize 19 = .ok (.iload_n 3, 1) := by decide +kernel
theorem dX3_meanSize_20 : decode cX3_meanSize 20 = .ok (.aaload, 1) := by decide +kernel
theorem dX3_meanSize_21 : decode cX3_meanSize 21 = .ok (.invokevirtual 78, 3) := by decide +kernel
theorem dX3_meanSize_24 : decode cX3_meanSize 24 = .ok (.ifCond .le 18, 3) := by decide +kernel
theorem dX3_meanSize_27 : decode cX3_meanSize 27 = .ok (.iload_n 1, 1) := by decide +kernel
theorem dX3_meanSize_28 : decode cX3_meanSize 28 = .ok (.aload_n 0, 1) := by decide +kernel
theorem dX3_meanSize_29 : decode cX3_meanSize 29 = .ok (.getfield 20, 3) := by decide +kernel
theorem dX3_meanSize_32 : decode cX3_meanSize 32 = .ok (.iload_n 3, 1) := by decide +kernel
theorem dX3_meanSize_33 : decode cX3_meanSize 33 = .ok (.aaload, 1) := by decide +kernel
theorem dX3_meanSize_34 : decode cX3_meanSize 34 = .ok (.invokevirtual 78, 3) := by decide +kernel
theorem dX3_meanSize_37 : decode cX3_meanSize 37 = .ok (.iadd, 1) := by decide +kernel
theorem dX3_meanSize_38 : decode cX3_meanSize 38 = .ok (.istore_n 1, 1) := by decide +kernel
theorem dX3_meanSize_39 : decode cX3_meanSize 39 = .ok (.iinc 2 1, 3) := by decide +kernel
theorem dX3_meanSize_42 : decode cX3_meanSize 42 = .ok (.iinc 3 1, 3) := by decide +kernel
theorem dX3_meanSize_45 : decode cX3_meanSize 45 = .ok (.goto (-39), 3) := by decide +kernel
theorem dX3_meanSize_48 : decode cX3_meanSize 48 = .ok (.iload_n 2, 1) := by decide +kernel
theorem dX3_meanSize_49 : decode cX3_meanSize 49 = .ok (.ifCond .ne 13, 3) := by decide +kernel
theorem dX3_meanSize_52 : decode cX3_meanSize 52 = .ok (.new 175, 3) := by decide +kernel
theorem dX3_meanSize_55 : decode cX3_meanSize 55 = .ok (.dup, 1) := by decide +kernel
theorem dX3_meanSize_56 : decode cX3_meanSize 56 = .ok (.ldc 180, 2) := by decide +kernel
theorem dX3_meanSize_58 : decode cX3_meanSize 58 = .ok (.invokespecial 179, 3) := by decide +kernel
theorem dX3_meanSize_61 : decode cX3_meanSize 61 = .ok (.athrow, 1) := by decide +kernel
theorem dX3_meanSize_62 : decode cX3_meanSize 62 = .ok (.iload_n 1, 1) := by decide +kernel
theorem dX3_meanSize_63 : decode cX3_meanSize 63 = .ok (.i2d, 1) := by decide +kernel
theorem dX3_meanSize_64 : decode cX3_meanSize 64 = .ok (.iload_n 2, 1) := by decide +kernel
theorem dX3_meanSize_65 : decode cX3_meanSize 65 = .ok (.i2d, 1) := by decide +kernel
theorem dX3_meanSize_66 : decode cX3_meanSize 66 = .ok (.ddiv, 1) := by decide +kernel
theorem dX3_meanSize_67 : decode cX3_meanSize 67 = .ok (.dreturn, 1) := by decide +kernel
theorem dX3_checksum_0 : decode cX3_checksum 0 = .ok (.ldc2_w 182, 3) := by decide +kernel
theorem dX3_checksum_3 : decode cX3_checksum 3 = .ok (.lstore_n 1, 1) := by decide +kernel
theorem dX3_checksum_4 : decode cX3_checksum 4 = .ok (.iconst 0, 1) := by decide +kernel
theorem dX3_checksum_5 : decode cX3_checksum 5 = .ok (.istore_n 3, 1) := by decide +kernel
theorem dX3_checksum_6 : decode cX3_checksum 6 = .ok (.iload_n 3, 1) := by decide +kernel
theorem dX3_checksum_7 : decode cX3_checksum 7 = .ok (.aload_n 0, 1) := by decide +kernel
theorem dX3_checksum_8 : decode cX3_checksum 8 = .ok (.getfield 11, 3) := by decide +kernel
theorem dX3_checksum_11 : decode cX3_checksum 11 = .ok (.arraylength, 1) := by decide +kernel
theorem dX3_checksum_12 : decode cX3_checksum 12 = .ok (.if_icmp .ge 46, 3) := by decide +kernel
theorem dX3_checksum_15 : decode cX3_checksum 15 = .ok (.ldc2_w 184, 3) := by decide +kernel
theorem dX3_checksum_18 : decode cX3_checksum 18 = .ok (.lload_n 1, 1) := by decide +kernel
theorem dX3_checksum_19 : decode cX3_checksum 19 = .ok (.lmul, 1) := by decide +kernel
theorem dX3_checksum_20 : decode cX3_checksum 20 = .ok (.aload_n 0, 1) := by decide +kernel
theorem dX3_checksum_21 : decode cX3_checksum 21 = .ok (.getfield 11, 3) := by decide +kernel
theorem dX3_checksum_24 : decode cX3_checksum 24 = .ok (.iload_n 3, 1) := by decide +kernel
theorem dX3_checksum_25 : decode cX3_checksum 25 = .ok (.aaload, 1) := by decide +kernel
theorem dX3_checksum_26 : decode cX3_checksum 26 = .ok (.invokevirtual 51, 3) := by decide +kernel
theorem dX3_checksum_29 : decode cX3_checksum 29 = .ok (.i2l, 1) := by decide +kernel
theorem dX3_checksum_30 : decode cX3_checksum 30 = .ok (.ladd, 1) := by decide +kernel
theorem dX3_checksum_31 : decode cX3_checksum 31 = .ok (.lstore_n 1, 1) := by decide +kernel
theorem dX3_checksum_32 : decode cX3_checksum 32 = .ok (.aload_n 0, 1) := by decide +kernel
theorem dX3_checksum_33 : decode cX3_checksum 33 = .ok (.getfield 11, 3) := by decide +kernel
theorem dX3_checksum_36 : decode cX3_checksum 36 = .ok (.iload_n 3, 1) := by decide +kernel
theorem dX3_checksum_37 : decode cX3_checksum 37 = .ok (.aaload, 1) := by decide +kernel
theorem dX3_checksum_38 : decode cX3_checksum 38 = .ok (.lload_n 1, 1) := by decide +kernel
theorem dX3_checksum_39 : decode cX3_checksum 39 = .ok (.aload_n 0, 1) := by decide +kernel
theorem dX3_checksum_40 : decode cX3_checksum 40 = .ok (.getfield 11, 3) := by decide +kernel
theorem dX3_checksum_43 : decode cX3_checksum 43 = .ok (.iload_n 3, 1) := by decide +kernel
theorem dX3_checksum_44 : decode cX3_checksum 44 = .ok (.aaload, 1) := by decide +kernel
theorem dX3_checksum_45 : decode cX3_checksum 45 = .ok (.invokevirtual 51, 3) := by decide +kernel
theorem dX3_checksum_48 : decode cX3_checksum 48 = .ok (.invokevirtual 186, 3) := by decide +kernel
theorem dX3_checksum_51 : decode cX3_checksum 51 = .ok (.lstore_n 1, 1) := by decide +kernel
theorem dX3_checksum_52 : decode cX3_checksum 52 = .ok (.iinc 3 1, 3) := by decide +kernel
theorem dX3_checksum_55 : decode cX3_checksum 55 = .ok (.goto (-49), 3) := by decide +kernel
theorem dX3_checksum_58 : decode cX3_checksum 58 = .ok (.iconst 0, 1) := by decide +kernel
theorem dX3_checksum_59 : decode cX3_checksum 59 = .ok (.istore_n 3, 1) := by decide +kernel
theorem dX3_checksum_60 : decode cX3_checksum 60 = .ok (.iload_n 3, 1) := by decide +kernel
theorem dX3_checksum_61 : decode cX3_checksum 61 = .ok (.aload_n 0, 1) := by decide +kernel
theorem dX3_checksum_62 : decode cX3_checksum 62 = .ok (.getfield 20, 3) := by decide +kernel
theorem dX3_checksum_65 : decode cX3_checksum 65 = .ok (.arraylength, 1) := by decide +kernel
theorem dX3_checksum_66 : decode cX3_checksum 66 = .ok (.if_icmp .ge 37, 3) := by decide +kernel
theorem dX3_checksum_69 : decode cX3_checksum 69 = .ok (.ldc2_w 184, 3) := by decide +kernel
theorem dX3_checksum_72 : decode cX3_checksum 72 = .ok (.lload_n 1, 1) := by decide +kernel
theorem dX3_checksum_73 : decode cX3_checksum 73 = .ok (.lmul, 1) := by decide +kernel
theorem dX3_checksum_74 : decode cX3_checksum 74 = .ok (.aload_n 0, 1) := by decide +kernel
theorem dX3_checksum_75 : decode cX3_checksum 75 = .ok (.getfield 20, 3) := by decide +kernel
theorem dX3_checksum_78 : decode cX3_checksum 78 = .ok (.iload_n 3, 1) := by decide +kernel
theorem dX3_checksum_79 : decode cX3_checksum 79 = .ok (.aaload, 1) := by decide +kernel
theorem dX3_checksum_80 : decode cX3_checksum 80 = .ok (.invokevirtual 78, 3) := by decide +kernel
theorem dX3_checksum_83 : decode cX3_checksum 83 = .ok (.i2l, 1) := by decide +kernel
theorem dX3_checksum_84 : decode cX3_checksum 84 = .ok (.ladd, 1) := by decide +kernel
theorem dX3_checksum_85 : decode cX3_checksum 85 = .ok (.lstore_n 1, 1) := by decide +kernel
theorem dX3_checksum_86 : decode cX3_checksum 86 = .ok (.aload_n 0, 1) := by decide +kernel
theorem dX3_checksum_87 : decode cX3_checksum 87 = .ok (.getfield 20, 3) := by decide +kernel
theorem dX3_checksum_90 : decode cX3_checksum 90 = .ok (.iload_n 3, 1) := by decide +kernel
theorem dX3_checksum_91 : decode cX3_checksum 91 = .ok (.aaload, 1) := by decide +kernel
theorem dX3_checksum_92 : decode cX3_checksum 92 = .ok (.lload_n 1, 1) := by decide +kernel
theorem dX3_checksum_93 : decode cX3_checksum 93 = .ok (.invokevirtual 190, 3) := by decide +kernel
theorem dX3_checksum_96 : decode cX3_checksum 96 = .ok (.lstore_n 1, 1) := by decide +kernel
theorem dX3_checksum_97 : decode cX3_checksum 97 = .ok (.iinc 3 1, 3) := by decide +kernel
theorem dX3_checksum_100 : decode cX3_checksum 100 = .ok (.goto (-40), 3) := by decide +kernel
theorem dX3_checksum_103 : decode cX3_checksum 103 = .ok (.iconst 0, 1) := by decide +kernel
theorem dX3_checksum_104 : decode cX3_checksum 104 = .ok (.istore_n 3, 1) := by decide +kernel
theorem dX3_checksum_105 : decode cX3_checksum 105 = .ok (.iload_n 3, 1) := by decide +kernel
theorem dX3_checksum_106 : decode cX3_checksum 106 = .ok (.aload_n 0, 1) := by decide +kernel
theorem dX3_checksum_107 : decode cX3_checksum 107 = .ok (.getfield 27, 3) := by decide +kernel
theorem dX3_checksum_110 : decode cX3_checksum 110 = .ok (.arraylength, 1) := by decide +kernel
theorem dX3_checksum_111 : decode cX3_checksum 111 = .ok (.if_icmp .ge 42, 3) := by decide +kernel
theorem dX3_checksum_114 : decode cX3_checksum 114 = .ok (.ldc2_w 184, 3) := by decide +kernel
theorem dX3_checksum_117 : decode cX3_checksum 117 = .ok (.lload_n 1, 1) := by decide +kernel
theorem dX3_checksum_118 : decode cX3_checksum 118 = .ok (.lmul, 1) := by decide +kernel
theorem dX3_checksum_119 : decode cX3_checksum 119 = .ok (.aload_n 0, 1) := by decide +kernel
theorem dX3_checksum_120 : decode cX3_checksum 120 = .ok (.getfield 27, 3) := by decide +kernel
theorem dX3_checksum_123 : decode cX3_checksum 123 = .ok (.iload_n 3, 1) := by decide +kernel
theorem dX3_checksum_124 : decode cX3_checksum 124 = .ok (.aaload, 1) := by decide +kernel
theorem dX3_checksum_125 : decode cX3_checksum 125 = .ok (.invokevirtual 103, 3) := by decide +kernel
theorem dX3_checksum_128 : decode cX3_checksum 128 = .ok (.ifCond .eq 15, 3) := by decide +kernel
theorem dX3_checksum_131 : decode cX3_checksum 131 = .ok (.aload_n 0, 1) := by decide +kernel
theorem dX3_checksum_132 : decode cX3_checksum 132 = .ok (.getfield 27, 3) := by decide +kernel
theorem dX3_checksum_135 : decode cX3_checksum 135 = .ok (.iload_n 3, 1) := by decide +kernel
theorem dX3_checksum_136 : decode cX3_checksum 136 = .ok (.aaload, 1) := by decide +kernel
theorem dX3_checksum_137 : decode cX3_checksum 137 = .ok (.invokevirtual 100, 3) := by decide +kernel
theorem dX3_checksum_140 : decode cX3_checksum 140 = .ok (.goto 4, 3) := by decide +kernel
theorem dX3_checksum_143 : decode cX3_checksum 143 = .ok (.iconst (-1), 1) := by decide +kernel
theorem dX3_checksum_144 : decode cX3_checksum 144 = .ok (.i2l, 1) := by decide +kernel
theorem dX3_checksum_145 : decode cX3_checksum 145 = .ok (.ladd, 1) := by decide +kernel
theorem dX3_checksum_146 : decode cX3_checksum 146 = .ok (.lstore_n 1, 1) := by decide +kernel
theorem dX3_checksum_147 : decode cX3_checksum 147 = .ok (.iinc 3 1, 3) := by decide +kernel
theorem dX3_checksum_150 : decode cX3_checksum 150 = .ok (.goto (-45), 3) := by decide +kernel
theorem dX3_checksum_153 : decode cX3_checksum 153 = .ok (.lload_n 1, 1) := by decide +kernel
theorem dX3_checksum_154 : decode cX3_checksum 154 = .ok (.lreturn, 1) := by decide +kernel
theorem dX3_isTrue_0 : decode cX3_isTrue 0 = .ok (.iconst 0, 1) := by decide +kernel
theorem dX3_isTrue_1 : decode cX3_isTrue 1 = .ok (.istore_n 1, 1) := by decide +kernel
theorem dX3_isTrue_2 : decode cX3_isTrue 2 = .ok (.iload_n 1, 1) := by decide +kernel
theorem dX3_isTrue_3 : decode cX3_isTrue 3 = .ok (.aload_n 0, 1) := by decide +kernel
theorem dX3_isTrue_4 : decode cX3_isTrue 4 = .ok (.getfield 27, 3) := by decide +kernel
theorem dX3_isTrue_7 : decode cX3_isTrue 7 = .ok (.arraylength, 1) := by decide +kernel
theorem dX3_isTrue_8 : decode cX3_isTrue 8 = .ok (.if_icmp .ge 35, 3) := by decide +kernel
theorem dX3_isTrue_11 : decode cX3_isTrue 11 = .ok (.aload_n 0, 1) := by decide +kernel
theorem dX3_isTrue_12 : decode cX3_isTrue 12 = .ok (.getfield 27, 3) := by decide +kernel
theorem dX3_isTrue_15 : decode cX3_isTrue 15 = .ok (.iload_n 1, 1) := by decide +kernel
theorem dX3_isTrue_16 : decode cX3_isTrue 16 = .ok (.aaload, 1) := by decide +kernel
theorem dX3_isTrue_17 : decode cX3_isTrue 17 = .ok (.invokevirtual 103, 3) := by decide +kernel
theorem dX3_isTrue_20 : decode cX3_isTrue 20 = .ok (.ifCond .eq 17, 3) := by decide +kernel
theorem dX3_isTrue_23 : decode cX3_isTrue 23 = .ok (.aload_n 0, 1) := by decide +kernel
theorem dX3_isTrue_24 : decode cX3_isTrue 24 = .ok (.getfield 27, 3) := by decide +kernel
theorem dX3_isTrue_27 : decode cX3_isTrue 27 = .ok (.iload_n 1, 1) := by decide +kernel
theorem dX3_isTrue_28 : decode cX3_isTrue 28 = .ok (.aaload, 1) := by decide +kernel
theorem dX3_isTrue_29 : decode cX3_isTrue 29 = .ok (.invokevirtual 193, 3) := by decide +kernel
theorem dX3_isTrue_32 : decode cX3_isTrue 32 = .ok (.ifCond .ne 5, 3) := by decide +kernel
theorem dX3_isTrue_35 : decode cX3_isTrue 35 = .ok (.iconst 0, 1) := by decide +kernel
theorem dX3_isTrue_36 : decode cX3_isTrue 36 = .ok (.ireturn, 1) := by decide +kernel
theorem dX3_isTrue_37 : decode cX3_isTrue 37 = .ok (.iinc 1 1, 3) := by decide +kernel
theorem dX3_isTrue_40 : decode cX3_isTrue 40 = .ok (.goto (-38), 3) := by decide +kernel
theorem dX3_isTrue_43 : decode cX3_isTrue 43 = .ok (.iconst 0, 1) := by decide +kernel
theorem dX3_isTrue_44 : decode cX3_isTrue 44 = .ok (.istore_n 1, 1) := by decide +kernel
theorem dX3_isTrue_45 : decode cX3_isTrue 45 = .ok (.iload_n 1, 1) := by decide +kernel
theorem dX3_isTrue_46 : decode cX3_isTrue 46 = .ok (.aload_n 0, 1) := by decide +kernel
theorem dX3_isTrue_47 : decode cX3_isTrue 47 = .ok (.getfield 20, 3) := by decide +kernel
theorem dX3_isTrue_50 : decode cX3_isTrue 50 = .ok (.arraylength, 1) := by decide +kernel
theorem dX3_isTrue_51 : decode cX3_isTrue 51 = .ok (.if_icmp .ge 37, 3) := by decide +kernel
theorem dX3_isTrue_54 : decode cX3_isTrue 54 = .ok (.aload_n 0, 1) := by decide +kernel
theorem dX3_isTrue_55 : decode cX3_isTrue 55 = .ok (.aload_n 0, 1) := by decide +kernel
theorem dX3_isTrue_56 : decode cX3_isTrue 56 = .ok (.getfield 20, 3) := by decide +kernel
theorem dX3_isTrue_59 : decode cX3_isTrue 59 = .ok (.iload_n 1, 1) := by decide +kernel
theorem dX3_isTrue_60 : decode cX3_isTrue 60 = .ok (.aaload, 1) := by decide +kernel
theorem dX3_isTrue_61 : decode cX3_isTrue 61 = .ok (.invokevirtual 196, 3) := by decide +kernel
theorem dX3_isTrue_64 : decode cX3_isTrue 64 = .ok (.ifCond .eq 16, 3) := by decide +kernel
theorem dX3_isTrue_67 : decode cX3_isTrue 67 = .ok (.aload_n 0, 1) := by decide +kernel
theorem dX3_isTrue_68 : decode cX3_isTrue 68 = .ok (.aload_n 0, 1) := by decide +kernel
theorem dX3_isTrue_69 : decode cX3_isTrue 69 = .ok (.getfield 20, 3) := by decide +kernel
theorem dX3_isTrue_72 : decode cX3_isTrue 72 = .ok (.iload_n 1, 1) := by decide +kernel
theorem dX3_isTrue_73 : decode cX3_isTrue 73 = .ok (.aaload, 1) := by decide +kernel
theorem dX3_isTrue_74 : decode cX3_isTrue 74 = .ok (.invokevirtual 200, 3) := by decide +kernel
theorem dX3_isTrue_77 : decode cX3_isTrue 77 = .ok (.ifCond .ne 5, 3) := by decide +kernel
theorem dX3_isTrue_80 : decode cX3_isTrue 80 = .ok (.iconst 0, 1) := by decide +kernel
theorem dX3_isTrue_81 : decode cX3_isTrue 81 = .ok (.ireturn, 1) := by decide +kernel
theorem dX3_isTrue_82 : decode cX3_isTrue 82 = .ok (.iinc 1 1, 3) := by decide +kernel
theorem dX3_isTrue_85 : decode cX3_isTrue 85 = .ok (.goto (-40), 3) := by decide +kernel
theorem dX3_isTrue_88 : decode cX3_isTrue 88 = .ok (.iconst 1, 1) := by decide +kernel
theorem dX3_isTrue_89 : decode cX3_isTrue 89 = .ok (.ireturn, 1) := by decide +kernel
theorem dX3_isReadBack_0 : decode cX3_isReadBack 0 = .ok (.aload_n 0, 1) := by decide +kernel
theorem dX3_isReadBack_1 : decode cX3_isReadBack 1 = .ok (.getfield 32, 3) := by decide +kernel
theorem dX3_isReadBack_4 : decode cX3_isReadBack 4 = .ok (.aload_n 1, 1) := by decide +kernel
theorem dX3_isReadBack_5 : decode cX3_isReadBack 5 = .ok (.invokevirtual 88, 3) := by decide +kernel
theorem dX3_isReadBack_8 : decode cX3_isReadBack 8 = .ok (.invokevirtual 96, 3) := by decide +kernel
theorem dX3_isReadBack_11 : decode cX3_isReadBack 11 = .ok (.aload_n 0, 1) := by decide +kernel
theorem dX3_isReadBack_12 : decode cX3_isReadBack 12 = .ok (.getfield 32, 3) := by decide +kernel
theorem dX3_isReadBack_15 : decode cX3_isReadBack 15 = .ok (.invokevirtual 100, 3) := by decide +kernel
theorem dX3_isReadBack_18 : decode cX3_isReadBack 18 = .ok (.aload_n 1, 1) := by decide +kernel
theorem dX3_isReadBack_19 : decode cX3_isReadBack 19 = .ok (.invokevirtual 78, 3) := by decide +kernel
theorem dX3_isReadBack_22 : decode cX3_isReadBack 22 = .ok (.if_icmp .eq 5, 3) := by decide +kernel
theorem dX3_isReadBack_25 : decode cX3_isReadBack 25 = .ok (.iconst 0, 1) := by decide +kernel
theorem dX3_isReadBack_26 : decode cX3_isReadBack 26 = .ok (.ireturn, 1) := by decide +kernel
theorem dX3_isReadBack_27 : decode cX3_isReadBack 27 = .ok (.iconst 0, 1) := by decide +kernel
theorem dX3_isReadBack_28 : decode cX3_isReadBack 28 = .ok (.istore_n 2, 1) := by decide +kernel
theorem dX3_isReadBack_29 : decode cX3_isReadBack 29 = .ok (.iload_n 2, 1) := by decide +kernel
theorem dX3_isReadBack_30 : decode cX3_isReadBack 30 = .ok (.aload_n 1, 1) := by decide +kernel
theorem dX3_isReadBack_31 : decode cX3_isReadBack 31 = .ok (.invokevirtual 78, 3) := by decide +kernel
theorem dX3_isReadBack_34 : decode cX3_isReadBack 34 = .ok (.if_icmp .ge 26, 3) := by decide +kernel
theorem dX3_isReadBack_37 : decode cX3_isReadBack 37 = .ok (.aload_n 0, 1) := by decide +kernel
theorem dX3_isReadBack_38 : decode cX3_isReadBack 38 = .ok (.getfield 32, 3) := by decide +kernel
theorem dX3_isReadBack_41 : decode cX3_isReadBack 41 = .ok (.invokevirtual 114, 3) := by decide +kernel
theorem dX3_isReadBack_44 : decode cX3_isReadBack 44 = .ok (.aload_n 1, 1) := by decide +kernel
theorem dX3_isReadBack_45 : decode cX3_isReadBack 45 = .ok (.iload_n 2, 1) := by decide +kernel
theorem dX3_isReadBack_46 : decode cX3_isReadBack 46 = .ok (.invokevirtual 203, 3) := by decide +kernel
theorem dX3_isReadBack_49 : decode cX3_isReadBack 49 = .ok (.if_icmp .eq 5, 3) := by decide +kernel
theorem dX3_isReadBack_52 : decode cX3_isReadBack 52 = .ok (.iconst 0, 1) := by decide +kernel
theorem dX3_isReadBack_53 : decode cX3_isReadBack 53 = .ok (.ireturn, 1) := by decide +kernel
theorem dX3_isReadBack_54 : decode cX3_isReadBack 54 = .ok (.iinc 2 1, 3) := by decide +kernel
theorem dX3_isReadBack_57 : decode cX3_isReadBack 57 = .ok (.goto (-28), 3) := by decide +kernel
theorem dX3_isReadBack_60 : decode cX3_isReadBack 60 = .ok (.aload_n 0, 1) := by decide +kernel
theorem dX3_isReadBack_61 : decode cX3_isReadBack 61 = .ok (.getfield 32, 3) := by decide +kernel
theorem dX3_isReadBack_64 : decode cX3_isReadBack 64 = .ok (.invokevirtual 100, 3) := by decide +kernel
theorem dX3_isReadBack_67 : decode cX3_isReadBack 67 = .ok (.ifCond .ne 7, 3) := by decide +kernel
theorem dX3_isReadBack_70 : decode cX3_isReadBack 70 = .ok (.iconst 1, 1) := by decide +kernel
theorem dX3_isReadBack_71 : decode cX3_isReadBack 71 = .ok (.goto 4, 3) := by decide +kernel
theorem dX3_isReadBack_74 : decode cX3_isReadBack 74 = .ok (.iconst 0, 1) := by decide +kernel
theorem dX3_isReadBack_75 : decode cX3_isReadBack 75 = .ok (.ireturn, 1) := by decide +kernel
theorem dX3_isPouredBack_0 : decode cX3_isPouredBack 0 = .ok (.aload_n 0, 1) := by decide +kernel
theorem dX3_isPouredBack_1 : decode cX3_isPouredBack 1 = .ok (.getfield 32, 3) := by decide +kernel
theorem dX3_isPouredBack_4 : decode cX3_isPouredBack 4 = .ok (.invokevirtual 149, 3) := by decide +kernel
theorem dX3_isPouredBack_7 : decode cX3_isPouredBack 7 = .ok (.aload_n 0, 1) := by decide +kernel
theorem dX3_isPouredBack_8 : decode cX3_isPouredBack 8 = .ok (.getfield 36, 3) := by decide +kernel
theorem dX3_isPouredBack_11 : decode cX3_isPouredBack 11 = .ok (.invokevirtual 82, 3) := by decide +kernel
theorem dX3_isPouredBack_14 : decode cX3_isPouredBack 14 = .ok (.aload_n 0, 1) := by decide +kernel
theorem dX3_isPouredBack_15 : decode cX3_isPouredBack 15 = .ok (.getfield 32, 3) := by decide +kernel
theorem dX3_isPouredBack_18 : decode cX3_isPouredBack 18 = .ok (.aload_n 0, 1) := by decide +kernel
theorem dX3_isPouredBack_19 : decode cX3_isPouredBack 19 = .ok (.getfield 36, 3) := by decide +kernel
theorem dX3_isPouredBack_22 : decode cX3_isPouredBack 22 = .ok (.iconst 3, 1) := by decide +kernel
theorem dX3_isPouredBack_23 : decode cX3_isPouredBack 23 = .ok (.invokestatic 158, 3) := by decide +kernel
theorem dX3_isPouredBack_26 : decode cX3_isPouredBack 26 = .ok (.pop, 1) := by decide +kernel
theorem dX3_isPouredBack_27 : decode cX3_isPouredBack 27 = .ok (.aload_n 0, 1) := by decide +kernel
theorem dX3_isPouredBack_28 : decode cX3_isPouredBack 28 = .ok (.getfield 36, 3) := by decide +kernel
theorem dX3_isPouredBack_31 : decode cX3_isPouredBack 31 = .ok (.invokevirtual 78, 3) := by decide +kernel
theorem dX3_isPouredBack_34 : decode cX3_isPouredBack 34 = .ok (.aload_n 1, 1) := by decide +kernel
theorem dX3_isPouredBack_35 : decode cX3_isPouredBack 35 = .ok (.invokevirtual 78, 3) := by decide +kernel
theorem dX3_isPouredBack_38 : decode cX3_isPouredBack 38 = .ok (.if_icmp .eq 5, 3) := by decide +kernel
theorem dX3_isPouredBack_41 : decode cX3_isPouredBack 41 = .ok (.iconst 0, 1) := by decide +kernel
theorem dX3_isPouredBack_42 : decode cX3_isPouredBack 42 = .ok (.ireturn, 1) := by decide +kernel
theorem dX3_isPouredBack_43 : decode cX3_isPouredBack 43 = .ok (.iconst 0, 1) := by decide +kernel
theorem dX3_isPouredBack_44 : decode cX3_isPouredBack 44 = .ok (.istore_n 2, 1) := by decide +kernel
theorem dX3_isPouredBack_45 : decode cX3_isPouredBack 45 = .ok (.iload_n 2, 1) := by decide +kernel
theorem dX3_isPouredBack_46 : decode cX3_isPouredBack 46 = .ok (.aload_n 1, 1) := by decide +kernel
theorem dX3_isPouredBack_47 : decode cX3_isPouredBack 47 = .ok (.invokevirtual 78, 3) := by decide +kernel
theorem dX3_isPouredBack_50 : decode cX3_isPouredBack 50 = .ok (.if_icmp .ge 27, 3) := by decide +kernel
theorem dX3_isPouredBack_53 : decode cX3_isPouredBack 53 = .ok (.aload_n 0, 1) := by decide +kernel
theorem dX3_isPouredBack_54 : decode cX3_isPouredBack 54 = .ok (.getfield 36, 3) := by decide +kernel
theorem dX3_isPouredBack_57 : decode cX3_isPouredBack 57 = .ok (.iload_n 2, 1) := by decide +kernel
theorem dX3_isPouredBack_58 : decode cX3_isPouredBack 58 = .ok (.invokevirtual 203, 3) := by decide +kernel
theorem dX3_isPouredBack_61 : decode cX3_isPouredBack 61 = .ok (.aload_n 1, 1) := by decide +kernel
theorem dX3_isPouredBack_62 : decode cX3_isPouredBack 62 = .ok (.iload_n 2, 1) := by decide +kernel
theorem dX3_isPouredBack_63 : decode cX3_isPouredBack 63 = .ok (.invokevirtual 203, 3) := by decide +kernel
theorem dX3_isPouredBack_66 : decode cX3_isPouredBack 66 = .ok (.if_icmp .eq 5, 3) := by decide +kernel
theorem dX3_isPouredBack_69 : decode cX3_isPouredBack 69 = .ok (.iconst 0, 1) := by decide +kernel
theorem dX3_isPouredBack_70 : decode cX3_isPouredBack 70 = .ok (.ireturn, 1) := by decide +kernel
theorem dX3_isPouredBack_71 : decode cX3_isPouredBack 71 = .ok (.iinc 2 1, 3) := by decide +kernel
theorem dX3_isPouredBack_74 : decode cX3_isPouredBack 74 = .ok (.goto (-29), 3) := by decide +kernel
theorem dX3_isPouredBack_77 : decode cX3_isPouredBack 77 = .ok (.iconst 1, 1) := by decide +kernel
theorem dX3_isPouredBack_78 : decode cX3_isPouredBack 78 = .ok (.ireturn, 1) := by decide +kernel
theorem dX3_pourByParts_0 : decode cX3_pourByParts 0 = .ok (.iconst 0, 1) := by decide +kernel
theorem dX3_pourByParts_1 : decode cX3_pourByParts 1 = .ok (.istore_n 3, 1) := by decide +kernel
theorem dX3_pourByParts_2 : decode cX3_pourByParts 2 = .ok (.iload_n 3, 1) := by decide +kernel
theorem dX3_pourByParts_3 : decode cX3_pourByParts 3 = .ok (.sipush 256, 3) := by decide +kernel
theorem dX3_pourByParts_6 : decode cX3_pourByParts 6 = .ok (.if_icmp .ge 27, 3) := by decide +kernel
theorem dX3_pourByParts_9 : decode cX3_pourByParts 9 = .ok (.aload_n 0, 1) := by decide +kernel
theorem dX3_pourByParts_10 : decode cX3_pourByParts 10 = .ok (.invokevirtual 100, 3) := by decide +kernel
theorem dX3_pourByParts_13 : decode cX3_pourByParts 13 = .ok (.ifCond .le 20, 3) := by decide +kernel
theorem dX3_pourByParts_16 : decode cX3_pourByParts 16 = .ok (.aload_n 0, 1) := by decide +kernel
theorem dX3_pourByParts_17 : decode cX3_pourByParts 17 = .ok (.aload_n 0, 1) := by decide +kernel
theorem dX3_pourByParts_18 : decode cX3_pourByParts 18 = .ok (.aload_n 1, 1) := by decide +kernel
theorem dX3_pourByParts_19 : decode cX3_pourByParts 19 = .ok (.iload_n 2, 1) := by decide +kernel
theorem dX3_pourByParts_20 : decode cX3_pourByParts 20 = .ok (.invokevirtual 152, 3) := by decide +kernel
theorem dX3_pourByParts_23 : decode cX3_pourByParts 23 = .ok (.invokevirtual 111, 3) := by decide +kernel
theorem dX3_pourByParts_26 : decode cX3_pourByParts 26 = .ok (.pop, 1) := by decide +kernel
theorem dX3_pourByParts_27 : decode cX3_pourByParts 27 = .ok (.iinc 3 1, 3) := by decide +kernel
theorem dX3_pourByParts_30 : decode cX3_pourByParts 30 = .ok (.goto (-28), 3) := by decide +kernel
theorem dX3_pourByParts_33 : decode cX3_pourByParts 33 = .ok (.iload_n 3, 1) := by decide +kernel
theorem dX3_pourByParts_34 : decode cX3_pourByParts 34 = .ok (.ireturn, 1) := by decide +kernel
theorem dX3_needRow_0 : decode cX3_needRow 0 = .ok (.iload_n 1, 1) := by decide +kernel
theorem dX3_needRow_1 : decode cX3_needRow 1 = .ok (.ifCond .lt 12, 3) := by decide +kernel
theorem dX3_needRow_4 : decode cX3_needRow 4 = .ok (.iload_n 1, 1) := by decide +kernel
theorem dX3_needRow_5 : decode cX3_needRow 5 = .ok (.aload_n 0, 1) := by decide +kernel
theorem dX3_needRow_6 : decode cX3_needRow 6 = .ok (.getfield 11, 3) := by decide +kernel
theorem dX3_needRow_9 : decode cX3_needRow 9 = .ok (.arraylength, 1) := by decide +kernel
theorem dX3_needRow_10 : decode cX3_needRow 10 = .ok (.if_icmp .lt 13, 3) := by decide +kernel
theorem dX3_needRow_13 : decode cX3_needRow 13 = .ok (.new 206, 3) := by decide +kernel
theorem dX3_needRow_16 : decode cX3_needRow 16 = .ok (.dup, 1) := by decide +kernel
theorem dX3_needRow_17 : decode cX3_needRow 17 = .ok (.ldc 208, 2) := by decide +kernel
theorem dX3_needRow_19 : decode cX3_needRow 19 = .ok (.invokespecial 210, 3) := by decide +kernel
theorem dX3_needRow_22 : decode cX3_needRow 22 = .ok (.athrow, 1) := by decide +kernel
theorem dX3_needRow_23 : decode cX3_needRow 23 = .ok (.return_, 1) := by decide +kernel
theorem dX3_rowAt_0 : decode cX3_rowAt 0 = .ok (.aload_n 0, 1) := by decide +kernel
theorem dX3_rowAt_1 : decode cX3_rowAt 1 = .ok (.iload_n 1, 1) := by decide +kernel
theorem dX3_rowAt_2 : decode cX3_rowAt 2 = .ok (.invokevirtual 85, 3) := by decide +kernel
theorem dX3_rowAt_5 : decode cX3_rowAt 5 = .ok (.aload_n 0, 1) := by decide +kernel
theorem dX3_rowAt_6 : decode cX3_rowAt 6 = .ok (.getfield 11, 3) := by decide +kernel
theorem dX3_rowAt_9 : decode cX3_rowAt 9 = .ok (.iload_n 1, 1) := by decide +kernel
theorem dX3_rowAt_10 : decode cX3_rowAt 10 = .ok (.aaload, 1) := by decide +kernel
theorem dX3_rowAt_11 : decode cX3_rowAt 11 = .ok (.areturn, 1) := by decide +kernel
theorem dX3_gathererAt_0 : decode cX3_gathererAt 0 = .ok (.iload_n 1, 1) := by decide +kernel
theorem dX3_gathererAt_1 : decode cX3_gathererAt 1 = .ok (.ifCond .lt 12, 3) := by decide +kernel
theorem dX3_gathererAt_4 : decode cX3_gathererAt 4 = .ok (.iload_n 1, 1) := by decide +kernel
theorem dX3_gathererAt_5 : decode cX3_gathererAt 5 = .ok (.aload_n 0, 1) := by decide +kernel
theorem dX3_gathererAt_6 : decode cX3_gathererAt 6 = .ok (.getfield 20, 3) := by decide +kernel
theorem dX3_gathererAt_9 : decode cX3_gathererAt 9 = .ok (.arraylength, 1) := by decide +kernel
theorem dX3_gathererAt_10 : decode cX3_gathererAt 10 = .ok (.if_icmp .lt 13, 3) := by decide +kernel
theorem dX3_gathererAt_13 : decode cX3_gathererAt 13 = .ok (.new 206, 3) := by decide +kernel
theorem dX3_gathererAt_16 : decode cX3_gathererAt 16 = .ok (.dup, 1) := by decide +kernel
theorem dX3_gathererAt_17 : decode cX3_gathererAt 17 = .ok (.ldc 211, 2) := by decide +kernel
theorem dX3_gathererAt_19 : decode cX3_gathererAt 19 = .ok (.invokespecial 210, 3) := by decide +kernel
theorem dX3_gathererAt_22 : decode cX3_gathererAt 22 = .ok (.athrow, 1) := by decide +kernel
theorem dX3_gathererAt_23 : decode cX3_gathererAt 23 = .ok (.aload_n 0, 1) := by decide +kernel
theorem dX3_gathererAt_24 : decode cX3_gathererAt 24 = .ok (.getfield 20, 3) := by decide +kernel
theorem dX3_gathererAt_27 : decode cX3_gathererAt 27 = .ok (.iload_n 1, 1) := by decide +kernel
theorem dX3_gathererAt_28 : decode cX3_gathererAt 28 = .ok (.aaload, 1) := by decide +kernel
theorem dX3_gathererAt_29 : decode cX3_gathererAt 29 = .ok (.areturn, 1) := by decide +kernel
theorem dX3_readerAt_0 : decode cX3_readerAt 0 = .ok (.iload_n 1, 1) := by decide +kernel
theorem dX3_readerAt_1 : decode cX3_readerAt 1 = .ok (.ifCond .lt 12, 3) := by decide +kernel
theorem dX3_readerAt_4 : decode cX3_readerAt 4 = .ok (.iload_n 1, 1) := by decide +kernel
theorem dX3_readerAt_5 : decode cX3_readerAt 5 = .ok (.aload_n 0, 1) := by decide +kernel
theorem dX3_readerAt_6 : decode cX3_readerAt 6 = .ok (.getfield 27, 3) := by decide +kernel
theorem dX3_readerAt_9 : decode cX3_readerAt 9 = .ok (.arraylength, 1) := by decide +kernel
theorem dX3_readerAt_10 : decode cX3_readerAt 10 = .ok (.if_icmp .lt 13, 3) := by decide +kernel
theorem dX3_readerAt_13 : decode cX3_readerAt 13 = .ok (.new 206, 3) := by decide +kernel
theorem dX3_readerAt_16 : decode cX3_readerAt 16 = .ok (.dup, 1) := by decide +kernel
theorem dX3_readerAt_17 : decode cX3_readerAt 17 = .ok (.ldc 213, 2) := by decide +kernel
theorem dX3_readerAt_19 : decode cX3_readerAt 19 = .ok (.invokespecial 210, 3) := by decide +kernel
theorem dX3_readerAt_22 : decode cX3_readerAt 22 = .ok (.athrow, 1) := by decide +kernel
theorem dX3_readerAt_23 : decode cX3_readerAt 23 = .ok (.aload_n 0, 1) := by decide +kernel
theorem dX3_readerAt_24 : decode cX3_readerAt 24 = .ok (.getfield 27, 3) := by decide +kernel
theorem dX3_readerAt_27 : decode cX3_readerAt 27 = .ok (.iload_n 1, 1) := by decide +kernel
theorem dX3_readerAt_28 : decode cX3_readerAt 28 = .ok (.aaload, 1) := by decide +kernel
theorem dX3_readerAt_29 : decode cX3_readerAt 29 = .ok (.areturn, 1) := by decide +kernel
theorem dX3_needPlaces_0 : decode cX3_needPlaces 0 = .ok (.aload_n 0, 1) := by decide +kernel
theorem dX3_needPlaces_1 : decode cX3_needPlaces 1 = .ok (.iload_n 1, 1) := by decide +kernel
theorem dX3_needPlaces_2 : decode cX3_needPlaces 2 = .ok (.iload_n 2, 1) := by decide +kernel
theorem dX3_needPlaces_3 : decode cX3_needPlaces 3 = .ok (.invokevirtual 215, 3) := by decide +kernel
theorem dX3_needPlaces_6 : decode cX3_needPlaces 6 = .ok (.ifCond .ne 13, 3) := by decide +kernel
theorem dX3_needPlaces_9 : decode cX3_needPlaces 9 = .ok (.new 206, 3) := by decide +kernel
theorem dX3_needPlaces_12 : decode cX3_needPlaces 12 = .ok (.dup, 1) := by decide +kernel
theorem dX3_needPlaces_13 : decode cX3_needPlaces 13 = .ok (.ldc 219, 2) := by decide +kernel
theorem dX3_needPlaces_15 : decode cX3_needPlaces 15 = .ok (.invokespecial 210, 3) := by decide +kernel
theorem dX3_needPlaces_18 : decode cX3_needPlaces 18 = .ok (.athrow, 1) := by decide +kernel
theorem dX3_needPlaces_19 : decode cX3_needPlaces 19 = .ok (.return_, 1) := by decide +kernel
theorem dX3_needRoom_0 : decode cX3_needRoom 0 = .ok (.iload_n 1, 1) := by decide +kernel
theorem dX3_needRoom_1 : decode cX3_needRoom 1 = .ok (.aload_n 0, 1) := by decide +kernel
theorem dX3_needRoom_2 : decode cX3_needRoom 2 = .ok (.invokevirtual 221, 3) := by decide +kernel
theorem dX3_needRoom_5 : decode cX3_needRoom 5 = .ok (.if_icmp .le 13, 3) := by decide +kernel
theorem dX3_needRoom_8 : decode cX3_needRoom 8 = .ok (.new 224, 3) := by decide +kernel
theorem dX3_needRoom_11 : decode cX3_needRoom 11 = .ok (.dup, 1) := by decide +kernel
theorem dX3_needRoom_12 : decode cX3_needRoom 12 = .ok (.ldc 226, 2) := by decide +kernel
theorem dX3_needRoom_14 : decode cX3_needRoom 14 = .ok (.invokespecial 228, 3) := by decide +kernel
theorem dX3_needRoom_17 : decode cX3_needRoom 17 = .ok (.athrow, 1) := by decide +kernel
theorem dX3_needRoom_18 : decode cX3_needRoom 18 = .ok (.return_, 1) := by decide +kernel
theorem dX3_needWanted_0 : decode cX3_needWanted 0 = .ok (.lload_n 0, 1) := by decide +kernel
theorem dX3_needWanted_1 : decode cX3_needWanted 1 = .ok (.lconst 0, 1) := by decide +kernel
theorem dX3_needWanted_2 : decode cX3_needWanted 2 = .ok (.lcmp, 1) := by decide +kernel
theorem dX3_needWanted_3 : decode cX3_needWanted 3 = .ok (.ifCond .ge 13, 3) := by decide +kernel
theorem dX3_needWanted_6 : decode cX3_needWanted 6 = .ok (.new 44, 3) := by decide +kernel
theorem dX3_needWanted_9 : decode cX3_needWanted 9 = .ok (.dup, 1) := by decide +kernel
theorem dX3_needWanted_10 : decode cX3_needWanted 10 = .ok (.ldc 229, 2) := by decide +kernel
theorem dX3_needWanted_12 : decode cX3_needWanted 12 = .ok (.invokespecial 48, 3) := by decide +kernel
theorem dX3_needWanted_15 : decode cX3_needWanted 15 = .ok (.athrow, 1) := by decide +kernel
theorem dX3_needWanted_16 : decode cX3_needWanted 16 = .ok (.return_, 1) := by decide +kernel
theorem dX3_needOpen_0 : decode cX3_needOpen 0 = .ok (.aload_n 0, 1) := by decide +kernel
theorem dX3_needOpen_1 : decode cX3_needOpen 1 = .ok (.invokevirtual 103, 3) := by decide +kernel
theorem dX3_needOpen_4 : decode cX3_needOpen 4 = .ok (.ifCond .ne 13, 3) := by decide +kernel
theorem dX3_needOpen_7 : decode cX3_needOpen 7 = .ok (.new 231, 3) := by decide +kernel
theorem dX3_needOpen_10 : decode cX3_needOpen 10 = .ok (.dup, 1) := by decide +kernel
theorem dX3_needOpen_11 : decode cX3_needOpen 11 = .ok (.ldc 233, 2) := by decide +kernel
theorem dX3_needOpen_13 : decode cX3_needOpen 13 = .ok (.invokespecial 235, 3) := by decide +kernel
theorem dX3_needOpen_16 : decode cX3_needOpen 16 = .ok (.athrow, 1) := by decide +kernel
theorem dX3_needOpen_17 : decode cX3_needOpen 17 = .ok (.return_, 1) := by decide +kernel
theorem dX4_init_0 : decode cX4_init 0 = .ok (.aload_n 0, 1) := by decide +kernel
theorem dX4_init_1 : decode cX4_init 1 = .ok (.invokespecial 1, 3) := by decide +kernel
theorem dX4_init_4 : decode cX4_init 4 = .ok (.aload_n 0, 1) := by decide +kernel
theorem dX4_init_5 : decode cX4_init 5 = .ok (.sipush 2048, 3) := by decide +kernel
theorem dX4_init_8 : decode cX4_init 8 = .ok (.newarray .int, 2) := by decide +kernel
theorem dX4_init_10 : decode cX4_init 10 = .ok (.putfield 7, 3) := by decide +kernel
theorem dX4_init_13 : decode cX4_init 13 = .ok (.aload_n 0, 1) := by decide +kernel
theorem dX4_init_14 : decode cX4_init 14 = .ok (.bipush 8, 2) := by decide +kernel
theorem dX4_init_16 : decode cX4_init 16 = .ok (.newarray .int, 2) := by decide +kernel
theorem dX4_init_18 : decode cX4_init 18 = .ok (.putfield 13, 3) := by decide +kernel
theorem dX4_init_21 : decode cX4_init 21 = .ok (.aload_n 0, 1) := by decide +kernel
theorem dX4_init_22 : decode cX4_init 22 = .ok (.iconst 4, 1) := by decide +kernel
theorem dX4_init_23 : decode cX4_init 23 = .ok (.newarray .int, 2) := by decide +kernel
theorem dX4_init_25 : decode cX4_init 25 = .ok (.putfield 16, 3) := by decide +kernel
theorem dX4_init_28 : decode cX4_init 28 = .ok (.aload_n 0, 1) := by decide +kernel
theorem dX4_init_29 : decode cX4_init 29 = .ok (.iconst 3, 1) := by decide +kernel
theorem dX4_init_30 : decode cX4_init 30 = .ok (.newarray .int, 2) := by decide +kernel
theorem dX4_init_32 : decode cX4_init 32 = .ok (.putfield 19, 3) := by decide +kernel
theorem dX4_init_35 : decode cX4_init 35 = .ok (.aload_n 0, 1) := by decide +kernel
theorem dX4_init_36 : decode cX4_init 36 = .ok (.iconst 3, 1) := by decide +kernel
theorem dX4_init_37 : decode cX4_init 37 = .ok (.newarray .int, 2) := by decide +kernel
theorem dX4_init_39 : decode cX4_init 39 = .ok (.putfield 22, 3) := by decide +kernel
theorem dX4_init_42 : decode cX4_init 42 = .ok (.aload_n 0, 1) := by decide +kernel
theorem dX4_init_43 : decode cX4_init 43 = .ok (.iconst 3, 1) := by decide +kernel
theorem dX4_init_44 : decode cX4_init 44 = .ok (.newarray .int, 2) := by decide +kernel
theorem dX4_init_46 : decode cX4_init 46 = .ok (.putfield 25, 3) := by decide +kernel
theorem dX4_init_49 : decode cX4_init 49 = .ok (.aload_n 0, 1) := by decide +kernel
theorem dX4_init_50 : decode cX4_init 50 = .ok (.sipush 768, 3) := by decide +kernel
theorem dX4_init_53 : decode cX4_init 53 = .ok (.newarray .int, 2) := by decide +kernel
theorem dX4_init_55 : decode cX4_init 55 = .ok (.putfield 28, 3) := by decide +kernel
theorem dX4_init_58 : decode cX4_init 58 = .ok (.aload_n 0, 1) := by decide +kernel
theorem dX4_init_59 : decode cX4_init 59 = .ok (.iconst 3, 1) := by decide +kernel
theorem dX4_init_60 : decode cX4_init 60 = .ok (.newarray .int, 2) := by decide +kernel
theorem dX4_init_62 : decode cX4_init 62 = .ok (.putfield 31, 3) := by decide +kernel
theorem dX4_init_65 : decode cX4_init 65 = .ok (.aload_n 0, 1) := by decide +kernel
theorem dX4_init_66 : decode cX4_init 66 = .ok (.sipush 256, 3) := by decide +kernel
theorem dX4_init_69 : decode cX4_init 69 = .ok (.newarray .int, 2) := by decide +kernel
theorem dX4_init_71 : decode cX4_init 71 = .ok (.putfield 34, 3) := by decide +kernel
theorem dX4_init_74 : decode cX4_init 74 = .ok (.iconst 0, 1) := by decide +kernel
theorem dX4_init_75 : decode cX4_init 75 = .ok (.istore_n 1, 1) := by decide +kernel
theorem dX4_init_76 : decode cX4_init 76 = .ok (.iload_n 1, 1) := by decide +kernel
theorem dX4_init_77 : decode cX4_init 77 = .ok (.iconst 4, 1) := by decide +kernel
theorem dX4_init_78 : decode cX4_init 78 = .ok (.if_icmp .ge 16, 3) := by decide +kernel
theorem dX4_init_81 : decode cX4_init 81 = .ok (.aload_n 0, 1) := by decide +kernel
theorem dX4_init_82 : decode cX4_init 82 = .ok (.getfield 16, 3) := by decide +kernel
theorem dX4_init_85 : decode cX4_init 85 = .ok (.iload_n 1, 1) := by decide +kernel
theorem dX4_init_86 : decode cX4_init 86 = .ok (.iload_n 1, 1) := by decide +kernel
theorem dX4_init_87 : decode cX4_init 87 = .ok (.iastore, 1) := by decide +kernel
theorem dX4_init_88 : decode cX4_init 88 = .ok (.iinc 1 1, 3) := by decide +kernel
theorem dX4_init_91 : decode cX4_init 91 = .ok (.goto (-15), 3) := by decide +kernel
theorem dX4_init_94 : decode cX4_init 94 = .ok (.iconst 0, 1) := by decide +kernel
theorem dX4_init_95 : decode cX4_init 95 = .ok (.istore_n 1, 1) := by decide +kernel
theorem dX4_init_96 : decode cX4_init 96 = .ok (.iload_n 1, 1) := by decide +kernel
theorem dX4_init_97 : decode cX4_init 97 = .ok (.iconst 3, 1) := by decide +kernel
theorem dX4_init_98 : decode cX4_init 98 = .ok (.if_icmp .ge 16, 3) := by decide +kernel
theorem dX4_init_101 : decode cX4_init 101 = .ok (.aload_n 0, 1) := by decide +kernel
theorem dX4_init_102 : decode cX4_init 102 = .ok (.getfield 19, 3) := by decide +kernel
theorem dX4_init_105 : decode cX4_init 105 = .ok (.iload_n 1, 1) := by decide +kernel
theorem dX4_init_106 : decode cX4_init 106 = .ok (.iconst (-1), 1) := by decide +kernel
theorem dX4_init_107 : decode cX4_init 107 = .ok (.iastore, 1) := by decide +kernel
theorem dX4_init_108 : decode cX4_init 108 = .ok (.iinc 1 1, 3) := by decide +kernel
theorem dX4_init_111 : decode cX4_init 111 = .ok (.goto (-15), 3) := by decide +kernel
theorem dX4_init_114 : decode cX4_init 114 = .ok (.return_, 1) := by decide +kernel
theorem dX4_thrown_0 : decode cX4_thrown 0 = .ok (.aload_n 0, 1) := by decide +kernel
theorem dX4_thrown_1 : decode cX4_thrown 1 = .ok (.getfield 37, 3) := by decide +kernel
theorem dX4_thrown_4 : decode cX4_thrown 4 = .ok (.ireturn, 1) := by decide +kernel
theorem dX4_isWrong_0 : decode cX4_isWrong 0 = .ok (.aload_n 0, 1) := by decide +kernel
theorem dX4_isWrong_1 : decode cX4_isWrong 1 = .ok (.iload_n 1, 1) := by decide +kernel
theorem dX4_isWrong_2 : decode cX4_isWrong 2 = .ok (.putfield 37, 3) := by decide +kernel
theorem dX4_isWrong_5 : decode cX4_isWrong 5 = .ok (.iload_n 1, 1) := by decide +kernel
theorem dX4_isWrong_6 : decode cX4_isWrong 6 = .ok (.ifCond .eq 7, 3) := by decide +kernel
theorem dX4_isWrong_9 : decode cX4_isWrong 9 = .ok (.iconst 1, 1) := by decide +kernel
theorem dX4_isWrong_10 : decode cX4_isWrong 10 = .ok (.goto 4, 3) := by decide +kernel
theorem dX4_isWrong_13 : decode cX4_isWrong 13 = .ok (.iconst 0, 1) := by decide +kernel
theorem dX4_isWrong_14 : decode cX4_isWrong 14 = .ok (.ireturn, 1) := by decide +kernel
theorem dX4_lesser_0 : decode cX4_lesser 0 = .ok (.iload_n 1, 1) := by decide +kernel
theorem dX4_lesser_1 : decode cX4_lesser 1 = .ok (.iload_n 2, 1) := by decide +kernel
theorem dX4_lesser_2 : decode cX4_lesser 2 = .ok (.if_icmp .ge 7, 3) := by decide +kernel
theorem dX4_lesser_5 : decode cX4_lesser 5 = .ok (.iload_n 1, 1) := by decide +kernel
theorem dX4_lesser_6 : decode cX4_lesser 6 = .ok (.goto 4, 3) := by decide +kernel
theorem dX4_lesser_9 : decode cX4_lesser 9 = .ok (.iload_n 2, 1) := by decide +kernel
theorem dX4_lesser_10 : decode cX4_lesser 10 = .ok (.ireturn, 1) := by decide +kernel
theorem dX4_low_0 : decode cX4_low 0 = .ok (.iload_n 1, 1) := by decide +kernel
theorem dX4_low_1 : decode cX4_low 1 = .ok (.sipush 255, 3) := by decide +kernel
theorem dX4_low_4 : decode cX4_low 4 = .ok (.iand, 1) := by decide +kernel
theorem dX4_low_5 : decode cX4_low 5 = .ok (.istore_n 2, 1) := by decide +kernel
theorem dX4_low_6 : decode cX4_low 6 = .ok (.iload_n 2, 1) := by decide +kernel
theorem dX4_low_7 : decode cX4_low 7 = .ok (.sipush 128, 3) := by decide +kernel
theorem dX4_low_10 : decode cX4_low 10 = .ok (.if_icmp .ge 7, 3) := by decide +kernel
theorem dX4_low_13 : decode cX4_low 13 = .ok (.iload_n 2, 1) := by decide +kernel
theorem dX4_low_14 : decode cX4_low 14 = .ok (.goto 8, 3) := by decide +kernel
theorem dX4_low_17 : decode cX4_low 17 = .ok (.iload_n 2, 1) := by decide +kernel
theorem dX4_low_18 : decode cX4_low 18 = .ok (.sipush 256, 3) := by decide +kernel
theorem dX4_low_21 : decode cX4_low 21 = .ok (.isub, 1) := by decide +kernel
theorem dX4_low_22 : decode cX4_low 22 = .ok (.ireturn, 1) := by decide +kernel
theorem dX4_isRow_0 : decode cX4_isRow 0 = .ok (.iconst 0, 1) := by decide +kernel
theorem dX4_isRow_1 : decode cX4_isRow 1 = .ok (.iload_n 1, 1) := by decide +kernel
theorem dX4_isRow_2 : decode cX4_isRow 2 = .ok (.if_icmp .gt 12, 3) := by decide +kernel
theorem dX4_isRow_5 : decode cX4_isRow 5 = .ok (.iload_n 1, 1) := by decide +kernel
theorem dX4_isRow_6 : decode cX4_isRow 6 = .ok (.iconst 3, 1) := by decide +kernel
theorem dX4_isRow_7 : decode cX4_isRow 7 = .ok (.if_icmp .gt 7, 3) := by decide +kernel
theorem dX4_isRow_10 : decode cX4_isRow 10 = .ok (.iconst 1, 1) := by decide +kernel
theorem dX4_isRow_11 : decode cX4_isRow 11 = .ok (.goto 4, 3) := by decide +kernel
theorem dX4_isRow_14 : decode cX4_isRow 14 = .ok (.iconst 0, 1) := by decide +kernel
theorem dX4_isRow_15 : decode cX4_isRow 15 = .ok (.ireturn, 1) := by decide +kernel
theorem dX4_isOther_0 : decode cX4_isOther 0 = .ok (.iconst 0, 1) := by decide +kernel
theorem dX4_isOther_1 : decode cX4_isOther 1 = .ok (.iload_n 1, 1) := by decide +kernel
theorem dX4_isOther_2 : decode cX4_isOther 2 = .ok (.if_icmp .gt 12, 3) := by decide +kernel
theorem dX4_isOther_5 : decode cX4_isOther 5 = .ok (.iload_n 1, 1) := by decide +kernel
theorem dX4_isOther_6 : decode cX4_isOther 6 = .ok (.iconst 2, 1) := by decide +kernel
theorem dX4_isOther_7 : decode cX4_isOther 7 = .ok (.if_icmp .gt 7, 3) := by decide +kernel
theorem dX4_isOther_10 : decode cX4_isOther 10 = .ok (.iconst 1, 1) := by decide +kernel
theorem dX4_isOther_11 : decode cX4_isOther 11 = .ok (.goto 4, 3) := by decide +kernel
theorem dX4_isOther_14 : decode cX4_isOther 14 = .ok (.iconst 0, 1) := by decide +kernel
theorem dX4_isOther_15 : decode cX4_isOther 15 = .ok (.ireturn, 1) := by decide +kernel
theorem dX4_long0_0 : decode cX4_long0 0 = .ok (.aload_n 0, 1) := by decide +kernel
theorem dX4_long0_1 : decode cX4_long0 1 = .ok (.getfield 13, 3) := by decide +kernel
theorem dX4_long0_4 : decode cX4_long0 4 = .ok (.aload_n 0, 1) := by decide +kernel
theorem dX4_long0_5 : decode cX4_long0 5 = .ok (.getfield 16, 3) := by decide +kernel
theorem dX4_long0_8 : decode cX4_long0 8 = .ok (.iload_n 1, 1) := by decide +kernel
theorem dX4_long0_9 : decode cX4_long0 9 = .ok (.iaload, 1) := by decide +kernel
theorem dX4_long0_10 : decode cX4_long0 10 = .ok (.iaload, 1) := by decide +kernel
theorem dX4_long0_11 : decode cX4_long0 11 = .ok (.ireturn, 1) := by decide +kernel
theorem dX4_isPart_0 : decode cX4_isPart 0 = .ok (.aload_n 0, 1) := by decide +kernel
theorem dX4_isPart_1 : decode cX4_isPart 1 = .ok (.iload_n 1, 1) := by decide +kernel
theorem dX4_isPart_2 : decode cX4_isPart 2 = .ok (.invokevirtual 41, 3) := by decide +kernel
theorem dX4_isPart_5 : decode cX4_isPart 5 = .ok (.ifCond .eq 26, 3) := by decide +kernel
theorem dX4_isPart_8 : decode cX4_isPart 8 = .ok (.iload_n 2, 1) := by decide +kernel
theorem dX4_isPart_9 : decode cX4_isPart 9 = .ok (.ifCond .lt 22, 3) := by decide +kernel
theorem dX4_isPart_12 : decode cX4_isPart 12 = .ok (.iload_n 3, 1) := by decide +kernel
theorem dX4_isPart_13 : decode cX4_isPart 13 = .ok (.ifCond .lt 18, 3) := by decide +kernel
theorem dX4_isPart_16 : decode cX4_isPart 16 = .ok (.iload_n 2, 1) := by decide +kernel
theorem dX4_isPart_17 : decode cX4_isPart 17 = .ok (.aload_n 0, 1) := by decide +kernel
theorem dX4_isPart_18 : decode cX4_isPart 18 = .ok (.iload_n 1, 1) := by decide +kernel
theorem dX4_isPart_19 : decode cX4_isPart 19 = .ok (.invokevirtual 45, 3) := by decide +kernel
theorem dX4_isPart_22 : decode cX4_isPart 22 = .ok (.iload_n 3, 1) := by decide +kernel
theorem dX4_isPart_23 : decode cX4_isPart 23 = .ok (.isub, 1) := by decide +kernel
theorem dX4_isPart_24 : decode cX4_isPart 24 = .ok (.if_icmp .gt 7, 3) := by decide +kernel
theorem dX4_isPart_27 : decode cX4_isPart 27 = .ok (.iconst 1, 1) := by decide +kernel
theorem dX4_isPart_28 : decode cX4_isPart 28 = .ok (.goto 4, 3) := by decide +kernel
theorem dX4_isPart_31 : decode cX4_isPart 31 = .ok (.iconst 0, 1) := by decide +kernel
theorem dX4_isPart_32 : decode cX4_isPart 32 = .ok (.ireturn, 1) := by decide +kernel
theorem dX4_free_0 : decode cX4_free 0 = .ok (.iconst 0, 1) := by decide +kernel
theorem dX4_free_1 : decode cX4_free 1 = .ok (.istore_n 1, 1) := by decide +kernel
theorem dX4_free_2 : decode cX4_free 2 = .ok (.iload_n 1, 1) := by decide +kernel
theorem dX4_free_3 : decode cX4_free 3 = .ok (.bipush 8, 2) := by decide +kernel
theorem dX4_free_5 : decode cX4_free 5 = .ok (.if_icmp .ge 79, 3) := by decide +kernel
theorem dX4_free_8 : decode cX4_free 8 = .ok (.iconst 1, 1) := by decide +kernel
theorem dX4_free_9 : decode cX4_free 9 = .ok (.istore_n 2, 1) := by decide +kernel
theorem dX4_free_10 : decode cX4_free 10 = .ok (.iconst 0, 1) := by decide +kernel
theorem dX4_free_11 : decode cX4_free 11 = .ok (.istore_n 3, 1) := by decide +kernel
theorem dX4_free_12 : decode cX4_free 12 = .ok (.iload_n 3, 1) := by decide +kernel
theorem dX4_free_13 : decode cX4_free 13 = .ok (.iconst 4, 1) := by decide +kernel
theorem dX4_free_14 : decode cX4_free 14 = .ok (.if_icmp .ge 27, 3) := by decide +kernel
theorem dX4_free_17 : decode cX4_free 17 = .ok (.iload_n 2, 1) := by decide +kernel
theorem dX4_free_18 : decode cX4_free 18 = .ok (.aload_n 0, 1) := by decide +kernel
theorem dX4_free_19 : decode cX4_free 19 = .ok (.getfield 16, 3) := by decide +kernel
theorem dX4_free_22 : decode cX4_free 22 = .ok (.iload_n 3, 1) := by decide +kernel
theorem dX4_free_23 : decode cX4_free 23 = .ok (.iaload, 1) := by decide +kernel
theorem dX4_free_24 : decode cX4_free 24 = .ok (.iload_n 1, 1) := by decide +kernel
theorem dX4_free_25 : decode cX4_free 25 = .ok (.if_icmp .eq 7, 3) := by decide +kernel
theorem dX4_free_28 : decode cX4_free 28 = .ok (.iconst 1, 1) := by decide +kernel
theorem dX4_free_29 : decode cX4_free 29 = .ok (.goto 4, 3) := by decide +kernel
theorem dX4_free_32 : decode cX4_free 32 = .ok (.iconst 0, 1) := by decide +kernel
theorem dX4_free_33 : decode cX4_free 33 = .ok (.iand, 1) := by decide +kernel
theorem dX4_free_34 : decode cX4_free 34 = .ok (.istore_n 2, 1) := by decide +kernel
theorem dX4_free_35 : decode cX4_free 35 = .ok (.iinc 3 1, 3) := by decide +kernel
theorem dX4_free_38 : decode cX4_free 38 = .ok (.goto (-26), 3) := by decide +kernel
theorem dX4_free_41 : decode cX4_free 41 = .ok (.iconst 0, 1) := by decide +kernel
theorem dX4_free_42 : decode cX4_free 42 = .ok (.istore_n 3, 1) := by decide +kernel
theorem dX4_free_43 : decode cX4_free 43 = .ok (.iload_n 3, 1) := by decide +kernel
theorem dX4_free_44 : decode cX4_free 44 = .ok (.iconst 3, 1) := by decide +kernel
theorem dX4_free_45 : decode cX4_free 45 = .ok (.if_icmp .ge 27, 3) := by decide +kernel
theorem dX4_free_48 : decode cX4_free 48 = .ok (.iload_n 2, 1) := by decide +kernel
theorem dX4_free_49 : decode cX4_free 49 = .ok (.aload_n 0, 1) := by decide +kernel
theorem dX4_free_50 : decode cX4_free 50 = .ok (.getfield 19, 3) := by decide +kernel
theorem dX4_free_53 : decode cX4_free 53 = .ok (.iload_n 3, 1) := by decide +kernel
theorem dX4_free_54 : decode cX4_free 54 = .ok (.iaload, 1) := by decide +kernel
theorem dX4_free_55 : decode cX4_free 55 = .ok (.iload_n 1, 1) := by decide +kernel
theorem dX4_free_56 : decode cX4_free 56 = .ok (.if_icmp .eq 7, 3) := by decide +kernel
theorem dX4_free_59 : decode cX4_free 59 = .ok (.iconst 1, 1) := by decide +kernel
theorem dX4_free_60 : decode cX4_free 60 = .ok (.goto 4, 3) := by decide +kernel
theorem dX4_free_63 : decode cX4_free 63 = .ok (.iconst 0, 1) := by decide +kernel
theorem dX4_free_64 : decode cX4_free 64 = .ok (.iand, 1) := by decide +kernel
theorem dX4_free_65 : decode cX4_free 65 = .ok (.istore_n 2, 1) := by decide +kernel
theorem dX4_free_66 : decode cX4_free 66 = .ok (.iinc 3 1, 3) := by decide +kernel
theorem dX4_free_69 : decode cX4_free 69 = .ok (.goto (-26), 3) := by decide +kernel
theorem dX4_free_72 : decode cX4_free 72 = .ok (.iload_n 2, 1) := by decide +kernel
theorem dX4_free_73 : decode cX4_free 73 = .ok (.ifCond .eq 5, 3) := by decide +kernel
theorem dX4_free_76 : decode cX4_free 76 = .ok (.iload_n 1, 1) := by decide +kernel
theorem dX4_free_77 : decode cX4_free 77 = .ok (.ireturn, 1) := by decide +kernel
theorem dX4_free_78 : decode cX4_free 78 = .ok (.iinc 1 1, 3) := by decide +kernel
theorem dX4_free_81 : decode cX4_free 81 = .ok (.goto (-79), 3) := by decide +kernel
theorem dX4_free_84 : decode cX4_free 84 = .ok (.iconst (-1), 1) := by decide +kernel
theorem dX4_free_85 : decode cX4_free 85 = .ok (.ireturn, 1) := by decide +kernel
theorem dX4_becomes_0 : decode cX4_becomes 0 = .ok (.aload_n 0, 1) := by decide +kernel
theorem dX4_becomes_1 : decode cX4_becomes 1 = .ok (.invokevirtual 49, 3) := by decide +kernel
theorem dX4_becomes_4 : decode cX4_becomes 4 = .ok (.istore_n 3, 1) := by decide +kernel
theorem dX4_becomes_5 : decode cX4_becomes 5 = .ok (.iconst 0, 1) := by decide +kernel
theorem dX4_becomes_6 : decode cX4_becomes 6 = .ok (.istore 4, 2) := by decide +kernel
theorem dX4_becomes_8 : decode cX4_becomes 8 = .ok (.iload 4, 2) := by decide +kernel
theorem dX4_becomes_10 : decode cX4_becomes 10 = .ok (.iload_n 2, 1) := by decide +kernel
theorem dX4_becomes_11 : decode cX4_becomes 11 = .ok (.if_icmp .ge 29, 3) := by decide +kernel
theorem dX4_becomes_14 : decode cX4_becomes 14 = .ok (.aload_n 0, 1) := by decide +kernel
theorem dX4_becomes_15 : decode cX4_becomes 15 = .ok (.getfield 7, 3) := by decide +kernel
theorem dX4_becomes_18 : decode cX4_becomes 18 = .ok (.sipush 256, 3) := by decide +kernel
theorem dX4_becomes_21 : decode cX4_becomes 21 = .ok (.iload_n 3, 1) := by decide +kernel
theorem dX4_becomes_22 : decode cX4_becomes 22 = .ok (.imul, 1) := by decide +kernel
theorem dX4_becomes_23 : decode cX4_becomes 23 = .ok (.iload 4, 2) := by decide +kernel
theorem dX4_becomes_25 : decode cX4_becomes 25 = .ok (.iadd, 1) := by decide +kernel
theorem dX4_becomes_26 : decode cX4_becomes 26 = .ok (.aload_n 0, 1) := by decide +kernel
theorem dX4_becomes_27 : decode cX4_becomes 27 = .ok (.getfield 34, 3) := by decide +kernel
theorem dX4_becomes_30 : decode cX4_becomes 30 = .ok (.iload 4, 2) := by decide +kernel
theorem dX4_becomes_32 : decode cX4_becomes 32 = .ok (.iaload, 1) := by decide +kernel
theorem dX4_becomes_33 : decode cX4_becomes 33 = .ok (.iastore, 1) := by decide +kernel
theorem dX4_becomes_34 : decode cX4_becomes 34 = .ok (.iinc 4 1, 3) := by decide +kernel
theorem dX4_becomes_37 : decode cX4_becomes 37 = .ok (.goto (-29), 3) := by decide +kernel
theorem dX4_becomes_40 : decode cX4_becomes 40 = .ok (.aload_n 0, 1) := by decide +kernel
theorem dX4_becomes_41 : decode cX4_becomes 41 = .ok (.getfield 13, 3) := by decide +kernel
theorem dX4_becomes_44 : decode cX4_becomes 44 = .ok (.iload_n 3, 1) := by decide +kernel
theorem dX4_becomes_45 : decode cX4_becomes 45 = .ok (.iload_n 2, 1) := by decide +kernel
theorem dX4_becomes_46 : decode cX4_becomes 46 = .ok (.iastore, 1) := by decide +kernel
theorem dX4_becomes_47 : decode cX4_becomes 47 = .ok (.aload_n 0, 1) := by decide +kernel
theorem dX4_becomes_48 : decode cX4_becomes 48 = .ok (.getfield 16, 3) := by decide +kernel
theorem dX4_becomes_51 : decode cX4_becomes 51 = .ok (.iload_n 1, 1) := by decide +kernel
theorem dX4_becomes_52 : decode cX4_becomes 52 = .ok (.iload_n 3, 1) := by decide +kernel
theorem dX4_becomes_53 : decode cX4_becomes 53 = .ok (.iastore, 1) := by decide +kernel
theorem dX4_becomes_54 : decode cX4_becomes 54 = .ok (.return_, 1) := by decide +kernel
theorem dX4_make_0 : decode cX4_make 0 = .ok (.aload_n 0, 1) := by decide +kernel
theorem dX4_make_1 : decode cX4_make 1 = .ok (.aload_n 0, 1) := by decide +kernel
theorem dX4_make_2 : decode cX4_make 2 = .ok (.iload_n 1, 1) := by decide +kernel
theorem dX4_make_3 : decode cX4_make 3 = .ok (.invokevirtual 41, 3) := by decide +kernel
theorem dX4_make_6 : decode cX4_make 6 = .ok (.ifCond .ne 7, 3) := by decide +kernel
theorem dX4_make_9 : decode cX4_make 9 = .ok (.iconst 1, 1) := by decide +kernel
theorem dX4_make_10 : decode cX4_make 10 = .ok (.goto 19, 3) := by decide +kernel
theorem dX4_make_13 : decode cX4_make 13 = .ok (.iload_n 2, 1) := by decide +kernel
theorem dX4_make_14 : decode cX4_make 14 = .ok (.ifCond .lt 10, 3) := by decide +kernel
theorem dX4_make_17 : decode cX4_make 17 = .ok (.iload_n 2, 1) := by decide +kernel
theorem dX4_make_18 : decode cX4_make 18 = .ok (.sipush 256, 3) := by decide +kernel
theorem dX4_make_21 : decode cX4_make 21 = .ok (.if_icmp .le 7, 3) := by decide +kernel
theorem dX4_make_24 : decode cX4_make 24 = .ok (.iconst 2, 1) := by decide +kernel
theorem dX4_make_25 : decode cX4_make 25 = .ok (.goto 4, 3) := by decide +kernel
theorem dX4_make_28 : decode cX4_make 28 = .ok (.iconst 0, 1) := by decide +kernel
theorem dX4_make_29 : decode cX4_make 29 = .ok (.invokevirtual 53, 3) := by decide +kernel
theorem dX4_make_32 : decode cX4_make 32 = .ok (.ifCond .eq 5, 3) := by decide +kernel
theorem dX4_make_35 : decode cX4_make 35 = .ok (.iconst 0, 1) := by decide +kernel
theorem dX4_make_36 : decode cX4_make 36 = .ok (.ireturn, 1) := by decide +kernel
theorem dX4_make_37 : decode cX4_make 37 = .ok (.aload_n 0, 1) := by decide +kernel
theorem dX4_make_38 : decode cX4_make 38 = .ok (.iload_n 1, 1) := by decide +kernel
theorem dX4_make_39 : decode cX4_make 39 = .ok (.invokevirtual 45, 3) := by decide +kernel
theorem dX4_make_42 : decode cX4_make 42 = .ok (.istore_n 3, 1) := by decide +kernel
theorem dX4_make_43 : decode cX4_make 43 = .ok (.iconst 0, 1) := by decide +kernel
theorem dX4_make_44 : decode cX4_make 44 = .ok (.istore 4, 2) := by decide +kernel
theorem dX4_make_46 : decode cX4_make 46 = .ok (.iload 4, 2) := by decide +kernel
theorem dX4_make_48 : decode cX4_make 48 = .ok (.iload_n 2, 1) := by decide +kernel
theorem dX4_make_49 : decode cX4_make 49 = .ok (.if_icmp .ge 17, 3) := by decide +kernel
theorem dX4_make_52 : decode cX4_make 52 = .ok (.aload_n 0, 1) := by decide +kernel
theorem dX4_make_53 : decode cX4_make 53 = .ok (.getfield 34, 3) := by decide +kernel
theorem dX4_make_56 : decode cX4_make 56 = .ok (.iload 4, 2) := by decide +kernel
theorem dX4_make_58 : decode cX4_make 58 = .ok (.iconst 0, 1) := by decide +kernel
theorem dX4_make_59 : decode cX4_make 59 = .ok (.iastore, 1) := by decide +kernel
theorem dX4_make_60 : decode cX4_make 60 = .ok (.iinc 4 1, 3) := by decide +kernel
theorem dX4_make_63 : decode cX4_make 63 = .ok (.goto (-17), 3) := by decide +kernel
theorem dX4_make_66 : decode cX4_make 66 = .ok (.aload_n 0, 1) := by decide +kernel
theorem dX4_make_67 : decode cX4_make 67 = .ok (.iload_n 1, 1) := by decide +kernel
theorem dX4_make_68 : decode cX4_make 68 = .ok (.iload_n 2, 1) := by decide +kernel
theorem dX4_make_69 : decode cX4_make 69 = .ok (.invokevirtual 56, 3) := by decide +kernel
theorem dX4_make_72 : decode cX4_make 72 = .ok (.iload_n 3, 1) := by decide +kernel
theorem dX4_make_73 : decode cX4_make 73 = .ok (.ireturn, 1) := by decide +kernel
theorem dX4_lend_0 : decode cX4_lend 0 = .ok (.aload_n 0, 1) := by decide +kernel
theorem dX4_lend_1 : decode cX4_lend 1 = .ok (.aload_n 0, 1) := by decide +kernel
theorem dX4_lend_2 : decode cX4_lend 2 = .ok (.iload_n 1, 1) := by decide +kernel
theorem dX4_lend_3 : decode cX4_lend 3 = .ok (.invokevirtual 41, 3) := by decide +kernel
theorem dX4_lend_6 : decode cX4_lend 6 = .ok (.ifCond .eq 15, 3) := by decide +kernel
theorem dX4_lend_9 : decode cX4_lend 9 = .ok (.aload_n 0, 1) := by decide +kernel
theorem dX4_lend_10 : decode cX4_lend 10 = .ok (.iload_n 2, 1) := by decide +kernel
theorem dX4_lend_11 : decode cX4_lend 11 = .ok (.invokevirtual 41, 3) := by decide +kernel
theorem dX4_lend_14 : decode cX4_lend 14 = .ok (.ifCond .eq 7, 3) := by decide +kernel
theorem dX4_lend_17 : decode cX4_lend 17 = .ok (.iconst 0, 1) := by decide +kernel
theorem dX4_lend_18 : decode cX4_lend 18 = .ok (.goto 4, 3) := by decide +kernel
theorem dX4_lend_21 : decode cX4_lend 21 = .ok (.iconst 1, 1) := by decide +kernel
theorem dX4_lend_22 : decode cX4_lend 22 = .ok (.invokevirtual 53, 3) := by decide +kernel
theorem dX4_lend_25 : decode cX4_lend 25 = .ok (.ifCond .eq 5, 3) := by decide +kernel
theorem dX4_lend_28 : decode cX4_lend 28 = .ok (.iconst 0, 1) := by decide +kernel
theorem dX4_lend_29 : decode cX4_lend 29 = .ok (.ireturn, 1) := by decide +kernel
theorem dX4_lend_30 : decode cX4_lend 30 = .ok (.aload_n 0, 1) := by decide +kernel
theorem dX4_lend_31 : decode cX4_lend 31 = .ok (.iload_n 2, 1) := by decide +kernel
theorem dX4_lend_32 : decode cX4_lend 32 = .ok (.invokevirtual 45, 3) := by decide +kernel
theorem dX4_lend_35 : decode cX4_lend 35 = .ok (.istore_n 3, 1) := by decide +kernel
theorem dX4_lend_36 : decode cX4_lend 36 = .ok (.aload_n 0, 1) := by decide +kernel
theorem dX4_lend_37 : decode cX4_lend 37 = .ok (.getfield 16, 3) := by decide +kernel
theorem dX4_lend_40 : decode cX4_lend 40 = .ok (.iload_n 2, 1) := by decide +kernel
theorem dX4_lend_41 : decode cX4_lend 41 = .ok (.aload_n 0, 1) := by decide +kernel
theorem dX4_lend_42 : decode cX4_lend 42 = .ok (.getfield 16, 3) := by decide +kernel
theorem dX4_lend_45 : decode cX4_lend 45 = .ok (.iload_n 1, 1) := by decide +kernel
theorem dX4_lend_46 : decode cX4_lend 46 = .ok (.iaload, 1) := by decide +kernel
theorem dX4_lend_47 : decode cX4_lend 47 = .ok (.iastore, 1) := by decide +kernel
theorem dX4_lend_48 : decode cX4_lend 48 = .ok (.iload_n 3, 1) := by decide +kernel
theorem dX4_lend_49 : decode cX4_lend 49 = .ok (.ireturn, 1) := by decide +kernel
theorem dX4_length_0 : decode cX4_length 0 = .ok (.aload_n 0, 1) := by decide +kernel
theorem dX4_length_1 : decode cX4_length 1 = .ok (.aload_n 0, 1) := by decide +kernel
theorem dX4_length_2 : decode cX4_length 2 = .ok (.iload_n 1, 1) := by decide +kernel
theorem dX4_length_3 : decode cX4_length 3 = .ok (.invokevirtual 41, 3) := by decide +kernel
theorem dX4_length_6 : decode cX4_length 6 = .ok (.ifCond .eq 7, 3) := by decide +kernel
theorem dX4_length_9 : decode cX4_length 9 = .ok (.iconst 0, 1) := by decide +kernel
theorem dX4_length_10 : decode cX4_length 10 = .ok (.goto 4, 3) := by decide +kernel
theorem dX4_length_13 : decode cX4_length 13 = .ok (.iconst 1, 1) := by decide +kernel
theorem dX4_length_14 : decode cX4_length 14 = .ok (.invokevirtual 53, 3) := by decide +kernel
theorem dX4_length_17 : decode cX4_length 17 = .ok (.ifCond .eq 7, 3) := by decide +kernel
theorem dX4_length_20 : decode cX4_length 20 = .ok (.iconst 0, 1) := by decide +kernel
theorem dX4_length_21 : decode cX4_length 21 = .ok (.goto 8, 3) := by decide +kernel
theorem dX4_length_24 : decode cX4_length 24 = .ok (.aload_n 0, 1) := by decide +kernel
theorem dX4_length_25 : decode cX4_length 25 = .ok (.iload_n 1, 1) := by decide +kernel
theorem dX4_length_26 : decode cX4_length 26 = .ok (.invokevirtual 45, 3) := by decide +kernel
theorem dX4_length_29 : decode cX4_length 29 = .ok (.ireturn, 1) := by decide +kernel
theorem dX4_get_0 : decode cX4_get 0 = .ok (.aload_n 0, 1) := by decide +kernel
theorem dX4_get_1 : decode cX4_get 1 = .ok (.aload_n 0, 1) := by decide +kernel
theorem dX4_get_2 : decode cX4_get 2 = .ok (.iload_n 1, 1) := by decide +kernel
theorem dX4_get_3 : decode cX4_get 3 = .ok (.iload_n 2, 1) := by decide +kernel
theorem dX4_get_4 : decode cX4_get 4 = .ok (.iconst 1, 1) := by decide +kernel
theorem dX4_get_5 : decode cX4_get 5 = .ok (.invokevirtual 60, 3) := by decide +kernel
theorem dX4_get_8 : decode cX4_get 8 = .ok (.ifCond .eq 7, 3) := by decide +kernel
theorem dX4_get_11 : decode cX4_get 11 = .ok (.iconst 0, 1) := by decide +kernel
theorem dX4_get_12 : decode cX4_get 12 = .ok (.goto 4, 3) := by decide +kernel
theorem dX4_get_15 : decode cX4_get 15 = .ok (.iconst 1, 1) := by decide +kernel
theorem dX4_get_16 : decode cX4_get 16 = .ok (.invokevirtual 53, 3) := by decide +kernel
theorem dX4_get_19 : decode cX4_get 19 = .ok (.ifCond .eq 7, 3) := by decide +kernel
theorem dX4_get_22 : decode cX4_get 22 = .ok (.iconst 0, 1) := by decide +kernel
theorem dX4_get_23 : decode cX4_get 23 = .ok (.goto 20, 3) := by decide +kernel
theorem dX4_get_26 : decode cX4_get 26 = .ok (.aload_n 0, 1) := by decide +kernel
theorem dX4_get_27 : decode cX4_get 27 = .ok (.getfield 7, 3) := by decide +kernel
theorem dX4_get_30 : decode cX4_get 30 = .ok (.sipush 256, 3) := by decide +kernel
theorem dX4_get_33 : decode cX4_get 33 = .ok (.aload_n 0, 1) := by decide +kernel
theorem dX4_get_34 : decode cX4_get 34 = .ok (.getfield 16, 3) := by decide +kernel
theorem dX4_get_37 : decode cX4_get 37 = .ok (.iload_n 1, 1) := by decide +kernel
theorem dX4_get_38 : decode cX4_get 38 = .ok (.iaload, 1) := by decide +kernel
theorem dX4_get_39 : decode cX4_get 39 = .ok (.imul, 1) := by decide +kernel
theorem dX4_get_40 : decode cX4_get 40 = .ok (.iload_n 2, 1) := by decide +kernel
theorem dX4_get_41 : decode cX4_get 41 = .ok (.iadd, 1) := by decide +kernel
theorem dX4_get_42 : decode cX4_get 42 = .ok (.iaload, 1) := by decide +kernel
theorem dX4_get_43 : decode cX4_get 43 = .ok (.ireturn, 1) := by decide +kernel
theorem dX4_put_0 : decode cX4_put 0 = .ok (.aload_n 0, 1) := by decide +kernel
theorem dX4_put_1 : decode cX4_put 1 = .ok (.aload_n 0, 1) := by decide +kernel
theorem dX4_put_2 : decode cX4_put 2 = .ok (.iload_n 1, 1) := by decide +kernel
theorem dX4_put_3 : decode cX4_put 3 = .ok (.iload_n 2, 1) := by decide +kernel
theorem dX4_put_4 : decode cX4_put 4 = .ok (.iconst 1, 1) := by decide +kernel
theorem dX4_put_5 : decode cX4_put 5 = .ok (.invokevirtual 60, 3) := by decide +kernel
theorem dX4_put_8 : decode cX4_put 8 = .ok (.ifCond .eq 7, 3) := by decide +kernel
theorem dX4_put_11 : decode cX4_put 11 = .ok (.iconst 0, 1) := by decide +kernel
theorem dX4_put_12 : decode cX4_put 12 = .ok (.goto 4, 3) := by decide +kernel
theorem dX4_put_15 : decode cX4_put 15 = .ok (.iconst 1, 1) := by decide +kernel
theorem dX4_put_16 : decode cX4_put 16 = .ok (.invokevirtual 53, 3) := by decide +kernel
theorem dX4_put_19 : decode cX4_put 19 = .ok (.ifCond .eq 5, 3) := by decide +kernel
theorem dX4_put_22 : decode cX4_put 22 = .ok (.iconst 0, 1) := by decide +kernel
theorem dX4_put_23 : decode cX4_put 23 = .ok (.ireturn, 1) := by decide +kernel
theorem dX4_put_24 : decode cX4_put 24 = .ok (.sipush 256, 3) := by decide +kernel
theorem dX4_put_27 : decode cX4_put 27 = .ok (.aload_n 0, 1) := by decide +kernel
theorem dX4_put_28 : decode cX4_put 28 = .ok (.getfield 16, 3) := by decide +kernel
theorem dX4_put_31 : decode cX4_put 31 = .ok (.iload_n 1, 1) := by decide +kernel
theorem dX4_put_32 : decode cX4_put 32 = .ok (.iaload, 1) := by decide +kernel
theorem dX4_put_33 : decode cX4_put 33 = .ok (.imul, 1) := by decide +kernel
theorem dX4_put_34 : decode cX4_put 34 = .ok (.iload_n 2, 1) := by decide +kernel
theorem dX4_put_35 : decode cX4_put 35 = .ok (.iadd, 1) := by decide +kernel
theorem dX4_put_36 : decode cX4_put 36 = .ok (.istore 4, 2) := by decide +kernel
theorem dX4_put_38 : decode cX4_put 38 = .ok (.aload_n 0, 1) := by decide +kernel
theorem dX4_put_39 : decode cX4_put 39 = .ok (.getfield 7, 3) := by decide +kernel
theorem dX4_put_42 : decode cX4_put 42 = .ok (.iload 4, 2) := by decide +kernel
theorem dX4_put_44 : decode cX4_put 44 = .ok (.iaload, 1) := by decide +kernel
theorem dX4_put_45 : decode cX4_put 45 = .ok (.istore 5, 2) := by decide +kernel
theorem dX4_put_47 : decode cX4_put 47 = .ok (.aload_n 0, 1) := by decide +kernel
theorem dX4_put_48 : decode cX4_put 48 = .ok (.getfield 7, 3) := by decide +kernel
theorem dX4_put_51 : decode cX4_put 51 = .ok (.iload 4, 2) := by decide +kernel
theorem dX4_put_53 : decode cX4_put 53 = .ok (.aload_n 0, 1) := by decide +kernel
theorem dX4_put_54 : decode cX4_put 54 = .ok (.iload_n 3, 1) := by decide +kernel
theorem dX4_put_55 : decode cX4_put 55 = .ok (.invokevirtual 64, 3) := by decide +kernel
theorem dX4_put_58 : decode cX4_put 58 = .ok (.iastore, 1) := by decide +kernel
theorem dX4_put_59 : decode cX4_put 59 = .ok (.iload 5, 2) := by decide +kernel
theorem dX4_put_61 : decode cX4_put 61 = .ok (.ireturn, 1) := by decide +kernel
theorem dX4_fill_0 : decode cX4_fill 0 = .ok (.aload_n 0, 1) := by decide +kernel
theorem dX4_fill_1 : decode cX4_fill 1 = .ok (.aload_n 0, 1) := by decide +kernel
theorem dX4_fill_2 : decode cX4_fill 2 = .ok (.iload_n 1, 1) := by decide +kernel
theorem dX4_fill_3 : decode cX4_fill 3 = .ok (.iload_n 2, 1) := by decide +kernel
theorem dX4_fill_4 : decode cX4_fill 4 = .ok (.iload_n 3, 1) := by decide +kernel
theorem dX4_fill_5 : decode cX4_fill 5 = .ok (.invokevirtual 60, 3) := by decide +kernel
theorem dX4_fill_8 : decode cX4_fill 8 = .ok (.ifCond .eq 7, 3) := by decide +kernel
theorem dX4_fill_11 : decode cX4_fill 11 = .ok (.iconst 0, 1) := by decide +kernel
theorem dX4_fill_12 : decode cX4_fill 12 = .ok (.goto 4, 3) := by decide +kernel
theorem dX4_fill_15 : decode cX4_fill 15 = .ok (.iconst 1, 1) := by decide +kernel
theorem dX4_fill_16 : decode cX4_fill 16 = .ok (.invokevirtual 53, 3) := by decide +kernel
theorem dX4_fill_19 : decode cX4_fill 19 = .ok (.ifCond .eq 5, 3) := by decide +kernel
theorem dX4_fill_22 : decode cX4_fill 22 = .ok (.iconst 0, 1) := by decide +kernel
theorem dX4_fill_23 : decode cX4_fill 23 = .ok (.ireturn, 1) := by decide +kernel
theorem dX4_fill_24 : decode cX4_fill 24 = .ok (.iconst 0, 1) := by decide +kernel
theorem dX4_fill_25 : decode cX4_fill 25 = .ok (.istore 6, 2) := by decide +kernel
theorem dX4_fill_27 : decode cX4_fill 27 = .ok (.iconst 0, 1) := by decide +kernel
theorem dX4_fill_28 : decode cX4_fill 28 = .ok (.istore 7, 2) := by decide +kernel
theorem dX4_fill_30 : decode cX4_fill 30 = .ok (.iload 7, 2) := by decide +kernel
theorem dX4_fill_32 : decode cX4_fill 32 = .ok (.iload_n 3, 1) := by decide +kernel
theorem dX4_fill_33 : decode cX4_fill 33 = .ok (.if_icmp .ge 57, 3) := by decide +kernel
theorem dX4_fill_36 : decode cX4_fill 36 = .ok (.sipush 256, 3) := by decide +kernel
theorem dX4_fill_39 : decode cX4_fill 39 = .ok (.aload_n 0, 1) := by decide +kernel
theorem dX4_fill_40 : decode cX4_fill 40 = .ok (.getfield 16, 3) := by decide +kernel
theorem dX4_fill_43 : decode cX4_fill 43 = .ok (.iload_n 1, 1) := by decide +kernel
theorem dX4_fill_44 : decode cX4_fill 44 = .ok (.iaload, 1) := by decide +kernel
theorem dX4_fill_45 : decode cX4_fill 45 = .ok (.imul, 1) := by decide +kernel
theorem dX4_fill_46 : decode cX4_fill 46 = .ok (.iload_n 2, 1) := by decide +kernel
theorem dX4_fill_47 : decode cX4_fill 47 = .ok (.iadd, 1) := by decide +kernel
theorem dX4_fill_48 : decode cX4_fill 48 = .ok (.iload 7, 2) := by decide +kernel
theorem dX4_fill_50 : decode cX4_fill 50 = .ok (.iadd, 1) := by decide +kernel
theorem dX4_fill_51 : decode cX4_fill 51 = .ok (.istore 8, 2) := by decide +kernel
theorem dX4_fill_53 : decode cX4_fill 53 = .ok (.iload 6, 2) := by decide +kernel
theorem dX4_fill_55 : decode cX4_fill 55 = .ok (.aload_n 0, 1) := by decide +kernel
theorem dX4_fill_56 : decode cX4_fill 56 = .ok (.getfield 7, 3) := by decide +kernel
theorem dX4_fill_59 : decode cX4_fill 59 = .ok (.iload 8, 2) := by decide +kernel
theorem dX4_fill_61 : decode cX4_fill 61 = .ok (.iaload, 1) := by decide +kernel
theorem dX4_fill_62 : decode cX4_fill 62 = .ok (.iadd, 1) := by decide +kernel
theorem dX4_fill_63 : decode cX4_fill 63 = .ok (.istore 6, 2) := by decide +kernel
theorem dX4_fill_65 : decode cX4_fill 65 = .ok (.aload_n 0, 1) := by decide +kernel
theorem dX4_fill_66 : decode cX4_fill 66 = .ok (.getfield 7, 3) := by decide +kernel
theorem dX4_fill_69 : decode cX4_fill 69 = .ok (.iload 8, 2) := by decide +kernel
theorem dX4_fill_71 : decode cX4_fill 71 = .ok (.aload_n 0, 1) := by decide +kernel
theorem dX4_fill_72 : decode cX4_fill 72 = .ok (.iload 4, 2) := by decide +kernel
theorem dX4_fill_74 : decode cX4_fill 74 = .ok (.iload 7, 2) := by decide +kernel
theorem dX4_fill_76 : decode cX4_fill 76 = .ok (.iload 5, 2) := by decide +kernel
theorem dX4_fill_78 : decode cX4_fill 78 = .ok (.imul, 1) := by decide +kernel
theorem dX4_fill_79 : decode cX4_fill 79 = .ok (.iadd, 1) := by decide +kernel
theorem dX4_fill_80 : decode cX4_fill 80 = .ok (.invokevirtual 64, 3) := by decide +kernel
theorem dX4_fill_83 : decode cX4_fill 83 = .ok (.iastore, 1) := by decide +kernel
theorem dX4_fill_84 : decode cX4_fill 84 = .ok (.iinc 7 1, 3) := by decide +kernel
theorem dX4_fill_87 : decode cX4_fill 87 = .ok (.goto (-57), 3) := by decide +kernel
theorem dX4_fill_90 : decode cX4_fill 90 = .ok (.iload 6, 2) := by decide +kernel
theorem dX4_fill_92 : decode cX4_fill 92 = .ok (.ireturn, 1) := by decide +kernel
theorem dX4_isLike_0 : decode cX4_isLike 0 = .ok (.aload_n 0, 1) := by decide +kernel
theorem dX4_isLike_1 : decode cX4_isLike 1 = .ok (.aload_n 0, 1) := by decide +kernel
theorem dX4_isLike_2 : decode cX4_isLike 2 = .ok (.iload_n 1, 1) := by decide +kernel
theorem dX4_isLike_3 : decode cX4_isLike 3 = .ok (.invokevirtual 41, 3) := by decide +kernel
theorem dX4_isLike_6 : decode cX4_isLike 6 = .ok (.ifCond .eq 15, 3) := by decide +kernel
theorem dX4_isLike_9 : decode cX4_isLike 9 = .ok (.aload_n 0, 1) := by decide +kernel
theorem dX4_isLike_10 : decode cX4_isLike 10 = .ok (.iload_n 2, 1) := by decide +kernel
theorem dX4_isLike_11 : decode cX4_isLike 11 = .ok (.invokevirtual 41, 3) := by decide +kernel
theorem dX4_isLike_14 : decode cX4_isLike 14 = .ok (.ifCond .eq 7, 3) := by decide +kernel
theorem dX4_isLike_17 : decode cX4_isLike 17 = .ok (.iconst 0, 1) := by decide +kernel
theorem dX4_isLike_18 : decode cX4_isLike 18 = .ok (.goto 4, 3) := by decide +kernel
theorem dX4_isLike_21 : decode cX4_isLike 21 = .ok (.iconst 1, 1) := by decide +kernel
theorem dX4_isLike_22 : decode cX4_isLike 22 = .ok (.invokevirtual 53, 3) := by decide +kernel
theorem dX4_isLike_25 : decode cX4_isLike 25 = .ok (.ifCond .eq 5, 3) := by decide +kernel
theorem dX4_isLike_28 : decode cX4_isLike 28 = .ok (.iconst 0, 1) := by decide +kernel
theorem dX4_isLike_29 : decode cX4_isLike 29 = .ok (.ireturn, 1) := by decide +kernel
theorem dX4_isLike_30 : decode cX4_isLike 30 = .ok (.aload_n 0, 1) := by decide +kernel
theorem dX4_isLike_31 : decode cX4_isLike 31 = .ok (.iload_n 1, 1) := by decide +kernel
theorem dX4_isLike_32 : decode cX4_isLike 32 = .ok (.invokevirtual 45, 3) := by decide +kernel
theorem dX4_isLike_35 : decode cX4_isLike 35 = .ok (.aload_n 0, 1) := by decide +kernel
theorem dX4_isLike_36 : decode cX4_isLike 36 = .ok (.iload_n 2, 1) := by decide +kernel
theorem dX4_isLike_37 : decode cX4_isLike 37 = .ok (.invokevirtual 45, 3) := by decide +kernel
theorem dX4_isLike_40 : decode cX4_isLike 40 = .ok (.if_icmp .ne 7, 3) := by decide +kernel
theorem dX4_isLike_43 : decode cX4_isLike 43 = .ok (.iconst 1, 1) := by decide +kernel
theorem dX4_isLike_44 : decode cX4_isLike 44 = .ok (.goto 4, 3) := by decide +kernel
theorem dX4_isLike_47 : decode cX4_isLike 47 = .ok (.iconst 0, 1) := by decide +kernel
theorem dX4_isLike_48 : decode cX4_isLike 48 = .ok (.istore_n 3, 1) := by decide +kernel
theorem dX4_isLike_49 : decode cX4_isLike 49 = .ok (.iconst 0, 1) := by decide +kernel
theorem dX4_isLike_50 : decode cX4_isLike 50 = .ok (.istore 4, 2) := by decide +kernel
theorem dX4_isLike_52 : decode cX4_isLike 52 = .ok (.iload_n 3, 1) := by decide +kernel
theorem dX4_isLike_53 : decode cX4_isLike 53 = .ok (.ifCond .eq 64, 3) := by decide +kernel
theorem dX4_isLike_56 : decode cX4_isLike 56 = .ok (.iload 4, 2) := by decide +kernel
theorem dX4_isLike_58 : decode cX4_isLike 58 = .ok (.aload_n 0, 1) := by decide +kernel
theorem dX4_isLike_59 : decode cX4_isLike 59 = .ok (.iload_n 1, 1) := by decide +kernel
theorem dX4_isLike_60 : decode cX4_isLike 60 = .ok (.invokevirtual 45, 3) := by decide +kernel
theorem dX4_isLike_63 : decode cX4_isLike 63 = .ok (.if_icmp .ge 54, 3) := by decide +kernel
theorem dX4_isLike_66 : decode cX4_isLike 66 = .ok (.aload_n 0, 1) := by decide +kernel
theorem dX4_isLike_67 : decode cX4_isLike 67 = .ok (.getfield 7, 3) := by decide +kernel
theorem dX4_isLike_70 : decode cX4_isLike 70 = .ok (.sipush 256, 3) := by decide +kernel
theorem dX4_isLike_73 : decode cX4_isLike 73 = .ok (.aload_n 0, 1) := by decide +kernel
theorem dX4_isLike_74 : decode cX4_isLike 74 = .ok (.getfield 16, 3) := by decide +kernel
theorem dX4_isLike_77 : decode cX4_isLike 77 = .ok (.iload_n 1, 1) := by decide +kernel
theorem dX4_isLike_78 : decode cX4_isLike 78 = .ok (.iaload, 1) := by decide +kernel
theorem dX4_isLike_79 : decode cX4_isLike 79 = .ok (.imul, 1) := by decide +kernel
theorem dX4_isLike_80 : decode cX4_isLike 80 = .ok (.iload 4, 2) := by decide +kernel
theorem dX4_isLike_82 : decode cX4_isLike 82 = .ok (.iadd, 1) := by decide +kernel
theorem dX4_isLike_83 : decode cX4_isLike 83 = .ok (.iaload, 1) := by decide +kernel
theorem dX4_isLike_84 : decode cX4_isLike 84 = .ok (.aload_n 0, 1) := by decide +kernel
theorem dX4_isLike_85 : decode cX4_isLike 85 = .ok (.getfield 7, 3) := by decide +kernel
theorem dX4_isLike_88 : decode cX4_isLike 88 = .ok (.sipush 256, 3) := by decide +kernel
theorem dX4_isLike_91 : decode cX4_isLike 91 = .ok (.aload_n 0, 1) := by decide +kernel
theorem dX4_isLike_92 : decode cX4_isLike 92 = .ok (.getfield 16, 3) := by decide +kernel
theorem dX4_isLike_95 : decode cX4_isLike 95 = .ok (.iload_n 2, 1) := by decide +kernel
theorem dX4_isLike_96 : decode cX4_isLike 96 = .ok (.iaload, 1) := by decide +kernel
theorem dX4_isLike_97 : decode cX4_isLike 97 = .ok (.imul, 1) := by decide +kernel
theorem dX4_isLike_98 : decode cX4_isLike 98 = .ok (.iload 4, 2) := by decide +kernel
theorem dX4_isLike_100 : decode cX4_isLike 100 = .ok (.iadd, 1) := by decide +kernel
theorem dX4_isLike_101 : decode cX4_isLike 101 = .ok (.iaload, 1) := by decide +kernel
theorem dX4_isLike_102 : decode cX4_isLike 102 = .ok (.if_icmp .ne 7, 3) := by decide +kernel
theorem dX4_isLike_105 : decode cX4_isLike 105 = .ok (.iconst 1, 1) := by decide +kernel
theorem dX4_isLike_106 : decode cX4_isLike 106 = .ok (.goto 4, 3) := by decide +kernel
theorem dX4_isLike_109 : decode cX4_isLike 109 = .ok (.iconst 0, 1) := by decide +kernel
theorem dX4_isLike_110 : decode cX4_isLike 110 = .ok (.istore_n 3, 1) := by decide +kernel
theorem dX4_isLike_111 : decode cX4_isLike 111 = .ok (.iinc 4 1, 3) := by decide +kernel
theorem dX4_isLike_114 : decode cX4_isLike 114 = .ok (.goto (-62), 3) := by decide +kernel
theorem dX4_isLike_117 : decode cX4_isLike 117 = .ok (.iload_n 3, 1) := by decide +kernel
theorem dX4_isLike_118 : decode cX4_isLike 118 = .ok (.ireturn, 1) := by decide +kernel
theorem dX4_isFull_0 : decode cX4_isFull 0 = .ok (.aload_n 0, 1) := by decide +kernel
theorem dX4_isFull_1 : decode cX4_isFull 1 = .ok (.getfield 31, 3) := by decide +kernel
theorem dX4_isFull_4 : decode cX4_isFull 4 = .ok (.iload_n 1, 1) := by decide +kernel
theorem dX4_isFull_5 : decode cX4_isFull 5 = .ok (.iaload, 1) := by decide +kernel
theorem dX4_isFull_6 : decode cX4_isFull 6 = .ok (.iload_n 2, 1) := by decide +kernel
theorem dX4_isFull_7 : decode cX4_isFull 7 = .ok (.iadd, 1) := by decide +kernel
theorem dX4_isFull_8 : decode cX4_isFull 8 = .ok (.sipush 256, 3) := by decide +kernel
theorem dX4_isFull_11 : decode cX4_isFull 11 = .ok (.if_icmp .le 7, 3) := by decide +kernel
theorem dX4_isFull_14 : decode cX4_isFull 14 = .ok (.iconst 1, 1) := by decide +kernel
theorem dX4_isFull_15 : decode cX4_isFull 15 = .ok (.goto 4, 3) := by decide +kernel
theorem dX4_isFull_18 : decode cX4_isFull 18 = .ok (.iconst 0, 1) := by decide +kernel
theorem dX4_isFull_19 : decode cX4_isFull 19 = .ok (.ireturn, 1) := by decide +kernel
theorem dX4_adds_0 : decode cX4_adds 0 = .ok (.aload_n 0, 1) := by decide +kernel
theorem dX4_adds_1 : decode cX4_adds 1 = .ok (.getfield 28, 3) := by decide +kernel
theorem dX4_adds_4 : decode cX4_adds 4 = .ok (.sipush 256, 3) := by decide +kernel
theorem dX4_adds_7 : decode cX4_adds 7 = .ok (.iload_n 1, 1) := by decide +kernel
theorem dX4_adds_8 : decode cX4_adds 8 = .ok (.imul, 1) := by decide +kernel
theorem dX4_adds_9 : decode cX4_adds 9 = .ok (.aload_n 0, 1) := by decide +kernel
theorem dX4_adds_10 : decode cX4_adds 10 = .ok (.getfield 31, 3) := by decide +kernel
theorem dX4_adds_13 : decode cX4_adds 13 = .ok (.iload_n 1, 1) := by decide +kernel
theorem dX4_adds_14 : decode cX4_adds 14 = .ok (.iaload, 1) := by decide +kernel
theorem dX4_adds_15 : decode cX4_adds 15 = .ok (.iadd, 1) := by decide +kernel
theorem dX4_adds_16 : decode cX4_adds 16 = .ok (.aload_n 0, 1) := by decide +kernel
theorem dX4_adds_17 : decode cX4_adds 17 = .ok (.iload_n 2, 1) := by decide +kernel
theorem dX4_adds_18 : decode cX4_adds 18 = .ok (.invokevirtual 64, 3) := by decide +kernel
theorem dX4_adds_21 : decode cX4_adds 21 = .ok (.iastore, 1) := by decide +kernel
theorem dX4_adds_22 : decode cX4_adds 22 = .ok (.aload_n 0, 1) := by decide +kernel
theorem dX4_adds_23 : decode cX4_adds 23 = .ok (.getfield 31, 3) := by decide +kernel
theorem dX4_adds_26 : decode cX4_adds 26 = .ok (.iload_n 1, 1) := by decide +kernel
theorem dX4_adds_27 : decode cX4_adds 27 = .ok (.dup2, 1) := by decide +kernel
theorem dX4_adds_28 : decode cX4_adds 28 = .ok (.iaload, 1) := by decide +kernel
theorem dX4_adds_29 : decode cX4_adds 29 = .ok (.iconst 1, 1) := by decide +kernel
theorem dX4_adds_30 : decode cX4_adds 30 = .ok (.iadd, 1) := by decide +kernel
theorem dX4_adds_31 : decode cX4_adds 31 = .ok (.iastore, 1) := by decide +kernel
theorem dX4_adds_32 : decode cX4_adds 32 = .ok (.return_, 1) := by decide +kernel
theorem dX4_write_0 : decode cX4_write 0 = .ok (.aload_n 0, 1) := by decide +kernel
theorem dX4_write_1 : decode cX4_write 1 = .ok (.aload_n 0, 1) := by decide +kernel
theorem dX4_write_2 : decode cX4_write 2 = .ok (.iload_n 1, 1) := by decide +kernel
theorem dX4_write_3 : decode cX4_write 3 = .ok (.invokevirtual 67, 3) := by decide +kernel
theorem dX4_write_6 : decode cX4_write 6 = .ok (.ifCond .ne 7, 3) := by decide +kernel
theorem dX4_write_9 : decode cX4_write 9 = .ok (.iconst 1, 1) := by decide +kernel
theorem dX4_write_10 : decode cX4_write 10 = .ok (.goto 17, 3) := by decide +kernel
theorem dX4_write_13 : decode cX4_write 13 = .ok (.aload_n 0, 1) := by decide +kernel
theorem dX4_write_14 : decode cX4_write 14 = .ok (.iload_n 1, 1) := by decide +kernel
theorem dX4_write_15 : decode cX4_write 15 = .ok (.iconst 1, 1) := by decide +kernel
theorem dX4_write_16 : decode cX4_write 16 = .ok (.invokevirtual 70, 3) := by decide +kernel
theorem dX4_write_19 : decode cX4_write 19 = .ok (.ifCond .eq 7, 3) := by decide +kernel
theorem dX4_write_22 : decode cX4_write 22 = .ok (.iconst 2, 1) := by decide +kernel
theorem dX4_write_23 : decode cX4_write 23 = .ok (.goto 4, 3) := by decide +kernel
theorem dX4_write_26 : decode cX4_write 26 = .ok (.iconst 0, 1) := by decide +kernel
theorem dX4_write_27 : decode cX4_write 27 = .ok (.invokevirtual 53, 3) := by decide +kernel
theorem dX4_write_30 : decode cX4_write 30 = .ok (.ifCond .eq 5, 3) := by decide +kernel
theorem dX4_write_33 : decode cX4_write 33 = .ok (.iconst 0, 1) := by decide +kernel
theorem dX4_write_34 : decode cX4_write 34 = .ok (.ireturn, 1) := by decide +kernel
theorem dX4_write_35 : decode cX4_write 35 = .ok (.aload_n 0, 1) := by decide +kernel
theorem dX4_write_36 : decode cX4_write 36 = .ok (.iload_n 1, 1) := by decide +kernel
theorem dX4_write_37 : decode cX4_write 37 = .ok (.iload_n 2, 1) := by decide +kernel
theorem dX4_write_38 : decode cX4_write 38 = .ok (.invokevirtual 74, 3) := by decide +kernel
theorem dX4_write_41 : decode cX4_write 41 = .ok (.aload_n 0, 1) := by decide +kernel
theorem dX4_write_42 : decode cX4_write 42 = .ok (.getfield 31, 3) := by decide +kernel
theorem dX4_write_45 : decode cX4_write 45 = .ok (.iload_n 1, 1) := by decide +kernel
theorem dX4_write_46 : decode cX4_write 46 = .ok (.iaload, 1) := by decide +kernel
theorem dX4_write_47 : decode cX4_write 47 = .ok (.ireturn, 1) := by decide +kernel
theorem dX4_writePart_0 : decode cX4_writePart 0 = .ok (.aload_n 0, 1) := by decide +kernel
theorem dX4_writePart_1 : decode cX4_writePart 1 = .ok (.aload_n 0, 1) := by decide +kernel
theorem dX4_writePart_2 : decode cX4_writePart 2 = .ok (.iload_n 1, 1) := by decide +kernel
theorem dX4_writePart_3 : decode cX4_writePart 3 = .ok (.invokevirtual 67, 3) := by decide +kernel
theorem dX4_writePart_6 : decode cX4_writePart 6 = .ok (.ifCond .eq 14, 3) := by decide +kernel
theorem dX4_writePart_9 : decode cX4_writePart 9 = .ok (.aload_n 0, 1) := by decide +kernel
theorem dX4_writePart_10 : decode cX4_writePart 10 = .ok (.iload_n 2, 1) := by decide +kernel
theorem dX4_writePart_11 : decode cX4_writePart 11 = .ok (.iload_n 3, 1) := by decide +kernel
theorem dX4_writePart_12 : decode cX4_writePart 12 = .ok (.iload 4, 2) := by decide +kernel
theorem dX4_writePart_14 : decode cX4_writePart 14 = .ok (.invokevirtual 60, 3) := by decide +kernel
theorem dX4_writePart_17 : decode cX4_writePart 17 = .ok (.ifCond .ne 7, 3) := by decide +kernel
theorem dX4_writePart_20 : decode cX4_writePart 20 = .ok (.iconst 1, 1) := by decide +kernel
theorem dX4_writePart_21 : decode cX4_writePart 21 = .ok (.goto 18, 3) := by decide +kernel
theorem dX4_writePart_24 : decode cX4_writePart 24 = .ok (.aload_n 0, 1) := by decide +kernel
theorem dX4_writePart_25 : decode cX4_writePart 25 = .ok (.iload_n 1, 1) := by decide +kernel
theorem dX4_writePart_26 : decode cX4_writePart 26 = .ok (.iload 4, 2) := by decide +kernel
theorem dX4_writePart_28 : decode cX4_writePart 28 = .ok (.invokevirtual 70, 3) := by decide +kernel
theorem dX4_writePart_31 : decode cX4_writePart 31 = .ok (.ifCond .eq 7, 3) := by decide +kernel
theorem dX4_writePart_34 : decode cX4_writePart 34 = .ok (.iconst 2, 1) := by decide +kernel
theorem dX4_writePart_35 : decode cX4_writePart 35 = .ok (.goto 4, 3) := by decide +kernel
theorem dX4_writePart_38 : decode cX4_writePart 38 = .ok (.iconst 0, 1) := by decide +kernel
theorem dX4_writePart_39 : decode cX4_writePart 39 = .ok (.invokevirtual 53, 3) := by decide +kernel
theorem dX4_writePart_42 : decode cX4_writePart 42 = .ok (.ifCond .eq 5, 3) := by decide +kernel
theorem dX4_writePart_45 : decode cX4_writePart 45 = .ok (.iconst 0, 1) := by decide +kernel
theorem dX4_writePart_46 : decode cX4_writePart 46 = .ok (.ireturn, 1) := by decide +kernel
theorem dX4_writePart_47 : decode cX4_writePart 47 = .ok (.iconst 0, 1) := by decide +kernel
theorem dX4_writePart_48 : decode cX4_writePart 48 = .ok (.istore 5, 2) := by decide +kernel
theorem dX4_writePart_50 : decode cX4_writePart 50 = .ok (.iload 5, 2) := by decide +kernel
theorem dX4_writePart_52 : decode cX4_writePart 52 = .ok (.iload 4, 2) := by decide +kernel
theorem dX4_writePart_54 : decode cX4_writePart 54 = .ok (.if_icmp .ge 34, 3) := by decide +kernel
theorem dX4_writePart_57 : decode cX4_writePart 57 = .ok (.aload_n 0, 1) := by decide +kernel
theorem dX4_writePart_58 : decode cX4_writePart 58 = .ok (.iload_n 1, 1) := by decide +kernel
theorem dX4_writePart_59 : decode cX4_writePart 59 = .ok (.aload_n 0, 1) := by decide +kernel
theorem dX4_writePart_60 : decode cX4_writePart 60 = .ok (.getfield 7, 3) := by decide +kernel
theorem dX4_writePart_63 : decode cX4_writePart 63 = .ok (.sipush 256, 3) := by decide +kernel
theorem dX4_writePart_66 : decode cX4_writePart 66 = .ok (.aload_n 0, 1) := by decide +kernel
theorem dX4_writePart_67 : decode cX4_writePart 67 = .ok (.getfield 16, 3) := by decide +kernel
theorem dX4_writePart_70 : decode cX4_writePart 70 = .ok (.iload_n 2, 1) := by decide +kernel
theorem dX4_writePart_71 : decode cX4_writePart 71 = .ok (.iaload, 1) := by decide +kernel
theorem dX4_writePart_72 : decode cX4_writePart 72 = .ok (.imul, 1) := by decide +kernel
theorem dX4_writePart_73 : decode cX4_writePart 73 = .ok (.iload_n 3, 1) := by decide +kernel
theorem dX4_writePart_74 : decode cX4_writePart 74 = .ok (.iadd, 1) := by decide +kernel
theorem dX4_writePart_75 : decode cX4_writePart 75 = .ok (.iload 5, 2) := by decide +kernel
theorem dX4_writePart_77 : decode cX4_writePart 77 = .ok (.iadd, 1) := by decide +kernel
theorem dX4_writePart_78 : decode cX4_writePart 78 = .ok (.iaload, 1) := by decide +kernel
theorem dX4_writePart_79 : decode cX4_writePart 79 = .ok (.invokevirtual 74, 3) := by decide +kernel
theorem dX4_writePart_82 : decode cX4_writePart 82 = .ok (.iinc 5 1, 3) := by decide +kernel
theorem dX4_writePart_85 : decode cX4_writePart 85 = .ok (.goto (-35), 3) := by decide +kernel
theorem dX4_writePart_88 : decode cX4_writePart 88 = .ok (.aload_n 0, 1) := by decide +kernel
theorem dX4_writePart_89 : decode cX4_writePart 89 = .ok (.getfield 31, 3) := by decide +kernel
theorem dX4_writePart_92 : decode cX4_writePart 92 = .ok (.iload_n 1, 1) := by decide +kernel
theorem dX4_writePart_93 : decode cX4_writePart 93 = .ok (.iaload, 1) := by decide +kernel
theorem dX4_writePart_94 : decode cX4_writePart 94 = .ok (.ireturn, 1) := by decide +kernel
theorem dX4_writeRow_0 : decode cX4_writeRow 0 = .ok (.aload_n 0, 1) := by decide +kernel
theorem dX4_writeRow_1 : decode cX4_writeRow 1 = .ok (.iload_n 1, 1) := by decide +kernel
theorem dX4_writeRow_2 : decode cX4_writeRow 2 = .ok (.iload_n 2, 1) := by decide +kernel
theorem dX4_writeRow_3 : decode cX4_writeRow 3 = .ok (.iconst 0, 1) := by decide +kernel
theorem dX4_writeRow_4 : decode cX4_writeRow 4 = .ok (.aload_n 0, 1) := by decide +kernel
theorem dX4_writeRow_5 : decode cX4_writeRow 5 = .ok (.iload_n 2, 1) := by decide +kernel
theorem dX4_writeRow_6 : decode cX4_writeRow 6 = .ok (.invokevirtual 41, 3) := by decide +kernel
theorem dX4_writeRow_9 : decode cX4_writeRow 9 = .ok (.ifCond .eq 11, 3) := by decide +kernel
theorem dX4_writeRow_12 : decode cX4_writeRow 12 = .ok (.aload_n 0, 1) := by decide +kernel
theorem dX4_writeRow_13 : decode cX4_writeRow 13 = .ok (.iload_n 2, 1) := by decide +kernel
theorem dX4_writeRow_14 : decode cX4_writeRow 14 = .ok (.invokevirtual 45, 3) := by decide +kernel
theorem dX4_writeRow_17 : decode cX4_writeRow 17 = .ok (.goto 4, 3) := by decide +kernel
theorem dX4_writeRow_20 : decode cX4_writeRow 20 = .ok (.iconst 0, 1) := by decide +kernel
theorem dX4_writeRow_21 : decode cX4_writeRow 21 = .ok (.invokevirtual 77, 3) := by decide +kernel
theorem dX4_writeRow_24 : decode cX4_writeRow 24 = .ok (.ireturn, 1) := by decide +kernel
theorem dX4_writeNumber_0 : decode cX4_writeNumber 0 = .ok (.aload_n 0, 1) := by decide +kernel
theorem dX4_writeNumber_1 : decode cX4_writeNumber 1 = .ok (.aload_n 0, 1) := by decide +kernel
theorem dX4_writeNumber_2 : decode cX4_writeNumber 2 = .ok (.iload_n 1, 1) := by decide +kernel
theorem dX4_writeNumber_3 : decode cX4_writeNumber 3 = .ok (.invokevirtual 67, 3) := by decide +kernel
theorem dX4_writeNumber_6 : decode cX4_writeNumber 6 = .ok (.ifCond .ne 7, 3) := by decide +kernel
theorem dX4_writeNumber_9 : decode cX4_writeNumber 9 = .ok (.iconst 1, 1) := by decide +kernel
theorem dX4_writeNumber_10 : decode cX4_writeNumber 10 = .ok (.goto 17, 3) := by decide +kernel
theorem dX4_writeNumber_13 : decode cX4_writeNumber 13 = .ok (.aload_n 0, 1) := by decide +kernel
theorem dX4_writeNumber_14 : decode cX4_writeNumber 14 = .ok (.iload_n 1, 1) := by decide +kernel
theorem dX4_writeNumber_15 : decode cX4_writeNumber 15 = .ok (.iconst 4, 1) := by decide +kernel
theorem dX4_writeNumber_16 : decode cX4_writeNumber 16 = .ok (.invokevirtual 70, 3) := by decide +kernel
theorem dX4_writeNumber_19 : decode cX4_writeNumber 19 = .ok (.ifCond .eq 7, 3) := by decide +kernel
theorem dX4_writeNumber_22 : decode cX4_writeNumber 22 = .ok (.iconst 2, 1) := by decide +kernel
theorem dX4_writeNumber_23 : decode cX4_writeNumber 23 = .ok (.goto 4, 3) := by decide +kernel
theorem dX4_writeNumber_26 : decode cX4_writeNumber 26 = .ok (.iconst 0, 1) := by decide +kernel
theorem dX4_writeNumber_27 : decode cX4_writeNumber 27 = .ok (.invokevirtual 53, 3) := by decide +kernel
theorem dX4_writeNumber_30 : decode cX4_writeNumber 30 = .ok (.ifCond .eq 5, 3) := by decide +kernel
theorem dX4_writeNumber_33 : decode cX4_writeNumber 33 = .ok (.iconst 0, 1) := by decide +kernel
theorem dX4_writeNumber_34 : decode cX4_writeNumber 34 = .ok (.ireturn, 1) := by decide +kernel
theorem dX4_writeNumber_35 : decode cX4_writeNumber 35 = .ok (.bipush 24, 2) := by decide +kernel
theorem dX4_writeNumber_37 : decode cX4_writeNumber 37 = .ok (.istore_n 3, 1) := by decide +kernel
theorem dX4_writeNumber_38 : decode cX4_writeNumber 38 = .ok (.iload_n 3, 1) := by decide +kernel
theorem dX4_writeNumber_39 : decode cX4_writeNumber 39 = .ok (.ifCond .lt 17, 3) := by decide +kernel
theorem dX4_writeNumber_42 : decode cX4_writeNumber 42 = .ok (.aload_n 0, 1) := by decide +kernel
theorem dX4_writeNumber_43 : decode cX4_writeNumber 43 = .ok (.iload_n 1, 1) := by decide +kernel
theorem dX4_writeNumber_44 : decode cX4_writeNumber 44 = .ok (.iload_n 2, 1) := by decide +kernel
theorem dX4_writeNumber_45 : decode cX4_writeNumber 45 = .ok (.iload_n 3, 1) := by decide +kernel
theorem dX4_writeNumber_46 : decode cX4_writeNumber 46 = .ok (.ishr, 1) := by decide +kernel
theorem dX4_writeNumber_47 : decode cX4_writeNumber 47 = .ok (.invokevirtual 74, 3) := by decide +kernel
theorem dX4_writeNumber_50 : decode cX4_writeNumber 50 = .ok (.iinc 3 (-8), 3) := by decide +kernel
theorem dX4_writeNumber_53 : decode cX4_writeNumber 53 = .ok (.goto (-15), 3) := by decide +kernel
theorem dX4_writeNumber_56 : decode cX4_writeNumber 56 = .ok (.aload_n 0, 1) := by decide +kernel
theorem dX4_writeNumber_57 : decode cX4_writeNumber 57 = .ok (.getfield 31, 3) := by decide +kernel
theorem dX4_writeNumber_60 : decode cX4_writeNumber 60 = .ok (.iload_n 1, 1) := by decide +kernel
theorem dX4_writeNumber_61 : decode cX4_writeNumber 61 = .ok (.iaload, 1) := by decide +kernel
theorem dX4_writeNumber_62 : decode cX4_writeNumber 62 = .ok (.ireturn, 1) := by decide +kernel
theorem dX4_size_0 : decode cX4_size 0 = .ok (.aload_n 0, 1) := by decide +kernel
theorem dX4_size_1 : decode cX4_size 1 = .ok (.aload_n 0, 1) := by decide +kernel
theorem dX4_size_2 : decode cX4_size 2 = .ok (.iload_n 1, 1) := by decide +kernel
theorem dX4_size_3 : decode cX4_size 3 = .ok (.invokevirtual 67, 3) := by decide +kernel
theorem dX4_size_6 : decode cX4_size 6 = .ok (.ifCond .eq 7, 3) := by decide +kernel
theorem dX4_size_9 : decode cX4_size 9 = .ok (.iconst 0, 1) := by decide +kernel
theorem dX4_size_10 : decode cX4_size 10 = .ok (.goto 4, 3) := by decide +kernel
theorem dX4_size_13 : decode cX4_size 13 = .ok (.iconst 1, 1) := by decide +kernel
theorem dX4_size_14 : decode cX4_size 14 = .ok (.invokevirtual 53, 3) := by decide +kernel
theorem dX4_size_17 : decode cX4_size 17 = .ok (.ifCond .eq 7, 3) := by decide +kernel
theorem dX4_size_20 : decode cX4_size 20 = .ok (.iconst 0, 1) := by decide +kernel
theorem dX4_size_21 : decode cX4_size 21 = .ok (.goto 9, 3) := by decide +kernel
theorem dX4_size_24 : decode cX4_size 24 = .ok (.aload_n 0, 1) := by decide +kernel
theorem dX4_size_25 : decode cX4_size 25 = .ok (.getfield 31, 3) := by decide +kernel
theorem dX4_size_28 : decode cX4_size 28 = .ok (.iload_n 1, 1) := by decide +kernel
theorem dX4_size_29 : decode cX4_size 29 = .ok (.iaload, 1) := by decide +kernel
theorem dX4_size_30 : decode cX4_size 30 = .ok (.ireturn, 1) := by decide +kernel
theorem dX4_empty_0 : decode cX4_empty 0 = .ok (.aload_n 0, 1) := by decide +kernel
theorem dX4_empty_1 : decode cX4_empty 1 = .ok (.aload_n 0, 1) := by decide +kernel
theorem dX4_empty_2 : decode cX4_empty 2 = .ok (.iload_n 1, 1) := by decide +kernel
theorem dX4_empty_3 : decode cX4_empty 3 = .ok (.invokevirtual 67, 3) := by decide +kernel
theorem dX4_empty_6 : decode cX4_empty 6 = .ok (.ifCond .eq 7, 3) := by decide +kernel
theorem dX4_empty_9 : decode cX4_empty 9 = .ok (.iconst 0, 1) := by decide +kernel
theorem dX4_empty_10 : decode cX4_empty 10 = .ok (.goto 4, 3) := by decide +kernel
theorem dX4_empty_13 : decode cX4_empty 13 = .ok (.iconst 1, 1) := by decide +kernel
theorem dX4_empty_14 : decode cX4_empty 14 = .ok (.invokevirtual 53, 3) := by decide +kernel
theorem dX4_empty_17 : decode cX4_empty 17 = .ok (.ifCond .eq 5, 3) := by decide +kernel
theorem dX4_empty_20 : decode cX4_empty 20 = .ok (.iconst 0, 1) := by decide +kernel
theorem dX4_empty_21 : decode cX4_empty 21 = .ok (.ireturn, 1) := by decide +kernel
theorem dX4_empty_22 : decode cX4_empty 22 = .ok (.aload_n 0, 1) := by decide +kernel
theorem dX4_empty_23 : decode cX4_empty 23 = .ok (.getfield 31, 3) := by decide +kernel
theorem dX4_empty_26 : decode cX4_empty 26 = .ok (.iload_n 1, 1) := by decide +kernel
theorem dX4_empty_27 : decode cX4_empty 27 = .ok (.iaload, 1) := by decide +kernel
theorem dX4_empty_28 : decode cX4_empty 28 = .ok (.istore_n 2, 1) := by decide +kernel
theorem dX4_empty_29 : decode cX4_empty 29 = .ok (.aload_n 0, 1) := by decide +kernel
theorem dX4_empty_30 : decode cX4_empty 30 = .ok (.getfield 31, 3) := by decide +kernel
theorem dX4_empty_33 : decode cX4_empty 33 = .ok (.iload_n 1, 1) := by decide +kernel
theorem dX4_empty_34 : decode cX4_empty 34 = .ok (.iconst 0, 1) := by decide +kernel
theorem dX4_empty_35 : decode cX4_empty 35 = .ok (.iastore, 1) := by decide +kernel
theorem dX4_empty_36 : decode cX4_empty 36 = .ok (.iload_n 2, 1) := by decide +kernel
theorem dX4_empty_37 : decode cX4_empty 37 = .ok (.ireturn, 1) := by decide +kernel
theorem dX4_take_0 : decode cX4_take 0 = .ok (.aload_n 0, 1) := by decide +kernel
theorem dX4_take_1 : decode cX4_take 1 = .ok (.aload_n 0, 1) := by decide +kernel
theorem dX4_take_2 : decode cX4_take 2 = .ok (.iload_n 1, 1) := by decide +kernel
theorem dX4_take_3 : decode cX4_take 3 = .ok (.invokevirtual 67, 3) := by decide +kernel
theorem dX4_take_6 : decode cX4_take 6 = .ok (.ifCond .eq 15, 3) := by decide +kernel
theorem dX4_take_9 : decode cX4_take 9 = .ok (.aload_n 0, 1) := by decide +kernel
theorem dX4_take_10 : decode cX4_take 10 = .ok (.iload_n 2, 1) := by decide +kernel
theorem dX4_take_11 : decode cX4_take 11 = .ok (.invokevirtual 41, 3) := by decide +kernel
theorem dX4_take_14 : decode cX4_take 14 = .ok (.ifCond .eq 7, 3) := by decide +kernel
theorem dX4_take_17 : decode cX4_take 17 = .ok (.iconst 0, 1) := by decide +kernel
theorem dX4_take_18 : decode cX4_take 18 = .ok (.goto 4, 3) := by decide +kernel
theorem dX4_take_21 : decode cX4_take 21 = .ok (.iconst 1, 1) := by decide +kernel
theorem dX4_take_22 : decode cX4_take 22 = .ok (.invokevirtual 53, 3) := by decide +kernel
theorem dX4_take_25 : decode cX4_take 25 = .ok (.ifCond .eq 5, 3) := by decide +kernel
theorem dX4_take_28 : decode cX4_take 28 = .ok (.iconst 0, 1) := by decide +kernel
theorem dX4_take_29 : decode cX4_take 29 = .ok (.ireturn, 1) := by decide +kernel
theorem dX4_take_30 : decode cX4_take 30 = .ok (.iconst 0, 1) := by decide +kernel
theorem dX4_take_31 : decode cX4_take 31 = .ok (.istore_n 3, 1) := by decide +kernel
theorem dX4_take_32 : decode cX4_take 32 = .ok (.iload_n 3, 1) := by decide +kernel
theorem dX4_take_33 : decode cX4_take 33 = .ok (.aload_n 0, 1) := by decide +kernel
theorem dX4_take_34 : decode cX4_take 34 = .ok (.getfield 31, 3) := by decide +kernel
theorem dX4_take_37 : decode cX4_take 37 = .ok (.iload_n 1, 1) := by decide +kernel
theorem dX4_take_38 : decode cX4_take 38 = .ok (.iaload, 1) := by decide +kernel
theorem dX4_take_39 : decode cX4_take 39 = .ok (.if_icmp .ge 27, 3) := by decide +kernel
theorem dX4_take_42 : decode cX4_take 42 = .ok (.aload_n 0, 1) := by decide +kernel
theorem dX4_take_43 : decode cX4_take 43 = .ok (.getfield 34, 3) := by decide +kernel
theorem dX4_take_46 : decode cX4_take 46 = .ok (.iload_n 3, 1) := by decide +kernel
theorem dX4_take_47 : decode cX4_take 47 = .ok (.aload_n 0, 1) := by decide +kernel
theorem dX4_take_48 : decode cX4_take 48 = .ok (.getfield 28, 3) := by decide +kernel
theorem dX4_take_51 : decode cX4_take 51 = .ok (.sipush 256, 3) := by decide +kernel
theorem dX4_take_54 : decode cX4_take 54 = .ok (.iload_n 1, 1) := by decide +kernel
theorem dX4_take_55 : decode cX4_take 55 = .ok (.imul, 1) := by decide +kernel
theorem dX4_take_56 : decode cX4_take 56 = .ok (.iload_n 3, 1) := by decide +kernel
theorem dX4_take_57 : decode cX4_take 57 = .ok (.iadd, 1) := by decide +kernel
theorem dX4_take_58 : decode cX4_take 58 = .ok (.iaload, 1) := by decide +kernel
theorem dX4_take_59 : decode cX4_take 59 = .ok (.iastore, 1) := by decide +kernel
theorem dX4_take_60 : decode cX4_take 60 = .ok (.iinc 3 1, 3) := by decide +kernel
theorem dX4_take_63 : decode cX4_take 63 = .ok (.goto (-31), 3) := by decide +kernel
theorem dX4_take_66 : decode cX4_take 66 = .ok (.aload_n 0, 1) := by decide +kernel
theorem dX4_take_67 : decode cX4_take 67 = .ok (.iload_n 2, 1) := by decide +kernel
theorem dX4_take_68 : decode cX4_take 68 = .ok (.aload_n 0, 1) := by decide +kernel
theorem dX4_take_69 : decode cX4_take 69 = .ok (.getfield 31, 3) := by decide +kernel
theorem dX4_take_72 : decode cX4_take 72 = .ok (.iload_n 1, 1) := by decide +kernel
theorem dX4_take_73 : decode cX4_take 73 = .ok (.iaload, 1) := by decide +kernel
theorem dX4_take_74 : decode cX4_take 74 = .ok (.invokevirtual 56, 3) := by decide +kernel
theorem dX4_take_77 : decode cX4_take 77 = .ok (.aload_n 0, 1) := by decide +kernel
theorem dX4_take_78 : decode cX4_take 78 = .ok (.getfield 31, 3) := by decide +kernel
theorem dX4_take_81 : decode cX4_take 81 = .ok (.iload_n 1, 1) := by decide +kernel
theorem dX4_take_82 : decode cX4_take 82 = .ok (.iaload, 1) := by decide +kernel
theorem dX4_take_83 : decode cX4_take 83 = .ok (.ireturn, 1) := by decide +kernel
theorem dX4_leftOf_0 : decode cX4_leftOf 0 = .ok (.aload_n 0, 1) := by decide +kernel
theorem dX4_leftOf_1 : decode cX4_leftOf 1 = .ok (.getfield 13, 3) := by decide +kernel
theorem dX4_leftOf_4 : decode cX4_leftOf 4 = .ok (.aload_n 0, 1) := by decide +kernel
theorem dX4_leftOf_5 : decode cX4_leftOf 5 = .ok (.getfield 19, 3) := by decide +kernel
theorem dX4_leftOf_8 : decode cX4_leftOf 8 = .ok (.iload_n 1, 1) := by decide +kernel
theorem dX4_leftOf_9 : decode cX4_leftOf 9 = .ok (.iaload, 1) := by decide +kernel
theorem dX4_leftOf_10 : decode cX4_leftOf 10 = .ok (.iaload, 1) := by decide +kernel
theorem dX4_leftOf_11 : decode cX4_leftOf 11 = .ok (.aload_n 0, 1) := by decide +kernel
theorem dX4_leftOf_12 : decode cX4_leftOf 12 = .ok (.getfield 22, 3) := by decide +kernel
theorem dX4_leftOf_15 : decode cX4_leftOf 15 = .ok (.iload_n 1, 1) := by decide +kernel
theorem dX4_leftOf_16 : decode cX4_leftOf 16 = .ok (.iaload, 1) := by decide +kernel
theorem dX4_leftOf_17 : decode cX4_leftOf 17 = .ok (.isub, 1) := by decide +kernel
theorem dX4_leftOf_18 : decode cX4_leftOf 18 = .ok (.ireturn, 1) := by decide +kernel
theorem dX4_next_0 : decode cX4_next 0 = .ok (.aload_n 0, 1) := by decide +kernel
theorem dX4_next_1 : decode cX4_next 1 = .ok (.getfield 7, 3) := by decide +kernel
theorem dX4_next_4 : decode cX4_next 4 = .ok (.sipush 256, 3) := by decide +kernel
theorem dX4_next_7 : decode cX4_next 7 = .ok (.aload_n 0, 1) := by decide +kernel
theorem dX4_next_8 : decode cX4_next 8 = .ok (.getfield 19, 3) := by decide +kernel
theorem dX4_next_11 : decode cX4_next 11 = .ok (.iload_n 1, 1) := by decide +kernel
theorem dX4_next_12 : decode cX4_next 12 = .ok (.iaload, 1) := by decide +kernel
theorem dX4_next_13 : decode cX4_next 13 = .ok (.imul, 1) := by decide +kernel
theorem dX4_next_14 : decode cX4_next 14 = .ok (.aload_n 0, 1) := by decide +kernel
theorem dX4_next_15 : decode cX4_next 15 = .ok (.getfield 22, 3) := by decide +kernel
theorem dX4_next_18 : decode cX4_next 18 = .ok (.iload_n 1, 1) := by decide +kernel
theorem dX4_next_19 : decode cX4_next 19 = .ok (.iaload, 1) := by decide +kernel
theorem dX4_next_20 : decode cX4_next 20 = .ok (.iadd, 1) := by decide +kernel
theorem dX4_next_21 : decode cX4_next 21 = .ok (.iaload, 1) := by decide +kernel
theorem dX4_next_22 : decode cX4_next 22 = .ok (.ireturn, 1) := by decide +kernel
theorem dX4_open_0 : decode cX4_open 0 = .ok (.aload_n 0, 1) := by decide +kernel
theorem dX4_open_1 : decode cX4_open 1 = .ok (.aload_n 0, 1) := by decide +kernel
theorem dX4_open_2 : decode cX4_open 2 = .ok (.iload_n 1, 1) := by decide +kernel
theorem dX4_open_3 : decode cX4_open 3 = .ok (.invokevirtual 67, 3) := by decide +kernel
theorem dX4_open_6 : decode cX4_open 6 = .ok (.ifCond .eq 15, 3) := by decide +kernel
theorem dX4_open_9 : decode cX4_open 9 = .ok (.aload_n 0, 1) := by decide +kernel
theorem dX4_open_10 : decode cX4_open 10 = .ok (.iload_n 2, 1) := by decide +kernel
theorem dX4_open_11 : decode cX4_open 11 = .ok (.invokevirtual 41, 3) := by decide +kernel
theorem dX4_open_14 : decode cX4_open 14 = .ok (.ifCond .eq 7, 3) := by decide +kernel
theorem dX4_open_17 : decode cX4_open 17 = .ok (.iconst 0, 1) := by decide +kernel
theorem dX4_open_18 : decode cX4_open 18 = .ok (.goto 4, 3) := by decide +kernel
theorem dX4_open_21 : decode cX4_open 21 = .ok (.iconst 1, 1) := by decide +kernel
theorem dX4_open_22 : decode cX4_open 22 = .ok (.invokevirtual 53, 3) := by decide +kernel
theorem dX4_open_25 : decode cX4_open 25 = .ok (.ifCond .eq 5, 3) := by decide +kernel
theorem dX4_open_28 : decode cX4_open 28 = .ok (.iconst 0, 1) := by decide +kernel
theorem dX4_open_29 : decode cX4_open 29 = .ok (.ireturn, 1) := by decide +kernel
theorem dX4_open_30 : decode cX4_open 30 = .ok (.aload_n 0, 1) := by decide +kernel
theorem dX4_open_31 : decode cX4_open 31 = .ok (.getfield 19, 3) := by decide +kernel
theorem dX4_open_34 : decode cX4_open 34 = .ok (.iload_n 1, 1) := by decide +kernel
theorem dX4_open_35 : decode cX4_open 35 = .ok (.aload_n 0, 1) := by decide +kernel
theorem dX4_open_36 : decode cX4_open 36 = .ok (.getfield 16, 3) := by decide +kernel
theorem dX4_open_39 : decode cX4_open 39 = .ok (.iload_n 2, 1) := by decide +kernel
theorem dX4_open_40 : decode cX4_open 40 = .ok (.iaload, 1) := by decide +kernel
theorem dX4_open_41 : decode cX4_open 41 = .ok (.iastore, 1) := by decide +kernel
theorem dX4_open_42 : decode cX4_open 42 = .ok (.aload_n 0, 1) := by decide +kernel
theorem dX4_open_43 : decode cX4_open 43 = .ok (.getfield 22, 3) := by decide +kernel
theorem dX4_open_46 : decode cX4_open 46 = .ok (.iload_n 1, 1) := by decide +kernel
theorem dX4_open_47 : decode cX4_open 47 = .ok (.iconst 0, 1) := by decide +kernel
theorem dX4_open_48 : decode cX4_open 48 = .ok (.iastore, 1) := by decide +kernel
theorem dX4_open_49 : decode cX4_open 49 = .ok (.aload_n 0, 1) := by decide +kernel
theorem dX4_open_50 : decode cX4_open 50 = .ok (.getfield 25, 3) := by decide +kernel
theorem dX4_open_53 : decode cX4_open 53 = .ok (.iload_n 1, 1) := by decide +kernel
theorem dX4_open_54 : decode cX4_open 54 = .ok (.iconst 0, 1) := by decide +kernel
theorem dX4_open_55 : decode cX4_open 55 = .ok (.iastore, 1) := by decide +kernel
theorem dX4_open_56 : decode cX4_open 56 = .ok (.aload_n 0, 1) := by decide +kernel
theorem dX4_open_57 : decode cX4_open 57 = .ok (.iload_n 1, 1) := by decide +kernel
theorem dX4_open_58 : decode cX4_open 58 = .ok (.invokevirtual 81, 3) := by decide +kernel
theorem dX4_open_61 : decode cX4_open 61 = .ok (.ireturn, 1) := by decide +kernel
theorem dX4_isOpen_0 : decode cX4_isOpen 0 = .ok (.aload_n 0, 1) := by decide +kernel
theorem dX4_isOpen_1 : decode cX4_isOpen 1 = .ok (.aload_n 0, 1) := by decide +kernel
theorem dX4_isOpen_2 : decode cX4_isOpen 2 = .ok (.iload_n 1, 1) := by decide +kernel
theorem dX4_isOpen_3 : decode cX4_isOpen 3 = .ok (.invokevirtual 67, 3) := by decide +kernel
theorem dX4_isOpen_6 : decode cX4_isOpen 6 = .ok (.ifCond .eq 7, 3) := by decide +kernel
theorem dX4_isOpen_9 : decode cX4_isOpen 9 = .ok (.iconst 0, 1) := by decide +kernel
theorem dX4_isOpen_10 : decode cX4_isOpen 10 = .ok (.goto 4, 3) := by decide +kernel
theorem dX4_isOpen_13 : decode cX4_isOpen 13 = .ok (.iconst 1, 1) := by decide +kernel
theorem dX4_isOpen_14 : decode cX4_isOpen 14 = .ok (.invokevirtual 53, 3) := by decide +kernel
theorem dX4_isOpen_17 : decode cX4_isOpen 17 = .ok (.ifCond .ne 16, 3) := by decide +kernel
theorem dX4_isOpen_20 : decode cX4_isOpen 20 = .ok (.aload_n 0, 1) := by decide +kernel
theorem dX4_isOpen_21 : decode cX4_isOpen 21 = .ok (.getfield 19, 3) := by decide +kernel
theorem dX4_isOpen_24 : decode cX4_isOpen 24 = .ok (.iload_n 1, 1) := by decide +kernel
theorem dX4_isOpen_25 : decode cX4_isOpen 25 = .ok (.iaload, 1) := by decide +kernel
theorem dX4_isOpen_26 : decode cX4_isOpen 26 = .ok (.ifCond .lt 7, 3) := by decide +kernel
theorem dX4_isOpen_29 : decode cX4_isOpen 29 = .ok (.iconst 1, 1) := by decide +kernel
theorem dX4_isOpen_30 : decode cX4_isOpen 30 = .ok (.goto 4, 3) := by decide +kernel
theorem dX4_isOpen_33 : decode cX4_isOpen 33 = .ok (.iconst 0, 1) := by decide +kernel
theorem dX4_isOpen_34 : decode cX4_isOpen 34 = .ok (.ireturn, 1) := by decide +kernel
theorem dX4_isShut_0 : decode cX4_isShut 0 = .ok (.aload_n 0, 1) := by decide +kernel
theorem dX4_isShut_1 : decode cX4_isShut 1 = .ok (.aload_n 0, 1) := by decide +kernel
theorem dX4_isShut_2 : decode cX4_isShut 2 = .ok (.iload_n 1, 1) := by decide +kernel
theorem dX4_isShut_3 : decode cX4_isShut 3 = .ok (.invokevirtual 67, 3) := by decide +kernel
theorem dX4_isShut_6 : decode cX4_isShut 6 = .ok (.ifCond .ne 7, 3) := by decide +kernel
theorem dX4_isShut_9 : decode cX4_isShut 9 = .ok (.iconst 1, 1) := by decide +kernel
theorem dX4_isShut_10 : decode cX4_isShut 10 = .ok (.goto 17, 3) := by decide +kernel
theorem dX4_isShut_13 : decode cX4_isShut 13 = .ok (.aload_n 0, 1) := by decide +kernel
theorem dX4_isShut_14 : decode cX4_isShut 14 = .ok (.getfield 19, 3) := by decide +kernel
theorem dX4_isShut_17 : decode cX4_isShut 17 = .ok (.iload_n 1, 1) := by decide +kernel
theorem dX4_isShut_18 : decode cX4_isShut 18 = .ok (.iaload, 1) := by decide +kernel
theorem dX4_isShut_19 : decode cX4_isShut 19 = .ok (.ifCond .ge 7, 3) := by decide +kernel
theorem dX4_isShut_22 : decode cX4_isShut 22 = .ok (.iconst 2, 1) := by decide +kernel
theorem dX4_isShut_23 : decode cX4_isShut 23 = .ok (.goto 4, 3) := by decide +kernel
theorem dX4_isShut_26 : decode cX4_isShut 26 = .ok (.iconst 0, 1) := by decide +kernel
theorem dX4_isShut_27 : decode cX4_isShut 27 = .ok (.invokevirtual 53, 3) := by decide +kernel
theorem dX4_isShut_30 : decode cX4_isShut 30 = .ok (.ireturn, 1) := by decide +kernel
theorem dX4_read_0 : decode cX4_read 0 = .ok (.aload_n 0, 1) := by decide +kernel
theorem dX4_read_1 : decode cX4_read 1 = .ok (.iload_n 1, 1) := by decide +kernel
theorem dX4_read_2 : decode cX4_read 2 = .ok (.invokevirtual 84, 3) := by decide +kernel
theorem dX4_read_5 : decode cX4_read 5 = .ok (.ifCond .eq 5, 3) := by decide +kernel
theorem dX4_read_8 : decode cX4_read 8 = .ok (.iconst 0, 1) := by decide +kernel
theorem dX4_read_9 : decode cX4_read 9 = .ok (.ireturn, 1) := by decide +kernel
theorem dX4_read_10 : decode cX4_read 10 = .ok (.aload_n 0, 1) := by decide +kernel
theorem dX4_read_11 : decode cX4_read 11 = .ok (.iload_n 1, 1) := by decide +kernel
theorem dX4_read_12 : decode cX4_read 12 = .ok (.invokevirtual 81, 3) := by decide +kernel
theorem dX4_read_15 : decode cX4_read 15 = .ok (.ifCond .ne 5, 3) := by decide +kernel
theorem dX4_read_18 : decode cX4_read 18 = .ok (.iconst (-1), 1) := by decide +kernel
theorem dX4_read_19 : decode cX4_read 19 = .ok (.ireturn, 1) := by decide +kernel
theorem dX4_read_20 : decode cX4_read 20 = .ok (.aload_n 0, 1) := by decide +kernel
theorem dX4_read_21 : decode cX4_read 21 = .ok (.getfield 22, 3) := by decide +kernel
theorem dX4_read_24 : decode cX4_read 24 = .ok (.iload_n 1, 1) := by decide +kernel
theorem dX4_read_25 : decode cX4_read 25 = .ok (.dup2, 1) := by decide +kernel
theorem dX4_read_26 : decode cX4_read 26 = .ok (.iaload, 1) := by decide +kernel
theorem dX4_read_27 : decode cX4_read 27 = .ok (.iconst 1, 1) := by decide +kernel
theorem dX4_read_28 : decode cX4_read 28 = .ok (.iadd, 1) := by decide +kernel
theorem dX4_read_29 : decode cX4_read 29 = .ok (.iastore, 1) := by decide +kernel
theorem dX4_read_30 : decode cX4_read 30 = .ok (.aload_n 0, 1) := by decide +kernel
theorem dX4_read_31 : decode cX4_read 31 = .ok (.getfield 7, 3) := by decide +kernel
theorem dX4_read_34 : decode cX4_read 34 = .ok (.sipush 256, 3) := by decide +kernel
theorem dX4_read_37 : decode cX4_read 37 = .ok (.aload_n 0, 1) := by decide +kernel
theorem dX4_read_38 : decode cX4_read 38 = .ok (.getfield 19, 3) := by decide +kernel
theorem dX4_read_41 : decode cX4_read 41 = .ok (.iload_n 1, 1) := by decide +kernel
theorem dX4_read_42 : decode cX4_read 42 = .ok (.iaload, 1) := by decide +kernel
theorem dX4_read_43 : decode cX4_read 43 = .ok (.imul, 1) := by decide +kernel
theorem dX4_read_44 : decode cX4_read 44 = .ok (.aload_n 0, 1) := by decide +kernel
theorem dX4_read_45 : decode cX4_read 45 = .ok (.getfield 22, 3) := by decide +kernel
theorem dX4_read_48 : decode cX4_read 48 = .ok (.iload_n 1, 1) := by decide +kernel
theorem dX4_read_49 : decode cX4_read 49 = .ok (.iaload, 1) := by decide +kernel
theorem dX4_read_50 : decode cX4_read 50 = .ok (.iadd, 1) := by decide +kernel
theorem dX4_read_51 : decode cX4_read 51 = .ok (.iconst 1, 1) := by decide +kernel
theorem dX4_read_52 : decode cX4_read 52 = .ok (.isub, 1) := by decide +kernel
theorem dX4_read_53 : decode cX4_read 53 = .ok (.iaload, 1) := by decide +kernel
theorem dX4_read_54 : decode cX4_read 54 = .ok (.sipush 255, 3) := by decide +kernel
theorem dX4_read_57 : decode cX4_read 57 = .ok (.iand, 1) := by decide +kernel
theorem dX4_read_58 : decode cX4_read 58 = .ok (.ireturn, 1) := by decide +kernel
theorem dX4_keeps_0 : decode cX4_keeps 0 = .ok (.aload_n 0, 1) := by decide +kernel
theorem dX4_keeps_1 : decode cX4_keeps 1 = .ok (.iload_n 2, 1) := by decide +kernel
theorem dX4_keeps_2 : decode cX4_keeps 2 = .ok (.aload_n 0, 1) := by decide +kernel
theorem dX4_keeps_3 : decode cX4_keeps 3 = .ok (.iload_n 1, 1) := by decide +kernel
theorem dX4_keeps_4 : decode cX4_keeps 4 = .ok (.invokevirtual 81, 3) := by decide +kernel
theorem dX4_keeps_7 : decode cX4_keeps 7 = .ok (.invokevirtual 87, 3) := by decide +kernel
theorem dX4_keeps_10 : decode cX4_keeps 10 = .ok (.istore_n 3, 1) := by decide +kernel
theorem dX4_keeps_11 : decode cX4_keeps 11 = .ok (.iconst 0, 1) := by decide +kernel
theorem dX4_keeps_12 : decode cX4_keeps 12 = .ok (.istore 4, 2) := by decide +kernel
theorem dX4_keeps_14 : decode cX4_keeps 14 = .ok (.iload 4, 2) := by decide +kernel
theorem dX4_keeps_16 : decode cX4_keeps 16 = .ok (.iload_n 3, 1) := by decide +kernel
theorem dX4_keeps_17 : decode cX4_keeps 17 = .ok (.if_icmp .ge 31, 3) := by decide +kernel
theorem dX4_keeps_20 : decode cX4_keeps 20 = .ok (.aload_n 0, 1) := by decide +kernel
theorem dX4_keeps_21 : decode cX4_keeps 21 = .ok (.getfield 34, 3) := by decide +kernel
theorem dX4_keeps_24 : decode cX4_keeps 24 = .ok (.iload 4, 2) := by decide +kernel
theorem dX4_keeps_26 : decode cX4_keeps 26 = .ok (.aload_n 0, 1) := by decide +kernel
theorem dX4_keeps_27 : decode cX4_keeps 27 = .ok (.iload_n 1, 1) := by decide +kernel
theorem dX4_keeps_28 : decode cX4_keeps 28 = .ok (.invokevirtual 91, 3) := by decide +kernel
theorem dX4_keeps_31 : decode cX4_keeps 31 = .ok (.iastore, 1) := by decide +kernel
theorem dX4_keeps_32 : decode cX4_keeps 32 = .ok (.aload_n 0, 1) := by decide +kernel
theorem dX4_keeps_33 : decode cX4_keeps 33 = .ok (.getfield 22, 3) := by decide +kernel
theorem dX4_keeps_36 : decode cX4_keeps 36 = .ok (.iload_n 1, 1) := by decide +kernel
theorem dX4_keeps_37 : decode cX4_keeps 37 = .ok (.dup2, 1) := by decide +kernel
theorem dX4_keeps_38 : decode cX4_keeps 38 = .ok (.iaload, 1) := by decide +kernel
theorem dX4_keeps_39 : decode cX4_keeps 39 = .ok (.iconst 1, 1) := by decide +kernel
theorem dX4_keeps_40 : decode cX4_keeps 40 = .ok (.iadd, 1) := by decide +kernel
theorem dX4_keeps_41 : decode cX4_keeps 41 = .ok (.iastore, 1) := by decide +kernel
theorem dX4_keeps_42 : decode cX4_keeps 42 = .ok (.iinc 4 1, 3) := by decide +kernel
theorem dX4_keeps_45 : decode cX4_keeps 45 = .ok (.goto (-31), 3) := by decide +kernel
theorem dX4_keeps_48 : decode cX4_keeps 48 = .ok (.iload_n 3, 1) := by decide +kernel
theorem dX4_keeps_49 : decode cX4_keeps 49 = .ok (.ireturn, 1) := by decide +kernel
theorem dX4_lays_0 : decode cX4_lays 0 = .ok (.aload_n 0, 1) := by decide +kernel
theorem dX4_lays_1 : decode cX4_lays 1 = .ok (.iload_n 1, 1) := by decide +kernel
theorem dX4_lays_2 : decode cX4_lays 2 = .ok (.iload 4, 2) := by decide +kernel
theorem dX4_lays_4 : decode cX4_lays 4 = .ok (.invokevirtual 94, 3) := by decide +kernel
theorem dX4_lays_7 : decode cX4_lays 7 = .ok (.istore 5, 2) := by decide +kernel
theorem dX4_lays_9 : decode cX4_lays 9 = .ok (.iconst 0, 1) := by decide +kernel
theorem dX4_lays_10 : decode cX4_lays 10 = .ok (.istore 6, 2) := by decide +kernel
theorem dX4_lays_12 : decode cX4_lays 12 = .ok (.iload 6, 2) := by decide +kernel
theorem dX4_lays_14 : decode cX4_lays 14 = .ok (.iload 5, 2) := by decide +kernel
theorem dX4_lays_16 : decode cX4_lays 16 = .ok (.if_icmp .ge 36, 3) := by decide +kernel
theorem dX4_lays_19 : decode cX4_lays 19 = .ok (.aload_n 0, 1) := by decide +kernel
theorem dX4_lays_20 : decode cX4_lays 20 = .ok (.getfield 7, 3) := by decide +kernel
theorem dX4_lays_23 : decode cX4_lays 23 = .ok (.sipush 256, 3) := by decide +kernel
theorem dX4_lays_26 : decode cX4_lays 26 = .ok (.aload_n 0, 1) := by decide +kernel
theorem dX4_lays_27 : decode cX4_lays 27 = .ok (.getfield 16, 3) := by decide +kernel
theorem dX4_lays_30 : decode cX4_lays 30 = .ok (.iload_n 2, 1) := by decide +kernel
theorem dX4_lays_31 : decode cX4_lays 31 = .ok (.iaload, 1) := by decide +kernel
theorem dX4_lays_32 : decode cX4_lays 32 = .ok (.imul, 1) := by decide +kernel
theorem dX4_lays_33 : decode cX4_lays 33 = .ok (.iload_n 3, 1) := by decide +kernel
theorem dX4_lays_34 : decode cX4_lays 34 = .ok (.iadd, 1) := by decide +kernel
theorem dX4_lays_35 : decode cX4_lays 35 = .ok (.iload 6, 2) := by decide +kernel
theorem dX4_lays_37 : decode cX4_lays 37 = .ok (.iadd, 1) := by decide +kernel
theorem dX4_lays_38 : decode cX4_lays 38 = .ok (.aload_n 0, 1) := by decide +kernel
theorem dX4_lays_39 : decode cX4_lays 39 = .ok (.getfield 34, 3) := by decide +kernel
theorem dX4_lays_42 : decode cX4_lays 42 = .ok (.iload 6, 2) := by decide +kernel
theorem dX4_lays_44 : decode cX4_lays 44 = .ok (.iaload, 1) := by decide +kernel
theorem dX4_lays_45 : decode cX4_lays 45 = .ok (.iastore, 1) := by decide +kernel
theorem dX4_lays_46 : decode cX4_lays 46 = .ok (.iinc 6 1, 3) := by decide +kernel
theorem dX4_lays_49 : decode cX4_lays 49 = .ok (.goto (-37), 3) := by decide +kernel
theorem dX4_lays_52 : decode cX4_lays 52 = .ok (.iload 5, 2) := by decide +kernel
theorem dX4_lays_54 : decode cX4_lays 54 = .ok (.ireturn, 1) := by decide +kernel
theorem dX4_readPart_0 : decode cX4_readPart 0 = .ok (.aload_n 0, 1) := by decide +kernel
theorem dX4_readPart_1 : decode cX4_readPart 1 = .ok (.aload_n 0, 1) := by decide +kernel
theorem dX4_readPart_2 : decode cX4_readPart 2 = .ok (.iload_n 1, 1) := by decide +kernel
theorem dX4_readPart_3 : decode cX4_readPart 3 = .ok (.invokevirtual 67, 3) := by decide +kernel
theorem dX4_readPart_6 : decode cX4_readPart 6 = .ok (.ifCond .eq 14, 3) := by decide +kernel
theorem dX4_readPart_9 : decode cX4_readPart 9 = .ok (.aload_n 0, 1) := by decide +kernel
theorem dX4_readPart_10 : decode cX4_readPart 10 = .ok (.iload_n 2, 1) := by decide +kernel
theorem dX4_readPart_11 : decode cX4_readPart 11 = .ok (.iload_n 3, 1) := by decide +kernel
theorem dX4_readPart_12 : decode cX4_readPart 12 = .ok (.iload 4, 2) := by decide +kernel
theorem dX4_readPart_14 : decode cX4_readPart 14 = .ok (.invokevirtual 60, 3) := by decide +kernel
theorem dX4_readPart_17 : decode cX4_readPart 17 = .ok (.ifCond .ne 7, 3) := by decide +kernel
theorem dX4_readPart_20 : decode cX4_readPart 20 = .ok (.iconst 1, 1) := by decide +kernel
theorem dX4_readPart_21 : decode cX4_readPart 21 = .ok (.goto 17, 3) := by decide +kernel
theorem dX4_readPart_24 : decode cX4_readPart 24 = .ok (.aload_n 0, 1) := by decide +kernel
theorem dX4_readPart_25 : decode cX4_readPart 25 = .ok (.getfield 19, 3) := by decide +kernel
theorem dX4_readPart_28 : decode cX4_readPart 28 = .ok (.iload_n 1, 1) := by decide +kernel
theorem dX4_readPart_29 : decode cX4_readPart 29 = .ok (.iaload, 1) := by decide +kernel
theorem dX4_readPart_30 : decode cX4_readPart 30 = .ok (.ifCond .ge 7, 3) := by decide +kernel
theorem dX4_readPart_33 : decode cX4_readPart 33 = .ok (.iconst 2, 1) := by decide +kernel
theorem dX4_readPart_34 : decode cX4_readPart 34 = .ok (.goto 4, 3) := by decide +kernel
theorem dX4_readPart_37 : decode cX4_readPart 37 = .ok (.iconst 0, 1) := by decide +kernel
theorem dX4_readPart_38 : decode cX4_readPart 38 = .ok (.invokevirtual 53, 3) := by decide +kernel
theorem dX4_readPart_41 : decode cX4_readPart 41 = .ok (.ifCond .eq 5, 3) := by decide +kernel
theorem dX4_readPart_44 : decode cX4_readPart 44 = .ok (.iconst 0, 1) := by decide +kernel
theorem dX4_readPart_45 : decode cX4_readPart 45 = .ok (.ireturn, 1) := by decide +kernel
theorem dX4_readPart_46 : decode cX4_readPart 46 = .ok (.aload_n 0, 1) := by decide +kernel
theorem dX4_readPart_47 : decode cX4_readPart 47 = .ok (.iload_n 1, 1) := by decide +kernel
theorem dX4_readPart_48 : decode cX4_readPart 48 = .ok (.invokevirtual 81, 3) := by decide +kernel
theorem dX4_readPart_51 : decode cX4_readPart 51 = .ok (.ifCond .ne 7, 3) := by decide +kernel
theorem dX4_readPart_54 : decode cX4_readPart 54 = .ok (.iconst (-1), 1) := by decide +kernel
theorem dX4_readPart_55 : decode cX4_readPart 55 = .ok (.goto 12, 3) := by decide +kernel
theorem dX4_readPart_58 : decode cX4_readPart 58 = .ok (.aload_n 0, 1) := by decide +kernel
theorem dX4_readPart_59 : decode cX4_readPart 59 = .ok (.iload_n 1, 1) := by decide +kernel
theorem dX4_readPart_60 : decode cX4_readPart 60 = .ok (.iload_n 2, 1) := by decide +kernel
theorem dX4_readPart_61 : decode cX4_readPart 61 = .ok (.iload_n 3, 1) := by decide +kernel
theorem dX4_readPart_62 : decode cX4_readPart 62 = .ok (.iload 4, 2) := by decide +kernel
theorem dX4_readPart_64 : decode cX4_readPart 64 = .ok (.invokevirtual 97, 3) := by decide +kernel
theorem dX4_readPart_67 : decode cX4_readPart 67 = .ok (.ireturn, 1) := by decide +kernel
theorem dX4_readFull_0 : decode cX4_readFull 0 = .ok (.aload_n 0, 1) := by decide +kernel
theorem dX4_readFull_1 : decode cX4_readFull 1 = .ok (.aload_n 0, 1) := by decide +kernel
theorem dX4_readFull_2 : decode cX4_readFull 2 = .ok (.iload_n 1, 1) := by decide +kernel
theorem dX4_readFull_3 : decode cX4_readFull 3 = .ok (.invokevirtual 67, 3) := by decide +kernel
theorem dX4_readFull_6 : decode cX4_readFull 6 = .ok (.ifCond .eq 14, 3) := by decide +kernel
theorem dX4_readFull_9 : decode cX4_readFull 9 = .ok (.aload_n 0, 1) := by decide +kernel
theorem dX4_readFull_10 : decode cX4_readFull 10 = .ok (.iload_n 2, 1) := by decide +kernel
theorem dX4_readFull_11 : decode cX4_readFull 11 = .ok (.iload_n 3, 1) := by decide +kernel
theorem dX4_readFull_12 : decode cX4_readFull 12 = .ok (.iload 4, 2) := by decide +kernel
theorem dX4_readFull_14 : decode cX4_readFull 14 = .ok (.invokevirtual 60, 3) := by decide +kernel
theorem dX4_readFull_17 : decode cX4_readFull 17 = .ok (.ifCond .ne 7, 3) := by decide +kernel
theorem dX4_readFull_20 : decode cX4_readFull 20 = .ok (.iconst 1, 1) := by decide +kernel
theorem dX4_readFull_21 : decode cX4_readFull 21 = .ok (.goto 36, 3) := by decide +kernel
theorem dX4_readFull_24 : decode cX4_readFull 24 = .ok (.aload_n 0, 1) := by decide +kernel
theorem dX4_readFull_25 : decode cX4_readFull 25 = .ok (.getfield 19, 3) := by decide +kernel
theorem dX4_readFull_28 : decode cX4_readFull 28 = .ok (.iload_n 1, 1) := by decide +kernel
theorem dX4_readFull_29 : decode cX4_readFull 29 = .ok (.iaload, 1) := by decide +kernel
theorem dX4_readFull_30 : decode cX4_readFull 30 = .ok (.ifCond .ge 7, 3) := by decide +kernel
theorem dX4_readFull_33 : decode cX4_readFull 33 = .ok (.iconst 2, 1) := by decide +kernel
theorem dX4_readFull_34 : decode cX4_readFull 34 = .ok (.goto 23, 3) := by decide +kernel
theorem dX4_readFull_37 : decode cX4_readFull 37 = .ok (.aload_n 0, 1) := by decide +kernel
theorem dX4_readFull_38 : decode cX4_readFull 38 = .ok (.getfield 19, 3) := by decide +kernel
theorem dX4_readFull_41 : decode cX4_readFull 41 = .ok (.iload_n 1, 1) := by decide +kernel
theorem dX4_readFull_42 : decode cX4_readFull 42 = .ok (.iaload, 1) := by decide +kernel
theorem dX4_readFull_43 : decode cX4_readFull 43 = .ok (.aload_n 0, 1) := by decide +kernel
theorem dX4_readFull_44 : decode cX4_readFull 44 = .ok (.getfield 16, 3) := by decide +kernel
theorem dX4_readFull_47 : decode cX4_readFull 47 = .ok (.iload_n 2, 1) := by decide +kernel
theorem dX4_readFull_48 : decode cX4_readFull 48 = .ok (.iaload, 1) := by decide +kernel
theorem dX4_readFull_49 : decode cX4_readFull 49 = .ok (.if_icmp .ne 7, 3) := by decide +kernel
theorem dX4_readFull_52 : decode cX4_readFull 52 = .ok (.iconst 3, 1) := by decide +kernel
theorem dX4_readFull_53 : decode cX4_readFull 53 = .ok (.goto 4, 3) := by decide +kernel
theorem dX4_readFull_56 : decode cX4_readFull 56 = .ok (.iconst 0, 1) := by decide +kernel
theorem dX4_readFull_57 : decode cX4_readFull 57 = .ok (.invokevirtual 53, 3) := by decide +kernel
theorem dX4_readFull_60 : decode cX4_readFull 60 = .ok (.ifCond .eq 5, 3) := by decide +kernel
theorem dX4_readFull_63 : decode cX4_readFull 63 = .ok (.iconst 0, 1) := by decide +kernel
theorem dX4_readFull_64 : decode cX4_readFull 64 = .ok (.ireturn, 1) := by decide +kernel
theorem dX4_readFull_65 : decode cX4_readFull 65 = .ok (.aload_n 0, 1) := by decide +kernel
theorem dX4_readFull_66 : decode cX4_readFull 66 = .ok (.iload_n 1, 1) := by decide +kernel
theorem dX4_readFull_67 : decode cX4_readFull 67 = .ok (.iload_n 2, 1) := by decide +kernel
theorem dX4_readFull_68 : decode cX4_readFull 68 = .ok (.iload_n 3, 1) := by decide +kernel
theorem dX4_readFull_69 : decode cX4_readFull 69 = .ok (.iload 4, 2) := by decide +kernel
theorem dX4_readFull_71 : decode cX4_readFull 71 = .ok (.invokevirtual 97, 3) := by decide +kernel
theorem dX4_readFull_74 : decode cX4_readFull 74 = .ok (.ireturn, 1) := by decide +kernel
theorem dX4_readSome_0 : decode cX4_readSome 0 = .ok (.aload_n 0, 1) := by decide +kernel
theorem dX4_readSome_1 : decode cX4_readSome 1 = .ok (.aload_n 0, 1) := by decide +kernel
theorem dX4_readSome_2 : decode cX4_readSome 2 = .ok (.iload_n 1, 1) := by decide +kernel
theorem dX4_readSome_3 : decode cX4_readSome 3 = .ok (.invokevirtual 67, 3) := by decide +kernel
theorem dX4_readSome_6 : decode cX4_readSome 6 = .ok (.ifCond .eq 11, 3) := by decide +kernel
theorem dX4_readSome_9 : decode cX4_readSome 9 = .ok (.aload_n 0, 1) := by decide +kernel
theorem dX4_readSome_10 : decode cX4_readSome 10 = .ok (.iload_n 2, 1) := by decide +kernel
theorem dX4_readSome_11 : decode cX4_readSome 11 = .ok (.invokevirtual 41, 3) := by decide +kernel
theorem dX4_readSome_14 : decode cX4_readSome 14 = .ok (.ifCond .ne 7, 3) := by decide +kernel
theorem dX4_readSome_17 : decode cX4_readSome 17 = .ok (.iconst 1, 1) := by decide +kernel
theorem dX4_readSome_18 : decode cX4_readSome 18 = .ok (.goto 25, 3) := by decide +kernel
theorem dX4_readSome_21 : decode cX4_readSome 21 = .ok (.iload_n 3, 1) := by decide +kernel
theorem dX4_readSome_22 : decode cX4_readSome 22 = .ok (.ifCond .ge 7, 3) := by decide +kernel
theorem dX4_readSome_25 : decode cX4_readSome 25 = .ok (.iconst 2, 1) := by decide +kernel
theorem dX4_readSome_26 : decode cX4_readSome 26 = .ok (.goto 17, 3) := by decide +kernel
theorem dX4_readSome_29 : decode cX4_readSome 29 = .ok (.aload_n 0, 1) := by decide +kernel
theorem dX4_readSome_30 : decode cX4_readSome 30 = .ok (.getfield 19, 3) := by decide +kernel
theorem dX4_readSome_33 : decode cX4_readSome 33 = .ok (.iload_n 1, 1) := by decide +kernel
theorem dX4_readSome_34 : decode cX4_readSome 34 = .ok (.iaload, 1) := by decide +kernel
theorem dX4_readSome_35 : decode cX4_readSome 35 = .ok (.ifCond .ge 7, 3) := by decide +kernel
theorem dX4_readSome_38 : decode cX4_readSome 38 = .ok (.iconst 3, 1) := by decide +kernel
theorem dX4_readSome_39 : decode cX4_readSome 39 = .ok (.goto 4, 3) := by decide +kernel
theorem dX4_readSome_42 : decode cX4_readSome 42 = .ok (.iconst 0, 1) := by decide +kernel
theorem dX4_readSome_43 : decode cX4_readSome 43 = .ok (.invokevirtual 53, 3) := by decide +kernel
theorem dX4_readSome_46 : decode cX4_readSome 46 = .ok (.ifCond .eq 5, 3) := by decide +kernel
theorem dX4_readSome_49 : decode cX4_readSome 49 = .ok (.iconst 0, 1) := by decide +kernel
theorem dX4_readSome_50 : decode cX4_readSome 50 = .ok (.ireturn, 1) := by decide +kernel
theorem dX4_readSome_51 : decode cX4_readSome 51 = .ok (.aload_n 0, 1) := by decide +kernel
theorem dX4_readSome_52 : decode cX4_readSome 52 = .ok (.iload_n 1, 1) := by decide +kernel
theorem dX4_readSome_53 : decode cX4_readSome 53 = .ok (.iload_n 3, 1) := by decide +kernel
theorem dX4_readSome_54 : decode cX4_readSome 54 = .ok (.invokevirtual 94, 3) := by decide +kernel
theorem dX4_readSome_57 : decode cX4_readSome 57 = .ok (.istore 4, 2) := by decide +kernel
theorem dX4_readSome_59 : decode cX4_readSome 59 = .ok (.aload_n 0, 1) := by decide +kernel
theorem dX4_readSome_60 : decode cX4_readSome 60 = .ok (.iload_n 2, 1) := by decide +kernel
theorem dX4_readSome_61 : decode cX4_readSome 61 = .ok (.iload 4, 2) := by decide +kernel
theorem dX4_readSome_63 : decode cX4_readSome 63 = .ok (.invokevirtual 56, 3) := by decide +kernel
theorem dX4_readSome_66 : decode cX4_readSome 66 = .ok (.iload 4, 2) := by decide +kernel
theorem dX4_readSome_68 : decode cX4_readSome 68 = .ok (.ireturn, 1) := by decide +kernel
theorem dX4_readNumber_0 : decode cX4_readNumber 0 = .ok (.aload_n 0, 1) := by decide +kernel
theorem dX4_readNumber_1 : decode cX4_readNumber 1 = .ok (.aload_n 0, 1) := by decide +kernel
theorem dX4_readNumber_2 : decode cX4_readNumber 2 = .ok (.iload_n 1, 1) := by decide +kernel
theorem dX4_readNumber_3 : decode cX4_readNumber 3 = .ok (.invokevirtual 67, 3) := by decide +kernel
theorem dX4_readNumber_6 : decode cX4_readNumber 6 = .ok (.ifCond .ne 7, 3) := by decide +kernel
theorem dX4_readNumber_9 : decode cX4_readNumber 9 = .ok (.iconst 1, 1) := by decide +kernel
theorem dX4_readNumber_10 : decode cX4_readNumber 10 = .ok (.goto 30, 3) := by decide +kernel
theorem dX4_readNumber_13 : decode cX4_readNumber 13 = .ok (.aload_n 0, 1) := by decide +kernel
theorem dX4_readNumber_14 : decode cX4_readNumber 14 = .ok (.getfield 19, 3) := by decide +kernel
theorem dX4_readNumber_17 : decode cX4_readNumber 17 = .ok (.iload_n 1, 1) := by decide +kernel
theorem dX4_readNumber_18 : decode cX4_readNumber 18 = .ok (.iaload, 1) := by decide +kernel
theorem dX4_readNumber_19 : decode cX4_readNumber 19 = .ok (.ifCond .ge 7, 3) := by decide +kernel
theorem dX4_readNumber_22 : decode cX4_readNumber 22 = .ok (.iconst 2, 1) := by decide +kernel
theorem dX4_readNumber_23 : decode cX4_readNumber 23 = .ok (.goto 17, 3) := by decide +kernel
theorem dX4_readNumber_26 : decode cX4_readNumber 26 = .ok (.aload_n 0, 1) := by decide +kernel
theorem dX4_readNumber_27 : decode cX4_readNumber 27 = .ok (.iload_n 1, 1) := by decide +kernel
theorem dX4_readNumber_28 : decode cX4_readNumber 28 = .ok (.invokevirtual 81, 3) := by decide +kernel
theorem dX4_readNumber_31 : decode cX4_readNumber 31 = .ok (.iconst 4, 1) := by decide +kernel
theorem dX4_readNumber_32 : decode cX4_readNumber 32 = .ok (.if_icmp .ge 7, 3) := by decide +kernel
theorem dX4_readNumber_35 : decode cX4_readNumber 35 = .ok (.iconst 3, 1) := by decide +kernel
theorem dX4_readNumber_36 : decode cX4_readNumber 36 = .ok (.goto 4, 3) := by decide +kernel
theorem dX4_readNumber_39 : decode cX4_readNumber 39 = .ok (.iconst 0, 1) := by decide +kernel
theorem dX4_readNumber_40 : decode cX4_readNumber 40 = .ok (.invokevirtual 53, 3) := by decide +kernel
theorem dX4_readNumber_43 : decode cX4_readNumber 43 = .ok (.ifCond .eq 5, 3) := by decide +kernel
theorem dX4_readNumber_46 : decode cX4_readNumber 46 = .ok (.iconst 0, 1) := by decide +kernel
theorem dX4_readNumber_47 : decode cX4_readNumber 47 = .ok (.ireturn, 1) := by decide +kernel
theorem dX4_readNumber_48 : decode cX4_readNumber 48 = .ok (.aload_n 0, 1) := by decide +kernel
theorem dX4_readNumber_49 : decode cX4_readNumber 49 = .ok (.iload_n 1, 1) := by decide +kernel
theorem dX4_readNumber_50 : decode cX4_readNumber 50 = .ok (.iconst 4, 1) := by decide +kernel
theorem dX4_readNumber_51 : decode cX4_readNumber 51 = .ok (.invokevirtual 94, 3) := by decide +kernel
theorem dX4_readNumber_54 : decode cX4_readNumber 54 = .ok (.pop, 1) := by decide +kernel
theorem dX4_readNumber_55 : decode cX4_readNumber 55 = .ok (.iconst 0, 1) := by decide +kernel
theorem dX4_readNumber_56 : decode cX4_readNumber 56 = .ok (.istore_n 2, 1) := by decide +kernel
theorem dX4_readNumber_57 : decode cX4_readNumber 57 = .ok (.iconst 0, 1) := by decide +kernel
theorem dX4_readNumber_58 : decode cX4_readNumber 58 = .ok (.istore_n 3, 1) := by decide +kernel
theorem dX4_readNumber_59 : decode cX4_readNumber 59 = .ok (.iload_n 3, 1) := by decide +kernel
theorem dX4_readNumber_60 : decode cX4_readNumber 60 = .ok (.iconst 4, 1) := by decide +kernel
theorem dX4_readNumber_61 : decode cX4_readNumber 61 = .ok (.if_icmp .ge 25, 3) := by decide +kernel
theorem dX4_readNumber_64 : decode cX4_readNumber 64 = .ok (.iload_n 2, 1) := by decide +kernel
theorem dX4_readNumber_65 : decode cX4_readNumber 65 = .ok (.bipush 8, 2) := by decide +kernel
theorem dX4_readNumber_67 : decode cX4_readNumber 67 = .ok (.ishl, 1) := by decide +kernel
theorem dX4_readNumber_68 : decode cX4_readNumber 68 = .ok (.aload_n 0, 1) := by decide +kernel
theorem dX4_readNumber_69 : decode cX4_readNumber 69 = .ok (.getfield 34, 3) := by decide +kernel
theorem dX4_readNumber_72 : decode cX4_readNumber 72 = .ok (.iload_n 3, 1) := by decide +kernel
theorem dX4_readNumber_73 : decode cX4_readNumber 73 = .ok (.iaload, 1) := by decide +kernel
theorem dX4_readNumber_74 : decode cX4_readNumber 74 = .ok (.sipush 255, 3) := by decide +kernel
theorem dX4_readNumber_77 : decode cX4_readNumber 77 = .ok (.iand, 1) := by decide +kernel
theorem dX4_readNumber_78 : decode cX4_readNumber 78 = .ok (.ior, 1) := by decide +kernel
theorem dX4_readNumber_79 : decode cX4_readNumber 79 = .ok (.istore_n 2, 1) := by decide +kernel
theorem dX4_readNumber_80 : decode cX4_readNumber 80 = .ok (.iinc 3 1, 3) := by decide +kernel
theorem dX4_readNumber_83 : decode cX4_readNumber 83 = .ok (.goto (-24), 3) := by decide +kernel
theorem dX4_readNumber_86 : decode cX4_readNumber 86 = .ok (.iload_n 2, 1) := by decide +kernel
theorem dX4_readNumber_87 : decode cX4_readNumber 87 = .ok (.ireturn, 1) := by decide +kernel
theorem dX4_readLine_0 : decode cX4_readLine 0 = .ok (.aload_n 0, 1) := by decide +kernel
theorem dX4_readLine_1 : decode cX4_readLine 1 = .ok (.aload_n 0, 1) := by decide +kernel
theorem dX4_readLine_2 : decode cX4_readLine 2 = .ok (.iload_n 1, 1) := by decide +kernel
theorem dX4_readLine_3 : decode cX4_readLine 3 = .ok (.invokevirtual 67, 3) := by decide +kernel
theorem dX4_readLine_6 : decode cX4_readLine 6 = .ok (.ifCond .eq 11, 3) := by decide +kernel
theorem dX4_readLine_9 : decode cX4_readLine 9 = .ok (.aload_n 0, 1) := by decide +kernel
theorem dX4_readLine_10 : decode cX4_readLine 10 = .ok (.iload_n 2, 1) := by decide +kernel
theorem dX4_readLine_11 : decode cX4_readLine 11 = .ok (.invokevirtual 41, 3) := by decide +kernel
theorem dX4_readLine_14 : decode cX4_readLine 14 = .ok (.ifCond .ne 7, 3) := by decide +kernel
theorem dX4_readLine_17 : decode cX4_readLine 17 = .ok (.iconst 1, 1) := by decide +kernel
theorem dX4_readLine_18 : decode cX4_readLine 18 = .ok (.goto 17, 3) := by decide +kernel
theorem dX4_readLine_21 : decode cX4_readLine 21 = .ok (.aload_n 0, 1) := by decide +kernel
theorem dX4_readLine_22 : decode cX4_readLine 22 = .ok (.getfield 19, 3) := by decide +kernel
theorem dX4_readLine_25 : decode cX4_readLine 25 = .ok (.iload_n 1, 1) := by decide +kernel
theorem dX4_readLine_26 : decode cX4_readLine 26 = .ok (.iaload, 1) := by decide +kernel
theorem dX4_readLine_27 : decode cX4_readLine 27 = .ok (.ifCond .ge 7, 3) := by decide +kernel
theorem dX4_readLine_30 : decode cX4_readLine 30 = .ok (.iconst 2, 1) := by decide +kernel
theorem dX4_readLine_31 : decode cX4_readLine 31 = .ok (.goto 4, 3) := by decide +kernel
theorem dX4_readLine_34 : decode cX4_readLine 34 = .ok (.iconst 0, 1) := by decide +kernel
theorem dX4_readLine_35 : decode cX4_readLine 35 = .ok (.invokevirtual 53, 3) := by decide +kernel
theorem dX4_readLine_38 : decode cX4_readLine 38 = .ok (.ifCond .eq 5, 3) := by decide +kernel
theorem dX4_readLine_41 : decode cX4_readLine 41 = .ok (.iconst 0, 1) := by decide +kernel
theorem dX4_readLine_42 : decode cX4_readLine 42 = .ok (.ireturn, 1) := by decide +kernel
theorem dX4_readLine_43 : decode cX4_readLine 43 = .ok (.aload_n 0, 1) := by decide +kernel
theorem dX4_readLine_44 : decode cX4_readLine 44 = .ok (.iload_n 1, 1) := by decide +kernel
theorem dX4_readLine_45 : decode cX4_readLine 45 = .ok (.invokevirtual 81, 3) := by decide +kernel
theorem dX4_readLine_48 : decode cX4_readLine 48 = .ok (.ifCond .ne 5, 3) := by decide +kernel
theorem dX4_readLine_51 : decode cX4_readLine 51 = .ok (.iconst (-1), 1) := by decide +kernel
theorem dX4_readLine_52 : decode cX4_readLine 52 = .ok (.ireturn, 1) := by decide +kernel
theorem dX4_readLine_53 : decode cX4_readLine 53 = .ok (.iconst 0, 1) := by decide +kernel
theorem dX4_readLine_54 : decode cX4_readLine 54 = .ok (.istore_n 3, 1) := by decide +kernel
theorem dX4_readLine_55 : decode cX4_readLine 55 = .ok (.iload_n 3, 1) := by decide +kernel
theorem dX4_readLine_56 : decode cX4_readLine 56 = .ok (.aload_n 0, 1) := by decide +kernel
theorem dX4_readLine_57 : decode cX4_readLine 57 = .ok (.iload_n 1, 1) := by decide +kernel
theorem dX4_readLine_58 : decode cX4_readLine 58 = .ok (.invokevirtual 81, 3) := by decide +kernel
theorem dX4_readLine_61 : decode cX4_readLine 61 = .ok (.if_icmp .ge 38, 3) := by decide +kernel
theorem dX4_readLine_64 : decode cX4_readLine 64 = .ok (.aload_n 0, 1) := by decide +kernel
theorem dX4_readLine_65 : decode cX4_readLine 65 = .ok (.getfield 7, 3) := by decide +kernel
theorem dX4_readLine_68 : decode cX4_readLine 68 = .ok (.sipush 256, 3) := by decide +kernel
theorem dX4_readLine_71 : decode cX4_readLine 71 = .ok (.aload_n 0, 1) := by decide +kernel
theorem dX4_readLine_72 : decode cX4_readLine 72 = .ok (.getfield 19, 3) := by decide +kernel
theorem dX4_readLine_75 : decode cX4_readLine 75 = .ok (.iload_n 1, 1) := by decide +kernel
theorem dX4_readLine_76 : decode cX4_readLine 76 = .ok (.iaload, 1) := by decide +kernel
theorem dX4_readLine_77 : decode cX4_readLine 77 = .ok (.imul, 1) := by decide +kernel
theorem dX4_readLine_78 : decode cX4_readLine 78 = .ok (.aload_n 0, 1) := by decide +kernel
theorem dX4_readLine_79 : decode cX4_readLine 79 = .ok (.getfield 22, 3) := by decide +kernel
theorem dX4_readLine_82 : decode cX4_readLine 82 = .ok (.iload_n 1, 1) := by decide +kernel
theorem dX4_readLine_83 : decode cX4_readLine 83 = .ok (.iaload, 1) := by decide +kernel
theorem dX4_readLine_84 : decode cX4_readLine 84 = .ok (.iadd, 1) := by decide +kernel
theorem dX4_readLine_85 : decode cX4_readLine 85 = .ok (.iload_n 3, 1) := by decide +kernel
theorem dX4_readLine_86 : decode cX4_readLine 86 = .ok (.iadd, 1) := by decide +kernel
theorem dX4_readLine_87 : decode cX4_readLine 87 = .ok (.iaload, 1) := by decide +kernel
theorem dX4_readLine_88 : decode cX4_readLine 88 = .ok (.bipush 10, 2) := by decide +kernel
theorem dX4_readLine_90 : decode cX4_readLine 90 = .ok (.if_icmp .eq 9, 3) := by decide +kernel
theorem dX4_readLine_93 : decode cX4_readLine 93 = .ok (.iinc 3 1, 3) := by decide +kernel
theorem dX4_readLine_96 : decode cX4_readLine 96 = .ok (.goto (-41), 3) := by decide +kernel
theorem dX4_readLine_99 : decode cX4_readLine 99 = .ok (.aload_n 0, 1) := by decide +kernel
theorem dX4_readLine_100 : decode cX4_readLine 100 = .ok (.iload_n 1, 1) := by decide +kernel
theorem dX4_readLine_101 : decode cX4_readLine 101 = .ok (.iload_n 3, 1) := by decide +kernel
theorem dX4_readLine_102 : decode cX4_readLine 102 = .ok (.invokevirtual 94, 3) := by decide +kernel
theorem dX4_readLine_105 : decode cX4_readLine 105 = .ok (.pop, 1) := by decide +kernel
theorem dX4_readLine_106 : decode cX4_readLine 106 = .ok (.aload_n 0, 1) := by decide +kernel
theorem dX4_readLine_107 : decode cX4_readLine 107 = .ok (.iload_n 1, 1) := by decide +kernel
theorem dX4_readLine_108 : decode cX4_readLine 108 = .ok (.invokevirtual 81, 3) := by decide +kernel
theorem dX4_readLine_111 : decode cX4_readLine 111 = .ok (.ifCond .le 13, 3) := by decide +kernel
theorem dX4_readLine_114 : decode cX4_readLine 114 = .ok (.aload_n 0, 1) := by decide +kernel
theorem dX4_readLine_115 : decode cX4_readLine 115 = .ok (.getfield 22, 3) := by decide +kernel
theorem dX4_readLine_118 : decode cX4_readLine 118 = .ok (.iload_n 1, 1) := by decide +kernel
theorem dX4_readLine_119 : decode cX4_readLine 119 = .ok (.dup2, 1) := by decide +kernel
theorem dX4_readLine_120 : decode cX4_readLine 120 = .ok (.iaload, 1) := by decide +kernel
theorem dX4_readLine_121 : decode cX4_readLine 121 = .ok (.iconst 1, 1) := by decide +kernel
theorem dX4_readLine_122 : decode cX4_readLine 122 = .ok (.iadd, 1) := by decide +kernel
theorem dX4_readLine_123 : decode cX4_readLine 123 = .ok (.iastore, 1) := by decide +kernel
theorem dX4_readLine_124 : decode cX4_readLine 124 = .ok (.aload_n 0, 1) := by decide +kernel
theorem dX4_readLine_125 : decode cX4_readLine 125 = .ok (.iload_n 2, 1) := by decide +kernel
theorem dX4_readLine_126 : decode cX4_readLine 126 = .ok (.iload_n 3, 1) := by decide +kernel
theorem dX4_readLine_127 : decode cX4_readLine 127 = .ok (.invokevirtual 56, 3) := by decide +kernel
theorem dX4_readLine_130 : decode cX4_readLine 130 = .ok (.iload_n 3, 1) := by decide +kernel
theorem dX4_readLine_131 : decode cX4_readLine 131 = .ok (.ireturn, 1) := by decide +kernel
theorem dX4_find_0 : decode cX4_find 0 = .ok (.aload_n 0, 1) := by decide +kernel
theorem dX4_find_1 : decode cX4_find 1 = .ok (.iload_n 1, 1) := by decide +kernel
theorem dX4_find_2 : decode cX4_find 2 = .ok (.invokevirtual 84, 3) := by decide +kernel
theorem dX4_find_5 : decode cX4_find 5 = .ok (.ifCond .eq 5, 3) := by decide +kernel
theorem dX4_find_8 : decode cX4_find 8 = .ok (.iconst 0, 1) := by decide +kernel
theorem dX4_find_9 : decode cX4_find 9 = .ok (.ireturn, 1) := by decide +kernel
theorem dX4_find_10 : decode cX4_find 10 = .ok (.iconst 0, 1) := by decide +kernel
theorem dX4_find_11 : decode cX4_find 11 = .ok (.istore_n 3, 1) := by decide +kernel
theorem dX4_find_12 : decode cX4_find 12 = .ok (.iconst 0, 1) := by decide +kernel
theorem dX4_find_13 : decode cX4_find 13 = .ok (.istore 4, 2) := by decide +kernel
theorem dX4_find_15 : decode cX4_find 15 = .ok (.iload 4, 2) := by decide +kernel
theorem dX4_find_17 : decode cX4_find 17 = .ok (.ifCond .ne 47, 3) := by decide +kernel
theorem dX4_find_20 : decode cX4_find 20 = .ok (.aload_n 0, 1) := by decide +kernel
theorem dX4_find_21 : decode cX4_find 21 = .ok (.iload_n 1, 1) := by decide +kernel
theorem dX4_find_22 : decode cX4_find 22 = .ok (.invokevirtual 81, 3) := by decide +kernel
theorem dX4_find_25 : decode cX4_find 25 = .ok (.ifCond .le 39, 3) := by decide +kernel
theorem dX4_find_28 : decode cX4_find 28 = .ok (.aload_n 0, 1) := by decide +kernel
theorem dX4_find_29 : decode cX4_find 29 = .ok (.iload_n 1, 1) := by decide +kernel
theorem dX4_find_30 : decode cX4_find 30 = .ok (.invokevirtual 91, 3) := by decide +kernel
theorem dX4_find_33 : decode cX4_find 33 = .ok (.sipush 255, 3) := by decide +kernel
theorem dX4_find_36 : decode cX4_find 36 = .ok (.iand, 1) := by decide +kernel
theorem dX4_find_37 : decode cX4_find 37 = .ok (.iload_n 2, 1) := by decide +kernel
theorem dX4_find_38 : decode cX4_find 38 = .ok (.if_icmp .ne 7, 3) := by decide +kernel
theorem dX4_find_41 : decode cX4_find 41 = .ok (.iconst 1, 1) := by decide +kernel
theorem dX4_find_42 : decode cX4_find 42 = .ok (.goto 4, 3) := by decide +kernel
theorem dX4_find_45 : decode cX4_find 45 = .ok (.iconst 0, 1) := by decide +kernel
theorem dX4_find_46 : decode cX4_find 46 = .ok (.istore 4, 2) := by decide +kernel
theorem dX4_find_48 : decode cX4_find 48 = .ok (.aload_n 0, 1) := by decide +kernel
theorem dX4_find_49 : decode cX4_find 49 = .ok (.getfield 22, 3) := by decide +kernel
theorem dX4_find_52 : decode cX4_find 52 = .ok (.iload_n 1, 1) := by decide +kernel
theorem dX4_find_53 : decode cX4_find 53 = .ok (.dup2, 1) := by decide +kernel
theorem dX4_find_54 : decode cX4_find 54 = .ok (.iaload, 1) := by decide +kernel
theorem dX4_find_55 : decode cX4_find 55 = .ok (.iconst 1, 1) := by decide +kernel
theorem dX4_find_56 : decode cX4_find 56 = .ok (.iadd, 1) := by decide +kernel
theorem dX4_find_57 : decode cX4_find 57 = .ok (.iastore, 1) := by decide +kernel
theorem dX4_find_58 : decode cX4_find 58 = .ok (.iinc 3 1, 3) := by decide +kernel
theorem dX4_find_61 : decode cX4_find 61 = .ok (.goto (-46), 3) := by decide +kernel
theorem dX4_find_64 : decode cX4_find 64 = .ok (.iload 4, 2) := by decide +kernel
theorem dX4_find_66 : decode cX4_find 66 = .ok (.ifCond .eq 7, 3) := by decide +kernel
theorem dX4_find_69 : decode cX4_find 69 = .ok (.iload_n 3, 1) := by decide +kernel
theorem dX4_find_70 : decode cX4_find 70 = .ok (.goto 6, 3) := by decide +kernel
theorem dX4_find_73 : decode cX4_find 73 = .ok (.iconst (-1), 1) := by decide +kernel
theorem dX4_find_74 : decode cX4_find 74 = .ok (.iload_n 3, 1) := by decide +kernel
theorem dX4_find_75 : decode cX4_find 75 = .ok (.isub, 1) := by decide +kernel
theorem dX4_find_76 : decode cX4_find 76 = .ok (.ireturn, 1) := by decide +kernel
theorem dX4_skip_0 : decode cX4_skip 0 = .ok (.aload_n 0, 1) := by decide +kernel
theorem dX4_skip_1 : decode cX4_skip 1 = .ok (.aload_n 0, 1) := by decide +kernel
theorem dX4_skip_2 : decode cX4_skip 2 = .ok (.iload_n 1, 1) := by decide +kernel
theorem dX4_skip_3 : decode cX4_skip 3 = .ok (.invokevirtual 67, 3) := by decide +kernel
theorem dX4_skip_6 : decode cX4_skip 6 = .ok (.ifCond .ne 7, 3) := by decide +kernel
theorem dX4_skip_9 : decode cX4_skip 9 = .ok (.iconst 1, 1) := by decide +kernel
theorem dX4_skip_10 : decode cX4_skip 10 = .ok (.goto 27, 3) := by decide +kernel
theorem dX4_skip_13 : decode cX4_skip 13 = .ok (.lload_n 2, 1) := by decide +kernel
theorem dX4_skip_14 : decode cX4_skip 14 = .ok (.lconst 0, 1) := by decide +kernel
theorem dX4_skip_15 : decode cX4_skip 15 = .ok (.lcmp, 1) := by decide +kernel
theorem dX4_skip_16 : decode cX4_skip 16 = .ok (.ifCond .ge 7, 3) := by decide +kernel
theorem dX4_skip_19 : decode cX4_skip 19 = .ok (.iconst 2, 1) := by decide +kernel
theorem dX4_skip_20 : decode cX4_skip 20 = .ok (.goto 17, 3) := by decide +kernel
theorem dX4_skip_23 : decode cX4_skip 23 = .ok (.aload_n 0, 1) := by decide +kernel
theorem dX4_skip_24 : decode cX4_skip 24 = .ok (.getfield 19, 3) := by decide +kernel
theorem dX4_skip_27 : decode cX4_skip 27 = .ok (.iload_n 1, 1) := by decide +kernel
theorem dX4_skip_28 : decode cX4_skip 28 = .ok (.iaload, 1) := by decide +kernel
theorem dX4_skip_29 : decode cX4_skip 29 = .ok (.ifCond .ge 7, 3) := by decide +kernel
theorem dX4_skip_32 : decode cX4_skip 32 = .ok (.iconst 3, 1) := by decide +kernel
theorem dX4_skip_33 : decode cX4_skip 33 = .ok (.goto 4, 3) := by decide +kernel
theorem dX4_skip_36 : decode cX4_skip 36 = .ok (.iconst 0, 1) := by decide +kernel
theorem dX4_skip_37 : decode cX4_skip 37 = .ok (.invokevirtual 53, 3) := by decide +kernel
theorem dX4_skip_40 : decode cX4_skip 40 = .ok (.ifCond .eq 5, 3) := by decide +kernel
theorem dX4_skip_43 : decode cX4_skip 43 = .ok (.lconst 0, 1) := by decide +kernel
theorem dX4_skip_44 : decode cX4_skip 44 = .ok (.lreturn, 1) := by decide +kernel
theorem dX4_skip_45 : decode cX4_skip 45 = .ok (.lload_n 2, 1) := by decide +kernel
theorem dX4_skip_46 : decode cX4_skip 46 = .ok (.aload_n 0, 1) := by decide +kernel
theorem dX4_skip_47 : decode cX4_skip 47 = .ok (.iload_n 1, 1) := by decide +kernel
theorem dX4_skip_48 : decode cX4_skip 48 = .ok (.invokevirtual 81, 3) := by decide +kernel
theorem dX4_skip_51 : decode cX4_skip 51 = .ok (.i2l, 1) := by decide +kernel
theorem dX4_skip_52 : decode cX4_skip 52 = .ok (.lcmp, 1) := by decide +kernel
theorem dX4_skip_53 : decode cX4_skip 53 = .ok (.ifCond .ge 8, 3) := by decide +kernel
theorem dX4_skip_56 : decode cX4_skip 56 = .ok (.lload_n 2, 1) := by decide +kernel
theorem dX4_skip_57 : decode cX4_skip 57 = .ok (.l2i, 1) := by decide +kernel
theorem dX4_skip_58 : decode cX4_skip 58 = .ok (.goto 8, 3) := by decide +kernel
theorem dX4_skip_61 : decode cX4_skip 61 = .ok (.aload_n 0, 1) := by decide +kernel
theorem dX4_skip_62 : decode cX4_skip 62 = .ok (.iload_n 1, 1) := by decide +kernel
theorem dX4_skip_63 : decode cX4_skip 63 = .ok (.invokevirtual 81, 3) := by decide +kernel
theorem dX4_skip_66 : decode cX4_skip 66 = .ok (.istore 4, 2) := by decide +kernel
theorem dX4_skip_68 : decode cX4_skip 68 = .ok (.aload_n 0, 1) := by decide +kernel
theorem dX4_skip_69 : decode cX4_skip 69 = .ok (.getfield 22, 3) := by decide +kernel
theorem dX4_skip_72 : decode cX4_skip 72 = .ok (.iload_n 1, 1) := by decide +kernel
theorem dX4_skip_73 : decode cX4_skip 73 = .ok (.dup2, 1) := by decide +kernel
theorem dX4_skip_74 : decode cX4_skip 74 = .ok (.iaload, 1) := by decide +kernel
theorem dX4_skip_75 : decode cX4_skip 75 = .ok (.iload 4, 2) := by decide +kernel
theorem dX4_skip_77 : decode cX4_skip 77 = .ok (.iadd, 1) := by decide +kernel
theorem dX4_skip_78 : decode cX4_skip 78 = .ok (.iastore, 1) := by decide +kernel
theorem dX4_skip_79 : decode cX4_skip 79 = .ok (.iload 4, 2) := by decide +kernel
theorem dX4_skip_81 : decode cX4_skip 81 = .ok (.i2l, 1) := by decide +kernel
theorem dX4_skip_82 : decode cX4_skip 82 = .ok (.lreturn, 1) := by decide +kernel
theorem dX4_left_0 : decode cX4_left 0 = .ok (.aload_n 0, 1) := by decide +kernel
theorem dX4_left_1 : decode cX4_left 1 = .ok (.iload_n 1, 1) := by decide +kernel
theorem dX4_left_2 : decode cX4_left 2 = .ok (.invokevirtual 84, 3) := by decide +kernel
theorem dX4_left_5 : decode cX4_left 5 = .ok (.ifCond .eq 7, 3) := by decide +kernel
theorem dX4_left_8 : decode cX4_left 8 = .ok (.iconst 0, 1) := by decide +kernel
theorem dX4_left_9 : decode cX4_left 9 = .ok (.goto 8, 3) := by decide +kernel
theorem dX4_left_12 : decode cX4_left 12 = .ok (.aload_n 0, 1) := by decide +kernel
theorem dX4_left_13 : decode cX4_left 13 = .ok (.iload_n 1, 1) := by decide +kernel
theorem dX4_left_14 : decode cX4_left 14 = .ok (.invokevirtual 81, 3) := by decide +kernel
theorem dX4_left_17 : decode cX4_left 17 = .ok (.ireturn, 1) := by decide +kernel
theorem dX4_mark_0 : decode cX4_mark 0 = .ok (.aload_n 0, 1) := by decide +kernel
theorem dX4_mark_1 : decode cX4_mark 1 = .ok (.iload_n 1, 1) := by decide +kernel
theorem dX4_mark_2 : decode cX4_mark 2 = .ok (.invokevirtual 84, 3) := by decide +kernel
theorem dX4_mark_5 : decode cX4_mark 5 = .ok (.ifCond .eq 5, 3) := by decide +kernel
theorem dX4_mark_8 : decode cX4_mark 8 = .ok (.iconst 0, 1) := by decide +kernel
theorem dX4_mark_9 : decode cX4_mark 9 = .ok (.ireturn, 1) := by decide +kernel
theorem dX4_mark_10 : decode cX4_mark 10 = .ok (.aload_n 0, 1) := by decide +kernel
theorem dX4_mark_11 : decode cX4_mark 11 = .ok (.getfield 25, 3) := by decide +kernel
theorem dX4_mark_14 : decode cX4_mark 14 = .ok (.iload_n 1, 1) := by decide +kernel
theorem dX4_mark_15 : decode cX4_mark 15 = .ok (.aload_n 0, 1) := by decide +kernel
theorem dX4_mark_16 : decode cX4_mark 16 = .ok (.getfield 22, 3) := by decide +kernel
theorem dX4_mark_19 : decode cX4_mark 19 = .ok (.iload_n 1, 1) := by decide +kernel
theorem dX4_mark_20 : decode cX4_mark 20 = .ok (.iaload, 1) := by decide +kernel
theorem dX4_mark_21 : decode cX4_mark 21 = .ok (.iastore, 1) := by decide +kernel
theorem dX4_mark_22 : decode cX4_mark 22 = .ok (.aload_n 0, 1) := by decide +kernel
theorem dX4_mark_23 : decode cX4_mark 23 = .ok (.iload_n 1, 1) := by decide +kernel
theorem dX4_mark_24 : decode cX4_mark 24 = .ok (.invokevirtual 81, 3) := by decide +kernel
theorem dX4_mark_27 : decode cX4_mark 27 = .ok (.ireturn, 1) := by decide +kernel
theorem dX4_back_0 : decode cX4_back 0 = .ok (.aload_n 0, 1) := by decide +kernel
theorem dX4_back_1 : decode cX4_back 1 = .ok (.iload_n 1, 1) := by decide +kernel
theorem dX4_back_2 : decode cX4_back 2 = .ok (.invokevirtual 84, 3) := by decide +kernel
theorem dX4_back_5 : decode cX4_back 5 = .ok (.ifCond .eq 5, 3) := by decide +kernel
theorem dX4_back_8 : decode cX4_back 8 = .ok (.iconst 0, 1) := by decide +kernel
theorem dX4_back_9 : decode cX4_back 9 = .ok (.ireturn, 1) := by decide +kernel
theorem dX4_back_10 : decode cX4_back 10 = .ok (.aload_n 0, 1) := by decide +kernel
theorem dX4_back_11 : decode cX4_back 11 = .ok (.getfield 22, 3) := by decide +kernel
theorem dX4_back_14 : decode cX4_back 14 = .ok (.iload_n 1, 1) := by decide +kernel
theorem dX4_back_15 : decode cX4_back 15 = .ok (.aload_n 0, 1) := by decide +kernel
theorem dX4_back_16 : decode cX4_back 16 = .ok (.getfield 25, 3) := by decide +kernel
theorem dX4_back_19 : decode cX4_back 19 = .ok (.iload_n 1, 1) := by decide +kernel
theorem dX4_back_20 : decode cX4_back 20 = .ok (.iaload, 1) := by decide +kernel
theorem dX4_back_21 : decode cX4_back 21 = .ok (.iastore, 1) := by decide +kernel
theorem dX4_back_22 : decode cX4_back 22 = .ok (.aload_n 0, 1) := by decide +kernel
theorem dX4_back_23 : decode cX4_back 23 = .ok (.iload_n 1, 1) := by decide +kernel
theorem dX4_back_24 : decode cX4_back 24 = .ok (.invokevirtual 81, 3) := by decide +kernel
theorem dX4_back_27 : decode cX4_back 27 = .ok (.ireturn, 1) := by decide +kernel
theorem dX4_pour_0 : decode cX4_pour 0 = .ok (.aload_n 0, 1) := by decide +kernel
theorem dX4_pour_1 : decode cX4_pour 1 = .ok (.aload_n 0, 1) := by decide +kernel
theorem dX4_pour_2 : decode cX4_pour 2 = .ok (.iload_n 1, 1) := by decide +kernel
theorem dX4_pour_3 : decode cX4_pour 3 = .ok (.invokevirtual 67, 3) := by decide +kernel
theorem dX4_pour_6 : decode cX4_pour 6 = .ok (.ifCond .eq 11, 3) := by decide +kernel
theorem dX4_pour_9 : decode cX4_pour 9 = .ok (.aload_n 0, 1) := by decide +kernel
theorem dX4_pour_10 : decode cX4_pour 10 = .ok (.iload_n 2, 1) := by decide +kernel
theorem dX4_pour_11 : decode cX4_pour 11 = .ok (.invokevirtual 67, 3) := by decide +kernel
theorem dX4_pour_14 : decode cX4_pour 14 = .ok (.ifCond .ne 7, 3) := by decide +kernel
theorem dX4_pour_17 : decode cX4_pour 17 = .ok (.iconst 1, 1) := by decide +kernel
theorem dX4_pour_18 : decode cX4_pour 18 = .ok (.goto 34, 3) := by decide +kernel
theorem dX4_pour_21 : decode cX4_pour 21 = .ok (.aload_n 0, 1) := by decide +kernel
theorem dX4_pour_22 : decode cX4_pour 22 = .ok (.getfield 19, 3) := by decide +kernel
theorem dX4_pour_25 : decode cX4_pour 25 = .ok (.iload_n 1, 1) := by decide +kernel
theorem dX4_pour_26 : decode cX4_pour 26 = .ok (.iaload, 1) := by decide +kernel
theorem dX4_pour_27 : decode cX4_pour 27 = .ok (.ifCond .ge 7, 3) := by decide +kernel
theorem dX4_pour_30 : decode cX4_pour 30 = .ok (.iconst 2, 1) := by decide +kernel
theorem dX4_pour_31 : decode cX4_pour 31 = .ok (.goto 21, 3) := by decide +kernel
theorem dX4_pour_34 : decode cX4_pour 34 = .ok (.aload_n 0, 1) := by decide +kernel
theorem dX4_pour_35 : decode cX4_pour 35 = .ok (.iload_n 2, 1) := by decide +kernel
theorem dX4_pour_36 : decode cX4_pour 36 = .ok (.aload_n 0, 1) := by decide +kernel
theorem dX4_pour_37 : decode cX4_pour 37 = .ok (.iload_n 1, 1) := by decide +kernel
theorem dX4_pour_38 : decode cX4_pour 38 = .ok (.invokevirtual 81, 3) := by decide +kernel
theorem dX4_pour_41 : decode cX4_pour 41 = .ok (.invokevirtual 70, 3) := by decide +kernel
theorem dX4_pour_44 : decode cX4_pour 44 = .ok (.ifCond .eq 7, 3) := by decide +kernel
theorem dX4_pour_47 : decode cX4_pour 47 = .ok (.iconst 3, 1) := by decide +kernel
theorem dX4_pour_48 : decode cX4_pour 48 = .ok (.goto 4, 3) := by decide +kernel
theorem dX4_pour_51 : decode cX4_pour 51 = .ok (.iconst 0, 1) := by decide +kernel
theorem dX4_pour_52 : decode cX4_pour 52 = .ok (.invokevirtual 53, 3) := by decide +kernel
theorem dX4_pour_55 : decode cX4_pour 55 = .ok (.ifCond .eq 5, 3) := by decide +kernel
theorem dX4_pour_58 : decode cX4_pour 58 = .ok (.iconst 0, 1) := by decide +kernel
theorem dX4_pour_59 : decode cX4_pour 59 = .ok (.ireturn, 1) := by decide +kernel
theorem dX4_pour_60 : decode cX4_pour 60 = .ok (.aload_n 0, 1) := by decide +kernel
theorem dX4_pour_61 : decode cX4_pour 61 = .ok (.iload_n 1, 1) := by decide +kernel
theorem dX4_pour_62 : decode cX4_pour 62 = .ok (.sipush 256, 3) := by decide +kernel
theorem dX4_pour_65 : decode cX4_pour 65 = .ok (.invokevirtual 94, 3) := by decide +kernel
theorem dX4_pour_68 : decode cX4_pour 68 = .ok (.istore_n 3, 1) := by decide +kernel
theorem dX4_pour_69 : decode cX4_pour 69 = .ok (.iconst 0, 1) := by decide +kernel
theorem dX4_pour_70 : decode cX4_pour 70 = .ok (.istore 4, 2) := by decide +kernel
theorem dX4_pour_72 : decode cX4_pour 72 = .ok (.iload 4, 2) := by decide +kernel
theorem dX4_pour_74 : decode cX4_pour 74 = .ok (.iload_n 3, 1) := by decide +kernel
theorem dX4_pour_75 : decode cX4_pour 75 = .ok (.if_icmp .ge 21, 3) := by decide +kernel
theorem dX4_pour_78 : decode cX4_pour 78 = .ok (.aload_n 0, 1) := by decide +kernel
theorem dX4_pour_79 : decode cX4_pour 79 = .ok (.iload_n 2, 1) := by decide +kernel
theorem dX4_pour_80 : decode cX4_pour 80 = .ok (.aload_n 0, 1) := by decide +kernel
theorem dX4_pour_81 : decode cX4_pour 81 = .ok (.getfield 34, 3) := by decide +kernel
theorem dX4_pour_84 : decode cX4_pour 84 = .ok (.iload 4, 2) := by decide +kernel
theorem dX4_pour_86 : decode cX4_pour 86 = .ok (.iaload, 1) := by decide +kernel
theorem dX4_pour_87 : decode cX4_pour 87 = .ok (.invokevirtual 74, 3) := by decide +kernel
theorem dX4_pour_90 : decode cX4_pour 90 = .ok (.iinc 4 1, 3) := by decide +kernel
theorem dX4_pour_93 : decode cX4_pour 93 = .ok (.goto (-21), 3) := by decide +kernel
theorem dX4_pour_96 : decode cX4_pour 96 = .ok (.iload_n 3, 1) := by decide +kernel
theorem dX4_pour_97 : decode cX4_pour 97 = .ok (.ireturn, 1) := by decide +kernel
theorem dX4_pourParts_0 : decode cX4_pourParts 0 = .ok (.aload_n 0, 1) := by decide +kernel
theorem dX4_pourParts_1 : decode cX4_pourParts 1 = .ok (.aload_n 0, 1) := by decide +kernel
theorem dX4_pourParts_2 : decode cX4_pourParts 2 = .ok (.iload_n 1, 1) := by decide +kernel
theorem dX4_pourParts_3 : decode cX4_pourParts 3 = .ok (.invokevirtual 67, 3) := by decide +kernel
theorem dX4_pourParts_6 : decode cX4_pourParts 6 = .ok (.ifCond .eq 11, 3) := by decide +kernel
theorem dX4_pourParts_9 : decode cX4_pourParts 9 = .ok (.aload_n 0, 1) := by decide +kernel
theorem dX4_pourParts_10 : decode cX4_pourParts 10 = .ok (.iload_n 2, 1) := by decide +kernel
theorem dX4_pourParts_11 : decode cX4_pourParts 11 = .ok (.invokevirtual 67, 3) := by decide +kernel
theorem dX4_pourParts_14 : decode cX4_pourParts 14 = .ok (.ifCond .ne 7, 3) := by decide +kernel
theorem dX4_pourParts_17 : decode cX4_pourParts 17 = .ok (.iconst 1, 1) := by decide +kernel
theorem dX4_pourParts_18 : decode cX4_pourParts 18 = .ok (.goto 49, 3) := by decide +kernel
theorem dX4_pourParts_21 : decode cX4_pourParts 21 = .ok (.iload_n 3, 1) := by decide +kernel
theorem dX4_pourParts_22 : decode cX4_pourParts 22 = .ok (.iconst 1, 1) := by decide +kernel
theorem dX4_pourParts_23 : decode cX4_pourParts 23 = .ok (.if_icmp .lt 9, 3) := by decide +kernel
theorem dX4_pourParts_26 : decode cX4_pourParts 26 = .ok (.iload_n 3, 1) := by decide +kernel
theorem dX4_pourParts_27 : decode cX4_pourParts 27 = .ok (.bipush 64, 2) := by decide +kernel
theorem dX4_pourParts_29 : decode cX4_pourParts 29 = .ok (.if_icmp .le 7, 3) := by decide +kernel
theorem dX4_pourParts_32 : decode cX4_pourParts 32 = .ok (.iconst 2, 1) := by decide +kernel
theorem dX4_pourParts_33 : decode cX4_pourParts 33 = .ok (.goto 34, 3) := by decide +kernel
theorem dX4_pourParts_36 : decode cX4_pourParts 36 = .ok (.aload_n 0, 1) := by decide +kernel
theorem dX4_pourParts_37 : decode cX4_pourParts 37 = .ok (.getfield 19, 3) := by decide +kernel
theorem dX4_pourParts_40 : decode cX4_pourParts 40 = .ok (.iload_n 1, 1) := by decide +kernel
theorem dX4_pourParts_41 : decode cX4_pourParts 41 = .ok (.iaload, 1) := by decide +kernel
theorem dX4_pourParts_42 : decode cX4_pourParts 42 = .ok (.ifCond .ge 7, 3) := by decide +kernel
theorem dX4_pourParts_45 : decode cX4_pourParts 45 = .ok (.iconst 3, 1) := by decide +kernel
theorem dX4_pourParts_46 : decode cX4_pourParts 46 = .ok (.goto 21, 3) := by decide +kernel
theorem dX4_pourParts_49 : decode cX4_pourParts 49 = .ok (.aload_n 0, 1) := by decide +kernel
theorem dX4_pourParts_50 : decode cX4_pourParts 50 = .ok (.iload_n 2, 1) := by decide +kernel
theorem dX4_pourParts_51 : decode cX4_pourParts 51 = .ok (.aload_n 0, 1) := by decide +kernel
theorem dX4_pourParts_52 : decode cX4_pourParts 52 = .ok (.iload_n 1, 1) := by decide +kernel
theorem dX4_pourParts_53 : decode cX4_pourParts 53 = .ok (.invokevirtual 81, 3) := by decide +kernel
theorem dX4_pourParts_56 : decode cX4_pourParts 56 = .ok (.invokevirtual 70, 3) := by decide +kernel
theorem dX4_pourParts_59 : decode cX4_pourParts 59 = .ok (.ifCond .eq 7, 3) := by decide +kernel
theorem dX4_pourParts_62 : decode cX4_pourParts 62 = .ok (.iconst 4, 1) := by decide +kernel
theorem dX4_pourParts_63 : decode cX4_pourParts 63 = .ok (.goto 4, 3) := by decide +kernel
theorem dX4_pourParts_66 : decode cX4_pourParts 66 = .ok (.iconst 0, 1) := by decide +kernel
theorem dX4_pourParts_67 : decode cX4_pourParts 67 = .ok (.invokevirtual 53, 3) := by decide +kernel
theorem dX4_pourParts_70 : decode cX4_pourParts 70 = .ok (.ifCond .eq 5, 3) := by decide +kernel
theorem dX4_pourParts_73 : decode cX4_pourParts 73 = .ok (.iconst 0, 1) := by decide +kernel
theorem dX4_pourParts_74 : decode cX4_pourParts 74 = .ok (.ireturn, 1) := by decide +kernel
theorem dX4_pourParts_75 : decode cX4_pourParts 75 = .ok (.aload_n 0, 1) := by decide +kernel
theorem dX4_pourParts_76 : decode cX4_pourParts 76 = .ok (.iload_n 1, 1) := by decide +kernel
theorem dX4_pourParts_77 : decode cX4_pourParts 77 = .ok (.iload_n 2, 1) := by decide +kernel
theorem dX4_pourParts_78 : decode cX4_pourParts 78 = .ok (.invokevirtual 100, 3) := by decide +kernel
theorem dX4_pourParts_81 : decode cX4_pourParts 81 = .ok (.iload_n 3, 1) := by decide +kernel
theorem dX4_pourParts_82 : decode cX4_pourParts 82 = .ok (.iadd, 1) := by decide +kernel
theorem dX4_pourParts_83 : decode cX4_pourParts 83 = .ok (.iconst 1, 1) := by decide +kernel
theorem dX4_pourParts_84 : decode cX4_pourParts 84 = .ok (.isub, 1) := by decide +kernel
theorem dX4_pourParts_85 : decode cX4_pourParts 85 = .ok (.iload_n 3, 1) := by decide +kernel
theorem dX4_pourParts_86 : decode cX4_pourParts 86 = .ok (.idiv, 1) := by decide +kernel
theorem dX4_pourParts_87 : decode cX4_pourParts 87 = .ok (.ireturn, 1) := by decide +kernel
theorem dX4_alike_0 : decode cX4_alike 0 = .ok (.aload_n 0, 1) := by decide +kernel
theorem dX4_alike_1 : decode cX4_alike 1 = .ok (.aload_n 0, 1) := by decide +kernel
theorem dX4_alike_2 : decode cX4_alike 2 = .ok (.iload_n 1, 1) := by decide +kernel
theorem dX4_alike_3 : decode cX4_alike 3 = .ok (.invokevirtual 67, 3) := by decide +kernel
theorem dX4_alike_6 : decode cX4_alike 6 = .ok (.ifCond .eq 11, 3) := by decide +kernel
theorem dX4_alike_9 : decode cX4_alike 9 = .ok (.aload_n 0, 1) := by decide +kernel
theorem dX4_alike_10 : decode cX4_alike 10 = .ok (.iload_n 2, 1) := by decide +kernel
theorem dX4_alike_11 : decode cX4_alike 11 = .ok (.invokevirtual 67, 3) := by decide +kernel
theorem dX4_alike_14 : decode cX4_alike 14 = .ok (.ifCond .ne 7, 3) := by decide +kernel
theorem dX4_alike_17 : decode cX4_alike 17 = .ok (.iconst 1, 1) := by decide +kernel
theorem dX4_alike_18 : decode cX4_alike 18 = .ok (.goto 35, 3) := by decide +kernel
theorem dX4_alike_21 : decode cX4_alike 21 = .ok (.iload_n 1, 1) := by decide +kernel
theorem dX4_alike_22 : decode cX4_alike 22 = .ok (.iload_n 2, 1) := by decide +kernel
theorem dX4_alike_23 : decode cX4_alike 23 = .ok (.if_icmp .ne 7, 3) := by decide +kernel
theorem dX4_alike_26 : decode cX4_alike 26 = .ok (.iconst 2, 1) := by decide +kernel
theorem dX4_alike_27 : decode cX4_alike 27 = .ok (.goto 26, 3) := by decide +kernel
theorem dX4_alike_30 : decode cX4_alike 30 = .ok (.aload_n 0, 1) := by decide +kernel
theorem dX4_alike_31 : decode cX4_alike 31 = .ok (.getfield 19, 3) := by decide +kernel
theorem dX4_alike_34 : decode cX4_alike 34 = .ok (.iload_n 1, 1) := by decide +kernel
theorem dX4_alike_35 : decode cX4_alike 35 = .ok (.iaload, 1) := by decide +kernel
theorem dX4_alike_36 : decode cX4_alike 36 = .ok (.ifCond .lt 12, 3) := by decide +kernel
theorem dX4_alike_39 : decode cX4_alike 39 = .ok (.aload_n 0, 1) := by decide +kernel
theorem dX4_alike_40 : decode cX4_alike 40 = .ok (.getfield 19, 3) := by decide +kernel
theorem dX4_alike_43 : decode cX4_alike 43 = .ok (.iload_n 2, 1) := by decide +kernel
theorem dX4_alike_44 : decode cX4_alike 44 = .ok (.iaload, 1) := by decide +kernel
theorem dX4_alike_45 : decode cX4_alike 45 = .ok (.ifCond .ge 7, 3) := by decide +kernel
theorem dX4_alike_48 : decode cX4_alike 48 = .ok (.iconst 3, 1) := by decide +kernel
theorem dX4_alike_49 : decode cX4_alike 49 = .ok (.goto 4, 3) := by decide +kernel
theorem dX4_alike_52 : decode cX4_alike 52 = .ok (.iconst 0, 1) := by decide +kernel
theorem dX4_alike_53 : decode cX4_alike 53 = .ok (.invokevirtual 53, 3) := by decide +kernel
theorem dX4_alike_56 : decode cX4_alike 56 = .ok (.ifCond .eq 5, 3) := by decide +kernel
theorem dX4_alike_59 : decode cX4_alike 59 = .ok (.iconst 0, 1) := by decide +kernel
theorem dX4_alike_60 : decode cX4_alike 60 = .ok (.ireturn, 1) := by decide +kernel
theorem dX4_alike_61 : decode cX4_alike 61 = .ok (.iconst 0, 1) := by decide +kernel
theorem dX4_alike_62 : decode cX4_alike 62 = .ok (.istore_n 3, 1) := by decide +kernel
theorem dX4_alike_63 : decode cX4_alike 63 = .ok (.aload_n 0, 1) := by decide +kernel
theorem dX4_alike_64 : decode cX4_alike 64 = .ok (.iload_n 1, 1) := by decide +kernel
theorem dX4_alike_65 : decode cX4_alike 65 = .ok (.invokevirtual 81, 3) := by decide +kernel
theorem dX4_alike_68 : decode cX4_alike 68 = .ok (.ifCond .le 50, 3) := by decide +kernel
theorem dX4_alike_71 : decode cX4_alike 71 = .ok (.aload_n 0, 1) := by decide +kernel
theorem dX4_alike_72 : decode cX4_alike 72 = .ok (.iload_n 2, 1) := by decide +kernel
theorem dX4_alike_73 : decode cX4_alike 73 = .ok (.invokevirtual 81, 3) := by decide +kernel
theorem dX4_alike_76 : decode cX4_alike 76 = .ok (.ifCond .le 42, 3) := by decide +kernel
theorem dX4_alike_79 : decode cX4_alike 79 = .ok (.aload_n 0, 1) := by decide +kernel
theorem dX4_alike_80 : decode cX4_alike 80 = .ok (.iload_n 1, 1) := by decide +kernel
theorem dX4_alike_81 : decode cX4_alike 81 = .ok (.invokevirtual 91, 3) := by decide +kernel
theorem dX4_alike_84 : decode cX4_alike 84 = .ok (.aload_n 0, 1) := by decide +kernel
theorem dX4_alike_85 : decode cX4_alike 85 = .ok (.iload_n 2, 1) := by decide +kernel
theorem dX4_alike_86 : decode cX4_alike 86 = .ok (.invokevirtual 91, 3) := by decide +kernel
theorem dX4_alike_89 : decode cX4_alike 89 = .ok (.if_icmp .ne 29, 3) := by decide +kernel
theorem dX4_alike_92 : decode cX4_alike 92 = .ok (.aload_n 0, 1) := by decide +kernel
theorem dX4_alike_93 : decode cX4_alike 93 = .ok (.getfield 22, 3) := by decide +kernel
theorem dX4_alike_96 : decode cX4_alike 96 = .ok (.iload_n 1, 1) := by decide +kernel
theorem dX4_alike_97 : decode cX4_alike 97 = .ok (.dup2, 1) := by decide +kernel
theorem dX4_alike_98 : decode cX4_alike 98 = .ok (.iaload, 1) := by decide +kernel
theorem dX4_alike_99 : decode cX4_alike 99 = .ok (.iconst 1, 1) := by decide +kernel
theorem dX4_alike_100 : decode cX4_alike 100 = .ok (.iadd, 1) := by decide +kernel
theorem dX4_alike_101 : decode cX4_alike 101 = .ok (.iastore, 1) := by decide +kernel
theorem dX4_alike_102 : decode cX4_alike 102 = .ok (.aload_n 0, 1) := by decide +kernel
theorem dX4_alike_103 : decode cX4_alike 103 = .ok (.getfield 22, 3) := by decide +kernel
theorem dX4_alike_106 : decode cX4_alike 106 = .ok (.iload_n 2, 1) := by decide +kernel
theorem dX4_alike_107 : decode cX4_alike 107 = .ok (.dup2, 1) := by decide +kernel
theorem dX4_alike_108 : decode cX4_alike 108 = .ok (.iaload, 1) := by decide +kernel
theorem dX4_alike_109 : decode cX4_alike 109 = .ok (.iconst 1, 1) := by decide +kernel
theorem dX4_alike_110 : decode cX4_alike 110 = .ok (.iadd, 1) := by decide +kernel
theorem dX4_alike_111 : decode cX4_alike 111 = .ok (.iastore, 1) := by decide +kernel
theorem dX4_alike_112 : decode cX4_alike 112 = .ok (.iinc 3 1, 3) := by decide +kernel
theorem dX4_alike_115 : decode cX4_alike 115 = .ok (.goto (-52), 3) := by decide +kernel
theorem dX4_alike_118 : decode cX4_alike 118 = .ok (.aload_n 0, 1) := by decide +kernel
theorem dX4_alike_119 : decode cX4_alike 119 = .ok (.getfield 25, 3) := by decide +kernel
theorem dX4_alike_122 : decode cX4_alike 122 = .ok (.iload_n 1, 1) := by decide +kernel
theorem dX4_alike_123 : decode cX4_alike 123 = .ok (.aload_n 0, 1) := by decide +kernel
theorem dX4_alike_124 : decode cX4_alike 124 = .ok (.getfield 22, 3) := by decide +kernel
theorem dX4_alike_127 : decode cX4_alike 127 = .ok (.iload_n 1, 1) := by decide +kernel
theorem dX4_alike_128 : decode cX4_alike 128 = .ok (.iaload, 1) := by decide +kernel
theorem dX4_alike_129 : decode cX4_alike 129 = .ok (.iastore, 1) := by decide +kernel
theorem dX4_alike_130 : decode cX4_alike 130 = .ok (.aload_n 0, 1) := by decide +kernel
theorem dX4_alike_131 : decode cX4_alike 131 = .ok (.getfield 25, 3) := by decide +kernel
theorem dX4_alike_134 : decode cX4_alike 134 = .ok (.iload_n 2, 1) := by decide +kernel
theorem dX4_alike_135 : decode cX4_alike 135 = .ok (.aload_n 0, 1) := by decide +kernel
theorem dX4_alike_136 : decode cX4_alike 136 = .ok (.getfield 22, 3) := by decide +kernel
theorem dX4_alike_139 : decode cX4_alike 139 = .ok (.iload_n 2, 1) := by decide +kernel
theorem dX4_alike_140 : decode cX4_alike 140 = .ok (.iaload, 1) := by decide +kernel
theorem dX4_alike_141 : decode cX4_alike 141 = .ok (.iastore, 1) := by decide +kernel
theorem dX4_alike_142 : decode cX4_alike 142 = .ok (.iload_n 3, 1) := by decide +kernel
theorem dX4_alike_143 : decode cX4_alike 143 = .ok (.ireturn, 1) := by decide +kernel
theorem dX4_leftShare_0 : decode cX4_leftShare 0 = .ok (.aload_n 0, 1) := by decide +kernel
theorem dX4_leftShare_1 : decode cX4_leftShare 1 = .ok (.aload_n 0, 1) := by decide +kernel
theorem dX4_leftShare_2 : decode cX4_leftShare 2 = .ok (.iload_n 1, 1) := by decide +kernel
theorem dX4_leftShare_3 : decode cX4_leftShare 3 = .ok (.invokevirtual 67, 3) := by decide +kernel
theorem dX4_leftShare_6 : decode cX4_leftShare 6 = .ok (.ifCond .ne 7, 3) := by decide +kernel
theorem dX4_leftShare_9 : decode cX4_leftShare 9 = .ok (.iconst 1, 1) := by decide +kernel
theorem dX4_leftShare_10 : decode cX4_leftShare 10 = .ok (.goto 35, 3) := by decide +kernel
theorem dX4_leftShare_13 : decode cX4_leftShare 13 = .ok (.aload_n 0, 1) := by decide +kernel
theorem dX4_leftShare_14 : decode cX4_leftShare 14 = .ok (.getfield 19, 3) := by decide +kernel
theorem dX4_leftShare_17 : decode cX4_leftShare 17 = .ok (.iload_n 1, 1) := by decide +kernel
theorem dX4_leftShare_18 : decode cX4_leftShare 18 = .ok (.iaload, 1) := by decide +kernel
theorem dX4_leftShare_19 : decode cX4_leftShare 19 = .ok (.ifCond .ge 7, 3) := by decide +kernel
theorem dX4_leftShare_22 : decode cX4_leftShare 22 = .ok (.iconst 2, 1) := by decide +kernel
theorem dX4_leftShare_23 : decode cX4_leftShare 23 = .ok (.goto 22, 3) := by decide +kernel
theorem dX4_leftShare_26 : decode cX4_leftShare 26 = .ok (.aload_n 0, 1) := by decide +kernel
theorem dX4_leftShare_27 : decode cX4_leftShare 27 = .ok (.getfield 13, 3) := by decide +kernel
theorem dX4_leftShare_30 : decode cX4_leftShare 30 = .ok (.aload_n 0, 1) := by decide +kernel
theorem dX4_leftShare_31 : decode cX4_leftShare 31 = .ok (.getfield 19, 3) := by decide +kernel
theorem dX4_leftShare_34 : decode cX4_leftShare 34 = .ok (.iload_n 1, 1) := by decide +kernel
theorem dX4_leftShare_35 : decode cX4_leftShare 35 = .ok (.iaload, 1) := by decide +kernel
theorem dX4_leftShare_36 : decode cX4_leftShare 36 = .ok (.iaload, 1) := by decide +kernel
theorem dX4_leftShare_37 : decode cX4_leftShare 37 = .ok (.ifCond .ne 7, 3) := by decide +kernel
theorem dX4_leftShare_40 : decode cX4_leftShare 40 = .ok (.iconst 3, 1) := by decide +kernel
theorem dX4_leftShare_41 : decode cX4_leftShare 41 = .ok (.goto 4, 3) := by decide +kernel
theorem dX4_leftShare_44 : decode cX4_leftShare 44 = .ok (.iconst 0, 1) := by decide +kernel
theorem dX4_leftShare_45 : decode cX4_leftShare 45 = .ok (.invokevirtual 53, 3) := by decide +kernel
theorem dX4_leftShare_48 : decode cX4_leftShare 48 = .ok (.ifCond .eq 5, 3) := by decide +kernel
theorem dX4_leftShare_51 : decode cX4_leftShare 51 = .ok (.fconst 0, 1) := by decide +kernel
theorem dX4_leftShare_52 : decode cX4_leftShare 52 = .ok (.freturn, 1) := by decide +kernel
theorem dX4_leftShare_53 : decode cX4_leftShare 53 = .ok (.aload_n 0, 1) := by decide +kernel
theorem dX4_leftShare_54 : decode cX4_leftShare 54 = .ok (.iload_n 1, 1) := by decide +kernel
theorem dX4_leftShare_55 : decode cX4_leftShare 55 = .ok (.invokevirtual 81, 3) := by decide +kernel
theorem dX4_leftShare_58 : decode cX4_leftShare 58 = .ok (.i2f, 1) := by decide +kernel
theorem dX4_leftShare_59 : decode cX4_leftShare 59 = .ok (.aload_n 0, 1) := by decide +kernel
theorem dX4_leftShare_60 : decode cX4_leftShare 60 = .ok (.getfield 13, 3) := by decide +kernel
theorem dX4_leftShare_63 : decode cX4_leftShare 63 = .ok (.aload_n 0, 1) := by decide +kernel
theorem dX4_leftShare_64 : decode cX4_leftShare 64 = .ok (.getfield 19, 3) := by decide +kernel
theorem dX4_leftShare_67 : decode cX4_leftShare 67 = .ok (.iload_n 1, 1) := by decide +kernel
theorem dX4_leftShare_68 : decode cX4_leftShare 68 = .ok (.iaload, 1) := by decide +kernel
theorem dX4_leftShare_69 : decode cX4_leftShare 69 = .ok (.iaload, 1) := by decide +kernel
theorem dX4_leftShare_70 : decode cX4_leftShare 70 = .ok (.i2f, 1) := by decide +kernel
theorem dX4_leftShare_71 : decode cX4_leftShare 71 = .ok (.fdiv, 1) := by decide +kernel
theorem dX4_leftShare_72 : decode cX4_leftShare 72 = .ok (.freturn, 1) := by decide +kernel
theorem dX4_meanSize_0 : decode cX4_meanSize 0 = .ok (.iconst 0, 1) := by decide +kernel
theorem dX4_meanSize_1 : decode cX4_meanSize 1 = .ok (.istore_n 1, 1) := by decide +kernel
theorem dX4_meanSize_2 : decode cX4_meanSize 2 = .ok (.iconst 0, 1) := by decide +kernel
theorem dX4_meanSize_3 : decode cX4_meanSize 3 = .ok (.istore_n 2, 1) := by decide +kernel
theorem dX4_meanSize_4 : decode cX4_meanSize 4 = .ok (.iconst 0, 1) := by decide +kernel
theorem dX4_meanSize_5 : decode cX4_meanSize 5 = .ok (.istore_n 3, 1) := by decide +kernel
theorem dX4_meanSize_6 : decode cX4_meanSize 6 = .ok (.iload_n 3, 1) := by decide +kernel
theorem dX4_meanSize_7 : decode cX4_meanSize 7 = .ok (.iconst 3, 1) := by decide +kernel
theorem dX4_meanSize_8 : decode cX4_meanSize 8 = .ok (.if_icmp .ge 35, 3) := by decide +kernel
theorem dX4_meanSize_11 : decode cX4_meanSize 11 = .ok (.iload_n 1, 1) := by decide +kernel
theorem dX4_meanSize_12 : decode cX4_meanSize 12 = .ok (.aload_n 0, 1) := by decide +kernel
theorem dX4_meanSize_13 : decode cX4_meanSize 13 = .ok (.getfield 31, 3) := by decide +kernel
theorem dX4_meanSize_16 : decode cX4_meanSize 16 = .ok (.iload_n 3, 1) := by decide +kernel
theorem dX4_meanSize_17 : decode cX4_meanSize 17 = .ok (.iaload, 1) := by decide +kernel
theorem dX4_meanSize_18 : decode cX4_meanSize 18 = .ok (.iadd, 1) := by decide +kernel
theorem dX4_meanSize_19 : decode cX4_meanSize 19 = .ok (.istore_n 1, 1) := by decide +kernel
theorem dX4_meanSize_20 : decode cX4_meanSize 20 = .ok (.iload_n 2, 1) := by decide +kernel
theorem dX4_meanSize_21 : decode cX4_meanSize 21 = .ok (.aload_n 0, 1) := by decide +kernel
theorem dX4_meanSize_22 : decode cX4_meanSize 22 = .ok (.getfield 31, 3) := by decide +kernel
theorem dX4_meanSize_25 : decode cX4_meanSize 25 = .ok (.iload_n 3, 1) := by decide +kernel
theorem dX4_meanSize_26 : decode cX4_meanSize 26 = .ok (.iaload, 1) := by decide +kernel
theorem dX4_meanSize_27 : decode cX4_meanSize 27 = .ok (.ifCond .le 7, 3) := by decide +kernel
theorem dX4_meanSize_30 : decode cX4_meanSize 30 = .ok (.iconst 1, 1) := by decide +kernel
theorem dX4_meanSize_31 : decode cX4_meanSize 31 = .ok (.goto 4, 3) := by decide +kernel
theorem dX4_meanSize_34 : decode cX4_meanSize 34 = .ok (.iconst 0, 1) := by decide +kernel
theorem dX4_meanSize_35 : decode cX4_meanSize 35 = .ok (.iadd, 1) := by decide +kernel
theorem dX4_meanSize_36 : decode cX4_meanSize 36 = .ok (.istore_n 2, 1) := by decide +kernel
theorem dX4_meanSize_37 : decode cX4_meanSize 37 = .ok (.iinc 3 1, 3) := by decide +kernel
theorem dX4_meanSize_40 : decode cX4_meanSize 40 = .ok (.goto (-34), 3) := by decide +kernel
theorem dX4_meanSize_43 : decode cX4_meanSize 43 = .ok (.aload_n 0, 1) := by decide +kernel
theorem dX4_meanSize_44 : decode cX4_meanSize 44 = .ok (.iload_n 2, 1) := by decide +kernel
theorem dX4_meanSize_45 : decode cX4_meanSize 45 = .ok (.ifCond .ne 7, 3) := by decide +kernel
theorem dX4_meanSize_48 : decode cX4_meanSize 48 = .ok (.iconst 1, 1) := by decide +kernel
theorem dX4_meanSize_49 : decode cX4_meanSize 49 = .ok (.goto 4, 3) := by decide +kernel
theorem dX4_meanSize_52 : decode cX4_meanSize 52 = .ok (.iconst 0, 1) := by decide +kernel
theorem dX4_meanSize_53 : decode cX4_meanSize 53 = .ok (.invokevirtual 53, 3) := by decide +kernel
theorem dX4_meanSize_56 : decode cX4_meanSize 56 = .ok (.ifCond .eq 7, 3) := by decide +kernel
theorem dX4_meanSize_59 : decode cX4_meanSize 59 = .ok (.dconst 0, 1) := by decide +kernel
theorem dX4_meanSize_60 : decode cX4_meanSize 60 = .ok (.goto 8, 3) := by decide +kernel
theorem dX4_meanSize_63 : decode cX4_meanSize 63 = .ok (.iload_n 1, 1) := by decide +kernel
theorem dX4_meanSize_64 : decode cX4_meanSize 64 = .ok (.i2d, 1) := by decide +kernel
theorem dX4_meanSize_65 : decode cX4_meanSize 65 = .ok (.iload_n 2, 1) := by decide +kernel
theorem dX4_meanSize_66 : decode cX4_meanSize 66 = .ok (.i2d, 1) := by decide +kernel
theorem dX4_meanSize_67 : decode cX4_meanSize 67 = .ok (.ddiv, 1) := by decide +kernel
theorem dX4_meanSize_68 : decode cX4_meanSize 68 = .ok (.dreturn, 1) := by decide +kernel
theorem dX4_checksum_0 : decode cX4_checksum 0 = .ok (.aload_n 0, 1) := by decide +kernel
theorem dX4_checksum_1 : decode cX4_checksum 1 = .ok (.iconst 0, 1) := by decide +kernel
theorem dX4_checksum_2 : decode cX4_checksum 2 = .ok (.putfield 37, 3) := by decide +kernel
theorem dX4_checksum_5 : decode cX4_checksum 5 = .ok (.ldc2_w 103, 3) := by decide +kernel
theorem dX4_checksum_8 : decode cX4_checksum 8 = .ok (.lstore_n 1, 1) := by decide +kernel
theorem dX4_checksum_9 : decode cX4_checksum 9 = .ok (.iconst 0, 1) := by decide +kernel
theorem dX4_checksum_10 : decode cX4_checksum 10 = .ok (.istore_n 3, 1) := by decide +kernel
theorem dX4_checksum_11 : decode cX4_checksum 11 = .ok (.iload_n 3, 1) := by decide +kernel
theorem dX4_checksum_12 : decode cX4_checksum 12 = .ok (.iconst 4, 1) := by decide +kernel
theorem dX4_checksum_13 : decode cX4_checksum 13 = .ok (.if_icmp .ge 67, 3) := by decide +kernel
theorem dX4_checksum_16 : decode cX4_checksum 16 = .ok (.ldc2_w 105, 3) := by decide +kernel
theorem dX4_checksum_19 : decode cX4_checksum 19 = .ok (.lload_n 1, 1) := by decide +kernel
theorem dX4_checksum_20 : decode cX4_checksum 20 = .ok (.lmul, 1) := by decide +kernel
theorem dX4_checksum_21 : decode cX4_checksum 21 = .ok (.aload_n 0, 1) := by decide +kernel
theorem dX4_checksum_22 : decode cX4_checksum 22 = .ok (.iload_n 3, 1) := by decide +kernel
theorem dX4_checksum_23 : decode cX4_checksum 23 = .ok (.invokevirtual 45, 3) := by decide +kernel
theorem dX4_checksum_26 : decode cX4_checksum 26 = .ok (.i2l, 1) := by decide +kernel
theorem dX4_checksum_27 : decode cX4_checksum 27 = .ok (.ladd, 1) := by decide +kernel
theorem dX4_checksum_28 : decode cX4_checksum 28 = .ok (.lstore_n 1, 1) := by decide +kernel
theorem dX4_checksum_29 : decode cX4_checksum 29 = .ok (.iconst 0, 1) := by decide +kernel
theorem dX4_checksum_30 : decode cX4_checksum 30 = .ok (.istore 4, 2) := by decide +kernel
theorem dX4_checksum_32 : decode cX4_checksum 32 = .ok (.iload 4, 2) := by decide +kernel
theorem dX4_checksum_34 : decode cX4_checksum 34 = .ok (.aload_n 0, 1) := by decide +kernel
theorem dX4_checksum_35 : decode cX4_checksum 35 = .ok (.iload_n 3, 1) := by decide +kernel
theorem dX4_checksum_36 : decode cX4_checksum 36 = .ok (.invokevirtual 45, 3) := by decide +kernel
theorem dX4_checksum_39 : decode cX4_checksum 39 = .ok (.if_icmp .ge 35, 3) := by decide +kernel
theorem dX4_checksum_42 : decode cX4_checksum 42 = .ok (.ldc2_w 105, 3) := by decide +kernel
theorem dX4_checksum_45 : decode cX4_checksum 45 = .ok (.lload_n 1, 1) := by decide +kernel
theorem dX4_checksum_46 : decode cX4_checksum 46 = .ok (.lmul, 1) := by decide +kernel
theorem dX4_checksum_47 : decode cX4_checksum 47 = .ok (.aload_n 0, 1) := by decide +kernel
theorem dX4_checksum_48 : decode cX4_checksum 48 = .ok (.getfield 7, 3) := by decide +kernel
theorem dX4_checksum_51 : decode cX4_checksum 51 = .ok (.sipush 256, 3) := by decide +kernel
theorem dX4_checksum_54 : decode cX4_checksum 54 = .ok (.aload_n 0, 1) := by decide +kernel
theorem dX4_checksum_55 : decode cX4_checksum 55 = .ok (.getfield 16, 3) := by decide +kernel
theorem dX4_checksum_58 : decode cX4_checksum 58 = .ok (.iload_n 3, 1) := by decide +kernel
theorem dX4_checksum_59 : decode cX4_checksum 59 = .ok (.iaload, 1) := by decide +kernel
theorem dX4_checksum_60 : decode cX4_checksum 60 = .ok (.imul, 1) := by decide +kernel
theorem dX4_checksum_61 : decode cX4_checksum 61 = .ok (.iload 4, 2) := by decide +kernel
theorem dX4_checksum_63 : decode cX4_checksum 63 = .ok (.iadd, 1) := by decide +kernel
theorem dX4_checksum_64 : decode cX4_checksum 64 = .ok (.iaload, 1) := by decide +kernel
theorem dX4_checksum_65 : decode cX4_checksum 65 = .ok (.i2l, 1) := by decide +kernel
theorem dX4_checksum_66 : decode cX4_checksum 66 = .ok (.ladd, 1) := by decide +kernel
theorem dX4_checksum_67 : decode cX4_checksum 67 = .ok (.lstore_n 1, 1) := by decide +kernel
theorem dX4_checksum_68 : decode cX4_checksum 68 = .ok (.iinc 4 1, 3) := by decide +kernel
theorem dX4_checksum_71 : decode cX4_checksum 71 = .ok (.goto (-39), 3) := by decide +kernel
theorem dX4_checksum_74 : decode cX4_checksum 74 = .ok (.iinc 3 1, 3) := by decide +kernel
theorem dX4_checksum_77 : decode cX4_checksum 77 = .ok (.goto (-66), 3) := by decide +kernel
theorem dX4_checksum_80 : decode cX4_checksum 80 = .ok (.iconst 0, 1) := by decide +kernel
theorem dX4_checksum_81 : decode cX4_checksum 81 = .ok (.istore_n 3, 1) := by decide +kernel
theorem dX4_checksum_82 : decode cX4_checksum 82 = .ok (.iload_n 3, 1) := by decide +kernel
theorem dX4_checksum_83 : decode cX4_checksum 83 = .ok (.iconst 3, 1) := by decide +kernel
theorem dX4_checksum_84 : decode cX4_checksum 84 = .ok (.if_icmp .ge 64, 3) := by decide +kernel
theorem dX4_checksum_87 : decode cX4_checksum 87 = .ok (.ldc2_w 105, 3) := by decide +kernel
theorem dX4_checksum_90 : decode cX4_checksum 90 = .ok (.lload_n 1, 1) := by decide +kernel
theorem dX4_checksum_91 : decode cX4_checksum 91 = .ok (.lmul, 1) := by decide +kernel
theorem dX4_checksum_92 : decode cX4_checksum 92 = .ok (.aload_n 0, 1) := by decide +kernel
theorem dX4_checksum_93 : decode cX4_checksum 93 = .ok (.getfield 31, 3) := by decide +kernel
theorem dX4_checksum_96 : decode cX4_checksum 96 = .ok (.iload_n 3, 1) := by decide +kernel
theorem dX4_checksum_97 : decode cX4_checksum 97 = .ok (.iaload, 1) := by decide +kernel
theorem dX4_checksum_98 : decode cX4_checksum 98 = .ok (.i2l, 1) := by decide +kernel
theorem dX4_checksum_99 : decode cX4_checksum 99 = .ok (.ladd, 1) := by decide +kernel
theorem dX4_checksum_100 : decode cX4_checksum 100 = .ok (.lstore_n 1, 1) := by decide +kernel
theorem dX4_checksum_101 : decode cX4_checksum 101 = .ok (.iconst 0, 1) := by decide +kernel
theorem dX4_checksum_102 : decode cX4_checksum 102 = .ok (.istore 4, 2) := by decide +kernel
theorem dX4_checksum_104 : decode cX4_checksum 104 = .ok (.iload 4, 2) := by decide +kernel
theorem dX4_checksum_106 : decode cX4_checksum 106 = .ok (.aload_n 0, 1) := by decide +kernel
theorem dX4_checksum_107 : decode cX4_checksum 107 = .ok (.getfield 31, 3) := by decide +kernel
theorem dX4_checksum_110 : decode cX4_checksum 110 = .ok (.iload_n 3, 1) := by decide +kernel
theorem dX4_checksum_111 : decode cX4_checksum 111 = .ok (.iaload, 1) := by decide +kernel
theorem dX4_checksum_112 : decode cX4_checksum 112 = .ok (.if_icmp .ge 30, 3) := by decide +kernel
theorem dX4_checksum_115 : decode cX4_checksum 115 = .ok (.ldc2_w 105, 3) := by decide +kernel
theorem dX4_checksum_118 : decode cX4_checksum 118 = .ok (.lload_n 1, 1) := by decide +kernel
theorem dX4_checksum_119 : decode cX4_checksum 119 = .ok (.lmul, 1) := by decide +kernel
theorem dX4_checksum_120 : decode cX4_checksum 120 = .ok (.aload_n 0, 1) := by decide +kernel
theorem dX4_checksum_121 : decode cX4_checksum 121 = .ok (.getfield 28, 3) := by decide +kernel
theorem dX4_checksum_124 : decode cX4_checksum 124 = .ok (.sipush 256, 3) := by decide +kernel
theorem dX4_checksum_127 : decode cX4_checksum 127 = .ok (.iload_n 3, 1) := by decide +kernel
theorem dX4_checksum_128 : decode cX4_checksum 128 = .ok (.imul, 1) := by decide +kernel
theorem dX4_checksum_129 : decode cX4_checksum 129 = .ok (.iload 4, 2) := by decide +kernel
theorem dX4_checksum_131 : decode cX4_checksum 131 = .ok (.iadd, 1) := by decide +kernel
theorem dX4_checksum_132 : decode cX4_checksum 132 = .ok (.iaload, 1) := by decide +kernel
theorem dX4_checksum_133 : decode cX4_checksum 133 = .ok (.i2l, 1) := by decide +kernel
theorem dX4_checksum_134 : decode cX4_checksum 134 = .ok (.ladd, 1) := by decide +kernel
theorem dX4_checksum_135 : decode cX4_checksum 135 = .ok (.lstore_n 1, 1) := by decide +kernel
theorem dX4_checksum_136 : decode cX4_checksum 136 = .ok (.iinc 4 1, 3) := by decide +kernel
theorem dX4_checksum_139 : decode cX4_checksum 139 = .ok (.goto (-35), 3) := by decide +kernel
theorem dX4_checksum_142 : decode cX4_checksum 142 = .ok (.iinc 3 1, 3) := by decide +kernel
theorem dX4_checksum_145 : decode cX4_checksum 145 = .ok (.goto (-63), 3) := by decide +kernel
theorem dX4_checksum_148 : decode cX4_checksum 148 = .ok (.iconst 0, 1) := by decide +kernel
theorem dX4_checksum_149 : decode cX4_checksum 149 = .ok (.istore_n 3, 1) := by decide +kernel
theorem dX4_checksum_150 : decode cX4_checksum 150 = .ok (.iload_n 3, 1) := by decide +kernel
theorem dX4_checksum_151 : decode cX4_checksum 151 = .ok (.iconst 3, 1) := by decide +kernel
theorem dX4_checksum_152 : decode cX4_checksum 152 = .ok (.if_icmp .ge 35, 3) := by decide +kernel
theorem dX4_checksum_155 : decode cX4_checksum 155 = .ok (.ldc2_w 105, 3) := by decide +kernel
theorem dX4_checksum_158 : decode cX4_checksum 158 = .ok (.lload_n 1, 1) := by decide +kernel
theorem dX4_checksum_159 : decode cX4_checksum 159 = .ok (.lmul, 1) := by decide +kernel
theorem dX4_checksum_160 : decode cX4_checksum 160 = .ok (.aload_n 0, 1) := by decide +kernel
theorem dX4_checksum_161 : decode cX4_checksum 161 = .ok (.getfield 19, 3) := by decide +kernel
theorem dX4_checksum_164 : decode cX4_checksum 164 = .ok (.iload_n 3, 1) := by decide +kernel
theorem dX4_checksum_165 : decode cX4_checksum 165 = .ok (.iaload, 1) := by decide +kernel
theorem dX4_checksum_166 : decode cX4_checksum 166 = .ok (.ifCond .ge 7, 3) := by decide +kernel
theorem dX4_checksum_169 : decode cX4_checksum 169 = .ok (.iconst (-1), 1) := by decide +kernel
theorem dX4_checksum_170 : decode cX4_checksum 170 = .ok (.goto 8, 3) := by decide +kernel
theorem dX4_checksum_173 : decode cX4_checksum 173 = .ok (.aload_n 0, 1) := by decide +kernel
theorem dX4_checksum_174 : decode cX4_checksum 174 = .ok (.iload_n 3, 1) := by decide +kernel
theorem dX4_checksum_175 : decode cX4_checksum 175 = .ok (.invokevirtual 81, 3) := by decide +kernel
theorem dX4_checksum_178 : decode cX4_checksum 178 = .ok (.i2l, 1) := by decide +kernel
theorem dX4_checksum_179 : decode cX4_checksum 179 = .ok (.ladd, 1) := by decide +kernel
theorem dX4_checksum_180 : decode cX4_checksum 180 = .ok (.lstore_n 1, 1) := by decide +kernel
theorem dX4_checksum_181 : decode cX4_checksum 181 = .ok (.iinc 3 1, 3) := by decide +kernel
theorem dX4_checksum_184 : decode cX4_checksum 184 = .ok (.goto (-34), 3) := by decide +kernel
theorem dX4_checksum_187 : decode cX4_checksum 187 = .ok (.lload_n 1, 1) := by decide +kernel
theorem dX4_checksum_188 : decode cX4_checksum 188 = .ok (.lreturn, 1) := by decide +kernel
theorem dX4_isTrue_0 : decode cX4_isTrue 0 = .ok (.aload_n 0, 1) := by decide +kernel
theorem dX4_isTrue_1 : decode cX4_isTrue 1 = .ok (.iconst 0, 1) := by decide +kernel
theorem dX4_isTrue_2 : decode cX4_isTrue 2 = .ok (.putfield 37, 3) := by decide +kernel
theorem dX4_isTrue_5 : decode cX4_isTrue 5 = .ok (.iconst 1, 1) := by decide +kernel
theorem dX4_isTrue_6 : decode cX4_isTrue 6 = .ok (.istore_n 1, 1) := by decide +kernel
theorem dX4_isTrue_7 : decode cX4_isTrue 7 = .ok (.iconst 0, 1) := by decide +kernel
theorem dX4_isTrue_8 : decode cX4_isTrue 8 = .ok (.istore_n 2, 1) := by decide +kernel
theorem dX4_isTrue_9 : decode cX4_isTrue 9 = .ok (.iload_n 2, 1) := by decide +kernel
theorem dX4_isTrue_10 : decode cX4_isTrue 10 = .ok (.iconst 3, 1) := by decide +kernel
theorem dX4_isTrue_11 : decode cX4_isTrue 11 = .ok (.if_icmp .ge 63, 3) := by decide +kernel
theorem dX4_isTrue_14 : decode cX4_isTrue 14 = .ok (.iload_n 1, 1) := by decide +kernel
theorem dX4_isTrue_15 : decode cX4_isTrue 15 = .ok (.aload_n 0, 1) := by decide +kernel
theorem dX4_isTrue_16 : decode cX4_isTrue 16 = .ok (.getfield 19, 3) := by decide +kernel
theorem dX4_isTrue_19 : decode cX4_isTrue 19 = .ok (.iload_n 2, 1) := by decide +kernel
theorem dX4_isTrue_20 : decode cX4_isTrue 20 = .ok (.iaload, 1) := by decide +kernel
theorem dX4_isTrue_21 : decode cX4_isTrue 21 = .ok (.ifCond .lt 40, 3) := by decide +kernel
theorem dX4_isTrue_24 : decode cX4_isTrue 24 = .ok (.aload_n 0, 1) := by decide +kernel
theorem dX4_isTrue_25 : decode cX4_isTrue 25 = .ok (.iload_n 2, 1) := by decide +kernel
theorem dX4_isTrue_26 : decode cX4_isTrue 26 = .ok (.invokevirtual 81, 3) := by decide +kernel
theorem dX4_isTrue_29 : decode cX4_isTrue 29 = .ok (.ifCond .lt 36, 3) := by decide +kernel
theorem dX4_isTrue_32 : decode cX4_isTrue 32 = .ok (.aload_n 0, 1) := by decide +kernel
theorem dX4_isTrue_33 : decode cX4_isTrue 33 = .ok (.getfield 25, 3) := by decide +kernel
theorem dX4_isTrue_36 : decode cX4_isTrue 36 = .ok (.iload_n 2, 1) := by decide +kernel
theorem dX4_isTrue_37 : decode cX4_isTrue 37 = .ok (.iaload, 1) := by decide +kernel
theorem dX4_isTrue_38 : decode cX4_isTrue 38 = .ok (.ifCond .lt 27, 3) := by decide +kernel
theorem dX4_isTrue_41 : decode cX4_isTrue 41 = .ok (.aload_n 0, 1) := by decide +kernel
theorem dX4_isTrue_42 : decode cX4_isTrue 42 = .ok (.getfield 25, 3) := by decide +kernel
theorem dX4_isTrue_45 : decode cX4_isTrue 45 = .ok (.iload_n 2, 1) := by decide +kernel
theorem dX4_isTrue_46 : decode cX4_isTrue 46 = .ok (.iaload, 1) := by decide +kernel
theorem dX4_isTrue_47 : decode cX4_isTrue 47 = .ok (.aload_n 0, 1) := by decide +kernel
theorem dX4_isTrue_48 : decode cX4_isTrue 48 = .ok (.getfield 13, 3) := by decide +kernel
theorem dX4_isTrue_51 : decode cX4_isTrue 51 = .ok (.aload_n 0, 1) := by decide +kernel
theorem dX4_isTrue_52 : decode cX4_isTrue 52 = .ok (.getfield 19, 3) := by decide +kernel
theorem dX4_isTrue_55 : decode cX4_isTrue 55 = .ok (.iload_n 2, 1) := by decide +kernel
theorem dX4_isTrue_56 : decode cX4_isTrue 56 = .ok (.iaload, 1) := by decide +kernel
theorem dX4_isTrue_57 : decode cX4_isTrue 57 = .ok (.iaload, 1) := by decide +kernel
theorem dX4_isTrue_58 : decode cX4_isTrue 58 = .ok (.if_icmp .gt 7, 3) := by decide +kernel
theorem dX4_isTrue_61 : decode cX4_isTrue 61 = .ok (.iconst 1, 1) := by decide +kernel
theorem dX4_isTrue_62 : decode cX4_isTrue 62 = .ok (.goto 4, 3) := by decide +kernel
theorem dX4_isTrue_65 : decode cX4_isTrue 65 = .ok (.iconst 0, 1) := by decide +kernel
theorem dX4_isTrue_66 : decode cX4_isTrue 66 = .ok (.iand, 1) := by decide +kernel
theorem dX4_isTrue_67 : decode cX4_isTrue 67 = .ok (.istore_n 1, 1) := by decide +kernel
theorem dX4_isTrue_68 : decode cX4_isTrue 68 = .ok (.iinc 2 1, 3) := by decide +kernel
theorem dX4_isTrue_71 : decode cX4_isTrue 71 = .ok (.goto (-62), 3) := by decide +kernel
theorem dX4_isTrue_74 : decode cX4_isTrue 74 = .ok (.iload_n 1, 1) := by decide +kernel
theorem dX4_isTrue_75 : decode cX4_isTrue 75 = .ok (.ireturn, 1) := by decide +kernel
