theorem dL_make_0 : decode cL_make 0 = .ok (.aload_n 3, 1) := by decide +kernel
theorem dL_make_1 : decode cL_make 1 = .ok (.iconst 0, 1) := by decide +kernel
theorem dL_make_2 : decode cL_make 2 = .ok (.aload_n 0, 1) := by decide +kernel
theorem dL_make_3 : decode cL_make 3 = .ok (.iload_n 1, 1) := by decide +kernel
theorem dL_make_4 : decode cL_make 4 = .ok (.iload_n 2, 1) := by decide +kernel
theorem dL_make_5 : decode cL_make 5 = .ok (.invokevirtual 7, 3) := by decide +kernel
theorem dL_make_8 : decode cL_make 8 = .ok (.i2l, 1) := by decide +kernel
theorem dL_make_9 : decode cL_make 9 = .ok (.lastore, 1) := by decide +kernel
theorem dL_make_10 : decode cL_make 10 = .ok (.goto 11, 3) := by decide +kernel
theorem dL_make_13 : decode cL_make 13 = .ok (.astore 4, 2) := by decide +kernel
theorem dL_make_15 : decode cL_make 15 = .ok (.iconst 1, 1) := by decide +kernel
theorem dL_make_16 : decode cL_make 16 = .ok (.ireturn, 1) := by decide +kernel
theorem dL_make_17 : decode cL_make 17 = .ok (.astore 4, 2) := by decide +kernel
theorem dL_make_19 : decode cL_make 19 = .ok (.iconst 2, 1) := by decide +kernel
theorem dL_make_20 : decode cL_make 20 = .ok (.ireturn, 1) := by decide +kernel
theorem dL_make_21 : decode cL_make 21 = .ok (.iconst 0, 1) := by decide +kernel
theorem dL_make_22 : decode cL_make 22 = .ok (.ireturn, 1) := by decide +kernel
theorem dL_lend_0 : decode cL_lend 0 = .ok (.aload_n 3, 1) := by decide +kernel
theorem dL_lend_1 : decode cL_lend 1 = .ok (.iconst 0, 1) := by decide +kernel
theorem dL_lend_2 : decode cL_lend 2 = .ok (.aload_n 0, 1) := by decide +kernel
theorem dL_lend_3 : decode cL_lend 3 = .ok (.iload_n 1, 1) := by decide +kernel
theorem dL_lend_4 : decode cL_lend 4 = .ok (.iload_n 2, 1) := by decide +kernel
theorem dL_lend_5 : decode cL_lend 5 = .ok (.invokevirtual 17, 3) := by decide +kernel
theorem dL_lend_8 : decode cL_lend 8 = .ok (.i2l, 1) := by decide +kernel
theorem dL_lend_9 : decode cL_lend 9 = .ok (.lastore, 1) := by decide +kernel
theorem dL_lend_10 : decode cL_lend 10 = .ok (.goto 7, 3) := by decide +kernel
theorem dL_lend_13 : decode cL_lend 13 = .ok (.astore 4, 2) := by decide +kernel
theorem dL_lend_15 : decode cL_lend 15 = .ok (.iconst 1, 1) := by decide +kernel
theorem dL_lend_16 : decode cL_lend 16 = .ok (.ireturn, 1) := by decide +kernel
theorem dL_lend_17 : decode cL_lend 17 = .ok (.iconst 0, 1) := by decide +kernel
theorem dL_lend_18 : decode cL_lend 18 = .ok (.ireturn, 1) := by decide +kernel
theorem dL_length_0 : decode cL_length 0 = .ok (.aload_n 2, 1) := by decide +kernel
theorem dL_length_1 : decode cL_length 1 = .ok (.iconst 0, 1) := by decide +kernel
theorem dL_length_2 : decode cL_length 2 = .ok (.aload_n 0, 1) := by decide +kernel
theorem dL_length_3 : decode cL_length 3 = .ok (.iload_n 1, 1) := by decide +kernel
theorem dL_length_4 : decode cL_length 4 = .ok (.invokevirtual 20, 3) := by decide +kernel
theorem dL_length_7 : decode cL_length 7 = .ok (.i2l, 1) := by decide +kernel
theorem dL_length_8 : decode cL_length 8 = .ok (.lastore, 1) := by decide +kernel
theorem dL_length_9 : decode cL_length 9 = .ok (.goto 6, 3) := by decide +kernel
theorem dL_length_12 : decode cL_length 12 = .ok (.astore_n 3, 1) := by decide +kernel
theorem dL_length_13 : decode cL_length 13 = .ok (.iconst 1, 1) := by decide +kernel
theorem dL_length_14 : decode cL_length 14 = .ok (.ireturn, 1) := by decide +kernel
theorem dL_length_15 : decode cL_length 15 = .ok (.iconst 0, 1) := by decide +kernel
theorem dL_length_16 : decode cL_length 16 = .ok (.ireturn, 1) := by decide +kernel
theorem dL_get_0 : decode cL_get 0 = .ok (.aload_n 3, 1) := by decide +kernel
theorem dL_get_1 : decode cL_get 1 = .ok (.iconst 0, 1) := by decide +kernel
theorem dL_get_2 : decode cL_get 2 = .ok (.aload_n 0, 1) := by decide +kernel
theorem dL_get_3 : decode cL_get 3 = .ok (.iload_n 1, 1) := by decide +kernel
theorem dL_get_4 : decode cL_get 4 = .ok (.iload_n 2, 1) := by decide +kernel
theorem dL_get_5 : decode cL_get 5 = .ok (.invokevirtual 24, 3) := by decide +kernel
theorem dL_get_8 : decode cL_get 8 = .ok (.i2l, 1) := by decide +kernel
theorem dL_get_9 : decode cL_get 9 = .ok (.lastore, 1) := by decide +kernel
theorem dL_get_10 : decode cL_get 10 = .ok (.goto 7, 3) := by decide +kernel
theorem dL_get_13 : decode cL_get 13 = .ok (.astore 4, 2) := by decide +kernel
theorem dL_get_15 : decode cL_get 15 = .ok (.iconst 1, 1) := by decide +kernel
theorem dL_get_16 : decode cL_get 16 = .ok (.ireturn, 1) := by decide +kernel
theorem dL_get_17 : decode cL_get 17 = .ok (.iconst 0, 1) := by decide +kernel
theorem dL_get_18 : decode cL_get 18 = .ok (.ireturn, 1) := by decide +kernel
theorem dL_put_0 : decode cL_put 0 = .ok (.aload 4, 2) := by decide +kernel
theorem dL_put_2 : decode cL_put 2 = .ok (.iconst 0, 1) := by decide +kernel
theorem dL_put_3 : decode cL_put 3 = .ok (.aload_n 0, 1) := by decide +kernel
theorem dL_put_4 : decode cL_put 4 = .ok (.iload_n 1, 1) := by decide +kernel
theorem dL_put_5 : decode cL_put 5 = .ok (.iload_n 2, 1) := by decide +kernel
theorem dL_put_6 : decode cL_put 6 = .ok (.iload_n 3, 1) := by decide +kernel
theorem dL_put_7 : decode cL_put 7 = .ok (.invokevirtual 27, 3) := by decide +kernel
theorem dL_put_10 : decode cL_put 10 = .ok (.i2l, 1) := by decide +kernel
theorem dL_put_11 : decode cL_put 11 = .ok (.lastore, 1) := by decide +kernel
theorem dL_put_12 : decode cL_put 12 = .ok (.goto 7, 3) := by decide +kernel
theorem dL_put_15 : decode cL_put 15 = .ok (.astore 5, 2) := by decide +kernel
theorem dL_put_17 : decode cL_put 17 = .ok (.iconst 1, 1) := by decide +kernel
theorem dL_put_18 : decode cL_put 18 = .ok (.ireturn, 1) := by decide +kernel
theorem dL_put_19 : decode cL_put 19 = .ok (.iconst 0, 1) := by decide +kernel
theorem dL_put_20 : decode cL_put 20 = .ok (.ireturn, 1) := by decide +kernel
theorem dL_fill_0 : decode cL_fill 0 = .ok (.aload 6, 2) := by decide +kernel
theorem dL_fill_2 : decode cL_fill 2 = .ok (.iconst 0, 1) := by decide +kernel
theorem dL_fill_3 : decode cL_fill 3 = .ok (.aload_n 0, 1) := by decide +kernel
theorem dL_fill_4 : decode cL_fill 4 = .ok (.iload_n 1, 1) := by decide +kernel
theorem dL_fill_5 : decode cL_fill 5 = .ok (.iload_n 2, 1) := by decide +kernel
theorem dL_fill_6 : decode cL_fill 6 = .ok (.iload_n 3, 1) := by decide +kernel
theorem dL_fill_7 : decode cL_fill 7 = .ok (.iload 4, 2) := by decide +kernel
theorem dL_fill_9 : decode cL_fill 9 = .ok (.iload 5, 2) := by decide +kernel
theorem dL_fill_11 : decode cL_fill 11 = .ok (.invokevirtual 31, 3) := by decide +kernel
theorem dL_fill_14 : decode cL_fill 14 = .ok (.i2l, 1) := by decide +kernel
theorem dL_fill_15 : decode cL_fill 15 = .ok (.lastore, 1) := by decide +kernel
theorem dL_fill_16 : decode cL_fill 16 = .ok (.goto 7, 3) := by decide +kernel
theorem dL_fill_19 : decode cL_fill 19 = .ok (.astore 7, 2) := by decide +kernel
theorem dL_fill_21 : decode cL_fill 21 = .ok (.iconst 1, 1) := by decide +kernel
theorem dL_fill_22 : decode cL_fill 22 = .ok (.ireturn, 1) := by decide +kernel
theorem dL_fill_23 : decode cL_fill 23 = .ok (.iconst 0, 1) := by decide +kernel
theorem dL_fill_24 : decode cL_fill 24 = .ok (.ireturn, 1) := by decide +kernel
theorem dL_isLike_0 : decode cL_isLike 0 = .ok (.aload_n 3, 1) := by decide +kernel
theorem dL_isLike_1 : decode cL_isLike 1 = .ok (.iconst 0, 1) := by decide +kernel
theorem dL_isLike_2 : decode cL_isLike 2 = .ok (.aload_n 0, 1) := by decide +kernel
theorem dL_isLike_3 : decode cL_isLike 3 = .ok (.iload_n 1, 1) := by decide +kernel
theorem dL_isLike_4 : decode cL_isLike 4 = .ok (.iload_n 2, 1) := by decide +kernel
theorem dL_isLike_5 : decode cL_isLike 5 = .ok (.invokevirtual 35, 3) := by decide +kernel
theorem dL_isLike_8 : decode cL_isLike 8 = .ok (.ifCond .eq 7, 3) := by decide +kernel
theorem dL_isLike_11 : decode cL_isLike 11 = .ok (.lconst 1, 1) := by decide +kernel
theorem dL_isLike_12 : decode cL_isLike 12 = .ok (.goto 4, 3) := by decide +kernel
theorem dL_isLike_15 : decode cL_isLike 15 = .ok (.lconst 0, 1) := by decide +kernel
theorem dL_isLike_16 : decode cL_isLike 16 = .ok (.lastore, 1) := by decide +kernel
theorem dL_isLike_17 : decode cL_isLike 17 = .ok (.goto 7, 3) := by decide +kernel
theorem dL_isLike_20 : decode cL_isLike 20 = .ok (.astore 4, 2) := by decide +kernel
theorem dL_isLike_22 : decode cL_isLike 22 = .ok (.iconst 1, 1) := by decide +kernel
theorem dL_isLike_23 : decode cL_isLike 23 = .ok (.ireturn, 1) := by decide +kernel
theorem dL_isLike_24 : decode cL_isLike 24 = .ok (.iconst 0, 1) := by decide +kernel
theorem dL_isLike_25 : decode cL_isLike 25 = .ok (.ireturn, 1) := by decide +kernel
theorem dL_write_0 : decode cL_write 0 = .ok (.aload_n 3, 1) := by decide +kernel
theorem dL_write_1 : decode cL_write 1 = .ok (.iconst 0, 1) := by decide +kernel
theorem dL_write_2 : decode cL_write 2 = .ok (.aload_n 0, 1) := by decide +kernel
theorem dL_write_3 : decode cL_write 3 = .ok (.iload_n 1, 1) := by decide +kernel
theorem dL_write_4 : decode cL_write 4 = .ok (.iload_n 2, 1) := by decide +kernel
theorem dL_write_5 : decode cL_write 5 = .ok (.invokevirtual 39, 3) := by decide +kernel
theorem dL_write_8 : decode cL_write 8 = .ok (.i2l, 1) := by decide +kernel
theorem dL_write_9 : decode cL_write 9 = .ok (.lastore, 1) := by decide +kernel
theorem dL_write_10 : decode cL_write 10 = .ok (.goto 11, 3) := by decide +kernel
theorem dL_write_13 : decode cL_write 13 = .ok (.astore 4, 2) := by decide +kernel
theorem dL_write_15 : decode cL_write 15 = .ok (.iconst 1, 1) := by decide +kernel
theorem dL_write_16 : decode cL_write 16 = .ok (.ireturn, 1) := by decide +kernel
theorem dL_write_17 : decode cL_write 17 = .ok (.astore 4, 2) := by decide +kernel
theorem dL_write_19 : decode cL_write 19 = .ok (.iconst 2, 1) := by decide +kernel
theorem dL_write_20 : decode cL_write 20 = .ok (.ireturn, 1) := by decide +kernel
theorem dL_write_21 : decode cL_write 21 = .ok (.iconst 0, 1) := by decide +kernel
theorem dL_write_22 : decode cL_write 22 = .ok (.ireturn, 1) := by decide +kernel
theorem dL_writePart_0 : decode cL_writePart 0 = .ok (.aload 5, 2) := by decide +kernel
theorem dL_writePart_2 : decode cL_writePart 2 = .ok (.iconst 0, 1) := by decide +kernel
theorem dL_writePart_3 : decode cL_writePart 3 = .ok (.aload_n 0, 1) := by decide +kernel
theorem dL_writePart_4 : decode cL_writePart 4 = .ok (.iload_n 1, 1) := by decide +kernel
theorem dL_writePart_5 : decode cL_writePart 5 = .ok (.iload_n 2, 1) := by decide +kernel
theorem dL_writePart_6 : decode cL_writePart 6 = .ok (.iload_n 3, 1) := by decide +kernel
theorem dL_writePart_7 : decode cL_writePart 7 = .ok (.iload 4, 2) := by decide +kernel
theorem dL_writePart_9 : decode cL_writePart 9 = .ok (.invokevirtual 44, 3) := by decide +kernel
theorem dL_writePart_12 : decode cL_writePart 12 = .ok (.i2l, 1) := by decide +kernel
theorem dL_writePart_13 : decode cL_writePart 13 = .ok (.lastore, 1) := by decide +kernel
theorem dL_writePart_14 : decode cL_writePart 14 = .ok (.goto 11, 3) := by decide +kernel
theorem dL_writePart_17 : decode cL_writePart 17 = .ok (.astore 6, 2) := by decide +kernel
theorem dL_writePart_19 : decode cL_writePart 19 = .ok (.iconst 1, 1) := by decide +kernel
theorem dL_writePart_20 : decode cL_writePart 20 = .ok (.ireturn, 1) := by decide +kernel
theorem dL_writePart_21 : decode cL_writePart 21 = .ok (.astore 6, 2) := by decide +kernel
theorem dL_writePart_23 : decode cL_writePart 23 = .ok (.iconst 2, 1) := by decide +kernel
theorem dL_writePart_24 : decode cL_writePart 24 = .ok (.ireturn, 1) := by decide +kernel
theorem dL_writePart_25 : decode cL_writePart 25 = .ok (.iconst 0, 1) := by decide +kernel
theorem dL_writePart_26 : decode cL_writePart 26 = .ok (.ireturn, 1) := by decide +kernel
theorem dL_writeRow_0 : decode cL_writeRow 0 = .ok (.aload_n 3, 1) := by decide +kernel
theorem dL_writeRow_1 : decode cL_writeRow 1 = .ok (.iconst 0, 1) := by decide +kernel
theorem dL_writeRow_2 : decode cL_writeRow 2 = .ok (.aload_n 0, 1) := by decide +kernel
theorem dL_writeRow_3 : decode cL_writeRow 3 = .ok (.iload_n 1, 1) := by decide +kernel
theorem dL_writeRow_4 : decode cL_writeRow 4 = .ok (.iload_n 2, 1) := by decide +kernel
theorem dL_writeRow_5 : decode cL_writeRow 5 = .ok (.invokevirtual 48, 3) := by decide +kernel
theorem dL_writeRow_8 : decode cL_writeRow 8 = .ok (.i2l, 1) := by decide +kernel
theorem dL_writeRow_9 : decode cL_writeRow 9 = .ok (.lastore, 1) := by decide +kernel
theorem dL_writeRow_10 : decode cL_writeRow 10 = .ok (.goto 11, 3) := by decide +kernel
theorem dL_writeRow_13 : decode cL_writeRow 13 = .ok (.astore 4, 2) := by decide +kernel
theorem dL_writeRow_15 : decode cL_writeRow 15 = .ok (.iconst 1, 1) := by decide +kernel
theorem dL_writeRow_16 : decode cL_writeRow 16 = .ok (.ireturn, 1) := by decide +kernel
theorem dL_writeRow_17 : decode cL_writeRow 17 = .ok (.astore 4, 2) := by decide +kernel
theorem dL_writeRow_19 : decode cL_writeRow 19 = .ok (.iconst 2, 1) := by decide +kernel
theorem dL_writeRow_20 : decode cL_writeRow 20 = .ok (.ireturn, 1) := by decide +kernel
theorem dL_writeRow_21 : decode cL_writeRow 21 = .ok (.iconst 0, 1) := by decide +kernel
theorem dL_writeRow_22 : decode cL_writeRow 22 = .ok (.ireturn, 1) := by decide +kernel
theorem dL_writeNumber_0 : decode cL_writeNumber 0 = .ok (.aload_n 3, 1) := by decide +kernel
theorem dL_writeNumber_1 : decode cL_writeNumber 1 = .ok (.iconst 0, 1) := by decide +kernel
theorem dL_writeNumber_2 : decode cL_writeNumber 2 = .ok (.aload_n 0, 1) := by decide +kernel
theorem dL_writeNumber_3 : decode cL_writeNumber 3 = .ok (.iload_n 1, 1) := by decide +kernel
theorem dL_writeNumber_4 : decode cL_writeNumber 4 = .ok (.iload_n 2, 1) := by decide +kernel
theorem dL_writeNumber_5 : decode cL_writeNumber 5 = .ok (.invokevirtual 51, 3) := by decide +kernel
theorem dL_writeNumber_8 : decode cL_writeNumber 8 = .ok (.i2l, 1) := by decide +kernel
theorem dL_writeNumber_9 : decode cL_writeNumber 9 = .ok (.lastore, 1) := by decide +kernel
theorem dL_writeNumber_10 : decode cL_writeNumber 10 = .ok (.goto 11, 3) := by decide +kernel
theorem dL_writeNumber_13 : decode cL_writeNumber 13 = .ok (.astore 4, 2) := by decide +kernel
theorem dL_writeNumber_15 : decode cL_writeNumber 15 = .ok (.iconst 1, 1) := by decide +kernel
theorem dL_writeNumber_16 : decode cL_writeNumber 16 = .ok (.ireturn, 1) := by decide +kernel
theorem dL_writeNumber_17 : decode cL_writeNumber 17 = .ok (.astore 4, 2) := by decide +kernel
theorem dL_writeNumber_19 : decode cL_writeNumber 19 = .ok (.iconst 2, 1) := by decide +kernel
theorem dL_writeNumber_20 : decode cL_writeNumber 20 = .ok (.ireturn, 1) := by decide +kernel
theorem dL_writeNumber_21 : decode cL_writeNumber 21 = .ok (.iconst 0, 1) := by decide +kernel
theorem dL_writeNumber_22 : decode cL_writeNumber 22 = .ok (.ireturn, 1) := by decide +kernel
theorem dL_size_0 : decode cL_size 0 = .ok (.aload_n 2, 1) := by decide +kernel
theorem dL_size_1 : decode cL_size 1 = .ok (.iconst 0, 1) := by decide +kernel
theorem dL_size_2 : decode cL_size 2 = .ok (.aload_n 0, 1) := by decide +kernel
theorem dL_size_3 : decode cL_size 3 = .ok (.iload_n 1, 1) := by decide +kernel
theorem dL_size_4 : decode cL_size 4 = .ok (.invokevirtual 54, 3) := by decide +kernel
theorem dL_size_7 : decode cL_size 7 = .ok (.i2l, 1) := by decide +kernel
theorem dL_size_8 : decode cL_size 8 = .ok (.lastore, 1) := by decide +kernel
theorem dL_size_9 : decode cL_size 9 = .ok (.goto 6, 3) := by decide +kernel
theorem dL_size_12 : decode cL_size 12 = .ok (.astore_n 3, 1) := by decide +kernel
theorem dL_size_13 : decode cL_size 13 = .ok (.iconst 1, 1) := by decide +kernel
theorem dL_size_14 : decode cL_size 14 = .ok (.ireturn, 1) := by decide +kernel
theorem dL_size_15 : decode cL_size 15 = .ok (.iconst 0, 1) := by decide +kernel
theorem dL_size_16 : decode cL_size 16 = .ok (.ireturn, 1) := by decide +kernel
theorem dL_empty_0 : decode cL_empty 0 = .ok (.aload_n 2, 1) := by decide +kernel
theorem dL_empty_1 : decode cL_empty 1 = .ok (.iconst 0, 1) := by decide +kernel
theorem dL_empty_2 : decode cL_empty 2 = .ok (.aload_n 0, 1) := by decide +kernel
theorem dL_empty_3 : decode cL_empty 3 = .ok (.iload_n 1, 1) := by decide +kernel
theorem dL_empty_4 : decode cL_empty 4 = .ok (.invokevirtual 57, 3) := by decide +kernel
theorem dL_empty_7 : decode cL_empty 7 = .ok (.i2l, 1) := by decide +kernel
theorem dL_empty_8 : decode cL_empty 8 = .ok (.lastore, 1) := by decide +kernel
theorem dL_empty_9 : decode cL_empty 9 = .ok (.goto 6, 3) := by decide +kernel
theorem dL_empty_12 : decode cL_empty 12 = .ok (.astore_n 3, 1) := by decide +kernel
theorem dL_empty_13 : decode cL_empty 13 = .ok (.iconst 1, 1) := by decide +kernel
theorem dL_empty_14 : decode cL_empty 14 = .ok (.ireturn, 1) := by decide +kernel
theorem dL_empty_15 : decode cL_empty 15 = .ok (.iconst 0, 1) := by decide +kernel
theorem dL_empty_16 : decode cL_empty 16 = .ok (.ireturn, 1) := by decide +kernel
theorem dL_take_0 : decode cL_take 0 = .ok (.aload_n 3, 1) := by decide +kernel
theorem dL_take_1 : decode cL_take 1 = .ok (.iconst 0, 1) := by decide +kernel
theorem dL_take_2 : decode cL_take 2 = .ok (.aload_n 0, 1) := by decide +kernel
theorem dL_take_3 : decode cL_take 3 = .ok (.iload_n 1, 1) := by decide +kernel
theorem dL_take_4 : decode cL_take 4 = .ok (.iload_n 2, 1) := by decide +kernel
theorem dL_take_5 : decode cL_take 5 = .ok (.invokevirtual 60, 3) := by decide +kernel
theorem dL_take_8 : decode cL_take 8 = .ok (.i2l, 1) := by decide +kernel
theorem dL_take_9 : decode cL_take 9 = .ok (.lastore, 1) := by decide +kernel
theorem dL_take_10 : decode cL_take 10 = .ok (.goto 7, 3) := by decide +kernel
theorem dL_take_13 : decode cL_take 13 = .ok (.astore 4, 2) := by decide +kernel
theorem dL_take_15 : decode cL_take 15 = .ok (.iconst 1, 1) := by decide +kernel
theorem dL_take_16 : decode cL_take 16 = .ok (.ireturn, 1) := by decide +kernel
theorem dL_take_17 : decode cL_take 17 = .ok (.iconst 0, 1) := by decide +kernel
theorem dL_take_18 : decode cL_take 18 = .ok (.ireturn, 1) := by decide +kernel
theorem dL_open_0 : decode cL_open 0 = .ok (.aload_n 3, 1) := by decide +kernel
theorem dL_open_1 : decode cL_open 1 = .ok (.iconst 0, 1) := by decide +kernel
theorem dL_open_2 : decode cL_open 2 = .ok (.aload_n 0, 1) := by decide +kernel
theorem dL_open_3 : decode cL_open 3 = .ok (.iload_n 1, 1) := by decide +kernel
theorem dL_open_4 : decode cL_open 4 = .ok (.iload_n 2, 1) := by decide +kernel
theorem dL_open_5 : decode cL_open 5 = .ok (.invokevirtual 63, 3) := by decide +kernel
theorem dL_open_8 : decode cL_open 8 = .ok (.i2l, 1) := by decide +kernel
theorem dL_open_9 : decode cL_open 9 = .ok (.lastore, 1) := by decide +kernel
theorem dL_open_10 : decode cL_open 10 = .ok (.goto 7, 3) := by decide +kernel
theorem dL_open_13 : decode cL_open 13 = .ok (.astore 4, 2) := by decide +kernel
theorem dL_open_15 : decode cL_open 15 = .ok (.iconst 1, 1) := by decide +kernel
theorem dL_open_16 : decode cL_open 16 = .ok (.ireturn, 1) := by decide +kernel
theorem dL_open_17 : decode cL_open 17 = .ok (.iconst 0, 1) := by decide +kernel
theorem dL_open_18 : decode cL_open 18 = .ok (.ireturn, 1) := by decide +kernel
theorem dL_isOpen_0 : decode cL_isOpen 0 = .ok (.aload_n 2, 1) := by decide +kernel
theorem dL_isOpen_1 : decode cL_isOpen 1 = .ok (.iconst 0, 1) := by decide +kernel
theorem dL_isOpen_2 : decode cL_isOpen 2 = .ok (.aload_n 0, 1) := by decide +kernel
theorem dL_isOpen_3 : decode cL_isOpen 3 = .ok (.iload_n 1, 1) := by decide +kernel
theorem dL_isOpen_4 : decode cL_isOpen 4 = .ok (.invokevirtual 66, 3) := by decide +kernel
theorem dL_isOpen_7 : decode cL_isOpen 7 = .ok (.ifCond .eq 7, 3) := by decide +kernel
theorem dL_isOpen_10 : decode cL_isOpen 10 = .ok (.lconst 1, 1) := by decide +kernel
theorem dL_isOpen_11 : decode cL_isOpen 11 = .ok (.goto 4, 3) := by decide +kernel
theorem dL_isOpen_14 : decode cL_isOpen 14 = .ok (.lconst 0, 1) := by decide +kernel
theorem dL_isOpen_15 : decode cL_isOpen 15 = .ok (.lastore, 1) := by decide +kernel
theorem dL_isOpen_16 : decode cL_isOpen 16 = .ok (.goto 6, 3) := by decide +kernel
theorem dL_isOpen_19 : decode cL_isOpen 19 = .ok (.astore_n 3, 1) := by decide +kernel
theorem dL_isOpen_20 : decode cL_isOpen 20 = .ok (.iconst 1, 1) := by decide +kernel
theorem dL_isOpen_21 : decode cL_isOpen 21 = .ok (.ireturn, 1) := by decide +kernel
theorem dL_isOpen_22 : decode cL_isOpen 22 = .ok (.iconst 0, 1) := by decide +kernel
theorem dL_isOpen_23 : decode cL_isOpen 23 = .ok (.ireturn, 1) := by decide +kernel
theorem dL_read_0 : decode cL_read 0 = .ok (.aload_n 2, 1) := by decide +kernel
theorem dL_read_1 : decode cL_read 1 = .ok (.iconst 0, 1) := by decide +kernel
theorem dL_read_2 : decode cL_read 2 = .ok (.aload_n 0, 1) := by decide +kernel
theorem dL_read_3 : decode cL_read 3 = .ok (.iload_n 1, 1) := by decide +kernel
theorem dL_read_4 : decode cL_read 4 = .ok (.invokevirtual 70, 3) := by decide +kernel
theorem dL_read_7 : decode cL_read 7 = .ok (.i2l, 1) := by decide +kernel
theorem dL_read_8 : decode cL_read 8 = .ok (.lastore, 1) := by decide +kernel
theorem dL_read_9 : decode cL_read 9 = .ok (.goto 9, 3) := by decide +kernel
theorem dL_read_12 : decode cL_read 12 = .ok (.astore_n 3, 1) := by decide +kernel
theorem dL_read_13 : decode cL_read 13 = .ok (.iconst 1, 1) := by decide +kernel
theorem dL_read_14 : decode cL_read 14 = .ok (.ireturn, 1) := by decide +kernel
theorem dL_read_15 : decode cL_read 15 = .ok (.astore_n 3, 1) := by decide +kernel
theorem dL_read_16 : decode cL_read 16 = .ok (.iconst 2, 1) := by decide +kernel
theorem dL_read_17 : decode cL_read 17 = .ok (.ireturn, 1) := by decide +kernel
theorem dL_read_18 : decode cL_read 18 = .ok (.iconst 0, 1) := by decide +kernel
theorem dL_read_19 : decode cL_read 19 = .ok (.ireturn, 1) := by decide +kernel
theorem dL_readPart_0 : decode cL_readPart 0 = .ok (.aload 5, 2) := by decide +kernel
theorem dL_readPart_2 : decode cL_readPart 2 = .ok (.iconst 0, 1) := by decide +kernel
theorem dL_readPart_3 : decode cL_readPart 3 = .ok (.aload_n 0, 1) := by decide +kernel
theorem dL_readPart_4 : decode cL_readPart 4 = .ok (.iload_n 1, 1) := by decide +kernel
theorem dL_readPart_5 : decode cL_readPart 5 = .ok (.iload_n 2, 1) := by decide +kernel
theorem dL_readPart_6 : decode cL_readPart 6 = .ok (.iload_n 3, 1) := by decide +kernel
theorem dL_readPart_7 : decode cL_readPart 7 = .ok (.iload 4, 2) := by decide +kernel
theorem dL_readPart_9 : decode cL_readPart 9 = .ok (.invokevirtual 75, 3) := by decide +kernel
theorem dL_readPart_12 : decode cL_readPart 12 = .ok (.i2l, 1) := by decide +kernel
theorem dL_readPart_13 : decode cL_readPart 13 = .ok (.lastore, 1) := by decide +kernel
theorem dL_readPart_14 : decode cL_readPart 14 = .ok (.goto 11, 3) := by decide +kernel
theorem dL_readPart_17 : decode cL_readPart 17 = .ok (.astore 6, 2) := by decide +kernel
theorem dL_readPart_19 : decode cL_readPart 19 = .ok (.iconst 1, 1) := by decide +kernel
theorem dL_readPart_20 : decode cL_readPart 20 = .ok (.ireturn, 1) := by decide +kernel
theorem dL_readPart_21 : decode cL_readPart 21 = .ok (.astore 6, 2) := by decide +kernel
theorem dL_readPart_23 : decode cL_readPart 23 = .ok (.iconst 2, 1) := by decide +kernel
theorem dL_readPart_24 : decode cL_readPart 24 = .ok (.ireturn, 1) := by decide +kernel
theorem dL_readPart_25 : decode cL_readPart 25 = .ok (.iconst 0, 1) := by decide +kernel
theorem dL_readPart_26 : decode cL_readPart 26 = .ok (.ireturn, 1) := by decide +kernel
theorem dL_readFull_0 : decode cL_readFull 0 = .ok (.aload 5, 2) := by decide +kernel
theorem dL_readFull_2 : decode cL_readFull 2 = .ok (.iconst 0, 1) := by decide +kernel
theorem dL_readFull_3 : decode cL_readFull 3 = .ok (.aload_n 0, 1) := by decide +kernel
theorem dL_readFull_4 : decode cL_readFull 4 = .ok (.iload_n 1, 1) := by decide +kernel
theorem dL_readFull_5 : decode cL_readFull 5 = .ok (.iload_n 2, 1) := by decide +kernel
theorem dL_readFull_6 : decode cL_readFull 6 = .ok (.iload_n 3, 1) := by decide +kernel
theorem dL_readFull_7 : decode cL_readFull 7 = .ok (.iload 4, 2) := by decide +kernel
theorem dL_readFull_9 : decode cL_readFull 9 = .ok (.invokevirtual 78, 3) := by decide +kernel
theorem dL_readFull_12 : decode cL_readFull 12 = .ok (.i2l, 1) := by decide +kernel
theorem dL_readFull_13 : decode cL_readFull 13 = .ok (.lastore, 1) := by decide +kernel
theorem dL_readFull_14 : decode cL_readFull 14 = .ok (.goto 15, 3) := by decide +kernel
theorem dL_readFull_17 : decode cL_readFull 17 = .ok (.astore 6, 2) := by decide +kernel
theorem dL_readFull_19 : decode cL_readFull 19 = .ok (.iconst 1, 1) := by decide +kernel
theorem dL_readFull_20 : decode cL_readFull 20 = .ok (.ireturn, 1) := by decide +kernel
theorem dL_readFull_21 : decode cL_readFull 21 = .ok (.astore 6, 2) := by decide +kernel
theorem dL_readFull_23 : decode cL_readFull 23 = .ok (.iconst 2, 1) := by decide +kernel
theorem dL_readFull_24 : decode cL_readFull 24 = .ok (.ireturn, 1) := by decide +kernel
theorem dL_readFull_25 : decode cL_readFull 25 = .ok (.astore 6, 2) := by decide +kernel
theorem dL_readFull_27 : decode cL_readFull 27 = .ok (.iconst 3, 1) := by decide +kernel
theorem dL_readFull_28 : decode cL_readFull 28 = .ok (.ireturn, 1) := by decide +kernel
theorem dL_readFull_29 : decode cL_readFull 29 = .ok (.iconst 0, 1) := by decide +kernel
theorem dL_readFull_30 : decode cL_readFull 30 = .ok (.ireturn, 1) := by decide +kernel
theorem dL_readSome_0 : decode cL_readSome 0 = .ok (.aload 4, 2) := by decide +kernel
theorem dL_readSome_2 : decode cL_readSome 2 = .ok (.iconst 0, 1) := by decide +kernel
theorem dL_readSome_3 : decode cL_readSome 3 = .ok (.aload_n 0, 1) := by decide +kernel
theorem dL_readSome_4 : decode cL_readSome 4 = .ok (.iload_n 1, 1) := by decide +kernel
theorem dL_readSome_5 : decode cL_readSome 5 = .ok (.iload_n 2, 1) := by decide +kernel
theorem dL_readSome_6 : decode cL_readSome 6 = .ok (.iload_n 3, 1) := by decide +kernel
theorem dL_readSome_7 : decode cL_readSome 7 = .ok (.invokevirtual 81, 3) := by decide +kernel
theorem dL_readSome_10 : decode cL_readSome 10 = .ok (.i2l, 1) := by decide +kernel
theorem dL_readSome_11 : decode cL_readSome 11 = .ok (.lastore, 1) := by decide +kernel
theorem dL_readSome_12 : decode cL_readSome 12 = .ok (.goto 15, 3) := by decide +kernel
theorem dL_readSome_15 : decode cL_readSome 15 = .ok (.astore 5, 2) := by decide +kernel
theorem dL_readSome_17 : decode cL_readSome 17 = .ok (.iconst 1, 1) := by decide +kernel
theorem dL_readSome_18 : decode cL_readSome 18 = .ok (.ireturn, 1) := by decide +kernel
theorem dL_readSome_19 : decode cL_readSome 19 = .ok (.astore 5, 2) := by decide +kernel
theorem dL_readSome_21 : decode cL_readSome 21 = .ok (.iconst 2, 1) := by decide +kernel
theorem dL_readSome_22 : decode cL_readSome 22 = .ok (.ireturn, 1) := by decide +kernel
theorem dL_readSome_23 : decode cL_readSome 23 = .ok (.astore 5, 2) := by decide +kernel
theorem dL_readSome_25 : decode cL_readSome 25 = .ok (.iconst 3, 1) := by decide +kernel
theorem dL_readSome_26 : decode cL_readSome 26 = .ok (.ireturn, 1) := by decide +kernel
theorem dL_readSome_27 : decode cL_readSome 27 = .ok (.iconst 0, 1) := by decide +kernel
theorem dL_readSome_28 : decode cL_readSome 28 = .ok (.ireturn, 1) := by decide +kernel
theorem dL_readNumber_0 : decode cL_readNumber 0 = .ok (.aload_n 2, 1) := by decide +kernel
theorem dL_readNumber_1 : decode cL_readNumber 1 = .ok (.iconst 0, 1) := by decide +kernel
theorem dL_readNumber_2 : decode cL_readNumber 2 = .ok (.aload_n 0, 1) := by decide +kernel
theorem dL_readNumber_3 : decode cL_readNumber 3 = .ok (.iload_n 1, 1) := by decide +kernel
theorem dL_readNumber_4 : decode cL_readNumber 4 = .ok (.invokevirtual 84, 3) := by decide +kernel
theorem dL_readNumber_7 : decode cL_readNumber 7 = .ok (.i2l, 1) := by decide +kernel
theorem dL_readNumber_8 : decode cL_readNumber 8 = .ok (.lastore, 1) := by decide +kernel
theorem dL_readNumber_9 : decode cL_readNumber 9 = .ok (.goto 12, 3) := by decide +kernel
theorem dL_readNumber_12 : decode cL_readNumber 12 = .ok (.astore_n 3, 1) := by decide +kernel
theorem dL_readNumber_13 : decode cL_readNumber 13 = .ok (.iconst 1, 1) := by decide +kernel
theorem dL_readNumber_14 : decode cL_readNumber 14 = .ok (.ireturn, 1) := by decide +kernel
theorem dL_readNumber_15 : decode cL_readNumber 15 = .ok (.astore_n 3, 1) := by decide +kernel
theorem dL_readNumber_16 : decode cL_readNumber 16 = .ok (.iconst 2, 1) := by decide +kernel
theorem dL_readNumber_17 : decode cL_readNumber 17 = .ok (.ireturn, 1) := by decide +kernel
theorem dL_readNumber_18 : decode cL_readNumber 18 = .ok (.astore_n 3, 1) := by decide +kernel
theorem dL_readNumber_19 : decode cL_readNumber 19 = .ok (.iconst 3, 1) := by decide +kernel
theorem dL_readNumber_20 : decode cL_readNumber 20 = .ok (.ireturn, 1) := by decide +kernel
theorem dL_readNumber_21 : decode cL_readNumber 21 = .ok (.iconst 0, 1) := by decide +kernel
theorem dL_readNumber_22 : decode cL_readNumber 22 = .ok (.ireturn, 1) := by decide +kernel
theorem dL_readLine_0 : decode cL_readLine 0 = .ok (.aload_n 3, 1) := by decide +kernel
theorem dL_readLine_1 : decode cL_readLine 1 = .ok (.iconst 0, 1) := by decide +kernel
theorem dL_readLine_2 : decode cL_readLine 2 = .ok (.aload_n 0, 1) := by decide +kernel
theorem dL_readLine_3 : decode cL_readLine 3 = .ok (.iload_n 1, 1) := by decide +kernel
theorem dL_readLine_4 : decode cL_readLine 4 = .ok (.iload_n 2, 1) := by decide +kernel
theorem dL_readLine_5 : decode cL_readLine 5 = .ok (.invokevirtual 89, 3) := by decide +kernel
theorem dL_readLine_8 : decode cL_readLine 8 = .ok (.i2l, 1) := by decide +kernel
theorem dL_readLine_9 : decode cL_readLine 9 = .ok (.lastore, 1) := by decide +kernel
theorem dL_readLine_10 : decode cL_readLine 10 = .ok (.goto 11, 3) := by decide +kernel
theorem dL_readLine_13 : decode cL_readLine 13 = .ok (.astore 4, 2) := by decide +kernel
theorem dL_readLine_15 : decode cL_readLine 15 = .ok (.iconst 1, 1) := by decide +kernel
theorem dL_readLine_16 : decode cL_readLine 16 = .ok (.ireturn, 1) := by decide +kernel
theorem dL_readLine_17 : decode cL_readLine 17 = .ok (.astore 4, 2) := by decide +kernel
theorem dL_readLine_19 : decode cL_readLine 19 = .ok (.iconst 2, 1) := by decide +kernel
theorem dL_readLine_20 : decode cL_readLine 20 = .ok (.ireturn, 1) := by decide +kernel
theorem dL_readLine_21 : decode cL_readLine 21 = .ok (.iconst 0, 1) := by decide +kernel
theorem dL_readLine_22 : decode cL_readLine 22 = .ok (.ireturn, 1) := by decide +kernel
theorem dL_find_0 : decode cL_find 0 = .ok (.aload_n 3, 1) := by decide +kernel
theorem dL_find_1 : decode cL_find 1 = .ok (.iconst 0, 1) := by decide +kernel
theorem dL_find_2 : decode cL_find 2 = .ok (.aload_n 0, 1) := by decide +kernel
theorem dL_find_3 : decode cL_find 3 = .ok (.iload_n 1, 1) := by decide +kernel
theorem dL_find_4 : decode cL_find 4 = .ok (.iload_n 2, 1) := by decide +kernel
theorem dL_find_5 : decode cL_find 5 = .ok (.invokevirtual 92, 3) := by decide +kernel
theorem dL_find_8 : decode cL_find 8 = .ok (.i2l, 1) := by decide +kernel
theorem dL_find_9 : decode cL_find 9 = .ok (.lastore, 1) := by decide +kernel
theorem dL_find_10 : decode cL_find 10 = .ok (.goto 11, 3) := by decide +kernel
theorem dL_find_13 : decode cL_find 13 = .ok (.astore 4, 2) := by decide +kernel
theorem dL_find_15 : decode cL_find 15 = .ok (.iconst 1, 1) := by decide +kernel
theorem dL_find_16 : decode cL_find 16 = .ok (.ireturn, 1) := by decide +kernel
theorem dL_find_17 : decode cL_find 17 = .ok (.astore 4, 2) := by decide +kernel
theorem dL_find_19 : decode cL_find 19 = .ok (.iconst 2, 1) := by decide +kernel
theorem dL_find_20 : decode cL_find 20 = .ok (.ireturn, 1) := by decide +kernel
theorem dL_find_21 : decode cL_find 21 = .ok (.iconst 0, 1) := by decide +kernel
theorem dL_find_22 : decode cL_find 22 = .ok (.ireturn, 1) := by decide +kernel
theorem dL_skip_0 : decode cL_skip 0 = .ok (.aload 4, 2) := by decide +kernel
theorem dL_skip_2 : decode cL_skip 2 = .ok (.iconst 0, 1) := by decide +kernel
theorem dL_skip_3 : decode cL_skip 3 = .ok (.aload_n 0, 1) := by decide +kernel
theorem dL_skip_4 : decode cL_skip 4 = .ok (.iload_n 1, 1) := by decide +kernel
theorem dL_skip_5 : decode cL_skip 5 = .ok (.lload_n 2, 1) := by decide +kernel
theorem dL_skip_6 : decode cL_skip 6 = .ok (.invokevirtual 95, 3) := by decide +kernel
theorem dL_skip_9 : decode cL_skip 9 = .ok (.lastore, 1) := by decide +kernel
theorem dL_skip_10 : decode cL_skip 10 = .ok (.goto 15, 3) := by decide +kernel
theorem dL_skip_13 : decode cL_skip 13 = .ok (.astore 5, 2) := by decide +kernel
theorem dL_skip_15 : decode cL_skip 15 = .ok (.iconst 1, 1) := by decide +kernel
theorem dL_skip_16 : decode cL_skip 16 = .ok (.ireturn, 1) := by decide +kernel
theorem dL_skip_17 : decode cL_skip 17 = .ok (.astore 5, 2) := by decide +kernel
theorem dL_skip_19 : decode cL_skip 19 = .ok (.iconst 2, 1) := by decide +kernel
theorem dL_skip_20 : decode cL_skip 20 = .ok (.ireturn, 1) := by decide +kernel
theorem dL_skip_21 : decode cL_skip 21 = .ok (.astore 5, 2) := by decide +kernel
theorem dL_skip_23 : decode cL_skip 23 = .ok (.iconst 3, 1) := by decide +kernel
theorem dL_skip_24 : decode cL_skip 24 = .ok (.ireturn, 1) := by decide +kernel
theorem dL_skip_25 : decode cL_skip 25 = .ok (.iconst 0, 1) := by decide +kernel
theorem dL_skip_26 : decode cL_skip 26 = .ok (.ireturn, 1) := by decide +kernel
theorem dL_left_0 : decode cL_left 0 = .ok (.aload_n 2, 1) := by decide +kernel
theorem dL_left_1 : decode cL_left 1 = .ok (.iconst 0, 1) := by decide +kernel
theorem dL_left_2 : decode cL_left 2 = .ok (.aload_n 0, 1) := by decide +kernel
theorem dL_left_3 : decode cL_left 3 = .ok (.iload_n 1, 1) := by decide +kernel
theorem dL_left_4 : decode cL_left 4 = .ok (.invokevirtual 99, 3) := by decide +kernel
theorem dL_left_7 : decode cL_left 7 = .ok (.i2l, 1) := by decide +kernel
theorem dL_left_8 : decode cL_left 8 = .ok (.lastore, 1) := by decide +kernel
theorem dL_left_9 : decode cL_left 9 = .ok (.goto 9, 3) := by decide +kernel
theorem dL_left_12 : decode cL_left 12 = .ok (.astore_n 3, 1) := by decide +kernel
theorem dL_left_13 : decode cL_left 13 = .ok (.iconst 1, 1) := by decide +kernel
theorem dL_left_14 : decode cL_left 14 = .ok (.ireturn, 1) := by decide +kernel
theorem dL_left_15 : decode cL_left 15 = .ok (.astore_n 3, 1) := by decide +kernel
theorem dL_left_16 : decode cL_left 16 = .ok (.iconst 2, 1) := by decide +kernel
theorem dL_left_17 : decode cL_left 17 = .ok (.ireturn, 1) := by decide +kernel
theorem dL_left_18 : decode cL_left 18 = .ok (.iconst 0, 1) := by decide +kernel
theorem dL_left_19 : decode cL_left 19 = .ok (.ireturn, 1) := by decide +kernel
theorem dL_mark_0 : decode cL_mark 0 = .ok (.aload_n 3, 1) := by decide +kernel
theorem dL_mark_1 : decode cL_mark 1 = .ok (.iconst 0, 1) := by decide +kernel
theorem dL_mark_2 : decode cL_mark 2 = .ok (.aload_n 0, 1) := by decide +kernel
theorem dL_mark_3 : decode cL_mark 3 = .ok (.iload_n 1, 1) := by decide +kernel
theorem dL_mark_4 : decode cL_mark 4 = .ok (.iload_n 2, 1) := by decide +kernel
theorem dL_mark_5 : decode cL_mark 5 = .ok (.invokevirtual 102, 3) := by decide +kernel
theorem dL_mark_8 : decode cL_mark 8 = .ok (.i2l, 1) := by decide +kernel
theorem dL_mark_9 : decode cL_mark 9 = .ok (.lastore, 1) := by decide +kernel
theorem dL_mark_10 : decode cL_mark 10 = .ok (.goto 11, 3) := by decide +kernel
theorem dL_mark_13 : decode cL_mark 13 = .ok (.astore 4, 2) := by decide +kernel
theorem dL_mark_15 : decode cL_mark 15 = .ok (.iconst 1, 1) := by decide +kernel
theorem dL_mark_16 : decode cL_mark 16 = .ok (.ireturn, 1) := by decide +kernel
theorem dL_mark_17 : decode cL_mark 17 = .ok (.astore 4, 2) := by decide +kernel
theorem dL_mark_19 : decode cL_mark 19 = .ok (.iconst 2, 1) := by decide +kernel
theorem dL_mark_20 : decode cL_mark 20 = .ok (.ireturn, 1) := by decide +kernel
theorem dL_mark_21 : decode cL_mark 21 = .ok (.iconst 0, 1) := by decide +kernel
theorem dL_mark_22 : decode cL_mark 22 = .ok (.ireturn, 1) := by decide +kernel
theorem dL_back_0 : decode cL_back 0 = .ok (.aload_n 2, 1) := by decide +kernel
theorem dL_back_1 : decode cL_back 1 = .ok (.iconst 0, 1) := by decide +kernel
theorem dL_back_2 : decode cL_back 2 = .ok (.aload_n 0, 1) := by decide +kernel
theorem dL_back_3 : decode cL_back 3 = .ok (.iload_n 1, 1) := by decide +kernel
theorem dL_back_4 : decode cL_back 4 = .ok (.invokevirtual 105, 3) := by decide +kernel
theorem dL_back_7 : decode cL_back 7 = .ok (.i2l, 1) := by decide +kernel
theorem dL_back_8 : decode cL_back 8 = .ok (.lastore, 1) := by decide +kernel
theorem dL_back_9 : decode cL_back 9 = .ok (.goto 9, 3) := by decide +kernel
theorem dL_back_12 : decode cL_back 12 = .ok (.astore_n 3, 1) := by decide +kernel
theorem dL_back_13 : decode cL_back 13 = .ok (.iconst 1, 1) := by decide +kernel
theorem dL_back_14 : decode cL_back 14 = .ok (.ireturn, 1) := by decide +kernel
theorem dL_back_15 : decode cL_back 15 = .ok (.astore_n 3, 1) := by decide +kernel
theorem dL_back_16 : decode cL_back 16 = .ok (.iconst 2, 1) := by decide +kernel
theorem dL_back_17 : decode cL_back 17 = .ok (.ireturn, 1) := by decide +kernel
theorem dL_back_18 : decode cL_back 18 = .ok (.iconst 0, 1) := by decide +kernel
theorem dL_back_19 : decode cL_back 19 = .ok (.ireturn, 1) := by decide +kernel
theorem dL_pour_0 : decode cL_pour 0 = .ok (.aload_n 3, 1) := by decide +kernel
theorem dL_pour_1 : decode cL_pour 1 = .ok (.iconst 0, 1) := by decide +kernel
theorem dL_pour_2 : decode cL_pour 2 = .ok (.aload_n 0, 1) := by decide +kernel
theorem dL_pour_3 : decode cL_pour 3 = .ok (.iload_n 1, 1) := by decide +kernel
theorem dL_pour_4 : decode cL_pour 4 = .ok (.iload_n 2, 1) := by decide +kernel
theorem dL_pour_5 : decode cL_pour 5 = .ok (.invokevirtual 108, 3) := by decide +kernel
theorem dL_pour_8 : decode cL_pour 8 = .ok (.i2l, 1) := by decide +kernel
theorem dL_pour_9 : decode cL_pour 9 = .ok (.lastore, 1) := by decide +kernel
theorem dL_pour_10 : decode cL_pour 10 = .ok (.goto 15, 3) := by decide +kernel
theorem dL_pour_13 : decode cL_pour 13 = .ok (.astore 4, 2) := by decide +kernel
theorem dL_pour_15 : decode cL_pour 15 = .ok (.iconst 1, 1) := by decide +kernel
theorem dL_pour_16 : decode cL_pour 16 = .ok (.ireturn, 1) := by decide +kernel
theorem dL_pour_17 : decode cL_pour 17 = .ok (.astore 4, 2) := by decide +kernel
theorem dL_pour_19 : decode cL_pour 19 = .ok (.iconst 2, 1) := by decide +kernel
theorem dL_pour_20 : decode cL_pour 20 = .ok (.ireturn, 1) := by decide +kernel
theorem dL_pour_21 : decode cL_pour 21 = .ok (.astore 4, 2) := by decide +kernel
theorem dL_pour_23 : decode cL_pour 23 = .ok (.iconst 3, 1) := by decide +kernel
theorem dL_pour_24 : decode cL_pour 24 = .ok (.ireturn, 1) := by decide +kernel
theorem dL_pour_25 : decode cL_pour 25 = .ok (.iconst 0, 1) := by decide +kernel
theorem dL_pour_26 : decode cL_pour 26 = .ok (.ireturn, 1) := by decide +kernel
theorem dL_pourParts_0 : decode cL_pourParts 0 = .ok (.aload 4, 2) := by decide +kernel
theorem dL_pourParts_2 : decode cL_pourParts 2 = .ok (.iconst 0, 1) := by decide +kernel
theorem dL_pourParts_3 : decode cL_pourParts 3 = .ok (.aload_n 0, 1) := by decide +kernel
theorem dL_pourParts_4 : decode cL_pourParts 4 = .ok (.iload_n 1, 1) := by decide +kernel
theorem dL_pourParts_5 : decode cL_pourParts 5 = .ok (.iload_n 2, 1) := by decide +kernel
theorem dL_pourParts_6 : decode cL_pourParts 6 = .ok (.iload_n 3, 1) := by decide +kernel
theorem dL_pourParts_7 : decode cL_pourParts 7 = .ok (.invokevirtual 111, 3) := by decide +kernel
theorem dL_pourParts_10 : decode cL_pourParts 10 = .ok (.i2l, 1) := by decide +kernel
theorem dL_pourParts_11 : decode cL_pourParts 11 = .ok (.lastore, 1) := by decide +kernel
theorem dL_pourParts_12 : decode cL_pourParts 12 = .ok (.goto 19, 3) := by decide +kernel
theorem dL_pourParts_15 : decode cL_pourParts 15 = .ok (.astore 5, 2) := by decide +kernel
theorem dL_pourParts_17 : decode cL_pourParts 17 = .ok (.iconst 1, 1) := by decide +kernel
theorem dL_pourParts_18 : decode cL_pourParts 18 = .ok (.ireturn, 1) := by decide +kernel
theorem dL_pourParts_19 : decode cL_pourParts 19 = .ok (.astore 5, 2) := by decide +kernel
theorem dL_pourParts_21 : decode cL_pourParts 21 = .ok (.iconst 2, 1) := by decide +kernel
theorem dL_pourParts_22 : decode cL_pourParts 22 = .ok (.ireturn, 1) := by decide +kernel
theorem dL_pourParts_23 : decode cL_pourParts 23 = .ok (.astore 5, 2) := by decide +kernel
theorem dL_pourParts_25 : decode cL_pourParts 25 = .ok (.iconst 3, 1) := by decide +kernel
theorem dL_pourParts_26 : decode cL_pourParts 26 = .ok (.ireturn, 1) := by decide +kernel
theorem dL_pourParts_27 : decode cL_pourParts 27 = .ok (.astore 5, 2) := by decide +kernel
theorem dL_pourParts_29 : decode cL_pourParts 29 = .ok (.iconst 4, 1) := by decide +kernel
theorem dL_pourParts_30 : decode cL_pourParts 30 = .ok (.ireturn, 1) := by decide +kernel
theorem dL_pourParts_31 : decode cL_pourParts 31 = .ok (.iconst 0, 1) := by decide +kernel
theorem dL_pourParts_32 : decode cL_pourParts 32 = .ok (.ireturn, 1) := by decide +kernel
theorem dL_alike_0 : decode cL_alike 0 = .ok (.aload_n 3, 1) := by decide +kernel
theorem dL_alike_1 : decode cL_alike 1 = .ok (.iconst 0, 1) := by decide +kernel
theorem dL_alike_2 : decode cL_alike 2 = .ok (.aload_n 0, 1) := by decide +kernel
theorem dL_alike_3 : decode cL_alike 3 = .ok (.iload_n 1, 1) := by decide +kernel
theorem dL_alike_4 : decode cL_alike 4 = .ok (.iload_n 2, 1) := by decide +kernel
theorem dL_alike_5 : decode cL_alike 5 = .ok (.invokevirtual 114, 3) := by decide +kernel
theorem dL_alike_8 : decode cL_alike 8 = .ok (.i2l, 1) := by decide +kernel
theorem dL_alike_9 : decode cL_alike 9 = .ok (.lastore, 1) := by decide +kernel
theorem dL_alike_10 : decode cL_alike 10 = .ok (.goto 15, 3) := by decide +kernel
theorem dL_alike_13 : decode cL_alike 13 = .ok (.astore 4, 2) := by decide +kernel
theorem dL_alike_15 : decode cL_alike 15 = .ok (.iconst 1, 1) := by decide +kernel
theorem dL_alike_16 : decode cL_alike 16 = .ok (.ireturn, 1) := by decide +kernel
theorem dL_alike_17 : decode cL_alike 17 = .ok (.astore 4, 2) := by decide +kernel
theorem dL_alike_19 : decode cL_alike 19 = .ok (.iconst 2, 1) := by decide +kernel
theorem dL_alike_20 : decode cL_alike 20 = .ok (.ireturn, 1) := by decide +kernel
theorem dL_alike_21 : decode cL_alike 21 = .ok (.astore 4, 2) := by decide +kernel
theorem dL_alike_23 : decode cL_alike 23 = .ok (.iconst 3, 1) := by decide +kernel
theorem dL_alike_24 : decode cL_alike 24 = .ok (.ireturn, 1) := by decide +kernel
theorem dL_alike_25 : decode cL_alike 25 = .ok (.iconst 0, 1) := by decide +kernel
theorem dL_alike_26 : decode cL_alike 26 = .ok (.ireturn, 1) := by decide +kernel
theorem dL_leftShare_0 : decode cL_leftShare 0 = .ok (.aload_n 2, 1) := by decide +kernel
theorem dL_leftShare_1 : decode cL_leftShare 1 = .ok (.iconst 0, 1) := by decide +kernel
theorem dL_leftShare_2 : decode cL_leftShare 2 = .ok (.aload_n 0, 1) := by decide +kernel
theorem dL_leftShare_3 : decode cL_leftShare 3 = .ok (.iload_n 1, 1) := by decide +kernel
theorem dL_leftShare_4 : decode cL_leftShare 4 = .ok (.invokevirtual 117, 3) := by decide +kernel
theorem dL_leftShare_7 : decode cL_leftShare 7 = .ok (.f2d, 1) := by decide +kernel
theorem dL_leftShare_8 : decode cL_leftShare 8 = .ok (.dastore, 1) := by decide +kernel
theorem dL_leftShare_9 : decode cL_leftShare 9 = .ok (.goto 12, 3) := by decide +kernel
theorem dL_leftShare_12 : decode cL_leftShare 12 = .ok (.astore_n 3, 1) := by decide +kernel
theorem dL_leftShare_13 : decode cL_leftShare 13 = .ok (.iconst 1, 1) := by decide +kernel
theorem dL_leftShare_14 : decode cL_leftShare 14 = .ok (.ireturn, 1) := by decide +kernel
theorem dL_leftShare_15 : decode cL_leftShare 15 = .ok (.astore_n 3, 1) := by decide +kernel
theorem dL_leftShare_16 : decode cL_leftShare 16 = .ok (.iconst 2, 1) := by decide +kernel
theorem dL_leftShare_17 : decode cL_leftShare 17 = .ok (.ireturn, 1) := by decide +kernel
theorem dL_leftShare_18 : decode cL_leftShare 18 = .ok (.astore_n 3, 1) := by decide +kernel
theorem dL_leftShare_19 : decode cL_leftShare 19 = .ok (.iconst 3, 1) := by decide +kernel
theorem dL_leftShare_20 : decode cL_leftShare 20 = .ok (.ireturn, 1) := by decide +kernel
theorem dL_leftShare_21 : decode cL_leftShare 21 = .ok (.iconst 0, 1) := by decide +kernel
theorem dL_leftShare_22 : decode cL_leftShare 22 = .ok (.ireturn, 1) := by decide +kernel
theorem dL_meanSize_0 : decode cL_meanSize 0 = .ok (.aload_n 1, 1) := by decide +kernel
theorem dL_meanSize_1 : decode cL_meanSize 1 = .ok (.iconst 0, 1) := by decide +kernel
theorem dL_meanSize_2 : decode cL_meanSize 2 = .ok (.aload_n 0, 1) := by decide +kernel
theorem dL_meanSize_3 : decode cL_meanSize 3 = .ok (.invokevirtual 123, 3) := by decide +kernel
theorem dL_meanSize_6 : decode cL_meanSize 6 = .ok (.dastore, 1) := by decide +kernel
theorem dL_meanSize_7 : decode cL_meanSize 7 = .ok (.goto 6, 3) := by decide +kernel
theorem dL_meanSize_10 : decode cL_meanSize 10 = .ok (.astore_n 2, 1) := by decide +kernel
theorem dL_meanSize_11 : decode cL_meanSize 11 = .ok (.iconst 1, 1) := by decide +kernel
theorem dL_meanSize_12 : decode cL_meanSize 12 = .ok (.ireturn, 1) := by decide +kernel
theorem dL_meanSize_13 : decode cL_meanSize 13 = .ok (.iconst 0, 1) := by decide +kernel
theorem dL_meanSize_14 : decode cL_meanSize 14 = .ok (.ireturn, 1) := by decide +kernel
