theorem dL_append_0 : dec mL_append 0 = .ok (.aload_n 2, 1) := by decide +kernel
theorem dL_append_1 : dec mL_append 1 = .ok (.iconst 0, 1) := by decide +kernel
theorem dL_append_2 : dec mL_append 2 = .ok (.aload_n 0, 1) := by decide +kernel
theorem dL_append_3 : dec mL_append 3 = .ok (.iload_n 1, 1) := by decide +kernel
theorem dL_append_4 : dec mL_append 4 = .ok (.invokevirtual 7, 3) := by decide +kernel
theorem dL_append_7 : dec mL_append 7 = .ok (.i2l, 1) := by decide +kernel
theorem dL_append_8 : dec mL_append 8 = .ok (.lastore, 1) := by decide +kernel
theorem dL_append_9 : dec mL_append 9 = .ok (.goto 9, 3) := by decide +kernel
theorem dL_append_12 : dec mL_append 12 = .ok (.astore_n 3, 1) := by decide +kernel
theorem dL_append_13 : dec mL_append 13 = .ok (.iconst 1, 1) := by decide +kernel
theorem dL_append_14 : dec mL_append 14 = .ok (.ireturn, 1) := by decide +kernel
theorem dL_append_15 : dec mL_append 15 = .ok (.astore_n 3, 1) := by decide +kernel
theorem dL_append_16 : dec mL_append 16 = .ok (.iconst 2, 1) := by decide +kernel
theorem dL_append_17 : dec mL_append 17 = .ok (.ireturn, 1) := by decide +kernel
theorem dL_append_18 : dec mL_append 18 = .ok (.iconst 0, 1) := by decide +kernel
theorem dL_append_19 : dec mL_append 19 = .ok (.ireturn, 1) := by decide +kernel
theorem dL_load_0 : dec mL_load 0 = .ok (.aload_n 1, 1) := by decide +kernel
theorem dL_load_1 : dec mL_load 1 = .ok (.iconst 0, 1) := by decide +kernel
theorem dL_load_2 : dec mL_load 2 = .ok (.aload_n 0, 1) := by decide +kernel
theorem dL_load_3 : dec mL_load 3 = .ok (.invokevirtual 17, 3) := by decide +kernel
theorem dL_load_6 : dec mL_load 6 = .ok (.i2l, 1) := by decide +kernel
theorem dL_load_7 : dec mL_load 7 = .ok (.lastore, 1) := by decide +kernel
theorem dL_load_8 : dec mL_load 8 = .ok (.goto 6, 3) := by decide +kernel
theorem dL_load_11 : dec mL_load 11 = .ok (.astore_n 2, 1) := by decide +kernel
theorem dL_load_12 : dec mL_load 12 = .ok (.iconst 1, 1) := by decide +kernel
theorem dL_load_13 : dec mL_load 13 = .ok (.ireturn, 1) := by decide +kernel
theorem dL_load_14 : dec mL_load 14 = .ok (.iconst 0, 1) := by decide +kernel
theorem dL_load_15 : dec mL_load 15 = .ok (.ireturn, 1) := by decide +kernel
theorem dL_about_0 : dec mL_about 0 = .ok (.aload_n 2, 1) := by decide +kernel
theorem dL_about_1 : dec mL_about 1 = .ok (.iconst 0, 1) := by decide +kernel
theorem dL_about_2 : dec mL_about 2 = .ok (.aload_n 0, 1) := by decide +kernel
theorem dL_about_3 : dec mL_about 3 = .ok (.iload_n 1, 1) := by decide +kernel
theorem dL_about_4 : dec mL_about 4 = .ok (.invokevirtual 21, 3) := by decide +kernel
theorem dL_about_7 : dec mL_about 7 = .ok (.i2l, 1) := by decide +kernel
theorem dL_about_8 : dec mL_about 8 = .ok (.lastore, 1) := by decide +kernel
theorem dL_about_9 : dec mL_about 9 = .ok (.goto 6, 3) := by decide +kernel
theorem dL_about_12 : dec mL_about 12 = .ok (.astore_n 3, 1) := by decide +kernel
theorem dL_about_13 : dec mL_about 13 = .ok (.iconst 1, 1) := by decide +kernel
theorem dL_about_14 : dec mL_about 14 = .ok (.ireturn, 1) := by decide +kernel
theorem dL_about_15 : dec mL_about 15 = .ok (.iconst 0, 1) := by decide +kernel
theorem dL_about_16 : dec mL_about 16 = .ok (.ireturn, 1) := by decide +kernel
theorem dL_square_0 : dec mL_square 0 = .ok (.aload 4, 2) := by decide +kernel
theorem dL_square_2 : dec mL_square 2 = .ok (.iconst 0, 1) := by decide +kernel
theorem dL_square_3 : dec mL_square 3 = .ok (.aload_n 0, 1) := by decide +kernel
theorem dL_square_4 : dec mL_square 4 = .ok (.iload_n 1, 1) := by decide +kernel
theorem dL_square_5 : dec mL_square 5 = .ok (.iload_n 2, 1) := by decide +kernel
theorem dL_square_6 : dec mL_square 6 = .ok (.iload_n 3, 1) := by decide +kernel
theorem dL_square_7 : dec mL_square 7 = .ok (.invokevirtual 24, 3) := by decide +kernel
theorem dL_square_10 : dec mL_square 10 = .ok (.i2l, 1) := by decide +kernel
theorem dL_square_11 : dec mL_square 11 = .ok (.lastore, 1) := by decide +kernel
theorem dL_square_12 : dec mL_square 12 = .ok (.goto 11, 3) := by decide +kernel
theorem dL_square_15 : dec mL_square 15 = .ok (.astore 5, 2) := by decide +kernel
theorem dL_square_17 : dec mL_square 17 = .ok (.iconst 1, 1) := by decide +kernel
theorem dL_square_18 : dec mL_square 18 = .ok (.ireturn, 1) := by decide +kernel
theorem dL_square_19 : dec mL_square 19 = .ok (.astore 5, 2) := by decide +kernel
theorem dL_square_21 : dec mL_square 21 = .ok (.iconst 2, 1) := by decide +kernel
theorem dL_square_22 : dec mL_square 22 = .ok (.ireturn, 1) := by decide +kernel
theorem dL_square_23 : dec mL_square 23 = .ok (.iconst 0, 1) := by decide +kernel
theorem dL_square_24 : dec mL_square 24 = .ok (.ireturn, 1) := by decide +kernel
theorem dL_place_0 : dec mL_place 0 = .ok (.aload_n 3, 1) := by decide +kernel
theorem dL_place_1 : dec mL_place 1 = .ok (.iconst 0, 1) := by decide +kernel
theorem dL_place_2 : dec mL_place 2 = .ok (.aload_n 0, 1) := by decide +kernel
theorem dL_place_3 : dec mL_place 3 = .ok (.iload_n 1, 1) := by decide +kernel
theorem dL_place_4 : dec mL_place 4 = .ok (.iload_n 2, 1) := by decide +kernel
theorem dL_place_5 : dec mL_place 5 = .ok (.invokevirtual 30, 3) := by decide +kernel
theorem dL_place_8 : dec mL_place 8 = .ok (.i2l, 1) := by decide +kernel
theorem dL_place_9 : dec mL_place 9 = .ok (.lastore, 1) := by decide +kernel
theorem dL_place_10 : dec mL_place 10 = .ok (.goto 11, 3) := by decide +kernel
theorem dL_place_13 : dec mL_place 13 = .ok (.astore 4, 2) := by decide +kernel
theorem dL_place_15 : dec mL_place 15 = .ok (.iconst 1, 1) := by decide +kernel
theorem dL_place_16 : dec mL_place 16 = .ok (.ireturn, 1) := by decide +kernel
theorem dL_place_17 : dec mL_place 17 = .ok (.astore 4, 2) := by decide +kernel
theorem dL_place_19 : dec mL_place 19 = .ok (.iconst 2, 1) := by decide +kernel
theorem dL_place_20 : dec mL_place 20 = .ok (.ireturn, 1) := by decide +kernel
theorem dL_place_21 : dec mL_place 21 = .ok (.iconst 0, 1) := by decide +kernel
theorem dL_place_22 : dec mL_place 22 = .ok (.ireturn, 1) := by decide +kernel
theorem dL_tile_0 : dec mL_tile 0 = .ok (.aload_n 3, 1) := by decide +kernel
theorem dL_tile_1 : dec mL_tile 1 = .ok (.iconst 0, 1) := by decide +kernel
theorem dL_tile_2 : dec mL_tile 2 = .ok (.aload_n 0, 1) := by decide +kernel
theorem dL_tile_3 : dec mL_tile 3 = .ok (.iload_n 1, 1) := by decide +kernel
theorem dL_tile_4 : dec mL_tile 4 = .ok (.iload_n 2, 1) := by decide +kernel
theorem dL_tile_5 : dec mL_tile 5 = .ok (.invokevirtual 34, 3) := by decide +kernel
theorem dL_tile_8 : dec mL_tile 8 = .ok (.i2l, 1) := by decide +kernel
theorem dL_tile_9 : dec mL_tile 9 = .ok (.lastore, 1) := by decide +kernel
theorem dL_tile_10 : dec mL_tile 10 = .ok (.goto 11, 3) := by decide +kernel
theorem dL_tile_13 : dec mL_tile 13 = .ok (.astore 4, 2) := by decide +kernel
theorem dL_tile_15 : dec mL_tile 15 = .ok (.iconst 1, 1) := by decide +kernel
theorem dL_tile_16 : dec mL_tile 16 = .ok (.ireturn, 1) := by decide +kernel
theorem dL_tile_17 : dec mL_tile 17 = .ok (.astore 4, 2) := by decide +kernel
theorem dL_tile_19 : dec mL_tile 19 = .ok (.iconst 2, 1) := by decide +kernel
theorem dL_tile_20 : dec mL_tile 20 = .ok (.ireturn, 1) := by decide +kernel
theorem dL_tile_21 : dec mL_tile 21 = .ok (.iconst 0, 1) := by decide +kernel
theorem dL_tile_22 : dec mL_tile 22 = .ok (.ireturn, 1) := by decide +kernel
theorem dL_begin_0 : dec mL_begin 0 = .ok (.aload_n 3, 1) := by decide +kernel
theorem dL_begin_1 : dec mL_begin 1 = .ok (.iconst 0, 1) := by decide +kernel
theorem dL_begin_2 : dec mL_begin 2 = .ok (.aload_n 0, 1) := by decide +kernel
theorem dL_begin_3 : dec mL_begin 3 = .ok (.iload_n 1, 1) := by decide +kernel
theorem dL_begin_4 : dec mL_begin 4 = .ok (.iload_n 2, 1) := by decide +kernel
theorem dL_begin_5 : dec mL_begin 5 = .ok (.invokevirtual 37, 3) := by decide +kernel
theorem dL_begin_8 : dec mL_begin 8 = .ok (.i2l, 1) := by decide +kernel
theorem dL_begin_9 : dec mL_begin 9 = .ok (.lastore, 1) := by decide +kernel
theorem dL_begin_10 : dec mL_begin 10 = .ok (.goto 7, 3) := by decide +kernel
theorem dL_begin_13 : dec mL_begin 13 = .ok (.astore 4, 2) := by decide +kernel
theorem dL_begin_15 : dec mL_begin 15 = .ok (.iconst 1, 1) := by decide +kernel
theorem dL_begin_16 : dec mL_begin 16 = .ok (.ireturn, 1) := by decide +kernel
theorem dL_begin_17 : dec mL_begin 17 = .ok (.iconst 0, 1) := by decide +kernel
theorem dL_begin_18 : dec mL_begin 18 = .ok (.ireturn, 1) := by decide +kernel
theorem dL_grey_0 : dec mL_grey 0 = .ok (.aload 4, 2) := by decide +kernel
theorem dL_grey_2 : dec mL_grey 2 = .ok (.iconst 0, 1) := by decide +kernel
theorem dL_grey_3 : dec mL_grey 3 = .ok (.aload_n 0, 1) := by decide +kernel
theorem dL_grey_4 : dec mL_grey 4 = .ok (.iload_n 1, 1) := by decide +kernel
theorem dL_grey_5 : dec mL_grey 5 = .ok (.iload_n 2, 1) := by decide +kernel
theorem dL_grey_6 : dec mL_grey 6 = .ok (.iload_n 3, 1) := by decide +kernel
theorem dL_grey_7 : dec mL_grey 7 = .ok (.invokevirtual 40, 3) := by decide +kernel
theorem dL_grey_10 : dec mL_grey 10 = .ok (.i2l, 1) := by decide +kernel
theorem dL_grey_11 : dec mL_grey 11 = .ok (.lastore, 1) := by decide +kernel
theorem dL_grey_12 : dec mL_grey 12 = .ok (.goto 11, 3) := by decide +kernel
theorem dL_grey_15 : dec mL_grey 15 = .ok (.astore 5, 2) := by decide +kernel
theorem dL_grey_17 : dec mL_grey 17 = .ok (.iconst 1, 1) := by decide +kernel
theorem dL_grey_18 : dec mL_grey 18 = .ok (.ireturn, 1) := by decide +kernel
theorem dL_grey_19 : dec mL_grey 19 = .ok (.astore 5, 2) := by decide +kernel
theorem dL_grey_21 : dec mL_grey 21 = .ok (.iconst 2, 1) := by decide +kernel
theorem dL_grey_22 : dec mL_grey 22 = .ok (.ireturn, 1) := by decide +kernel
theorem dL_grey_23 : dec mL_grey 23 = .ok (.iconst 0, 1) := by decide +kernel
theorem dL_grey_24 : dec mL_grey 24 = .ok (.ireturn, 1) := by decide +kernel
theorem dL_fade_0 : dec mL_fade 0 = .ok (.aload_n 3, 1) := by decide +kernel
theorem dL_fade_1 : dec mL_fade 1 = .ok (.iconst 0, 1) := by decide +kernel
theorem dL_fade_2 : dec mL_fade 2 = .ok (.aload_n 0, 1) := by decide +kernel
theorem dL_fade_3 : dec mL_fade 3 = .ok (.iload_n 1, 1) := by decide +kernel
theorem dL_fade_4 : dec mL_fade 4 = .ok (.iload_n 2, 1) := by decide +kernel
theorem dL_fade_5 : dec mL_fade 5 = .ok (.invokevirtual 43, 3) := by decide +kernel
theorem dL_fade_8 : dec mL_fade 8 = .ok (.i2l, 1) := by decide +kernel
theorem dL_fade_9 : dec mL_fade 9 = .ok (.lastore, 1) := by decide +kernel
theorem dL_fade_10 : dec mL_fade 10 = .ok (.goto 7, 3) := by decide +kernel
theorem dL_fade_13 : dec mL_fade 13 = .ok (.astore 4, 2) := by decide +kernel
theorem dL_fade_15 : dec mL_fade 15 = .ok (.iconst 1, 1) := by decide +kernel
theorem dL_fade_16 : dec mL_fade 16 = .ok (.ireturn, 1) := by decide +kernel
theorem dL_fade_17 : dec mL_fade 17 = .ok (.iconst 0, 1) := by decide +kernel
theorem dL_fade_18 : dec mL_fade 18 = .ok (.ireturn, 1) := by decide +kernel
theorem dL_turn_0 : dec mL_turn 0 = .ok (.aload_n 2, 1) := by decide +kernel
theorem dL_turn_1 : dec mL_turn 1 = .ok (.iconst 0, 1) := by decide +kernel
theorem dL_turn_2 : dec mL_turn 2 = .ok (.aload_n 0, 1) := by decide +kernel
theorem dL_turn_3 : dec mL_turn 3 = .ok (.iload_n 1, 1) := by decide +kernel
theorem dL_turn_4 : dec mL_turn 4 = .ok (.invokevirtual 46, 3) := by decide +kernel
theorem dL_turn_7 : dec mL_turn 7 = .ok (.i2l, 1) := by decide +kernel
theorem dL_turn_8 : dec mL_turn 8 = .ok (.lastore, 1) := by decide +kernel
theorem dL_turn_9 : dec mL_turn 9 = .ok (.goto 9, 3) := by decide +kernel
theorem dL_turn_12 : dec mL_turn 12 = .ok (.astore_n 3, 1) := by decide +kernel
theorem dL_turn_13 : dec mL_turn 13 = .ok (.iconst 1, 1) := by decide +kernel
theorem dL_turn_14 : dec mL_turn 14 = .ok (.ireturn, 1) := by decide +kernel
theorem dL_turn_15 : dec mL_turn 15 = .ok (.astore_n 3, 1) := by decide +kernel
theorem dL_turn_16 : dec mL_turn 16 = .ok (.iconst 2, 1) := by decide +kernel
theorem dL_turn_17 : dec mL_turn 17 = .ok (.ireturn, 1) := by decide +kernel
theorem dL_turn_18 : dec mL_turn 18 = .ok (.iconst 0, 1) := by decide +kernel
theorem dL_turn_19 : dec mL_turn 19 = .ok (.ireturn, 1) := by decide +kernel
theorem dL_swap_0 : dec mL_swap 0 = .ok (.aload_n 3, 1) := by decide +kernel
theorem dL_swap_1 : dec mL_swap 1 = .ok (.iconst 0, 1) := by decide +kernel
theorem dL_swap_2 : dec mL_swap 2 = .ok (.aload_n 0, 1) := by decide +kernel
theorem dL_swap_3 : dec mL_swap 3 = .ok (.iload_n 1, 1) := by decide +kernel
theorem dL_swap_4 : dec mL_swap 4 = .ok (.iload_n 2, 1) := by decide +kernel
theorem dL_swap_5 : dec mL_swap 5 = .ok (.invokevirtual 49, 3) := by decide +kernel
theorem dL_swap_8 : dec mL_swap 8 = .ok (.i2l, 1) := by decide +kernel
theorem dL_swap_9 : dec mL_swap 9 = .ok (.lastore, 1) := by decide +kernel
theorem dL_swap_10 : dec mL_swap 10 = .ok (.goto 15, 3) := by decide +kernel
theorem dL_swap_13 : dec mL_swap 13 = .ok (.astore 4, 2) := by decide +kernel
theorem dL_swap_15 : dec mL_swap 15 = .ok (.iconst 1, 1) := by decide +kernel
theorem dL_swap_16 : dec mL_swap 16 = .ok (.ireturn, 1) := by decide +kernel
theorem dL_swap_17 : dec mL_swap 17 = .ok (.astore 4, 2) := by decide +kernel
theorem dL_swap_19 : dec mL_swap 19 = .ok (.iconst 2, 1) := by decide +kernel
theorem dL_swap_20 : dec mL_swap 20 = .ok (.ireturn, 1) := by decide +kernel
theorem dL_swap_21 : dec mL_swap 21 = .ok (.astore 4, 2) := by decide +kernel
theorem dL_swap_23 : dec mL_swap 23 = .ok (.iconst 3, 1) := by decide +kernel
theorem dL_swap_24 : dec mL_swap 24 = .ok (.ireturn, 1) := by decide +kernel
theorem dL_swap_25 : dec mL_swap 25 = .ok (.iconst 0, 1) := by decide +kernel
theorem dL_swap_26 : dec mL_swap 26 = .ok (.ireturn, 1) := by decide +kernel
theorem dL_flip_0 : dec mL_flip 0 = .ok (.aload_n 3, 1) := by decide +kernel
theorem dL_flip_1 : dec mL_flip 1 = .ok (.iconst 0, 1) := by decide +kernel
theorem dL_flip_2 : dec mL_flip 2 = .ok (.aload_n 0, 1) := by decide +kernel
theorem dL_flip_3 : dec mL_flip 3 = .ok (.iload_n 1, 1) := by decide +kernel
theorem dL_flip_4 : dec mL_flip 4 = .ok (.iload_n 2, 1) := by decide +kernel
theorem dL_flip_5 : dec mL_flip 5 = .ok (.invokevirtual 52, 3) := by decide +kernel
theorem dL_flip_8 : dec mL_flip 8 = .ok (.i2l, 1) := by decide +kernel
theorem dL_flip_9 : dec mL_flip 9 = .ok (.lastore, 1) := by decide +kernel
theorem dL_flip_10 : dec mL_flip 10 = .ok (.goto 11, 3) := by decide +kernel
theorem dL_flip_13 : dec mL_flip 13 = .ok (.astore 4, 2) := by decide +kernel
theorem dL_flip_15 : dec mL_flip 15 = .ok (.iconst 1, 1) := by decide +kernel
theorem dL_flip_16 : dec mL_flip 16 = .ok (.ireturn, 1) := by decide +kernel
theorem dL_flip_17 : dec mL_flip 17 = .ok (.astore 4, 2) := by decide +kernel
theorem dL_flip_19 : dec mL_flip 19 = .ok (.iconst 2, 1) := by decide +kernel
theorem dL_flip_20 : dec mL_flip 20 = .ok (.ireturn, 1) := by decide +kernel
theorem dL_flip_21 : dec mL_flip 21 = .ok (.iconst 0, 1) := by decide +kernel
theorem dL_flip_22 : dec mL_flip 22 = .ok (.ireturn, 1) := by decide +kernel
theorem dL_hold_0 : dec mL_hold 0 = .ok (.aload_n 3, 1) := by decide +kernel
theorem dL_hold_1 : dec mL_hold 1 = .ok (.iconst 0, 1) := by decide +kernel
theorem dL_hold_2 : dec mL_hold 2 = .ok (.aload_n 0, 1) := by decide +kernel
theorem dL_hold_3 : dec mL_hold 3 = .ok (.iload_n 1, 1) := by decide +kernel
theorem dL_hold_4 : dec mL_hold 4 = .ok (.iload_n 2, 1) := by decide +kernel
theorem dL_hold_5 : dec mL_hold 5 = .ok (.invokevirtual 55, 3) := by decide +kernel
theorem dL_hold_8 : dec mL_hold 8 = .ok (.i2l, 1) := by decide +kernel
theorem dL_hold_9 : dec mL_hold 9 = .ok (.lastore, 1) := by decide +kernel
theorem dL_hold_10 : dec mL_hold 10 = .ok (.goto 7, 3) := by decide +kernel
theorem dL_hold_13 : dec mL_hold 13 = .ok (.astore 4, 2) := by decide +kernel
theorem dL_hold_15 : dec mL_hold 15 = .ok (.iconst 1, 1) := by decide +kernel
theorem dL_hold_16 : dec mL_hold 16 = .ok (.ireturn, 1) := by decide +kernel
theorem dL_hold_17 : dec mL_hold 17 = .ok (.iconst 0, 1) := by decide +kernel
theorem dL_hold_18 : dec mL_hold 18 = .ok (.ireturn, 1) := by decide +kernel
theorem dL_improve_0 : dec mL_improve 0 = .ok (.aload_n 2, 1) := by decide +kernel
theorem dL_improve_1 : dec mL_improve 1 = .ok (.iconst 0, 1) := by decide +kernel
theorem dL_improve_2 : dec mL_improve 2 = .ok (.aload_n 0, 1) := by decide +kernel
theorem dL_improve_3 : dec mL_improve 3 = .ok (.iload_n 1, 1) := by decide +kernel
theorem dL_improve_4 : dec mL_improve 4 = .ok (.invokevirtual 59, 3) := by decide +kernel
theorem dL_improve_7 : dec mL_improve 7 = .ok (.i2l, 1) := by decide +kernel
theorem dL_improve_8 : dec mL_improve 8 = .ok (.lastore, 1) := by decide +kernel
theorem dL_improve_9 : dec mL_improve 9 = .ok (.goto 6, 3) := by decide +kernel
theorem dL_improve_12 : dec mL_improve 12 = .ok (.astore_n 3, 1) := by decide +kernel
theorem dL_improve_13 : dec mL_improve 13 = .ok (.iconst 1, 1) := by decide +kernel
theorem dL_improve_14 : dec mL_improve 14 = .ok (.ireturn, 1) := by decide +kernel
theorem dL_improve_15 : dec mL_improve 15 = .ok (.iconst 0, 1) := by decide +kernel
theorem dL_improve_16 : dec mL_improve 16 = .ok (.ireturn, 1) := by decide +kernel
theorem dL_undo_0 : dec mL_undo 0 = .ok (.aload_n 1, 1) := by decide +kernel
theorem dL_undo_1 : dec mL_undo 1 = .ok (.iconst 0, 1) := by decide +kernel
theorem dL_undo_2 : dec mL_undo 2 = .ok (.aload_n 0, 1) := by decide +kernel
theorem dL_undo_3 : dec mL_undo 3 = .ok (.invokevirtual 62, 3) := by decide +kernel
theorem dL_undo_6 : dec mL_undo 6 = .ok (.i2l, 1) := by decide +kernel
theorem dL_undo_7 : dec mL_undo 7 = .ok (.lastore, 1) := by decide +kernel
theorem dL_undo_8 : dec mL_undo 8 = .ok (.goto 6, 3) := by decide +kernel
theorem dL_undo_11 : dec mL_undo 11 = .ok (.astore_n 2, 1) := by decide +kernel
theorem dL_undo_12 : dec mL_undo 12 = .ok (.iconst 1, 1) := by decide +kernel
theorem dL_undo_13 : dec mL_undo 13 = .ok (.ireturn, 1) := by decide +kernel
theorem dL_undo_14 : dec mL_undo 14 = .ok (.iconst 0, 1) := by decide +kernel
theorem dL_undo_15 : dec mL_undo 15 = .ok (.ireturn, 1) := by decide +kernel
theorem dL_gain_0 : dec mL_gain 0 = .ok (.aload_n 2, 1) := by decide +kernel
theorem dL_gain_1 : dec mL_gain 1 = .ok (.iconst 0, 1) := by decide +kernel
theorem dL_gain_2 : dec mL_gain 2 = .ok (.aload_n 0, 1) := by decide +kernel
theorem dL_gain_3 : dec mL_gain 3 = .ok (.iload_n 1, 1) := by decide +kernel
theorem dL_gain_4 : dec mL_gain 4 = .ok (.invokevirtual 65, 3) := by decide +kernel
theorem dL_gain_7 : dec mL_gain 7 = .ok (.i2l, 1) := by decide +kernel
theorem dL_gain_8 : dec mL_gain 8 = .ok (.lastore, 1) := by decide +kernel
theorem dL_gain_9 : dec mL_gain 9 = .ok (.goto 6, 3) := by decide +kernel
theorem dL_gain_12 : dec mL_gain 12 = .ok (.astore_n 3, 1) := by decide +kernel
theorem dL_gain_13 : dec mL_gain 13 = .ok (.iconst 1, 1) := by decide +kernel
theorem dL_gain_14 : dec mL_gain 14 = .ok (.ireturn, 1) := by decide +kernel
theorem dL_gain_15 : dec mL_gain 15 = .ok (.iconst 0, 1) := by decide +kernel
theorem dL_gain_16 : dec mL_gain 16 = .ok (.ireturn, 1) := by decide +kernel
theorem dL_best_0 : dec mL_best 0 = .ok (.aload_n 2, 1) := by decide +kernel
theorem dL_best_1 : dec mL_best 1 = .ok (.iconst 0, 1) := by decide +kernel
theorem dL_best_2 : dec mL_best 2 = .ok (.aload_n 0, 1) := by decide +kernel
theorem dL_best_3 : dec mL_best 3 = .ok (.iload_n 1, 1) := by decide +kernel
theorem dL_best_4 : dec mL_best 4 = .ok (.invokevirtual 68, 3) := by decide +kernel
theorem dL_best_7 : dec mL_best 7 = .ok (.i2l, 1) := by decide +kernel
theorem dL_best_8 : dec mL_best 8 = .ok (.lastore, 1) := by decide +kernel
theorem dL_best_9 : dec mL_best 9 = .ok (.goto 6, 3) := by decide +kernel
theorem dL_best_12 : dec mL_best 12 = .ok (.astore_n 3, 1) := by decide +kernel
theorem dL_best_13 : dec mL_best 13 = .ok (.iconst 1, 1) := by decide +kernel
theorem dL_best_14 : dec mL_best 14 = .ok (.ireturn, 1) := by decide +kernel
theorem dL_best_15 : dec mL_best 15 = .ok (.iconst 0, 1) := by decide +kernel
theorem dL_best_16 : dec mL_best 16 = .ok (.ireturn, 1) := by decide +kernel
theorem dL_ifImproved_0 : dec mL_ifImproved 0 = .ok (.aload_n 3, 1) := by decide +kernel
theorem dL_ifImproved_1 : dec mL_ifImproved 1 = .ok (.iconst 0, 1) := by decide +kernel
theorem dL_ifImproved_2 : dec mL_ifImproved 2 = .ok (.aload_n 0, 1) := by decide +kernel
theorem dL_ifImproved_3 : dec mL_ifImproved 3 = .ok (.iload_n 1, 1) := by decide +kernel
theorem dL_ifImproved_4 : dec mL_ifImproved 4 = .ok (.iload_n 2, 1) := by decide +kernel
theorem dL_ifImproved_5 : dec mL_ifImproved 5 = .ok (.invokevirtual 71, 3) := by decide +kernel
theorem dL_ifImproved_8 : dec mL_ifImproved 8 = .ok (.i2l, 1) := by decide +kernel
theorem dL_ifImproved_9 : dec mL_ifImproved 9 = .ok (.lastore, 1) := by decide +kernel
theorem dL_ifImproved_10 : dec mL_ifImproved 10 = .ok (.goto 7, 3) := by decide +kernel
theorem dL_ifImproved_13 : dec mL_ifImproved 13 = .ok (.astore 4, 2) := by decide +kernel
theorem dL_ifImproved_15 : dec mL_ifImproved 15 = .ok (.iconst 1, 1) := by decide +kernel
theorem dL_ifImproved_16 : dec mL_ifImproved 16 = .ok (.ireturn, 1) := by decide +kernel
theorem dL_ifImproved_17 : dec mL_ifImproved 17 = .ok (.iconst 0, 1) := by decide +kernel
theorem dL_ifImproved_18 : dec mL_ifImproved 18 = .ok (.ireturn, 1) := by decide +kernel
theorem dL_worst_0 : dec mL_worst 0 = .ok (.aload_n 2, 1) := by decide +kernel
theorem dL_worst_1 : dec mL_worst 1 = .ok (.iconst 0, 1) := by decide +kernel
theorem dL_worst_2 : dec mL_worst 2 = .ok (.aload_n 0, 1) := by decide +kernel
theorem dL_worst_3 : dec mL_worst 3 = .ok (.iload_n 1, 1) := by decide +kernel
theorem dL_worst_4 : dec mL_worst 4 = .ok (.invokevirtual 74, 3) := by decide +kernel
theorem dL_worst_7 : dec mL_worst 7 = .ok (.i2l, 1) := by decide +kernel
theorem dL_worst_8 : dec mL_worst 8 = .ok (.lastore, 1) := by decide +kernel
theorem dL_worst_9 : dec mL_worst 9 = .ok (.goto 6, 3) := by decide +kernel
theorem dL_worst_12 : dec mL_worst 12 = .ok (.astore_n 3, 1) := by decide +kernel
theorem dL_worst_13 : dec mL_worst 13 = .ok (.iconst 1, 1) := by decide +kernel
theorem dL_worst_14 : dec mL_worst 14 = .ok (.ireturn, 1) := by decide +kernel
theorem dL_worst_15 : dec mL_worst 15 = .ok (.iconst 0, 1) := by decide +kernel
theorem dL_worst_16 : dec mL_worst 16 = .ok (.ireturn, 1) := by decide +kernel
theorem dL_fits_0 : dec mL_fits 0 = .ok (.aload_n 2, 1) := by decide +kernel
theorem dL_fits_1 : dec mL_fits 1 = .ok (.iconst 0, 1) := by decide +kernel
theorem dL_fits_2 : dec mL_fits 2 = .ok (.aload_n 0, 1) := by decide +kernel
theorem dL_fits_3 : dec mL_fits 3 = .ok (.iload_n 1, 1) := by decide +kernel
theorem dL_fits_4 : dec mL_fits 4 = .ok (.invokevirtual 77, 3) := by decide +kernel
theorem dL_fits_7 : dec mL_fits 7 = .ok (.i2l, 1) := by decide +kernel
theorem dL_fits_8 : dec mL_fits 8 = .ok (.lastore, 1) := by decide +kernel
theorem dL_fits_9 : dec mL_fits 9 = .ok (.goto 6, 3) := by decide +kernel
theorem dL_fits_12 : dec mL_fits 12 = .ok (.astore_n 3, 1) := by decide +kernel
theorem dL_fits_13 : dec mL_fits 13 = .ok (.iconst 1, 1) := by decide +kernel
theorem dL_fits_14 : dec mL_fits 14 = .ok (.ireturn, 1) := by decide +kernel
theorem dL_fits_15 : dec mL_fits 15 = .ok (.iconst 0, 1) := by decide +kernel
theorem dL_fits_16 : dec mL_fits 16 = .ok (.ireturn, 1) := by decide +kernel
theorem dL_runScript_0 : dec mL_runScript 0 = .ok (.aload 4, 2) := by decide +kernel
theorem dL_runScript_2 : dec mL_runScript 2 = .ok (.iconst 0, 1) := by decide +kernel
theorem dL_runScript_3 : dec mL_runScript 3 = .ok (.aload_n 0, 1) := by decide +kernel
theorem dL_runScript_4 : dec mL_runScript 4 = .ok (.iload_n 1, 1) := by decide +kernel
theorem dL_runScript_5 : dec mL_runScript 5 = .ok (.lload_n 2, 1) := by decide +kernel
theorem dL_runScript_6 : dec mL_runScript 6 = .ok (.invokevirtual 80, 3) := by decide +kernel
theorem dL_runScript_9 : dec mL_runScript 9 = .ok (.i2l, 1) := by decide +kernel
theorem dL_runScript_10 : dec mL_runScript 10 = .ok (.lastore, 1) := by decide +kernel
theorem dL_runScript_11 : dec mL_runScript 11 = .ok (.goto 7, 3) := by decide +kernel
theorem dL_runScript_14 : dec mL_runScript 14 = .ok (.astore 5, 2) := by decide +kernel
theorem dL_runScript_16 : dec mL_runScript 16 = .ok (.iconst 1, 1) := by decide +kernel
theorem dL_runScript_17 : dec mL_runScript 17 = .ok (.ireturn, 1) := by decide +kernel
theorem dL_runScript_18 : dec mL_runScript 18 = .ok (.iconst 0, 1) := by decide +kernel
theorem dL_runScript_19 : dec mL_runScript 19 = .ok (.ireturn, 1) := by decide +kernel
theorem dL_simulate_0 : dec mL_simulate 0 = .ok (.aload 4, 2) := by decide +kernel
theorem dL_simulate_2 : dec mL_simulate 2 = .ok (.iconst 0, 1) := by decide +kernel
theorem dL_simulate_3 : dec mL_simulate 3 = .ok (.aload_n 0, 1) := by decide +kernel
theorem dL_simulate_4 : dec mL_simulate 4 = .ok (.lload_n 1, 1) := by decide +kernel
theorem dL_simulate_5 : dec mL_simulate 5 = .ok (.iload_n 3, 1) := by decide +kernel
theorem dL_simulate_6 : dec mL_simulate 6 = .ok (.invokevirtual 84, 3) := by decide +kernel
theorem dL_simulate_9 : dec mL_simulate 9 = .ok (.i2l, 1) := by decide +kernel
theorem dL_simulate_10 : dec mL_simulate 10 = .ok (.lastore, 1) := by decide +kernel
theorem dL_simulate_11 : dec mL_simulate 11 = .ok (.goto 7, 3) := by decide +kernel
theorem dL_simulate_14 : dec mL_simulate 14 = .ok (.astore 5, 2) := by decide +kernel
theorem dL_simulate_16 : dec mL_simulate 16 = .ok (.iconst 1, 1) := by decide +kernel
theorem dL_simulate_17 : dec mL_simulate 17 = .ok (.ireturn, 1) := by decide +kernel
theorem dL_simulate_18 : dec mL_simulate 18 = .ok (.iconst 0, 1) := by decide +kernel
theorem dL_simulate_19 : dec mL_simulate 19 = .ok (.ireturn, 1) := by decide +kernel
theorem dL_save_0 : dec mL_save 0 = .ok (.aload_n 2, 1) := by decide +kernel
theorem dL_save_1 : dec mL_save 1 = .ok (.iconst 0, 1) := by decide +kernel
theorem dL_save_2 : dec mL_save 2 = .ok (.aload_n 0, 1) := by decide +kernel
theorem dL_save_3 : dec mL_save 3 = .ok (.iload_n 1, 1) := by decide +kernel
theorem dL_save_4 : dec mL_save 4 = .ok (.invokevirtual 88, 3) := by decide +kernel
theorem dL_save_7 : dec mL_save 7 = .ok (.i2l, 1) := by decide +kernel
theorem dL_save_8 : dec mL_save 8 = .ok (.lastore, 1) := by decide +kernel
theorem dL_save_9 : dec mL_save 9 = .ok (.goto 6, 3) := by decide +kernel
theorem dL_save_12 : dec mL_save 12 = .ok (.astore_n 3, 1) := by decide +kernel
theorem dL_save_13 : dec mL_save 13 = .ok (.iconst 1, 1) := by decide +kernel
theorem dL_save_14 : dec mL_save 14 = .ok (.ireturn, 1) := by decide +kernel
theorem dL_save_15 : dec mL_save 15 = .ok (.iconst 0, 1) := by decide +kernel
theorem dL_save_16 : dec mL_save 16 = .ok (.ireturn, 1) := by decide +kernel
theorem dL_restore_0 : dec mL_restore 0 = .ok (.aload_n 2, 1) := by decide +kernel
theorem dL_restore_1 : dec mL_restore 1 = .ok (.iconst 0, 1) := by decide +kernel
theorem dL_restore_2 : dec mL_restore 2 = .ok (.aload_n 0, 1) := by decide +kernel
theorem dL_restore_3 : dec mL_restore 3 = .ok (.iload_n 1, 1) := by decide +kernel
theorem dL_restore_4 : dec mL_restore 4 = .ok (.invokevirtual 91, 3) := by decide +kernel
theorem dL_restore_7 : dec mL_restore 7 = .ok (.i2l, 1) := by decide +kernel
theorem dL_restore_8 : dec mL_restore 8 = .ok (.lastore, 1) := by decide +kernel
theorem dL_restore_9 : dec mL_restore 9 = .ok (.goto 9, 3) := by decide +kernel
theorem dL_restore_12 : dec mL_restore 12 = .ok (.astore_n 3, 1) := by decide +kernel
theorem dL_restore_13 : dec mL_restore 13 = .ok (.iconst 1, 1) := by decide +kernel
theorem dL_restore_14 : dec mL_restore 14 = .ok (.ireturn, 1) := by decide +kernel
theorem dL_restore_15 : dec mL_restore 15 = .ok (.astore_n 3, 1) := by decide +kernel
theorem dL_restore_16 : dec mL_restore 16 = .ok (.iconst 2, 1) := by decide +kernel
theorem dL_restore_17 : dec mL_restore 17 = .ok (.ireturn, 1) := by decide +kernel
theorem dL_restore_18 : dec mL_restore 18 = .ok (.iconst 0, 1) := by decide +kernel
theorem dL_restore_19 : dec mL_restore 19 = .ok (.ireturn, 1) := by decide +kernel
theorem dL_law_0 : dec mL_law 0 = .ok (.new 8, 3) := by decide +kernel
theorem dL_law_3 : dec mL_law 3 = .ok (.dup, 1) := by decide +kernel
theorem dL_law_4 : dec mL_law 4 = .ok (.invokespecial 94, 3) := by decide +kernel
theorem dL_law_7 : dec mL_law 7 = .ok (.astore_n 1, 1) := by decide +kernel
theorem dL_law_8 : dec mL_law 8 = .ok (.new 95, 3) := by decide +kernel
theorem dL_law_11 : dec mL_law 11 = .ok (.dup, 1) := by decide +kernel
theorem dL_law_12 : dec mL_law 12 = .ok (.invokespecial 97, 3) := by decide +kernel
theorem dL_law_15 : dec mL_law 15 = .ok (.astore_n 2, 1) := by decide +kernel
theorem dL_law_16 : dec mL_law 16 = .ok (.iconst 1, 1) := by decide +kernel
theorem dL_law_17 : dec mL_law 17 = .ok (.newarray .long, 2) := by decide +kernel
theorem dL_law_19 : dec mL_law 19 = .ok (.astore_n 3, 1) := by decide +kernel
theorem dL_law_20 : dec mL_law 20 = .ok (.iconst 0, 1) := by decide +kernel
theorem dL_law_21 : dec mL_law 21 = .ok (.istore 4, 2) := by decide +kernel
theorem dL_law_23 : dec mL_law 23 = .ok (.iload 4, 2) := by decide +kernel
theorem dL_law_25 : dec mL_law 25 = .ok (.aload_n 0, 1) := by decide +kernel
theorem dL_law_26 : dec mL_law 26 = .ok (.arraylength, 1) := by decide +kernel
theorem dL_law_27 : dec mL_law 27 = .ok (.iconst 4, 1) := by decide +kernel
theorem dL_law_28 : dec mL_law 28 = .ok (.isub, 1) := by decide +kernel
theorem dL_law_29 : dec mL_law 29 = .ok (.if_icmp .gt 1761, 3) := by decide +kernel
theorem dL_law_32 : dec mL_law 32 = .ok (.aload_n 0, 1) := by decide +kernel
theorem dL_law_33 : dec mL_law 33 = .ok (.iload 4, 2) := by decide +kernel
theorem dL_law_35 : dec mL_law 35 = .ok (.iaload, 1) := by decide +kernel
theorem dL_law_36 : dec mL_law 36 = .ok (.bipush 31, 2) := by decide +kernel
theorem dL_law_38 : dec mL_law 38 = .ok (.iand, 1) := by decide +kernel
theorem dL_law_39 : dec mL_law 39 = .ok (.tableswitch 1745 0 27 #[125, 181, 194, 207, 251, 307, 387, 455, 523, 591, 671, 739, 795, 863, 931, 1015, 1028, 1084, 1128, 1184, 1240, 1308, 1321, 1377, 1433, 1533, 1633, 1689], 125) := by decide +kernel
theorem dL_law_164 : dec mL_law 164 = .ok (.aload_n 1, 1) := by decide +kernel
theorem dL_law_165 : dec mL_law 165 = .ok (.aload_n 0, 1) := by decide +kernel
theorem dL_law_166 : dec mL_law 166 = .ok (.iload 4, 2) := by decide +kernel
theorem dL_law_168 : dec mL_law 168 = .ok (.iconst 1, 1) := by decide +kernel
theorem dL_law_169 : dec mL_law 169 = .ok (.iadd, 1) := by decide +kernel
theorem dL_law_170 : dec mL_law 170 = .ok (.iaload, 1) := by decide +kernel
theorem dL_law_171 : dec mL_law 171 = .ok (.aload_n 3, 1) := by decide +kernel
theorem dL_law_172 : dec mL_law 172 = .ok (.invokestatic 98, 3) := by decide +kernel
theorem dL_law_175 : dec mL_law 175 = .ok (.istore 5, 2) := by decide +kernel
theorem dL_law_177 : dec mL_law 177 = .ok (.aload_n 2, 1) := by decide +kernel
theorem dL_law_178 : dec mL_law 178 = .ok (.aload_n 0, 1) := by decide +kernel
theorem dL_law_179 : dec mL_law 179 = .ok (.iload 4, 2) := by decide +kernel
theorem dL_law_181 : dec mL_law 181 = .ok (.iconst 1, 1) := by decide +kernel
theorem dL_law_182 : dec mL_law 182 = .ok (.iadd, 1) := by decide +kernel
theorem dL_law_183 : dec mL_law 183 = .ok (.iaload, 1) := by decide +kernel
theorem dL_law_184 : dec mL_law 184 = .ok (.invokevirtual 103, 3) := by decide +kernel
theorem dL_law_187 : dec mL_law 187 = .ok (.istore 6, 2) := by decide +kernel
theorem dL_law_189 : dec mL_law 189 = .ok (.aload_n 2, 1) := by decide +kernel
theorem dL_law_190 : dec mL_law 190 = .ok (.invokevirtual 104, 3) := by decide +kernel
theorem dL_law_193 : dec mL_law 193 = .ok (.iload 5, 2) := by decide +kernel
theorem dL_law_195 : dec mL_law 195 = .ok (.if_icmp .eq 5, 3) := by decide +kernel
theorem dL_law_198 : dec mL_law 198 = .ok (.iconst 0, 1) := by decide +kernel
theorem dL_law_199 : dec mL_law 199 = .ok (.ireturn, 1) := by decide +kernel
theorem dL_law_200 : dec mL_law 200 = .ok (.iload 5, 2) := by decide +kernel
theorem dL_law_202 : dec mL_law 202 = .ok (.ifCond .ne 15, 3) := by decide +kernel
theorem dL_law_205 : dec mL_law 205 = .ok (.aload_n 3, 1) := by decide +kernel
theorem dL_law_206 : dec mL_law 206 = .ok (.iconst 0, 1) := by decide +kernel
theorem dL_law_207 : dec mL_law 207 = .ok (.laload, 1) := by decide +kernel
theorem dL_law_208 : dec mL_law 208 = .ok (.iload 6, 2) := by decide +kernel
theorem dL_law_210 : dec mL_law 210 = .ok (.i2l, 1) := by decide +kernel
theorem dL_law_211 : dec mL_law 211 = .ok (.lcmp, 1) := by decide +kernel
theorem dL_law_212 : dec mL_law 212 = .ok (.ifCond .eq 5, 3) := by decide +kernel
theorem dL_law_215 : dec mL_law 215 = .ok (.iconst 0, 1) := by decide +kernel
theorem dL_law_216 : dec mL_law 216 = .ok (.ireturn, 1) := by decide +kernel
theorem dL_law_217 : dec mL_law 217 = .ok (.goto 1567, 3) := by decide +kernel
theorem dL_law_220 : dec mL_law 220 = .ok (.aload_n 1, 1) := by decide +kernel
theorem dL_law_221 : dec mL_law 221 = .ok (.invokevirtual 107, 3) := by decide +kernel
theorem dL_law_224 : dec mL_law 224 = .ok (.aload_n 2, 1) := by decide +kernel
theorem dL_law_225 : dec mL_law 225 = .ok (.invokevirtual 110, 3) := by decide +kernel
theorem dL_law_228 : dec mL_law 228 = .ok (.if_icmp .eq 1556, 3) := by decide +kernel
theorem dL_law_231 : dec mL_law 231 = .ok (.iconst 0, 1) := by decide +kernel
theorem dL_law_232 : dec mL_law 232 = .ok (.ireturn, 1) := by decide +kernel
theorem dL_law_233 : dec mL_law 233 = .ok (.aload_n 1, 1) := by decide +kernel
theorem dL_law_234 : dec mL_law 234 = .ok (.invokevirtual 111, 3) := by decide +kernel
theorem dL_law_237 : dec mL_law 237 = .ok (.aload_n 2, 1) := by decide +kernel
theorem dL_law_238 : dec mL_law 238 = .ok (.invokevirtual 114, 3) := by decide +kernel
theorem dL_law_241 : dec mL_law 241 = .ok (.if_icmp .eq 1543, 3) := by decide +kernel
theorem dL_law_244 : dec mL_law 244 = .ok (.iconst 0, 1) := by decide +kernel
theorem dL_law_245 : dec mL_law 245 = .ok (.ireturn, 1) := by decide +kernel
theorem dL_law_246 : dec mL_law 246 = .ok (.aload_n 1, 1) := by decide +kernel
theorem dL_law_247 : dec mL_law 247 = .ok (.aload_n 3, 1) := by decide +kernel
theorem dL_law_248 : dec mL_law 248 = .ok (.invokestatic 115, 3) := by decide +kernel
theorem dL_law_251 : dec mL_law 251 = .ok (.istore 5, 2) := by decide +kernel
theorem dL_law_253 : dec mL_law 253 = .ok (.aload_n 2, 1) := by decide +kernel
theorem dL_law_254 : dec mL_law 254 = .ok (.invokevirtual 118, 3) := by decide +kernel
theorem dL_law_257 : dec mL_law 257 = .ok (.istore 6, 2) := by decide +kernel
theorem dL_law_259 : dec mL_law 259 = .ok (.aload_n 2, 1) := by decide +kernel
theorem dL_law_260 : dec mL_law 260 = .ok (.invokevirtual 104, 3) := by decide +kernel
theorem dL_law_263 : dec mL_law 263 = .ok (.iload 5, 2) := by decide +kernel
theorem dL_law_265 : dec mL_law 265 = .ok (.if_icmp .eq 5, 3) := by decide +kernel
theorem dL_law_268 : dec mL_law 268 = .ok (.iconst 0, 1) := by decide +kernel
theorem dL_law_269 : dec mL_law 269 = .ok (.ireturn, 1) := by decide +kernel
theorem dL_law_270 : dec mL_law 270 = .ok (.iload 5, 2) := by decide +kernel
theorem dL_law_272 : dec mL_law 272 = .ok (.ifCond .ne 15, 3) := by decide +kernel
theorem dL_law_275 : dec mL_law 275 = .ok (.aload_n 3, 1) := by decide +kernel
theorem dL_law_276 : dec mL_law 276 = .ok (.iconst 0, 1) := by decide +kernel
theorem dL_law_277 : dec mL_law 277 = .ok (.laload, 1) := by decide +kernel
theorem dL_law_278 : dec mL_law 278 = .ok (.iload 6, 2) := by decide +kernel
theorem dL_law_280 : dec mL_law 280 = .ok (.i2l, 1) := by decide +kernel
theorem dL_law_281 : dec mL_law 281 = .ok (.lcmp, 1) := by decide +kernel
theorem dL_law_282 : dec mL_law 282 = .ok (.ifCond .eq 5, 3) := by decide +kernel
theorem dL_law_285 : dec mL_law 285 = .ok (.iconst 0, 1) := by decide +kernel
theorem dL_law_286 : dec mL_law 286 = .ok (.ireturn, 1) := by decide +kernel
theorem dL_law_287 : dec mL_law 287 = .ok (.goto 1497, 3) := by decide +kernel
theorem dL_law_290 : dec mL_law 290 = .ok (.aload_n 1, 1) := by decide +kernel
theorem dL_law_291 : dec mL_law 291 = .ok (.aload_n 0, 1) := by decide +kernel
theorem dL_law_292 : dec mL_law 292 = .ok (.iload 4, 2) := by decide +kernel
theorem dL_law_294 : dec mL_law 294 = .ok (.iconst 1, 1) := by decide +kernel
theorem dL_law_295 : dec mL_law 295 = .ok (.iadd, 1) := by decide +kernel
theorem dL_law_296 : dec mL_law 296 = .ok (.iaload, 1) := by decide +kernel
theorem dL_law_297 : dec mL_law 297 = .ok (.aload_n 3, 1) := by decide +kernel
theorem dL_law_298 : dec mL_law 298 = .ok (.invokestatic 119, 3) := by decide +kernel
theorem dL_law_301 : dec mL_law 301 = .ok (.istore 5, 2) := by decide +kernel
theorem dL_law_303 : dec mL_law 303 = .ok (.aload_n 2, 1) := by decide +kernel
theorem dL_law_304 : dec mL_law 304 = .ok (.aload_n 0, 1) := by decide +kernel
theorem dL_law_305 : dec mL_law 305 = .ok (.iload 4, 2) := by decide +kernel
theorem dL_law_307 : dec mL_law 307 = .ok (.iconst 1, 1) := by decide +kernel
theorem dL_law_308 : dec mL_law 308 = .ok (.iadd, 1) := by decide +kernel
theorem dL_law_309 : dec mL_law 309 = .ok (.iaload, 1) := by decide +kernel
theorem dL_law_310 : dec mL_law 310 = .ok (.invokevirtual 121, 3) := by decide +kernel
theorem dL_law_313 : dec mL_law 313 = .ok (.istore 6, 2) := by decide +kernel
theorem dL_law_315 : dec mL_law 315 = .ok (.aload_n 2, 1) := by decide +kernel
theorem dL_law_316 : dec mL_law 316 = .ok (.invokevirtual 104, 3) := by decide +kernel
theorem dL_law_319 : dec mL_law 319 = .ok (.iload 5, 2) := by decide +kernel
theorem dL_law_321 : dec mL_law 321 = .ok (.if_icmp .eq 5, 3) := by decide +kernel
theorem dL_law_324 : dec mL_law 324 = .ok (.iconst 0, 1) := by decide +kernel
theorem dL_law_325 : dec mL_law 325 = .ok (.ireturn, 1) := by decide +kernel
theorem dL_law_326 : dec mL_law 326 = .ok (.iload 5, 2) := by decide +kernel
theorem dL_law_328 : dec mL_law 328 = .ok (.ifCond .ne 15, 3) := by decide +kernel
theorem dL_law_331 : dec mL_law 331 = .ok (.aload_n 3, 1) := by decide +kernel
theorem dL_law_332 : dec mL_law 332 = .ok (.iconst 0, 1) := by decide +kernel
theorem dL_law_333 : dec mL_law 333 = .ok (.laload, 1) := by decide +kernel
theorem dL_law_334 : dec mL_law 334 = .ok (.iload 6, 2) := by decide +kernel
theorem dL_law_336 : dec mL_law 336 = .ok (.i2l, 1) := by decide +kernel
theorem dL_law_337 : dec mL_law 337 = .ok (.lcmp, 1) := by decide +kernel
theorem dL_law_338 : dec mL_law 338 = .ok (.ifCond .eq 5, 3) := by decide +kernel
theorem dL_law_341 : dec mL_law 341 = .ok (.iconst 0, 1) := by decide +kernel
theorem dL_law_342 : dec mL_law 342 = .ok (.ireturn, 1) := by decide +kernel
theorem dL_law_343 : dec mL_law 343 = .ok (.goto 1441, 3) := by decide +kernel
theorem dL_law_346 : dec mL_law 346 = .ok (.aload_n 1, 1) := by decide +kernel
theorem dL_law_347 : dec mL_law 347 = .ok (.aload_n 0, 1) := by decide +kernel
theorem dL_law_348 : dec mL_law 348 = .ok (.iload 4, 2) := by decide +kernel
theorem dL_law_350 : dec mL_law 350 = .ok (.iconst 1, 1) := by decide +kernel
theorem dL_law_351 : dec mL_law 351 = .ok (.iadd, 1) := by decide +kernel
theorem dL_law_352 : dec mL_law 352 = .ok (.iaload, 1) := by decide +kernel
theorem dL_law_353 : dec mL_law 353 = .ok (.aload_n 0, 1) := by decide +kernel
theorem dL_law_354 : dec mL_law 354 = .ok (.iload 4, 2) := by decide +kernel
theorem dL_law_356 : dec mL_law 356 = .ok (.iconst 2, 1) := by decide +kernel
theorem dL_law_357 : dec mL_law 357 = .ok (.iadd, 1) := by decide +kernel
theorem dL_law_358 : dec mL_law 358 = .ok (.iaload, 1) := by decide +kernel
theorem dL_law_359 : dec mL_law 359 = .ok (.aload_n 0, 1) := by decide +kernel
theorem dL_law_360 : dec mL_law 360 = .ok (.iload 4, 2) := by decide +kernel
theorem dL_law_362 : dec mL_law 362 = .ok (.iconst 3, 1) := by decide +kernel
theorem dL_law_363 : dec mL_law 363 = .ok (.iadd, 1) := by decide +kernel
theorem dL_law_364 : dec mL_law 364 = .ok (.iaload, 1) := by decide +kernel
theorem dL_law_365 : dec mL_law 365 = .ok (.aload_n 3, 1) := by decide +kernel
theorem dL_law_366 : dec mL_law 366 = .ok (.invokestatic 122, 3) := by decide +kernel
theorem dL_law_369 : dec mL_law 369 = .ok (.istore 5, 2) := by decide +kernel
theorem dL_law_371 : dec mL_law 371 = .ok (.aload_n 2, 1) := by decide +kernel
theorem dL_law_372 : dec mL_law 372 = .ok (.aload_n 0, 1) := by decide +kernel
theorem dL_law_373 : dec mL_law 373 = .ok (.iload 4, 2) := by decide +kernel
theorem dL_law_375 : dec mL_law 375 = .ok (.iconst 1, 1) := by decide +kernel
theorem dL_law_376 : dec mL_law 376 = .ok (.iadd, 1) := by decide +kernel
theorem dL_law_377 : dec mL_law 377 = .ok (.iaload, 1) := by decide +kernel
theorem dL_law_378 : dec mL_law 378 = .ok (.aload_n 0, 1) := by decide +kernel
theorem dL_law_379 : dec mL_law 379 = .ok (.iload 4, 2) := by decide +kernel
theorem dL_law_381 : dec mL_law 381 = .ok (.iconst 2, 1) := by decide +kernel
theorem dL_law_382 : dec mL_law 382 = .ok (.iadd, 1) := by decide +kernel
theorem dL_law_383 : dec mL_law 383 = .ok (.iaload, 1) := by decide +kernel
theorem dL_law_384 : dec mL_law 384 = .ok (.aload_n 0, 1) := by decide +kernel
theorem dL_law_385 : dec mL_law 385 = .ok (.iload 4, 2) := by decide +kernel
theorem dL_law_387 : dec mL_law 387 = .ok (.iconst 3, 1) := by decide +kernel
theorem dL_law_388 : dec mL_law 388 = .ok (.iadd, 1) := by decide +kernel
theorem dL_law_389 : dec mL_law 389 = .ok (.iaload, 1) := by decide +kernel
theorem dL_law_390 : dec mL_law 390 = .ok (.invokevirtual 125, 3) := by decide +kernel
theorem dL_law_393 : dec mL_law 393 = .ok (.istore 6, 2) := by decide +kernel
theorem dL_law_395 : dec mL_law 395 = .ok (.aload_n 2, 1) := by decide +kernel
theorem dL_law_396 : dec mL_law 396 = .ok (.invokevirtual 104, 3) := by decide +kernel
theorem dL_law_399 : dec mL_law 399 = .ok (.iload 5, 2) := by decide +kernel
theorem dL_law_401 : dec mL_law 401 = .ok (.if_icmp .eq 5, 3) := by decide +kernel
theorem dL_law_404 : dec mL_law 404 = .ok (.iconst 0, 1) := by decide +kernel
theorem dL_law_405 : dec mL_law 405 = .ok (.ireturn, 1) := by decide +kernel
theorem dL_law_406 : dec mL_law 406 = .ok (.iload 5, 2) := by decide +kernel
theorem dL_law_408 : dec mL_law 408 = .ok (.ifCond .ne 15, 3) := by decide +kernel
theorem dL_law_411 : dec mL_law 411 = .ok (.aload_n 3, 1) := by decide +kernel
theorem dL_law_412 : dec mL_law 412 = .ok (.iconst 0, 1) := by decide +kernel
theorem dL_law_413 : dec mL_law 413 = .ok (.laload, 1) := by decide +kernel
theorem dL_law_414 : dec mL_law 414 = .ok (.iload 6, 2) := by decide +kernel
theorem dL_law_416 : dec mL_law 416 = .ok (.i2l, 1) := by decide +kernel
theorem dL_law_417 : dec mL_law 417 = .ok (.lcmp, 1) := by decide +kernel
theorem dL_law_418 : dec mL_law 418 = .ok (.ifCond .eq 5, 3) := by decide +kernel
theorem dL_law_421 : dec mL_law 421 = .ok (.iconst 0, 1) := by decide +kernel
theorem dL_law_422 : dec mL_law 422 = .ok (.ireturn, 1) := by decide +kernel
theorem dL_law_423 : dec mL_law 423 = .ok (.goto 1361, 3) := by decide +kernel
theorem dL_law_426 : dec mL_law 426 = .ok (.aload_n 1, 1) := by decide +kernel
theorem dL_law_427 : dec mL_law 427 = .ok (.aload_n 0, 1) := by decide +kernel
theorem dL_law_428 : dec mL_law 428 = .ok (.iload 4, 2) := by decide +kernel
theorem dL_law_430 : dec mL_law 430 = .ok (.iconst 1, 1) := by decide +kernel
theorem dL_law_431 : dec mL_law 431 = .ok (.iadd, 1) := by decide +kernel
theorem dL_law_432 : dec mL_law 432 = .ok (.iaload, 1) := by decide +kernel
theorem dL_law_433 : dec mL_law 433 = .ok (.aload_n 0, 1) := by decide +kernel
theorem dL_law_434 : dec mL_law 434 = .ok (.iload 4, 2) := by decide +kernel
theorem dL_law_436 : dec mL_law 436 = .ok (.iconst 2, 1) := by decide +kernel
theorem dL_law_437 : dec mL_law 437 = .ok (.iadd, 1) := by decide +kernel
theorem dL_law_438 : dec mL_law 438 = .ok (.iaload, 1) := by decide +kernel
theorem dL_law_439 : dec mL_law 439 = .ok (.aload_n 3, 1) := by decide +kernel
theorem dL_law_440 : dec mL_law 440 = .ok (.invokestatic 126, 3) := by decide +kernel
theorem dL_law_443 : dec mL_law 443 = .ok (.istore 5, 2) := by decide +kernel
theorem dL_law_445 : dec mL_law 445 = .ok (.aload_n 2, 1) := by decide +kernel
theorem dL_law_446 : dec mL_law 446 = .ok (.aload_n 0, 1) := by decide +kernel
theorem dL_law_447 : dec mL_law 447 = .ok (.iload 4, 2) := by decide +kernel
theorem dL_law_449 : dec mL_law 449 = .ok (.iconst 1, 1) := by decide +kernel
theorem dL_law_450 : dec mL_law 450 = .ok (.iadd, 1) := by decide +kernel
theorem dL_law_451 : dec mL_law 451 = .ok (.iaload, 1) := by decide +kernel
theorem dL_law_452 : dec mL_law 452 = .ok (.aload_n 0, 1) := by decide +kernel
theorem dL_law_453 : dec mL_law 453 = .ok (.iload 4, 2) := by decide +kernel
theorem dL_law_455 : dec mL_law 455 = .ok (.iconst 2, 1) := by decide +kernel
theorem dL_law_456 : dec mL_law 456 = .ok (.iadd, 1) := by decide +kernel
theorem dL_law_457 : dec mL_law 457 = .ok (.iaload, 1) := by decide +kernel
theorem dL_law_458 : dec mL_law 458 = .ok (.invokevirtual 129, 3) := by decide +kernel
theorem dL_law_461 : dec mL_law 461 = .ok (.istore 6, 2) := by decide +kernel
theorem dL_law_463 : dec mL_law 463 = .ok (.aload_n 2, 1) := by decide +kernel
theorem dL_law_464 : dec mL_law 464 = .ok (.invokevirtual 104, 3) := by decide +kernel
theorem dL_law_467 : dec mL_law 467 = .ok (.iload 5, 2) := by decide +kernel
theorem dL_law_469 : dec mL_law 469 = .ok (.if_icmp .eq 5, 3) := by decide +kernel
theorem dL_law_472 : dec mL_law 472 = .ok (.iconst 0, 1) := by decide +kernel
theorem dL_law_473 : dec mL_law 473 = .ok (.ireturn, 1) := by decide +kernel
theorem dL_law_474 : dec mL_law 474 = .ok (.iload 5, 2) := by decide +kernel
theorem dL_law_476 : dec mL_law 476 = .ok (.ifCond .ne 15, 3) := by decide +kernel
theorem dL_law_479 : dec mL_law 479 = .ok (.aload_n 3, 1) := by decide +kernel
theorem dL_law_480 : dec mL_law 480 = .ok (.iconst 0, 1) := by decide +kernel
theorem dL_law_481 : dec mL_law 481 = .ok (.laload, 1) := by decide +kernel
theorem dL_law_482 : dec mL_law 482 = .ok (.iload 6, 2) := by decide +kernel
theorem dL_law_484 : dec mL_law 484 = .ok (.i2l, 1) := by decide +kernel
theorem dL_law_485 : dec mL_law 485 = .ok (.lcmp, 1) := by decide +kernel
theorem dL_law_486 : dec mL_law 486 = .ok (.ifCond .eq 5, 3) := by decide +kernel
theorem dL_law_489 : dec mL_law 489 = .ok (.iconst 0, 1) := by decide +kernel
theorem dL_law_490 : dec mL_law 490 = .ok (.ireturn, 1) := by decide +kernel
theorem dL_law_491 : dec mL_law 491 = .ok (.goto 1293, 3) := by decide +kernel
theorem dL_law_494 : dec mL_law 494 = .ok (.aload_n 1, 1) := by decide +kernel
theorem dL_law_495 : dec mL_law 495 = .ok (.aload_n 0, 1) := by decide +kernel
theorem dL_law_496 : dec mL_law 496 = .ok (.iload 4, 2) := by decide +kernel
theorem dL_law_498 : dec mL_law 498 = .ok (.iconst 1, 1) := by decide +kernel
theorem dL_law_499 : dec mL_law 499 = .ok (.iadd, 1) := by decide +kernel
theorem dL_law_500 : dec mL_law 500 = .ok (.iaload, 1) := by decide +kernel
theorem dL_law_501 : dec mL_law 501 = .ok (.aload_n 0, 1) := by decide +kernel
theorem dL_law_502 : dec mL_law 502 = .ok (.iload 4, 2) := by decide +kernel
theorem dL_law_504 : dec mL_law 504 = .ok (.iconst 2, 1) := by decide +kernel
theorem dL_law_505 : dec mL_law 505 = .ok (.iadd, 1) := by decide +kernel
theorem dL_law_506 : dec mL_law 506 = .ok (.iaload, 1) := by decide +kernel
theorem dL_law_507 : dec mL_law 507 = .ok (.aload_n 3, 1) := by decide +kernel
theorem dL_law_508 : dec mL_law 508 = .ok (.invokestatic 130, 3) := by decide +kernel
theorem dL_law_511 : dec mL_law 511 = .ok (.istore 5, 2) := by decide +kernel
theorem dL_law_513 : dec mL_law 513 = .ok (.aload_n 2, 1) := by decide +kernel
theorem dL_law_514 : dec mL_law 514 = .ok (.aload_n 0, 1) := by decide +kernel
theorem dL_law_515 : dec mL_law 515 = .ok (.iload 4, 2) := by decide +kernel
theorem dL_law_517 : dec mL_law 517 = .ok (.iconst 1, 1) := by decide +kernel
theorem dL_law_518 : dec mL_law 518 = .ok (.iadd, 1) := by decide +kernel
theorem dL_law_519 : dec mL_law 519 = .ok (.iaload, 1) := by decide +kernel
theorem dL_law_520 : dec mL_law 520 = .ok (.aload_n 0, 1) := by decide +kernel
theorem dL_law_521 : dec mL_law 521 = .ok (.iload 4, 2) := by decide +kernel
theorem dL_law_523 : dec mL_law 523 = .ok (.iconst 2, 1) := by decide +kernel
theorem dL_law_524 : dec mL_law 524 = .ok (.iadd, 1) := by decide +kernel
theorem dL_law_525 : dec mL_law 525 = .ok (.iaload, 1) := by decide +kernel
theorem dL_law_526 : dec mL_law 526 = .ok (.invokevirtual 132, 3) := by decide +kernel
theorem dL_law_529 : dec mL_law 529 = .ok (.istore 6, 2) := by decide +kernel
theorem dL_law_531 : dec mL_law 531 = .ok (.aload_n 2, 1) := by decide +kernel
theorem dL_law_532 : dec mL_law 532 = .ok (.invokevirtual 104, 3) := by decide +kernel
theorem dL_law_535 : dec mL_law 535 = .ok (.iload 5, 2) := by decide +kernel
theorem dL_law_537 : dec mL_law 537 = .ok (.if_icmp .eq 5, 3) := by decide +kernel
theorem dL_law_540 : dec mL_law 540 = .ok (.iconst 0, 1) := by decide +kernel
theorem dL_law_541 : dec mL_law 541 = .ok (.ireturn, 1) := by decide +kernel
theorem dL_law_542 : dec mL_law 542 = .ok (.iload 5, 2) := by decide +kernel
theorem dL_law_544 : dec mL_law 544 = .ok (.ifCond .ne 15, 3) := by decide +kernel
theorem dL_law_547 : dec mL_law 547 = .ok (.aload_n 3, 1) := by decide +kernel
theorem dL_law_548 : dec mL_law 548 = .ok (.iconst 0, 1) := by decide +kernel
theorem dL_law_549 : dec mL_law 549 = .ok (.laload, 1) := by decide +kernel
theorem dL_law_550 : dec mL_law 550 = .ok (.iload 6, 2) := by decide +kernel
theorem dL_law_552 : dec mL_law 552 = .ok (.i2l, 1) := by decide +kernel
theorem dL_law_553 : dec mL_law 553 = .ok (.lcmp, 1) := by decide +kernel
theorem dL_law_554 : dec mL_law 554 = .ok (.ifCond .eq 5, 3) := by decide +kernel
theorem dL_law_557 : dec mL_law 557 = .ok (.iconst 0, 1) := by decide +kernel
theorem dL_law_558 : dec mL_law 558 = .ok (.ireturn, 1) := by decide +kernel
theorem dL_law_559 : dec mL_law 559 = .ok (.goto 1225, 3) := by decide +kernel
theorem dL_law_562 : dec mL_law 562 = .ok (.aload_n 1, 1) := by decide +kernel
theorem dL_law_563 : dec mL_law 563 = .ok (.aload_n 0, 1) := by decide +kernel
theorem dL_law_564 : dec mL_law 564 = .ok (.iload 4, 2) := by decide +kernel
theorem dL_law_566 : dec mL_law 566 = .ok (.iconst 1, 1) := by decide +kernel
theorem dL_law_567 : dec mL_law 567 = .ok (.iadd, 1) := by decide +kernel
theorem dL_law_568 : dec mL_law 568 = .ok (.iaload, 1) := by decide +kernel
theorem dL_law_569 : dec mL_law 569 = .ok (.aload_n 0, 1) := by decide +kernel
theorem dL_law_570 : dec mL_law 570 = .ok (.iload 4, 2) := by decide +kernel
theorem dL_law_572 : dec mL_law 572 = .ok (.iconst 2, 1) := by decide +kernel
theorem dL_law_573 : dec mL_law 573 = .ok (.iadd, 1) := by decide +kernel
theorem dL_law_574 : dec mL_law 574 = .ok (.iaload, 1) := by decide +kernel
theorem dL_law_575 : dec mL_law 575 = .ok (.aload_n 3, 1) := by decide +kernel
theorem dL_law_576 : dec mL_law 576 = .ok (.invokestatic 133, 3) := by decide +kernel
theorem dL_law_579 : dec mL_law 579 = .ok (.istore 5, 2) := by decide +kernel
theorem dL_law_581 : dec mL_law 581 = .ok (.aload_n 2, 1) := by decide +kernel
theorem dL_law_582 : dec mL_law 582 = .ok (.aload_n 0, 1) := by decide +kernel
theorem dL_law_583 : dec mL_law 583 = .ok (.iload 4, 2) := by decide +kernel
theorem dL_law_585 : dec mL_law 585 = .ok (.iconst 1, 1) := by decide +kernel
theorem dL_law_586 : dec mL_law 586 = .ok (.iadd, 1) := by decide +kernel
theorem dL_law_587 : dec mL_law 587 = .ok (.iaload, 1) := by decide +kernel
theorem dL_law_588 : dec mL_law 588 = .ok (.aload_n 0, 1) := by decide +kernel
theorem dL_law_589 : dec mL_law 589 = .ok (.iload 4, 2) := by decide +kernel
theorem dL_law_591 : dec mL_law 591 = .ok (.iconst 2, 1) := by decide +kernel
theorem dL_law_592 : dec mL_law 592 = .ok (.iadd, 1) := by decide +kernel
theorem dL_law_593 : dec mL_law 593 = .ok (.iaload, 1) := by decide +kernel
theorem dL_law_594 : dec mL_law 594 = .ok (.invokevirtual 135, 3) := by decide +kernel
theorem dL_law_597 : dec mL_law 597 = .ok (.istore 6, 2) := by decide +kernel
theorem dL_law_599 : dec mL_law 599 = .ok (.aload_n 2, 1) := by decide +kernel
theorem dL_law_600 : dec mL_law 600 = .ok (.invokevirtual 104, 3) := by decide +kernel
theorem dL_law_603 : dec mL_law 603 = .ok (.iload 5, 2) := by decide +kernel
theorem dL_law_605 : dec mL_law 605 = .ok (.if_icmp .eq 5, 3) := by decide +kernel
theorem dL_law_608 : dec mL_law 608 = .ok (.iconst 0, 1) := by decide +kernel
theorem dL_law_609 : dec mL_law 609 = .ok (.ireturn, 1) := by decide +kernel
theorem dL_law_610 : dec mL_law 610 = .ok (.iload 5, 2) := by decide +kernel
theorem dL_law_612 : dec mL_law 612 = .ok (.ifCond .ne 15, 3) := by decide +kernel
theorem dL_law_615 : dec mL_law 615 = .ok (.aload_n 3, 1) := by decide +kernel
theorem dL_law_616 : dec mL_law 616 = .ok (.iconst 0, 1) := by decide +kernel
theorem dL_law_617 : dec mL_law 617 = .ok (.laload, 1) := by decide +kernel
theorem dL_law_618 : dec mL_law 618 = .ok (.iload 6, 2) := by decide +kernel
theorem dL_law_620 : dec mL_law 620 = .ok (.i2l, 1) := by decide +kernel
theorem dL_law_621 : dec mL_law 621 = .ok (.lcmp, 1) := by decide +kernel
theorem dL_law_622 : dec mL_law 622 = .ok (.ifCond .eq 5, 3) := by decide +kernel
theorem dL_law_625 : dec mL_law 625 = .ok (.iconst 0, 1) := by decide +kernel
theorem dL_law_626 : dec mL_law 626 = .ok (.ireturn, 1) := by decide +kernel
theorem dL_law_627 : dec mL_law 627 = .ok (.goto 1157, 3) := by decide +kernel
theorem dL_law_630 : dec mL_law 630 = .ok (.aload_n 1, 1) := by decide +kernel
theorem dL_law_631 : dec mL_law 631 = .ok (.aload_n 0, 1) := by decide +kernel
theorem dL_law_632 : dec mL_law 632 = .ok (.iload 4, 2) := by decide +kernel
theorem dL_law_634 : dec mL_law 634 = .ok (.iconst 1, 1) := by decide +kernel
theorem dL_law_635 : dec mL_law 635 = .ok (.iadd, 1) := by decide +kernel
theorem dL_law_636 : dec mL_law 636 = .ok (.iaload, 1) := by decide +kernel
theorem dL_law_637 : dec mL_law 637 = .ok (.aload_n 0, 1) := by decide +kernel
theorem dL_law_638 : dec mL_law 638 = .ok (.iload 4, 2) := by decide +kernel
theorem dL_law_640 : dec mL_law 640 = .ok (.iconst 2, 1) := by decide +kernel
theorem dL_law_641 : dec mL_law 641 = .ok (.iadd, 1) := by decide +kernel
theorem dL_law_642 : dec mL_law 642 = .ok (.iaload, 1) := by decide +kernel
theorem dL_law_643 : dec mL_law 643 = .ok (.aload_n 0, 1) := by decide +kernel
theorem dL_law_644 : dec mL_law 644 = .ok (.iload 4, 2) := by decide +kernel
theorem dL_law_646 : dec mL_law 646 = .ok (.iconst 3, 1) := by decide +kernel
theorem dL_law_647 : dec mL_law 647 = .ok (.iadd, 1) := by decide +kernel
theorem dL_law_648 : dec mL_law 648 = .ok (.iaload, 1) := by decide +kernel
theorem dL_law_649 : dec mL_law 649 = .ok (.aload_n 3, 1) := by decide +kernel
theorem dL_law_650 : dec mL_law 650 = .ok (.invokestatic 136, 3) := by decide +kernel
theorem dL_law_653 : dec mL_law 653 = .ok (.istore 5, 2) := by decide +kernel
theorem dL_law_655 : dec mL_law 655 = .ok (.aload_n 2, 1) := by decide +kernel
theorem dL_law_656 : dec mL_law 656 = .ok (.aload_n 0, 1) := by decide +kernel
theorem dL_law_657 : dec mL_law 657 = .ok (.iload 4, 2) := by decide +kernel
theorem dL_law_659 : dec mL_law 659 = .ok (.iconst 1, 1) := by decide +kernel
theorem dL_law_660 : dec mL_law 660 = .ok (.iadd, 1) := by decide +kernel
theorem dL_law_661 : dec mL_law 661 = .ok (.iaload, 1) := by decide +kernel
theorem dL_law_662 : dec mL_law 662 = .ok (.aload_n 0, 1) := by decide +kernel
theorem dL_law_663 : dec mL_law 663 = .ok (.iload 4, 2) := by decide +kernel
theorem dL_law_665 : dec mL_law 665 = .ok (.iconst 2, 1) := by decide +kernel
theorem dL_law_666 : dec mL_law 666 = .ok (.iadd, 1) := by decide +kernel
theorem dL_law_667 : dec mL_law 667 = .ok (.iaload, 1) := by decide +kernel
theorem dL_law_668 : dec mL_law 668 = .ok (.aload_n 0, 1) := by decide +kernel
theorem dL_law_669 : dec mL_law 669 = .ok (.iload 4, 2) := by decide +kernel
theorem dL_law_671 : dec mL_law 671 = .ok (.iconst 3, 1) := by decide +kernel
theorem dL_law_672 : dec mL_law 672 = .ok (.iadd, 1) := by decide +kernel
theorem dL_law_673 : dec mL_law 673 = .ok (.iaload, 1) := by decide +kernel
theorem dL_law_674 : dec mL_law 674 = .ok (.invokevirtual 138, 3) := by decide +kernel
theorem dL_law_677 : dec mL_law 677 = .ok (.istore 6, 2) := by decide +kernel
theorem dL_law_679 : dec mL_law 679 = .ok (.aload_n 2, 1) := by decide +kernel
theorem dL_law_680 : dec mL_law 680 = .ok (.invokevirtual 104, 3) := by decide +kernel
theorem dL_law_683 : dec mL_law 683 = .ok (.iload 5, 2) := by decide +kernel
theorem dL_law_685 : dec mL_law 685 = .ok (.if_icmp .eq 5, 3) := by decide +kernel
theorem dL_law_688 : dec mL_law 688 = .ok (.iconst 0, 1) := by decide +kernel
theorem dL_law_689 : dec mL_law 689 = .ok (.ireturn, 1) := by decide +kernel
theorem dL_law_690 : dec mL_law 690 = .ok (.iload 5, 2) := by decide +kernel
theorem dL_law_692 : dec mL_law 692 = .ok (.ifCond .ne 15, 3) := by decide +kernel
theorem dL_law_695 : dec mL_law 695 = .ok (.aload_n 3, 1) := by decide +kernel
theorem dL_law_696 : dec mL_law 696 = .ok (.iconst 0, 1) := by decide +kernel
theorem dL_law_697 : dec mL_law 697 = .ok (.laload, 1) := by decide +kernel
theorem dL_law_698 : dec mL_law 698 = .ok (.iload 6, 2) := by decide +kernel
theorem dL_law_700 : dec mL_law 700 = .ok (.i2l, 1) := by decide +kernel
theorem dL_law_701 : dec mL_law 701 = .ok (.lcmp, 1) := by decide +kernel
theorem dL_law_702 : dec mL_law 702 = .ok (.ifCond .eq 5, 3) := by decide +kernel
theorem dL_law_705 : dec mL_law 705 = .ok (.iconst 0, 1) := by decide +kernel
theorem dL_law_706 : dec mL_law 706 = .ok (.ireturn, 1) := by decide +kernel
theorem dL_law_707 : dec mL_law 707 = .ok (.goto 1077, 3) := by decide +kernel
theorem dL_law_710 : dec mL_law 710 = .ok (.aload_n 1, 1) := by decide +kernel
theorem dL_law_711 : dec mL_law 711 = .ok (.aload_n 0, 1) := by decide +kernel
theorem dL_law_712 : dec mL_law 712 = .ok (.iload 4, 2) := by decide +kernel
theorem dL_law_714 : dec mL_law 714 = .ok (.iconst 1, 1) := by decide +kernel
theorem dL_law_715 : dec mL_law 715 = .ok (.iadd, 1) := by decide +kernel
theorem dL_law_716 : dec mL_law 716 = .ok (.iaload, 1) := by decide +kernel
theorem dL_law_717 : dec mL_law 717 = .ok (.aload_n 0, 1) := by decide +kernel
theorem dL_law_718 : dec mL_law 718 = .ok (.iload 4, 2) := by decide +kernel
theorem dL_law_720 : dec mL_law 720 = .ok (.iconst 2, 1) := by decide +kernel
theorem dL_law_721 : dec mL_law 721 = .ok (.iadd, 1) := by decide +kernel
theorem dL_law_722 : dec mL_law 722 = .ok (.iaload, 1) := by decide +kernel
theorem dL_law_723 : dec mL_law 723 = .ok (.aload_n 3, 1) := by decide +kernel
theorem dL_law_724 : dec mL_law 724 = .ok (.invokestatic 139, 3) := by decide +kernel
theorem dL_law_727 : dec mL_law 727 = .ok (.istore 5, 2) := by decide +kernel
theorem dL_law_729 : dec mL_law 729 = .ok (.aload_n 2, 1) := by decide +kernel
theorem dL_law_730 : dec mL_law 730 = .ok (.aload_n 0, 1) := by decide +kernel
theorem dL_law_731 : dec mL_law 731 = .ok (.iload 4, 2) := by decide +kernel
theorem dL_law_733 : dec mL_law 733 = .ok (.iconst 1, 1) := by decide +kernel
theorem dL_law_734 : dec mL_law 734 = .ok (.iadd, 1) := by decide +kernel
theorem dL_law_735 : dec mL_law 735 = .ok (.iaload, 1) := by decide +kernel
theorem dL_law_736 : dec mL_law 736 = .ok (.aload_n 0, 1) := by decide +kernel
theorem dL_law_737 : dec mL_law 737 = .ok (.iload 4, 2) := by decide +kernel
theorem dL_law_739 : dec mL_law 739 = .ok (.iconst 2, 1) := by decide +kernel
theorem dL_law_740 : dec mL_law 740 = .ok (.iadd, 1) := by decide +kernel
theorem dL_law_741 : dec mL_law 741 = .ok (.iaload, 1) := by decide +kernel
theorem dL_law_742 : dec mL_law 742 = .ok (.invokevirtual 141, 3) := by decide +kernel
theorem dL_law_745 : dec mL_law 745 = .ok (.istore 6, 2) := by decide +kernel
theorem dL_law_747 : dec mL_law 747 = .ok (.aload_n 2, 1) := by decide +kernel
theorem dL_law_748 : dec mL_law 748 = .ok (.invokevirtual 104, 3) := by decide +kernel
theorem dL_law_751 : dec mL_law 751 = .ok (.iload 5, 2) := by decide +kernel
theorem dL_law_753 : dec mL_law 753 = .ok (.if_icmp .eq 5, 3) := by decide +kernel
theorem dL_law_756 : dec mL_law 756 = .ok (.iconst 0, 1) := by decide +kernel
theorem dL_law_757 : dec mL_law 757 = .ok (.ireturn, 1) := by decide +kernel
theorem dL_law_758 : dec mL_law 758 = .ok (.iload 5, 2) := by decide +kernel
theorem dL_law_760 : dec mL_law 760 = .ok (.ifCond .ne 15, 3) := by decide +kernel
theorem dL_law_763 : dec mL_law 763 = .ok (.aload_n 3, 1) := by decide +kernel
theorem dL_law_764 : dec mL_law 764 = .ok (.iconst 0, 1) := by decide +kernel
theorem dL_law_765 : dec mL_law 765 = .ok (.laload, 1) := by decide +kernel
theorem dL_law_766 : dec mL_law 766 = .ok (.iload 6, 2) := by decide +kernel
theorem dL_law_768 : dec mL_law 768 = .ok (.i2l, 1) := by decide +kernel
theorem dL_law_769 : dec mL_law 769 = .ok (.lcmp, 1) := by decide +kernel
theorem dL_law_770 : dec mL_law 770 = .ok (.ifCond .eq 5, 3) := by decide +kernel
theorem dL_law_773 : dec mL_law 773 = .ok (.iconst 0, 1) := by decide +kernel
theorem dL_law_774 : dec mL_law 774 = .ok (.ireturn, 1) := by decide +kernel
theorem dL_law_775 : dec mL_law 775 = .ok (.goto 1009, 3) := by decide +kernel
theorem dL_law_778 : dec mL_law 778 = .ok (.aload_n 1, 1) := by decide +kernel
theorem dL_law_779 : dec mL_law 779 = .ok (.aload_n 0, 1) := by decide +kernel
theorem dL_law_780 : dec mL_law 780 = .ok (.iload 4, 2) := by decide +kernel
theorem dL_law_782 : dec mL_law 782 = .ok (.iconst 1, 1) := by decide +kernel
theorem dL_law_783 : dec mL_law 783 = .ok (.iadd, 1) := by decide +kernel
theorem dL_law_784 : dec mL_law 784 = .ok (.iaload, 1) := by decide +kernel
theorem dL_law_785 : dec mL_law 785 = .ok (.aload_n 3, 1) := by decide +kernel
theorem dL_law_786 : dec mL_law 786 = .ok (.invokestatic 142, 3) := by decide +kernel
theorem dL_law_789 : dec mL_law 789 = .ok (.istore 5, 2) := by decide +kernel
theorem dL_law_791 : dec mL_law 791 = .ok (.aload_n 2, 1) := by decide +kernel
theorem dL_law_792 : dec mL_law 792 = .ok (.aload_n 0, 1) := by decide +kernel
theorem dL_law_793 : dec mL_law 793 = .ok (.iload 4, 2) := by decide +kernel
theorem dL_law_795 : dec mL_law 795 = .ok (.iconst 1, 1) := by decide +kernel
theorem dL_law_796 : dec mL_law 796 = .ok (.iadd, 1) := by decide +kernel
theorem dL_law_797 : dec mL_law 797 = .ok (.iaload, 1) := by decide +kernel
theorem dL_law_798 : dec mL_law 798 = .ok (.invokevirtual 144, 3) := by decide +kernel
theorem dL_law_801 : dec mL_law 801 = .ok (.istore 6, 2) := by decide +kernel
theorem dL_law_803 : dec mL_law 803 = .ok (.aload_n 2, 1) := by decide +kernel
theorem dL_law_804 : dec mL_law 804 = .ok (.invokevirtual 104, 3) := by decide +kernel
theorem dL_law_807 : dec mL_law 807 = .ok (.iload 5, 2) := by decide +kernel
theorem dL_law_809 : dec mL_law 809 = .ok (.if_icmp .eq 5, 3) := by decide +kernel
theorem dL_law_812 : dec mL_law 812 = .ok (.iconst 0, 1) := by decide +kernel
theorem dL_law_813 : dec mL_law 813 = .ok (.ireturn, 1) := by decide +kernel
theorem dL_law_814 : dec mL_law 814 = .ok (.iload 5, 2) := by decide +kernel
theorem dL_law_816 : dec mL_law 816 = .ok (.ifCond .ne 15, 3) := by decide +kernel
theorem dL_law_819 : dec mL_law 819 = .ok (.aload_n 3, 1) := by decide +kernel
theorem dL_law_820 : dec mL_law 820 = .ok (.iconst 0, 1) := by decide +kernel
theorem dL_law_821 : dec mL_law 821 = .ok (.laload, 1) := by decide +kernel
theorem dL_law_822 : dec mL_law 822 = .ok (.iload 6, 2) := by decide +kernel
theorem dL_law_824 : dec mL_law 824 = .ok (.i2l, 1) := by decide +kernel
theorem dL_law_825 : dec mL_law 825 = .ok (.lcmp, 1) := by decide +kernel
theorem dL_law_826 : dec mL_law 826 = .ok (.ifCond .eq 5, 3) := by decide +kernel
theorem dL_law_829 : dec mL_law 829 = .ok (.iconst 0, 1) := by decide +kernel
theorem dL_law_830 : dec mL_law 830 = .ok (.ireturn, 1) := by decide +kernel
theorem dL_law_831 : dec mL_law 831 = .ok (.goto 953, 3) := by decide +kernel
theorem dL_law_834 : dec mL_law 834 = .ok (.aload_n 1, 1) := by decide +kernel
theorem dL_law_835 : dec mL_law 835 = .ok (.aload_n 0, 1) := by decide +kernel
theorem dL_law_836 : dec mL_law 836 = .ok (.iload 4, 2) := by decide +kernel
theorem dL_law_838 : dec mL_law 838 = .ok (.iconst 1, 1) := by decide +kernel
theorem dL_law_839 : dec mL_law 839 = .ok (.iadd, 1) := by decide +kernel
theorem dL_law_840 : dec mL_law 840 = .ok (.iaload, 1) := by decide +kernel
theorem dL_law_841 : dec mL_law 841 = .ok (.aload_n 0, 1) := by decide +kernel
theorem dL_law_842 : dec mL_law 842 = .ok (.iload 4, 2) := by decide +kernel
theorem dL_law_844 : dec mL_law 844 = .ok (.iconst 2, 1) := by decide +kernel
theorem dL_law_845 : dec mL_law 845 = .ok (.iadd, 1) := by decide +kernel
theorem dL_law_846 : dec mL_law 846 = .ok (.iaload, 1) := by decide +kernel
theorem dL_law_847 : dec mL_law 847 = .ok (.aload_n 3, 1) := by decide +kernel
theorem dL_law_848 : dec mL_law 848 = .ok (.invokestatic 145, 3) := by decide +kernel
theorem dL_law_851 : dec mL_law 851 = .ok (.istore 5, 2) := by decide +kernel
theorem dL_law_853 : dec mL_law 853 = .ok (.aload_n 2, 1) := by decide +kernel
theorem dL_law_854 : dec mL_law 854 = .ok (.aload_n 0, 1) := by decide +kernel
theorem dL_law_855 : dec mL_law 855 = .ok (.iload 4, 2) := by decide +kernel
theorem dL_law_857 : dec mL_law 857 = .ok (.iconst 1, 1) := by decide +kernel
theorem dL_law_858 : dec mL_law 858 = .ok (.iadd, 1) := by decide +kernel
theorem dL_law_859 : dec mL_law 859 = .ok (.iaload, 1) := by decide +kernel
theorem dL_law_860 : dec mL_law 860 = .ok (.aload_n 0, 1) := by decide +kernel
theorem dL_law_861 : dec mL_law 861 = .ok (.iload 4, 2) := by decide +kernel
theorem dL_law_863 : dec mL_law 863 = .ok (.iconst 2, 1) := by decide +kernel
theorem dL_law_864 : dec mL_law 864 = .ok (.iadd, 1) := by decide +kernel
theorem dL_law_865 : dec mL_law 865 = .ok (.iaload, 1) := by decide +kernel
theorem dL_law_866 : dec mL_law 866 = .ok (.invokevirtual 147, 3) := by decide +kernel
theorem dL_law_869 : dec mL_law 869 = .ok (.istore 6, 2) := by decide +kernel
theorem dL_law_871 : dec mL_law 871 = .ok (.aload_n 2, 1) := by decide +kernel
theorem dL_law_872 : dec mL_law 872 = .ok (.invokevirtual 104, 3) := by decide +kernel
theorem dL_law_875 : dec mL_law 875 = .ok (.iload 5, 2) := by decide +kernel
theorem dL_law_877 : dec mL_law 877 = .ok (.if_icmp .eq 5, 3) := by decide +kernel
theorem dL_law_880 : dec mL_law 880 = .ok (.iconst 0, 1) := by decide +kernel
theorem dL_law_881 : dec mL_law 881 = .ok (.ireturn, 1) := by decide +kernel
theorem dL_law_882 : dec mL_law 882 = .ok (.iload 5, 2) := by decide +kernel
theorem dL_law_884 : dec mL_law 884 = .ok (.ifCond .ne 15, 3) := by decide +kernel
theorem dL_law_887 : dec mL_law 887 = .ok (.aload_n 3, 1) := by decide +kernel
theorem dL_law_888 : dec mL_law 888 = .ok (.iconst 0, 1) := by decide +kernel
theorem dL_law_889 : dec mL_law 889 = .ok (.laload, 1) := by decide +kernel
theorem dL_law_890 : dec mL_law 890 = .ok (.iload 6, 2) := by decide +kernel
theorem dL_law_892 : dec mL_law 892 = .ok (.i2l, 1) := by decide +kernel
theorem dL_law_893 : dec mL_law 893 = .ok (.lcmp, 1) := by decide +kernel
theorem dL_law_894 : dec mL_law 894 = .ok (.ifCond .eq 5, 3) := by decide +kernel
theorem dL_law_897 : dec mL_law 897 = .ok (.iconst 0, 1) := by decide +kernel
theorem dL_law_898 : dec mL_law 898 = .ok (.ireturn, 1) := by decide +kernel
theorem dL_law_899 : dec mL_law 899 = .ok (.goto 885, 3) := by decide +kernel
theorem dL_law_902 : dec mL_law 902 = .ok (.aload_n 1, 1) := by decide +kernel
theorem dL_law_903 : dec mL_law 903 = .ok (.aload_n 0, 1) := by decide +kernel
theorem dL_law_904 : dec mL_law 904 = .ok (.iload 4, 2) := by decide +kernel
theorem dL_law_906 : dec mL_law 906 = .ok (.iconst 1, 1) := by decide +kernel
theorem dL_law_907 : dec mL_law 907 = .ok (.iadd, 1) := by decide +kernel
theorem dL_law_908 : dec mL_law 908 = .ok (.iaload, 1) := by decide +kernel
theorem dL_law_909 : dec mL_law 909 = .ok (.aload_n 0, 1) := by decide +kernel
theorem dL_law_910 : dec mL_law 910 = .ok (.iload 4, 2) := by decide +kernel
theorem dL_law_912 : dec mL_law 912 = .ok (.iconst 2, 1) := by decide +kernel
theorem dL_law_913 : dec mL_law 913 = .ok (.iadd, 1) := by decide +kernel
theorem dL_law_914 : dec mL_law 914 = .ok (.iaload, 1) := by decide +kernel
theorem dL_law_915 : dec mL_law 915 = .ok (.aload_n 3, 1) := by decide +kernel
theorem dL_law_916 : dec mL_law 916 = .ok (.invokestatic 148, 3) := by decide +kernel
theorem dL_law_919 : dec mL_law 919 = .ok (.istore 5, 2) := by decide +kernel
theorem dL_law_921 : dec mL_law 921 = .ok (.aload_n 2, 1) := by decide +kernel
theorem dL_law_922 : dec mL_law 922 = .ok (.aload_n 0, 1) := by decide +kernel
theorem dL_law_923 : dec mL_law 923 = .ok (.iload 4, 2) := by decide +kernel
theorem dL_law_925 : dec mL_law 925 = .ok (.iconst 1, 1) := by decide +kernel
theorem dL_law_926 : dec mL_law 926 = .ok (.iadd, 1) := by decide +kernel
theorem dL_law_927 : dec mL_law 927 = .ok (.iaload, 1) := by decide +kernel
theorem dL_law_928 : dec mL_law 928 = .ok (.aload_n 0, 1) := by decide +kernel
theorem dL_law_929 : dec mL_law 929 = .ok (.iload 4, 2) := by decide +kernel
theorem dL_law_931 : dec mL_law 931 = .ok (.iconst 2, 1) := by decide +kernel
theorem dL_law_932 : dec mL_law 932 = .ok (.iadd, 1) := by decide +kernel
theorem dL_law_933 : dec mL_law 933 = .ok (.iaload, 1) := by decide +kernel
theorem dL_law_934 : dec mL_law 934 = .ok (.invokevirtual 150, 3) := by decide +kernel
theorem dL_law_937 : dec mL_law 937 = .ok (.istore 6, 2) := by decide +kernel
theorem dL_law_939 : dec mL_law 939 = .ok (.aload_n 2, 1) := by decide +kernel
theorem dL_law_940 : dec mL_law 940 = .ok (.invokevirtual 104, 3) := by decide +kernel
theorem dL_law_943 : dec mL_law 943 = .ok (.iload 5, 2) := by decide +kernel
theorem dL_law_945 : dec mL_law 945 = .ok (.if_icmp .eq 5, 3) := by decide +kernel
theorem dL_law_948 : dec mL_law 948 = .ok (.iconst 0, 1) := by decide +kernel
theorem dL_law_949 : dec mL_law 949 = .ok (.ireturn, 1) := by decide +kernel
theorem dL_law_950 : dec mL_law 950 = .ok (.iload 5, 2) := by decide +kernel
theorem dL_law_952 : dec mL_law 952 = .ok (.ifCond .ne 15, 3) := by decide +kernel
theorem dL_law_955 : dec mL_law 955 = .ok (.aload_n 3, 1) := by decide +kernel
theorem dL_law_956 : dec mL_law 956 = .ok (.iconst 0, 1) := by decide +kernel
theorem dL_law_957 : dec mL_law 957 = .ok (.laload, 1) := by decide +kernel
theorem dL_law_958 : dec mL_law 958 = .ok (.iload 6, 2) := by decide +kernel
theorem dL_law_960 : dec mL_law 960 = .ok (.i2l, 1) := by decide +kernel
theorem dL_law_961 : dec mL_law 961 = .ok (.lcmp, 1) := by decide +kernel
theorem dL_law_962 : dec mL_law 962 = .ok (.ifCond .eq 5, 3) := by decide +kernel
theorem dL_law_965 : dec mL_law 965 = .ok (.iconst 0, 1) := by decide +kernel
theorem dL_law_966 : dec mL_law 966 = .ok (.ireturn, 1) := by decide +kernel
theorem dL_law_967 : dec mL_law 967 = .ok (.goto 817, 3) := by decide +kernel
theorem dL_law_970 : dec mL_law 970 = .ok (.aload_n 1, 1) := by decide +kernel
theorem dL_law_971 : dec mL_law 971 = .ok (.aload_n 0, 1) := by decide +kernel
theorem dL_law_972 : dec mL_law 972 = .ok (.iload 4, 2) := by decide +kernel
theorem dL_law_974 : dec mL_law 974 = .ok (.iconst 1, 1) := by decide +kernel
theorem dL_law_975 : dec mL_law 975 = .ok (.iadd, 1) := by decide +kernel
theorem dL_law_976 : dec mL_law 976 = .ok (.iaload, 1) := by decide +kernel
theorem dL_law_977 : dec mL_law 977 = .ok (.aload_n 0, 1) := by decide +kernel
theorem dL_law_978 : dec mL_law 978 = .ok (.iload 4, 2) := by decide +kernel
theorem dL_law_980 : dec mL_law 980 = .ok (.iconst 2, 1) := by decide +kernel
theorem dL_law_981 : dec mL_law 981 = .ok (.iadd, 1) := by decide +kernel
theorem dL_law_982 : dec mL_law 982 = .ok (.iaload, 1) := by decide +kernel
theorem dL_law_983 : dec mL_law 983 = .ok (.ifCond .eq 7, 3) := by decide +kernel
theorem dL_law_986 : dec mL_law 986 = .ok (.iconst 1, 1) := by decide +kernel
theorem dL_law_987 : dec mL_law 987 = .ok (.goto 4, 3) := by decide +kernel
theorem dL_law_990 : dec mL_law 990 = .ok (.iconst 0, 1) := by decide +kernel
theorem dL_law_991 : dec mL_law 991 = .ok (.aload_n 3, 1) := by decide +kernel
theorem dL_law_992 : dec mL_law 992 = .ok (.invokestatic 151, 3) := by decide +kernel
theorem dL_law_995 : dec mL_law 995 = .ok (.istore 5, 2) := by decide +kernel
theorem dL_law_997 : dec mL_law 997 = .ok (.aload_n 2, 1) := by decide +kernel
theorem dL_law_998 : dec mL_law 998 = .ok (.aload_n 0, 1) := by decide +kernel
theorem dL_law_999 : dec mL_law 999 = .ok (.iload 4, 2) := by decide +kernel
theorem dL_law_1001 : dec mL_law 1001 = .ok (.iconst 1, 1) := by decide +kernel
theorem dL_law_1002 : dec mL_law 1002 = .ok (.iadd, 1) := by decide +kernel
theorem dL_law_1003 : dec mL_law 1003 = .ok (.iaload, 1) := by decide +kernel
theorem dL_law_1004 : dec mL_law 1004 = .ok (.aload_n 0, 1) := by decide +kernel
theorem dL_law_1005 : dec mL_law 1005 = .ok (.iload 4, 2) := by decide +kernel
theorem dL_law_1007 : dec mL_law 1007 = .ok (.iconst 2, 1) := by decide +kernel
theorem dL_law_1008 : dec mL_law 1008 = .ok (.iadd, 1) := by decide +kernel
theorem dL_law_1009 : dec mL_law 1009 = .ok (.iaload, 1) := by decide +kernel
theorem dL_law_1010 : dec mL_law 1010 = .ok (.ifCond .eq 7, 3) := by decide +kernel
theorem dL_law_1013 : dec mL_law 1013 = .ok (.iconst 1, 1) := by decide +kernel
theorem dL_law_1014 : dec mL_law 1014 = .ok (.goto 4, 3) := by decide +kernel
theorem dL_law_1017 : dec mL_law 1017 = .ok (.iconst 0, 1) := by decide +kernel
theorem dL_law_1018 : dec mL_law 1018 = .ok (.invokevirtual 154, 3) := by decide +kernel
theorem dL_law_1021 : dec mL_law 1021 = .ok (.istore 6, 2) := by decide +kernel
theorem dL_law_1023 : dec mL_law 1023 = .ok (.aload_n 2, 1) := by decide +kernel
theorem dL_law_1024 : dec mL_law 1024 = .ok (.invokevirtual 104, 3) := by decide +kernel
theorem dL_law_1027 : dec mL_law 1027 = .ok (.iload 5, 2) := by decide +kernel
theorem dL_law_1029 : dec mL_law 1029 = .ok (.if_icmp .eq 5, 3) := by decide +kernel
theorem dL_law_1032 : dec mL_law 1032 = .ok (.iconst 0, 1) := by decide +kernel
theorem dL_law_1033 : dec mL_law 1033 = .ok (.ireturn, 1) := by decide +kernel
theorem dL_law_1034 : dec mL_law 1034 = .ok (.iload 5, 2) := by decide +kernel
theorem dL_law_1036 : dec mL_law 1036 = .ok (.ifCond .ne 15, 3) := by decide +kernel
theorem dL_law_1039 : dec mL_law 1039 = .ok (.aload_n 3, 1) := by decide +kernel
theorem dL_law_1040 : dec mL_law 1040 = .ok (.iconst 0, 1) := by decide +kernel
theorem dL_law_1041 : dec mL_law 1041 = .ok (.laload, 1) := by decide +kernel
theorem dL_law_1042 : dec mL_law 1042 = .ok (.iload 6, 2) := by decide +kernel
theorem dL_law_1044 : dec mL_law 1044 = .ok (.i2l, 1) := by decide +kernel
theorem dL_law_1045 : dec mL_law 1045 = .ok (.lcmp, 1) := by decide +kernel
theorem dL_law_1046 : dec mL_law 1046 = .ok (.ifCond .eq 5, 3) := by decide +kernel
theorem dL_law_1049 : dec mL_law 1049 = .ok (.iconst 0, 1) := by decide +kernel
theorem dL_law_1050 : dec mL_law 1050 = .ok (.ireturn, 1) := by decide +kernel
theorem dL_law_1051 : dec mL_law 1051 = .ok (.goto 733, 3) := by decide +kernel
theorem dL_law_1054 : dec mL_law 1054 = .ok (.aload_n 1, 1) := by decide +kernel
theorem dL_law_1055 : dec mL_law 1055 = .ok (.invokevirtual 155, 3) := by decide +kernel
theorem dL_law_1058 : dec mL_law 1058 = .ok (.aload_n 2, 1) := by decide +kernel
theorem dL_law_1059 : dec mL_law 1059 = .ok (.invokevirtual 158, 3) := by decide +kernel
theorem dL_law_1062 : dec mL_law 1062 = .ok (.if_icmp .eq 722, 3) := by decide +kernel
theorem dL_law_1065 : dec mL_law 1065 = .ok (.iconst 0, 1) := by decide +kernel
theorem dL_law_1066 : dec mL_law 1066 = .ok (.ireturn, 1) := by decide +kernel
theorem dL_law_1067 : dec mL_law 1067 = .ok (.aload_n 1, 1) := by decide +kernel
theorem dL_law_1068 : dec mL_law 1068 = .ok (.aload_n 0, 1) := by decide +kernel
theorem dL_law_1069 : dec mL_law 1069 = .ok (.iload 4, 2) := by decide +kernel
theorem dL_law_1071 : dec mL_law 1071 = .ok (.iconst 1, 1) := by decide +kernel
theorem dL_law_1072 : dec mL_law 1072 = .ok (.iadd, 1) := by decide +kernel
theorem dL_law_1073 : dec mL_law 1073 = .ok (.iaload, 1) := by decide +kernel
theorem dL_law_1074 : dec mL_law 1074 = .ok (.aload_n 3, 1) := by decide +kernel
theorem dL_law_1075 : dec mL_law 1075 = .ok (.invokestatic 159, 3) := by decide +kernel
theorem dL_law_1078 : dec mL_law 1078 = .ok (.istore 5, 2) := by decide +kernel
theorem dL_law_1080 : dec mL_law 1080 = .ok (.aload_n 2, 1) := by decide +kernel
theorem dL_law_1081 : dec mL_law 1081 = .ok (.aload_n 0, 1) := by decide +kernel
theorem dL_law_1082 : dec mL_law 1082 = .ok (.iload 4, 2) := by decide +kernel
theorem dL_law_1084 : dec mL_law 1084 = .ok (.iconst 1, 1) := by decide +kernel
theorem dL_law_1085 : dec mL_law 1085 = .ok (.iadd, 1) := by decide +kernel
theorem dL_law_1086 : dec mL_law 1086 = .ok (.iaload, 1) := by decide +kernel
theorem dL_law_1087 : dec mL_law 1087 = .ok (.invokevirtual 161, 3) := by decide +kernel
theorem dL_law_1090 : dec mL_law 1090 = .ok (.istore 6, 2) := by decide +kernel
theorem dL_law_1092 : dec mL_law 1092 = .ok (.aload_n 2, 1) := by decide +kernel
theorem dL_law_1093 : dec mL_law 1093 = .ok (.invokevirtual 104, 3) := by decide +kernel
theorem dL_law_1096 : dec mL_law 1096 = .ok (.iload 5, 2) := by decide +kernel
theorem dL_law_1098 : dec mL_law 1098 = .ok (.if_icmp .eq 5, 3) := by decide +kernel
theorem dL_law_1101 : dec mL_law 1101 = .ok (.iconst 0, 1) := by decide +kernel
theorem dL_law_1102 : dec mL_law 1102 = .ok (.ireturn, 1) := by decide +kernel
theorem dL_law_1103 : dec mL_law 1103 = .ok (.iload 5, 2) := by decide +kernel
theorem dL_law_1105 : dec mL_law 1105 = .ok (.ifCond .ne 15, 3) := by decide +kernel
theorem dL_law_1108 : dec mL_law 1108 = .ok (.aload_n 3, 1) := by decide +kernel
theorem dL_law_1109 : dec mL_law 1109 = .ok (.iconst 0, 1) := by decide +kernel
theorem dL_law_1110 : dec mL_law 1110 = .ok (.laload, 1) := by decide +kernel
theorem dL_law_1111 : dec mL_law 1111 = .ok (.iload 6, 2) := by decide +kernel
theorem dL_law_1113 : dec mL_law 1113 = .ok (.i2l, 1) := by decide +kernel
theorem dL_law_1114 : dec mL_law 1114 = .ok (.lcmp, 1) := by decide +kernel
theorem dL_law_1115 : dec mL_law 1115 = .ok (.ifCond .eq 5, 3) := by decide +kernel
theorem dL_law_1118 : dec mL_law 1118 = .ok (.iconst 0, 1) := by decide +kernel
theorem dL_law_1119 : dec mL_law 1119 = .ok (.ireturn, 1) := by decide +kernel
theorem dL_law_1120 : dec mL_law 1120 = .ok (.goto 664, 3) := by decide +kernel
theorem dL_law_1123 : dec mL_law 1123 = .ok (.aload_n 1, 1) := by decide +kernel
theorem dL_law_1124 : dec mL_law 1124 = .ok (.aload_n 3, 1) := by decide +kernel
theorem dL_law_1125 : dec mL_law 1125 = .ok (.invokestatic 162, 3) := by decide +kernel
theorem dL_law_1128 : dec mL_law 1128 = .ok (.istore 5, 2) := by decide +kernel
theorem dL_law_1130 : dec mL_law 1130 = .ok (.aload_n 2, 1) := by decide +kernel
theorem dL_law_1131 : dec mL_law 1131 = .ok (.invokevirtual 164, 3) := by decide +kernel
theorem dL_law_1134 : dec mL_law 1134 = .ok (.istore 6, 2) := by decide +kernel
theorem dL_law_1136 : dec mL_law 1136 = .ok (.aload_n 2, 1) := by decide +kernel
theorem dL_law_1137 : dec mL_law 1137 = .ok (.invokevirtual 104, 3) := by decide +kernel
theorem dL_law_1140 : dec mL_law 1140 = .ok (.iload 5, 2) := by decide +kernel
theorem dL_law_1142 : dec mL_law 1142 = .ok (.if_icmp .eq 5, 3) := by decide +kernel
theorem dL_law_1145 : dec mL_law 1145 = .ok (.iconst 0, 1) := by decide +kernel
theorem dL_law_1146 : dec mL_law 1146 = .ok (.ireturn, 1) := by decide +kernel
theorem dL_law_1147 : dec mL_law 1147 = .ok (.iload 5, 2) := by decide +kernel
theorem dL_law_1149 : dec mL_law 1149 = .ok (.ifCond .ne 15, 3) := by decide +kernel
theorem dL_law_1152 : dec mL_law 1152 = .ok (.aload_n 3, 1) := by decide +kernel
theorem dL_law_1153 : dec mL_law 1153 = .ok (.iconst 0, 1) := by decide +kernel
theorem dL_law_1154 : dec mL_law 1154 = .ok (.laload, 1) := by decide +kernel
theorem dL_law_1155 : dec mL_law 1155 = .ok (.iload 6, 2) := by decide +kernel
theorem dL_law_1157 : dec mL_law 1157 = .ok (.i2l, 1) := by decide +kernel
theorem dL_law_1158 : dec mL_law 1158 = .ok (.lcmp, 1) := by decide +kernel
theorem dL_law_1159 : dec mL_law 1159 = .ok (.ifCond .eq 5, 3) := by decide +kernel
theorem dL_law_1162 : dec mL_law 1162 = .ok (.iconst 0, 1) := by decide +kernel
theorem dL_law_1163 : dec mL_law 1163 = .ok (.ireturn, 1) := by decide +kernel
theorem dL_law_1164 : dec mL_law 1164 = .ok (.goto 620, 3) := by decide +kernel
theorem dL_law_1167 : dec mL_law 1167 = .ok (.aload_n 1, 1) := by decide +kernel
theorem dL_law_1168 : dec mL_law 1168 = .ok (.aload_n 0, 1) := by decide +kernel
theorem dL_law_1169 : dec mL_law 1169 = .ok (.iload 4, 2) := by decide +kernel
theorem dL_law_1171 : dec mL_law 1171 = .ok (.iconst 1, 1) := by decide +kernel
theorem dL_law_1172 : dec mL_law 1172 = .ok (.iadd, 1) := by decide +kernel
theorem dL_law_1173 : dec mL_law 1173 = .ok (.iaload, 1) := by decide +kernel
theorem dL_law_1174 : dec mL_law 1174 = .ok (.aload_n 3, 1) := by decide +kernel
theorem dL_law_1175 : dec mL_law 1175 = .ok (.invokestatic 165, 3) := by decide +kernel
theorem dL_law_1178 : dec mL_law 1178 = .ok (.istore 5, 2) := by decide +kernel
theorem dL_law_1180 : dec mL_law 1180 = .ok (.aload_n 2, 1) := by decide +kernel
theorem dL_law_1181 : dec mL_law 1181 = .ok (.aload_n 0, 1) := by decide +kernel
theorem dL_law_1182 : dec mL_law 1182 = .ok (.iload 4, 2) := by decide +kernel
theorem dL_law_1184 : dec mL_law 1184 = .ok (.iconst 1, 1) := by decide +kernel
theorem dL_law_1185 : dec mL_law 1185 = .ok (.iadd, 1) := by decide +kernel
theorem dL_law_1186 : dec mL_law 1186 = .ok (.iaload, 1) := by decide +kernel
theorem dL_law_1187 : dec mL_law 1187 = .ok (.invokevirtual 167, 3) := by decide +kernel
theorem dL_law_1190 : dec mL_law 1190 = .ok (.istore 6, 2) := by decide +kernel
theorem dL_law_1192 : dec mL_law 1192 = .ok (.aload_n 2, 1) := by decide +kernel
theorem dL_law_1193 : dec mL_law 1193 = .ok (.invokevirtual 104, 3) := by decide +kernel
theorem dL_law_1196 : dec mL_law 1196 = .ok (.iload 5, 2) := by decide +kernel
theorem dL_law_1198 : dec mL_law 1198 = .ok (.if_icmp .eq 5, 3) := by decide +kernel
theorem dL_law_1201 : dec mL_law 1201 = .ok (.iconst 0, 1) := by decide +kernel
theorem dL_law_1202 : dec mL_law 1202 = .ok (.ireturn, 1) := by decide +kernel
theorem dL_law_1203 : dec mL_law 1203 = .ok (.iload 5, 2) := by decide +kernel
theorem dL_law_1205 : dec mL_law 1205 = .ok (.ifCond .ne 15, 3) := by decide +kernel
theorem dL_law_1208 : dec mL_law 1208 = .ok (.aload_n 3, 1) := by decide +kernel
theorem dL_law_1209 : dec mL_law 1209 = .ok (.iconst 0, 1) := by decide +kernel
theorem dL_law_1210 : dec mL_law 1210 = .ok (.laload, 1) := by decide +kernel
theorem dL_law_1211 : dec mL_law 1211 = .ok (.iload 6, 2) := by decide +kernel
theorem dL_law_1213 : dec mL_law 1213 = .ok (.i2l, 1) := by decide +kernel
theorem dL_law_1214 : dec mL_law 1214 = .ok (.lcmp, 1) := by decide +kernel
theorem dL_law_1215 : dec mL_law 1215 = .ok (.ifCond .eq 5, 3) := by decide +kernel
theorem dL_law_1218 : dec mL_law 1218 = .ok (.iconst 0, 1) := by decide +kernel
theorem dL_law_1219 : dec mL_law 1219 = .ok (.ireturn, 1) := by decide +kernel
theorem dL_law_1220 : dec mL_law 1220 = .ok (.goto 564, 3) := by decide +kernel
theorem dL_law_1223 : dec mL_law 1223 = .ok (.aload_n 1, 1) := by decide +kernel
theorem dL_law_1224 : dec mL_law 1224 = .ok (.aload_n 0, 1) := by decide +kernel
theorem dL_law_1225 : dec mL_law 1225 = .ok (.iload 4, 2) := by decide +kernel
theorem dL_law_1227 : dec mL_law 1227 = .ok (.iconst 1, 1) := by decide +kernel
theorem dL_law_1228 : dec mL_law 1228 = .ok (.iadd, 1) := by decide +kernel
theorem dL_law_1229 : dec mL_law 1229 = .ok (.iaload, 1) := by decide +kernel
theorem dL_law_1230 : dec mL_law 1230 = .ok (.aload_n 3, 1) := by decide +kernel
theorem dL_law_1231 : dec mL_law 1231 = .ok (.invokestatic 168, 3) := by decide +kernel
theorem dL_law_1234 : dec mL_law 1234 = .ok (.istore 5, 2) := by decide +kernel
theorem dL_law_1236 : dec mL_law 1236 = .ok (.aload_n 2, 1) := by decide +kernel
theorem dL_law_1237 : dec mL_law 1237 = .ok (.aload_n 0, 1) := by decide +kernel
theorem dL_law_1238 : dec mL_law 1238 = .ok (.iload 4, 2) := by decide +kernel
theorem dL_law_1240 : dec mL_law 1240 = .ok (.iconst 1, 1) := by decide +kernel
theorem dL_law_1241 : dec mL_law 1241 = .ok (.iadd, 1) := by decide +kernel
theorem dL_law_1242 : dec mL_law 1242 = .ok (.iaload, 1) := by decide +kernel
theorem dL_law_1243 : dec mL_law 1243 = .ok (.invokevirtual 170, 3) := by decide +kernel
theorem dL_law_1246 : dec mL_law 1246 = .ok (.istore 6, 2) := by decide +kernel
theorem dL_law_1248 : dec mL_law 1248 = .ok (.aload_n 2, 1) := by decide +kernel
theorem dL_law_1249 : dec mL_law 1249 = .ok (.invokevirtual 104, 3) := by decide +kernel
theorem dL_law_1252 : dec mL_law 1252 = .ok (.iload 5, 2) := by decide +kernel
theorem dL_law_1254 : dec mL_law 1254 = .ok (.if_icmp .eq 5, 3) := by decide +kernel
theorem dL_law_1257 : dec mL_law 1257 = .ok (.iconst 0, 1) := by decide +kernel
theorem dL_law_1258 : dec mL_law 1258 = .ok (.ireturn, 1) := by decide +kernel
theorem dL_law_1259 : dec mL_law 1259 = .ok (.iload 5, 2) := by decide +kernel
theorem dL_law_1261 : dec mL_law 1261 = .ok (.ifCond .ne 15, 3) := by decide +kernel
theorem dL_law_1264 : dec mL_law 1264 = .ok (.aload_n 3, 1) := by decide +kernel
theorem dL_law_1265 : dec mL_law 1265 = .ok (.iconst 0, 1) := by decide +kernel
theorem dL_law_1266 : dec mL_law 1266 = .ok (.laload, 1) := by decide +kernel
theorem dL_law_1267 : dec mL_law 1267 = .ok (.iload 6, 2) := by decide +kernel
theorem dL_law_1269 : dec mL_law 1269 = .ok (.i2l, 1) := by decide +kernel
theorem dL_law_1270 : dec mL_law 1270 = .ok (.lcmp, 1) := by decide +kernel
theorem dL_law_1271 : dec mL_law 1271 = .ok (.ifCond .eq 5, 3) := by decide +kernel
theorem dL_law_1274 : dec mL_law 1274 = .ok (.iconst 0, 1) := by decide +kernel
theorem dL_law_1275 : dec mL_law 1275 = .ok (.ireturn, 1) := by decide +kernel
theorem dL_law_1276 : dec mL_law 1276 = .ok (.goto 508, 3) := by decide +kernel
theorem dL_law_1279 : dec mL_law 1279 = .ok (.aload_n 1, 1) := by decide +kernel
theorem dL_law_1280 : dec mL_law 1280 = .ok (.aload_n 0, 1) := by decide +kernel
theorem dL_law_1281 : dec mL_law 1281 = .ok (.iload 4, 2) := by decide +kernel
theorem dL_law_1283 : dec mL_law 1283 = .ok (.iconst 1, 1) := by decide +kernel
theorem dL_law_1284 : dec mL_law 1284 = .ok (.iadd, 1) := by decide +kernel
theorem dL_law_1285 : dec mL_law 1285 = .ok (.iaload, 1) := by decide +kernel
theorem dL_law_1286 : dec mL_law 1286 = .ok (.aload_n 0, 1) := by decide +kernel
theorem dL_law_1287 : dec mL_law 1287 = .ok (.iload 4, 2) := by decide +kernel
theorem dL_law_1289 : dec mL_law 1289 = .ok (.iconst 2, 1) := by decide +kernel
theorem dL_law_1290 : dec mL_law 1290 = .ok (.iadd, 1) := by decide +kernel
theorem dL_law_1291 : dec mL_law 1291 = .ok (.iaload, 1) := by decide +kernel
theorem dL_law_1292 : dec mL_law 1292 = .ok (.aload_n 3, 1) := by decide +kernel
theorem dL_law_1293 : dec mL_law 1293 = .ok (.invokestatic 171, 3) := by decide +kernel
theorem dL_law_1296 : dec mL_law 1296 = .ok (.istore 5, 2) := by decide +kernel
theorem dL_law_1298 : dec mL_law 1298 = .ok (.aload_n 2, 1) := by decide +kernel
theorem dL_law_1299 : dec mL_law 1299 = .ok (.aload_n 0, 1) := by decide +kernel
theorem dL_law_1300 : dec mL_law 1300 = .ok (.iload 4, 2) := by decide +kernel
theorem dL_law_1302 : dec mL_law 1302 = .ok (.iconst 1, 1) := by decide +kernel
theorem dL_law_1303 : dec mL_law 1303 = .ok (.iadd, 1) := by decide +kernel
theorem dL_law_1304 : dec mL_law 1304 = .ok (.iaload, 1) := by decide +kernel
theorem dL_law_1305 : dec mL_law 1305 = .ok (.aload_n 0, 1) := by decide +kernel
theorem dL_law_1306 : dec mL_law 1306 = .ok (.iload 4, 2) := by decide +kernel
theorem dL_law_1308 : dec mL_law 1308 = .ok (.iconst 2, 1) := by decide +kernel
theorem dL_law_1309 : dec mL_law 1309 = .ok (.iadd, 1) := by decide +kernel
theorem dL_law_1310 : dec mL_law 1310 = .ok (.iaload, 1) := by decide +kernel
theorem dL_law_1311 : dec mL_law 1311 = .ok (.invokevirtual 173, 3) := by decide +kernel
theorem dL_law_1314 : dec mL_law 1314 = .ok (.istore 6, 2) := by decide +kernel
theorem dL_law_1316 : dec mL_law 1316 = .ok (.aload_n 2, 1) := by decide +kernel
theorem dL_law_1317 : dec mL_law 1317 = .ok (.invokevirtual 104, 3) := by decide +kernel
theorem dL_law_1320 : dec mL_law 1320 = .ok (.iload 5, 2) := by decide +kernel
theorem dL_law_1322 : dec mL_law 1322 = .ok (.if_icmp .eq 5, 3) := by decide +kernel
theorem dL_law_1325 : dec mL_law 1325 = .ok (.iconst 0, 1) := by decide +kernel
theorem dL_law_1326 : dec mL_law 1326 = .ok (.ireturn, 1) := by decide +kernel
theorem dL_law_1327 : dec mL_law 1327 = .ok (.iload 5, 2) := by decide +kernel
theorem dL_law_1329 : dec mL_law 1329 = .ok (.ifCond .ne 15, 3) := by decide +kernel
theorem dL_law_1332 : dec mL_law 1332 = .ok (.aload_n 3, 1) := by decide +kernel
theorem dL_law_1333 : dec mL_law 1333 = .ok (.iconst 0, 1) := by decide +kernel
theorem dL_law_1334 : dec mL_law 1334 = .ok (.laload, 1) := by decide +kernel
theorem dL_law_1335 : dec mL_law 1335 = .ok (.iload 6, 2) := by decide +kernel
theorem dL_law_1337 : dec mL_law 1337 = .ok (.i2l, 1) := by decide +kernel
theorem dL_law_1338 : dec mL_law 1338 = .ok (.lcmp, 1) := by decide +kernel
theorem dL_law_1339 : dec mL_law 1339 = .ok (.ifCond .eq 5, 3) := by decide +kernel
theorem dL_law_1342 : dec mL_law 1342 = .ok (.iconst 0, 1) := by decide +kernel
theorem dL_law_1343 : dec mL_law 1343 = .ok (.ireturn, 1) := by decide +kernel
theorem dL_law_1344 : dec mL_law 1344 = .ok (.goto 440, 3) := by decide +kernel
theorem dL_law_1347 : dec mL_law 1347 = .ok (.aload_n 1, 1) := by decide +kernel
theorem dL_law_1348 : dec mL_law 1348 = .ok (.invokevirtual 174, 3) := by decide +kernel
theorem dL_law_1351 : dec mL_law 1351 = .ok (.aload_n 2, 1) := by decide +kernel
theorem dL_law_1352 : dec mL_law 1352 = .ok (.invokevirtual 177, 3) := by decide +kernel
theorem dL_law_1355 : dec mL_law 1355 = .ok (.if_icmp .eq 429, 3) := by decide +kernel
theorem dL_law_1358 : dec mL_law 1358 = .ok (.iconst 0, 1) := by decide +kernel
theorem dL_law_1359 : dec mL_law 1359 = .ok (.ireturn, 1) := by decide +kernel
theorem dL_law_1360 : dec mL_law 1360 = .ok (.aload_n 1, 1) := by decide +kernel
theorem dL_law_1361 : dec mL_law 1361 = .ok (.aload_n 0, 1) := by decide +kernel
theorem dL_law_1362 : dec mL_law 1362 = .ok (.iload 4, 2) := by decide +kernel
theorem dL_law_1364 : dec mL_law 1364 = .ok (.iconst 1, 1) := by decide +kernel
theorem dL_law_1365 : dec mL_law 1365 = .ok (.iadd, 1) := by decide +kernel
theorem dL_law_1366 : dec mL_law 1366 = .ok (.iaload, 1) := by decide +kernel
theorem dL_law_1367 : dec mL_law 1367 = .ok (.aload_n 3, 1) := by decide +kernel
theorem dL_law_1368 : dec mL_law 1368 = .ok (.invokestatic 178, 3) := by decide +kernel
theorem dL_law_1371 : dec mL_law 1371 = .ok (.istore 5, 2) := by decide +kernel
theorem dL_law_1373 : dec mL_law 1373 = .ok (.aload_n 2, 1) := by decide +kernel
theorem dL_law_1374 : dec mL_law 1374 = .ok (.aload_n 0, 1) := by decide +kernel
theorem dL_law_1375 : dec mL_law 1375 = .ok (.iload 4, 2) := by decide +kernel
theorem dL_law_1377 : dec mL_law 1377 = .ok (.iconst 1, 1) := by decide +kernel
theorem dL_law_1378 : dec mL_law 1378 = .ok (.iadd, 1) := by decide +kernel
theorem dL_law_1379 : dec mL_law 1379 = .ok (.iaload, 1) := by decide +kernel
theorem dL_law_1380 : dec mL_law 1380 = .ok (.invokevirtual 180, 3) := by decide +kernel
theorem dL_law_1383 : dec mL_law 1383 = .ok (.istore 6, 2) := by decide +kernel
theorem dL_law_1385 : dec mL_law 1385 = .ok (.aload_n 2, 1) := by decide +kernel
theorem dL_law_1386 : dec mL_law 1386 = .ok (.invokevirtual 104, 3) := by decide +kernel
theorem dL_law_1389 : dec mL_law 1389 = .ok (.iload 5, 2) := by decide +kernel
theorem dL_law_1391 : dec mL_law 1391 = .ok (.if_icmp .eq 5, 3) := by decide +kernel
theorem dL_law_1394 : dec mL_law 1394 = .ok (.iconst 0, 1) := by decide +kernel
theorem dL_law_1395 : dec mL_law 1395 = .ok (.ireturn, 1) := by decide +kernel
theorem dL_law_1396 : dec mL_law 1396 = .ok (.iload 5, 2) := by decide +kernel
theorem dL_law_1398 : dec mL_law 1398 = .ok (.ifCond .ne 15, 3) := by decide +kernel
theorem dL_law_1401 : dec mL_law 1401 = .ok (.aload_n 3, 1) := by decide +kernel
theorem dL_law_1402 : dec mL_law 1402 = .ok (.iconst 0, 1) := by decide +kernel
theorem dL_law_1403 : dec mL_law 1403 = .ok (.laload, 1) := by decide +kernel
theorem dL_law_1404 : dec mL_law 1404 = .ok (.iload 6, 2) := by decide +kernel
theorem dL_law_1406 : dec mL_law 1406 = .ok (.i2l, 1) := by decide +kernel
theorem dL_law_1407 : dec mL_law 1407 = .ok (.lcmp, 1) := by decide +kernel
theorem dL_law_1408 : dec mL_law 1408 = .ok (.ifCond .eq 5, 3) := by decide +kernel
theorem dL_law_1411 : dec mL_law 1411 = .ok (.iconst 0, 1) := by decide +kernel
theorem dL_law_1412 : dec mL_law 1412 = .ok (.ireturn, 1) := by decide +kernel
theorem dL_law_1413 : dec mL_law 1413 = .ok (.goto 371, 3) := by decide +kernel
theorem dL_law_1416 : dec mL_law 1416 = .ok (.aload_n 1, 1) := by decide +kernel
theorem dL_law_1417 : dec mL_law 1417 = .ok (.aload_n 0, 1) := by decide +kernel
theorem dL_law_1418 : dec mL_law 1418 = .ok (.iload 4, 2) := by decide +kernel
theorem dL_law_1420 : dec mL_law 1420 = .ok (.iconst 1, 1) := by decide +kernel
theorem dL_law_1421 : dec mL_law 1421 = .ok (.iadd, 1) := by decide +kernel
theorem dL_law_1422 : dec mL_law 1422 = .ok (.iaload, 1) := by decide +kernel
theorem dL_law_1423 : dec mL_law 1423 = .ok (.aload_n 3, 1) := by decide +kernel
theorem dL_law_1424 : dec mL_law 1424 = .ok (.invokestatic 181, 3) := by decide +kernel
theorem dL_law_1427 : dec mL_law 1427 = .ok (.istore 5, 2) := by decide +kernel
theorem dL_law_1429 : dec mL_law 1429 = .ok (.aload_n 2, 1) := by decide +kernel
theorem dL_law_1430 : dec mL_law 1430 = .ok (.aload_n 0, 1) := by decide +kernel
theorem dL_law_1431 : dec mL_law 1431 = .ok (.iload 4, 2) := by decide +kernel
theorem dL_law_1433 : dec mL_law 1433 = .ok (.iconst 1, 1) := by decide +kernel
theorem dL_law_1434 : dec mL_law 1434 = .ok (.iadd, 1) := by decide +kernel
theorem dL_law_1435 : dec mL_law 1435 = .ok (.iaload, 1) := by decide +kernel
theorem dL_law_1436 : dec mL_law 1436 = .ok (.invokevirtual 183, 3) := by decide +kernel
theorem dL_law_1439 : dec mL_law 1439 = .ok (.istore 6, 2) := by decide +kernel
theorem dL_law_1441 : dec mL_law 1441 = .ok (.aload_n 2, 1) := by decide +kernel
theorem dL_law_1442 : dec mL_law 1442 = .ok (.invokevirtual 104, 3) := by decide +kernel
theorem dL_law_1445 : dec mL_law 1445 = .ok (.iload 5, 2) := by decide +kernel
theorem dL_law_1447 : dec mL_law 1447 = .ok (.if_icmp .eq 5, 3) := by decide +kernel
theorem dL_law_1450 : dec mL_law 1450 = .ok (.iconst 0, 1) := by decide +kernel
theorem dL_law_1451 : dec mL_law 1451 = .ok (.ireturn, 1) := by decide +kernel
theorem dL_law_1452 : dec mL_law 1452 = .ok (.iload 5, 2) := by decide +kernel
theorem dL_law_1454 : dec mL_law 1454 = .ok (.ifCond .ne 15, 3) := by decide +kernel
theorem dL_law_1457 : dec mL_law 1457 = .ok (.aload_n 3, 1) := by decide +kernel
theorem dL_law_1458 : dec mL_law 1458 = .ok (.iconst 0, 1) := by decide +kernel
theorem dL_law_1459 : dec mL_law 1459 = .ok (.laload, 1) := by decide +kernel
theorem dL_law_1460 : dec mL_law 1460 = .ok (.iload 6, 2) := by decide +kernel
theorem dL_law_1462 : dec mL_law 1462 = .ok (.i2l, 1) := by decide +kernel
theorem dL_law_1463 : dec mL_law 1463 = .ok (.lcmp, 1) := by decide +kernel
theorem dL_law_1464 : dec mL_law 1464 = .ok (.ifCond .eq 5, 3) := by decide +kernel
theorem dL_law_1467 : dec mL_law 1467 = .ok (.iconst 0, 1) := by decide +kernel
theorem dL_law_1468 : dec mL_law 1468 = .ok (.ireturn, 1) := by decide +kernel
theorem dL_law_1469 : dec mL_law 1469 = .ok (.goto 315, 3) := by decide +kernel
theorem dL_law_1472 : dec mL_law 1472 = .ok (.aload_n 1, 1) := by decide +kernel
theorem dL_law_1473 : dec mL_law 1473 = .ok (.aload_n 0, 1) := by decide +kernel
theorem dL_law_1474 : dec mL_law 1474 = .ok (.iload 4, 2) := by decide +kernel
theorem dL_law_1476 : dec mL_law 1476 = .ok (.iconst 1, 1) := by decide +kernel
theorem dL_law_1477 : dec mL_law 1477 = .ok (.iadd, 1) := by decide +kernel
theorem dL_law_1478 : dec mL_law 1478 = .ok (.iaload, 1) := by decide +kernel
theorem dL_law_1479 : dec mL_law 1479 = .ok (.aload_n 0, 1) := by decide +kernel
theorem dL_law_1480 : dec mL_law 1480 = .ok (.iload 4, 2) := by decide +kernel
theorem dL_law_1482 : dec mL_law 1482 = .ok (.iconst 2, 1) := by decide +kernel
theorem dL_law_1483 : dec mL_law 1483 = .ok (.iadd, 1) := by decide +kernel
theorem dL_law_1484 : dec mL_law 1484 = .ok (.iaload, 1) := by decide +kernel
theorem dL_law_1485 : dec mL_law 1485 = .ok (.i2l, 1) := by decide +kernel
theorem dL_law_1486 : dec mL_law 1486 = .ok (.bipush 32, 2) := by decide +kernel
theorem dL_law_1488 : dec mL_law 1488 = .ok (.lshl, 1) := by decide +kernel
theorem dL_law_1489 : dec mL_law 1489 = .ok (.aload_n 0, 1) := by decide +kernel
theorem dL_law_1490 : dec mL_law 1490 = .ok (.iload 4, 2) := by decide +kernel
theorem dL_law_1492 : dec mL_law 1492 = .ok (.iconst 3, 1) := by decide +kernel
theorem dL_law_1493 : dec mL_law 1493 = .ok (.iadd, 1) := by decide +kernel
theorem dL_law_1494 : dec mL_law 1494 = .ok (.iaload, 1) := by decide +kernel
theorem dL_law_1495 : dec mL_law 1495 = .ok (.i2l, 1) := by decide +kernel
theorem dL_law_1496 : dec mL_law 1496 = .ok (.ldc2_w 184, 3) := by decide +kernel
theorem dL_law_1499 : dec mL_law 1499 = .ok (.land, 1) := by decide +kernel
theorem dL_law_1500 : dec mL_law 1500 = .ok (.lor, 1) := by decide +kernel
theorem dL_law_1501 : dec mL_law 1501 = .ok (.aload_n 3, 1) := by decide +kernel
theorem dL_law_1502 : dec mL_law 1502 = .ok (.invokestatic 186, 3) := by decide +kernel
theorem dL_law_1505 : dec mL_law 1505 = .ok (.istore 5, 2) := by decide +kernel
theorem dL_law_1507 : dec mL_law 1507 = .ok (.aload_n 2, 1) := by decide +kernel
theorem dL_law_1508 : dec mL_law 1508 = .ok (.aload_n 0, 1) := by decide +kernel
theorem dL_law_1509 : dec mL_law 1509 = .ok (.iload 4, 2) := by decide +kernel
theorem dL_law_1511 : dec mL_law 1511 = .ok (.iconst 1, 1) := by decide +kernel
theorem dL_law_1512 : dec mL_law 1512 = .ok (.iadd, 1) := by decide +kernel
theorem dL_law_1513 : dec mL_law 1513 = .ok (.iaload, 1) := by decide +kernel
theorem dL_law_1514 : dec mL_law 1514 = .ok (.aload_n 0, 1) := by decide +kernel
theorem dL_law_1515 : dec mL_law 1515 = .ok (.iload 4, 2) := by decide +kernel
theorem dL_law_1517 : dec mL_law 1517 = .ok (.iconst 2, 1) := by decide +kernel
theorem dL_law_1518 : dec mL_law 1518 = .ok (.iadd, 1) := by decide +kernel
theorem dL_law_1519 : dec mL_law 1519 = .ok (.iaload, 1) := by decide +kernel
theorem dL_law_1520 : dec mL_law 1520 = .ok (.i2l, 1) := by decide +kernel
theorem dL_law_1521 : dec mL_law 1521 = .ok (.bipush 32, 2) := by decide +kernel
theorem dL_law_1523 : dec mL_law 1523 = .ok (.lshl, 1) := by decide +kernel
theorem dL_law_1524 : dec mL_law 1524 = .ok (.aload_n 0, 1) := by decide +kernel
theorem dL_law_1525 : dec mL_law 1525 = .ok (.iload 4, 2) := by decide +kernel
theorem dL_law_1527 : dec mL_law 1527 = .ok (.iconst 3, 1) := by decide +kernel
theorem dL_law_1528 : dec mL_law 1528 = .ok (.iadd, 1) := by decide +kernel
theorem dL_law_1529 : dec mL_law 1529 = .ok (.iaload, 1) := by decide +kernel
theorem dL_law_1530 : dec mL_law 1530 = .ok (.i2l, 1) := by decide +kernel
theorem dL_law_1531 : dec mL_law 1531 = .ok (.ldc2_w 184, 3) := by decide +kernel
theorem dL_law_1534 : dec mL_law 1534 = .ok (.land, 1) := by decide +kernel
theorem dL_law_1535 : dec mL_law 1535 = .ok (.lor, 1) := by decide +kernel
theorem dL_law_1536 : dec mL_law 1536 = .ok (.invokevirtual 189, 3) := by decide +kernel
theorem dL_law_1539 : dec mL_law 1539 = .ok (.istore 6, 2) := by decide +kernel
theorem dL_law_1541 : dec mL_law 1541 = .ok (.aload_n 2, 1) := by decide +kernel
theorem dL_law_1542 : dec mL_law 1542 = .ok (.invokevirtual 104, 3) := by decide +kernel
theorem dL_law_1545 : dec mL_law 1545 = .ok (.iload 5, 2) := by decide +kernel
theorem dL_law_1547 : dec mL_law 1547 = .ok (.if_icmp .eq 5, 3) := by decide +kernel
theorem dL_law_1550 : dec mL_law 1550 = .ok (.iconst 0, 1) := by decide +kernel
theorem dL_law_1551 : dec mL_law 1551 = .ok (.ireturn, 1) := by decide +kernel
theorem dL_law_1552 : dec mL_law 1552 = .ok (.iload 5, 2) := by decide +kernel
theorem dL_law_1554 : dec mL_law 1554 = .ok (.ifCond .ne 15, 3) := by decide +kernel
theorem dL_law_1557 : dec mL_law 1557 = .ok (.aload_n 3, 1) := by decide +kernel
theorem dL_law_1558 : dec mL_law 1558 = .ok (.iconst 0, 1) := by decide +kernel
theorem dL_law_1559 : dec mL_law 1559 = .ok (.laload, 1) := by decide +kernel
theorem dL_law_1560 : dec mL_law 1560 = .ok (.iload 6, 2) := by decide +kernel
theorem dL_law_1562 : dec mL_law 1562 = .ok (.i2l, 1) := by decide +kernel
theorem dL_law_1563 : dec mL_law 1563 = .ok (.lcmp, 1) := by decide +kernel
theorem dL_law_1564 : dec mL_law 1564 = .ok (.ifCond .eq 5, 3) := by decide +kernel
theorem dL_law_1567 : dec mL_law 1567 = .ok (.iconst 0, 1) := by decide +kernel
theorem dL_law_1568 : dec mL_law 1568 = .ok (.ireturn, 1) := by decide +kernel
theorem dL_law_1569 : dec mL_law 1569 = .ok (.goto 215, 3) := by decide +kernel
theorem dL_law_1572 : dec mL_law 1572 = .ok (.aload_n 1, 1) := by decide +kernel
theorem dL_law_1573 : dec mL_law 1573 = .ok (.aload_n 0, 1) := by decide +kernel
theorem dL_law_1574 : dec mL_law 1574 = .ok (.iload 4, 2) := by decide +kernel
theorem dL_law_1576 : dec mL_law 1576 = .ok (.iconst 1, 1) := by decide +kernel
theorem dL_law_1577 : dec mL_law 1577 = .ok (.iadd, 1) := by decide +kernel
theorem dL_law_1578 : dec mL_law 1578 = .ok (.iaload, 1) := by decide +kernel
theorem dL_law_1579 : dec mL_law 1579 = .ok (.i2l, 1) := by decide +kernel
theorem dL_law_1580 : dec mL_law 1580 = .ok (.bipush 32, 2) := by decide +kernel
theorem dL_law_1582 : dec mL_law 1582 = .ok (.lshl, 1) := by decide +kernel
theorem dL_law_1583 : dec mL_law 1583 = .ok (.aload_n 0, 1) := by decide +kernel
theorem dL_law_1584 : dec mL_law 1584 = .ok (.iload 4, 2) := by decide +kernel
theorem dL_law_1586 : dec mL_law 1586 = .ok (.iconst 2, 1) := by decide +kernel
theorem dL_law_1587 : dec mL_law 1587 = .ok (.iadd, 1) := by decide +kernel
theorem dL_law_1588 : dec mL_law 1588 = .ok (.iaload, 1) := by decide +kernel
theorem dL_law_1589 : dec mL_law 1589 = .ok (.i2l, 1) := by decide +kernel
theorem dL_law_1590 : dec mL_law 1590 = .ok (.ldc2_w 184, 3) := by decide +kernel
theorem dL_law_1593 : dec mL_law 1593 = .ok (.land, 1) := by decide +kernel
theorem dL_law_1594 : dec mL_law 1594 = .ok (.lor, 1) := by decide +kernel
theorem dL_law_1595 : dec mL_law 1595 = .ok (.aload_n 0, 1) := by decide +kernel
theorem dL_law_1596 : dec mL_law 1596 = .ok (.iload 4, 2) := by decide +kernel
theorem dL_law_1598 : dec mL_law 1598 = .ok (.iconst 3, 1) := by decide +kernel
theorem dL_law_1599 : dec mL_law 1599 = .ok (.iadd, 1) := by decide +kernel
theorem dL_law_1600 : dec mL_law 1600 = .ok (.iaload, 1) := by decide +kernel
theorem dL_law_1601 : dec mL_law 1601 = .ok (.aload_n 3, 1) := by decide +kernel
theorem dL_law_1602 : dec mL_law 1602 = .ok (.invokestatic 190, 3) := by decide +kernel
theorem dL_law_1605 : dec mL_law 1605 = .ok (.istore 5, 2) := by decide +kernel
theorem dL_law_1607 : dec mL_law 1607 = .ok (.aload_n 2, 1) := by decide +kernel
theorem dL_law_1608 : dec mL_law 1608 = .ok (.aload_n 0, 1) := by decide +kernel
theorem dL_law_1609 : dec mL_law 1609 = .ok (.iload 4, 2) := by decide +kernel
theorem dL_law_1611 : dec mL_law 1611 = .ok (.iconst 1, 1) := by decide +kernel
theorem dL_law_1612 : dec mL_law 1612 = .ok (.iadd, 1) := by decide +kernel
theorem dL_law_1613 : dec mL_law 1613 = .ok (.iaload, 1) := by decide +kernel
theorem dL_law_1614 : dec mL_law 1614 = .ok (.i2l, 1) := by decide +kernel
theorem dL_law_1615 : dec mL_law 1615 = .ok (.bipush 32, 2) := by decide +kernel
theorem dL_law_1617 : dec mL_law 1617 = .ok (.lshl, 1) := by decide +kernel
theorem dL_law_1618 : dec mL_law 1618 = .ok (.aload_n 0, 1) := by decide +kernel
theorem dL_law_1619 : dec mL_law 1619 = .ok (.iload 4, 2) := by decide +kernel
theorem dL_law_1621 : dec mL_law 1621 = .ok (.iconst 2, 1) := by decide +kernel
theorem dL_law_1622 : dec mL_law 1622 = .ok (.iadd, 1) := by decide +kernel
theorem dL_law_1623 : dec mL_law 1623 = .ok (.iaload, 1) := by decide +kernel
theorem dL_law_1624 : dec mL_law 1624 = .ok (.i2l, 1) := by decide +kernel
theorem dL_law_1625 : dec mL_law 1625 = .ok (.ldc2_w 184, 3) := by decide +kernel
theorem dL_law_1628 : dec mL_law 1628 = .ok (.land, 1) := by decide +kernel
theorem dL_law_1629 : dec mL_law 1629 = .ok (.lor, 1) := by decide +kernel
theorem dL_law_1630 : dec mL_law 1630 = .ok (.aload_n 0, 1) := by decide +kernel
theorem dL_law_1631 : dec mL_law 1631 = .ok (.iload 4, 2) := by decide +kernel
theorem dL_law_1633 : dec mL_law 1633 = .ok (.iconst 3, 1) := by decide +kernel
theorem dL_law_1634 : dec mL_law 1634 = .ok (.iadd, 1) := by decide +kernel
theorem dL_law_1635 : dec mL_law 1635 = .ok (.iaload, 1) := by decide +kernel
theorem dL_law_1636 : dec mL_law 1636 = .ok (.invokevirtual 193, 3) := by decide +kernel
theorem dL_law_1639 : dec mL_law 1639 = .ok (.istore 6, 2) := by decide +kernel
theorem dL_law_1641 : dec mL_law 1641 = .ok (.aload_n 2, 1) := by decide +kernel
theorem dL_law_1642 : dec mL_law 1642 = .ok (.invokevirtual 104, 3) := by decide +kernel
theorem dL_law_1645 : dec mL_law 1645 = .ok (.iload 5, 2) := by decide +kernel
theorem dL_law_1647 : dec mL_law 1647 = .ok (.if_icmp .eq 5, 3) := by decide +kernel
theorem dL_law_1650 : dec mL_law 1650 = .ok (.iconst 0, 1) := by decide +kernel
theorem dL_law_1651 : dec mL_law 1651 = .ok (.ireturn, 1) := by decide +kernel
theorem dL_law_1652 : dec mL_law 1652 = .ok (.iload 5, 2) := by decide +kernel
theorem dL_law_1654 : dec mL_law 1654 = .ok (.ifCond .ne 15, 3) := by decide +kernel
theorem dL_law_1657 : dec mL_law 1657 = .ok (.aload_n 3, 1) := by decide +kernel
theorem dL_law_1658 : dec mL_law 1658 = .ok (.iconst 0, 1) := by decide +kernel
theorem dL_law_1659 : dec mL_law 1659 = .ok (.laload, 1) := by decide +kernel
theorem dL_law_1660 : dec mL_law 1660 = .ok (.iload 6, 2) := by decide +kernel
theorem dL_law_1662 : dec mL_law 1662 = .ok (.i2l, 1) := by decide +kernel
theorem dL_law_1663 : dec mL_law 1663 = .ok (.lcmp, 1) := by decide +kernel
theorem dL_law_1664 : dec mL_law 1664 = .ok (.ifCond .eq 5, 3) := by decide +kernel
theorem dL_law_1667 : dec mL_law 1667 = .ok (.iconst 0, 1) := by decide +kernel
theorem dL_law_1668 : dec mL_law 1668 = .ok (.ireturn, 1) := by decide +kernel
theorem dL_law_1669 : dec mL_law 1669 = .ok (.goto 115, 3) := by decide +kernel
theorem dL_law_1672 : dec mL_law 1672 = .ok (.aload_n 1, 1) := by decide +kernel
theorem dL_law_1673 : dec mL_law 1673 = .ok (.aload_n 0, 1) := by decide +kernel
theorem dL_law_1674 : dec mL_law 1674 = .ok (.iload 4, 2) := by decide +kernel
theorem dL_law_1676 : dec mL_law 1676 = .ok (.iconst 1, 1) := by decide +kernel
theorem dL_law_1677 : dec mL_law 1677 = .ok (.iadd, 1) := by decide +kernel
theorem dL_law_1678 : dec mL_law 1678 = .ok (.iaload, 1) := by decide +kernel
theorem dL_law_1679 : dec mL_law 1679 = .ok (.aload_n 3, 1) := by decide +kernel
theorem dL_law_1680 : dec mL_law 1680 = .ok (.invokestatic 194, 3) := by decide +kernel
theorem dL_law_1683 : dec mL_law 1683 = .ok (.istore 5, 2) := by decide +kernel
theorem dL_law_1685 : dec mL_law 1685 = .ok (.aload_n 2, 1) := by decide +kernel
theorem dL_law_1686 : dec mL_law 1686 = .ok (.aload_n 0, 1) := by decide +kernel
theorem dL_law_1687 : dec mL_law 1687 = .ok (.iload 4, 2) := by decide +kernel
theorem dL_law_1689 : dec mL_law 1689 = .ok (.iconst 1, 1) := by decide +kernel
theorem dL_law_1690 : dec mL_law 1690 = .ok (.iadd, 1) := by decide +kernel
theorem dL_law_1691 : dec mL_law 1691 = .ok (.iaload, 1) := by decide +kernel
theorem dL_law_1692 : dec mL_law 1692 = .ok (.invokevirtual 196, 3) := by decide +kernel
theorem dL_law_1695 : dec mL_law 1695 = .ok (.istore 6, 2) := by decide +kernel
theorem dL_law_1697 : dec mL_law 1697 = .ok (.aload_n 2, 1) := by decide +kernel
theorem dL_law_1698 : dec mL_law 1698 = .ok (.invokevirtual 104, 3) := by decide +kernel
theorem dL_law_1701 : dec mL_law 1701 = .ok (.iload 5, 2) := by decide +kernel
theorem dL_law_1703 : dec mL_law 1703 = .ok (.if_icmp .eq 5, 3) := by decide +kernel
theorem dL_law_1706 : dec mL_law 1706 = .ok (.iconst 0, 1) := by decide +kernel
theorem dL_law_1707 : dec mL_law 1707 = .ok (.ireturn, 1) := by decide +kernel
theorem dL_law_1708 : dec mL_law 1708 = .ok (.iload 5, 2) := by decide +kernel
theorem dL_law_1710 : dec mL_law 1710 = .ok (.ifCond .ne 15, 3) := by decide +kernel
theorem dL_law_1713 : dec mL_law 1713 = .ok (.aload_n 3, 1) := by decide +kernel
theorem dL_law_1714 : dec mL_law 1714 = .ok (.iconst 0, 1) := by decide +kernel
theorem dL_law_1715 : dec mL_law 1715 = .ok (.laload, 1) := by decide +kernel
theorem dL_law_1716 : dec mL_law 1716 = .ok (.iload 6, 2) := by decide +kernel
theorem dL_law_1718 : dec mL_law 1718 = .ok (.i2l, 1) := by decide +kernel
theorem dL_law_1719 : dec mL_law 1719 = .ok (.lcmp, 1) := by decide +kernel
theorem dL_law_1720 : dec mL_law 1720 = .ok (.ifCond .eq 5, 3) := by decide +kernel
theorem dL_law_1723 : dec mL_law 1723 = .ok (.iconst 0, 1) := by decide +kernel
theorem dL_law_1724 : dec mL_law 1724 = .ok (.ireturn, 1) := by decide +kernel
theorem dL_law_1725 : dec mL_law 1725 = .ok (.goto 59, 3) := by decide +kernel
theorem dL_law_1728 : dec mL_law 1728 = .ok (.aload_n 1, 1) := by decide +kernel
theorem dL_law_1729 : dec mL_law 1729 = .ok (.aload_n 0, 1) := by decide +kernel
theorem dL_law_1730 : dec mL_law 1730 = .ok (.iload 4, 2) := by decide +kernel
theorem dL_law_1732 : dec mL_law 1732 = .ok (.iconst 1, 1) := by decide +kernel
theorem dL_law_1733 : dec mL_law 1733 = .ok (.iadd, 1) := by decide +kernel
theorem dL_law_1734 : dec mL_law 1734 = .ok (.iaload, 1) := by decide +kernel
theorem dL_law_1735 : dec mL_law 1735 = .ok (.aload_n 3, 1) := by decide +kernel
theorem dL_law_1736 : dec mL_law 1736 = .ok (.invokestatic 197, 3) := by decide +kernel
theorem dL_law_1739 : dec mL_law 1739 = .ok (.istore 5, 2) := by decide +kernel
theorem dL_law_1741 : dec mL_law 1741 = .ok (.aload_n 2, 1) := by decide +kernel
theorem dL_law_1742 : dec mL_law 1742 = .ok (.aload_n 0, 1) := by decide +kernel
theorem dL_law_1743 : dec mL_law 1743 = .ok (.iload 4, 2) := by decide +kernel
theorem dL_law_1745 : dec mL_law 1745 = .ok (.iconst 1, 1) := by decide +kernel
theorem dL_law_1746 : dec mL_law 1746 = .ok (.iadd, 1) := by decide +kernel
theorem dL_law_1747 : dec mL_law 1747 = .ok (.iaload, 1) := by decide +kernel
theorem dL_law_1748 : dec mL_law 1748 = .ok (.invokevirtual 199, 3) := by decide +kernel
theorem dL_law_1751 : dec mL_law 1751 = .ok (.istore 6, 2) := by decide +kernel
theorem dL_law_1753 : dec mL_law 1753 = .ok (.aload_n 2, 1) := by decide +kernel
theorem dL_law_1754 : dec mL_law 1754 = .ok (.invokevirtual 104, 3) := by decide +kernel
theorem dL_law_1757 : dec mL_law 1757 = .ok (.iload 5, 2) := by decide +kernel
theorem dL_law_1759 : dec mL_law 1759 = .ok (.if_icmp .eq 5, 3) := by decide +kernel
theorem dL_law_1762 : dec mL_law 1762 = .ok (.iconst 0, 1) := by decide +kernel
theorem dL_law_1763 : dec mL_law 1763 = .ok (.ireturn, 1) := by decide +kernel
theorem dL_law_1764 : dec mL_law 1764 = .ok (.iload 5, 2) := by decide +kernel
theorem dL_law_1766 : dec mL_law 1766 = .ok (.ifCond .ne 15, 3) := by decide +kernel
theorem dL_law_1769 : dec mL_law 1769 = .ok (.aload_n 3, 1) := by decide +kernel
theorem dL_law_1770 : dec mL_law 1770 = .ok (.iconst 0, 1) := by decide +kernel
theorem dL_law_1771 : dec mL_law 1771 = .ok (.laload, 1) := by decide +kernel
theorem dL_law_1772 : dec mL_law 1772 = .ok (.iload 6, 2) := by decide +kernel
theorem dL_law_1774 : dec mL_law 1774 = .ok (.i2l, 1) := by decide +kernel
theorem dL_law_1775 : dec mL_law 1775 = .ok (.lcmp, 1) := by decide +kernel
theorem dL_law_1776 : dec mL_law 1776 = .ok (.ifCond .eq 5, 3) := by decide +kernel
theorem dL_law_1779 : dec mL_law 1779 = .ok (.iconst 0, 1) := by decide +kernel
theorem dL_law_1780 : dec mL_law 1780 = .ok (.ireturn, 1) := by decide +kernel
theorem dL_law_1781 : dec mL_law 1781 = .ok (.goto 3, 3) := by decide +kernel
theorem dL_law_1784 : dec mL_law 1784 = .ok (.iinc 4 4, 3) := by decide +kernel
theorem dL_law_1787 : dec mL_law 1787 = .ok (.goto (-1764), 3) := by decide +kernel
theorem dL_law_1790 : dec mL_law 1790 = .ok (.iconst 1, 1) := by decide +kernel
theorem dL_law_1791 : dec mL_law 1791 = .ok (.ireturn, 1) := by decide +kernel
