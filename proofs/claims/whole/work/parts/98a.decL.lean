/-! decode rows of the law's wrappers -/
theorem dL_reset_0 : decode cL_reset 0 = .ok (.aload_n 3, 1) := by decide +kernel
theorem dL_reset_1 : decode cL_reset 1 = .ok (.iconst 0, 1) := by decide +kernel
theorem dL_reset_2 : decode cL_reset 2 = .ok (.aload_n 0, 1) := by decide +kernel
theorem dL_reset_3 : decode cL_reset 3 = .ok (.iload_n 1, 1) := by decide +kernel
theorem dL_reset_4 : decode cL_reset 4 = .ok (.iload_n 2, 1) := by decide +kernel
theorem dL_reset_5 : decode cL_reset 5 = .ok (.invokevirtual 7, 3) := by decide +kernel
theorem dL_reset_8 : decode cL_reset 8 = .ok (.i2l, 1) := by decide +kernel
theorem dL_reset_9 : decode cL_reset 9 = .ok (.lastore, 1) := by decide +kernel
theorem dL_reset_10 : decode cL_reset 10 = .ok (.goto 7, 3) := by decide +kernel
theorem dL_reset_13 : decode cL_reset 13 = .ok (.astore 4, 2) := by decide +kernel
theorem dL_reset_15 : decode cL_reset 15 = .ok (.iconst 1, 1) := by decide +kernel
theorem dL_reset_16 : decode cL_reset 16 = .ok (.ireturn, 1) := by decide +kernel
theorem dL_reset_17 : decode cL_reset 17 = .ok (.iconst 0, 1) := by decide +kernel
theorem dL_reset_18 : decode cL_reset 18 = .ok (.ireturn, 1) := by decide +kernel
theorem dL_wall_0 : decode cL_wall 0 = .ok (.aload 6, 2) := by decide +kernel
theorem dL_wall_2 : decode cL_wall 2 = .ok (.iconst 0, 1) := by decide +kernel
theorem dL_wall_3 : decode cL_wall 3 = .ok (.aload_n 0, 1) := by decide +kernel
theorem dL_wall_4 : decode cL_wall 4 = .ok (.iload_n 1, 1) := by decide +kernel
theorem dL_wall_5 : decode cL_wall 5 = .ok (.iload_n 2, 1) := by decide +kernel
theorem dL_wall_6 : decode cL_wall 6 = .ok (.iload_n 3, 1) := by decide +kernel
theorem dL_wall_7 : decode cL_wall 7 = .ok (.iload 4, 2) := by decide +kernel
theorem dL_wall_9 : decode cL_wall 9 = .ok (.iload 5, 2) := by decide +kernel
theorem dL_wall_11 : decode cL_wall 11 = .ok (.invokevirtual 15, 3) := by decide +kernel
theorem dL_wall_14 : decode cL_wall 14 = .ok (.i2l, 1) := by decide +kernel
theorem dL_wall_15 : decode cL_wall 15 = .ok (.lastore, 1) := by decide +kernel
theorem dL_wall_16 : decode cL_wall 16 = .ok (.goto 11, 3) := by decide +kernel
theorem dL_wall_19 : decode cL_wall 19 = .ok (.astore 7, 2) := by decide +kernel
theorem dL_wall_21 : decode cL_wall 21 = .ok (.iconst 1, 1) := by decide +kernel
theorem dL_wall_22 : decode cL_wall 22 = .ok (.ireturn, 1) := by decide +kernel
theorem dL_wall_23 : decode cL_wall 23 = .ok (.astore 7, 2) := by decide +kernel
theorem dL_wall_25 : decode cL_wall 25 = .ok (.iconst 2, 1) := by decide +kernel
theorem dL_wall_26 : decode cL_wall 26 = .ok (.ireturn, 1) := by decide +kernel
theorem dL_wall_27 : decode cL_wall 27 = .ok (.iconst 0, 1) := by decide +kernel
theorem dL_wall_28 : decode cL_wall 28 = .ok (.ireturn, 1) := by decide +kernel
theorem dL_mark_0 : decode cL_mark 0 = .ok (.aload 4, 2) := by decide +kernel
theorem dL_mark_2 : decode cL_mark 2 = .ok (.iconst 0, 1) := by decide +kernel
theorem dL_mark_3 : decode cL_mark 3 = .ok (.aload_n 0, 1) := by decide +kernel
theorem dL_mark_4 : decode cL_mark 4 = .ok (.iload_n 1, 1) := by decide +kernel
theorem dL_mark_5 : decode cL_mark 5 = .ok (.iload_n 2, 1) := by decide +kernel
theorem dL_mark_6 : decode cL_mark 6 = .ok (.iload_n 3, 1) := by decide +kernel
theorem dL_mark_7 : decode cL_mark 7 = .ok (.invokevirtual 23, 3) := by decide +kernel
theorem dL_mark_10 : decode cL_mark 10 = .ok (.i2l, 1) := by decide +kernel
theorem dL_mark_11 : decode cL_mark 11 = .ok (.lastore, 1) := by decide +kernel
theorem dL_mark_12 : decode cL_mark 12 = .ok (.goto 11, 3) := by decide +kernel
theorem dL_mark_15 : decode cL_mark 15 = .ok (.astore 5, 2) := by decide +kernel
theorem dL_mark_17 : decode cL_mark 17 = .ok (.iconst 1, 1) := by decide +kernel
theorem dL_mark_18 : decode cL_mark 18 = .ok (.ireturn, 1) := by decide +kernel
theorem dL_mark_19 : decode cL_mark 19 = .ok (.astore 5, 2) := by decide +kernel
theorem dL_mark_21 : decode cL_mark 21 = .ok (.iconst 2, 1) := by decide +kernel
theorem dL_mark_22 : decode cL_mark 22 = .ok (.ireturn, 1) := by decide +kernel
theorem dL_mark_23 : decode cL_mark 23 = .ok (.iconst 0, 1) := by decide +kernel
theorem dL_mark_24 : decode cL_mark 24 = .ok (.ireturn, 1) := by decide +kernel
theorem dL_set_0 : decode cL_set 0 = .ok (.aload_n 3, 1) := by decide +kernel
theorem dL_set_1 : decode cL_set 1 = .ok (.iconst 0, 1) := by decide +kernel
theorem dL_set_2 : decode cL_set 2 = .ok (.aload_n 0, 1) := by decide +kernel
theorem dL_set_3 : decode cL_set 3 = .ok (.iload_n 1, 1) := by decide +kernel
theorem dL_set_4 : decode cL_set 4 = .ok (.iload_n 2, 1) := by decide +kernel
theorem dL_set_5 : decode cL_set 5 = .ok (.invokevirtual 27, 3) := by decide +kernel
theorem dL_set_8 : decode cL_set 8 = .ok (.i2l, 1) := by decide +kernel
theorem dL_set_9 : decode cL_set 9 = .ok (.lastore, 1) := by decide +kernel
theorem dL_set_10 : decode cL_set 10 = .ok (.goto 7, 3) := by decide +kernel
theorem dL_set_13 : decode cL_set 13 = .ok (.astore 4, 2) := by decide +kernel
theorem dL_set_15 : decode cL_set 15 = .ok (.iconst 1, 1) := by decide +kernel
theorem dL_set_16 : decode cL_set 16 = .ok (.ireturn, 1) := by decide +kernel
theorem dL_set_17 : decode cL_set 17 = .ok (.iconst 0, 1) := by decide +kernel
theorem dL_set_18 : decode cL_set 18 = .ok (.ireturn, 1) := by decide +kernel
theorem dL_field_0 : decode cL_field 0 = .ok (.aload 4, 2) := by decide +kernel
theorem dL_field_2 : decode cL_field 2 = .ok (.iconst 0, 1) := by decide +kernel
theorem dL_field_3 : decode cL_field 3 = .ok (.aload_n 0, 1) := by decide +kernel
theorem dL_field_4 : decode cL_field 4 = .ok (.iload_n 1, 1) := by decide +kernel
theorem dL_field_5 : decode cL_field 5 = .ok (.iload_n 2, 1) := by decide +kernel
theorem dL_field_6 : decode cL_field 6 = .ok (.iload_n 3, 1) := by decide +kernel
theorem dL_field_7 : decode cL_field 7 = .ok (.invokevirtual 30, 3) := by decide +kernel
theorem dL_field_10 : decode cL_field 10 = .ok (.i2l, 1) := by decide +kernel
theorem dL_field_11 : decode cL_field 11 = .ok (.lastore, 1) := by decide +kernel
theorem dL_field_12 : decode cL_field 12 = .ok (.goto 11, 3) := by decide +kernel
theorem dL_field_15 : decode cL_field 15 = .ok (.astore 5, 2) := by decide +kernel
theorem dL_field_17 : decode cL_field 17 = .ok (.iconst 1, 1) := by decide +kernel
theorem dL_field_18 : decode cL_field 18 = .ok (.ireturn, 1) := by decide +kernel
theorem dL_field_19 : decode cL_field 19 = .ok (.astore 5, 2) := by decide +kernel
theorem dL_field_21 : decode cL_field 21 = .ok (.iconst 2, 1) := by decide +kernel
theorem dL_field_22 : decode cL_field 22 = .ok (.ireturn, 1) := by decide +kernel
theorem dL_field_23 : decode cL_field 23 = .ok (.iconst 0, 1) := by decide +kernel
theorem dL_field_24 : decode cL_field 24 = .ok (.ireturn, 1) := by decide +kernel
theorem dL_far_0 : decode cL_far 0 = .ok (.aload 4, 2) := by decide +kernel
theorem dL_far_2 : decode cL_far 2 = .ok (.iconst 0, 1) := by decide +kernel
theorem dL_far_3 : decode cL_far 3 = .ok (.aload_n 0, 1) := by decide +kernel
theorem dL_far_4 : decode cL_far 4 = .ok (.iload_n 1, 1) := by decide +kernel
theorem dL_far_5 : decode cL_far 5 = .ok (.iload_n 2, 1) := by decide +kernel
theorem dL_far_6 : decode cL_far 6 = .ok (.iload_n 3, 1) := by decide +kernel
theorem dL_far_7 : decode cL_far 7 = .ok (.invokevirtual 33, 3) := by decide +kernel
theorem dL_far_10 : decode cL_far 10 = .ok (.i2l, 1) := by decide +kernel
theorem dL_far_11 : decode cL_far 11 = .ok (.lastore, 1) := by decide +kernel
theorem dL_far_12 : decode cL_far 12 = .ok (.goto 7, 3) := by decide +kernel
theorem dL_far_15 : decode cL_far 15 = .ok (.astore 5, 2) := by decide +kernel
theorem dL_far_17 : decode cL_far 17 = .ok (.iconst 1, 1) := by decide +kernel
theorem dL_far_18 : decode cL_far 18 = .ok (.ireturn, 1) := by decide +kernel
theorem dL_far_19 : decode cL_far 19 = .ok (.iconst 0, 1) := by decide +kernel
theorem dL_far_20 : decode cL_far 20 = .ok (.ireturn, 1) := by decide +kernel
theorem dL_farthest_0 : decode cL_farthest 0 = .ok (.aload_n 2, 1) := by decide +kernel
theorem dL_farthest_1 : decode cL_farthest 1 = .ok (.iconst 0, 1) := by decide +kernel
theorem dL_farthest_2 : decode cL_farthest 2 = .ok (.aload_n 0, 1) := by decide +kernel
theorem dL_farthest_3 : decode cL_farthest 3 = .ok (.iload_n 1, 1) := by decide +kernel
theorem dL_farthest_4 : decode cL_farthest 4 = .ok (.invokevirtual 36, 3) := by decide +kernel
theorem dL_farthest_7 : decode cL_farthest 7 = .ok (.i2l, 1) := by decide +kernel
theorem dL_farthest_8 : decode cL_farthest 8 = .ok (.lastore, 1) := by decide +kernel
theorem dL_farthest_9 : decode cL_farthest 9 = .ok (.goto 6, 3) := by decide +kernel
theorem dL_farthest_12 : decode cL_farthest 12 = .ok (.astore_n 3, 1) := by decide +kernel
theorem dL_farthest_13 : decode cL_farthest 13 = .ok (.iconst 1, 1) := by decide +kernel
theorem dL_farthest_14 : decode cL_farthest 14 = .ok (.ireturn, 1) := by decide +kernel
theorem dL_farthest_15 : decode cL_farthest 15 = .ok (.iconst 0, 1) := by decide +kernel
theorem dL_farthest_16 : decode cL_farthest 16 = .ok (.ireturn, 1) := by decide +kernel
theorem dL_walker_0 : decode cL_walker 0 = .ok (.aload 6, 2) := by decide +kernel
theorem dL_walker_2 : decode cL_walker 2 = .ok (.iconst 0, 1) := by decide +kernel
theorem dL_walker_3 : decode cL_walker 3 = .ok (.aload_n 0, 1) := by decide +kernel
theorem dL_walker_4 : decode cL_walker 4 = .ok (.iload_n 1, 1) := by decide +kernel
theorem dL_walker_5 : decode cL_walker 5 = .ok (.iload_n 2, 1) := by decide +kernel
theorem dL_walker_6 : decode cL_walker 6 = .ok (.iload_n 3, 1) := by decide +kernel
theorem dL_walker_7 : decode cL_walker 7 = .ok (.iload 4, 2) := by decide +kernel
theorem dL_walker_9 : decode cL_walker 9 = .ok (.iload 5, 2) := by decide +kernel
theorem dL_walker_11 : decode cL_walker 11 = .ok (.invokevirtual 40, 3) := by decide +kernel
theorem dL_walker_14 : decode cL_walker 14 = .ok (.i2l, 1) := by decide +kernel
theorem dL_walker_15 : decode cL_walker 15 = .ok (.lastore, 1) := by decide +kernel
theorem dL_walker_16 : decode cL_walker 16 = .ok (.goto 15, 3) := by decide +kernel
theorem dL_walker_19 : decode cL_walker 19 = .ok (.astore 7, 2) := by decide +kernel
theorem dL_walker_21 : decode cL_walker 21 = .ok (.iconst 1, 1) := by decide +kernel
theorem dL_walker_22 : decode cL_walker 22 = .ok (.ireturn, 1) := by decide +kernel
theorem dL_walker_23 : decode cL_walker 23 = .ok (.astore 7, 2) := by decide +kernel
theorem dL_walker_25 : decode cL_walker 25 = .ok (.iconst 2, 1) := by decide +kernel
theorem dL_walker_26 : decode cL_walker 26 = .ok (.ireturn, 1) := by decide +kernel
theorem dL_walker_27 : decode cL_walker 27 = .ok (.astore 7, 2) := by decide +kernel
theorem dL_walker_29 : decode cL_walker 29 = .ok (.iconst 3, 1) := by decide +kernel
theorem dL_walker_30 : decode cL_walker 30 = .ok (.ireturn, 1) := by decide +kernel
theorem dL_walker_31 : decode cL_walker 31 = .ok (.iconst 0, 1) := by decide +kernel
theorem dL_walker_32 : decode cL_walker 32 = .ok (.ireturn, 1) := by decide +kernel
theorem dL_turnTo_0 : decode cL_turnTo 0 = .ok (.aload 4, 2) := by decide +kernel
theorem dL_turnTo_2 : decode cL_turnTo 2 = .ok (.iconst 0, 1) := by decide +kernel
theorem dL_turnTo_3 : decode cL_turnTo 3 = .ok (.aload_n 0, 1) := by decide +kernel
theorem dL_turnTo_4 : decode cL_turnTo 4 = .ok (.iload_n 1, 1) := by decide +kernel
theorem dL_turnTo_5 : decode cL_turnTo 5 = .ok (.iload_n 2, 1) := by decide +kernel
theorem dL_turnTo_6 : decode cL_turnTo 6 = .ok (.iload_n 3, 1) := by decide +kernel
theorem dL_turnTo_7 : decode cL_turnTo 7 = .ok (.invokevirtual 44, 3) := by decide +kernel
theorem dL_turnTo_10 : decode cL_turnTo 10 = .ok (.i2l, 1) := by decide +kernel
theorem dL_turnTo_11 : decode cL_turnTo 11 = .ok (.lastore, 1) := by decide +kernel
theorem dL_turnTo_12 : decode cL_turnTo 12 = .ok (.goto 15, 3) := by decide +kernel
theorem dL_turnTo_15 : decode cL_turnTo 15 = .ok (.astore 5, 2) := by decide +kernel
theorem dL_turnTo_17 : decode cL_turnTo 17 = .ok (.iconst 1, 1) := by decide +kernel
theorem dL_turnTo_18 : decode cL_turnTo 18 = .ok (.ireturn, 1) := by decide +kernel
theorem dL_turnTo_19 : decode cL_turnTo 19 = .ok (.astore 5, 2) := by decide +kernel
theorem dL_turnTo_21 : decode cL_turnTo 21 = .ok (.iconst 2, 1) := by decide +kernel
theorem dL_turnTo_22 : decode cL_turnTo 22 = .ok (.ireturn, 1) := by decide +kernel
theorem dL_turnTo_23 : decode cL_turnTo 23 = .ok (.astore 5, 2) := by decide +kernel
theorem dL_turnTo_25 : decode cL_turnTo 25 = .ok (.iconst 3, 1) := by decide +kernel
theorem dL_turnTo_26 : decode cL_turnTo 26 = .ok (.ireturn, 1) := by decide +kernel
theorem dL_turnTo_27 : decode cL_turnTo 27 = .ok (.iconst 0, 1) := by decide +kernel
theorem dL_turnTo_28 : decode cL_turnTo 28 = .ok (.ireturn, 1) := by decide +kernel
theorem dL_tick_0 : decode cL_tick 0 = .ok (.aload_n 2, 1) := by decide +kernel
theorem dL_tick_1 : decode cL_tick 1 = .ok (.iconst 0, 1) := by decide +kernel
theorem dL_tick_2 : decode cL_tick 2 = .ok (.aload_n 0, 1) := by decide +kernel
theorem dL_tick_3 : decode cL_tick 3 = .ok (.iload_n 1, 1) := by decide +kernel
theorem dL_tick_4 : decode cL_tick 4 = .ok (.invokevirtual 47, 3) := by decide +kernel
theorem dL_tick_7 : decode cL_tick 7 = .ok (.i2l, 1) := by decide +kernel
theorem dL_tick_8 : decode cL_tick 8 = .ok (.lastore, 1) := by decide +kernel
theorem dL_tick_9 : decode cL_tick 9 = .ok (.goto 6, 3) := by decide +kernel
theorem dL_tick_12 : decode cL_tick 12 = .ok (.astore_n 3, 1) := by decide +kernel
theorem dL_tick_13 : decode cL_tick 13 = .ok (.iconst 1, 1) := by decide +kernel
theorem dL_tick_14 : decode cL_tick 14 = .ok (.ireturn, 1) := by decide +kernel
theorem dL_tick_15 : decode cL_tick 15 = .ok (.iconst 0, 1) := by decide +kernel
theorem dL_tick_16 : decode cL_tick 16 = .ok (.ireturn, 1) := by decide +kernel
theorem dL_many_0 : decode cL_many 0 = .ok (.aload_n 2, 1) := by decide +kernel
theorem dL_many_1 : decode cL_many 1 = .ok (.iconst 0, 1) := by decide +kernel
theorem dL_many_2 : decode cL_many 2 = .ok (.aload_n 0, 1) := by decide +kernel
theorem dL_many_3 : decode cL_many 3 = .ok (.iload_n 1, 1) := by decide +kernel
theorem dL_many_4 : decode cL_many 4 = .ok (.invokevirtual 50, 3) := by decide +kernel
theorem dL_many_7 : decode cL_many 7 = .ok (.i2l, 1) := by decide +kernel
theorem dL_many_8 : decode cL_many 8 = .ok (.lastore, 1) := by decide +kernel
theorem dL_many_9 : decode cL_many 9 = .ok (.goto 6, 3) := by decide +kernel
theorem dL_many_12 : decode cL_many 12 = .ok (.astore_n 3, 1) := by decide +kernel
theorem dL_many_13 : decode cL_many 13 = .ok (.iconst 1, 1) := by decide +kernel
theorem dL_many_14 : decode cL_many 14 = .ok (.ireturn, 1) := by decide +kernel
theorem dL_many_15 : decode cL_many 15 = .ok (.iconst 0, 1) := by decide +kernel
theorem dL_many_16 : decode cL_many 16 = .ok (.ireturn, 1) := by decide +kernel
theorem dL_ofWalker_0 : decode cL_ofWalker 0 = .ok (.aload_n 3, 1) := by decide +kernel
theorem dL_ofWalker_1 : decode cL_ofWalker 1 = .ok (.iconst 0, 1) := by decide +kernel
theorem dL_ofWalker_2 : decode cL_ofWalker 2 = .ok (.aload_n 0, 1) := by decide +kernel
theorem dL_ofWalker_3 : decode cL_ofWalker 3 = .ok (.iload_n 1, 1) := by decide +kernel
theorem dL_ofWalker_4 : decode cL_ofWalker 4 = .ok (.iload_n 2, 1) := by decide +kernel
theorem dL_ofWalker_5 : decode cL_ofWalker 5 = .ok (.invokevirtual 53, 3) := by decide +kernel
theorem dL_ofWalker_8 : decode cL_ofWalker 8 = .ok (.i2l, 1) := by decide +kernel
theorem dL_ofWalker_9 : decode cL_ofWalker 9 = .ok (.lastore, 1) := by decide +kernel
theorem dL_ofWalker_10 : decode cL_ofWalker 10 = .ok (.goto 11, 3) := by decide +kernel
theorem dL_ofWalker_13 : decode cL_ofWalker 13 = .ok (.astore 4, 2) := by decide +kernel
theorem dL_ofWalker_15 : decode cL_ofWalker 15 = .ok (.iconst 1, 1) := by decide +kernel
theorem dL_ofWalker_16 : decode cL_ofWalker 16 = .ok (.ireturn, 1) := by decide +kernel
theorem dL_ofWalker_17 : decode cL_ofWalker 17 = .ok (.astore 4, 2) := by decide +kernel
theorem dL_ofWalker_19 : decode cL_ofWalker 19 = .ok (.iconst 2, 1) := by decide +kernel
theorem dL_ofWalker_20 : decode cL_ofWalker 20 = .ok (.ireturn, 1) := by decide +kernel
theorem dL_ofWalker_21 : decode cL_ofWalker 21 = .ok (.iconst 0, 1) := by decide +kernel
theorem dL_ofWalker_22 : decode cL_ofWalker 22 = .ok (.ireturn, 1) := by decide +kernel
theorem dL_cost_0 : decode cL_cost 0 = .ok (.aload_n 3, 1) := by decide +kernel
theorem dL_cost_1 : decode cL_cost 1 = .ok (.iconst 0, 1) := by decide +kernel
theorem dL_cost_2 : decode cL_cost 2 = .ok (.aload_n 0, 1) := by decide +kernel
theorem dL_cost_3 : decode cL_cost 3 = .ok (.iload_n 1, 1) := by decide +kernel
theorem dL_cost_4 : decode cL_cost 4 = .ok (.iload_n 2, 1) := by decide +kernel
theorem dL_cost_5 : decode cL_cost 5 = .ok (.invokevirtual 56, 3) := by decide +kernel
theorem dL_cost_8 : decode cL_cost 8 = .ok (.i2l, 1) := by decide +kernel
theorem dL_cost_9 : decode cL_cost 9 = .ok (.lastore, 1) := by decide +kernel
theorem dL_cost_10 : decode cL_cost 10 = .ok (.goto 11, 3) := by decide +kernel
theorem dL_cost_13 : decode cL_cost 13 = .ok (.astore 4, 2) := by decide +kernel
theorem dL_cost_15 : decode cL_cost 15 = .ok (.iconst 1, 1) := by decide +kernel
theorem dL_cost_16 : decode cL_cost 16 = .ok (.ireturn, 1) := by decide +kernel
theorem dL_cost_17 : decode cL_cost 17 = .ok (.astore 4, 2) := by decide +kernel
theorem dL_cost_19 : decode cL_cost 19 = .ok (.iconst 2, 1) := by decide +kernel
theorem dL_cost_20 : decode cL_cost 20 = .ok (.ireturn, 1) := by decide +kernel
theorem dL_cost_21 : decode cL_cost 21 = .ok (.iconst 0, 1) := by decide +kernel
theorem dL_cost_22 : decode cL_cost 22 = .ok (.ireturn, 1) := by decide +kernel
theorem dL_wants_0 : decode cL_wants 0 = .ok (.aload_n 2, 1) := by decide +kernel
theorem dL_wants_1 : decode cL_wants 1 = .ok (.iconst 0, 1) := by decide +kernel
theorem dL_wants_2 : decode cL_wants 2 = .ok (.aload_n 0, 1) := by decide +kernel
theorem dL_wants_3 : decode cL_wants 3 = .ok (.iload_n 1, 1) := by decide +kernel
theorem dL_wants_4 : decode cL_wants 4 = .ok (.invokevirtual 59, 3) := by decide +kernel
theorem dL_wants_7 : decode cL_wants 7 = .ok (.i2l, 1) := by decide +kernel
theorem dL_wants_8 : decode cL_wants 8 = .ok (.lastore, 1) := by decide +kernel
theorem dL_wants_9 : decode cL_wants 9 = .ok (.goto 6, 3) := by decide +kernel
theorem dL_wants_12 : decode cL_wants 12 = .ok (.astore_n 3, 1) := by decide +kernel
theorem dL_wants_13 : decode cL_wants 13 = .ok (.iconst 1, 1) := by decide +kernel
theorem dL_wants_14 : decode cL_wants 14 = .ok (.ireturn, 1) := by decide +kernel
theorem dL_wants_15 : decode cL_wants 15 = .ok (.iconst 0, 1) := by decide +kernel
theorem dL_wants_16 : decode cL_wants 16 = .ok (.ireturn, 1) := by decide +kernel
theorem dL_way_0 : decode cL_way 0 = .ok (.aload_n 3, 1) := by decide +kernel
theorem dL_way_1 : decode cL_way 1 = .ok (.iconst 0, 1) := by decide +kernel
theorem dL_way_2 : decode cL_way 2 = .ok (.aload_n 0, 1) := by decide +kernel
theorem dL_way_3 : decode cL_way 3 = .ok (.iload_n 1, 1) := by decide +kernel
theorem dL_way_4 : decode cL_way 4 = .ok (.iload_n 2, 1) := by decide +kernel
theorem dL_way_5 : decode cL_way 5 = .ok (.invokevirtual 62, 3) := by decide +kernel
theorem dL_way_8 : decode cL_way 8 = .ok (.i2l, 1) := by decide +kernel
theorem dL_way_9 : decode cL_way 9 = .ok (.lastore, 1) := by decide +kernel
theorem dL_way_10 : decode cL_way 10 = .ok (.goto 11, 3) := by decide +kernel
theorem dL_way_13 : decode cL_way 13 = .ok (.astore 4, 2) := by decide +kernel
theorem dL_way_15 : decode cL_way 15 = .ok (.iconst 1, 1) := by decide +kernel
theorem dL_way_16 : decode cL_way 16 = .ok (.ireturn, 1) := by decide +kernel
theorem dL_way_17 : decode cL_way 17 = .ok (.astore 4, 2) := by decide +kernel
theorem dL_way_19 : decode cL_way 19 = .ok (.iconst 2, 1) := by decide +kernel
theorem dL_way_20 : decode cL_way 20 = .ok (.ireturn, 1) := by decide +kernel
theorem dL_way_21 : decode cL_way 21 = .ok (.iconst 0, 1) := by decide +kernel
theorem dL_way_22 : decode cL_way 22 = .ok (.ireturn, 1) := by decide +kernel
theorem dL_jam_0 : decode cL_jam 0 = .ok (.aload_n 2, 1) := by decide +kernel
theorem dL_jam_1 : decode cL_jam 1 = .ok (.iconst 0, 1) := by decide +kernel
theorem dL_jam_2 : decode cL_jam 2 = .ok (.aload_n 0, 1) := by decide +kernel
theorem dL_jam_3 : decode cL_jam 3 = .ok (.iload_n 1, 1) := by decide +kernel
theorem dL_jam_4 : decode cL_jam 4 = .ok (.invokevirtual 65, 3) := by decide +kernel
theorem dL_jam_7 : decode cL_jam 7 = .ok (.i2l, 1) := by decide +kernel
theorem dL_jam_8 : decode cL_jam 8 = .ok (.lastore, 1) := by decide +kernel
theorem dL_jam_9 : decode cL_jam 9 = .ok (.goto 6, 3) := by decide +kernel
theorem dL_jam_12 : decode cL_jam 12 = .ok (.astore_n 3, 1) := by decide +kernel
theorem dL_jam_13 : decode cL_jam 13 = .ok (.iconst 1, 1) := by decide +kernel
theorem dL_jam_14 : decode cL_jam 14 = .ok (.ireturn, 1) := by decide +kernel
theorem dL_jam_15 : decode cL_jam 15 = .ok (.iconst 0, 1) := by decide +kernel
theorem dL_jam_16 : decode cL_jam 16 = .ok (.ireturn, 1) := by decide +kernel
theorem dL_outIn_0 : decode cL_outIn 0 = .ok (.aload_n 3, 1) := by decide +kernel
theorem dL_outIn_1 : decode cL_outIn 1 = .ok (.iconst 0, 1) := by decide +kernel
theorem dL_outIn_2 : decode cL_outIn 2 = .ok (.aload_n 0, 1) := by decide +kernel
theorem dL_outIn_3 : decode cL_outIn 3 = .ok (.iload_n 1, 1) := by decide +kernel
theorem dL_outIn_4 : decode cL_outIn 4 = .ok (.iload_n 2, 1) := by decide +kernel
theorem dL_outIn_5 : decode cL_outIn 5 = .ok (.invokevirtual 68, 3) := by decide +kernel
theorem dL_outIn_8 : decode cL_outIn 8 = .ok (.i2l, 1) := by decide +kernel
theorem dL_outIn_9 : decode cL_outIn 9 = .ok (.lastore, 1) := by decide +kernel
theorem dL_outIn_10 : decode cL_outIn 10 = .ok (.goto 11, 3) := by decide +kernel
theorem dL_outIn_13 : decode cL_outIn 13 = .ok (.astore 4, 2) := by decide +kernel
theorem dL_outIn_15 : decode cL_outIn 15 = .ok (.iconst 1, 1) := by decide +kernel
theorem dL_outIn_16 : decode cL_outIn 16 = .ok (.ireturn, 1) := by decide +kernel
theorem dL_outIn_17 : decode cL_outIn 17 = .ok (.astore 4, 2) := by decide +kernel
theorem dL_outIn_19 : decode cL_outIn 19 = .ok (.iconst 2, 1) := by decide +kernel
theorem dL_outIn_20 : decode cL_outIn 20 = .ok (.ireturn, 1) := by decide +kernel
theorem dL_outIn_21 : decode cL_outIn 21 = .ok (.iconst 0, 1) := by decide +kernel
theorem dL_outIn_22 : decode cL_outIn 22 = .ok (.ireturn, 1) := by decide +kernel
theorem dL_outWith_0 : decode cL_outWith 0 = .ok (.aload_n 3, 1) := by decide +kernel
theorem dL_outWith_1 : decode cL_outWith 1 = .ok (.iconst 0, 1) := by decide +kernel
theorem dL_outWith_2 : decode cL_outWith 2 = .ok (.aload_n 0, 1) := by decide +kernel
theorem dL_outWith_3 : decode cL_outWith 3 = .ok (.iload_n 1, 1) := by decide +kernel
theorem dL_outWith_4 : decode cL_outWith 4 = .ok (.iload_n 2, 1) := by decide +kernel
theorem dL_outWith_5 : decode cL_outWith 5 = .ok (.invokevirtual 71, 3) := by decide +kernel
theorem dL_outWith_8 : decode cL_outWith 8 = .ok (.i2l, 1) := by decide +kernel
theorem dL_outWith_9 : decode cL_outWith 9 = .ok (.lastore, 1) := by decide +kernel
theorem dL_outWith_10 : decode cL_outWith 10 = .ok (.goto 7, 3) := by decide +kernel
theorem dL_outWith_13 : decode cL_outWith 13 = .ok (.astore 4, 2) := by decide +kernel
theorem dL_outWith_15 : decode cL_outWith 15 = .ok (.iconst 1, 1) := by decide +kernel
theorem dL_outWith_16 : decode cL_outWith 16 = .ok (.ireturn, 1) := by decide +kernel
theorem dL_outWith_17 : decode cL_outWith 17 = .ok (.iconst 0, 1) := by decide +kernel
theorem dL_outWith_18 : decode cL_outWith 18 = .ok (.ireturn, 1) := by decide +kernel
theorem dL_outBy_0 : decode cL_outBy 0 = .ok (.aload 4, 2) := by decide +kernel
theorem dL_outBy_2 : decode cL_outBy 2 = .ok (.iconst 0, 1) := by decide +kernel
theorem dL_outBy_3 : decode cL_outBy 3 = .ok (.aload_n 0, 1) := by decide +kernel
theorem dL_outBy_4 : decode cL_outBy 4 = .ok (.iload_n 1, 1) := by decide +kernel
theorem dL_outBy_5 : decode cL_outBy 5 = .ok (.iload_n 2, 1) := by decide +kernel
theorem dL_outBy_6 : decode cL_outBy 6 = .ok (.iload_n 3, 1) := by decide +kernel
theorem dL_outBy_7 : decode cL_outBy 7 = .ok (.invokevirtual 74, 3) := by decide +kernel
theorem dL_outBy_10 : decode cL_outBy 10 = .ok (.i2l, 1) := by decide +kernel
theorem dL_outBy_11 : decode cL_outBy 11 = .ok (.lastore, 1) := by decide +kernel
theorem dL_outBy_12 : decode cL_outBy 12 = .ok (.goto 15, 3) := by decide +kernel
theorem dL_outBy_15 : decode cL_outBy 15 = .ok (.astore 5, 2) := by decide +kernel
theorem dL_outBy_17 : decode cL_outBy 17 = .ok (.iconst 1, 1) := by decide +kernel
theorem dL_outBy_18 : decode cL_outBy 18 = .ok (.ireturn, 1) := by decide +kernel
theorem dL_outBy_19 : decode cL_outBy 19 = .ok (.astore 5, 2) := by decide +kernel
theorem dL_outBy_21 : decode cL_outBy 21 = .ok (.iconst 2, 1) := by decide +kernel
theorem dL_outBy_22 : decode cL_outBy 22 = .ok (.ireturn, 1) := by decide +kernel
theorem dL_outBy_23 : decode cL_outBy 23 = .ok (.astore 5, 2) := by decide +kernel
theorem dL_outBy_25 : decode cL_outBy 25 = .ok (.iconst 3, 1) := by decide +kernel
theorem dL_outBy_26 : decode cL_outBy 26 = .ok (.ireturn, 1) := by decide +kernel
theorem dL_outBy_27 : decode cL_outBy 27 = .ok (.iconst 0, 1) := by decide +kernel
theorem dL_outBy_28 : decode cL_outBy 28 = .ok (.ireturn, 1) := by decide +kernel
theorem dL_jamIn_0 : decode cL_jamIn 0 = .ok (.aload_n 2, 1) := by decide +kernel
theorem dL_jamIn_1 : decode cL_jamIn 1 = .ok (.iconst 0, 1) := by decide +kernel
theorem dL_jamIn_2 : decode cL_jamIn 2 = .ok (.aload_n 0, 1) := by decide +kernel
theorem dL_jamIn_3 : decode cL_jamIn 3 = .ok (.iload_n 1, 1) := by decide +kernel
theorem dL_jamIn_4 : decode cL_jamIn 4 = .ok (.invokevirtual 77, 3) := by decide +kernel
theorem dL_jamIn_7 : decode cL_jamIn 7 = .ok (.i2l, 1) := by decide +kernel
theorem dL_jamIn_8 : decode cL_jamIn 8 = .ok (.lastore, 1) := by decide +kernel
theorem dL_jamIn_9 : decode cL_jamIn 9 = .ok (.goto 6, 3) := by decide +kernel
theorem dL_jamIn_12 : decode cL_jamIn 12 = .ok (.astore_n 3, 1) := by decide +kernel
theorem dL_jamIn_13 : decode cL_jamIn 13 = .ok (.iconst 1, 1) := by decide +kernel
theorem dL_jamIn_14 : decode cL_jamIn 14 = .ok (.ireturn, 1) := by decide +kernel
theorem dL_jamIn_15 : decode cL_jamIn 15 = .ok (.iconst 0, 1) := by decide +kernel
theorem dL_jamIn_16 : decode cL_jamIn 16 = .ok (.ireturn, 1) := by decide +kernel
theorem dL_farWith_0 : decode cL_farWith 0 = .ok (.aload 4, 2) := by decide +kernel
theorem dL_farWith_2 : decode cL_farWith 2 = .ok (.iconst 0, 1) := by decide +kernel
theorem dL_farWith_3 : decode cL_farWith 3 = .ok (.aload_n 0, 1) := by decide +kernel
theorem dL_farWith_4 : decode cL_farWith 4 = .ok (.iload_n 1, 1) := by decide +kernel
theorem dL_farWith_5 : decode cL_farWith 5 = .ok (.iload_n 2, 1) := by decide +kernel
theorem dL_farWith_6 : decode cL_farWith 6 = .ok (.iload_n 3, 1) := by decide +kernel
theorem dL_farWith_7 : decode cL_farWith 7 = .ok (.invokevirtual 80, 3) := by decide +kernel
theorem dL_farWith_10 : decode cL_farWith 10 = .ok (.i2l, 1) := by decide +kernel
theorem dL_farWith_11 : decode cL_farWith 11 = .ok (.lastore, 1) := by decide +kernel
theorem dL_farWith_12 : decode cL_farWith 12 = .ok (.goto 7, 3) := by decide +kernel
theorem dL_farWith_15 : decode cL_farWith 15 = .ok (.astore 5, 2) := by decide +kernel
theorem dL_farWith_17 : decode cL_farWith 17 = .ok (.iconst 1, 1) := by decide +kernel
theorem dL_farWith_18 : decode cL_farWith 18 = .ok (.ireturn, 1) := by decide +kernel
theorem dL_farWith_19 : decode cL_farWith 19 = .ok (.iconst 0, 1) := by decide +kernel
theorem dL_farWith_20 : decode cL_farWith 20 = .ok (.ireturn, 1) := by decide +kernel
