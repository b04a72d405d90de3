theorem dX6_init_0 : decode cX6_init 0 = .ok (.aload_n 0, 1) := by decide +kernel
theorem dX6_init_1 : decode cX6_init 1 = .ok (.invokespecial 1, 3) := by decide +kernel
theorem dX6_init_4 : decode cX6_init 4 = .ok (.aload_n 0, 1) := by decide +kernel
theorem dX6_init_5 : decode cX6_init 5 = .ok (.new 7, 3) := by decide +kernel
theorem dX6_init_8 : decode cX6_init 8 = .ok (.dup, 1) := by decide +kernel
theorem dX6_init_9 : decode cX6_init 9 = .ok (.invokespecial 9, 3) := by decide +kernel
theorem dX6_init_12 : decode cX6_init 12 = .ok (.putfield 10, 3) := by decide +kernel
theorem dX6_init_15 : decode cX6_init 15 = .ok (.aload_n 0, 1) := by decide +kernel
theorem dX6_init_16 : decode cX6_init 16 = .ok (.bipush 10, 2) := by decide +kernel
theorem dX6_init_18 : decode cX6_init 18 = .ok (.putfield 16, 3) := by decide +kernel
theorem dX6_init_21 : decode cX6_init 21 = .ok (.aload_n 0, 1) := by decide +kernel
theorem dX6_init_22 : decode cX6_init 22 = .ok (.bipush 8, 2) := by decide +kernel
theorem dX6_init_24 : decode cX6_init 24 = .ok (.putfield 20, 3) := by decide +kernel
theorem dX6_init_27 : decode cX6_init 27 = .ok (.aload_n 0, 1) := by decide +kernel
theorem dX6_init_28 : decode cX6_init 28 = .ok (.iconst 2, 1) := by decide +kernel
theorem dX6_init_29 : decode cX6_init 29 = .ok (.putfield 23, 3) := by decide +kernel
theorem dX6_init_32 : decode cX6_init 32 = .ok (.aload_n 0, 1) := by decide +kernel
theorem dX6_init_33 : decode cX6_init 33 = .ok (.iconst 3, 1) := by decide +kernel
theorem dX6_init_34 : decode cX6_init 34 = .ok (.putfield 26, 3) := by decide +kernel
theorem dX6_init_37 : decode cX6_init 37 = .ok (.aload_n 0, 1) := by decide +kernel
theorem dX6_init_38 : decode cX6_init 38 = .ok (.bipush 10, 2) := by decide +kernel
theorem dX6_init_40 : decode cX6_init 40 = .ok (.bipush 8, 2) := by decide +kernel
theorem dX6_init_42 : decode cX6_init 42 = .ok (.bipush 6, 2) := by decide +kernel
theorem dX6_init_44 : decode cX6_init 44 = .ok (.multianewarray 29 3, 4) := by decide +kernel
theorem dX6_init_48 : decode cX6_init 48 = .ok (.putfield 31, 3) := by decide +kernel
theorem dX6_init_51 : decode cX6_init 51 = .ok (.aload_n 0, 1) := by decide +kernel
theorem dX6_init_52 : decode cX6_init 52 = .ok (.iconst 0, 1) := by decide +kernel
theorem dX6_init_53 : decode cX6_init 53 = .ok (.anewarray 34, 3) := by decide +kernel
theorem dX6_init_56 : decode cX6_init 56 = .ok (.putfield 36, 3) := by decide +kernel
theorem dX6_init_59 : decode cX6_init 59 = .ok (.aload_n 0, 1) := by decide +kernel
theorem dX6_init_60 : decode cX6_init 60 = .ok (.aload_n 1, 1) := by decide +kernel
theorem dX6_init_61 : decode cX6_init 61 = .ok (.putfield 40, 3) := by decide +kernel
theorem dX6_init_64 : decode cX6_init 64 = .ok (.aload_n 0, 1) := by decide +kernel
theorem dX6_init_65 : decode cX6_init 65 = .ok (.iload_n 2, 1) := by decide +kernel
theorem dX6_init_66 : decode cX6_init 66 = .ok (.putfield 43, 3) := by decide +kernel
theorem dX6_init_69 : decode cX6_init 69 = .ok (.return_, 1) := by decide +kernel
theorem dX6_draw_0 : decode cX6_draw 0 = .ok (.aload_n 0, 1) := by decide +kernel
theorem dX6_draw_1 : decode cX6_draw 1 = .ok (.getfield 40, 3) := by decide +kernel
theorem dX6_draw_4 : decode cX6_draw 4 = .ok (.aload_n 0, 1) := by decide +kernel
theorem dX6_draw_5 : decode cX6_draw 5 = .ok (.getfield 43, 3) := by decide +kernel
theorem dX6_draw_8 : decode cX6_draw 8 = .ok (.bipush 24, 2) := by decide +kernel
theorem dX6_draw_10 : decode cX6_draw 10 = .ok (.irem, 1) := by decide +kernel
theorem dX6_draw_11 : decode cX6_draw 11 = .ok (.invokestatic 46, 3) := by decide +kernel
theorem dX6_draw_14 : decode cX6_draw 14 = .ok (.aload_n 0, 1) := by decide +kernel
theorem dX6_draw_15 : decode cX6_draw 15 = .ok (.getfield 43, 3) := by decide +kernel
theorem dX6_draw_18 : decode cX6_draw 18 = .ok (.bipush 24, 2) := by decide +kernel
theorem dX6_draw_20 : decode cX6_draw 20 = .ok (.idiv, 1) := by decide +kernel
theorem dX6_draw_21 : decode cX6_draw 21 = .ok (.bipush 8, 2) := by decide +kernel
theorem dX6_draw_23 : decode cX6_draw 23 = .ok (.irem, 1) := by decide +kernel
theorem dX6_draw_24 : decode cX6_draw 24 = .ok (.ishr, 1) := by decide +kernel
theorem dX6_draw_25 : decode cX6_draw 25 = .ok (.sipush 163, 3) := by decide +kernel
theorem dX6_draw_28 : decode cX6_draw 28 = .ok (.aload_n 0, 1) := by decide +kernel
theorem dX6_draw_29 : decode cX6_draw 29 = .ok (.getfield 43, 3) := by decide +kernel
theorem dX6_draw_32 : decode cX6_draw 32 = .ok (.imul, 1) := by decide +kernel
theorem dX6_draw_33 : decode cX6_draw 33 = .ok (.iadd, 1) := by decide +kernel
theorem dX6_draw_34 : decode cX6_draw 34 = .ok (.iload_n 1, 1) := by decide +kernel
theorem dX6_draw_35 : decode cX6_draw 35 = .ok (.invokestatic 52, 3) := by decide +kernel
theorem dX6_draw_38 : decode cX6_draw 38 = .ok (.istore_n 2, 1) := by decide +kernel
theorem dX6_draw_39 : decode cX6_draw 39 = .ok (.aload_n 0, 1) := by decide +kernel
theorem dX6_draw_40 : decode cX6_draw 40 = .ok (.dup, 1) := by decide +kernel
theorem dX6_draw_41 : decode cX6_draw 41 = .ok (.getfield 43, 3) := by decide +kernel
theorem dX6_draw_44 : decode cX6_draw 44 = .ok (.iconst 1, 1) := by decide +kernel
theorem dX6_draw_45 : decode cX6_draw 45 = .ok (.iadd, 1) := by decide +kernel
theorem dX6_draw_46 : decode cX6_draw 46 = .ok (.putfield 43, 3) := by decide +kernel
theorem dX6_draw_49 : decode cX6_draw 49 = .ok (.iload_n 2, 1) := by decide +kernel
theorem dX6_draw_50 : decode cX6_draw 50 = .ok (.ireturn, 1) := by decide +kernel
theorem dX6_reset_0 : decode cX6_reset 0 = .ok (.aload_n 0, 1) := by decide +kernel
theorem dX6_reset_1 : decode cX6_reset 1 = .ok (.iconst 3, 1) := by decide +kernel
theorem dX6_reset_2 : decode cX6_reset 2 = .ok (.aload_n 0, 1) := by decide +kernel
theorem dX6_reset_3 : decode cX6_reset 3 = .ok (.iconst 5, 1) := by decide +kernel
theorem dX6_reset_4 : decode cX6_reset 4 = .ok (.invokevirtual 56, 3) := by decide +kernel
theorem dX6_reset_7 : decode cX6_reset 7 = .ok (.iadd, 1) := by decide +kernel
theorem dX6_reset_8 : decode cX6_reset 8 = .ok (.putfield 16, 3) := by decide +kernel
theorem dX6_reset_11 : decode cX6_reset 11 = .ok (.aload_n 0, 1) := by decide +kernel
theorem dX6_reset_12 : decode cX6_reset 12 = .ok (.iconst 2, 1) := by decide +kernel
theorem dX6_reset_13 : decode cX6_reset 13 = .ok (.aload_n 0, 1) := by decide +kernel
theorem dX6_reset_14 : decode cX6_reset 14 = .ok (.iconst 4, 1) := by decide +kernel
theorem dX6_reset_15 : decode cX6_reset 15 = .ok (.invokevirtual 56, 3) := by decide +kernel
theorem dX6_reset_18 : decode cX6_reset 18 = .ok (.iadd, 1) := by decide +kernel
theorem dX6_reset_19 : decode cX6_reset 19 = .ok (.putfield 20, 3) := by decide +kernel
theorem dX6_reset_22 : decode cX6_reset 22 = .ok (.aload_n 0, 1) := by decide +kernel
theorem dX6_reset_23 : decode cX6_reset 23 = .ok (.iconst 0, 1) := by decide +kernel
theorem dX6_reset_24 : decode cX6_reset 24 = .ok (.putfield 60, 3) := by decide +kernel
theorem dX6_reset_27 : decode cX6_reset 27 = .ok (.aload_n 0, 1) := by decide +kernel
theorem dX6_reset_28 : decode cX6_reset 28 = .ok (.aload_n 0, 1) := by decide +kernel
theorem dX6_reset_29 : decode cX6_reset 29 = .ok (.getfield 16, 3) := by decide +kernel
theorem dX6_reset_32 : decode cX6_reset 32 = .ok (.aload_n 0, 1) := by decide +kernel
theorem dX6_reset_33 : decode cX6_reset 33 = .ok (.getfield 20, 3) := by decide +kernel
theorem dX6_reset_36 : decode cX6_reset 36 = .ok (.bipush 6, 2) := by decide +kernel
theorem dX6_reset_38 : decode cX6_reset 38 = .ok (.multianewarray 29 3, 4) := by decide +kernel
theorem dX6_reset_42 : decode cX6_reset 42 = .ok (.putfield 31, 3) := by decide +kernel
theorem dX6_reset_45 : decode cX6_reset 45 = .ok (.aload_n 0, 1) := by decide +kernel
theorem dX6_reset_46 : decode cX6_reset 46 = .ok (.iconst 0, 1) := by decide +kernel
theorem dX6_reset_47 : decode cX6_reset 47 = .ok (.anewarray 34, 3) := by decide +kernel
theorem dX6_reset_50 : decode cX6_reset 50 = .ok (.putfield 36, 3) := by decide +kernel
theorem dX6_reset_53 : decode cX6_reset 53 = .ok (.aload_n 0, 1) := by decide +kernel
theorem dX6_reset_54 : decode cX6_reset 54 = .ok (.getfield 10, 3) := by decide +kernel
theorem dX6_reset_57 : decode cX6_reset 57 = .ok (.aload_n 0, 1) := by decide +kernel
theorem dX6_reset_58 : decode cX6_reset 58 = .ok (.getfield 16, 3) := by decide +kernel
theorem dX6_reset_61 : decode cX6_reset 61 = .ok (.aload_n 0, 1) := by decide +kernel
theorem dX6_reset_62 : decode cX6_reset 62 = .ok (.getfield 20, 3) := by decide +kernel
theorem dX6_reset_65 : decode cX6_reset 65 = .ok (.invokevirtual 63, 3) := by decide +kernel
theorem dX6_reset_68 : decode cX6_reset 68 = .ok (.aload_n 0, 1) := by decide +kernel
theorem dX6_reset_69 : decode cX6_reset 69 = .ok (.getfield 16, 3) := by decide +kernel
theorem dX6_reset_72 : decode cX6_reset 72 = .ok (.aload_n 0, 1) := by decide +kernel
theorem dX6_reset_73 : decode cX6_reset 73 = .ok (.getfield 20, 3) := by decide +kernel
theorem dX6_reset_76 : decode cX6_reset 76 = .ok (.imul, 1) := by decide +kernel
theorem dX6_reset_77 : decode cX6_reset 77 = .ok (.if_icmp .ne 7, 3) := by decide +kernel
theorem dX6_reset_80 : decode cX6_reset 80 = .ok (.iconst 1, 1) := by decide +kernel
theorem dX6_reset_81 : decode cX6_reset 81 = .ok (.goto 4, 3) := by decide +kernel
theorem dX6_reset_84 : decode cX6_reset 84 = .ok (.iconst 0, 1) := by decide +kernel
theorem dX6_reset_85 : decode cX6_reset 85 = .ok (.ireturn, 1) := by decide +kernel
theorem dX6_isOn_0 : decode cX6_isOn 0 = .ok (.aload_n 0, 1) := by decide +kernel
theorem dX6_isOn_1 : decode cX6_isOn 1 = .ok (.getfield 36, 3) := by decide +kernel
theorem dX6_isOn_4 : decode cX6_isOn 4 = .ok (.astore_n 3, 1) := by decide +kernel
theorem dX6_isOn_5 : decode cX6_isOn 5 = .ok (.aload_n 3, 1) := by decide +kernel
theorem dX6_isOn_6 : decode cX6_isOn 6 = .ok (.arraylength, 1) := by decide +kernel
theorem dX6_isOn_7 : decode cX6_isOn 7 = .ok (.istore 4, 2) := by decide +kernel
theorem dX6_isOn_9 : decode cX6_isOn 9 = .ok (.iconst 0, 1) := by decide +kernel
theorem dX6_isOn_10 : decode cX6_isOn 10 = .ok (.istore 5, 2) := by decide +kernel
theorem dX6_isOn_12 : decode cX6_isOn 12 = .ok (.iload 5, 2) := by decide +kernel
theorem dX6_isOn_14 : decode cX6_isOn 14 = .ok (.iload 4, 2) := by decide +kernel
theorem dX6_isOn_16 : decode cX6_isOn 16 = .ok (.if_icmp .ge 37, 3) := by decide +kernel
theorem dX6_isOn_19 : decode cX6_isOn 19 = .ok (.aload_n 3, 1) := by decide +kernel
theorem dX6_isOn_20 : decode cX6_isOn 20 = .ok (.iload 5, 2) := by decide +kernel
theorem dX6_isOn_22 : decode cX6_isOn 22 = .ok (.aaload, 1) := by decide +kernel
theorem dX6_isOn_23 : decode cX6_isOn 23 = .ok (.astore 6, 2) := by decide +kernel
theorem dX6_isOn_25 : decode cX6_isOn 25 = .ok (.aload 6, 2) := by decide +kernel
theorem dX6_isOn_27 : decode cX6_isOn 27 = .ok (.iconst 3, 1) := by decide +kernel
theorem dX6_isOn_28 : decode cX6_isOn 28 = .ok (.iaload, 1) := by decide +kernel
theorem dX6_isOn_29 : decode cX6_isOn 29 = .ok (.iload_n 1, 1) := by decide +kernel
theorem dX6_isOn_30 : decode cX6_isOn 30 = .ok (.if_icmp .ne 17, 3) := by decide +kernel
theorem dX6_isOn_33 : decode cX6_isOn 33 = .ok (.aload 6, 2) := by decide +kernel
theorem dX6_isOn_35 : decode cX6_isOn 35 = .ok (.iconst 4, 1) := by decide +kernel
theorem dX6_isOn_36 : decode cX6_isOn 36 = .ok (.iaload, 1) := by decide +kernel
theorem dX6_isOn_37 : decode cX6_isOn 37 = .ok (.iload_n 2, 1) := by decide +kernel
theorem dX6_isOn_38 : decode cX6_isOn 38 = .ok (.if_icmp .ne 9, 3) := by decide +kernel
theorem dX6_isOn_41 : decode cX6_isOn 41 = .ok (.iload_n 1, 1) := by decide +kernel
theorem dX6_isOn_42 : decode cX6_isOn 42 = .ok (.ifCond .lt 5, 3) := by decide +kernel
theorem dX6_isOn_45 : decode cX6_isOn 45 = .ok (.iconst 1, 1) := by decide +kernel
theorem dX6_isOn_46 : decode cX6_isOn 46 = .ok (.ireturn, 1) := by decide +kernel
theorem dX6_isOn_47 : decode cX6_isOn 47 = .ok (.iinc 5 1, 3) := by decide +kernel
theorem dX6_isOn_50 : decode cX6_isOn 50 = .ok (.goto (-38), 3) := by decide +kernel
theorem dX6_isOn_53 : decode cX6_isOn 53 = .ok (.iconst 0, 1) := by decide +kernel
theorem dX6_isOn_54 : decode cX6_isOn 54 = .ok (.ireturn, 1) := by decide +kernel
theorem dX6_walls_0 : decode cX6_walls 0 = .ok (.iconst 0, 1) := by decide +kernel
theorem dX6_walls_1 : decode cX6_walls 1 = .ok (.istore_n 1, 1) := by decide +kernel
theorem dX6_walls_2 : decode cX6_walls 2 = .ok (.aload_n 0, 1) := by decide +kernel
theorem dX6_walls_3 : decode cX6_walls 3 = .ok (.getfield 31, 3) := by decide +kernel
theorem dX6_walls_6 : decode cX6_walls 6 = .ok (.astore_n 2, 1) := by decide +kernel
theorem dX6_walls_7 : decode cX6_walls 7 = .ok (.aload_n 2, 1) := by decide +kernel
theorem dX6_walls_8 : decode cX6_walls 8 = .ok (.arraylength, 1) := by decide +kernel
theorem dX6_walls_9 : decode cX6_walls 9 = .ok (.istore_n 3, 1) := by decide +kernel
theorem dX6_walls_10 : decode cX6_walls 10 = .ok (.iconst 0, 1) := by decide +kernel
theorem dX6_walls_11 : decode cX6_walls 11 = .ok (.istore 4, 2) := by decide +kernel
theorem dX6_walls_13 : decode cX6_walls 13 = .ok (.iload 4, 2) := by decide +kernel
theorem dX6_walls_15 : decode cX6_walls 15 = .ok (.iload_n 3, 1) := by decide +kernel
theorem dX6_walls_16 : decode cX6_walls 16 = .ok (.if_icmp .ge 54, 3) := by decide +kernel
theorem dX6_walls_19 : decode cX6_walls 19 = .ok (.aload_n 2, 1) := by decide +kernel
theorem dX6_walls_20 : decode cX6_walls 20 = .ok (.iload 4, 2) := by decide +kernel
theorem dX6_walls_22 : decode cX6_walls 22 = .ok (.aaload, 1) := by decide +kernel
theorem dX6_walls_23 : decode cX6_walls 23 = .ok (.astore 5, 2) := by decide +kernel
theorem dX6_walls_25 : decode cX6_walls 25 = .ok (.aload 5, 2) := by decide +kernel
theorem dX6_walls_27 : decode cX6_walls 27 = .ok (.astore 6, 2) := by decide +kernel
theorem dX6_walls_29 : decode cX6_walls 29 = .ok (.aload 6, 2) := by decide +kernel
theorem dX6_walls_31 : decode cX6_walls 31 = .ok (.arraylength, 1) := by decide +kernel
theorem dX6_walls_32 : decode cX6_walls 32 = .ok (.istore 7, 2) := by decide +kernel
theorem dX6_walls_34 : decode cX6_walls 34 = .ok (.iconst 0, 1) := by decide +kernel
theorem dX6_walls_35 : decode cX6_walls 35 = .ok (.istore 8, 2) := by decide +kernel
theorem dX6_walls_37 : decode cX6_walls 37 = .ok (.iload 8, 2) := by decide +kernel
theorem dX6_walls_39 : decode cX6_walls 39 = .ok (.iload 7, 2) := by decide +kernel
theorem dX6_walls_41 : decode cX6_walls 41 = .ok (.if_icmp .ge 23, 3) := by decide +kernel
theorem dX6_walls_44 : decode cX6_walls 44 = .ok (.aload 6, 2) := by decide +kernel
theorem dX6_walls_46 : decode cX6_walls 46 = .ok (.iload 8, 2) := by decide +kernel
theorem dX6_walls_48 : decode cX6_walls 48 = .ok (.aaload, 1) := by decide +kernel
theorem dX6_walls_49 : decode cX6_walls 49 = .ok (.astore 9, 2) := by decide +kernel
theorem dX6_walls_51 : decode cX6_walls 51 = .ok (.iload_n 1, 1) := by decide +kernel
theorem dX6_walls_52 : decode cX6_walls 52 = .ok (.aload 9, 2) := by decide +kernel
theorem dX6_walls_54 : decode cX6_walls 54 = .ok (.iconst 0, 1) := by decide +kernel
theorem dX6_walls_55 : decode cX6_walls 55 = .ok (.iaload, 1) := by decide +kernel
theorem dX6_walls_56 : decode cX6_walls 56 = .ok (.iadd, 1) := by decide +kernel
theorem dX6_walls_57 : decode cX6_walls 57 = .ok (.istore_n 1, 1) := by decide +kernel
theorem dX6_walls_58 : decode cX6_walls 58 = .ok (.iinc 8 1, 3) := by decide +kernel
theorem dX6_walls_61 : decode cX6_walls 61 = .ok (.goto (-24), 3) := by decide +kernel
theorem dX6_walls_64 : decode cX6_walls 64 = .ok (.iinc 4 1, 3) := by decide +kernel
theorem dX6_walls_67 : decode cX6_walls 67 = .ok (.goto (-54), 3) := by decide +kernel
theorem dX6_walls_70 : decode cX6_walls 70 = .ok (.iload_n 1, 1) := by decide +kernel
theorem dX6_walls_71 : decode cX6_walls 71 = .ok (.ireturn, 1) := by decide +kernel
theorem dX6_wall_0 : decode cX6_wall 0 = .ok (.aload_n 0, 1) := by decide +kernel
theorem dX6_wall_1 : decode cX6_wall 1 = .ok (.aload_n 0, 1) := by decide +kernel
theorem dX6_wall_2 : decode cX6_wall 2 = .ok (.getfield 16, 3) := by decide +kernel
theorem dX6_wall_5 : decode cX6_wall 5 = .ok (.invokevirtual 56, 3) := by decide +kernel
theorem dX6_wall_8 : decode cX6_wall 8 = .ok (.istore_n 1, 1) := by decide +kernel
theorem dX6_wall_9 : decode cX6_wall 9 = .ok (.aload_n 0, 1) := by decide +kernel
theorem dX6_wall_10 : decode cX6_wall 10 = .ok (.aload_n 0, 1) := by decide +kernel
theorem dX6_wall_11 : decode cX6_wall 11 = .ok (.getfield 20, 3) := by decide +kernel
theorem dX6_wall_14 : decode cX6_wall 14 = .ok (.invokevirtual 56, 3) := by decide +kernel
theorem dX6_wall_17 : decode cX6_wall 17 = .ok (.istore_n 2, 1) := by decide +kernel
theorem dX6_wall_18 : decode cX6_wall 18 = .ok (.aload_n 0, 1) := by decide +kernel
theorem dX6_wall_19 : decode cX6_wall 19 = .ok (.iconst 3, 1) := by decide +kernel
theorem dX6_wall_20 : decode cX6_wall 20 = .ok (.invokevirtual 56, 3) := by decide +kernel
theorem dX6_wall_23 : decode cX6_wall 23 = .ok (.ifCond .ne 14, 3) := by decide +kernel
theorem dX6_wall_26 : decode cX6_wall 26 = .ok (.aload_n 0, 1) := by decide +kernel
theorem dX6_wall_27 : decode cX6_wall 27 = .ok (.aload_n 0, 1) := by decide +kernel
theorem dX6_wall_28 : decode cX6_wall 28 = .ok (.getfield 16, 3) := by decide +kernel
theorem dX6_wall_31 : decode cX6_wall 31 = .ok (.invokevirtual 56, 3) := by decide +kernel
theorem dX6_wall_34 : decode cX6_wall 34 = .ok (.goto 4, 3) := by decide +kernel
theorem dX6_wall_37 : decode cX6_wall 37 = .ok (.iload_n 1, 1) := by decide +kernel
theorem dX6_wall_38 : decode cX6_wall 38 = .ok (.istore_n 3, 1) := by decide +kernel
theorem dX6_wall_39 : decode cX6_wall 39 = .ok (.aload_n 0, 1) := by decide +kernel
theorem dX6_wall_40 : decode cX6_wall 40 = .ok (.iconst 3, 1) := by decide +kernel
theorem dX6_wall_41 : decode cX6_wall 41 = .ok (.invokevirtual 56, 3) := by decide +kernel
theorem dX6_wall_44 : decode cX6_wall 44 = .ok (.ifCond .ne 14, 3) := by decide +kernel
theorem dX6_wall_47 : decode cX6_wall 47 = .ok (.aload_n 0, 1) := by decide +kernel
theorem dX6_wall_48 : decode cX6_wall 48 = .ok (.aload_n 0, 1) := by decide +kernel
theorem dX6_wall_49 : decode cX6_wall 49 = .ok (.getfield 20, 3) := by decide +kernel
theorem dX6_wall_52 : decode cX6_wall 52 = .ok (.invokevirtual 56, 3) := by decide +kernel
theorem dX6_wall_55 : decode cX6_wall 55 = .ok (.goto 4, 3) := by decide +kernel
theorem dX6_wall_58 : decode cX6_wall 58 = .ok (.iload_n 2, 1) := by decide +kernel
theorem dX6_wall_59 : decode cX6_wall 59 = .ok (.istore 4, 2) := by decide +kernel
theorem dX6_wall_61 : decode cX6_wall 61 = .ok (.aload_n 0, 1) := by decide +kernel
theorem dX6_wall_62 : decode cX6_wall 62 = .ok (.iconst 3, 1) := by decide +kernel
theorem dX6_wall_63 : decode cX6_wall 63 = .ok (.invokevirtual 56, 3) := by decide +kernel
theorem dX6_wall_66 : decode cX6_wall 66 = .ok (.ifCond .le 7, 3) := by decide +kernel
theorem dX6_wall_69 : decode cX6_wall 69 = .ok (.iconst 1, 1) := by decide +kernel
theorem dX6_wall_70 : decode cX6_wall 70 = .ok (.goto 4, 3) := by decide +kernel
theorem dX6_wall_73 : decode cX6_wall 73 = .ok (.iconst 0, 1) := by decide +kernel
theorem dX6_wall_74 : decode cX6_wall 74 = .ok (.istore 5, 2) := by decide +kernel
theorem dX6_wall_76 : decode cX6_wall 76 = .ok (.iconst 1, 1) := by decide +kernel
theorem dX6_wall_77 : decode cX6_wall 77 = .ok (.istore 6, 2) := by decide +kernel
theorem dX6_wall_79 : decode cX6_wall 79 = .ok (.iload_n 1, 1) := by decide +kernel
theorem dX6_wall_80 : decode cX6_wall 80 = .ok (.iload_n 3, 1) := by decide +kernel
theorem dX6_wall_81 : decode cX6_wall 81 = .ok (.invokestatic 66, 3) := by decide +kernel
theorem dX6_wall_84 : decode cX6_wall 84 = .ok (.istore 7, 2) := by decide +kernel
theorem dX6_wall_86 : decode cX6_wall 86 = .ok (.iload 7, 2) := by decide +kernel
theorem dX6_wall_88 : decode cX6_wall 88 = .ok (.iload_n 1, 1) := by decide +kernel
theorem dX6_wall_89 : decode cX6_wall 89 = .ok (.iload_n 3, 1) := by decide +kernel
theorem dX6_wall_90 : decode cX6_wall 90 = .ok (.invokestatic 71, 3) := by decide +kernel
theorem dX6_wall_93 : decode cX6_wall 93 = .ok (.if_icmp .gt 60, 3) := by decide +kernel
theorem dX6_wall_96 : decode cX6_wall 96 = .ok (.iload_n 2, 1) := by decide +kernel
theorem dX6_wall_97 : decode cX6_wall 97 = .ok (.iload 4, 2) := by decide +kernel
theorem dX6_wall_99 : decode cX6_wall 99 = .ok (.invokestatic 66, 3) := by decide +kernel
theorem dX6_wall_102 : decode cX6_wall 102 = .ok (.istore 8, 2) := by decide +kernel
theorem dX6_wall_104 : decode cX6_wall 104 = .ok (.iload 8, 2) := by decide +kernel
theorem dX6_wall_106 : decode cX6_wall 106 = .ok (.iload_n 2, 1) := by decide +kernel
theorem dX6_wall_107 : decode cX6_wall 107 = .ok (.iload 4, 2) := by decide +kernel
theorem dX6_wall_109 : decode cX6_wall 109 = .ok (.invokestatic 71, 3) := by decide +kernel
theorem dX6_wall_112 : decode cX6_wall 112 = .ok (.if_icmp .gt 35, 3) := by decide +kernel
theorem dX6_wall_115 : decode cX6_wall 115 = .ok (.iload 6, 2) := by decide +kernel
theorem dX6_wall_117 : decode cX6_wall 117 = .ok (.iload 5, 2) := by decide +kernel
theorem dX6_wall_119 : decode cX6_wall 119 = .ok (.ifCond .eq 14, 3) := by decide +kernel
theorem dX6_wall_122 : decode cX6_wall 122 = .ok (.aload_n 0, 1) := by decide +kernel
theorem dX6_wall_123 : decode cX6_wall 123 = .ok (.iload 7, 2) := by decide +kernel
theorem dX6_wall_125 : decode cX6_wall 125 = .ok (.iload 8, 2) := by decide +kernel
theorem dX6_wall_127 : decode cX6_wall 127 = .ok (.invokevirtual 74, 3) := by decide +kernel
theorem dX6_wall_130 : decode cX6_wall 130 = .ok (.ifCond .ne 7, 3) := by decide +kernel
theorem dX6_wall_133 : decode cX6_wall 133 = .ok (.iconst 1, 1) := by decide +kernel
theorem dX6_wall_134 : decode cX6_wall 134 = .ok (.goto 4, 3) := by decide +kernel
theorem dX6_wall_137 : decode cX6_wall 137 = .ok (.iconst 0, 1) := by decide +kernel
theorem dX6_wall_138 : decode cX6_wall 138 = .ok (.iand, 1) := by decide +kernel
theorem dX6_wall_139 : decode cX6_wall 139 = .ok (.istore 6, 2) := by decide +kernel
theorem dX6_wall_141 : decode cX6_wall 141 = .ok (.iinc 8 1, 3) := by decide +kernel
theorem dX6_wall_144 : decode cX6_wall 144 = .ok (.goto (-40), 3) := by decide +kernel
theorem dX6_wall_147 : decode cX6_wall 147 = .ok (.iinc 7 1, 3) := by decide +kernel
theorem dX6_wall_150 : decode cX6_wall 150 = .ok (.goto (-64), 3) := by decide +kernel
theorem dX6_wall_153 : decode cX6_wall 153 = .ok (.aload_n 0, 1) := by decide +kernel
theorem dX6_wall_154 : decode cX6_wall 154 = .ok (.getfield 10, 3) := by decide +kernel
theorem dX6_wall_157 : decode cX6_wall 157 = .ok (.iload_n 1, 1) := by decide +kernel
theorem dX6_wall_158 : decode cX6_wall 158 = .ok (.iload_n 2, 1) := by decide +kernel
theorem dX6_wall_159 : decode cX6_wall 159 = .ok (.iload_n 3, 1) := by decide +kernel
theorem dX6_wall_160 : decode cX6_wall 160 = .ok (.iload 4, 2) := by decide +kernel
theorem dX6_wall_162 : decode cX6_wall 162 = .ok (.iload 5, 2) := by decide +kernel
theorem dX6_wall_164 : decode cX6_wall 164 = .ok (.invokevirtual 78, 3) := by decide +kernel
theorem dX6_wall_167 : decode cX6_wall 167 = .ok (.istore 7, 2) := by decide +kernel
theorem dX6_wall_169 : decode cX6_wall 169 = .ok (.iload 6, 2) := by decide +kernel
theorem dX6_wall_171 : decode cX6_wall 171 = .ok (.ifCond .ne 5, 3) := by decide +kernel
theorem dX6_wall_174 : decode cX6_wall 174 = .ok (.iconst 0, 1) := by decide +kernel
theorem dX6_wall_175 : decode cX6_wall 175 = .ok (.ireturn, 1) := by decide +kernel
theorem dX6_wall_176 : decode cX6_wall 176 = .ok (.iload_n 1, 1) := by decide +kernel
theorem dX6_wall_177 : decode cX6_wall 177 = .ok (.iload_n 3, 1) := by decide +kernel
theorem dX6_wall_178 : decode cX6_wall 178 = .ok (.invokestatic 66, 3) := by decide +kernel
theorem dX6_wall_181 : decode cX6_wall 181 = .ok (.istore 8, 2) := by decide +kernel
theorem dX6_wall_183 : decode cX6_wall 183 = .ok (.iload 8, 2) := by decide +kernel
theorem dX6_wall_185 : decode cX6_wall 185 = .ok (.iload_n 1, 1) := by decide +kernel
theorem dX6_wall_186 : decode cX6_wall 186 = .ok (.iload_n 3, 1) := by decide +kernel
theorem dX6_wall_187 : decode cX6_wall 187 = .ok (.invokestatic 71, 3) := by decide +kernel
theorem dX6_wall_190 : decode cX6_wall 190 = .ok (.if_icmp .gt 56, 3) := by decide +kernel
theorem dX6_wall_193 : decode cX6_wall 193 = .ok (.iload_n 2, 1) := by decide +kernel
theorem dX6_wall_194 : decode cX6_wall 194 = .ok (.iload 4, 2) := by decide +kernel
theorem dX6_wall_196 : decode cX6_wall 196 = .ok (.invokestatic 66, 3) := by decide +kernel
theorem dX6_wall_199 : decode cX6_wall 199 = .ok (.istore 9, 2) := by decide +kernel
theorem dX6_wall_201 : decode cX6_wall 201 = .ok (.iload 9, 2) := by decide +kernel
theorem dX6_wall_203 : decode cX6_wall 203 = .ok (.iload_n 2, 1) := by decide +kernel
theorem dX6_wall_204 : decode cX6_wall 204 = .ok (.iload 4, 2) := by decide +kernel
theorem dX6_wall_206 : decode cX6_wall 206 = .ok (.invokestatic 71, 3) := by decide +kernel
theorem dX6_wall_209 : decode cX6_wall 209 = .ok (.if_icmp .gt 31, 3) := by decide +kernel
theorem dX6_wall_212 : decode cX6_wall 212 = .ok (.aload_n 0, 1) := by decide +kernel
theorem dX6_wall_213 : decode cX6_wall 213 = .ok (.getfield 31, 3) := by decide +kernel
theorem dX6_wall_216 : decode cX6_wall 216 = .ok (.iload 8, 2) := by decide +kernel
theorem dX6_wall_218 : decode cX6_wall 218 = .ok (.aaload, 1) := by decide +kernel
theorem dX6_wall_219 : decode cX6_wall 219 = .ok (.iload 9, 2) := by decide +kernel
theorem dX6_wall_221 : decode cX6_wall 221 = .ok (.aaload, 1) := by decide +kernel
theorem dX6_wall_222 : decode cX6_wall 222 = .ok (.iconst 0, 1) := by decide +kernel
theorem dX6_wall_223 : decode cX6_wall 223 = .ok (.iload 5, 2) := by decide +kernel
theorem dX6_wall_225 : decode cX6_wall 225 = .ok (.ifCond .eq 7, 3) := by decide +kernel
theorem dX6_wall_228 : decode cX6_wall 228 = .ok (.iconst 1, 1) := by decide +kernel
theorem dX6_wall_229 : decode cX6_wall 229 = .ok (.goto 4, 3) := by decide +kernel
theorem dX6_wall_232 : decode cX6_wall 232 = .ok (.iconst 0, 1) := by decide +kernel
theorem dX6_wall_233 : decode cX6_wall 233 = .ok (.iastore, 1) := by decide +kernel
theorem dX6_wall_234 : decode cX6_wall 234 = .ok (.iinc 9 1, 3) := by decide +kernel
theorem dX6_wall_237 : decode cX6_wall 237 = .ok (.goto (-36), 3) := by decide +kernel
theorem dX6_wall_240 : decode cX6_wall 240 = .ok (.iinc 8 1, 3) := by decide +kernel
theorem dX6_wall_243 : decode cX6_wall 243 = .ok (.goto (-60), 3) := by decide +kernel
theorem dX6_wall_246 : decode cX6_wall 246 = .ok (.iload 7, 2) := by decide +kernel
theorem dX6_wall_248 : decode cX6_wall 248 = .ok (.aload_n 0, 1) := by decide +kernel
theorem dX6_wall_249 : decode cX6_wall 249 = .ok (.invokevirtual 82, 3) := by decide +kernel
theorem dX6_wall_252 : decode cX6_wall 252 = .ok (.if_icmp .ne 7, 3) := by decide +kernel
theorem dX6_wall_255 : decode cX6_wall 255 = .ok (.iconst 1, 1) := by decide +kernel
theorem dX6_wall_256 : decode cX6_wall 256 = .ok (.goto 4, 3) := by decide +kernel
theorem dX6_wall_259 : decode cX6_wall 259 = .ok (.iconst 0, 1) := by decide +kernel
theorem dX6_wall_260 : decode cX6_wall 260 = .ok (.ireturn, 1) := by decide +kernel
theorem dX6_wall_261 : decode cX6_wall 261 = .ok (.astore 7, 2) := by decide +kernel
theorem dX6_wall_263 : decode cX6_wall 263 = .ok (.iload 6, 2) := by decide +kernel
theorem dX6_wall_265 : decode cX6_wall 265 = .ok (.ifCond .ne 7, 3) := by decide +kernel
theorem dX6_wall_268 : decode cX6_wall 268 = .ok (.iconst 1, 1) := by decide +kernel
theorem dX6_wall_269 : decode cX6_wall 269 = .ok (.goto 4, 3) := by decide +kernel
theorem dX6_wall_272 : decode cX6_wall 272 = .ok (.iconst 0, 1) := by decide +kernel
theorem dX6_wall_273 : decode cX6_wall 273 = .ok (.ireturn, 1) := by decide +kernel
theorem dX6_mark_0 : decode cX6_mark 0 = .ok (.aload_n 0, 1) := by decide +kernel
theorem dX6_mark_1 : decode cX6_mark 1 = .ok (.iconst 3, 1) := by decide +kernel
theorem dX6_mark_2 : decode cX6_mark 2 = .ok (.invokevirtual 56, 3) := by decide +kernel
theorem dX6_mark_5 : decode cX6_mark 5 = .ok (.istore_n 1, 1) := by decide +kernel
theorem dX6_mark_6 : decode cX6_mark 6 = .ok (.aload_n 0, 1) := by decide +kernel
theorem dX6_mark_7 : decode cX6_mark 7 = .ok (.aload_n 0, 1) := by decide +kernel
theorem dX6_mark_8 : decode cX6_mark 8 = .ok (.getfield 16, 3) := by decide +kernel
theorem dX6_mark_11 : decode cX6_mark 11 = .ok (.invokevirtual 56, 3) := by decide +kernel
theorem dX6_mark_14 : decode cX6_mark 14 = .ok (.istore_n 2, 1) := by decide +kernel
theorem dX6_mark_15 : decode cX6_mark 15 = .ok (.aload_n 0, 1) := by decide +kernel
theorem dX6_mark_16 : decode cX6_mark 16 = .ok (.aload_n 0, 1) := by decide +kernel
theorem dX6_mark_17 : decode cX6_mark 17 = .ok (.getfield 20, 3) := by decide +kernel
theorem dX6_mark_20 : decode cX6_mark 20 = .ok (.invokevirtual 56, 3) := by decide +kernel
theorem dX6_mark_23 : decode cX6_mark 23 = .ok (.istore_n 3, 1) := by decide +kernel
theorem dX6_mark_24 : decode cX6_mark 24 = .ok (.iconst 1, 1) := by decide +kernel
theorem dX6_mark_25 : decode cX6_mark 25 = .ok (.istore 4, 2) := by decide +kernel
theorem dX6_mark_27 : decode cX6_mark 27 = .ok (.aload_n 0, 1) := by decide +kernel
theorem dX6_mark_28 : decode cX6_mark 28 = .ok (.getfield 36, 3) := by decide +kernel
theorem dX6_mark_31 : decode cX6_mark 31 = .ok (.astore 5, 2) := by decide +kernel
theorem dX6_mark_33 : decode cX6_mark 33 = .ok (.aload 5, 2) := by decide +kernel
theorem dX6_mark_35 : decode cX6_mark 35 = .ok (.arraylength, 1) := by decide +kernel
theorem dX6_mark_36 : decode cX6_mark 36 = .ok (.istore 6, 2) := by decide +kernel
theorem dX6_mark_38 : decode cX6_mark 38 = .ok (.iconst 0, 1) := by decide +kernel
theorem dX6_mark_39 : decode cX6_mark 39 = .ok (.istore 7, 2) := by decide +kernel
theorem dX6_mark_41 : decode cX6_mark 41 = .ok (.iload 7, 2) := by decide +kernel
theorem dX6_mark_43 : decode cX6_mark 43 = .ok (.iload 6, 2) := by decide +kernel
theorem dX6_mark_45 : decode cX6_mark 45 = .ok (.if_icmp .ge 50, 3) := by decide +kernel
theorem dX6_mark_48 : decode cX6_mark 48 = .ok (.aload 5, 2) := by decide +kernel
theorem dX6_mark_50 : decode cX6_mark 50 = .ok (.iload 7, 2) := by decide +kernel
theorem dX6_mark_52 : decode cX6_mark 52 = .ok (.aaload, 1) := by decide +kernel
theorem dX6_mark_53 : decode cX6_mark 53 = .ok (.astore 8, 2) := by decide +kernel
theorem dX6_mark_55 : decode cX6_mark 55 = .ok (.iload 4, 2) := by decide +kernel
theorem dX6_mark_57 : decode cX6_mark 57 = .ok (.aload 8, 2) := by decide +kernel
theorem dX6_mark_59 : decode cX6_mark 59 = .ok (.iconst 3, 1) := by decide +kernel
theorem dX6_mark_60 : decode cX6_mark 60 = .ok (.iaload, 1) := by decide +kernel
theorem dX6_mark_61 : decode cX6_mark 61 = .ok (.iload_n 2, 1) := by decide +kernel
theorem dX6_mark_62 : decode cX6_mark 62 = .ok (.if_icmp .ne 19, 3) := by decide +kernel
theorem dX6_mark_65 : decode cX6_mark 65 = .ok (.aload 8, 2) := by decide +kernel
theorem dX6_mark_67 : decode cX6_mark 67 = .ok (.iconst 4, 1) := by decide +kernel
theorem dX6_mark_68 : decode cX6_mark 68 = .ok (.iaload, 1) := by decide +kernel
theorem dX6_mark_69 : decode cX6_mark 69 = .ok (.iload_n 3, 1) := by decide +kernel
theorem dX6_mark_70 : decode cX6_mark 70 = .ok (.if_icmp .ne 11, 3) := by decide +kernel
theorem dX6_mark_73 : decode cX6_mark 73 = .ok (.aload 8, 2) := by decide +kernel
theorem dX6_mark_75 : decode cX6_mark 75 = .ok (.iconst 0, 1) := by decide +kernel
theorem dX6_mark_76 : decode cX6_mark 76 = .ok (.iaload, 1) := by decide +kernel
theorem dX6_mark_77 : decode cX6_mark 77 = .ok (.iload_n 1, 1) := by decide +kernel
theorem dX6_mark_78 : decode cX6_mark 78 = .ok (.if_icmp .eq 7, 3) := by decide +kernel
theorem dX6_mark_81 : decode cX6_mark 81 = .ok (.iconst 1, 1) := by decide +kernel
theorem dX6_mark_82 : decode cX6_mark 82 = .ok (.goto 4, 3) := by decide +kernel
theorem dX6_mark_85 : decode cX6_mark 85 = .ok (.iconst 0, 1) := by decide +kernel
theorem dX6_mark_86 : decode cX6_mark 86 = .ok (.iand, 1) := by decide +kernel
theorem dX6_mark_87 : decode cX6_mark 87 = .ok (.istore 4, 2) := by decide +kernel
theorem dX6_mark_89 : decode cX6_mark 89 = .ok (.iinc 7 1, 3) := by decide +kernel
theorem dX6_mark_92 : decode cX6_mark 92 = .ok (.goto (-51), 3) := by decide +kernel
theorem dX6_mark_95 : decode cX6_mark 95 = .ok (.aload_n 0, 1) := by decide +kernel
theorem dX6_mark_96 : decode cX6_mark 96 = .ok (.getfield 10, 3) := by decide +kernel
theorem dX6_mark_99 : decode cX6_mark 99 = .ok (.iload_n 1, 1) := by decide +kernel
theorem dX6_mark_100 : decode cX6_mark 100 = .ok (.iload_n 2, 1) := by decide +kernel
theorem dX6_mark_101 : decode cX6_mark 101 = .ok (.iload_n 3, 1) := by decide +kernel
theorem dX6_mark_102 : decode cX6_mark 102 = .ok (.invokevirtual 88, 3) := by decide +kernel
theorem dX6_mark_105 : decode cX6_mark 105 = .ok (.istore 5, 2) := by decide +kernel
theorem dX6_mark_107 : decode cX6_mark 107 = .ok (.iload 4, 2) := by decide +kernel
theorem dX6_mark_109 : decode cX6_mark 109 = .ok (.ifCond .ne 5, 3) := by decide +kernel
theorem dX6_mark_112 : decode cX6_mark 112 = .ok (.iconst 0, 1) := by decide +kernel
theorem dX6_mark_113 : decode cX6_mark 113 = .ok (.ireturn, 1) := by decide +kernel
theorem dX6_mark_114 : decode cX6_mark 114 = .ok (.aload_n 0, 1) := by decide +kernel
theorem dX6_mark_115 : decode cX6_mark 115 = .ok (.getfield 31, 3) := by decide +kernel
theorem dX6_mark_118 : decode cX6_mark 118 = .ok (.iload_n 2, 1) := by decide +kernel
theorem dX6_mark_119 : decode cX6_mark 119 = .ok (.aaload, 1) := by decide +kernel
theorem dX6_mark_120 : decode cX6_mark 120 = .ok (.iload_n 3, 1) := by decide +kernel
theorem dX6_mark_121 : decode cX6_mark 121 = .ok (.aaload, 1) := by decide +kernel
theorem dX6_mark_122 : decode cX6_mark 122 = .ok (.iconst 2, 1) := by decide +kernel
theorem dX6_mark_123 : decode cX6_mark 123 = .ok (.iload_n 1, 1) := by decide +kernel
theorem dX6_mark_124 : decode cX6_mark 124 = .ok (.iadd, 1) := by decide +kernel
theorem dX6_mark_125 : decode cX6_mark 125 = .ok (.iconst 1, 1) := by decide +kernel
theorem dX6_mark_126 : decode cX6_mark 126 = .ok (.aload_n 0, 1) := by decide +kernel
theorem dX6_mark_127 : decode cX6_mark 127 = .ok (.getfield 31, 3) := by decide +kernel
theorem dX6_mark_130 : decode cX6_mark 130 = .ok (.iload_n 2, 1) := by decide +kernel
theorem dX6_mark_131 : decode cX6_mark 131 = .ok (.aaload, 1) := by decide +kernel
theorem dX6_mark_132 : decode cX6_mark 132 = .ok (.iload_n 3, 1) := by decide +kernel
theorem dX6_mark_133 : decode cX6_mark 133 = .ok (.aaload, 1) := by decide +kernel
theorem dX6_mark_134 : decode cX6_mark 134 = .ok (.iconst 2, 1) := by decide +kernel
theorem dX6_mark_135 : decode cX6_mark 135 = .ok (.iload_n 1, 1) := by decide +kernel
theorem dX6_mark_136 : decode cX6_mark 136 = .ok (.iadd, 1) := by decide +kernel
theorem dX6_mark_137 : decode cX6_mark 137 = .ok (.iaload, 1) := by decide +kernel
theorem dX6_mark_138 : decode cX6_mark 138 = .ok (.isub, 1) := by decide +kernel
theorem dX6_mark_139 : decode cX6_mark 139 = .ok (.iastore, 1) := by decide +kernel
theorem dX6_mark_140 : decode cX6_mark 140 = .ok (.iconst 0, 1) := by decide +kernel
theorem dX6_mark_141 : decode cX6_mark 141 = .ok (.istore 6, 2) := by decide +kernel
theorem dX6_mark_143 : decode cX6_mark 143 = .ok (.aload_n 0, 1) := by decide +kernel
theorem dX6_mark_144 : decode cX6_mark 144 = .ok (.getfield 31, 3) := by decide +kernel
theorem dX6_mark_147 : decode cX6_mark 147 = .ok (.astore 7, 2) := by decide +kernel
theorem dX6_mark_149 : decode cX6_mark 149 = .ok (.aload 7, 2) := by decide +kernel
theorem dX6_mark_151 : decode cX6_mark 151 = .ok (.arraylength, 1) := by decide +kernel
theorem dX6_mark_152 : decode cX6_mark 152 = .ok (.istore 8, 2) := by decide +kernel
theorem dX6_mark_154 : decode cX6_mark 154 = .ok (.iconst 0, 1) := by decide +kernel
theorem dX6_mark_155 : decode cX6_mark 155 = .ok (.istore 9, 2) := by decide +kernel
theorem dX6_mark_157 : decode cX6_mark 157 = .ok (.iload 9, 2) := by decide +kernel
theorem dX6_mark_159 : decode cX6_mark 159 = .ok (.iload 8, 2) := by decide +kernel
theorem dX6_mark_161 : decode cX6_mark 161 = .ok (.if_icmp .ge 59, 3) := by decide +kernel
theorem dX6_mark_164 : decode cX6_mark 164 = .ok (.aload 7, 2) := by decide +kernel
theorem dX6_mark_166 : decode cX6_mark 166 = .ok (.iload 9, 2) := by decide +kernel
theorem dX6_mark_168 : decode cX6_mark 168 = .ok (.aaload, 1) := by decide +kernel
theorem dX6_mark_169 : decode cX6_mark 169 = .ok (.astore 10, 2) := by decide +kernel
theorem dX6_mark_171 : decode cX6_mark 171 = .ok (.aload 10, 2) := by decide +kernel
theorem dX6_mark_173 : decode cX6_mark 173 = .ok (.astore 11, 2) := by decide +kernel
theorem dX6_mark_175 : decode cX6_mark 175 = .ok (.aload 11, 2) := by decide +kernel
theorem dX6_mark_177 : decode cX6_mark 177 = .ok (.arraylength, 1) := by decide +kernel
theorem dX6_mark_178 : decode cX6_mark 178 = .ok (.istore 12, 2) := by decide +kernel
theorem dX6_mark_180 : decode cX6_mark 180 = .ok (.iconst 0, 1) := by decide +kernel
theorem dX6_mark_181 : decode cX6_mark 181 = .ok (.istore 13, 2) := by decide +kernel
theorem dX6_mark_183 : decode cX6_mark 183 = .ok (.iload 13, 2) := by decide +kernel
theorem dX6_mark_185 : decode cX6_mark 185 = .ok (.iload 12, 2) := by decide +kernel
theorem dX6_mark_187 : decode cX6_mark 187 = .ok (.if_icmp .ge 27, 3) := by decide +kernel
theorem dX6_mark_190 : decode cX6_mark 190 = .ok (.aload 11, 2) := by decide +kernel
theorem dX6_mark_192 : decode cX6_mark 192 = .ok (.iload 13, 2) := by decide +kernel
theorem dX6_mark_194 : decode cX6_mark 194 = .ok (.aaload, 1) := by decide +kernel
theorem dX6_mark_195 : decode cX6_mark 195 = .ok (.astore 14, 2) := by decide +kernel
theorem dX6_mark_197 : decode cX6_mark 197 = .ok (.iload 6, 2) := by decide +kernel
theorem dX6_mark_199 : decode cX6_mark 199 = .ok (.aload 14, 2) := by decide +kernel
theorem dX6_mark_201 : decode cX6_mark 201 = .ok (.iconst 2, 1) := by decide +kernel
theorem dX6_mark_202 : decode cX6_mark 202 = .ok (.iload_n 1, 1) := by decide +kernel
theorem dX6_mark_203 : decode cX6_mark 203 = .ok (.iadd, 1) := by decide +kernel
theorem dX6_mark_204 : decode cX6_mark 204 = .ok (.iaload, 1) := by decide +kernel
theorem dX6_mark_205 : decode cX6_mark 205 = .ok (.iadd, 1) := by decide +kernel
theorem dX6_mark_206 : decode cX6_mark 206 = .ok (.istore 6, 2) := by decide +kernel
theorem dX6_mark_208 : decode cX6_mark 208 = .ok (.iinc 13 1, 3) := by decide +kernel
theorem dX6_mark_211 : decode cX6_mark 211 = .ok (.goto (-28), 3) := by decide +kernel
theorem dX6_mark_214 : decode cX6_mark 214 = .ok (.iinc 9 1, 3) := by decide +kernel
theorem dX6_mark_217 : decode cX6_mark 217 = .ok (.goto (-60), 3) := by decide +kernel
theorem dX6_mark_220 : decode cX6_mark 220 = .ok (.iload 5, 2) := by decide +kernel
theorem dX6_mark_222 : decode cX6_mark 222 = .ok (.iload 6, 2) := by decide +kernel
theorem dX6_mark_224 : decode cX6_mark 224 = .ok (.if_icmp .ne 7, 3) := by decide +kernel
theorem dX6_mark_227 : decode cX6_mark 227 = .ok (.iconst 1, 1) := by decide +kernel
theorem dX6_mark_228 : decode cX6_mark 228 = .ok (.goto 4, 3) := by decide +kernel
theorem dX6_mark_231 : decode cX6_mark 231 = .ok (.iconst 0, 1) := by decide +kernel
theorem dX6_mark_232 : decode cX6_mark 232 = .ok (.ireturn, 1) := by decide +kernel
theorem dX6_mark_233 : decode cX6_mark 233 = .ok (.astore 5, 2) := by decide +kernel
theorem dX6_mark_235 : decode cX6_mark 235 = .ok (.iload 4, 2) := by decide +kernel
theorem dX6_mark_237 : decode cX6_mark 237 = .ok (.ifCond .ne 7, 3) := by decide +kernel
theorem dX6_mark_240 : decode cX6_mark 240 = .ok (.iconst 1, 1) := by decide +kernel
theorem dX6_mark_241 : decode cX6_mark 241 = .ok (.goto 4, 3) := by decide +kernel
theorem dX6_mark_244 : decode cX6_mark 244 = .ok (.iconst 0, 1) := by decide +kernel
theorem dX6_mark_245 : decode cX6_mark 245 = .ok (.ireturn, 1) := by decide +kernel
theorem dX6_set_0 : decode cX6_set 0 = .ok (.aload_n 0, 1) := by decide +kernel
theorem dX6_set_1 : decode cX6_set 1 = .ok (.getfield 23, 3) := by decide +kernel
theorem dX6_set_4 : decode cX6_set 4 = .ok (.istore_n 1, 1) := by decide +kernel
theorem dX6_set_5 : decode cX6_set 5 = .ok (.aload_n 0, 1) := by decide +kernel
theorem dX6_set_6 : decode cX6_set 6 = .ok (.aload_n 0, 1) := by decide +kernel
theorem dX6_set_7 : decode cX6_set 7 = .ok (.bipush 10, 2) := by decide +kernel
theorem dX6_set_9 : decode cX6_set 9 = .ok (.invokevirtual 56, 3) := by decide +kernel
theorem dX6_set_12 : decode cX6_set 12 = .ok (.putfield 23, 3) := by decide +kernel
theorem dX6_set_15 : decode cX6_set 15 = .ok (.aload_n 0, 1) := by decide +kernel
theorem dX6_set_16 : decode cX6_set 16 = .ok (.iconst 1, 1) := by decide +kernel
theorem dX6_set_17 : decode cX6_set 17 = .ok (.aload_n 0, 1) := by decide +kernel
theorem dX6_set_18 : decode cX6_set 18 = .ok (.iconst 4, 1) := by decide +kernel
theorem dX6_set_19 : decode cX6_set 19 = .ok (.invokevirtual 56, 3) := by decide +kernel
theorem dX6_set_22 : decode cX6_set 22 = .ok (.iadd, 1) := by decide +kernel
theorem dX6_set_23 : decode cX6_set 23 = .ok (.putfield 26, 3) := by decide +kernel
theorem dX6_set_26 : decode cX6_set 26 = .ok (.aload_n 0, 1) := by decide +kernel
theorem dX6_set_27 : decode cX6_set 27 = .ok (.getfield 10, 3) := by decide +kernel
theorem dX6_set_30 : decode cX6_set 30 = .ok (.aload_n 0, 1) := by decide +kernel
theorem dX6_set_31 : decode cX6_set 31 = .ok (.getfield 23, 3) := by decide +kernel
theorem dX6_set_34 : decode cX6_set 34 = .ok (.aload_n 0, 1) := by decide +kernel
theorem dX6_set_35 : decode cX6_set 35 = .ok (.getfield 26, 3) := by decide +kernel
theorem dX6_set_38 : decode cX6_set 38 = .ok (.invokevirtual 92, 3) := by decide +kernel
theorem dX6_set_41 : decode cX6_set 41 = .ok (.iload_n 1, 1) := by decide +kernel
theorem dX6_set_42 : decode cX6_set 42 = .ok (.if_icmp .ne 7, 3) := by decide +kernel
theorem dX6_set_45 : decode cX6_set 45 = .ok (.iconst 1, 1) := by decide +kernel
theorem dX6_set_46 : decode cX6_set 46 = .ok (.goto 4, 3) := by decide +kernel
theorem dX6_set_49 : decode cX6_set 49 = .ok (.iconst 0, 1) := by decide +kernel
theorem dX6_set_50 : decode cX6_set 50 = .ok (.ireturn, 1) := by decide +kernel
theorem dX6_add_0 : decode cX6_add 0 = .ok (.aload_n 0, 1) := by decide +kernel
theorem dX6_add_1 : decode cX6_add 1 = .ok (.iconst 3, 1) := by decide +kernel
theorem dX6_add_2 : decode cX6_add 2 = .ok (.invokevirtual 56, 3) := by decide +kernel
theorem dX6_add_5 : decode cX6_add 5 = .ok (.istore_n 1, 1) := by decide +kernel
theorem dX6_add_6 : decode cX6_add 6 = .ok (.iconst 1, 1) := by decide +kernel
theorem dX6_add_7 : decode cX6_add 7 = .ok (.aload_n 0, 1) := by decide +kernel
theorem dX6_add_8 : decode cX6_add 8 = .ok (.aload_n 0, 1) := by decide +kernel
theorem dX6_add_9 : decode cX6_add 9 = .ok (.iconst 2, 1) := by decide +kernel
theorem dX6_add_10 : decode cX6_add 10 = .ok (.invokevirtual 56, 3) := by decide +kernel
theorem dX6_add_13 : decode cX6_add 13 = .ok (.ifCond .ne 7, 3) := by decide +kernel
theorem dX6_add_16 : decode cX6_add 16 = .ok (.iconst 1, 1) := by decide +kernel
theorem dX6_add_17 : decode cX6_add 17 = .ok (.goto 4, 3) := by decide +kernel
theorem dX6_add_20 : decode cX6_add 20 = .ok (.iconst 3, 1) := by decide +kernel
theorem dX6_add_21 : decode cX6_add 21 = .ok (.invokevirtual 56, 3) := by decide +kernel
theorem dX6_add_24 : decode cX6_add 24 = .ok (.iadd, 1) := by decide +kernel
theorem dX6_add_25 : decode cX6_add 25 = .ok (.istore_n 2, 1) := by decide +kernel
theorem dX6_add_26 : decode cX6_add 26 = .ok (.aload_n 0, 1) := by decide +kernel
theorem dX6_add_27 : decode cX6_add 27 = .ok (.iconst 2, 1) := by decide +kernel
theorem dX6_add_28 : decode cX6_add 28 = .ok (.invokevirtual 56, 3) := by decide +kernel
theorem dX6_add_31 : decode cX6_add 31 = .ok (.ifCond .ne 12, 3) := by decide +kernel
theorem dX6_add_34 : decode cX6_add 34 = .ok (.aload_n 0, 1) := by decide +kernel
theorem dX6_add_35 : decode cX6_add 35 = .ok (.bipush 10, 2) := by decide +kernel
theorem dX6_add_37 : decode cX6_add 37 = .ok (.invokevirtual 56, 3) := by decide +kernel
theorem dX6_add_40 : decode cX6_add 40 = .ok (.goto 8, 3) := by decide +kernel
theorem dX6_add_43 : decode cX6_add 43 = .ok (.aload_n 0, 1) := by decide +kernel
theorem dX6_add_44 : decode cX6_add 44 = .ok (.iconst 3, 1) := by decide +kernel
theorem dX6_add_45 : decode cX6_add 45 = .ok (.invokevirtual 56, 3) := by decide +kernel
theorem dX6_add_48 : decode cX6_add 48 = .ok (.istore_n 3, 1) := by decide +kernel
theorem dX6_add_49 : decode cX6_add 49 = .ok (.aload_n 0, 1) := by decide +kernel
theorem dX6_add_50 : decode cX6_add 50 = .ok (.aload_n 0, 1) := by decide +kernel
theorem dX6_add_51 : decode cX6_add 51 = .ok (.getfield 16, 3) := by decide +kernel
theorem dX6_add_54 : decode cX6_add 54 = .ok (.invokevirtual 56, 3) := by decide +kernel
theorem dX6_add_57 : decode cX6_add 57 = .ok (.istore 4, 2) := by decide +kernel
theorem dX6_add_59 : decode cX6_add 59 = .ok (.aload_n 0, 1) := by decide +kernel
theorem dX6_add_60 : decode cX6_add 60 = .ok (.aload_n 0, 1) := by decide +kernel
theorem dX6_add_61 : decode cX6_add 61 = .ok (.getfield 20, 3) := by decide +kernel
theorem dX6_add_64 : decode cX6_add 64 = .ok (.invokevirtual 56, 3) := by decide +kernel
theorem dX6_add_67 : decode cX6_add 67 = .ok (.istore 5, 2) := by decide +kernel
theorem dX6_add_69 : decode cX6_add 69 = .ok (.aload_n 0, 1) := by decide +kernel
theorem dX6_add_70 : decode cX6_add 70 = .ok (.getfield 36, 3) := by decide +kernel
theorem dX6_add_73 : decode cX6_add 73 = .ok (.arraylength, 1) := by decide +kernel
theorem dX6_add_74 : decode cX6_add 74 = .ok (.bipush 24, 2) := by decide +kernel
theorem dX6_add_76 : decode cX6_add 76 = .ok (.if_icmp .ge 50, 3) := by decide +kernel
theorem dX6_add_79 : decode cX6_add 79 = .ok (.aload_n 0, 1) := by decide +kernel
theorem dX6_add_80 : decode cX6_add 80 = .ok (.getfield 31, 3) := by decide +kernel
theorem dX6_add_83 : decode cX6_add 83 = .ok (.iload 4, 2) := by decide +kernel
theorem dX6_add_85 : decode cX6_add 85 = .ok (.aaload, 1) := by decide +kernel
theorem dX6_add_86 : decode cX6_add 86 = .ok (.iload 5, 2) := by decide +kernel
theorem dX6_add_88 : decode cX6_add 88 = .ok (.aaload, 1) := by decide +kernel
theorem dX6_add_89 : decode cX6_add 89 = .ok (.iconst 0, 1) := by decide +kernel
theorem dX6_add_90 : decode cX6_add 90 = .ok (.iaload, 1) := by decide +kernel
theorem dX6_add_91 : decode cX6_add 91 = .ok (.ifCond .ne 35, 3) := by decide +kernel
theorem dX6_add_94 : decode cX6_add 94 = .ok (.aload_n 0, 1) := by decide +kernel
theorem dX6_add_95 : decode cX6_add 95 = .ok (.getfield 31, 3) := by decide +kernel
theorem dX6_add_98 : decode cX6_add 98 = .ok (.iload 4, 2) := by decide +kernel
theorem dX6_add_100 : decode cX6_add 100 = .ok (.aaload, 1) := by decide +kernel
theorem dX6_add_101 : decode cX6_add 101 = .ok (.iload 5, 2) := by decide +kernel
theorem dX6_add_103 : decode cX6_add 103 = .ok (.aaload, 1) := by decide +kernel
theorem dX6_add_104 : decode cX6_add 104 = .ok (.iconst 2, 1) := by decide +kernel
theorem dX6_add_105 : decode cX6_add 105 = .ok (.iload_n 1, 1) := by decide +kernel
theorem dX6_add_106 : decode cX6_add 106 = .ok (.iadd, 1) := by decide +kernel
theorem dX6_add_107 : decode cX6_add 107 = .ok (.iaload, 1) := by decide +kernel
theorem dX6_add_108 : decode cX6_add 108 = .ok (.ifCond .ne 18, 3) := by decide +kernel
theorem dX6_add_111 : decode cX6_add 111 = .ok (.aload_n 0, 1) := by decide +kernel
theorem dX6_add_112 : decode cX6_add 112 = .ok (.iload 4, 2) := by decide +kernel
theorem dX6_add_114 : decode cX6_add 114 = .ok (.iload 5, 2) := by decide +kernel
theorem dX6_add_116 : decode cX6_add 116 = .ok (.invokevirtual 74, 3) := by decide +kernel
theorem dX6_add_119 : decode cX6_add 119 = .ok (.ifCond .ne 7, 3) := by decide +kernel
theorem dX6_add_122 : decode cX6_add 122 = .ok (.iconst 1, 1) := by decide +kernel
theorem dX6_add_123 : decode cX6_add 123 = .ok (.goto 4, 3) := by decide +kernel
theorem dX6_add_126 : decode cX6_add 126 = .ok (.iconst 0, 1) := by decide +kernel
theorem dX6_add_127 : decode cX6_add 127 = .ok (.istore 6, 2) := by decide +kernel
theorem dX6_add_129 : decode cX6_add 129 = .ok (.aload_n 0, 1) := by decide +kernel
theorem dX6_add_130 : decode cX6_add 130 = .ok (.getfield 10, 3) := by decide +kernel
theorem dX6_add_133 : decode cX6_add 133 = .ok (.iload_n 1, 1) := by decide +kernel
theorem dX6_add_134 : decode cX6_add 134 = .ok (.iload_n 2, 1) := by decide +kernel
theorem dX6_add_135 : decode cX6_add 135 = .ok (.iload_n 3, 1) := by decide +kernel
theorem dX6_add_136 : decode cX6_add 136 = .ok (.iload 4, 2) := by decide +kernel
theorem dX6_add_138 : decode cX6_add 138 = .ok (.iload 5, 2) := by decide +kernel
theorem dX6_add_140 : decode cX6_add 140 = .ok (.invokevirtual 95, 3) := by decide +kernel
theorem dX6_add_143 : decode cX6_add 143 = .ok (.istore 7, 2) := by decide +kernel
theorem dX6_add_145 : decode cX6_add 145 = .ok (.iload 6, 2) := by decide +kernel
theorem dX6_add_147 : decode cX6_add 147 = .ok (.ifCond .ne 5, 3) := by decide +kernel
theorem dX6_add_150 : decode cX6_add 150 = .ok (.iconst 0, 1) := by decide +kernel
theorem dX6_add_151 : decode cX6_add 151 = .ok (.ireturn, 1) := by decide +kernel
theorem dX6_add_152 : decode cX6_add 152 = .ok (.bipush 9, 2) := by decide +kernel
theorem dX6_add_154 : decode cX6_add 154 = .ok (.newarray .int, 2) := by decide +kernel
theorem dX6_add_156 : decode cX6_add 156 = .ok (.dup, 1) := by decide +kernel
theorem dX6_add_157 : decode cX6_add 157 = .ok (.iconst 0, 1) := by decide +kernel
theorem dX6_add_158 : decode cX6_add 158 = .ok (.iload_n 1, 1) := by decide +kernel
theorem dX6_add_159 : decode cX6_add 159 = .ok (.iastore, 1) := by decide +kernel
theorem dX6_add_160 : decode cX6_add 160 = .ok (.dup, 1) := by decide +kernel
theorem dX6_add_161 : decode cX6_add 161 = .ok (.iconst 1, 1) := by decide +kernel
theorem dX6_add_162 : decode cX6_add 162 = .ok (.iload_n 2, 1) := by decide +kernel
theorem dX6_add_163 : decode cX6_add 163 = .ok (.iastore, 1) := by decide +kernel
theorem dX6_add_164 : decode cX6_add 164 = .ok (.dup, 1) := by decide +kernel
theorem dX6_add_165 : decode cX6_add 165 = .ok (.iconst 2, 1) := by decide +kernel
theorem dX6_add_166 : decode cX6_add 166 = .ok (.iload_n 3, 1) := by decide +kernel
theorem dX6_add_167 : decode cX6_add 167 = .ok (.iastore, 1) := by decide +kernel
theorem dX6_add_168 : decode cX6_add 168 = .ok (.dup, 1) := by decide +kernel
theorem dX6_add_169 : decode cX6_add 169 = .ok (.iconst 3, 1) := by decide +kernel
theorem dX6_add_170 : decode cX6_add 170 = .ok (.iload 4, 2) := by decide +kernel
theorem dX6_add_172 : decode cX6_add 172 = .ok (.iastore, 1) := by decide +kernel
theorem dX6_add_173 : decode cX6_add 173 = .ok (.dup, 1) := by decide +kernel
theorem dX6_add_174 : decode cX6_add 174 = .ok (.iconst 4, 1) := by decide +kernel
theorem dX6_add_175 : decode cX6_add 175 = .ok (.iload 5, 2) := by decide +kernel
theorem dX6_add_177 : decode cX6_add 177 = .ok (.iastore, 1) := by decide +kernel
theorem dX6_add_178 : decode cX6_add 178 = .ok (.dup, 1) := by decide +kernel
theorem dX6_add_179 : decode cX6_add 179 = .ok (.iconst 5, 1) := by decide +kernel
theorem dX6_add_180 : decode cX6_add 180 = .ok (.iconst 4, 1) := by decide +kernel
theorem dX6_add_181 : decode cX6_add 181 = .ok (.iastore, 1) := by decide +kernel
theorem dX6_add_182 : decode cX6_add 182 = .ok (.dup, 1) := by decide +kernel
theorem dX6_add_183 : decode cX6_add 183 = .ok (.bipush 6, 2) := by decide +kernel
theorem dX6_add_185 : decode cX6_add 185 = .ok (.iconst 0, 1) := by decide +kernel
theorem dX6_add_186 : decode cX6_add 186 = .ok (.iastore, 1) := by decide +kernel
theorem dX6_add_187 : decode cX6_add 187 = .ok (.dup, 1) := by decide +kernel
theorem dX6_add_188 : decode cX6_add 188 = .ok (.bipush 7, 2) := by decide +kernel
theorem dX6_add_190 : decode cX6_add 190 = .ok (.iconst 0, 1) := by decide +kernel
theorem dX6_add_191 : decode cX6_add 191 = .ok (.iastore, 1) := by decide +kernel
theorem dX6_add_192 : decode cX6_add 192 = .ok (.dup, 1) := by decide +kernel
theorem dX6_add_193 : decode cX6_add 193 = .ok (.bipush 8, 2) := by decide +kernel
theorem dX6_add_195 : decode cX6_add 195 = .ok (.iconst (-1), 1) := by decide +kernel
theorem dX6_add_196 : decode cX6_add 196 = .ok (.iastore, 1) := by decide +kernel
theorem dX6_add_197 : decode cX6_add 197 = .ok (.astore 8, 2) := by decide +kernel
theorem dX6_add_199 : decode cX6_add 199 = .ok (.aload_n 0, 1) := by decide +kernel
theorem dX6_add_200 : decode cX6_add 200 = .ok (.getfield 36, 3) := by decide +kernel
theorem dX6_add_203 : decode cX6_add 203 = .ok (.arraylength, 1) := by decide +kernel
theorem dX6_add_204 : decode cX6_add 204 = .ok (.iconst 1, 1) := by decide +kernel
theorem dX6_add_205 : decode cX6_add 205 = .ok (.iadd, 1) := by decide +kernel
theorem dX6_add_206 : decode cX6_add 206 = .ok (.anewarray 34, 3) := by decide +kernel
theorem dX6_add_209 : decode cX6_add 209 = .ok (.astore 9, 2) := by decide +kernel
theorem dX6_add_211 : decode cX6_add 211 = .ok (.aload_n 0, 1) := by decide +kernel
theorem dX6_add_212 : decode cX6_add 212 = .ok (.getfield 36, 3) := by decide +kernel
theorem dX6_add_215 : decode cX6_add 215 = .ok (.iconst 0, 1) := by decide +kernel
theorem dX6_add_216 : decode cX6_add 216 = .ok (.aload 9, 2) := by decide +kernel
theorem dX6_add_218 : decode cX6_add 218 = .ok (.iconst 0, 1) := by decide +kernel
theorem dX6_add_219 : decode cX6_add 219 = .ok (.aload_n 0, 1) := by decide +kernel
theorem dX6_add_220 : decode cX6_add 220 = .ok (.getfield 36, 3) := by decide +kernel
theorem dX6_add_223 : decode cX6_add 223 = .ok (.arraylength, 1) := by decide +kernel
theorem dX6_add_224 : decode cX6_add 224 = .ok (.invokestatic 99, 3) := by decide +kernel
theorem dX6_add_227 : decode cX6_add 227 = .ok (.aload 9, 2) := by decide +kernel
theorem dX6_add_229 : decode cX6_add 229 = .ok (.aload_n 0, 1) := by decide +kernel
theorem dX6_add_230 : decode cX6_add 230 = .ok (.getfield 36, 3) := by decide +kernel
theorem dX6_add_233 : decode cX6_add 233 = .ok (.arraylength, 1) := by decide +kernel
theorem dX6_add_234 : decode cX6_add 234 = .ok (.aload 8, 2) := by decide +kernel
theorem dX6_add_236 : decode cX6_add 236 = .ok (.aastore, 1) := by decide +kernel
theorem dX6_add_237 : decode cX6_add 237 = .ok (.aload_n 0, 1) := by decide +kernel
theorem dX6_add_238 : decode cX6_add 238 = .ok (.aload 9, 2) := by decide +kernel
theorem dX6_add_240 : decode cX6_add 240 = .ok (.putfield 36, 3) := by decide +kernel
theorem dX6_add_243 : decode cX6_add 243 = .ok (.iload 7, 2) := by decide +kernel
theorem dX6_add_245 : decode cX6_add 245 = .ok (.aload_n 0, 1) := by decide +kernel
theorem dX6_add_246 : decode cX6_add 246 = .ok (.getfield 36, 3) := by decide +kernel
theorem dX6_add_249 : decode cX6_add 249 = .ok (.arraylength, 1) := by decide +kernel
theorem dX6_add_250 : decode cX6_add 250 = .ok (.iconst 1, 1) := by decide +kernel
theorem dX6_add_251 : decode cX6_add 251 = .ok (.isub, 1) := by decide +kernel
theorem dX6_add_252 : decode cX6_add 252 = .ok (.if_icmp .ne 7, 3) := by decide +kernel
theorem dX6_add_255 : decode cX6_add 255 = .ok (.iconst 1, 1) := by decide +kernel
theorem dX6_add_256 : decode cX6_add 256 = .ok (.goto 4, 3) := by decide +kernel
theorem dX6_add_259 : decode cX6_add 259 = .ok (.iconst 0, 1) := by decide +kernel
theorem dX6_add_260 : decode cX6_add 260 = .ok (.ireturn, 1) := by decide +kernel
theorem dX6_add_261 : decode cX6_add 261 = .ok (.astore 7, 2) := by decide +kernel
theorem dX6_add_263 : decode cX6_add 263 = .ok (.iload 6, 2) := by decide +kernel
theorem dX6_add_265 : decode cX6_add 265 = .ok (.ifCond .ne 7, 3) := by decide +kernel
theorem dX6_add_268 : decode cX6_add 268 = .ok (.iconst 1, 1) := by decide +kernel
theorem dX6_add_269 : decode cX6_add 269 = .ok (.goto 4, 3) := by decide +kernel
theorem dX6_add_272 : decode cX6_add 272 = .ok (.iconst 0, 1) := by decide +kernel
theorem dX6_add_273 : decode cX6_add 273 = .ok (.ireturn, 1) := by decide +kernel
theorem dX6_turnTo_0 : decode cX6_turnTo 0 = .ok (.aload_n 0, 1) := by decide +kernel
theorem dX6_turnTo_1 : decode cX6_turnTo 1 = .ok (.getfield 36, 3) := by decide +kernel
theorem dX6_turnTo_4 : decode cX6_turnTo 4 = .ok (.arraylength, 1) := by decide +kernel
theorem dX6_turnTo_5 : decode cX6_turnTo 5 = .ok (.ifCond .ne 5, 3) := by decide +kernel
theorem dX6_turnTo_8 : decode cX6_turnTo 8 = .ok (.iconst 1, 1) := by decide +kernel
theorem dX6_turnTo_9 : decode cX6_turnTo 9 = .ok (.ireturn, 1) := by decide +kernel
theorem dX6_turnTo_10 : decode cX6_turnTo 10 = .ok (.aload_n 0, 1) := by decide +kernel
theorem dX6_turnTo_11 : decode cX6_turnTo 11 = .ok (.aload_n 0, 1) := by decide +kernel
theorem dX6_turnTo_12 : decode cX6_turnTo 12 = .ok (.getfield 36, 3) := by decide +kernel
theorem dX6_turnTo_15 : decode cX6_turnTo 15 = .ok (.arraylength, 1) := by decide +kernel
theorem dX6_turnTo_16 : decode cX6_turnTo 16 = .ok (.invokevirtual 56, 3) := by decide +kernel
theorem dX6_turnTo_19 : decode cX6_turnTo 19 = .ok (.istore_n 1, 1) := by decide +kernel
theorem dX6_turnTo_20 : decode cX6_turnTo 20 = .ok (.aload_n 0, 1) := by decide +kernel
theorem dX6_turnTo_21 : decode cX6_turnTo 21 = .ok (.iconst 3, 1) := by decide +kernel
theorem dX6_turnTo_22 : decode cX6_turnTo 22 = .ok (.invokevirtual 56, 3) := by decide +kernel
theorem dX6_turnTo_25 : decode cX6_turnTo 25 = .ok (.istore_n 2, 1) := by decide +kernel
theorem dX6_turnTo_26 : decode cX6_turnTo 26 = .ok (.aload_n 0, 1) := by decide +kernel
theorem dX6_turnTo_27 : decode cX6_turnTo 27 = .ok (.bipush 10, 2) := by decide +kernel
theorem dX6_turnTo_29 : decode cX6_turnTo 29 = .ok (.invokevirtual 56, 3) := by decide +kernel
theorem dX6_turnTo_32 : decode cX6_turnTo 32 = .ok (.istore_n 3, 1) := by decide +kernel
theorem dX6_turnTo_33 : decode cX6_turnTo 33 = .ok (.aload_n 0, 1) := by decide +kernel
theorem dX6_turnTo_34 : decode cX6_turnTo 34 = .ok (.getfield 36, 3) := by decide +kernel
theorem dX6_turnTo_37 : decode cX6_turnTo 37 = .ok (.iload_n 1, 1) := by decide +kernel
theorem dX6_turnTo_38 : decode cX6_turnTo 38 = .ok (.aaload, 1) := by decide +kernel
theorem dX6_turnTo_39 : decode cX6_turnTo 39 = .ok (.astore 4, 2) := by decide +kernel
theorem dX6_turnTo_41 : decode cX6_turnTo 41 = .ok (.aload 4, 2) := by decide +kernel
theorem dX6_turnTo_43 : decode cX6_turnTo 43 = .ok (.iconst 3, 1) := by decide +kernel
theorem dX6_turnTo_44 : decode cX6_turnTo 44 = .ok (.iaload, 1) := by decide +kernel
theorem dX6_turnTo_45 : decode cX6_turnTo 45 = .ok (.ifCond .lt 28, 3) := by decide +kernel
theorem dX6_turnTo_48 : decode cX6_turnTo 48 = .ok (.aload_n 0, 1) := by decide +kernel
theorem dX6_turnTo_49 : decode cX6_turnTo 49 = .ok (.getfield 31, 3) := by decide +kernel
theorem dX6_turnTo_52 : decode cX6_turnTo 52 = .ok (.aload 4, 2) := by decide +kernel
theorem dX6_turnTo_54 : decode cX6_turnTo 54 = .ok (.iconst 3, 1) := by decide +kernel
theorem dX6_turnTo_55 : decode cX6_turnTo 55 = .ok (.iaload, 1) := by decide +kernel
theorem dX6_turnTo_56 : decode cX6_turnTo 56 = .ok (.aaload, 1) := by decide +kernel
theorem dX6_turnTo_57 : decode cX6_turnTo 57 = .ok (.aload 4, 2) := by decide +kernel
theorem dX6_turnTo_59 : decode cX6_turnTo 59 = .ok (.iconst 4, 1) := by decide +kernel
theorem dX6_turnTo_60 : decode cX6_turnTo 60 = .ok (.iaload, 1) := by decide +kernel
theorem dX6_turnTo_61 : decode cX6_turnTo 61 = .ok (.aaload, 1) := by decide +kernel
theorem dX6_turnTo_62 : decode cX6_turnTo 62 = .ok (.iconst 2, 1) := by decide +kernel
theorem dX6_turnTo_63 : decode cX6_turnTo 63 = .ok (.iload_n 2, 1) := by decide +kernel
theorem dX6_turnTo_64 : decode cX6_turnTo 64 = .ok (.iadd, 1) := by decide +kernel
theorem dX6_turnTo_65 : decode cX6_turnTo 65 = .ok (.iaload, 1) := by decide +kernel
theorem dX6_turnTo_66 : decode cX6_turnTo 66 = .ok (.ifCond .ne 7, 3) := by decide +kernel
theorem dX6_turnTo_69 : decode cX6_turnTo 69 = .ok (.iconst 1, 1) := by decide +kernel
theorem dX6_turnTo_70 : decode cX6_turnTo 70 = .ok (.goto 4, 3) := by decide +kernel
theorem dX6_turnTo_73 : decode cX6_turnTo 73 = .ok (.iconst 0, 1) := by decide +kernel
theorem dX6_turnTo_74 : decode cX6_turnTo 74 = .ok (.istore 5, 2) := by decide +kernel
theorem dX6_turnTo_76 : decode cX6_turnTo 76 = .ok (.aload_n 0, 1) := by decide +kernel
theorem dX6_turnTo_77 : decode cX6_turnTo 77 = .ok (.getfield 10, 3) := by decide +kernel
theorem dX6_turnTo_80 : decode cX6_turnTo 80 = .ok (.iload_n 1, 1) := by decide +kernel
theorem dX6_turnTo_81 : decode cX6_turnTo 81 = .ok (.iload_n 2, 1) := by decide +kernel
theorem dX6_turnTo_82 : decode cX6_turnTo 82 = .ok (.iload_n 3, 1) := by decide +kernel
theorem dX6_turnTo_83 : decode cX6_turnTo 83 = .ok (.invokevirtual 105, 3) := by decide +kernel
theorem dX6_turnTo_86 : decode cX6_turnTo 86 = .ok (.istore 6, 2) := by decide +kernel
theorem dX6_turnTo_88 : decode cX6_turnTo 88 = .ok (.iload 5, 2) := by decide +kernel
theorem dX6_turnTo_90 : decode cX6_turnTo 90 = .ok (.ifCond .ne 5, 3) := by decide +kernel
theorem dX6_turnTo_93 : decode cX6_turnTo 93 = .ok (.iconst 0, 1) := by decide +kernel
theorem dX6_turnTo_94 : decode cX6_turnTo 94 = .ok (.ireturn, 1) := by decide +kernel
theorem dX6_turnTo_95 : decode cX6_turnTo 95 = .ok (.aload 4, 2) := by decide +kernel
theorem dX6_turnTo_97 : decode cX6_turnTo 97 = .ok (.iconst 0, 1) := by decide +kernel
theorem dX6_turnTo_98 : decode cX6_turnTo 98 = .ok (.iaload, 1) := by decide +kernel
theorem dX6_turnTo_99 : decode cX6_turnTo 99 = .ok (.istore 7, 2) := by decide +kernel
theorem dX6_turnTo_101 : decode cX6_turnTo 101 = .ok (.aload 4, 2) := by decide +kernel
theorem dX6_turnTo_103 : decode cX6_turnTo 103 = .ok (.iconst 0, 1) := by decide +kernel
theorem dX6_turnTo_104 : decode cX6_turnTo 104 = .ok (.iload_n 2, 1) := by decide +kernel
theorem dX6_turnTo_105 : decode cX6_turnTo 105 = .ok (.iastore, 1) := by decide +kernel
theorem dX6_turnTo_106 : decode cX6_turnTo 106 = .ok (.aload 4, 2) := by decide +kernel
theorem dX6_turnTo_108 : decode cX6_turnTo 108 = .ok (.iconst 2, 1) := by decide +kernel
theorem dX6_turnTo_109 : decode cX6_turnTo 109 = .ok (.iload_n 3, 1) := by decide +kernel
theorem dX6_turnTo_110 : decode cX6_turnTo 110 = .ok (.iastore, 1) := by decide +kernel
theorem dX6_turnTo_111 : decode cX6_turnTo 111 = .ok (.iload 6, 2) := by decide +kernel
theorem dX6_turnTo_113 : decode cX6_turnTo 113 = .ok (.iload 7, 2) := by decide +kernel
theorem dX6_turnTo_115 : decode cX6_turnTo 115 = .ok (.if_icmp .ne 7, 3) := by decide +kernel
theorem dX6_turnTo_118 : decode cX6_turnTo 118 = .ok (.iconst 1, 1) := by decide +kernel
theorem dX6_turnTo_119 : decode cX6_turnTo 119 = .ok (.goto 4, 3) := by decide +kernel
theorem dX6_turnTo_122 : decode cX6_turnTo 122 = .ok (.iconst 0, 1) := by decide +kernel
theorem dX6_turnTo_123 : decode cX6_turnTo 123 = .ok (.ireturn, 1) := by decide +kernel
theorem dX6_turnTo_124 : decode cX6_turnTo 124 = .ok (.astore 6, 2) := by decide +kernel
theorem dX6_turnTo_126 : decode cX6_turnTo 126 = .ok (.iload 5, 2) := by decide +kernel
theorem dX6_turnTo_128 : decode cX6_turnTo 128 = .ok (.ifCond .ne 7, 3) := by decide +kernel
theorem dX6_turnTo_131 : decode cX6_turnTo 131 = .ok (.iconst 1, 1) := by decide +kernel
theorem dX6_turnTo_132 : decode cX6_turnTo 132 = .ok (.goto 4, 3) := by decide +kernel
theorem dX6_turnTo_135 : decode cX6_turnTo 135 = .ok (.iconst 0, 1) := by decide +kernel
theorem dX6_turnTo_136 : decode cX6_turnTo 136 = .ok (.ireturn, 1) := by decide +kernel
theorem dX6_sideX_0 : decode cX6_sideX 0 = .ok (.iload_n 0, 1) := by decide +kernel
theorem dX6_sideX_1 : decode cX6_sideX 1 = .ok (.ifCond .ne 7, 3) := by decide +kernel
theorem dX6_sideX_4 : decode cX6_sideX 4 = .ok (.iconst 1, 1) := by decide +kernel
theorem dX6_sideX_5 : decode cX6_sideX 5 = .ok (.goto 13, 3) := by decide +kernel
theorem dX6_sideX_8 : decode cX6_sideX 8 = .ok (.iload_n 0, 1) := by decide +kernel
theorem dX6_sideX_9 : decode cX6_sideX 9 = .ok (.iconst 2, 1) := by decide +kernel
theorem dX6_sideX_10 : decode cX6_sideX 10 = .ok (.if_icmp .ne 7, 3) := by decide +kernel
theorem dX6_sideX_13 : decode cX6_sideX 13 = .ok (.iconst (-1), 1) := by decide +kernel
theorem dX6_sideX_14 : decode cX6_sideX 14 = .ok (.goto 4, 3) := by decide +kernel
theorem dX6_sideX_17 : decode cX6_sideX 17 = .ok (.iconst 0, 1) := by decide +kernel
theorem dX6_sideX_18 : decode cX6_sideX 18 = .ok (.ireturn, 1) := by decide +kernel
theorem dX6_sideY_0 : decode cX6_sideY 0 = .ok (.iload_n 0, 1) := by decide +kernel
theorem dX6_sideY_1 : decode cX6_sideY 1 = .ok (.iconst 1, 1) := by decide +kernel
theorem dX6_sideY_2 : decode cX6_sideY 2 = .ok (.if_icmp .ne 7, 3) := by decide +kernel
theorem dX6_sideY_5 : decode cX6_sideY 5 = .ok (.iconst 1, 1) := by decide +kernel
theorem dX6_sideY_6 : decode cX6_sideY 6 = .ok (.goto 13, 3) := by decide +kernel
theorem dX6_sideY_9 : decode cX6_sideY 9 = .ok (.iload_n 0, 1) := by decide +kernel
theorem dX6_sideY_10 : decode cX6_sideY 10 = .ok (.iconst 3, 1) := by decide +kernel
theorem dX6_sideY_11 : decode cX6_sideY 11 = .ok (.if_icmp .ne 7, 3) := by decide +kernel
theorem dX6_sideY_14 : decode cX6_sideY 14 = .ok (.iconst (-1), 1) := by decide +kernel
theorem dX6_sideY_15 : decode cX6_sideY 15 = .ok (.goto 4, 3) := by decide +kernel
theorem dX6_sideY_18 : decode cX6_sideY 18 = .ok (.iconst 0, 1) := by decide +kernel
theorem dX6_sideY_19 : decode cX6_sideY 19 = .ok (.ireturn, 1) := by decide +kernel
theorem dX6_isFree_0 : decode cX6_isFree 0 = .ok (.iload_n 1, 1) := by decide +kernel
theorem dX6_isFree_1 : decode cX6_isFree 1 = .ok (.ifCond .lt 40, 3) := by decide +kernel
theorem dX6_isFree_4 : decode cX6_isFree 4 = .ok (.iload_n 1, 1) := by decide +kernel
theorem dX6_isFree_5 : decode cX6_isFree 5 = .ok (.aload_n 0, 1) := by decide +kernel
theorem dX6_isFree_6 : decode cX6_isFree 6 = .ok (.getfield 16, 3) := by decide +kernel
theorem dX6_isFree_9 : decode cX6_isFree 9 = .ok (.if_icmp .ge 32, 3) := by decide +kernel
theorem dX6_isFree_12 : decode cX6_isFree 12 = .ok (.iload_n 2, 1) := by decide +kernel
theorem dX6_isFree_13 : decode cX6_isFree 13 = .ok (.ifCond .lt 28, 3) := by decide +kernel
theorem dX6_isFree_16 : decode cX6_isFree 16 = .ok (.iload_n 2, 1) := by decide +kernel
theorem dX6_isFree_17 : decode cX6_isFree 17 = .ok (.aload_n 0, 1) := by decide +kernel
theorem dX6_isFree_18 : decode cX6_isFree 18 = .ok (.getfield 20, 3) := by decide +kernel
theorem dX6_isFree_21 : decode cX6_isFree 21 = .ok (.if_icmp .ge 20, 3) := by decide +kernel
theorem dX6_isFree_24 : decode cX6_isFree 24 = .ok (.aload_n 0, 1) := by decide +kernel
theorem dX6_isFree_25 : decode cX6_isFree 25 = .ok (.getfield 31, 3) := by decide +kernel
theorem dX6_isFree_28 : decode cX6_isFree 28 = .ok (.iload_n 1, 1) := by decide +kernel
theorem dX6_isFree_29 : decode cX6_isFree 29 = .ok (.aaload, 1) := by decide +kernel
theorem dX6_isFree_30 : decode cX6_isFree 30 = .ok (.iload_n 2, 1) := by decide +kernel
theorem dX6_isFree_31 : decode cX6_isFree 31 = .ok (.aaload, 1) := by decide +kernel
theorem dX6_isFree_32 : decode cX6_isFree 32 = .ok (.iconst 0, 1) := by decide +kernel
theorem dX6_isFree_33 : decode cX6_isFree 33 = .ok (.iaload, 1) := by decide +kernel
theorem dX6_isFree_34 : decode cX6_isFree 34 = .ok (.ifCond .ne 7, 3) := by decide +kernel
theorem dX6_isFree_37 : decode cX6_isFree 37 = .ok (.iconst 1, 1) := by decide +kernel
theorem dX6_isFree_38 : decode cX6_isFree 38 = .ok (.goto 4, 3) := by decide +kernel
theorem dX6_isFree_41 : decode cX6_isFree 41 = .ok (.iconst 0, 1) := by decide +kernel
theorem dX6_isFree_42 : decode cX6_isFree 42 = .ok (.ireturn, 1) := by decide +kernel
theorem dX6_far_0 : decode cX6_far 0 = .ok (.aload_n 0, 1) := by decide +kernel
theorem dX6_far_1 : decode cX6_far 1 = .ok (.getfield 16, 3) := by decide +kernel
theorem dX6_far_4 : decode cX6_far 4 = .ok (.aload_n 0, 1) := by decide +kernel
theorem dX6_far_5 : decode cX6_far 5 = .ok (.getfield 20, 3) := by decide +kernel
theorem dX6_far_8 : decode cX6_far 8 = .ok (.multianewarray 108 2, 4) := by decide +kernel
theorem dX6_far_12 : decode cX6_far 12 = .ok (.astore_n 2, 1) := by decide +kernel
theorem dX6_far_13 : decode cX6_far 13 = .ok (.iconst 0, 1) := by decide +kernel
theorem dX6_far_14 : decode cX6_far 14 = .ok (.istore_n 3, 1) := by decide +kernel
theorem dX6_far_15 : decode cX6_far 15 = .ok (.iload_n 3, 1) := by decide +kernel
theorem dX6_far_16 : decode cX6_far 16 = .ok (.aload_n 0, 1) := by decide +kernel
theorem dX6_far_17 : decode cX6_far 17 = .ok (.getfield 16, 3) := by decide +kernel
theorem dX6_far_20 : decode cX6_far 20 = .ok (.if_icmp .ge 65, 3) := by decide +kernel
theorem dX6_far_23 : decode cX6_far 23 = .ok (.iconst 0, 1) := by decide +kernel
theorem dX6_far_24 : decode cX6_far 24 = .ok (.istore 4, 2) := by decide +kernel
theorem dX6_far_26 : decode cX6_far 26 = .ok (.iload 4, 2) := by decide +kernel
theorem dX6_far_28 : decode cX6_far 28 = .ok (.aload_n 0, 1) := by decide +kernel
theorem dX6_far_29 : decode cX6_far 29 = .ok (.getfield 20, 3) := by decide +kernel
theorem dX6_far_32 : decode cX6_far 32 = .ok (.if_icmp .ge 47, 3) := by decide +kernel
theorem dX6_far_35 : decode cX6_far 35 = .ok (.aload_n 2, 1) := by decide +kernel
theorem dX6_far_36 : decode cX6_far 36 = .ok (.iload_n 3, 1) := by decide +kernel
theorem dX6_far_37 : decode cX6_far 37 = .ok (.aaload, 1) := by decide +kernel
theorem dX6_far_38 : decode cX6_far 38 = .ok (.iload 4, 2) := by decide +kernel
theorem dX6_far_40 : decode cX6_far 40 = .ok (.aload_n 0, 1) := by decide +kernel
theorem dX6_far_41 : decode cX6_far 41 = .ok (.iload_n 3, 1) := by decide +kernel
theorem dX6_far_42 : decode cX6_far 42 = .ok (.iload 4, 2) := by decide +kernel
theorem dX6_far_44 : decode cX6_far 44 = .ok (.invokevirtual 109, 3) := by decide +kernel
theorem dX6_far_47 : decode cX6_far 47 = .ok (.ifCond .eq 24, 3) := by decide +kernel
theorem dX6_far_50 : decode cX6_far 50 = .ok (.aload_n 0, 1) := by decide +kernel
theorem dX6_far_51 : decode cX6_far 51 = .ok (.getfield 31, 3) := by decide +kernel
theorem dX6_far_54 : decode cX6_far 54 = .ok (.iload_n 3, 1) := by decide +kernel
theorem dX6_far_55 : decode cX6_far 55 = .ok (.aaload, 1) := by decide +kernel
theorem dX6_far_56 : decode cX6_far 56 = .ok (.iload 4, 2) := by decide +kernel
theorem dX6_far_58 : decode cX6_far 58 = .ok (.aaload, 1) := by decide +kernel
theorem dX6_far_59 : decode cX6_far 59 = .ok (.iconst 2, 1) := by decide +kernel
theorem dX6_far_60 : decode cX6_far 60 = .ok (.iload_n 1, 1) := by decide +kernel
theorem dX6_far_61 : decode cX6_far 61 = .ok (.iadd, 1) := by decide +kernel
theorem dX6_far_62 : decode cX6_far 62 = .ok (.iaload, 1) := by decide +kernel
theorem dX6_far_63 : decode cX6_far 63 = .ok (.iconst 1, 1) := by decide +kernel
theorem dX6_far_64 : decode cX6_far 64 = .ok (.if_icmp .ne 7, 3) := by decide +kernel
theorem dX6_far_67 : decode cX6_far 67 = .ok (.iconst 0, 1) := by decide +kernel
theorem dX6_far_68 : decode cX6_far 68 = .ok (.goto 4, 3) := by decide +kernel
theorem dX6_far_71 : decode cX6_far 71 = .ok (.iconst (-1), 1) := by decide +kernel
theorem dX6_far_72 : decode cX6_far 72 = .ok (.iastore, 1) := by decide +kernel
theorem dX6_far_73 : decode cX6_far 73 = .ok (.iinc 4 1, 3) := by decide +kernel
theorem dX6_far_76 : decode cX6_far 76 = .ok (.goto (-50), 3) := by decide +kernel
theorem dX6_far_79 : decode cX6_far 79 = .ok (.iinc 3 1, 3) := by decide +kernel
theorem dX6_far_82 : decode cX6_far 82 = .ok (.goto (-67), 3) := by decide +kernel
theorem dX6_far_85 : decode cX6_far 85 = .ok (.iconst 1, 1) := by decide +kernel
theorem dX6_far_86 : decode cX6_far 86 = .ok (.istore_n 3, 1) := by decide +kernel
theorem dX6_far_87 : decode cX6_far 87 = .ok (.iload_n 3, 1) := by decide +kernel
theorem dX6_far_88 : decode cX6_far 88 = .ok (.aload_n 0, 1) := by decide +kernel
theorem dX6_far_89 : decode cX6_far 89 = .ok (.getfield 16, 3) := by decide +kernel
theorem dX6_far_92 : decode cX6_far 92 = .ok (.aload_n 0, 1) := by decide +kernel
theorem dX6_far_93 : decode cX6_far 93 = .ok (.getfield 20, 3) := by decide +kernel
theorem dX6_far_96 : decode cX6_far 96 = .ok (.imul, 1) := by decide +kernel
theorem dX6_far_97 : decode cX6_far 97 = .ok (.if_icmp .gt 175, 3) := by decide +kernel
theorem dX6_far_100 : decode cX6_far 100 = .ok (.iconst 0, 1) := by decide +kernel
theorem dX6_far_101 : decode cX6_far 101 = .ok (.istore 4, 2) := by decide +kernel
theorem dX6_far_103 : decode cX6_far 103 = .ok (.iconst 0, 1) := by decide +kernel
theorem dX6_far_104 : decode cX6_far 104 = .ok (.istore 5, 2) := by decide +kernel
theorem dX6_far_106 : decode cX6_far 106 = .ok (.iload 5, 2) := by decide +kernel
theorem dX6_far_108 : decode cX6_far 108 = .ok (.aload_n 0, 1) := by decide +kernel
theorem dX6_far_109 : decode cX6_far 109 = .ok (.getfield 16, 3) := by decide +kernel
theorem dX6_far_112 : decode cX6_far 112 = .ok (.if_icmp .ge 146, 3) := by decide +kernel
theorem dX6_far_115 : decode cX6_far 115 = .ok (.iconst 0, 1) := by decide +kernel
theorem dX6_far_116 : decode cX6_far 116 = .ok (.istore 6, 2) := by decide +kernel
theorem dX6_far_118 : decode cX6_far 118 = .ok (.iload 6, 2) := by decide +kernel
theorem dX6_far_120 : decode cX6_far 120 = .ok (.aload_n 0, 1) := by decide +kernel
theorem dX6_far_121 : decode cX6_far 121 = .ok (.getfield 20, 3) := by decide +kernel
theorem dX6_far_124 : decode cX6_far 124 = .ok (.if_icmp .ge 128, 3) := by decide +kernel
theorem dX6_far_127 : decode cX6_far 127 = .ok (.aload_n 0, 1) := by decide +kernel
theorem dX6_far_128 : decode cX6_far 128 = .ok (.iload 5, 2) := by decide +kernel
theorem dX6_far_130 : decode cX6_far 130 = .ok (.iload 6, 2) := by decide +kernel
theorem dX6_far_132 : decode cX6_far 132 = .ok (.invokevirtual 109, 3) := by decide +kernel
theorem dX6_far_135 : decode cX6_far 135 = .ok (.ifCond .eq 111, 3) := by decide +kernel
theorem dX6_far_138 : decode cX6_far 138 = .ok (.aload_n 2, 1) := by decide +kernel
theorem dX6_far_139 : decode cX6_far 139 = .ok (.iload 5, 2) := by decide +kernel
theorem dX6_far_141 : decode cX6_far 141 = .ok (.aaload, 1) := by decide +kernel
theorem dX6_far_142 : decode cX6_far 142 = .ok (.iload 6, 2) := by decide +kernel
theorem dX6_far_144 : decode cX6_far 144 = .ok (.iaload, 1) := by decide +kernel
theorem dX6_far_145 : decode cX6_far 145 = .ok (.ifCond .lt 6, 3) := by decide +kernel
theorem dX6_far_148 : decode cX6_far 148 = .ok (.goto 98, 3) := by decide +kernel
theorem dX6_far_151 : decode cX6_far 151 = .ok (.iconst 0, 1) := by decide +kernel
theorem dX6_far_152 : decode cX6_far 152 = .ok (.istore 7, 2) := by decide +kernel
theorem dX6_far_154 : decode cX6_far 154 = .ok (.iconst 0, 1) := by decide +kernel
theorem dX6_far_155 : decode cX6_far 155 = .ok (.istore 8, 2) := by decide +kernel
theorem dX6_far_157 : decode cX6_far 157 = .ok (.iload 8, 2) := by decide +kernel
theorem dX6_far_159 : decode cX6_far 159 = .ok (.iconst 4, 1) := by decide +kernel
theorem dX6_far_160 : decode cX6_far 160 = .ok (.if_icmp .ge 67, 3) := by decide +kernel
theorem dX6_far_163 : decode cX6_far 163 = .ok (.iload 7, 2) := by decide +kernel
theorem dX6_far_165 : decode cX6_far 165 = .ok (.aload_n 0, 1) := by decide +kernel
theorem dX6_far_166 : decode cX6_far 166 = .ok (.iload 5, 2) := by decide +kernel
theorem dX6_far_168 : decode cX6_far 168 = .ok (.iload 8, 2) := by decide +kernel
theorem dX6_far_170 : decode cX6_far 170 = .ok (.invokestatic 112, 3) := by decide +kernel
theorem dX6_far_173 : decode cX6_far 173 = .ok (.iadd, 1) := by decide +kernel
theorem dX6_far_174 : decode cX6_far 174 = .ok (.iload 6, 2) := by decide +kernel
theorem dX6_far_176 : decode cX6_far 176 = .ok (.iload 8, 2) := by decide +kernel
theorem dX6_far_178 : decode cX6_far 178 = .ok (.invokestatic 115, 3) := by decide +kernel
theorem dX6_far_181 : decode cX6_far 181 = .ok (.iadd, 1) := by decide +kernel
theorem dX6_far_182 : decode cX6_far 182 = .ok (.invokevirtual 109, 3) := by decide +kernel
theorem dX6_far_185 : decode cX6_far 185 = .ok (.ifCond .eq 32, 3) := by decide +kernel
theorem dX6_far_188 : decode cX6_far 188 = .ok (.aload_n 2, 1) := by decide +kernel
theorem dX6_far_189 : decode cX6_far 189 = .ok (.iload 5, 2) := by decide +kernel
theorem dX6_far_191 : decode cX6_far 191 = .ok (.iload 8, 2) := by decide +kernel
theorem dX6_far_193 : decode cX6_far 193 = .ok (.invokestatic 112, 3) := by decide +kernel
theorem dX6_far_196 : decode cX6_far 196 = .ok (.iadd, 1) := by decide +kernel
theorem dX6_far_197 : decode cX6_far 197 = .ok (.aaload, 1) := by decide +kernel
theorem dX6_far_198 : decode cX6_far 198 = .ok (.iload 6, 2) := by decide +kernel
theorem dX6_far_200 : decode cX6_far 200 = .ok (.iload 8, 2) := by decide +kernel
theorem dX6_far_202 : decode cX6_far 202 = .ok (.invokestatic 115, 3) := by decide +kernel
theorem dX6_far_205 : decode cX6_far 205 = .ok (.iadd, 1) := by decide +kernel
theorem dX6_far_206 : decode cX6_far 206 = .ok (.iaload, 1) := by decide +kernel
theorem dX6_far_207 : decode cX6_far 207 = .ok (.iload_n 3, 1) := by decide +kernel
theorem dX6_far_208 : decode cX6_far 208 = .ok (.iconst 1, 1) := by decide +kernel
theorem dX6_far_209 : decode cX6_far 209 = .ok (.isub, 1) := by decide +kernel
theorem dX6_far_210 : decode cX6_far 210 = .ok (.if_icmp .ne 7, 3) := by decide +kernel
theorem dX6_far_213 : decode cX6_far 213 = .ok (.iconst 1, 1) := by decide +kernel
theorem dX6_far_214 : decode cX6_far 214 = .ok (.goto 4, 3) := by decide +kernel
theorem dX6_far_217 : decode cX6_far 217 = .ok (.iconst 0, 1) := by decide +kernel
theorem dX6_far_218 : decode cX6_far 218 = .ok (.ior, 1) := by decide +kernel
theorem dX6_far_219 : decode cX6_far 219 = .ok (.istore 7, 2) := by decide +kernel
theorem dX6_far_221 : decode cX6_far 221 = .ok (.iinc 8 1, 3) := by decide +kernel
theorem dX6_far_224 : decode cX6_far 224 = .ok (.goto (-67), 3) := by decide +kernel
theorem dX6_far_227 : decode cX6_far 227 = .ok (.iload 7, 2) := by decide +kernel
theorem dX6_far_229 : decode cX6_far 229 = .ok (.ifCond .ne 6, 3) := by decide +kernel
theorem dX6_far_232 : decode cX6_far 232 = .ok (.goto 14, 3) := by decide +kernel
theorem dX6_far_235 : decode cX6_far 235 = .ok (.aload_n 2, 1) := by decide +kernel
theorem dX6_far_236 : decode cX6_far 236 = .ok (.iload 5, 2) := by decide +kernel
theorem dX6_far_238 : decode cX6_far 238 = .ok (.aaload, 1) := by decide +kernel
theorem dX6_far_239 : decode cX6_far 239 = .ok (.iload 6, 2) := by decide +kernel
theorem dX6_far_241 : decode cX6_far 241 = .ok (.iload_n 3, 1) := by decide +kernel
theorem dX6_far_242 : decode cX6_far 242 = .ok (.iastore, 1) := by decide +kernel
theorem dX6_far_243 : decode cX6_far 243 = .ok (.iconst 1, 1) := by decide +kernel
theorem dX6_far_244 : decode cX6_far 244 = .ok (.istore 4, 2) := by decide +kernel
theorem dX6_far_246 : decode cX6_far 246 = .ok (.iinc 6 1, 3) := by decide +kernel
theorem dX6_far_249 : decode cX6_far 249 = .ok (.goto (-131), 3) := by decide +kernel
theorem dX6_far_252 : decode cX6_far 252 = .ok (.iinc 5 1, 3) := by decide +kernel
theorem dX6_far_255 : decode cX6_far 255 = .ok (.goto (-149), 3) := by decide +kernel
theorem dX6_far_258 : decode cX6_far 258 = .ok (.iload 4, 2) := by decide +kernel
theorem dX6_far_260 : decode cX6_far 260 = .ok (.ifCond .ne 6, 3) := by decide +kernel
theorem dX6_far_263 : decode cX6_far 263 = .ok (.goto 9, 3) := by decide +kernel
theorem dX6_far_266 : decode cX6_far 266 = .ok (.iinc 3 1, 3) := by decide +kernel
theorem dX6_far_269 : decode cX6_far 269 = .ok (.goto (-182), 3) := by decide +kernel
theorem dX6_far_272 : decode cX6_far 272 = .ok (.aload_n 2, 1) := by decide +kernel
theorem dX6_far_273 : decode cX6_far 273 = .ok (.areturn, 1) := by decide +kernel
theorem dX6_areNear_0 : decode cX6_areNear 0 = .ok (.aload_n 2, 1) := by decide +kernel
theorem dX6_areNear_1 : decode cX6_areNear 1 = .ok (.iconst 3, 1) := by decide +kernel
theorem dX6_areNear_2 : decode cX6_areNear 2 = .ok (.iaload, 1) := by decide +kernel
theorem dX6_areNear_3 : decode cX6_areNear 3 = .ok (.ifCond .lt 57, 3) := by decide +kernel
theorem dX6_areNear_6 : decode cX6_areNear 6 = .ok (.aload_n 2, 1) := by decide +kernel
theorem dX6_areNear_7 : decode cX6_areNear 7 = .ok (.iconst 3, 1) := by decide +kernel
theorem dX6_areNear_8 : decode cX6_areNear 8 = .ok (.iaload, 1) := by decide +kernel
theorem dX6_areNear_9 : decode cX6_areNear 9 = .ok (.iload_n 0, 1) := by decide +kernel
theorem dX6_areNear_10 : decode cX6_areNear 10 = .ok (.if_icmp .ne 10, 3) := by decide +kernel
theorem dX6_areNear_13 : decode cX6_areNear 13 = .ok (.aload_n 2, 1) := by decide +kernel
theorem dX6_areNear_14 : decode cX6_areNear 14 = .ok (.iconst 4, 1) := by decide +kernel
theorem dX6_areNear_15 : decode cX6_areNear 15 = .ok (.iaload, 1) := by decide +kernel
theorem dX6_areNear_16 : decode cX6_areNear 16 = .ok (.iload_n 1, 1) := by decide +kernel
theorem dX6_areNear_17 : decode cX6_areNear 17 = .ok (.if_icmp .eq 43, 3) := by decide +kernel
theorem dX6_areNear_20 : decode cX6_areNear 20 = .ok (.aload_n 2, 1) := by decide +kernel
theorem dX6_areNear_21 : decode cX6_areNear 21 = .ok (.iconst 3, 1) := by decide +kernel
theorem dX6_areNear_22 : decode cX6_areNear 22 = .ok (.iaload, 1) := by decide +kernel
theorem dX6_areNear_23 : decode cX6_areNear 23 = .ok (.iload_n 0, 1) := by decide +kernel
theorem dX6_areNear_24 : decode cX6_areNear 24 = .ok (.iconst 1, 1) := by decide +kernel
theorem dX6_areNear_25 : decode cX6_areNear 25 = .ok (.isub, 1) := by decide +kernel
theorem dX6_areNear_26 : decode cX6_areNear 26 = .ok (.if_icmp .lt 34, 3) := by decide +kernel
theorem dX6_areNear_29 : decode cX6_areNear 29 = .ok (.aload_n 2, 1) := by decide +kernel
theorem dX6_areNear_30 : decode cX6_areNear 30 = .ok (.iconst 3, 1) := by decide +kernel
theorem dX6_areNear_31 : decode cX6_areNear 31 = .ok (.iaload, 1) := by decide +kernel
theorem dX6_areNear_32 : decode cX6_areNear 32 = .ok (.iload_n 0, 1) := by decide +kernel
theorem dX6_areNear_33 : decode cX6_areNear 33 = .ok (.iconst 1, 1) := by decide +kernel
theorem dX6_areNear_34 : decode cX6_areNear 34 = .ok (.iadd, 1) := by decide +kernel
theorem dX6_areNear_35 : decode cX6_areNear 35 = .ok (.if_icmp .gt 25, 3) := by decide +kernel
theorem dX6_areNear_38 : decode cX6_areNear 38 = .ok (.aload_n 2, 1) := by decide +kernel
theorem dX6_areNear_39 : decode cX6_areNear 39 = .ok (.iconst 4, 1) := by decide +kernel
theorem dX6_areNear_40 : decode cX6_areNear 40 = .ok (.iaload, 1) := by decide +kernel
theorem dX6_areNear_41 : decode cX6_areNear 41 = .ok (.iload_n 1, 1) := by decide +kernel
theorem dX6_areNear_42 : decode cX6_areNear 42 = .ok (.iconst 1, 1) := by decide +kernel
theorem dX6_areNear_43 : decode cX6_areNear 43 = .ok (.isub, 1) := by decide +kernel
theorem dX6_areNear_44 : decode cX6_areNear 44 = .ok (.if_icmp .lt 16, 3) := by decide +kernel
theorem dX6_areNear_47 : decode cX6_areNear 47 = .ok (.aload_n 2, 1) := by decide +kernel
theorem dX6_areNear_48 : decode cX6_areNear 48 = .ok (.iconst 4, 1) := by decide +kernel
theorem dX6_areNear_49 : decode cX6_areNear 49 = .ok (.iaload, 1) := by decide +kernel
theorem dX6_areNear_50 : decode cX6_areNear 50 = .ok (.iload_n 1, 1) := by decide +kernel
theorem dX6_areNear_51 : decode cX6_areNear 51 = .ok (.iconst 1, 1) := by decide +kernel
theorem dX6_areNear_52 : decode cX6_areNear 52 = .ok (.iadd, 1) := by decide +kernel
theorem dX6_areNear_53 : decode cX6_areNear 53 = .ok (.if_icmp .gt 7, 3) := by decide +kernel
theorem dX6_areNear_56 : decode cX6_areNear 56 = .ok (.iconst 1, 1) := by decide +kernel
theorem dX6_areNear_57 : decode cX6_areNear 57 = .ok (.goto 4, 3) := by decide +kernel
theorem dX6_areNear_60 : decode cX6_areNear 60 = .ok (.iconst 0, 1) := by decide +kernel
theorem dX6_areNear_61 : decode cX6_areNear 61 = .ok (.ireturn, 1) := by decide +kernel
theorem dX6_round_0 : decode cX6_round 0 = .ok (.iconst 0, 1) := by decide +kernel
theorem dX6_round_1 : decode cX6_round 1 = .ok (.istore 4, 2) := by decide +kernel
theorem dX6_round_3 : decode cX6_round 3 = .ok (.iconst 0, 1) := by decide +kernel
theorem dX6_round_4 : decode cX6_round 4 = .ok (.istore 5, 2) := by decide +kernel
theorem dX6_round_6 : decode cX6_round 6 = .ok (.iload 5, 2) := by decide +kernel
theorem dX6_round_8 : decode cX6_round 8 = .ok (.aload_n 0, 1) := by decide +kernel
theorem dX6_round_9 : decode cX6_round 9 = .ok (.getfield 36, 3) := by decide +kernel
theorem dX6_round_12 : decode cX6_round 12 = .ok (.arraylength, 1) := by decide +kernel
theorem dX6_round_13 : decode cX6_round 13 = .ok (.if_icmp .ge 33, 3) := by decide +kernel
theorem dX6_round_16 : decode cX6_round 16 = .ok (.iload 5, 2) := by decide +kernel
theorem dX6_round_18 : decode cX6_round 18 = .ok (.iload_n 3, 1) := by decide +kernel
theorem dX6_round_19 : decode cX6_round 19 = .ok (.if_icmp .eq 21, 3) := by decide +kernel
theorem dX6_round_22 : decode cX6_round 22 = .ok (.iload_n 1, 1) := by decide +kernel
theorem dX6_round_23 : decode cX6_round 23 = .ok (.iload_n 2, 1) := by decide +kernel
theorem dX6_round_24 : decode cX6_round 24 = .ok (.aload_n 0, 1) := by decide +kernel
theorem dX6_round_25 : decode cX6_round 25 = .ok (.getfield 36, 3) := by decide +kernel
theorem dX6_round_28 : decode cX6_round 28 = .ok (.iload 5, 2) := by decide +kernel
theorem dX6_round_30 : decode cX6_round 30 = .ok (.aaload, 1) := by decide +kernel
theorem dX6_round_31 : decode cX6_round 31 = .ok (.invokestatic 118, 3) := by decide +kernel
theorem dX6_round_34 : decode cX6_round 34 = .ok (.ifCond .eq 6, 3) := by decide +kernel
theorem dX6_round_37 : decode cX6_round 37 = .ok (.iinc 4 1, 3) := by decide +kernel
theorem dX6_round_40 : decode cX6_round 40 = .ok (.iinc 5 1, 3) := by decide +kernel
theorem dX6_round_43 : decode cX6_round 43 = .ok (.goto (-37), 3) := by decide +kernel
theorem dX6_round_46 : decode cX6_round 46 = .ok (.iload 4, 2) := by decide +kernel
theorem dX6_round_48 : decode cX6_round 48 = .ok (.ireturn, 1) := by decide +kernel
theorem dX6_cost_0 : decode cX6_cost 0 = .ok (.aload_n 0, 1) := by decide +kernel
theorem dX6_cost_1 : decode cX6_cost 1 = .ok (.getfield 36, 3) := by decide +kernel
theorem dX6_cost_4 : decode cX6_cost 4 = .ok (.iload_n 1, 1) := by decide +kernel
theorem dX6_cost_5 : decode cX6_cost 5 = .ok (.aaload, 1) := by decide +kernel
theorem dX6_cost_6 : decode cX6_cost 6 = .ok (.astore 4, 2) := by decide +kernel
theorem dX6_cost_8 : decode cX6_cost 8 = .ok (.aload 4, 2) := by decide +kernel
theorem dX6_cost_10 : decode cX6_cost 10 = .ok (.iconst 3, 1) := by decide +kernel
theorem dX6_cost_11 : decode cX6_cost 11 = .ok (.iaload, 1) := by decide +kernel
theorem dX6_cost_12 : decode cX6_cost 12 = .ok (.iload_n 2, 1) := by decide +kernel
theorem dX6_cost_13 : decode cX6_cost 13 = .ok (.invokestatic 112, 3) := by decide +kernel
theorem dX6_cost_16 : decode cX6_cost 16 = .ok (.iadd, 1) := by decide +kernel
theorem dX6_cost_17 : decode cX6_cost 17 = .ok (.istore 5, 2) := by decide +kernel
theorem dX6_cost_19 : decode cX6_cost 19 = .ok (.aload 4, 2) := by decide +kernel
theorem dX6_cost_21 : decode cX6_cost 21 = .ok (.iconst 4, 1) := by decide +kernel
theorem dX6_cost_22 : decode cX6_cost 22 = .ok (.iaload, 1) := by decide +kernel
theorem dX6_cost_23 : decode cX6_cost 23 = .ok (.iload_n 2, 1) := by decide +kernel
theorem dX6_cost_24 : decode cX6_cost 24 = .ok (.invokestatic 115, 3) := by decide +kernel
theorem dX6_cost_27 : decode cX6_cost 27 = .ok (.iadd, 1) := by decide +kernel
theorem dX6_cost_28 : decode cX6_cost 28 = .ok (.istore 6, 2) := by decide +kernel
theorem dX6_cost_30 : decode cX6_cost 30 = .ok (.aload_n 0, 1) := by decide +kernel
theorem dX6_cost_31 : decode cX6_cost 31 = .ok (.iload 5, 2) := by decide +kernel
theorem dX6_cost_33 : decode cX6_cost 33 = .ok (.iload 6, 2) := by decide +kernel
theorem dX6_cost_35 : decode cX6_cost 35 = .ok (.invokevirtual 109, 3) := by decide +kernel
theorem dX6_cost_38 : decode cX6_cost 38 = .ok (.ifCond .eq 29, 3) := by decide +kernel
theorem dX6_cost_41 : decode cX6_cost 41 = .ok (.aload_n 3, 1) := by decide +kernel
theorem dX6_cost_42 : decode cX6_cost 42 = .ok (.iload 5, 2) := by decide +kernel
theorem dX6_cost_44 : decode cX6_cost 44 = .ok (.aaload, 1) := by decide +kernel
theorem dX6_cost_45 : decode cX6_cost 45 = .ok (.iload 6, 2) := by decide +kernel
theorem dX6_cost_47 : decode cX6_cost 47 = .ok (.iaload, 1) := by decide +kernel
theorem dX6_cost_48 : decode cX6_cost 48 = .ok (.ifCond .lt 19, 3) := by decide +kernel
theorem dX6_cost_51 : decode cX6_cost 51 = .ok (.iload_n 2, 1) := by decide +kernel
theorem dX6_cost_52 : decode cX6_cost 52 = .ok (.iconst 4, 1) := by decide +kernel
theorem dX6_cost_53 : decode cX6_cost 53 = .ok (.if_icmp .ge 18, 3) := by decide +kernel
theorem dX6_cost_56 : decode cX6_cost 56 = .ok (.aload_n 0, 1) := by decide +kernel
theorem dX6_cost_57 : decode cX6_cost 57 = .ok (.iload 5, 2) := by decide +kernel
theorem dX6_cost_59 : decode cX6_cost 59 = .ok (.iload 6, 2) := by decide +kernel
theorem dX6_cost_61 : decode cX6_cost 61 = .ok (.invokevirtual 74, 3) := by decide +kernel
theorem dX6_cost_64 : decode cX6_cost 64 = .ok (.ifCond .eq 7, 3) := by decide +kernel
theorem dX6_cost_67 : decode cX6_cost 67 = .ok (.sipush 10000, 3) := by decide +kernel
theorem dX6_cost_70 : decode cX6_cost 70 = .ok (.ireturn, 1) := by decide +kernel
theorem dX6_cost_71 : decode cX6_cost 71 = .ok (.bipush 10, 2) := by decide +kernel
theorem dX6_cost_73 : decode cX6_cost 73 = .ok (.aload_n 3, 1) := by decide +kernel
theorem dX6_cost_74 : decode cX6_cost 74 = .ok (.iload 5, 2) := by decide +kernel
theorem dX6_cost_76 : decode cX6_cost 76 = .ok (.aaload, 1) := by decide +kernel
theorem dX6_cost_77 : decode cX6_cost 77 = .ok (.iload 6, 2) := by decide +kernel
theorem dX6_cost_79 : decode cX6_cost 79 = .ok (.iaload, 1) := by decide +kernel
theorem dX6_cost_80 : decode cX6_cost 80 = .ok (.imul, 1) := by decide +kernel
theorem dX6_cost_81 : decode cX6_cost 81 = .ok (.aload 4, 2) := by decide +kernel
theorem dX6_cost_83 : decode cX6_cost 83 = .ok (.iconst 2, 1) := by decide +kernel
theorem dX6_cost_84 : decode cX6_cost 84 = .ok (.iaload, 1) := by decide +kernel
theorem dX6_cost_85 : decode cX6_cost 85 = .ok (.aload_n 0, 1) := by decide +kernel
theorem dX6_cost_86 : decode cX6_cost 86 = .ok (.iload 5, 2) := by decide +kernel
theorem dX6_cost_88 : decode cX6_cost 88 = .ok (.iload 6, 2) := by decide +kernel
theorem dX6_cost_90 : decode cX6_cost 90 = .ok (.iload_n 1, 1) := by decide +kernel
theorem dX6_cost_91 : decode cX6_cost 91 = .ok (.invokevirtual 122, 3) := by decide +kernel
theorem dX6_cost_94 : decode cX6_cost 94 = .ok (.imul, 1) := by decide +kernel
theorem dX6_cost_95 : decode cX6_cost 95 = .ok (.iadd, 1) := by decide +kernel
theorem dX6_cost_96 : decode cX6_cost 96 = .ok (.istore 7, 2) := by decide +kernel
theorem dX6_cost_98 : decode cX6_cost 98 = .ok (.iconst 0, 1) := by decide +kernel
theorem dX6_cost_99 : decode cX6_cost 99 = .ok (.istore 8, 2) := by decide +kernel
theorem dX6_cost_101 : decode cX6_cost 101 = .ok (.iload 8, 2) := by decide +kernel
theorem dX6_cost_103 : decode cX6_cost 103 = .ok (.aload_n 0, 1) := by decide +kernel
theorem dX6_cost_104 : decode cX6_cost 104 = .ok (.getfield 36, 3) := by decide +kernel
theorem dX6_cost_107 : decode cX6_cost 107 = .ok (.arraylength, 1) := by decide +kernel
theorem dX6_cost_108 : decode cX6_cost 108 = .ok (.if_icmp .ge 63, 3) := by decide +kernel
theorem dX6_cost_111 : decode cX6_cost 111 = .ok (.iload_n 2, 1) := by decide +kernel
theorem dX6_cost_112 : decode cX6_cost 112 = .ok (.iconst 4, 1) := by decide +kernel
theorem dX6_cost_113 : decode cX6_cost 113 = .ok (.if_icmp .ge 58, 3) := by decide +kernel
theorem dX6_cost_116 : decode cX6_cost 116 = .ok (.iload 8, 2) := by decide +kernel
theorem dX6_cost_118 : decode cX6_cost 118 = .ok (.iload_n 1, 1) := by decide +kernel
theorem dX6_cost_119 : decode cX6_cost 119 = .ok (.if_icmp .eq 46, 3) := by decide +kernel
theorem dX6_cost_122 : decode cX6_cost 122 = .ok (.aload_n 0, 1) := by decide +kernel
theorem dX6_cost_123 : decode cX6_cost 123 = .ok (.getfield 36, 3) := by decide +kernel
theorem dX6_cost_126 : decode cX6_cost 126 = .ok (.iload 8, 2) := by decide +kernel
theorem dX6_cost_128 : decode cX6_cost 128 = .ok (.aaload, 1) := by decide +kernel
theorem dX6_cost_129 : decode cX6_cost 129 = .ok (.iconst 5, 1) := by decide +kernel
theorem dX6_cost_130 : decode cX6_cost 130 = .ok (.iaload, 1) := by decide +kernel
theorem dX6_cost_131 : decode cX6_cost 131 = .ok (.iload_n 2, 1) := by decide +kernel
theorem dX6_cost_132 : decode cX6_cost 132 = .ok (.if_icmp .ne 33, 3) := by decide +kernel
theorem dX6_cost_135 : decode cX6_cost 135 = .ok (.aload 4, 2) := by decide +kernel
theorem dX6_cost_137 : decode cX6_cost 137 = .ok (.iconst 3, 1) := by decide +kernel
theorem dX6_cost_138 : decode cX6_cost 138 = .ok (.iaload, 1) := by decide +kernel
theorem dX6_cost_139 : decode cX6_cost 139 = .ok (.aload 4, 2) := by decide +kernel
theorem dX6_cost_141 : decode cX6_cost 141 = .ok (.iconst 4, 1) := by decide +kernel
theorem dX6_cost_142 : decode cX6_cost 142 = .ok (.iaload, 1) := by decide +kernel
theorem dX6_cost_143 : decode cX6_cost 143 = .ok (.aload_n 0, 1) := by decide +kernel
theorem dX6_cost_144 : decode cX6_cost 144 = .ok (.getfield 36, 3) := by decide +kernel
theorem dX6_cost_147 : decode cX6_cost 147 = .ok (.iload 8, 2) := by decide +kernel
theorem dX6_cost_149 : decode cX6_cost 149 = .ok (.aaload, 1) := by decide +kernel
theorem dX6_cost_150 : decode cX6_cost 150 = .ok (.invokestatic 118, 3) := by decide +kernel
theorem dX6_cost_153 : decode cX6_cost 153 = .ok (.ifCond .eq 12, 3) := by decide +kernel
theorem dX6_cost_156 : decode cX6_cost 156 = .ok (.iload 7, 2) := by decide +kernel
theorem dX6_cost_158 : decode cX6_cost 158 = .ok (.aload_n 0, 1) := by decide +kernel
theorem dX6_cost_159 : decode cX6_cost 159 = .ok (.getfield 23, 3) := by decide +kernel
theorem dX6_cost_162 : decode cX6_cost 162 = .ok (.isub, 1) := by decide +kernel
theorem dX6_cost_163 : decode cX6_cost 163 = .ok (.istore 7, 2) := by decide +kernel
theorem dX6_cost_165 : decode cX6_cost 165 = .ok (.iinc 8 1, 3) := by decide +kernel
theorem dX6_cost_168 : decode cX6_cost 168 = .ok (.goto (-67), 3) := by decide +kernel
theorem dX6_cost_171 : decode cX6_cost 171 = .ok (.iload 7, 2) := by decide +kernel
theorem dX6_cost_173 : decode cX6_cost 173 = .ok (.ireturn, 1) := by decide +kernel
theorem dX6_wants_0 : decode cX6_wants 0 = .ok (.iconst 0, 1) := by decide +kernel
theorem dX6_wants_1 : decode cX6_wants 1 = .ok (.istore_n 3, 1) := by decide +kernel
theorem dX6_wants_2 : decode cX6_wants 2 = .ok (.iconst 1, 1) := by decide +kernel
theorem dX6_wants_3 : decode cX6_wants 3 = .ok (.istore 4, 2) := by decide +kernel
theorem dX6_wants_5 : decode cX6_wants 5 = .ok (.iload 4, 2) := by decide +kernel
theorem dX6_wants_7 : decode cX6_wants 7 = .ok (.iconst 5, 1) := by decide +kernel
theorem dX6_wants_8 : decode cX6_wants 8 = .ok (.if_icmp .ge 34, 3) := by decide +kernel
theorem dX6_wants_11 : decode cX6_wants 11 = .ok (.aload_n 0, 1) := by decide +kernel
theorem dX6_wants_12 : decode cX6_wants 12 = .ok (.iload_n 1, 1) := by decide +kernel
theorem dX6_wants_13 : decode cX6_wants 13 = .ok (.iload 4, 2) := by decide +kernel
theorem dX6_wants_15 : decode cX6_wants 15 = .ok (.aload_n 2, 1) := by decide +kernel
theorem dX6_wants_16 : decode cX6_wants 16 = .ok (.invokevirtual 125, 3) := by decide +kernel
theorem dX6_wants_19 : decode cX6_wants 19 = .ok (.aload_n 0, 1) := by decide +kernel
theorem dX6_wants_20 : decode cX6_wants 20 = .ok (.iload_n 1, 1) := by decide +kernel
theorem dX6_wants_21 : decode cX6_wants 21 = .ok (.iload_n 3, 1) := by decide +kernel
theorem dX6_wants_22 : decode cX6_wants 22 = .ok (.aload_n 2, 1) := by decide +kernel
theorem dX6_wants_23 : decode cX6_wants 23 = .ok (.invokevirtual 125, 3) := by decide +kernel
theorem dX6_wants_26 : decode cX6_wants 26 = .ok (.if_icmp .ge 8, 3) := by decide +kernel
theorem dX6_wants_29 : decode cX6_wants 29 = .ok (.iload 4, 2) := by decide +kernel
theorem dX6_wants_31 : decode cX6_wants 31 = .ok (.goto 4, 3) := by decide +kernel
theorem dX6_wants_34 : decode cX6_wants 34 = .ok (.iload_n 3, 1) := by decide +kernel
theorem dX6_wants_35 : decode cX6_wants 35 = .ok (.istore_n 3, 1) := by decide +kernel
theorem dX6_wants_36 : decode cX6_wants 36 = .ok (.iinc 4 1, 3) := by decide +kernel
theorem dX6_wants_39 : decode cX6_wants 39 = .ok (.goto (-34), 3) := by decide +kernel
theorem dX6_wants_42 : decode cX6_wants 42 = .ok (.aload_n 0, 1) := by decide +kernel
theorem dX6_wants_43 : decode cX6_wants 43 = .ok (.iload_n 1, 1) := by decide +kernel
theorem dX6_wants_44 : decode cX6_wants 44 = .ok (.iload_n 3, 1) := by decide +kernel
theorem dX6_wants_45 : decode cX6_wants 45 = .ok (.aload_n 2, 1) := by decide +kernel
theorem dX6_wants_46 : decode cX6_wants 46 = .ok (.invokevirtual 125, 3) := by decide +kernel
theorem dX6_wants_49 : decode cX6_wants 49 = .ok (.sipush 10000, 3) := by decide +kernel
theorem dX6_wants_52 : decode cX6_wants 52 = .ok (.if_icmp .ne 7, 3) := by decide +kernel
theorem dX6_wants_55 : decode cX6_wants 55 = .ok (.iconst 4, 1) := by decide +kernel
theorem dX6_wants_56 : decode cX6_wants 56 = .ok (.goto 4, 3) := by decide +kernel
theorem dX6_wants_59 : decode cX6_wants 59 = .ok (.iload_n 3, 1) := by decide +kernel
theorem dX6_wants_60 : decode cX6_wants 60 = .ok (.ireturn, 1) := by decide +kernel
theorem dX6_tick_0 : decode cX6_tick 0 = .ok (.aload_n 0, 1) := by decide +kernel
theorem dX6_tick_1 : decode cX6_tick 1 = .ok (.dup, 1) := by decide +kernel
theorem dX6_tick_2 : decode cX6_tick 2 = .ok (.getfield 60, 3) := by decide +kernel
theorem dX6_tick_5 : decode cX6_tick 5 = .ok (.iconst 1, 1) := by decide +kernel
theorem dX6_tick_6 : decode cX6_tick 6 = .ok (.iadd, 1) := by decide +kernel
theorem dX6_tick_7 : decode cX6_tick 7 = .ok (.putfield 60, 3) := by decide +kernel
theorem dX6_tick_10 : decode cX6_tick 10 = .ok (.iconst 4, 1) := by decide +kernel
theorem dX6_tick_11 : decode cX6_tick 11 = .ok (.anewarray 108, 3) := by decide +kernel
theorem dX6_tick_14 : decode cX6_tick 14 = .ok (.dup, 1) := by decide +kernel
theorem dX6_tick_15 : decode cX6_tick 15 = .ok (.iconst 0, 1) := by decide +kernel
theorem dX6_tick_16 : decode cX6_tick 16 = .ok (.aload_n 0, 1) := by decide +kernel
theorem dX6_tick_17 : decode cX6_tick 17 = .ok (.iconst 0, 1) := by decide +kernel
theorem dX6_tick_18 : decode cX6_tick 18 = .ok (.invokevirtual 129, 3) := by decide +kernel
theorem dX6_tick_21 : decode cX6_tick 21 = .ok (.aastore, 1) := by decide +kernel
theorem dX6_tick_22 : decode cX6_tick 22 = .ok (.dup, 1) := by decide +kernel
theorem dX6_tick_23 : decode cX6_tick 23 = .ok (.iconst 1, 1) := by decide +kernel
theorem dX6_tick_24 : decode cX6_tick 24 = .ok (.aload_n 0, 1) := by decide +kernel
theorem dX6_tick_25 : decode cX6_tick 25 = .ok (.iconst 1, 1) := by decide +kernel
theorem dX6_tick_26 : decode cX6_tick 26 = .ok (.invokevirtual 129, 3) := by decide +kernel
theorem dX6_tick_29 : decode cX6_tick 29 = .ok (.aastore, 1) := by decide +kernel
theorem dX6_tick_30 : decode cX6_tick 30 = .ok (.dup, 1) := by decide +kernel
theorem dX6_tick_31 : decode cX6_tick 31 = .ok (.iconst 2, 1) := by decide +kernel
theorem dX6_tick_32 : decode cX6_tick 32 = .ok (.aload_n 0, 1) := by decide +kernel
theorem dX6_tick_33 : decode cX6_tick 33 = .ok (.iconst 2, 1) := by decide +kernel
theorem dX6_tick_34 : decode cX6_tick 34 = .ok (.invokevirtual 129, 3) := by decide +kernel
theorem dX6_tick_37 : decode cX6_tick 37 = .ok (.aastore, 1) := by decide +kernel
theorem dX6_tick_38 : decode cX6_tick 38 = .ok (.dup, 1) := by decide +kernel
theorem dX6_tick_39 : decode cX6_tick 39 = .ok (.iconst 3, 1) := by decide +kernel
theorem dX6_tick_40 : decode cX6_tick 40 = .ok (.aload_n 0, 1) := by decide +kernel
theorem dX6_tick_41 : decode cX6_tick 41 = .ok (.iconst 3, 1) := by decide +kernel
theorem dX6_tick_42 : decode cX6_tick 42 = .ok (.invokevirtual 129, 3) := by decide +kernel
theorem dX6_tick_45 : decode cX6_tick 45 = .ok (.aastore, 1) := by decide +kernel
theorem dX6_tick_46 : decode cX6_tick 46 = .ok (.astore_n 1, 1) := by decide +kernel
theorem dX6_tick_47 : decode cX6_tick 47 = .ok (.aload_n 0, 1) := by decide +kernel
theorem dX6_tick_48 : decode cX6_tick 48 = .ok (.getfield 36, 3) := by decide +kernel
theorem dX6_tick_51 : decode cX6_tick 51 = .ok (.arraylength, 1) := by decide +kernel
theorem dX6_tick_52 : decode cX6_tick 52 = .ok (.istore_n 2, 1) := by decide +kernel
theorem dX6_tick_53 : decode cX6_tick 53 = .ok (.iload_n 2, 1) := by decide +kernel
theorem dX6_tick_54 : decode cX6_tick 54 = .ok (.newarray .int, 2) := by decide +kernel
theorem dX6_tick_56 : decode cX6_tick 56 = .ok (.astore_n 3, 1) := by decide +kernel
theorem dX6_tick_57 : decode cX6_tick 57 = .ok (.iconst 0, 1) := by decide +kernel
theorem dX6_tick_58 : decode cX6_tick 58 = .ok (.istore 4, 2) := by decide +kernel
theorem dX6_tick_60 : decode cX6_tick 60 = .ok (.iload 4, 2) := by decide +kernel
theorem dX6_tick_62 : decode cX6_tick 62 = .ok (.iload_n 2, 1) := by decide +kernel
theorem dX6_tick_63 : decode cX6_tick 63 = .ok (.if_icmp .ge 63, 3) := by decide +kernel
theorem dX6_tick_66 : decode cX6_tick 66 = .ok (.aload_n 3, 1) := by decide +kernel
theorem dX6_tick_67 : decode cX6_tick 67 = .ok (.iload 4, 2) := by decide +kernel
theorem dX6_tick_69 : decode cX6_tick 69 = .ok (.aload_n 0, 1) := by decide +kernel
theorem dX6_tick_70 : decode cX6_tick 70 = .ok (.getfield 36, 3) := by decide +kernel
theorem dX6_tick_73 : decode cX6_tick 73 = .ok (.iload 4, 2) := by decide +kernel
theorem dX6_tick_75 : decode cX6_tick 75 = .ok (.aaload, 1) := by decide +kernel
theorem dX6_tick_76 : decode cX6_tick 76 = .ok (.iconst 3, 1) := by decide +kernel
theorem dX6_tick_77 : decode cX6_tick 77 = .ok (.iaload, 1) := by decide +kernel
theorem dX6_tick_78 : decode cX6_tick 78 = .ok (.ifCond .lt 20, 3) := by decide +kernel
theorem dX6_tick_81 : decode cX6_tick 81 = .ok (.aload_n 0, 1) := by decide +kernel
theorem dX6_tick_82 : decode cX6_tick 82 = .ok (.getfield 60, 3) := by decide +kernel
theorem dX6_tick_85 : decode cX6_tick 85 = .ok (.aload_n 0, 1) := by decide +kernel
theorem dX6_tick_86 : decode cX6_tick 86 = .ok (.getfield 36, 3) := by decide +kernel
theorem dX6_tick_89 : decode cX6_tick 89 = .ok (.iload 4, 2) := by decide +kernel
theorem dX6_tick_91 : decode cX6_tick 91 = .ok (.aaload, 1) := by decide +kernel
theorem dX6_tick_92 : decode cX6_tick 92 = .ok (.iconst 1, 1) := by decide +kernel
theorem dX6_tick_93 : decode cX6_tick 93 = .ok (.iaload, 1) := by decide +kernel
theorem dX6_tick_94 : decode cX6_tick 94 = .ok (.irem, 1) := by decide +kernel
theorem dX6_tick_95 : decode cX6_tick 95 = .ok (.ifCond .le 7, 3) := by decide +kernel
theorem dX6_tick_98 : decode cX6_tick 98 = .ok (.iconst (-1), 1) := by decide +kernel
theorem dX6_tick_99 : decode cX6_tick 99 = .ok (.goto 20, 3) := by decide +kernel
theorem dX6_tick_102 : decode cX6_tick 102 = .ok (.aload_n 0, 1) := by decide +kernel
theorem dX6_tick_103 : decode cX6_tick 103 = .ok (.iload 4, 2) := by decide +kernel
theorem dX6_tick_105 : decode cX6_tick 105 = .ok (.aload_n 1, 1) := by decide +kernel
theorem dX6_tick_106 : decode cX6_tick 106 = .ok (.aload_n 0, 1) := by decide +kernel
theorem dX6_tick_107 : decode cX6_tick 107 = .ok (.getfield 36, 3) := by decide +kernel
theorem dX6_tick_110 : decode cX6_tick 110 = .ok (.iload 4, 2) := by decide +kernel
theorem dX6_tick_112 : decode cX6_tick 112 = .ok (.aaload, 1) := by decide +kernel
theorem dX6_tick_113 : decode cX6_tick 113 = .ok (.iconst 0, 1) := by decide +kernel
theorem dX6_tick_114 : decode cX6_tick 114 = .ok (.iaload, 1) := by decide +kernel
theorem dX6_tick_115 : decode cX6_tick 115 = .ok (.aaload, 1) := by decide +kernel
theorem dX6_tick_116 : decode cX6_tick 116 = .ok (.invokevirtual 133, 3) := by decide +kernel
theorem dX6_tick_119 : decode cX6_tick 119 = .ok (.iastore, 1) := by decide +kernel
theorem dX6_tick_120 : decode cX6_tick 120 = .ok (.iinc 4 1, 3) := by decide +kernel
theorem dX6_tick_123 : decode cX6_tick 123 = .ok (.goto (-63), 3) := by decide +kernel
theorem dX6_tick_126 : decode cX6_tick 126 = .ok (.iload_n 2, 1) := by decide +kernel
theorem dX6_tick_127 : decode cX6_tick 127 = .ok (.newarray .boolean, 2) := by decide +kernel
theorem dX6_tick_129 : decode cX6_tick 129 = .ok (.astore 4, 2) := by decide +kernel
theorem dX6_tick_131 : decode cX6_tick 131 = .ok (.iconst 0, 1) := by decide +kernel
theorem dX6_tick_132 : decode cX6_tick 132 = .ok (.istore 5, 2) := by decide +kernel
theorem dX6_tick_134 : decode cX6_tick 134 = .ok (.iload 5, 2) := by decide +kernel
theorem dX6_tick_136 : decode cX6_tick 136 = .ok (.aload_n 0, 1) := by decide +kernel
theorem dX6_tick_137 : decode cX6_tick 137 = .ok (.getfield 16, 3) := by decide +kernel
theorem dX6_tick_140 : decode cX6_tick 140 = .ok (.if_icmp .ge 155, 3) := by decide +kernel
theorem dX6_tick_143 : decode cX6_tick 143 = .ok (.iconst 0, 1) := by decide +kernel
theorem dX6_tick_144 : decode cX6_tick 144 = .ok (.istore 6, 2) := by decide +kernel
theorem dX6_tick_146 : decode cX6_tick 146 = .ok (.iload 6, 2) := by decide +kernel
theorem dX6_tick_148 : decode cX6_tick 148 = .ok (.aload_n 0, 1) := by decide +kernel
theorem dX6_tick_149 : decode cX6_tick 149 = .ok (.getfield 20, 3) := by decide +kernel
theorem dX6_tick_152 : decode cX6_tick 152 = .ok (.if_icmp .ge 137, 3) := by decide +kernel
theorem dX6_tick_155 : decode cX6_tick 155 = .ok (.iconst (-1), 1) := by decide +kernel
theorem dX6_tick_156 : decode cX6_tick 156 = .ok (.istore 7, 2) := by decide +kernel
theorem dX6_tick_158 : decode cX6_tick 158 = .ok (.iconst 0, 1) := by decide +kernel
theorem dX6_tick_159 : decode cX6_tick 159 = .ok (.istore 8, 2) := by decide +kernel
theorem dX6_tick_161 : decode cX6_tick 161 = .ok (.iload 8, 2) := by decide +kernel
theorem dX6_tick_163 : decode cX6_tick 163 = .ok (.iload_n 2, 1) := by decide +kernel
theorem dX6_tick_164 : decode cX6_tick 164 = .ok (.if_icmp .ge 108, 3) := by decide +kernel
theorem dX6_tick_167 : decode cX6_tick 167 = .ok (.aload_n 3, 1) := by decide +kernel
theorem dX6_tick_168 : decode cX6_tick 168 = .ok (.iload 8, 2) := by decide +kernel
theorem dX6_tick_170 : decode cX6_tick 170 = .ok (.iaload, 1) := by decide +kernel
theorem dX6_tick_171 : decode cX6_tick 171 = .ok (.ifCond .lt 95, 3) := by decide +kernel
theorem dX6_tick_174 : decode cX6_tick 174 = .ok (.aload_n 3, 1) := by decide +kernel
theorem dX6_tick_175 : decode cX6_tick 175 = .ok (.iload 8, 2) := by decide +kernel
theorem dX6_tick_177 : decode cX6_tick 177 = .ok (.iaload, 1) := by decide +kernel
theorem dX6_tick_178 : decode cX6_tick 178 = .ok (.iconst 4, 1) := by decide +kernel
theorem dX6_tick_179 : decode cX6_tick 179 = .ok (.if_icmp .eq 87, 3) := by decide +kernel
theorem dX6_tick_182 : decode cX6_tick 182 = .ok (.aload_n 0, 1) := by decide +kernel
theorem dX6_tick_183 : decode cX6_tick 183 = .ok (.getfield 36, 3) := by decide +kernel
theorem dX6_tick_186 : decode cX6_tick 186 = .ok (.iload 8, 2) := by decide +kernel
theorem dX6_tick_188 : decode cX6_tick 188 = .ok (.aaload, 1) := by decide +kernel
theorem dX6_tick_189 : decode cX6_tick 189 = .ok (.iconst 3, 1) := by decide +kernel
theorem dX6_tick_190 : decode cX6_tick 190 = .ok (.iaload, 1) := by decide +kernel
theorem dX6_tick_191 : decode cX6_tick 191 = .ok (.aload_n 3, 1) := by decide +kernel
theorem dX6_tick_192 : decode cX6_tick 192 = .ok (.iload 8, 2) := by decide +kernel
theorem dX6_tick_194 : decode cX6_tick 194 = .ok (.iaload, 1) := by decide +kernel
theorem dX6_tick_195 : decode cX6_tick 195 = .ok (.invokestatic 112, 3) := by decide +kernel
theorem dX6_tick_198 : decode cX6_tick 198 = .ok (.iadd, 1) := by decide +kernel
theorem dX6_tick_199 : decode cX6_tick 199 = .ok (.iload 5, 2) := by decide +kernel
theorem dX6_tick_201 : decode cX6_tick 201 = .ok (.if_icmp .ne 65, 3) := by decide +kernel
theorem dX6_tick_204 : decode cX6_tick 204 = .ok (.aload_n 0, 1) := by decide +kernel
theorem dX6_tick_205 : decode cX6_tick 205 = .ok (.getfield 36, 3) := by decide +kernel
theorem dX6_tick_208 : decode cX6_tick 208 = .ok (.iload 8, 2) := by decide +kernel
theorem dX6_tick_210 : decode cX6_tick 210 = .ok (.aaload, 1) := by decide +kernel
theorem dX6_tick_211 : decode cX6_tick 211 = .ok (.iconst 4, 1) := by decide +kernel
theorem dX6_tick_212 : decode cX6_tick 212 = .ok (.iaload, 1) := by decide +kernel
theorem dX6_tick_213 : decode cX6_tick 213 = .ok (.aload_n 3, 1) := by decide +kernel
theorem dX6_tick_214 : decode cX6_tick 214 = .ok (.iload 8, 2) := by decide +kernel
theorem dX6_tick_216 : decode cX6_tick 216 = .ok (.iaload, 1) := by decide +kernel
theorem dX6_tick_217 : decode cX6_tick 217 = .ok (.invokestatic 115, 3) := by decide +kernel
theorem dX6_tick_220 : decode cX6_tick 220 = .ok (.iadd, 1) := by decide +kernel
theorem dX6_tick_221 : decode cX6_tick 221 = .ok (.iload 6, 2) := by decide +kernel
theorem dX6_tick_223 : decode cX6_tick 223 = .ok (.if_icmp .eq 6, 3) := by decide +kernel
theorem dX6_tick_226 : decode cX6_tick 226 = .ok (.goto 40, 3) := by decide +kernel
theorem dX6_tick_229 : decode cX6_tick 229 = .ok (.iload 7, 2) := by decide +kernel
theorem dX6_tick_231 : decode cX6_tick 231 = .ok (.ifCond .lt 26, 3) := by decide +kernel
theorem dX6_tick_234 : decode cX6_tick 234 = .ok (.aload_n 0, 1) := by decide +kernel
theorem dX6_tick_235 : decode cX6_tick 235 = .ok (.getfield 36, 3) := by decide +kernel
theorem dX6_tick_238 : decode cX6_tick 238 = .ok (.iload 8, 2) := by decide +kernel
theorem dX6_tick_240 : decode cX6_tick 240 = .ok (.aaload, 1) := by decide +kernel
theorem dX6_tick_241 : decode cX6_tick 241 = .ok (.bipush 6, 2) := by decide +kernel
theorem dX6_tick_243 : decode cX6_tick 243 = .ok (.iaload, 1) := by decide +kernel
theorem dX6_tick_244 : decode cX6_tick 244 = .ok (.aload_n 0, 1) := by decide +kernel
theorem dX6_tick_245 : decode cX6_tick 245 = .ok (.getfield 36, 3) := by decide +kernel
theorem dX6_tick_248 : decode cX6_tick 248 = .ok (.iload 7, 2) := by decide +kernel
theorem dX6_tick_250 : decode cX6_tick 250 = .ok (.aaload, 1) := by decide +kernel
theorem dX6_tick_251 : decode cX6_tick 251 = .ok (.bipush 6, 2) := by decide +kernel
theorem dX6_tick_253 : decode cX6_tick 253 = .ok (.iaload, 1) := by decide +kernel
theorem dX6_tick_254 : decode cX6_tick 254 = .ok (.if_icmp .le 8, 3) := by decide +kernel
theorem dX6_tick_257 : decode cX6_tick 257 = .ok (.iload 8, 2) := by decide +kernel
theorem dX6_tick_259 : decode cX6_tick 259 = .ok (.goto 5, 3) := by decide +kernel
theorem dX6_tick_262 : decode cX6_tick 262 = .ok (.iload 7, 2) := by decide +kernel
theorem dX6_tick_264 : decode cX6_tick 264 = .ok (.istore 7, 2) := by decide +kernel
theorem dX6_tick_266 : decode cX6_tick 266 = .ok (.iinc 8 1, 3) := by decide +kernel
theorem dX6_tick_269 : decode cX6_tick 269 = .ok (.goto (-108), 3) := by decide +kernel
theorem dX6_tick_272 : decode cX6_tick 272 = .ok (.iload 7, 2) := by decide +kernel
theorem dX6_tick_274 : decode cX6_tick 274 = .ok (.ifCond .lt 9, 3) := by decide +kernel
theorem dX6_tick_277 : decode cX6_tick 277 = .ok (.aload 4, 2) := by decide +kernel
theorem dX6_tick_279 : decode cX6_tick 279 = .ok (.iload 7, 2) := by decide +kernel
theorem dX6_tick_281 : decode cX6_tick 281 = .ok (.iconst 1, 1) := by decide +kernel
theorem dX6_tick_282 : decode cX6_tick 282 = .ok (.bastore, 1) := by decide +kernel
theorem dX6_tick_283 : decode cX6_tick 283 = .ok (.iinc 6 1, 3) := by decide +kernel
theorem dX6_tick_286 : decode cX6_tick 286 = .ok (.goto (-140), 3) := by decide +kernel
theorem dX6_tick_289 : decode cX6_tick 289 = .ok (.iinc 5 1, 3) := by decide +kernel
theorem dX6_tick_292 : decode cX6_tick 292 = .ok (.goto (-158), 3) := by decide +kernel
theorem dX6_tick_295 : decode cX6_tick 295 = .ok (.iconst 0, 1) := by decide +kernel
theorem dX6_tick_296 : decode cX6_tick 296 = .ok (.istore 5, 2) := by decide +kernel
theorem dX6_tick_298 : decode cX6_tick 298 = .ok (.iconst 0, 1) := by decide +kernel
theorem dX6_tick_299 : decode cX6_tick 299 = .ok (.istore 6, 2) := by decide +kernel
theorem dX6_tick_301 : decode cX6_tick 301 = .ok (.iload 6, 2) := by decide +kernel
theorem dX6_tick_303 : decode cX6_tick 303 = .ok (.iload_n 2, 1) := by decide +kernel
theorem dX6_tick_304 : decode cX6_tick 304 = .ok (.if_icmp .ge 173, 3) := by decide +kernel
theorem dX6_tick_307 : decode cX6_tick 307 = .ok (.aload_n 0, 1) := by decide +kernel
theorem dX6_tick_308 : decode cX6_tick 308 = .ok (.getfield 36, 3) := by decide +kernel
theorem dX6_tick_311 : decode cX6_tick 311 = .ok (.iload 6, 2) := by decide +kernel
theorem dX6_tick_313 : decode cX6_tick 313 = .ok (.aaload, 1) := by decide +kernel
theorem dX6_tick_314 : decode cX6_tick 314 = .ok (.astore 7, 2) := by decide +kernel
theorem dX6_tick_316 : decode cX6_tick 316 = .ok (.aload_n 3, 1) := by decide +kernel
theorem dX6_tick_317 : decode cX6_tick 317 = .ok (.iload 6, 2) := by decide +kernel
theorem dX6_tick_319 : decode cX6_tick 319 = .ok (.iaload, 1) := by decide +kernel
theorem dX6_tick_320 : decode cX6_tick 320 = .ok (.ifCond .lt 20, 3) := by decide +kernel
theorem dX6_tick_323 : decode cX6_tick 323 = .ok (.aload 4, 2) := by decide +kernel
theorem dX6_tick_325 : decode cX6_tick 325 = .ok (.iload 6, 2) := by decide +kernel
theorem dX6_tick_327 : decode cX6_tick 327 = .ok (.baload, 1) := by decide +kernel
theorem dX6_tick_328 : decode cX6_tick 328 = .ok (.ifCond .ne 12, 3) := by decide +kernel
theorem dX6_tick_331 : decode cX6_tick 331 = .ok (.aload 7, 2) := by decide +kernel
theorem dX6_tick_333 : decode cX6_tick 333 = .ok (.bipush 6, 2) := by decide +kernel
theorem dX6_tick_335 : decode cX6_tick 335 = .ok (.dup2, 1) := by decide +kernel
theorem dX6_tick_336 : decode cX6_tick 336 = .ok (.iaload, 1) := by decide +kernel
theorem dX6_tick_337 : decode cX6_tick 337 = .ok (.iconst 1, 1) := by decide +kernel
theorem dX6_tick_338 : decode cX6_tick 338 = .ok (.iadd, 1) := by decide +kernel
theorem dX6_tick_339 : decode cX6_tick 339 = .ok (.iastore, 1) := by decide +kernel
theorem dX6_tick_340 : decode cX6_tick 340 = .ok (.aload 4, 2) := by decide +kernel
theorem dX6_tick_342 : decode cX6_tick 342 = .ok (.iload 6, 2) := by decide +kernel
theorem dX6_tick_344 : decode cX6_tick 344 = .ok (.baload, 1) := by decide +kernel
theorem dX6_tick_345 : decode cX6_tick 345 = .ok (.ifCond .ne 6, 3) := by decide +kernel
theorem dX6_tick_348 : decode cX6_tick 348 = .ok (.goto 123, 3) := by decide +kernel
theorem dX6_tick_351 : decode cX6_tick 351 = .ok (.aload 7, 2) := by decide +kernel
theorem dX6_tick_353 : decode cX6_tick 353 = .ok (.iconst 3, 1) := by decide +kernel
theorem dX6_tick_354 : decode cX6_tick 354 = .ok (.dup2, 1) := by decide +kernel
theorem dX6_tick_355 : decode cX6_tick 355 = .ok (.iaload, 1) := by decide +kernel
theorem dX6_tick_356 : decode cX6_tick 356 = .ok (.aload_n 3, 1) := by decide +kernel
theorem dX6_tick_357 : decode cX6_tick 357 = .ok (.iload 6, 2) := by decide +kernel
theorem dX6_tick_359 : decode cX6_tick 359 = .ok (.iaload, 1) := by decide +kernel
theorem dX6_tick_360 : decode cX6_tick 360 = .ok (.invokestatic 112, 3) := by decide +kernel
theorem dX6_tick_363 : decode cX6_tick 363 = .ok (.iadd, 1) := by decide +kernel
theorem dX6_tick_364 : decode cX6_tick 364 = .ok (.iastore, 1) := by decide +kernel
theorem dX6_tick_365 : decode cX6_tick 365 = .ok (.aload 7, 2) := by decide +kernel
theorem dX6_tick_367 : decode cX6_tick 367 = .ok (.iconst 4, 1) := by decide +kernel
theorem dX6_tick_368 : decode cX6_tick 368 = .ok (.dup2, 1) := by decide +kernel
theorem dX6_tick_369 : decode cX6_tick 369 = .ok (.iaload, 1) := by decide +kernel
theorem dX6_tick_370 : decode cX6_tick 370 = .ok (.aload_n 3, 1) := by decide +kernel
theorem dX6_tick_371 : decode cX6_tick 371 = .ok (.iload 6, 2) := by decide +kernel
theorem dX6_tick_373 : decode cX6_tick 373 = .ok (.iaload, 1) := by decide +kernel
theorem dX6_tick_374 : decode cX6_tick 374 = .ok (.invokestatic 115, 3) := by decide +kernel
theorem dX6_tick_377 : decode cX6_tick 377 = .ok (.iadd, 1) := by decide +kernel
theorem dX6_tick_378 : decode cX6_tick 378 = .ok (.iastore, 1) := by decide +kernel
theorem dX6_tick_379 : decode cX6_tick 379 = .ok (.aload 7, 2) := by decide +kernel
theorem dX6_tick_381 : decode cX6_tick 381 = .ok (.iconst 5, 1) := by decide +kernel
theorem dX6_tick_382 : decode cX6_tick 382 = .ok (.aload_n 3, 1) := by decide +kernel
theorem dX6_tick_383 : decode cX6_tick 383 = .ok (.iload 6, 2) := by decide +kernel
theorem dX6_tick_385 : decode cX6_tick 385 = .ok (.iaload, 1) := by decide +kernel
theorem dX6_tick_386 : decode cX6_tick 386 = .ok (.iastore, 1) := by decide +kernel
theorem dX6_tick_387 : decode cX6_tick 387 = .ok (.aload 7, 2) := by decide +kernel
theorem dX6_tick_389 : decode cX6_tick 389 = .ok (.bipush 6, 2) := by decide +kernel
theorem dX6_tick_391 : decode cX6_tick 391 = .ok (.iconst 0, 1) := by decide +kernel
theorem dX6_tick_392 : decode cX6_tick 392 = .ok (.iastore, 1) := by decide +kernel
theorem dX6_tick_393 : decode cX6_tick 393 = .ok (.aload 7, 2) := by decide +kernel
theorem dX6_tick_395 : decode cX6_tick 395 = .ok (.bipush 7, 2) := by decide +kernel
theorem dX6_tick_397 : decode cX6_tick 397 = .ok (.dup2, 1) := by decide +kernel
theorem dX6_tick_398 : decode cX6_tick 398 = .ok (.iaload, 1) := by decide +kernel
theorem dX6_tick_399 : decode cX6_tick 399 = .ok (.iconst 1, 1) := by decide +kernel
theorem dX6_tick_400 : decode cX6_tick 400 = .ok (.iadd, 1) := by decide +kernel
theorem dX6_tick_401 : decode cX6_tick 401 = .ok (.iastore, 1) := by decide +kernel
theorem dX6_tick_402 : decode cX6_tick 402 = .ok (.aload_n 0, 1) := by decide +kernel
theorem dX6_tick_403 : decode cX6_tick 403 = .ok (.getfield 31, 3) := by decide +kernel
theorem dX6_tick_406 : decode cX6_tick 406 = .ok (.aload 7, 2) := by decide +kernel
theorem dX6_tick_408 : decode cX6_tick 408 = .ok (.iconst 3, 1) := by decide +kernel
theorem dX6_tick_409 : decode cX6_tick 409 = .ok (.iaload, 1) := by decide +kernel
theorem dX6_tick_410 : decode cX6_tick 410 = .ok (.aaload, 1) := by decide +kernel
theorem dX6_tick_411 : decode cX6_tick 411 = .ok (.aload 7, 2) := by decide +kernel
theorem dX6_tick_413 : decode cX6_tick 413 = .ok (.iconst 4, 1) := by decide +kernel
theorem dX6_tick_414 : decode cX6_tick 414 = .ok (.iaload, 1) := by decide +kernel
theorem dX6_tick_415 : decode cX6_tick 415 = .ok (.aaload, 1) := by decide +kernel
theorem dX6_tick_416 : decode cX6_tick 416 = .ok (.iconst 1, 1) := by decide +kernel
theorem dX6_tick_417 : decode cX6_tick 417 = .ok (.dup2, 1) := by decide +kernel
theorem dX6_tick_418 : decode cX6_tick 418 = .ok (.iaload, 1) := by decide +kernel
theorem dX6_tick_419 : decode cX6_tick 419 = .ok (.iconst 1, 1) := by decide +kernel
theorem dX6_tick_420 : decode cX6_tick 420 = .ok (.iadd, 1) := by decide +kernel
theorem dX6_tick_421 : decode cX6_tick 421 = .ok (.iastore, 1) := by decide +kernel
theorem dX6_tick_422 : decode cX6_tick 422 = .ok (.aload_n 0, 1) := by decide +kernel
theorem dX6_tick_423 : decode cX6_tick 423 = .ok (.getfield 31, 3) := by decide +kernel
theorem dX6_tick_426 : decode cX6_tick 426 = .ok (.aload 7, 2) := by decide +kernel
theorem dX6_tick_428 : decode cX6_tick 428 = .ok (.iconst 3, 1) := by decide +kernel
theorem dX6_tick_429 : decode cX6_tick 429 = .ok (.iaload, 1) := by decide +kernel
theorem dX6_tick_430 : decode cX6_tick 430 = .ok (.aaload, 1) := by decide +kernel
theorem dX6_tick_431 : decode cX6_tick 431 = .ok (.aload 7, 2) := by decide +kernel
theorem dX6_tick_433 : decode cX6_tick 433 = .ok (.iconst 4, 1) := by decide +kernel
theorem dX6_tick_434 : decode cX6_tick 434 = .ok (.iaload, 1) := by decide +kernel
theorem dX6_tick_435 : decode cX6_tick 435 = .ok (.aaload, 1) := by decide +kernel
theorem dX6_tick_436 : decode cX6_tick 436 = .ok (.iconst 2, 1) := by decide +kernel
theorem dX6_tick_437 : decode cX6_tick 437 = .ok (.aload 7, 2) := by decide +kernel
theorem dX6_tick_439 : decode cX6_tick 439 = .ok (.iconst 0, 1) := by decide +kernel
theorem dX6_tick_440 : decode cX6_tick 440 = .ok (.iaload, 1) := by decide +kernel
theorem dX6_tick_441 : decode cX6_tick 441 = .ok (.iadd, 1) := by decide +kernel
theorem dX6_tick_442 : decode cX6_tick 442 = .ok (.iaload, 1) := by decide +kernel
theorem dX6_tick_443 : decode cX6_tick 443 = .ok (.ifCond .ne 6, 3) := by decide +kernel
theorem dX6_tick_446 : decode cX6_tick 446 = .ok (.goto 25, 3) := by decide +kernel
theorem dX6_tick_449 : decode cX6_tick 449 = .ok (.aload 7, 2) := by decide +kernel
theorem dX6_tick_451 : decode cX6_tick 451 = .ok (.iconst 3, 1) := by decide +kernel
theorem dX6_tick_452 : decode cX6_tick 452 = .ok (.iconst (-1), 1) := by decide +kernel
theorem dX6_tick_453 : decode cX6_tick 453 = .ok (.iastore, 1) := by decide +kernel
theorem dX6_tick_454 : decode cX6_tick 454 = .ok (.aload 7, 2) := by decide +kernel
theorem dX6_tick_456 : decode cX6_tick 456 = .ok (.iconst 4, 1) := by decide +kernel
theorem dX6_tick_457 : decode cX6_tick 457 = .ok (.iconst (-1), 1) := by decide +kernel
theorem dX6_tick_458 : decode cX6_tick 458 = .ok (.iastore, 1) := by decide +kernel
theorem dX6_tick_459 : decode cX6_tick 459 = .ok (.aload 7, 2) := by decide +kernel
theorem dX6_tick_461 : decode cX6_tick 461 = .ok (.bipush 8, 2) := by decide +kernel
theorem dX6_tick_463 : decode cX6_tick 463 = .ok (.aload_n 0, 1) := by decide +kernel
theorem dX6_tick_464 : decode cX6_tick 464 = .ok (.getfield 60, 3) := by decide +kernel
theorem dX6_tick_467 : decode cX6_tick 467 = .ok (.iastore, 1) := by decide +kernel
theorem dX6_tick_468 : decode cX6_tick 468 = .ok (.iinc 5 1, 3) := by decide +kernel
theorem dX6_tick_471 : decode cX6_tick 471 = .ok (.iinc 6 1, 3) := by decide +kernel
theorem dX6_tick_474 : decode cX6_tick 474 = .ok (.goto (-173), 3) := by decide +kernel
theorem dX6_tick_477 : decode cX6_tick 477 = .ok (.iload 5, 2) := by decide +kernel
theorem dX6_tick_479 : decode cX6_tick 479 = .ok (.ireturn, 1) := by decide +kernel
theorem dX6_tick__0 : decode cX6_tick_ 0 = .ok (.iconst 1, 1) := by decide +kernel
theorem dX6_tick__1 : decode cX6_tick_ 1 = .ok (.aload_n 0, 1) := by decide +kernel
theorem dX6_tick__2 : decode cX6_tick_ 2 = .ok (.iload_n 1, 1) := by decide +kernel
theorem dX6_tick__3 : decode cX6_tick_ 3 = .ok (.invokevirtual 56, 3) := by decide +kernel
theorem dX6_tick__6 : decode cX6_tick_ 6 = .ok (.iadd, 1) := by decide +kernel
theorem dX6_tick__7 : decode cX6_tick_ 7 = .ok (.istore_n 2, 1) := by decide +kernel
theorem dX6_tick__8 : decode cX6_tick_ 8 = .ok (.iconst 0, 1) := by decide +kernel
theorem dX6_tick__9 : decode cX6_tick_ 9 = .ok (.istore_n 3, 1) := by decide +kernel
theorem dX6_tick__10 : decode cX6_tick_ 10 = .ok (.iconst 0, 1) := by decide +kernel
theorem dX6_tick__11 : decode cX6_tick_ 11 = .ok (.istore 4, 2) := by decide +kernel
theorem dX6_tick__13 : decode cX6_tick_ 13 = .ok (.iload 4, 2) := by decide +kernel
theorem dX6_tick__15 : decode cX6_tick_ 15 = .ok (.iload_n 2, 1) := by decide +kernel
theorem dX6_tick__16 : decode cX6_tick_ 16 = .ok (.if_icmp .ge 16, 3) := by decide +kernel
theorem dX6_tick__19 : decode cX6_tick_ 19 = .ok (.iload_n 3, 1) := by decide +kernel
theorem dX6_tick__20 : decode cX6_tick_ 20 = .ok (.aload_n 0, 1) := by decide +kernel
theorem dX6_tick__21 : decode cX6_tick_ 21 = .ok (.invokevirtual 137, 3) := by decide +kernel
theorem dX6_tick__24 : decode cX6_tick_ 24 = .ok (.iadd, 1) := by decide +kernel
theorem dX6_tick__25 : decode cX6_tick_ 25 = .ok (.istore_n 3, 1) := by decide +kernel
theorem dX6_tick__26 : decode cX6_tick_ 26 = .ok (.iinc 4 1, 3) := by decide +kernel
theorem dX6_tick__29 : decode cX6_tick_ 29 = .ok (.goto (-16), 3) := by decide +kernel
theorem dX6_tick__32 : decode cX6_tick_ 32 = .ok (.aload_n 0, 1) := by decide +kernel
theorem dX6_tick__33 : decode cX6_tick_ 33 = .ok (.getfield 10, 3) := by decide +kernel
theorem dX6_tick__36 : decode cX6_tick_ 36 = .ok (.iload_n 2, 1) := by decide +kernel
theorem dX6_tick__37 : decode cX6_tick_ 37 = .ok (.invokevirtual 140, 3) := by decide +kernel
theorem dX6_tick__40 : decode cX6_tick_ 40 = .ok (.iload_n 3, 1) := by decide +kernel
theorem dX6_tick__41 : decode cX6_tick_ 41 = .ok (.if_icmp .ne 7, 3) := by decide +kernel
theorem dX6_tick__44 : decode cX6_tick_ 44 = .ok (.iconst 1, 1) := by decide +kernel
theorem dX6_tick__45 : decode cX6_tick_ 45 = .ok (.goto 4, 3) := by decide +kernel
theorem dX6_tick__48 : decode cX6_tick_ 48 = .ok (.iconst 0, 1) := by decide +kernel
theorem dX6_tick__49 : decode cX6_tick_ 49 = .ok (.ireturn, 1) := by decide +kernel
theorem dX6_found_0 : decode cX6_found 0 = .ok (.aload_n 0, 1) := by decide +kernel
theorem dX6_found_1 : decode cX6_found 1 = .ok (.invokevirtual 142, 3) := by decide +kernel
theorem dX6_found_4 : decode cX6_found 4 = .ok (.ifCond .eq 10, 3) := by decide +kernel
theorem dX6_found_7 : decode cX6_found 7 = .ok (.aload_n 0, 1) := by decide +kernel
theorem dX6_found_8 : decode cX6_found 8 = .ok (.invokevirtual 145, 3) := by decide +kernel
theorem dX6_found_11 : decode cX6_found 11 = .ok (.ifCond .ne 5, 3) := by decide +kernel
theorem dX6_found_14 : decode cX6_found 14 = .ok (.iconst 0, 1) := by decide +kernel
theorem dX6_found_15 : decode cX6_found 15 = .ok (.ireturn, 1) := by decide +kernel
theorem dX6_found_16 : decode cX6_found 16 = .ok (.iconst 0, 1) := by decide +kernel
theorem dX6_found_17 : decode cX6_found 17 = .ok (.istore_n 1, 1) := by decide +kernel
theorem dX6_found_18 : decode cX6_found 18 = .ok (.iload_n 1, 1) := by decide +kernel
theorem dX6_found_19 : decode cX6_found 19 = .ok (.iconst 4, 1) := by decide +kernel
theorem dX6_found_20 : decode cX6_found 20 = .ok (.if_icmp .ge 18, 3) := by decide +kernel
theorem dX6_found_23 : decode cX6_found 23 = .ok (.aload_n 0, 1) := by decide +kernel
theorem dX6_found_24 : decode cX6_found 24 = .ok (.invokevirtual 147, 3) := by decide +kernel
theorem dX6_found_27 : decode cX6_found 27 = .ok (.ifCond .ne 5, 3) := by decide +kernel
theorem dX6_found_30 : decode cX6_found 30 = .ok (.iconst 0, 1) := by decide +kernel
theorem dX6_found_31 : decode cX6_found 31 = .ok (.ireturn, 1) := by decide +kernel
theorem dX6_found_32 : decode cX6_found 32 = .ok (.iinc 1 1, 3) := by decide +kernel
theorem dX6_found_35 : decode cX6_found 35 = .ok (.goto (-17), 3) := by decide +kernel
theorem dX6_found_38 : decode cX6_found 38 = .ok (.iconst 0, 1) := by decide +kernel
theorem dX6_found_39 : decode cX6_found 39 = .ok (.istore_n 1, 1) := by decide +kernel
theorem dX6_found_40 : decode cX6_found 40 = .ok (.iload_n 1, 1) := by decide +kernel
theorem dX6_found_41 : decode cX6_found 41 = .ok (.iconst 3, 1) := by decide +kernel
theorem dX6_found_42 : decode cX6_found 42 = .ok (.if_icmp .ge 18, 3) := by decide +kernel
theorem dX6_found_45 : decode cX6_found 45 = .ok (.aload_n 0, 1) := by decide +kernel
theorem dX6_found_46 : decode cX6_found 46 = .ok (.invokevirtual 149, 3) := by decide +kernel
theorem dX6_found_49 : decode cX6_found 49 = .ok (.ifCond .ne 5, 3) := by decide +kernel
theorem dX6_found_52 : decode cX6_found 52 = .ok (.iconst 0, 1) := by decide +kernel
theorem dX6_found_53 : decode cX6_found 53 = .ok (.ireturn, 1) := by decide +kernel
theorem dX6_found_54 : decode cX6_found 54 = .ok (.iinc 1 1, 3) := by decide +kernel
theorem dX6_found_57 : decode cX6_found 57 = .ok (.goto (-17), 3) := by decide +kernel
theorem dX6_found_60 : decode cX6_found 60 = .ok (.iconst 0, 1) := by decide +kernel
theorem dX6_found_61 : decode cX6_found 61 = .ok (.istore_n 1, 1) := by decide +kernel
theorem dX6_found_62 : decode cX6_found 62 = .ok (.iload_n 1, 1) := by decide +kernel
theorem dX6_found_63 : decode cX6_found 63 = .ok (.bipush 9, 2) := by decide +kernel
theorem dX6_found_65 : decode cX6_found 65 = .ok (.if_icmp .ge 18, 3) := by decide +kernel
theorem dX6_found_68 : decode cX6_found 68 = .ok (.aload_n 0, 1) := by decide +kernel
theorem dX6_found_69 : decode cX6_found 69 = .ok (.invokevirtual 151, 3) := by decide +kernel
theorem dX6_found_72 : decode cX6_found 72 = .ok (.ifCond .ne 5, 3) := by decide +kernel
theorem dX6_found_75 : decode cX6_found 75 = .ok (.iconst 0, 1) := by decide +kernel
theorem dX6_found_76 : decode cX6_found 76 = .ok (.ireturn, 1) := by decide +kernel
theorem dX6_found_77 : decode cX6_found 77 = .ok (.iinc 1 1, 3) := by decide +kernel
theorem dX6_found_80 : decode cX6_found 80 = .ok (.goto (-18), 3) := by decide +kernel
theorem dX6_found_83 : decode cX6_found 83 = .ok (.iconst 1, 1) := by decide +kernel
theorem dX6_found_84 : decode cX6_found 84 = .ok (.ireturn, 1) := by decide +kernel
theorem dX6_act_0 : decode cX6_act 0 = .ok (.aload_n 0, 1) := by decide +kernel
theorem dX6_act_1 : decode cX6_act 1 = .ok (.bipush 12, 2) := by decide +kernel
theorem dX6_act_3 : decode cX6_act 3 = .ok (.invokevirtual 56, 3) := by decide +kernel
theorem dX6_act_6 : decode cX6_act 6 = .ok (.tableswitch 67 0 6 #[42, 47, 52, 57, 62, 62, 62], 42) := by decide +kernel
theorem dX6_act_48 : decode cX6_act 48 = .ok (.aload_n 0, 1) := by decide +kernel
theorem dX6_act_49 : decode cX6_act 49 = .ok (.invokevirtual 149, 3) := by decide +kernel
theorem dX6_act_52 : decode cX6_act 52 = .ok (.ireturn, 1) := by decide +kernel
theorem dX6_act_53 : decode cX6_act 53 = .ok (.aload_n 0, 1) := by decide +kernel
theorem dX6_act_54 : decode cX6_act 54 = .ok (.invokevirtual 147, 3) := by decide +kernel
theorem dX6_act_57 : decode cX6_act 57 = .ok (.ireturn, 1) := by decide +kernel
theorem dX6_act_58 : decode cX6_act 58 = .ok (.aload_n 0, 1) := by decide +kernel
theorem dX6_act_59 : decode cX6_act 59 = .ok (.invokevirtual 145, 3) := by decide +kernel
theorem dX6_act_62 : decode cX6_act 62 = .ok (.ireturn, 1) := by decide +kernel
theorem dX6_act_63 : decode cX6_act 63 = .ok (.aload_n 0, 1) := by decide +kernel
theorem dX6_act_64 : decode cX6_act 64 = .ok (.invokevirtual 154, 3) := by decide +kernel
theorem dX6_act_67 : decode cX6_act 67 = .ok (.ireturn, 1) := by decide +kernel
theorem dX6_act_68 : decode cX6_act 68 = .ok (.aload_n 0, 1) := by decide +kernel
theorem dX6_act_69 : decode cX6_act 69 = .ok (.invokevirtual 151, 3) := by decide +kernel
theorem dX6_act_72 : decode cX6_act 72 = .ok (.ireturn, 1) := by decide +kernel
theorem dX6_act_73 : decode cX6_act 73 = .ok (.aload_n 0, 1) := by decide +kernel
theorem dX6_act_74 : decode cX6_act 74 = .ok (.iconst 3, 1) := by decide +kernel
theorem dX6_act_75 : decode cX6_act 75 = .ok (.invokevirtual 156, 3) := by decide +kernel
theorem dX6_act_78 : decode cX6_act 78 = .ok (.ireturn, 1) := by decide +kernel
