theorem dX6_init_0 : decode cX6_init 0 = .ok (.aload_n 0, 1) := by decide +kernel
theorem dX6_init_1 : decode cX6_init 1 = .ok (.invokespecial 1, 3) := by decide +kernel
theorem dX6_init_4 : decode cX6_init 4 = .ok (.aload_n 0, 1) := by decide +kernel
theorem dX6_init_5 : decode cX6_init 5 = .ok (.iconst 2, 1) := by decide +kernel
theorem dX6_init_6 : decode cX6_init 6 = .ok (.putfield 7, 3) := by decide +kernel
theorem dX6_init_9 : decode cX6_init 9 = .ok (.aload_n 0, 1) := by decide +kernel
theorem dX6_init_10 : decode cX6_init 10 = .ok (.iconst 3, 1) := by decide +kernel
theorem dX6_init_11 : decode cX6_init 11 = .ok (.putfield 13, 3) := by decide +kernel
theorem dX6_init_14 : decode cX6_init 14 = .ok (.aload_n 0, 1) := by decide +kernel
theorem dX6_init_15 : decode cX6_init 15 = .ok (.bipush 10, 2) := by decide +kernel
theorem dX6_init_17 : decode cX6_init 17 = .ok (.bipush 8, 2) := by decide +kernel
theorem dX6_init_19 : decode cX6_init 19 = .ok (.invokevirtual 16, 3) := by decide +kernel
theorem dX6_init_22 : decode cX6_init 22 = .ok (.return_, 1) := by decide +kernel
theorem dX6_make_0 : decode cX6_make 0 = .ok (.aload_n 0, 1) := by decide +kernel
theorem dX6_make_1 : decode cX6_make 1 = .ok (.iload_n 1, 1) := by decide +kernel
theorem dX6_make_2 : decode cX6_make 2 = .ok (.putfield 20, 3) := by decide +kernel
theorem dX6_make_5 : decode cX6_make 5 = .ok (.aload_n 0, 1) := by decide +kernel
theorem dX6_make_6 : decode cX6_make 6 = .ok (.iload_n 2, 1) := by decide +kernel
theorem dX6_make_7 : decode cX6_make 7 = .ok (.putfield 23, 3) := by decide +kernel
theorem dX6_make_10 : decode cX6_make 10 = .ok (.aload_n 0, 1) := by decide +kernel
theorem dX6_make_11 : decode cX6_make 11 = .ok (.iconst 0, 1) := by decide +kernel
theorem dX6_make_12 : decode cX6_make 12 = .ok (.putfield 26, 3) := by decide +kernel
theorem dX6_make_15 : decode cX6_make 15 = .ok (.aload_n 0, 1) := by decide +kernel
theorem dX6_make_16 : decode cX6_make 16 = .ok (.aload_n 0, 1) := by decide +kernel
theorem dX6_make_17 : decode cX6_make 17 = .ok (.getfield 20, 3) := by decide +kernel
theorem dX6_make_20 : decode cX6_make 20 = .ok (.aload_n 0, 1) := by decide +kernel
theorem dX6_make_21 : decode cX6_make 21 = .ok (.getfield 23, 3) := by decide +kernel
theorem dX6_make_24 : decode cX6_make 24 = .ok (.imul, 1) := by decide +kernel
theorem dX6_make_25 : decode cX6_make 25 = .ok (.newarray .boolean, 2) := by decide +kernel
theorem dX6_make_27 : decode cX6_make 27 = .ok (.putfield 29, 3) := by decide +kernel
theorem dX6_make_30 : decode cX6_make 30 = .ok (.aload_n 0, 1) := by decide +kernel
theorem dX6_make_31 : decode cX6_make 31 = .ok (.iconst 4, 1) := by decide +kernel
theorem dX6_make_32 : decode cX6_make 32 = .ok (.aload_n 0, 1) := by decide +kernel
theorem dX6_make_33 : decode cX6_make 33 = .ok (.getfield 20, 3) := by decide +kernel
theorem dX6_make_36 : decode cX6_make 36 = .ok (.imul, 1) := by decide +kernel
theorem dX6_make_37 : decode cX6_make 37 = .ok (.aload_n 0, 1) := by decide +kernel
theorem dX6_make_38 : decode cX6_make 38 = .ok (.getfield 23, 3) := by decide +kernel
theorem dX6_make_41 : decode cX6_make 41 = .ok (.imul, 1) := by decide +kernel
theorem dX6_make_42 : decode cX6_make 42 = .ok (.newarray .boolean, 2) := by decide +kernel
theorem dX6_make_44 : decode cX6_make 44 = .ok (.putfield 33, 3) := by decide +kernel
theorem dX6_make_47 : decode cX6_make 47 = .ok (.aload_n 0, 1) := by decide +kernel
theorem dX6_make_48 : decode cX6_make 48 = .ok (.iconst 0, 1) := by decide +kernel
theorem dX6_make_49 : decode cX6_make 49 = .ok (.putfield 36, 3) := by decide +kernel
theorem dX6_make_52 : decode cX6_make 52 = .ok (.aload_n 0, 1) := by decide +kernel
theorem dX6_make_53 : decode cX6_make 53 = .ok (.sipush 192, 3) := by decide +kernel
theorem dX6_make_56 : decode cX6_make 56 = .ok (.newarray .int, 2) := by decide +kernel
theorem dX6_make_58 : decode cX6_make 58 = .ok (.putfield 39, 3) := by decide +kernel
theorem dX6_make_61 : decode cX6_make 61 = .ok (.aload_n 0, 1) := by decide +kernel
theorem dX6_make_62 : decode cX6_make 62 = .ok (.aload_n 0, 1) := by decide +kernel
theorem dX6_make_63 : decode cX6_make 63 = .ok (.getfield 20, 3) := by decide +kernel
theorem dX6_make_66 : decode cX6_make 66 = .ok (.aload_n 0, 1) := by decide +kernel
theorem dX6_make_67 : decode cX6_make 67 = .ok (.getfield 23, 3) := by decide +kernel
theorem dX6_make_70 : decode cX6_make 70 = .ok (.imul, 1) := by decide +kernel
theorem dX6_make_71 : decode cX6_make 71 = .ok (.newarray .int, 2) := by decide +kernel
theorem dX6_make_73 : decode cX6_make 73 = .ok (.putfield 43, 3) := by decide +kernel
theorem dX6_make_76 : decode cX6_make 76 = .ok (.return_, 1) := by decide +kernel
theorem dX6_thrown_0 : decode cX6_thrown 0 = .ok (.aload_n 0, 1) := by decide +kernel
theorem dX6_thrown_1 : decode cX6_thrown 1 = .ok (.getfield 46, 3) := by decide +kernel
theorem dX6_thrown_4 : decode cX6_thrown 4 = .ok (.ireturn, 1) := by decide +kernel
theorem dX6_no_0 : decode cX6_no 0 = .ok (.aload_n 0, 1) := by decide +kernel
theorem dX6_no_1 : decode cX6_no 1 = .ok (.iload_n 1, 1) := by decide +kernel
theorem dX6_no_2 : decode cX6_no 2 = .ok (.putfield 46, 3) := by decide +kernel
theorem dX6_no_5 : decode cX6_no 5 = .ok (.iconst 0, 1) := by decide +kernel
theorem dX6_no_6 : decode cX6_no 6 = .ok (.ireturn, 1) := by decide +kernel
theorem dX6_ok_0 : decode cX6_ok 0 = .ok (.aload_n 0, 1) := by decide +kernel
theorem dX6_ok_1 : decode cX6_ok 1 = .ok (.iconst 0, 1) := by decide +kernel
theorem dX6_ok_2 : decode cX6_ok 2 = .ok (.putfield 46, 3) := by decide +kernel
theorem dX6_ok_5 : decode cX6_ok 5 = .ok (.iload_n 1, 1) := by decide +kernel
theorem dX6_ok_6 : decode cX6_ok 6 = .ok (.ireturn, 1) := by decide +kernel
theorem dX6_isIn_0 : decode cX6_isIn 0 = .ok (.iload_n 0, 1) := by decide +kernel
theorem dX6_isIn_1 : decode cX6_isIn 1 = .ok (.iload_n 1, 1) := by decide +kernel
theorem dX6_isIn_2 : decode cX6_isIn 2 = .ok (.if_icmp .lt 12, 3) := by decide +kernel
theorem dX6_isIn_5 : decode cX6_isIn 5 = .ok (.iload_n 0, 1) := by decide +kernel
theorem dX6_isIn_6 : decode cX6_isIn 6 = .ok (.iload_n 2, 1) := by decide +kernel
theorem dX6_isIn_7 : decode cX6_isIn 7 = .ok (.if_icmp .gt 7, 3) := by decide +kernel
theorem dX6_isIn_10 : decode cX6_isIn 10 = .ok (.iconst 1, 1) := by decide +kernel
theorem dX6_isIn_11 : decode cX6_isIn 11 = .ok (.goto 4, 3) := by decide +kernel
theorem dX6_isIn_14 : decode cX6_isIn 14 = .ok (.iconst 0, 1) := by decide +kernel
theorem dX6_isIn_15 : decode cX6_isIn 15 = .ok (.ireturn, 1) := by decide +kernel
theorem dX6_isField_0 : decode cX6_isField 0 = .ok (.iload_n 1, 1) := by decide +kernel
theorem dX6_isField_1 : decode cX6_isField 1 = .ok (.iconst 0, 1) := by decide +kernel
theorem dX6_isField_2 : decode cX6_isField 2 = .ok (.aload_n 0, 1) := by decide +kernel
theorem dX6_isField_3 : decode cX6_isField 3 = .ok (.getfield 20, 3) := by decide +kernel
theorem dX6_isField_6 : decode cX6_isField 6 = .ok (.iconst 1, 1) := by decide +kernel
theorem dX6_isField_7 : decode cX6_isField 7 = .ok (.isub, 1) := by decide +kernel
theorem dX6_isField_8 : decode cX6_isField 8 = .ok (.invokestatic 49, 3) := by decide +kernel
theorem dX6_isField_11 : decode cX6_isField 11 = .ok (.ifCond .eq 21, 3) := by decide +kernel
theorem dX6_isField_14 : decode cX6_isField 14 = .ok (.iload_n 2, 1) := by decide +kernel
theorem dX6_isField_15 : decode cX6_isField 15 = .ok (.iconst 0, 1) := by decide +kernel
theorem dX6_isField_16 : decode cX6_isField 16 = .ok (.aload_n 0, 1) := by decide +kernel
theorem dX6_isField_17 : decode cX6_isField 17 = .ok (.getfield 23, 3) := by decide +kernel
theorem dX6_isField_20 : decode cX6_isField 20 = .ok (.iconst 1, 1) := by decide +kernel
theorem dX6_isField_21 : decode cX6_isField 21 = .ok (.isub, 1) := by decide +kernel
theorem dX6_isField_22 : decode cX6_isField 22 = .ok (.invokestatic 49, 3) := by decide +kernel
theorem dX6_isField_25 : decode cX6_isField 25 = .ok (.ifCond .eq 7, 3) := by decide +kernel
theorem dX6_isField_28 : decode cX6_isField 28 = .ok (.iconst 1, 1) := by decide +kernel
theorem dX6_isField_29 : decode cX6_isField 29 = .ok (.goto 4, 3) := by decide +kernel
theorem dX6_isField_32 : decode cX6_isField 32 = .ok (.iconst 0, 1) := by decide +kernel
theorem dX6_isField_33 : decode cX6_isField 33 = .ok (.ireturn, 1) := by decide +kernel
theorem dX6_isGoal_0 : decode cX6_isGoal 0 = .ok (.iload_n 0, 1) := by decide +kernel
theorem dX6_isGoal_1 : decode cX6_isGoal 1 = .ok (.iconst 0, 1) := by decide +kernel
theorem dX6_isGoal_2 : decode cX6_isGoal 2 = .ok (.iconst 3, 1) := by decide +kernel
theorem dX6_isGoal_3 : decode cX6_isGoal 3 = .ok (.invokestatic 49, 3) := by decide +kernel
theorem dX6_isGoal_6 : decode cX6_isGoal 6 = .ok (.ireturn, 1) := by decide +kernel
theorem dX6_isWalker_0 : decode cX6_isWalker 0 = .ok (.iload_n 1, 1) := by decide +kernel
theorem dX6_isWalker_1 : decode cX6_isWalker 1 = .ok (.iconst 0, 1) := by decide +kernel
theorem dX6_isWalker_2 : decode cX6_isWalker 2 = .ok (.aload_n 0, 1) := by decide +kernel
theorem dX6_isWalker_3 : decode cX6_isWalker 3 = .ok (.getfield 36, 3) := by decide +kernel
theorem dX6_isWalker_6 : decode cX6_isWalker 6 = .ok (.iconst 1, 1) := by decide +kernel
theorem dX6_isWalker_7 : decode cX6_isWalker 7 = .ok (.isub, 1) := by decide +kernel
theorem dX6_isWalker_8 : decode cX6_isWalker 8 = .ok (.invokestatic 49, 3) := by decide +kernel
theorem dX6_isWalker_11 : decode cX6_isWalker 11 = .ok (.ireturn, 1) := by decide +kernel
theorem dX6_isOn_0 : decode cX6_isOn 0 = .ok (.aload_n 0, 1) := by decide +kernel
theorem dX6_isOn_1 : decode cX6_isOn 1 = .ok (.iload_n 1, 1) := by decide +kernel
theorem dX6_isOn_2 : decode cX6_isOn 2 = .ok (.invokevirtual 53, 3) := by decide +kernel
theorem dX6_isOn_5 : decode cX6_isOn 5 = .ok (.ifCond .eq 22, 3) := by decide +kernel
theorem dX6_isOn_8 : decode cX6_isOn 8 = .ok (.aload_n 0, 1) := by decide +kernel
theorem dX6_isOn_9 : decode cX6_isOn 9 = .ok (.getfield 39, 3) := by decide +kernel
theorem dX6_isOn_12 : decode cX6_isOn 12 = .ok (.iload_n 1, 1) := by decide +kernel
theorem dX6_isOn_13 : decode cX6_isOn 13 = .ok (.bipush 8, 2) := by decide +kernel
theorem dX6_isOn_15 : decode cX6_isOn 15 = .ok (.imul, 1) := by decide +kernel
theorem dX6_isOn_16 : decode cX6_isOn 16 = .ok (.iconst 3, 1) := by decide +kernel
theorem dX6_isOn_17 : decode cX6_isOn 17 = .ok (.iadd, 1) := by decide +kernel
theorem dX6_isOn_18 : decode cX6_isOn 18 = .ok (.iaload, 1) := by decide +kernel
theorem dX6_isOn_19 : decode cX6_isOn 19 = .ok (.iconst (-1), 1) := by decide +kernel
theorem dX6_isOn_20 : decode cX6_isOn 20 = .ok (.if_icmp .eq 7, 3) := by decide +kernel
theorem dX6_isOn_23 : decode cX6_isOn 23 = .ok (.iconst 1, 1) := by decide +kernel
theorem dX6_isOn_24 : decode cX6_isOn 24 = .ok (.goto 4, 3) := by decide +kernel
theorem dX6_isOn_27 : decode cX6_isOn 27 = .ok (.iconst 0, 1) := by decide +kernel
theorem dX6_isOn_28 : decode cX6_isOn 28 = .ok (.ireturn, 1) := by decide +kernel
theorem dX6_beside_0 : decode cX6_beside 0 = .ok (.iload_n 1, 1) := by decide +kernel
theorem dX6_beside_1 : decode cX6_beside 1 = .ok (.aload_n 0, 1) := by decide +kernel
theorem dX6_beside_2 : decode cX6_beside 2 = .ok (.getfield 20, 3) := by decide +kernel
theorem dX6_beside_5 : decode cX6_beside 5 = .ok (.irem, 1) := by decide +kernel
theorem dX6_beside_6 : decode cX6_beside 6 = .ok (.iload_n 2, 1) := by decide +kernel
theorem dX6_beside_7 : decode cX6_beside 7 = .ok (.ifCond .ne 7, 3) := by decide +kernel
theorem dX6_beside_10 : decode cX6_beside 10 = .ok (.iconst 1, 1) := by decide +kernel
theorem dX6_beside_11 : decode cX6_beside 11 = .ok (.goto 13, 3) := by decide +kernel
theorem dX6_beside_14 : decode cX6_beside 14 = .ok (.iload_n 2, 1) := by decide +kernel
theorem dX6_beside_15 : decode cX6_beside 15 = .ok (.iconst 2, 1) := by decide +kernel
theorem dX6_beside_16 : decode cX6_beside 16 = .ok (.if_icmp .ne 7, 3) := by decide +kernel
theorem dX6_beside_19 : decode cX6_beside 19 = .ok (.iconst (-1), 1) := by decide +kernel
theorem dX6_beside_20 : decode cX6_beside 20 = .ok (.goto 4, 3) := by decide +kernel
theorem dX6_beside_23 : decode cX6_beside 23 = .ok (.iconst 0, 1) := by decide +kernel
theorem dX6_beside_24 : decode cX6_beside 24 = .ok (.iadd, 1) := by decide +kernel
theorem dX6_beside_25 : decode cX6_beside 25 = .ok (.istore_n 3, 1) := by decide +kernel
theorem dX6_beside_26 : decode cX6_beside 26 = .ok (.iload_n 1, 1) := by decide +kernel
theorem dX6_beside_27 : decode cX6_beside 27 = .ok (.aload_n 0, 1) := by decide +kernel
theorem dX6_beside_28 : decode cX6_beside 28 = .ok (.getfield 20, 3) := by decide +kernel
theorem dX6_beside_31 : decode cX6_beside 31 = .ok (.idiv, 1) := by decide +kernel
theorem dX6_beside_32 : decode cX6_beside 32 = .ok (.iload_n 2, 1) := by decide +kernel
theorem dX6_beside_33 : decode cX6_beside 33 = .ok (.iconst 1, 1) := by decide +kernel
theorem dX6_beside_34 : decode cX6_beside 34 = .ok (.if_icmp .ne 7, 3) := by decide +kernel
theorem dX6_beside_37 : decode cX6_beside 37 = .ok (.iconst 1, 1) := by decide +kernel
theorem dX6_beside_38 : decode cX6_beside 38 = .ok (.goto 13, 3) := by decide +kernel
theorem dX6_beside_41 : decode cX6_beside 41 = .ok (.iload_n 2, 1) := by decide +kernel
theorem dX6_beside_42 : decode cX6_beside 42 = .ok (.iconst 3, 1) := by decide +kernel
theorem dX6_beside_43 : decode cX6_beside 43 = .ok (.if_icmp .ne 7, 3) := by decide +kernel
theorem dX6_beside_46 : decode cX6_beside 46 = .ok (.iconst (-1), 1) := by decide +kernel
theorem dX6_beside_47 : decode cX6_beside 47 = .ok (.goto 4, 3) := by decide +kernel
theorem dX6_beside_50 : decode cX6_beside 50 = .ok (.iconst 0, 1) := by decide +kernel
theorem dX6_beside_51 : decode cX6_beside 51 = .ok (.iadd, 1) := by decide +kernel
theorem dX6_beside_52 : decode cX6_beside 52 = .ok (.istore 4, 2) := by decide +kernel
theorem dX6_beside_54 : decode cX6_beside 54 = .ok (.aload_n 0, 1) := by decide +kernel
theorem dX6_beside_55 : decode cX6_beside 55 = .ok (.iload_n 3, 1) := by decide +kernel
theorem dX6_beside_56 : decode cX6_beside 56 = .ok (.iload 4, 2) := by decide +kernel
theorem dX6_beside_58 : decode cX6_beside 58 = .ok (.invokevirtual 57, 3) := by decide +kernel
theorem dX6_beside_61 : decode cX6_beside 61 = .ok (.ifCond .eq 15, 3) := by decide +kernel
theorem dX6_beside_64 : decode cX6_beside 64 = .ok (.iload 4, 2) := by decide +kernel
theorem dX6_beside_66 : decode cX6_beside 66 = .ok (.aload_n 0, 1) := by decide +kernel
theorem dX6_beside_67 : decode cX6_beside 67 = .ok (.getfield 20, 3) := by decide +kernel
theorem dX6_beside_70 : decode cX6_beside 70 = .ok (.imul, 1) := by decide +kernel
theorem dX6_beside_71 : decode cX6_beside 71 = .ok (.iload_n 3, 1) := by decide +kernel
theorem dX6_beside_72 : decode cX6_beside 72 = .ok (.iadd, 1) := by decide +kernel
theorem dX6_beside_73 : decode cX6_beside 73 = .ok (.goto 4, 3) := by decide +kernel
theorem dX6_beside_76 : decode cX6_beside 76 = .ok (.iconst (-1), 1) := by decide +kernel
theorem dX6_beside_77 : decode cX6_beside 77 = .ok (.ireturn, 1) := by decide +kernel
theorem dX6_areRound_0 : decode cX6_areRound 0 = .ok (.iload_n 1, 1) := by decide +kernel
theorem dX6_areRound_1 : decode cX6_areRound 1 = .ok (.iload_n 2, 1) := by decide +kernel
theorem dX6_areRound_2 : decode cX6_areRound 2 = .ok (.if_icmp .eq 47, 3) := by decide +kernel
theorem dX6_areRound_5 : decode cX6_areRound 5 = .ok (.iload_n 1, 1) := by decide +kernel
theorem dX6_areRound_6 : decode cX6_areRound 6 = .ok (.aload_n 0, 1) := by decide +kernel
theorem dX6_areRound_7 : decode cX6_areRound 7 = .ok (.getfield 20, 3) := by decide +kernel
theorem dX6_areRound_10 : decode cX6_areRound 10 = .ok (.irem, 1) := by decide +kernel
theorem dX6_areRound_11 : decode cX6_areRound 11 = .ok (.iload_n 2, 1) := by decide +kernel
theorem dX6_areRound_12 : decode cX6_areRound 12 = .ok (.aload_n 0, 1) := by decide +kernel
theorem dX6_areRound_13 : decode cX6_areRound 13 = .ok (.getfield 20, 3) := by decide +kernel
theorem dX6_areRound_16 : decode cX6_areRound 16 = .ok (.irem, 1) := by decide +kernel
theorem dX6_areRound_17 : decode cX6_areRound 17 = .ok (.isub, 1) := by decide +kernel
theorem dX6_areRound_18 : decode cX6_areRound 18 = .ok (.invokestatic 61, 3) := by decide +kernel
theorem dX6_areRound_21 : decode cX6_areRound 21 = .ok (.iconst 2, 1) := by decide +kernel
theorem dX6_areRound_22 : decode cX6_areRound 22 = .ok (.if_icmp .ge 27, 3) := by decide +kernel
theorem dX6_areRound_25 : decode cX6_areRound 25 = .ok (.iload_n 1, 1) := by decide +kernel
theorem dX6_areRound_26 : decode cX6_areRound 26 = .ok (.aload_n 0, 1) := by decide +kernel
theorem dX6_areRound_27 : decode cX6_areRound 27 = .ok (.getfield 20, 3) := by decide +kernel
theorem dX6_areRound_30 : decode cX6_areRound 30 = .ok (.idiv, 1) := by decide +kernel
theorem dX6_areRound_31 : decode cX6_areRound 31 = .ok (.iload_n 2, 1) := by decide +kernel
theorem dX6_areRound_32 : decode cX6_areRound 32 = .ok (.aload_n 0, 1) := by decide +kernel
theorem dX6_areRound_33 : decode cX6_areRound 33 = .ok (.getfield 20, 3) := by decide +kernel
theorem dX6_areRound_36 : decode cX6_areRound 36 = .ok (.idiv, 1) := by decide +kernel
theorem dX6_areRound_37 : decode cX6_areRound 37 = .ok (.isub, 1) := by decide +kernel
theorem dX6_areRound_38 : decode cX6_areRound 38 = .ok (.invokestatic 61, 3) := by decide +kernel
theorem dX6_areRound_41 : decode cX6_areRound 41 = .ok (.iconst 2, 1) := by decide +kernel
theorem dX6_areRound_42 : decode cX6_areRound 42 = .ok (.if_icmp .ge 7, 3) := by decide +kernel
theorem dX6_areRound_45 : decode cX6_areRound 45 = .ok (.iconst 1, 1) := by decide +kernel
theorem dX6_areRound_46 : decode cX6_areRound 46 = .ok (.goto 4, 3) := by decide +kernel
theorem dX6_areRound_49 : decode cX6_areRound 49 = .ok (.iconst 0, 1) := by decide +kernel
theorem dX6_areRound_50 : decode cX6_areRound 50 = .ok (.ireturn, 1) := by decide +kernel
theorem dX6_walkerOn_0 : decode cX6_walkerOn 0 = .ok (.iconst 0, 1) := by decide +kernel
theorem dX6_walkerOn_1 : decode cX6_walkerOn 1 = .ok (.istore_n 2, 1) := by decide +kernel
theorem dX6_walkerOn_2 : decode cX6_walkerOn 2 = .ok (.iload_n 2, 1) := by decide +kernel
theorem dX6_walkerOn_3 : decode cX6_walkerOn 3 = .ok (.aload_n 0, 1) := by decide +kernel
theorem dX6_walkerOn_4 : decode cX6_walkerOn 4 = .ok (.getfield 36, 3) := by decide +kernel
theorem dX6_walkerOn_7 : decode cX6_walkerOn 7 = .ok (.if_icmp .ge 26, 3) := by decide +kernel
theorem dX6_walkerOn_10 : decode cX6_walkerOn 10 = .ok (.aload_n 0, 1) := by decide +kernel
theorem dX6_walkerOn_11 : decode cX6_walkerOn 11 = .ok (.getfield 39, 3) := by decide +kernel
theorem dX6_walkerOn_14 : decode cX6_walkerOn 14 = .ok (.iload_n 2, 1) := by decide +kernel
theorem dX6_walkerOn_15 : decode cX6_walkerOn 15 = .ok (.bipush 8, 2) := by decide +kernel
theorem dX6_walkerOn_17 : decode cX6_walkerOn 17 = .ok (.imul, 1) := by decide +kernel
theorem dX6_walkerOn_18 : decode cX6_walkerOn 18 = .ok (.iconst 3, 1) := by decide +kernel
theorem dX6_walkerOn_19 : decode cX6_walkerOn 19 = .ok (.iadd, 1) := by decide +kernel
theorem dX6_walkerOn_20 : decode cX6_walkerOn 20 = .ok (.iaload, 1) := by decide +kernel
theorem dX6_walkerOn_21 : decode cX6_walkerOn 21 = .ok (.iload_n 1, 1) := by decide +kernel
theorem dX6_walkerOn_22 : decode cX6_walkerOn 22 = .ok (.if_icmp .ne 5, 3) := by decide +kernel
theorem dX6_walkerOn_25 : decode cX6_walkerOn 25 = .ok (.iload_n 2, 1) := by decide +kernel
theorem dX6_walkerOn_26 : decode cX6_walkerOn 26 = .ok (.ireturn, 1) := by decide +kernel
theorem dX6_walkerOn_27 : decode cX6_walkerOn 27 = .ok (.iinc 2 1, 3) := by decide +kernel
theorem dX6_walkerOn_30 : decode cX6_walkerOn 30 = .ok (.goto (-28), 3) := by decide +kernel
theorem dX6_walkerOn_33 : decode cX6_walkerOn 33 = .ok (.iconst (-1), 1) := by decide +kernel
theorem dX6_walkerOn_34 : decode cX6_walkerOn 34 = .ok (.ireturn, 1) := by decide +kernel
theorem dX6_round_0 : decode cX6_round 0 = .ok (.iconst 0, 1) := by decide +kernel
theorem dX6_round_1 : decode cX6_round 1 = .ok (.istore_n 3, 1) := by decide +kernel
theorem dX6_round_2 : decode cX6_round 2 = .ok (.iconst 0, 1) := by decide +kernel
theorem dX6_round_3 : decode cX6_round 3 = .ok (.istore 4, 2) := by decide +kernel
theorem dX6_round_5 : decode cX6_round 5 = .ok (.iload 4, 2) := by decide +kernel
theorem dX6_round_7 : decode cX6_round 7 = .ok (.aload_n 0, 1) := by decide +kernel
theorem dX6_round_8 : decode cX6_round 8 = .ok (.getfield 36, 3) := by decide +kernel
theorem dX6_round_11 : decode cX6_round 11 = .ok (.if_icmp .ge 59, 3) := by decide +kernel
theorem dX6_round_14 : decode cX6_round 14 = .ok (.iload_n 3, 1) := by decide +kernel
theorem dX6_round_15 : decode cX6_round 15 = .ok (.iload 4, 2) := by decide +kernel
theorem dX6_round_17 : decode cX6_round 17 = .ok (.iload_n 2, 1) := by decide +kernel
theorem dX6_round_18 : decode cX6_round 18 = .ok (.if_icmp .eq 43, 3) := by decide +kernel
theorem dX6_round_21 : decode cX6_round 21 = .ok (.aload_n 0, 1) := by decide +kernel
theorem dX6_round_22 : decode cX6_round 22 = .ok (.getfield 39, 3) := by decide +kernel
theorem dX6_round_25 : decode cX6_round 25 = .ok (.iload 4, 2) := by decide +kernel
theorem dX6_round_27 : decode cX6_round 27 = .ok (.bipush 8, 2) := by decide +kernel
theorem dX6_round_29 : decode cX6_round 29 = .ok (.imul, 1) := by decide +kernel
theorem dX6_round_30 : decode cX6_round 30 = .ok (.iconst 3, 1) := by decide +kernel
theorem dX6_round_31 : decode cX6_round 31 = .ok (.iadd, 1) := by decide +kernel
theorem dX6_round_32 : decode cX6_round 32 = .ok (.iaload, 1) := by decide +kernel
theorem dX6_round_33 : decode cX6_round 33 = .ok (.iconst (-1), 1) := by decide +kernel
theorem dX6_round_34 : decode cX6_round 34 = .ok (.if_icmp .eq 27, 3) := by decide +kernel
theorem dX6_round_37 : decode cX6_round 37 = .ok (.aload_n 0, 1) := by decide +kernel
theorem dX6_round_38 : decode cX6_round 38 = .ok (.iload_n 1, 1) := by decide +kernel
theorem dX6_round_39 : decode cX6_round 39 = .ok (.aload_n 0, 1) := by decide +kernel
theorem dX6_round_40 : decode cX6_round 40 = .ok (.getfield 39, 3) := by decide +kernel
theorem dX6_round_43 : decode cX6_round 43 = .ok (.iload 4, 2) := by decide +kernel
theorem dX6_round_45 : decode cX6_round 45 = .ok (.bipush 8, 2) := by decide +kernel
theorem dX6_round_47 : decode cX6_round 47 = .ok (.imul, 1) := by decide +kernel
theorem dX6_round_48 : decode cX6_round 48 = .ok (.iconst 3, 1) := by decide +kernel
theorem dX6_round_49 : decode cX6_round 49 = .ok (.iadd, 1) := by decide +kernel
theorem dX6_round_50 : decode cX6_round 50 = .ok (.iaload, 1) := by decide +kernel
theorem dX6_round_51 : decode cX6_round 51 = .ok (.invokevirtual 67, 3) := by decide +kernel
theorem dX6_round_54 : decode cX6_round 54 = .ok (.ifCond .eq 7, 3) := by decide +kernel
theorem dX6_round_57 : decode cX6_round 57 = .ok (.iconst 1, 1) := by decide +kernel
theorem dX6_round_58 : decode cX6_round 58 = .ok (.goto 4, 3) := by decide +kernel
theorem dX6_round_61 : decode cX6_round 61 = .ok (.iconst 0, 1) := by decide +kernel
theorem dX6_round_62 : decode cX6_round 62 = .ok (.iadd, 1) := by decide +kernel
theorem dX6_round_63 : decode cX6_round 63 = .ok (.istore_n 3, 1) := by decide +kernel
theorem dX6_round_64 : decode cX6_round 64 = .ok (.iinc 4 1, 3) := by decide +kernel
theorem dX6_round_67 : decode cX6_round 67 = .ok (.goto (-62), 3) := by decide +kernel
theorem dX6_round_70 : decode cX6_round 70 = .ok (.iload_n 3, 1) := by decide +kernel
theorem dX6_round_71 : decode cX6_round 71 = .ok (.ireturn, 1) := by decide +kernel
theorem dX6_far_0 : decode cX6_far 0 = .ok (.aload_n 0, 1) := by decide +kernel
theorem dX6_far_1 : decode cX6_far 1 = .ok (.getfield 20, 3) := by decide +kernel
theorem dX6_far_4 : decode cX6_far 4 = .ok (.aload_n 0, 1) := by decide +kernel
theorem dX6_far_5 : decode cX6_far 5 = .ok (.getfield 23, 3) := by decide +kernel
theorem dX6_far_8 : decode cX6_far 8 = .ok (.imul, 1) := by decide +kernel
theorem dX6_far_9 : decode cX6_far 9 = .ok (.istore_n 2, 1) := by decide +kernel
theorem dX6_far_10 : decode cX6_far 10 = .ok (.iload_n 2, 1) := by decide +kernel
theorem dX6_far_11 : decode cX6_far 11 = .ok (.newarray .int, 2) := by decide +kernel
theorem dX6_far_13 : decode cX6_far 13 = .ok (.astore_n 3, 1) := by decide +kernel
theorem dX6_far_14 : decode cX6_far 14 = .ok (.iload_n 2, 1) := by decide +kernel
theorem dX6_far_15 : decode cX6_far 15 = .ok (.newarray .int, 2) := by decide +kernel
theorem dX6_far_17 : decode cX6_far 17 = .ok (.astore 4, 2) := by decide +kernel
theorem dX6_far_19 : decode cX6_far 19 = .ok (.iconst 0, 1) := by decide +kernel
theorem dX6_far_20 : decode cX6_far 20 = .ok (.istore 5, 2) := by decide +kernel
theorem dX6_far_22 : decode cX6_far 22 = .ok (.iconst 0, 1) := by decide +kernel
theorem dX6_far_23 : decode cX6_far 23 = .ok (.istore 6, 2) := by decide +kernel
theorem dX6_far_25 : decode cX6_far 25 = .ok (.iload 6, 2) := by decide +kernel
theorem dX6_far_27 : decode cX6_far 27 = .ok (.iload_n 2, 1) := by decide +kernel
theorem dX6_far_28 : decode cX6_far 28 = .ok (.if_icmp .ge 59, 3) := by decide +kernel
theorem dX6_far_31 : decode cX6_far 31 = .ok (.aload_n 3, 1) := by decide +kernel
theorem dX6_far_32 : decode cX6_far 32 = .ok (.iload 6, 2) := by decide +kernel
theorem dX6_far_34 : decode cX6_far 34 = .ok (.aload_n 0, 1) := by decide +kernel
theorem dX6_far_35 : decode cX6_far 35 = .ok (.getfield 33, 3) := by decide +kernel
theorem dX6_far_38 : decode cX6_far 38 = .ok (.iload_n 1, 1) := by decide +kernel
theorem dX6_far_39 : decode cX6_far 39 = .ok (.iload_n 2, 1) := by decide +kernel
theorem dX6_far_40 : decode cX6_far 40 = .ok (.imul, 1) := by decide +kernel
theorem dX6_far_41 : decode cX6_far 41 = .ok (.iload 6, 2) := by decide +kernel
theorem dX6_far_43 : decode cX6_far 43 = .ok (.iadd, 1) := by decide +kernel
theorem dX6_far_44 : decode cX6_far 44 = .ok (.baload, 1) := by decide +kernel
theorem dX6_far_45 : decode cX6_far 45 = .ok (.ifCond .eq 17, 3) := by decide +kernel
theorem dX6_far_48 : decode cX6_far 48 = .ok (.aload_n 0, 1) := by decide +kernel
theorem dX6_far_49 : decode cX6_far 49 = .ok (.getfield 29, 3) := by decide +kernel
theorem dX6_far_52 : decode cX6_far 52 = .ok (.iload 6, 2) := by decide +kernel
theorem dX6_far_54 : decode cX6_far 54 = .ok (.baload, 1) := by decide +kernel
theorem dX6_far_55 : decode cX6_far 55 = .ok (.ifCond .ne 7, 3) := by decide +kernel
theorem dX6_far_58 : decode cX6_far 58 = .ok (.iconst 0, 1) := by decide +kernel
theorem dX6_far_59 : decode cX6_far 59 = .ok (.goto 4, 3) := by decide +kernel
theorem dX6_far_62 : decode cX6_far 62 = .ok (.iconst (-1), 1) := by decide +kernel
theorem dX6_far_63 : decode cX6_far 63 = .ok (.iastore, 1) := by decide +kernel
theorem dX6_far_64 : decode cX6_far 64 = .ok (.aload_n 3, 1) := by decide +kernel
theorem dX6_far_65 : decode cX6_far 65 = .ok (.iload 6, 2) := by decide +kernel
theorem dX6_far_67 : decode cX6_far 67 = .ok (.iaload, 1) := by decide +kernel
theorem dX6_far_68 : decode cX6_far 68 = .ok (.ifCond .ne 13, 3) := by decide +kernel
theorem dX6_far_71 : decode cX6_far 71 = .ok (.aload 4, 2) := by decide +kernel
theorem dX6_far_73 : decode cX6_far 73 = .ok (.iload 5, 2) := by decide +kernel
theorem dX6_far_75 : decode cX6_far 75 = .ok (.iinc 5 1, 3) := by decide +kernel
theorem dX6_far_78 : decode cX6_far 78 = .ok (.iload 6, 2) := by decide +kernel
theorem dX6_far_80 : decode cX6_far 80 = .ok (.iastore, 1) := by decide +kernel
theorem dX6_far_81 : decode cX6_far 81 = .ok (.iinc 6 1, 3) := by decide +kernel
theorem dX6_far_84 : decode cX6_far 84 = .ok (.goto (-59), 3) := by decide +kernel
theorem dX6_far_87 : decode cX6_far 87 = .ok (.iconst 0, 1) := by decide +kernel
theorem dX6_far_88 : decode cX6_far 88 = .ok (.istore 6, 2) := by decide +kernel
theorem dX6_far_90 : decode cX6_far 90 = .ok (.iload 6, 2) := by decide +kernel
theorem dX6_far_92 : decode cX6_far 92 = .ok (.iload 5, 2) := by decide +kernel
theorem dX6_far_94 : decode cX6_far 94 = .ok (.if_icmp .ge 87, 3) := by decide +kernel
theorem dX6_far_97 : decode cX6_far 97 = .ok (.iconst 0, 1) := by decide +kernel
theorem dX6_far_98 : decode cX6_far 98 = .ok (.istore 7, 2) := by decide +kernel
theorem dX6_far_100 : decode cX6_far 100 = .ok (.iload 7, 2) := by decide +kernel
theorem dX6_far_102 : decode cX6_far 102 = .ok (.iconst 4, 1) := by decide +kernel
theorem dX6_far_103 : decode cX6_far 103 = .ok (.if_icmp .ge 72, 3) := by decide +kernel
theorem dX6_far_106 : decode cX6_far 106 = .ok (.aload_n 0, 1) := by decide +kernel
theorem dX6_far_107 : decode cX6_far 107 = .ok (.aload 4, 2) := by decide +kernel
theorem dX6_far_109 : decode cX6_far 109 = .ok (.iload 6, 2) := by decide +kernel
theorem dX6_far_111 : decode cX6_far 111 = .ok (.iaload, 1) := by decide +kernel
theorem dX6_far_112 : decode cX6_far 112 = .ok (.iload 7, 2) := by decide +kernel
theorem dX6_far_114 : decode cX6_far 114 = .ok (.invokevirtual 70, 3) := by decide +kernel
theorem dX6_far_117 : decode cX6_far 117 = .ok (.istore 8, 2) := by decide +kernel
theorem dX6_far_119 : decode cX6_far 119 = .ok (.iload 8, 2) := by decide +kernel
theorem dX6_far_121 : decode cX6_far 121 = .ok (.iconst (-1), 1) := by decide +kernel
theorem dX6_far_122 : decode cX6_far 122 = .ok (.if_icmp .eq 47, 3) := by decide +kernel
theorem dX6_far_125 : decode cX6_far 125 = .ok (.aload_n 0, 1) := by decide +kernel
theorem dX6_far_126 : decode cX6_far 126 = .ok (.getfield 29, 3) := by decide +kernel
theorem dX6_far_129 : decode cX6_far 129 = .ok (.iload 8, 2) := by decide +kernel
theorem dX6_far_131 : decode cX6_far 131 = .ok (.baload, 1) := by decide +kernel
theorem dX6_far_132 : decode cX6_far 132 = .ok (.ifCond .ne 37, 3) := by decide +kernel
theorem dX6_far_135 : decode cX6_far 135 = .ok (.aload_n 3, 1) := by decide +kernel
theorem dX6_far_136 : decode cX6_far 136 = .ok (.iload 8, 2) := by decide +kernel
theorem dX6_far_138 : decode cX6_far 138 = .ok (.iaload, 1) := by decide +kernel
theorem dX6_far_139 : decode cX6_far 139 = .ok (.iconst (-1), 1) := by decide +kernel
theorem dX6_far_140 : decode cX6_far 140 = .ok (.if_icmp .eq 6, 3) := by decide +kernel
theorem dX6_far_143 : decode cX6_far 143 = .ok (.goto 26, 3) := by decide +kernel
theorem dX6_far_146 : decode cX6_far 146 = .ok (.aload_n 3, 1) := by decide +kernel
theorem dX6_far_147 : decode cX6_far 147 = .ok (.iload 8, 2) := by decide +kernel
theorem dX6_far_149 : decode cX6_far 149 = .ok (.aload_n 3, 1) := by decide +kernel
theorem dX6_far_150 : decode cX6_far 150 = .ok (.aload 4, 2) := by decide +kernel
theorem dX6_far_152 : decode cX6_far 152 = .ok (.iload 6, 2) := by decide +kernel
theorem dX6_far_154 : decode cX6_far 154 = .ok (.iaload, 1) := by decide +kernel
theorem dX6_far_155 : decode cX6_far 155 = .ok (.iaload, 1) := by decide +kernel
theorem dX6_far_156 : decode cX6_far 156 = .ok (.iconst 1, 1) := by decide +kernel
theorem dX6_far_157 : decode cX6_far 157 = .ok (.iadd, 1) := by decide +kernel
theorem dX6_far_158 : decode cX6_far 158 = .ok (.iastore, 1) := by decide +kernel
theorem dX6_far_159 : decode cX6_far 159 = .ok (.aload 4, 2) := by decide +kernel
theorem dX6_far_161 : decode cX6_far 161 = .ok (.iload 5, 2) := by decide +kernel
theorem dX6_far_163 : decode cX6_far 163 = .ok (.iinc 5 1, 3) := by decide +kernel
theorem dX6_far_166 : decode cX6_far 166 = .ok (.iload 8, 2) := by decide +kernel
theorem dX6_far_168 : decode cX6_far 168 = .ok (.iastore, 1) := by decide +kernel
theorem dX6_far_169 : decode cX6_far 169 = .ok (.iinc 7 1, 3) := by decide +kernel
theorem dX6_far_172 : decode cX6_far 172 = .ok (.goto (-72), 3) := by decide +kernel
theorem dX6_far_175 : decode cX6_far 175 = .ok (.iinc 6 1, 3) := by decide +kernel
theorem dX6_far_178 : decode cX6_far 178 = .ok (.goto (-88), 3) := by decide +kernel
theorem dX6_far_181 : decode cX6_far 181 = .ok (.aload_n 3, 1) := by decide +kernel
theorem dX6_far_182 : decode cX6_far 182 = .ok (.areturn, 1) := by decide +kernel
theorem dX6_farAll_0 : decode cX6_farAll 0 = .ok (.iconst 4, 1) := by decide +kernel
theorem dX6_farAll_1 : decode cX6_farAll 1 = .ok (.anewarray 74, 3) := by decide +kernel
theorem dX6_farAll_4 : decode cX6_farAll 4 = .ok (.astore_n 1, 1) := by decide +kernel
theorem dX6_farAll_5 : decode cX6_farAll 5 = .ok (.iconst 0, 1) := by decide +kernel
theorem dX6_farAll_6 : decode cX6_farAll 6 = .ok (.istore_n 2, 1) := by decide +kernel
theorem dX6_farAll_7 : decode cX6_farAll 7 = .ok (.iload_n 2, 1) := by decide +kernel
theorem dX6_farAll_8 : decode cX6_farAll 8 = .ok (.iconst 4, 1) := by decide +kernel
theorem dX6_farAll_9 : decode cX6_farAll 9 = .ok (.if_icmp .ge 17, 3) := by decide +kernel
theorem dX6_farAll_12 : decode cX6_farAll 12 = .ok (.aload_n 1, 1) := by decide +kernel
theorem dX6_farAll_13 : decode cX6_farAll 13 = .ok (.iload_n 2, 1) := by decide +kernel
theorem dX6_farAll_14 : decode cX6_farAll 14 = .ok (.aload_n 0, 1) := by decide +kernel
theorem dX6_farAll_15 : decode cX6_farAll 15 = .ok (.iload_n 2, 1) := by decide +kernel
theorem dX6_farAll_16 : decode cX6_farAll 16 = .ok (.invokevirtual 75, 3) := by decide +kernel
theorem dX6_farAll_19 : decode cX6_farAll 19 = .ok (.aastore, 1) := by decide +kernel
theorem dX6_farAll_20 : decode cX6_farAll 20 = .ok (.iinc 2 1, 3) := by decide +kernel
theorem dX6_farAll_23 : decode cX6_farAll 23 = .ok (.goto (-16), 3) := by decide +kernel
theorem dX6_farAll_26 : decode cX6_farAll 26 = .ok (.aload_n 1, 1) := by decide +kernel
theorem dX6_farAll_27 : decode cX6_farAll 27 = .ok (.areturn, 1) := by decide +kernel
theorem dX6_reset_0 : decode cX6_reset 0 = .ok (.aload_n 0, 1) := by decide +kernel
theorem dX6_reset_1 : decode cX6_reset 1 = .ok (.iconst 0, 1) := by decide +kernel
theorem dX6_reset_2 : decode cX6_reset 2 = .ok (.putfield 46, 3) := by decide +kernel
theorem dX6_reset_5 : decode cX6_reset 5 = .ok (.iload_n 1, 1) := by decide +kernel
theorem dX6_reset_6 : decode cX6_reset 6 = .ok (.iconst 2, 1) := by decide +kernel
theorem dX6_reset_7 : decode cX6_reset 7 = .ok (.bipush 14, 2) := by decide +kernel
theorem dX6_reset_9 : decode cX6_reset 9 = .ok (.invokestatic 49, 3) := by decide +kernel
theorem dX6_reset_12 : decode cX6_reset 12 = .ok (.ifCond .eq 13, 3) := by decide +kernel
theorem dX6_reset_15 : decode cX6_reset 15 = .ok (.iload_n 2, 1) := by decide +kernel
theorem dX6_reset_16 : decode cX6_reset 16 = .ok (.iconst 2, 1) := by decide +kernel
theorem dX6_reset_17 : decode cX6_reset 17 = .ok (.bipush 14, 2) := by decide +kernel
theorem dX6_reset_19 : decode cX6_reset 19 = .ok (.invokestatic 49, 3) := by decide +kernel
theorem dX6_reset_22 : decode cX6_reset 22 = .ok (.ifCond .ne 9, 3) := by decide +kernel
theorem dX6_reset_25 : decode cX6_reset 25 = .ok (.aload_n 0, 1) := by decide +kernel
theorem dX6_reset_26 : decode cX6_reset 26 = .ok (.iconst 1, 1) := by decide +kernel
theorem dX6_reset_27 : decode cX6_reset 27 = .ok (.invokevirtual 79, 3) := by decide +kernel
theorem dX6_reset_30 : decode cX6_reset 30 = .ok (.ireturn, 1) := by decide +kernel
theorem dX6_reset_31 : decode cX6_reset 31 = .ok (.aload_n 0, 1) := by decide +kernel
theorem dX6_reset_32 : decode cX6_reset 32 = .ok (.iload_n 1, 1) := by decide +kernel
theorem dX6_reset_33 : decode cX6_reset 33 = .ok (.iload_n 2, 1) := by decide +kernel
theorem dX6_reset_34 : decode cX6_reset 34 = .ok (.invokevirtual 16, 3) := by decide +kernel
theorem dX6_reset_37 : decode cX6_reset 37 = .ok (.aload_n 0, 1) := by decide +kernel
theorem dX6_reset_38 : decode cX6_reset 38 = .ok (.getfield 20, 3) := by decide +kernel
theorem dX6_reset_41 : decode cX6_reset 41 = .ok (.aload_n 0, 1) := by decide +kernel
theorem dX6_reset_42 : decode cX6_reset 42 = .ok (.getfield 23, 3) := by decide +kernel
theorem dX6_reset_45 : decode cX6_reset 45 = .ok (.imul, 1) := by decide +kernel
theorem dX6_reset_46 : decode cX6_reset 46 = .ok (.ireturn, 1) := by decide +kernel
theorem dX6_wall_0 : decode cX6_wall 0 = .ok (.aload_n 0, 1) := by decide +kernel
theorem dX6_wall_1 : decode cX6_wall 1 = .ok (.iconst 0, 1) := by decide +kernel
theorem dX6_wall_2 : decode cX6_wall 2 = .ok (.putfield 46, 3) := by decide +kernel
theorem dX6_wall_5 : decode cX6_wall 5 = .ok (.aload_n 0, 1) := by decide +kernel
theorem dX6_wall_6 : decode cX6_wall 6 = .ok (.iload_n 1, 1) := by decide +kernel
theorem dX6_wall_7 : decode cX6_wall 7 = .ok (.iload_n 2, 1) := by decide +kernel
theorem dX6_wall_8 : decode cX6_wall 8 = .ok (.invokevirtual 57, 3) := by decide +kernel
theorem dX6_wall_11 : decode cX6_wall 11 = .ok (.ifCond .eq 13, 3) := by decide +kernel
theorem dX6_wall_14 : decode cX6_wall 14 = .ok (.aload_n 0, 1) := by decide +kernel
theorem dX6_wall_15 : decode cX6_wall 15 = .ok (.iload_n 3, 1) := by decide +kernel
theorem dX6_wall_16 : decode cX6_wall 16 = .ok (.iload 4, 2) := by decide +kernel
theorem dX6_wall_18 : decode cX6_wall 18 = .ok (.invokevirtual 57, 3) := by decide +kernel
theorem dX6_wall_21 : decode cX6_wall 21 = .ok (.ifCond .ne 9, 3) := by decide +kernel
theorem dX6_wall_24 : decode cX6_wall 24 = .ok (.aload_n 0, 1) := by decide +kernel
theorem dX6_wall_25 : decode cX6_wall 25 = .ok (.iconst 1, 1) := by decide +kernel
theorem dX6_wall_26 : decode cX6_wall 26 = .ok (.invokevirtual 79, 3) := by decide +kernel
theorem dX6_wall_29 : decode cX6_wall 29 = .ok (.ireturn, 1) := by decide +kernel
theorem dX6_wall_30 : decode cX6_wall 30 = .ok (.iconst 0, 1) := by decide +kernel
theorem dX6_wall_31 : decode cX6_wall 31 = .ok (.istore 6, 2) := by decide +kernel
theorem dX6_wall_33 : decode cX6_wall 33 = .ok (.iload 6, 2) := by decide +kernel
theorem dX6_wall_35 : decode cX6_wall 35 = .ok (.iconst 2, 1) := by decide +kernel
theorem dX6_wall_36 : decode cX6_wall 36 = .ok (.if_icmp .ge 124, 3) := by decide +kernel
theorem dX6_wall_39 : decode cX6_wall 39 = .ok (.iconst 0, 1) := by decide +kernel
theorem dX6_wall_40 : decode cX6_wall 40 = .ok (.istore 7, 2) := by decide +kernel
theorem dX6_wall_42 : decode cX6_wall 42 = .ok (.iload 7, 2) := by decide +kernel
theorem dX6_wall_44 : decode cX6_wall 44 = .ok (.aload_n 0, 1) := by decide +kernel
theorem dX6_wall_45 : decode cX6_wall 45 = .ok (.getfield 20, 3) := by decide +kernel
theorem dX6_wall_48 : decode cX6_wall 48 = .ok (.aload_n 0, 1) := by decide +kernel
theorem dX6_wall_49 : decode cX6_wall 49 = .ok (.getfield 23, 3) := by decide +kernel
theorem dX6_wall_52 : decode cX6_wall 52 = .ok (.imul, 1) := by decide +kernel
theorem dX6_wall_53 : decode cX6_wall 53 = .ok (.if_icmp .ge 101, 3) := by decide +kernel
theorem dX6_wall_56 : decode cX6_wall 56 = .ok (.iload 7, 2) := by decide +kernel
theorem dX6_wall_58 : decode cX6_wall 58 = .ok (.aload_n 0, 1) := by decide +kernel
theorem dX6_wall_59 : decode cX6_wall 59 = .ok (.getfield 20, 3) := by decide +kernel
theorem dX6_wall_62 : decode cX6_wall 62 = .ok (.irem, 1) := by decide +kernel
theorem dX6_wall_63 : decode cX6_wall 63 = .ok (.iload_n 1, 1) := by decide +kernel
theorem dX6_wall_64 : decode cX6_wall 64 = .ok (.iload_n 3, 1) := by decide +kernel
theorem dX6_wall_65 : decode cX6_wall 65 = .ok (.invokestatic 82, 3) := by decide +kernel
theorem dX6_wall_68 : decode cX6_wall 68 = .ok (.iload_n 1, 1) := by decide +kernel
theorem dX6_wall_69 : decode cX6_wall 69 = .ok (.iload_n 3, 1) := by decide +kernel
theorem dX6_wall_70 : decode cX6_wall 70 = .ok (.invokestatic 85, 3) := by decide +kernel
theorem dX6_wall_73 : decode cX6_wall 73 = .ok (.invokestatic 49, 3) := by decide +kernel
theorem dX6_wall_76 : decode cX6_wall 76 = .ok (.ifCond .eq 72, 3) := by decide +kernel
theorem dX6_wall_79 : decode cX6_wall 79 = .ok (.iload 7, 2) := by decide +kernel
theorem dX6_wall_81 : decode cX6_wall 81 = .ok (.aload_n 0, 1) := by decide +kernel
theorem dX6_wall_82 : decode cX6_wall 82 = .ok (.getfield 20, 3) := by decide +kernel
theorem dX6_wall_85 : decode cX6_wall 85 = .ok (.idiv, 1) := by decide +kernel
theorem dX6_wall_86 : decode cX6_wall 86 = .ok (.iload_n 2, 1) := by decide +kernel
theorem dX6_wall_87 : decode cX6_wall 87 = .ok (.iload 4, 2) := by decide +kernel
theorem dX6_wall_89 : decode cX6_wall 89 = .ok (.invokestatic 82, 3) := by decide +kernel
theorem dX6_wall_92 : decode cX6_wall 92 = .ok (.iload_n 2, 1) := by decide +kernel
theorem dX6_wall_93 : decode cX6_wall 93 = .ok (.iload 4, 2) := by decide +kernel
theorem dX6_wall_95 : decode cX6_wall 95 = .ok (.invokestatic 85, 3) := by decide +kernel
theorem dX6_wall_98 : decode cX6_wall 98 = .ok (.invokestatic 49, 3) := by decide +kernel
theorem dX6_wall_101 : decode cX6_wall 101 = .ok (.ifCond .ne 6, 3) := by decide +kernel
theorem dX6_wall_104 : decode cX6_wall 104 = .ok (.goto 44, 3) := by decide +kernel
theorem dX6_wall_107 : decode cX6_wall 107 = .ok (.iload 6, 2) := by decide +kernel
theorem dX6_wall_109 : decode cX6_wall 109 = .ok (.ifCond .ne 24, 3) := by decide +kernel
theorem dX6_wall_112 : decode cX6_wall 112 = .ok (.iload 5, 2) := by decide +kernel
theorem dX6_wall_114 : decode cX6_wall 114 = .ok (.ifCond .eq 19, 3) := by decide +kernel
theorem dX6_wall_117 : decode cX6_wall 117 = .ok (.aload_n 0, 1) := by decide +kernel
theorem dX6_wall_118 : decode cX6_wall 118 = .ok (.iload 7, 2) := by decide +kernel
theorem dX6_wall_120 : decode cX6_wall 120 = .ok (.invokevirtual 88, 3) := by decide +kernel
theorem dX6_wall_123 : decode cX6_wall 123 = .ok (.iconst (-1), 1) := by decide +kernel
theorem dX6_wall_124 : decode cX6_wall 124 = .ok (.if_icmp .eq 9, 3) := by decide +kernel
theorem dX6_wall_127 : decode cX6_wall 127 = .ok (.aload_n 0, 1) := by decide +kernel
theorem dX6_wall_128 : decode cX6_wall 128 = .ok (.iconst 2, 1) := by decide +kernel
theorem dX6_wall_129 : decode cX6_wall 129 = .ok (.invokevirtual 79, 3) := by decide +kernel
theorem dX6_wall_132 : decode cX6_wall 132 = .ok (.ireturn, 1) := by decide +kernel
theorem dX6_wall_133 : decode cX6_wall 133 = .ok (.iload 6, 2) := by decide +kernel
theorem dX6_wall_135 : decode cX6_wall 135 = .ok (.iconst 1, 1) := by decide +kernel
theorem dX6_wall_136 : decode cX6_wall 136 = .ok (.if_icmp .ne 12, 3) := by decide +kernel
theorem dX6_wall_139 : decode cX6_wall 139 = .ok (.aload_n 0, 1) := by decide +kernel
theorem dX6_wall_140 : decode cX6_wall 140 = .ok (.getfield 29, 3) := by decide +kernel
theorem dX6_wall_143 : decode cX6_wall 143 = .ok (.iload 7, 2) := by decide +kernel
theorem dX6_wall_145 : decode cX6_wall 145 = .ok (.iload 5, 2) := by decide +kernel
theorem dX6_wall_147 : decode cX6_wall 147 = .ok (.bastore, 1) := by decide +kernel
theorem dX6_wall_148 : decode cX6_wall 148 = .ok (.iinc 7 1, 3) := by decide +kernel
theorem dX6_wall_151 : decode cX6_wall 151 = .ok (.goto (-109), 3) := by decide +kernel
theorem dX6_wall_154 : decode cX6_wall 154 = .ok (.iinc 6 1, 3) := by decide +kernel
theorem dX6_wall_157 : decode cX6_wall 157 = .ok (.goto (-124), 3) := by decide +kernel
theorem dX6_wall_160 : decode cX6_wall 160 = .ok (.iconst 0, 1) := by decide +kernel
theorem dX6_wall_161 : decode cX6_wall 161 = .ok (.istore 6, 2) := by decide +kernel
theorem dX6_wall_163 : decode cX6_wall 163 = .ok (.aload_n 0, 1) := by decide +kernel
theorem dX6_wall_164 : decode cX6_wall 164 = .ok (.getfield 29, 3) := by decide +kernel
theorem dX6_wall_167 : decode cX6_wall 167 = .ok (.astore 7, 2) := by decide +kernel
theorem dX6_wall_169 : decode cX6_wall 169 = .ok (.aload 7, 2) := by decide +kernel
theorem dX6_wall_171 : decode cX6_wall 171 = .ok (.arraylength, 1) := by decide +kernel
theorem dX6_wall_172 : decode cX6_wall 172 = .ok (.istore 8, 2) := by decide +kernel
theorem dX6_wall_174 : decode cX6_wall 174 = .ok (.iconst 0, 1) := by decide +kernel
theorem dX6_wall_175 : decode cX6_wall 175 = .ok (.istore 9, 2) := by decide +kernel
theorem dX6_wall_177 : decode cX6_wall 177 = .ok (.iload 9, 2) := by decide +kernel
theorem dX6_wall_179 : decode cX6_wall 179 = .ok (.iload 8, 2) := by decide +kernel
theorem dX6_wall_181 : decode cX6_wall 181 = .ok (.if_icmp .ge 31, 3) := by decide +kernel
theorem dX6_wall_184 : decode cX6_wall 184 = .ok (.aload 7, 2) := by decide +kernel
theorem dX6_wall_186 : decode cX6_wall 186 = .ok (.iload 9, 2) := by decide +kernel
theorem dX6_wall_188 : decode cX6_wall 188 = .ok (.baload, 1) := by decide +kernel
theorem dX6_wall_189 : decode cX6_wall 189 = .ok (.istore 10, 2) := by decide +kernel
theorem dX6_wall_191 : decode cX6_wall 191 = .ok (.iload 6, 2) := by decide +kernel
theorem dX6_wall_193 : decode cX6_wall 193 = .ok (.iload 10, 2) := by decide +kernel
theorem dX6_wall_195 : decode cX6_wall 195 = .ok (.ifCond .eq 7, 3) := by decide +kernel
theorem dX6_wall_198 : decode cX6_wall 198 = .ok (.iconst 1, 1) := by decide +kernel
theorem dX6_wall_199 : decode cX6_wall 199 = .ok (.goto 4, 3) := by decide +kernel
theorem dX6_wall_202 : decode cX6_wall 202 = .ok (.iconst 0, 1) := by decide +kernel
theorem dX6_wall_203 : decode cX6_wall 203 = .ok (.iadd, 1) := by decide +kernel
theorem dX6_wall_204 : decode cX6_wall 204 = .ok (.istore 6, 2) := by decide +kernel
theorem dX6_wall_206 : decode cX6_wall 206 = .ok (.iinc 9 1, 3) := by decide +kernel
theorem dX6_wall_209 : decode cX6_wall 209 = .ok (.goto (-32), 3) := by decide +kernel
theorem dX6_wall_212 : decode cX6_wall 212 = .ok (.iload 6, 2) := by decide +kernel
theorem dX6_wall_214 : decode cX6_wall 214 = .ok (.ireturn, 1) := by decide +kernel
theorem dX6_mark_0 : decode cX6_mark 0 = .ok (.aload_n 0, 1) := by decide +kernel
theorem dX6_mark_1 : decode cX6_mark 1 = .ok (.iconst 0, 1) := by decide +kernel
theorem dX6_mark_2 : decode cX6_mark 2 = .ok (.putfield 46, 3) := by decide +kernel
theorem dX6_mark_5 : decode cX6_mark 5 = .ok (.iload_n 1, 1) := by decide +kernel
theorem dX6_mark_6 : decode cX6_mark 6 = .ok (.invokestatic 91, 3) := by decide +kernel
theorem dX6_mark_9 : decode cX6_mark 9 = .ok (.ifCond .eq 12, 3) := by decide +kernel
theorem dX6_mark_12 : decode cX6_mark 12 = .ok (.aload_n 0, 1) := by decide +kernel
theorem dX6_mark_13 : decode cX6_mark 13 = .ok (.iload_n 2, 1) := by decide +kernel
theorem dX6_mark_14 : decode cX6_mark 14 = .ok (.iload_n 3, 1) := by decide +kernel
theorem dX6_mark_15 : decode cX6_mark 15 = .ok (.invokevirtual 57, 3) := by decide +kernel
theorem dX6_mark_18 : decode cX6_mark 18 = .ok (.ifCond .ne 9, 3) := by decide +kernel
theorem dX6_mark_21 : decode cX6_mark 21 = .ok (.aload_n 0, 1) := by decide +kernel
theorem dX6_mark_22 : decode cX6_mark 22 = .ok (.iconst 1, 1) := by decide +kernel
theorem dX6_mark_23 : decode cX6_mark 23 = .ok (.invokevirtual 79, 3) := by decide +kernel
theorem dX6_mark_26 : decode cX6_mark 26 = .ok (.ireturn, 1) := by decide +kernel
theorem dX6_mark_27 : decode cX6_mark 27 = .ok (.iload_n 3, 1) := by decide +kernel
theorem dX6_mark_28 : decode cX6_mark 28 = .ok (.aload_n 0, 1) := by decide +kernel
theorem dX6_mark_29 : decode cX6_mark 29 = .ok (.getfield 20, 3) := by decide +kernel
theorem dX6_mark_32 : decode cX6_mark 32 = .ok (.imul, 1) := by decide +kernel
theorem dX6_mark_33 : decode cX6_mark 33 = .ok (.iload_n 2, 1) := by decide +kernel
theorem dX6_mark_34 : decode cX6_mark 34 = .ok (.iadd, 1) := by decide +kernel
theorem dX6_mark_35 : decode cX6_mark 35 = .ok (.istore 4, 2) := by decide +kernel
theorem dX6_mark_37 : decode cX6_mark 37 = .ok (.aload_n 0, 1) := by decide +kernel
theorem dX6_mark_38 : decode cX6_mark 38 = .ok (.iload 4, 2) := by decide +kernel
theorem dX6_mark_40 : decode cX6_mark 40 = .ok (.invokevirtual 88, 3) := by decide +kernel
theorem dX6_mark_43 : decode cX6_mark 43 = .ok (.istore 5, 2) := by decide +kernel
theorem dX6_mark_45 : decode cX6_mark 45 = .ok (.iload 5, 2) := by decide +kernel
theorem dX6_mark_47 : decode cX6_mark 47 = .ok (.iconst (-1), 1) := by decide +kernel
theorem dX6_mark_48 : decode cX6_mark 48 = .ok (.if_icmp .eq 25, 3) := by decide +kernel
theorem dX6_mark_51 : decode cX6_mark 51 = .ok (.aload_n 0, 1) := by decide +kernel
theorem dX6_mark_52 : decode cX6_mark 52 = .ok (.getfield 39, 3) := by decide +kernel
theorem dX6_mark_55 : decode cX6_mark 55 = .ok (.iload 5, 2) := by decide +kernel
theorem dX6_mark_57 : decode cX6_mark 57 = .ok (.bipush 8, 2) := by decide +kernel
theorem dX6_mark_59 : decode cX6_mark 59 = .ok (.imul, 1) := by decide +kernel
theorem dX6_mark_60 : decode cX6_mark 60 = .ok (.iconst 0, 1) := by decide +kernel
theorem dX6_mark_61 : decode cX6_mark 61 = .ok (.iadd, 1) := by decide +kernel
theorem dX6_mark_62 : decode cX6_mark 62 = .ok (.iaload, 1) := by decide +kernel
theorem dX6_mark_63 : decode cX6_mark 63 = .ok (.iload_n 1, 1) := by decide +kernel
theorem dX6_mark_64 : decode cX6_mark 64 = .ok (.if_icmp .ne 9, 3) := by decide +kernel
theorem dX6_mark_67 : decode cX6_mark 67 = .ok (.aload_n 0, 1) := by decide +kernel
theorem dX6_mark_68 : decode cX6_mark 68 = .ok (.iconst 2, 1) := by decide +kernel
theorem dX6_mark_69 : decode cX6_mark 69 = .ok (.invokevirtual 79, 3) := by decide +kernel
theorem dX6_mark_72 : decode cX6_mark 72 = .ok (.ireturn, 1) := by decide +kernel
theorem dX6_mark_73 : decode cX6_mark 73 = .ok (.aload_n 0, 1) := by decide +kernel
theorem dX6_mark_74 : decode cX6_mark 74 = .ok (.getfield 33, 3) := by decide +kernel
theorem dX6_mark_77 : decode cX6_mark 77 = .ok (.iload_n 1, 1) := by decide +kernel
theorem dX6_mark_78 : decode cX6_mark 78 = .ok (.aload_n 0, 1) := by decide +kernel
theorem dX6_mark_79 : decode cX6_mark 79 = .ok (.getfield 20, 3) := by decide +kernel
theorem dX6_mark_82 : decode cX6_mark 82 = .ok (.imul, 1) := by decide +kernel
theorem dX6_mark_83 : decode cX6_mark 83 = .ok (.aload_n 0, 1) := by decide +kernel
theorem dX6_mark_84 : decode cX6_mark 84 = .ok (.getfield 23, 3) := by decide +kernel
theorem dX6_mark_87 : decode cX6_mark 87 = .ok (.imul, 1) := by decide +kernel
theorem dX6_mark_88 : decode cX6_mark 88 = .ok (.iload 4, 2) := by decide +kernel
theorem dX6_mark_90 : decode cX6_mark 90 = .ok (.iadd, 1) := by decide +kernel
theorem dX6_mark_91 : decode cX6_mark 91 = .ok (.aload_n 0, 1) := by decide +kernel
theorem dX6_mark_92 : decode cX6_mark 92 = .ok (.getfield 33, 3) := by decide +kernel
theorem dX6_mark_95 : decode cX6_mark 95 = .ok (.iload_n 1, 1) := by decide +kernel
theorem dX6_mark_96 : decode cX6_mark 96 = .ok (.aload_n 0, 1) := by decide +kernel
theorem dX6_mark_97 : decode cX6_mark 97 = .ok (.getfield 20, 3) := by decide +kernel
theorem dX6_mark_100 : decode cX6_mark 100 = .ok (.imul, 1) := by decide +kernel
theorem dX6_mark_101 : decode cX6_mark 101 = .ok (.aload_n 0, 1) := by decide +kernel
theorem dX6_mark_102 : decode cX6_mark 102 = .ok (.getfield 23, 3) := by decide +kernel
theorem dX6_mark_105 : decode cX6_mark 105 = .ok (.imul, 1) := by decide +kernel
theorem dX6_mark_106 : decode cX6_mark 106 = .ok (.iload 4, 2) := by decide +kernel
theorem dX6_mark_108 : decode cX6_mark 108 = .ok (.iadd, 1) := by decide +kernel
theorem dX6_mark_109 : decode cX6_mark 109 = .ok (.baload, 1) := by decide +kernel
theorem dX6_mark_110 : decode cX6_mark 110 = .ok (.ifCond .ne 7, 3) := by decide +kernel
theorem dX6_mark_113 : decode cX6_mark 113 = .ok (.iconst 1, 1) := by decide +kernel
theorem dX6_mark_114 : decode cX6_mark 114 = .ok (.goto 4, 3) := by decide +kernel
theorem dX6_mark_117 : decode cX6_mark 117 = .ok (.iconst 0, 1) := by decide +kernel
theorem dX6_mark_118 : decode cX6_mark 118 = .ok (.bastore, 1) := by decide +kernel
theorem dX6_mark_119 : decode cX6_mark 119 = .ok (.iconst 0, 1) := by decide +kernel
theorem dX6_mark_120 : decode cX6_mark 120 = .ok (.istore 6, 2) := by decide +kernel
theorem dX6_mark_122 : decode cX6_mark 122 = .ok (.iconst 0, 1) := by decide +kernel
theorem dX6_mark_123 : decode cX6_mark 123 = .ok (.istore 7, 2) := by decide +kernel
theorem dX6_mark_125 : decode cX6_mark 125 = .ok (.iload 7, 2) := by decide +kernel
theorem dX6_mark_127 : decode cX6_mark 127 = .ok (.aload_n 0, 1) := by decide +kernel
theorem dX6_mark_128 : decode cX6_mark 128 = .ok (.getfield 20, 3) := by decide +kernel
theorem dX6_mark_131 : decode cX6_mark 131 = .ok (.aload_n 0, 1) := by decide +kernel
theorem dX6_mark_132 : decode cX6_mark 132 = .ok (.getfield 23, 3) := by decide +kernel
theorem dX6_mark_135 : decode cX6_mark 135 = .ok (.imul, 1) := by decide +kernel
theorem dX6_mark_136 : decode cX6_mark 136 = .ok (.if_icmp .ge 41, 3) := by decide +kernel
theorem dX6_mark_139 : decode cX6_mark 139 = .ok (.iload 6, 2) := by decide +kernel
theorem dX6_mark_141 : decode cX6_mark 141 = .ok (.aload_n 0, 1) := by decide +kernel
theorem dX6_mark_142 : decode cX6_mark 142 = .ok (.getfield 33, 3) := by decide +kernel
theorem dX6_mark_145 : decode cX6_mark 145 = .ok (.iload_n 1, 1) := by decide +kernel
theorem dX6_mark_146 : decode cX6_mark 146 = .ok (.aload_n 0, 1) := by decide +kernel
theorem dX6_mark_147 : decode cX6_mark 147 = .ok (.getfield 20, 3) := by decide +kernel
theorem dX6_mark_150 : decode cX6_mark 150 = .ok (.imul, 1) := by decide +kernel
theorem dX6_mark_151 : decode cX6_mark 151 = .ok (.aload_n 0, 1) := by decide +kernel
theorem dX6_mark_152 : decode cX6_mark 152 = .ok (.getfield 23, 3) := by decide +kernel
theorem dX6_mark_155 : decode cX6_mark 155 = .ok (.imul, 1) := by decide +kernel
theorem dX6_mark_156 : decode cX6_mark 156 = .ok (.iload 7, 2) := by decide +kernel
theorem dX6_mark_158 : decode cX6_mark 158 = .ok (.iadd, 1) := by decide +kernel
theorem dX6_mark_159 : decode cX6_mark 159 = .ok (.baload, 1) := by decide +kernel
theorem dX6_mark_160 : decode cX6_mark 160 = .ok (.ifCond .eq 7, 3) := by decide +kernel
theorem dX6_mark_163 : decode cX6_mark 163 = .ok (.iconst 1, 1) := by decide +kernel
theorem dX6_mark_164 : decode cX6_mark 164 = .ok (.goto 4, 3) := by decide +kernel
theorem dX6_mark_167 : decode cX6_mark 167 = .ok (.iconst 0, 1) := by decide +kernel
theorem dX6_mark_168 : decode cX6_mark 168 = .ok (.iadd, 1) := by decide +kernel
theorem dX6_mark_169 : decode cX6_mark 169 = .ok (.istore 6, 2) := by decide +kernel
theorem dX6_mark_171 : decode cX6_mark 171 = .ok (.iinc 7 1, 3) := by decide +kernel
theorem dX6_mark_174 : decode cX6_mark 174 = .ok (.goto (-49), 3) := by decide +kernel
theorem dX6_mark_177 : decode cX6_mark 177 = .ok (.iload 6, 2) := by decide +kernel
theorem dX6_mark_179 : decode cX6_mark 179 = .ok (.ireturn, 1) := by decide +kernel
theorem dX6_set_0 : decode cX6_set 0 = .ok (.aload_n 0, 1) := by decide +kernel
theorem dX6_set_1 : decode cX6_set 1 = .ok (.iconst 0, 1) := by decide +kernel
theorem dX6_set_2 : decode cX6_set 2 = .ok (.putfield 46, 3) := by decide +kernel
theorem dX6_set_5 : decode cX6_set 5 = .ok (.iload_n 1, 1) := by decide +kernel
theorem dX6_set_6 : decode cX6_set 6 = .ok (.iconst 0, 1) := by decide +kernel
theorem dX6_set_7 : decode cX6_set 7 = .ok (.bipush 9, 2) := by decide +kernel
theorem dX6_set_9 : decode cX6_set 9 = .ok (.invokestatic 49, 3) := by decide +kernel
theorem dX6_set_12 : decode cX6_set 12 = .ok (.ifCond .eq 13, 3) := by decide +kernel
theorem dX6_set_15 : decode cX6_set 15 = .ok (.iload_n 2, 1) := by decide +kernel
theorem dX6_set_16 : decode cX6_set 16 = .ok (.iconst 1, 1) := by decide +kernel
theorem dX6_set_17 : decode cX6_set 17 = .ok (.bipush 20, 2) := by decide +kernel
theorem dX6_set_19 : decode cX6_set 19 = .ok (.invokestatic 49, 3) := by decide +kernel
theorem dX6_set_22 : decode cX6_set 22 = .ok (.ifCond .ne 9, 3) := by decide +kernel
theorem dX6_set_25 : decode cX6_set 25 = .ok (.aload_n 0, 1) := by decide +kernel
theorem dX6_set_26 : decode cX6_set 26 = .ok (.iconst 1, 1) := by decide +kernel
theorem dX6_set_27 : decode cX6_set 27 = .ok (.invokevirtual 79, 3) := by decide +kernel
theorem dX6_set_30 : decode cX6_set 30 = .ok (.ireturn, 1) := by decide +kernel
theorem dX6_set_31 : decode cX6_set 31 = .ok (.aload_n 0, 1) := by decide +kernel
theorem dX6_set_32 : decode cX6_set 32 = .ok (.getfield 7, 3) := by decide +kernel
theorem dX6_set_35 : decode cX6_set 35 = .ok (.istore_n 3, 1) := by decide +kernel
theorem dX6_set_36 : decode cX6_set 36 = .ok (.aload_n 0, 1) := by decide +kernel
theorem dX6_set_37 : decode cX6_set 37 = .ok (.iload_n 1, 1) := by decide +kernel
theorem dX6_set_38 : decode cX6_set 38 = .ok (.putfield 7, 3) := by decide +kernel
theorem dX6_set_41 : decode cX6_set 41 = .ok (.aload_n 0, 1) := by decide +kernel
theorem dX6_set_42 : decode cX6_set 42 = .ok (.iload_n 2, 1) := by decide +kernel
theorem dX6_set_43 : decode cX6_set 43 = .ok (.putfield 13, 3) := by decide +kernel
theorem dX6_set_46 : decode cX6_set 46 = .ok (.iload_n 3, 1) := by decide +kernel
theorem dX6_set_47 : decode cX6_set 47 = .ok (.ireturn, 1) := by decide +kernel
theorem dX6_fieldNow_0 : decode cX6_fieldNow 0 = .ok (.iload_n 2, 1) := by decide +kernel
theorem dX6_fieldNow_1 : decode cX6_fieldNow 1 = .ok (.tableswitch 55 0 2 #[27, 42, 48], 27) := by decide +kernel
theorem dX6_fieldNow_28 : decode cX6_fieldNow 28 = .ok (.aload_n 0, 1) := by decide +kernel
theorem dX6_fieldNow_29 : decode cX6_fieldNow 29 = .ok (.getfield 29, 3) := by decide +kernel
theorem dX6_fieldNow_32 : decode cX6_fieldNow 32 = .ok (.iload_n 1, 1) := by decide +kernel
theorem dX6_fieldNow_33 : decode cX6_fieldNow 33 = .ok (.baload, 1) := by decide +kernel
theorem dX6_fieldNow_34 : decode cX6_fieldNow 34 = .ok (.ifCond .eq 7, 3) := by decide +kernel
theorem dX6_fieldNow_37 : decode cX6_fieldNow 37 = .ok (.iconst 1, 1) := by decide +kernel
theorem dX6_fieldNow_38 : decode cX6_fieldNow 38 = .ok (.goto 4, 3) := by decide +kernel
theorem dX6_fieldNow_41 : decode cX6_fieldNow 41 = .ok (.iconst 0, 1) := by decide +kernel
theorem dX6_fieldNow_42 : decode cX6_fieldNow 42 = .ok (.ireturn, 1) := by decide +kernel
theorem dX6_fieldNow_43 : decode cX6_fieldNow 43 = .ok (.aload_n 0, 1) := by decide +kernel
theorem dX6_fieldNow_44 : decode cX6_fieldNow 44 = .ok (.iload_n 1, 1) := by decide +kernel
theorem dX6_fieldNow_45 : decode cX6_fieldNow 45 = .ok (.invokevirtual 88, 3) := by decide +kernel
theorem dX6_fieldNow_48 : decode cX6_fieldNow 48 = .ok (.ireturn, 1) := by decide +kernel
theorem dX6_fieldNow_49 : decode cX6_fieldNow 49 = .ok (.aload_n 0, 1) := by decide +kernel
theorem dX6_fieldNow_50 : decode cX6_fieldNow 50 = .ok (.getfield 43, 3) := by decide +kernel
theorem dX6_fieldNow_53 : decode cX6_fieldNow 53 = .ok (.iload_n 1, 1) := by decide +kernel
theorem dX6_fieldNow_54 : decode cX6_fieldNow 54 = .ok (.iaload, 1) := by decide +kernel
theorem dX6_fieldNow_55 : decode cX6_fieldNow 55 = .ok (.ireturn, 1) := by decide +kernel
theorem dX6_fieldNow_56 : decode cX6_fieldNow 56 = .ok (.aload_n 0, 1) := by decide +kernel
theorem dX6_fieldNow_57 : decode cX6_fieldNow 57 = .ok (.iload_n 1, 1) := by decide +kernel
theorem dX6_fieldNow_58 : decode cX6_fieldNow 58 = .ok (.iconst (-1), 1) := by decide +kernel
theorem dX6_fieldNow_59 : decode cX6_fieldNow 59 = .ok (.invokevirtual 94, 3) := by decide +kernel
theorem dX6_fieldNow_62 : decode cX6_fieldNow 62 = .ok (.ireturn, 1) := by decide +kernel
theorem dX6_field_0 : decode cX6_field 0 = .ok (.aload_n 0, 1) := by decide +kernel
theorem dX6_field_1 : decode cX6_field 1 = .ok (.iconst 0, 1) := by decide +kernel
theorem dX6_field_2 : decode cX6_field 2 = .ok (.putfield 46, 3) := by decide +kernel
theorem dX6_field_5 : decode cX6_field 5 = .ok (.aload_n 0, 1) := by decide +kernel
theorem dX6_field_6 : decode cX6_field 6 = .ok (.iload_n 1, 1) := by decide +kernel
theorem dX6_field_7 : decode cX6_field 7 = .ok (.iload_n 2, 1) := by decide +kernel
theorem dX6_field_8 : decode cX6_field 8 = .ok (.invokevirtual 57, 3) := by decide +kernel
theorem dX6_field_11 : decode cX6_field 11 = .ok (.ifCond .ne 9, 3) := by decide +kernel
theorem dX6_field_14 : decode cX6_field 14 = .ok (.aload_n 0, 1) := by decide +kernel
theorem dX6_field_15 : decode cX6_field 15 = .ok (.iconst 1, 1) := by decide +kernel
theorem dX6_field_16 : decode cX6_field 16 = .ok (.invokevirtual 79, 3) := by decide +kernel
theorem dX6_field_19 : decode cX6_field 19 = .ok (.ireturn, 1) := by decide +kernel
theorem dX6_field_20 : decode cX6_field 20 = .ok (.iload_n 3, 1) := by decide +kernel
theorem dX6_field_21 : decode cX6_field 21 = .ok (.iconst 0, 1) := by decide +kernel
theorem dX6_field_22 : decode cX6_field 22 = .ok (.iconst 3, 1) := by decide +kernel
theorem dX6_field_23 : decode cX6_field 23 = .ok (.invokestatic 49, 3) := by decide +kernel
theorem dX6_field_26 : decode cX6_field 26 = .ok (.ifCond .eq 19, 3) := by decide +kernel
theorem dX6_field_29 : decode cX6_field 29 = .ok (.aload_n 0, 1) := by decide +kernel
theorem dX6_field_30 : decode cX6_field 30 = .ok (.iload_n 2, 1) := by decide +kernel
theorem dX6_field_31 : decode cX6_field 31 = .ok (.aload_n 0, 1) := by decide +kernel
theorem dX6_field_32 : decode cX6_field 32 = .ok (.getfield 20, 3) := by decide +kernel
theorem dX6_field_35 : decode cX6_field 35 = .ok (.imul, 1) := by decide +kernel
theorem dX6_field_36 : decode cX6_field 36 = .ok (.iload_n 1, 1) := by decide +kernel
theorem dX6_field_37 : decode cX6_field 37 = .ok (.iadd, 1) := by decide +kernel
theorem dX6_field_38 : decode cX6_field 38 = .ok (.iload_n 3, 1) := by decide +kernel
theorem dX6_field_39 : decode cX6_field 39 = .ok (.invokevirtual 97, 3) := by decide +kernel
theorem dX6_field_42 : decode cX6_field 42 = .ok (.goto 8, 3) := by decide +kernel
theorem dX6_field_45 : decode cX6_field 45 = .ok (.aload_n 0, 1) := by decide +kernel
theorem dX6_field_46 : decode cX6_field 46 = .ok (.iconst 2, 1) := by decide +kernel
theorem dX6_field_47 : decode cX6_field 47 = .ok (.invokevirtual 79, 3) := by decide +kernel
theorem dX6_field_50 : decode cX6_field 50 = .ok (.ireturn, 1) := by decide +kernel
theorem dX6_far__0 : decode cX6_far_ 0 = .ok (.aload_n 0, 1) := by decide +kernel
theorem dX6_far__1 : decode cX6_far_ 1 = .ok (.iconst 0, 1) := by decide +kernel
theorem dX6_far__2 : decode cX6_far_ 2 = .ok (.putfield 46, 3) := by decide +kernel
theorem dX6_far__5 : decode cX6_far_ 5 = .ok (.iload_n 1, 1) := by decide +kernel
theorem dX6_far__6 : decode cX6_far_ 6 = .ok (.invokestatic 91, 3) := by decide +kernel
theorem dX6_far__9 : decode cX6_far_ 9 = .ok (.ifCond .eq 29, 3) := by decide +kernel
theorem dX6_far__12 : decode cX6_far_ 12 = .ok (.aload_n 0, 1) := by decide +kernel
theorem dX6_far__13 : decode cX6_far_ 13 = .ok (.iload_n 2, 1) := by decide +kernel
theorem dX6_far__14 : decode cX6_far_ 14 = .ok (.iload_n 3, 1) := by decide +kernel
theorem dX6_far__15 : decode cX6_far_ 15 = .ok (.invokevirtual 57, 3) := by decide +kernel
theorem dX6_far__18 : decode cX6_far_ 18 = .ok (.ifCond .eq 20, 3) := by decide +kernel
theorem dX6_far__21 : decode cX6_far_ 21 = .ok (.aload_n 0, 1) := by decide +kernel
theorem dX6_far__22 : decode cX6_far_ 22 = .ok (.iload_n 1, 1) := by decide +kernel
theorem dX6_far__23 : decode cX6_far_ 23 = .ok (.invokevirtual 75, 3) := by decide +kernel
theorem dX6_far__26 : decode cX6_far_ 26 = .ok (.iload_n 3, 1) := by decide +kernel
theorem dX6_far__27 : decode cX6_far_ 27 = .ok (.aload_n 0, 1) := by decide +kernel
theorem dX6_far__28 : decode cX6_far_ 28 = .ok (.getfield 20, 3) := by decide +kernel
theorem dX6_far__31 : decode cX6_far_ 31 = .ok (.imul, 1) := by decide +kernel
theorem dX6_far__32 : decode cX6_far_ 32 = .ok (.iload_n 2, 1) := by decide +kernel
theorem dX6_far__33 : decode cX6_far_ 33 = .ok (.iadd, 1) := by decide +kernel
theorem dX6_far__34 : decode cX6_far_ 34 = .ok (.iaload, 1) := by decide +kernel
theorem dX6_far__35 : decode cX6_far_ 35 = .ok (.goto 8, 3) := by decide +kernel
theorem dX6_far__38 : decode cX6_far_ 38 = .ok (.aload_n 0, 1) := by decide +kernel
theorem dX6_far__39 : decode cX6_far_ 39 = .ok (.iconst 1, 1) := by decide +kernel
theorem dX6_far__40 : decode cX6_far_ 40 = .ok (.invokevirtual 79, 3) := by decide +kernel
theorem dX6_far__43 : decode cX6_far_ 43 = .ok (.ireturn, 1) := by decide +kernel
theorem dX6_most_0 : decode cX6_most 0 = .ok (.iconst (-1), 1) := by decide +kernel
theorem dX6_most_1 : decode cX6_most 1 = .ok (.istore_n 1, 1) := by decide +kernel
theorem dX6_most_2 : decode cX6_most 2 = .ok (.aload_n 0, 1) := by decide +kernel
theorem dX6_most_3 : decode cX6_most 3 = .ok (.astore_n 2, 1) := by decide +kernel
theorem dX6_most_4 : decode cX6_most 4 = .ok (.aload_n 2, 1) := by decide +kernel
theorem dX6_most_5 : decode cX6_most 5 = .ok (.arraylength, 1) := by decide +kernel
theorem dX6_most_6 : decode cX6_most 6 = .ok (.istore_n 3, 1) := by decide +kernel
theorem dX6_most_7 : decode cX6_most 7 = .ok (.iconst 0, 1) := by decide +kernel
theorem dX6_most_8 : decode cX6_most 8 = .ok (.istore 4, 2) := by decide +kernel
theorem dX6_most_10 : decode cX6_most 10 = .ok (.iload 4, 2) := by decide +kernel
theorem dX6_most_12 : decode cX6_most 12 = .ok (.iload_n 3, 1) := by decide +kernel
theorem dX6_most_13 : decode cX6_most 13 = .ok (.if_icmp .ge 22, 3) := by decide +kernel
theorem dX6_most_16 : decode cX6_most 16 = .ok (.aload_n 2, 1) := by decide +kernel
theorem dX6_most_17 : decode cX6_most 17 = .ok (.iload 4, 2) := by decide +kernel
theorem dX6_most_19 : decode cX6_most 19 = .ok (.iaload, 1) := by decide +kernel
theorem dX6_most_20 : decode cX6_most 20 = .ok (.istore 5, 2) := by decide +kernel
theorem dX6_most_22 : decode cX6_most 22 = .ok (.iload_n 1, 1) := by decide +kernel
theorem dX6_most_23 : decode cX6_most 23 = .ok (.iload 5, 2) := by decide +kernel
theorem dX6_most_25 : decode cX6_most 25 = .ok (.invokestatic 85, 3) := by decide +kernel
theorem dX6_most_28 : decode cX6_most 28 = .ok (.istore_n 1, 1) := by decide +kernel
theorem dX6_most_29 : decode cX6_most 29 = .ok (.iinc 4 1, 3) := by decide +kernel
theorem dX6_most_32 : decode cX6_most 32 = .ok (.goto (-22), 3) := by decide +kernel
theorem dX6_most_35 : decode cX6_most 35 = .ok (.iload_n 1, 1) := by decide +kernel
theorem dX6_most_36 : decode cX6_most 36 = .ok (.ireturn, 1) := by decide +kernel
theorem dX6_farthest_0 : decode cX6_farthest 0 = .ok (.aload_n 0, 1) := by decide +kernel
theorem dX6_farthest_1 : decode cX6_farthest 1 = .ok (.iconst 0, 1) := by decide +kernel
theorem dX6_farthest_2 : decode cX6_farthest 2 = .ok (.putfield 46, 3) := by decide +kernel
theorem dX6_farthest_5 : decode cX6_farthest 5 = .ok (.iload_n 1, 1) := by decide +kernel
theorem dX6_farthest_6 : decode cX6_farthest 6 = .ok (.invokestatic 91, 3) := by decide +kernel
theorem dX6_farthest_9 : decode cX6_farthest 9 = .ok (.ifCond .eq 14, 3) := by decide +kernel
theorem dX6_farthest_12 : decode cX6_farthest 12 = .ok (.aload_n 0, 1) := by decide +kernel
theorem dX6_farthest_13 : decode cX6_farthest 13 = .ok (.iload_n 1, 1) := by decide +kernel
theorem dX6_farthest_14 : decode cX6_farthest 14 = .ok (.invokevirtual 75, 3) := by decide +kernel
theorem dX6_farthest_17 : decode cX6_farthest 17 = .ok (.invokestatic 100, 3) := by decide +kernel
theorem dX6_farthest_20 : decode cX6_farthest 20 = .ok (.goto 8, 3) := by decide +kernel
theorem dX6_farthest_23 : decode cX6_farthest 23 = .ok (.aload_n 0, 1) := by decide +kernel
theorem dX6_farthest_24 : decode cX6_farthest 24 = .ok (.iconst 1, 1) := by decide +kernel
theorem dX6_farthest_25 : decode cX6_farthest 25 = .ok (.invokevirtual 79, 3) := by decide +kernel
theorem dX6_farthest_28 : decode cX6_farthest 28 = .ok (.ireturn, 1) := by decide +kernel
theorem dX6_walker_0 : decode cX6_walker 0 = .ok (.aload_n 0, 1) := by decide +kernel
theorem dX6_walker_1 : decode cX6_walker 1 = .ok (.iconst 0, 1) := by decide +kernel
theorem dX6_walker_2 : decode cX6_walker 2 = .ok (.putfield 46, 3) := by decide +kernel
theorem dX6_walker_5 : decode cX6_walker 5 = .ok (.iload_n 1, 1) := by decide +kernel
theorem dX6_walker_6 : decode cX6_walker 6 = .ok (.invokestatic 91, 3) := by decide +kernel
theorem dX6_walker_9 : decode cX6_walker 9 = .ok (.ifCond .eq 14, 3) := by decide +kernel
theorem dX6_walker_12 : decode cX6_walker 12 = .ok (.aload_n 0, 1) := by decide +kernel
theorem dX6_walker_13 : decode cX6_walker 13 = .ok (.iload 4, 2) := by decide +kernel
theorem dX6_walker_15 : decode cX6_walker 15 = .ok (.iload 5, 2) := by decide +kernel
theorem dX6_walker_17 : decode cX6_walker 17 = .ok (.invokevirtual 57, 3) := by decide +kernel
theorem dX6_walker_20 : decode cX6_walker 20 = .ok (.ifCond .ne 9, 3) := by decide +kernel
theorem dX6_walker_23 : decode cX6_walker 23 = .ok (.aload_n 0, 1) := by decide +kernel
theorem dX6_walker_24 : decode cX6_walker 24 = .ok (.iconst 1, 1) := by decide +kernel
theorem dX6_walker_25 : decode cX6_walker 25 = .ok (.invokevirtual 79, 3) := by decide +kernel
theorem dX6_walker_28 : decode cX6_walker 28 = .ok (.ireturn, 1) := by decide +kernel
theorem dX6_walker_29 : decode cX6_walker 29 = .ok (.iload_n 2, 1) := by decide +kernel
theorem dX6_walker_30 : decode cX6_walker 30 = .ok (.iconst 1, 1) := by decide +kernel
theorem dX6_walker_31 : decode cX6_walker 31 = .ok (.iconst 3, 1) := by decide +kernel
theorem dX6_walker_32 : decode cX6_walker 32 = .ok (.invokestatic 49, 3) := by decide +kernel
theorem dX6_walker_35 : decode cX6_walker 35 = .ok (.ifCond .eq 13, 3) := by decide +kernel
theorem dX6_walker_38 : decode cX6_walker 38 = .ok (.iload_n 3, 1) := by decide +kernel
theorem dX6_walker_39 : decode cX6_walker 39 = .ok (.iconst 0, 1) := by decide +kernel
theorem dX6_walker_40 : decode cX6_walker 40 = .ok (.bipush 9, 2) := by decide +kernel
theorem dX6_walker_42 : decode cX6_walker 42 = .ok (.invokestatic 49, 3) := by decide +kernel
theorem dX6_walker_45 : decode cX6_walker 45 = .ok (.ifCond .ne 9, 3) := by decide +kernel
theorem dX6_walker_48 : decode cX6_walker 48 = .ok (.aload_n 0, 1) := by decide +kernel
theorem dX6_walker_49 : decode cX6_walker 49 = .ok (.iconst 2, 1) := by decide +kernel
theorem dX6_walker_50 : decode cX6_walker 50 = .ok (.invokevirtual 79, 3) := by decide +kernel
theorem dX6_walker_53 : decode cX6_walker 53 = .ok (.ireturn, 1) := by decide +kernel
theorem dX6_walker_54 : decode cX6_walker 54 = .ok (.iload 5, 2) := by decide +kernel
theorem dX6_walker_56 : decode cX6_walker 56 = .ok (.aload_n 0, 1) := by decide +kernel
theorem dX6_walker_57 : decode cX6_walker 57 = .ok (.getfield 20, 3) := by decide +kernel
theorem dX6_walker_60 : decode cX6_walker 60 = .ok (.imul, 1) := by decide +kernel
theorem dX6_walker_61 : decode cX6_walker 61 = .ok (.iload 4, 2) := by decide +kernel
theorem dX6_walker_63 : decode cX6_walker 63 = .ok (.iadd, 1) := by decide +kernel
theorem dX6_walker_64 : decode cX6_walker 64 = .ok (.istore 6, 2) := by decide +kernel
theorem dX6_walker_66 : decode cX6_walker 66 = .ok (.aload_n 0, 1) := by decide +kernel
theorem dX6_walker_67 : decode cX6_walker 67 = .ok (.getfield 36, 3) := by decide +kernel
theorem dX6_walker_70 : decode cX6_walker 70 = .ok (.bipush 24, 2) := by decide +kernel
theorem dX6_walker_72 : decode cX6_walker 72 = .ok (.if_icmp .eq 45, 3) := by decide +kernel
theorem dX6_walker_75 : decode cX6_walker 75 = .ok (.aload_n 0, 1) := by decide +kernel
theorem dX6_walker_76 : decode cX6_walker 76 = .ok (.getfield 29, 3) := by decide +kernel
theorem dX6_walker_79 : decode cX6_walker 79 = .ok (.iload 6, 2) := by decide +kernel
theorem dX6_walker_81 : decode cX6_walker 81 = .ok (.baload, 1) := by decide +kernel
theorem dX6_walker_82 : decode cX6_walker 82 = .ok (.ifCond .ne 35, 3) := by decide +kernel
theorem dX6_walker_85 : decode cX6_walker 85 = .ok (.aload_n 0, 1) := by decide +kernel
theorem dX6_walker_86 : decode cX6_walker 86 = .ok (.getfield 33, 3) := by decide +kernel
theorem dX6_walker_89 : decode cX6_walker 89 = .ok (.iload_n 1, 1) := by decide +kernel
theorem dX6_walker_90 : decode cX6_walker 90 = .ok (.aload_n 0, 1) := by decide +kernel
theorem dX6_walker_91 : decode cX6_walker 91 = .ok (.getfield 20, 3) := by decide +kernel
theorem dX6_walker_94 : decode cX6_walker 94 = .ok (.imul, 1) := by decide +kernel
theorem dX6_walker_95 : decode cX6_walker 95 = .ok (.aload_n 0, 1) := by decide +kernel
theorem dX6_walker_96 : decode cX6_walker 96 = .ok (.getfield 23, 3) := by decide +kernel
theorem dX6_walker_99 : decode cX6_walker 99 = .ok (.imul, 1) := by decide +kernel
theorem dX6_walker_100 : decode cX6_walker 100 = .ok (.iload 6, 2) := by decide +kernel
theorem dX6_walker_102 : decode cX6_walker 102 = .ok (.iadd, 1) := by decide +kernel
theorem dX6_walker_103 : decode cX6_walker 103 = .ok (.baload, 1) := by decide +kernel
theorem dX6_walker_104 : decode cX6_walker 104 = .ok (.ifCond .ne 13, 3) := by decide +kernel
theorem dX6_walker_107 : decode cX6_walker 107 = .ok (.aload_n 0, 1) := by decide +kernel
theorem dX6_walker_108 : decode cX6_walker 108 = .ok (.iload 6, 2) := by decide +kernel
theorem dX6_walker_110 : decode cX6_walker 110 = .ok (.invokevirtual 88, 3) := by decide +kernel
theorem dX6_walker_113 : decode cX6_walker 113 = .ok (.iconst (-1), 1) := by decide +kernel
theorem dX6_walker_114 : decode cX6_walker 114 = .ok (.if_icmp .eq 9, 3) := by decide +kernel
theorem dX6_walker_117 : decode cX6_walker 117 = .ok (.aload_n 0, 1) := by decide +kernel
theorem dX6_walker_118 : decode cX6_walker 118 = .ok (.iconst 3, 1) := by decide +kernel
theorem dX6_walker_119 : decode cX6_walker 119 = .ok (.invokevirtual 79, 3) := by decide +kernel
theorem dX6_walker_122 : decode cX6_walker 122 = .ok (.ireturn, 1) := by decide +kernel
theorem dX6_walker_123 : decode cX6_walker 123 = .ok (.bipush 8, 2) := by decide +kernel
theorem dX6_walker_125 : decode cX6_walker 125 = .ok (.newarray .int, 2) := by decide +kernel
theorem dX6_walker_127 : decode cX6_walker 127 = .ok (.dup, 1) := by decide +kernel
theorem dX6_walker_128 : decode cX6_walker 128 = .ok (.iconst 0, 1) := by decide +kernel
theorem dX6_walker_129 : decode cX6_walker 129 = .ok (.iload_n 1, 1) := by decide +kernel
theorem dX6_walker_130 : decode cX6_walker 130 = .ok (.iastore, 1) := by decide +kernel
theorem dX6_walker_131 : decode cX6_walker 131 = .ok (.dup, 1) := by decide +kernel
theorem dX6_walker_132 : decode cX6_walker 132 = .ok (.iconst 1, 1) := by decide +kernel
theorem dX6_walker_133 : decode cX6_walker 133 = .ok (.iload_n 2, 1) := by decide +kernel
theorem dX6_walker_134 : decode cX6_walker 134 = .ok (.iastore, 1) := by decide +kernel
theorem dX6_walker_135 : decode cX6_walker 135 = .ok (.dup, 1) := by decide +kernel
theorem dX6_walker_136 : decode cX6_walker 136 = .ok (.iconst 2, 1) := by decide +kernel
theorem dX6_walker_137 : decode cX6_walker 137 = .ok (.iload_n 3, 1) := by decide +kernel
theorem dX6_walker_138 : decode cX6_walker 138 = .ok (.iastore, 1) := by decide +kernel
theorem dX6_walker_139 : decode cX6_walker 139 = .ok (.dup, 1) := by decide +kernel
theorem dX6_walker_140 : decode cX6_walker 140 = .ok (.iconst 3, 1) := by decide +kernel
theorem dX6_walker_141 : decode cX6_walker 141 = .ok (.iload 6, 2) := by decide +kernel
theorem dX6_walker_143 : decode cX6_walker 143 = .ok (.iastore, 1) := by decide +kernel
theorem dX6_walker_144 : decode cX6_walker 144 = .ok (.dup, 1) := by decide +kernel
theorem dX6_walker_145 : decode cX6_walker 145 = .ok (.iconst 4, 1) := by decide +kernel
theorem dX6_walker_146 : decode cX6_walker 146 = .ok (.iconst 4, 1) := by decide +kernel
theorem dX6_walker_147 : decode cX6_walker 147 = .ok (.iastore, 1) := by decide +kernel
theorem dX6_walker_148 : decode cX6_walker 148 = .ok (.dup, 1) := by decide +kernel
theorem dX6_walker_149 : decode cX6_walker 149 = .ok (.iconst 5, 1) := by decide +kernel
theorem dX6_walker_150 : decode cX6_walker 150 = .ok (.iconst 0, 1) := by decide +kernel
theorem dX6_walker_151 : decode cX6_walker 151 = .ok (.iastore, 1) := by decide +kernel
theorem dX6_walker_152 : decode cX6_walker 152 = .ok (.dup, 1) := by decide +kernel
theorem dX6_walker_153 : decode cX6_walker 153 = .ok (.bipush 6, 2) := by decide +kernel
theorem dX6_walker_155 : decode cX6_walker 155 = .ok (.iconst 0, 1) := by decide +kernel
theorem dX6_walker_156 : decode cX6_walker 156 = .ok (.iastore, 1) := by decide +kernel
theorem dX6_walker_157 : decode cX6_walker 157 = .ok (.dup, 1) := by decide +kernel
theorem dX6_walker_158 : decode cX6_walker 158 = .ok (.bipush 7, 2) := by decide +kernel
theorem dX6_walker_160 : decode cX6_walker 160 = .ok (.iconst (-1), 1) := by decide +kernel
theorem dX6_walker_161 : decode cX6_walker 161 = .ok (.iastore, 1) := by decide +kernel
theorem dX6_walker_162 : decode cX6_walker 162 = .ok (.astore 7, 2) := by decide +kernel
theorem dX6_walker_164 : decode cX6_walker 164 = .ok (.aload 7, 2) := by decide +kernel
theorem dX6_walker_166 : decode cX6_walker 166 = .ok (.iconst 0, 1) := by decide +kernel
theorem dX6_walker_167 : decode cX6_walker 167 = .ok (.aload_n 0, 1) := by decide +kernel
theorem dX6_walker_168 : decode cX6_walker 168 = .ok (.getfield 39, 3) := by decide +kernel
theorem dX6_walker_171 : decode cX6_walker 171 = .ok (.aload_n 0, 1) := by decide +kernel
theorem dX6_walker_172 : decode cX6_walker 172 = .ok (.getfield 36, 3) := by decide +kernel
theorem dX6_walker_175 : decode cX6_walker 175 = .ok (.bipush 8, 2) := by decide +kernel
theorem dX6_walker_177 : decode cX6_walker 177 = .ok (.imul, 1) := by decide +kernel
theorem dX6_walker_178 : decode cX6_walker 178 = .ok (.bipush 8, 2) := by decide +kernel
theorem dX6_walker_180 : decode cX6_walker 180 = .ok (.invokestatic 104, 3) := by decide +kernel
theorem dX6_walker_183 : decode cX6_walker 183 = .ok (.aload_n 0, 1) := by decide +kernel
theorem dX6_walker_184 : decode cX6_walker 184 = .ok (.dup, 1) := by decide +kernel
theorem dX6_walker_185 : decode cX6_walker 185 = .ok (.getfield 36, 3) := by decide +kernel
theorem dX6_walker_188 : decode cX6_walker 188 = .ok (.dup_x1, 1) := by decide +kernel
theorem dX6_walker_189 : decode cX6_walker 189 = .ok (.iconst 1, 1) := by decide +kernel
theorem dX6_walker_190 : decode cX6_walker 190 = .ok (.iadd, 1) := by decide +kernel
theorem dX6_walker_191 : decode cX6_walker 191 = .ok (.putfield 36, 3) := by decide +kernel
theorem dX6_walker_194 : decode cX6_walker 194 = .ok (.ireturn, 1) := by decide +kernel
theorem dX6_turnTo_0 : decode cX6_turnTo 0 = .ok (.aload_n 0, 1) := by decide +kernel
theorem dX6_turnTo_1 : decode cX6_turnTo 1 = .ok (.iconst 0, 1) := by decide +kernel
theorem dX6_turnTo_2 : decode cX6_turnTo 2 = .ok (.putfield 46, 3) := by decide +kernel
theorem dX6_turnTo_5 : decode cX6_turnTo 5 = .ok (.aload_n 0, 1) := by decide +kernel
theorem dX6_turnTo_6 : decode cX6_turnTo 6 = .ok (.iload_n 1, 1) := by decide +kernel
theorem dX6_turnTo_7 : decode cX6_turnTo 7 = .ok (.invokevirtual 53, 3) := by decide +kernel
theorem dX6_turnTo_10 : decode cX6_turnTo 10 = .ok (.ifCond .eq 10, 3) := by decide +kernel
theorem dX6_turnTo_13 : decode cX6_turnTo 13 = .ok (.iload_n 2, 1) := by decide +kernel
theorem dX6_turnTo_14 : decode cX6_turnTo 14 = .ok (.invokestatic 91, 3) := by decide +kernel
theorem dX6_turnTo_17 : decode cX6_turnTo 17 = .ok (.ifCond .ne 9, 3) := by decide +kernel
theorem dX6_turnTo_20 : decode cX6_turnTo 20 = .ok (.aload_n 0, 1) := by decide +kernel
theorem dX6_turnTo_21 : decode cX6_turnTo 21 = .ok (.iconst 1, 1) := by decide +kernel
theorem dX6_turnTo_22 : decode cX6_turnTo 22 = .ok (.invokevirtual 79, 3) := by decide +kernel
theorem dX6_turnTo_25 : decode cX6_turnTo 25 = .ok (.ireturn, 1) := by decide +kernel
theorem dX6_turnTo_26 : decode cX6_turnTo 26 = .ok (.iload_n 3, 1) := by decide +kernel
theorem dX6_turnTo_27 : decode cX6_turnTo 27 = .ok (.iconst 0, 1) := by decide +kernel
theorem dX6_turnTo_28 : decode cX6_turnTo 28 = .ok (.bipush 9, 2) := by decide +kernel
theorem dX6_turnTo_30 : decode cX6_turnTo 30 = .ok (.invokestatic 49, 3) := by decide +kernel
theorem dX6_turnTo_33 : decode cX6_turnTo 33 = .ok (.ifCond .ne 9, 3) := by decide +kernel
theorem dX6_turnTo_36 : decode cX6_turnTo 36 = .ok (.aload_n 0, 1) := by decide +kernel
theorem dX6_turnTo_37 : decode cX6_turnTo 37 = .ok (.iconst 2, 1) := by decide +kernel
theorem dX6_turnTo_38 : decode cX6_turnTo 38 = .ok (.invokevirtual 79, 3) := by decide +kernel
theorem dX6_turnTo_41 : decode cX6_turnTo 41 = .ok (.ireturn, 1) := by decide +kernel
theorem dX6_turnTo_42 : decode cX6_turnTo 42 = .ok (.iload_n 1, 1) := by decide +kernel
theorem dX6_turnTo_43 : decode cX6_turnTo 43 = .ok (.bipush 8, 2) := by decide +kernel
theorem dX6_turnTo_45 : decode cX6_turnTo 45 = .ok (.imul, 1) := by decide +kernel
theorem dX6_turnTo_46 : decode cX6_turnTo 46 = .ok (.istore 4, 2) := by decide +kernel
theorem dX6_turnTo_48 : decode cX6_turnTo 48 = .ok (.aload_n 0, 1) := by decide +kernel
theorem dX6_turnTo_49 : decode cX6_turnTo 49 = .ok (.iload_n 1, 1) := by decide +kernel
theorem dX6_turnTo_50 : decode cX6_turnTo 50 = .ok (.invokevirtual 110, 3) := by decide +kernel
theorem dX6_turnTo_53 : decode cX6_turnTo 53 = .ok (.ifCond .eq 32, 3) := by decide +kernel
theorem dX6_turnTo_56 : decode cX6_turnTo 56 = .ok (.aload_n 0, 1) := by decide +kernel
theorem dX6_turnTo_57 : decode cX6_turnTo 57 = .ok (.getfield 33, 3) := by decide +kernel
theorem dX6_turnTo_60 : decode cX6_turnTo 60 = .ok (.iload_n 2, 1) := by decide +kernel
theorem dX6_turnTo_61 : decode cX6_turnTo 61 = .ok (.aload_n 0, 1) := by decide +kernel
theorem dX6_turnTo_62 : decode cX6_turnTo 62 = .ok (.getfield 20, 3) := by decide +kernel
theorem dX6_turnTo_65 : decode cX6_turnTo 65 = .ok (.imul, 1) := by decide +kernel
theorem dX6_turnTo_66 : decode cX6_turnTo 66 = .ok (.aload_n 0, 1) := by decide +kernel
theorem dX6_turnTo_67 : decode cX6_turnTo 67 = .ok (.getfield 23, 3) := by decide +kernel
theorem dX6_turnTo_70 : decode cX6_turnTo 70 = .ok (.imul, 1) := by decide +kernel
theorem dX6_turnTo_71 : decode cX6_turnTo 71 = .ok (.aload_n 0, 1) := by decide +kernel
theorem dX6_turnTo_72 : decode cX6_turnTo 72 = .ok (.getfield 39, 3) := by decide +kernel
theorem dX6_turnTo_75 : decode cX6_turnTo 75 = .ok (.iload 4, 2) := by decide +kernel
theorem dX6_turnTo_77 : decode cX6_turnTo 77 = .ok (.iconst 3, 1) := by decide +kernel
theorem dX6_turnTo_78 : decode cX6_turnTo 78 = .ok (.iadd, 1) := by decide +kernel
theorem dX6_turnTo_79 : decode cX6_turnTo 79 = .ok (.iaload, 1) := by decide +kernel
theorem dX6_turnTo_80 : decode cX6_turnTo 80 = .ok (.iadd, 1) := by decide +kernel
theorem dX6_turnTo_81 : decode cX6_turnTo 81 = .ok (.baload, 1) := by decide +kernel
theorem dX6_turnTo_82 : decode cX6_turnTo 82 = .ok (.ifCond .eq 9, 3) := by decide +kernel
theorem dX6_turnTo_85 : decode cX6_turnTo 85 = .ok (.aload_n 0, 1) := by decide +kernel
theorem dX6_turnTo_86 : decode cX6_turnTo 86 = .ok (.iconst 3, 1) := by decide +kernel
theorem dX6_turnTo_87 : decode cX6_turnTo 87 = .ok (.invokevirtual 79, 3) := by decide +kernel
theorem dX6_turnTo_90 : decode cX6_turnTo 90 = .ok (.ireturn, 1) := by decide +kernel
theorem dX6_turnTo_91 : decode cX6_turnTo 91 = .ok (.aload_n 0, 1) := by decide +kernel
theorem dX6_turnTo_92 : decode cX6_turnTo 92 = .ok (.getfield 39, 3) := by decide +kernel
theorem dX6_turnTo_95 : decode cX6_turnTo 95 = .ok (.iload 4, 2) := by decide +kernel
theorem dX6_turnTo_97 : decode cX6_turnTo 97 = .ok (.iconst 0, 1) := by decide +kernel
theorem dX6_turnTo_98 : decode cX6_turnTo 98 = .ok (.iadd, 1) := by decide +kernel
theorem dX6_turnTo_99 : decode cX6_turnTo 99 = .ok (.iaload, 1) := by decide +kernel
theorem dX6_turnTo_100 : decode cX6_turnTo 100 = .ok (.istore 5, 2) := by decide +kernel
theorem dX6_turnTo_102 : decode cX6_turnTo 102 = .ok (.aload_n 0, 1) := by decide +kernel
theorem dX6_turnTo_103 : decode cX6_turnTo 103 = .ok (.getfield 39, 3) := by decide +kernel
theorem dX6_turnTo_106 : decode cX6_turnTo 106 = .ok (.iload 4, 2) := by decide +kernel
theorem dX6_turnTo_108 : decode cX6_turnTo 108 = .ok (.iconst 0, 1) := by decide +kernel
theorem dX6_turnTo_109 : decode cX6_turnTo 109 = .ok (.iadd, 1) := by decide +kernel
theorem dX6_turnTo_110 : decode cX6_turnTo 110 = .ok (.iload_n 2, 1) := by decide +kernel
theorem dX6_turnTo_111 : decode cX6_turnTo 111 = .ok (.iastore, 1) := by decide +kernel
theorem dX6_turnTo_112 : decode cX6_turnTo 112 = .ok (.aload_n 0, 1) := by decide +kernel
theorem dX6_turnTo_113 : decode cX6_turnTo 113 = .ok (.getfield 39, 3) := by decide +kernel
theorem dX6_turnTo_116 : decode cX6_turnTo 116 = .ok (.iload 4, 2) := by decide +kernel
theorem dX6_turnTo_118 : decode cX6_turnTo 118 = .ok (.iconst 2, 1) := by decide +kernel
theorem dX6_turnTo_119 : decode cX6_turnTo 119 = .ok (.iadd, 1) := by decide +kernel
theorem dX6_turnTo_120 : decode cX6_turnTo 120 = .ok (.iload_n 3, 1) := by decide +kernel
theorem dX6_turnTo_121 : decode cX6_turnTo 121 = .ok (.iastore, 1) := by decide +kernel
theorem dX6_turnTo_122 : decode cX6_turnTo 122 = .ok (.iload 5, 2) := by decide +kernel
theorem dX6_turnTo_124 : decode cX6_turnTo 124 = .ok (.ireturn, 1) := by decide +kernel
theorem dX6_costNow_0 : decode cX6_costNow 0 = .ok (.aload_n 0, 1) := by decide +kernel
theorem dX6_costNow_1 : decode cX6_costNow 1 = .ok (.getfield 39, 3) := by decide +kernel
theorem dX6_costNow_4 : decode cX6_costNow 4 = .ok (.iload_n 1, 1) := by decide +kernel
theorem dX6_costNow_5 : decode cX6_costNow 5 = .ok (.bipush 8, 2) := by decide +kernel
theorem dX6_costNow_7 : decode cX6_costNow 7 = .ok (.imul, 1) := by decide +kernel
theorem dX6_costNow_8 : decode cX6_costNow 8 = .ok (.iconst 3, 1) := by decide +kernel
theorem dX6_costNow_9 : decode cX6_costNow 9 = .ok (.iadd, 1) := by decide +kernel
theorem dX6_costNow_10 : decode cX6_costNow 10 = .ok (.iaload, 1) := by decide +kernel
theorem dX6_costNow_11 : decode cX6_costNow 11 = .ok (.istore 4, 2) := by decide +kernel
theorem dX6_costNow_13 : decode cX6_costNow 13 = .ok (.iload_n 2, 1) := by decide +kernel
theorem dX6_costNow_14 : decode cX6_costNow 14 = .ok (.iconst 4, 1) := by decide +kernel
theorem dX6_costNow_15 : decode cX6_costNow 15 = .ok (.if_icmp .ne 8, 3) := by decide +kernel
theorem dX6_costNow_18 : decode cX6_costNow 18 = .ok (.iload 4, 2) := by decide +kernel
theorem dX6_costNow_20 : decode cX6_costNow 20 = .ok (.goto 10, 3) := by decide +kernel
theorem dX6_costNow_23 : decode cX6_costNow 23 = .ok (.aload_n 0, 1) := by decide +kernel
theorem dX6_costNow_24 : decode cX6_costNow 24 = .ok (.iload 4, 2) := by decide +kernel
theorem dX6_costNow_26 : decode cX6_costNow 26 = .ok (.iload_n 2, 1) := by decide +kernel
theorem dX6_costNow_27 : decode cX6_costNow 27 = .ok (.invokevirtual 70, 3) := by decide +kernel
theorem dX6_costNow_30 : decode cX6_costNow 30 = .ok (.istore 5, 2) := by decide +kernel
theorem dX6_costNow_32 : decode cX6_costNow 32 = .ok (.iload 5, 2) := by decide +kernel
theorem dX6_costNow_34 : decode cX6_costNow 34 = .ok (.iconst (-1), 1) := by decide +kernel
theorem dX6_costNow_35 : decode cX6_costNow 35 = .ok (.if_icmp .eq 26, 3) := by decide +kernel
theorem dX6_costNow_38 : decode cX6_costNow 38 = .ok (.aload_n 3, 1) := by decide +kernel
theorem dX6_costNow_39 : decode cX6_costNow 39 = .ok (.iload 5, 2) := by decide +kernel
theorem dX6_costNow_41 : decode cX6_costNow 41 = .ok (.iaload, 1) := by decide +kernel
theorem dX6_costNow_42 : decode cX6_costNow 42 = .ok (.iconst (-1), 1) := by decide +kernel
theorem dX6_costNow_43 : decode cX6_costNow 43 = .ok (.if_icmp .eq 18, 3) := by decide +kernel
theorem dX6_costNow_46 : decode cX6_costNow 46 = .ok (.iload_n 2, 1) := by decide +kernel
theorem dX6_costNow_47 : decode cX6_costNow 47 = .ok (.iconst 4, 1) := by decide +kernel
theorem dX6_costNow_48 : decode cX6_costNow 48 = .ok (.if_icmp .eq 17, 3) := by decide +kernel
theorem dX6_costNow_51 : decode cX6_costNow 51 = .ok (.aload_n 0, 1) := by decide +kernel
theorem dX6_costNow_52 : decode cX6_costNow 52 = .ok (.iload 5, 2) := by decide +kernel
theorem dX6_costNow_54 : decode cX6_costNow 54 = .ok (.invokevirtual 88, 3) := by decide +kernel
theorem dX6_costNow_57 : decode cX6_costNow 57 = .ok (.iconst (-1), 1) := by decide +kernel
theorem dX6_costNow_58 : decode cX6_costNow 58 = .ok (.if_icmp .eq 7, 3) := by decide +kernel
theorem dX6_costNow_61 : decode cX6_costNow 61 = .ok (.sipush 10000, 3) := by decide +kernel
theorem dX6_costNow_64 : decode cX6_costNow 64 = .ok (.ireturn, 1) := by decide +kernel
theorem dX6_costNow_65 : decode cX6_costNow 65 = .ok (.bipush 10, 2) := by decide +kernel
theorem dX6_costNow_67 : decode cX6_costNow 67 = .ok (.aload_n 3, 1) := by decide +kernel
theorem dX6_costNow_68 : decode cX6_costNow 68 = .ok (.iload 5, 2) := by decide +kernel
theorem dX6_costNow_70 : decode cX6_costNow 70 = .ok (.iaload, 1) := by decide +kernel
theorem dX6_costNow_71 : decode cX6_costNow 71 = .ok (.imul, 1) := by decide +kernel
theorem dX6_costNow_72 : decode cX6_costNow 72 = .ok (.aload_n 0, 1) := by decide +kernel
theorem dX6_costNow_73 : decode cX6_costNow 73 = .ok (.getfield 39, 3) := by decide +kernel
theorem dX6_costNow_76 : decode cX6_costNow 76 = .ok (.iload_n 1, 1) := by decide +kernel
theorem dX6_costNow_77 : decode cX6_costNow 77 = .ok (.bipush 8, 2) := by decide +kernel
theorem dX6_costNow_79 : decode cX6_costNow 79 = .ok (.imul, 1) := by decide +kernel
theorem dX6_costNow_80 : decode cX6_costNow 80 = .ok (.iconst 2, 1) := by decide +kernel
theorem dX6_costNow_81 : decode cX6_costNow 81 = .ok (.iadd, 1) := by decide +kernel
theorem dX6_costNow_82 : decode cX6_costNow 82 = .ok (.iaload, 1) := by decide +kernel
theorem dX6_costNow_83 : decode cX6_costNow 83 = .ok (.aload_n 0, 1) := by decide +kernel
theorem dX6_costNow_84 : decode cX6_costNow 84 = .ok (.iload 5, 2) := by decide +kernel
theorem dX6_costNow_86 : decode cX6_costNow 86 = .ok (.iload_n 1, 1) := by decide +kernel
theorem dX6_costNow_87 : decode cX6_costNow 87 = .ok (.invokevirtual 94, 3) := by decide +kernel
theorem dX6_costNow_90 : decode cX6_costNow 90 = .ok (.imul, 1) := by decide +kernel
theorem dX6_costNow_91 : decode cX6_costNow 91 = .ok (.iadd, 1) := by decide +kernel
theorem dX6_costNow_92 : decode cX6_costNow 92 = .ok (.istore 6, 2) := by decide +kernel
theorem dX6_costNow_94 : decode cX6_costNow 94 = .ok (.iconst 0, 1) := by decide +kernel
theorem dX6_costNow_95 : decode cX6_costNow 95 = .ok (.istore 7, 2) := by decide +kernel
theorem dX6_costNow_97 : decode cX6_costNow 97 = .ok (.iload 7, 2) := by decide +kernel
theorem dX6_costNow_99 : decode cX6_costNow 99 = .ok (.aload_n 0, 1) := by decide +kernel
theorem dX6_costNow_100 : decode cX6_costNow 100 = .ok (.getfield 36, 3) := by decide +kernel
theorem dX6_costNow_103 : decode cX6_costNow 103 = .ok (.if_icmp .ge 76, 3) := by decide +kernel
theorem dX6_costNow_106 : decode cX6_costNow 106 = .ok (.iload_n 2, 1) := by decide +kernel
theorem dX6_costNow_107 : decode cX6_costNow 107 = .ok (.iconst 4, 1) := by decide +kernel
theorem dX6_costNow_108 : decode cX6_costNow 108 = .ok (.if_icmp .eq 71, 3) := by decide +kernel
theorem dX6_costNow_111 : decode cX6_costNow 111 = .ok (.aload_n 0, 1) := by decide +kernel
theorem dX6_costNow_112 : decode cX6_costNow 112 = .ok (.getfield 39, 3) := by decide +kernel
theorem dX6_costNow_115 : decode cX6_costNow 115 = .ok (.iload 7, 2) := by decide +kernel
theorem dX6_costNow_117 : decode cX6_costNow 117 = .ok (.bipush 8, 2) := by decide +kernel
theorem dX6_costNow_119 : decode cX6_costNow 119 = .ok (.imul, 1) := by decide +kernel
theorem dX6_costNow_120 : decode cX6_costNow 120 = .ok (.iconst 3, 1) := by decide +kernel
theorem dX6_costNow_121 : decode cX6_costNow 121 = .ok (.iadd, 1) := by decide +kernel
theorem dX6_costNow_122 : decode cX6_costNow 122 = .ok (.iaload, 1) := by decide +kernel
theorem dX6_costNow_123 : decode cX6_costNow 123 = .ok (.istore 8, 2) := by decide +kernel
theorem dX6_costNow_125 : decode cX6_costNow 125 = .ok (.iload 7, 2) := by decide +kernel
theorem dX6_costNow_127 : decode cX6_costNow 127 = .ok (.iload_n 1, 1) := by decide +kernel
theorem dX6_costNow_128 : decode cX6_costNow 128 = .ok (.if_icmp .eq 45, 3) := by decide +kernel
theorem dX6_costNow_131 : decode cX6_costNow 131 = .ok (.iload 8, 2) := by decide +kernel
theorem dX6_costNow_133 : decode cX6_costNow 133 = .ok (.iconst (-1), 1) := by decide +kernel
theorem dX6_costNow_134 : decode cX6_costNow 134 = .ok (.if_icmp .eq 39, 3) := by decide +kernel
theorem dX6_costNow_137 : decode cX6_costNow 137 = .ok (.aload_n 0, 1) := by decide +kernel
theorem dX6_costNow_138 : decode cX6_costNow 138 = .ok (.iload 4, 2) := by decide +kernel
theorem dX6_costNow_140 : decode cX6_costNow 140 = .ok (.iload 8, 2) := by decide +kernel
theorem dX6_costNow_142 : decode cX6_costNow 142 = .ok (.invokevirtual 67, 3) := by decide +kernel
theorem dX6_costNow_145 : decode cX6_costNow 145 = .ok (.ifCond .eq 28, 3) := by decide +kernel
theorem dX6_costNow_148 : decode cX6_costNow 148 = .ok (.aload_n 0, 1) := by decide +kernel
theorem dX6_costNow_149 : decode cX6_costNow 149 = .ok (.getfield 39, 3) := by decide +kernel
theorem dX6_costNow_152 : decode cX6_costNow 152 = .ok (.iload 7, 2) := by decide +kernel
theorem dX6_costNow_154 : decode cX6_costNow 154 = .ok (.bipush 8, 2) := by decide +kernel
theorem dX6_costNow_156 : decode cX6_costNow 156 = .ok (.imul, 1) := by decide +kernel
theorem dX6_costNow_157 : decode cX6_costNow 157 = .ok (.iconst 4, 1) := by decide +kernel
theorem dX6_costNow_158 : decode cX6_costNow 158 = .ok (.iadd, 1) := by decide +kernel
theorem dX6_costNow_159 : decode cX6_costNow 159 = .ok (.iaload, 1) := by decide +kernel
theorem dX6_costNow_160 : decode cX6_costNow 160 = .ok (.iload_n 2, 1) := by decide +kernel
theorem dX6_costNow_161 : decode cX6_costNow 161 = .ok (.if_icmp .ne 12, 3) := by decide +kernel
theorem dX6_costNow_164 : decode cX6_costNow 164 = .ok (.iload 6, 2) := by decide +kernel
theorem dX6_costNow_166 : decode cX6_costNow 166 = .ok (.aload_n 0, 1) := by decide +kernel
theorem dX6_costNow_167 : decode cX6_costNow 167 = .ok (.getfield 7, 3) := by decide +kernel
theorem dX6_costNow_170 : decode cX6_costNow 170 = .ok (.isub, 1) := by decide +kernel
theorem dX6_costNow_171 : decode cX6_costNow 171 = .ok (.istore 6, 2) := by decide +kernel
theorem dX6_costNow_173 : decode cX6_costNow 173 = .ok (.iinc 7 1, 3) := by decide +kernel
theorem dX6_costNow_176 : decode cX6_costNow 176 = .ok (.goto (-79), 3) := by decide +kernel
theorem dX6_costNow_179 : decode cX6_costNow 179 = .ok (.iload 6, 2) := by decide +kernel
theorem dX6_costNow_181 : decode cX6_costNow 181 = .ok (.ireturn, 1) := by decide +kernel
theorem dX6_wantsNow_0 : decode cX6_wantsNow 0 = .ok (.iconst 4, 1) := by decide +kernel
theorem dX6_wantsNow_1 : decode cX6_wantsNow 1 = .ok (.istore_n 3, 1) := by decide +kernel
theorem dX6_wantsNow_2 : decode cX6_wantsNow 2 = .ok (.aload_n 0, 1) := by decide +kernel
theorem dX6_wantsNow_3 : decode cX6_wantsNow 3 = .ok (.iload_n 1, 1) := by decide +kernel
theorem dX6_wantsNow_4 : decode cX6_wantsNow 4 = .ok (.iconst 4, 1) := by decide +kernel
theorem dX6_wantsNow_5 : decode cX6_wantsNow 5 = .ok (.aload_n 2, 1) := by decide +kernel
theorem dX6_wantsNow_6 : decode cX6_wantsNow 6 = .ok (.invokevirtual 113, 3) := by decide +kernel
theorem dX6_wantsNow_9 : decode cX6_wantsNow 9 = .ok (.istore 4, 2) := by decide +kernel
theorem dX6_wantsNow_11 : decode cX6_wantsNow 11 = .ok (.iconst 3, 1) := by decide +kernel
theorem dX6_wantsNow_12 : decode cX6_wantsNow 12 = .ok (.istore 5, 2) := by decide +kernel
theorem dX6_wantsNow_14 : decode cX6_wantsNow 14 = .ok (.iload 5, 2) := by decide +kernel
theorem dX6_wantsNow_16 : decode cX6_wantsNow 16 = .ok (.ifCond .lt 44, 3) := by decide +kernel
theorem dX6_wantsNow_19 : decode cX6_wantsNow 19 = .ok (.aload_n 0, 1) := by decide +kernel
theorem dX6_wantsNow_20 : decode cX6_wantsNow 20 = .ok (.iload_n 1, 1) := by decide +kernel
theorem dX6_wantsNow_21 : decode cX6_wantsNow 21 = .ok (.iload 5, 2) := by decide +kernel
theorem dX6_wantsNow_23 : decode cX6_wantsNow 23 = .ok (.aload_n 2, 1) := by decide +kernel
theorem dX6_wantsNow_24 : decode cX6_wantsNow 24 = .ok (.invokevirtual 113, 3) := by decide +kernel
theorem dX6_wantsNow_27 : decode cX6_wantsNow 27 = .ok (.istore 6, 2) := by decide +kernel
theorem dX6_wantsNow_29 : decode cX6_wantsNow 29 = .ok (.iload 6, 2) := by decide +kernel
theorem dX6_wantsNow_31 : decode cX6_wantsNow 31 = .ok (.iload 4, 2) := by decide +kernel
theorem dX6_wantsNow_33 : decode cX6_wantsNow 33 = .ok (.if_icmp .gt 21, 3) := by decide +kernel
theorem dX6_wantsNow_36 : decode cX6_wantsNow 36 = .ok (.iload 6, 2) := by decide +kernel
theorem dX6_wantsNow_38 : decode cX6_wantsNow 38 = .ok (.sipush 10000, 3) := by decide +kernel
theorem dX6_wantsNow_41 : decode cX6_wantsNow 41 = .ok (.if_icmp .ne 6, 3) := by decide +kernel
theorem dX6_wantsNow_44 : decode cX6_wantsNow 44 = .ok (.goto 10, 3) := by decide +kernel
theorem dX6_wantsNow_47 : decode cX6_wantsNow 47 = .ok (.iload 6, 2) := by decide +kernel
theorem dX6_wantsNow_49 : decode cX6_wantsNow 49 = .ok (.istore 4, 2) := by decide +kernel
theorem dX6_wantsNow_51 : decode cX6_wantsNow 51 = .ok (.iload 5, 2) := by decide +kernel
theorem dX6_wantsNow_53 : decode cX6_wantsNow 53 = .ok (.istore_n 3, 1) := by decide +kernel
theorem dX6_wantsNow_54 : decode cX6_wantsNow 54 = .ok (.iinc 5 (-1), 3) := by decide +kernel
theorem dX6_wantsNow_57 : decode cX6_wantsNow 57 = .ok (.goto (-43), 3) := by decide +kernel
theorem dX6_wantsNow_60 : decode cX6_wantsNow 60 = .ok (.iload_n 3, 1) := by decide +kernel
theorem dX6_wantsNow_61 : decode cX6_wantsNow 61 = .ok (.ireturn, 1) := by decide +kernel
theorem dX6_tickNow_0 : decode cX6_tickNow 0 = .ok (.aload_n 0, 1) := by decide +kernel
theorem dX6_tickNow_1 : decode cX6_tickNow 1 = .ok (.dup, 1) := by decide +kernel
theorem dX6_tickNow_2 : decode cX6_tickNow 2 = .ok (.getfield 26, 3) := by decide +kernel
theorem dX6_tickNow_5 : decode cX6_tickNow 5 = .ok (.iconst 1, 1) := by decide +kernel
theorem dX6_tickNow_6 : decode cX6_tickNow 6 = .ok (.iadd, 1) := by decide +kernel
theorem dX6_tickNow_7 : decode cX6_tickNow 7 = .ok (.putfield 26, 3) := by decide +kernel
theorem dX6_tickNow_10 : decode cX6_tickNow 10 = .ok (.bipush 24, 2) := by decide +kernel
theorem dX6_tickNow_12 : decode cX6_tickNow 12 = .ok (.newarray .int, 2) := by decide +kernel
theorem dX6_tickNow_14 : decode cX6_tickNow 14 = .ok (.astore_n 2, 1) := by decide +kernel
theorem dX6_tickNow_15 : decode cX6_tickNow 15 = .ok (.bipush 24, 2) := by decide +kernel
theorem dX6_tickNow_17 : decode cX6_tickNow 17 = .ok (.newarray .int, 2) := by decide +kernel
theorem dX6_tickNow_19 : decode cX6_tickNow 19 = .ok (.astore_n 3, 1) := by decide +kernel
theorem dX6_tickNow_20 : decode cX6_tickNow 20 = .ok (.iconst 0, 1) := by decide +kernel
theorem dX6_tickNow_21 : decode cX6_tickNow 21 = .ok (.istore 4, 2) := by decide +kernel
theorem dX6_tickNow_23 : decode cX6_tickNow 23 = .ok (.iload 4, 2) := by decide +kernel
theorem dX6_tickNow_25 : decode cX6_tickNow 25 = .ok (.aload_n 0, 1) := by decide +kernel
theorem dX6_tickNow_26 : decode cX6_tickNow 26 = .ok (.getfield 36, 3) := by decide +kernel
theorem dX6_tickNow_29 : decode cX6_tickNow 29 = .ok (.if_icmp .ge 117, 3) := by decide +kernel
theorem dX6_tickNow_32 : decode cX6_tickNow 32 = .ok (.aload_n 2, 1) := by decide +kernel
theorem dX6_tickNow_33 : decode cX6_tickNow 33 = .ok (.iload 4, 2) := by decide +kernel
theorem dX6_tickNow_35 : decode cX6_tickNow 35 = .ok (.iconst (-1), 1) := by decide +kernel
theorem dX6_tickNow_36 : decode cX6_tickNow 36 = .ok (.iastore, 1) := by decide +kernel
theorem dX6_tickNow_37 : decode cX6_tickNow 37 = .ok (.aload_n 0, 1) := by decide +kernel
theorem dX6_tickNow_38 : decode cX6_tickNow 38 = .ok (.iload 4, 2) := by decide +kernel
theorem dX6_tickNow_40 : decode cX6_tickNow 40 = .ok (.invokevirtual 110, 3) := by decide +kernel
theorem dX6_tickNow_43 : decode cX6_tickNow 43 = .ok (.ifCond .eq 97, 3) := by decide +kernel
theorem dX6_tickNow_46 : decode cX6_tickNow 46 = .ok (.aload_n 0, 1) := by decide +kernel
theorem dX6_tickNow_47 : decode cX6_tickNow 47 = .ok (.getfield 26, 3) := by decide +kernel
theorem dX6_tickNow_50 : decode cX6_tickNow 50 = .ok (.aload_n 0, 1) := by decide +kernel
theorem dX6_tickNow_51 : decode cX6_tickNow 51 = .ok (.getfield 39, 3) := by decide +kernel
theorem dX6_tickNow_54 : decode cX6_tickNow 54 = .ok (.iload 4, 2) := by decide +kernel
theorem dX6_tickNow_56 : decode cX6_tickNow 56 = .ok (.bipush 8, 2) := by decide +kernel
theorem dX6_tickNow_58 : decode cX6_tickNow 58 = .ok (.imul, 1) := by decide +kernel
theorem dX6_tickNow_59 : decode cX6_tickNow 59 = .ok (.iconst 1, 1) := by decide +kernel
theorem dX6_tickNow_60 : decode cX6_tickNow 60 = .ok (.iadd, 1) := by decide +kernel
theorem dX6_tickNow_61 : decode cX6_tickNow 61 = .ok (.iaload, 1) := by decide +kernel
theorem dX6_tickNow_62 : decode cX6_tickNow 62 = .ok (.irem, 1) := by decide +kernel
theorem dX6_tickNow_63 : decode cX6_tickNow 63 = .ok (.ifCond .eq 6, 3) := by decide +kernel
theorem dX6_tickNow_66 : decode cX6_tickNow 66 = .ok (.goto 74, 3) := by decide +kernel
theorem dX6_tickNow_69 : decode cX6_tickNow 69 = .ok (.aload_n 3, 1) := by decide +kernel
theorem dX6_tickNow_70 : decode cX6_tickNow 70 = .ok (.iload 4, 2) := by decide +kernel
theorem dX6_tickNow_72 : decode cX6_tickNow 72 = .ok (.aload_n 0, 1) := by decide +kernel
theorem dX6_tickNow_73 : decode cX6_tickNow 73 = .ok (.iload 4, 2) := by decide +kernel
theorem dX6_tickNow_75 : decode cX6_tickNow 75 = .ok (.aload_n 1, 1) := by decide +kernel
theorem dX6_tickNow_76 : decode cX6_tickNow 76 = .ok (.aload_n 0, 1) := by decide +kernel
theorem dX6_tickNow_77 : decode cX6_tickNow 77 = .ok (.getfield 39, 3) := by decide +kernel
theorem dX6_tickNow_80 : decode cX6_tickNow 80 = .ok (.iload 4, 2) := by decide +kernel
theorem dX6_tickNow_82 : decode cX6_tickNow 82 = .ok (.bipush 8, 2) := by decide +kernel
theorem dX6_tickNow_84 : decode cX6_tickNow 84 = .ok (.imul, 1) := by decide +kernel
theorem dX6_tickNow_85 : decode cX6_tickNow 85 = .ok (.iconst 0, 1) := by decide +kernel
theorem dX6_tickNow_86 : decode cX6_tickNow 86 = .ok (.iadd, 1) := by decide +kernel
theorem dX6_tickNow_87 : decode cX6_tickNow 87 = .ok (.iaload, 1) := by decide +kernel
theorem dX6_tickNow_88 : decode cX6_tickNow 88 = .ok (.aaload, 1) := by decide +kernel
theorem dX6_tickNow_89 : decode cX6_tickNow 89 = .ok (.invokevirtual 117, 3) := by decide +kernel
theorem dX6_tickNow_92 : decode cX6_tickNow 92 = .ok (.iastore, 1) := by decide +kernel
theorem dX6_tickNow_93 : decode cX6_tickNow 93 = .ok (.aload_n 2, 1) := by decide +kernel
theorem dX6_tickNow_94 : decode cX6_tickNow 94 = .ok (.iload 4, 2) := by decide +kernel
theorem dX6_tickNow_96 : decode cX6_tickNow 96 = .ok (.aload_n 3, 1) := by decide +kernel
theorem dX6_tickNow_97 : decode cX6_tickNow 97 = .ok (.iload 4, 2) := by decide +kernel
theorem dX6_tickNow_99 : decode cX6_tickNow 99 = .ok (.iaload, 1) := by decide +kernel
theorem dX6_tickNow_100 : decode cX6_tickNow 100 = .ok (.iconst 4, 1) := by decide +kernel
theorem dX6_tickNow_101 : decode cX6_tickNow 101 = .ok (.if_icmp .ne 18, 3) := by decide +kernel
theorem dX6_tickNow_104 : decode cX6_tickNow 104 = .ok (.aload_n 0, 1) := by decide +kernel
theorem dX6_tickNow_105 : decode cX6_tickNow 105 = .ok (.getfield 39, 3) := by decide +kernel
theorem dX6_tickNow_108 : decode cX6_tickNow 108 = .ok (.iload 4, 2) := by decide +kernel
theorem dX6_tickNow_110 : decode cX6_tickNow 110 = .ok (.bipush 8, 2) := by decide +kernel
theorem dX6_tickNow_112 : decode cX6_tickNow 112 = .ok (.imul, 1) := by decide +kernel
theorem dX6_tickNow_113 : decode cX6_tickNow 113 = .ok (.iconst 3, 1) := by decide +kernel
theorem dX6_tickNow_114 : decode cX6_tickNow 114 = .ok (.iadd, 1) := by decide +kernel
theorem dX6_tickNow_115 : decode cX6_tickNow 115 = .ok (.iaload, 1) := by decide +kernel
theorem dX6_tickNow_116 : decode cX6_tickNow 116 = .ok (.goto 23, 3) := by decide +kernel
theorem dX6_tickNow_119 : decode cX6_tickNow 119 = .ok (.aload_n 0, 1) := by decide +kernel
theorem dX6_tickNow_120 : decode cX6_tickNow 120 = .ok (.aload_n 0, 1) := by decide +kernel
theorem dX6_tickNow_121 : decode cX6_tickNow 121 = .ok (.getfield 39, 3) := by decide +kernel
theorem dX6_tickNow_124 : decode cX6_tickNow 124 = .ok (.iload 4, 2) := by decide +kernel
theorem dX6_tickNow_126 : decode cX6_tickNow 126 = .ok (.bipush 8, 2) := by decide +kernel
theorem dX6_tickNow_128 : decode cX6_tickNow 128 = .ok (.imul, 1) := by decide +kernel
theorem dX6_tickNow_129 : decode cX6_tickNow 129 = .ok (.iconst 3, 1) := by decide +kernel
theorem dX6_tickNow_130 : decode cX6_tickNow 130 = .ok (.iadd, 1) := by decide +kernel
theorem dX6_tickNow_131 : decode cX6_tickNow 131 = .ok (.iaload, 1) := by decide +kernel
theorem dX6_tickNow_132 : decode cX6_tickNow 132 = .ok (.aload_n 3, 1) := by decide +kernel
theorem dX6_tickNow_133 : decode cX6_tickNow 133 = .ok (.iload 4, 2) := by decide +kernel
theorem dX6_tickNow_135 : decode cX6_tickNow 135 = .ok (.iaload, 1) := by decide +kernel
theorem dX6_tickNow_136 : decode cX6_tickNow 136 = .ok (.invokevirtual 70, 3) := by decide +kernel
theorem dX6_tickNow_139 : decode cX6_tickNow 139 = .ok (.iastore, 1) := by decide +kernel
theorem dX6_tickNow_140 : decode cX6_tickNow 140 = .ok (.iinc 4 1, 3) := by decide +kernel
theorem dX6_tickNow_143 : decode cX6_tickNow 143 = .ok (.goto (-120), 3) := by decide +kernel
theorem dX6_tickNow_146 : decode cX6_tickNow 146 = .ok (.bipush 24, 2) := by decide +kernel
theorem dX6_tickNow_148 : decode cX6_tickNow 148 = .ok (.newarray .boolean, 2) := by decide +kernel
theorem dX6_tickNow_150 : decode cX6_tickNow 150 = .ok (.astore 4, 2) := by decide +kernel
theorem dX6_tickNow_152 : decode cX6_tickNow 152 = .ok (.iconst 0, 1) := by decide +kernel
theorem dX6_tickNow_153 : decode cX6_tickNow 153 = .ok (.istore 5, 2) := by decide +kernel
theorem dX6_tickNow_155 : decode cX6_tickNow 155 = .ok (.iload 5, 2) := by decide +kernel
theorem dX6_tickNow_157 : decode cX6_tickNow 157 = .ok (.aload_n 0, 1) := by decide +kernel
theorem dX6_tickNow_158 : decode cX6_tickNow 158 = .ok (.getfield 36, 3) := by decide +kernel
theorem dX6_tickNow_161 : decode cX6_tickNow 161 = .ok (.if_icmp .ge 144, 3) := by decide +kernel
theorem dX6_tickNow_164 : decode cX6_tickNow 164 = .ok (.aload 4, 2) := by decide +kernel
theorem dX6_tickNow_166 : decode cX6_tickNow 166 = .ok (.iload 5, 2) := by decide +kernel
theorem dX6_tickNow_168 : decode cX6_tickNow 168 = .ok (.aload_n 2, 1) := by decide +kernel
theorem dX6_tickNow_169 : decode cX6_tickNow 169 = .ok (.iload 5, 2) := by decide +kernel
theorem dX6_tickNow_171 : decode cX6_tickNow 171 = .ok (.iaload, 1) := by decide +kernel
theorem dX6_tickNow_172 : decode cX6_tickNow 172 = .ok (.iconst (-1), 1) := by decide +kernel
theorem dX6_tickNow_173 : decode cX6_tickNow 173 = .ok (.if_icmp .eq 15, 3) := by decide +kernel
theorem dX6_tickNow_176 : decode cX6_tickNow 176 = .ok (.aload_n 3, 1) := by decide +kernel
theorem dX6_tickNow_177 : decode cX6_tickNow 177 = .ok (.iload 5, 2) := by decide +kernel
theorem dX6_tickNow_179 : decode cX6_tickNow 179 = .ok (.iaload, 1) := by decide +kernel
theorem dX6_tickNow_180 : decode cX6_tickNow 180 = .ok (.iconst 4, 1) := by decide +kernel
theorem dX6_tickNow_181 : decode cX6_tickNow 181 = .ok (.if_icmp .eq 7, 3) := by decide +kernel
theorem dX6_tickNow_184 : decode cX6_tickNow 184 = .ok (.iconst 1, 1) := by decide +kernel
theorem dX6_tickNow_185 : decode cX6_tickNow 185 = .ok (.goto 4, 3) := by decide +kernel
theorem dX6_tickNow_188 : decode cX6_tickNow 188 = .ok (.iconst 0, 1) := by decide +kernel
theorem dX6_tickNow_189 : decode cX6_tickNow 189 = .ok (.bastore, 1) := by decide +kernel
theorem dX6_tickNow_190 : decode cX6_tickNow 190 = .ok (.iconst 0, 1) := by decide +kernel
theorem dX6_tickNow_191 : decode cX6_tickNow 191 = .ok (.istore 6, 2) := by decide +kernel
theorem dX6_tickNow_193 : decode cX6_tickNow 193 = .ok (.iload 6, 2) := by decide +kernel
theorem dX6_tickNow_195 : decode cX6_tickNow 195 = .ok (.aload_n 0, 1) := by decide +kernel
theorem dX6_tickNow_196 : decode cX6_tickNow 196 = .ok (.getfield 36, 3) := by decide +kernel
theorem dX6_tickNow_199 : decode cX6_tickNow 199 = .ok (.if_icmp .ge 100, 3) := by decide +kernel
theorem dX6_tickNow_202 : decode cX6_tickNow 202 = .ok (.aload 4, 2) := by decide +kernel
theorem dX6_tickNow_204 : decode cX6_tickNow 204 = .ok (.iload 5, 2) := by decide +kernel
theorem dX6_tickNow_206 : decode cX6_tickNow 206 = .ok (.baload, 1) := by decide +kernel
theorem dX6_tickNow_207 : decode cX6_tickNow 207 = .ok (.ifCond .eq 92, 3) := by decide +kernel
theorem dX6_tickNow_210 : decode cX6_tickNow 210 = .ok (.iload 6, 2) := by decide +kernel
theorem dX6_tickNow_212 : decode cX6_tickNow 212 = .ok (.iload 5, 2) := by decide +kernel
theorem dX6_tickNow_214 : decode cX6_tickNow 214 = .ok (.if_icmp .eq 79, 3) := by decide +kernel
theorem dX6_tickNow_217 : decode cX6_tickNow 217 = .ok (.aload_n 2, 1) := by decide +kernel
theorem dX6_tickNow_218 : decode cX6_tickNow 218 = .ok (.iload 6, 2) := by decide +kernel
theorem dX6_tickNow_220 : decode cX6_tickNow 220 = .ok (.iaload, 1) := by decide +kernel
theorem dX6_tickNow_221 : decode cX6_tickNow 221 = .ok (.aload_n 2, 1) := by decide +kernel
theorem dX6_tickNow_222 : decode cX6_tickNow 222 = .ok (.iload 5, 2) := by decide +kernel
theorem dX6_tickNow_224 : decode cX6_tickNow 224 = .ok (.iaload, 1) := by decide +kernel
theorem dX6_tickNow_225 : decode cX6_tickNow 225 = .ok (.if_icmp .ne 68, 3) := by decide +kernel
theorem dX6_tickNow_228 : decode cX6_tickNow 228 = .ok (.aload_n 3, 1) := by decide +kernel
theorem dX6_tickNow_229 : decode cX6_tickNow 229 = .ok (.iload 6, 2) := by decide +kernel
theorem dX6_tickNow_231 : decode cX6_tickNow 231 = .ok (.iaload, 1) := by decide +kernel
theorem dX6_tickNow_232 : decode cX6_tickNow 232 = .ok (.iconst 4, 1) := by decide +kernel
theorem dX6_tickNow_233 : decode cX6_tickNow 233 = .ok (.if_icmp .ne 6, 3) := by decide +kernel
theorem dX6_tickNow_236 : decode cX6_tickNow 236 = .ok (.goto 57, 3) := by decide +kernel
theorem dX6_tickNow_239 : decode cX6_tickNow 239 = .ok (.aload_n 0, 1) := by decide +kernel
theorem dX6_tickNow_240 : decode cX6_tickNow 240 = .ok (.getfield 39, 3) := by decide +kernel
theorem dX6_tickNow_243 : decode cX6_tickNow 243 = .ok (.iload 6, 2) := by decide +kernel
theorem dX6_tickNow_245 : decode cX6_tickNow 245 = .ok (.bipush 8, 2) := by decide +kernel
theorem dX6_tickNow_247 : decode cX6_tickNow 247 = .ok (.imul, 1) := by decide +kernel
theorem dX6_tickNow_248 : decode cX6_tickNow 248 = .ok (.iconst 5, 1) := by decide +kernel
theorem dX6_tickNow_249 : decode cX6_tickNow 249 = .ok (.iadd, 1) := by decide +kernel
theorem dX6_tickNow_250 : decode cX6_tickNow 250 = .ok (.iaload, 1) := by decide +kernel
theorem dX6_tickNow_251 : decode cX6_tickNow 251 = .ok (.aload_n 0, 1) := by decide +kernel
theorem dX6_tickNow_252 : decode cX6_tickNow 252 = .ok (.getfield 39, 3) := by decide +kernel
theorem dX6_tickNow_255 : decode cX6_tickNow 255 = .ok (.iload 5, 2) := by decide +kernel
theorem dX6_tickNow_257 : decode cX6_tickNow 257 = .ok (.bipush 8, 2) := by decide +kernel
theorem dX6_tickNow_259 : decode cX6_tickNow 259 = .ok (.imul, 1) := by decide +kernel
theorem dX6_tickNow_260 : decode cX6_tickNow 260 = .ok (.iconst 5, 1) := by decide +kernel
theorem dX6_tickNow_261 : decode cX6_tickNow 261 = .ok (.iadd, 1) := by decide +kernel
theorem dX6_tickNow_262 : decode cX6_tickNow 262 = .ok (.iaload, 1) := by decide +kernel
theorem dX6_tickNow_263 : decode cX6_tickNow 263 = .ok (.isub, 1) := by decide +kernel
theorem dX6_tickNow_264 : decode cX6_tickNow 264 = .ok (.istore 7, 2) := by decide +kernel
theorem dX6_tickNow_266 : decode cX6_tickNow 266 = .ok (.aload 4, 2) := by decide +kernel
theorem dX6_tickNow_268 : decode cX6_tickNow 268 = .ok (.iload 5, 2) := by decide +kernel
theorem dX6_tickNow_270 : decode cX6_tickNow 270 = .ok (.iload 7, 2) := by decide +kernel
theorem dX6_tickNow_272 : decode cX6_tickNow 272 = .ok (.ifCond .lt 15, 3) := by decide +kernel
theorem dX6_tickNow_275 : decode cX6_tickNow 275 = .ok (.iload 7, 2) := by decide +kernel
theorem dX6_tickNow_277 : decode cX6_tickNow 277 = .ok (.ifCond .ne 14, 3) := by decide +kernel
theorem dX6_tickNow_280 : decode cX6_tickNow 280 = .ok (.iload 5, 2) := by decide +kernel
theorem dX6_tickNow_282 : decode cX6_tickNow 282 = .ok (.iload 6, 2) := by decide +kernel
theorem dX6_tickNow_284 : decode cX6_tickNow 284 = .ok (.if_icmp .ge 7, 3) := by decide +kernel
theorem dX6_tickNow_287 : decode cX6_tickNow 287 = .ok (.iconst 1, 1) := by decide +kernel
theorem dX6_tickNow_288 : decode cX6_tickNow 288 = .ok (.goto 4, 3) := by decide +kernel
theorem dX6_tickNow_291 : decode cX6_tickNow 291 = .ok (.iconst 0, 1) := by decide +kernel
theorem dX6_tickNow_292 : decode cX6_tickNow 292 = .ok (.bastore, 1) := by decide +kernel
theorem dX6_tickNow_293 : decode cX6_tickNow 293 = .ok (.iinc 6 1, 3) := by decide +kernel
theorem dX6_tickNow_296 : decode cX6_tickNow 296 = .ok (.goto (-103), 3) := by decide +kernel
theorem dX6_tickNow_299 : decode cX6_tickNow 299 = .ok (.iinc 5 1, 3) := by decide +kernel
theorem dX6_tickNow_302 : decode cX6_tickNow 302 = .ok (.goto (-147), 3) := by decide +kernel
theorem dX6_tickNow_305 : decode cX6_tickNow 305 = .ok (.iconst 0, 1) := by decide +kernel
theorem dX6_tickNow_306 : decode cX6_tickNow 306 = .ok (.istore 5, 2) := by decide +kernel
theorem dX6_tickNow_308 : decode cX6_tickNow 308 = .ok (.iconst 0, 1) := by decide +kernel
theorem dX6_tickNow_309 : decode cX6_tickNow 309 = .ok (.istore 6, 2) := by decide +kernel
theorem dX6_tickNow_311 : decode cX6_tickNow 311 = .ok (.iload 6, 2) := by decide +kernel
theorem dX6_tickNow_313 : decode cX6_tickNow 313 = .ok (.aload_n 0, 1) := by decide +kernel
theorem dX6_tickNow_314 : decode cX6_tickNow 314 = .ok (.getfield 36, 3) := by decide +kernel
theorem dX6_tickNow_317 : decode cX6_tickNow 317 = .ok (.if_icmp .ge 181, 3) := by decide +kernel
theorem dX6_tickNow_320 : decode cX6_tickNow 320 = .ok (.iload 6, 2) := by decide +kernel
theorem dX6_tickNow_322 : decode cX6_tickNow 322 = .ok (.bipush 8, 2) := by decide +kernel
theorem dX6_tickNow_324 : decode cX6_tickNow 324 = .ok (.imul, 1) := by decide +kernel
theorem dX6_tickNow_325 : decode cX6_tickNow 325 = .ok (.istore 7, 2) := by decide +kernel
theorem dX6_tickNow_327 : decode cX6_tickNow 327 = .ok (.aload_n 2, 1) := by decide +kernel
theorem dX6_tickNow_328 : decode cX6_tickNow 328 = .ok (.iload 6, 2) := by decide +kernel
theorem dX6_tickNow_330 : decode cX6_tickNow 330 = .ok (.iaload, 1) := by decide +kernel
theorem dX6_tickNow_331 : decode cX6_tickNow 331 = .ok (.iconst (-1), 1) := by decide +kernel
theorem dX6_tickNow_332 : decode cX6_tickNow 332 = .ok (.if_icmp .eq 24, 3) := by decide +kernel
theorem dX6_tickNow_335 : decode cX6_tickNow 335 = .ok (.aload 4, 2) := by decide +kernel
theorem dX6_tickNow_337 : decode cX6_tickNow 337 = .ok (.iload 6, 2) := by decide +kernel
theorem dX6_tickNow_339 : decode cX6_tickNow 339 = .ok (.baload, 1) := by decide +kernel
theorem dX6_tickNow_340 : decode cX6_tickNow 340 = .ok (.ifCond .ne 16, 3) := by decide +kernel
theorem dX6_tickNow_343 : decode cX6_tickNow 343 = .ok (.aload_n 0, 1) := by decide +kernel
theorem dX6_tickNow_344 : decode cX6_tickNow 344 = .ok (.getfield 39, 3) := by decide +kernel
theorem dX6_tickNow_347 : decode cX6_tickNow 347 = .ok (.iload 7, 2) := by decide +kernel
theorem dX6_tickNow_349 : decode cX6_tickNow 349 = .ok (.iconst 5, 1) := by decide +kernel
theorem dX6_tickNow_350 : decode cX6_tickNow 350 = .ok (.iadd, 1) := by decide +kernel
theorem dX6_tickNow_351 : decode cX6_tickNow 351 = .ok (.dup2, 1) := by decide +kernel
theorem dX6_tickNow_352 : decode cX6_tickNow 352 = .ok (.iaload, 1) := by decide +kernel
theorem dX6_tickNow_353 : decode cX6_tickNow 353 = .ok (.iconst 1, 1) := by decide +kernel
theorem dX6_tickNow_354 : decode cX6_tickNow 354 = .ok (.iadd, 1) := by decide +kernel
theorem dX6_tickNow_355 : decode cX6_tickNow 355 = .ok (.iastore, 1) := by decide +kernel
theorem dX6_tickNow_356 : decode cX6_tickNow 356 = .ok (.aload 4, 2) := by decide +kernel
theorem dX6_tickNow_358 : decode cX6_tickNow 358 = .ok (.iload 6, 2) := by decide +kernel
theorem dX6_tickNow_360 : decode cX6_tickNow 360 = .ok (.baload, 1) := by decide +kernel
theorem dX6_tickNow_361 : decode cX6_tickNow 361 = .ok (.ifCond .ne 6, 3) := by decide +kernel
theorem dX6_tickNow_364 : decode cX6_tickNow 364 = .ok (.goto 128, 3) := by decide +kernel
theorem dX6_tickNow_367 : decode cX6_tickNow 367 = .ok (.aload_n 0, 1) := by decide +kernel
theorem dX6_tickNow_368 : decode cX6_tickNow 368 = .ok (.getfield 39, 3) := by decide +kernel
theorem dX6_tickNow_371 : decode cX6_tickNow 371 = .ok (.iload 7, 2) := by decide +kernel
theorem dX6_tickNow_373 : decode cX6_tickNow 373 = .ok (.iconst 4, 1) := by decide +kernel
theorem dX6_tickNow_374 : decode cX6_tickNow 374 = .ok (.iadd, 1) := by decide +kernel
theorem dX6_tickNow_375 : decode cX6_tickNow 375 = .ok (.aload_n 3, 1) := by decide +kernel
theorem dX6_tickNow_376 : decode cX6_tickNow 376 = .ok (.iload 6, 2) := by decide +kernel
theorem dX6_tickNow_378 : decode cX6_tickNow 378 = .ok (.iaload, 1) := by decide +kernel
theorem dX6_tickNow_379 : decode cX6_tickNow 379 = .ok (.iastore, 1) := by decide +kernel
theorem dX6_tickNow_380 : decode cX6_tickNow 380 = .ok (.aload_n 0, 1) := by decide +kernel
theorem dX6_tickNow_381 : decode cX6_tickNow 381 = .ok (.getfield 39, 3) := by decide +kernel
theorem dX6_tickNow_384 : decode cX6_tickNow 384 = .ok (.iload 7, 2) := by decide +kernel
theorem dX6_tickNow_386 : decode cX6_tickNow 386 = .ok (.iconst 5, 1) := by decide +kernel
theorem dX6_tickNow_387 : decode cX6_tickNow 387 = .ok (.iadd, 1) := by decide +kernel
theorem dX6_tickNow_388 : decode cX6_tickNow 388 = .ok (.iconst 0, 1) := by decide +kernel
theorem dX6_tickNow_389 : decode cX6_tickNow 389 = .ok (.iastore, 1) := by decide +kernel
theorem dX6_tickNow_390 : decode cX6_tickNow 390 = .ok (.aload_n 0, 1) := by decide +kernel
theorem dX6_tickNow_391 : decode cX6_tickNow 391 = .ok (.getfield 39, 3) := by decide +kernel
theorem dX6_tickNow_394 : decode cX6_tickNow 394 = .ok (.iload 7, 2) := by decide +kernel
theorem dX6_tickNow_396 : decode cX6_tickNow 396 = .ok (.bipush 6, 2) := by decide +kernel
theorem dX6_tickNow_398 : decode cX6_tickNow 398 = .ok (.iadd, 1) := by decide +kernel
theorem dX6_tickNow_399 : decode cX6_tickNow 399 = .ok (.dup2, 1) := by decide +kernel
theorem dX6_tickNow_400 : decode cX6_tickNow 400 = .ok (.iaload, 1) := by decide +kernel
theorem dX6_tickNow_401 : decode cX6_tickNow 401 = .ok (.iconst 1, 1) := by decide +kernel
theorem dX6_tickNow_402 : decode cX6_tickNow 402 = .ok (.iadd, 1) := by decide +kernel
theorem dX6_tickNow_403 : decode cX6_tickNow 403 = .ok (.iastore, 1) := by decide +kernel
theorem dX6_tickNow_404 : decode cX6_tickNow 404 = .ok (.aload_n 0, 1) := by decide +kernel
theorem dX6_tickNow_405 : decode cX6_tickNow 405 = .ok (.getfield 43, 3) := by decide +kernel
theorem dX6_tickNow_408 : decode cX6_tickNow 408 = .ok (.aload_n 2, 1) := by decide +kernel
theorem dX6_tickNow_409 : decode cX6_tickNow 409 = .ok (.iload 6, 2) := by decide +kernel
theorem dX6_tickNow_411 : decode cX6_tickNow 411 = .ok (.iaload, 1) := by decide +kernel
theorem dX6_tickNow_412 : decode cX6_tickNow 412 = .ok (.dup2, 1) := by decide +kernel
theorem dX6_tickNow_413 : decode cX6_tickNow 413 = .ok (.iaload, 1) := by decide +kernel
theorem dX6_tickNow_414 : decode cX6_tickNow 414 = .ok (.iconst 1, 1) := by decide +kernel
theorem dX6_tickNow_415 : decode cX6_tickNow 415 = .ok (.iadd, 1) := by decide +kernel
theorem dX6_tickNow_416 : decode cX6_tickNow 416 = .ok (.iastore, 1) := by decide +kernel
theorem dX6_tickNow_417 : decode cX6_tickNow 417 = .ok (.aload_n 0, 1) := by decide +kernel
theorem dX6_tickNow_418 : decode cX6_tickNow 418 = .ok (.getfield 39, 3) := by decide +kernel
theorem dX6_tickNow_421 : decode cX6_tickNow 421 = .ok (.iload 7, 2) := by decide +kernel
theorem dX6_tickNow_423 : decode cX6_tickNow 423 = .ok (.iconst 3, 1) := by decide +kernel
theorem dX6_tickNow_424 : decode cX6_tickNow 424 = .ok (.iadd, 1) := by decide +kernel
theorem dX6_tickNow_425 : decode cX6_tickNow 425 = .ok (.aload_n 2, 1) := by decide +kernel
theorem dX6_tickNow_426 : decode cX6_tickNow 426 = .ok (.iload 6, 2) := by decide +kernel
theorem dX6_tickNow_428 : decode cX6_tickNow 428 = .ok (.iaload, 1) := by decide +kernel
theorem dX6_tickNow_429 : decode cX6_tickNow 429 = .ok (.iastore, 1) := by decide +kernel
theorem dX6_tickNow_430 : decode cX6_tickNow 430 = .ok (.aload_n 0, 1) := by decide +kernel
theorem dX6_tickNow_431 : decode cX6_tickNow 431 = .ok (.getfield 33, 3) := by decide +kernel
theorem dX6_tickNow_434 : decode cX6_tickNow 434 = .ok (.aload_n 0, 1) := by decide +kernel
theorem dX6_tickNow_435 : decode cX6_tickNow 435 = .ok (.getfield 39, 3) := by decide +kernel
theorem dX6_tickNow_438 : decode cX6_tickNow 438 = .ok (.iload 7, 2) := by decide +kernel
theorem dX6_tickNow_440 : decode cX6_tickNow 440 = .ok (.iconst 0, 1) := by decide +kernel
theorem dX6_tickNow_441 : decode cX6_tickNow 441 = .ok (.iadd, 1) := by decide +kernel
theorem dX6_tickNow_442 : decode cX6_tickNow 442 = .ok (.iaload, 1) := by decide +kernel
theorem dX6_tickNow_443 : decode cX6_tickNow 443 = .ok (.aload_n 0, 1) := by decide +kernel
theorem dX6_tickNow_444 : decode cX6_tickNow 444 = .ok (.getfield 20, 3) := by decide +kernel
theorem dX6_tickNow_447 : decode cX6_tickNow 447 = .ok (.imul, 1) := by decide +kernel
theorem dX6_tickNow_448 : decode cX6_tickNow 448 = .ok (.aload_n 0, 1) := by decide +kernel
theorem dX6_tickNow_449 : decode cX6_tickNow 449 = .ok (.getfield 23, 3) := by decide +kernel
theorem dX6_tickNow_452 : decode cX6_tickNow 452 = .ok (.imul, 1) := by decide +kernel
theorem dX6_tickNow_453 : decode cX6_tickNow 453 = .ok (.aload_n 2, 1) := by decide +kernel
theorem dX6_tickNow_454 : decode cX6_tickNow 454 = .ok (.iload 6, 2) := by decide +kernel
theorem dX6_tickNow_456 : decode cX6_tickNow 456 = .ok (.iaload, 1) := by decide +kernel
theorem dX6_tickNow_457 : decode cX6_tickNow 457 = .ok (.iadd, 1) := by decide +kernel
theorem dX6_tickNow_458 : decode cX6_tickNow 458 = .ok (.baload, 1) := by decide +kernel
theorem dX6_tickNow_459 : decode cX6_tickNow 459 = .ok (.ifCond .ne 6, 3) := by decide +kernel
theorem dX6_tickNow_462 : decode cX6_tickNow 462 = .ok (.goto 30, 3) := by decide +kernel
theorem dX6_tickNow_465 : decode cX6_tickNow 465 = .ok (.aload_n 0, 1) := by decide +kernel
theorem dX6_tickNow_466 : decode cX6_tickNow 466 = .ok (.getfield 39, 3) := by decide +kernel
theorem dX6_tickNow_469 : decode cX6_tickNow 469 = .ok (.iload 7, 2) := by decide +kernel
theorem dX6_tickNow_471 : decode cX6_tickNow 471 = .ok (.iconst 3, 1) := by decide +kernel
theorem dX6_tickNow_472 : decode cX6_tickNow 472 = .ok (.iadd, 1) := by decide +kernel
theorem dX6_tickNow_473 : decode cX6_tickNow 473 = .ok (.iconst (-1), 1) := by decide +kernel
theorem dX6_tickNow_474 : decode cX6_tickNow 474 = .ok (.iastore, 1) := by decide +kernel
theorem dX6_tickNow_475 : decode cX6_tickNow 475 = .ok (.aload_n 0, 1) := by decide +kernel
theorem dX6_tickNow_476 : decode cX6_tickNow 476 = .ok (.getfield 39, 3) := by decide +kernel
theorem dX6_tickNow_479 : decode cX6_tickNow 479 = .ok (.iload 7, 2) := by decide +kernel
theorem dX6_tickNow_481 : decode cX6_tickNow 481 = .ok (.bipush 7, 2) := by decide +kernel
theorem dX6_tickNow_483 : decode cX6_tickNow 483 = .ok (.iadd, 1) := by decide +kernel
theorem dX6_tickNow_484 : decode cX6_tickNow 484 = .ok (.aload_n 0, 1) := by decide +kernel
theorem dX6_tickNow_485 : decode cX6_tickNow 485 = .ok (.getfield 26, 3) := by decide +kernel
theorem dX6_tickNow_488 : decode cX6_tickNow 488 = .ok (.iastore, 1) := by decide +kernel
theorem dX6_tickNow_489 : decode cX6_tickNow 489 = .ok (.iinc 5 1, 3) := by decide +kernel
theorem dX6_tickNow_492 : decode cX6_tickNow 492 = .ok (.iinc 6 1, 3) := by decide +kernel
theorem dX6_tickNow_495 : decode cX6_tickNow 495 = .ok (.goto (-184), 3) := by decide +kernel
theorem dX6_tickNow_498 : decode cX6_tickNow 498 = .ok (.iload 5, 2) := by decide +kernel
theorem dX6_tickNow_500 : decode cX6_tickNow 500 = .ok (.ireturn, 1) := by decide +kernel
theorem dX6_tick_0 : decode cX6_tick 0 = .ok (.aload_n 0, 1) := by decide +kernel
theorem dX6_tick_1 : decode cX6_tick 1 = .ok (.iconst 0, 1) := by decide +kernel
theorem dX6_tick_2 : decode cX6_tick 2 = .ok (.putfield 46, 3) := by decide +kernel
theorem dX6_tick_5 : decode cX6_tick 5 = .ok (.iload_n 1, 1) := by decide +kernel
theorem dX6_tick_6 : decode cX6_tick 6 = .ok (.iconst 1, 1) := by decide +kernel
theorem dX6_tick_7 : decode cX6_tick 7 = .ok (.bipush 20, 2) := by decide +kernel
theorem dX6_tick_9 : decode cX6_tick 9 = .ok (.invokestatic 49, 3) := by decide +kernel
theorem dX6_tick_12 : decode cX6_tick 12 = .ok (.ifCond .ne 9, 3) := by decide +kernel
theorem dX6_tick_15 : decode cX6_tick 15 = .ok (.aload_n 0, 1) := by decide +kernel
theorem dX6_tick_16 : decode cX6_tick 16 = .ok (.iconst 1, 1) := by decide +kernel
theorem dX6_tick_17 : decode cX6_tick 17 = .ok (.invokevirtual 79, 3) := by decide +kernel
theorem dX6_tick_20 : decode cX6_tick 20 = .ok (.ireturn, 1) := by decide +kernel
theorem dX6_tick_21 : decode cX6_tick 21 = .ok (.aload_n 0, 1) := by decide +kernel
theorem dX6_tick_22 : decode cX6_tick 22 = .ok (.invokevirtual 121, 3) := by decide +kernel
theorem dX6_tick_25 : decode cX6_tick 25 = .ok (.astore_n 2, 1) := by decide +kernel
theorem dX6_tick_26 : decode cX6_tick 26 = .ok (.iconst 0, 1) := by decide +kernel
theorem dX6_tick_27 : decode cX6_tick 27 = .ok (.istore_n 3, 1) := by decide +kernel
theorem dX6_tick_28 : decode cX6_tick 28 = .ok (.iconst 0, 1) := by decide +kernel
theorem dX6_tick_29 : decode cX6_tick 29 = .ok (.istore 4, 2) := by decide +kernel
theorem dX6_tick_31 : decode cX6_tick 31 = .ok (.iload 4, 2) := by decide +kernel
theorem dX6_tick_33 : decode cX6_tick 33 = .ok (.iload_n 1, 1) := by decide +kernel
theorem dX6_tick_34 : decode cX6_tick 34 = .ok (.if_icmp .ge 17, 3) := by decide +kernel
theorem dX6_tick_37 : decode cX6_tick 37 = .ok (.iload_n 3, 1) := by decide +kernel
theorem dX6_tick_38 : decode cX6_tick 38 = .ok (.aload_n 0, 1) := by decide +kernel
theorem dX6_tick_39 : decode cX6_tick 39 = .ok (.aload_n 2, 1) := by decide +kernel
theorem dX6_tick_40 : decode cX6_tick 40 = .ok (.invokevirtual 125, 3) := by decide +kernel
theorem dX6_tick_43 : decode cX6_tick 43 = .ok (.iadd, 1) := by decide +kernel
theorem dX6_tick_44 : decode cX6_tick 44 = .ok (.istore_n 3, 1) := by decide +kernel
theorem dX6_tick_45 : decode cX6_tick 45 = .ok (.iinc 4 1, 3) := by decide +kernel
theorem dX6_tick_48 : decode cX6_tick 48 = .ok (.goto (-17), 3) := by decide +kernel
theorem dX6_tick_51 : decode cX6_tick 51 = .ok (.iload_n 3, 1) := by decide +kernel
theorem dX6_tick_52 : decode cX6_tick 52 = .ok (.ireturn, 1) := by decide +kernel
theorem dX6_clock_0 : decode cX6_clock 0 = .ok (.aload_n 0, 1) := by decide +kernel
theorem dX6_clock_1 : decode cX6_clock 1 = .ok (.aload_n 0, 1) := by decide +kernel
theorem dX6_clock_2 : decode cX6_clock 2 = .ok (.getfield 26, 3) := by decide +kernel
theorem dX6_clock_5 : decode cX6_clock 5 = .ok (.invokevirtual 129, 3) := by decide +kernel
theorem dX6_clock_8 : decode cX6_clock 8 = .ok (.ireturn, 1) := by decide +kernel
theorem dX6_jams_0 : decode cX6_jams 0 = .ok (.aload_n 0, 1) := by decide +kernel
theorem dX6_jams_1 : decode cX6_jams 1 = .ok (.getfield 36, 3) := by decide +kernel
theorem dX6_jams_4 : decode cX6_jams 4 = .ok (.newarray .int, 2) := by decide +kernel
theorem dX6_jams_6 : decode cX6_jams 6 = .ok (.astore_n 1, 1) := by decide +kernel
theorem dX6_jams_7 : decode cX6_jams 7 = .ok (.iconst 0, 1) := by decide +kernel
theorem dX6_jams_8 : decode cX6_jams 8 = .ok (.istore_n 2, 1) := by decide +kernel
theorem dX6_jams_9 : decode cX6_jams 9 = .ok (.iload_n 2, 1) := by decide +kernel
theorem dX6_jams_10 : decode cX6_jams 10 = .ok (.aload_n 0, 1) := by decide +kernel
theorem dX6_jams_11 : decode cX6_jams 11 = .ok (.getfield 36, 3) := by decide +kernel
theorem dX6_jams_14 : decode cX6_jams 14 = .ok (.if_icmp .ge 43, 3) := by decide +kernel
theorem dX6_jams_17 : decode cX6_jams 17 = .ok (.aload_n 1, 1) := by decide +kernel
theorem dX6_jams_18 : decode cX6_jams 18 = .ok (.iload_n 2, 1) := by decide +kernel
theorem dX6_jams_19 : decode cX6_jams 19 = .ok (.aload_n 0, 1) := by decide +kernel
theorem dX6_jams_20 : decode cX6_jams 20 = .ok (.iload_n 2, 1) := by decide +kernel
theorem dX6_jams_21 : decode cX6_jams 21 = .ok (.invokevirtual 110, 3) := by decide +kernel
theorem dX6_jams_24 : decode cX6_jams 24 = .ok (.ifCond .eq 25, 3) := by decide +kernel
theorem dX6_jams_27 : decode cX6_jams 27 = .ok (.aload_n 0, 1) := by decide +kernel
theorem dX6_jams_28 : decode cX6_jams 28 = .ok (.getfield 39, 3) := by decide +kernel
theorem dX6_jams_31 : decode cX6_jams 31 = .ok (.iload_n 2, 1) := by decide +kernel
theorem dX6_jams_32 : decode cX6_jams 32 = .ok (.bipush 8, 2) := by decide +kernel
theorem dX6_jams_34 : decode cX6_jams 34 = .ok (.imul, 1) := by decide +kernel
theorem dX6_jams_35 : decode cX6_jams 35 = .ok (.iconst 5, 1) := by decide +kernel
theorem dX6_jams_36 : decode cX6_jams 36 = .ok (.iadd, 1) := by decide +kernel
theorem dX6_jams_37 : decode cX6_jams 37 = .ok (.iaload, 1) := by decide +kernel
theorem dX6_jams_38 : decode cX6_jams 38 = .ok (.aload_n 0, 1) := by decide +kernel
theorem dX6_jams_39 : decode cX6_jams 39 = .ok (.getfield 13, 3) := by decide +kernel
theorem dX6_jams_42 : decode cX6_jams 42 = .ok (.if_icmp .lt 7, 3) := by decide +kernel
theorem dX6_jams_45 : decode cX6_jams 45 = .ok (.iload_n 2, 1) := by decide +kernel
theorem dX6_jams_46 : decode cX6_jams 46 = .ok (.goto 4, 3) := by decide +kernel
theorem dX6_jams_49 : decode cX6_jams 49 = .ok (.iconst (-1), 1) := by decide +kernel
theorem dX6_jams_50 : decode cX6_jams 50 = .ok (.iastore, 1) := by decide +kernel
theorem dX6_jams_51 : decode cX6_jams 51 = .ok (.iinc 2 1, 3) := by decide +kernel
theorem dX6_jams_54 : decode cX6_jams 54 = .ok (.goto (-45), 3) := by decide +kernel
theorem dX6_jams_57 : decode cX6_jams 57 = .ok (.iconst 1, 1) := by decide +kernel
theorem dX6_jams_58 : decode cX6_jams 58 = .ok (.istore_n 2, 1) := by decide +kernel
theorem dX6_jams_59 : decode cX6_jams 59 = .ok (.iload_n 2, 1) := by decide +kernel
theorem dX6_jams_60 : decode cX6_jams 60 = .ok (.ifCond .eq 119, 3) := by decide +kernel
theorem dX6_jams_63 : decode cX6_jams 63 = .ok (.iconst 0, 1) := by decide +kernel
theorem dX6_jams_64 : decode cX6_jams 64 = .ok (.istore_n 2, 1) := by decide +kernel
theorem dX6_jams_65 : decode cX6_jams 65 = .ok (.iconst 0, 1) := by decide +kernel
theorem dX6_jams_66 : decode cX6_jams 66 = .ok (.istore_n 3, 1) := by decide +kernel
theorem dX6_jams_67 : decode cX6_jams 67 = .ok (.iload_n 3, 1) := by decide +kernel
theorem dX6_jams_68 : decode cX6_jams 68 = .ok (.aload_n 0, 1) := by decide +kernel
theorem dX6_jams_69 : decode cX6_jams 69 = .ok (.getfield 36, 3) := by decide +kernel
theorem dX6_jams_72 : decode cX6_jams 72 = .ok (.if_icmp .ge 104, 3) := by decide +kernel
theorem dX6_jams_75 : decode cX6_jams 75 = .ok (.iconst 0, 1) := by decide +kernel
theorem dX6_jams_76 : decode cX6_jams 76 = .ok (.istore 4, 2) := by decide +kernel
theorem dX6_jams_78 : decode cX6_jams 78 = .ok (.iload 4, 2) := by decide +kernel
theorem dX6_jams_80 : decode cX6_jams 80 = .ok (.iconst 4, 1) := by decide +kernel
theorem dX6_jams_81 : decode cX6_jams 81 = .ok (.if_icmp .ge 89, 3) := by decide +kernel
theorem dX6_jams_84 : decode cX6_jams 84 = .ok (.aload_n 1, 1) := by decide +kernel
theorem dX6_jams_85 : decode cX6_jams 85 = .ok (.iload_n 3, 1) := by decide +kernel
theorem dX6_jams_86 : decode cX6_jams 86 = .ok (.iaload, 1) := by decide +kernel
theorem dX6_jams_87 : decode cX6_jams 87 = .ok (.iconst (-1), 1) := by decide +kernel
theorem dX6_jams_88 : decode cX6_jams 88 = .ok (.if_icmp .eq 82, 3) := by decide +kernel
theorem dX6_jams_91 : decode cX6_jams 91 = .ok (.aload_n 0, 1) := by decide +kernel
theorem dX6_jams_92 : decode cX6_jams 92 = .ok (.aload_n 0, 1) := by decide +kernel
theorem dX6_jams_93 : decode cX6_jams 93 = .ok (.getfield 39, 3) := by decide +kernel
theorem dX6_jams_96 : decode cX6_jams 96 = .ok (.iload_n 3, 1) := by decide +kernel
theorem dX6_jams_97 : decode cX6_jams 97 = .ok (.bipush 8, 2) := by decide +kernel
theorem dX6_jams_99 : decode cX6_jams 99 = .ok (.imul, 1) := by decide +kernel
theorem dX6_jams_100 : decode cX6_jams 100 = .ok (.iconst 3, 1) := by decide +kernel
theorem dX6_jams_101 : decode cX6_jams 101 = .ok (.iadd, 1) := by decide +kernel
theorem dX6_jams_102 : decode cX6_jams 102 = .ok (.iaload, 1) := by decide +kernel
theorem dX6_jams_103 : decode cX6_jams 103 = .ok (.iload 4, 2) := by decide +kernel
theorem dX6_jams_105 : decode cX6_jams 105 = .ok (.invokevirtual 70, 3) := by decide +kernel
theorem dX6_jams_108 : decode cX6_jams 108 = .ok (.istore 5, 2) := by decide +kernel
theorem dX6_jams_110 : decode cX6_jams 110 = .ok (.iload 5, 2) := by decide +kernel
theorem dX6_jams_112 : decode cX6_jams 112 = .ok (.iconst (-1), 1) := by decide +kernel
theorem dX6_jams_113 : decode cX6_jams 113 = .ok (.if_icmp .ne 7, 3) := by decide +kernel
theorem dX6_jams_116 : decode cX6_jams 116 = .ok (.iconst (-1), 1) := by decide +kernel
theorem dX6_jams_117 : decode cX6_jams 117 = .ok (.goto 9, 3) := by decide +kernel
theorem dX6_jams_120 : decode cX6_jams 120 = .ok (.aload_n 0, 1) := by decide +kernel
theorem dX6_jams_121 : decode cX6_jams 121 = .ok (.iload 5, 2) := by decide +kernel
theorem dX6_jams_123 : decode cX6_jams 123 = .ok (.invokevirtual 88, 3) := by decide +kernel
theorem dX6_jams_126 : decode cX6_jams 126 = .ok (.istore 6, 2) := by decide +kernel
theorem dX6_jams_128 : decode cX6_jams 128 = .ok (.iload 6, 2) := by decide +kernel
theorem dX6_jams_130 : decode cX6_jams 130 = .ok (.iconst (-1), 1) := by decide +kernel
theorem dX6_jams_131 : decode cX6_jams 131 = .ok (.if_icmp .eq 33, 3) := by decide +kernel
theorem dX6_jams_134 : decode cX6_jams 134 = .ok (.aload_n 1, 1) := by decide +kernel
theorem dX6_jams_135 : decode cX6_jams 135 = .ok (.iload 6, 2) := by decide +kernel
theorem dX6_jams_137 : decode cX6_jams 137 = .ok (.iaload, 1) := by decide +kernel
theorem dX6_jams_138 : decode cX6_jams 138 = .ok (.iconst (-1), 1) := by decide +kernel
theorem dX6_jams_139 : decode cX6_jams 139 = .ok (.if_icmp .eq 25, 3) := by decide +kernel
theorem dX6_jams_142 : decode cX6_jams 142 = .ok (.aload_n 1, 1) := by decide +kernel
theorem dX6_jams_143 : decode cX6_jams 143 = .ok (.iload 6, 2) := by decide +kernel
theorem dX6_jams_145 : decode cX6_jams 145 = .ok (.iaload, 1) := by decide +kernel
theorem dX6_jams_146 : decode cX6_jams 146 = .ok (.aload_n 1, 1) := by decide +kernel
theorem dX6_jams_147 : decode cX6_jams 147 = .ok (.iload_n 3, 1) := by decide +kernel
theorem dX6_jams_148 : decode cX6_jams 148 = .ok (.iaload, 1) := by decide +kernel
theorem dX6_jams_149 : decode cX6_jams 149 = .ok (.if_icmp .lt 6, 3) := by decide +kernel
theorem dX6_jams_152 : decode cX6_jams 152 = .ok (.goto 12, 3) := by decide +kernel
theorem dX6_jams_155 : decode cX6_jams 155 = .ok (.aload_n 1, 1) := by decide +kernel
theorem dX6_jams_156 : decode cX6_jams 156 = .ok (.iload_n 3, 1) := by decide +kernel
theorem dX6_jams_157 : decode cX6_jams 157 = .ok (.aload_n 1, 1) := by decide +kernel
theorem dX6_jams_158 : decode cX6_jams 158 = .ok (.iload 6, 2) := by decide +kernel
theorem dX6_jams_160 : decode cX6_jams 160 = .ok (.iaload, 1) := by decide +kernel
theorem dX6_jams_161 : decode cX6_jams 161 = .ok (.iastore, 1) := by decide +kernel
theorem dX6_jams_162 : decode cX6_jams 162 = .ok (.iconst 1, 1) := by decide +kernel
theorem dX6_jams_163 : decode cX6_jams 163 = .ok (.istore_n 2, 1) := by decide +kernel
theorem dX6_jams_164 : decode cX6_jams 164 = .ok (.iinc 4 1, 3) := by decide +kernel
theorem dX6_jams_167 : decode cX6_jams 167 = .ok (.goto (-89), 3) := by decide +kernel
theorem dX6_jams_170 : decode cX6_jams 170 = .ok (.iinc 3 1, 3) := by decide +kernel
theorem dX6_jams_173 : decode cX6_jams 173 = .ok (.goto (-106), 3) := by decide +kernel
theorem dX6_jams_176 : decode cX6_jams 176 = .ok (.goto (-117), 3) := by decide +kernel
theorem dX6_jams_179 : decode cX6_jams 179 = .ok (.aload_n 1, 1) := by decide +kernel
theorem dX6_jams_180 : decode cX6_jams 180 = .ok (.areturn, 1) := by decide +kernel
theorem dX6_count_0 : decode cX6_count 0 = .ok (.iconst 0, 1) := by decide +kernel
theorem dX6_count_1 : decode cX6_count 1 = .ok (.istore_n 2, 1) := by decide +kernel
theorem dX6_count_2 : decode cX6_count 2 = .ok (.aload_n 0, 1) := by decide +kernel
theorem dX6_count_3 : decode cX6_count 3 = .ok (.astore_n 3, 1) := by decide +kernel
theorem dX6_count_4 : decode cX6_count 4 = .ok (.aload_n 3, 1) := by decide +kernel
theorem dX6_count_5 : decode cX6_count 5 = .ok (.arraylength, 1) := by decide +kernel
theorem dX6_count_6 : decode cX6_count 6 = .ok (.istore 4, 2) := by decide +kernel
theorem dX6_count_8 : decode cX6_count 8 = .ok (.iconst 0, 1) := by decide +kernel
theorem dX6_count_9 : decode cX6_count 9 = .ok (.istore 5, 2) := by decide +kernel
theorem dX6_count_11 : decode cX6_count 11 = .ok (.iload 5, 2) := by decide +kernel
theorem dX6_count_13 : decode cX6_count 13 = .ok (.iload 4, 2) := by decide +kernel
theorem dX6_count_15 : decode cX6_count 15 = .ok (.if_icmp .ge 29, 3) := by decide +kernel
theorem dX6_count_18 : decode cX6_count 18 = .ok (.aload_n 3, 1) := by decide +kernel
theorem dX6_count_19 : decode cX6_count 19 = .ok (.iload 5, 2) := by decide +kernel
theorem dX6_count_21 : decode cX6_count 21 = .ok (.iaload, 1) := by decide +kernel
theorem dX6_count_22 : decode cX6_count 22 = .ok (.istore 6, 2) := by decide +kernel
theorem dX6_count_24 : decode cX6_count 24 = .ok (.iload_n 2, 1) := by decide +kernel
theorem dX6_count_25 : decode cX6_count 25 = .ok (.iload 6, 2) := by decide +kernel
theorem dX6_count_27 : decode cX6_count 27 = .ok (.iload_n 1, 1) := by decide +kernel
theorem dX6_count_28 : decode cX6_count 28 = .ok (.if_icmp .ne 7, 3) := by decide +kernel
theorem dX6_count_31 : decode cX6_count 31 = .ok (.iconst 1, 1) := by decide +kernel
theorem dX6_count_32 : decode cX6_count 32 = .ok (.goto 4, 3) := by decide +kernel
theorem dX6_count_35 : decode cX6_count 35 = .ok (.iconst 0, 1) := by decide +kernel
theorem dX6_count_36 : decode cX6_count 36 = .ok (.iadd, 1) := by decide +kernel
theorem dX6_count_37 : decode cX6_count 37 = .ok (.istore_n 2, 1) := by decide +kernel
theorem dX6_count_38 : decode cX6_count 38 = .ok (.iinc 5 1, 3) := by decide +kernel
theorem dX6_count_41 : decode cX6_count 41 = .ok (.goto (-30), 3) := by decide +kernel
theorem dX6_count_44 : decode cX6_count 44 = .ok (.iload_n 2, 1) := by decide +kernel
theorem dX6_count_45 : decode cX6_count 45 = .ok (.ireturn, 1) := by decide +kernel
theorem dX6_manyNow_0 : decode cX6_manyNow 0 = .ok (.iconst 0, 1) := by decide +kernel
theorem dX6_manyNow_1 : decode cX6_manyNow 1 = .ok (.istore 4, 2) := by decide +kernel
theorem dX6_manyNow_3 : decode cX6_manyNow 3 = .ok (.iload_n 1, 1) := by decide +kernel
theorem dX6_manyNow_4 : decode cX6_manyNow 4 = .ok (.tableswitch 176 0 8 #[52, 176, 176, 57, 68, 108, 176, 142, 150], 52) := by decide +kernel
theorem dX6_manyNow_56 : decode cX6_manyNow 56 = .ok (.aload_n 0, 1) := by decide +kernel
theorem dX6_manyNow_57 : decode cX6_manyNow 57 = .ok (.getfield 36, 3) := by decide +kernel
theorem dX6_manyNow_60 : decode cX6_manyNow 60 = .ok (.ireturn, 1) := by decide +kernel
theorem dX6_manyNow_61 : decode cX6_manyNow 61 = .ok (.aload_n 0, 1) := by decide +kernel
theorem dX6_manyNow_62 : decode cX6_manyNow 62 = .ok (.getfield 36, 3) := by decide +kernel
theorem dX6_manyNow_65 : decode cX6_manyNow 65 = .ok (.aload_n 2, 1) := by decide +kernel
theorem dX6_manyNow_66 : decode cX6_manyNow 66 = .ok (.iconst (-1), 1) := by decide +kernel
theorem dX6_manyNow_67 : decode cX6_manyNow 67 = .ok (.invokestatic 132, 3) := by decide +kernel
theorem dX6_manyNow_70 : decode cX6_manyNow 70 = .ok (.isub, 1) := by decide +kernel
theorem dX6_manyNow_71 : decode cX6_manyNow 71 = .ok (.ireturn, 1) := by decide +kernel
theorem dX6_manyNow_72 : decode cX6_manyNow 72 = .ok (.iconst 0, 1) := by decide +kernel
theorem dX6_manyNow_73 : decode cX6_manyNow 73 = .ok (.istore 5, 2) := by decide +kernel
theorem dX6_manyNow_75 : decode cX6_manyNow 75 = .ok (.iload 5, 2) := by decide +kernel
theorem dX6_manyNow_77 : decode cX6_manyNow 77 = .ok (.aload_n 0, 1) := by decide +kernel
theorem dX6_manyNow_78 : decode cX6_manyNow 78 = .ok (.getfield 36, 3) := by decide +kernel
theorem dX6_manyNow_81 : decode cX6_manyNow 81 = .ok (.if_icmp .ge 28, 3) := by decide +kernel
theorem dX6_manyNow_84 : decode cX6_manyNow 84 = .ok (.iload 4, 2) := by decide +kernel
theorem dX6_manyNow_86 : decode cX6_manyNow 86 = .ok (.aload_n 2, 1) := by decide +kernel
theorem dX6_manyNow_87 : decode cX6_manyNow 87 = .ok (.iload 5, 2) := by decide +kernel
theorem dX6_manyNow_89 : decode cX6_manyNow 89 = .ok (.iaload, 1) := by decide +kernel
theorem dX6_manyNow_90 : decode cX6_manyNow 90 = .ok (.iload 5, 2) := by decide +kernel
theorem dX6_manyNow_92 : decode cX6_manyNow 92 = .ok (.if_icmp .ne 7, 3) := by decide +kernel
theorem dX6_manyNow_95 : decode cX6_manyNow 95 = .ok (.iconst 1, 1) := by decide +kernel
theorem dX6_manyNow_96 : decode cX6_manyNow 96 = .ok (.goto 4, 3) := by decide +kernel
theorem dX6_manyNow_99 : decode cX6_manyNow 99 = .ok (.iconst 0, 1) := by decide +kernel
theorem dX6_manyNow_100 : decode cX6_manyNow 100 = .ok (.iadd, 1) := by decide +kernel
theorem dX6_manyNow_101 : decode cX6_manyNow 101 = .ok (.istore 4, 2) := by decide +kernel
theorem dX6_manyNow_103 : decode cX6_manyNow 103 = .ok (.iinc 5 1, 3) := by decide +kernel
theorem dX6_manyNow_106 : decode cX6_manyNow 106 = .ok (.goto (-31), 3) := by decide +kernel
theorem dX6_manyNow_109 : decode cX6_manyNow 109 = .ok (.iload 4, 2) := by decide +kernel
theorem dX6_manyNow_111 : decode cX6_manyNow 111 = .ok (.ireturn, 1) := by decide +kernel
theorem dX6_manyNow_112 : decode cX6_manyNow 112 = .ok (.iconst 0, 1) := by decide +kernel
theorem dX6_manyNow_113 : decode cX6_manyNow 113 = .ok (.istore 5, 2) := by decide +kernel
theorem dX6_manyNow_115 : decode cX6_manyNow 115 = .ok (.iload 5, 2) := by decide +kernel
theorem dX6_manyNow_117 : decode cX6_manyNow 117 = .ok (.aload_n 0, 1) := by decide +kernel
theorem dX6_manyNow_118 : decode cX6_manyNow 118 = .ok (.getfield 36, 3) := by decide +kernel
theorem dX6_manyNow_121 : decode cX6_manyNow 121 = .ok (.if_icmp .ge 22, 3) := by decide +kernel
theorem dX6_manyNow_124 : decode cX6_manyNow 124 = .ok (.iload 4, 2) := by decide +kernel
theorem dX6_manyNow_126 : decode cX6_manyNow 126 = .ok (.aload_n 2, 1) := by decide +kernel
theorem dX6_manyNow_127 : decode cX6_manyNow 127 = .ok (.iload 5, 2) := by decide +kernel
theorem dX6_manyNow_129 : decode cX6_manyNow 129 = .ok (.invokestatic 132, 3) := by decide +kernel
theorem dX6_manyNow_132 : decode cX6_manyNow 132 = .ok (.invokestatic 85, 3) := by decide +kernel
theorem dX6_manyNow_135 : decode cX6_manyNow 135 = .ok (.istore 4, 2) := by decide +kernel
theorem dX6_manyNow_137 : decode cX6_manyNow 137 = .ok (.iinc 5 1, 3) := by decide +kernel
theorem dX6_manyNow_140 : decode cX6_manyNow 140 = .ok (.goto (-25), 3) := by decide +kernel
theorem dX6_manyNow_143 : decode cX6_manyNow 143 = .ok (.iload 4, 2) := by decide +kernel
theorem dX6_manyNow_145 : decode cX6_manyNow 145 = .ok (.ireturn, 1) := by decide +kernel
theorem dX6_manyNow_146 : decode cX6_manyNow 146 = .ok (.aload_n 0, 1) := by decide +kernel
theorem dX6_manyNow_147 : decode cX6_manyNow 147 = .ok (.getfield 43, 3) := by decide +kernel
theorem dX6_manyNow_150 : decode cX6_manyNow 150 = .ok (.invokestatic 100, 3) := by decide +kernel
theorem dX6_manyNow_153 : decode cX6_manyNow 153 = .ok (.ireturn, 1) := by decide +kernel
theorem dX6_manyNow_154 : decode cX6_manyNow 154 = .ok (.aload_n 0, 1) := by decide +kernel
theorem dX6_manyNow_155 : decode cX6_manyNow 155 = .ok (.getfield 43, 3) := by decide +kernel
theorem dX6_manyNow_158 : decode cX6_manyNow 158 = .ok (.iload 4, 2) := by decide +kernel
theorem dX6_manyNow_160 : decode cX6_manyNow 160 = .ok (.iaload, 1) := by decide +kernel
theorem dX6_manyNow_161 : decode cX6_manyNow 161 = .ok (.aload_n 0, 1) := by decide +kernel
theorem dX6_manyNow_162 : decode cX6_manyNow 162 = .ok (.getfield 43, 3) := by decide +kernel
theorem dX6_manyNow_165 : decode cX6_manyNow 165 = .ok (.invokestatic 100, 3) := by decide +kernel
theorem dX6_manyNow_168 : decode cX6_manyNow 168 = .ok (.if_icmp .ge 9, 3) := by decide +kernel
theorem dX6_manyNow_171 : decode cX6_manyNow 171 = .ok (.iinc 4 1, 3) := by decide +kernel
theorem dX6_manyNow_174 : decode cX6_manyNow 174 = .ok (.goto (-20), 3) := by decide +kernel
theorem dX6_manyNow_177 : decode cX6_manyNow 177 = .ok (.iload 4, 2) := by decide +kernel
theorem dX6_manyNow_179 : decode cX6_manyNow 179 = .ok (.ireturn, 1) := by decide +kernel
theorem dX6_manyNow_180 : decode cX6_manyNow 180 = .ok (.iconst 0, 1) := by decide +kernel
theorem dX6_manyNow_181 : decode cX6_manyNow 181 = .ok (.istore 5, 2) := by decide +kernel
theorem dX6_manyNow_183 : decode cX6_manyNow 183 = .ok (.iload 5, 2) := by decide +kernel
theorem dX6_manyNow_185 : decode cX6_manyNow 185 = .ok (.aload_n 0, 1) := by decide +kernel
theorem dX6_manyNow_186 : decode cX6_manyNow 186 = .ok (.getfield 36, 3) := by decide +kernel
theorem dX6_manyNow_189 : decode cX6_manyNow 189 = .ok (.if_icmp .ge 103, 3) := by decide +kernel
theorem dX6_manyNow_192 : decode cX6_manyNow 192 = .ok (.iload 4, 2) := by decide +kernel
theorem dX6_manyNow_194 : decode cX6_manyNow 194 = .ok (.iload_n 1, 1) := by decide +kernel
theorem dX6_manyNow_195 : decode cX6_manyNow 195 = .ok (.bipush 6, 2) := by decide +kernel
theorem dX6_manyNow_197 : decode cX6_manyNow 197 = .ok (.if_icmp .ne 19, 3) := by decide +kernel
theorem dX6_manyNow_200 : decode cX6_manyNow 200 = .ok (.aload_n 0, 1) := by decide +kernel
theorem dX6_manyNow_201 : decode cX6_manyNow 201 = .ok (.getfield 39, 3) := by decide +kernel
theorem dX6_manyNow_204 : decode cX6_manyNow 204 = .ok (.iload 5, 2) := by decide +kernel
theorem dX6_manyNow_206 : decode cX6_manyNow 206 = .ok (.bipush 8, 2) := by decide +kernel
theorem dX6_manyNow_208 : decode cX6_manyNow 208 = .ok (.imul, 1) := by decide +kernel
theorem dX6_manyNow_209 : decode cX6_manyNow 209 = .ok (.bipush 6, 2) := by decide +kernel
theorem dX6_manyNow_211 : decode cX6_manyNow 211 = .ok (.iadd, 1) := by decide +kernel
theorem dX6_manyNow_212 : decode cX6_manyNow 212 = .ok (.iaload, 1) := by decide +kernel
theorem dX6_manyNow_213 : decode cX6_manyNow 213 = .ok (.goto 70, 3) := by decide +kernel
theorem dX6_manyNow_216 : decode cX6_manyNow 216 = .ok (.iload_n 1, 1) := by decide +kernel
theorem dX6_manyNow_217 : decode cX6_manyNow 217 = .ok (.iconst 1, 1) := by decide +kernel
theorem dX6_manyNow_218 : decode cX6_manyNow 218 = .ok (.if_icmp .ne 20, 3) := by decide +kernel
theorem dX6_manyNow_221 : decode cX6_manyNow 221 = .ok (.aload_n 0, 1) := by decide +kernel
theorem dX6_manyNow_222 : decode cX6_manyNow 222 = .ok (.iload 5, 2) := by decide +kernel
theorem dX6_manyNow_224 : decode cX6_manyNow 224 = .ok (.invokevirtual 110, 3) := by decide +kernel
theorem dX6_manyNow_227 : decode cX6_manyNow 227 = .ok (.ifCond .eq 7, 3) := by decide +kernel
theorem dX6_manyNow_230 : decode cX6_manyNow 230 = .ok (.iconst 0, 1) := by decide +kernel
theorem dX6_manyNow_231 : decode cX6_manyNow 231 = .ok (.goto 52, 3) := by decide +kernel
theorem dX6_manyNow_234 : decode cX6_manyNow 234 = .ok (.iconst 1, 1) := by decide +kernel
theorem dX6_manyNow_235 : decode cX6_manyNow 235 = .ok (.goto 48, 3) := by decide +kernel
theorem dX6_manyNow_238 : decode cX6_manyNow 238 = .ok (.aload_n 0, 1) := by decide +kernel
theorem dX6_manyNow_239 : decode cX6_manyNow 239 = .ok (.iload 5, 2) := by decide +kernel
theorem dX6_manyNow_241 : decode cX6_manyNow 241 = .ok (.invokevirtual 110, 3) := by decide +kernel
theorem dX6_manyNow_244 : decode cX6_manyNow 244 = .ok (.ifCond .eq 38, 3) := by decide +kernel
theorem dX6_manyNow_247 : decode cX6_manyNow 247 = .ok (.aload_n 3, 1) := by decide +kernel
theorem dX6_manyNow_248 : decode cX6_manyNow 248 = .ok (.aload_n 0, 1) := by decide +kernel
theorem dX6_manyNow_249 : decode cX6_manyNow 249 = .ok (.getfield 39, 3) := by decide +kernel
theorem dX6_manyNow_252 : decode cX6_manyNow 252 = .ok (.iload 5, 2) := by decide +kernel
theorem dX6_manyNow_254 : decode cX6_manyNow 254 = .ok (.bipush 8, 2) := by decide +kernel
theorem dX6_manyNow_256 : decode cX6_manyNow 256 = .ok (.imul, 1) := by decide +kernel
theorem dX6_manyNow_257 : decode cX6_manyNow 257 = .ok (.iconst 0, 1) := by decide +kernel
theorem dX6_manyNow_258 : decode cX6_manyNow 258 = .ok (.iadd, 1) := by decide +kernel
theorem dX6_manyNow_259 : decode cX6_manyNow 259 = .ok (.iaload, 1) := by decide +kernel
theorem dX6_manyNow_260 : decode cX6_manyNow 260 = .ok (.aaload, 1) := by decide +kernel
theorem dX6_manyNow_261 : decode cX6_manyNow 261 = .ok (.aload_n 0, 1) := by decide +kernel
theorem dX6_manyNow_262 : decode cX6_manyNow 262 = .ok (.getfield 39, 3) := by decide +kernel
theorem dX6_manyNow_265 : decode cX6_manyNow 265 = .ok (.iload 5, 2) := by decide +kernel
theorem dX6_manyNow_267 : decode cX6_manyNow 267 = .ok (.bipush 8, 2) := by decide +kernel
theorem dX6_manyNow_269 : decode cX6_manyNow 269 = .ok (.imul, 1) := by decide +kernel
theorem dX6_manyNow_270 : decode cX6_manyNow 270 = .ok (.iconst 3, 1) := by decide +kernel
theorem dX6_manyNow_271 : decode cX6_manyNow 271 = .ok (.iadd, 1) := by decide +kernel
theorem dX6_manyNow_272 : decode cX6_manyNow 272 = .ok (.iaload, 1) := by decide +kernel
theorem dX6_manyNow_273 : decode cX6_manyNow 273 = .ok (.iaload, 1) := by decide +kernel
theorem dX6_manyNow_274 : decode cX6_manyNow 274 = .ok (.iconst (-1), 1) := by decide +kernel
theorem dX6_manyNow_275 : decode cX6_manyNow 275 = .ok (.if_icmp .ne 7, 3) := by decide +kernel
theorem dX6_manyNow_278 : decode cX6_manyNow 278 = .ok (.iconst 1, 1) := by decide +kernel
theorem dX6_manyNow_279 : decode cX6_manyNow 279 = .ok (.goto 4, 3) := by decide +kernel
theorem dX6_manyNow_282 : decode cX6_manyNow 282 = .ok (.iconst 0, 1) := by decide +kernel
theorem dX6_manyNow_283 : decode cX6_manyNow 283 = .ok (.iadd, 1) := by decide +kernel
theorem dX6_manyNow_284 : decode cX6_manyNow 284 = .ok (.istore 4, 2) := by decide +kernel
theorem dX6_manyNow_286 : decode cX6_manyNow 286 = .ok (.iinc 5 1, 3) := by decide +kernel
theorem dX6_manyNow_289 : decode cX6_manyNow 289 = .ok (.goto (-106), 3) := by decide +kernel
theorem dX6_manyNow_292 : decode cX6_manyNow 292 = .ok (.iload 4, 2) := by decide +kernel
theorem dX6_manyNow_294 : decode cX6_manyNow 294 = .ok (.ireturn, 1) := by decide +kernel
theorem dX6_many_0 : decode cX6_many 0 = .ok (.aload_n 0, 1) := by decide +kernel
theorem dX6_many_1 : decode cX6_many 1 = .ok (.iconst 0, 1) := by decide +kernel
theorem dX6_many_2 : decode cX6_many 2 = .ok (.putfield 46, 3) := by decide +kernel
theorem dX6_many_5 : decode cX6_many 5 = .ok (.iload_n 1, 1) := by decide +kernel
theorem dX6_many_6 : decode cX6_many 6 = .ok (.iconst 0, 1) := by decide +kernel
theorem dX6_many_7 : decode cX6_many 7 = .ok (.bipush 8, 2) := by decide +kernel
theorem dX6_many_9 : decode cX6_many 9 = .ok (.invokestatic 49, 3) := by decide +kernel
theorem dX6_many_12 : decode cX6_many 12 = .ok (.ifCond .eq 19, 3) := by decide +kernel
theorem dX6_many_15 : decode cX6_many 15 = .ok (.aload_n 0, 1) := by decide +kernel
theorem dX6_many_16 : decode cX6_many 16 = .ok (.iload_n 1, 1) := by decide +kernel
theorem dX6_many_17 : decode cX6_many 17 = .ok (.aload_n 0, 1) := by decide +kernel
theorem dX6_many_18 : decode cX6_many 18 = .ok (.invokevirtual 136, 3) := by decide +kernel
theorem dX6_many_21 : decode cX6_many 21 = .ok (.aload_n 0, 1) := by decide +kernel
theorem dX6_many_22 : decode cX6_many 22 = .ok (.invokevirtual 121, 3) := by decide +kernel
theorem dX6_many_25 : decode cX6_many 25 = .ok (.invokevirtual 140, 3) := by decide +kernel
theorem dX6_many_28 : decode cX6_many 28 = .ok (.goto 8, 3) := by decide +kernel
theorem dX6_many_31 : decode cX6_many 31 = .ok (.aload_n 0, 1) := by decide +kernel
theorem dX6_many_32 : decode cX6_many 32 = .ok (.iconst 1, 1) := by decide +kernel
theorem dX6_many_33 : decode cX6_many 33 = .ok (.invokevirtual 79, 3) := by decide +kernel
theorem dX6_many_36 : decode cX6_many 36 = .ok (.ireturn, 1) := by decide +kernel
theorem dX6_ofNow_0 : decode cX6_ofNow 0 = .ok (.iload_n 1, 1) := by decide +kernel
theorem dX6_ofNow_1 : decode cX6_ofNow 1 = .ok (.bipush 8, 2) := by decide +kernel
theorem dX6_ofNow_3 : decode cX6_ofNow 3 = .ok (.imul, 1) := by decide +kernel
theorem dX6_ofNow_4 : decode cX6_ofNow 4 = .ok (.istore 4, 2) := by decide +kernel
theorem dX6_ofNow_6 : decode cX6_ofNow 6 = .ok (.iload_n 2, 1) := by decide +kernel
theorem dX6_ofNow_7 : decode cX6_ofNow 7 = .ok (.lookupswitch 70 #[(7, 25), (8, 59)], 25) := by decide +kernel
theorem dX6_ofNow_32 : decode cX6_ofNow 32 = .ok (.aload_n 0, 1) := by decide +kernel
theorem dX6_ofNow_33 : decode cX6_ofNow 33 = .ok (.iload_n 1, 1) := by decide +kernel
theorem dX6_ofNow_34 : decode cX6_ofNow 34 = .ok (.invokevirtual 110, 3) := by decide +kernel
theorem dX6_ofNow_37 : decode cX6_ofNow 37 = .ok (.ifCond .eq 27, 3) := by decide +kernel
theorem dX6_ofNow_40 : decode cX6_ofNow 40 = .ok (.aload_n 3, 1) := by decide +kernel
theorem dX6_ofNow_41 : decode cX6_ofNow 41 = .ok (.aload_n 0, 1) := by decide +kernel
theorem dX6_ofNow_42 : decode cX6_ofNow 42 = .ok (.getfield 39, 3) := by decide +kernel
theorem dX6_ofNow_45 : decode cX6_ofNow 45 = .ok (.iload 4, 2) := by decide +kernel
theorem dX6_ofNow_47 : decode cX6_ofNow 47 = .ok (.iconst 0, 1) := by decide +kernel
theorem dX6_ofNow_48 : decode cX6_ofNow 48 = .ok (.iadd, 1) := by decide +kernel
theorem dX6_ofNow_49 : decode cX6_ofNow 49 = .ok (.iaload, 1) := by decide +kernel
theorem dX6_ofNow_50 : decode cX6_ofNow 50 = .ok (.aaload, 1) := by decide +kernel
theorem dX6_ofNow_51 : decode cX6_ofNow 51 = .ok (.aload_n 0, 1) := by decide +kernel
theorem dX6_ofNow_52 : decode cX6_ofNow 52 = .ok (.getfield 39, 3) := by decide +kernel
theorem dX6_ofNow_55 : decode cX6_ofNow 55 = .ok (.iload 4, 2) := by decide +kernel
theorem dX6_ofNow_57 : decode cX6_ofNow 57 = .ok (.iconst 3, 1) := by decide +kernel
theorem dX6_ofNow_58 : decode cX6_ofNow 58 = .ok (.iadd, 1) := by decide +kernel
theorem dX6_ofNow_59 : decode cX6_ofNow 59 = .ok (.iaload, 1) := by decide +kernel
theorem dX6_ofNow_60 : decode cX6_ofNow 60 = .ok (.iaload, 1) := by decide +kernel
theorem dX6_ofNow_61 : decode cX6_ofNow 61 = .ok (.goto 4, 3) := by decide +kernel
theorem dX6_ofNow_64 : decode cX6_ofNow 64 = .ok (.iconst 0, 1) := by decide +kernel
theorem dX6_ofNow_65 : decode cX6_ofNow 65 = .ok (.ireturn, 1) := by decide +kernel
theorem dX6_ofNow_66 : decode cX6_ofNow 66 = .ok (.aload_n 0, 1) := by decide +kernel
theorem dX6_ofNow_67 : decode cX6_ofNow 67 = .ok (.getfield 39, 3) := by decide +kernel
theorem dX6_ofNow_70 : decode cX6_ofNow 70 = .ok (.iload 4, 2) := by decide +kernel
theorem dX6_ofNow_72 : decode cX6_ofNow 72 = .ok (.bipush 7, 2) := by decide +kernel
theorem dX6_ofNow_74 : decode cX6_ofNow 74 = .ok (.iadd, 1) := by decide +kernel
theorem dX6_ofNow_75 : decode cX6_ofNow 75 = .ok (.iaload, 1) := by decide +kernel
theorem dX6_ofNow_76 : decode cX6_ofNow 76 = .ok (.ireturn, 1) := by decide +kernel
theorem dX6_ofNow_77 : decode cX6_ofNow 77 = .ok (.aload_n 0, 1) := by decide +kernel
theorem dX6_ofNow_78 : decode cX6_ofNow 78 = .ok (.getfield 39, 3) := by decide +kernel
theorem dX6_ofNow_81 : decode cX6_ofNow 81 = .ok (.iload 4, 2) := by decide +kernel
theorem dX6_ofNow_83 : decode cX6_ofNow 83 = .ok (.iload_n 2, 1) := by decide +kernel
theorem dX6_ofNow_84 : decode cX6_ofNow 84 = .ok (.iadd, 1) := by decide +kernel
theorem dX6_ofNow_85 : decode cX6_ofNow 85 = .ok (.iaload, 1) := by decide +kernel
theorem dX6_ofNow_86 : decode cX6_ofNow 86 = .ok (.ireturn, 1) := by decide +kernel
theorem dX6_ofWalker_0 : decode cX6_ofWalker 0 = .ok (.aload_n 0, 1) := by decide +kernel
theorem dX6_ofWalker_1 : decode cX6_ofWalker 1 = .ok (.iconst 0, 1) := by decide +kernel
theorem dX6_ofWalker_2 : decode cX6_ofWalker 2 = .ok (.putfield 46, 3) := by decide +kernel
theorem dX6_ofWalker_5 : decode cX6_ofWalker 5 = .ok (.aload_n 0, 1) := by decide +kernel
theorem dX6_ofWalker_6 : decode cX6_ofWalker 6 = .ok (.iload_n 1, 1) := by decide +kernel
theorem dX6_ofWalker_7 : decode cX6_ofWalker 7 = .ok (.invokevirtual 53, 3) := by decide +kernel
theorem dX6_ofWalker_10 : decode cX6_ofWalker 10 = .ok (.ifCond .ne 9, 3) := by decide +kernel
theorem dX6_ofWalker_13 : decode cX6_ofWalker 13 = .ok (.aload_n 0, 1) := by decide +kernel
theorem dX6_ofWalker_14 : decode cX6_ofWalker 14 = .ok (.iconst 1, 1) := by decide +kernel
theorem dX6_ofWalker_15 : decode cX6_ofWalker 15 = .ok (.invokevirtual 79, 3) := by decide +kernel
theorem dX6_ofWalker_18 : decode cX6_ofWalker 18 = .ok (.ireturn, 1) := by decide +kernel
theorem dX6_ofWalker_19 : decode cX6_ofWalker 19 = .ok (.iload_n 2, 1) := by decide +kernel
theorem dX6_ofWalker_20 : decode cX6_ofWalker 20 = .ok (.iconst 0, 1) := by decide +kernel
theorem dX6_ofWalker_21 : decode cX6_ofWalker 21 = .ok (.bipush 8, 2) := by decide +kernel
theorem dX6_ofWalker_23 : decode cX6_ofWalker 23 = .ok (.invokestatic 49, 3) := by decide +kernel
theorem dX6_ofWalker_26 : decode cX6_ofWalker 26 = .ok (.ifCond .eq 16, 3) := by decide +kernel
theorem dX6_ofWalker_29 : decode cX6_ofWalker 29 = .ok (.aload_n 0, 1) := by decide +kernel
theorem dX6_ofWalker_30 : decode cX6_ofWalker 30 = .ok (.iload_n 1, 1) := by decide +kernel
theorem dX6_ofWalker_31 : decode cX6_ofWalker 31 = .ok (.iload_n 2, 1) := by decide +kernel
theorem dX6_ofWalker_32 : decode cX6_ofWalker 32 = .ok (.aload_n 0, 1) := by decide +kernel
theorem dX6_ofWalker_33 : decode cX6_ofWalker 33 = .ok (.invokevirtual 121, 3) := by decide +kernel
theorem dX6_ofWalker_36 : decode cX6_ofWalker 36 = .ok (.invokevirtual 144, 3) := by decide +kernel
theorem dX6_ofWalker_39 : decode cX6_ofWalker 39 = .ok (.goto 8, 3) := by decide +kernel
theorem dX6_ofWalker_42 : decode cX6_ofWalker 42 = .ok (.aload_n 0, 1) := by decide +kernel
theorem dX6_ofWalker_43 : decode cX6_ofWalker 43 = .ok (.iconst 2, 1) := by decide +kernel
theorem dX6_ofWalker_44 : decode cX6_ofWalker 44 = .ok (.invokevirtual 79, 3) := by decide +kernel
theorem dX6_ofWalker_47 : decode cX6_ofWalker 47 = .ok (.ireturn, 1) := by decide +kernel
theorem dX6_farOf_0 : decode cX6_farOf 0 = .ok (.aload_n 0, 1) := by decide +kernel
theorem dX6_farOf_1 : decode cX6_farOf 1 = .ok (.aload_n 0, 1) := by decide +kernel
theorem dX6_farOf_2 : decode cX6_farOf 2 = .ok (.getfield 39, 3) := by decide +kernel
theorem dX6_farOf_5 : decode cX6_farOf 5 = .ok (.iload_n 1, 1) := by decide +kernel
theorem dX6_farOf_6 : decode cX6_farOf 6 = .ok (.bipush 8, 2) := by decide +kernel
theorem dX6_farOf_8 : decode cX6_farOf 8 = .ok (.imul, 1) := by decide +kernel
theorem dX6_farOf_9 : decode cX6_farOf 9 = .ok (.iconst 0, 1) := by decide +kernel
theorem dX6_farOf_10 : decode cX6_farOf 10 = .ok (.iadd, 1) := by decide +kernel
theorem dX6_farOf_11 : decode cX6_farOf 11 = .ok (.iaload, 1) := by decide +kernel
theorem dX6_farOf_12 : decode cX6_farOf 12 = .ok (.invokevirtual 75, 3) := by decide +kernel
theorem dX6_farOf_15 : decode cX6_farOf 15 = .ok (.areturn, 1) := by decide +kernel
theorem dX6_cost_0 : decode cX6_cost 0 = .ok (.aload_n 0, 1) := by decide +kernel
theorem dX6_cost_1 : decode cX6_cost 1 = .ok (.iconst 0, 1) := by decide +kernel
theorem dX6_cost_2 : decode cX6_cost 2 = .ok (.putfield 46, 3) := by decide +kernel
theorem dX6_cost_5 : decode cX6_cost 5 = .ok (.aload_n 0, 1) := by decide +kernel
theorem dX6_cost_6 : decode cX6_cost 6 = .ok (.iload_n 1, 1) := by decide +kernel
theorem dX6_cost_7 : decode cX6_cost 7 = .ok (.invokevirtual 110, 3) := by decide +kernel
theorem dX6_cost_10 : decode cX6_cost 10 = .ok (.ifCond .ne 9, 3) := by decide +kernel
theorem dX6_cost_13 : decode cX6_cost 13 = .ok (.aload_n 0, 1) := by decide +kernel
theorem dX6_cost_14 : decode cX6_cost 14 = .ok (.iconst 1, 1) := by decide +kernel
theorem dX6_cost_15 : decode cX6_cost 15 = .ok (.invokevirtual 79, 3) := by decide +kernel
theorem dX6_cost_18 : decode cX6_cost 18 = .ok (.ireturn, 1) := by decide +kernel
theorem dX6_cost_19 : decode cX6_cost 19 = .ok (.iload_n 2, 1) := by decide +kernel
theorem dX6_cost_20 : decode cX6_cost 20 = .ok (.iconst 0, 1) := by decide +kernel
theorem dX6_cost_21 : decode cX6_cost 21 = .ok (.iconst 4, 1) := by decide +kernel
theorem dX6_cost_22 : decode cX6_cost 22 = .ok (.invokestatic 49, 3) := by decide +kernel
theorem dX6_cost_25 : decode cX6_cost 25 = .ok (.ifCond .eq 17, 3) := by decide +kernel
theorem dX6_cost_28 : decode cX6_cost 28 = .ok (.aload_n 0, 1) := by decide +kernel
theorem dX6_cost_29 : decode cX6_cost 29 = .ok (.iload_n 1, 1) := by decide +kernel
theorem dX6_cost_30 : decode cX6_cost 30 = .ok (.iload_n 2, 1) := by decide +kernel
theorem dX6_cost_31 : decode cX6_cost 31 = .ok (.aload_n 0, 1) := by decide +kernel
theorem dX6_cost_32 : decode cX6_cost 32 = .ok (.iload_n 1, 1) := by decide +kernel
theorem dX6_cost_33 : decode cX6_cost 33 = .ok (.invokevirtual 148, 3) := by decide +kernel
theorem dX6_cost_36 : decode cX6_cost 36 = .ok (.invokevirtual 113, 3) := by decide +kernel
theorem dX6_cost_39 : decode cX6_cost 39 = .ok (.goto 8, 3) := by decide +kernel
theorem dX6_cost_42 : decode cX6_cost 42 = .ok (.aload_n 0, 1) := by decide +kernel
theorem dX6_cost_43 : decode cX6_cost 43 = .ok (.iconst 2, 1) := by decide +kernel
theorem dX6_cost_44 : decode cX6_cost 44 = .ok (.invokevirtual 79, 3) := by decide +kernel
theorem dX6_cost_47 : decode cX6_cost 47 = .ok (.ireturn, 1) := by decide +kernel
theorem dX6_wants_0 : decode cX6_wants 0 = .ok (.aload_n 0, 1) := by decide +kernel
theorem dX6_wants_1 : decode cX6_wants 1 = .ok (.iconst 0, 1) := by decide +kernel
theorem dX6_wants_2 : decode cX6_wants 2 = .ok (.putfield 46, 3) := by decide +kernel
theorem dX6_wants_5 : decode cX6_wants 5 = .ok (.aload_n 0, 1) := by decide +kernel
theorem dX6_wants_6 : decode cX6_wants 6 = .ok (.iload_n 1, 1) := by decide +kernel
theorem dX6_wants_7 : decode cX6_wants 7 = .ok (.invokevirtual 110, 3) := by decide +kernel
theorem dX6_wants_10 : decode cX6_wants 10 = .ok (.ifCond .eq 16, 3) := by decide +kernel
theorem dX6_wants_13 : decode cX6_wants 13 = .ok (.aload_n 0, 1) := by decide +kernel
theorem dX6_wants_14 : decode cX6_wants 14 = .ok (.iload_n 1, 1) := by decide +kernel
theorem dX6_wants_15 : decode cX6_wants 15 = .ok (.aload_n 0, 1) := by decide +kernel
theorem dX6_wants_16 : decode cX6_wants 16 = .ok (.iload_n 1, 1) := by decide +kernel
theorem dX6_wants_17 : decode cX6_wants 17 = .ok (.invokevirtual 148, 3) := by decide +kernel
theorem dX6_wants_20 : decode cX6_wants 20 = .ok (.invokevirtual 117, 3) := by decide +kernel
theorem dX6_wants_23 : decode cX6_wants 23 = .ok (.goto 8, 3) := by decide +kernel
theorem dX6_wants_26 : decode cX6_wants 26 = .ok (.aload_n 0, 1) := by decide +kernel
theorem dX6_wants_27 : decode cX6_wants 27 = .ok (.iconst 1, 1) := by decide +kernel
theorem dX6_wants_28 : decode cX6_wants 28 = .ok (.invokevirtual 79, 3) := by decide +kernel
theorem dX6_wants_31 : decode cX6_wants 31 = .ok (.ireturn, 1) := by decide +kernel
theorem dX6_way_0 : decode cX6_way 0 = .ok (.aload_n 0, 1) := by decide +kernel
theorem dX6_way_1 : decode cX6_way 1 = .ok (.iconst 0, 1) := by decide +kernel
theorem dX6_way_2 : decode cX6_way 2 = .ok (.putfield 46, 3) := by decide +kernel
theorem dX6_way_5 : decode cX6_way 5 = .ok (.aload_n 0, 1) := by decide +kernel
theorem dX6_way_6 : decode cX6_way 6 = .ok (.iload_n 1, 1) := by decide +kernel
theorem dX6_way_7 : decode cX6_way 7 = .ok (.invokevirtual 110, 3) := by decide +kernel
theorem dX6_way_10 : decode cX6_way 10 = .ok (.ifCond .ne 9, 3) := by decide +kernel
theorem dX6_way_13 : decode cX6_way 13 = .ok (.aload_n 0, 1) := by decide +kernel
theorem dX6_way_14 : decode cX6_way 14 = .ok (.iconst 1, 1) := by decide +kernel
theorem dX6_way_15 : decode cX6_way 15 = .ok (.invokevirtual 79, 3) := by decide +kernel
theorem dX6_way_18 : decode cX6_way 18 = .ok (.ireturn, 1) := by decide +kernel
theorem dX6_way_19 : decode cX6_way 19 = .ok (.iload_n 2, 1) := by decide +kernel
theorem dX6_way_20 : decode cX6_way 20 = .ok (.ifCond .ge 9, 3) := by decide +kernel
theorem dX6_way_23 : decode cX6_way 23 = .ok (.aload_n 0, 1) := by decide +kernel
theorem dX6_way_24 : decode cX6_way 24 = .ok (.iconst 2, 1) := by decide +kernel
theorem dX6_way_25 : decode cX6_way 25 = .ok (.invokevirtual 79, 3) := by decide +kernel
theorem dX6_way_28 : decode cX6_way 28 = .ok (.ireturn, 1) := by decide +kernel
theorem dX6_way_29 : decode cX6_way 29 = .ok (.aload_n 0, 1) := by decide +kernel
theorem dX6_way_30 : decode cX6_way 30 = .ok (.iload_n 1, 1) := by decide +kernel
theorem dX6_way_31 : decode cX6_way 31 = .ok (.invokevirtual 148, 3) := by decide +kernel
theorem dX6_way_34 : decode cX6_way 34 = .ok (.astore_n 3, 1) := by decide +kernel
theorem dX6_way_35 : decode cX6_way 35 = .ok (.aload_n 0, 1) := by decide +kernel
theorem dX6_way_36 : decode cX6_way 36 = .ok (.getfield 39, 3) := by decide +kernel
theorem dX6_way_39 : decode cX6_way 39 = .ok (.iload_n 1, 1) := by decide +kernel
theorem dX6_way_40 : decode cX6_way 40 = .ok (.bipush 8, 2) := by decide +kernel
theorem dX6_way_42 : decode cX6_way 42 = .ok (.imul, 1) := by decide +kernel
theorem dX6_way_43 : decode cX6_way 43 = .ok (.iconst 3, 1) := by decide +kernel
theorem dX6_way_44 : decode cX6_way 44 = .ok (.iadd, 1) := by decide +kernel
theorem dX6_way_45 : decode cX6_way 45 = .ok (.iaload, 1) := by decide +kernel
theorem dX6_way_46 : decode cX6_way 46 = .ok (.istore 4, 2) := by decide +kernel
theorem dX6_way_48 : decode cX6_way 48 = .ok (.aload_n 3, 1) := by decide +kernel
theorem dX6_way_49 : decode cX6_way 49 = .ok (.iload 4, 2) := by decide +kernel
theorem dX6_way_51 : decode cX6_way 51 = .ok (.iaload, 1) := by decide +kernel
theorem dX6_way_52 : decode cX6_way 52 = .ok (.iconst (-1), 1) := by decide +kernel
theorem dX6_way_53 : decode cX6_way 53 = .ok (.if_icmp .eq 11, 3) := by decide +kernel
theorem dX6_way_56 : decode cX6_way 56 = .ok (.iload_n 2, 1) := by decide +kernel
theorem dX6_way_57 : decode cX6_way 57 = .ok (.aload_n 3, 1) := by decide +kernel
theorem dX6_way_58 : decode cX6_way 58 = .ok (.iload 4, 2) := by decide +kernel
theorem dX6_way_60 : decode cX6_way 60 = .ok (.iaload, 1) := by decide +kernel
theorem dX6_way_61 : decode cX6_way 61 = .ok (.if_icmp .le 5, 3) := by decide +kernel
theorem dX6_way_64 : decode cX6_way 64 = .ok (.iconst (-1), 1) := by decide +kernel
theorem dX6_way_65 : decode cX6_way 65 = .ok (.ireturn, 1) := by decide +kernel
theorem dX6_way_66 : decode cX6_way 66 = .ok (.iconst 0, 1) := by decide +kernel
theorem dX6_way_67 : decode cX6_way 67 = .ok (.istore 5, 2) := by decide +kernel
theorem dX6_way_69 : decode cX6_way 69 = .ok (.iload 5, 2) := by decide +kernel
theorem dX6_way_71 : decode cX6_way 71 = .ok (.iload_n 2, 1) := by decide +kernel
theorem dX6_way_72 : decode cX6_way 72 = .ok (.if_icmp .ge 59, 3) := by decide +kernel
theorem dX6_way_75 : decode cX6_way 75 = .ok (.iconst 0, 1) := by decide +kernel
theorem dX6_way_76 : decode cX6_way 76 = .ok (.istore 6, 2) := by decide +kernel
theorem dX6_way_78 : decode cX6_way 78 = .ok (.aload_n 0, 1) := by decide +kernel
theorem dX6_way_79 : decode cX6_way 79 = .ok (.iload 4, 2) := by decide +kernel
theorem dX6_way_81 : decode cX6_way 81 = .ok (.iload 6, 2) := by decide +kernel
theorem dX6_way_83 : decode cX6_way 83 = .ok (.invokevirtual 70, 3) := by decide +kernel
theorem dX6_way_86 : decode cX6_way 86 = .ok (.iconst (-1), 1) := by decide +kernel
theorem dX6_way_87 : decode cX6_way 87 = .ok (.if_icmp .eq 22, 3) := by decide +kernel
theorem dX6_way_90 : decode cX6_way 90 = .ok (.aload_n 3, 1) := by decide +kernel
theorem dX6_way_91 : decode cX6_way 91 = .ok (.aload_n 0, 1) := by decide +kernel
theorem dX6_way_92 : decode cX6_way 92 = .ok (.iload 4, 2) := by decide +kernel
theorem dX6_way_94 : decode cX6_way 94 = .ok (.iload 6, 2) := by decide +kernel
theorem dX6_way_96 : decode cX6_way 96 = .ok (.invokevirtual 70, 3) := by decide +kernel
theorem dX6_way_99 : decode cX6_way 99 = .ok (.iaload, 1) := by decide +kernel
theorem dX6_way_100 : decode cX6_way 100 = .ok (.aload_n 3, 1) := by decide +kernel
theorem dX6_way_101 : decode cX6_way 101 = .ok (.iload 4, 2) := by decide +kernel
theorem dX6_way_103 : decode cX6_way 103 = .ok (.iaload, 1) := by decide +kernel
theorem dX6_way_104 : decode cX6_way 104 = .ok (.iconst 1, 1) := by decide +kernel
theorem dX6_way_105 : decode cX6_way 105 = .ok (.isub, 1) := by decide +kernel
theorem dX6_way_106 : decode cX6_way 106 = .ok (.if_icmp .eq 9, 3) := by decide +kernel
theorem dX6_way_109 : decode cX6_way 109 = .ok (.iinc 6 1, 3) := by decide +kernel
theorem dX6_way_112 : decode cX6_way 112 = .ok (.goto (-34), 3) := by decide +kernel
theorem dX6_way_115 : decode cX6_way 115 = .ok (.aload_n 0, 1) := by decide +kernel
theorem dX6_way_116 : decode cX6_way 116 = .ok (.iload 4, 2) := by decide +kernel
theorem dX6_way_118 : decode cX6_way 118 = .ok (.iload 6, 2) := by decide +kernel
theorem dX6_way_120 : decode cX6_way 120 = .ok (.invokevirtual 70, 3) := by decide +kernel
theorem dX6_way_123 : decode cX6_way 123 = .ok (.istore 4, 2) := by decide +kernel
theorem dX6_way_125 : decode cX6_way 125 = .ok (.iinc 5 1, 3) := by decide +kernel
theorem dX6_way_128 : decode cX6_way 128 = .ok (.goto (-59), 3) := by decide +kernel
theorem dX6_way_131 : decode cX6_way 131 = .ok (.iload 4, 2) := by decide +kernel
theorem dX6_way_133 : decode cX6_way 133 = .ok (.ireturn, 1) := by decide +kernel
theorem dX6_jamNow_0 : decode cX6_jamNow 0 = .ok (.aload_n 2, 1) := by decide +kernel
theorem dX6_jamNow_1 : decode cX6_jamNow 1 = .ok (.iload_n 1, 1) := by decide +kernel
theorem dX6_jamNow_2 : decode cX6_jamNow 2 = .ok (.iaload, 1) := by decide +kernel
theorem dX6_jamNow_3 : decode cX6_jamNow 3 = .ok (.iconst (-1), 1) := by decide +kernel
theorem dX6_jamNow_4 : decode cX6_jamNow 4 = .ok (.if_icmp .ne 7, 3) := by decide +kernel
theorem dX6_jamNow_7 : decode cX6_jamNow 7 = .ok (.iconst 0, 1) := by decide +kernel
theorem dX6_jamNow_8 : decode cX6_jamNow 8 = .ok (.goto 10, 3) := by decide +kernel
theorem dX6_jamNow_11 : decode cX6_jamNow 11 = .ok (.aload_n 2, 1) := by decide +kernel
theorem dX6_jamNow_12 : decode cX6_jamNow 12 = .ok (.aload_n 2, 1) := by decide +kernel
theorem dX6_jamNow_13 : decode cX6_jamNow 13 = .ok (.iload_n 1, 1) := by decide +kernel
theorem dX6_jamNow_14 : decode cX6_jamNow 14 = .ok (.iaload, 1) := by decide +kernel
theorem dX6_jamNow_15 : decode cX6_jamNow 15 = .ok (.invokestatic 132, 3) := by decide +kernel
theorem dX6_jamNow_18 : decode cX6_jamNow 18 = .ok (.ireturn, 1) := by decide +kernel
theorem dX6_jam_0 : decode cX6_jam 0 = .ok (.aload_n 0, 1) := by decide +kernel
theorem dX6_jam_1 : decode cX6_jam 1 = .ok (.iconst 0, 1) := by decide +kernel
theorem dX6_jam_2 : decode cX6_jam 2 = .ok (.putfield 46, 3) := by decide +kernel
theorem dX6_jam_5 : decode cX6_jam 5 = .ok (.aload_n 0, 1) := by decide +kernel
theorem dX6_jam_6 : decode cX6_jam 6 = .ok (.iload_n 1, 1) := by decide +kernel
theorem dX6_jam_7 : decode cX6_jam 7 = .ok (.invokevirtual 53, 3) := by decide +kernel
theorem dX6_jam_10 : decode cX6_jam 10 = .ok (.ifCond .eq 15, 3) := by decide +kernel
theorem dX6_jam_13 : decode cX6_jam 13 = .ok (.aload_n 0, 1) := by decide +kernel
theorem dX6_jam_14 : decode cX6_jam 14 = .ok (.iload_n 1, 1) := by decide +kernel
theorem dX6_jam_15 : decode cX6_jam 15 = .ok (.aload_n 0, 1) := by decide +kernel
theorem dX6_jam_16 : decode cX6_jam 16 = .ok (.invokevirtual 136, 3) := by decide +kernel
theorem dX6_jam_19 : decode cX6_jam 19 = .ok (.invokevirtual 151, 3) := by decide +kernel
theorem dX6_jam_22 : decode cX6_jam 22 = .ok (.goto 8, 3) := by decide +kernel
theorem dX6_jam_25 : decode cX6_jam 25 = .ok (.aload_n 0, 1) := by decide +kernel
theorem dX6_jam_26 : decode cX6_jam 26 = .ok (.iconst 1, 1) := by decide +kernel
theorem dX6_jam_27 : decode cX6_jam 27 = .ok (.invokevirtual 79, 3) := by decide +kernel
theorem dX6_jam_30 : decode cX6_jam 30 = .ok (.ireturn, 1) := by decide +kernel
theorem dX6_meanSteps_0 : decode cX6_meanSteps 0 = .ok (.aload_n 0, 1) := by decide +kernel
theorem dX6_meanSteps_1 : decode cX6_meanSteps 1 = .ok (.iconst 0, 1) := by decide +kernel
theorem dX6_meanSteps_2 : decode cX6_meanSteps 2 = .ok (.putfield 46, 3) := by decide +kernel
theorem dX6_meanSteps_5 : decode cX6_meanSteps 5 = .ok (.iconst 0, 1) := by decide +kernel
theorem dX6_meanSteps_6 : decode cX6_meanSteps 6 = .ok (.istore_n 1, 1) := by decide +kernel
theorem dX6_meanSteps_7 : decode cX6_meanSteps 7 = .ok (.iconst 0, 1) := by decide +kernel
theorem dX6_meanSteps_8 : decode cX6_meanSteps 8 = .ok (.istore_n 2, 1) := by decide +kernel
theorem dX6_meanSteps_9 : decode cX6_meanSteps 9 = .ok (.iconst 0, 1) := by decide +kernel
theorem dX6_meanSteps_10 : decode cX6_meanSteps 10 = .ok (.istore_n 3, 1) := by decide +kernel
theorem dX6_meanSteps_11 : decode cX6_meanSteps 11 = .ok (.iload_n 3, 1) := by decide +kernel
theorem dX6_meanSteps_12 : decode cX6_meanSteps 12 = .ok (.aload_n 0, 1) := by decide +kernel
theorem dX6_meanSteps_13 : decode cX6_meanSteps 13 = .ok (.getfield 36, 3) := by decide +kernel
theorem dX6_meanSteps_16 : decode cX6_meanSteps 16 = .ok (.if_icmp .ge 52, 3) := by decide +kernel
theorem dX6_meanSteps_19 : decode cX6_meanSteps 19 = .ok (.iload_n 1, 1) := by decide +kernel
theorem dX6_meanSteps_20 : decode cX6_meanSteps 20 = .ok (.aload_n 0, 1) := by decide +kernel
theorem dX6_meanSteps_21 : decode cX6_meanSteps 21 = .ok (.iload_n 3, 1) := by decide +kernel
theorem dX6_meanSteps_22 : decode cX6_meanSteps 22 = .ok (.invokevirtual 110, 3) := by decide +kernel
theorem dX6_meanSteps_25 : decode cX6_meanSteps 25 = .ok (.ifCond .eq 7, 3) := by decide +kernel
theorem dX6_meanSteps_28 : decode cX6_meanSteps 28 = .ok (.iconst 0, 1) := by decide +kernel
theorem dX6_meanSteps_29 : decode cX6_meanSteps 29 = .ok (.goto 4, 3) := by decide +kernel
theorem dX6_meanSteps_32 : decode cX6_meanSteps 32 = .ok (.iconst 1, 1) := by decide +kernel
theorem dX6_meanSteps_33 : decode cX6_meanSteps 33 = .ok (.iadd, 1) := by decide +kernel
theorem dX6_meanSteps_34 : decode cX6_meanSteps 34 = .ok (.istore_n 1, 1) := by decide +kernel
theorem dX6_meanSteps_35 : decode cX6_meanSteps 35 = .ok (.iload_n 2, 1) := by decide +kernel
theorem dX6_meanSteps_36 : decode cX6_meanSteps 36 = .ok (.aload_n 0, 1) := by decide +kernel
theorem dX6_meanSteps_37 : decode cX6_meanSteps 37 = .ok (.iload_n 3, 1) := by decide +kernel
theorem dX6_meanSteps_38 : decode cX6_meanSteps 38 = .ok (.invokevirtual 110, 3) := by decide +kernel
theorem dX6_meanSteps_41 : decode cX6_meanSteps 41 = .ok (.ifCond .eq 7, 3) := by decide +kernel
theorem dX6_meanSteps_44 : decode cX6_meanSteps 44 = .ok (.iconst 0, 1) := by decide +kernel
theorem dX6_meanSteps_45 : decode cX6_meanSteps 45 = .ok (.goto 15, 3) := by decide +kernel
theorem dX6_meanSteps_48 : decode cX6_meanSteps 48 = .ok (.aload_n 0, 1) := by decide +kernel
theorem dX6_meanSteps_49 : decode cX6_meanSteps 49 = .ok (.getfield 39, 3) := by decide +kernel
theorem dX6_meanSteps_52 : decode cX6_meanSteps 52 = .ok (.iload_n 3, 1) := by decide +kernel
theorem dX6_meanSteps_53 : decode cX6_meanSteps 53 = .ok (.bipush 8, 2) := by decide +kernel
theorem dX6_meanSteps_55 : decode cX6_meanSteps 55 = .ok (.imul, 1) := by decide +kernel
theorem dX6_meanSteps_56 : decode cX6_meanSteps 56 = .ok (.bipush 6, 2) := by decide +kernel
theorem dX6_meanSteps_58 : decode cX6_meanSteps 58 = .ok (.iadd, 1) := by decide +kernel
theorem dX6_meanSteps_59 : decode cX6_meanSteps 59 = .ok (.iaload, 1) := by decide +kernel
theorem dX6_meanSteps_60 : decode cX6_meanSteps 60 = .ok (.iadd, 1) := by decide +kernel
theorem dX6_meanSteps_61 : decode cX6_meanSteps 61 = .ok (.istore_n 2, 1) := by decide +kernel
theorem dX6_meanSteps_62 : decode cX6_meanSteps 62 = .ok (.iinc 3 1, 3) := by decide +kernel
theorem dX6_meanSteps_65 : decode cX6_meanSteps 65 = .ok (.goto (-54), 3) := by decide +kernel
theorem dX6_meanSteps_68 : decode cX6_meanSteps 68 = .ok (.iload_n 1, 1) := by decide +kernel
theorem dX6_meanSteps_69 : decode cX6_meanSteps 69 = .ok (.ifCond .ne 7, 3) := by decide +kernel
theorem dX6_meanSteps_72 : decode cX6_meanSteps 72 = .ok (.dconst 0, 1) := by decide +kernel
theorem dX6_meanSteps_73 : decode cX6_meanSteps 73 = .ok (.goto 8, 3) := by decide +kernel
theorem dX6_meanSteps_76 : decode cX6_meanSteps 76 = .ok (.iload_n 2, 1) := by decide +kernel
theorem dX6_meanSteps_77 : decode cX6_meanSteps 77 = .ok (.i2d, 1) := by decide +kernel
theorem dX6_meanSteps_78 : decode cX6_meanSteps 78 = .ok (.iload_n 1, 1) := by decide +kernel
theorem dX6_meanSteps_79 : decode cX6_meanSteps 79 = .ok (.i2d, 1) := by decide +kernel
theorem dX6_meanSteps_80 : decode cX6_meanSteps 80 = .ok (.ddiv, 1) := by decide +kernel
theorem dX6_meanSteps_81 : decode cX6_meanSteps 81 = .ok (.dreturn, 1) := by decide +kernel
theorem dX6_putBy_0 : decode cX6_putBy 0 = .ok (.iconst 3, 1) := by decide +kernel
theorem dX6_putBy_1 : decode cX6_putBy 1 = .ok (.anewarray 74, 3) := by decide +kernel
theorem dX6_putBy_4 : decode cX6_putBy 4 = .ok (.dup, 1) := by decide +kernel
theorem dX6_putBy_5 : decode cX6_putBy 5 = .ok (.iconst 0, 1) := by decide +kernel
theorem dX6_putBy_6 : decode cX6_putBy 6 = .ok (.aload_n 0, 1) := by decide +kernel
theorem dX6_putBy_7 : decode cX6_putBy 7 = .ok (.getfield 39, 3) := by decide +kernel
theorem dX6_putBy_10 : decode cX6_putBy 10 = .ok (.aastore, 1) := by decide +kernel
theorem dX6_putBy_11 : decode cX6_putBy 11 = .ok (.dup, 1) := by decide +kernel
theorem dX6_putBy_12 : decode cX6_putBy 12 = .ok (.iconst 1, 1) := by decide +kernel
theorem dX6_putBy_13 : decode cX6_putBy 13 = .ok (.aload_n 0, 1) := by decide +kernel
theorem dX6_putBy_14 : decode cX6_putBy 14 = .ok (.getfield 43, 3) := by decide +kernel
theorem dX6_putBy_17 : decode cX6_putBy 17 = .ok (.aastore, 1) := by decide +kernel
theorem dX6_putBy_18 : decode cX6_putBy 18 = .ok (.dup, 1) := by decide +kernel
theorem dX6_putBy_19 : decode cX6_putBy 19 = .ok (.iconst 2, 1) := by decide +kernel
theorem dX6_putBy_20 : decode cX6_putBy 20 = .ok (.iconst 2, 1) := by decide +kernel
theorem dX6_putBy_21 : decode cX6_putBy 21 = .ok (.newarray .int, 2) := by decide +kernel
theorem dX6_putBy_23 : decode cX6_putBy 23 = .ok (.dup, 1) := by decide +kernel
theorem dX6_putBy_24 : decode cX6_putBy 24 = .ok (.iconst 0, 1) := by decide +kernel
theorem dX6_putBy_25 : decode cX6_putBy 25 = .ok (.aload_n 0, 1) := by decide +kernel
theorem dX6_putBy_26 : decode cX6_putBy 26 = .ok (.getfield 26, 3) := by decide +kernel
theorem dX6_putBy_29 : decode cX6_putBy 29 = .ok (.iastore, 1) := by decide +kernel
theorem dX6_putBy_30 : decode cX6_putBy 30 = .ok (.dup, 1) := by decide +kernel
theorem dX6_putBy_31 : decode cX6_putBy 31 = .ok (.iconst 1, 1) := by decide +kernel
theorem dX6_putBy_32 : decode cX6_putBy 32 = .ok (.aload_n 0, 1) := by decide +kernel
theorem dX6_putBy_33 : decode cX6_putBy 33 = .ok (.getfield 7, 3) := by decide +kernel
theorem dX6_putBy_36 : decode cX6_putBy 36 = .ok (.iastore, 1) := by decide +kernel
theorem dX6_putBy_37 : decode cX6_putBy 37 = .ok (.aastore, 1) := by decide +kernel
theorem dX6_putBy_38 : decode cX6_putBy 38 = .ok (.astore_n 1, 1) := by decide +kernel
theorem dX6_putBy_39 : decode cX6_putBy 39 = .ok (.aload_n 0, 1) := by decide +kernel
theorem dX6_putBy_40 : decode cX6_putBy 40 = .ok (.sipush 192, 3) := by decide +kernel
theorem dX6_putBy_43 : decode cX6_putBy 43 = .ok (.newarray .int, 2) := by decide +kernel
theorem dX6_putBy_45 : decode cX6_putBy 45 = .ok (.putfield 39, 3) := by decide +kernel
theorem dX6_putBy_48 : decode cX6_putBy 48 = .ok (.aload_n 0, 1) := by decide +kernel
theorem dX6_putBy_49 : decode cX6_putBy 49 = .ok (.aload_n 0, 1) := by decide +kernel
theorem dX6_putBy_50 : decode cX6_putBy 50 = .ok (.getfield 20, 3) := by decide +kernel
theorem dX6_putBy_53 : decode cX6_putBy 53 = .ok (.aload_n 0, 1) := by decide +kernel
theorem dX6_putBy_54 : decode cX6_putBy 54 = .ok (.getfield 23, 3) := by decide +kernel
theorem dX6_putBy_57 : decode cX6_putBy 57 = .ok (.imul, 1) := by decide +kernel
theorem dX6_putBy_58 : decode cX6_putBy 58 = .ok (.newarray .int, 2) := by decide +kernel
theorem dX6_putBy_60 : decode cX6_putBy 60 = .ok (.putfield 43, 3) := by decide +kernel
theorem dX6_putBy_63 : decode cX6_putBy 63 = .ok (.aload_n 1, 1) := by decide +kernel
theorem dX6_putBy_64 : decode cX6_putBy 64 = .ok (.iconst 0, 1) := by decide +kernel
theorem dX6_putBy_65 : decode cX6_putBy 65 = .ok (.aaload, 1) := by decide +kernel
theorem dX6_putBy_66 : decode cX6_putBy 66 = .ok (.iconst 0, 1) := by decide +kernel
theorem dX6_putBy_67 : decode cX6_putBy 67 = .ok (.aload_n 0, 1) := by decide +kernel
theorem dX6_putBy_68 : decode cX6_putBy 68 = .ok (.getfield 39, 3) := by decide +kernel
theorem dX6_putBy_71 : decode cX6_putBy 71 = .ok (.iconst 0, 1) := by decide +kernel
theorem dX6_putBy_72 : decode cX6_putBy 72 = .ok (.aload_n 0, 1) := by decide +kernel
theorem dX6_putBy_73 : decode cX6_putBy 73 = .ok (.getfield 39, 3) := by decide +kernel
theorem dX6_putBy_76 : decode cX6_putBy 76 = .ok (.arraylength, 1) := by decide +kernel
theorem dX6_putBy_77 : decode cX6_putBy 77 = .ok (.invokestatic 104, 3) := by decide +kernel
theorem dX6_putBy_80 : decode cX6_putBy 80 = .ok (.aload_n 1, 1) := by decide +kernel
theorem dX6_putBy_81 : decode cX6_putBy 81 = .ok (.iconst 1, 1) := by decide +kernel
theorem dX6_putBy_82 : decode cX6_putBy 82 = .ok (.aaload, 1) := by decide +kernel
theorem dX6_putBy_83 : decode cX6_putBy 83 = .ok (.iconst 0, 1) := by decide +kernel
theorem dX6_putBy_84 : decode cX6_putBy 84 = .ok (.aload_n 0, 1) := by decide +kernel
theorem dX6_putBy_85 : decode cX6_putBy 85 = .ok (.getfield 43, 3) := by decide +kernel
theorem dX6_putBy_88 : decode cX6_putBy 88 = .ok (.iconst 0, 1) := by decide +kernel
theorem dX6_putBy_89 : decode cX6_putBy 89 = .ok (.aload_n 0, 1) := by decide +kernel
theorem dX6_putBy_90 : decode cX6_putBy 90 = .ok (.getfield 43, 3) := by decide +kernel
theorem dX6_putBy_93 : decode cX6_putBy 93 = .ok (.arraylength, 1) := by decide +kernel
theorem dX6_putBy_94 : decode cX6_putBy 94 = .ok (.invokestatic 104, 3) := by decide +kernel
theorem dX6_putBy_97 : decode cX6_putBy 97 = .ok (.aload_n 1, 1) := by decide +kernel
theorem dX6_putBy_98 : decode cX6_putBy 98 = .ok (.areturn, 1) := by decide +kernel
theorem dX6_putBack_0 : decode cX6_putBack 0 = .ok (.aload_n 0, 1) := by decide +kernel
theorem dX6_putBack_1 : decode cX6_putBack 1 = .ok (.aload_n 1, 1) := by decide +kernel
theorem dX6_putBack_2 : decode cX6_putBack 2 = .ok (.iconst 0, 1) := by decide +kernel
theorem dX6_putBack_3 : decode cX6_putBack 3 = .ok (.aaload, 1) := by decide +kernel
theorem dX6_putBack_4 : decode cX6_putBack 4 = .ok (.putfield 39, 3) := by decide +kernel
theorem dX6_putBack_7 : decode cX6_putBack 7 = .ok (.aload_n 0, 1) := by decide +kernel
theorem dX6_putBack_8 : decode cX6_putBack 8 = .ok (.aload_n 1, 1) := by decide +kernel
theorem dX6_putBack_9 : decode cX6_putBack 9 = .ok (.iconst 1, 1) := by decide +kernel
theorem dX6_putBack_10 : decode cX6_putBack 10 = .ok (.aaload, 1) := by decide +kernel
theorem dX6_putBack_11 : decode cX6_putBack 11 = .ok (.putfield 43, 3) := by decide +kernel
theorem dX6_putBack_14 : decode cX6_putBack 14 = .ok (.aload_n 0, 1) := by decide +kernel
theorem dX6_putBack_15 : decode cX6_putBack 15 = .ok (.aload_n 1, 1) := by decide +kernel
theorem dX6_putBack_16 : decode cX6_putBack 16 = .ok (.iconst 2, 1) := by decide +kernel
theorem dX6_putBack_17 : decode cX6_putBack 17 = .ok (.aaload, 1) := by decide +kernel
theorem dX6_putBack_18 : decode cX6_putBack 18 = .ok (.iconst 0, 1) := by decide +kernel
theorem dX6_putBack_19 : decode cX6_putBack 19 = .ok (.iaload, 1) := by decide +kernel
theorem dX6_putBack_20 : decode cX6_putBack 20 = .ok (.putfield 26, 3) := by decide +kernel
theorem dX6_putBack_23 : decode cX6_putBack 23 = .ok (.aload_n 0, 1) := by decide +kernel
theorem dX6_putBack_24 : decode cX6_putBack 24 = .ok (.aload_n 1, 1) := by decide +kernel
theorem dX6_putBack_25 : decode cX6_putBack 25 = .ok (.iconst 2, 1) := by decide +kernel
theorem dX6_putBack_26 : decode cX6_putBack 26 = .ok (.aaload, 1) := by decide +kernel
theorem dX6_putBack_27 : decode cX6_putBack 27 = .ok (.iconst 1, 1) := by decide +kernel
theorem dX6_putBack_28 : decode cX6_putBack 28 = .ok (.iaload, 1) := by decide +kernel
theorem dX6_putBack_29 : decode cX6_putBack 29 = .ok (.putfield 7, 3) := by decide +kernel
theorem dX6_putBack_32 : decode cX6_putBack 32 = .ok (.return_, 1) := by decide +kernel
theorem dX6_outIn_0 : decode cX6_outIn 0 = .ok (.aload_n 0, 1) := by decide +kernel
theorem dX6_outIn_1 : decode cX6_outIn 1 = .ok (.iconst 0, 1) := by decide +kernel
theorem dX6_outIn_2 : decode cX6_outIn 2 = .ok (.putfield 46, 3) := by decide +kernel
theorem dX6_outIn_5 : decode cX6_outIn 5 = .ok (.aload_n 0, 1) := by decide +kernel
theorem dX6_outIn_6 : decode cX6_outIn 6 = .ok (.iload_n 1, 1) := by decide +kernel
theorem dX6_outIn_7 : decode cX6_outIn 7 = .ok (.invokevirtual 53, 3) := by decide +kernel
theorem dX6_outIn_10 : decode cX6_outIn 10 = .ok (.ifCond .ne 9, 3) := by decide +kernel
theorem dX6_outIn_13 : decode cX6_outIn 13 = .ok (.aload_n 0, 1) := by decide +kernel
theorem dX6_outIn_14 : decode cX6_outIn 14 = .ok (.iconst 1, 1) := by decide +kernel
theorem dX6_outIn_15 : decode cX6_outIn 15 = .ok (.invokevirtual 79, 3) := by decide +kernel
theorem dX6_outIn_18 : decode cX6_outIn 18 = .ok (.ireturn, 1) := by decide +kernel
theorem dX6_outIn_19 : decode cX6_outIn 19 = .ok (.iload_n 2, 1) := by decide +kernel
theorem dX6_outIn_20 : decode cX6_outIn 20 = .ok (.iconst 1, 1) := by decide +kernel
theorem dX6_outIn_21 : decode cX6_outIn 21 = .ok (.bipush 60, 2) := by decide +kernel
theorem dX6_outIn_23 : decode cX6_outIn 23 = .ok (.invokestatic 49, 3) := by decide +kernel
theorem dX6_outIn_26 : decode cX6_outIn 26 = .ok (.ifCond .ne 9, 3) := by decide +kernel
theorem dX6_outIn_29 : decode cX6_outIn 29 = .ok (.aload_n 0, 1) := by decide +kernel
theorem dX6_outIn_30 : decode cX6_outIn 30 = .ok (.iconst 2, 1) := by decide +kernel
theorem dX6_outIn_31 : decode cX6_outIn 31 = .ok (.invokevirtual 79, 3) := by decide +kernel
theorem dX6_outIn_34 : decode cX6_outIn 34 = .ok (.ireturn, 1) := by decide +kernel
theorem dX6_outIn_35 : decode cX6_outIn 35 = .ok (.aload_n 0, 1) := by decide +kernel
theorem dX6_outIn_36 : decode cX6_outIn 36 = .ok (.invokevirtual 154, 3) := by decide +kernel
theorem dX6_outIn_39 : decode cX6_outIn 39 = .ok (.astore_n 3, 1) := by decide +kernel
theorem dX6_outIn_40 : decode cX6_outIn 40 = .ok (.aload_n 0, 1) := by decide +kernel
theorem dX6_outIn_41 : decode cX6_outIn 41 = .ok (.invokevirtual 121, 3) := by decide +kernel
theorem dX6_outIn_44 : decode cX6_outIn 44 = .ok (.astore 4, 2) := by decide +kernel
theorem dX6_outIn_46 : decode cX6_outIn 46 = .ok (.iconst 0, 1) := by decide +kernel
theorem dX6_outIn_47 : decode cX6_outIn 47 = .ok (.istore 5, 2) := by decide +kernel
theorem dX6_outIn_49 : decode cX6_outIn 49 = .ok (.aload_n 0, 1) := by decide +kernel
theorem dX6_outIn_50 : decode cX6_outIn 50 = .ok (.iload_n 1, 1) := by decide +kernel
theorem dX6_outIn_51 : decode cX6_outIn 51 = .ok (.invokevirtual 110, 3) := by decide +kernel
theorem dX6_outIn_54 : decode cX6_outIn 54 = .ok (.ifCond .eq 22, 3) := by decide +kernel
theorem dX6_outIn_57 : decode cX6_outIn 57 = .ok (.iload 5, 2) := by decide +kernel
theorem dX6_outIn_59 : decode cX6_outIn 59 = .ok (.iload_n 2, 1) := by decide +kernel
theorem dX6_outIn_60 : decode cX6_outIn 60 = .ok (.if_icmp .gt 16, 3) := by decide +kernel
theorem dX6_outIn_63 : decode cX6_outIn 63 = .ok (.aload_n 0, 1) := by decide +kernel
theorem dX6_outIn_64 : decode cX6_outIn 64 = .ok (.aload 4, 2) := by decide +kernel
theorem dX6_outIn_66 : decode cX6_outIn 66 = .ok (.invokevirtual 125, 3) := by decide +kernel
theorem dX6_outIn_69 : decode cX6_outIn 69 = .ok (.pop, 1) := by decide +kernel
theorem dX6_outIn_70 : decode cX6_outIn 70 = .ok (.iinc 5 1, 3) := by decide +kernel
theorem dX6_outIn_73 : decode cX6_outIn 73 = .ok (.goto (-24), 3) := by decide +kernel
theorem dX6_outIn_76 : decode cX6_outIn 76 = .ok (.aload_n 0, 1) := by decide +kernel
theorem dX6_outIn_77 : decode cX6_outIn 77 = .ok (.aload_n 3, 1) := by decide +kernel
theorem dX6_outIn_78 : decode cX6_outIn 78 = .ok (.invokevirtual 157, 3) := by decide +kernel
theorem dX6_outIn_81 : decode cX6_outIn 81 = .ok (.iload 5, 2) := by decide +kernel
theorem dX6_outIn_83 : decode cX6_outIn 83 = .ok (.iload_n 2, 1) := by decide +kernel
theorem dX6_outIn_84 : decode cX6_outIn 84 = .ok (.if_icmp .le 7, 3) := by decide +kernel
theorem dX6_outIn_87 : decode cX6_outIn 87 = .ok (.iconst (-1), 1) := by decide +kernel
theorem dX6_outIn_88 : decode cX6_outIn 88 = .ok (.goto 5, 3) := by decide +kernel
theorem dX6_outIn_91 : decode cX6_outIn 91 = .ok (.iload 5, 2) := by decide +kernel
theorem dX6_outIn_93 : decode cX6_outIn 93 = .ok (.ireturn, 1) := by decide +kernel
theorem dX6_outBehind_0 : decode cX6_outBehind 0 = .ok (.aload_n 0, 1) := by decide +kernel
theorem dX6_outBehind_1 : decode cX6_outBehind 1 = .ok (.invokevirtual 154, 3) := by decide +kernel
theorem dX6_outBehind_4 : decode cX6_outBehind 4 = .ok (.astore_n 2, 1) := by decide +kernel
theorem dX6_outBehind_5 : decode cX6_outBehind 5 = .ok (.aload_n 0, 1) := by decide +kernel
theorem dX6_outBehind_6 : decode cX6_outBehind 6 = .ok (.invokevirtual 121, 3) := by decide +kernel
theorem dX6_outBehind_9 : decode cX6_outBehind 9 = .ok (.astore_n 3, 1) := by decide +kernel
theorem dX6_outBehind_10 : decode cX6_outBehind 10 = .ok (.iconst 0, 1) := by decide +kernel
theorem dX6_outBehind_11 : decode cX6_outBehind 11 = .ok (.istore 4, 2) := by decide +kernel
theorem dX6_outBehind_13 : decode cX6_outBehind 13 = .ok (.iload 4, 2) := by decide +kernel
theorem dX6_outBehind_15 : decode cX6_outBehind 15 = .ok (.iload_n 1, 1) := by decide +kernel
theorem dX6_outBehind_16 : decode cX6_outBehind 16 = .ok (.if_icmp .ge 15, 3) := by decide +kernel
theorem dX6_outBehind_19 : decode cX6_outBehind 19 = .ok (.aload_n 0, 1) := by decide +kernel
theorem dX6_outBehind_20 : decode cX6_outBehind 20 = .ok (.aload_n 3, 1) := by decide +kernel
theorem dX6_outBehind_21 : decode cX6_outBehind 21 = .ok (.invokevirtual 125, 3) := by decide +kernel
theorem dX6_outBehind_24 : decode cX6_outBehind 24 = .ok (.pop, 1) := by decide +kernel
theorem dX6_outBehind_25 : decode cX6_outBehind 25 = .ok (.iinc 4 1, 3) := by decide +kernel
theorem dX6_outBehind_28 : decode cX6_outBehind 28 = .ok (.goto (-15), 3) := by decide +kernel
theorem dX6_outBehind_31 : decode cX6_outBehind 31 = .ok (.iconst 0, 1) := by decide +kernel
theorem dX6_outBehind_32 : decode cX6_outBehind 32 = .ok (.istore 4, 2) := by decide +kernel
theorem dX6_outBehind_34 : decode cX6_outBehind 34 = .ok (.iconst 0, 1) := by decide +kernel
theorem dX6_outBehind_35 : decode cX6_outBehind 35 = .ok (.istore 5, 2) := by decide +kernel
theorem dX6_outBehind_37 : decode cX6_outBehind 37 = .ok (.iload 5, 2) := by decide +kernel
theorem dX6_outBehind_39 : decode cX6_outBehind 39 = .ok (.aload_n 0, 1) := by decide +kernel
theorem dX6_outBehind_40 : decode cX6_outBehind 40 = .ok (.getfield 36, 3) := by decide +kernel
theorem dX6_outBehind_43 : decode cX6_outBehind 43 = .ok (.if_icmp .ge 28, 3) := by decide +kernel
theorem dX6_outBehind_46 : decode cX6_outBehind 46 = .ok (.iload 4, 2) := by decide +kernel
theorem dX6_outBehind_48 : decode cX6_outBehind 48 = .ok (.aload_n 0, 1) := by decide +kernel
theorem dX6_outBehind_49 : decode cX6_outBehind 49 = .ok (.iload 5, 2) := by decide +kernel
theorem dX6_outBehind_51 : decode cX6_outBehind 51 = .ok (.invokevirtual 110, 3) := by decide +kernel
theorem dX6_outBehind_54 : decode cX6_outBehind 54 = .ok (.ifCond .eq 7, 3) := by decide +kernel
theorem dX6_outBehind_57 : decode cX6_outBehind 57 = .ok (.iconst 0, 1) := by decide +kernel
theorem dX6_outBehind_58 : decode cX6_outBehind 58 = .ok (.goto 4, 3) := by decide +kernel
theorem dX6_outBehind_61 : decode cX6_outBehind 61 = .ok (.iconst 1, 1) := by decide +kernel
theorem dX6_outBehind_62 : decode cX6_outBehind 62 = .ok (.iadd, 1) := by decide +kernel
theorem dX6_outBehind_63 : decode cX6_outBehind 63 = .ok (.istore 4, 2) := by decide +kernel
theorem dX6_outBehind_65 : decode cX6_outBehind 65 = .ok (.iinc 5 1, 3) := by decide +kernel
theorem dX6_outBehind_68 : decode cX6_outBehind 68 = .ok (.goto (-31), 3) := by decide +kernel
theorem dX6_outBehind_71 : decode cX6_outBehind 71 = .ok (.aload_n 0, 1) := by decide +kernel
theorem dX6_outBehind_72 : decode cX6_outBehind 72 = .ok (.aload_n 2, 1) := by decide +kernel
theorem dX6_outBehind_73 : decode cX6_outBehind 73 = .ok (.invokevirtual 157, 3) := by decide +kernel
theorem dX6_outBehind_76 : decode cX6_outBehind 76 = .ok (.iload 4, 2) := by decide +kernel
theorem dX6_outBehind_78 : decode cX6_outBehind 78 = .ok (.ireturn, 1) := by decide +kernel
theorem dX6_outWith_0 : decode cX6_outWith 0 = .ok (.aload_n 0, 1) := by decide +kernel
theorem dX6_outWith_1 : decode cX6_outWith 1 = .ok (.iconst 0, 1) := by decide +kernel
theorem dX6_outWith_2 : decode cX6_outWith 2 = .ok (.putfield 46, 3) := by decide +kernel
theorem dX6_outWith_5 : decode cX6_outWith 5 = .ok (.iload_n 1, 1) := by decide +kernel
theorem dX6_outWith_6 : decode cX6_outWith 6 = .ok (.iconst 1, 1) := by decide +kernel
theorem dX6_outWith_7 : decode cX6_outWith 7 = .ok (.bipush 60, 2) := by decide +kernel
theorem dX6_outWith_9 : decode cX6_outWith 9 = .ok (.invokestatic 49, 3) := by decide +kernel
theorem dX6_outWith_12 : decode cX6_outWith 12 = .ok (.ifCond .eq 13, 3) := by decide +kernel
theorem dX6_outWith_15 : decode cX6_outWith 15 = .ok (.iload_n 2, 1) := by decide +kernel
theorem dX6_outWith_16 : decode cX6_outWith 16 = .ok (.iconst 0, 1) := by decide +kernel
theorem dX6_outWith_17 : decode cX6_outWith 17 = .ok (.bipush 9, 2) := by decide +kernel
theorem dX6_outWith_19 : decode cX6_outWith 19 = .ok (.invokestatic 49, 3) := by decide +kernel
theorem dX6_outWith_22 : decode cX6_outWith 22 = .ok (.ifCond .ne 9, 3) := by decide +kernel
theorem dX6_outWith_25 : decode cX6_outWith 25 = .ok (.aload_n 0, 1) := by decide +kernel
theorem dX6_outWith_26 : decode cX6_outWith 26 = .ok (.iconst 1, 1) := by decide +kernel
theorem dX6_outWith_27 : decode cX6_outWith 27 = .ok (.invokevirtual 79, 3) := by decide +kernel
theorem dX6_outWith_30 : decode cX6_outWith 30 = .ok (.ireturn, 1) := by decide +kernel
theorem dX6_outWith_31 : decode cX6_outWith 31 = .ok (.aload_n 0, 1) := by decide +kernel
theorem dX6_outWith_32 : decode cX6_outWith 32 = .ok (.getfield 7, 3) := by decide +kernel
theorem dX6_outWith_35 : decode cX6_outWith 35 = .ok (.istore_n 3, 1) := by decide +kernel
theorem dX6_outWith_36 : decode cX6_outWith 36 = .ok (.aload_n 0, 1) := by decide +kernel
theorem dX6_outWith_37 : decode cX6_outWith 37 = .ok (.iload_n 2, 1) := by decide +kernel
theorem dX6_outWith_38 : decode cX6_outWith 38 = .ok (.putfield 7, 3) := by decide +kernel
theorem dX6_outWith_41 : decode cX6_outWith 41 = .ok (.aload_n 0, 1) := by decide +kernel
theorem dX6_outWith_42 : decode cX6_outWith 42 = .ok (.iload_n 1, 1) := by decide +kernel
theorem dX6_outWith_43 : decode cX6_outWith 43 = .ok (.invokevirtual 161, 3) := by decide +kernel
theorem dX6_outWith_46 : decode cX6_outWith 46 = .ok (.istore 4, 2) := by decide +kernel
theorem dX6_outWith_48 : decode cX6_outWith 48 = .ok (.aload_n 0, 1) := by decide +kernel
theorem dX6_outWith_49 : decode cX6_outWith 49 = .ok (.iload_n 3, 1) := by decide +kernel
theorem dX6_outWith_50 : decode cX6_outWith 50 = .ok (.putfield 7, 3) := by decide +kernel
theorem dX6_outWith_53 : decode cX6_outWith 53 = .ok (.iload 4, 2) := by decide +kernel
theorem dX6_outWith_55 : decode cX6_outWith 55 = .ok (.ireturn, 1) := by decide +kernel
theorem dX6_outBy_0 : decode cX6_outBy 0 = .ok (.aload_n 0, 1) := by decide +kernel
theorem dX6_outBy_1 : decode cX6_outBy 1 = .ok (.iconst 0, 1) := by decide +kernel
theorem dX6_outBy_2 : decode cX6_outBy 2 = .ok (.putfield 46, 3) := by decide +kernel
theorem dX6_outBy_5 : decode cX6_outBy 5 = .ok (.aload_n 0, 1) := by decide +kernel
theorem dX6_outBy_6 : decode cX6_outBy 6 = .ok (.iload_n 1, 1) := by decide +kernel
theorem dX6_outBy_7 : decode cX6_outBy 7 = .ok (.iload_n 2, 1) := by decide +kernel
theorem dX6_outBy_8 : decode cX6_outBy 8 = .ok (.invokevirtual 57, 3) := by decide +kernel
theorem dX6_outBy_11 : decode cX6_outBy 11 = .ok (.ifCond .ne 9, 3) := by decide +kernel
theorem dX6_outBy_14 : decode cX6_outBy 14 = .ok (.aload_n 0, 1) := by decide +kernel
theorem dX6_outBy_15 : decode cX6_outBy 15 = .ok (.iconst 1, 1) := by decide +kernel
theorem dX6_outBy_16 : decode cX6_outBy 16 = .ok (.invokevirtual 79, 3) := by decide +kernel
theorem dX6_outBy_19 : decode cX6_outBy 19 = .ok (.ireturn, 1) := by decide +kernel
theorem dX6_outBy_20 : decode cX6_outBy 20 = .ok (.iload_n 3, 1) := by decide +kernel
theorem dX6_outBy_21 : decode cX6_outBy 21 = .ok (.iconst 1, 1) := by decide +kernel
theorem dX6_outBy_22 : decode cX6_outBy 22 = .ok (.bipush 60, 2) := by decide +kernel
theorem dX6_outBy_24 : decode cX6_outBy 24 = .ok (.invokestatic 49, 3) := by decide +kernel
theorem dX6_outBy_27 : decode cX6_outBy 27 = .ok (.ifCond .ne 9, 3) := by decide +kernel
theorem dX6_outBy_30 : decode cX6_outBy 30 = .ok (.aload_n 0, 1) := by decide +kernel
theorem dX6_outBy_31 : decode cX6_outBy 31 = .ok (.iconst 2, 1) := by decide +kernel
theorem dX6_outBy_32 : decode cX6_outBy 32 = .ok (.invokevirtual 79, 3) := by decide +kernel
theorem dX6_outBy_35 : decode cX6_outBy 35 = .ok (.ireturn, 1) := by decide +kernel
theorem dX6_outBy_36 : decode cX6_outBy 36 = .ok (.iload_n 2, 1) := by decide +kernel
theorem dX6_outBy_37 : decode cX6_outBy 37 = .ok (.aload_n 0, 1) := by decide +kernel
theorem dX6_outBy_38 : decode cX6_outBy 38 = .ok (.getfield 20, 3) := by decide +kernel
theorem dX6_outBy_41 : decode cX6_outBy 41 = .ok (.imul, 1) := by decide +kernel
theorem dX6_outBy_42 : decode cX6_outBy 42 = .ok (.iload_n 1, 1) := by decide +kernel
theorem dX6_outBy_43 : decode cX6_outBy 43 = .ok (.iadd, 1) := by decide +kernel
theorem dX6_outBy_44 : decode cX6_outBy 44 = .ok (.istore 4, 2) := by decide +kernel
theorem dX6_outBy_46 : decode cX6_outBy 46 = .ok (.aload_n 0, 1) := by decide +kernel
theorem dX6_outBy_47 : decode cX6_outBy 47 = .ok (.iload 4, 2) := by decide +kernel
theorem dX6_outBy_49 : decode cX6_outBy 49 = .ok (.invokevirtual 88, 3) := by decide +kernel
theorem dX6_outBy_52 : decode cX6_outBy 52 = .ok (.iconst (-1), 1) := by decide +kernel
theorem dX6_outBy_53 : decode cX6_outBy 53 = .ok (.if_icmp .eq 9, 3) := by decide +kernel
theorem dX6_outBy_56 : decode cX6_outBy 56 = .ok (.aload_n 0, 1) := by decide +kernel
theorem dX6_outBy_57 : decode cX6_outBy 57 = .ok (.iconst 3, 1) := by decide +kernel
theorem dX6_outBy_58 : decode cX6_outBy 58 = .ok (.invokevirtual 79, 3) := by decide +kernel
theorem dX6_outBy_61 : decode cX6_outBy 61 = .ok (.ireturn, 1) := by decide +kernel
theorem dX6_outBy_62 : decode cX6_outBy 62 = .ok (.aload_n 0, 1) := by decide +kernel
theorem dX6_outBy_63 : decode cX6_outBy 63 = .ok (.iload_n 3, 1) := by decide +kernel
theorem dX6_outBy_64 : decode cX6_outBy 64 = .ok (.invokevirtual 161, 3) := by decide +kernel
theorem dX6_outBy_67 : decode cX6_outBy 67 = .ok (.istore 5, 2) := by decide +kernel
theorem dX6_outBy_69 : decode cX6_outBy 69 = .ok (.aload_n 0, 1) := by decide +kernel
theorem dX6_outBy_70 : decode cX6_outBy 70 = .ok (.getfield 29, 3) := by decide +kernel
theorem dX6_outBy_73 : decode cX6_outBy 73 = .ok (.iload 4, 2) := by decide +kernel
theorem dX6_outBy_75 : decode cX6_outBy 75 = .ok (.aload_n 0, 1) := by decide +kernel
theorem dX6_outBy_76 : decode cX6_outBy 76 = .ok (.getfield 29, 3) := by decide +kernel
theorem dX6_outBy_79 : decode cX6_outBy 79 = .ok (.iload 4, 2) := by decide +kernel
theorem dX6_outBy_81 : decode cX6_outBy 81 = .ok (.baload, 1) := by decide +kernel
theorem dX6_outBy_82 : decode cX6_outBy 82 = .ok (.ifCond .ne 7, 3) := by decide +kernel
theorem dX6_outBy_85 : decode cX6_outBy 85 = .ok (.iconst 1, 1) := by decide +kernel
theorem dX6_outBy_86 : decode cX6_outBy 86 = .ok (.goto 4, 3) := by decide +kernel
theorem dX6_outBy_89 : decode cX6_outBy 89 = .ok (.iconst 0, 1) := by decide +kernel
theorem dX6_outBy_90 : decode cX6_outBy 90 = .ok (.bastore, 1) := by decide +kernel
theorem dX6_outBy_91 : decode cX6_outBy 91 = .ok (.aload_n 0, 1) := by decide +kernel
theorem dX6_outBy_92 : decode cX6_outBy 92 = .ok (.iload_n 3, 1) := by decide +kernel
theorem dX6_outBy_93 : decode cX6_outBy 93 = .ok (.invokevirtual 161, 3) := by decide +kernel
theorem dX6_outBy_96 : decode cX6_outBy 96 = .ok (.istore 6, 2) := by decide +kernel
theorem dX6_outBy_98 : decode cX6_outBy 98 = .ok (.aload_n 0, 1) := by decide +kernel
theorem dX6_outBy_99 : decode cX6_outBy 99 = .ok (.getfield 29, 3) := by decide +kernel
theorem dX6_outBy_102 : decode cX6_outBy 102 = .ok (.iload 4, 2) := by decide +kernel
theorem dX6_outBy_104 : decode cX6_outBy 104 = .ok (.aload_n 0, 1) := by decide +kernel
theorem dX6_outBy_105 : decode cX6_outBy 105 = .ok (.getfield 29, 3) := by decide +kernel
theorem dX6_outBy_108 : decode cX6_outBy 108 = .ok (.iload 4, 2) := by decide +kernel
theorem dX6_outBy_110 : decode cX6_outBy 110 = .ok (.baload, 1) := by decide +kernel
theorem dX6_outBy_111 : decode cX6_outBy 111 = .ok (.ifCond .ne 7, 3) := by decide +kernel
theorem dX6_outBy_114 : decode cX6_outBy 114 = .ok (.iconst 1, 1) := by decide +kernel
theorem dX6_outBy_115 : decode cX6_outBy 115 = .ok (.goto 4, 3) := by decide +kernel
theorem dX6_outBy_118 : decode cX6_outBy 118 = .ok (.iconst 0, 1) := by decide +kernel
theorem dX6_outBy_119 : decode cX6_outBy 119 = .ok (.bastore, 1) := by decide +kernel
theorem dX6_outBy_120 : decode cX6_outBy 120 = .ok (.iload 6, 2) := by decide +kernel
theorem dX6_outBy_122 : decode cX6_outBy 122 = .ok (.iload 5, 2) := by decide +kernel
theorem dX6_outBy_124 : decode cX6_outBy 124 = .ok (.isub, 1) := by decide +kernel
theorem dX6_outBy_125 : decode cX6_outBy 125 = .ok (.ireturn, 1) := by decide +kernel
theorem dX6_jamIn_0 : decode cX6_jamIn 0 = .ok (.aload_n 0, 1) := by decide +kernel
theorem dX6_jamIn_1 : decode cX6_jamIn 1 = .ok (.iconst 0, 1) := by decide +kernel
theorem dX6_jamIn_2 : decode cX6_jamIn 2 = .ok (.putfield 46, 3) := by decide +kernel
theorem dX6_jamIn_5 : decode cX6_jamIn 5 = .ok (.iload_n 1, 1) := by decide +kernel
theorem dX6_jamIn_6 : decode cX6_jamIn 6 = .ok (.iconst 1, 1) := by decide +kernel
theorem dX6_jamIn_7 : decode cX6_jamIn 7 = .ok (.bipush 60, 2) := by decide +kernel
theorem dX6_jamIn_9 : decode cX6_jamIn 9 = .ok (.invokestatic 49, 3) := by decide +kernel
theorem dX6_jamIn_12 : decode cX6_jamIn 12 = .ok (.ifCond .ne 9, 3) := by decide +kernel
theorem dX6_jamIn_15 : decode cX6_jamIn 15 = .ok (.aload_n 0, 1) := by decide +kernel
theorem dX6_jamIn_16 : decode cX6_jamIn 16 = .ok (.iconst 1, 1) := by decide +kernel
theorem dX6_jamIn_17 : decode cX6_jamIn 17 = .ok (.invokevirtual 79, 3) := by decide +kernel
theorem dX6_jamIn_20 : decode cX6_jamIn 20 = .ok (.ireturn, 1) := by decide +kernel
theorem dX6_jamIn_21 : decode cX6_jamIn 21 = .ok (.aload_n 0, 1) := by decide +kernel
theorem dX6_jamIn_22 : decode cX6_jamIn 22 = .ok (.invokevirtual 154, 3) := by decide +kernel
theorem dX6_jamIn_25 : decode cX6_jamIn 25 = .ok (.astore_n 2, 1) := by decide +kernel
theorem dX6_jamIn_26 : decode cX6_jamIn 26 = .ok (.aload_n 0, 1) := by decide +kernel
theorem dX6_jamIn_27 : decode cX6_jamIn 27 = .ok (.invokevirtual 121, 3) := by decide +kernel
theorem dX6_jamIn_30 : decode cX6_jamIn 30 = .ok (.astore_n 3, 1) := by decide +kernel
theorem dX6_jamIn_31 : decode cX6_jamIn 31 = .ok (.iconst 0, 1) := by decide +kernel
theorem dX6_jamIn_32 : decode cX6_jamIn 32 = .ok (.istore 4, 2) := by decide +kernel
theorem dX6_jamIn_34 : decode cX6_jamIn 34 = .ok (.aload_n 0, 1) := by decide +kernel
theorem dX6_jamIn_35 : decode cX6_jamIn 35 = .ok (.invokevirtual 136, 3) := by decide +kernel
theorem dX6_jamIn_38 : decode cX6_jamIn 38 = .ok (.iconst (-1), 1) := by decide +kernel
theorem dX6_jamIn_39 : decode cX6_jamIn 39 = .ok (.invokestatic 132, 3) := by decide +kernel
theorem dX6_jamIn_42 : decode cX6_jamIn 42 = .ok (.aload_n 0, 1) := by decide +kernel
theorem dX6_jamIn_43 : decode cX6_jamIn 43 = .ok (.getfield 36, 3) := by decide +kernel
theorem dX6_jamIn_46 : decode cX6_jamIn 46 = .ok (.if_icmp .ne 21, 3) := by decide +kernel
theorem dX6_jamIn_49 : decode cX6_jamIn 49 = .ok (.iload 4, 2) := by decide +kernel
theorem dX6_jamIn_51 : decode cX6_jamIn 51 = .ok (.iload_n 1, 1) := by decide +kernel
theorem dX6_jamIn_52 : decode cX6_jamIn 52 = .ok (.if_icmp .gt 15, 3) := by decide +kernel
theorem dX6_jamIn_55 : decode cX6_jamIn 55 = .ok (.aload_n 0, 1) := by decide +kernel
theorem dX6_jamIn_56 : decode cX6_jamIn 56 = .ok (.aload_n 3, 1) := by decide +kernel
theorem dX6_jamIn_57 : decode cX6_jamIn 57 = .ok (.invokevirtual 125, 3) := by decide +kernel
theorem dX6_jamIn_60 : decode cX6_jamIn 60 = .ok (.pop, 1) := by decide +kernel
theorem dX6_jamIn_61 : decode cX6_jamIn 61 = .ok (.iinc 4 1, 3) := by decide +kernel
theorem dX6_jamIn_64 : decode cX6_jamIn 64 = .ok (.goto (-30), 3) := by decide +kernel
theorem dX6_jamIn_67 : decode cX6_jamIn 67 = .ok (.aload_n 0, 1) := by decide +kernel
theorem dX6_jamIn_68 : decode cX6_jamIn 68 = .ok (.aload_n 2, 1) := by decide +kernel
theorem dX6_jamIn_69 : decode cX6_jamIn 69 = .ok (.invokevirtual 157, 3) := by decide +kernel
theorem dX6_jamIn_72 : decode cX6_jamIn 72 = .ok (.iload 4, 2) := by decide +kernel
theorem dX6_jamIn_74 : decode cX6_jamIn 74 = .ok (.iload_n 1, 1) := by decide +kernel
theorem dX6_jamIn_75 : decode cX6_jamIn 75 = .ok (.if_icmp .le 7, 3) := by decide +kernel
theorem dX6_jamIn_78 : decode cX6_jamIn 78 = .ok (.iconst (-1), 1) := by decide +kernel
theorem dX6_jamIn_79 : decode cX6_jamIn 79 = .ok (.goto 5, 3) := by decide +kernel
theorem dX6_jamIn_82 : decode cX6_jamIn 82 = .ok (.iload 4, 2) := by decide +kernel
theorem dX6_jamIn_84 : decode cX6_jamIn 84 = .ok (.ireturn, 1) := by decide +kernel
theorem dX6_farWith_0 : decode cX6_farWith 0 = .ok (.aload_n 0, 1) := by decide +kernel
theorem dX6_farWith_1 : decode cX6_farWith 1 = .ok (.iconst 0, 1) := by decide +kernel
theorem dX6_farWith_2 : decode cX6_farWith 2 = .ok (.putfield 46, 3) := by decide +kernel
theorem dX6_farWith_5 : decode cX6_farWith 5 = .ok (.iload_n 1, 1) := by decide +kernel
theorem dX6_farWith_6 : decode cX6_farWith 6 = .ok (.invokestatic 91, 3) := by decide +kernel
theorem dX6_farWith_9 : decode cX6_farWith 9 = .ok (.ifCond .eq 12, 3) := by decide +kernel
theorem dX6_farWith_12 : decode cX6_farWith 12 = .ok (.aload_n 0, 1) := by decide +kernel
theorem dX6_farWith_13 : decode cX6_farWith 13 = .ok (.iload_n 2, 1) := by decide +kernel
theorem dX6_farWith_14 : decode cX6_farWith 14 = .ok (.iload_n 3, 1) := by decide +kernel
theorem dX6_farWith_15 : decode cX6_farWith 15 = .ok (.invokevirtual 57, 3) := by decide +kernel
theorem dX6_farWith_18 : decode cX6_farWith 18 = .ok (.ifCond .ne 9, 3) := by decide +kernel
theorem dX6_farWith_21 : decode cX6_farWith 21 = .ok (.aload_n 0, 1) := by decide +kernel
theorem dX6_farWith_22 : decode cX6_farWith 22 = .ok (.iconst 1, 1) := by decide +kernel
theorem dX6_farWith_23 : decode cX6_farWith 23 = .ok (.invokevirtual 79, 3) := by decide +kernel
theorem dX6_farWith_26 : decode cX6_farWith 26 = .ok (.ireturn, 1) := by decide +kernel
theorem dX6_farWith_27 : decode cX6_farWith 27 = .ok (.iload_n 3, 1) := by decide +kernel
theorem dX6_farWith_28 : decode cX6_farWith 28 = .ok (.aload_n 0, 1) := by decide +kernel
theorem dX6_farWith_29 : decode cX6_farWith 29 = .ok (.getfield 20, 3) := by decide +kernel
theorem dX6_farWith_32 : decode cX6_farWith 32 = .ok (.imul, 1) := by decide +kernel
theorem dX6_farWith_33 : decode cX6_farWith 33 = .ok (.iload_n 2, 1) := by decide +kernel
theorem dX6_farWith_34 : decode cX6_farWith 34 = .ok (.iadd, 1) := by decide +kernel
theorem dX6_farWith_35 : decode cX6_farWith 35 = .ok (.istore 4, 2) := by decide +kernel
theorem dX6_farWith_37 : decode cX6_farWith 37 = .ok (.aload_n 0, 1) := by decide +kernel
theorem dX6_farWith_38 : decode cX6_farWith 38 = .ok (.iload_n 1, 1) := by decide +kernel
theorem dX6_farWith_39 : decode cX6_farWith 39 = .ok (.invokevirtual 75, 3) := by decide +kernel
theorem dX6_farWith_42 : decode cX6_farWith 42 = .ok (.astore 5, 2) := by decide +kernel
theorem dX6_farWith_44 : decode cX6_farWith 44 = .ok (.aload_n 0, 1) := by decide +kernel
theorem dX6_farWith_45 : decode cX6_farWith 45 = .ok (.getfield 29, 3) := by decide +kernel
theorem dX6_farWith_48 : decode cX6_farWith 48 = .ok (.iload 4, 2) := by decide +kernel
theorem dX6_farWith_50 : decode cX6_farWith 50 = .ok (.aload_n 0, 1) := by decide +kernel
theorem dX6_farWith_51 : decode cX6_farWith 51 = .ok (.getfield 29, 3) := by decide +kernel
theorem dX6_farWith_54 : decode cX6_farWith 54 = .ok (.iload 4, 2) := by decide +kernel
theorem dX6_farWith_56 : decode cX6_farWith 56 = .ok (.baload, 1) := by decide +kernel
theorem dX6_farWith_57 : decode cX6_farWith 57 = .ok (.ifCond .ne 7, 3) := by decide +kernel
theorem dX6_farWith_60 : decode cX6_farWith 60 = .ok (.iconst 1, 1) := by decide +kernel
theorem dX6_farWith_61 : decode cX6_farWith 61 = .ok (.goto 4, 3) := by decide +kernel
theorem dX6_farWith_64 : decode cX6_farWith 64 = .ok (.iconst 0, 1) := by decide +kernel
theorem dX6_farWith_65 : decode cX6_farWith 65 = .ok (.bastore, 1) := by decide +kernel
theorem dX6_farWith_66 : decode cX6_farWith 66 = .ok (.aload_n 0, 1) := by decide +kernel
theorem dX6_farWith_67 : decode cX6_farWith 67 = .ok (.iload_n 1, 1) := by decide +kernel
theorem dX6_farWith_68 : decode cX6_farWith 68 = .ok (.invokevirtual 75, 3) := by decide +kernel
theorem dX6_farWith_71 : decode cX6_farWith 71 = .ok (.astore 6, 2) := by decide +kernel
theorem dX6_farWith_73 : decode cX6_farWith 73 = .ok (.aload_n 0, 1) := by decide +kernel
theorem dX6_farWith_74 : decode cX6_farWith 74 = .ok (.getfield 29, 3) := by decide +kernel
theorem dX6_farWith_77 : decode cX6_farWith 77 = .ok (.iload 4, 2) := by decide +kernel
theorem dX6_farWith_79 : decode cX6_farWith 79 = .ok (.aload_n 0, 1) := by decide +kernel
theorem dX6_farWith_80 : decode cX6_farWith 80 = .ok (.getfield 29, 3) := by decide +kernel
theorem dX6_farWith_83 : decode cX6_farWith 83 = .ok (.iload 4, 2) := by decide +kernel
theorem dX6_farWith_85 : decode cX6_farWith 85 = .ok (.baload, 1) := by decide +kernel
theorem dX6_farWith_86 : decode cX6_farWith 86 = .ok (.ifCond .ne 7, 3) := by decide +kernel
theorem dX6_farWith_89 : decode cX6_farWith 89 = .ok (.iconst 1, 1) := by decide +kernel
theorem dX6_farWith_90 : decode cX6_farWith 90 = .ok (.goto 4, 3) := by decide +kernel
theorem dX6_farWith_93 : decode cX6_farWith 93 = .ok (.iconst 0, 1) := by decide +kernel
theorem dX6_farWith_94 : decode cX6_farWith 94 = .ok (.bastore, 1) := by decide +kernel
theorem dX6_farWith_95 : decode cX6_farWith 95 = .ok (.iconst 0, 1) := by decide +kernel
theorem dX6_farWith_96 : decode cX6_farWith 96 = .ok (.istore 7, 2) := by decide +kernel
theorem dX6_farWith_98 : decode cX6_farWith 98 = .ok (.iconst 0, 1) := by decide +kernel
theorem dX6_farWith_99 : decode cX6_farWith 99 = .ok (.istore 8, 2) := by decide +kernel
theorem dX6_farWith_101 : decode cX6_farWith 101 = .ok (.iload 8, 2) := by decide +kernel
theorem dX6_farWith_103 : decode cX6_farWith 103 = .ok (.aload_n 0, 1) := by decide +kernel
theorem dX6_farWith_104 : decode cX6_farWith 104 = .ok (.getfield 20, 3) := by decide +kernel
theorem dX6_farWith_107 : decode cX6_farWith 107 = .ok (.aload_n 0, 1) := by decide +kernel
theorem dX6_farWith_108 : decode cX6_farWith 108 = .ok (.getfield 23, 3) := by decide +kernel
theorem dX6_farWith_111 : decode cX6_farWith 111 = .ok (.imul, 1) := by decide +kernel
theorem dX6_farWith_112 : decode cX6_farWith 112 = .ok (.if_icmp .ge 49, 3) := by decide +kernel
theorem dX6_farWith_115 : decode cX6_farWith 115 = .ok (.iload 7, 2) := by decide +kernel
theorem dX6_farWith_117 : decode cX6_farWith 117 = .ok (.iload 8, 2) := by decide +kernel
theorem dX6_farWith_119 : decode cX6_farWith 119 = .ok (.iload 4, 2) := by decide +kernel
theorem dX6_farWith_121 : decode cX6_farWith 121 = .ok (.if_icmp .eq 30, 3) := by decide +kernel
theorem dX6_farWith_124 : decode cX6_farWith 124 = .ok (.aload_n 0, 1) := by decide +kernel
theorem dX6_farWith_125 : decode cX6_farWith 125 = .ok (.getfield 29, 3) := by decide +kernel
theorem dX6_farWith_128 : decode cX6_farWith 128 = .ok (.iload 8, 2) := by decide +kernel
theorem dX6_farWith_130 : decode cX6_farWith 130 = .ok (.baload, 1) := by decide +kernel
theorem dX6_farWith_131 : decode cX6_farWith 131 = .ok (.ifCond .ne 20, 3) := by decide +kernel
theorem dX6_farWith_134 : decode cX6_farWith 134 = .ok (.aload 5, 2) := by decide +kernel
theorem dX6_farWith_136 : decode cX6_farWith 136 = .ok (.iload 8, 2) := by decide +kernel
theorem dX6_farWith_138 : decode cX6_farWith 138 = .ok (.iaload, 1) := by decide +kernel
theorem dX6_farWith_139 : decode cX6_farWith 139 = .ok (.aload 6, 2) := by decide +kernel
theorem dX6_farWith_141 : decode cX6_farWith 141 = .ok (.iload 8, 2) := by decide +kernel
theorem dX6_farWith_143 : decode cX6_farWith 143 = .ok (.iaload, 1) := by decide +kernel
theorem dX6_farWith_144 : decode cX6_farWith 144 = .ok (.if_icmp .eq 7, 3) := by decide +kernel
theorem dX6_farWith_147 : decode cX6_farWith 147 = .ok (.iconst 1, 1) := by decide +kernel
theorem dX6_farWith_148 : decode cX6_farWith 148 = .ok (.goto 4, 3) := by decide +kernel
theorem dX6_farWith_151 : decode cX6_farWith 151 = .ok (.iconst 0, 1) := by decide +kernel
theorem dX6_farWith_152 : decode cX6_farWith 152 = .ok (.iadd, 1) := by decide +kernel
theorem dX6_farWith_153 : decode cX6_farWith 153 = .ok (.istore 7, 2) := by decide +kernel
theorem dX6_farWith_155 : decode cX6_farWith 155 = .ok (.iinc 8 1, 3) := by decide +kernel
theorem dX6_farWith_158 : decode cX6_farWith 158 = .ok (.goto (-57), 3) := by decide +kernel
theorem dX6_farWith_161 : decode cX6_farWith 161 = .ok (.iload 7, 2) := by decide +kernel
theorem dX6_farWith_163 : decode cX6_farWith 163 = .ok (.ireturn, 1) := by decide +kernel
theorem dX6_digest_0 : decode cX6_digest 0 = .ok (.aload_n 0, 1) := by decide +kernel
theorem dX6_digest_1 : decode cX6_digest 1 = .ok (.iconst 0, 1) := by decide +kernel
theorem dX6_digest_2 : decode cX6_digest 2 = .ok (.putfield 46, 3) := by decide +kernel
theorem dX6_digest_5 : decode cX6_digest 5 = .ok (.aload_n 0, 1) := by decide +kernel
theorem dX6_digest_6 : decode cX6_digest 6 = .ok (.invokevirtual 121, 3) := by decide +kernel
theorem dX6_digest_9 : decode cX6_digest 9 = .ok (.astore_n 1, 1) := by decide +kernel
theorem dX6_digest_10 : decode cX6_digest 10 = .ok (.aload_n 0, 1) := by decide +kernel
theorem dX6_digest_11 : decode cX6_digest 11 = .ok (.invokevirtual 136, 3) := by decide +kernel
theorem dX6_digest_14 : decode cX6_digest 14 = .ok (.astore_n 2, 1) := by decide +kernel
theorem dX6_digest_15 : decode cX6_digest 15 = .ok (.ldc2_w 164, 3) := by decide +kernel
theorem dX6_digest_18 : decode cX6_digest 18 = .ok (.aload_n 0, 1) := by decide +kernel
theorem dX6_digest_19 : decode cX6_digest 19 = .ok (.getfield 26, 3) := by decide +kernel
theorem dX6_digest_22 : decode cX6_digest 22 = .ok (.i2l, 1) := by decide +kernel
theorem dX6_digest_23 : decode cX6_digest 23 = .ok (.ladd, 1) := by decide +kernel
theorem dX6_digest_24 : decode cX6_digest 24 = .ok (.lstore_n 3, 1) := by decide +kernel
theorem dX6_digest_25 : decode cX6_digest 25 = .ok (.iconst 0, 1) := by decide +kernel
theorem dX6_digest_26 : decode cX6_digest 26 = .ok (.istore 5, 2) := by decide +kernel
theorem dX6_digest_28 : decode cX6_digest 28 = .ok (.iload 5, 2) := by decide +kernel
theorem dX6_digest_30 : decode cX6_digest 30 = .ok (.bipush 9, 2) := by decide +kernel
theorem dX6_digest_32 : decode cX6_digest 32 = .ok (.if_icmp .ge 25, 3) := by decide +kernel
theorem dX6_digest_35 : decode cX6_digest 35 = .ok (.lload_n 3, 1) := by decide +kernel
theorem dX6_digest_36 : decode cX6_digest 36 = .ok (.ldc2_w 166, 3) := by decide +kernel
theorem dX6_digest_39 : decode cX6_digest 39 = .ok (.lmul, 1) := by decide +kernel
theorem dX6_digest_40 : decode cX6_digest 40 = .ok (.aload_n 0, 1) := by decide +kernel
theorem dX6_digest_41 : decode cX6_digest 41 = .ok (.iload 5, 2) := by decide +kernel
theorem dX6_digest_43 : decode cX6_digest 43 = .ok (.aload_n 2, 1) := by decide +kernel
theorem dX6_digest_44 : decode cX6_digest 44 = .ok (.aload_n 1, 1) := by decide +kernel
theorem dX6_digest_45 : decode cX6_digest 45 = .ok (.invokevirtual 140, 3) := by decide +kernel
theorem dX6_digest_48 : decode cX6_digest 48 = .ok (.i2l, 1) := by decide +kernel
theorem dX6_digest_49 : decode cX6_digest 49 = .ok (.ladd, 1) := by decide +kernel
theorem dX6_digest_50 : decode cX6_digest 50 = .ok (.lstore_n 3, 1) := by decide +kernel
theorem dX6_digest_51 : decode cX6_digest 51 = .ok (.iinc 5 1, 3) := by decide +kernel
theorem dX6_digest_54 : decode cX6_digest 54 = .ok (.goto (-26), 3) := by decide +kernel
theorem dX6_digest_57 : decode cX6_digest 57 = .ok (.iconst 0, 1) := by decide +kernel
theorem dX6_digest_58 : decode cX6_digest 58 = .ok (.istore 5, 2) := by decide +kernel
theorem dX6_digest_60 : decode cX6_digest 60 = .ok (.iload 5, 2) := by decide +kernel
theorem dX6_digest_62 : decode cX6_digest 62 = .ok (.iconst 4, 1) := by decide +kernel
theorem dX6_digest_63 : decode cX6_digest 63 = .ok (.if_icmp .ge 24, 3) := by decide +kernel
theorem dX6_digest_66 : decode cX6_digest 66 = .ok (.lload_n 3, 1) := by decide +kernel
theorem dX6_digest_67 : decode cX6_digest 67 = .ok (.ldc2_w 166, 3) := by decide +kernel
theorem dX6_digest_70 : decode cX6_digest 70 = .ok (.lmul, 1) := by decide +kernel
theorem dX6_digest_71 : decode cX6_digest 71 = .ok (.aload_n 1, 1) := by decide +kernel
theorem dX6_digest_72 : decode cX6_digest 72 = .ok (.iload 5, 2) := by decide +kernel
theorem dX6_digest_74 : decode cX6_digest 74 = .ok (.aaload, 1) := by decide +kernel
theorem dX6_digest_75 : decode cX6_digest 75 = .ok (.invokestatic 100, 3) := by decide +kernel
theorem dX6_digest_78 : decode cX6_digest 78 = .ok (.i2l, 1) := by decide +kernel
theorem dX6_digest_79 : decode cX6_digest 79 = .ok (.ladd, 1) := by decide +kernel
theorem dX6_digest_80 : decode cX6_digest 80 = .ok (.lstore_n 3, 1) := by decide +kernel
theorem dX6_digest_81 : decode cX6_digest 81 = .ok (.iinc 5 1, 3) := by decide +kernel
theorem dX6_digest_84 : decode cX6_digest 84 = .ok (.goto (-24), 3) := by decide +kernel
theorem dX6_digest_87 : decode cX6_digest 87 = .ok (.iconst 0, 1) := by decide +kernel
theorem dX6_digest_88 : decode cX6_digest 88 = .ok (.istore 5, 2) := by decide +kernel
theorem dX6_digest_90 : decode cX6_digest 90 = .ok (.iload 5, 2) := by decide +kernel
theorem dX6_digest_92 : decode cX6_digest 92 = .ok (.aload_n 0, 1) := by decide +kernel
theorem dX6_digest_93 : decode cX6_digest 93 = .ok (.getfield 36, 3) := by decide +kernel
theorem dX6_digest_96 : decode cX6_digest 96 = .ok (.if_icmp .ge 111, 3) := by decide +kernel
theorem dX6_digest_99 : decode cX6_digest 99 = .ok (.iconst 0, 1) := by decide +kernel
theorem dX6_digest_100 : decode cX6_digest 100 = .ok (.istore 6, 2) := by decide +kernel
theorem dX6_digest_102 : decode cX6_digest 102 = .ok (.iload 6, 2) := by decide +kernel
theorem dX6_digest_104 : decode cX6_digest 104 = .ok (.bipush 9, 2) := by decide +kernel
theorem dX6_digest_106 : decode cX6_digest 106 = .ok (.if_icmp .ge 26, 3) := by decide +kernel
theorem dX6_digest_109 : decode cX6_digest 109 = .ok (.lload_n 3, 1) := by decide +kernel
theorem dX6_digest_110 : decode cX6_digest 110 = .ok (.ldc2_w 166, 3) := by decide +kernel
theorem dX6_digest_113 : decode cX6_digest 113 = .ok (.lmul, 1) := by decide +kernel
theorem dX6_digest_114 : decode cX6_digest 114 = .ok (.aload_n 0, 1) := by decide +kernel
theorem dX6_digest_115 : decode cX6_digest 115 = .ok (.iload 5, 2) := by decide +kernel
theorem dX6_digest_117 : decode cX6_digest 117 = .ok (.iload 6, 2) := by decide +kernel
theorem dX6_digest_119 : decode cX6_digest 119 = .ok (.aload_n 1, 1) := by decide +kernel
theorem dX6_digest_120 : decode cX6_digest 120 = .ok (.invokevirtual 144, 3) := by decide +kernel
theorem dX6_digest_123 : decode cX6_digest 123 = .ok (.i2l, 1) := by decide +kernel
theorem dX6_digest_124 : decode cX6_digest 124 = .ok (.ladd, 1) := by decide +kernel
theorem dX6_digest_125 : decode cX6_digest 125 = .ok (.lstore_n 3, 1) := by decide +kernel
theorem dX6_digest_126 : decode cX6_digest 126 = .ok (.iinc 6 1, 3) := by decide +kernel
theorem dX6_digest_129 : decode cX6_digest 129 = .ok (.goto (-27), 3) := by decide +kernel
theorem dX6_digest_132 : decode cX6_digest 132 = .ok (.lload_n 3, 1) := by decide +kernel
theorem dX6_digest_133 : decode cX6_digest 133 = .ok (.ldc2_w 166, 3) := by decide +kernel
theorem dX6_digest_136 : decode cX6_digest 136 = .ok (.lmul, 1) := by decide +kernel
theorem dX6_digest_137 : decode cX6_digest 137 = .ok (.aload_n 0, 1) := by decide +kernel
theorem dX6_digest_138 : decode cX6_digest 138 = .ok (.iload 5, 2) := by decide +kernel
theorem dX6_digest_140 : decode cX6_digest 140 = .ok (.aload_n 2, 1) := by decide +kernel
theorem dX6_digest_141 : decode cX6_digest 141 = .ok (.invokevirtual 151, 3) := by decide +kernel
theorem dX6_digest_144 : decode cX6_digest 144 = .ok (.i2l, 1) := by decide +kernel
theorem dX6_digest_145 : decode cX6_digest 145 = .ok (.ladd, 1) := by decide +kernel
theorem dX6_digest_146 : decode cX6_digest 146 = .ok (.lstore_n 3, 1) := by decide +kernel
theorem dX6_digest_147 : decode cX6_digest 147 = .ok (.iconst 0, 1) := by decide +kernel
theorem dX6_digest_148 : decode cX6_digest 148 = .ok (.istore 6, 2) := by decide +kernel
theorem dX6_digest_150 : decode cX6_digest 150 = .ok (.iload 6, 2) := by decide +kernel
theorem dX6_digest_152 : decode cX6_digest 152 = .ok (.iconst 4, 1) := by decide +kernel
theorem dX6_digest_153 : decode cX6_digest 153 = .ok (.if_icmp .gt 48, 3) := by decide +kernel
theorem dX6_digest_156 : decode cX6_digest 156 = .ok (.aload_n 0, 1) := by decide +kernel
theorem dX6_digest_157 : decode cX6_digest 157 = .ok (.iload 5, 2) := by decide +kernel
theorem dX6_digest_159 : decode cX6_digest 159 = .ok (.invokevirtual 110, 3) := by decide +kernel
theorem dX6_digest_162 : decode cX6_digest 162 = .ok (.ifCond .eq 39, 3) := by decide +kernel
theorem dX6_digest_165 : decode cX6_digest 165 = .ok (.lload_n 3, 1) := by decide +kernel
theorem dX6_digest_166 : decode cX6_digest 166 = .ok (.ldc2_w 166, 3) := by decide +kernel
theorem dX6_digest_169 : decode cX6_digest 169 = .ok (.lmul, 1) := by decide +kernel
theorem dX6_digest_170 : decode cX6_digest 170 = .ok (.aload_n 0, 1) := by decide +kernel
theorem dX6_digest_171 : decode cX6_digest 171 = .ok (.iload 5, 2) := by decide +kernel
theorem dX6_digest_173 : decode cX6_digest 173 = .ok (.iload 6, 2) := by decide +kernel
theorem dX6_digest_175 : decode cX6_digest 175 = .ok (.aload_n 1, 1) := by decide +kernel
theorem dX6_digest_176 : decode cX6_digest 176 = .ok (.aload_n 0, 1) := by decide +kernel
theorem dX6_digest_177 : decode cX6_digest 177 = .ok (.getfield 39, 3) := by decide +kernel
theorem dX6_digest_180 : decode cX6_digest 180 = .ok (.iload 5, 2) := by decide +kernel
theorem dX6_digest_182 : decode cX6_digest 182 = .ok (.bipush 8, 2) := by decide +kernel
theorem dX6_digest_184 : decode cX6_digest 184 = .ok (.imul, 1) := by decide +kernel
theorem dX6_digest_185 : decode cX6_digest 185 = .ok (.iconst 0, 1) := by decide +kernel
theorem dX6_digest_186 : decode cX6_digest 186 = .ok (.iadd, 1) := by decide +kernel
theorem dX6_digest_187 : decode cX6_digest 187 = .ok (.iaload, 1) := by decide +kernel
theorem dX6_digest_188 : decode cX6_digest 188 = .ok (.aaload, 1) := by decide +kernel
theorem dX6_digest_189 : decode cX6_digest 189 = .ok (.invokevirtual 113, 3) := by decide +kernel
theorem dX6_digest_192 : decode cX6_digest 192 = .ok (.i2l, 1) := by decide +kernel
theorem dX6_digest_193 : decode cX6_digest 193 = .ok (.ladd, 1) := by decide +kernel
theorem dX6_digest_194 : decode cX6_digest 194 = .ok (.lstore_n 3, 1) := by decide +kernel
theorem dX6_digest_195 : decode cX6_digest 195 = .ok (.iinc 6 1, 3) := by decide +kernel
theorem dX6_digest_198 : decode cX6_digest 198 = .ok (.goto (-48), 3) := by decide +kernel
theorem dX6_digest_201 : decode cX6_digest 201 = .ok (.iinc 5 1, 3) := by decide +kernel
theorem dX6_digest_204 : decode cX6_digest 204 = .ok (.goto (-114), 3) := by decide +kernel
theorem dX6_digest_207 : decode cX6_digest 207 = .ok (.iconst 0, 1) := by decide +kernel
theorem dX6_digest_208 : decode cX6_digest 208 = .ok (.istore 5, 2) := by decide +kernel
theorem dX6_digest_210 : decode cX6_digest 210 = .ok (.iload 5, 2) := by decide +kernel
theorem dX6_digest_212 : decode cX6_digest 212 = .ok (.aload_n 0, 1) := by decide +kernel
theorem dX6_digest_213 : decode cX6_digest 213 = .ok (.getfield 20, 3) := by decide +kernel
theorem dX6_digest_216 : decode cX6_digest 216 = .ok (.aload_n 0, 1) := by decide +kernel
theorem dX6_digest_217 : decode cX6_digest 217 = .ok (.getfield 23, 3) := by decide +kernel
theorem dX6_digest_220 : decode cX6_digest 220 = .ok (.imul, 1) := by decide +kernel
theorem dX6_digest_221 : decode cX6_digest 221 = .ok (.if_icmp .ge 70, 3) := by decide +kernel
theorem dX6_digest_224 : decode cX6_digest 224 = .ok (.iconst 0, 1) := by decide +kernel
theorem dX6_digest_225 : decode cX6_digest 225 = .ok (.istore 6, 2) := by decide +kernel
theorem dX6_digest_227 : decode cX6_digest 227 = .ok (.iload 6, 2) := by decide +kernel
theorem dX6_digest_229 : decode cX6_digest 229 = .ok (.iconst 3, 1) := by decide +kernel
theorem dX6_digest_230 : decode cX6_digest 230 = .ok (.if_icmp .ge 25, 3) := by decide +kernel
theorem dX6_digest_233 : decode cX6_digest 233 = .ok (.lload_n 3, 1) := by decide +kernel
theorem dX6_digest_234 : decode cX6_digest 234 = .ok (.ldc2_w 166, 3) := by decide +kernel
theorem dX6_digest_237 : decode cX6_digest 237 = .ok (.lmul, 1) := by decide +kernel
theorem dX6_digest_238 : decode cX6_digest 238 = .ok (.aload_n 0, 1) := by decide +kernel
theorem dX6_digest_239 : decode cX6_digest 239 = .ok (.iload 5, 2) := by decide +kernel
theorem dX6_digest_241 : decode cX6_digest 241 = .ok (.iload 6, 2) := by decide +kernel
theorem dX6_digest_243 : decode cX6_digest 243 = .ok (.invokevirtual 97, 3) := by decide +kernel
theorem dX6_digest_246 : decode cX6_digest 246 = .ok (.i2l, 1) := by decide +kernel
theorem dX6_digest_247 : decode cX6_digest 247 = .ok (.ladd, 1) := by decide +kernel
theorem dX6_digest_248 : decode cX6_digest 248 = .ok (.lstore_n 3, 1) := by decide +kernel
theorem dX6_digest_249 : decode cX6_digest 249 = .ok (.iinc 6 1, 3) := by decide +kernel
theorem dX6_digest_252 : decode cX6_digest 252 = .ok (.goto (-25), 3) := by decide +kernel
theorem dX6_digest_255 : decode cX6_digest 255 = .ok (.iconst 0, 1) := by decide +kernel
theorem dX6_digest_256 : decode cX6_digest 256 = .ok (.istore 6, 2) := by decide +kernel
theorem dX6_digest_258 : decode cX6_digest 258 = .ok (.iload 6, 2) := by decide +kernel
theorem dX6_digest_260 : decode cX6_digest 260 = .ok (.iconst 4, 1) := by decide +kernel
theorem dX6_digest_261 : decode cX6_digest 261 = .ok (.if_icmp .ge 24, 3) := by decide +kernel
theorem dX6_digest_264 : decode cX6_digest 264 = .ok (.lload_n 3, 1) := by decide +kernel
theorem dX6_digest_265 : decode cX6_digest 265 = .ok (.ldc2_w 166, 3) := by decide +kernel
theorem dX6_digest_268 : decode cX6_digest 268 = .ok (.lmul, 1) := by decide +kernel
theorem dX6_digest_269 : decode cX6_digest 269 = .ok (.aload_n 1, 1) := by decide +kernel
theorem dX6_digest_270 : decode cX6_digest 270 = .ok (.iload 6, 2) := by decide +kernel
theorem dX6_digest_272 : decode cX6_digest 272 = .ok (.aaload, 1) := by decide +kernel
theorem dX6_digest_273 : decode cX6_digest 273 = .ok (.iload 5, 2) := by decide +kernel
theorem dX6_digest_275 : decode cX6_digest 275 = .ok (.iaload, 1) := by decide +kernel
theorem dX6_digest_276 : decode cX6_digest 276 = .ok (.i2l, 1) := by decide +kernel
theorem dX6_digest_277 : decode cX6_digest 277 = .ok (.ladd, 1) := by decide +kernel
theorem dX6_digest_278 : decode cX6_digest 278 = .ok (.lstore_n 3, 1) := by decide +kernel
theorem dX6_digest_279 : decode cX6_digest 279 = .ok (.iinc 6 1, 3) := by decide +kernel
theorem dX6_digest_282 : decode cX6_digest 282 = .ok (.goto (-24), 3) := by decide +kernel
theorem dX6_digest_285 : decode cX6_digest 285 = .ok (.iinc 5 1, 3) := by decide +kernel
theorem dX6_digest_288 : decode cX6_digest 288 = .ok (.goto (-78), 3) := by decide +kernel
theorem dX6_digest_291 : decode cX6_digest 291 = .ok (.lload_n 3, 1) := by decide +kernel
theorem dX6_digest_292 : decode cX6_digest 292 = .ok (.lreturn, 1) := by decide +kernel
