theorem dX0_init_0 : decode cX0_init 0 = .ok (.aload_n 0, 1) := by decide +kernel
theorem dX0_init_1 : decode cX0_init 1 = .ok (.invokespecial 3, 3) := by decide +kernel
theorem dX0_init_4 : decode cX0_init 4 = .ok (.aload_n 0, 1) := by decide +kernel
theorem dX0_init_5 : decode cX0_init 5 = .ok (.iconst 2, 1) := by decide +kernel
theorem dX0_init_6 : decode cX0_init 6 = .ok (.putfield 9, 3) := by decide +kernel
theorem dX0_init_9 : decode cX0_init 9 = .ok (.aload_n 0, 1) := by decide +kernel
theorem dX0_init_10 : decode cX0_init 10 = .ok (.iconst 3, 1) := by decide +kernel
theorem dX0_init_11 : decode cX0_init 11 = .ok (.putfield 15, 3) := by decide +kernel
theorem dX0_init_14 : decode cX0_init 14 = .ok (.aload_n 0, 1) := by decide +kernel
theorem dX0_init_15 : decode cX0_init 15 = .ok (.bipush 24, 2) := by decide +kernel
theorem dX0_init_17 : decode cX0_init 17 = .ok (.anewarray 18, 3) := by decide +kernel
theorem dX0_init_20 : decode cX0_init 20 = .ok (.putfield 20, 3) := by decide +kernel
theorem dX0_init_23 : decode cX0_init 23 = .ok (.aload_n 0, 1) := by decide +kernel
theorem dX0_init_24 : decode cX0_init 24 = .ok (.sipush 196, 3) := by decide +kernel
theorem dX0_init_27 : decode cX0_init 27 = .ok (.newarray .int, 2) := by decide +kernel
theorem dX0_init_29 : decode cX0_init 29 = .ok (.putfield 24, 3) := by decide +kernel
theorem dX0_init_32 : decode cX0_init 32 = .ok (.aload_n 0, 1) := by decide +kernel
theorem dX0_init_33 : decode cX0_init 33 = .ok (.sipush 196, 3) := by decide +kernel
theorem dX0_init_36 : decode cX0_init 36 = .ok (.newarray .int, 2) := by decide +kernel
theorem dX0_init_38 : decode cX0_init 38 = .ok (.putfield 28, 3) := by decide +kernel
theorem dX0_init_41 : decode cX0_init 41 = .ok (.aload_n 0, 1) := by decide +kernel
theorem dX0_init_42 : decode cX0_init 42 = .ok (.sipush 196, 3) := by decide +kernel
theorem dX0_init_45 : decode cX0_init 45 = .ok (.newarray .int, 2) := by decide +kernel
theorem dX0_init_47 : decode cX0_init 47 = .ok (.putfield 31, 3) := by decide +kernel
theorem dX0_init_50 : decode cX0_init 50 = .ok (.aload_n 0, 1) := by decide +kernel
theorem dX0_init_51 : decode cX0_init 51 = .ok (.aload_n 1, 1) := by decide +kernel
theorem dX0_init_52 : decode cX0_init 52 = .ok (.putfield 34, 3) := by decide +kernel
theorem dX0_init_55 : decode cX0_init 55 = .ok (.aload_n 0, 1) := by decide +kernel
theorem dX0_init_56 : decode cX0_init 56 = .ok (.aload_n 2, 1) := by decide +kernel
theorem dX0_init_57 : decode cX0_init 57 = .ok (.putfield 38, 3) := by decide +kernel
theorem dX0_init_60 : decode cX0_init 60 = .ok (.iconst 0, 1) := by decide +kernel
theorem dX0_init_61 : decode cX0_init 61 = .ok (.istore_n 3, 1) := by decide +kernel
theorem dX0_init_62 : decode cX0_init 62 = .ok (.iload_n 3, 1) := by decide +kernel
theorem dX0_init_63 : decode cX0_init 63 = .ok (.bipush 24, 2) := by decide +kernel
theorem dX0_init_65 : decode cX0_init 65 = .ok (.if_icmp .ge 22, 3) := by decide +kernel
theorem dX0_init_68 : decode cX0_init 68 = .ok (.aload_n 0, 1) := by decide +kernel
theorem dX0_init_69 : decode cX0_init 69 = .ok (.getfield 20, 3) := by decide +kernel
theorem dX0_init_72 : decode cX0_init 72 = .ok (.iload_n 3, 1) := by decide +kernel
theorem dX0_init_73 : decode cX0_init 73 = .ok (.new 18, 3) := by decide +kernel
theorem dX0_init_76 : decode cX0_init 76 = .ok (.dup, 1) := by decide +kernel
theorem dX0_init_77 : decode cX0_init 77 = .ok (.invokespecial 42, 3) := by decide +kernel
theorem dX0_init_80 : decode cX0_init 80 = .ok (.aastore, 1) := by decide +kernel
theorem dX0_init_81 : decode cX0_init 81 = .ok (.iinc 3 1, 3) := by decide +kernel
theorem dX0_init_84 : decode cX0_init 84 = .ok (.goto (-22), 3) := by decide +kernel
theorem dX0_init_87 : decode cX0_init 87 = .ok (.return_, 1) := by decide +kernel
theorem dX0_clear_0 : decode cX0_clear 0 = .ok (.aload_n 0, 1) := by decide +kernel
theorem dX0_clear_1 : decode cX0_clear 1 = .ok (.iconst 0, 1) := by decide +kernel
theorem dX0_clear_2 : decode cX0_clear 2 = .ok (.putfield 43, 3) := by decide +kernel
theorem dX0_clear_5 : decode cX0_clear 5 = .ok (.aload_n 0, 1) := by decide +kernel
theorem dX0_clear_6 : decode cX0_clear 6 = .ok (.iconst 0, 1) := by decide +kernel
theorem dX0_clear_7 : decode cX0_clear 7 = .ok (.putfield 46, 3) := by decide +kernel
theorem dX0_clear_10 : decode cX0_clear 10 = .ok (.iconst 0, 1) := by decide +kernel
theorem dX0_clear_11 : decode cX0_clear 11 = .ok (.istore_n 1, 1) := by decide +kernel
theorem dX0_clear_12 : decode cX0_clear 12 = .ok (.iload_n 1, 1) := by decide +kernel
theorem dX0_clear_13 : decode cX0_clear 13 = .ok (.sipush 196, 3) := by decide +kernel
theorem dX0_clear_16 : decode cX0_clear 16 = .ok (.if_icmp .ge 23, 3) := by decide +kernel
theorem dX0_clear_19 : decode cX0_clear 19 = .ok (.aload_n 0, 1) := by decide +kernel
theorem dX0_clear_20 : decode cX0_clear 20 = .ok (.getfield 24, 3) := by decide +kernel
theorem dX0_clear_23 : decode cX0_clear 23 = .ok (.iload_n 1, 1) := by decide +kernel
theorem dX0_clear_24 : decode cX0_clear 24 = .ok (.iconst (-1), 1) := by decide +kernel
theorem dX0_clear_25 : decode cX0_clear 25 = .ok (.iastore, 1) := by decide +kernel
theorem dX0_clear_26 : decode cX0_clear 26 = .ok (.aload_n 0, 1) := by decide +kernel
theorem dX0_clear_27 : decode cX0_clear 27 = .ok (.getfield 28, 3) := by decide +kernel
theorem dX0_clear_30 : decode cX0_clear 30 = .ok (.iload_n 1, 1) := by decide +kernel
theorem dX0_clear_31 : decode cX0_clear 31 = .ok (.iconst 0, 1) := by decide +kernel
theorem dX0_clear_32 : decode cX0_clear 32 = .ok (.iastore, 1) := by decide +kernel
theorem dX0_clear_33 : decode cX0_clear 33 = .ok (.iinc 1 1, 3) := by decide +kernel
theorem dX0_clear_36 : decode cX0_clear 36 = .ok (.goto (-24), 3) := by decide +kernel
theorem dX0_clear_39 : decode cX0_clear 39 = .ok (.return_, 1) := by decide +kernel
theorem dX0_copyFrom_0 : decode cX0_copyFrom 0 = .ok (.aload_n 0, 1) := by decide +kernel
theorem dX0_copyFrom_1 : decode cX0_copyFrom 1 = .ok (.aload_n 1, 1) := by decide +kernel
theorem dX0_copyFrom_2 : decode cX0_copyFrom 2 = .ok (.getfield 43, 3) := by decide +kernel
theorem dX0_copyFrom_5 : decode cX0_copyFrom 5 = .ok (.putfield 43, 3) := by decide +kernel
theorem dX0_copyFrom_8 : decode cX0_copyFrom 8 = .ok (.aload_n 0, 1) := by decide +kernel
theorem dX0_copyFrom_9 : decode cX0_copyFrom 9 = .ok (.aload_n 1, 1) := by decide +kernel
theorem dX0_copyFrom_10 : decode cX0_copyFrom 10 = .ok (.getfield 46, 3) := by decide +kernel
theorem dX0_copyFrom_13 : decode cX0_copyFrom 13 = .ok (.putfield 46, 3) := by decide +kernel
theorem dX0_copyFrom_16 : decode cX0_copyFrom 16 = .ok (.aload_n 0, 1) := by decide +kernel
theorem dX0_copyFrom_17 : decode cX0_copyFrom 17 = .ok (.aload_n 1, 1) := by decide +kernel
theorem dX0_copyFrom_18 : decode cX0_copyFrom 18 = .ok (.getfield 9, 3) := by decide +kernel
theorem dX0_copyFrom_21 : decode cX0_copyFrom 21 = .ok (.putfield 9, 3) := by decide +kernel
theorem dX0_copyFrom_24 : decode cX0_copyFrom 24 = .ok (.aload_n 0, 1) := by decide +kernel
theorem dX0_copyFrom_25 : decode cX0_copyFrom 25 = .ok (.aload_n 1, 1) := by decide +kernel
theorem dX0_copyFrom_26 : decode cX0_copyFrom 26 = .ok (.getfield 15, 3) := by decide +kernel
theorem dX0_copyFrom_29 : decode cX0_copyFrom 29 = .ok (.putfield 15, 3) := by decide +kernel
theorem dX0_copyFrom_32 : decode cX0_copyFrom 32 = .ok (.aload_n 1, 1) := by decide +kernel
theorem dX0_copyFrom_33 : decode cX0_copyFrom 33 = .ok (.getfield 24, 3) := by decide +kernel
theorem dX0_copyFrom_36 : decode cX0_copyFrom 36 = .ok (.iconst 0, 1) := by decide +kernel
theorem dX0_copyFrom_37 : decode cX0_copyFrom 37 = .ok (.aload_n 0, 1) := by decide +kernel
theorem dX0_copyFrom_38 : decode cX0_copyFrom 38 = .ok (.getfield 24, 3) := by decide +kernel
theorem dX0_copyFrom_41 : decode cX0_copyFrom 41 = .ok (.iconst 0, 1) := by decide +kernel
theorem dX0_copyFrom_42 : decode cX0_copyFrom 42 = .ok (.sipush 196, 3) := by decide +kernel
theorem dX0_copyFrom_45 : decode cX0_copyFrom 45 = .ok (.invokestatic 49, 3) := by decide +kernel
theorem dX0_copyFrom_48 : decode cX0_copyFrom 48 = .ok (.aload_n 1, 1) := by decide +kernel
theorem dX0_copyFrom_49 : decode cX0_copyFrom 49 = .ok (.getfield 28, 3) := by decide +kernel
theorem dX0_copyFrom_52 : decode cX0_copyFrom 52 = .ok (.iconst 0, 1) := by decide +kernel
theorem dX0_copyFrom_53 : decode cX0_copyFrom 53 = .ok (.aload_n 0, 1) := by decide +kernel
theorem dX0_copyFrom_54 : decode cX0_copyFrom 54 = .ok (.getfield 28, 3) := by decide +kernel
theorem dX0_copyFrom_57 : decode cX0_copyFrom 57 = .ok (.iconst 0, 1) := by decide +kernel
theorem dX0_copyFrom_58 : decode cX0_copyFrom 58 = .ok (.sipush 196, 3) := by decide +kernel
theorem dX0_copyFrom_61 : decode cX0_copyFrom 61 = .ok (.invokestatic 49, 3) := by decide +kernel
theorem dX0_copyFrom_64 : decode cX0_copyFrom 64 = .ok (.iconst 0, 1) := by decide +kernel
theorem dX0_copyFrom_65 : decode cX0_copyFrom 65 = .ok (.istore_n 2, 1) := by decide +kernel
theorem dX0_copyFrom_66 : decode cX0_copyFrom 66 = .ok (.iload_n 2, 1) := by decide +kernel
theorem dX0_copyFrom_67 : decode cX0_copyFrom 67 = .ok (.aload_n 0, 1) := by decide +kernel
theorem dX0_copyFrom_68 : decode cX0_copyFrom 68 = .ok (.getfield 43, 3) := by decide +kernel
theorem dX0_copyFrom_71 : decode cX0_copyFrom 71 = .ok (.if_icmp .ge 22, 3) := by decide +kernel
theorem dX0_copyFrom_74 : decode cX0_copyFrom 74 = .ok (.aload_n 0, 1) := by decide +kernel
theorem dX0_copyFrom_75 : decode cX0_copyFrom 75 = .ok (.iload_n 2, 1) := by decide +kernel
theorem dX0_copyFrom_76 : decode cX0_copyFrom 76 = .ok (.invokevirtual 55, 3) := by decide +kernel
theorem dX0_copyFrom_79 : decode cX0_copyFrom 79 = .ok (.aload_n 1, 1) := by decide +kernel
theorem dX0_copyFrom_80 : decode cX0_copyFrom 80 = .ok (.iload_n 2, 1) := by decide +kernel
theorem dX0_copyFrom_81 : decode cX0_copyFrom 81 = .ok (.invokevirtual 55, 3) := by decide +kernel
theorem dX0_copyFrom_84 : decode cX0_copyFrom 84 = .ok (.invokestatic 59, 3) := by decide +kernel
theorem dX0_copyFrom_87 : decode cX0_copyFrom 87 = .ok (.iinc 2 1, 3) := by decide +kernel
theorem dX0_copyFrom_90 : decode cX0_copyFrom 90 = .ok (.goto (-24), 3) := by decide +kernel
theorem dX0_copyFrom_93 : decode cX0_copyFrom 93 = .ok (.return_, 1) := by decide +kernel
theorem dX0_copyWalker_0 : decode cX0_copyWalker 0 = .ok (.aload_n 0, 1) := by decide +kernel
theorem dX0_copyWalker_1 : decode cX0_copyWalker 1 = .ok (.ifnull 12, 3) := by decide +kernel
theorem dX0_copyWalker_4 : decode cX0_copyWalker 4 = .ok (.aload_n 1, 1) := by decide +kernel
theorem dX0_copyWalker_5 : decode cX0_copyWalker 5 = .ok (.ifnull 8, 3) := by decide +kernel
theorem dX0_copyWalker_8 : decode cX0_copyWalker 8 = .ok (.aload_n 0, 1) := by decide +kernel
theorem dX0_copyWalker_9 : decode cX0_copyWalker 9 = .ok (.aload_n 1, 1) := by decide +kernel
theorem dX0_copyWalker_10 : decode cX0_copyWalker 10 = .ok (.invokevirtual 63, 3) := by decide +kernel
theorem dX0_copyWalker_13 : decode cX0_copyWalker 13 = .ok (.return_, 1) := by decide +kernel
theorem dX0_get_0 : decode cX0_get 0 = .ok (.iload_n 1, 1) := by decide +kernel
theorem dX0_get_1 : decode cX0_get 1 = .ok (.ifCond .lt 21, 3) := by decide +kernel
theorem dX0_get_4 : decode cX0_get 4 = .ok (.iload_n 1, 1) := by decide +kernel
theorem dX0_get_5 : decode cX0_get 5 = .ok (.aload_n 0, 1) := by decide +kernel
theorem dX0_get_6 : decode cX0_get 6 = .ok (.getfield 43, 3) := by decide +kernel
theorem dX0_get_9 : decode cX0_get 9 = .ok (.if_icmp .ge 13, 3) := by decide +kernel
theorem dX0_get_12 : decode cX0_get 12 = .ok (.iload_n 1, 1) := by decide +kernel
theorem dX0_get_13 : decode cX0_get 13 = .ok (.bipush 24, 2) := by decide +kernel
theorem dX0_get_15 : decode cX0_get 15 = .ok (.if_icmp .ge 7, 3) := by decide +kernel
theorem dX0_get_18 : decode cX0_get 18 = .ok (.iconst 1, 1) := by decide +kernel
theorem dX0_get_19 : decode cX0_get 19 = .ok (.goto 4, 3) := by decide +kernel
theorem dX0_get_22 : decode cX0_get 22 = .ok (.iconst 0, 1) := by decide +kernel
theorem dX0_get_23 : decode cX0_get 23 = .ok (.istore_n 2, 1) := by decide +kernel
theorem dX0_get_24 : decode cX0_get 24 = .ok (.iload_n 2, 1) := by decide +kernel
theorem dX0_get_25 : decode cX0_get 25 = .ok (.ifCond .eq 12, 3) := by decide +kernel
theorem dX0_get_28 : decode cX0_get 28 = .ok (.aload_n 0, 1) := by decide +kernel
theorem dX0_get_29 : decode cX0_get 29 = .ok (.getfield 20, 3) := by decide +kernel
theorem dX0_get_32 : decode cX0_get 32 = .ok (.iload_n 1, 1) := by decide +kernel
theorem dX0_get_33 : decode cX0_get 33 = .ok (.aaload, 1) := by decide +kernel
theorem dX0_get_34 : decode cX0_get 34 = .ok (.goto 4, 3) := by decide +kernel
theorem dX0_get_37 : decode cX0_get 37 = .ok (.aconst_null, 1) := by decide +kernel
theorem dX0_get_38 : decode cX0_get 38 = .ok (.areturn, 1) := by decide +kernel
theorem dX0_numberOn_0 : decode cX0_numberOn 0 = .ok (.iload_n 1, 1) := by decide +kernel
theorem dX0_numberOn_1 : decode cX0_numberOn 1 = .ok (.ifCond .lt 19, 3) := by decide +kernel
theorem dX0_numberOn_4 : decode cX0_numberOn 4 = .ok (.iload_n 1, 1) := by decide +kernel
theorem dX0_numberOn_5 : decode cX0_numberOn 5 = .ok (.sipush 196, 3) := by decide +kernel
theorem dX0_numberOn_8 : decode cX0_numberOn 8 = .ok (.if_icmp .ge 12, 3) := by decide +kernel
theorem dX0_numberOn_11 : decode cX0_numberOn 11 = .ok (.aload_n 0, 1) := by decide +kernel
theorem dX0_numberOn_12 : decode cX0_numberOn 12 = .ok (.getfield 24, 3) := by decide +kernel
theorem dX0_numberOn_15 : decode cX0_numberOn 15 = .ok (.iload_n 1, 1) := by decide +kernel
theorem dX0_numberOn_16 : decode cX0_numberOn 16 = .ok (.iaload, 1) := by decide +kernel
theorem dX0_numberOn_17 : decode cX0_numberOn 17 = .ok (.goto 4, 3) := by decide +kernel
theorem dX0_numberOn_20 : decode cX0_numberOn 20 = .ok (.iconst (-1), 1) := by decide +kernel
theorem dX0_numberOn_21 : decode cX0_numberOn 21 = .ok (.ireturn, 1) := by decide +kernel
theorem dX0_isAnyoneIn_0 : decode cX0_isAnyoneIn 0 = .ok (.iload_n 2, 1) := by decide +kernel
theorem dX0_isAnyoneIn_1 : decode cX0_isAnyoneIn 1 = .ok (.istore 5, 2) := by decide +kernel
theorem dX0_isAnyoneIn_3 : decode cX0_isAnyoneIn 3 = .ok (.iload 5, 2) := by decide +kernel
theorem dX0_isAnyoneIn_5 : decode cX0_isAnyoneIn 5 = .ok (.iload 4, 2) := by decide +kernel
theorem dX0_isAnyoneIn_7 : decode cX0_isAnyoneIn 7 = .ok (.if_icmp .gt 45, 3) := by decide +kernel
theorem dX0_isAnyoneIn_10 : decode cX0_isAnyoneIn 10 = .ok (.iload_n 1, 1) := by decide +kernel
theorem dX0_isAnyoneIn_11 : decode cX0_isAnyoneIn 11 = .ok (.istore 6, 2) := by decide +kernel
theorem dX0_isAnyoneIn_13 : decode cX0_isAnyoneIn 13 = .ok (.iload 6, 2) := by decide +kernel
theorem dX0_isAnyoneIn_15 : decode cX0_isAnyoneIn 15 = .ok (.iload_n 3, 1) := by decide +kernel
theorem dX0_isAnyoneIn_16 : decode cX0_isAnyoneIn 16 = .ok (.if_icmp .gt 30, 3) := by decide +kernel
theorem dX0_isAnyoneIn_19 : decode cX0_isAnyoneIn 19 = .ok (.aload_n 0, 1) := by decide +kernel
theorem dX0_isAnyoneIn_20 : decode cX0_isAnyoneIn 20 = .ok (.aload_n 0, 1) := by decide +kernel
theorem dX0_isAnyoneIn_21 : decode cX0_isAnyoneIn 21 = .ok (.getfield 34, 3) := by decide +kernel
theorem dX0_isAnyoneIn_24 : decode cX0_isAnyoneIn 24 = .ok (.iload 6, 2) := by decide +kernel
theorem dX0_isAnyoneIn_26 : decode cX0_isAnyoneIn 26 = .ok (.iload 5, 2) := by decide +kernel
theorem dX0_isAnyoneIn_28 : decode cX0_isAnyoneIn 28 = .ok (.invokevirtual 67, 3) := by decide +kernel
theorem dX0_isAnyoneIn_31 : decode cX0_isAnyoneIn 31 = .ok (.invokevirtual 73, 3) := by decide +kernel
theorem dX0_isAnyoneIn_34 : decode cX0_isAnyoneIn 34 = .ok (.iconst (-1), 1) := by decide +kernel
theorem dX0_isAnyoneIn_35 : decode cX0_isAnyoneIn 35 = .ok (.if_icmp .eq 5, 3) := by decide +kernel
theorem dX0_isAnyoneIn_38 : decode cX0_isAnyoneIn 38 = .ok (.iconst 1, 1) := by decide +kernel
theorem dX0_isAnyoneIn_39 : decode cX0_isAnyoneIn 39 = .ok (.ireturn, 1) := by decide +kernel
theorem dX0_isAnyoneIn_40 : decode cX0_isAnyoneIn 40 = .ok (.iinc 6 1, 3) := by decide +kernel
theorem dX0_isAnyoneIn_43 : decode cX0_isAnyoneIn 43 = .ok (.goto (-30), 3) := by decide +kernel
theorem dX0_isAnyoneIn_46 : decode cX0_isAnyoneIn 46 = .ok (.iinc 5 1, 3) := by decide +kernel
theorem dX0_isAnyoneIn_49 : decode cX0_isAnyoneIn 49 = .ok (.goto (-46), 3) := by decide +kernel
theorem dX0_isAnyoneIn_52 : decode cX0_isAnyoneIn 52 = .ok (.iconst 0, 1) := by decide +kernel
theorem dX0_isAnyoneIn_53 : decode cX0_isAnyoneIn 53 = .ok (.ireturn, 1) := by decide +kernel
theorem dX0_add_0 : decode cX0_add 0 = .ok (.aload_n 0, 1) := by decide +kernel
theorem dX0_add_1 : decode cX0_add 1 = .ok (.getfield 43, 3) := by decide +kernel
theorem dX0_add_4 : decode cX0_add 4 = .ok (.bipush 24, 2) := by decide +kernel
theorem dX0_add_6 : decode cX0_add 6 = .ok (.if_icmp .ge 15, 3) := by decide +kernel
theorem dX0_add_9 : decode cX0_add 9 = .ok (.aload_n 0, 1) := by decide +kernel
theorem dX0_add_10 : decode cX0_add 10 = .ok (.getfield 34, 3) := by decide +kernel
theorem dX0_add_13 : decode cX0_add 13 = .ok (.iload 4, 2) := by decide +kernel
theorem dX0_add_15 : decode cX0_add 15 = .ok (.invokevirtual 77, 3) := by decide +kernel
theorem dX0_add_18 : decode cX0_add 18 = .ok (.ifCond .ne 5, 3) := by decide +kernel
theorem dX0_add_21 : decode cX0_add 21 = .ok (.iconst (-1), 1) := by decide +kernel
theorem dX0_add_22 : decode cX0_add 22 = .ok (.ireturn, 1) := by decide +kernel
theorem dX0_add_23 : decode cX0_add 23 = .ok (.aload_n 0, 1) := by decide +kernel
theorem dX0_add_24 : decode cX0_add 24 = .ok (.getfield 43, 3) := by decide +kernel
theorem dX0_add_27 : decode cX0_add 27 = .ok (.istore 5, 2) := by decide +kernel
theorem dX0_add_29 : decode cX0_add 29 = .ok (.aload_n 0, 1) := by decide +kernel
theorem dX0_add_30 : decode cX0_add 30 = .ok (.dup, 1) := by decide +kernel
theorem dX0_add_31 : decode cX0_add 31 = .ok (.getfield 43, 3) := by decide +kernel
theorem dX0_add_34 : decode cX0_add 34 = .ok (.iconst 1, 1) := by decide +kernel
theorem dX0_add_35 : decode cX0_add 35 = .ok (.iadd, 1) := by decide +kernel
theorem dX0_add_36 : decode cX0_add 36 = .ok (.putfield 43, 3) := by decide +kernel
theorem dX0_add_39 : decode cX0_add 39 = .ok (.aload_n 0, 1) := by decide +kernel
theorem dX0_add_40 : decode cX0_add 40 = .ok (.iload 5, 2) := by decide +kernel
theorem dX0_add_42 : decode cX0_add 42 = .ok (.invokevirtual 55, 3) := by decide +kernel
theorem dX0_add_45 : decode cX0_add 45 = .ok (.astore 6, 2) := by decide +kernel
theorem dX0_add_47 : decode cX0_add 47 = .ok (.aload 6, 2) := by decide +kernel
theorem dX0_add_49 : decode cX0_add 49 = .ok (.ifnull 13, 3) := by decide +kernel
theorem dX0_add_52 : decode cX0_add 52 = .ok (.aload 6, 2) := by decide +kernel
theorem dX0_add_54 : decode cX0_add 54 = .ok (.iload_n 1, 1) := by decide +kernel
theorem dX0_add_55 : decode cX0_add 55 = .ok (.iload_n 2, 1) := by decide +kernel
theorem dX0_add_56 : decode cX0_add 56 = .ok (.iload_n 3, 1) := by decide +kernel
theorem dX0_add_57 : decode cX0_add 57 = .ok (.iload 4, 2) := by decide +kernel
theorem dX0_add_59 : decode cX0_add 59 = .ok (.invokevirtual 81, 3) := by decide +kernel
theorem dX0_add_62 : decode cX0_add 62 = .ok (.aload_n 0, 1) := by decide +kernel
theorem dX0_add_63 : decode cX0_add 63 = .ok (.getfield 24, 3) := by decide +kernel
theorem dX0_add_66 : decode cX0_add 66 = .ok (.iload 4, 2) := by decide +kernel
theorem dX0_add_68 : decode cX0_add 68 = .ok (.iload 5, 2) := by decide +kernel
theorem dX0_add_70 : decode cX0_add 70 = .ok (.iastore, 1) := by decide +kernel
theorem dX0_add_71 : decode cX0_add 71 = .ok (.iload 5, 2) := by decide +kernel
theorem dX0_add_73 : decode cX0_add 73 = .ok (.ireturn, 1) := by decide +kernel
theorem dX0_heatOf_0 : decode cX0_heatOf 0 = .ok (.iload_n 1, 1) := by decide +kernel
theorem dX0_heatOf_1 : decode cX0_heatOf 1 = .ok (.ifCond .lt 19, 3) := by decide +kernel
theorem dX0_heatOf_4 : decode cX0_heatOf 4 = .ok (.iload_n 1, 1) := by decide +kernel
theorem dX0_heatOf_5 : decode cX0_heatOf 5 = .ok (.sipush 196, 3) := by decide +kernel
theorem dX0_heatOf_8 : decode cX0_heatOf 8 = .ok (.if_icmp .ge 12, 3) := by decide +kernel
theorem dX0_heatOf_11 : decode cX0_heatOf 11 = .ok (.aload_n 0, 1) := by decide +kernel
theorem dX0_heatOf_12 : decode cX0_heatOf 12 = .ok (.getfield 28, 3) := by decide +kernel
theorem dX0_heatOf_15 : decode cX0_heatOf 15 = .ok (.iload_n 1, 1) := by decide +kernel
theorem dX0_heatOf_16 : decode cX0_heatOf 16 = .ok (.iaload, 1) := by decide +kernel
theorem dX0_heatOf_17 : decode cX0_heatOf 17 = .ok (.goto 4, 3) := by decide +kernel
theorem dX0_heatOf_20 : decode cX0_heatOf 20 = .ok (.iconst 0, 1) := by decide +kernel
theorem dX0_heatOf_21 : decode cX0_heatOf 21 = .ok (.ireturn, 1) := by decide +kernel
theorem dX0_hottest_0 : decode cX0_hottest 0 = .ok (.iconst 0, 1) := by decide +kernel
theorem dX0_hottest_1 : decode cX0_hottest 1 = .ok (.istore_n 1, 1) := by decide +kernel
theorem dX0_hottest_2 : decode cX0_hottest 2 = .ok (.iconst 1, 1) := by decide +kernel
theorem dX0_hottest_3 : decode cX0_hottest 3 = .ok (.istore_n 2, 1) := by decide +kernel
theorem dX0_hottest_4 : decode cX0_hottest 4 = .ok (.iload_n 2, 1) := by decide +kernel
theorem dX0_hottest_5 : decode cX0_hottest 5 = .ok (.aload_n 0, 1) := by decide +kernel
theorem dX0_hottest_6 : decode cX0_hottest 6 = .ok (.getfield 34, 3) := by decide +kernel
theorem dX0_hottest_9 : decode cX0_hottest 9 = .ok (.getfield 85, 3) := by decide +kernel
theorem dX0_hottest_12 : decode cX0_hottest 12 = .ok (.if_icmp .ge 24, 3) := by decide +kernel
theorem dX0_hottest_15 : decode cX0_hottest 15 = .ok (.aload_n 0, 1) := by decide +kernel
theorem dX0_hottest_16 : decode cX0_hottest 16 = .ok (.iload_n 2, 1) := by decide +kernel
theorem dX0_hottest_17 : decode cX0_hottest 17 = .ok (.invokevirtual 88, 3) := by decide +kernel
theorem dX0_hottest_20 : decode cX0_hottest 20 = .ok (.aload_n 0, 1) := by decide +kernel
theorem dX0_hottest_21 : decode cX0_hottest 21 = .ok (.iload_n 1, 1) := by decide +kernel
theorem dX0_hottest_22 : decode cX0_hottest 22 = .ok (.invokevirtual 88, 3) := by decide +kernel
theorem dX0_hottest_25 : decode cX0_hottest 25 = .ok (.if_icmp .le 5, 3) := by decide +kernel
theorem dX0_hottest_28 : decode cX0_hottest 28 = .ok (.iload_n 2, 1) := by decide +kernel
theorem dX0_hottest_29 : decode cX0_hottest 29 = .ok (.istore_n 1, 1) := by decide +kernel
theorem dX0_hottest_30 : decode cX0_hottest 30 = .ok (.iinc 2 1, 3) := by decide +kernel
theorem dX0_hottest_33 : decode cX0_hottest 33 = .ok (.goto (-29), 3) := by decide +kernel
theorem dX0_hottest_36 : decode cX0_hottest 36 = .ok (.iload_n 1, 1) := by decide +kernel
theorem dX0_hottest_37 : decode cX0_hottest 37 = .ok (.ireturn, 1) := by decide +kernel
theorem dX0_countOut_0 : decode cX0_countOut 0 = .ok (.iconst 0, 1) := by decide +kernel
theorem dX0_countOut_1 : decode cX0_countOut 1 = .ok (.istore_n 1, 1) := by decide +kernel
theorem dX0_countOut_2 : decode cX0_countOut 2 = .ok (.iconst 0, 1) := by decide +kernel
theorem dX0_countOut_3 : decode cX0_countOut 3 = .ok (.istore_n 2, 1) := by decide +kernel
theorem dX0_countOut_4 : decode cX0_countOut 4 = .ok (.iload_n 2, 1) := by decide +kernel
theorem dX0_countOut_5 : decode cX0_countOut 5 = .ok (.aload_n 0, 1) := by decide +kernel
theorem dX0_countOut_6 : decode cX0_countOut 6 = .ok (.getfield 43, 3) := by decide +kernel
theorem dX0_countOut_9 : decode cX0_countOut 9 = .ok (.if_icmp .ge 29, 3) := by decide +kernel
theorem dX0_countOut_12 : decode cX0_countOut 12 = .ok (.aload_n 0, 1) := by decide +kernel
theorem dX0_countOut_13 : decode cX0_countOut 13 = .ok (.iload_n 2, 1) := by decide +kernel
theorem dX0_countOut_14 : decode cX0_countOut 14 = .ok (.invokevirtual 55, 3) := by decide +kernel
theorem dX0_countOut_17 : decode cX0_countOut 17 = .ok (.astore_n 3, 1) := by decide +kernel
theorem dX0_countOut_18 : decode cX0_countOut 18 = .ok (.aload_n 3, 1) := by decide +kernel
theorem dX0_countOut_19 : decode cX0_countOut 19 = .ok (.ifnull 13, 3) := by decide +kernel
theorem dX0_countOut_22 : decode cX0_countOut 22 = .ok (.aload_n 3, 1) := by decide +kernel
theorem dX0_countOut_23 : decode cX0_countOut 23 = .ok (.invokevirtual 91, 3) := by decide +kernel
theorem dX0_countOut_26 : decode cX0_countOut 26 = .ok (.ifCond .eq 6, 3) := by decide +kernel
theorem dX0_countOut_29 : decode cX0_countOut 29 = .ok (.iinc 1 1, 3) := by decide +kernel
theorem dX0_countOut_32 : decode cX0_countOut 32 = .ok (.iinc 2 1, 3) := by decide +kernel
theorem dX0_countOut_35 : decode cX0_countOut 35 = .ok (.goto (-31), 3) := by decide +kernel
theorem dX0_countOut_38 : decode cX0_countOut 38 = .ok (.iload_n 1, 1) := by decide +kernel
theorem dX0_countOut_39 : decode cX0_countOut 39 = .ok (.ireturn, 1) := by decide +kernel
theorem dX0_countLost_0 : decode cX0_countLost 0 = .ok (.iconst 0, 1) := by decide +kernel
theorem dX0_countLost_1 : decode cX0_countLost 1 = .ok (.istore_n 1, 1) := by decide +kernel
theorem dX0_countLost_2 : decode cX0_countLost 2 = .ok (.iconst 0, 1) := by decide +kernel
theorem dX0_countLost_3 : decode cX0_countLost 3 = .ok (.istore_n 2, 1) := by decide +kernel
theorem dX0_countLost_4 : decode cX0_countLost 4 = .ok (.iload_n 2, 1) := by decide +kernel
theorem dX0_countLost_5 : decode cX0_countLost 5 = .ok (.aload_n 0, 1) := by decide +kernel
theorem dX0_countLost_6 : decode cX0_countLost 6 = .ok (.getfield 43, 3) := by decide +kernel
theorem dX0_countLost_9 : decode cX0_countLost 9 = .ok (.if_icmp .ge 48, 3) := by decide +kernel
theorem dX0_countLost_12 : decode cX0_countLost 12 = .ok (.aload_n 0, 1) := by decide +kernel
theorem dX0_countLost_13 : decode cX0_countLost 13 = .ok (.iload_n 2, 1) := by decide +kernel
theorem dX0_countLost_14 : decode cX0_countLost 14 = .ok (.invokevirtual 55, 3) := by decide +kernel
theorem dX0_countLost_17 : decode cX0_countLost 17 = .ok (.astore_n 3, 1) := by decide +kernel
theorem dX0_countLost_18 : decode cX0_countLost 18 = .ok (.aload_n 3, 1) := by decide +kernel
theorem dX0_countLost_19 : decode cX0_countLost 19 = .ok (.ifnull 32, 3) := by decide +kernel
theorem dX0_countLost_22 : decode cX0_countLost 22 = .ok (.aload_n 3, 1) := by decide +kernel
theorem dX0_countLost_23 : decode cX0_countLost 23 = .ok (.invokevirtual 91, 3) := by decide +kernel
theorem dX0_countLost_26 : decode cX0_countLost 26 = .ok (.ifCond .ne 25, 3) := by decide +kernel
theorem dX0_countLost_29 : decode cX0_countLost 29 = .ok (.aload_n 0, 1) := by decide +kernel
theorem dX0_countLost_30 : decode cX0_countLost 30 = .ok (.getfield 38, 3) := by decide +kernel
theorem dX0_countLost_33 : decode cX0_countLost 33 = .ok (.aload_n 3, 1) := by decide +kernel
theorem dX0_countLost_34 : decode cX0_countLost 34 = .ok (.getfield 95, 3) := by decide +kernel
theorem dX0_countLost_37 : decode cX0_countLost 37 = .ok (.aload_n 3, 1) := by decide +kernel
theorem dX0_countLost_38 : decode cX0_countLost 38 = .ok (.getfield 98, 3) := by decide +kernel
theorem dX0_countLost_41 : decode cX0_countLost 41 = .ok (.invokevirtual 101, 3) := by decide +kernel
theorem dX0_countLost_44 : decode cX0_countLost 44 = .ok (.iconst (-1), 1) := by decide +kernel
theorem dX0_countLost_45 : decode cX0_countLost 45 = .ok (.if_icmp .ne 6, 3) := by decide +kernel
theorem dX0_countLost_48 : decode cX0_countLost 48 = .ok (.iinc 1 1, 3) := by decide +kernel
theorem dX0_countLost_51 : decode cX0_countLost 51 = .ok (.iinc 2 1, 3) := by decide +kernel
theorem dX0_countLost_54 : decode cX0_countLost 54 = .ok (.goto (-50), 3) := by decide +kernel
theorem dX0_countLost_57 : decode cX0_countLost 57 = .ok (.iload_n 1, 1) := by decide +kernel
theorem dX0_countLost_58 : decode cX0_countLost 58 = .ok (.ireturn, 1) := by decide +kernel
theorem dX0_countSteps_0 : decode cX0_countSteps 0 = .ok (.iconst 0, 1) := by decide +kernel
theorem dX0_countSteps_1 : decode cX0_countSteps 1 = .ok (.istore_n 2, 1) := by decide +kernel
theorem dX0_countSteps_2 : decode cX0_countSteps 2 = .ok (.iconst 0, 1) := by decide +kernel
theorem dX0_countSteps_3 : decode cX0_countSteps 3 = .ok (.istore_n 3, 1) := by decide +kernel
theorem dX0_countSteps_4 : decode cX0_countSteps 4 = .ok (.iload_n 3, 1) := by decide +kernel
theorem dX0_countSteps_5 : decode cX0_countSteps 5 = .ok (.aload_n 0, 1) := by decide +kernel
theorem dX0_countSteps_6 : decode cX0_countSteps 6 = .ok (.getfield 43, 3) := by decide +kernel
theorem dX0_countSteps_9 : decode cX0_countSteps 9 = .ok (.if_icmp .ge 41, 3) := by decide +kernel
theorem dX0_countSteps_12 : decode cX0_countSteps 12 = .ok (.aload_n 0, 1) := by decide +kernel
theorem dX0_countSteps_13 : decode cX0_countSteps 13 = .ok (.iload_n 3, 1) := by decide +kernel
theorem dX0_countSteps_14 : decode cX0_countSteps 14 = .ok (.invokevirtual 55, 3) := by decide +kernel
theorem dX0_countSteps_17 : decode cX0_countSteps 17 = .ok (.astore 4, 2) := by decide +kernel
theorem dX0_countSteps_19 : decode cX0_countSteps 19 = .ok (.aload 4, 2) := by decide +kernel
theorem dX0_countSteps_21 : decode cX0_countSteps 21 = .ok (.ifnull 23, 3) := by decide +kernel
theorem dX0_countSteps_24 : decode cX0_countSteps 24 = .ok (.iload_n 1, 1) := by decide +kernel
theorem dX0_countSteps_25 : decode cX0_countSteps 25 = .ok (.ifCond .eq 11, 3) := by decide +kernel
theorem dX0_countSteps_28 : decode cX0_countSteps 28 = .ok (.aload 4, 2) := by decide +kernel
theorem dX0_countSteps_30 : decode cX0_countSteps 30 = .ok (.invokevirtual 91, 3) := by decide +kernel
theorem dX0_countSteps_33 : decode cX0_countSteps 33 = .ok (.ifCond .eq 11, 3) := by decide +kernel
theorem dX0_countSteps_36 : decode cX0_countSteps 36 = .ok (.iload_n 2, 1) := by decide +kernel
theorem dX0_countSteps_37 : decode cX0_countSteps 37 = .ok (.aload 4, 2) := by decide +kernel
theorem dX0_countSteps_39 : decode cX0_countSteps 39 = .ok (.getfield 106, 3) := by decide +kernel
theorem dX0_countSteps_42 : decode cX0_countSteps 42 = .ok (.iadd, 1) := by decide +kernel
theorem dX0_countSteps_43 : decode cX0_countSteps 43 = .ok (.istore_n 2, 1) := by decide +kernel
theorem dX0_countSteps_44 : decode cX0_countSteps 44 = .ok (.iinc 3 1, 3) := by decide +kernel
theorem dX0_countSteps_47 : decode cX0_countSteps 47 = .ok (.goto (-43), 3) := by decide +kernel
theorem dX0_countSteps_50 : decode cX0_countSteps 50 = .ok (.iload_n 2, 1) := by decide +kernel
theorem dX0_countSteps_51 : decode cX0_countSteps 51 = .ok (.ireturn, 1) := by decide +kernel
theorem dX0_walkerFigure_0 : decode cX0_walkerFigure 0 = .ok (.iload_n 2, 1) := by decide +kernel
theorem dX0_walkerFigure_1 : decode cX0_walkerFigure 1 = .ok (.tableswitch 109 0 7 #[47, 52, 57, 62, 67, 72, 77, 82], 47) := by decide +kernel
theorem dX0_walkerFigure_48 : decode cX0_walkerFigure 48 = .ok (.aload_n 1, 1) := by decide +kernel
theorem dX0_walkerFigure_49 : decode cX0_walkerFigure 49 = .ok (.getfield 95, 3) := by decide +kernel
theorem dX0_walkerFigure_52 : decode cX0_walkerFigure 52 = .ok (.ireturn, 1) := by decide +kernel
theorem dX0_walkerFigure_53 : decode cX0_walkerFigure 53 = .ok (.aload_n 1, 1) := by decide +kernel
theorem dX0_walkerFigure_54 : decode cX0_walkerFigure 54 = .ok (.getfield 109, 3) := by decide +kernel
theorem dX0_walkerFigure_57 : decode cX0_walkerFigure 57 = .ok (.ireturn, 1) := by decide +kernel
theorem dX0_walkerFigure_58 : decode cX0_walkerFigure 58 = .ok (.aload_n 1, 1) := by decide +kernel
theorem dX0_walkerFigure_59 : decode cX0_walkerFigure 59 = .ok (.getfield 112, 3) := by decide +kernel
theorem dX0_walkerFigure_62 : decode cX0_walkerFigure 62 = .ok (.ireturn, 1) := by decide +kernel
theorem dX0_walkerFigure_63 : decode cX0_walkerFigure 63 = .ok (.aload_n 1, 1) := by decide +kernel
theorem dX0_walkerFigure_64 : decode cX0_walkerFigure 64 = .ok (.getfield 98, 3) := by decide +kernel
theorem dX0_walkerFigure_67 : decode cX0_walkerFigure 67 = .ok (.ireturn, 1) := by decide +kernel
theorem dX0_walkerFigure_68 : decode cX0_walkerFigure 68 = .ok (.aload_n 1, 1) := by decide +kernel
theorem dX0_walkerFigure_69 : decode cX0_walkerFigure 69 = .ok (.getfield 115, 3) := by decide +kernel
theorem dX0_walkerFigure_72 : decode cX0_walkerFigure 72 = .ok (.ireturn, 1) := by decide +kernel
theorem dX0_walkerFigure_73 : decode cX0_walkerFigure 73 = .ok (.aload_n 1, 1) := by decide +kernel
theorem dX0_walkerFigure_74 : decode cX0_walkerFigure 74 = .ok (.getfield 118, 3) := by decide +kernel
theorem dX0_walkerFigure_77 : decode cX0_walkerFigure 77 = .ok (.ireturn, 1) := by decide +kernel
theorem dX0_walkerFigure_78 : decode cX0_walkerFigure 78 = .ok (.aload_n 1, 1) := by decide +kernel
theorem dX0_walkerFigure_79 : decode cX0_walkerFigure 79 = .ok (.getfield 106, 3) := by decide +kernel
theorem dX0_walkerFigure_82 : decode cX0_walkerFigure 82 = .ok (.ireturn, 1) := by decide +kernel
theorem dX0_walkerFigure_83 : decode cX0_walkerFigure 83 = .ok (.aload_n 1, 1) := by decide +kernel
theorem dX0_walkerFigure_84 : decode cX0_walkerFigure 84 = .ok (.invokevirtual 91, 3) := by decide +kernel
theorem dX0_walkerFigure_87 : decode cX0_walkerFigure 87 = .ok (.ifCond .eq 7, 3) := by decide +kernel
theorem dX0_walkerFigure_90 : decode cX0_walkerFigure 90 = .ok (.iconst 0, 1) := by decide +kernel
theorem dX0_walkerFigure_91 : decode cX0_walkerFigure 91 = .ok (.goto 18, 3) := by decide +kernel
theorem dX0_walkerFigure_94 : decode cX0_walkerFigure 94 = .ok (.aload_n 0, 1) := by decide +kernel
theorem dX0_walkerFigure_95 : decode cX0_walkerFigure 95 = .ok (.getfield 38, 3) := by decide +kernel
theorem dX0_walkerFigure_98 : decode cX0_walkerFigure 98 = .ok (.aload_n 1, 1) := by decide +kernel
theorem dX0_walkerFigure_99 : decode cX0_walkerFigure 99 = .ok (.getfield 95, 3) := by decide +kernel
theorem dX0_walkerFigure_102 : decode cX0_walkerFigure 102 = .ok (.aload_n 1, 1) := by decide +kernel
theorem dX0_walkerFigure_103 : decode cX0_walkerFigure 103 = .ok (.getfield 98, 3) := by decide +kernel
theorem dX0_walkerFigure_106 : decode cX0_walkerFigure 106 = .ok (.invokevirtual 101, 3) := by decide +kernel
theorem dX0_walkerFigure_109 : decode cX0_walkerFigure 109 = .ok (.ireturn, 1) := by decide +kernel
theorem dX0_walkerFigure_110 : decode cX0_walkerFigure 110 = .ok (.aload_n 1, 1) := by decide +kernel
theorem dX0_walkerFigure_111 : decode cX0_walkerFigure 111 = .ok (.getfield 121, 3) := by decide +kernel
theorem dX0_walkerFigure_114 : decode cX0_walkerFigure 114 = .ok (.ireturn, 1) := by decide +kernel
theorem dX0_countRound_0 : decode cX0_countRound 0 = .ok (.iconst 0, 1) := by decide +kernel
theorem dX0_countRound_1 : decode cX0_countRound 1 = .ok (.istore_n 2, 1) := by decide +kernel
theorem dX0_countRound_2 : decode cX0_countRound 2 = .ok (.iconst 0, 1) := by decide +kernel
theorem dX0_countRound_3 : decode cX0_countRound 3 = .ok (.istore_n 3, 1) := by decide +kernel
theorem dX0_countRound_4 : decode cX0_countRound 4 = .ok (.iload_n 3, 1) := by decide +kernel
theorem dX0_countRound_5 : decode cX0_countRound 5 = .ok (.bipush 8, 2) := by decide +kernel
theorem dX0_countRound_7 : decode cX0_countRound 7 = .ok (.if_icmp .ge 29, 3) := by decide +kernel
theorem dX0_countRound_10 : decode cX0_countRound 10 = .ok (.aload_n 0, 1) := by decide +kernel
theorem dX0_countRound_11 : decode cX0_countRound 11 = .ok (.aload_n 0, 1) := by decide +kernel
theorem dX0_countRound_12 : decode cX0_countRound 12 = .ok (.getfield 34, 3) := by decide +kernel
theorem dX0_countRound_15 : decode cX0_countRound 15 = .ok (.iload_n 1, 1) := by decide +kernel
theorem dX0_countRound_16 : decode cX0_countRound 16 = .ok (.iload_n 3, 1) := by decide +kernel
theorem dX0_countRound_17 : decode cX0_countRound 17 = .ok (.invokevirtual 124, 3) := by decide +kernel
theorem dX0_countRound_20 : decode cX0_countRound 20 = .ok (.invokevirtual 73, 3) := by decide +kernel
theorem dX0_countRound_23 : decode cX0_countRound 23 = .ok (.iconst (-1), 1) := by decide +kernel
theorem dX0_countRound_24 : decode cX0_countRound 24 = .ok (.if_icmp .eq 6, 3) := by decide +kernel
theorem dX0_countRound_27 : decode cX0_countRound 27 = .ok (.iinc 2 1, 3) := by decide +kernel
theorem dX0_countRound_30 : decode cX0_countRound 30 = .ok (.iinc 3 1, 3) := by decide +kernel
theorem dX0_countRound_33 : decode cX0_countRound 33 = .ok (.goto (-29), 3) := by decide +kernel
theorem dX0_countRound_36 : decode cX0_countRound 36 = .ok (.iload_n 2, 1) := by decide +kernel
theorem dX0_countRound_37 : decode cX0_countRound 37 = .ok (.ireturn, 1) := by decide +kernel
theorem dX0_countFacing_0 : decode cX0_countFacing 0 = .ok (.iconst 0, 1) := by decide +kernel
theorem dX0_countFacing_1 : decode cX0_countFacing 1 = .ok (.istore_n 3, 1) := by decide +kernel
theorem dX0_countFacing_2 : decode cX0_countFacing 2 = .ok (.iconst 0, 1) := by decide +kernel
theorem dX0_countFacing_3 : decode cX0_countFacing 3 = .ok (.istore 4, 2) := by decide +kernel
theorem dX0_countFacing_5 : decode cX0_countFacing 5 = .ok (.iload 4, 2) := by decide +kernel
theorem dX0_countFacing_7 : decode cX0_countFacing 7 = .ok (.bipush 8, 2) := by decide +kernel
theorem dX0_countFacing_9 : decode cX0_countFacing 9 = .ok (.if_icmp .ge 46, 3) := by decide +kernel
theorem dX0_countFacing_12 : decode cX0_countFacing 12 = .ok (.aload_n 0, 1) := by decide +kernel
theorem dX0_countFacing_13 : decode cX0_countFacing 13 = .ok (.aload_n 0, 1) := by decide +kernel
theorem dX0_countFacing_14 : decode cX0_countFacing 14 = .ok (.aload_n 0, 1) := by decide +kernel
theorem dX0_countFacing_15 : decode cX0_countFacing 15 = .ok (.getfield 34, 3) := by decide +kernel
theorem dX0_countFacing_18 : decode cX0_countFacing 18 = .ok (.iload_n 1, 1) := by decide +kernel
theorem dX0_countFacing_19 : decode cX0_countFacing 19 = .ok (.iload 4, 2) := by decide +kernel
theorem dX0_countFacing_21 : decode cX0_countFacing 21 = .ok (.invokevirtual 124, 3) := by decide +kernel
theorem dX0_countFacing_24 : decode cX0_countFacing 24 = .ok (.invokevirtual 73, 3) := by decide +kernel
theorem dX0_countFacing_27 : decode cX0_countFacing 27 = .ok (.invokevirtual 55, 3) := by decide +kernel
theorem dX0_countFacing_30 : decode cX0_countFacing 30 = .ok (.astore 5, 2) := by decide +kernel
theorem dX0_countFacing_32 : decode cX0_countFacing 32 = .ok (.aload 5, 2) := by decide +kernel
theorem dX0_countFacing_34 : decode cX0_countFacing 34 = .ok (.ifnull 15, 3) := by decide +kernel
theorem dX0_countFacing_37 : decode cX0_countFacing 37 = .ok (.aload 5, 2) := by decide +kernel
theorem dX0_countFacing_39 : decode cX0_countFacing 39 = .ok (.getfield 115, 3) := by decide +kernel
theorem dX0_countFacing_42 : decode cX0_countFacing 42 = .ok (.iload_n 2, 1) := by decide +kernel
theorem dX0_countFacing_43 : decode cX0_countFacing 43 = .ok (.if_icmp .ne 6, 3) := by decide +kernel
theorem dX0_countFacing_46 : decode cX0_countFacing 46 = .ok (.iinc 3 1, 3) := by decide +kernel
theorem dX0_countFacing_49 : decode cX0_countFacing 49 = .ok (.iinc 4 1, 3) := by decide +kernel
theorem dX0_countFacing_52 : decode cX0_countFacing 52 = .ok (.goto (-47), 3) := by decide +kernel
theorem dX0_countFacing_55 : decode cX0_countFacing 55 = .ok (.iload_n 3, 1) := by decide +kernel
theorem dX0_countFacing_56 : decode cX0_countFacing 56 = .ok (.ireturn, 1) := by decide +kernel
theorem dX0_costOf_0 : decode cX0_costOf 0 = .ok (.iload_n 2, 1) := by decide +kernel
theorem dX0_costOf_1 : decode cX0_costOf 1 = .ok (.iconst 4, 1) := by decide +kernel
theorem dX0_costOf_2 : decode cX0_costOf 2 = .ok (.if_icmp .ne 49, 3) := by decide +kernel
theorem dX0_costOf_5 : decode cX0_costOf 5 = .ok (.aload_n 0, 1) := by decide +kernel
theorem dX0_costOf_6 : decode cX0_costOf 6 = .ok (.getfield 38, 3) := by decide +kernel
theorem dX0_costOf_9 : decode cX0_costOf 9 = .ok (.aload_n 1, 1) := by decide +kernel
theorem dX0_costOf_10 : decode cX0_costOf 10 = .ok (.getfield 95, 3) := by decide +kernel
theorem dX0_costOf_13 : decode cX0_costOf 13 = .ok (.aload_n 1, 1) := by decide +kernel
theorem dX0_costOf_14 : decode cX0_costOf 14 = .ok (.getfield 98, 3) := by decide +kernel
theorem dX0_costOf_17 : decode cX0_costOf 17 = .ok (.invokevirtual 101, 3) := by decide +kernel
theorem dX0_costOf_20 : decode cX0_costOf 20 = .ok (.istore_n 3, 1) := by decide +kernel
theorem dX0_costOf_21 : decode cX0_costOf 21 = .ok (.iload_n 3, 1) := by decide +kernel
theorem dX0_costOf_22 : decode cX0_costOf 22 = .ok (.iconst (-1), 1) := by decide +kernel
theorem dX0_costOf_23 : decode cX0_costOf 23 = .ok (.if_icmp .ne 9, 3) := by decide +kernel
theorem dX0_costOf_26 : decode cX0_costOf 26 = .ok (.sipush 10000, 3) := by decide +kernel
theorem dX0_costOf_29 : decode cX0_costOf 29 = .ok (.goto 21, 3) := by decide +kernel
theorem dX0_costOf_32 : decode cX0_costOf 32 = .ok (.bipush 10, 2) := by decide +kernel
theorem dX0_costOf_34 : decode cX0_costOf 34 = .ok (.iload_n 3, 1) := by decide +kernel
theorem dX0_costOf_35 : decode cX0_costOf 35 = .ok (.imul, 1) := by decide +kernel
theorem dX0_costOf_36 : decode cX0_costOf 36 = .ok (.aload_n 1, 1) := by decide +kernel
theorem dX0_costOf_37 : decode cX0_costOf 37 = .ok (.getfield 112, 3) := by decide +kernel
theorem dX0_costOf_40 : decode cX0_costOf 40 = .ok (.aload_n 0, 1) := by decide +kernel
theorem dX0_costOf_41 : decode cX0_costOf 41 = .ok (.aload_n 1, 1) := by decide +kernel
theorem dX0_costOf_42 : decode cX0_costOf 42 = .ok (.getfield 98, 3) := by decide +kernel
theorem dX0_costOf_45 : decode cX0_costOf 45 = .ok (.invokevirtual 127, 3) := by decide +kernel
theorem dX0_costOf_48 : decode cX0_costOf 48 = .ok (.imul, 1) := by decide +kernel
theorem dX0_costOf_49 : decode cX0_costOf 49 = .ok (.iadd, 1) := by decide +kernel
theorem dX0_costOf_50 : decode cX0_costOf 50 = .ok (.ireturn, 1) := by decide +kernel
theorem dX0_costOf_51 : decode cX0_costOf 51 = .ok (.aload_n 0, 1) := by decide +kernel
theorem dX0_costOf_52 : decode cX0_costOf 52 = .ok (.getfield 34, 3) := by decide +kernel
theorem dX0_costOf_55 : decode cX0_costOf 55 = .ok (.aload_n 1, 1) := by decide +kernel
theorem dX0_costOf_56 : decode cX0_costOf 56 = .ok (.getfield 98, 3) := by decide +kernel
theorem dX0_costOf_59 : decode cX0_costOf 59 = .ok (.iload_n 2, 1) := by decide +kernel
theorem dX0_costOf_60 : decode cX0_costOf 60 = .ok (.invokevirtual 124, 3) := by decide +kernel
theorem dX0_costOf_63 : decode cX0_costOf 63 = .ok (.istore_n 3, 1) := by decide +kernel
theorem dX0_costOf_64 : decode cX0_costOf 64 = .ok (.aload_n 0, 1) := by decide +kernel
theorem dX0_costOf_65 : decode cX0_costOf 65 = .ok (.getfield 38, 3) := by decide +kernel
theorem dX0_costOf_68 : decode cX0_costOf 68 = .ok (.aload_n 1, 1) := by decide +kernel
theorem dX0_costOf_69 : decode cX0_costOf 69 = .ok (.getfield 95, 3) := by decide +kernel
theorem dX0_costOf_72 : decode cX0_costOf 72 = .ok (.iload_n 3, 1) := by decide +kernel
theorem dX0_costOf_73 : decode cX0_costOf 73 = .ok (.invokevirtual 101, 3) := by decide +kernel
theorem dX0_costOf_76 : decode cX0_costOf 76 = .ok (.istore 4, 2) := by decide +kernel
theorem dX0_costOf_78 : decode cX0_costOf 78 = .ok (.iload 4, 2) := by decide +kernel
theorem dX0_costOf_80 : decode cX0_costOf 80 = .ok (.iconst (-1), 1) := by decide +kernel
theorem dX0_costOf_81 : decode cX0_costOf 81 = .ok (.if_icmp .eq 12, 3) := by decide +kernel
theorem dX0_costOf_84 : decode cX0_costOf 84 = .ok (.aload_n 0, 1) := by decide +kernel
theorem dX0_costOf_85 : decode cX0_costOf 85 = .ok (.iload_n 3, 1) := by decide +kernel
theorem dX0_costOf_86 : decode cX0_costOf 86 = .ok (.invokevirtual 73, 3) := by decide +kernel
theorem dX0_costOf_89 : decode cX0_costOf 89 = .ok (.iconst (-1), 1) := by decide +kernel
theorem dX0_costOf_90 : decode cX0_costOf 90 = .ok (.if_icmp .eq 7, 3) := by decide +kernel
theorem dX0_costOf_93 : decode cX0_costOf 93 = .ok (.sipush 10000, 3) := by decide +kernel
theorem dX0_costOf_96 : decode cX0_costOf 96 = .ok (.ireturn, 1) := by decide +kernel
theorem dX0_costOf_97 : decode cX0_costOf 97 = .ok (.aload_n 0, 1) := by decide +kernel
theorem dX0_costOf_98 : decode cX0_costOf 98 = .ok (.iload_n 3, 1) := by decide +kernel
theorem dX0_costOf_99 : decode cX0_costOf 99 = .ok (.invokevirtual 127, 3) := by decide +kernel
theorem dX0_costOf_102 : decode cX0_costOf 102 = .ok (.iconst 1, 1) := by decide +kernel
theorem dX0_costOf_103 : decode cX0_costOf 103 = .ok (.isub, 1) := by decide +kernel
theorem dX0_costOf_104 : decode cX0_costOf 104 = .ok (.istore 5, 2) := by decide +kernel
theorem dX0_costOf_106 : decode cX0_costOf 106 = .ok (.bipush 10, 2) := by decide +kernel
theorem dX0_costOf_108 : decode cX0_costOf 108 = .ok (.iload 4, 2) := by decide +kernel
theorem dX0_costOf_110 : decode cX0_costOf 110 = .ok (.imul, 1) := by decide +kernel
theorem dX0_costOf_111 : decode cX0_costOf 111 = .ok (.aload_n 1, 1) := by decide +kernel
theorem dX0_costOf_112 : decode cX0_costOf 112 = .ok (.getfield 112, 3) := by decide +kernel
theorem dX0_costOf_115 : decode cX0_costOf 115 = .ok (.iload 5, 2) := by decide +kernel
theorem dX0_costOf_117 : decode cX0_costOf 117 = .ok (.imul, 1) := by decide +kernel
theorem dX0_costOf_118 : decode cX0_costOf 118 = .ok (.iadd, 1) := by decide +kernel
theorem dX0_costOf_119 : decode cX0_costOf 119 = .ok (.aload_n 0, 1) := by decide +kernel
theorem dX0_costOf_120 : decode cX0_costOf 120 = .ok (.getfield 9, 3) := by decide +kernel
theorem dX0_costOf_123 : decode cX0_costOf 123 = .ok (.aload_n 0, 1) := by decide +kernel
theorem dX0_costOf_124 : decode cX0_costOf 124 = .ok (.aload_n 1, 1) := by decide +kernel
theorem dX0_costOf_125 : decode cX0_costOf 125 = .ok (.getfield 98, 3) := by decide +kernel
theorem dX0_costOf_128 : decode cX0_costOf 128 = .ok (.iload_n 2, 1) := by decide +kernel
theorem dX0_costOf_129 : decode cX0_costOf 129 = .ok (.invokevirtual 130, 3) := by decide +kernel
theorem dX0_costOf_132 : decode cX0_costOf 132 = .ok (.imul, 1) := by decide +kernel
theorem dX0_costOf_133 : decode cX0_costOf 133 = .ok (.isub, 1) := by decide +kernel
theorem dX0_costOf_134 : decode cX0_costOf 134 = .ok (.ireturn, 1) := by decide +kernel
theorem dX0_bestSide_0 : decode cX0_bestSide 0 = .ok (.iconst 4, 1) := by decide +kernel
theorem dX0_bestSide_1 : decode cX0_bestSide 1 = .ok (.istore_n 2, 1) := by decide +kernel
theorem dX0_bestSide_2 : decode cX0_bestSide 2 = .ok (.sipush 10000, 3) := by decide +kernel
theorem dX0_bestSide_5 : decode cX0_bestSide 5 = .ok (.istore_n 3, 1) := by decide +kernel
theorem dX0_bestSide_6 : decode cX0_bestSide 6 = .ok (.iconst 0, 1) := by decide +kernel
theorem dX0_bestSide_7 : decode cX0_bestSide 7 = .ok (.istore 4, 2) := by decide +kernel
theorem dX0_bestSide_9 : decode cX0_bestSide 9 = .ok (.iload 4, 2) := by decide +kernel
theorem dX0_bestSide_11 : decode cX0_bestSide 11 = .ok (.iconst 4, 1) := by decide +kernel
theorem dX0_bestSide_12 : decode cX0_bestSide 12 = .ok (.if_icmp .gt 30, 3) := by decide +kernel
theorem dX0_bestSide_15 : decode cX0_bestSide 15 = .ok (.aload_n 0, 1) := by decide +kernel
theorem dX0_bestSide_16 : decode cX0_bestSide 16 = .ok (.aload_n 1, 1) := by decide +kernel
theorem dX0_bestSide_17 : decode cX0_bestSide 17 = .ok (.iload 4, 2) := by decide +kernel
theorem dX0_bestSide_19 : decode cX0_bestSide 19 = .ok (.invokevirtual 133, 3) := by decide +kernel
theorem dX0_bestSide_22 : decode cX0_bestSide 22 = .ok (.istore 5, 2) := by decide +kernel
theorem dX0_bestSide_24 : decode cX0_bestSide 24 = .ok (.iload 5, 2) := by decide +kernel
theorem dX0_bestSide_26 : decode cX0_bestSide 26 = .ok (.iload_n 3, 1) := by decide +kernel
theorem dX0_bestSide_27 : decode cX0_bestSide 27 = .ok (.if_icmp .ge 9, 3) := by decide +kernel
theorem dX0_bestSide_30 : decode cX0_bestSide 30 = .ok (.iload 5, 2) := by decide +kernel
theorem dX0_bestSide_32 : decode cX0_bestSide 32 = .ok (.istore_n 3, 1) := by decide +kernel
theorem dX0_bestSide_33 : decode cX0_bestSide 33 = .ok (.iload 4, 2) := by decide +kernel
theorem dX0_bestSide_35 : decode cX0_bestSide 35 = .ok (.istore_n 2, 1) := by decide +kernel
theorem dX0_bestSide_36 : decode cX0_bestSide 36 = .ok (.iinc 4 1, 3) := by decide +kernel
theorem dX0_bestSide_39 : decode cX0_bestSide 39 = .ok (.goto (-30), 3) := by decide +kernel
theorem dX0_bestSide_42 : decode cX0_bestSide 42 = .ok (.iload_n 2, 1) := by decide +kernel
theorem dX0_bestSide_43 : decode cX0_bestSide 43 = .ok (.ireturn, 1) := by decide +kernel
theorem dX0_outAfter_0 : decode cX0_outAfter 0 = .ok (.iconst 0, 1) := by decide +kernel
theorem dX0_outAfter_1 : decode cX0_outAfter 1 = .ok (.istore_n 2, 1) := by decide +kernel
theorem dX0_outAfter_2 : decode cX0_outAfter 2 = .ok (.iload_n 2, 1) := by decide +kernel
theorem dX0_outAfter_3 : decode cX0_outAfter 3 = .ok (.iload_n 1, 1) := by decide +kernel
theorem dX0_outAfter_4 : decode cX0_outAfter 4 = .ok (.if_icmp .ge 13, 3) := by decide +kernel
theorem dX0_outAfter_7 : decode cX0_outAfter 7 = .ok (.aload_n 0, 1) := by decide +kernel
theorem dX0_outAfter_8 : decode cX0_outAfter 8 = .ok (.invokevirtual 137, 3) := by decide +kernel
theorem dX0_outAfter_11 : decode cX0_outAfter 11 = .ok (.iinc 2 1, 3) := by decide +kernel
theorem dX0_outAfter_14 : decode cX0_outAfter 14 = .ok (.goto (-12), 3) := by decide +kernel
theorem dX0_outAfter_17 : decode cX0_outAfter 17 = .ok (.aload_n 0, 1) := by decide +kernel
theorem dX0_outAfter_18 : decode cX0_outAfter 18 = .ok (.invokevirtual 140, 3) := by decide +kernel
theorem dX0_outAfter_21 : decode cX0_outAfter 21 = .ok (.ireturn, 1) := by decide +kernel
theorem dX0_ticksTillOut_0 : decode cX0_ticksTillOut 0 = .ok (.aload_n 0, 1) := by decide +kernel
theorem dX0_ticksTillOut_1 : decode cX0_ticksTillOut 1 = .ok (.iload_n 1, 1) := by decide +kernel
theorem dX0_ticksTillOut_2 : decode cX0_ticksTillOut 2 = .ok (.invokevirtual 55, 3) := by decide +kernel
theorem dX0_ticksTillOut_5 : decode cX0_ticksTillOut 5 = .ok (.astore_n 3, 1) := by decide +kernel
theorem dX0_ticksTillOut_6 : decode cX0_ticksTillOut 6 = .ok (.aload_n 3, 1) := by decide +kernel
theorem dX0_ticksTillOut_7 : decode cX0_ticksTillOut 7 = .ok (.ifnonnull 5, 3) := by decide +kernel
theorem dX0_ticksTillOut_10 : decode cX0_ticksTillOut 10 = .ok (.iconst (-1), 1) := by decide +kernel
theorem dX0_ticksTillOut_11 : decode cX0_ticksTillOut 11 = .ok (.ireturn, 1) := by decide +kernel
theorem dX0_ticksTillOut_12 : decode cX0_ticksTillOut 12 = .ok (.iconst 0, 1) := by decide +kernel
theorem dX0_ticksTillOut_13 : decode cX0_ticksTillOut 13 = .ok (.istore 4, 2) := by decide +kernel
theorem dX0_ticksTillOut_15 : decode cX0_ticksTillOut 15 = .ok (.iload 4, 2) := by decide +kernel
theorem dX0_ticksTillOut_17 : decode cX0_ticksTillOut 17 = .ok (.iload_n 2, 1) := by decide +kernel
theorem dX0_ticksTillOut_18 : decode cX0_ticksTillOut 18 = .ok (.if_icmp .gt 28, 3) := by decide +kernel
theorem dX0_ticksTillOut_21 : decode cX0_ticksTillOut 21 = .ok (.iload 4, 2) := by decide +kernel
theorem dX0_ticksTillOut_23 : decode cX0_ticksTillOut 23 = .ok (.ifCond .le 7, 3) := by decide +kernel
theorem dX0_ticksTillOut_26 : decode cX0_ticksTillOut 26 = .ok (.aload_n 0, 1) := by decide +kernel
theorem dX0_ticksTillOut_27 : decode cX0_ticksTillOut 27 = .ok (.invokevirtual 137, 3) := by decide +kernel
theorem dX0_ticksTillOut_30 : decode cX0_ticksTillOut 30 = .ok (.aload_n 3, 1) := by decide +kernel
theorem dX0_ticksTillOut_31 : decode cX0_ticksTillOut 31 = .ok (.invokevirtual 91, 3) := by decide +kernel
theorem dX0_ticksTillOut_34 : decode cX0_ticksTillOut 34 = .ok (.ifCond .eq 6, 3) := by decide +kernel
theorem dX0_ticksTillOut_37 : decode cX0_ticksTillOut 37 = .ok (.iload 4, 2) := by decide +kernel
theorem dX0_ticksTillOut_39 : decode cX0_ticksTillOut 39 = .ok (.ireturn, 1) := by decide +kernel
theorem dX0_ticksTillOut_40 : decode cX0_ticksTillOut 40 = .ok (.iinc 4 1, 3) := by decide +kernel
theorem dX0_ticksTillOut_43 : decode cX0_ticksTillOut 43 = .ok (.goto (-28), 3) := by decide +kernel
theorem dX0_ticksTillOut_46 : decode cX0_ticksTillOut 46 = .ok (.iconst (-1), 1) := by decide +kernel
theorem dX0_ticksTillOut_47 : decode cX0_ticksTillOut 47 = .ok (.ireturn, 1) := by decide +kernel
theorem dX0_ticksTillJam_0 : decode cX0_ticksTillJam 0 = .ok (.iconst 0, 1) := by decide +kernel
theorem dX0_ticksTillJam_1 : decode cX0_ticksTillJam 1 = .ok (.istore_n 2, 1) := by decide +kernel
theorem dX0_ticksTillJam_2 : decode cX0_ticksTillJam 2 = .ok (.iload_n 2, 1) := by decide +kernel
theorem dX0_ticksTillJam_3 : decode cX0_ticksTillJam 3 = .ok (.iload_n 1, 1) := by decide +kernel
theorem dX0_ticksTillJam_4 : decode cX0_ticksTillJam 4 = .ok (.if_icmp .gt 26, 3) := by decide +kernel
theorem dX0_ticksTillJam_7 : decode cX0_ticksTillJam 7 = .ok (.iload_n 2, 1) := by decide +kernel
theorem dX0_ticksTillJam_8 : decode cX0_ticksTillJam 8 = .ok (.ifCond .le 7, 3) := by decide +kernel
theorem dX0_ticksTillJam_11 : decode cX0_ticksTillJam 11 = .ok (.aload_n 0, 1) := by decide +kernel
theorem dX0_ticksTillJam_12 : decode cX0_ticksTillJam 12 = .ok (.invokevirtual 137, 3) := by decide +kernel
theorem dX0_ticksTillJam_15 : decode cX0_ticksTillJam 15 = .ok (.aload_n 0, 1) := by decide +kernel
theorem dX0_ticksTillJam_16 : decode cX0_ticksTillJam 16 = .ok (.invokevirtual 144, 3) := by decide +kernel
theorem dX0_ticksTillJam_19 : decode cX0_ticksTillJam 19 = .ok (.ifCond .eq 5, 3) := by decide +kernel
theorem dX0_ticksTillJam_22 : decode cX0_ticksTillJam 22 = .ok (.iload_n 2, 1) := by decide +kernel
theorem dX0_ticksTillJam_23 : decode cX0_ticksTillJam 23 = .ok (.ireturn, 1) := by decide +kernel
theorem dX0_ticksTillJam_24 : decode cX0_ticksTillJam 24 = .ok (.iinc 2 1, 3) := by decide +kernel
theorem dX0_ticksTillJam_27 : decode cX0_ticksTillJam 27 = .ok (.goto (-25), 3) := by decide +kernel
theorem dX0_ticksTillJam_30 : decode cX0_ticksTillJam 30 = .ok (.iconst (-1), 1) := by decide +kernel
theorem dX0_ticksTillJam_31 : decode cX0_ticksTillJam 31 = .ok (.ireturn, 1) := by decide +kernel
theorem dX0_isJammed_0 : decode cX0_isJammed 0 = .ok (.aload_n 1, 1) := by decide +kernel
theorem dX0_isJammed_1 : decode cX0_isJammed 1 = .ok (.ifnull 25, 3) := by decide +kernel
theorem dX0_isJammed_4 : decode cX0_isJammed 4 = .ok (.aload_n 1, 1) := by decide +kernel
theorem dX0_isJammed_5 : decode cX0_isJammed 5 = .ok (.invokevirtual 91, 3) := by decide +kernel
theorem dX0_isJammed_8 : decode cX0_isJammed 8 = .ok (.ifCond .ne 18, 3) := by decide +kernel
theorem dX0_isJammed_11 : decode cX0_isJammed 11 = .ok (.aload_n 1, 1) := by decide +kernel
theorem dX0_isJammed_12 : decode cX0_isJammed 12 = .ok (.getfield 118, 3) := by decide +kernel
theorem dX0_isJammed_15 : decode cX0_isJammed 15 = .ok (.aload_n 0, 1) := by decide +kernel
theorem dX0_isJammed_16 : decode cX0_isJammed 16 = .ok (.getfield 15, 3) := by decide +kernel
theorem dX0_isJammed_19 : decode cX0_isJammed 19 = .ok (.if_icmp .lt 7, 3) := by decide +kernel
theorem dX0_isJammed_22 : decode cX0_isJammed 22 = .ok (.iconst 1, 1) := by decide +kernel
theorem dX0_isJammed_23 : decode cX0_isJammed 23 = .ok (.goto 4, 3) := by decide +kernel
theorem dX0_isJammed_26 : decode cX0_isJammed 26 = .ok (.iconst 0, 1) := by decide +kernel
theorem dX0_isJammed_27 : decode cX0_isJammed 27 = .ok (.ireturn, 1) := by decide +kernel
theorem dX0_hasJam_0 : decode cX0_hasJam 0 = .ok (.iconst 0, 1) := by decide +kernel
theorem dX0_hasJam_1 : decode cX0_hasJam 1 = .ok (.istore_n 1, 1) := by decide +kernel
theorem dX0_hasJam_2 : decode cX0_hasJam 2 = .ok (.iload_n 1, 1) := by decide +kernel
theorem dX0_hasJam_3 : decode cX0_hasJam 3 = .ok (.aload_n 0, 1) := by decide +kernel
theorem dX0_hasJam_4 : decode cX0_hasJam 4 = .ok (.getfield 43, 3) := by decide +kernel
theorem dX0_hasJam_7 : decode cX0_hasJam 7 = .ok (.if_icmp .ge 23, 3) := by decide +kernel
theorem dX0_hasJam_10 : decode cX0_hasJam 10 = .ok (.aload_n 0, 1) := by decide +kernel
theorem dX0_hasJam_11 : decode cX0_hasJam 11 = .ok (.aload_n 0, 1) := by decide +kernel
theorem dX0_hasJam_12 : decode cX0_hasJam 12 = .ok (.iload_n 1, 1) := by decide +kernel
theorem dX0_hasJam_13 : decode cX0_hasJam 13 = .ok (.invokevirtual 55, 3) := by decide +kernel
theorem dX0_hasJam_16 : decode cX0_hasJam 16 = .ok (.invokevirtual 147, 3) := by decide +kernel
theorem dX0_hasJam_19 : decode cX0_hasJam 19 = .ok (.ifCond .eq 5, 3) := by decide +kernel
theorem dX0_hasJam_22 : decode cX0_hasJam 22 = .ok (.iconst 1, 1) := by decide +kernel
theorem dX0_hasJam_23 : decode cX0_hasJam 23 = .ok (.ireturn, 1) := by decide +kernel
theorem dX0_hasJam_24 : decode cX0_hasJam 24 = .ok (.iinc 1 1, 3) := by decide +kernel
theorem dX0_hasJam_27 : decode cX0_hasJam 27 = .ok (.goto (-25), 3) := by decide +kernel
theorem dX0_hasJam_30 : decode cX0_hasJam 30 = .ok (.iconst 0, 1) := by decide +kernel
theorem dX0_hasJam_31 : decode cX0_hasJam 31 = .ok (.ireturn, 1) := by decide +kernel
theorem dX0_step_0 : decode cX0_step 0 = .ok (.aload_n 0, 1) := by decide +kernel
theorem dX0_step_1 : decode cX0_step 1 = .ok (.dup, 1) := by decide +kernel
theorem dX0_step_2 : decode cX0_step 2 = .ok (.getfield 46, 3) := by decide +kernel
theorem dX0_step_5 : decode cX0_step 5 = .ok (.iconst 1, 1) := by decide +kernel
theorem dX0_step_6 : decode cX0_step 6 = .ok (.iadd, 1) := by decide +kernel
theorem dX0_step_7 : decode cX0_step 7 = .ok (.putfield 46, 3) := by decide +kernel
theorem dX0_step_10 : decode cX0_step 10 = .ok (.iconst 0, 1) := by decide +kernel
theorem dX0_step_11 : decode cX0_step 11 = .ok (.istore_n 1, 1) := by decide +kernel
theorem dX0_step_12 : decode cX0_step 12 = .ok (.iload_n 1, 1) := by decide +kernel
theorem dX0_step_13 : decode cX0_step 13 = .ok (.aload_n 0, 1) := by decide +kernel
theorem dX0_step_14 : decode cX0_step 14 = .ok (.getfield 43, 3) := by decide +kernel
theorem dX0_step_17 : decode cX0_step 17 = .ok (.if_icmp .ge 52, 3) := by decide +kernel
theorem dX0_step_20 : decode cX0_step 20 = .ok (.aload_n 0, 1) := by decide +kernel
theorem dX0_step_21 : decode cX0_step 21 = .ok (.iload_n 1, 1) := by decide +kernel
theorem dX0_step_22 : decode cX0_step 22 = .ok (.invokevirtual 55, 3) := by decide +kernel
theorem dX0_step_25 : decode cX0_step 25 = .ok (.astore_n 2, 1) := by decide +kernel
theorem dX0_step_26 : decode cX0_step 26 = .ok (.aload_n 2, 1) := by decide +kernel
theorem dX0_step_27 : decode cX0_step 27 = .ok (.ifnull 36, 3) := by decide +kernel
theorem dX0_step_30 : decode cX0_step 30 = .ok (.aload_n 2, 1) := by decide +kernel
theorem dX0_step_31 : decode cX0_step 31 = .ok (.aload_n 2, 1) := by decide +kernel
theorem dX0_step_32 : decode cX0_step 32 = .ok (.aload_n 0, 1) := by decide +kernel
theorem dX0_step_33 : decode cX0_step 33 = .ok (.getfield 46, 3) := by decide +kernel
theorem dX0_step_36 : decode cX0_step 36 = .ok (.invokevirtual 151, 3) := by decide +kernel
theorem dX0_step_39 : decode cX0_step 39 = .ok (.putfield 154, 3) := by decide +kernel
theorem dX0_step_42 : decode cX0_step 42 = .ok (.aload_n 0, 1) := by decide +kernel
theorem dX0_step_43 : decode cX0_step 43 = .ok (.aload_n 2, 1) := by decide +kernel
theorem dX0_step_44 : decode cX0_step 44 = .ok (.aload_n 2, 1) := by decide +kernel
theorem dX0_step_45 : decode cX0_step 45 = .ok (.getfield 154, 3) := by decide +kernel
theorem dX0_step_48 : decode cX0_step 48 = .ok (.ifCond .eq 11, 3) := by decide +kernel
theorem dX0_step_51 : decode cX0_step 51 = .ok (.aload_n 0, 1) := by decide +kernel
theorem dX0_step_52 : decode cX0_step 52 = .ok (.aload_n 2, 1) := by decide +kernel
theorem dX0_step_53 : decode cX0_step 53 = .ok (.invokevirtual 158, 3) := by decide +kernel
theorem dX0_step_56 : decode cX0_step 56 = .ok (.goto 4, 3) := by decide +kernel
theorem dX0_step_59 : decode cX0_step 59 = .ok (.iconst 4, 1) := by decide +kernel
theorem dX0_step_60 : decode cX0_step 60 = .ok (.invokevirtual 162, 3) := by decide +kernel
theorem dX0_step_63 : decode cX0_step 63 = .ok (.iinc 1 1, 3) := by decide +kernel
theorem dX0_step_66 : decode cX0_step 66 = .ok (.goto (-54), 3) := by decide +kernel
theorem dX0_step_69 : decode cX0_step 69 = .ok (.iconst 0, 1) := by decide +kernel
theorem dX0_step_70 : decode cX0_step 70 = .ok (.istore_n 1, 1) := by decide +kernel
theorem dX0_step_71 : decode cX0_step 71 = .ok (.iload_n 1, 1) := by decide +kernel
theorem dX0_step_72 : decode cX0_step 72 = .ok (.aload_n 0, 1) := by decide +kernel
theorem dX0_step_73 : decode cX0_step 73 = .ok (.getfield 43, 3) := by decide +kernel
theorem dX0_step_76 : decode cX0_step 76 = .ok (.if_icmp .ge 14, 3) := by decide +kernel
theorem dX0_step_79 : decode cX0_step 79 = .ok (.aload_n 0, 1) := by decide +kernel
theorem dX0_step_80 : decode cX0_step 80 = .ok (.iload_n 1, 1) := by decide +kernel
theorem dX0_step_81 : decode cX0_step 81 = .ok (.invokevirtual 166, 3) := by decide +kernel
theorem dX0_step_84 : decode cX0_step 84 = .ok (.iinc 1 1, 3) := by decide +kernel
theorem dX0_step_87 : decode cX0_step 87 = .ok (.goto (-16), 3) := by decide +kernel
theorem dX0_step_90 : decode cX0_step 90 = .ok (.iconst 0, 1) := by decide +kernel
theorem dX0_step_91 : decode cX0_step 91 = .ok (.istore_n 1, 1) := by decide +kernel
theorem dX0_step_92 : decode cX0_step 92 = .ok (.iload_n 1, 1) := by decide +kernel
theorem dX0_step_93 : decode cX0_step 93 = .ok (.aload_n 0, 1) := by decide +kernel
theorem dX0_step_94 : decode cX0_step 94 = .ok (.getfield 43, 3) := by decide +kernel
theorem dX0_step_97 : decode cX0_step 97 = .ok (.if_icmp .ge 14, 3) := by decide +kernel
theorem dX0_step_100 : decode cX0_step 100 = .ok (.aload_n 0, 1) := by decide +kernel
theorem dX0_step_101 : decode cX0_step 101 = .ok (.iload_n 1, 1) := by decide +kernel
theorem dX0_step_102 : decode cX0_step 102 = .ok (.invokevirtual 170, 3) := by decide +kernel
theorem dX0_step_105 : decode cX0_step 105 = .ok (.iinc 1 1, 3) := by decide +kernel
theorem dX0_step_108 : decode cX0_step 108 = .ok (.goto (-16), 3) := by decide +kernel
theorem dX0_step_111 : decode cX0_step 111 = .ok (.return_, 1) := by decide +kernel
theorem dX0_aim_0 : decode cX0_aim 0 = .ok (.aload_n 1, 1) := by decide +kernel
theorem dX0_aim_1 : decode cX0_aim 1 = .ok (.iload_n 2, 1) := by decide +kernel
theorem dX0_aim_2 : decode cX0_aim 2 = .ok (.putfield 173, 3) := by decide +kernel
theorem dX0_aim_5 : decode cX0_aim 5 = .ok (.aload_n 1, 1) := by decide +kernel
theorem dX0_aim_6 : decode cX0_aim 6 = .ok (.iload_n 2, 1) := by decide +kernel
theorem dX0_aim_7 : decode cX0_aim 7 = .ok (.iconst 4, 1) := by decide +kernel
theorem dX0_aim_8 : decode cX0_aim 8 = .ok (.if_icmp .ne 7, 3) := by decide +kernel
theorem dX0_aim_11 : decode cX0_aim 11 = .ok (.iconst (-1), 1) := by decide +kernel
theorem dX0_aim_12 : decode cX0_aim 12 = .ok (.goto 15, 3) := by decide +kernel
theorem dX0_aim_15 : decode cX0_aim 15 = .ok (.aload_n 0, 1) := by decide +kernel
theorem dX0_aim_16 : decode cX0_aim 16 = .ok (.getfield 34, 3) := by decide +kernel
theorem dX0_aim_19 : decode cX0_aim 19 = .ok (.aload_n 1, 1) := by decide +kernel
theorem dX0_aim_20 : decode cX0_aim 20 = .ok (.getfield 98, 3) := by decide +kernel
theorem dX0_aim_23 : decode cX0_aim 23 = .ok (.iload_n 2, 1) := by decide +kernel
theorem dX0_aim_24 : decode cX0_aim 24 = .ok (.invokevirtual 124, 3) := by decide +kernel
theorem dX0_aim_27 : decode cX0_aim 27 = .ok (.putfield 176, 3) := by decide +kernel
theorem dX0_aim_30 : decode cX0_aim 30 = .ok (.aload_n 0, 1) := by decide +kernel
theorem dX0_aim_31 : decode cX0_aim 31 = .ok (.getfield 34, 3) := by decide +kernel
theorem dX0_aim_34 : decode cX0_aim 34 = .ok (.aload_n 1, 1) := by decide +kernel
theorem dX0_aim_35 : decode cX0_aim 35 = .ok (.getfield 176, 3) := by decide +kernel
theorem dX0_aim_38 : decode cX0_aim 38 = .ok (.invokevirtual 77, 3) := by decide +kernel
theorem dX0_aim_41 : decode cX0_aim 41 = .ok (.ifCond .eq 13, 3) := by decide +kernel
theorem dX0_aim_44 : decode cX0_aim 44 = .ok (.aload_n 0, 1) := by decide +kernel
theorem dX0_aim_45 : decode cX0_aim 45 = .ok (.getfield 31, 3) := by decide +kernel
theorem dX0_aim_48 : decode cX0_aim 48 = .ok (.aload_n 1, 1) := by decide +kernel
theorem dX0_aim_49 : decode cX0_aim 49 = .ok (.getfield 176, 3) := by decide +kernel
theorem dX0_aim_52 : decode cX0_aim 52 = .ok (.iconst (-1), 1) := by decide +kernel
theorem dX0_aim_53 : decode cX0_aim 53 = .ok (.iastore, 1) := by decide +kernel
theorem dX0_aim_54 : decode cX0_aim 54 = .ok (.return_, 1) := by decide +kernel
theorem dX0_claim_0 : decode cX0_claim 0 = .ok (.aload_n 0, 1) := by decide +kernel
theorem dX0_claim_1 : decode cX0_claim 1 = .ok (.iload_n 1, 1) := by decide +kernel
theorem dX0_claim_2 : decode cX0_claim 2 = .ok (.invokevirtual 55, 3) := by decide +kernel
theorem dX0_claim_5 : decode cX0_claim 5 = .ok (.astore_n 2, 1) := by decide +kernel
theorem dX0_claim_6 : decode cX0_claim 6 = .ok (.aload_n 2, 1) := by decide +kernel
theorem dX0_claim_7 : decode cX0_claim 7 = .ok (.ifnull 17, 3) := by decide +kernel
theorem dX0_claim_10 : decode cX0_claim 10 = .ok (.aload_n 0, 1) := by decide +kernel
theorem dX0_claim_11 : decode cX0_claim 11 = .ok (.getfield 34, 3) := by decide +kernel
theorem dX0_claim_14 : decode cX0_claim 14 = .ok (.aload_n 2, 1) := by decide +kernel
theorem dX0_claim_15 : decode cX0_claim 15 = .ok (.getfield 176, 3) := by decide +kernel
theorem dX0_claim_18 : decode cX0_claim 18 = .ok (.invokevirtual 77, 3) := by decide +kernel
theorem dX0_claim_21 : decode cX0_claim 21 = .ok (.ifCond .ne 4, 3) := by decide +kernel
theorem dX0_claim_24 : decode cX0_claim 24 = .ok (.return_, 1) := by decide +kernel
theorem dX0_claim_25 : decode cX0_claim 25 = .ok (.aload_n 0, 1) := by decide +kernel
theorem dX0_claim_26 : decode cX0_claim 26 = .ok (.aload_n 0, 1) := by decide +kernel
theorem dX0_claim_27 : decode cX0_claim 27 = .ok (.getfield 31, 3) := by decide +kernel
theorem dX0_claim_30 : decode cX0_claim 30 = .ok (.aload_n 2, 1) := by decide +kernel
theorem dX0_claim_31 : decode cX0_claim 31 = .ok (.getfield 176, 3) := by decide +kernel
theorem dX0_claim_34 : decode cX0_claim 34 = .ok (.iaload, 1) := by decide +kernel
theorem dX0_claim_35 : decode cX0_claim 35 = .ok (.invokevirtual 55, 3) := by decide +kernel
theorem dX0_claim_38 : decode cX0_claim 38 = .ok (.astore_n 3, 1) := by decide +kernel
theorem dX0_claim_39 : decode cX0_claim 39 = .ok (.aload_n 3, 1) := by decide +kernel
theorem dX0_claim_40 : decode cX0_claim 40 = .ok (.ifnull 14, 3) := by decide +kernel
theorem dX0_claim_43 : decode cX0_claim 43 = .ok (.aload_n 2, 1) := by decide +kernel
theorem dX0_claim_44 : decode cX0_claim 44 = .ok (.getfield 118, 3) := by decide +kernel
theorem dX0_claim_47 : decode cX0_claim 47 = .ok (.aload_n 3, 1) := by decide +kernel
theorem dX0_claim_48 : decode cX0_claim 48 = .ok (.getfield 118, 3) := by decide +kernel
theorem dX0_claim_51 : decode cX0_claim 51 = .ok (.if_icmp .le 13, 3) := by decide +kernel
theorem dX0_claim_54 : decode cX0_claim 54 = .ok (.aload_n 0, 1) := by decide +kernel
theorem dX0_claim_55 : decode cX0_claim 55 = .ok (.getfield 31, 3) := by decide +kernel
theorem dX0_claim_58 : decode cX0_claim 58 = .ok (.aload_n 2, 1) := by decide +kernel
theorem dX0_claim_59 : decode cX0_claim 59 = .ok (.getfield 176, 3) := by decide +kernel
theorem dX0_claim_62 : decode cX0_claim 62 = .ok (.iload_n 1, 1) := by decide +kernel
theorem dX0_claim_63 : decode cX0_claim 63 = .ok (.iastore, 1) := by decide +kernel
theorem dX0_claim_64 : decode cX0_claim 64 = .ok (.return_, 1) := by decide +kernel
theorem dX0_goOrWait_0 : decode cX0_goOrWait 0 = .ok (.aload_n 0, 1) := by decide +kernel
theorem dX0_goOrWait_1 : decode cX0_goOrWait 1 = .ok (.iload_n 1, 1) := by decide +kernel
theorem dX0_goOrWait_2 : decode cX0_goOrWait 2 = .ok (.invokevirtual 55, 3) := by decide +kernel
theorem dX0_goOrWait_5 : decode cX0_goOrWait 5 = .ok (.astore_n 2, 1) := by decide +kernel
theorem dX0_goOrWait_6 : decode cX0_goOrWait 6 = .ok (.aload_n 2, 1) := by decide +kernel
theorem dX0_goOrWait_7 : decode cX0_goOrWait 7 = .ok (.ifnull 10, 3) := by decide +kernel
theorem dX0_goOrWait_10 : decode cX0_goOrWait 10 = .ok (.aload_n 2, 1) := by decide +kernel
theorem dX0_goOrWait_11 : decode cX0_goOrWait 11 = .ok (.getfield 154, 3) := by decide +kernel
theorem dX0_goOrWait_14 : decode cX0_goOrWait 14 = .ok (.ifCond .ne 4, 3) := by decide +kernel
theorem dX0_goOrWait_17 : decode cX0_goOrWait 17 = .ok (.return_, 1) := by decide +kernel
theorem dX0_goOrWait_18 : decode cX0_goOrWait 18 = .ok (.aload_n 0, 1) := by decide +kernel
theorem dX0_goOrWait_19 : decode cX0_goOrWait 19 = .ok (.getfield 34, 3) := by decide +kernel
theorem dX0_goOrWait_22 : decode cX0_goOrWait 22 = .ok (.aload_n 2, 1) := by decide +kernel
theorem dX0_goOrWait_23 : decode cX0_goOrWait 23 = .ok (.getfield 176, 3) := by decide +kernel
theorem dX0_goOrWait_26 : decode cX0_goOrWait 26 = .ok (.invokevirtual 77, 3) := by decide +kernel
theorem dX0_goOrWait_29 : decode cX0_goOrWait 29 = .ok (.ifCond .eq 25, 3) := by decide +kernel
theorem dX0_goOrWait_32 : decode cX0_goOrWait 32 = .ok (.aload_n 0, 1) := by decide +kernel
theorem dX0_goOrWait_33 : decode cX0_goOrWait 33 = .ok (.getfield 31, 3) := by decide +kernel
theorem dX0_goOrWait_36 : decode cX0_goOrWait 36 = .ok (.aload_n 2, 1) := by decide +kernel
theorem dX0_goOrWait_37 : decode cX0_goOrWait 37 = .ok (.getfield 176, 3) := by decide +kernel
theorem dX0_goOrWait_40 : decode cX0_goOrWait 40 = .ok (.iaload, 1) := by decide +kernel
theorem dX0_goOrWait_41 : decode cX0_goOrWait 41 = .ok (.iload_n 1, 1) := by decide +kernel
theorem dX0_goOrWait_42 : decode cX0_goOrWait 42 = .ok (.if_icmp .ne 12, 3) := by decide +kernel
theorem dX0_goOrWait_45 : decode cX0_goOrWait 45 = .ok (.aload_n 0, 1) := by decide +kernel
theorem dX0_goOrWait_46 : decode cX0_goOrWait 46 = .ok (.aload_n 2, 1) := by decide +kernel
theorem dX0_goOrWait_47 : decode cX0_goOrWait 47 = .ok (.iload_n 1, 1) := by decide +kernel
theorem dX0_goOrWait_48 : decode cX0_goOrWait 48 = .ok (.invokevirtual 179, 3) := by decide +kernel
theorem dX0_goOrWait_51 : decode cX0_goOrWait 51 = .ok (.goto 13, 3) := by decide +kernel
theorem dX0_goOrWait_54 : decode cX0_goOrWait 54 = .ok (.aload_n 2, 1) := by decide +kernel
theorem dX0_goOrWait_55 : decode cX0_goOrWait 55 = .ok (.dup, 1) := by decide +kernel
theorem dX0_goOrWait_56 : decode cX0_goOrWait 56 = .ok (.getfield 118, 3) := by decide +kernel
theorem dX0_goOrWait_59 : decode cX0_goOrWait 59 = .ok (.iconst 1, 1) := by decide +kernel
theorem dX0_goOrWait_60 : decode cX0_goOrWait 60 = .ok (.iadd, 1) := by decide +kernel
theorem dX0_goOrWait_61 : decode cX0_goOrWait 61 = .ok (.putfield 118, 3) := by decide +kernel
theorem dX0_goOrWait_64 : decode cX0_goOrWait 64 = .ok (.return_, 1) := by decide +kernel
theorem dX0_go_0 : decode cX0_go 0 = .ok (.aload_n 0, 1) := by decide +kernel
theorem dX0_go_1 : decode cX0_go 1 = .ok (.getfield 34, 3) := by decide +kernel
theorem dX0_go_4 : decode cX0_go 4 = .ok (.aload_n 1, 1) := by decide +kernel
theorem dX0_go_5 : decode cX0_go 5 = .ok (.getfield 98, 3) := by decide +kernel
theorem dX0_go_8 : decode cX0_go 8 = .ok (.invokevirtual 77, 3) := by decide +kernel
theorem dX0_go_11 : decode cX0_go 11 = .ok (.ifCond .eq 17, 3) := by decide +kernel
theorem dX0_go_14 : decode cX0_go 14 = .ok (.aload_n 0, 1) := by decide +kernel
theorem dX0_go_15 : decode cX0_go 15 = .ok (.getfield 34, 3) := by decide +kernel
theorem dX0_go_18 : decode cX0_go 18 = .ok (.aload_n 1, 1) := by decide +kernel
theorem dX0_go_19 : decode cX0_go 19 = .ok (.getfield 176, 3) := by decide +kernel
theorem dX0_go_22 : decode cX0_go 22 = .ok (.invokevirtual 77, 3) := by decide +kernel
theorem dX0_go_25 : decode cX0_go 25 = .ok (.ifCond .ne 4, 3) := by decide +kernel
theorem dX0_go_28 : decode cX0_go 28 = .ok (.return_, 1) := by decide +kernel
theorem dX0_go_29 : decode cX0_go 29 = .ok (.aload_n 0, 1) := by decide +kernel
theorem dX0_go_30 : decode cX0_go 30 = .ok (.getfield 24, 3) := by decide +kernel
theorem dX0_go_33 : decode cX0_go 33 = .ok (.aload_n 1, 1) := by decide +kernel
theorem dX0_go_34 : decode cX0_go 34 = .ok (.getfield 98, 3) := by decide +kernel
theorem dX0_go_37 : decode cX0_go 37 = .ok (.iconst (-1), 1) := by decide +kernel
theorem dX0_go_38 : decode cX0_go 38 = .ok (.iastore, 1) := by decide +kernel
theorem dX0_go_39 : decode cX0_go 39 = .ok (.aload_n 1, 1) := by decide +kernel
theorem dX0_go_40 : decode cX0_go 40 = .ok (.aload_n 1, 1) := by decide +kernel
theorem dX0_go_41 : decode cX0_go 41 = .ok (.getfield 173, 3) := by decide +kernel
theorem dX0_go_44 : decode cX0_go 44 = .ok (.putfield 115, 3) := by decide +kernel
theorem dX0_go_47 : decode cX0_go 47 = .ok (.aload_n 1, 1) := by decide +kernel
theorem dX0_go_48 : decode cX0_go 48 = .ok (.iconst 0, 1) := by decide +kernel
theorem dX0_go_49 : decode cX0_go 49 = .ok (.putfield 118, 3) := by decide +kernel
theorem dX0_go_52 : decode cX0_go 52 = .ok (.aload_n 1, 1) := by decide +kernel
theorem dX0_go_53 : decode cX0_go 53 = .ok (.dup, 1) := by decide +kernel
theorem dX0_go_54 : decode cX0_go 54 = .ok (.getfield 106, 3) := by decide +kernel
theorem dX0_go_57 : decode cX0_go 57 = .ok (.iconst 1, 1) := by decide +kernel
theorem dX0_go_58 : decode cX0_go 58 = .ok (.iadd, 1) := by decide +kernel
theorem dX0_go_59 : decode cX0_go 59 = .ok (.putfield 106, 3) := by decide +kernel
theorem dX0_go_62 : decode cX0_go 62 = .ok (.aload_n 0, 1) := by decide +kernel
theorem dX0_go_63 : decode cX0_go 63 = .ok (.getfield 28, 3) := by decide +kernel
theorem dX0_go_66 : decode cX0_go 66 = .ok (.aload_n 1, 1) := by decide +kernel
theorem dX0_go_67 : decode cX0_go 67 = .ok (.getfield 176, 3) := by decide +kernel
theorem dX0_go_70 : decode cX0_go 70 = .ok (.dup2, 1) := by decide +kernel
theorem dX0_go_71 : decode cX0_go 71 = .ok (.iaload, 1) := by decide +kernel
theorem dX0_go_72 : decode cX0_go 72 = .ok (.iconst 1, 1) := by decide +kernel
theorem dX0_go_73 : decode cX0_go 73 = .ok (.iadd, 1) := by decide +kernel
theorem dX0_go_74 : decode cX0_go 74 = .ok (.iastore, 1) := by decide +kernel
theorem dX0_go_75 : decode cX0_go 75 = .ok (.aload_n 0, 1) := by decide +kernel
theorem dX0_go_76 : decode cX0_go 76 = .ok (.getfield 38, 3) := by decide +kernel
theorem dX0_go_79 : decode cX0_go 79 = .ok (.aload_n 1, 1) := by decide +kernel
theorem dX0_go_80 : decode cX0_go 80 = .ok (.getfield 95, 3) := by decide +kernel
theorem dX0_go_83 : decode cX0_go 83 = .ok (.aload_n 1, 1) := by decide +kernel
theorem dX0_go_84 : decode cX0_go 84 = .ok (.getfield 176, 3) := by decide +kernel
theorem dX0_go_87 : decode cX0_go 87 = .ok (.invokevirtual 182, 3) := by decide +kernel
theorem dX0_go_90 : decode cX0_go 90 = .ok (.ifCond .eq 19, 3) := by decide +kernel
theorem dX0_go_93 : decode cX0_go 93 = .ok (.aload_n 1, 1) := by decide +kernel
theorem dX0_go_94 : decode cX0_go 94 = .ok (.iconst (-1), 1) := by decide +kernel
theorem dX0_go_95 : decode cX0_go 95 = .ok (.putfield 98, 3) := by decide +kernel
theorem dX0_go_98 : decode cX0_go 98 = .ok (.aload_n 1, 1) := by decide +kernel
theorem dX0_go_99 : decode cX0_go 99 = .ok (.aload_n 0, 1) := by decide +kernel
theorem dX0_go_100 : decode cX0_go 100 = .ok (.getfield 46, 3) := by decide +kernel
theorem dX0_go_103 : decode cX0_go 103 = .ok (.putfield 121, 3) := by decide +kernel
theorem dX0_go_106 : decode cX0_go 106 = .ok (.goto 21, 3) := by decide +kernel
theorem dX0_go_109 : decode cX0_go 109 = .ok (.aload_n 1, 1) := by decide +kernel
theorem dX0_go_110 : decode cX0_go 110 = .ok (.aload_n 1, 1) := by decide +kernel
theorem dX0_go_111 : decode cX0_go 111 = .ok (.getfield 176, 3) := by decide +kernel
theorem dX0_go_114 : decode cX0_go 114 = .ok (.putfield 98, 3) := by decide +kernel
theorem dX0_go_117 : decode cX0_go 117 = .ok (.aload_n 0, 1) := by decide +kernel
theorem dX0_go_118 : decode cX0_go 118 = .ok (.getfield 24, 3) := by decide +kernel
theorem dX0_go_121 : decode cX0_go 121 = .ok (.aload_n 1, 1) := by decide +kernel
theorem dX0_go_122 : decode cX0_go 122 = .ok (.getfield 176, 3) := by decide +kernel
theorem dX0_go_125 : decode cX0_go 125 = .ok (.iload_n 2, 1) := by decide +kernel
theorem dX0_go_126 : decode cX0_go 126 = .ok (.iastore, 1) := by decide +kernel
theorem dX0_go_127 : decode cX0_go 127 = .ok (.return_, 1) := by decide +kernel
theorem dX1_init_0 : decode cX1_init 0 = .ok (.aload_n 0, 1) := by decide +kernel
theorem dX1_init_1 : decode cX1_init 1 = .ok (.invokespecial 3, 3) := by decide +kernel
theorem dX1_init_4 : decode cX1_init 4 = .ok (.aload_n 0, 1) := by decide +kernel
theorem dX1_init_5 : decode cX1_init 5 = .ok (.sipush 1568, 3) := by decide +kernel
theorem dX1_init_8 : decode cX1_init 8 = .ok (.newarray .int, 2) := by decide +kernel
theorem dX1_init_10 : decode cX1_init 10 = .ok (.putfield 9, 3) := by decide +kernel
theorem dX1_init_13 : decode cX1_init 13 = .ok (.return_, 1) := by decide +kernel
theorem dX1_shape_0 : decode cX1_shape 0 = .ok (.aload_n 0, 1) := by decide +kernel
theorem dX1_shape_1 : decode cX1_shape 1 = .ok (.iload_n 1, 1) := by decide +kernel
theorem dX1_shape_2 : decode cX1_shape 2 = .ok (.putfield 15, 3) := by decide +kernel
theorem dX1_shape_5 : decode cX1_shape 5 = .ok (.aload_n 0, 1) := by decide +kernel
theorem dX1_shape_6 : decode cX1_shape 6 = .ok (.iload_n 2, 1) := by decide +kernel
theorem dX1_shape_7 : decode cX1_shape 7 = .ok (.putfield 19, 3) := by decide +kernel
theorem dX1_shape_10 : decode cX1_shape 10 = .ok (.aload_n 0, 1) := by decide +kernel
theorem dX1_shape_11 : decode cX1_shape 11 = .ok (.iload_n 1, 1) := by decide +kernel
theorem dX1_shape_12 : decode cX1_shape 12 = .ok (.iload_n 2, 1) := by decide +kernel
theorem dX1_shape_13 : decode cX1_shape 13 = .ok (.imul, 1) := by decide +kernel
theorem dX1_shape_14 : decode cX1_shape 14 = .ok (.putfield 22, 3) := by decide +kernel
theorem dX1_shape_17 : decode cX1_shape 17 = .ok (.iconst 0, 1) := by decide +kernel
theorem dX1_shape_18 : decode cX1_shape 18 = .ok (.istore_n 3, 1) := by decide +kernel
theorem dX1_shape_19 : decode cX1_shape 19 = .ok (.iload_n 3, 1) := by decide +kernel
theorem dX1_shape_20 : decode cX1_shape 20 = .ok (.iload_n 2, 1) := by decide +kernel
theorem dX1_shape_21 : decode cX1_shape 21 = .ok (.if_icmp .ge 31, 3) := by decide +kernel
theorem dX1_shape_24 : decode cX1_shape 24 = .ok (.iconst 0, 1) := by decide +kernel
theorem dX1_shape_25 : decode cX1_shape 25 = .ok (.istore 4, 2) := by decide +kernel
theorem dX1_shape_27 : decode cX1_shape 27 = .ok (.iload 4, 2) := by decide +kernel
theorem dX1_shape_29 : decode cX1_shape 29 = .ok (.iload_n 1, 1) := by decide +kernel
theorem dX1_shape_30 : decode cX1_shape 30 = .ok (.if_icmp .ge 16, 3) := by decide +kernel
theorem dX1_shape_33 : decode cX1_shape 33 = .ok (.aload_n 0, 1) := by decide +kernel
theorem dX1_shape_34 : decode cX1_shape 34 = .ok (.iload 4, 2) := by decide +kernel
theorem dX1_shape_36 : decode cX1_shape 36 = .ok (.iload_n 3, 1) := by decide +kernel
theorem dX1_shape_37 : decode cX1_shape 37 = .ok (.invokevirtual 25, 3) := by decide +kernel
theorem dX1_shape_40 : decode cX1_shape 40 = .ok (.iinc 4 1, 3) := by decide +kernel
theorem dX1_shape_43 : decode cX1_shape 43 = .ok (.goto (-16), 3) := by decide +kernel
theorem dX1_shape_46 : decode cX1_shape 46 = .ok (.iinc 3 1, 3) := by decide +kernel
theorem dX1_shape_49 : decode cX1_shape 49 = .ok (.goto (-30), 3) := by decide +kernel
theorem dX1_shape_52 : decode cX1_shape 52 = .ok (.return_, 1) := by decide +kernel
theorem dX1_link_0 : decode cX1_link 0 = .ok (.aload_n 0, 1) := by decide +kernel
theorem dX1_link_1 : decode cX1_link 1 = .ok (.iload_n 1, 1) := by decide +kernel
theorem dX1_link_2 : decode cX1_link 2 = .ok (.iload_n 2, 1) := by decide +kernel
theorem dX1_link_3 : decode cX1_link 3 = .ok (.invokevirtual 29, 3) := by decide +kernel
theorem dX1_link_6 : decode cX1_link 6 = .ok (.istore_n 3, 1) := by decide +kernel
theorem dX1_link_7 : decode cX1_link 7 = .ok (.aload_n 0, 1) := by decide +kernel
theorem dX1_link_8 : decode cX1_link 8 = .ok (.iload_n 3, 1) := by decide +kernel
theorem dX1_link_9 : decode cX1_link 9 = .ok (.invokevirtual 33, 3) := by decide +kernel
theorem dX1_link_12 : decode cX1_link 12 = .ok (.ifCond .ne 4, 3) := by decide +kernel
theorem dX1_link_15 : decode cX1_link 15 = .ok (.return_, 1) := by decide +kernel
theorem dX1_link_16 : decode cX1_link 16 = .ok (.iconst 0, 1) := by decide +kernel
theorem dX1_link_17 : decode cX1_link 17 = .ok (.istore 4, 2) := by decide +kernel
theorem dX1_link_19 : decode cX1_link 19 = .ok (.iload 4, 2) := by decide +kernel
theorem dX1_link_21 : decode cX1_link 21 = .ok (.bipush 8, 2) := by decide +kernel
theorem dX1_link_23 : decode cX1_link 23 = .ok (.if_icmp .ge 41, 3) := by decide +kernel
theorem dX1_link_26 : decode cX1_link 26 = .ok (.aload_n 0, 1) := by decide +kernel
theorem dX1_link_27 : decode cX1_link 27 = .ok (.getfield 9, 3) := by decide +kernel
theorem dX1_link_30 : decode cX1_link 30 = .ok (.iload_n 3, 1) := by decide +kernel
theorem dX1_link_31 : decode cX1_link 31 = .ok (.bipush 8, 2) := by decide +kernel
theorem dX1_link_33 : decode cX1_link 33 = .ok (.imul, 1) := by decide +kernel
theorem dX1_link_34 : decode cX1_link 34 = .ok (.iload 4, 2) := by decide +kernel
theorem dX1_link_36 : decode cX1_link 36 = .ok (.iadd, 1) := by decide +kernel
theorem dX1_link_37 : decode cX1_link 37 = .ok (.aload_n 0, 1) := by decide +kernel
theorem dX1_link_38 : decode cX1_link 38 = .ok (.iload_n 1, 1) := by decide +kernel
theorem dX1_link_39 : decode cX1_link 39 = .ok (.getstatic 37, 3) := by decide +kernel
theorem dX1_link_42 : decode cX1_link 42 = .ok (.iload 4, 2) := by decide +kernel
theorem dX1_link_44 : decode cX1_link 44 = .ok (.iaload, 1) := by decide +kernel
theorem dX1_link_45 : decode cX1_link 45 = .ok (.iadd, 1) := by decide +kernel
theorem dX1_link_46 : decode cX1_link 46 = .ok (.iload_n 2, 1) := by decide +kernel
theorem dX1_link_47 : decode cX1_link 47 = .ok (.getstatic 40, 3) := by decide +kernel
theorem dX1_link_50 : decode cX1_link 50 = .ok (.iload 4, 2) := by decide +kernel
theorem dX1_link_52 : decode cX1_link 52 = .ok (.iaload, 1) := by decide +kernel
theorem dX1_link_53 : decode cX1_link 53 = .ok (.iadd, 1) := by decide +kernel
theorem dX1_link_54 : decode cX1_link 54 = .ok (.invokevirtual 29, 3) := by decide +kernel
theorem dX1_link_57 : decode cX1_link 57 = .ok (.iastore, 1) := by decide +kernel
theorem dX1_link_58 : decode cX1_link 58 = .ok (.iinc 4 1, 3) := by decide +kernel
theorem dX1_link_61 : decode cX1_link 61 = .ok (.goto (-42), 3) := by decide +kernel
theorem dX1_link_64 : decode cX1_link 64 = .ok (.return_, 1) := by decide +kernel
theorem dX1_has_0 : decode cX1_has 0 = .ok (.iload_n 1, 1) := by decide +kernel
theorem dX1_has_1 : decode cX1_has 1 = .ok (.ifCond .lt 22, 3) := by decide +kernel
theorem dX1_has_4 : decode cX1_has 4 = .ok (.iload_n 1, 1) := by decide +kernel
theorem dX1_has_5 : decode cX1_has 5 = .ok (.aload_n 0, 1) := by decide +kernel
theorem dX1_has_6 : decode cX1_has 6 = .ok (.getfield 22, 3) := by decide +kernel
theorem dX1_has_9 : decode cX1_has 9 = .ok (.if_icmp .ge 14, 3) := by decide +kernel
theorem dX1_has_12 : decode cX1_has 12 = .ok (.iload_n 1, 1) := by decide +kernel
theorem dX1_has_13 : decode cX1_has 13 = .ok (.sipush 196, 3) := by decide +kernel
theorem dX1_has_16 : decode cX1_has 16 = .ok (.if_icmp .ge 7, 3) := by decide +kernel
theorem dX1_has_19 : decode cX1_has 19 = .ok (.iconst 1, 1) := by decide +kernel
theorem dX1_has_20 : decode cX1_has 20 = .ok (.goto 4, 3) := by decide +kernel
theorem dX1_has_23 : decode cX1_has 23 = .ok (.iconst 0, 1) := by decide +kernel
theorem dX1_has_24 : decode cX1_has 24 = .ok (.ireturn, 1) := by decide +kernel
theorem dX1_number_0 : decode cX1_number 0 = .ok (.iload_n 1, 1) := by decide +kernel
theorem dX1_number_1 : decode cX1_number 1 = .ok (.ifCond .lt 27, 3) := by decide +kernel
theorem dX1_number_4 : decode cX1_number 4 = .ok (.iload_n 1, 1) := by decide +kernel
theorem dX1_number_5 : decode cX1_number 5 = .ok (.aload_n 0, 1) := by decide +kernel
theorem dX1_number_6 : decode cX1_number 6 = .ok (.getfield 15, 3) := by decide +kernel
theorem dX1_number_9 : decode cX1_number 9 = .ok (.if_icmp .ge 19, 3) := by decide +kernel
theorem dX1_number_12 : decode cX1_number 12 = .ok (.iload_n 2, 1) := by decide +kernel
theorem dX1_number_13 : decode cX1_number 13 = .ok (.ifCond .lt 15, 3) := by decide +kernel
theorem dX1_number_16 : decode cX1_number 16 = .ok (.iload_n 2, 1) := by decide +kernel
theorem dX1_number_17 : decode cX1_number 17 = .ok (.aload_n 0, 1) := by decide +kernel
theorem dX1_number_18 : decode cX1_number 18 = .ok (.getfield 19, 3) := by decide +kernel
theorem dX1_number_21 : decode cX1_number 21 = .ok (.if_icmp .ge 7, 3) := by decide +kernel
theorem dX1_number_24 : decode cX1_number 24 = .ok (.iconst 1, 1) := by decide +kernel
theorem dX1_number_25 : decode cX1_number 25 = .ok (.goto 4, 3) := by decide +kernel
theorem dX1_number_28 : decode cX1_number 28 = .ok (.iconst 0, 1) := by decide +kernel
theorem dX1_number_29 : decode cX1_number 29 = .ok (.istore_n 3, 1) := by decide +kernel
theorem dX1_number_30 : decode cX1_number 30 = .ok (.iload_n 3, 1) := by decide +kernel
theorem dX1_number_31 : decode cX1_number 31 = .ok (.ifCond .eq 14, 3) := by decide +kernel
theorem dX1_number_34 : decode cX1_number 34 = .ok (.iload_n 2, 1) := by decide +kernel
theorem dX1_number_35 : decode cX1_number 35 = .ok (.aload_n 0, 1) := by decide +kernel
theorem dX1_number_36 : decode cX1_number 36 = .ok (.getfield 15, 3) := by decide +kernel
theorem dX1_number_39 : decode cX1_number 39 = .ok (.imul, 1) := by decide +kernel
theorem dX1_number_40 : decode cX1_number 40 = .ok (.iload_n 1, 1) := by decide +kernel
theorem dX1_number_41 : decode cX1_number 41 = .ok (.iadd, 1) := by decide +kernel
theorem dX1_number_42 : decode cX1_number 42 = .ok (.goto 4, 3) := by decide +kernel
theorem dX1_number_45 : decode cX1_number 45 = .ok (.iconst (-1), 1) := by decide +kernel
theorem dX1_number_46 : decode cX1_number 46 = .ok (.ireturn, 1) := by decide +kernel
theorem dX1_next_0 : decode cX1_next 0 = .ok (.iload_n 1, 1) := by decide +kernel
theorem dX1_next_1 : decode cX1_next 1 = .ok (.ifCond .lt 24, 3) := by decide +kernel
theorem dX1_next_4 : decode cX1_next 4 = .ok (.iload_n 1, 1) := by decide +kernel
theorem dX1_next_5 : decode cX1_next 5 = .ok (.sipush 196, 3) := by decide +kernel
theorem dX1_next_8 : decode cX1_next 8 = .ok (.if_icmp .ge 17, 3) := by decide +kernel
theorem dX1_next_11 : decode cX1_next 11 = .ok (.iload_n 2, 1) := by decide +kernel
theorem dX1_next_12 : decode cX1_next 12 = .ok (.ifCond .lt 13, 3) := by decide +kernel
theorem dX1_next_15 : decode cX1_next 15 = .ok (.iload_n 2, 1) := by decide +kernel
theorem dX1_next_16 : decode cX1_next 16 = .ok (.bipush 8, 2) := by decide +kernel
theorem dX1_next_18 : decode cX1_next 18 = .ok (.if_icmp .ge 7, 3) := by decide +kernel
theorem dX1_next_21 : decode cX1_next 21 = .ok (.iconst 1, 1) := by decide +kernel
theorem dX1_next_22 : decode cX1_next 22 = .ok (.goto 4, 3) := by decide +kernel
theorem dX1_next_25 : decode cX1_next 25 = .ok (.iconst 0, 1) := by decide +kernel
theorem dX1_next_26 : decode cX1_next 26 = .ok (.istore_n 3, 1) := by decide +kernel
theorem dX1_next_27 : decode cX1_next 27 = .ok (.iload_n 3, 1) := by decide +kernel
theorem dX1_next_28 : decode cX1_next 28 = .ok (.ifCond .eq 17, 3) := by decide +kernel
theorem dX1_next_31 : decode cX1_next 31 = .ok (.aload_n 0, 1) := by decide +kernel
theorem dX1_next_32 : decode cX1_next 32 = .ok (.getfield 9, 3) := by decide +kernel
theorem dX1_next_35 : decode cX1_next 35 = .ok (.iload_n 1, 1) := by decide +kernel
theorem dX1_next_36 : decode cX1_next 36 = .ok (.bipush 8, 2) := by decide +kernel
theorem dX1_next_38 : decode cX1_next 38 = .ok (.imul, 1) := by decide +kernel
theorem dX1_next_39 : decode cX1_next 39 = .ok (.iload_n 2, 1) := by decide +kernel
theorem dX1_next_40 : decode cX1_next 40 = .ok (.iadd, 1) := by decide +kernel
theorem dX1_next_41 : decode cX1_next 41 = .ok (.iaload, 1) := by decide +kernel
theorem dX1_next_42 : decode cX1_next 42 = .ok (.goto 4, 3) := by decide +kernel
theorem dX1_next_45 : decode cX1_next 45 = .ok (.iconst (-1), 1) := by decide +kernel
theorem dX1_next_46 : decode cX1_next 46 = .ok (.ireturn, 1) := by decide +kernel
theorem dX2_init_0 : decode cX2_init 0 = .ok (.aload_n 0, 1) := by decide +kernel
theorem dX2_init_1 : decode cX2_init 1 = .ok (.invokespecial 3, 3) := by decide +kernel
theorem dX2_init_4 : decode cX2_init 4 = .ok (.aload_n 0, 1) := by decide +kernel
theorem dX2_init_5 : decode cX2_init 5 = .ok (.bipush 24, 2) := by decide +kernel
theorem dX2_init_7 : decode cX2_init 7 = .ok (.newarray .int, 2) := by decide +kernel
theorem dX2_init_9 : decode cX2_init 9 = .ok (.putfield 9, 3) := by decide +kernel
theorem dX2_init_12 : decode cX2_init 12 = .ok (.aload_n 0, 1) := by decide +kernel
theorem dX2_init_13 : decode cX2_init 13 = .ok (.bipush 24, 2) := by decide +kernel
theorem dX2_init_15 : decode cX2_init 15 = .ok (.newarray .int, 2) := by decide +kernel
theorem dX2_init_17 : decode cX2_init 17 = .ok (.putfield 15, 3) := by decide +kernel
theorem dX2_init_20 : decode cX2_init 20 = .ok (.aload_n 0, 1) := by decide +kernel
theorem dX2_init_21 : decode cX2_init 21 = .ok (.bipush 24, 2) := by decide +kernel
theorem dX2_init_23 : decode cX2_init 23 = .ok (.newarray .int, 2) := by decide +kernel
theorem dX2_init_25 : decode cX2_init 25 = .ok (.putfield 18, 3) := by decide +kernel
theorem dX2_init_28 : decode cX2_init 28 = .ok (.return_, 1) := by decide +kernel
theorem dX2_find_0 : decode cX2_find 0 = .ok (.aload_n 0, 1) := by decide +kernel
theorem dX2_find_1 : decode cX2_find 1 = .ok (.iconst 0, 1) := by decide +kernel
theorem dX2_find_2 : decode cX2_find 2 = .ok (.putfield 21, 3) := by decide +kernel
theorem dX2_find_5 : decode cX2_find 5 = .ok (.aload_n 0, 1) := by decide +kernel
theorem dX2_find_6 : decode cX2_find 6 = .ok (.iconst 0, 1) := by decide +kernel
theorem dX2_find_7 : decode cX2_find 7 = .ok (.putfield 25, 3) := by decide +kernel
theorem dX2_find_10 : decode cX2_find 10 = .ok (.iconst 0, 1) := by decide +kernel
theorem dX2_find_11 : decode cX2_find 11 = .ok (.istore_n 2, 1) := by decide +kernel
theorem dX2_find_12 : decode cX2_find 12 = .ok (.iload_n 2, 1) := by decide +kernel
theorem dX2_find_13 : decode cX2_find 13 = .ok (.bipush 24, 2) := by decide +kernel
theorem dX2_find_15 : decode cX2_find 15 = .ok (.if_icmp .ge 23, 3) := by decide +kernel
theorem dX2_find_18 : decode cX2_find 18 = .ok (.aload_n 0, 1) := by decide +kernel
theorem dX2_find_19 : decode cX2_find 19 = .ok (.getfield 9, 3) := by decide +kernel
theorem dX2_find_22 : decode cX2_find 22 = .ok (.iload_n 2, 1) := by decide +kernel
theorem dX2_find_23 : decode cX2_find 23 = .ok (.iconst (-1), 1) := by decide +kernel
theorem dX2_find_24 : decode cX2_find 24 = .ok (.iastore, 1) := by decide +kernel
theorem dX2_find_25 : decode cX2_find 25 = .ok (.aload_n 0, 1) := by decide +kernel
theorem dX2_find_26 : decode cX2_find 26 = .ok (.getfield 15, 3) := by decide +kernel
theorem dX2_find_29 : decode cX2_find 29 = .ok (.iload_n 2, 1) := by decide +kernel
theorem dX2_find_30 : decode cX2_find 30 = .ok (.iconst 0, 1) := by decide +kernel
theorem dX2_find_31 : decode cX2_find 31 = .ok (.iastore, 1) := by decide +kernel
theorem dX2_find_32 : decode cX2_find 32 = .ok (.iinc 2 1, 3) := by decide +kernel
theorem dX2_find_35 : decode cX2_find 35 = .ok (.goto (-23), 3) := by decide +kernel
theorem dX2_find_38 : decode cX2_find 38 = .ok (.iconst 0, 1) := by decide +kernel
theorem dX2_find_39 : decode cX2_find 39 = .ok (.istore_n 2, 1) := by decide +kernel
theorem dX2_find_40 : decode cX2_find 40 = .ok (.iload_n 2, 1) := by decide +kernel
theorem dX2_find_41 : decode cX2_find 41 = .ok (.aload_n 1, 1) := by decide +kernel
theorem dX2_find_42 : decode cX2_find 42 = .ok (.getfield 28, 3) := by decide +kernel
theorem dX2_find_45 : decode cX2_find 45 = .ok (.if_icmp .ge 70, 3) := by decide +kernel
theorem dX2_find_48 : decode cX2_find 48 = .ok (.aload_n 0, 1) := by decide +kernel
theorem dX2_find_49 : decode cX2_find 49 = .ok (.aload_n 1, 1) := by decide +kernel
theorem dX2_find_50 : decode cX2_find 50 = .ok (.iload_n 2, 1) := by decide +kernel
theorem dX2_find_51 : decode cX2_find 51 = .ok (.invokevirtual 31, 3) := by decide +kernel
theorem dX2_find_54 : decode cX2_find 54 = .ok (.ifCond .eq 55, 3) := by decide +kernel
theorem dX2_find_57 : decode cX2_find 57 = .ok (.aload_n 0, 1) := by decide +kernel
theorem dX2_find_58 : decode cX2_find 58 = .ok (.getfield 21, 3) := by decide +kernel
theorem dX2_find_61 : decode cX2_find 61 = .ok (.bipush 24, 2) := by decide +kernel
theorem dX2_find_63 : decode cX2_find 63 = .ok (.if_icmp .ge 46, 3) := by decide +kernel
theorem dX2_find_66 : decode cX2_find 66 = .ok (.aload_n 0, 1) := by decide +kernel
theorem dX2_find_67 : decode cX2_find 67 = .ok (.getfield 15, 3) := by decide +kernel
theorem dX2_find_70 : decode cX2_find 70 = .ok (.aload_n 0, 1) := by decide +kernel
theorem dX2_find_71 : decode cX2_find 71 = .ok (.getfield 21, 3) := by decide +kernel
theorem dX2_find_74 : decode cX2_find 74 = .ok (.aload_n 0, 1) := by decide +kernel
theorem dX2_find_75 : decode cX2_find 75 = .ok (.aload_n 1, 1) := by decide +kernel
theorem dX2_find_76 : decode cX2_find 76 = .ok (.iload_n 2, 1) := by decide +kernel
theorem dX2_find_77 : decode cX2_find 77 = .ok (.invokevirtual 35, 3) := by decide +kernel
theorem dX2_find_80 : decode cX2_find 80 = .ok (.iastore, 1) := by decide +kernel
theorem dX2_find_81 : decode cX2_find 81 = .ok (.aload_n 0, 1) := by decide +kernel
theorem dX2_find_82 : decode cX2_find 82 = .ok (.dup, 1) := by decide +kernel
theorem dX2_find_83 : decode cX2_find 83 = .ok (.getfield 25, 3) := by decide +kernel
theorem dX2_find_86 : decode cX2_find 86 = .ok (.aload_n 0, 1) := by decide +kernel
theorem dX2_find_87 : decode cX2_find 87 = .ok (.getfield 15, 3) := by decide +kernel
theorem dX2_find_90 : decode cX2_find 90 = .ok (.aload_n 0, 1) := by decide +kernel
theorem dX2_find_91 : decode cX2_find 91 = .ok (.getfield 21, 3) := by decide +kernel
theorem dX2_find_94 : decode cX2_find 94 = .ok (.iaload, 1) := by decide +kernel
theorem dX2_find_95 : decode cX2_find 95 = .ok (.iadd, 1) := by decide +kernel
theorem dX2_find_96 : decode cX2_find 96 = .ok (.putfield 25, 3) := by decide +kernel
theorem dX2_find_99 : decode cX2_find 99 = .ok (.aload_n 0, 1) := by decide +kernel
theorem dX2_find_100 : decode cX2_find 100 = .ok (.dup, 1) := by decide +kernel
theorem dX2_find_101 : decode cX2_find 101 = .ok (.getfield 21, 3) := by decide +kernel
theorem dX2_find_104 : decode cX2_find 104 = .ok (.iconst 1, 1) := by decide +kernel
theorem dX2_find_105 : decode cX2_find 105 = .ok (.iadd, 1) := by decide +kernel
theorem dX2_find_106 : decode cX2_find 106 = .ok (.putfield 21, 3) := by decide +kernel
theorem dX2_find_109 : decode cX2_find 109 = .ok (.iinc 2 1, 3) := by decide +kernel
theorem dX2_find_112 : decode cX2_find 112 = .ok (.goto (-72), 3) := by decide +kernel
theorem dX2_find_115 : decode cX2_find 115 = .ok (.return_, 1) := by decide +kernel
theorem dX2_isNewOne_0 : decode cX2_isNewOne 0 = .ok (.iload_n 2, 1) := by decide +kernel
theorem dX2_isNewOne_1 : decode cX2_isNewOne 1 = .ok (.ifCond .lt 35, 3) := by decide +kernel
theorem dX2_isNewOne_4 : decode cX2_isNewOne 4 = .ok (.iload_n 2, 1) := by decide +kernel
theorem dX2_isNewOne_5 : decode cX2_isNewOne 5 = .ok (.bipush 24, 2) := by decide +kernel
theorem dX2_isNewOne_7 : decode cX2_isNewOne 7 = .ok (.if_icmp .ge 29, 3) := by decide +kernel
theorem dX2_isNewOne_10 : decode cX2_isNewOne 10 = .ok (.aload_n 0, 1) := by decide +kernel
theorem dX2_isNewOne_11 : decode cX2_isNewOne 11 = .ok (.getfield 9, 3) := by decide +kernel
theorem dX2_isNewOne_14 : decode cX2_isNewOne 14 = .ok (.iload_n 2, 1) := by decide +kernel
theorem dX2_isNewOne_15 : decode cX2_isNewOne 15 = .ok (.iaload, 1) := by decide +kernel
theorem dX2_isNewOne_16 : decode cX2_isNewOne 16 = .ok (.iconst (-1), 1) := by decide +kernel
theorem dX2_isNewOne_17 : decode cX2_isNewOne 17 = .ok (.if_icmp .ne 19, 3) := by decide +kernel
theorem dX2_isNewOne_20 : decode cX2_isNewOne 20 = .ok (.aload_n 1, 1) := by decide +kernel
theorem dX2_isNewOne_21 : decode cX2_isNewOne 21 = .ok (.aload_n 1, 1) := by decide +kernel
theorem dX2_isNewOne_22 : decode cX2_isNewOne 22 = .ok (.iload_n 2, 1) := by decide +kernel
theorem dX2_isNewOne_23 : decode cX2_isNewOne 23 = .ok (.invokevirtual 39, 3) := by decide +kernel
theorem dX2_isNewOne_26 : decode cX2_isNewOne 26 = .ok (.invokevirtual 43, 3) := by decide +kernel
theorem dX2_isNewOne_29 : decode cX2_isNewOne 29 = .ok (.ifCond .eq 7, 3) := by decide +kernel
theorem dX2_isNewOne_32 : decode cX2_isNewOne 32 = .ok (.iconst 1, 1) := by decide +kernel
theorem dX2_isNewOne_33 : decode cX2_isNewOne 33 = .ok (.goto 4, 3) := by decide +kernel
theorem dX2_isNewOne_36 : decode cX2_isNewOne 36 = .ok (.iconst 0, 1) := by decide +kernel
theorem dX2_isNewOne_37 : decode cX2_isNewOne 37 = .ok (.ireturn, 1) := by decide +kernel
theorem dX2_gather_0 : decode cX2_gather 0 = .ok (.iload_n 2, 1) := by decide +kernel
theorem dX2_gather_1 : decode cX2_gather 1 = .ok (.ifCond .lt 9, 3) := by decide +kernel
theorem dX2_gather_4 : decode cX2_gather 4 = .ok (.iload_n 2, 1) := by decide +kernel
theorem dX2_gather_5 : decode cX2_gather 5 = .ok (.bipush 24, 2) := by decide +kernel
theorem dX2_gather_7 : decode cX2_gather 7 = .ok (.if_icmp .lt 5, 3) := by decide +kernel
theorem dX2_gather_10 : decode cX2_gather 10 = .ok (.iconst 0, 1) := by decide +kernel
theorem dX2_gather_11 : decode cX2_gather 11 = .ok (.ireturn, 1) := by decide +kernel
theorem dX2_gather_12 : decode cX2_gather 12 = .ok (.aload_n 0, 1) := by decide +kernel
theorem dX2_gather_13 : decode cX2_gather 13 = .ok (.getfield 9, 3) := by decide +kernel
theorem dX2_gather_16 : decode cX2_gather 16 = .ok (.iload_n 2, 1) := by decide +kernel
theorem dX2_gather_17 : decode cX2_gather 17 = .ok (.aload_n 0, 1) := by decide +kernel
theorem dX2_gather_18 : decode cX2_gather 18 = .ok (.getfield 21, 3) := by decide +kernel
theorem dX2_gather_21 : decode cX2_gather 21 = .ok (.iastore, 1) := by decide +kernel
theorem dX2_gather_22 : decode cX2_gather 22 = .ok (.aload_n 0, 1) := by decide +kernel
theorem dX2_gather_23 : decode cX2_gather 23 = .ok (.getfield 18, 3) := by decide +kernel
theorem dX2_gather_26 : decode cX2_gather 26 = .ok (.iconst 0, 1) := by decide +kernel
theorem dX2_gather_27 : decode cX2_gather 27 = .ok (.iload_n 2, 1) := by decide +kernel
theorem dX2_gather_28 : decode cX2_gather 28 = .ok (.iastore, 1) := by decide +kernel
theorem dX2_gather_29 : decode cX2_gather 29 = .ok (.iconst 1, 1) := by decide +kernel
theorem dX2_gather_30 : decode cX2_gather 30 = .ok (.istore_n 3, 1) := by decide +kernel
theorem dX2_gather_31 : decode cX2_gather 31 = .ok (.iconst 0, 1) := by decide +kernel
theorem dX2_gather_32 : decode cX2_gather 32 = .ok (.istore 4, 2) := by decide +kernel
theorem dX2_gather_34 : decode cX2_gather 34 = .ok (.iload 4, 2) := by decide +kernel
theorem dX2_gather_36 : decode cX2_gather 36 = .ok (.iload_n 3, 1) := by decide +kernel
theorem dX2_gather_37 : decode cX2_gather 37 = .ok (.if_icmp .ge 30, 3) := by decide +kernel
theorem dX2_gather_40 : decode cX2_gather 40 = .ok (.iload 4, 2) := by decide +kernel
theorem dX2_gather_42 : decode cX2_gather 42 = .ok (.bipush 24, 2) := by decide +kernel
theorem dX2_gather_44 : decode cX2_gather 44 = .ok (.if_icmp .ge 23, 3) := by decide +kernel
theorem dX2_gather_47 : decode cX2_gather 47 = .ok (.aload_n 0, 1) := by decide +kernel
theorem dX2_gather_48 : decode cX2_gather 48 = .ok (.aload_n 1, 1) := by decide +kernel
theorem dX2_gather_49 : decode cX2_gather 49 = .ok (.aload_n 0, 1) := by decide +kernel
theorem dX2_gather_50 : decode cX2_gather 50 = .ok (.getfield 18, 3) := by decide +kernel
theorem dX2_gather_53 : decode cX2_gather 53 = .ok (.iload 4, 2) := by decide +kernel
theorem dX2_gather_55 : decode cX2_gather 55 = .ok (.iaload, 1) := by decide +kernel
theorem dX2_gather_56 : decode cX2_gather 56 = .ok (.iload_n 3, 1) := by decide +kernel
theorem dX2_gather_57 : decode cX2_gather 57 = .ok (.invokevirtual 47, 3) := by decide +kernel
theorem dX2_gather_60 : decode cX2_gather 60 = .ok (.istore_n 3, 1) := by decide +kernel
theorem dX2_gather_61 : decode cX2_gather 61 = .ok (.iinc 4 1, 3) := by decide +kernel
theorem dX2_gather_64 : decode cX2_gather 64 = .ok (.goto (-30), 3) := by decide +kernel
theorem dX2_gather_67 : decode cX2_gather 67 = .ok (.iload_n 3, 1) := by decide +kernel
theorem dX2_gather_68 : decode cX2_gather 68 = .ok (.ireturn, 1) := by decide +kernel
theorem dX2_gatherBeside_0 : decode cX2_gatherBeside 0 = .ok (.aload_n 1, 1) := by decide +kernel
theorem dX2_gatherBeside_1 : decode cX2_gatherBeside 1 = .ok (.iload_n 2, 1) := by decide +kernel
theorem dX2_gatherBeside_2 : decode cX2_gatherBeside 2 = .ok (.invokevirtual 39, 3) := by decide +kernel
theorem dX2_gatherBeside_5 : decode cX2_gatherBeside 5 = .ok (.astore 4, 2) := by decide +kernel
theorem dX2_gatherBeside_7 : decode cX2_gatherBeside 7 = .ok (.aload 4, 2) := by decide +kernel
theorem dX2_gatherBeside_9 : decode cX2_gatherBeside 9 = .ok (.ifnonnull 5, 3) := by decide +kernel
theorem dX2_gatherBeside_12 : decode cX2_gatherBeside 12 = .ok (.iload_n 3, 1) := by decide +kernel
theorem dX2_gatherBeside_13 : decode cX2_gatherBeside 13 = .ok (.ireturn, 1) := by decide +kernel
theorem dX2_gatherBeside_14 : decode cX2_gatherBeside 14 = .ok (.iload_n 3, 1) := by decide +kernel
theorem dX2_gatherBeside_15 : decode cX2_gatherBeside 15 = .ok (.istore 5, 2) := by decide +kernel
theorem dX2_gatherBeside_17 : decode cX2_gatherBeside 17 = .ok (.iconst 0, 1) := by decide +kernel
theorem dX2_gatherBeside_18 : decode cX2_gatherBeside 18 = .ok (.istore 6, 2) := by decide +kernel
theorem dX2_gatherBeside_20 : decode cX2_gatherBeside 20 = .ok (.iload 6, 2) := by decide +kernel
theorem dX2_gatherBeside_22 : decode cX2_gatherBeside 22 = .ok (.iconst 4, 1) := by decide +kernel
theorem dX2_gatherBeside_23 : decode cX2_gatherBeside 23 = .ok (.if_icmp .ge 69, 3) := by decide +kernel
theorem dX2_gatherBeside_26 : decode cX2_gatherBeside 26 = .ok (.aload_n 1, 1) := by decide +kernel
theorem dX2_gatherBeside_27 : decode cX2_gatherBeside 27 = .ok (.aload_n 1, 1) := by decide +kernel
theorem dX2_gatherBeside_28 : decode cX2_gatherBeside 28 = .ok (.getfield 51, 3) := by decide +kernel
theorem dX2_gatherBeside_31 : decode cX2_gatherBeside 31 = .ok (.aload 4, 2) := by decide +kernel
theorem dX2_gatherBeside_33 : decode cX2_gatherBeside 33 = .ok (.getfield 55, 3) := by decide +kernel
theorem dX2_gatherBeside_36 : decode cX2_gatherBeside 36 = .ok (.iload 6, 2) := by decide +kernel
theorem dX2_gatherBeside_38 : decode cX2_gatherBeside 38 = .ok (.invokevirtual 60, 3) := by decide +kernel
theorem dX2_gatherBeside_41 : decode cX2_gatherBeside 41 = .ok (.invokevirtual 66, 3) := by decide +kernel
theorem dX2_gatherBeside_44 : decode cX2_gatherBeside 44 = .ok (.istore 7, 2) := by decide +kernel
theorem dX2_gatherBeside_46 : decode cX2_gatherBeside 46 = .ok (.aload_n 0, 1) := by decide +kernel
theorem dX2_gatherBeside_47 : decode cX2_gatherBeside 47 = .ok (.aload_n 1, 1) := by decide +kernel
theorem dX2_gatherBeside_48 : decode cX2_gatherBeside 48 = .ok (.iload 7, 2) := by decide +kernel
theorem dX2_gatherBeside_50 : decode cX2_gatherBeside 50 = .ok (.invokevirtual 31, 3) := by decide +kernel
theorem dX2_gatherBeside_53 : decode cX2_gatherBeside 53 = .ok (.ifCond .eq 33, 3) := by decide +kernel
theorem dX2_gatherBeside_56 : decode cX2_gatherBeside 56 = .ok (.iload 5, 2) := by decide +kernel
theorem dX2_gatherBeside_58 : decode cX2_gatherBeside 58 = .ok (.bipush 24, 2) := by decide +kernel
theorem dX2_gatherBeside_60 : decode cX2_gatherBeside 60 = .ok (.if_icmp .ge 26, 3) := by decide +kernel
theorem dX2_gatherBeside_63 : decode cX2_gatherBeside 63 = .ok (.aload_n 0, 1) := by decide +kernel
theorem dX2_gatherBeside_64 : decode cX2_gatherBeside 64 = .ok (.getfield 9, 3) := by decide +kernel
theorem dX2_gatherBeside_67 : decode cX2_gatherBeside 67 = .ok (.iload 7, 2) := by decide +kernel
theorem dX2_gatherBeside_69 : decode cX2_gatherBeside 69 = .ok (.aload_n 0, 1) := by decide +kernel
theorem dX2_gatherBeside_70 : decode cX2_gatherBeside 70 = .ok (.getfield 21, 3) := by decide +kernel
theorem dX2_gatherBeside_73 : decode cX2_gatherBeside 73 = .ok (.iastore, 1) := by decide +kernel
theorem dX2_gatherBeside_74 : decode cX2_gatherBeside 74 = .ok (.aload_n 0, 1) := by decide +kernel
theorem dX2_gatherBeside_75 : decode cX2_gatherBeside 75 = .ok (.getfield 18, 3) := by decide +kernel
theorem dX2_gatherBeside_78 : decode cX2_gatherBeside 78 = .ok (.iload 5, 2) := by decide +kernel
theorem dX2_gatherBeside_80 : decode cX2_gatherBeside 80 = .ok (.iload 7, 2) := by decide +kernel
theorem dX2_gatherBeside_82 : decode cX2_gatherBeside 82 = .ok (.iastore, 1) := by decide +kernel
theorem dX2_gatherBeside_83 : decode cX2_gatherBeside 83 = .ok (.iinc 5 1, 3) := by decide +kernel
theorem dX2_gatherBeside_86 : decode cX2_gatherBeside 86 = .ok (.iinc 6 1, 3) := by decide +kernel
theorem dX2_gatherBeside_89 : decode cX2_gatherBeside 89 = .ok (.goto (-69), 3) := by decide +kernel
theorem dX2_gatherBeside_92 : decode cX2_gatherBeside 92 = .ok (.iload 5, 2) := by decide +kernel
theorem dX2_gatherBeside_94 : decode cX2_gatherBeside 94 = .ok (.ireturn, 1) := by decide +kernel
theorem dX2_greatest_0 : decode cX2_greatest 0 = .ok (.iconst 0, 1) := by decide +kernel
theorem dX2_greatest_1 : decode cX2_greatest 1 = .ok (.istore_n 1, 1) := by decide +kernel
theorem dX2_greatest_2 : decode cX2_greatest 2 = .ok (.iconst 0, 1) := by decide +kernel
theorem dX2_greatest_3 : decode cX2_greatest 3 = .ok (.istore_n 2, 1) := by decide +kernel
theorem dX2_greatest_4 : decode cX2_greatest 4 = .ok (.iload_n 2, 1) := by decide +kernel
theorem dX2_greatest_5 : decode cX2_greatest 5 = .ok (.aload_n 0, 1) := by decide +kernel
theorem dX2_greatest_6 : decode cX2_greatest 6 = .ok (.getfield 21, 3) := by decide +kernel
theorem dX2_greatest_9 : decode cX2_greatest 9 = .ok (.if_icmp .ge 26, 3) := by decide +kernel
theorem dX2_greatest_12 : decode cX2_greatest 12 = .ok (.iload_n 2, 1) := by decide +kernel
theorem dX2_greatest_13 : decode cX2_greatest 13 = .ok (.bipush 24, 2) := by decide +kernel
theorem dX2_greatest_15 : decode cX2_greatest 15 = .ok (.if_icmp .ge 20, 3) := by decide +kernel
theorem dX2_greatest_18 : decode cX2_greatest 18 = .ok (.iload_n 1, 1) := by decide +kernel
theorem dX2_greatest_19 : decode cX2_greatest 19 = .ok (.aload_n 0, 1) := by decide +kernel
theorem dX2_greatest_20 : decode cX2_greatest 20 = .ok (.getfield 15, 3) := by decide +kernel
theorem dX2_greatest_23 : decode cX2_greatest 23 = .ok (.iload_n 2, 1) := by decide +kernel
theorem dX2_greatest_24 : decode cX2_greatest 24 = .ok (.iaload, 1) := by decide +kernel
theorem dX2_greatest_25 : decode cX2_greatest 25 = .ok (.invokestatic 70, 3) := by decide +kernel
theorem dX2_greatest_28 : decode cX2_greatest 28 = .ok (.istore_n 1, 1) := by decide +kernel
theorem dX2_greatest_29 : decode cX2_greatest 29 = .ok (.iinc 2 1, 3) := by decide +kernel
theorem dX2_greatest_32 : decode cX2_greatest 32 = .ok (.goto (-28), 3) := by decide +kernel
theorem dX2_greatest_35 : decode cX2_greatest 35 = .ok (.iload_n 1, 1) := by decide +kernel
theorem dX2_greatest_36 : decode cX2_greatest 36 = .ok (.ireturn, 1) := by decide +kernel
theorem dX2_sizeAround_0 : decode cX2_sizeAround 0 = .ok (.iload_n 1, 1) := by decide +kernel
theorem dX2_sizeAround_1 : decode cX2_sizeAround 1 = .ok (.ifCond .lt 9, 3) := by decide +kernel
theorem dX2_sizeAround_4 : decode cX2_sizeAround 4 = .ok (.iload_n 1, 1) := by decide +kernel
theorem dX2_sizeAround_5 : decode cX2_sizeAround 5 = .ok (.bipush 24, 2) := by decide +kernel
theorem dX2_sizeAround_7 : decode cX2_sizeAround 7 = .ok (.if_icmp .lt 5, 3) := by decide +kernel
theorem dX2_sizeAround_10 : decode cX2_sizeAround 10 = .ok (.iconst 0, 1) := by decide +kernel
theorem dX2_sizeAround_11 : decode cX2_sizeAround 11 = .ok (.ireturn, 1) := by decide +kernel
theorem dX2_sizeAround_12 : decode cX2_sizeAround 12 = .ok (.aload_n 0, 1) := by decide +kernel
theorem dX2_sizeAround_13 : decode cX2_sizeAround 13 = .ok (.getfield 9, 3) := by decide +kernel
theorem dX2_sizeAround_16 : decode cX2_sizeAround 16 = .ok (.iload_n 1, 1) := by decide +kernel
theorem dX2_sizeAround_17 : decode cX2_sizeAround 17 = .ok (.iaload, 1) := by decide +kernel
theorem dX2_sizeAround_18 : decode cX2_sizeAround 18 = .ok (.istore_n 2, 1) := by decide +kernel
theorem dX2_sizeAround_19 : decode cX2_sizeAround 19 = .ok (.iload_n 2, 1) := by decide +kernel
theorem dX2_sizeAround_20 : decode cX2_sizeAround 20 = .ok (.ifCond .lt 18, 3) := by decide +kernel
theorem dX2_sizeAround_23 : decode cX2_sizeAround 23 = .ok (.iload_n 2, 1) := by decide +kernel
theorem dX2_sizeAround_24 : decode cX2_sizeAround 24 = .ok (.bipush 24, 2) := by decide +kernel
theorem dX2_sizeAround_26 : decode cX2_sizeAround 26 = .ok (.if_icmp .ge 12, 3) := by decide +kernel
theorem dX2_sizeAround_29 : decode cX2_sizeAround 29 = .ok (.aload_n 0, 1) := by decide +kernel
theorem dX2_sizeAround_30 : decode cX2_sizeAround 30 = .ok (.getfield 15, 3) := by decide +kernel
theorem dX2_sizeAround_33 : decode cX2_sizeAround 33 = .ok (.iload_n 2, 1) := by decide +kernel
theorem dX2_sizeAround_34 : decode cX2_sizeAround 34 = .ok (.iaload, 1) := by decide +kernel
theorem dX2_sizeAround_35 : decode cX2_sizeAround 35 = .ok (.goto 4, 3) := by decide +kernel
theorem dX2_sizeAround_38 : decode cX2_sizeAround 38 = .ok (.iconst 0, 1) := by decide +kernel
theorem dX2_sizeAround_39 : decode cX2_sizeAround 39 = .ok (.ireturn, 1) := by decide +kernel
theorem dX3_init_0 : decode cX3_init 0 = .ok (.aload_n 0, 1) := by decide +kernel
theorem dX3_init_1 : decode cX3_init 1 = .ok (.invokespecial 3, 3) := by decide +kernel
theorem dX3_init_4 : decode cX3_init 4 = .ok (.aload_n 0, 1) := by decide +kernel
theorem dX3_init_5 : decode cX3_init 5 = .ok (.sipush 196, 3) := by decide +kernel
theorem dX3_init_8 : decode cX3_init 8 = .ok (.newarray .int, 2) := by decide +kernel
theorem dX3_init_10 : decode cX3_init 10 = .ok (.putfield 9, 3) := by decide +kernel
theorem dX3_init_13 : decode cX3_init 13 = .ok (.aload_n 0, 1) := by decide +kernel
theorem dX3_init_14 : decode cX3_init 14 = .ok (.sipush 196, 3) := by decide +kernel
theorem dX3_init_17 : decode cX3_init 17 = .ok (.newarray .int, 2) := by decide +kernel
theorem dX3_init_19 : decode cX3_init 19 = .ok (.putfield 15, 3) := by decide +kernel
theorem dX3_init_22 : decode cX3_init 22 = .ok (.aload_n 0, 1) := by decide +kernel
theorem dX3_init_23 : decode cX3_init 23 = .ok (.sipush 784, 3) := by decide +kernel
theorem dX3_init_26 : decode cX3_init 26 = .ok (.newarray .int, 2) := by decide +kernel
theorem dX3_init_28 : decode cX3_init 28 = .ok (.putfield 18, 3) := by decide +kernel
theorem dX3_init_31 : decode cX3_init 31 = .ok (.aload_n 0, 1) := by decide +kernel
theorem dX3_init_32 : decode cX3_init 32 = .ok (.sipush 196, 3) := by decide +kernel
theorem dX3_init_35 : decode cX3_init 35 = .ok (.newarray .int, 2) := by decide +kernel
theorem dX3_init_37 : decode cX3_init 37 = .ok (.putfield 21, 3) := by decide +kernel
theorem dX3_init_40 : decode cX3_init 40 = .ok (.aload_n 0, 1) := by decide +kernel
theorem dX3_init_41 : decode cX3_init 41 = .ok (.aload_n 1, 1) := by decide +kernel
theorem dX3_init_42 : decode cX3_init 42 = .ok (.putfield 24, 3) := by decide +kernel
theorem dX3_init_45 : decode cX3_init 45 = .ok (.return_, 1) := by decide +kernel
theorem dX3_clear_0 : decode cX3_clear 0 = .ok (.iconst 0, 1) := by decide +kernel
theorem dX3_clear_1 : decode cX3_clear 1 = .ok (.istore_n 1, 1) := by decide +kernel
theorem dX3_clear_2 : decode cX3_clear 2 = .ok (.iload_n 1, 1) := by decide +kernel
theorem dX3_clear_3 : decode cX3_clear 3 = .ok (.sipush 196, 3) := by decide +kernel
theorem dX3_clear_6 : decode cX3_clear 6 = .ok (.if_icmp .ge 23, 3) := by decide +kernel
theorem dX3_clear_9 : decode cX3_clear 9 = .ok (.aload_n 0, 1) := by decide +kernel
theorem dX3_clear_10 : decode cX3_clear 10 = .ok (.getfield 9, 3) := by decide +kernel
theorem dX3_clear_13 : decode cX3_clear 13 = .ok (.iload_n 1, 1) := by decide +kernel
theorem dX3_clear_14 : decode cX3_clear 14 = .ok (.iconst 0, 1) := by decide +kernel
theorem dX3_clear_15 : decode cX3_clear 15 = .ok (.iastore, 1) := by decide +kernel
theorem dX3_clear_16 : decode cX3_clear 16 = .ok (.aload_n 0, 1) := by decide +kernel
theorem dX3_clear_17 : decode cX3_clear 17 = .ok (.getfield 15, 3) := by decide +kernel
theorem dX3_clear_20 : decode cX3_clear 20 = .ok (.iload_n 1, 1) := by decide +kernel
theorem dX3_clear_21 : decode cX3_clear 21 = .ok (.iconst 0, 1) := by decide +kernel
theorem dX3_clear_22 : decode cX3_clear 22 = .ok (.iastore, 1) := by decide +kernel
theorem dX3_clear_23 : decode cX3_clear 23 = .ok (.iinc 1 1, 3) := by decide +kernel
theorem dX3_clear_26 : decode cX3_clear 26 = .ok (.goto (-24), 3) := by decide +kernel
theorem dX3_clear_29 : decode cX3_clear 29 = .ok (.iconst 0, 1) := by decide +kernel
theorem dX3_clear_30 : decode cX3_clear 30 = .ok (.istore_n 1, 1) := by decide +kernel
theorem dX3_clear_31 : decode cX3_clear 31 = .ok (.iload_n 1, 1) := by decide +kernel
theorem dX3_clear_32 : decode cX3_clear 32 = .ok (.sipush 784, 3) := by decide +kernel
theorem dX3_clear_35 : decode cX3_clear 35 = .ok (.if_icmp .ge 16, 3) := by decide +kernel
theorem dX3_clear_38 : decode cX3_clear 38 = .ok (.aload_n 0, 1) := by decide +kernel
theorem dX3_clear_39 : decode cX3_clear 39 = .ok (.getfield 18, 3) := by decide +kernel
theorem dX3_clear_42 : decode cX3_clear 42 = .ok (.iload_n 1, 1) := by decide +kernel
theorem dX3_clear_43 : decode cX3_clear 43 = .ok (.iconst (-1), 1) := by decide +kernel
theorem dX3_clear_44 : decode cX3_clear 44 = .ok (.iastore, 1) := by decide +kernel
theorem dX3_clear_45 : decode cX3_clear 45 = .ok (.iinc 1 1, 3) := by decide +kernel
theorem dX3_clear_48 : decode cX3_clear 48 = .ok (.goto (-17), 3) := by decide +kernel
theorem dX3_clear_51 : decode cX3_clear 51 = .ok (.return_, 1) := by decide +kernel
theorem dX3_copyFrom_0 : decode cX3_copyFrom 0 = .ok (.aload_n 1, 1) := by decide +kernel
theorem dX3_copyFrom_1 : decode cX3_copyFrom 1 = .ok (.getfield 9, 3) := by decide +kernel
theorem dX3_copyFrom_4 : decode cX3_copyFrom 4 = .ok (.iconst 0, 1) := by decide +kernel
theorem dX3_copyFrom_5 : decode cX3_copyFrom 5 = .ok (.aload_n 0, 1) := by decide +kernel
theorem dX3_copyFrom_6 : decode cX3_copyFrom 6 = .ok (.getfield 9, 3) := by decide +kernel
theorem dX3_copyFrom_9 : decode cX3_copyFrom 9 = .ok (.iconst 0, 1) := by decide +kernel
theorem dX3_copyFrom_10 : decode cX3_copyFrom 10 = .ok (.sipush 196, 3) := by decide +kernel
theorem dX3_copyFrom_13 : decode cX3_copyFrom 13 = .ok (.invokestatic 28, 3) := by decide +kernel
theorem dX3_copyFrom_16 : decode cX3_copyFrom 16 = .ok (.aload_n 1, 1) := by decide +kernel
theorem dX3_copyFrom_17 : decode cX3_copyFrom 17 = .ok (.getfield 15, 3) := by decide +kernel
theorem dX3_copyFrom_20 : decode cX3_copyFrom 20 = .ok (.iconst 0, 1) := by decide +kernel
theorem dX3_copyFrom_21 : decode cX3_copyFrom 21 = .ok (.aload_n 0, 1) := by decide +kernel
theorem dX3_copyFrom_22 : decode cX3_copyFrom 22 = .ok (.getfield 15, 3) := by decide +kernel
theorem dX3_copyFrom_25 : decode cX3_copyFrom 25 = .ok (.iconst 0, 1) := by decide +kernel
theorem dX3_copyFrom_26 : decode cX3_copyFrom 26 = .ok (.sipush 196, 3) := by decide +kernel
theorem dX3_copyFrom_29 : decode cX3_copyFrom 29 = .ok (.invokestatic 28, 3) := by decide +kernel
theorem dX3_copyFrom_32 : decode cX3_copyFrom 32 = .ok (.aload_n 1, 1) := by decide +kernel
theorem dX3_copyFrom_33 : decode cX3_copyFrom 33 = .ok (.getfield 18, 3) := by decide +kernel
theorem dX3_copyFrom_36 : decode cX3_copyFrom 36 = .ok (.iconst 0, 1) := by decide +kernel
theorem dX3_copyFrom_37 : decode cX3_copyFrom 37 = .ok (.aload_n 0, 1) := by decide +kernel
theorem dX3_copyFrom_38 : decode cX3_copyFrom 38 = .ok (.getfield 18, 3) := by decide +kernel
theorem dX3_copyFrom_41 : decode cX3_copyFrom 41 = .ok (.iconst 0, 1) := by decide +kernel
theorem dX3_copyFrom_42 : decode cX3_copyFrom 42 = .ok (.sipush 784, 3) := by decide +kernel
theorem dX3_copyFrom_45 : decode cX3_copyFrom 45 = .ok (.invokestatic 28, 3) := by decide +kernel
theorem dX3_copyFrom_48 : decode cX3_copyFrom 48 = .ok (.return_, 1) := by decide +kernel
theorem dX3_isFree_0 : decode cX3_isFree 0 = .ok (.aload_n 0, 1) := by decide +kernel
theorem dX3_isFree_1 : decode cX3_isFree 1 = .ok (.getfield 24, 3) := by decide +kernel
theorem dX3_isFree_4 : decode cX3_isFree 4 = .ok (.iload_n 1, 1) := by decide +kernel
theorem dX3_isFree_5 : decode cX3_isFree 5 = .ok (.invokevirtual 34, 3) := by decide +kernel
theorem dX3_isFree_8 : decode cX3_isFree 8 = .ok (.ifCond .eq 16, 3) := by decide +kernel
theorem dX3_isFree_11 : decode cX3_isFree 11 = .ok (.aload_n 0, 1) := by decide +kernel
theorem dX3_isFree_12 : decode cX3_isFree 12 = .ok (.getfield 9, 3) := by decide +kernel
theorem dX3_isFree_15 : decode cX3_isFree 15 = .ok (.iload_n 1, 1) := by decide +kernel
theorem dX3_isFree_16 : decode cX3_isFree 16 = .ok (.iaload, 1) := by decide +kernel
theorem dX3_isFree_17 : decode cX3_isFree 17 = .ok (.ifCond .ne 7, 3) := by decide +kernel
theorem dX3_isFree_20 : decode cX3_isFree 20 = .ok (.iconst 1, 1) := by decide +kernel
theorem dX3_isFree_21 : decode cX3_isFree 21 = .ok (.goto 4, 3) := by decide +kernel
theorem dX3_isFree_24 : decode cX3_isFree 24 = .ok (.iconst 0, 1) := by decide +kernel
theorem dX3_isFree_25 : decode cX3_isFree 25 = .ok (.ireturn, 1) := by decide +kernel
theorem dX3_isMarked_0 : decode cX3_isMarked 0 = .ok (.iload_n 1, 1) := by decide +kernel
theorem dX3_isMarked_1 : decode cX3_isMarked 1 = .ok (.invokestatic 40, 3) := by decide +kernel
theorem dX3_isMarked_4 : decode cX3_isMarked 4 = .ok (.ifCond .eq 31, 3) := by decide +kernel
theorem dX3_isMarked_7 : decode cX3_isMarked 7 = .ok (.aload_n 0, 1) := by decide +kernel
theorem dX3_isMarked_8 : decode cX3_isMarked 8 = .ok (.getfield 24, 3) := by decide +kernel
theorem dX3_isMarked_11 : decode cX3_isMarked 11 = .ok (.iload_n 2, 1) := by decide +kernel
theorem dX3_isMarked_12 : decode cX3_isMarked 12 = .ok (.invokevirtual 34, 3) := by decide +kernel
theorem dX3_isMarked_15 : decode cX3_isMarked 15 = .ok (.ifCond .eq 20, 3) := by decide +kernel
theorem dX3_isMarked_18 : decode cX3_isMarked 18 = .ok (.aload_n 0, 1) := by decide +kernel
theorem dX3_isMarked_19 : decode cX3_isMarked 19 = .ok (.getfield 15, 3) := by decide +kernel
theorem dX3_isMarked_22 : decode cX3_isMarked 22 = .ok (.iload_n 2, 1) := by decide +kernel
theorem dX3_isMarked_23 : decode cX3_isMarked 23 = .ok (.iaload, 1) := by decide +kernel
theorem dX3_isMarked_24 : decode cX3_isMarked 24 = .ok (.iconst 1, 1) := by decide +kernel
theorem dX3_isMarked_25 : decode cX3_isMarked 25 = .ok (.iload_n 1, 1) := by decide +kernel
theorem dX3_isMarked_26 : decode cX3_isMarked 26 = .ok (.ishl, 1) := by decide +kernel
theorem dX3_isMarked_27 : decode cX3_isMarked 27 = .ok (.iand, 1) := by decide +kernel
theorem dX3_isMarked_28 : decode cX3_isMarked 28 = .ok (.ifCond .eq 7, 3) := by decide +kernel
theorem dX3_isMarked_31 : decode cX3_isMarked 31 = .ok (.iconst 1, 1) := by decide +kernel
theorem dX3_isMarked_32 : decode cX3_isMarked 32 = .ok (.goto 4, 3) := by decide +kernel
theorem dX3_isMarked_35 : decode cX3_isMarked 35 = .ok (.iconst 0, 1) := by decide +kernel
theorem dX3_isMarked_36 : decode cX3_isMarked 36 = .ok (.ireturn, 1) := by decide +kernel
theorem dX3_distance_0 : decode cX3_distance 0 = .ok (.iload_n 1, 1) := by decide +kernel
theorem dX3_distance_1 : decode cX3_distance 1 = .ok (.invokestatic 40, 3) := by decide +kernel
theorem dX3_distance_4 : decode cX3_distance 4 = .ok (.ifCond .eq 29, 3) := by decide +kernel
theorem dX3_distance_7 : decode cX3_distance 7 = .ok (.aload_n 0, 1) := by decide +kernel
theorem dX3_distance_8 : decode cX3_distance 8 = .ok (.getfield 24, 3) := by decide +kernel
theorem dX3_distance_11 : decode cX3_distance 11 = .ok (.iload_n 2, 1) := by decide +kernel
theorem dX3_distance_12 : decode cX3_distance 12 = .ok (.invokevirtual 34, 3) := by decide +kernel
theorem dX3_distance_15 : decode cX3_distance 15 = .ok (.ifCond .eq 18, 3) := by decide +kernel
theorem dX3_distance_18 : decode cX3_distance 18 = .ok (.aload_n 0, 1) := by decide +kernel
theorem dX3_distance_19 : decode cX3_distance 19 = .ok (.getfield 18, 3) := by decide +kernel
theorem dX3_distance_22 : decode cX3_distance 22 = .ok (.iload_n 1, 1) := by decide +kernel
theorem dX3_distance_23 : decode cX3_distance 23 = .ok (.sipush 196, 3) := by decide +kernel
theorem dX3_distance_26 : decode cX3_distance 26 = .ok (.imul, 1) := by decide +kernel
theorem dX3_distance_27 : decode cX3_distance 27 = .ok (.iload_n 2, 1) := by decide +kernel
theorem dX3_distance_28 : decode cX3_distance 28 = .ok (.iadd, 1) := by decide +kernel
theorem dX3_distance_29 : decode cX3_distance 29 = .ok (.iaload, 1) := by decide +kernel
theorem dX3_distance_30 : decode cX3_distance 30 = .ok (.goto 4, 3) := by decide +kernel
theorem dX3_distance_33 : decode cX3_distance 33 = .ok (.iconst (-1), 1) := by decide +kernel
theorem dX3_distance_34 : decode cX3_distance 34 = .ok (.ireturn, 1) := by decide +kernel
theorem dX3_build_0 : decode cX3_build 0 = .ok (.aload_n 0, 1) := by decide +kernel
theorem dX3_build_1 : decode cX3_build 1 = .ok (.getfield 24, 3) := by decide +kernel
theorem dX3_build_4 : decode cX3_build 4 = .ok (.iload_n 1, 1) := by decide +kernel
theorem dX3_build_5 : decode cX3_build 5 = .ok (.invokevirtual 34, 3) := by decide +kernel
theorem dX3_build_8 : decode cX3_build 8 = .ok (.ifCond .eq 18, 3) := by decide +kernel
theorem dX3_build_11 : decode cX3_build 11 = .ok (.aload_n 0, 1) := by decide +kernel
theorem dX3_build_12 : decode cX3_build 12 = .ok (.getfield 9, 3) := by decide +kernel
theorem dX3_build_15 : decode cX3_build 15 = .ok (.iload_n 1, 1) := by decide +kernel
theorem dX3_build_16 : decode cX3_build 16 = .ok (.iload_n 2, 1) := by decide +kernel
theorem dX3_build_17 : decode cX3_build 17 = .ok (.ifCond .eq 7, 3) := by decide +kernel
theorem dX3_build_20 : decode cX3_build 20 = .ok (.iconst 1, 1) := by decide +kernel
theorem dX3_build_21 : decode cX3_build 21 = .ok (.goto 4, 3) := by decide +kernel
theorem dX3_build_24 : decode cX3_build 24 = .ok (.iconst 0, 1) := by decide +kernel
theorem dX3_build_25 : decode cX3_build 25 = .ok (.iastore, 1) := by decide +kernel
theorem dX3_build_26 : decode cX3_build 26 = .ok (.return_, 1) := by decide +kernel
theorem dX3_turnMark_0 : decode cX3_turnMark 0 = .ok (.iload_n 1, 1) := by decide +kernel
theorem dX3_turnMark_1 : decode cX3_turnMark 1 = .ok (.invokestatic 40, 3) := by decide +kernel
theorem dX3_turnMark_4 : decode cX3_turnMark 4 = .ok (.ifCond .eq 26, 3) := by decide +kernel
theorem dX3_turnMark_7 : decode cX3_turnMark 7 = .ok (.aload_n 0, 1) := by decide +kernel
theorem dX3_turnMark_8 : decode cX3_turnMark 8 = .ok (.getfield 24, 3) := by decide +kernel
theorem dX3_turnMark_11 : decode cX3_turnMark 11 = .ok (.iload_n 2, 1) := by decide +kernel
theorem dX3_turnMark_12 : decode cX3_turnMark 12 = .ok (.invokevirtual 34, 3) := by decide +kernel
theorem dX3_turnMark_15 : decode cX3_turnMark 15 = .ok (.ifCond .eq 15, 3) := by decide +kernel
theorem dX3_turnMark_18 : decode cX3_turnMark 18 = .ok (.aload_n 0, 1) := by decide +kernel
theorem dX3_turnMark_19 : decode cX3_turnMark 19 = .ok (.getfield 15, 3) := by decide +kernel
theorem dX3_turnMark_22 : decode cX3_turnMark 22 = .ok (.iload_n 2, 1) := by decide +kernel
theorem dX3_turnMark_23 : decode cX3_turnMark 23 = .ok (.dup2, 1) := by decide +kernel
theorem dX3_turnMark_24 : decode cX3_turnMark 24 = .ok (.iaload, 1) := by decide +kernel
theorem dX3_turnMark_25 : decode cX3_turnMark 25 = .ok (.iconst 1, 1) := by decide +kernel
theorem dX3_turnMark_26 : decode cX3_turnMark 26 = .ok (.iload_n 1, 1) := by decide +kernel
theorem dX3_turnMark_27 : decode cX3_turnMark 27 = .ok (.ishl, 1) := by decide +kernel
theorem dX3_turnMark_28 : decode cX3_turnMark 28 = .ok (.ixor, 1) := by decide +kernel
theorem dX3_turnMark_29 : decode cX3_turnMark 29 = .ok (.iastore, 1) := by decide +kernel
theorem dX3_turnMark_30 : decode cX3_turnMark 30 = .ok (.return_, 1) := by decide +kernel
theorem dX3_countWalls_0 : decode cX3_countWalls 0 = .ok (.iconst 0, 1) := by decide +kernel
theorem dX3_countWalls_1 : decode cX3_countWalls 1 = .ok (.istore_n 1, 1) := by decide +kernel
theorem dX3_countWalls_2 : decode cX3_countWalls 2 = .ok (.iconst 0, 1) := by decide +kernel
theorem dX3_countWalls_3 : decode cX3_countWalls 3 = .ok (.istore_n 2, 1) := by decide +kernel
theorem dX3_countWalls_4 : decode cX3_countWalls 4 = .ok (.iload_n 2, 1) := by decide +kernel
theorem dX3_countWalls_5 : decode cX3_countWalls 5 = .ok (.aload_n 0, 1) := by decide +kernel
theorem dX3_countWalls_6 : decode cX3_countWalls 6 = .ok (.getfield 24, 3) := by decide +kernel
theorem dX3_countWalls_9 : decode cX3_countWalls 9 = .ok (.getfield 43, 3) := by decide +kernel
theorem dX3_countWalls_12 : decode cX3_countWalls 12 = .ok (.if_icmp .ge 20, 3) := by decide +kernel
theorem dX3_countWalls_15 : decode cX3_countWalls 15 = .ok (.aload_n 0, 1) := by decide +kernel
theorem dX3_countWalls_16 : decode cX3_countWalls 16 = .ok (.iload_n 2, 1) := by decide +kernel
theorem dX3_countWalls_17 : decode cX3_countWalls 17 = .ok (.invokevirtual 47, 3) := by decide +kernel
theorem dX3_countWalls_20 : decode cX3_countWalls 20 = .ok (.ifCond .ne 6, 3) := by decide +kernel
theorem dX3_countWalls_23 : decode cX3_countWalls 23 = .ok (.iinc 1 1, 3) := by decide +kernel
theorem dX3_countWalls_26 : decode cX3_countWalls 26 = .ok (.iinc 2 1, 3) := by decide +kernel
theorem dX3_countWalls_29 : decode cX3_countWalls 29 = .ok (.goto (-25), 3) := by decide +kernel
theorem dX3_countWalls_32 : decode cX3_countWalls 32 = .ok (.iload_n 1, 1) := by decide +kernel
theorem dX3_countWalls_33 : decode cX3_countWalls 33 = .ok (.ireturn, 1) := by decide +kernel
theorem dX3_countMarks_0 : decode cX3_countMarks 0 = .ok (.iconst 0, 1) := by decide +kernel
theorem dX3_countMarks_1 : decode cX3_countMarks 1 = .ok (.istore_n 2, 1) := by decide +kernel
theorem dX3_countMarks_2 : decode cX3_countMarks 2 = .ok (.iconst 0, 1) := by decide +kernel
theorem dX3_countMarks_3 : decode cX3_countMarks 3 = .ok (.istore_n 3, 1) := by decide +kernel
theorem dX3_countMarks_4 : decode cX3_countMarks 4 = .ok (.iload_n 3, 1) := by decide +kernel
theorem dX3_countMarks_5 : decode cX3_countMarks 5 = .ok (.aload_n 0, 1) := by decide +kernel
theorem dX3_countMarks_6 : decode cX3_countMarks 6 = .ok (.getfield 24, 3) := by decide +kernel
theorem dX3_countMarks_9 : decode cX3_countMarks 9 = .ok (.getfield 43, 3) := by decide +kernel
theorem dX3_countMarks_12 : decode cX3_countMarks 12 = .ok (.if_icmp .ge 21, 3) := by decide +kernel
theorem dX3_countMarks_15 : decode cX3_countMarks 15 = .ok (.aload_n 0, 1) := by decide +kernel
theorem dX3_countMarks_16 : decode cX3_countMarks 16 = .ok (.iload_n 1, 1) := by decide +kernel
theorem dX3_countMarks_17 : decode cX3_countMarks 17 = .ok (.iload_n 3, 1) := by decide +kernel
theorem dX3_countMarks_18 : decode cX3_countMarks 18 = .ok (.invokevirtual 50, 3) := by decide +kernel
theorem dX3_countMarks_21 : decode cX3_countMarks 21 = .ok (.ifCond .eq 6, 3) := by decide +kernel
theorem dX3_countMarks_24 : decode cX3_countMarks 24 = .ok (.iinc 2 1, 3) := by decide +kernel
theorem dX3_countMarks_27 : decode cX3_countMarks 27 = .ok (.iinc 3 1, 3) := by decide +kernel
theorem dX3_countMarks_30 : decode cX3_countMarks 30 = .ok (.goto (-26), 3) := by decide +kernel
theorem dX3_countMarks_33 : decode cX3_countMarks 33 = .ok (.iload_n 2, 1) := by decide +kernel
theorem dX3_countMarks_34 : decode cX3_countMarks 34 = .ok (.ireturn, 1) := by decide +kernel
theorem dX3_greatestDistance_0 : decode cX3_greatestDistance 0 = .ok (.iconst (-1), 1) := by decide +kernel
theorem dX3_greatestDistance_1 : decode cX3_greatestDistance 1 = .ok (.istore_n 2, 1) := by decide +kernel
theorem dX3_greatestDistance_2 : decode cX3_greatestDistance 2 = .ok (.iconst 0, 1) := by decide +kernel
theorem dX3_greatestDistance_3 : decode cX3_greatestDistance 3 = .ok (.istore_n 3, 1) := by decide +kernel
theorem dX3_greatestDistance_4 : decode cX3_greatestDistance 4 = .ok (.iload_n 3, 1) := by decide +kernel
theorem dX3_greatestDistance_5 : decode cX3_greatestDistance 5 = .ok (.aload_n 0, 1) := by decide +kernel
theorem dX3_greatestDistance_6 : decode cX3_greatestDistance 6 = .ok (.getfield 24, 3) := by decide +kernel
theorem dX3_greatestDistance_9 : decode cX3_greatestDistance 9 = .ok (.getfield 43, 3) := by decide +kernel
theorem dX3_greatestDistance_12 : decode cX3_greatestDistance 12 = .ok (.if_icmp .ge 20, 3) := by decide +kernel
theorem dX3_greatestDistance_15 : decode cX3_greatestDistance 15 = .ok (.iload_n 2, 1) := by decide +kernel
theorem dX3_greatestDistance_16 : decode cX3_greatestDistance 16 = .ok (.aload_n 0, 1) := by decide +kernel
theorem dX3_greatestDistance_17 : decode cX3_greatestDistance 17 = .ok (.iload_n 1, 1) := by decide +kernel
theorem dX3_greatestDistance_18 : decode cX3_greatestDistance 18 = .ok (.iload_n 3, 1) := by decide +kernel
theorem dX3_greatestDistance_19 : decode cX3_greatestDistance 19 = .ok (.invokevirtual 54, 3) := by decide +kernel
theorem dX3_greatestDistance_22 : decode cX3_greatestDistance 22 = .ok (.invokestatic 58, 3) := by decide +kernel
theorem dX3_greatestDistance_25 : decode cX3_greatestDistance 25 = .ok (.istore_n 2, 1) := by decide +kernel
theorem dX3_greatestDistance_26 : decode cX3_greatestDistance 26 = .ok (.iinc 3 1, 3) := by decide +kernel
theorem dX3_greatestDistance_29 : decode cX3_greatestDistance 29 = .ok (.goto (-25), 3) := by decide +kernel
theorem dX3_greatestDistance_32 : decode cX3_greatestDistance 32 = .ok (.iload_n 2, 1) := by decide +kernel
theorem dX3_greatestDistance_33 : decode cX3_greatestDistance 33 = .ok (.ireturn, 1) := by decide +kernel
theorem dX3_measureAll_0 : decode cX3_measureAll 0 = .ok (.iconst 0, 1) := by decide +kernel
theorem dX3_measureAll_1 : decode cX3_measureAll 1 = .ok (.istore_n 1, 1) := by decide +kernel
theorem dX3_measureAll_2 : decode cX3_measureAll 2 = .ok (.iload_n 1, 1) := by decide +kernel
theorem dX3_measureAll_3 : decode cX3_measureAll 3 = .ok (.iconst 4, 1) := by decide +kernel
theorem dX3_measureAll_4 : decode cX3_measureAll 4 = .ok (.if_icmp .ge 14, 3) := by decide +kernel
theorem dX3_measureAll_7 : decode cX3_measureAll 7 = .ok (.aload_n 0, 1) := by decide +kernel
theorem dX3_measureAll_8 : decode cX3_measureAll 8 = .ok (.iload_n 1, 1) := by decide +kernel
theorem dX3_measureAll_9 : decode cX3_measureAll 9 = .ok (.invokevirtual 63, 3) := by decide +kernel
theorem dX3_measureAll_12 : decode cX3_measureAll 12 = .ok (.iinc 1 1, 3) := by decide +kernel
theorem dX3_measureAll_15 : decode cX3_measureAll 15 = .ok (.goto (-13), 3) := by decide +kernel
theorem dX3_measureAll_18 : decode cX3_measureAll 18 = .ok (.return_, 1) := by decide +kernel
theorem dX3_measure_0 : decode cX3_measure 0 = .ok (.iconst 0, 1) := by decide +kernel
theorem dX3_measure_1 : decode cX3_measure 1 = .ok (.istore_n 2, 1) := by decide +kernel
theorem dX3_measure_2 : decode cX3_measure 2 = .ok (.iconst 0, 1) := by decide +kernel
theorem dX3_measure_3 : decode cX3_measure 3 = .ok (.istore_n 3, 1) := by decide +kernel
theorem dX3_measure_4 : decode cX3_measure 4 = .ok (.iload_n 3, 1) := by decide +kernel
theorem dX3_measure_5 : decode cX3_measure 5 = .ok (.aload_n 0, 1) := by decide +kernel
theorem dX3_measure_6 : decode cX3_measure 6 = .ok (.getfield 24, 3) := by decide +kernel
theorem dX3_measure_9 : decode cX3_measure 9 = .ok (.getfield 43, 3) := by decide +kernel
theorem dX3_measure_12 : decode cX3_measure 12 = .ok (.if_icmp .ge 65, 3) := by decide +kernel
theorem dX3_measure_15 : decode cX3_measure 15 = .ok (.aload_n 0, 1) := by decide +kernel
theorem dX3_measure_16 : decode cX3_measure 16 = .ok (.iload_n 3, 1) := by decide +kernel
theorem dX3_measure_17 : decode cX3_measure 17 = .ok (.invokevirtual 47, 3) := by decide +kernel
theorem dX3_measure_20 : decode cX3_measure 20 = .ok (.ifCond .eq 16, 3) := by decide +kernel
theorem dX3_measure_23 : decode cX3_measure 23 = .ok (.aload_n 0, 1) := by decide +kernel
theorem dX3_measure_24 : decode cX3_measure 24 = .ok (.iload_n 1, 1) := by decide +kernel
theorem dX3_measure_25 : decode cX3_measure 25 = .ok (.iload_n 3, 1) := by decide +kernel
theorem dX3_measure_26 : decode cX3_measure 26 = .ok (.invokevirtual 50, 3) := by decide +kernel
theorem dX3_measure_29 : decode cX3_measure 29 = .ok (.ifCond .eq 7, 3) := by decide +kernel
theorem dX3_measure_32 : decode cX3_measure 32 = .ok (.iconst 1, 1) := by decide +kernel
theorem dX3_measure_33 : decode cX3_measure 33 = .ok (.goto 4, 3) := by decide +kernel
theorem dX3_measure_36 : decode cX3_measure 36 = .ok (.iconst 0, 1) := by decide +kernel
theorem dX3_measure_37 : decode cX3_measure 37 = .ok (.istore 4, 2) := by decide +kernel
theorem dX3_measure_39 : decode cX3_measure 39 = .ok (.aload_n 0, 1) := by decide +kernel
theorem dX3_measure_40 : decode cX3_measure 40 = .ok (.iload_n 1, 1) := by decide +kernel
theorem dX3_measure_41 : decode cX3_measure 41 = .ok (.iload_n 3, 1) := by decide +kernel
theorem dX3_measure_42 : decode cX3_measure 42 = .ok (.iload 4, 2) := by decide +kernel
theorem dX3_measure_44 : decode cX3_measure 44 = .ok (.ifCond .eq 7, 3) := by decide +kernel
theorem dX3_measure_47 : decode cX3_measure 47 = .ok (.iconst 0, 1) := by decide +kernel
theorem dX3_measure_48 : decode cX3_measure 48 = .ok (.goto 4, 3) := by decide +kernel
theorem dX3_measure_51 : decode cX3_measure 51 = .ok (.iconst (-1), 1) := by decide +kernel
theorem dX3_measure_52 : decode cX3_measure 52 = .ok (.invokevirtual 67, 3) := by decide +kernel
theorem dX3_measure_55 : decode cX3_measure 55 = .ok (.iload 4, 2) := by decide +kernel
theorem dX3_measure_57 : decode cX3_measure 57 = .ok (.ifCond .eq 12, 3) := by decide +kernel
theorem dX3_measure_60 : decode cX3_measure 60 = .ok (.aload_n 0, 1) := by decide +kernel
theorem dX3_measure_61 : decode cX3_measure 61 = .ok (.iload_n 3, 1) := by decide +kernel
theorem dX3_measure_62 : decode cX3_measure 62 = .ok (.iload_n 2, 1) := by decide +kernel
theorem dX3_measure_63 : decode cX3_measure 63 = .ok (.invokevirtual 71, 3) := by decide +kernel
theorem dX3_measure_66 : decode cX3_measure 66 = .ok (.goto 4, 3) := by decide +kernel
theorem dX3_measure_69 : decode cX3_measure 69 = .ok (.iload_n 2, 1) := by decide +kernel
theorem dX3_measure_70 : decode cX3_measure 70 = .ok (.istore_n 2, 1) := by decide +kernel
theorem dX3_measure_71 : decode cX3_measure 71 = .ok (.iinc 3 1, 3) := by decide +kernel
theorem dX3_measure_74 : decode cX3_measure 74 = .ok (.goto (-70), 3) := by decide +kernel
theorem dX3_measure_77 : decode cX3_measure 77 = .ok (.iconst 0, 1) := by decide +kernel
theorem dX3_measure_78 : decode cX3_measure 78 = .ok (.istore_n 3, 1) := by decide +kernel
theorem dX3_measure_79 : decode cX3_measure 79 = .ok (.iload_n 3, 1) := by decide +kernel
theorem dX3_measure_80 : decode cX3_measure 80 = .ok (.iload_n 2, 1) := by decide +kernel
theorem dX3_measure_81 : decode cX3_measure 81 = .ok (.if_icmp .ge 29, 3) := by decide +kernel
theorem dX3_measure_84 : decode cX3_measure 84 = .ok (.iload_n 3, 1) := by decide +kernel
theorem dX3_measure_85 : decode cX3_measure 85 = .ok (.sipush 196, 3) := by decide +kernel
theorem dX3_measure_88 : decode cX3_measure 88 = .ok (.if_icmp .ge 22, 3) := by decide +kernel
theorem dX3_measure_91 : decode cX3_measure 91 = .ok (.aload_n 0, 1) := by decide +kernel
theorem dX3_measure_92 : decode cX3_measure 92 = .ok (.iload_n 1, 1) := by decide +kernel
theorem dX3_measure_93 : decode cX3_measure 93 = .ok (.aload_n 0, 1) := by decide +kernel
theorem dX3_measure_94 : decode cX3_measure 94 = .ok (.getfield 21, 3) := by decide +kernel
theorem dX3_measure_97 : decode cX3_measure 97 = .ok (.iload_n 3, 1) := by decide +kernel
theorem dX3_measure_98 : decode cX3_measure 98 = .ok (.iaload, 1) := by decide +kernel
theorem dX3_measure_99 : decode cX3_measure 99 = .ok (.iload_n 2, 1) := by decide +kernel
theorem dX3_measure_100 : decode cX3_measure 100 = .ok (.invokevirtual 74, 3) := by decide +kernel
theorem dX3_measure_103 : decode cX3_measure 103 = .ok (.istore_n 2, 1) := by decide +kernel
theorem dX3_measure_104 : decode cX3_measure 104 = .ok (.iinc 3 1, 3) := by decide +kernel
theorem dX3_measure_107 : decode cX3_measure 107 = .ok (.goto (-28), 3) := by decide +kernel
theorem dX3_measure_110 : decode cX3_measure 110 = .ok (.return_, 1) := by decide +kernel
theorem dX3_spread_0 : decode cX3_spread 0 = .ok (.iload_n 3, 1) := by decide +kernel
theorem dX3_spread_1 : decode cX3_spread 1 = .ok (.istore 4, 2) := by decide +kernel
theorem dX3_spread_3 : decode cX3_spread 3 = .ok (.iconst 0, 1) := by decide +kernel
theorem dX3_spread_4 : decode cX3_spread 4 = .ok (.istore 5, 2) := by decide +kernel
theorem dX3_spread_6 : decode cX3_spread 6 = .ok (.iload 5, 2) := by decide +kernel
theorem dX3_spread_8 : decode cX3_spread 8 = .ok (.iconst 4, 1) := by decide +kernel
theorem dX3_spread_9 : decode cX3_spread 9 = .ok (.if_icmp .ge 66, 3) := by decide +kernel
theorem dX3_spread_12 : decode cX3_spread 12 = .ok (.aload_n 0, 1) := by decide +kernel
theorem dX3_spread_13 : decode cX3_spread 13 = .ok (.getfield 24, 3) := by decide +kernel
theorem dX3_spread_16 : decode cX3_spread 16 = .ok (.iload_n 2, 1) := by decide +kernel
theorem dX3_spread_17 : decode cX3_spread 17 = .ok (.iload 5, 2) := by decide +kernel
theorem dX3_spread_19 : decode cX3_spread 19 = .ok (.invokevirtual 78, 3) := by decide +kernel
theorem dX3_spread_22 : decode cX3_spread 22 = .ok (.istore 6, 2) := by decide +kernel
theorem dX3_spread_24 : decode cX3_spread 24 = .ok (.aload_n 0, 1) := by decide +kernel
theorem dX3_spread_25 : decode cX3_spread 25 = .ok (.iload 6, 2) := by decide +kernel
theorem dX3_spread_27 : decode cX3_spread 27 = .ok (.invokevirtual 47, 3) := by decide +kernel
theorem dX3_spread_30 : decode cX3_spread 30 = .ok (.ifCond .eq 39, 3) := by decide +kernel
theorem dX3_spread_33 : decode cX3_spread 33 = .ok (.aload_n 0, 1) := by decide +kernel
theorem dX3_spread_34 : decode cX3_spread 34 = .ok (.iload_n 1, 1) := by decide +kernel
theorem dX3_spread_35 : decode cX3_spread 35 = .ok (.iload 6, 2) := by decide +kernel
theorem dX3_spread_37 : decode cX3_spread 37 = .ok (.invokevirtual 54, 3) := by decide +kernel
theorem dX3_spread_40 : decode cX3_spread 40 = .ok (.iconst (-1), 1) := by decide +kernel
theorem dX3_spread_41 : decode cX3_spread 41 = .ok (.if_icmp .ne 28, 3) := by decide +kernel
theorem dX3_spread_44 : decode cX3_spread 44 = .ok (.aload_n 0, 1) := by decide +kernel
theorem dX3_spread_45 : decode cX3_spread 45 = .ok (.iload_n 1, 1) := by decide +kernel
theorem dX3_spread_46 : decode cX3_spread 46 = .ok (.iload 6, 2) := by decide +kernel
theorem dX3_spread_48 : decode cX3_spread 48 = .ok (.aload_n 0, 1) := by decide +kernel
theorem dX3_spread_49 : decode cX3_spread 49 = .ok (.iload_n 1, 1) := by decide +kernel
theorem dX3_spread_50 : decode cX3_spread 50 = .ok (.iload_n 2, 1) := by decide +kernel
theorem dX3_spread_51 : decode cX3_spread 51 = .ok (.invokevirtual 54, 3) := by decide +kernel
theorem dX3_spread_54 : decode cX3_spread 54 = .ok (.iconst 1, 1) := by decide +kernel
theorem dX3_spread_55 : decode cX3_spread 55 = .ok (.iadd, 1) := by decide +kernel
theorem dX3_spread_56 : decode cX3_spread 56 = .ok (.invokevirtual 67, 3) := by decide +kernel
theorem dX3_spread_59 : decode cX3_spread 59 = .ok (.aload_n 0, 1) := by decide +kernel
theorem dX3_spread_60 : decode cX3_spread 60 = .ok (.iload 6, 2) := by decide +kernel
theorem dX3_spread_62 : decode cX3_spread 62 = .ok (.iload 4, 2) := by decide +kernel
theorem dX3_spread_64 : decode cX3_spread 64 = .ok (.invokevirtual 71, 3) := by decide +kernel
theorem dX3_spread_67 : decode cX3_spread 67 = .ok (.istore 4, 2) := by decide +kernel
theorem dX3_spread_69 : decode cX3_spread 69 = .ok (.iinc 5 1, 3) := by decide +kernel
theorem dX3_spread_72 : decode cX3_spread 72 = .ok (.goto (-66), 3) := by decide +kernel
theorem dX3_spread_75 : decode cX3_spread 75 = .ok (.iload 4, 2) := by decide +kernel
theorem dX3_spread_77 : decode cX3_spread 77 = .ok (.ireturn, 1) := by decide +kernel
theorem dX3_keepDistance_0 : decode cX3_keepDistance 0 = .ok (.iload_n 1, 1) := by decide +kernel
theorem dX3_keepDistance_1 : decode cX3_keepDistance 1 = .ok (.invokestatic 40, 3) := by decide +kernel
theorem dX3_keepDistance_4 : decode cX3_keepDistance 4 = .ok (.ifCond .eq 27, 3) := by decide +kernel
theorem dX3_keepDistance_7 : decode cX3_keepDistance 7 = .ok (.aload_n 0, 1) := by decide +kernel
theorem dX3_keepDistance_8 : decode cX3_keepDistance 8 = .ok (.getfield 24, 3) := by decide +kernel
theorem dX3_keepDistance_11 : decode cX3_keepDistance 11 = .ok (.iload_n 2, 1) := by decide +kernel
theorem dX3_keepDistance_12 : decode cX3_keepDistance 12 = .ok (.invokevirtual 34, 3) := by decide +kernel
theorem dX3_keepDistance_15 : decode cX3_keepDistance 15 = .ok (.ifCond .eq 16, 3) := by decide +kernel
theorem dX3_keepDistance_18 : decode cX3_keepDistance 18 = .ok (.aload_n 0, 1) := by decide +kernel
theorem dX3_keepDistance_19 : decode cX3_keepDistance 19 = .ok (.getfield 18, 3) := by decide +kernel
theorem dX3_keepDistance_22 : decode cX3_keepDistance 22 = .ok (.iload_n 1, 1) := by decide +kernel
theorem dX3_keepDistance_23 : decode cX3_keepDistance 23 = .ok (.sipush 196, 3) := by decide +kernel
theorem dX3_keepDistance_26 : decode cX3_keepDistance 26 = .ok (.imul, 1) := by decide +kernel
theorem dX3_keepDistance_27 : decode cX3_keepDistance 27 = .ok (.iload_n 2, 1) := by decide +kernel
theorem dX3_keepDistance_28 : decode cX3_keepDistance 28 = .ok (.iadd, 1) := by decide +kernel
theorem dX3_keepDistance_29 : decode cX3_keepDistance 29 = .ok (.iload_n 3, 1) := by decide +kernel
theorem dX3_keepDistance_30 : decode cX3_keepDistance 30 = .ok (.iastore, 1) := by decide +kernel
theorem dX3_keepDistance_31 : decode cX3_keepDistance 31 = .ok (.return_, 1) := by decide +kernel
theorem dX3_enqueue_0 : decode cX3_enqueue 0 = .ok (.iload_n 2, 1) := by decide +kernel
theorem dX3_enqueue_1 : decode cX3_enqueue 1 = .ok (.ifCond .lt 10, 3) := by decide +kernel
theorem dX3_enqueue_4 : decode cX3_enqueue 4 = .ok (.iload_n 2, 1) := by decide +kernel
theorem dX3_enqueue_5 : decode cX3_enqueue 5 = .ok (.sipush 196, 3) := by decide +kernel
theorem dX3_enqueue_8 : decode cX3_enqueue 8 = .ok (.if_icmp .lt 5, 3) := by decide +kernel
theorem dX3_enqueue_11 : decode cX3_enqueue 11 = .ok (.iload_n 2, 1) := by decide +kernel
theorem dX3_enqueue_12 : decode cX3_enqueue 12 = .ok (.ireturn, 1) := by decide +kernel
theorem dX3_enqueue_13 : decode cX3_enqueue 13 = .ok (.aload_n 0, 1) := by decide +kernel
theorem dX3_enqueue_14 : decode cX3_enqueue 14 = .ok (.getfield 21, 3) := by decide +kernel
theorem dX3_enqueue_17 : decode cX3_enqueue 17 = .ok (.iload_n 2, 1) := by decide +kernel
theorem dX3_enqueue_18 : decode cX3_enqueue 18 = .ok (.iload_n 1, 1) := by decide +kernel
theorem dX3_enqueue_19 : decode cX3_enqueue 19 = .ok (.iastore, 1) := by decide +kernel
theorem dX3_enqueue_20 : decode cX3_enqueue 20 = .ok (.iload_n 2, 1) := by decide +kernel
theorem dX3_enqueue_21 : decode cX3_enqueue 21 = .ok (.iconst 1, 1) := by decide +kernel
theorem dX3_enqueue_22 : decode cX3_enqueue 22 = .ok (.iadd, 1) := by decide +kernel
theorem dX3_enqueue_23 : decode cX3_enqueue 23 = .ok (.ireturn, 1) := by decide +kernel
theorem dX3_fieldOnWay_0 : decode cX3_fieldOnWay 0 = .ok (.aload_n 0, 1) := by decide +kernel
theorem dX3_fieldOnWay_1 : decode cX3_fieldOnWay 1 = .ok (.iload_n 1, 1) := by decide +kernel
theorem dX3_fieldOnWay_2 : decode cX3_fieldOnWay 2 = .ok (.iload_n 2, 1) := by decide +kernel
theorem dX3_fieldOnWay_3 : decode cX3_fieldOnWay 3 = .ok (.invokevirtual 54, 3) := by decide +kernel
theorem dX3_fieldOnWay_6 : decode cX3_fieldOnWay 6 = .ok (.istore 4, 2) := by decide +kernel
theorem dX3_fieldOnWay_8 : decode cX3_fieldOnWay 8 = .ok (.iload_n 3, 1) := by decide +kernel
theorem dX3_fieldOnWay_9 : decode cX3_fieldOnWay 9 = .ok (.iload 4, 2) := by decide +kernel
theorem dX3_fieldOnWay_11 : decode cX3_fieldOnWay 11 = .ok (.if_icmp .le 5, 3) := by decide +kernel
theorem dX3_fieldOnWay_14 : decode cX3_fieldOnWay 14 = .ok (.iconst (-1), 1) := by decide +kernel
theorem dX3_fieldOnWay_15 : decode cX3_fieldOnWay 15 = .ok (.ireturn, 1) := by decide +kernel
theorem dX3_fieldOnWay_16 : decode cX3_fieldOnWay 16 = .ok (.iload_n 2, 1) := by decide +kernel
theorem dX3_fieldOnWay_17 : decode cX3_fieldOnWay 17 = .ok (.istore 5, 2) := by decide +kernel
theorem dX3_fieldOnWay_19 : decode cX3_fieldOnWay 19 = .ok (.iconst 0, 1) := by decide +kernel
theorem dX3_fieldOnWay_20 : decode cX3_fieldOnWay 20 = .ok (.istore 6, 2) := by decide +kernel
theorem dX3_fieldOnWay_22 : decode cX3_fieldOnWay 22 = .ok (.iload 6, 2) := by decide +kernel
theorem dX3_fieldOnWay_24 : decode cX3_fieldOnWay 24 = .ok (.iload_n 3, 1) := by decide +kernel
theorem dX3_fieldOnWay_25 : decode cX3_fieldOnWay 25 = .ok (.if_icmp .ge 18, 3) := by decide +kernel
theorem dX3_fieldOnWay_28 : decode cX3_fieldOnWay 28 = .ok (.aload_n 0, 1) := by decide +kernel
theorem dX3_fieldOnWay_29 : decode cX3_fieldOnWay 29 = .ok (.iload_n 1, 1) := by decide +kernel
theorem dX3_fieldOnWay_30 : decode cX3_fieldOnWay 30 = .ok (.iload 5, 2) := by decide +kernel
theorem dX3_fieldOnWay_32 : decode cX3_fieldOnWay 32 = .ok (.invokevirtual 81, 3) := by decide +kernel
theorem dX3_fieldOnWay_35 : decode cX3_fieldOnWay 35 = .ok (.istore 5, 2) := by decide +kernel
theorem dX3_fieldOnWay_37 : decode cX3_fieldOnWay 37 = .ok (.iinc 6 1, 3) := by decide +kernel
theorem dX3_fieldOnWay_40 : decode cX3_fieldOnWay 40 = .ok (.goto (-18), 3) := by decide +kernel
theorem dX3_fieldOnWay_43 : decode cX3_fieldOnWay 43 = .ok (.iload 5, 2) := by decide +kernel
theorem dX3_fieldOnWay_45 : decode cX3_fieldOnWay 45 = .ok (.ireturn, 1) := by decide +kernel
theorem dX3_nearer_0 : decode cX3_nearer 0 = .ok (.aload_n 0, 1) := by decide +kernel
theorem dX3_nearer_1 : decode cX3_nearer 1 = .ok (.iload_n 1, 1) := by decide +kernel
theorem dX3_nearer_2 : decode cX3_nearer 2 = .ok (.iload_n 2, 1) := by decide +kernel
theorem dX3_nearer_3 : decode cX3_nearer 3 = .ok (.invokevirtual 54, 3) := by decide +kernel
theorem dX3_nearer_6 : decode cX3_nearer 6 = .ok (.iconst 1, 1) := by decide +kernel
theorem dX3_nearer_7 : decode cX3_nearer 7 = .ok (.isub, 1) := by decide +kernel
theorem dX3_nearer_8 : decode cX3_nearer 8 = .ok (.istore_n 3, 1) := by decide +kernel
theorem dX3_nearer_9 : decode cX3_nearer 9 = .ok (.iconst 0, 1) := by decide +kernel
theorem dX3_nearer_10 : decode cX3_nearer 10 = .ok (.istore 4, 2) := by decide +kernel
theorem dX3_nearer_12 : decode cX3_nearer 12 = .ok (.iload 4, 2) := by decide +kernel
theorem dX3_nearer_14 : decode cX3_nearer 14 = .ok (.iconst 4, 1) := by decide +kernel
theorem dX3_nearer_15 : decode cX3_nearer 15 = .ok (.if_icmp .ge 41, 3) := by decide +kernel
theorem dX3_nearer_18 : decode cX3_nearer 18 = .ok (.aload_n 0, 1) := by decide +kernel
theorem dX3_nearer_19 : decode cX3_nearer 19 = .ok (.getfield 24, 3) := by decide +kernel
theorem dX3_nearer_22 : decode cX3_nearer 22 = .ok (.iload_n 2, 1) := by decide +kernel
theorem dX3_nearer_23 : decode cX3_nearer 23 = .ok (.iload 4, 2) := by decide +kernel
theorem dX3_nearer_25 : decode cX3_nearer 25 = .ok (.invokevirtual 78, 3) := by decide +kernel
theorem dX3_nearer_28 : decode cX3_nearer 28 = .ok (.istore 5, 2) := by decide +kernel
theorem dX3_nearer_30 : decode cX3_nearer 30 = .ok (.iload 5, 2) := by decide +kernel
theorem dX3_nearer_32 : decode cX3_nearer 32 = .ok (.iconst (-1), 1) := by decide +kernel
theorem dX3_nearer_33 : decode cX3_nearer 33 = .ok (.if_icmp .eq 17, 3) := by decide +kernel
theorem dX3_nearer_36 : decode cX3_nearer 36 = .ok (.aload_n 0, 1) := by decide +kernel
theorem dX3_nearer_37 : decode cX3_nearer 37 = .ok (.iload_n 1, 1) := by decide +kernel
theorem dX3_nearer_38 : decode cX3_nearer 38 = .ok (.iload 5, 2) := by decide +kernel
theorem dX3_nearer_40 : decode cX3_nearer 40 = .ok (.invokevirtual 54, 3) := by decide +kernel
theorem dX3_nearer_43 : decode cX3_nearer 43 = .ok (.iload_n 3, 1) := by decide +kernel
theorem dX3_nearer_44 : decode cX3_nearer 44 = .ok (.if_icmp .ne 6, 3) := by decide +kernel
theorem dX3_nearer_47 : decode cX3_nearer 47 = .ok (.iload 5, 2) := by decide +kernel
theorem dX3_nearer_49 : decode cX3_nearer 49 = .ok (.ireturn, 1) := by decide +kernel
theorem dX3_nearer_50 : decode cX3_nearer 50 = .ok (.iinc 4 1, 3) := by decide +kernel
theorem dX3_nearer_53 : decode cX3_nearer 53 = .ok (.goto (-41), 3) := by decide +kernel
theorem dX3_nearer_56 : decode cX3_nearer 56 = .ok (.iconst (-1), 1) := by decide +kernel
theorem dX3_nearer_57 : decode cX3_nearer 57 = .ok (.ireturn, 1) := by decide +kernel
theorem dX4_init_0 : decode cX4_init 0 = .ok (.aload_n 0, 1) := by decide +kernel
theorem dX4_init_1 : decode cX4_init 1 = .ok (.invokespecial 3, 3) := by decide +kernel
theorem dX4_init_4 : decode cX4_init 4 = .ok (.return_, 1) := by decide +kernel
theorem dX4_come_0 : decode cX4_come 0 = .ok (.aload_n 0, 1) := by decide +kernel
theorem dX4_come_1 : decode cX4_come 1 = .ok (.iload_n 1, 1) := by decide +kernel
theorem dX4_come_2 : decode cX4_come 2 = .ok (.putfield 9, 3) := by decide +kernel
theorem dX4_come_5 : decode cX4_come 5 = .ok (.aload_n 0, 1) := by decide +kernel
theorem dX4_come_6 : decode cX4_come 6 = .ok (.iload_n 2, 1) := by decide +kernel
theorem dX4_come_7 : decode cX4_come 7 = .ok (.putfield 15, 3) := by decide +kernel
theorem dX4_come_10 : decode cX4_come 10 = .ok (.aload_n 0, 1) := by decide +kernel
theorem dX4_come_11 : decode cX4_come 11 = .ok (.iload_n 3, 1) := by decide +kernel
theorem dX4_come_12 : decode cX4_come 12 = .ok (.putfield 18, 3) := by decide +kernel
theorem dX4_come_15 : decode cX4_come 15 = .ok (.aload_n 0, 1) := by decide +kernel
theorem dX4_come_16 : decode cX4_come 16 = .ok (.iload 4, 2) := by decide +kernel
theorem dX4_come_18 : decode cX4_come 18 = .ok (.putfield 21, 3) := by decide +kernel
theorem dX4_come_21 : decode cX4_come 21 = .ok (.aload_n 0, 1) := by decide +kernel
theorem dX4_come_22 : decode cX4_come 22 = .ok (.iconst 4, 1) := by decide +kernel
theorem dX4_come_23 : decode cX4_come 23 = .ok (.putfield 24, 3) := by decide +kernel
theorem dX4_come_26 : decode cX4_come 26 = .ok (.aload_n 0, 1) := by decide +kernel
theorem dX4_come_27 : decode cX4_come 27 = .ok (.iconst 0, 1) := by decide +kernel
theorem dX4_come_28 : decode cX4_come 28 = .ok (.putfield 27, 3) := by decide +kernel
theorem dX4_come_31 : decode cX4_come 31 = .ok (.aload_n 0, 1) := by decide +kernel
theorem dX4_come_32 : decode cX4_come 32 = .ok (.iconst 0, 1) := by decide +kernel
theorem dX4_come_33 : decode cX4_come 33 = .ok (.putfield 30, 3) := by decide +kernel
theorem dX4_come_36 : decode cX4_come 36 = .ok (.aload_n 0, 1) := by decide +kernel
theorem dX4_come_37 : decode cX4_come 37 = .ok (.iconst (-1), 1) := by decide +kernel
theorem dX4_come_38 : decode cX4_come 38 = .ok (.putfield 33, 3) := by decide +kernel
theorem dX4_come_41 : decode cX4_come 41 = .ok (.return_, 1) := by decide +kernel
theorem dX4_copyFrom_0 : decode cX4_copyFrom 0 = .ok (.aload_n 0, 1) := by decide +kernel
theorem dX4_copyFrom_1 : decode cX4_copyFrom 1 = .ok (.aload_n 1, 1) := by decide +kernel
theorem dX4_copyFrom_2 : decode cX4_copyFrom 2 = .ok (.getfield 9, 3) := by decide +kernel
theorem dX4_copyFrom_5 : decode cX4_copyFrom 5 = .ok (.putfield 9, 3) := by decide +kernel
theorem dX4_copyFrom_8 : decode cX4_copyFrom 8 = .ok (.aload_n 0, 1) := by decide +kernel
theorem dX4_copyFrom_9 : decode cX4_copyFrom 9 = .ok (.aload_n 1, 1) := by decide +kernel
theorem dX4_copyFrom_10 : decode cX4_copyFrom 10 = .ok (.getfield 15, 3) := by decide +kernel
theorem dX4_copyFrom_13 : decode cX4_copyFrom 13 = .ok (.putfield 15, 3) := by decide +kernel
theorem dX4_copyFrom_16 : decode cX4_copyFrom 16 = .ok (.aload_n 0, 1) := by decide +kernel
theorem dX4_copyFrom_17 : decode cX4_copyFrom 17 = .ok (.aload_n 1, 1) := by decide +kernel
theorem dX4_copyFrom_18 : decode cX4_copyFrom 18 = .ok (.getfield 18, 3) := by decide +kernel
theorem dX4_copyFrom_21 : decode cX4_copyFrom 21 = .ok (.putfield 18, 3) := by decide +kernel
theorem dX4_copyFrom_24 : decode cX4_copyFrom 24 = .ok (.aload_n 0, 1) := by decide +kernel
theorem dX4_copyFrom_25 : decode cX4_copyFrom 25 = .ok (.aload_n 1, 1) := by decide +kernel
theorem dX4_copyFrom_26 : decode cX4_copyFrom 26 = .ok (.getfield 21, 3) := by decide +kernel
theorem dX4_copyFrom_29 : decode cX4_copyFrom 29 = .ok (.putfield 21, 3) := by decide +kernel
theorem dX4_copyFrom_32 : decode cX4_copyFrom 32 = .ok (.aload_n 0, 1) := by decide +kernel
theorem dX4_copyFrom_33 : decode cX4_copyFrom 33 = .ok (.aload_n 1, 1) := by decide +kernel
theorem dX4_copyFrom_34 : decode cX4_copyFrom 34 = .ok (.getfield 24, 3) := by decide +kernel
theorem dX4_copyFrom_37 : decode cX4_copyFrom 37 = .ok (.putfield 24, 3) := by decide +kernel
theorem dX4_copyFrom_40 : decode cX4_copyFrom 40 = .ok (.aload_n 0, 1) := by decide +kernel
theorem dX4_copyFrom_41 : decode cX4_copyFrom 41 = .ok (.aload_n 1, 1) := by decide +kernel
theorem dX4_copyFrom_42 : decode cX4_copyFrom 42 = .ok (.getfield 27, 3) := by decide +kernel
theorem dX4_copyFrom_45 : decode cX4_copyFrom 45 = .ok (.putfield 27, 3) := by decide +kernel
theorem dX4_copyFrom_48 : decode cX4_copyFrom 48 = .ok (.aload_n 0, 1) := by decide +kernel
theorem dX4_copyFrom_49 : decode cX4_copyFrom 49 = .ok (.aload_n 1, 1) := by decide +kernel
theorem dX4_copyFrom_50 : decode cX4_copyFrom 50 = .ok (.getfield 30, 3) := by decide +kernel
theorem dX4_copyFrom_53 : decode cX4_copyFrom 53 = .ok (.putfield 30, 3) := by decide +kernel
theorem dX4_copyFrom_56 : decode cX4_copyFrom 56 = .ok (.aload_n 0, 1) := by decide +kernel
theorem dX4_copyFrom_57 : decode cX4_copyFrom 57 = .ok (.aload_n 1, 1) := by decide +kernel
theorem dX4_copyFrom_58 : decode cX4_copyFrom 58 = .ok (.getfield 33, 3) := by decide +kernel
theorem dX4_copyFrom_61 : decode cX4_copyFrom 61 = .ok (.putfield 33, 3) := by decide +kernel
theorem dX4_copyFrom_64 : decode cX4_copyFrom 64 = .ok (.return_, 1) := by decide +kernel
theorem dX4_isOut_0 : decode cX4_isOut 0 = .ok (.aload_n 0, 1) := by decide +kernel
theorem dX4_isOut_1 : decode cX4_isOut 1 = .ok (.getfield 21, 3) := by decide +kernel
theorem dX4_isOut_4 : decode cX4_isOut 4 = .ok (.iconst (-1), 1) := by decide +kernel
theorem dX4_isOut_5 : decode cX4_isOut 5 = .ok (.if_icmp .ne 7, 3) := by decide +kernel
theorem dX4_isOut_8 : decode cX4_isOut 8 = .ok (.iconst 1, 1) := by decide +kernel
theorem dX4_isOut_9 : decode cX4_isOut 9 = .ok (.goto 4, 3) := by decide +kernel
theorem dX4_isOut_12 : decode cX4_isOut 12 = .ok (.iconst 0, 1) := by decide +kernel
theorem dX4_isOut_13 : decode cX4_isOut 13 = .ok (.ireturn, 1) := by decide +kernel
theorem dX4_isTurnAt_0 : decode cX4_isTurnAt 0 = .ok (.aload_n 0, 1) := by decide +kernel
theorem dX4_isTurnAt_1 : decode cX4_isTurnAt 1 = .ok (.invokevirtual 36, 3) := by decide +kernel
theorem dX4_isTurnAt_4 : decode cX4_isTurnAt 4 = .ok (.ifCond .ne 23, 3) := by decide +kernel
theorem dX4_isTurnAt_7 : decode cX4_isTurnAt 7 = .ok (.aload_n 0, 1) := by decide +kernel
theorem dX4_isTurnAt_8 : decode cX4_isTurnAt 8 = .ok (.getfield 15, 3) := by decide +kernel
theorem dX4_isTurnAt_11 : decode cX4_isTurnAt 11 = .ok (.ifCond .le 16, 3) := by decide +kernel
theorem dX4_isTurnAt_14 : decode cX4_isTurnAt 14 = .ok (.iload_n 1, 1) := by decide +kernel
theorem dX4_isTurnAt_15 : decode cX4_isTurnAt 15 = .ok (.aload_n 0, 1) := by decide +kernel
theorem dX4_isTurnAt_16 : decode cX4_isTurnAt 16 = .ok (.getfield 15, 3) := by decide +kernel
theorem dX4_isTurnAt_19 : decode cX4_isTurnAt 19 = .ok (.irem, 1) := by decide +kernel
theorem dX4_isTurnAt_20 : decode cX4_isTurnAt 20 = .ok (.ifCond .ne 7, 3) := by decide +kernel
theorem dX4_isTurnAt_23 : decode cX4_isTurnAt 23 = .ok (.iconst 1, 1) := by decide +kernel
theorem dX4_isTurnAt_24 : decode cX4_isTurnAt 24 = .ok (.goto 4, 3) := by decide +kernel
theorem dX4_isTurnAt_27 : decode cX4_isTurnAt 27 = .ok (.iconst 0, 1) := by decide +kernel
theorem dX4_isTurnAt_28 : decode cX4_isTurnAt 28 = .ok (.ireturn, 1) := by decide +kernel
theorem dX5_init_0 : decode cX5_init 0 = .ok (.aload_n 0, 1) := by decide +kernel
theorem dX5_init_1 : decode cX5_init 1 = .ok (.invokespecial 1, 3) := by decide +kernel
theorem dX5_init_4 : decode cX5_init 4 = .ok (.aload_n 0, 1) := by decide +kernel
theorem dX5_init_5 : decode cX5_init 5 = .ok (.new 7, 3) := by decide +kernel
theorem dX5_init_8 : decode cX5_init 8 = .ok (.dup, 1) := by decide +kernel
theorem dX5_init_9 : decode cX5_init 9 = .ok (.invokespecial 9, 3) := by decide +kernel
theorem dX5_init_12 : decode cX5_init 12 = .ok (.putfield 10, 3) := by decide +kernel
theorem dX5_init_15 : decode cX5_init 15 = .ok (.aload_n 0, 1) := by decide +kernel
theorem dX5_init_16 : decode cX5_init 16 = .ok (.new 16, 3) := by decide +kernel
theorem dX5_init_19 : decode cX5_init 19 = .ok (.dup, 1) := by decide +kernel
theorem dX5_init_20 : decode cX5_init 20 = .ok (.aload_n 0, 1) := by decide +kernel
theorem dX5_init_21 : decode cX5_init 21 = .ok (.getfield 10, 3) := by decide +kernel
theorem dX5_init_24 : decode cX5_init 24 = .ok (.invokespecial 18, 3) := by decide +kernel
theorem dX5_init_27 : decode cX5_init 27 = .ok (.putfield 21, 3) := by decide +kernel
theorem dX5_init_30 : decode cX5_init 30 = .ok (.aload_n 0, 1) := by decide +kernel
theorem dX5_init_31 : decode cX5_init 31 = .ok (.new 25, 3) := by decide +kernel
theorem dX5_init_34 : decode cX5_init 34 = .ok (.dup, 1) := by decide +kernel
theorem dX5_init_35 : decode cX5_init 35 = .ok (.aload_n 0, 1) := by decide +kernel
theorem dX5_init_36 : decode cX5_init 36 = .ok (.getfield 10, 3) := by decide +kernel
theorem dX5_init_39 : decode cX5_init 39 = .ok (.aload_n 0, 1) := by decide +kernel
theorem dX5_init_40 : decode cX5_init 40 = .ok (.getfield 21, 3) := by decide +kernel
theorem dX5_init_43 : decode cX5_init 43 = .ok (.invokespecial 27, 3) := by decide +kernel
theorem dX5_init_46 : decode cX5_init 46 = .ok (.putfield 30, 3) := by decide +kernel
theorem dX5_init_49 : decode cX5_init 49 = .ok (.aload_n 0, 1) := by decide +kernel
theorem dX5_init_50 : decode cX5_init 50 = .ok (.new 34, 3) := by decide +kernel
theorem dX5_init_53 : decode cX5_init 53 = .ok (.dup, 1) := by decide +kernel
theorem dX5_init_54 : decode cX5_init 54 = .ok (.invokespecial 36, 3) := by decide +kernel
theorem dX5_init_57 : decode cX5_init 57 = .ok (.putfield 37, 3) := by decide +kernel
theorem dX5_init_60 : decode cX5_init 60 = .ok (.aload_n 0, 1) := by decide +kernel
theorem dX5_init_61 : decode cX5_init 61 = .ok (.new 16, 3) := by decide +kernel
theorem dX5_init_64 : decode cX5_init 64 = .ok (.dup, 1) := by decide +kernel
theorem dX5_init_65 : decode cX5_init 65 = .ok (.aload_n 0, 1) := by decide +kernel
theorem dX5_init_66 : decode cX5_init 66 = .ok (.getfield 10, 3) := by decide +kernel
theorem dX5_init_69 : decode cX5_init 69 = .ok (.invokespecial 18, 3) := by decide +kernel
theorem dX5_init_72 : decode cX5_init 72 = .ok (.putfield 41, 3) := by decide +kernel
theorem dX5_init_75 : decode cX5_init 75 = .ok (.aload_n 0, 1) := by decide +kernel
theorem dX5_init_76 : decode cX5_init 76 = .ok (.new 25, 3) := by decide +kernel
theorem dX5_init_79 : decode cX5_init 79 = .ok (.dup, 1) := by decide +kernel
theorem dX5_init_80 : decode cX5_init 80 = .ok (.aload_n 0, 1) := by decide +kernel
theorem dX5_init_81 : decode cX5_init 81 = .ok (.getfield 10, 3) := by decide +kernel
theorem dX5_init_84 : decode cX5_init 84 = .ok (.aload_n 0, 1) := by decide +kernel
theorem dX5_init_85 : decode cX5_init 85 = .ok (.getfield 41, 3) := by decide +kernel
theorem dX5_init_88 : decode cX5_init 88 = .ok (.invokespecial 27, 3) := by decide +kernel
theorem dX5_init_91 : decode cX5_init 91 = .ok (.putfield 44, 3) := by decide +kernel
theorem dX5_init_94 : decode cX5_init 94 = .ok (.aload_n 0, 1) := by decide +kernel
theorem dX5_init_95 : decode cX5_init 95 = .ok (.bipush 10, 2) := by decide +kernel
theorem dX5_init_97 : decode cX5_init 97 = .ok (.bipush 8, 2) := by decide +kernel
theorem dX5_init_99 : decode cX5_init 99 = .ok (.invokevirtual 47, 3) := by decide +kernel
theorem dX5_init_102 : decode cX5_init 102 = .ok (.return_, 1) := by decide +kernel
theorem dX5_reset_0 : decode cX5_reset 0 = .ok (.iload_n 1, 1) := by decide +kernel
theorem dX5_reset_1 : decode cX5_reset 1 = .ok (.iconst 2, 1) := by decide +kernel
theorem dX5_reset_2 : decode cX5_reset 2 = .ok (.if_icmp .lt 20, 3) := by decide +kernel
theorem dX5_reset_5 : decode cX5_reset 5 = .ok (.iload_n 1, 1) := by decide +kernel
theorem dX5_reset_6 : decode cX5_reset 6 = .ok (.bipush 14, 2) := by decide +kernel
theorem dX5_reset_8 : decode cX5_reset 8 = .ok (.if_icmp .gt 14, 3) := by decide +kernel
theorem dX5_reset_11 : decode cX5_reset 11 = .ok (.iload_n 2, 1) := by decide +kernel
theorem dX5_reset_12 : decode cX5_reset 12 = .ok (.iconst 2, 1) := by decide +kernel
theorem dX5_reset_13 : decode cX5_reset 13 = .ok (.if_icmp .lt 9, 3) := by decide +kernel
theorem dX5_reset_16 : decode cX5_reset 16 = .ok (.iload_n 2, 1) := by decide +kernel
theorem dX5_reset_17 : decode cX5_reset 17 = .ok (.bipush 14, 2) := by decide +kernel
theorem dX5_reset_19 : decode cX5_reset 19 = .ok (.if_icmp .le 13, 3) := by decide +kernel
theorem dX5_reset_22 : decode cX5_reset 22 = .ok (.new 51, 3) := by decide +kernel
theorem dX5_reset_25 : decode cX5_reset 25 = .ok (.dup, 1) := by decide +kernel
theorem dX5_reset_26 : decode cX5_reset 26 = .ok (.ldc 53, 2) := by decide +kernel
theorem dX5_reset_28 : decode cX5_reset 28 = .ok (.invokespecial 55, 3) := by decide +kernel
theorem dX5_reset_31 : decode cX5_reset 31 = .ok (.athrow, 1) := by decide +kernel
theorem dX5_reset_32 : decode cX5_reset 32 = .ok (.aload_n 0, 1) := by decide +kernel
theorem dX5_reset_33 : decode cX5_reset 33 = .ok (.iload_n 1, 1) := by decide +kernel
theorem dX5_reset_34 : decode cX5_reset 34 = .ok (.iload_n 2, 1) := by decide +kernel
theorem dX5_reset_35 : decode cX5_reset 35 = .ok (.invokevirtual 47, 3) := by decide +kernel
theorem dX5_reset_38 : decode cX5_reset 38 = .ok (.aload_n 0, 1) := by decide +kernel
theorem dX5_reset_39 : decode cX5_reset 39 = .ok (.getfield 10, 3) := by decide +kernel
theorem dX5_reset_42 : decode cX5_reset 42 = .ok (.getfield 58, 3) := by decide +kernel
theorem dX5_reset_45 : decode cX5_reset 45 = .ok (.ireturn, 1) := by decide +kernel
theorem dX5_wall_0 : decode cX5_wall 0 = .ok (.aload_n 0, 1) := by decide +kernel
theorem dX5_wall_1 : decode cX5_wall 1 = .ok (.getfield 10, 3) := by decide +kernel
theorem dX5_wall_4 : decode cX5_wall 4 = .ok (.iload_n 1, 1) := by decide +kernel
theorem dX5_wall_5 : decode cX5_wall 5 = .ok (.iload_n 2, 1) := by decide +kernel
theorem dX5_wall_6 : decode cX5_wall 6 = .ok (.invokevirtual 62, 3) := by decide +kernel
theorem dX5_wall_9 : decode cX5_wall 9 = .ok (.iconst (-1), 1) := by decide +kernel
theorem dX5_wall_10 : decode cX5_wall 10 = .ok (.if_icmp .eq 17, 3) := by decide +kernel
theorem dX5_wall_13 : decode cX5_wall 13 = .ok (.aload_n 0, 1) := by decide +kernel
theorem dX5_wall_14 : decode cX5_wall 14 = .ok (.getfield 10, 3) := by decide +kernel
theorem dX5_wall_17 : decode cX5_wall 17 = .ok (.iload_n 3, 1) := by decide +kernel
theorem dX5_wall_18 : decode cX5_wall 18 = .ok (.iload 4, 2) := by decide +kernel
theorem dX5_wall_20 : decode cX5_wall 20 = .ok (.invokevirtual 62, 3) := by decide +kernel
theorem dX5_wall_23 : decode cX5_wall 23 = .ok (.iconst (-1), 1) := by decide +kernel
theorem dX5_wall_24 : decode cX5_wall 24 = .ok (.if_icmp .ne 13, 3) := by decide +kernel
theorem dX5_wall_27 : decode cX5_wall 27 = .ok (.new 66, 3) := by decide +kernel
theorem dX5_wall_30 : decode cX5_wall 30 = .ok (.dup, 1) := by decide +kernel
theorem dX5_wall_31 : decode cX5_wall 31 = .ok (.ldc 68, 2) := by decide +kernel
theorem dX5_wall_33 : decode cX5_wall 33 = .ok (.invokespecial 70, 3) := by decide +kernel
theorem dX5_wall_36 : decode cX5_wall 36 = .ok (.athrow, 1) := by decide +kernel
theorem dX5_wall_37 : decode cX5_wall 37 = .ok (.iload_n 1, 1) := by decide +kernel
theorem dX5_wall_38 : decode cX5_wall 38 = .ok (.iload_n 3, 1) := by decide +kernel
theorem dX5_wall_39 : decode cX5_wall 39 = .ok (.invokestatic 71, 3) := by decide +kernel
theorem dX5_wall_42 : decode cX5_wall 42 = .ok (.istore 6, 2) := by decide +kernel
theorem dX5_wall_44 : decode cX5_wall 44 = .ok (.iload_n 1, 1) := by decide +kernel
theorem dX5_wall_45 : decode cX5_wall 45 = .ok (.iload_n 3, 1) := by decide +kernel
theorem dX5_wall_46 : decode cX5_wall 46 = .ok (.invokestatic 76, 3) := by decide +kernel
theorem dX5_wall_49 : decode cX5_wall 49 = .ok (.istore 7, 2) := by decide +kernel
theorem dX5_wall_51 : decode cX5_wall 51 = .ok (.iload_n 2, 1) := by decide +kernel
theorem dX5_wall_52 : decode cX5_wall 52 = .ok (.iload 4, 2) := by decide +kernel
theorem dX5_wall_54 : decode cX5_wall 54 = .ok (.invokestatic 71, 3) := by decide +kernel
theorem dX5_wall_57 : decode cX5_wall 57 = .ok (.istore 8, 2) := by decide +kernel
theorem dX5_wall_59 : decode cX5_wall 59 = .ok (.iload_n 2, 1) := by decide +kernel
theorem dX5_wall_60 : decode cX5_wall 60 = .ok (.iload 4, 2) := by decide +kernel
theorem dX5_wall_62 : decode cX5_wall 62 = .ok (.invokestatic 76, 3) := by decide +kernel
theorem dX5_wall_65 : decode cX5_wall 65 = .ok (.istore 9, 2) := by decide +kernel
theorem dX5_wall_67 : decode cX5_wall 67 = .ok (.iload 5, 2) := by decide +kernel
theorem dX5_wall_69 : decode cX5_wall 69 = .ok (.ifCond .eq 31, 3) := by decide +kernel
theorem dX5_wall_72 : decode cX5_wall 72 = .ok (.aload_n 0, 1) := by decide +kernel
theorem dX5_wall_73 : decode cX5_wall 73 = .ok (.getfield 30, 3) := by decide +kernel
theorem dX5_wall_76 : decode cX5_wall 76 = .ok (.iload 6, 2) := by decide +kernel
theorem dX5_wall_78 : decode cX5_wall 78 = .ok (.iload 8, 2) := by decide +kernel
theorem dX5_wall_80 : decode cX5_wall 80 = .ok (.iload 7, 2) := by decide +kernel
theorem dX5_wall_82 : decode cX5_wall 82 = .ok (.iload 9, 2) := by decide +kernel
theorem dX5_wall_84 : decode cX5_wall 84 = .ok (.invokevirtual 79, 3) := by decide +kernel
theorem dX5_wall_87 : decode cX5_wall 87 = .ok (.ifCond .eq 13, 3) := by decide +kernel
theorem dX5_wall_90 : decode cX5_wall 90 = .ok (.new 83, 3) := by decide +kernel
theorem dX5_wall_93 : decode cX5_wall 93 = .ok (.dup, 1) := by decide +kernel
theorem dX5_wall_94 : decode cX5_wall 94 = .ok (.ldc 85, 2) := by decide +kernel
theorem dX5_wall_96 : decode cX5_wall 96 = .ok (.invokespecial 87, 3) := by decide +kernel
theorem dX5_wall_99 : decode cX5_wall 99 = .ok (.athrow, 1) := by decide +kernel
theorem dX5_wall_100 : decode cX5_wall 100 = .ok (.iload 8, 2) := by decide +kernel
theorem dX5_wall_102 : decode cX5_wall 102 = .ok (.istore 10, 2) := by decide +kernel
theorem dX5_wall_104 : decode cX5_wall 104 = .ok (.iload 10, 2) := by decide +kernel
theorem dX5_wall_106 : decode cX5_wall 106 = .ok (.iload 9, 2) := by decide +kernel
theorem dX5_wall_108 : decode cX5_wall 108 = .ok (.if_icmp .gt 46, 3) := by decide +kernel
theorem dX5_wall_111 : decode cX5_wall 111 = .ok (.iload 6, 2) := by decide +kernel
theorem dX5_wall_113 : decode cX5_wall 113 = .ok (.istore 11, 2) := by decide +kernel
theorem dX5_wall_115 : decode cX5_wall 115 = .ok (.iload 11, 2) := by decide +kernel
theorem dX5_wall_117 : decode cX5_wall 117 = .ok (.iload 7, 2) := by decide +kernel
theorem dX5_wall_119 : decode cX5_wall 119 = .ok (.if_icmp .gt 29, 3) := by decide +kernel
theorem dX5_wall_122 : decode cX5_wall 122 = .ok (.aload_n 0, 1) := by decide +kernel
theorem dX5_wall_123 : decode cX5_wall 123 = .ok (.getfield 21, 3) := by decide +kernel
theorem dX5_wall_126 : decode cX5_wall 126 = .ok (.aload_n 0, 1) := by decide +kernel
theorem dX5_wall_127 : decode cX5_wall 127 = .ok (.getfield 10, 3) := by decide +kernel
theorem dX5_wall_130 : decode cX5_wall 130 = .ok (.iload 11, 2) := by decide +kernel
theorem dX5_wall_132 : decode cX5_wall 132 = .ok (.iload 10, 2) := by decide +kernel
theorem dX5_wall_134 : decode cX5_wall 134 = .ok (.invokevirtual 62, 3) := by decide +kernel
theorem dX5_wall_137 : decode cX5_wall 137 = .ok (.iload 5, 2) := by decide +kernel
theorem dX5_wall_139 : decode cX5_wall 139 = .ok (.invokevirtual 88, 3) := by decide +kernel
theorem dX5_wall_142 : decode cX5_wall 142 = .ok (.iinc 11 1, 3) := by decide +kernel
theorem dX5_wall_145 : decode cX5_wall 145 = .ok (.goto (-30), 3) := by decide +kernel
theorem dX5_wall_148 : decode cX5_wall 148 = .ok (.iinc 10 1, 3) := by decide +kernel
theorem dX5_wall_151 : decode cX5_wall 151 = .ok (.goto (-47), 3) := by decide +kernel
theorem dX5_wall_154 : decode cX5_wall 154 = .ok (.aload_n 0, 1) := by decide +kernel
theorem dX5_wall_155 : decode cX5_wall 155 = .ok (.getfield 21, 3) := by decide +kernel
theorem dX5_wall_158 : decode cX5_wall 158 = .ok (.invokevirtual 92, 3) := by decide +kernel
theorem dX5_wall_161 : decode cX5_wall 161 = .ok (.aload_n 0, 1) := by decide +kernel
theorem dX5_wall_162 : decode cX5_wall 162 = .ok (.getfield 21, 3) := by decide +kernel
theorem dX5_wall_165 : decode cX5_wall 165 = .ok (.invokevirtual 95, 3) := by decide +kernel
theorem dX5_wall_168 : decode cX5_wall 168 = .ok (.ireturn, 1) := by decide +kernel
theorem dX5_mark_0 : decode cX5_mark 0 = .ok (.aload_n 0, 1) := by decide +kernel
theorem dX5_mark_1 : decode cX5_mark 1 = .ok (.getfield 10, 3) := by decide +kernel
theorem dX5_mark_4 : decode cX5_mark 4 = .ok (.iload_n 2, 1) := by decide +kernel
theorem dX5_mark_5 : decode cX5_mark 5 = .ok (.iload_n 3, 1) := by decide +kernel
theorem dX5_mark_6 : decode cX5_mark 6 = .ok (.invokevirtual 62, 3) := by decide +kernel
theorem dX5_mark_9 : decode cX5_mark 9 = .ok (.istore 4, 2) := by decide +kernel
theorem dX5_mark_11 : decode cX5_mark 11 = .ok (.iload_n 1, 1) := by decide +kernel
theorem dX5_mark_12 : decode cX5_mark 12 = .ok (.invokestatic 99, 3) := by decide +kernel
theorem dX5_mark_15 : decode cX5_mark 15 = .ok (.ifCond .eq 9, 3) := by decide +kernel
theorem dX5_mark_18 : decode cX5_mark 18 = .ok (.iload 4, 2) := by decide +kernel
theorem dX5_mark_20 : decode cX5_mark 20 = .ok (.iconst (-1), 1) := by decide +kernel
theorem dX5_mark_21 : decode cX5_mark 21 = .ok (.if_icmp .ne 13, 3) := by decide +kernel
theorem dX5_mark_24 : decode cX5_mark 24 = .ok (.new 66, 3) := by decide +kernel
theorem dX5_mark_27 : decode cX5_mark 27 = .ok (.dup, 1) := by decide +kernel
theorem dX5_mark_28 : decode cX5_mark 28 = .ok (.ldc 103, 2) := by decide +kernel
theorem dX5_mark_30 : decode cX5_mark 30 = .ok (.invokespecial 70, 3) := by decide +kernel
theorem dX5_mark_33 : decode cX5_mark 33 = .ok (.athrow, 1) := by decide +kernel
theorem dX5_mark_34 : decode cX5_mark 34 = .ok (.aload_n 0, 1) := by decide +kernel
theorem dX5_mark_35 : decode cX5_mark 35 = .ok (.getfield 30, 3) := by decide +kernel
theorem dX5_mark_38 : decode cX5_mark 38 = .ok (.aload_n 0, 1) := by decide +kernel
theorem dX5_mark_39 : decode cX5_mark 39 = .ok (.getfield 30, 3) := by decide +kernel
theorem dX5_mark_42 : decode cX5_mark 42 = .ok (.iload 4, 2) := by decide +kernel
theorem dX5_mark_44 : decode cX5_mark 44 = .ok (.invokevirtual 105, 3) := by decide +kernel
theorem dX5_mark_47 : decode cX5_mark 47 = .ok (.invokevirtual 109, 3) := by decide +kernel
theorem dX5_mark_50 : decode cX5_mark 50 = .ok (.astore 5, 2) := by decide +kernel
theorem dX5_mark_52 : decode cX5_mark 52 = .ok (.aload 5, 2) := by decide +kernel
theorem dX5_mark_54 : decode cX5_mark 54 = .ok (.ifnull 22, 3) := by decide +kernel
theorem dX5_mark_57 : decode cX5_mark 57 = .ok (.aload 5, 2) := by decide +kernel
theorem dX5_mark_59 : decode cX5_mark 59 = .ok (.getfield 113, 3) := by decide +kernel
theorem dX5_mark_62 : decode cX5_mark 62 = .ok (.iload_n 1, 1) := by decide +kernel
theorem dX5_mark_63 : decode cX5_mark 63 = .ok (.if_icmp .ne 13, 3) := by decide +kernel
theorem dX5_mark_66 : decode cX5_mark 66 = .ok (.new 83, 3) := by decide +kernel
theorem dX5_mark_69 : decode cX5_mark 69 = .ok (.dup, 1) := by decide +kernel
theorem dX5_mark_70 : decode cX5_mark 70 = .ok (.ldc 118, 2) := by decide +kernel
theorem dX5_mark_72 : decode cX5_mark 72 = .ok (.invokespecial 87, 3) := by decide +kernel
theorem dX5_mark_75 : decode cX5_mark 75 = .ok (.athrow, 1) := by decide +kernel
theorem dX5_mark_76 : decode cX5_mark 76 = .ok (.aload_n 0, 1) := by decide +kernel
theorem dX5_mark_77 : decode cX5_mark 77 = .ok (.getfield 21, 3) := by decide +kernel
theorem dX5_mark_80 : decode cX5_mark 80 = .ok (.iload_n 1, 1) := by decide +kernel
theorem dX5_mark_81 : decode cX5_mark 81 = .ok (.iload 4, 2) := by decide +kernel
theorem dX5_mark_83 : decode cX5_mark 83 = .ok (.invokevirtual 120, 3) := by decide +kernel
theorem dX5_mark_86 : decode cX5_mark 86 = .ok (.aload_n 0, 1) := by decide +kernel
theorem dX5_mark_87 : decode cX5_mark 87 = .ok (.getfield 21, 3) := by decide +kernel
theorem dX5_mark_90 : decode cX5_mark 90 = .ok (.iload_n 1, 1) := by decide +kernel
theorem dX5_mark_91 : decode cX5_mark 91 = .ok (.invokevirtual 123, 3) := by decide +kernel
theorem dX5_mark_94 : decode cX5_mark 94 = .ok (.aload_n 0, 1) := by decide +kernel
theorem dX5_mark_95 : decode cX5_mark 95 = .ok (.getfield 21, 3) := by decide +kernel
theorem dX5_mark_98 : decode cX5_mark 98 = .ok (.iload_n 1, 1) := by decide +kernel
theorem dX5_mark_99 : decode cX5_mark 99 = .ok (.invokevirtual 127, 3) := by decide +kernel
theorem dX5_mark_102 : decode cX5_mark 102 = .ok (.ireturn, 1) := by decide +kernel
theorem dX5_set_0 : decode cX5_set 0 = .ok (.iload_n 1, 1) := by decide +kernel
theorem dX5_set_1 : decode cX5_set 1 = .ok (.ifCond .lt 20, 3) := by decide +kernel
theorem dX5_set_4 : decode cX5_set 4 = .ok (.iload_n 1, 1) := by decide +kernel
theorem dX5_set_5 : decode cX5_set 5 = .ok (.bipush 9, 2) := by decide +kernel
theorem dX5_set_7 : decode cX5_set 7 = .ok (.if_icmp .gt 14, 3) := by decide +kernel
theorem dX5_set_10 : decode cX5_set 10 = .ok (.iload_n 2, 1) := by decide +kernel
theorem dX5_set_11 : decode cX5_set 11 = .ok (.iconst 1, 1) := by decide +kernel
theorem dX5_set_12 : decode cX5_set 12 = .ok (.if_icmp .lt 9, 3) := by decide +kernel
theorem dX5_set_15 : decode cX5_set 15 = .ok (.iload_n 2, 1) := by decide +kernel
theorem dX5_set_16 : decode cX5_set 16 = .ok (.bipush 20, 2) := by decide +kernel
theorem dX5_set_18 : decode cX5_set 18 = .ok (.if_icmp .le 13, 3) := by decide +kernel
theorem dX5_set_21 : decode cX5_set 21 = .ok (.new 51, 3) := by decide +kernel
theorem dX5_set_24 : decode cX5_set 24 = .ok (.dup, 1) := by decide +kernel
theorem dX5_set_25 : decode cX5_set 25 = .ok (.ldc 130, 2) := by decide +kernel
theorem dX5_set_27 : decode cX5_set 27 = .ok (.invokespecial 55, 3) := by decide +kernel
theorem dX5_set_30 : decode cX5_set 30 = .ok (.athrow, 1) := by decide +kernel
theorem dX5_set_31 : decode cX5_set 31 = .ok (.aload_n 0, 1) := by decide +kernel
theorem dX5_set_32 : decode cX5_set 32 = .ok (.getfield 30, 3) := by decide +kernel
theorem dX5_set_35 : decode cX5_set 35 = .ok (.getfield 132, 3) := by decide +kernel
theorem dX5_set_38 : decode cX5_set 38 = .ok (.istore_n 3, 1) := by decide +kernel
theorem dX5_set_39 : decode cX5_set 39 = .ok (.aload_n 0, 1) := by decide +kernel
theorem dX5_set_40 : decode cX5_set 40 = .ok (.getfield 30, 3) := by decide +kernel
theorem dX5_set_43 : decode cX5_set 43 = .ok (.iload_n 1, 1) := by decide +kernel
theorem dX5_set_44 : decode cX5_set 44 = .ok (.putfield 132, 3) := by decide +kernel
theorem dX5_set_47 : decode cX5_set 47 = .ok (.aload_n 0, 1) := by decide +kernel
theorem dX5_set_48 : decode cX5_set 48 = .ok (.getfield 30, 3) := by decide +kernel
theorem dX5_set_51 : decode cX5_set 51 = .ok (.iload_n 2, 1) := by decide +kernel
theorem dX5_set_52 : decode cX5_set 52 = .ok (.putfield 135, 3) := by decide +kernel
theorem dX5_set_55 : decode cX5_set 55 = .ok (.iload_n 3, 1) := by decide +kernel
theorem dX5_set_56 : decode cX5_set 56 = .ok (.ireturn, 1) := by decide +kernel
theorem dX5_field_0 : decode cX5_field 0 = .ok (.aload_n 0, 1) := by decide +kernel
theorem dX5_field_1 : decode cX5_field 1 = .ok (.getfield 10, 3) := by decide +kernel
theorem dX5_field_4 : decode cX5_field 4 = .ok (.iload_n 1, 1) := by decide +kernel
theorem dX5_field_5 : decode cX5_field 5 = .ok (.iload_n 2, 1) := by decide +kernel
theorem dX5_field_6 : decode cX5_field 6 = .ok (.invokevirtual 62, 3) := by decide +kernel
theorem dX5_field_9 : decode cX5_field 9 = .ok (.istore 4, 2) := by decide +kernel
theorem dX5_field_11 : decode cX5_field 11 = .ok (.iload 4, 2) := by decide +kernel
theorem dX5_field_13 : decode cX5_field 13 = .ok (.iconst (-1), 1) := by decide +kernel
theorem dX5_field_14 : decode cX5_field 14 = .ok (.if_icmp .ne 13, 3) := by decide +kernel
theorem dX5_field_17 : decode cX5_field 17 = .ok (.new 66, 3) := by decide +kernel
theorem dX5_field_20 : decode cX5_field 20 = .ok (.dup, 1) := by decide +kernel
theorem dX5_field_21 : decode cX5_field 21 = .ok (.ldc 68, 2) := by decide +kernel
theorem dX5_field_23 : decode cX5_field 23 = .ok (.invokespecial 70, 3) := by decide +kernel
theorem dX5_field_26 : decode cX5_field 26 = .ok (.athrow, 1) := by decide +kernel
theorem dX5_field_27 : decode cX5_field 27 = .ok (.iload_n 3, 1) := by decide +kernel
theorem dX5_field_28 : decode cX5_field 28 = .ok (.ifCond .lt 8, 3) := by decide +kernel
theorem dX5_field_31 : decode cX5_field 31 = .ok (.iload_n 3, 1) := by decide +kernel
theorem dX5_field_32 : decode cX5_field 32 = .ok (.iconst 3, 1) := by decide +kernel
theorem dX5_field_33 : decode cX5_field 33 = .ok (.if_icmp .le 13, 3) := by decide +kernel
theorem dX5_field_36 : decode cX5_field 36 = .ok (.new 51, 3) := by decide +kernel
theorem dX5_field_39 : decode cX5_field 39 = .ok (.dup, 1) := by decide +kernel
theorem dX5_field_40 : decode cX5_field 40 = .ok (.ldc 138, 2) := by decide +kernel
theorem dX5_field_42 : decode cX5_field 42 = .ok (.invokespecial 55, 3) := by decide +kernel
theorem dX5_field_45 : decode cX5_field 45 = .ok (.athrow, 1) := by decide +kernel
theorem dX5_field_46 : decode cX5_field 46 = .ok (.aload_n 0, 1) := by decide +kernel
theorem dX5_field_47 : decode cX5_field 47 = .ok (.iload 4, 2) := by decide +kernel
theorem dX5_field_49 : decode cX5_field 49 = .ok (.iload_n 3, 1) := by decide +kernel
theorem dX5_field_50 : decode cX5_field 50 = .ok (.invokevirtual 140, 3) := by decide +kernel
theorem dX5_field_53 : decode cX5_field 53 = .ok (.ireturn, 1) := by decide +kernel
theorem dX5_far_0 : decode cX5_far 0 = .ok (.aload_n 0, 1) := by decide +kernel
theorem dX5_far_1 : decode cX5_far 1 = .ok (.getfield 10, 3) := by decide +kernel
theorem dX5_far_4 : decode cX5_far 4 = .ok (.iload_n 2, 1) := by decide +kernel
theorem dX5_far_5 : decode cX5_far 5 = .ok (.iload_n 3, 1) := by decide +kernel
theorem dX5_far_6 : decode cX5_far 6 = .ok (.invokevirtual 62, 3) := by decide +kernel
theorem dX5_far_9 : decode cX5_far 9 = .ok (.istore 4, 2) := by decide +kernel
theorem dX5_far_11 : decode cX5_far 11 = .ok (.iload_n 1, 1) := by decide +kernel
theorem dX5_far_12 : decode cX5_far 12 = .ok (.invokestatic 99, 3) := by decide +kernel
theorem dX5_far_15 : decode cX5_far 15 = .ok (.ifCond .eq 9, 3) := by decide +kernel
theorem dX5_far_18 : decode cX5_far 18 = .ok (.iload 4, 2) := by decide +kernel
theorem dX5_far_20 : decode cX5_far 20 = .ok (.iconst (-1), 1) := by decide +kernel
theorem dX5_far_21 : decode cX5_far 21 = .ok (.if_icmp .ne 13, 3) := by decide +kernel
theorem dX5_far_24 : decode cX5_far 24 = .ok (.new 66, 3) := by decide +kernel
theorem dX5_far_27 : decode cX5_far 27 = .ok (.dup, 1) := by decide +kernel
theorem dX5_far_28 : decode cX5_far 28 = .ok (.ldc 103, 2) := by decide +kernel
theorem dX5_far_30 : decode cX5_far 30 = .ok (.invokespecial 70, 3) := by decide +kernel
theorem dX5_far_33 : decode cX5_far 33 = .ok (.athrow, 1) := by decide +kernel
theorem dX5_far_34 : decode cX5_far 34 = .ok (.aload_n 0, 1) := by decide +kernel
theorem dX5_far_35 : decode cX5_far 35 = .ok (.getfield 21, 3) := by decide +kernel
theorem dX5_far_38 : decode cX5_far 38 = .ok (.iload_n 1, 1) := by decide +kernel
theorem dX5_far_39 : decode cX5_far 39 = .ok (.iload 4, 2) := by decide +kernel
theorem dX5_far_41 : decode cX5_far 41 = .ok (.invokevirtual 143, 3) := by decide +kernel
theorem dX5_far_44 : decode cX5_far 44 = .ok (.ireturn, 1) := by decide +kernel
theorem dX5_farthest_0 : decode cX5_farthest 0 = .ok (.iload_n 1, 1) := by decide +kernel
theorem dX5_farthest_1 : decode cX5_farthest 1 = .ok (.invokestatic 99, 3) := by decide +kernel
theorem dX5_farthest_4 : decode cX5_farthest 4 = .ok (.ifCond .ne 13, 3) := by decide +kernel
theorem dX5_farthest_7 : decode cX5_farthest 7 = .ok (.new 66, 3) := by decide +kernel
theorem dX5_farthest_10 : decode cX5_farthest 10 = .ok (.dup, 1) := by decide +kernel
theorem dX5_farthest_11 : decode cX5_farthest 11 = .ok (.ldc 146, 2) := by decide +kernel
theorem dX5_farthest_13 : decode cX5_farthest 13 = .ok (.invokespecial 70, 3) := by decide +kernel
theorem dX5_farthest_16 : decode cX5_farthest 16 = .ok (.athrow, 1) := by decide +kernel
theorem dX5_farthest_17 : decode cX5_farthest 17 = .ok (.aload_n 0, 1) := by decide +kernel
theorem dX5_farthest_18 : decode cX5_farthest 18 = .ok (.getfield 21, 3) := by decide +kernel
theorem dX5_farthest_21 : decode cX5_farthest 21 = .ok (.iload_n 1, 1) := by decide +kernel
theorem dX5_farthest_22 : decode cX5_farthest 22 = .ok (.invokevirtual 148, 3) := by decide +kernel
theorem dX5_farthest_25 : decode cX5_farthest 25 = .ok (.ireturn, 1) := by decide +kernel
theorem dX5_walker_0 : decode cX5_walker 0 = .ok (.aload_n 0, 1) := by decide +kernel
theorem dX5_walker_1 : decode cX5_walker 1 = .ok (.getfield 10, 3) := by decide +kernel
theorem dX5_walker_4 : decode cX5_walker 4 = .ok (.iload 4, 2) := by decide +kernel
theorem dX5_walker_6 : decode cX5_walker 6 = .ok (.iload 5, 2) := by decide +kernel
theorem dX5_walker_8 : decode cX5_walker 8 = .ok (.invokevirtual 62, 3) := by decide +kernel
theorem dX5_walker_11 : decode cX5_walker 11 = .ok (.istore 6, 2) := by decide +kernel
theorem dX5_walker_13 : decode cX5_walker 13 = .ok (.iload_n 1, 1) := by decide +kernel
theorem dX5_walker_14 : decode cX5_walker 14 = .ok (.invokestatic 99, 3) := by decide +kernel
theorem dX5_walker_17 : decode cX5_walker 17 = .ok (.ifCond .eq 9, 3) := by decide +kernel
theorem dX5_walker_20 : decode cX5_walker 20 = .ok (.iload 6, 2) := by decide +kernel
theorem dX5_walker_22 : decode cX5_walker 22 = .ok (.iconst (-1), 1) := by decide +kernel
theorem dX5_walker_23 : decode cX5_walker 23 = .ok (.if_icmp .ne 13, 3) := by decide +kernel
theorem dX5_walker_26 : decode cX5_walker 26 = .ok (.new 66, 3) := by decide +kernel
theorem dX5_walker_29 : decode cX5_walker 29 = .ok (.dup, 1) := by decide +kernel
theorem dX5_walker_30 : decode cX5_walker 30 = .ok (.ldc 103, 2) := by decide +kernel
theorem dX5_walker_32 : decode cX5_walker 32 = .ok (.invokespecial 70, 3) := by decide +kernel
theorem dX5_walker_35 : decode cX5_walker 35 = .ok (.athrow, 1) := by decide +kernel
theorem dX5_walker_36 : decode cX5_walker 36 = .ok (.iload_n 2, 1) := by decide +kernel
theorem dX5_walker_37 : decode cX5_walker 37 = .ok (.iconst 1, 1) := by decide +kernel
theorem dX5_walker_38 : decode cX5_walker 38 = .ok (.if_icmp .lt 15, 3) := by decide +kernel
theorem dX5_walker_41 : decode cX5_walker 41 = .ok (.iload_n 2, 1) := by decide +kernel
theorem dX5_walker_42 : decode cX5_walker 42 = .ok (.iconst 3, 1) := by decide +kernel
theorem dX5_walker_43 : decode cX5_walker 43 = .ok (.if_icmp .gt 10, 3) := by decide +kernel
theorem dX5_walker_46 : decode cX5_walker 46 = .ok (.iload_n 3, 1) := by decide +kernel
theorem dX5_walker_47 : decode cX5_walker 47 = .ok (.invokestatic 151, 3) := by decide +kernel
theorem dX5_walker_50 : decode cX5_walker 50 = .ok (.ifCond .ne 13, 3) := by decide +kernel
theorem dX5_walker_53 : decode cX5_walker 53 = .ok (.new 51, 3) := by decide +kernel
theorem dX5_walker_56 : decode cX5_walker 56 = .ok (.dup, 1) := by decide +kernel
theorem dX5_walker_57 : decode cX5_walker 57 = .ok (.ldc 154, 2) := by decide +kernel
theorem dX5_walker_59 : decode cX5_walker 59 = .ok (.invokespecial 55, 3) := by decide +kernel
theorem dX5_walker_62 : decode cX5_walker 62 = .ok (.athrow, 1) := by decide +kernel
theorem dX5_walker_63 : decode cX5_walker 63 = .ok (.aload_n 0, 1) := by decide +kernel
theorem dX5_walker_64 : decode cX5_walker 64 = .ok (.getfield 21, 3) := by decide +kernel
theorem dX5_walker_67 : decode cX5_walker 67 = .ok (.iload 6, 2) := by decide +kernel
theorem dX5_walker_69 : decode cX5_walker 69 = .ok (.invokevirtual 156, 3) := by decide +kernel
theorem dX5_walker_72 : decode cX5_walker 72 = .ok (.ifCond .eq 33, 3) := by decide +kernel
theorem dX5_walker_75 : decode cX5_walker 75 = .ok (.aload_n 0, 1) := by decide +kernel
theorem dX5_walker_76 : decode cX5_walker 76 = .ok (.getfield 21, 3) := by decide +kernel
theorem dX5_walker_79 : decode cX5_walker 79 = .ok (.iload_n 1, 1) := by decide +kernel
theorem dX5_walker_80 : decode cX5_walker 80 = .ok (.iload 6, 2) := by decide +kernel
theorem dX5_walker_82 : decode cX5_walker 82 = .ok (.invokevirtual 159, 3) := by decide +kernel
theorem dX5_walker_85 : decode cX5_walker 85 = .ok (.ifCond .ne 20, 3) := by decide +kernel
theorem dX5_walker_88 : decode cX5_walker 88 = .ok (.aload_n 0, 1) := by decide +kernel
theorem dX5_walker_89 : decode cX5_walker 89 = .ok (.getfield 30, 3) := by decide +kernel
theorem dX5_walker_92 : decode cX5_walker 92 = .ok (.iload 6, 2) := by decide +kernel
theorem dX5_walker_94 : decode cX5_walker 94 = .ok (.invokevirtual 105, 3) := by decide +kernel
theorem dX5_walker_97 : decode cX5_walker 97 = .ok (.iconst (-1), 1) := by decide +kernel
theorem dX5_walker_98 : decode cX5_walker 98 = .ok (.if_icmp .ne 7, 3) := by decide +kernel
theorem dX5_walker_101 : decode cX5_walker 101 = .ok (.iconst 1, 1) := by decide +kernel
theorem dX5_walker_102 : decode cX5_walker 102 = .ok (.goto 4, 3) := by decide +kernel
theorem dX5_walker_105 : decode cX5_walker 105 = .ok (.iconst 0, 1) := by decide +kernel
theorem dX5_walker_106 : decode cX5_walker 106 = .ok (.istore 7, 2) := by decide +kernel
theorem dX5_walker_108 : decode cX5_walker 108 = .ok (.aload_n 0, 1) := by decide +kernel
theorem dX5_walker_109 : decode cX5_walker 109 = .ok (.getfield 30, 3) := by decide +kernel
theorem dX5_walker_112 : decode cX5_walker 112 = .ok (.getfield 163, 3) := by decide +kernel
theorem dX5_walker_115 : decode cX5_walker 115 = .ok (.bipush 24, 2) := by decide +kernel
theorem dX5_walker_117 : decode cX5_walker 117 = .ok (.if_icmp .ge 8, 3) := by decide +kernel
theorem dX5_walker_120 : decode cX5_walker 120 = .ok (.iload 7, 2) := by decide +kernel
theorem dX5_walker_122 : decode cX5_walker 122 = .ok (.ifCond .ne 13, 3) := by decide +kernel
theorem dX5_walker_125 : decode cX5_walker 125 = .ok (.new 83, 3) := by decide +kernel
theorem dX5_walker_128 : decode cX5_walker 128 = .ok (.dup, 1) := by decide +kernel
theorem dX5_walker_129 : decode cX5_walker 129 = .ok (.ldc 166, 2) := by decide +kernel
theorem dX5_walker_131 : decode cX5_walker 131 = .ok (.invokespecial 87, 3) := by decide +kernel
theorem dX5_walker_134 : decode cX5_walker 134 = .ok (.athrow, 1) := by decide +kernel
theorem dX5_walker_135 : decode cX5_walker 135 = .ok (.aload_n 0, 1) := by decide +kernel
theorem dX5_walker_136 : decode cX5_walker 136 = .ok (.getfield 30, 3) := by decide +kernel
theorem dX5_walker_139 : decode cX5_walker 139 = .ok (.iload_n 1, 1) := by decide +kernel
theorem dX5_walker_140 : decode cX5_walker 140 = .ok (.iload_n 2, 1) := by decide +kernel
theorem dX5_walker_141 : decode cX5_walker 141 = .ok (.iload_n 3, 1) := by decide +kernel
theorem dX5_walker_142 : decode cX5_walker 142 = .ok (.iload 6, 2) := by decide +kernel
theorem dX5_walker_144 : decode cX5_walker 144 = .ok (.invokevirtual 168, 3) := by decide +kernel
theorem dX5_walker_147 : decode cX5_walker 147 = .ok (.ireturn, 1) := by decide +kernel
theorem dX5_turnTo_0 : decode cX5_turnTo 0 = .ok (.aload_n 0, 1) := by decide +kernel
theorem dX5_turnTo_1 : decode cX5_turnTo 1 = .ok (.getfield 30, 3) := by decide +kernel
theorem dX5_turnTo_4 : decode cX5_turnTo 4 = .ok (.iload_n 1, 1) := by decide +kernel
theorem dX5_turnTo_5 : decode cX5_turnTo 5 = .ok (.invokevirtual 109, 3) := by decide +kernel
theorem dX5_turnTo_8 : decode cX5_turnTo 8 = .ok (.astore 4, 2) := by decide +kernel
theorem dX5_turnTo_10 : decode cX5_turnTo 10 = .ok (.aload 4, 2) := by decide +kernel
theorem dX5_turnTo_12 : decode cX5_turnTo 12 = .ok (.ifnull 10, 3) := by decide +kernel
theorem dX5_turnTo_15 : decode cX5_turnTo 15 = .ok (.iload_n 2, 1) := by decide +kernel
theorem dX5_turnTo_16 : decode cX5_turnTo 16 = .ok (.invokestatic 99, 3) := by decide +kernel
theorem dX5_turnTo_19 : decode cX5_turnTo 19 = .ok (.ifCond .ne 13, 3) := by decide +kernel
theorem dX5_turnTo_22 : decode cX5_turnTo 22 = .ok (.new 66, 3) := by decide +kernel
theorem dX5_turnTo_25 : decode cX5_turnTo 25 = .ok (.dup, 1) := by decide +kernel
theorem dX5_turnTo_26 : decode cX5_turnTo 26 = .ok (.ldc 172, 2) := by decide +kernel
theorem dX5_turnTo_28 : decode cX5_turnTo 28 = .ok (.invokespecial 70, 3) := by decide +kernel
theorem dX5_turnTo_31 : decode cX5_turnTo 31 = .ok (.athrow, 1) := by decide +kernel
theorem dX5_turnTo_32 : decode cX5_turnTo 32 = .ok (.iload_n 3, 1) := by decide +kernel
theorem dX5_turnTo_33 : decode cX5_turnTo 33 = .ok (.invokestatic 151, 3) := by decide +kernel
theorem dX5_turnTo_36 : decode cX5_turnTo 36 = .ok (.ifCond .ne 13, 3) := by decide +kernel
theorem dX5_turnTo_39 : decode cX5_turnTo 39 = .ok (.new 51, 3) := by decide +kernel
theorem dX5_turnTo_42 : decode cX5_turnTo 42 = .ok (.dup, 1) := by decide +kernel
theorem dX5_turnTo_43 : decode cX5_turnTo 43 = .ok (.ldc 174, 2) := by decide +kernel
theorem dX5_turnTo_45 : decode cX5_turnTo 45 = .ok (.invokespecial 55, 3) := by decide +kernel
theorem dX5_turnTo_48 : decode cX5_turnTo 48 = .ok (.athrow, 1) := by decide +kernel
theorem dX5_turnTo_49 : decode cX5_turnTo 49 = .ok (.aload 4, 2) := by decide +kernel
theorem dX5_turnTo_51 : decode cX5_turnTo 51 = .ok (.invokevirtual 176, 3) := by decide +kernel
theorem dX5_turnTo_54 : decode cX5_turnTo 54 = .ok (.ifCond .ne 19, 3) := by decide +kernel
theorem dX5_turnTo_57 : decode cX5_turnTo 57 = .ok (.aload_n 0, 1) := by decide +kernel
theorem dX5_turnTo_58 : decode cX5_turnTo 58 = .ok (.getfield 21, 3) := by decide +kernel
theorem dX5_turnTo_61 : decode cX5_turnTo 61 = .ok (.iload_n 2, 1) := by decide +kernel
theorem dX5_turnTo_62 : decode cX5_turnTo 62 = .ok (.aload 4, 2) := by decide +kernel
theorem dX5_turnTo_64 : decode cX5_turnTo 64 = .ok (.getfield 180, 3) := by decide +kernel
theorem dX5_turnTo_67 : decode cX5_turnTo 67 = .ok (.invokevirtual 159, 3) := by decide +kernel
theorem dX5_turnTo_70 : decode cX5_turnTo 70 = .ok (.ifCond .eq 13, 3) := by decide +kernel
theorem dX5_turnTo_73 : decode cX5_turnTo 73 = .ok (.new 83, 3) := by decide +kernel
theorem dX5_turnTo_76 : decode cX5_turnTo 76 = .ok (.dup, 1) := by decide +kernel
theorem dX5_turnTo_77 : decode cX5_turnTo 77 = .ok (.ldc 183, 2) := by decide +kernel
theorem dX5_turnTo_79 : decode cX5_turnTo 79 = .ok (.invokespecial 87, 3) := by decide +kernel
theorem dX5_turnTo_82 : decode cX5_turnTo 82 = .ok (.athrow, 1) := by decide +kernel
theorem dX5_turnTo_83 : decode cX5_turnTo 83 = .ok (.aload 4, 2) := by decide +kernel
theorem dX5_turnTo_85 : decode cX5_turnTo 85 = .ok (.getfield 113, 3) := by decide +kernel
theorem dX5_turnTo_88 : decode cX5_turnTo 88 = .ok (.istore 5, 2) := by decide +kernel
theorem dX5_turnTo_90 : decode cX5_turnTo 90 = .ok (.aload 4, 2) := by decide +kernel
theorem dX5_turnTo_92 : decode cX5_turnTo 92 = .ok (.iload_n 2, 1) := by decide +kernel
theorem dX5_turnTo_93 : decode cX5_turnTo 93 = .ok (.putfield 113, 3) := by decide +kernel
theorem dX5_turnTo_96 : decode cX5_turnTo 96 = .ok (.aload 4, 2) := by decide +kernel
theorem dX5_turnTo_98 : decode cX5_turnTo 98 = .ok (.iload_n 3, 1) := by decide +kernel
theorem dX5_turnTo_99 : decode cX5_turnTo 99 = .ok (.putfield 185, 3) := by decide +kernel
theorem dX5_turnTo_102 : decode cX5_turnTo 102 = .ok (.iload 5, 2) := by decide +kernel
theorem dX5_turnTo_104 : decode cX5_turnTo 104 = .ok (.ireturn, 1) := by decide +kernel
theorem dX5_tick_0 : decode cX5_tick 0 = .ok (.iload_n 1, 1) := by decide +kernel
theorem dX5_tick_1 : decode cX5_tick 1 = .ok (.iconst 1, 1) := by decide +kernel
theorem dX5_tick_2 : decode cX5_tick 2 = .ok (.if_icmp .lt 9, 3) := by decide +kernel
theorem dX5_tick_5 : decode cX5_tick 5 = .ok (.iload_n 1, 1) := by decide +kernel
theorem dX5_tick_6 : decode cX5_tick 6 = .ok (.bipush 20, 2) := by decide +kernel
theorem dX5_tick_8 : decode cX5_tick 8 = .ok (.if_icmp .le 13, 3) := by decide +kernel
theorem dX5_tick_11 : decode cX5_tick 11 = .ok (.new 51, 3) := by decide +kernel
theorem dX5_tick_14 : decode cX5_tick 14 = .ok (.dup, 1) := by decide +kernel
theorem dX5_tick_15 : decode cX5_tick 15 = .ok (.ldc 188, 2) := by decide +kernel
theorem dX5_tick_17 : decode cX5_tick 17 = .ok (.invokespecial 55, 3) := by decide +kernel
theorem dX5_tick_20 : decode cX5_tick 20 = .ok (.athrow, 1) := by decide +kernel
theorem dX5_tick_21 : decode cX5_tick 21 = .ok (.aload_n 0, 1) := by decide +kernel
theorem dX5_tick_22 : decode cX5_tick 22 = .ok (.getfield 30, 3) := by decide +kernel
theorem dX5_tick_25 : decode cX5_tick 25 = .ok (.invokevirtual 190, 3) := by decide +kernel
theorem dX5_tick_28 : decode cX5_tick 28 = .ok (.istore_n 2, 1) := by decide +kernel
theorem dX5_tick_29 : decode cX5_tick 29 = .ok (.aload_n 0, 1) := by decide +kernel
theorem dX5_tick_30 : decode cX5_tick 30 = .ok (.getfield 30, 3) := by decide +kernel
theorem dX5_tick_33 : decode cX5_tick 33 = .ok (.iload_n 1, 1) := by decide +kernel
theorem dX5_tick_34 : decode cX5_tick 34 = .ok (.invokevirtual 193, 3) := by decide +kernel
theorem dX5_tick_37 : decode cX5_tick 37 = .ok (.iload_n 2, 1) := by decide +kernel
theorem dX5_tick_38 : decode cX5_tick 38 = .ok (.isub, 1) := by decide +kernel
theorem dX5_tick_39 : decode cX5_tick 39 = .ok (.ireturn, 1) := by decide +kernel
theorem dX5_clock_0 : decode cX5_clock 0 = .ok (.aload_n 0, 1) := by decide +kernel
theorem dX5_clock_1 : decode cX5_clock 1 = .ok (.getfield 30, 3) := by decide +kernel
theorem dX5_clock_4 : decode cX5_clock 4 = .ok (.getfield 196, 3) := by decide +kernel
theorem dX5_clock_7 : decode cX5_clock 7 = .ok (.ireturn, 1) := by decide +kernel
theorem dX5_many_0 : decode cX5_many 0 = .ok (.iload_n 1, 1) := by decide +kernel
theorem dX5_many_1 : decode cX5_many 1 = .ok (.ifCond .lt 9, 3) := by decide +kernel
theorem dX5_many_4 : decode cX5_many 4 = .ok (.iload_n 1, 1) := by decide +kernel
theorem dX5_many_5 : decode cX5_many 5 = .ok (.bipush 8, 2) := by decide +kernel
theorem dX5_many_7 : decode cX5_many 7 = .ok (.if_icmp .le 13, 3) := by decide +kernel
theorem dX5_many_10 : decode cX5_many 10 = .ok (.new 51, 3) := by decide +kernel
theorem dX5_many_13 : decode cX5_many 13 = .ok (.dup, 1) := by decide +kernel
theorem dX5_many_14 : decode cX5_many 14 = .ok (.ldc 199, 2) := by decide +kernel
theorem dX5_many_16 : decode cX5_many 16 = .ok (.invokespecial 55, 3) := by decide +kernel
theorem dX5_many_19 : decode cX5_many 19 = .ok (.athrow, 1) := by decide +kernel
theorem dX5_many_20 : decode cX5_many 20 = .ok (.aload_n 0, 1) := by decide +kernel
theorem dX5_many_21 : decode cX5_many 21 = .ok (.getfield 37, 3) := by decide +kernel
theorem dX5_many_24 : decode cX5_many 24 = .ok (.aload_n 0, 1) := by decide +kernel
theorem dX5_many_25 : decode cX5_many 25 = .ok (.getfield 30, 3) := by decide +kernel
theorem dX5_many_28 : decode cX5_many 28 = .ok (.invokevirtual 201, 3) := by decide +kernel
theorem dX5_many_31 : decode cX5_many 31 = .ok (.aload_n 0, 1) := by decide +kernel
theorem dX5_many_32 : decode cX5_many 32 = .ok (.iload_n 1, 1) := by decide +kernel
theorem dX5_many_33 : decode cX5_many 33 = .ok (.invokevirtual 205, 3) := by decide +kernel
theorem dX5_many_36 : decode cX5_many 36 = .ok (.ireturn, 1) := by decide +kernel
theorem dX5_ofWalker_0 : decode cX5_ofWalker 0 = .ok (.aload_n 0, 1) := by decide +kernel
theorem dX5_ofWalker_1 : decode cX5_ofWalker 1 = .ok (.getfield 30, 3) := by decide +kernel
theorem dX5_ofWalker_4 : decode cX5_ofWalker 4 = .ok (.iload_n 1, 1) := by decide +kernel
theorem dX5_ofWalker_5 : decode cX5_ofWalker 5 = .ok (.invokevirtual 109, 3) := by decide +kernel
theorem dX5_ofWalker_8 : decode cX5_ofWalker 8 = .ok (.astore_n 3, 1) := by decide +kernel
theorem dX5_ofWalker_9 : decode cX5_ofWalker 9 = .ok (.aload_n 3, 1) := by decide +kernel
theorem dX5_ofWalker_10 : decode cX5_ofWalker 10 = .ok (.ifnonnull 13, 3) := by decide +kernel
theorem dX5_ofWalker_13 : decode cX5_ofWalker 13 = .ok (.new 66, 3) := by decide +kernel
theorem dX5_ofWalker_16 : decode cX5_ofWalker 16 = .ok (.dup, 1) := by decide +kernel
theorem dX5_ofWalker_17 : decode cX5_ofWalker 17 = .ok (.ldc 208, 2) := by decide +kernel
theorem dX5_ofWalker_19 : decode cX5_ofWalker 19 = .ok (.invokespecial 70, 3) := by decide +kernel
theorem dX5_ofWalker_22 : decode cX5_ofWalker 22 = .ok (.athrow, 1) := by decide +kernel
theorem dX5_ofWalker_23 : decode cX5_ofWalker 23 = .ok (.iload_n 2, 1) := by decide +kernel
theorem dX5_ofWalker_24 : decode cX5_ofWalker 24 = .ok (.ifCond .lt 9, 3) := by decide +kernel
theorem dX5_ofWalker_27 : decode cX5_ofWalker 27 = .ok (.iload_n 2, 1) := by decide +kernel
theorem dX5_ofWalker_28 : decode cX5_ofWalker 28 = .ok (.bipush 8, 2) := by decide +kernel
theorem dX5_ofWalker_30 : decode cX5_ofWalker 30 = .ok (.if_icmp .le 13, 3) := by decide +kernel
theorem dX5_ofWalker_33 : decode cX5_ofWalker 33 = .ok (.new 51, 3) := by decide +kernel
theorem dX5_ofWalker_36 : decode cX5_ofWalker 36 = .ok (.dup, 1) := by decide +kernel
theorem dX5_ofWalker_37 : decode cX5_ofWalker 37 = .ok (.ldc 199, 2) := by decide +kernel
theorem dX5_ofWalker_39 : decode cX5_ofWalker 39 = .ok (.invokespecial 55, 3) := by decide +kernel
theorem dX5_ofWalker_42 : decode cX5_ofWalker 42 = .ok (.athrow, 1) := by decide +kernel
theorem dX5_ofWalker_43 : decode cX5_ofWalker 43 = .ok (.aload_n 0, 1) := by decide +kernel
theorem dX5_ofWalker_44 : decode cX5_ofWalker 44 = .ok (.getfield 30, 3) := by decide +kernel
theorem dX5_ofWalker_47 : decode cX5_ofWalker 47 = .ok (.aload_n 3, 1) := by decide +kernel
theorem dX5_ofWalker_48 : decode cX5_ofWalker 48 = .ok (.iload_n 2, 1) := by decide +kernel
theorem dX5_ofWalker_49 : decode cX5_ofWalker 49 = .ok (.invokevirtual 210, 3) := by decide +kernel
theorem dX5_ofWalker_52 : decode cX5_ofWalker 52 = .ok (.ireturn, 1) := by decide +kernel
theorem dX5_cost_0 : decode cX5_cost 0 = .ok (.aload_n 0, 1) := by decide +kernel
theorem dX5_cost_1 : decode cX5_cost 1 = .ok (.getfield 30, 3) := by decide +kernel
theorem dX5_cost_4 : decode cX5_cost 4 = .ok (.iload_n 1, 1) := by decide +kernel
theorem dX5_cost_5 : decode cX5_cost 5 = .ok (.invokevirtual 109, 3) := by decide +kernel
theorem dX5_cost_8 : decode cX5_cost 8 = .ok (.astore_n 3, 1) := by decide +kernel
theorem dX5_cost_9 : decode cX5_cost 9 = .ok (.aload_n 3, 1) := by decide +kernel
theorem dX5_cost_10 : decode cX5_cost 10 = .ok (.ifnull 10, 3) := by decide +kernel
theorem dX5_cost_13 : decode cX5_cost 13 = .ok (.aload_n 3, 1) := by decide +kernel
theorem dX5_cost_14 : decode cX5_cost 14 = .ok (.invokevirtual 176, 3) := by decide +kernel
theorem dX5_cost_17 : decode cX5_cost 17 = .ok (.ifCond .eq 13, 3) := by decide +kernel
theorem dX5_cost_20 : decode cX5_cost 20 = .ok (.new 66, 3) := by decide +kernel
theorem dX5_cost_23 : decode cX5_cost 23 = .ok (.dup, 1) := by decide +kernel
theorem dX5_cost_24 : decode cX5_cost 24 = .ok (.ldc 214, 2) := by decide +kernel
theorem dX5_cost_26 : decode cX5_cost 26 = .ok (.invokespecial 70, 3) := by decide +kernel
theorem dX5_cost_29 : decode cX5_cost 29 = .ok (.athrow, 1) := by decide +kernel
theorem dX5_cost_30 : decode cX5_cost 30 = .ok (.iload_n 2, 1) := by decide +kernel
theorem dX5_cost_31 : decode cX5_cost 31 = .ok (.ifCond .lt 8, 3) := by decide +kernel
theorem dX5_cost_34 : decode cX5_cost 34 = .ok (.iload_n 2, 1) := by decide +kernel
theorem dX5_cost_35 : decode cX5_cost 35 = .ok (.iconst 4, 1) := by decide +kernel
theorem dX5_cost_36 : decode cX5_cost 36 = .ok (.if_icmp .le 13, 3) := by decide +kernel
theorem dX5_cost_39 : decode cX5_cost 39 = .ok (.new 51, 3) := by decide +kernel
theorem dX5_cost_42 : decode cX5_cost 42 = .ok (.dup, 1) := by decide +kernel
theorem dX5_cost_43 : decode cX5_cost 43 = .ok (.ldc 216, 2) := by decide +kernel
theorem dX5_cost_45 : decode cX5_cost 45 = .ok (.invokespecial 55, 3) := by decide +kernel
theorem dX5_cost_48 : decode cX5_cost 48 = .ok (.athrow, 1) := by decide +kernel
theorem dX5_cost_49 : decode cX5_cost 49 = .ok (.aload_n 0, 1) := by decide +kernel
theorem dX5_cost_50 : decode cX5_cost 50 = .ok (.getfield 30, 3) := by decide +kernel
theorem dX5_cost_53 : decode cX5_cost 53 = .ok (.aload_n 3, 1) := by decide +kernel
theorem dX5_cost_54 : decode cX5_cost 54 = .ok (.iload_n 2, 1) := by decide +kernel
theorem dX5_cost_55 : decode cX5_cost 55 = .ok (.invokevirtual 218, 3) := by decide +kernel
theorem dX5_cost_58 : decode cX5_cost 58 = .ok (.ireturn, 1) := by decide +kernel
theorem dX5_wants_0 : decode cX5_wants 0 = .ok (.aload_n 0, 1) := by decide +kernel
theorem dX5_wants_1 : decode cX5_wants 1 = .ok (.getfield 30, 3) := by decide +kernel
theorem dX5_wants_4 : decode cX5_wants 4 = .ok (.iload_n 1, 1) := by decide +kernel
theorem dX5_wants_5 : decode cX5_wants 5 = .ok (.invokevirtual 109, 3) := by decide +kernel
theorem dX5_wants_8 : decode cX5_wants 8 = .ok (.astore_n 2, 1) := by decide +kernel
theorem dX5_wants_9 : decode cX5_wants 9 = .ok (.aload_n 2, 1) := by decide +kernel
theorem dX5_wants_10 : decode cX5_wants 10 = .ok (.ifnull 10, 3) := by decide +kernel
theorem dX5_wants_13 : decode cX5_wants 13 = .ok (.aload_n 2, 1) := by decide +kernel
theorem dX5_wants_14 : decode cX5_wants 14 = .ok (.invokevirtual 176, 3) := by decide +kernel
theorem dX5_wants_17 : decode cX5_wants 17 = .ok (.ifCond .eq 13, 3) := by decide +kernel
theorem dX5_wants_20 : decode cX5_wants 20 = .ok (.new 66, 3) := by decide +kernel
theorem dX5_wants_23 : decode cX5_wants 23 = .ok (.dup, 1) := by decide +kernel
theorem dX5_wants_24 : decode cX5_wants 24 = .ok (.ldc 214, 2) := by decide +kernel
theorem dX5_wants_26 : decode cX5_wants 26 = .ok (.invokespecial 70, 3) := by decide +kernel
theorem dX5_wants_29 : decode cX5_wants 29 = .ok (.athrow, 1) := by decide +kernel
theorem dX5_wants_30 : decode cX5_wants 30 = .ok (.aload_n 0, 1) := by decide +kernel
theorem dX5_wants_31 : decode cX5_wants 31 = .ok (.getfield 30, 3) := by decide +kernel
theorem dX5_wants_34 : decode cX5_wants 34 = .ok (.aload_n 2, 1) := by decide +kernel
theorem dX5_wants_35 : decode cX5_wants 35 = .ok (.invokevirtual 221, 3) := by decide +kernel
theorem dX5_wants_38 : decode cX5_wants 38 = .ok (.ireturn, 1) := by decide +kernel
theorem dX5_way_0 : decode cX5_way 0 = .ok (.aload_n 0, 1) := by decide +kernel
theorem dX5_way_1 : decode cX5_way 1 = .ok (.getfield 30, 3) := by decide +kernel
theorem dX5_way_4 : decode cX5_way 4 = .ok (.iload_n 1, 1) := by decide +kernel
theorem dX5_way_5 : decode cX5_way 5 = .ok (.invokevirtual 109, 3) := by decide +kernel
theorem dX5_way_8 : decode cX5_way 8 = .ok (.astore_n 3, 1) := by decide +kernel
theorem dX5_way_9 : decode cX5_way 9 = .ok (.aload_n 3, 1) := by decide +kernel
theorem dX5_way_10 : decode cX5_way 10 = .ok (.ifnull 10, 3) := by decide +kernel
theorem dX5_way_13 : decode cX5_way 13 = .ok (.aload_n 3, 1) := by decide +kernel
theorem dX5_way_14 : decode cX5_way 14 = .ok (.invokevirtual 176, 3) := by decide +kernel
theorem dX5_way_17 : decode cX5_way 17 = .ok (.ifCond .eq 13, 3) := by decide +kernel
theorem dX5_way_20 : decode cX5_way 20 = .ok (.new 66, 3) := by decide +kernel
theorem dX5_way_23 : decode cX5_way 23 = .ok (.dup, 1) := by decide +kernel
theorem dX5_way_24 : decode cX5_way 24 = .ok (.ldc 214, 2) := by decide +kernel
theorem dX5_way_26 : decode cX5_way 26 = .ok (.invokespecial 70, 3) := by decide +kernel
theorem dX5_way_29 : decode cX5_way 29 = .ok (.athrow, 1) := by decide +kernel
theorem dX5_way_30 : decode cX5_way 30 = .ok (.iload_n 2, 1) := by decide +kernel
theorem dX5_way_31 : decode cX5_way 31 = .ok (.ifCond .ge 13, 3) := by decide +kernel
theorem dX5_way_34 : decode cX5_way 34 = .ok (.new 51, 3) := by decide +kernel
theorem dX5_way_37 : decode cX5_way 37 = .ok (.dup, 1) := by decide +kernel
theorem dX5_way_38 : decode cX5_way 38 = .ok (.ldc 225, 2) := by decide +kernel
theorem dX5_way_40 : decode cX5_way 40 = .ok (.invokespecial 55, 3) := by decide +kernel
theorem dX5_way_43 : decode cX5_way 43 = .ok (.athrow, 1) := by decide +kernel
theorem dX5_way_44 : decode cX5_way 44 = .ok (.aload_n 0, 1) := by decide +kernel
theorem dX5_way_45 : decode cX5_way 45 = .ok (.getfield 21, 3) := by decide +kernel
theorem dX5_way_48 : decode cX5_way 48 = .ok (.aload_n 3, 1) := by decide +kernel
theorem dX5_way_49 : decode cX5_way 49 = .ok (.getfield 113, 3) := by decide +kernel
theorem dX5_way_52 : decode cX5_way 52 = .ok (.aload_n 3, 1) := by decide +kernel
theorem dX5_way_53 : decode cX5_way 53 = .ok (.getfield 180, 3) := by decide +kernel
theorem dX5_way_56 : decode cX5_way 56 = .ok (.iload_n 2, 1) := by decide +kernel
theorem dX5_way_57 : decode cX5_way 57 = .ok (.invokevirtual 227, 3) := by decide +kernel
theorem dX5_way_60 : decode cX5_way 60 = .ok (.ireturn, 1) := by decide +kernel
theorem dX5_jam_0 : decode cX5_jam 0 = .ok (.aload_n 0, 1) := by decide +kernel
theorem dX5_jam_1 : decode cX5_jam 1 = .ok (.getfield 30, 3) := by decide +kernel
theorem dX5_jam_4 : decode cX5_jam 4 = .ok (.iload_n 1, 1) := by decide +kernel
theorem dX5_jam_5 : decode cX5_jam 5 = .ok (.invokevirtual 109, 3) := by decide +kernel
theorem dX5_jam_8 : decode cX5_jam 8 = .ok (.ifnonnull 13, 3) := by decide +kernel
theorem dX5_jam_11 : decode cX5_jam 11 = .ok (.new 66, 3) := by decide +kernel
theorem dX5_jam_14 : decode cX5_jam 14 = .ok (.dup, 1) := by decide +kernel
theorem dX5_jam_15 : decode cX5_jam 15 = .ok (.ldc 208, 2) := by decide +kernel
theorem dX5_jam_17 : decode cX5_jam 17 = .ok (.invokespecial 70, 3) := by decide +kernel
theorem dX5_jam_20 : decode cX5_jam 20 = .ok (.athrow, 1) := by decide +kernel
theorem dX5_jam_21 : decode cX5_jam 21 = .ok (.aload_n 0, 1) := by decide +kernel
theorem dX5_jam_22 : decode cX5_jam 22 = .ok (.getfield 37, 3) := by decide +kernel
theorem dX5_jam_25 : decode cX5_jam 25 = .ok (.aload_n 0, 1) := by decide +kernel
theorem dX5_jam_26 : decode cX5_jam 26 = .ok (.getfield 30, 3) := by decide +kernel
theorem dX5_jam_29 : decode cX5_jam 29 = .ok (.invokevirtual 201, 3) := by decide +kernel
theorem dX5_jam_32 : decode cX5_jam 32 = .ok (.aload_n 0, 1) := by decide +kernel
theorem dX5_jam_33 : decode cX5_jam 33 = .ok (.getfield 37, 3) := by decide +kernel
theorem dX5_jam_36 : decode cX5_jam 36 = .ok (.iload_n 1, 1) := by decide +kernel
theorem dX5_jam_37 : decode cX5_jam 37 = .ok (.invokevirtual 231, 3) := by decide +kernel
theorem dX5_jam_40 : decode cX5_jam 40 = .ok (.ireturn, 1) := by decide +kernel
theorem dX5_outIn_0 : decode cX5_outIn 0 = .ok (.aload_n 0, 1) := by decide +kernel
theorem dX5_outIn_1 : decode cX5_outIn 1 = .ok (.getfield 30, 3) := by decide +kernel
theorem dX5_outIn_4 : decode cX5_outIn 4 = .ok (.iload_n 1, 1) := by decide +kernel
theorem dX5_outIn_5 : decode cX5_outIn 5 = .ok (.invokevirtual 109, 3) := by decide +kernel
theorem dX5_outIn_8 : decode cX5_outIn 8 = .ok (.ifnonnull 13, 3) := by decide +kernel
theorem dX5_outIn_11 : decode cX5_outIn 11 = .ok (.new 66, 3) := by decide +kernel
theorem dX5_outIn_14 : decode cX5_outIn 14 = .ok (.dup, 1) := by decide +kernel
theorem dX5_outIn_15 : decode cX5_outIn 15 = .ok (.ldc 208, 2) := by decide +kernel
theorem dX5_outIn_17 : decode cX5_outIn 17 = .ok (.invokespecial 70, 3) := by decide +kernel
theorem dX5_outIn_20 : decode cX5_outIn 20 = .ok (.athrow, 1) := by decide +kernel
theorem dX5_outIn_21 : decode cX5_outIn 21 = .ok (.iload_n 2, 1) := by decide +kernel
theorem dX5_outIn_22 : decode cX5_outIn 22 = .ok (.invokestatic 238, 3) := by decide +kernel
theorem dX5_outIn_25 : decode cX5_outIn 25 = .ok (.ifCond .ne 13, 3) := by decide +kernel
theorem dX5_outIn_28 : decode cX5_outIn 28 = .ok (.new 51, 3) := by decide +kernel
theorem dX5_outIn_31 : decode cX5_outIn 31 = .ok (.dup, 1) := by decide +kernel
theorem dX5_outIn_32 : decode cX5_outIn 32 = .ok (.ldc 241, 2) := by decide +kernel
theorem dX5_outIn_34 : decode cX5_outIn 34 = .ok (.invokespecial 55, 3) := by decide +kernel
theorem dX5_outIn_37 : decode cX5_outIn 37 = .ok (.athrow, 1) := by decide +kernel
theorem dX5_outIn_38 : decode cX5_outIn 38 = .ok (.aload_n 0, 1) := by decide +kernel
theorem dX5_outIn_39 : decode cX5_outIn 39 = .ok (.invokevirtual 243, 3) := by decide +kernel
theorem dX5_outIn_42 : decode cX5_outIn 42 = .ok (.aload_n 0, 1) := by decide +kernel
theorem dX5_outIn_43 : decode cX5_outIn 43 = .ok (.getfield 44, 3) := by decide +kernel
theorem dX5_outIn_46 : decode cX5_outIn 46 = .ok (.iload_n 1, 1) := by decide +kernel
theorem dX5_outIn_47 : decode cX5_outIn 47 = .ok (.iload_n 2, 1) := by decide +kernel
theorem dX5_outIn_48 : decode cX5_outIn 48 = .ok (.invokevirtual 246, 3) := by decide +kernel
theorem dX5_outIn_51 : decode cX5_outIn 51 = .ok (.ireturn, 1) := by decide +kernel
theorem dX5_outWith_0 : decode cX5_outWith 0 = .ok (.iload_n 1, 1) := by decide +kernel
theorem dX5_outWith_1 : decode cX5_outWith 1 = .ok (.invokestatic 238, 3) := by decide +kernel
theorem dX5_outWith_4 : decode cX5_outWith 4 = .ok (.ifCond .eq 13, 3) := by decide +kernel
theorem dX5_outWith_7 : decode cX5_outWith 7 = .ok (.iload_n 2, 1) := by decide +kernel
theorem dX5_outWith_8 : decode cX5_outWith 8 = .ok (.ifCond .lt 9, 3) := by decide +kernel
theorem dX5_outWith_11 : decode cX5_outWith 11 = .ok (.iload_n 2, 1) := by decide +kernel
theorem dX5_outWith_12 : decode cX5_outWith 12 = .ok (.bipush 9, 2) := by decide +kernel
theorem dX5_outWith_14 : decode cX5_outWith 14 = .ok (.if_icmp .le 13, 3) := by decide +kernel
theorem dX5_outWith_17 : decode cX5_outWith 17 = .ok (.new 51, 3) := by decide +kernel
theorem dX5_outWith_20 : decode cX5_outWith 20 = .ok (.dup, 1) := by decide +kernel
theorem dX5_outWith_21 : decode cX5_outWith 21 = .ok (.ldc 249, 2) := by decide +kernel
theorem dX5_outWith_23 : decode cX5_outWith 23 = .ok (.invokespecial 55, 3) := by decide +kernel
theorem dX5_outWith_26 : decode cX5_outWith 26 = .ok (.athrow, 1) := by decide +kernel
theorem dX5_outWith_27 : decode cX5_outWith 27 = .ok (.aload_n 0, 1) := by decide +kernel
theorem dX5_outWith_28 : decode cX5_outWith 28 = .ok (.invokevirtual 243, 3) := by decide +kernel
theorem dX5_outWith_31 : decode cX5_outWith 31 = .ok (.aload_n 0, 1) := by decide +kernel
theorem dX5_outWith_32 : decode cX5_outWith 32 = .ok (.getfield 44, 3) := by decide +kernel
theorem dX5_outWith_35 : decode cX5_outWith 35 = .ok (.iload_n 2, 1) := by decide +kernel
theorem dX5_outWith_36 : decode cX5_outWith 36 = .ok (.putfield 132, 3) := by decide +kernel
theorem dX5_outWith_39 : decode cX5_outWith 39 = .ok (.aload_n 0, 1) := by decide +kernel
theorem dX5_outWith_40 : decode cX5_outWith 40 = .ok (.getfield 44, 3) := by decide +kernel
theorem dX5_outWith_43 : decode cX5_outWith 43 = .ok (.iload_n 1, 1) := by decide +kernel
theorem dX5_outWith_44 : decode cX5_outWith 44 = .ok (.invokevirtual 193, 3) := by decide +kernel
theorem dX5_outWith_47 : decode cX5_outWith 47 = .ok (.ireturn, 1) := by decide +kernel
theorem dX5_jamIn_0 : decode cX5_jamIn 0 = .ok (.iload_n 1, 1) := by decide +kernel
theorem dX5_jamIn_1 : decode cX5_jamIn 1 = .ok (.invokestatic 238, 3) := by decide +kernel
theorem dX5_jamIn_4 : decode cX5_jamIn 4 = .ok (.ifCond .ne 13, 3) := by decide +kernel
theorem dX5_jamIn_7 : decode cX5_jamIn 7 = .ok (.new 51, 3) := by decide +kernel
theorem dX5_jamIn_10 : decode cX5_jamIn 10 = .ok (.dup, 1) := by decide +kernel
theorem dX5_jamIn_11 : decode cX5_jamIn 11 = .ok (.ldc 241, 2) := by decide +kernel
theorem dX5_jamIn_13 : decode cX5_jamIn 13 = .ok (.invokespecial 55, 3) := by decide +kernel
theorem dX5_jamIn_16 : decode cX5_jamIn 16 = .ok (.athrow, 1) := by decide +kernel
theorem dX5_jamIn_17 : decode cX5_jamIn 17 = .ok (.aload_n 0, 1) := by decide +kernel
theorem dX5_jamIn_18 : decode cX5_jamIn 18 = .ok (.invokevirtual 243, 3) := by decide +kernel
theorem dX5_jamIn_21 : decode cX5_jamIn 21 = .ok (.aload_n 0, 1) := by decide +kernel
theorem dX5_jamIn_22 : decode cX5_jamIn 22 = .ok (.getfield 44, 3) := by decide +kernel
theorem dX5_jamIn_25 : decode cX5_jamIn 25 = .ok (.iload_n 1, 1) := by decide +kernel
theorem dX5_jamIn_26 : decode cX5_jamIn 26 = .ok (.invokevirtual 251, 3) := by decide +kernel
theorem dX5_jamIn_29 : decode cX5_jamIn 29 = .ok (.ireturn, 1) := by decide +kernel
theorem dX5_digest_0 : decode cX5_digest 0 = .ok (.aload_n 0, 1) := by decide +kernel
theorem dX5_digest_1 : decode cX5_digest 1 = .ok (.getfield 37, 3) := by decide +kernel
theorem dX5_digest_4 : decode cX5_digest 4 = .ok (.aload_n 0, 1) := by decide +kernel
theorem dX5_digest_5 : decode cX5_digest 5 = .ok (.getfield 30, 3) := by decide +kernel
theorem dX5_digest_8 : decode cX5_digest 8 = .ok (.invokevirtual 201, 3) := by decide +kernel
theorem dX5_digest_11 : decode cX5_digest 11 = .ok (.ldc2_w 261, 3) := by decide +kernel
theorem dX5_digest_14 : decode cX5_digest 14 = .ok (.aload_n 0, 1) := by decide +kernel
theorem dX5_digest_15 : decode cX5_digest 15 = .ok (.getfield 30, 3) := by decide +kernel
theorem dX5_digest_18 : decode cX5_digest 18 = .ok (.getfield 196, 3) := by decide +kernel
theorem dX5_digest_21 : decode cX5_digest 21 = .ok (.invokestatic 263, 3) := by decide +kernel
theorem dX5_digest_24 : decode cX5_digest 24 = .ok (.lstore_n 1, 1) := by decide +kernel
theorem dX5_digest_25 : decode cX5_digest 25 = .ok (.iconst 0, 1) := by decide +kernel
theorem dX5_digest_26 : decode cX5_digest 26 = .ok (.istore_n 3, 1) := by decide +kernel
theorem dX5_digest_27 : decode cX5_digest 27 = .ok (.iload_n 3, 1) := by decide +kernel
theorem dX5_digest_28 : decode cX5_digest 28 = .ok (.bipush 8, 2) := by decide +kernel
theorem dX5_digest_30 : decode cX5_digest 30 = .ok (.if_icmp .gt 19, 3) := by decide +kernel
theorem dX5_digest_33 : decode cX5_digest 33 = .ok (.lload_n 1, 1) := by decide +kernel
theorem dX5_digest_34 : decode cX5_digest 34 = .ok (.aload_n 0, 1) := by decide +kernel
theorem dX5_digest_35 : decode cX5_digest 35 = .ok (.iload_n 3, 1) := by decide +kernel
theorem dX5_digest_36 : decode cX5_digest 36 = .ok (.invokevirtual 205, 3) := by decide +kernel
theorem dX5_digest_39 : decode cX5_digest 39 = .ok (.invokestatic 263, 3) := by decide +kernel
theorem dX5_digest_42 : decode cX5_digest 42 = .ok (.lstore_n 1, 1) := by decide +kernel
theorem dX5_digest_43 : decode cX5_digest 43 = .ok (.iinc 3 1, 3) := by decide +kernel
theorem dX5_digest_46 : decode cX5_digest 46 = .ok (.goto (-19), 3) := by decide +kernel
theorem dX5_digest_49 : decode cX5_digest 49 = .ok (.iconst 0, 1) := by decide +kernel
theorem dX5_digest_50 : decode cX5_digest 50 = .ok (.istore_n 3, 1) := by decide +kernel
theorem dX5_digest_51 : decode cX5_digest 51 = .ok (.iload_n 3, 1) := by decide +kernel
theorem dX5_digest_52 : decode cX5_digest 52 = .ok (.iconst 4, 1) := by decide +kernel
theorem dX5_digest_53 : decode cX5_digest 53 = .ok (.if_icmp .ge 22, 3) := by decide +kernel
theorem dX5_digest_56 : decode cX5_digest 56 = .ok (.lload_n 1, 1) := by decide +kernel
theorem dX5_digest_57 : decode cX5_digest 57 = .ok (.aload_n 0, 1) := by decide +kernel
theorem dX5_digest_58 : decode cX5_digest 58 = .ok (.getfield 21, 3) := by decide +kernel
theorem dX5_digest_61 : decode cX5_digest 61 = .ok (.iload_n 3, 1) := by decide +kernel
theorem dX5_digest_62 : decode cX5_digest 62 = .ok (.invokevirtual 148, 3) := by decide +kernel
theorem dX5_digest_65 : decode cX5_digest 65 = .ok (.invokestatic 263, 3) := by decide +kernel
theorem dX5_digest_68 : decode cX5_digest 68 = .ok (.lstore_n 1, 1) := by decide +kernel
theorem dX5_digest_69 : decode cX5_digest 69 = .ok (.iinc 3 1, 3) := by decide +kernel
theorem dX5_digest_72 : decode cX5_digest 72 = .ok (.goto (-21), 3) := by decide +kernel
theorem dX5_digest_75 : decode cX5_digest 75 = .ok (.iconst 0, 1) := by decide +kernel
theorem dX5_digest_76 : decode cX5_digest 76 = .ok (.istore_n 3, 1) := by decide +kernel
theorem dX5_digest_77 : decode cX5_digest 77 = .ok (.iload_n 3, 1) := by decide +kernel
theorem dX5_digest_78 : decode cX5_digest 78 = .ok (.aload_n 0, 1) := by decide +kernel
theorem dX5_digest_79 : decode cX5_digest 79 = .ok (.getfield 30, 3) := by decide +kernel
theorem dX5_digest_82 : decode cX5_digest 82 = .ok (.getfield 163, 3) := by decide +kernel
theorem dX5_digest_85 : decode cX5_digest 85 = .ok (.if_icmp .ge 16, 3) := by decide +kernel
theorem dX5_digest_88 : decode cX5_digest 88 = .ok (.aload_n 0, 1) := by decide +kernel
theorem dX5_digest_89 : decode cX5_digest 89 = .ok (.lload_n 1, 1) := by decide +kernel
theorem dX5_digest_90 : decode cX5_digest 90 = .ok (.iload_n 3, 1) := by decide +kernel
theorem dX5_digest_91 : decode cX5_digest 91 = .ok (.invokevirtual 267, 3) := by decide +kernel
theorem dX5_digest_94 : decode cX5_digest 94 = .ok (.lstore_n 1, 1) := by decide +kernel
theorem dX5_digest_95 : decode cX5_digest 95 = .ok (.iinc 3 1, 3) := by decide +kernel
theorem dX5_digest_98 : decode cX5_digest 98 = .ok (.goto (-21), 3) := by decide +kernel
theorem dX5_digest_101 : decode cX5_digest 101 = .ok (.iconst 0, 1) := by decide +kernel
theorem dX5_digest_102 : decode cX5_digest 102 = .ok (.istore_n 3, 1) := by decide +kernel
theorem dX5_digest_103 : decode cX5_digest 103 = .ok (.iload_n 3, 1) := by decide +kernel
theorem dX5_digest_104 : decode cX5_digest 104 = .ok (.aload_n 0, 1) := by decide +kernel
theorem dX5_digest_105 : decode cX5_digest 105 = .ok (.getfield 10, 3) := by decide +kernel
theorem dX5_digest_108 : decode cX5_digest 108 = .ok (.getfield 58, 3) := by decide +kernel
theorem dX5_digest_111 : decode cX5_digest 111 = .ok (.if_icmp .ge 16, 3) := by decide +kernel
theorem dX5_digest_114 : decode cX5_digest 114 = .ok (.aload_n 0, 1) := by decide +kernel
theorem dX5_digest_115 : decode cX5_digest 115 = .ok (.lload_n 1, 1) := by decide +kernel
theorem dX5_digest_116 : decode cX5_digest 116 = .ok (.iload_n 3, 1) := by decide +kernel
theorem dX5_digest_117 : decode cX5_digest 117 = .ok (.invokevirtual 270, 3) := by decide +kernel
theorem dX5_digest_120 : decode cX5_digest 120 = .ok (.lstore_n 1, 1) := by decide +kernel
theorem dX5_digest_121 : decode cX5_digest 121 = .ok (.iinc 3 1, 3) := by decide +kernel
theorem dX5_digest_124 : decode cX5_digest 124 = .ok (.goto (-21), 3) := by decide +kernel
theorem dX5_digest_127 : decode cX5_digest 127 = .ok (.lload_n 1, 1) := by decide +kernel
theorem dX5_digest_128 : decode cX5_digest 128 = .ok (.lreturn, 1) := by decide +kernel
theorem dX5_makeNew_0 : decode cX5_makeNew 0 = .ok (.aload_n 0, 1) := by decide +kernel
theorem dX5_makeNew_1 : decode cX5_makeNew 1 = .ok (.getfield 10, 3) := by decide +kernel
theorem dX5_makeNew_4 : decode cX5_makeNew 4 = .ok (.iload_n 1, 1) := by decide +kernel
theorem dX5_makeNew_5 : decode cX5_makeNew 5 = .ok (.iload_n 2, 1) := by decide +kernel
theorem dX5_makeNew_6 : decode cX5_makeNew 6 = .ok (.invokevirtual 273, 3) := by decide +kernel
theorem dX5_makeNew_9 : decode cX5_makeNew 9 = .ok (.aload_n 0, 1) := by decide +kernel
theorem dX5_makeNew_10 : decode cX5_makeNew 10 = .ok (.getfield 21, 3) := by decide +kernel
theorem dX5_makeNew_13 : decode cX5_makeNew 13 = .ok (.invokevirtual 276, 3) := by decide +kernel
theorem dX5_makeNew_16 : decode cX5_makeNew 16 = .ok (.aload_n 0, 1) := by decide +kernel
theorem dX5_makeNew_17 : decode cX5_makeNew 17 = .ok (.getfield 30, 3) := by decide +kernel
theorem dX5_makeNew_20 : decode cX5_makeNew 20 = .ok (.invokevirtual 279, 3) := by decide +kernel
theorem dX5_makeNew_23 : decode cX5_makeNew 23 = .ok (.return_, 1) := by decide +kernel
theorem dX5_copyToTrial_0 : decode cX5_copyToTrial 0 = .ok (.aload_n 0, 1) := by decide +kernel
theorem dX5_copyToTrial_1 : decode cX5_copyToTrial 1 = .ok (.getfield 41, 3) := by decide +kernel
theorem dX5_copyToTrial_4 : decode cX5_copyToTrial 4 = .ok (.aload_n 0, 1) := by decide +kernel
theorem dX5_copyToTrial_5 : decode cX5_copyToTrial 5 = .ok (.getfield 21, 3) := by decide +kernel
theorem dX5_copyToTrial_8 : decode cX5_copyToTrial 8 = .ok (.invokevirtual 254, 3) := by decide +kernel
theorem dX5_copyToTrial_11 : decode cX5_copyToTrial 11 = .ok (.aload_n 0, 1) := by decide +kernel
theorem dX5_copyToTrial_12 : decode cX5_copyToTrial 12 = .ok (.getfield 44, 3) := by decide +kernel
theorem dX5_copyToTrial_15 : decode cX5_copyToTrial 15 = .ok (.aload_n 0, 1) := by decide +kernel
theorem dX5_copyToTrial_16 : decode cX5_copyToTrial 16 = .ok (.getfield 30, 3) := by decide +kernel
theorem dX5_copyToTrial_19 : decode cX5_copyToTrial 19 = .ok (.invokevirtual 280, 3) := by decide +kernel
theorem dX5_copyToTrial_22 : decode cX5_copyToTrial 22 = .ok (.return_, 1) := by decide +kernel
theorem dX5_fieldFigure_0 : decode cX5_fieldFigure 0 = .ok (.iload_n 2, 1) := by decide +kernel
theorem dX5_fieldFigure_1 : decode cX5_fieldFigure 1 = .ok (.tableswitch 62 0 2 #[27, 44, 53], 27) := by decide +kernel
theorem dX5_fieldFigure_28 : decode cX5_fieldFigure 28 = .ok (.aload_n 0, 1) := by decide +kernel
theorem dX5_fieldFigure_29 : decode cX5_fieldFigure 29 = .ok (.getfield 21, 3) := by decide +kernel
theorem dX5_fieldFigure_32 : decode cX5_fieldFigure 32 = .ok (.iload_n 1, 1) := by decide +kernel
theorem dX5_fieldFigure_33 : decode cX5_fieldFigure 33 = .ok (.invokevirtual 156, 3) := by decide +kernel
theorem dX5_fieldFigure_36 : decode cX5_fieldFigure 36 = .ok (.ifCond .eq 7, 3) := by decide +kernel
theorem dX5_fieldFigure_39 : decode cX5_fieldFigure 39 = .ok (.iconst 0, 1) := by decide +kernel
theorem dX5_fieldFigure_40 : decode cX5_fieldFigure 40 = .ok (.goto 4, 3) := by decide +kernel
theorem dX5_fieldFigure_43 : decode cX5_fieldFigure 43 = .ok (.iconst 1, 1) := by decide +kernel
theorem dX5_fieldFigure_44 : decode cX5_fieldFigure 44 = .ok (.ireturn, 1) := by decide +kernel
theorem dX5_fieldFigure_45 : decode cX5_fieldFigure 45 = .ok (.aload_n 0, 1) := by decide +kernel
theorem dX5_fieldFigure_46 : decode cX5_fieldFigure 46 = .ok (.getfield 30, 3) := by decide +kernel
theorem dX5_fieldFigure_49 : decode cX5_fieldFigure 49 = .ok (.iload_n 1, 1) := by decide +kernel
theorem dX5_fieldFigure_50 : decode cX5_fieldFigure 50 = .ok (.invokevirtual 105, 3) := by decide +kernel
theorem dX5_fieldFigure_53 : decode cX5_fieldFigure 53 = .ok (.ireturn, 1) := by decide +kernel
theorem dX5_fieldFigure_54 : decode cX5_fieldFigure 54 = .ok (.aload_n 0, 1) := by decide +kernel
theorem dX5_fieldFigure_55 : decode cX5_fieldFigure 55 = .ok (.getfield 30, 3) := by decide +kernel
theorem dX5_fieldFigure_58 : decode cX5_fieldFigure 58 = .ok (.iload_n 1, 1) := by decide +kernel
theorem dX5_fieldFigure_59 : decode cX5_fieldFigure 59 = .ok (.invokevirtual 282, 3) := by decide +kernel
theorem dX5_fieldFigure_62 : decode cX5_fieldFigure 62 = .ok (.ireturn, 1) := by decide +kernel
theorem dX5_fieldFigure_63 : decode cX5_fieldFigure 63 = .ok (.aload_n 0, 1) := by decide +kernel
theorem dX5_fieldFigure_64 : decode cX5_fieldFigure 64 = .ok (.getfield 30, 3) := by decide +kernel
theorem dX5_fieldFigure_67 : decode cX5_fieldFigure 67 = .ok (.iload_n 1, 1) := by decide +kernel
theorem dX5_fieldFigure_68 : decode cX5_fieldFigure 68 = .ok (.invokevirtual 285, 3) := by decide +kernel
theorem dX5_fieldFigure_71 : decode cX5_fieldFigure 71 = .ok (.ireturn, 1) := by decide +kernel
theorem dX5_crowdFigure_0 : decode cX5_crowdFigure 0 = .ok (.iload_n 1, 1) := by decide +kernel
theorem dX5_crowdFigure_1 : decode cX5_crowdFigure 1 = .ok (.tableswitch 119 0 7 #[47, 55, 63, 71, 79, 87, 95, 104], 47) := by decide +kernel
theorem dX5_crowdFigure_48 : decode cX5_crowdFigure 48 = .ok (.aload_n 0, 1) := by decide +kernel
theorem dX5_crowdFigure_49 : decode cX5_crowdFigure 49 = .ok (.getfield 30, 3) := by decide +kernel
theorem dX5_crowdFigure_52 : decode cX5_crowdFigure 52 = .ok (.getfield 163, 3) := by decide +kernel
theorem dX5_crowdFigure_55 : decode cX5_crowdFigure 55 = .ok (.ireturn, 1) := by decide +kernel
theorem dX5_crowdFigure_56 : decode cX5_crowdFigure 56 = .ok (.aload_n 0, 1) := by decide +kernel
theorem dX5_crowdFigure_57 : decode cX5_crowdFigure 57 = .ok (.getfield 30, 3) := by decide +kernel
theorem dX5_crowdFigure_60 : decode cX5_crowdFigure 60 = .ok (.invokevirtual 190, 3) := by decide +kernel
theorem dX5_crowdFigure_63 : decode cX5_crowdFigure 63 = .ok (.ireturn, 1) := by decide +kernel
theorem dX5_crowdFigure_64 : decode cX5_crowdFigure 64 = .ok (.aload_n 0, 1) := by decide +kernel
theorem dX5_crowdFigure_65 : decode cX5_crowdFigure 65 = .ok (.getfield 30, 3) := by decide +kernel
theorem dX5_crowdFigure_68 : decode cX5_crowdFigure 68 = .ok (.invokevirtual 288, 3) := by decide +kernel
theorem dX5_crowdFigure_71 : decode cX5_crowdFigure 71 = .ok (.ireturn, 1) := by decide +kernel
theorem dX5_crowdFigure_72 : decode cX5_crowdFigure 72 = .ok (.aload_n 0, 1) := by decide +kernel
theorem dX5_crowdFigure_73 : decode cX5_crowdFigure 73 = .ok (.getfield 37, 3) := by decide +kernel
theorem dX5_crowdFigure_76 : decode cX5_crowdFigure 76 = .ok (.getfield 291, 3) := by decide +kernel
theorem dX5_crowdFigure_79 : decode cX5_crowdFigure 79 = .ok (.ireturn, 1) := by decide +kernel
theorem dX5_crowdFigure_80 : decode cX5_crowdFigure 80 = .ok (.aload_n 0, 1) := by decide +kernel
theorem dX5_crowdFigure_81 : decode cX5_crowdFigure 81 = .ok (.getfield 37, 3) := by decide +kernel
theorem dX5_crowdFigure_84 : decode cX5_crowdFigure 84 = .ok (.getfield 294, 3) := by decide +kernel
theorem dX5_crowdFigure_87 : decode cX5_crowdFigure 87 = .ok (.ireturn, 1) := by decide +kernel
theorem dX5_crowdFigure_88 : decode cX5_crowdFigure 88 = .ok (.aload_n 0, 1) := by decide +kernel
theorem dX5_crowdFigure_89 : decode cX5_crowdFigure 89 = .ok (.getfield 37, 3) := by decide +kernel
theorem dX5_crowdFigure_92 : decode cX5_crowdFigure 92 = .ok (.invokevirtual 295, 3) := by decide +kernel
theorem dX5_crowdFigure_95 : decode cX5_crowdFigure 95 = .ok (.ireturn, 1) := by decide +kernel
theorem dX5_crowdFigure_96 : decode cX5_crowdFigure 96 = .ok (.aload_n 0, 1) := by decide +kernel
theorem dX5_crowdFigure_97 : decode cX5_crowdFigure 97 = .ok (.getfield 30, 3) := by decide +kernel
theorem dX5_crowdFigure_100 : decode cX5_crowdFigure 100 = .ok (.iconst 0, 1) := by decide +kernel
theorem dX5_crowdFigure_101 : decode cX5_crowdFigure 101 = .ok (.invokevirtual 234, 3) := by decide +kernel
theorem dX5_crowdFigure_104 : decode cX5_crowdFigure 104 = .ok (.ireturn, 1) := by decide +kernel
theorem dX5_crowdFigure_105 : decode cX5_crowdFigure 105 = .ok (.aload_n 0, 1) := by decide +kernel
theorem dX5_crowdFigure_106 : decode cX5_crowdFigure 106 = .ok (.getfield 30, 3) := by decide +kernel
theorem dX5_crowdFigure_109 : decode cX5_crowdFigure 109 = .ok (.aload_n 0, 1) := by decide +kernel
theorem dX5_crowdFigure_110 : decode cX5_crowdFigure 110 = .ok (.getfield 30, 3) := by decide +kernel
theorem dX5_crowdFigure_113 : decode cX5_crowdFigure 113 = .ok (.invokevirtual 298, 3) := by decide +kernel
theorem dX5_crowdFigure_116 : decode cX5_crowdFigure 116 = .ok (.invokevirtual 282, 3) := by decide +kernel
theorem dX5_crowdFigure_119 : decode cX5_crowdFigure 119 = .ok (.ireturn, 1) := by decide +kernel
theorem dX5_crowdFigure_120 : decode cX5_crowdFigure 120 = .ok (.aload_n 0, 1) := by decide +kernel
theorem dX5_crowdFigure_121 : decode cX5_crowdFigure 121 = .ok (.getfield 30, 3) := by decide +kernel
theorem dX5_crowdFigure_124 : decode cX5_crowdFigure 124 = .ok (.invokevirtual 298, 3) := by decide +kernel
theorem dX5_crowdFigure_127 : decode cX5_crowdFigure 127 = .ok (.ireturn, 1) := by decide +kernel
theorem dX5_mixWalker_0 : decode cX5_mixWalker 0 = .ok (.aload_n 0, 1) := by decide +kernel
theorem dX5_mixWalker_1 : decode cX5_mixWalker 1 = .ok (.getfield 30, 3) := by decide +kernel
theorem dX5_mixWalker_4 : decode cX5_mixWalker 4 = .ok (.iload_n 3, 1) := by decide +kernel
theorem dX5_mixWalker_5 : decode cX5_mixWalker 5 = .ok (.invokevirtual 109, 3) := by decide +kernel
theorem dX5_mixWalker_8 : decode cX5_mixWalker 8 = .ok (.astore 4, 2) := by decide +kernel
theorem dX5_mixWalker_10 : decode cX5_mixWalker 10 = .ok (.aload 4, 2) := by decide +kernel
theorem dX5_mixWalker_12 : decode cX5_mixWalker 12 = .ok (.ifnonnull 5, 3) := by decide +kernel
theorem dX5_mixWalker_15 : decode cX5_mixWalker 15 = .ok (.lload_n 1, 1) := by decide +kernel
theorem dX5_mixWalker_16 : decode cX5_mixWalker 16 = .ok (.lreturn, 1) := by decide +kernel
theorem dX5_mixWalker_17 : decode cX5_mixWalker 17 = .ok (.lload_n 1, 1) := by decide +kernel
theorem dX5_mixWalker_18 : decode cX5_mixWalker 18 = .ok (.lstore 5, 2) := by decide +kernel
theorem dX5_mixWalker_20 : decode cX5_mixWalker 20 = .ok (.iconst 0, 1) := by decide +kernel
theorem dX5_mixWalker_21 : decode cX5_mixWalker 21 = .ok (.istore 7, 2) := by decide +kernel
theorem dX5_mixWalker_23 : decode cX5_mixWalker 23 = .ok (.iload 7, 2) := by decide +kernel
theorem dX5_mixWalker_25 : decode cX5_mixWalker 25 = .ok (.bipush 8, 2) := by decide +kernel
theorem dX5_mixWalker_27 : decode cX5_mixWalker 27 = .ok (.if_icmp .gt 27, 3) := by decide +kernel
theorem dX5_mixWalker_30 : decode cX5_mixWalker 30 = .ok (.lload 5, 2) := by decide +kernel
theorem dX5_mixWalker_32 : decode cX5_mixWalker 32 = .ok (.aload_n 0, 1) := by decide +kernel
theorem dX5_mixWalker_33 : decode cX5_mixWalker 33 = .ok (.getfield 30, 3) := by decide +kernel
theorem dX5_mixWalker_36 : decode cX5_mixWalker 36 = .ok (.aload 4, 2) := by decide +kernel
theorem dX5_mixWalker_38 : decode cX5_mixWalker 38 = .ok (.iload 7, 2) := by decide +kernel
theorem dX5_mixWalker_40 : decode cX5_mixWalker 40 = .ok (.invokevirtual 210, 3) := by decide +kernel
theorem dX5_mixWalker_43 : decode cX5_mixWalker 43 = .ok (.invokestatic 263, 3) := by decide +kernel
theorem dX5_mixWalker_46 : decode cX5_mixWalker 46 = .ok (.lstore 5, 2) := by decide +kernel
theorem dX5_mixWalker_48 : decode cX5_mixWalker 48 = .ok (.iinc 7 1, 3) := by decide +kernel
theorem dX5_mixWalker_51 : decode cX5_mixWalker 51 = .ok (.goto (-28), 3) := by decide +kernel
theorem dX5_mixWalker_54 : decode cX5_mixWalker 54 = .ok (.lload 5, 2) := by decide +kernel
theorem dX5_mixWalker_56 : decode cX5_mixWalker 56 = .ok (.aload_n 0, 1) := by decide +kernel
theorem dX5_mixWalker_57 : decode cX5_mixWalker 57 = .ok (.getfield 37, 3) := by decide +kernel
theorem dX5_mixWalker_60 : decode cX5_mixWalker 60 = .ok (.iload_n 3, 1) := by decide +kernel
theorem dX5_mixWalker_61 : decode cX5_mixWalker 61 = .ok (.invokevirtual 231, 3) := by decide +kernel
theorem dX5_mixWalker_64 : decode cX5_mixWalker 64 = .ok (.invokestatic 263, 3) := by decide +kernel
theorem dX5_mixWalker_67 : decode cX5_mixWalker 67 = .ok (.lstore 5, 2) := by decide +kernel
theorem dX5_mixWalker_69 : decode cX5_mixWalker 69 = .ok (.aload 4, 2) := by decide +kernel
theorem dX5_mixWalker_71 : decode cX5_mixWalker 71 = .ok (.invokevirtual 176, 3) := by decide +kernel
theorem dX5_mixWalker_74 : decode cX5_mixWalker 74 = .ok (.ifCond .ne 36, 3) := by decide +kernel
theorem dX5_mixWalker_77 : decode cX5_mixWalker 77 = .ok (.iconst 0, 1) := by decide +kernel
theorem dX5_mixWalker_78 : decode cX5_mixWalker 78 = .ok (.istore 7, 2) := by decide +kernel
theorem dX5_mixWalker_80 : decode cX5_mixWalker 80 = .ok (.iload 7, 2) := by decide +kernel
theorem dX5_mixWalker_82 : decode cX5_mixWalker 82 = .ok (.iconst 4, 1) := by decide +kernel
theorem dX5_mixWalker_83 : decode cX5_mixWalker 83 = .ok (.if_icmp .gt 27, 3) := by decide +kernel
theorem dX5_mixWalker_86 : decode cX5_mixWalker 86 = .ok (.lload 5, 2) := by decide +kernel
theorem dX5_mixWalker_88 : decode cX5_mixWalker 88 = .ok (.aload_n 0, 1) := by decide +kernel
theorem dX5_mixWalker_89 : decode cX5_mixWalker 89 = .ok (.getfield 30, 3) := by decide +kernel
theorem dX5_mixWalker_92 : decode cX5_mixWalker 92 = .ok (.aload 4, 2) := by decide +kernel
theorem dX5_mixWalker_94 : decode cX5_mixWalker 94 = .ok (.iload 7, 2) := by decide +kernel
theorem dX5_mixWalker_96 : decode cX5_mixWalker 96 = .ok (.invokevirtual 218, 3) := by decide +kernel
theorem dX5_mixWalker_99 : decode cX5_mixWalker 99 = .ok (.invokestatic 263, 3) := by decide +kernel
theorem dX5_mixWalker_102 : decode cX5_mixWalker 102 = .ok (.lstore 5, 2) := by decide +kernel
theorem dX5_mixWalker_104 : decode cX5_mixWalker 104 = .ok (.iinc 7 1, 3) := by decide +kernel
theorem dX5_mixWalker_107 : decode cX5_mixWalker 107 = .ok (.goto (-27), 3) := by decide +kernel
theorem dX5_mixWalker_110 : decode cX5_mixWalker 110 = .ok (.lload 5, 2) := by decide +kernel
theorem dX5_mixWalker_112 : decode cX5_mixWalker 112 = .ok (.lreturn, 1) := by decide +kernel
theorem dX5_mixField_0 : decode cX5_mixField 0 = .ok (.lload_n 1, 1) := by decide +kernel
theorem dX5_mixField_1 : decode cX5_mixField 1 = .ok (.lstore 4, 2) := by decide +kernel
theorem dX5_mixField_3 : decode cX5_mixField 3 = .ok (.iconst 0, 1) := by decide +kernel
theorem dX5_mixField_4 : decode cX5_mixField 4 = .ok (.istore 6, 2) := by decide +kernel
theorem dX5_mixField_6 : decode cX5_mixField 6 = .ok (.iload 6, 2) := by decide +kernel
theorem dX5_mixField_8 : decode cX5_mixField 8 = .ok (.iconst 2, 1) := by decide +kernel
theorem dX5_mixField_9 : decode cX5_mixField 9 = .ok (.if_icmp .gt 23, 3) := by decide +kernel
theorem dX5_mixField_12 : decode cX5_mixField 12 = .ok (.lload 4, 2) := by decide +kernel
theorem dX5_mixField_14 : decode cX5_mixField 14 = .ok (.aload_n 0, 1) := by decide +kernel
theorem dX5_mixField_15 : decode cX5_mixField 15 = .ok (.iload_n 3, 1) := by decide +kernel
theorem dX5_mixField_16 : decode cX5_mixField 16 = .ok (.iload 6, 2) := by decide +kernel
theorem dX5_mixField_18 : decode cX5_mixField 18 = .ok (.invokevirtual 140, 3) := by decide +kernel
theorem dX5_mixField_21 : decode cX5_mixField 21 = .ok (.invokestatic 263, 3) := by decide +kernel
theorem dX5_mixField_24 : decode cX5_mixField 24 = .ok (.lstore 4, 2) := by decide +kernel
theorem dX5_mixField_26 : decode cX5_mixField 26 = .ok (.iinc 6 1, 3) := by decide +kernel
theorem dX5_mixField_29 : decode cX5_mixField 29 = .ok (.goto (-23), 3) := by decide +kernel
theorem dX5_mixField_32 : decode cX5_mixField 32 = .ok (.iconst 0, 1) := by decide +kernel
theorem dX5_mixField_33 : decode cX5_mixField 33 = .ok (.istore 6, 2) := by decide +kernel
theorem dX5_mixField_35 : decode cX5_mixField 35 = .ok (.iload 6, 2) := by decide +kernel
theorem dX5_mixField_37 : decode cX5_mixField 37 = .ok (.iconst 4, 1) := by decide +kernel
theorem dX5_mixField_38 : decode cX5_mixField 38 = .ok (.if_icmp .ge 26, 3) := by decide +kernel
theorem dX5_mixField_41 : decode cX5_mixField 41 = .ok (.lload 4, 2) := by decide +kernel
theorem dX5_mixField_43 : decode cX5_mixField 43 = .ok (.aload_n 0, 1) := by decide +kernel
theorem dX5_mixField_44 : decode cX5_mixField 44 = .ok (.getfield 21, 3) := by decide +kernel
theorem dX5_mixField_47 : decode cX5_mixField 47 = .ok (.iload 6, 2) := by decide +kernel
theorem dX5_mixField_49 : decode cX5_mixField 49 = .ok (.iload_n 3, 1) := by decide +kernel
theorem dX5_mixField_50 : decode cX5_mixField 50 = .ok (.invokevirtual 143, 3) := by decide +kernel
theorem dX5_mixField_53 : decode cX5_mixField 53 = .ok (.invokestatic 263, 3) := by decide +kernel
theorem dX5_mixField_56 : decode cX5_mixField 56 = .ok (.lstore 4, 2) := by decide +kernel
theorem dX5_mixField_58 : decode cX5_mixField 58 = .ok (.iinc 6 1, 3) := by decide +kernel
theorem dX5_mixField_61 : decode cX5_mixField 61 = .ok (.goto (-26), 3) := by decide +kernel
theorem dX5_mixField_64 : decode cX5_mixField 64 = .ok (.lload 4, 2) := by decide +kernel
theorem dX5_mixField_66 : decode cX5_mixField 66 = .ok (.lreturn, 1) := by decide +kernel
theorem dX5_mix_0 : decode cX5_mix 0 = .ok (.lload_n 0, 1) := by decide +kernel
theorem dX5_mix_1 : decode cX5_mix 1 = .ok (.ldc2_w 301, 3) := by decide +kernel
theorem dX5_mix_4 : decode cX5_mix 4 = .ok (.lmul, 1) := by decide +kernel
theorem dX5_mix_5 : decode cX5_mix 5 = .ok (.iload_n 2, 1) := by decide +kernel
theorem dX5_mix_6 : decode cX5_mix 6 = .ok (.i2l, 1) := by decide +kernel
theorem dX5_mix_7 : decode cX5_mix 7 = .ok (.ladd, 1) := by decide +kernel
theorem dX5_mix_8 : decode cX5_mix 8 = .ok (.lreturn, 1) := by decide +kernel
theorem dX5_isGoal_0 : decode cX5_isGoal 0 = .ok (.iload_n 0, 1) := by decide +kernel
theorem dX5_isGoal_1 : decode cX5_isGoal 1 = .ok (.ifCond .lt 12, 3) := by decide +kernel
theorem dX5_isGoal_4 : decode cX5_isGoal 4 = .ok (.iload_n 0, 1) := by decide +kernel
theorem dX5_isGoal_5 : decode cX5_isGoal 5 = .ok (.iconst 4, 1) := by decide +kernel
theorem dX5_isGoal_6 : decode cX5_isGoal 6 = .ok (.if_icmp .ge 7, 3) := by decide +kernel
theorem dX5_isGoal_9 : decode cX5_isGoal 9 = .ok (.iconst 1, 1) := by decide +kernel
theorem dX5_isGoal_10 : decode cX5_isGoal 10 = .ok (.goto 4, 3) := by decide +kernel
theorem dX5_isGoal_13 : decode cX5_isGoal 13 = .ok (.iconst 0, 1) := by decide +kernel
theorem dX5_isGoal_14 : decode cX5_isGoal 14 = .ok (.ireturn, 1) := by decide +kernel
theorem dX5_isMood_0 : decode cX5_isMood 0 = .ok (.iload_n 0, 1) := by decide +kernel
theorem dX5_isMood_1 : decode cX5_isMood 1 = .ok (.ifCond .lt 13, 3) := by decide +kernel
theorem dX5_isMood_4 : decode cX5_isMood 4 = .ok (.iload_n 0, 1) := by decide +kernel
theorem dX5_isMood_5 : decode cX5_isMood 5 = .ok (.bipush 9, 2) := by decide +kernel
theorem dX5_isMood_7 : decode cX5_isMood 7 = .ok (.if_icmp .gt 7, 3) := by decide +kernel
theorem dX5_isMood_10 : decode cX5_isMood 10 = .ok (.iconst 1, 1) := by decide +kernel
theorem dX5_isMood_11 : decode cX5_isMood 11 = .ok (.goto 4, 3) := by decide +kernel
theorem dX5_isMood_14 : decode cX5_isMood 14 = .ok (.iconst 0, 1) := by decide +kernel
theorem dX5_isMood_15 : decode cX5_isMood 15 = .ok (.ireturn, 1) := by decide +kernel
theorem dX5_isAhead_0 : decode cX5_isAhead 0 = .ok (.iload_n 0, 1) := by decide +kernel
theorem dX5_isAhead_1 : decode cX5_isAhead 1 = .ok (.iconst 1, 1) := by decide +kernel
theorem dX5_isAhead_2 : decode cX5_isAhead 2 = .ok (.if_icmp .lt 13, 3) := by decide +kernel
theorem dX5_isAhead_5 : decode cX5_isAhead 5 = .ok (.iload_n 0, 1) := by decide +kernel
theorem dX5_isAhead_6 : decode cX5_isAhead 6 = .ok (.bipush 60, 2) := by decide +kernel
theorem dX5_isAhead_8 : decode cX5_isAhead 8 = .ok (.if_icmp .gt 7, 3) := by decide +kernel
theorem dX5_isAhead_11 : decode cX5_isAhead 11 = .ok (.iconst 1, 1) := by decide +kernel
theorem dX5_isAhead_12 : decode cX5_isAhead 12 = .ok (.goto 4, 3) := by decide +kernel
theorem dX5_isAhead_15 : decode cX5_isAhead 15 = .ok (.iconst 0, 1) := by decide +kernel
theorem dX5_isAhead_16 : decode cX5_isAhead 16 = .ok (.ireturn, 1) := by decide +kernel
