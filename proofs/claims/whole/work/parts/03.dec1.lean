theorem dX1_takeNumber_0 : decode cX1_takeNumber 0 = .ok (.aload_n 0, 1) := by decide +kernel
theorem dX1_takeNumber_1 : decode cX1_takeNumber 1 = .ok (.iconst 0, 1) := by decide +kernel
theorem dX1_takeNumber_2 : decode cX1_takeNumber 2 = .ok (.putfield 34, 3) := by decide +kernel
theorem dX1_takeNumber_5 : decode cX1_takeNumber 5 = .ok (.iconst 0, 1) := by decide +kernel
theorem dX1_takeNumber_6 : decode cX1_takeNumber 6 = .ok (.istore_n 1, 1) := by decide +kernel
theorem dX1_takeNumber_7 : decode cX1_takeNumber 7 = .ok (.iload_n 1, 1) := by decide +kernel
theorem dX1_takeNumber_8 : decode cX1_takeNumber 8 = .ok (.iconst 4, 1) := by decide +kernel
theorem dX1_takeNumber_9 : decode cX1_takeNumber 9 = .ok (.if_icmp .ge 56, 3) := by decide +kernel
theorem dX1_takeNumber_12 : decode cX1_takeNumber 12 = .ok (.aload_n 0, 1) := by decide +kernel
theorem dX1_takeNumber_13 : decode cX1_takeNumber 13 = .ok (.invokevirtual 49, 3) := by decide +kernel
theorem dX1_takeNumber_16 : decode cX1_takeNumber 16 = .ok (.bipush 48, 2) := by decide +kernel
theorem dX1_takeNumber_18 : decode cX1_takeNumber 18 = .ok (.if_icmp .lt 47, 3) := by decide +kernel
theorem dX1_takeNumber_21 : decode cX1_takeNumber 21 = .ok (.aload_n 0, 1) := by decide +kernel
theorem dX1_takeNumber_22 : decode cX1_takeNumber 22 = .ok (.invokevirtual 49, 3) := by decide +kernel
theorem dX1_takeNumber_25 : decode cX1_takeNumber 25 = .ok (.bipush 57, 2) := by decide +kernel
theorem dX1_takeNumber_27 : decode cX1_takeNumber 27 = .ok (.if_icmp .gt 38, 3) := by decide +kernel
theorem dX1_takeNumber_30 : decode cX1_takeNumber 30 = .ok (.aload_n 0, 1) := by decide +kernel
theorem dX1_takeNumber_31 : decode cX1_takeNumber 31 = .ok (.aload_n 0, 1) := by decide +kernel
theorem dX1_takeNumber_32 : decode cX1_takeNumber 32 = .ok (.getfield 34, 3) := by decide +kernel
theorem dX1_takeNumber_35 : decode cX1_takeNumber 35 = .ok (.bipush 10, 2) := by decide +kernel
theorem dX1_takeNumber_37 : decode cX1_takeNumber 37 = .ok (.imul, 1) := by decide +kernel
theorem dX1_takeNumber_38 : decode cX1_takeNumber 38 = .ok (.aload_n 0, 1) := by decide +kernel
theorem dX1_takeNumber_39 : decode cX1_takeNumber 39 = .ok (.invokevirtual 49, 3) := by decide +kernel
theorem dX1_takeNumber_42 : decode cX1_takeNumber 42 = .ok (.bipush 48, 2) := by decide +kernel
theorem dX1_takeNumber_44 : decode cX1_takeNumber 44 = .ok (.isub, 1) := by decide +kernel
theorem dX1_takeNumber_45 : decode cX1_takeNumber 45 = .ok (.iadd, 1) := by decide +kernel
theorem dX1_takeNumber_46 : decode cX1_takeNumber 46 = .ok (.putfield 34, 3) := by decide +kernel
theorem dX1_takeNumber_49 : decode cX1_takeNumber 49 = .ok (.aload_n 0, 1) := by decide +kernel
theorem dX1_takeNumber_50 : decode cX1_takeNumber 50 = .ok (.dup, 1) := by decide +kernel
theorem dX1_takeNumber_51 : decode cX1_takeNumber 51 = .ok (.getfield 31, 3) := by decide +kernel
theorem dX1_takeNumber_54 : decode cX1_takeNumber 54 = .ok (.iconst 1, 1) := by decide +kernel
theorem dX1_takeNumber_55 : decode cX1_takeNumber 55 = .ok (.iadd, 1) := by decide +kernel
theorem dX1_takeNumber_56 : decode cX1_takeNumber 56 = .ok (.putfield 31, 3) := by decide +kernel
theorem dX1_takeNumber_59 : decode cX1_takeNumber 59 = .ok (.iinc 1 1, 3) := by decide +kernel
theorem dX1_takeNumber_62 : decode cX1_takeNumber 62 = .ok (.goto (-55), 3) := by decide +kernel
theorem dX1_takeNumber_65 : decode cX1_takeNumber 65 = .ok (.iload_n 1, 1) := by decide +kernel
theorem dX1_takeNumber_66 : decode cX1_takeNumber 66 = .ok (.ifCond .le 7, 3) := by decide +kernel
theorem dX1_takeNumber_69 : decode cX1_takeNumber 69 = .ok (.iconst 1, 1) := by decide +kernel
theorem dX1_takeNumber_70 : decode cX1_takeNumber 70 = .ok (.goto 4, 3) := by decide +kernel
theorem dX1_takeNumber_73 : decode cX1_takeNumber 73 = .ok (.iconst 0, 1) := by decide +kernel
theorem dX1_takeNumber_74 : decode cX1_takeNumber 74 = .ok (.ireturn, 1) := by decide +kernel
theorem dX1_skipBlanks_0 : decode cX1_skipBlanks 0 = .ok (.aload_n 0, 1) := by decide +kernel
theorem dX1_skipBlanks_1 : decode cX1_skipBlanks 1 = .ok (.getfield 31, 3) := by decide +kernel
theorem dX1_skipBlanks_4 : decode cX1_skipBlanks 4 = .ok (.aload_n 0, 1) := by decide +kernel
theorem dX1_skipBlanks_5 : decode cX1_skipBlanks 5 = .ok (.getfield 15, 3) := by decide +kernel
theorem dX1_skipBlanks_8 : decode cX1_skipBlanks 8 = .ok (.if_icmp .ge 30, 3) := by decide +kernel
theorem dX1_skipBlanks_11 : decode cX1_skipBlanks 11 = .ok (.aload_n 0, 1) := by decide +kernel
theorem dX1_skipBlanks_12 : decode cX1_skipBlanks 12 = .ok (.getfield 11, 3) := by decide +kernel
theorem dX1_skipBlanks_15 : decode cX1_skipBlanks 15 = .ok (.aload_n 0, 1) := by decide +kernel
theorem dX1_skipBlanks_16 : decode cX1_skipBlanks 16 = .ok (.getfield 31, 3) := by decide +kernel
theorem dX1_skipBlanks_19 : decode cX1_skipBlanks 19 = .ok (.baload, 1) := by decide +kernel
theorem dX1_skipBlanks_20 : decode cX1_skipBlanks 20 = .ok (.bipush 32, 2) := by decide +kernel
theorem dX1_skipBlanks_22 : decode cX1_skipBlanks 22 = .ok (.if_icmp .ne 16, 3) := by decide +kernel
theorem dX1_skipBlanks_25 : decode cX1_skipBlanks 25 = .ok (.aload_n 0, 1) := by decide +kernel
theorem dX1_skipBlanks_26 : decode cX1_skipBlanks 26 = .ok (.dup, 1) := by decide +kernel
theorem dX1_skipBlanks_27 : decode cX1_skipBlanks 27 = .ok (.getfield 31, 3) := by decide +kernel
theorem dX1_skipBlanks_30 : decode cX1_skipBlanks 30 = .ok (.iconst 1, 1) := by decide +kernel
theorem dX1_skipBlanks_31 : decode cX1_skipBlanks 31 = .ok (.iadd, 1) := by decide +kernel
theorem dX1_skipBlanks_32 : decode cX1_skipBlanks 32 = .ok (.putfield 31, 3) := by decide +kernel
theorem dX1_skipBlanks_35 : decode cX1_skipBlanks 35 = .ok (.goto (-35), 3) := by decide +kernel
theorem dX1_skipBlanks_38 : decode cX1_skipBlanks 38 = .ok (.return_, 1) := by decide +kernel
theorem dX1_byteHere_0 : decode cX1_byteHere 0 = .ok (.aload_n 0, 1) := by decide +kernel
theorem dX1_byteHere_1 : decode cX1_byteHere 1 = .ok (.getfield 31, 3) := by decide +kernel
theorem dX1_byteHere_4 : decode cX1_byteHere 4 = .ok (.aload_n 0, 1) := by decide +kernel
theorem dX1_byteHere_5 : decode cX1_byteHere 5 = .ok (.getfield 15, 3) := by decide +kernel
theorem dX1_byteHere_8 : decode cX1_byteHere 8 = .ok (.if_icmp .ge 15, 3) := by decide +kernel
theorem dX1_byteHere_11 : decode cX1_byteHere 11 = .ok (.aload_n 0, 1) := by decide +kernel
theorem dX1_byteHere_12 : decode cX1_byteHere 12 = .ok (.getfield 11, 3) := by decide +kernel
theorem dX1_byteHere_15 : decode cX1_byteHere 15 = .ok (.aload_n 0, 1) := by decide +kernel
theorem dX1_byteHere_16 : decode cX1_byteHere 16 = .ok (.getfield 31, 3) := by decide +kernel
theorem dX1_byteHere_19 : decode cX1_byteHere 19 = .ok (.baload, 1) := by decide +kernel
theorem dX1_byteHere_20 : decode cX1_byteHere 20 = .ok (.goto 4, 3) := by decide +kernel
theorem dX1_byteHere_23 : decode cX1_byteHere 23 = .ok (.iconst (-1), 1) := by decide +kernel
theorem dX1_byteHere_24 : decode cX1_byteHere 24 = .ok (.ireturn, 1) := by decide +kernel
theorem dX2_init_0 : decode cX2_init 0 = .ok (.aload_n 0, 1) := by decide +kernel
theorem dX2_init_1 : decode cX2_init 1 = .ok (.invokespecial 1, 3) := by decide +kernel
theorem dX2_init_4 : decode cX2_init 4 = .ok (.aload_n 0, 1) := by decide +kernel
theorem dX2_init_5 : decode cX2_init 5 = .ok (.new 7, 3) := by decide +kernel
theorem dX2_init_8 : decode cX2_init 8 = .ok (.dup, 1) := by decide +kernel
theorem dX2_init_9 : decode cX2_init 9 = .ok (.invokespecial 9, 3) := by decide +kernel
theorem dX2_init_12 : decode cX2_init 12 = .ok (.putfield 10, 3) := by decide +kernel
theorem dX2_init_15 : decode cX2_init 15 = .ok (.aload_n 0, 1) := by decide +kernel
theorem dX2_init_16 : decode cX2_init 16 = .ok (.new 7, 3) := by decide +kernel
theorem dX2_init_19 : decode cX2_init 19 = .ok (.dup, 1) := by decide +kernel
theorem dX2_init_20 : decode cX2_init 20 = .ok (.invokespecial 9, 3) := by decide +kernel
theorem dX2_init_23 : decode cX2_init 23 = .ok (.putfield 16, 3) := by decide +kernel
theorem dX2_init_26 : decode cX2_init 26 = .ok (.aload_n 0, 1) := by decide +kernel
theorem dX2_init_27 : decode cX2_init 27 = .ok (.iconst 4, 1) := by decide +kernel
theorem dX2_init_28 : decode cX2_init 28 = .ok (.anewarray 7, 3) := by decide +kernel
theorem dX2_init_31 : decode cX2_init 31 = .ok (.putfield 19, 3) := by decide +kernel
theorem dX2_init_34 : decode cX2_init 34 = .ok (.aload_n 0, 1) := by decide +kernel
theorem dX2_init_35 : decode cX2_init 35 = .ok (.iconst 0, 1) := by decide +kernel
theorem dX2_init_36 : decode cX2_init 36 = .ok (.putfield 23, 3) := by decide +kernel
theorem dX2_init_39 : decode cX2_init 39 = .ok (.aload_n 0, 1) := by decide +kernel
theorem dX2_init_40 : decode cX2_init 40 = .ok (.iconst 0, 1) := by decide +kernel
theorem dX2_init_41 : decode cX2_init 41 = .ok (.putfield 27, 3) := by decide +kernel
theorem dX2_init_44 : decode cX2_init 44 = .ok (.aload_n 0, 1) := by decide +kernel
theorem dX2_init_45 : decode cX2_init 45 = .ok (.iconst 3, 1) := by decide +kernel
theorem dX2_init_46 : decode cX2_init 46 = .ok (.newarray .int, 2) := by decide +kernel
theorem dX2_init_48 : decode cX2_init 48 = .ok (.putfield 30, 3) := by decide +kernel
theorem dX2_init_51 : decode cX2_init 51 = .ok (.aload_n 0, 1) := by decide +kernel
theorem dX2_init_52 : decode cX2_init 52 = .ok (.new 34, 3) := by decide +kernel
theorem dX2_init_55 : decode cX2_init 55 = .ok (.dup, 1) := by decide +kernel
theorem dX2_init_56 : decode cX2_init 56 = .ok (.invokespecial 36, 3) := by decide +kernel
theorem dX2_init_59 : decode cX2_init 59 = .ok (.putfield 37, 3) := by decide +kernel
theorem dX2_init_62 : decode cX2_init 62 = .ok (.iconst 0, 1) := by decide +kernel
theorem dX2_init_63 : decode cX2_init 63 = .ok (.istore_n 1, 1) := by decide +kernel
theorem dX2_init_64 : decode cX2_init 64 = .ok (.iload_n 1, 1) := by decide +kernel
theorem dX2_init_65 : decode cX2_init 65 = .ok (.iconst 4, 1) := by decide +kernel
theorem dX2_init_66 : decode cX2_init 66 = .ok (.if_icmp .ge 22, 3) := by decide +kernel
theorem dX2_init_69 : decode cX2_init 69 = .ok (.aload_n 0, 1) := by decide +kernel
theorem dX2_init_70 : decode cX2_init 70 = .ok (.getfield 19, 3) := by decide +kernel
theorem dX2_init_73 : decode cX2_init 73 = .ok (.iload_n 1, 1) := by decide +kernel
theorem dX2_init_74 : decode cX2_init 74 = .ok (.new 7, 3) := by decide +kernel
theorem dX2_init_77 : decode cX2_init 77 = .ok (.dup, 1) := by decide +kernel
theorem dX2_init_78 : decode cX2_init 78 = .ok (.invokespecial 9, 3) := by decide +kernel
theorem dX2_init_81 : decode cX2_init 81 = .ok (.aastore, 1) := by decide +kernel
theorem dX2_init_82 : decode cX2_init 82 = .ok (.iinc 1 1, 3) := by decide +kernel
theorem dX2_init_85 : decode cX2_init 85 = .ok (.goto (-21), 3) := by decide +kernel
theorem dX2_init_88 : decode cX2_init 88 = .ok (.return_, 1) := by decide +kernel
theorem dX2_pipe_0 : decode cX2_pipe 0 = .ok (.aload_n 0, 1) := by decide +kernel
theorem dX2_pipe_1 : decode cX2_pipe 1 = .ok (.iconst 0, 1) := by decide +kernel
theorem dX2_pipe_2 : decode cX2_pipe 2 = .ok (.iload_n 1, 1) := by decide +kernel
theorem dX2_pipe_3 : decode cX2_pipe 3 = .ok (.invokevirtual 41, 3) := by decide +kernel
theorem dX2_pipe_6 : decode cX2_pipe 6 = .ok (.ireturn, 1) := by decide +kernel
theorem dX2_sets_0 : decode cX2_sets 0 = .ok (.iload_n 1, 1) := by decide +kernel
theorem dX2_sets_1 : decode cX2_sets 1 = .ok (.ifCond .lt 8, 3) := by decide +kernel
theorem dX2_sets_4 : decode cX2_sets 4 = .ok (.iload_n 1, 1) := by decide +kernel
theorem dX2_sets_5 : decode cX2_sets 5 = .ok (.iconst 2, 1) := by decide +kernel
theorem dX2_sets_6 : decode cX2_sets 6 = .ok (.if_icmp .le 10, 3) := by decide +kernel
theorem dX2_sets_9 : decode cX2_sets 9 = .ok (.aload_n 0, 1) := by decide +kernel
theorem dX2_sets_10 : decode cX2_sets 10 = .ok (.bipush (-2), 2) := by decide +kernel
theorem dX2_sets_12 : decode cX2_sets 12 = .ok (.invokevirtual 45, 3) := by decide +kernel
theorem dX2_sets_15 : decode cX2_sets 15 = .ok (.ireturn, 1) := by decide +kernel
theorem dX2_sets_16 : decode cX2_sets 16 = .ok (.aload_n 0, 1) := by decide +kernel
theorem dX2_sets_17 : decode cX2_sets 17 = .ok (.iconst 1, 1) := by decide +kernel
theorem dX2_sets_18 : decode cX2_sets 18 = .ok (.iload_n 1, 1) := by decide +kernel
theorem dX2_sets_19 : decode cX2_sets 19 = .ok (.iadd, 1) := by decide +kernel
theorem dX2_sets_20 : decode cX2_sets 20 = .ok (.iload_n 2, 1) := by decide +kernel
theorem dX2_sets_21 : decode cX2_sets 21 = .ok (.invokevirtual 41, 3) := by decide +kernel
theorem dX2_sets_24 : decode cX2_sets 24 = .ok (.ireturn, 1) := by decide +kernel
theorem dX2_ends_0 : decode cX2_ends 0 = .ok (.iload_n 1, 1) := by decide +kernel
theorem dX2_ends_1 : decode cX2_ends 1 = .ok (.ifCond .lt 8, 3) := by decide +kernel
theorem dX2_ends_4 : decode cX2_ends 4 = .ok (.iload_n 1, 1) := by decide +kernel
theorem dX2_ends_5 : decode cX2_ends 5 = .ok (.iconst 1, 1) := by decide +kernel
theorem dX2_ends_6 : decode cX2_ends 6 = .ok (.if_icmp .le 10, 3) := by decide +kernel
theorem dX2_ends_9 : decode cX2_ends 9 = .ok (.aload_n 0, 1) := by decide +kernel
theorem dX2_ends_10 : decode cX2_ends 10 = .ok (.bipush (-2), 2) := by decide +kernel
theorem dX2_ends_12 : decode cX2_ends 12 = .ok (.invokevirtual 45, 3) := by decide +kernel
theorem dX2_ends_15 : decode cX2_ends 15 = .ok (.ireturn, 1) := by decide +kernel
theorem dX2_ends_16 : decode cX2_ends 16 = .ok (.aload_n 0, 1) := by decide +kernel
theorem dX2_ends_17 : decode cX2_ends 17 = .ok (.iconst 4, 1) := by decide +kernel
theorem dX2_ends_18 : decode cX2_ends 18 = .ok (.iload_n 1, 1) := by decide +kernel
theorem dX2_ends_19 : decode cX2_ends 19 = .ok (.iadd, 1) := by decide +kernel
theorem dX2_ends_20 : decode cX2_ends 20 = .ok (.iload_n 2, 1) := by decide +kernel
theorem dX2_ends_21 : decode cX2_ends 21 = .ok (.invokevirtual 41, 3) := by decide +kernel
theorem dX2_ends_24 : decode cX2_ends 24 = .ok (.ireturn, 1) := by decide +kernel
theorem dX2_law_0 : decode cX2_law 0 = .ok (.iload_n 1, 1) := by decide +kernel
theorem dX2_law_1 : decode cX2_law 1 = .ok (.iload_n 2, 1) := by decide +kernel
theorem dX2_law_2 : decode cX2_law 2 = .ok (.invokestatic 49, 3) := by decide +kernel
theorem dX2_law_5 : decode cX2_law 5 = .ok (.ifCond .ne 10, 3) := by decide +kernel
theorem dX2_law_8 : decode cX2_law 8 = .ok (.aload_n 0, 1) := by decide +kernel
theorem dX2_law_9 : decode cX2_law 9 = .ok (.bipush (-2), 2) := by decide +kernel
theorem dX2_law_11 : decode cX2_law 11 = .ok (.invokevirtual 45, 3) := by decide +kernel
theorem dX2_law_14 : decode cX2_law 14 = .ok (.ireturn, 1) := by decide +kernel
theorem dX2_law_15 : decode cX2_law 15 = .ok (.aload_n 0, 1) := by decide +kernel
theorem dX2_law_16 : decode cX2_law 16 = .ok (.aload_n 0, 1) := by decide +kernel
theorem dX2_law_17 : decode cX2_law 17 = .ok (.getfield 10, 3) := by decide +kernel
theorem dX2_law_20 : decode cX2_law 20 = .ok (.invokevirtual 53, 3) := by decide +kernel
theorem dX2_law_23 : decode cX2_law 23 = .ok (.aload_n 0, 1) := by decide +kernel
theorem dX2_law_24 : decode cX2_law 24 = .ok (.getfield 10, 3) := by decide +kernel
theorem dX2_law_27 : decode cX2_law 27 = .ok (.getfield 57, 3) := by decide +kernel
theorem dX2_law_30 : decode cX2_law 30 = .ok (.bipush 6, 2) := by decide +kernel
theorem dX2_law_32 : decode cX2_law 32 = .ok (.iaload, 1) := by decide +kernel
theorem dX2_law_33 : decode cX2_law 33 = .ok (.istore_n 3, 1) := by decide +kernel
theorem dX2_law_34 : decode cX2_law 34 = .ok (.aload_n 0, 1) := by decide +kernel
theorem dX2_law_35 : decode cX2_law 35 = .ok (.getfield 10, 3) := by decide +kernel
theorem dX2_law_38 : decode cX2_law 38 = .ok (.iload_n 1, 1) := by decide +kernel
theorem dX2_law_39 : decode cX2_law 39 = .ok (.iload_n 2, 1) := by decide +kernel
theorem dX2_law_40 : decode cX2_law 40 = .ok (.invokevirtual 60, 3) := by decide +kernel
theorem dX2_law_43 : decode cX2_law 43 = .ok (.iload_n 3, 1) := by decide +kernel
theorem dX2_law_44 : decode cX2_law 44 = .ok (.ireturn, 1) := by decide +kernel
theorem dX2_steady_0 : decode cX2_steady 0 = .ok (.aload_n 0, 1) := by decide +kernel
theorem dX2_steady_1 : decode cX2_steady 1 = .ok (.aload_n 0, 1) := by decide +kernel
theorem dX2_steady_2 : decode cX2_steady 2 = .ok (.getfield 10, 3) := by decide +kernel
theorem dX2_steady_5 : decode cX2_steady 5 = .ok (.invokevirtual 53, 3) := by decide +kernel
theorem dX2_steady_8 : decode cX2_steady 8 = .ok (.aload_n 0, 1) := by decide +kernel
theorem dX2_steady_9 : decode cX2_steady 9 = .ok (.getfield 10, 3) := by decide +kernel
theorem dX2_steady_12 : decode cX2_steady 12 = .ok (.getfield 57, 3) := by decide +kernel
theorem dX2_steady_15 : decode cX2_steady 15 = .ok (.bipush 8, 2) := by decide +kernel
theorem dX2_steady_17 : decode cX2_steady 17 = .ok (.iaload, 1) := by decide +kernel
theorem dX2_steady_18 : decode cX2_steady 18 = .ok (.istore_n 1, 1) := by decide +kernel
theorem dX2_steady_19 : decode cX2_steady 19 = .ok (.aload_n 0, 1) := by decide +kernel
theorem dX2_steady_20 : decode cX2_steady 20 = .ok (.getfield 10, 3) := by decide +kernel
theorem dX2_steady_23 : decode cX2_steady 23 = .ok (.invokevirtual 64, 3) := by decide +kernel
theorem dX2_steady_26 : decode cX2_steady 26 = .ok (.iload_n 1, 1) := by decide +kernel
theorem dX2_steady_27 : decode cX2_steady 27 = .ok (.ireturn, 1) := by decide +kernel
theorem dX2_steps_0 : decode cX2_steps 0 = .ok (.iload_n 1, 1) := by decide +kernel
theorem dX2_steps_1 : decode cX2_steps 1 = .ok (.invokestatic 67, 3) := by decide +kernel
theorem dX2_steps_4 : decode cX2_steps 4 = .ok (.ifCond .ne 10, 3) := by decide +kernel
theorem dX2_steps_7 : decode cX2_steps 7 = .ok (.aload_n 0, 1) := by decide +kernel
theorem dX2_steps_8 : decode cX2_steps 8 = .ok (.bipush (-2), 2) := by decide +kernel
theorem dX2_steps_10 : decode cX2_steps 10 = .ok (.invokevirtual 45, 3) := by decide +kernel
theorem dX2_steps_13 : decode cX2_steps 13 = .ok (.ireturn, 1) := by decide +kernel
theorem dX2_steps_14 : decode cX2_steps 14 = .ok (.aload_n 0, 1) := by decide +kernel
theorem dX2_steps_15 : decode cX2_steps 15 = .ok (.iload_n 1, 1) := by decide +kernel
theorem dX2_steps_16 : decode cX2_steps 16 = .ok (.invokevirtual 71, 3) := by decide +kernel
theorem dX2_steps_19 : decode cX2_steps 19 = .ok (.ifCond .ne 10, 3) := by decide +kernel
theorem dX2_steps_22 : decode cX2_steps 22 = .ok (.aload_n 0, 1) := by decide +kernel
theorem dX2_steps_23 : decode cX2_steps 23 = .ok (.bipush (-4), 2) := by decide +kernel
theorem dX2_steps_25 : decode cX2_steps 25 = .ok (.invokevirtual 45, 3) := by decide +kernel
theorem dX2_steps_28 : decode cX2_steps 28 = .ok (.ireturn, 1) := by decide +kernel
theorem dX2_steps_29 : decode cX2_steps 29 = .ok (.aload_n 0, 1) := by decide +kernel
theorem dX2_steps_30 : decode cX2_steps 30 = .ok (.aload_n 0, 1) := by decide +kernel
theorem dX2_steps_31 : decode cX2_steps 31 = .ok (.getfield 10, 3) := by decide +kernel
theorem dX2_steps_34 : decode cX2_steps 34 = .ok (.invokevirtual 53, 3) := by decide +kernel
theorem dX2_steps_37 : decode cX2_steps 37 = .ok (.aload_n 0, 1) := by decide +kernel
theorem dX2_steps_38 : decode cX2_steps 38 = .ok (.getfield 10, 3) := by decide +kernel
theorem dX2_steps_41 : decode cX2_steps 41 = .ok (.iload_n 1, 1) := by decide +kernel
theorem dX2_steps_42 : decode cX2_steps 42 = .ok (.invokevirtual 74, 3) := by decide +kernel
theorem dX2_steps_45 : decode cX2_steps 45 = .ok (.aload_n 0, 1) := by decide +kernel
theorem dX2_steps_46 : decode cX2_steps 46 = .ok (.getfield 10, 3) := by decide +kernel
theorem dX2_steps_49 : decode cX2_steps 49 = .ok (.getfield 57, 3) := by decide +kernel
theorem dX2_steps_52 : decode cX2_steps 52 = .ok (.bipush 8, 2) := by decide +kernel
theorem dX2_steps_54 : decode cX2_steps 54 = .ok (.iaload, 1) := by decide +kernel
theorem dX2_steps_55 : decode cX2_steps 55 = .ok (.ireturn, 1) := by decide +kernel
theorem dX2_node_0 : decode cX2_node 0 = .ok (.aload_n 0, 1) := by decide +kernel
theorem dX2_node_1 : decode cX2_node 1 = .ok (.getfield 10, 3) := by decide +kernel
theorem dX2_node_4 : decode cX2_node 4 = .ok (.iload_n 1, 1) := by decide +kernel
theorem dX2_node_5 : decode cX2_node 5 = .ok (.invokevirtual 78, 3) := by decide +kernel
theorem dX2_node_8 : decode cX2_node 8 = .ok (.ifCond .eq 12, 3) := by decide +kernel
theorem dX2_node_11 : decode cX2_node 11 = .ok (.iload_n 2, 1) := by decide +kernel
theorem dX2_node_12 : decode cX2_node 12 = .ok (.ifCond .lt 8, 3) := by decide +kernel
theorem dX2_node_15 : decode cX2_node 15 = .ok (.iload_n 2, 1) := by decide +kernel
theorem dX2_node_16 : decode cX2_node 16 = .ok (.iconst 5, 1) := by decide +kernel
theorem dX2_node_17 : decode cX2_node 17 = .ok (.if_icmp .le 8, 3) := by decide +kernel
theorem dX2_node_20 : decode cX2_node 20 = .ok (.aload_n 0, 1) := by decide +kernel
theorem dX2_node_21 : decode cX2_node 21 = .ok (.invokevirtual 81, 3) := by decide +kernel
theorem dX2_node_24 : decode cX2_node 24 = .ok (.lreturn, 1) := by decide +kernel
theorem dX2_node_25 : decode cX2_node 25 = .ok (.iload_n 2, 1) := by decide +kernel
theorem dX2_node_26 : decode cX2_node 26 = .ok (.tableswitch 108 0 4 #[34, 46, 69, 82, 95], 34) := by decide +kernel
theorem dX2_node_60 : decode cX2_node 60 = .ok (.aload_n 0, 1) := by decide +kernel
theorem dX2_node_61 : decode cX2_node 61 = .ok (.getfield 10, 3) := by decide +kernel
theorem dX2_node_64 : decode cX2_node 64 = .ok (.iload_n 1, 1) := by decide +kernel
theorem dX2_node_65 : decode cX2_node 65 = .ok (.invokevirtual 85, 3) := by decide +kernel
theorem dX2_node_68 : decode cX2_node 68 = .ok (.invokestatic 89, 3) := by decide +kernel
theorem dX2_node_71 : decode cX2_node 71 = .ok (.lreturn, 1) := by decide +kernel
theorem dX2_node_72 : decode cX2_node 72 = .ok (.aload_n 0, 1) := by decide +kernel
theorem dX2_node_73 : decode cX2_node 73 = .ok (.getfield 10, 3) := by decide +kernel
theorem dX2_node_76 : decode cX2_node 76 = .ok (.getfield 93, 3) := by decide +kernel
theorem dX2_node_79 : decode cX2_node 79 = .ok (.iload_n 1, 1) := by decide +kernel
theorem dX2_node_80 : decode cX2_node 80 = .ok (.daload, 1) := by decide +kernel
theorem dX2_node_81 : decode cX2_node 81 = .ok (.aload_n 0, 1) := by decide +kernel
theorem dX2_node_82 : decode cX2_node 82 = .ok (.getfield 10, 3) := by decide +kernel
theorem dX2_node_85 : decode cX2_node 85 = .ok (.getfield 97, 3) := by decide +kernel
theorem dX2_node_88 : decode cX2_node 88 = .ok (.iload_n 1, 1) := by decide +kernel
theorem dX2_node_89 : decode cX2_node 89 = .ok (.daload, 1) := by decide +kernel
theorem dX2_node_90 : decode cX2_node 90 = .ok (.dsub, 1) := by decide +kernel
theorem dX2_node_91 : decode cX2_node 91 = .ok (.invokestatic 89, 3) := by decide +kernel
theorem dX2_node_94 : decode cX2_node 94 = .ok (.lreturn, 1) := by decide +kernel
theorem dX2_node_95 : decode cX2_node 95 = .ok (.aload_n 0, 1) := by decide +kernel
theorem dX2_node_96 : decode cX2_node 96 = .ok (.getfield 10, 3) := by decide +kernel
theorem dX2_node_99 : decode cX2_node 99 = .ok (.getfield 93, 3) := by decide +kernel
theorem dX2_node_102 : decode cX2_node 102 = .ok (.iload_n 1, 1) := by decide +kernel
theorem dX2_node_103 : decode cX2_node 103 = .ok (.daload, 1) := by decide +kernel
theorem dX2_node_104 : decode cX2_node 104 = .ok (.invokestatic 89, 3) := by decide +kernel
theorem dX2_node_107 : decode cX2_node 107 = .ok (.lreturn, 1) := by decide +kernel
theorem dX2_node_108 : decode cX2_node 108 = .ok (.aload_n 0, 1) := by decide +kernel
theorem dX2_node_109 : decode cX2_node 109 = .ok (.getfield 10, 3) := by decide +kernel
theorem dX2_node_112 : decode cX2_node 112 = .ok (.getfield 97, 3) := by decide +kernel
theorem dX2_node_115 : decode cX2_node 115 = .ok (.iload_n 1, 1) := by decide +kernel
theorem dX2_node_116 : decode cX2_node 116 = .ok (.daload, 1) := by decide +kernel
theorem dX2_node_117 : decode cX2_node 117 = .ok (.invokestatic 89, 3) := by decide +kernel
theorem dX2_node_120 : decode cX2_node 120 = .ok (.lreturn, 1) := by decide +kernel
theorem dX2_node_121 : decode cX2_node 121 = .ok (.aload_n 0, 1) := by decide +kernel
theorem dX2_node_122 : decode cX2_node 122 = .ok (.getfield 10, 3) := by decide +kernel
theorem dX2_node_125 : decode cX2_node 125 = .ok (.getfield 100, 3) := by decide +kernel
theorem dX2_node_128 : decode cX2_node 128 = .ok (.iload_n 1, 1) := by decide +kernel
theorem dX2_node_129 : decode cX2_node 129 = .ok (.daload, 1) := by decide +kernel
theorem dX2_node_130 : decode cX2_node 130 = .ok (.invokestatic 89, 3) := by decide +kernel
theorem dX2_node_133 : decode cX2_node 133 = .ok (.lreturn, 1) := by decide +kernel
theorem dX2_node_134 : decode cX2_node 134 = .ok (.aload_n 0, 1) := by decide +kernel
theorem dX2_node_135 : decode cX2_node 135 = .ok (.getfield 10, 3) := by decide +kernel
theorem dX2_node_138 : decode cX2_node 138 = .ok (.getfield 103, 3) := by decide +kernel
theorem dX2_node_141 : decode cX2_node 141 = .ok (.iload_n 1, 1) := by decide +kernel
theorem dX2_node_142 : decode cX2_node 142 = .ok (.daload, 1) := by decide +kernel
theorem dX2_node_143 : decode cX2_node 143 = .ok (.invokestatic 89, 3) := by decide +kernel
theorem dX2_node_146 : decode cX2_node 146 = .ok (.lreturn, 1) := by decide +kernel
theorem dX2_all_0 : decode cX2_all 0 = .ok (.iload_n 1, 1) := by decide +kernel
theorem dX2_all_1 : decode cX2_all 1 = .ok (.tableswitch 75 0 3 #[31, 42, 53, 64], 31) := by decide +kernel
theorem dX2_all_32 : decode cX2_all 32 = .ok (.aload_n 0, 1) := by decide +kernel
theorem dX2_all_33 : decode cX2_all 33 = .ok (.getfield 10, 3) := by decide +kernel
theorem dX2_all_36 : decode cX2_all 36 = .ok (.invokevirtual 106, 3) := by decide +kernel
theorem dX2_all_39 : decode cX2_all 39 = .ok (.invokestatic 89, 3) := by decide +kernel
theorem dX2_all_42 : decode cX2_all 42 = .ok (.lreturn, 1) := by decide +kernel
theorem dX2_all_43 : decode cX2_all 43 = .ok (.aload_n 0, 1) := by decide +kernel
theorem dX2_all_44 : decode cX2_all 44 = .ok (.getfield 10, 3) := by decide +kernel
theorem dX2_all_47 : decode cX2_all 47 = .ok (.getfield 110, 3) := by decide +kernel
theorem dX2_all_50 : decode cX2_all 50 = .ok (.invokestatic 89, 3) := by decide +kernel
theorem dX2_all_53 : decode cX2_all 53 = .ok (.lreturn, 1) := by decide +kernel
theorem dX2_all_54 : decode cX2_all 54 = .ok (.aload_n 0, 1) := by decide +kernel
theorem dX2_all_55 : decode cX2_all 55 = .ok (.getfield 10, 3) := by decide +kernel
theorem dX2_all_58 : decode cX2_all 58 = .ok (.getfield 114, 3) := by decide +kernel
theorem dX2_all_61 : decode cX2_all 61 = .ok (.invokestatic 89, 3) := by decide +kernel
theorem dX2_all_64 : decode cX2_all 64 = .ok (.lreturn, 1) := by decide +kernel
theorem dX2_all_65 : decode cX2_all 65 = .ok (.aload_n 0, 1) := by decide +kernel
theorem dX2_all_66 : decode cX2_all 66 = .ok (.getfield 10, 3) := by decide +kernel
theorem dX2_all_69 : decode cX2_all 69 = .ok (.getfield 117, 3) := by decide +kernel
theorem dX2_all_72 : decode cX2_all 72 = .ok (.invokestatic 89, 3) := by decide +kernel
theorem dX2_all_75 : decode cX2_all 75 = .ok (.lreturn, 1) := by decide +kernel
theorem dX2_all_76 : decode cX2_all 76 = .ok (.aload_n 0, 1) := by decide +kernel
theorem dX2_all_77 : decode cX2_all 77 = .ok (.invokevirtual 81, 3) := by decide +kernel
theorem dX2_all_80 : decode cX2_all 80 = .ok (.lreturn, 1) := by decide +kernel
theorem dX2_bits_0 : decode cX2_bits 0 = .ok (.aload_n 0, 1) := by decide +kernel
theorem dX2_bits_1 : decode cX2_bits 1 = .ok (.getfield 10, 3) := by decide +kernel
theorem dX2_bits_4 : decode cX2_bits 4 = .ok (.iload_n 1, 1) := by decide +kernel
theorem dX2_bits_5 : decode cX2_bits 5 = .ok (.invokevirtual 78, 3) := by decide +kernel
theorem dX2_bits_8 : decode cX2_bits 8 = .ok (.ifCond .ne 8, 3) := by decide +kernel
theorem dX2_bits_11 : decode cX2_bits 11 = .ok (.aload_n 0, 1) := by decide +kernel
theorem dX2_bits_12 : decode cX2_bits 12 = .ok (.invokevirtual 81, 3) := by decide +kernel
theorem dX2_bits_15 : decode cX2_bits 15 = .ok (.lreturn, 1) := by decide +kernel
theorem dX2_bits_16 : decode cX2_bits 16 = .ok (.aload_n 0, 1) := by decide +kernel
theorem dX2_bits_17 : decode cX2_bits 17 = .ok (.getfield 10, 3) := by decide +kernel
theorem dX2_bits_20 : decode cX2_bits 20 = .ok (.iload_n 1, 1) := by decide +kernel
theorem dX2_bits_21 : decode cX2_bits 21 = .ok (.invokevirtual 85, 3) := by decide +kernel
theorem dX2_bits_24 : decode cX2_bits 24 = .ok (.invokestatic 120, 3) := by decide +kernel
theorem dX2_bits_27 : decode cX2_bits 27 = .ok (.lreturn, 1) := by decide +kernel
theorem dX2_lets_0 : decode cX2_lets 0 = .ok (.iload_n 1, 1) := by decide +kernel
theorem dX2_lets_1 : decode cX2_lets 1 = .ok (.iload_n 2, 1) := by decide +kernel
theorem dX2_lets_2 : decode cX2_lets 2 = .ok (.invokestatic 49, 3) := by decide +kernel
theorem dX2_lets_5 : decode cX2_lets 5 = .ok (.ifCond .eq 14, 3) := by decide +kernel
theorem dX2_lets_8 : decode cX2_lets 8 = .ok (.iload_n 3, 1) := by decide +kernel
theorem dX2_lets_9 : decode cX2_lets 9 = .ok (.ifCond .lt 10, 3) := by decide +kernel
theorem dX2_lets_12 : decode cX2_lets 12 = .ok (.iload_n 3, 1) := by decide +kernel
theorem dX2_lets_13 : decode cX2_lets 13 = .ok (.sipush 9999, 3) := by decide +kernel
theorem dX2_lets_16 : decode cX2_lets 16 = .ok (.if_icmp .le 8, 3) := by decide +kernel
theorem dX2_lets_19 : decode cX2_lets 19 = .ok (.aload_n 0, 1) := by decide +kernel
theorem dX2_lets_20 : decode cX2_lets 20 = .ok (.invokevirtual 81, 3) := by decide +kernel
theorem dX2_lets_23 : decode cX2_lets 23 = .ok (.lreturn, 1) := by decide +kernel
theorem dX2_lets_24 : decode cX2_lets 24 = .ok (.iload_n 1, 1) := by decide +kernel
theorem dX2_lets_25 : decode cX2_lets 25 = .ok (.aload_n 0, 1) := by decide +kernel
theorem dX2_lets_26 : decode cX2_lets 26 = .ok (.getfield 10, 3) := by decide +kernel
theorem dX2_lets_29 : decode cX2_lets 29 = .ok (.getfield 57, 3) := by decide +kernel
theorem dX2_lets_32 : decode cX2_lets 32 = .ok (.iconst 2, 1) := by decide +kernel
theorem dX2_lets_33 : decode cX2_lets 33 = .ok (.iaload, 1) := by decide +kernel
theorem dX2_lets_34 : decode cX2_lets 34 = .ok (.iload_n 2, 1) := by decide +kernel
theorem dX2_lets_35 : decode cX2_lets 35 = .ok (.iload_n 3, 1) := by decide +kernel
theorem dX2_lets_36 : decode cX2_lets 36 = .ok (.invokestatic 123, 3) := by decide +kernel
theorem dX2_lets_39 : decode cX2_lets 39 = .ok (.invokestatic 89, 3) := by decide +kernel
theorem dX2_lets_42 : decode cX2_lets 42 = .ok (.lreturn, 1) := by decide +kernel
theorem dX2_trial_0 : decode cX2_trial 0 = .ok (.iload_n 1, 1) := by decide +kernel
theorem dX2_trial_1 : decode cX2_trial 1 = .ok (.iload_n 2, 1) := by decide +kernel
theorem dX2_trial_2 : decode cX2_trial 2 = .ok (.invokestatic 49, 3) := by decide +kernel
theorem dX2_trial_5 : decode cX2_trial 5 = .ok (.ifCond .eq 10, 3) := by decide +kernel
theorem dX2_trial_8 : decode cX2_trial 8 = .ok (.iload_n 3, 1) := by decide +kernel
theorem dX2_trial_9 : decode cX2_trial 9 = .ok (.invokestatic 127, 3) := by decide +kernel
theorem dX2_trial_12 : decode cX2_trial 12 = .ok (.ifCond .ne 8, 3) := by decide +kernel
theorem dX2_trial_15 : decode cX2_trial 15 = .ok (.aload_n 0, 1) := by decide +kernel
theorem dX2_trial_16 : decode cX2_trial 16 = .ok (.invokevirtual 81, 3) := by decide +kernel
theorem dX2_trial_19 : decode cX2_trial 19 = .ok (.lreturn, 1) := by decide +kernel
theorem dX2_trial_20 : decode cX2_trial 20 = .ok (.aload_n 0, 1) := by decide +kernel
theorem dX2_trial_21 : decode cX2_trial 21 = .ok (.getfield 16, 3) := by decide +kernel
theorem dX2_trial_24 : decode cX2_trial 24 = .ok (.aload_n 0, 1) := by decide +kernel
theorem dX2_trial_25 : decode cX2_trial 25 = .ok (.getfield 10, 3) := by decide +kernel
theorem dX2_trial_28 : decode cX2_trial 28 = .ok (.iload_n 1, 1) := by decide +kernel
theorem dX2_trial_29 : decode cX2_trial 29 = .ok (.iload_n 2, 1) := by decide +kernel
theorem dX2_trial_30 : decode cX2_trial 30 = .ok (.invokevirtual 130, 3) := by decide +kernel
theorem dX2_trial_33 : decode cX2_trial 33 = .ok (.aload_n 0, 1) := by decide +kernel
theorem dX2_trial_34 : decode cX2_trial 34 = .ok (.getfield 16, 3) := by decide +kernel
theorem dX2_trial_37 : decode cX2_trial 37 = .ok (.iload_n 3, 1) := by decide +kernel
theorem dX2_trial_38 : decode cX2_trial 38 = .ok (.invokevirtual 74, 3) := by decide +kernel
theorem dX2_trial_41 : decode cX2_trial 41 = .ok (.aload_n 0, 1) := by decide +kernel
theorem dX2_trial_42 : decode cX2_trial 42 = .ok (.getfield 16, 3) := by decide +kernel
theorem dX2_trial_45 : decode cX2_trial 45 = .ok (.getfield 110, 3) := by decide +kernel
theorem dX2_trial_48 : decode cX2_trial 48 = .ok (.invokestatic 89, 3) := by decide +kernel
theorem dX2_trial_51 : decode cX2_trial 51 = .ok (.lreturn, 1) := by decide +kernel
theorem dX2_soonest_0 : decode cX2_soonest 0 = .ok (.bipush 6, 2) := by decide +kernel
theorem dX2_soonest_2 : decode cX2_soonest 2 = .ok (.iload_n 1, 1) := by decide +kernel
theorem dX2_soonest_3 : decode cX2_soonest 3 = .ok (.invokestatic 134, 3) := by decide +kernel
theorem dX2_soonest_6 : decode cX2_soonest 6 = .ok (.ifCond .eq 17, 3) := by decide +kernel
theorem dX2_soonest_9 : decode cX2_soonest 9 = .ok (.iload_n 2, 1) := by decide +kernel
theorem dX2_soonest_10 : decode cX2_soonest 10 = .ok (.invokestatic 137, 3) := by decide +kernel
theorem dX2_soonest_13 : decode cX2_soonest 13 = .ok (.ifCond .eq 10, 3) := by decide +kernel
theorem dX2_soonest_16 : decode cX2_soonest 16 = .ok (.iload_n 3, 1) := by decide +kernel
theorem dX2_soonest_17 : decode cX2_soonest 17 = .ok (.invokestatic 127, 3) := by decide +kernel
theorem dX2_soonest_20 : decode cX2_soonest 20 = .ok (.ifCond .ne 10, 3) := by decide +kernel
theorem dX2_soonest_23 : decode cX2_soonest 23 = .ok (.aload_n 0, 1) := by decide +kernel
theorem dX2_soonest_24 : decode cX2_soonest 24 = .ok (.bipush (-2), 2) := by decide +kernel
theorem dX2_soonest_26 : decode cX2_soonest 26 = .ok (.invokevirtual 45, 3) := by decide +kernel
theorem dX2_soonest_29 : decode cX2_soonest 29 = .ok (.ireturn, 1) := by decide +kernel
theorem dX2_soonest_30 : decode cX2_soonest 30 = .ok (.iconst 1, 1) := by decide +kernel
theorem dX2_soonest_31 : decode cX2_soonest 31 = .ok (.istore 4, 2) := by decide +kernel
theorem dX2_soonest_33 : decode cX2_soonest 33 = .ok (.iload 4, 2) := by decide +kernel
theorem dX2_soonest_35 : decode cX2_soonest 35 = .ok (.bipush 60, 2) := by decide +kernel
theorem dX2_soonest_37 : decode cX2_soonest 37 = .ok (.if_icmp .gt 24, 3) := by decide +kernel
theorem dX2_soonest_40 : decode cX2_soonest 40 = .ok (.aload_n 0, 1) := by decide +kernel
theorem dX2_soonest_41 : decode cX2_soonest 41 = .ok (.iload_n 1, 1) := by decide +kernel
theorem dX2_soonest_42 : decode cX2_soonest 42 = .ok (.iload 4, 2) := by decide +kernel
theorem dX2_soonest_44 : decode cX2_soonest 44 = .ok (.iload_n 2, 1) := by decide +kernel
theorem dX2_soonest_45 : decode cX2_soonest 45 = .ok (.iload_n 3, 1) := by decide +kernel
theorem dX2_soonest_46 : decode cX2_soonest 46 = .ok (.invokevirtual 140, 3) := by decide +kernel
theorem dX2_soonest_49 : decode cX2_soonest 49 = .ok (.ifCond .eq 6, 3) := by decide +kernel
theorem dX2_soonest_52 : decode cX2_soonest 52 = .ok (.iload 4, 2) := by decide +kernel
theorem dX2_soonest_54 : decode cX2_soonest 54 = .ok (.ireturn, 1) := by decide +kernel
theorem dX2_soonest_55 : decode cX2_soonest 55 = .ok (.iinc 4 1, 3) := by decide +kernel
theorem dX2_soonest_58 : decode cX2_soonest 58 = .ok (.goto (-25), 3) := by decide +kernel
theorem dX2_soonest_61 : decode cX2_soonest 61 = .ok (.iconst (-1), 1) := by decide +kernel
theorem dX2_soonest_62 : decode cX2_soonest 62 = .ok (.ireturn, 1) := by decide +kernel
theorem dX2_best_0 : decode cX2_best 0 = .ok (.iload_n 1, 1) := by decide +kernel
theorem dX2_best_1 : decode cX2_best 1 = .ok (.invokestatic 137, 3) := by decide +kernel
theorem dX2_best_4 : decode cX2_best 4 = .ok (.ifCond .eq 19, 3) := by decide +kernel
theorem dX2_best_7 : decode cX2_best 7 = .ok (.iload_n 2, 1) := by decide +kernel
theorem dX2_best_8 : decode cX2_best 8 = .ok (.invokestatic 127, 3) := by decide +kernel
theorem dX2_best_11 : decode cX2_best 11 = .ok (.ifCond .eq 12, 3) := by decide +kernel
theorem dX2_best_14 : decode cX2_best 14 = .ok (.iload_n 3, 1) := by decide +kernel
theorem dX2_best_15 : decode cX2_best 15 = .ok (.ifCond .lt 8, 3) := by decide +kernel
theorem dX2_best_18 : decode cX2_best 18 = .ok (.iload_n 3, 1) := by decide +kernel
theorem dX2_best_19 : decode cX2_best 19 = .ok (.iconst 1, 1) := by decide +kernel
theorem dX2_best_20 : decode cX2_best 20 = .ok (.if_icmp .le 10, 3) := by decide +kernel
theorem dX2_best_23 : decode cX2_best 23 = .ok (.aload_n 0, 1) := by decide +kernel
theorem dX2_best_24 : decode cX2_best 24 = .ok (.bipush (-2), 2) := by decide +kernel
theorem dX2_best_26 : decode cX2_best 26 = .ok (.invokevirtual 45, 3) := by decide +kernel
theorem dX2_best_29 : decode cX2_best 29 = .ok (.ireturn, 1) := by decide +kernel
theorem dX2_best_30 : decode cX2_best 30 = .ok (.iconst 1, 1) := by decide +kernel
theorem dX2_best_31 : decode cX2_best 31 = .ok (.istore 4, 2) := by decide +kernel
theorem dX2_best_33 : decode cX2_best 33 = .ok (.iload 4, 2) := by decide +kernel
theorem dX2_best_35 : decode cX2_best 35 = .ok (.bipush 60, 2) := by decide +kernel
theorem dX2_best_37 : decode cX2_best 37 = .ok (.if_icmp .gt 49, 3) := by decide +kernel
theorem dX2_best_40 : decode cX2_best 40 = .ok (.iconst 1, 1) := by decide +kernel
theorem dX2_best_41 : decode cX2_best 41 = .ok (.istore 5, 2) := by decide +kernel
theorem dX2_best_43 : decode cX2_best 43 = .ok (.iload 5, 2) := by decide +kernel
theorem dX2_best_45 : decode cX2_best 45 = .ok (.iconst 4, 1) := by decide +kernel
theorem dX2_best_46 : decode cX2_best 46 = .ok (.if_icmp .gt 34, 3) := by decide +kernel
theorem dX2_best_49 : decode cX2_best 49 = .ok (.aload_n 0, 1) := by decide +kernel
theorem dX2_best_50 : decode cX2_best 50 = .ok (.iload 5, 2) := by decide +kernel
theorem dX2_best_52 : decode cX2_best 52 = .ok (.iload 4, 2) := by decide +kernel
theorem dX2_best_54 : decode cX2_best 54 = .ok (.iload_n 1, 1) := by decide +kernel
theorem dX2_best_55 : decode cX2_best 55 = .ok (.iload_n 2, 1) := by decide +kernel
theorem dX2_best_56 : decode cX2_best 56 = .ok (.invokevirtual 140, 3) := by decide +kernel
theorem dX2_best_59 : decode cX2_best 59 = .ok (.ifCond .eq 15, 3) := by decide +kernel
theorem dX2_best_62 : decode cX2_best 62 = .ok (.iload_n 3, 1) := by decide +kernel
theorem dX2_best_63 : decode cX2_best 63 = .ok (.ifCond .ne 8, 3) := by decide +kernel
theorem dX2_best_66 : decode cX2_best 66 = .ok (.iload 5, 2) := by decide +kernel
theorem dX2_best_68 : decode cX2_best 68 = .ok (.goto 5, 3) := by decide +kernel
theorem dX2_best_71 : decode cX2_best 71 = .ok (.iload 4, 2) := by decide +kernel
theorem dX2_best_73 : decode cX2_best 73 = .ok (.ireturn, 1) := by decide +kernel
theorem dX2_best_74 : decode cX2_best 74 = .ok (.iinc 5 1, 3) := by decide +kernel
theorem dX2_best_77 : decode cX2_best 77 = .ok (.goto (-34), 3) := by decide +kernel
theorem dX2_best_80 : decode cX2_best 80 = .ok (.iinc 4 1, 3) := by decide +kernel
theorem dX2_best_83 : decode cX2_best 83 = .ok (.goto (-50), 3) := by decide +kernel
theorem dX2_best_86 : decode cX2_best 86 = .ok (.iconst (-1), 1) := by decide +kernel
theorem dX2_best_87 : decode cX2_best 87 = .ok (.ireturn, 1) := by decide +kernel
theorem dX2_type_0 : decode cX2_type 0 = .ok (.iload_n 1, 1) := by decide +kernel
theorem dX2_type_1 : decode cX2_type 1 = .ok (.ifCond .lt 9, 3) := by decide +kernel
theorem dX2_type_4 : decode cX2_type 4 = .ok (.iload_n 1, 1) := by decide +kernel
theorem dX2_type_5 : decode cX2_type 5 = .ok (.bipush 127, 2) := by decide +kernel
theorem dX2_type_7 : decode cX2_type 7 = .ok (.if_icmp .le 10, 3) := by decide +kernel
theorem dX2_type_10 : decode cX2_type 10 = .ok (.aload_n 0, 1) := by decide +kernel
theorem dX2_type_11 : decode cX2_type 11 = .ok (.bipush (-2), 2) := by decide +kernel
theorem dX2_type_13 : decode cX2_type 13 = .ok (.invokevirtual 45, 3) := by decide +kernel
theorem dX2_type_16 : decode cX2_type 16 = .ok (.ireturn, 1) := by decide +kernel
theorem dX2_type_17 : decode cX2_type 17 = .ok (.aload_n 0, 1) := by decide +kernel
theorem dX2_type_18 : decode cX2_type 18 = .ok (.getfield 37, 3) := by decide +kernel
theorem dX2_type_21 : decode cX2_type 21 = .ok (.iload_n 1, 1) := by decide +kernel
theorem dX2_type_22 : decode cX2_type 22 = .ok (.invokevirtual 144, 3) := by decide +kernel
theorem dX2_type_25 : decode cX2_type 25 = .ok (.ifCond .ne 10, 3) := by decide +kernel
theorem dX2_type_28 : decode cX2_type 28 = .ok (.aload_n 0, 1) := by decide +kernel
theorem dX2_type_29 : decode cX2_type 29 = .ok (.bipush (-4), 2) := by decide +kernel
theorem dX2_type_31 : decode cX2_type 31 = .ok (.invokevirtual 45, 3) := by decide +kernel
theorem dX2_type_34 : decode cX2_type 34 = .ok (.ireturn, 1) := by decide +kernel
theorem dX2_type_35 : decode cX2_type 35 = .ok (.aload_n 0, 1) := by decide +kernel
theorem dX2_type_36 : decode cX2_type 36 = .ok (.getfield 37, 3) := by decide +kernel
theorem dX2_type_39 : decode cX2_type 39 = .ok (.getfield 147, 3) := by decide +kernel
theorem dX2_type_42 : decode cX2_type 42 = .ok (.ireturn, 1) := by decide +kernel
theorem dX2_clear_0 : decode cX2_clear 0 = .ok (.aload_n 0, 1) := by decide +kernel
theorem dX2_clear_1 : decode cX2_clear 1 = .ok (.getfield 37, 3) := by decide +kernel
theorem dX2_clear_4 : decode cX2_clear 4 = .ok (.getfield 147, 3) := by decide +kernel
theorem dX2_clear_7 : decode cX2_clear 7 = .ok (.istore_n 1, 1) := by decide +kernel
theorem dX2_clear_8 : decode cX2_clear 8 = .ok (.aload_n 0, 1) := by decide +kernel
theorem dX2_clear_9 : decode cX2_clear 9 = .ok (.getfield 37, 3) := by decide +kernel
theorem dX2_clear_12 : decode cX2_clear 12 = .ok (.iconst 0, 1) := by decide +kernel
theorem dX2_clear_13 : decode cX2_clear 13 = .ok (.putfield 147, 3) := by decide +kernel
theorem dX2_clear_16 : decode cX2_clear 16 = .ok (.iload_n 1, 1) := by decide +kernel
theorem dX2_clear_17 : decode cX2_clear 17 = .ok (.ireturn, 1) := by decide +kernel
theorem dX2_reads_0 : decode cX2_reads 0 = .ok (.aload_n 0, 1) := by decide +kernel
theorem dX2_reads_1 : decode cX2_reads 1 = .ok (.getfield 37, 3) := by decide +kernel
theorem dX2_reads_4 : decode cX2_reads 4 = .ok (.invokevirtual 150, 3) := by decide +kernel
theorem dX2_reads_7 : decode cX2_reads 7 = .ok (.istore_n 1, 1) := by decide +kernel
theorem dX2_reads_8 : decode cX2_reads 8 = .ok (.iload_n 1, 1) := by decide +kernel
theorem dX2_reads_9 : decode cX2_reads 9 = .ok (.iconst (-1), 1) := by decide +kernel
theorem dX2_reads_10 : decode cX2_reads 10 = .ok (.if_icmp .eq 8, 3) := by decide +kernel
theorem dX2_reads_13 : decode cX2_reads 13 = .ok (.bipush (-10), 2) := by decide +kernel
theorem dX2_reads_15 : decode cX2_reads 15 = .ok (.iload_n 1, 1) := by decide +kernel
theorem dX2_reads_16 : decode cX2_reads 16 = .ok (.isub, 1) := by decide +kernel
theorem dX2_reads_17 : decode cX2_reads 17 = .ok (.ireturn, 1) := by decide +kernel
theorem dX2_reads_18 : decode cX2_reads 18 = .ok (.aload_n 0, 1) := by decide +kernel
theorem dX2_reads_19 : decode cX2_reads 19 = .ok (.getfield 16, 3) := by decide +kernel
theorem dX2_reads_22 : decode cX2_reads 22 = .ok (.aload_n 0, 1) := by decide +kernel
theorem dX2_reads_23 : decode cX2_reads 23 = .ok (.getfield 10, 3) := by decide +kernel
theorem dX2_reads_26 : decode cX2_reads 26 = .ok (.invokevirtual 154, 3) := by decide +kernel
theorem dX2_reads_29 : decode cX2_reads 29 = .ok (.aload_n 0, 1) := by decide +kernel
theorem dX2_reads_30 : decode cX2_reads 30 = .ok (.getfield 37, 3) := by decide +kernel
theorem dX2_reads_33 : decode cX2_reads 33 = .ok (.invokevirtual 157, 3) := by decide +kernel
theorem dX2_reads_36 : decode cX2_reads 36 = .ok (.iconst 0, 1) := by decide +kernel
theorem dX2_reads_37 : decode cX2_reads 37 = .ok (.istore_n 2, 1) := by decide +kernel
theorem dX2_reads_38 : decode cX2_reads 38 = .ok (.iload_n 2, 1) := by decide +kernel
theorem dX2_reads_39 : decode cX2_reads 39 = .ok (.aload_n 0, 1) := by decide +kernel
theorem dX2_reads_40 : decode cX2_reads 40 = .ok (.getfield 37, 3) := by decide +kernel
theorem dX2_reads_43 : decode cX2_reads 43 = .ok (.getfield 160, 3) := by decide +kernel
theorem dX2_reads_46 : decode cX2_reads 46 = .ok (.if_icmp .ge 64, 3) := by decide +kernel
theorem dX2_reads_49 : decode cX2_reads 49 = .ok (.aload_n 0, 1) := by decide +kernel
theorem dX2_reads_50 : decode cX2_reads 50 = .ok (.getfield 37, 3) := by decide +kernel
theorem dX2_reads_53 : decode cX2_reads 53 = .ok (.invokevirtual 163, 3) := by decide +kernel
theorem dX2_reads_56 : decode cX2_reads 56 = .ok (.ifCond .eq 31, 3) := by decide +kernel
theorem dX2_reads_59 : decode cX2_reads 59 = .ok (.aload_n 0, 1) := by decide +kernel
theorem dX2_reads_60 : decode cX2_reads 60 = .ok (.aload_n 0, 1) := by decide +kernel
theorem dX2_reads_61 : decode cX2_reads 61 = .ok (.getfield 37, 3) := by decide +kernel
theorem dX2_reads_64 : decode cX2_reads 64 = .ok (.getfield 167, 3) := by decide +kernel
theorem dX2_reads_67 : decode cX2_reads 67 = .ok (.aload_n 0, 1) := by decide +kernel
theorem dX2_reads_68 : decode cX2_reads 68 = .ok (.getfield 37, 3) := by decide +kernel
theorem dX2_reads_71 : decode cX2_reads 71 = .ok (.getfield 170, 3) := by decide +kernel
theorem dX2_reads_74 : decode cX2_reads 74 = .ok (.aload_n 0, 1) := by decide +kernel
theorem dX2_reads_75 : decode cX2_reads 75 = .ok (.getfield 37, 3) := by decide +kernel
theorem dX2_reads_78 : decode cX2_reads 78 = .ok (.getfield 173, 3) := by decide +kernel
theorem dX2_reads_81 : decode cX2_reads 81 = .ok (.invokevirtual 176, 3) := by decide +kernel
theorem dX2_reads_84 : decode cX2_reads 84 = .ok (.ifCond .ne 20, 3) := by decide +kernel
theorem dX2_reads_87 : decode cX2_reads 87 = .ok (.aload_n 0, 1) := by decide +kernel
theorem dX2_reads_88 : decode cX2_reads 88 = .ok (.getfield 10, 3) := by decide +kernel
theorem dX2_reads_91 : decode cX2_reads 91 = .ok (.aload_n 0, 1) := by decide +kernel
theorem dX2_reads_92 : decode cX2_reads 92 = .ok (.getfield 16, 3) := by decide +kernel
theorem dX2_reads_95 : decode cX2_reads 95 = .ok (.invokevirtual 154, 3) := by decide +kernel
theorem dX2_reads_98 : decode cX2_reads 98 = .ok (.sipush (-1000), 3) := by decide +kernel
theorem dX2_reads_101 : decode cX2_reads 101 = .ok (.iload_n 2, 1) := by decide +kernel
theorem dX2_reads_102 : decode cX2_reads 102 = .ok (.isub, 1) := by decide +kernel
theorem dX2_reads_103 : decode cX2_reads 103 = .ok (.ireturn, 1) := by decide +kernel
theorem dX2_reads_104 : decode cX2_reads 104 = .ok (.iinc 2 1, 3) := by decide +kernel
theorem dX2_reads_107 : decode cX2_reads 107 = .ok (.goto (-69), 3) := by decide +kernel
theorem dX2_reads_110 : decode cX2_reads 110 = .ok (.aload_n 0, 1) := by decide +kernel
theorem dX2_reads_111 : decode cX2_reads 111 = .ok (.aload_n 0, 1) := by decide +kernel
theorem dX2_reads_112 : decode cX2_reads 112 = .ok (.getfield 16, 3) := by decide +kernel
theorem dX2_reads_115 : decode cX2_reads 115 = .ok (.invokevirtual 53, 3) := by decide +kernel
theorem dX2_reads_118 : decode cX2_reads 118 = .ok (.aload_n 0, 1) := by decide +kernel
theorem dX2_reads_119 : decode cX2_reads 119 = .ok (.getfield 37, 3) := by decide +kernel
theorem dX2_reads_122 : decode cX2_reads 122 = .ok (.getfield 160, 3) := by decide +kernel
theorem dX2_reads_125 : decode cX2_reads 125 = .ok (.ireturn, 1) := by decide +kernel
theorem dX2_back_0 : decode cX2_back 0 = .ok (.aload_n 0, 1) := by decide +kernel
theorem dX2_back_1 : decode cX2_back 1 = .ok (.getfield 27, 3) := by decide +kernel
theorem dX2_back_4 : decode cX2_back 4 = .ok (.ifCond .ne 10, 3) := by decide +kernel
theorem dX2_back_7 : decode cX2_back 7 = .ok (.aload_n 0, 1) := by decide +kernel
theorem dX2_back_8 : decode cX2_back 8 = .ok (.bipush (-3), 2) := by decide +kernel
theorem dX2_back_10 : decode cX2_back 10 = .ok (.invokevirtual 45, 3) := by decide +kernel
theorem dX2_back_13 : decode cX2_back 13 = .ok (.ireturn, 1) := by decide +kernel
theorem dX2_back_14 : decode cX2_back 14 = .ok (.aload_n 0, 1) := by decide +kernel
theorem dX2_back_15 : decode cX2_back 15 = .ok (.getfield 10, 3) := by decide +kernel
theorem dX2_back_18 : decode cX2_back 18 = .ok (.aload_n 0, 1) := by decide +kernel
theorem dX2_back_19 : decode cX2_back 19 = .ok (.getfield 19, 3) := by decide +kernel
theorem dX2_back_22 : decode cX2_back 22 = .ok (.aload_n 0, 1) := by decide +kernel
theorem dX2_back_23 : decode cX2_back 23 = .ok (.getfield 23, 3) := by decide +kernel
theorem dX2_back_26 : decode cX2_back 26 = .ok (.aaload, 1) := by decide +kernel
theorem dX2_back_27 : decode cX2_back 27 = .ok (.invokevirtual 154, 3) := by decide +kernel
theorem dX2_back_30 : decode cX2_back 30 = .ok (.aload_n 0, 1) := by decide +kernel
theorem dX2_back_31 : decode cX2_back 31 = .ok (.aload_n 0, 1) := by decide +kernel
theorem dX2_back_32 : decode cX2_back 32 = .ok (.getfield 23, 3) := by decide +kernel
theorem dX2_back_35 : decode cX2_back 35 = .ok (.iconst 4, 1) := by decide +kernel
theorem dX2_back_36 : decode cX2_back 36 = .ok (.iadd, 1) := by decide +kernel
theorem dX2_back_37 : decode cX2_back 37 = .ok (.iconst 1, 1) := by decide +kernel
theorem dX2_back_38 : decode cX2_back 38 = .ok (.isub, 1) := by decide +kernel
theorem dX2_back_39 : decode cX2_back 39 = .ok (.iconst 4, 1) := by decide +kernel
theorem dX2_back_40 : decode cX2_back 40 = .ok (.irem, 1) := by decide +kernel
theorem dX2_back_41 : decode cX2_back 41 = .ok (.putfield 23, 3) := by decide +kernel
theorem dX2_back_44 : decode cX2_back 44 = .ok (.aload_n 0, 1) := by decide +kernel
theorem dX2_back_45 : decode cX2_back 45 = .ok (.dup, 1) := by decide +kernel
theorem dX2_back_46 : decode cX2_back 46 = .ok (.getfield 27, 3) := by decide +kernel
theorem dX2_back_49 : decode cX2_back 49 = .ok (.iconst 1, 1) := by decide +kernel
theorem dX2_back_50 : decode cX2_back 50 = .ok (.isub, 1) := by decide +kernel
theorem dX2_back_51 : decode cX2_back 51 = .ok (.putfield 27, 3) := by decide +kernel
theorem dX2_back_54 : decode cX2_back 54 = .ok (.aload_n 0, 1) := by decide +kernel
theorem dX2_back_55 : decode cX2_back 55 = .ok (.getfield 27, 3) := by decide +kernel
theorem dX2_back_58 : decode cX2_back 58 = .ok (.ireturn, 1) := by decide +kernel
theorem dX2_told_0 : decode cX2_told 0 = .ok (.iload_n 1, 1) := by decide +kernel
theorem dX2_told_1 : decode cX2_told 1 = .ok (.ifCond .lt 9, 3) := by decide +kernel
theorem dX2_told_4 : decode cX2_told 4 = .ok (.iload_n 1, 1) := by decide +kernel
theorem dX2_told_5 : decode cX2_told 5 = .ok (.bipush 13, 2) := by decide +kernel
theorem dX2_told_7 : decode cX2_told 7 = .ok (.if_icmp .le 10, 3) := by decide +kernel
theorem dX2_told_10 : decode cX2_told 10 = .ok (.aload_n 0, 1) := by decide +kernel
theorem dX2_told_11 : decode cX2_told 11 = .ok (.bipush (-2), 2) := by decide +kernel
theorem dX2_told_13 : decode cX2_told 13 = .ok (.invokevirtual 45, 3) := by decide +kernel
theorem dX2_told_16 : decode cX2_told 16 = .ok (.ireturn, 1) := by decide +kernel
theorem dX2_told_17 : decode cX2_told 17 = .ok (.iload_n 1, 1) := by decide +kernel
theorem dX2_told_18 : decode cX2_told 18 = .ok (.iconst 3, 1) := by decide +kernel
theorem dX2_told_19 : decode cX2_told 19 = .ok (.if_icmp .ge 10, 3) := by decide +kernel
theorem dX2_told_22 : decode cX2_told 22 = .ok (.aload_n 0, 1) := by decide +kernel
theorem dX2_told_23 : decode cX2_told 23 = .ok (.getfield 30, 3) := by decide +kernel
theorem dX2_told_26 : decode cX2_told 26 = .ok (.iload_n 1, 1) := by decide +kernel
theorem dX2_told_27 : decode cX2_told 27 = .ok (.iaload, 1) := by decide +kernel
theorem dX2_told_28 : decode cX2_told 28 = .ok (.ireturn, 1) := by decide +kernel
theorem dX2_told_29 : decode cX2_told 29 = .ok (.iload_n 1, 1) := by decide +kernel
theorem dX2_told_30 : decode cX2_told 30 = .ok (.iconst 3, 1) := by decide +kernel
theorem dX2_told_31 : decode cX2_told 31 = .ok (.if_icmp .ne 11, 3) := by decide +kernel
theorem dX2_told_34 : decode cX2_told 34 = .ok (.aload_n 0, 1) := by decide +kernel
theorem dX2_told_35 : decode cX2_told 35 = .ok (.getfield 37, 3) := by decide +kernel
theorem dX2_told_38 : decode cX2_told 38 = .ok (.getfield 147, 3) := by decide +kernel
theorem dX2_told_41 : decode cX2_told 41 = .ok (.ireturn, 1) := by decide +kernel
theorem dX2_told_42 : decode cX2_told 42 = .ok (.iload_n 1, 1) := by decide +kernel
theorem dX2_told_43 : decode cX2_told 43 = .ok (.bipush 13, 2) := by decide +kernel
theorem dX2_told_45 : decode cX2_told 45 = .ok (.if_icmp .ne 10, 3) := by decide +kernel
theorem dX2_told_48 : decode cX2_told 48 = .ok (.aload_n 0, 1) := by decide +kernel
theorem dX2_told_49 : decode cX2_told 49 = .ok (.getfield 27, 3) := by decide +kernel
theorem dX2_told_52 : decode cX2_told 52 = .ok (.goto 14, 3) := by decide +kernel
theorem dX2_told_55 : decode cX2_told 55 = .ok (.aload_n 0, 1) := by decide +kernel
theorem dX2_told_56 : decode cX2_told 56 = .ok (.getfield 10, 3) := by decide +kernel
theorem dX2_told_59 : decode cX2_told 59 = .ok (.getfield 57, 3) := by decide +kernel
theorem dX2_told_62 : decode cX2_told 62 = .ok (.iload_n 1, 1) := by decide +kernel
theorem dX2_told_63 : decode cX2_told 63 = .ok (.iconst 4, 1) := by decide +kernel
theorem dX2_told_64 : decode cX2_told 64 = .ok (.isub, 1) := by decide +kernel
theorem dX2_told_65 : decode cX2_told 65 = .ok (.iaload, 1) := by decide +kernel
theorem dX2_told_66 : decode cX2_told 66 = .ok (.ireturn, 1) := by decide +kernel
theorem dX2_digest_0 : decode cX2_digest 0 = .ok (.ldc2_w 180, 3) := by decide +kernel
theorem dX2_digest_3 : decode cX2_digest 3 = .ok (.lstore_n 1, 1) := by decide +kernel
theorem dX2_digest_4 : decode cX2_digest 4 = .ok (.iconst 0, 1) := by decide +kernel
theorem dX2_digest_5 : decode cX2_digest 5 = .ok (.istore_n 3, 1) := by decide +kernel
theorem dX2_digest_6 : decode cX2_digest 6 = .ok (.iload_n 3, 1) := by decide +kernel
theorem dX2_digest_7 : decode cX2_digest 7 = .ok (.bipush 13, 2) := by decide +kernel
theorem dX2_digest_9 : decode cX2_digest 9 = .ok (.if_icmp .gt 22, 3) := by decide +kernel
theorem dX2_digest_12 : decode cX2_digest 12 = .ok (.ldc2_w 182, 3) := by decide +kernel
theorem dX2_digest_15 : decode cX2_digest 15 = .ok (.lload_n 1, 1) := by decide +kernel
theorem dX2_digest_16 : decode cX2_digest 16 = .ok (.lmul, 1) := by decide +kernel
theorem dX2_digest_17 : decode cX2_digest 17 = .ok (.aload_n 0, 1) := by decide +kernel
theorem dX2_digest_18 : decode cX2_digest 18 = .ok (.iload_n 3, 1) := by decide +kernel
theorem dX2_digest_19 : decode cX2_digest 19 = .ok (.invokevirtual 184, 3) := by decide +kernel
theorem dX2_digest_22 : decode cX2_digest 22 = .ok (.i2l, 1) := by decide +kernel
theorem dX2_digest_23 : decode cX2_digest 23 = .ok (.ladd, 1) := by decide +kernel
theorem dX2_digest_24 : decode cX2_digest 24 = .ok (.lstore_n 1, 1) := by decide +kernel
theorem dX2_digest_25 : decode cX2_digest 25 = .ok (.iinc 3 1, 3) := by decide +kernel
theorem dX2_digest_28 : decode cX2_digest 28 = .ok (.goto (-22), 3) := by decide +kernel
theorem dX2_digest_31 : decode cX2_digest 31 = .ok (.iconst 0, 1) := by decide +kernel
theorem dX2_digest_32 : decode cX2_digest 32 = .ok (.istore_n 3, 1) := by decide +kernel
theorem dX2_digest_33 : decode cX2_digest 33 = .ok (.iload_n 3, 1) := by decide +kernel
theorem dX2_digest_34 : decode cX2_digest 34 = .ok (.aload_n 0, 1) := by decide +kernel
theorem dX2_digest_35 : decode cX2_digest 35 = .ok (.getfield 10, 3) := by decide +kernel
theorem dX2_digest_38 : decode cX2_digest 38 = .ok (.getfield 57, 3) := by decide +kernel
theorem dX2_digest_41 : decode cX2_digest 41 = .ok (.iconst 0, 1) := by decide +kernel
theorem dX2_digest_42 : decode cX2_digest 42 = .ok (.iaload, 1) := by decide +kernel
theorem dX2_digest_43 : decode cX2_digest 43 = .ok (.if_icmp .gt 50, 3) := by decide +kernel
theorem dX2_digest_46 : decode cX2_digest 46 = .ok (.iconst 0, 1) := by decide +kernel
theorem dX2_digest_47 : decode cX2_digest 47 = .ok (.istore 4, 2) := by decide +kernel
theorem dX2_digest_49 : decode cX2_digest 49 = .ok (.iload 4, 2) := by decide +kernel
theorem dX2_digest_51 : decode cX2_digest 51 = .ok (.iconst 5, 1) := by decide +kernel
theorem dX2_digest_52 : decode cX2_digest 52 = .ok (.if_icmp .gt 23, 3) := by decide +kernel
theorem dX2_digest_55 : decode cX2_digest 55 = .ok (.ldc2_w 182, 3) := by decide +kernel
theorem dX2_digest_58 : decode cX2_digest 58 = .ok (.lload_n 1, 1) := by decide +kernel
theorem dX2_digest_59 : decode cX2_digest 59 = .ok (.lmul, 1) := by decide +kernel
theorem dX2_digest_60 : decode cX2_digest 60 = .ok (.aload_n 0, 1) := by decide +kernel
theorem dX2_digest_61 : decode cX2_digest 61 = .ok (.iload_n 3, 1) := by decide +kernel
theorem dX2_digest_62 : decode cX2_digest 62 = .ok (.iload 4, 2) := by decide +kernel
theorem dX2_digest_64 : decode cX2_digest 64 = .ok (.invokevirtual 187, 3) := by decide +kernel
theorem dX2_digest_67 : decode cX2_digest 67 = .ok (.ladd, 1) := by decide +kernel
theorem dX2_digest_68 : decode cX2_digest 68 = .ok (.lstore_n 1, 1) := by decide +kernel
theorem dX2_digest_69 : decode cX2_digest 69 = .ok (.iinc 4 1, 3) := by decide +kernel
theorem dX2_digest_72 : decode cX2_digest 72 = .ok (.goto (-23), 3) := by decide +kernel
theorem dX2_digest_75 : decode cX2_digest 75 = .ok (.ldc2_w 182, 3) := by decide +kernel
theorem dX2_digest_78 : decode cX2_digest 78 = .ok (.lload_n 1, 1) := by decide +kernel
theorem dX2_digest_79 : decode cX2_digest 79 = .ok (.lmul, 1) := by decide +kernel
theorem dX2_digest_80 : decode cX2_digest 80 = .ok (.aload_n 0, 1) := by decide +kernel
theorem dX2_digest_81 : decode cX2_digest 81 = .ok (.iload_n 3, 1) := by decide +kernel
theorem dX2_digest_82 : decode cX2_digest 82 = .ok (.invokevirtual 191, 3) := by decide +kernel
theorem dX2_digest_85 : decode cX2_digest 85 = .ok (.ladd, 1) := by decide +kernel
theorem dX2_digest_86 : decode cX2_digest 86 = .ok (.lstore_n 1, 1) := by decide +kernel
theorem dX2_digest_87 : decode cX2_digest 87 = .ok (.iinc 3 1, 3) := by decide +kernel
theorem dX2_digest_90 : decode cX2_digest 90 = .ok (.goto (-57), 3) := by decide +kernel
theorem dX2_digest_93 : decode cX2_digest 93 = .ok (.iconst 0, 1) := by decide +kernel
theorem dX2_digest_94 : decode cX2_digest 94 = .ok (.istore_n 3, 1) := by decide +kernel
theorem dX2_digest_95 : decode cX2_digest 95 = .ok (.iload_n 3, 1) := by decide +kernel
theorem dX2_digest_96 : decode cX2_digest 96 = .ok (.iconst 3, 1) := by decide +kernel
theorem dX2_digest_97 : decode cX2_digest 97 = .ok (.if_icmp .gt 21, 3) := by decide +kernel
theorem dX2_digest_100 : decode cX2_digest 100 = .ok (.ldc2_w 182, 3) := by decide +kernel
theorem dX2_digest_103 : decode cX2_digest 103 = .ok (.lload_n 1, 1) := by decide +kernel
theorem dX2_digest_104 : decode cX2_digest 104 = .ok (.lmul, 1) := by decide +kernel
theorem dX2_digest_105 : decode cX2_digest 105 = .ok (.aload_n 0, 1) := by decide +kernel
theorem dX2_digest_106 : decode cX2_digest 106 = .ok (.iload_n 3, 1) := by decide +kernel
theorem dX2_digest_107 : decode cX2_digest 107 = .ok (.invokevirtual 195, 3) := by decide +kernel
theorem dX2_digest_110 : decode cX2_digest 110 = .ok (.ladd, 1) := by decide +kernel
theorem dX2_digest_111 : decode cX2_digest 111 = .ok (.lstore_n 1, 1) := by decide +kernel
theorem dX2_digest_112 : decode cX2_digest 112 = .ok (.iinc 3 1, 3) := by decide +kernel
theorem dX2_digest_115 : decode cX2_digest 115 = .ok (.goto (-20), 3) := by decide +kernel
theorem dX2_digest_118 : decode cX2_digest 118 = .ok (.ldc2_w 182, 3) := by decide +kernel
theorem dX2_digest_121 : decode cX2_digest 121 = .ok (.lload_n 1, 1) := by decide +kernel
theorem dX2_digest_122 : decode cX2_digest 122 = .ok (.lmul, 1) := by decide +kernel
theorem dX2_digest_123 : decode cX2_digest 123 = .ok (.aload_n 0, 1) := by decide +kernel
theorem dX2_digest_124 : decode cX2_digest 124 = .ok (.iconst 2, 1) := by decide +kernel
theorem dX2_digest_125 : decode cX2_digest 125 = .ok (.aload_n 0, 1) := by decide +kernel
theorem dX2_digest_126 : decode cX2_digest 126 = .ok (.getfield 10, 3) := by decide +kernel
theorem dX2_digest_129 : decode cX2_digest 129 = .ok (.getfield 57, 3) := by decide +kernel
theorem dX2_digest_132 : decode cX2_digest 132 = .ok (.bipush 7, 2) := by decide +kernel
theorem dX2_digest_134 : decode cX2_digest 134 = .ok (.iaload, 1) := by decide +kernel
theorem dX2_digest_135 : decode cX2_digest 135 = .ok (.bipush 20, 2) := by decide +kernel
theorem dX2_digest_137 : decode cX2_digest 137 = .ok (.invokevirtual 198, 3) := by decide +kernel
theorem dX2_digest_140 : decode cX2_digest 140 = .ok (.ladd, 1) := by decide +kernel
theorem dX2_digest_141 : decode cX2_digest 141 = .ok (.lreturn, 1) := by decide +kernel
theorem dX2_refuse_0 : decode cX2_refuse 0 = .ok (.aload_n 0, 1) := by decide +kernel
theorem dX2_refuse_1 : decode cX2_refuse 1 = .ok (.getfield 30, 3) := by decide +kernel
theorem dX2_refuse_4 : decode cX2_refuse 4 = .ok (.iload_n 1, 1) := by decide +kernel
theorem dX2_refuse_5 : decode cX2_refuse 5 = .ok (.bipush (-2), 2) := by decide +kernel
theorem dX2_refuse_7 : decode cX2_refuse 7 = .ok (.if_icmp .ne 7, 3) := by decide +kernel
theorem dX2_refuse_10 : decode cX2_refuse 10 = .ok (.iconst 0, 1) := by decide +kernel
theorem dX2_refuse_11 : decode cX2_refuse 11 = .ok (.goto 14, 3) := by decide +kernel
theorem dX2_refuse_14 : decode cX2_refuse 14 = .ok (.iload_n 1, 1) := by decide +kernel
theorem dX2_refuse_15 : decode cX2_refuse 15 = .ok (.bipush (-3), 2) := by decide +kernel
theorem dX2_refuse_17 : decode cX2_refuse 17 = .ok (.if_icmp .ne 7, 3) := by decide +kernel
theorem dX2_refuse_20 : decode cX2_refuse 20 = .ok (.iconst 1, 1) := by decide +kernel
theorem dX2_refuse_21 : decode cX2_refuse 21 = .ok (.goto 4, 3) := by decide +kernel
theorem dX2_refuse_24 : decode cX2_refuse 24 = .ok (.iconst 2, 1) := by decide +kernel
theorem dX2_refuse_25 : decode cX2_refuse 25 = .ok (.dup2, 1) := by decide +kernel
theorem dX2_refuse_26 : decode cX2_refuse 26 = .ok (.iaload, 1) := by decide +kernel
theorem dX2_refuse_27 : decode cX2_refuse 27 = .ok (.iconst 1, 1) := by decide +kernel
theorem dX2_refuse_28 : decode cX2_refuse 28 = .ok (.iadd, 1) := by decide +kernel
theorem dX2_refuse_29 : decode cX2_refuse 29 = .ok (.iastore, 1) := by decide +kernel
theorem dX2_refuse_30 : decode cX2_refuse 30 = .ok (.iload_n 1, 1) := by decide +kernel
theorem dX2_refuse_31 : decode cX2_refuse 31 = .ok (.ireturn, 1) := by decide +kernel
theorem dX2_refuseLong_0 : decode cX2_refuseLong 0 = .ok (.aload_n 0, 1) := by decide +kernel
theorem dX2_refuseLong_1 : decode cX2_refuseLong 1 = .ok (.bipush (-2), 2) := by decide +kernel
theorem dX2_refuseLong_3 : decode cX2_refuseLong 3 = .ok (.invokevirtual 45, 3) := by decide +kernel
theorem dX2_refuseLong_6 : decode cX2_refuseLong 6 = .ok (.pop, 1) := by decide +kernel
theorem dX2_refuseLong_7 : decode cX2_refuseLong 7 = .ok (.ldc2_w 202, 3) := by decide +kernel
theorem dX2_refuseLong_10 : decode cX2_refuseLong 10 = .ok (.lreturn, 1) := by decide +kernel
theorem dX2_keep_0 : decode cX2_keep 0 = .ok (.aload_n 0, 1) := by decide +kernel
theorem dX2_keep_1 : decode cX2_keep 1 = .ok (.aload_n 0, 1) := by decide +kernel
theorem dX2_keep_2 : decode cX2_keep 2 = .ok (.getfield 23, 3) := by decide +kernel
theorem dX2_keep_5 : decode cX2_keep 5 = .ok (.iconst 1, 1) := by decide +kernel
theorem dX2_keep_6 : decode cX2_keep 6 = .ok (.iadd, 1) := by decide +kernel
theorem dX2_keep_7 : decode cX2_keep 7 = .ok (.iconst 4, 1) := by decide +kernel
theorem dX2_keep_8 : decode cX2_keep 8 = .ok (.irem, 1) := by decide +kernel
theorem dX2_keep_9 : decode cX2_keep 9 = .ok (.putfield 23, 3) := by decide +kernel
theorem dX2_keep_12 : decode cX2_keep 12 = .ok (.aload_n 0, 1) := by decide +kernel
theorem dX2_keep_13 : decode cX2_keep 13 = .ok (.getfield 19, 3) := by decide +kernel
theorem dX2_keep_16 : decode cX2_keep 16 = .ok (.aload_n 0, 1) := by decide +kernel
theorem dX2_keep_17 : decode cX2_keep 17 = .ok (.getfield 23, 3) := by decide +kernel
theorem dX2_keep_20 : decode cX2_keep 20 = .ok (.aaload, 1) := by decide +kernel
theorem dX2_keep_21 : decode cX2_keep 21 = .ok (.aload_n 1, 1) := by decide +kernel
theorem dX2_keep_22 : decode cX2_keep 22 = .ok (.invokevirtual 154, 3) := by decide +kernel
theorem dX2_keep_25 : decode cX2_keep 25 = .ok (.aload_n 0, 1) := by decide +kernel
theorem dX2_keep_26 : decode cX2_keep 26 = .ok (.getfield 27, 3) := by decide +kernel
theorem dX2_keep_29 : decode cX2_keep 29 = .ok (.iconst 4, 1) := by decide +kernel
theorem dX2_keep_30 : decode cX2_keep 30 = .ok (.if_icmp .ge 13, 3) := by decide +kernel
theorem dX2_keep_33 : decode cX2_keep 33 = .ok (.aload_n 0, 1) := by decide +kernel
theorem dX2_keep_34 : decode cX2_keep 34 = .ok (.dup, 1) := by decide +kernel
theorem dX2_keep_35 : decode cX2_keep 35 = .ok (.getfield 27, 3) := by decide +kernel
theorem dX2_keep_38 : decode cX2_keep 38 = .ok (.iconst 1, 1) := by decide +kernel
theorem dX2_keep_39 : decode cX2_keep 39 = .ok (.iadd, 1) := by decide +kernel
theorem dX2_keep_40 : decode cX2_keep 40 = .ok (.putfield 27, 3) := by decide +kernel
theorem dX2_keep_43 : decode cX2_keep 43 = .ok (.return_, 1) := by decide +kernel
theorem dX2_change_0 : decode cX2_change 0 = .ok (.iload_n 1, 1) := by decide +kernel
theorem dX2_change_1 : decode cX2_change 1 = .ok (.iload_n 2, 1) := by decide +kernel
theorem dX2_change_2 : decode cX2_change 2 = .ok (.invokestatic 134, 3) := by decide +kernel
theorem dX2_change_5 : decode cX2_change 5 = .ok (.ifCond .ne 10, 3) := by decide +kernel
theorem dX2_change_8 : decode cX2_change 8 = .ok (.aload_n 0, 1) := by decide +kernel
theorem dX2_change_9 : decode cX2_change 9 = .ok (.bipush (-2), 2) := by decide +kernel
theorem dX2_change_11 : decode cX2_change 11 = .ok (.invokevirtual 45, 3) := by decide +kernel
theorem dX2_change_14 : decode cX2_change 14 = .ok (.ireturn, 1) := by decide +kernel
theorem dX2_change_15 : decode cX2_change 15 = .ok (.aload_n 0, 1) := by decide +kernel
theorem dX2_change_16 : decode cX2_change 16 = .ok (.aload_n 0, 1) := by decide +kernel
theorem dX2_change_17 : decode cX2_change 17 = .ok (.getfield 10, 3) := by decide +kernel
theorem dX2_change_20 : decode cX2_change 20 = .ok (.invokevirtual 53, 3) := by decide +kernel
theorem dX2_change_23 : decode cX2_change 23 = .ok (.aload_n 0, 1) := by decide +kernel
theorem dX2_change_24 : decode cX2_change 24 = .ok (.getfield 10, 3) := by decide +kernel
theorem dX2_change_27 : decode cX2_change 27 = .ok (.getfield 57, 3) := by decide +kernel
theorem dX2_change_30 : decode cX2_change 30 = .ok (.iload_n 1, 1) := by decide +kernel
theorem dX2_change_31 : decode cX2_change 31 = .ok (.iaload, 1) := by decide +kernel
theorem dX2_change_32 : decode cX2_change 32 = .ok (.istore_n 3, 1) := by decide +kernel
theorem dX2_change_33 : decode cX2_change 33 = .ok (.aload_n 0, 1) := by decide +kernel
theorem dX2_change_34 : decode cX2_change 34 = .ok (.getfield 10, 3) := by decide +kernel
theorem dX2_change_37 : decode cX2_change 37 = .ok (.iload_n 1, 1) := by decide +kernel
theorem dX2_change_38 : decode cX2_change 38 = .ok (.iload_n 2, 1) := by decide +kernel
theorem dX2_change_39 : decode cX2_change 39 = .ok (.invokevirtual 204, 3) := by decide +kernel
theorem dX2_change_42 : decode cX2_change 42 = .ok (.iload_n 3, 1) := by decide +kernel
theorem dX2_change_43 : decode cX2_change 43 = .ok (.ireturn, 1) := by decide +kernel
theorem dX2_isStepCount_0 : decode cX2_isStepCount 0 = .ok (.iload_n 0, 1) := by decide +kernel
theorem dX2_isStepCount_1 : decode cX2_isStepCount 1 = .ok (.iconst 1, 1) := by decide +kernel
theorem dX2_isStepCount_2 : decode cX2_isStepCount 2 = .ok (.if_icmp .lt 13, 3) := by decide +kernel
theorem dX2_isStepCount_5 : decode cX2_isStepCount 5 = .ok (.iload_n 0, 1) := by decide +kernel
theorem dX2_isStepCount_6 : decode cX2_isStepCount 6 = .ok (.bipush 100, 2) := by decide +kernel
theorem dX2_isStepCount_8 : decode cX2_isStepCount 8 = .ok (.if_icmp .gt 7, 3) := by decide +kernel
theorem dX2_isStepCount_11 : decode cX2_isStepCount 11 = .ok (.iconst 1, 1) := by decide +kernel
theorem dX2_isStepCount_12 : decode cX2_isStepCount 12 = .ok (.goto 4, 3) := by decide +kernel
theorem dX2_isStepCount_15 : decode cX2_isStepCount 15 = .ok (.iconst 0, 1) := by decide +kernel
theorem dX2_isStepCount_16 : decode cX2_isStepCount 16 = .ok (.ireturn, 1) := by decide +kernel
theorem dX2_isTrialLength_0 : decode cX2_isTrialLength 0 = .ok (.iload_n 0, 1) := by decide +kernel
theorem dX2_isTrialLength_1 : decode cX2_isTrialLength 1 = .ok (.ifCond .lt 13, 3) := by decide +kernel
theorem dX2_isTrialLength_4 : decode cX2_isTrialLength 4 = .ok (.iload_n 0, 1) := by decide +kernel
theorem dX2_isTrialLength_5 : decode cX2_isTrialLength 5 = .ok (.bipush 100, 2) := by decide +kernel
theorem dX2_isTrialLength_7 : decode cX2_isTrialLength 7 = .ok (.if_icmp .gt 7, 3) := by decide +kernel
theorem dX2_isTrialLength_10 : decode cX2_isTrialLength 10 = .ok (.iconst 1, 1) := by decide +kernel
theorem dX2_isTrialLength_11 : decode cX2_isTrialLength 11 = .ok (.goto 4, 3) := by decide +kernel
theorem dX2_isTrialLength_14 : decode cX2_isTrialLength 14 = .ok (.iconst 0, 1) := by decide +kernel
theorem dX2_isTrialLength_15 : decode cX2_isTrialLength 15 = .ok (.ireturn, 1) := by decide +kernel
theorem dX2_isBound_0 : decode cX2_isBound 0 = .ok (.iload_n 0, 1) := by decide +kernel
theorem dX2_isBound_1 : decode cX2_isBound 1 = .ok (.sipush (-9999), 3) := by decide +kernel
theorem dX2_isBound_4 : decode cX2_isBound 4 = .ok (.if_icmp .lt 14, 3) := by decide +kernel
theorem dX2_isBound_7 : decode cX2_isBound 7 = .ok (.iload_n 0, 1) := by decide +kernel
theorem dX2_isBound_8 : decode cX2_isBound 8 = .ok (.sipush 9999, 3) := by decide +kernel
theorem dX2_isBound_11 : decode cX2_isBound 11 = .ok (.if_icmp .gt 7, 3) := by decide +kernel
theorem dX2_isBound_14 : decode cX2_isBound 14 = .ok (.iconst 1, 1) := by decide +kernel
theorem dX2_isBound_15 : decode cX2_isBound 15 = .ok (.goto 4, 3) := by decide +kernel
theorem dX2_isBound_18 : decode cX2_isBound 18 = .ok (.iconst 0, 1) := by decide +kernel
theorem dX2_isBound_19 : decode cX2_isBound 19 = .ok (.ireturn, 1) := by decide +kernel
theorem dX2_hasTimeFor_0 : decode cX2_hasTimeFor 0 = .ok (.aload_n 0, 1) := by decide +kernel
theorem dX2_hasTimeFor_1 : decode cX2_hasTimeFor 1 = .ok (.getfield 10, 3) := by decide +kernel
theorem dX2_hasTimeFor_4 : decode cX2_hasTimeFor 4 = .ok (.getfield 57, 3) := by decide +kernel
theorem dX2_hasTimeFor_7 : decode cX2_hasTimeFor 7 = .ok (.bipush 8, 2) := by decide +kernel
theorem dX2_hasTimeFor_9 : decode cX2_hasTimeFor 9 = .ok (.iaload, 1) := by decide +kernel
theorem dX2_hasTimeFor_10 : decode cX2_hasTimeFor 10 = .ok (.iload_n 1, 1) := by decide +kernel
theorem dX2_hasTimeFor_11 : decode cX2_hasTimeFor 11 = .ok (.iadd, 1) := by decide +kernel
theorem dX2_hasTimeFor_12 : decode cX2_hasTimeFor 12 = .ok (.sipush 999, 3) := by decide +kernel
theorem dX2_hasTimeFor_15 : decode cX2_hasTimeFor 15 = .ok (.if_icmp .gt 7, 3) := by decide +kernel
theorem dX2_hasTimeFor_18 : decode cX2_hasTimeFor 18 = .ok (.iconst 1, 1) := by decide +kernel
theorem dX2_hasTimeFor_19 : decode cX2_hasTimeFor 19 = .ok (.goto 4, 3) := by decide +kernel
theorem dX2_hasTimeFor_22 : decode cX2_hasTimeFor 22 = .ok (.iconst 0, 1) := by decide +kernel
theorem dX2_hasTimeFor_23 : decode cX2_hasTimeFor 23 = .ok (.ireturn, 1) := by decide +kernel
theorem dX2_staysWithin_0 : decode cX2_staysWithin 0 = .ok (.iload_n 3, 1) := by decide +kernel
theorem dX2_staysWithin_1 : decode cX2_staysWithin 1 = .ok (.i2d, 1) := by decide +kernel
theorem dX2_staysWithin_2 : decode cX2_staysWithin 2 = .ok (.dstore 5, 2) := by decide +kernel
theorem dX2_staysWithin_4 : decode cX2_staysWithin 4 = .ok (.aload_n 0, 1) := by decide +kernel
theorem dX2_staysWithin_5 : decode cX2_staysWithin 5 = .ok (.getfield 16, 3) := by decide +kernel
theorem dX2_staysWithin_8 : decode cX2_staysWithin 8 = .ok (.aload_n 0, 1) := by decide +kernel
theorem dX2_staysWithin_9 : decode cX2_staysWithin 9 = .ok (.getfield 10, 3) := by decide +kernel
theorem dX2_staysWithin_12 : decode cX2_staysWithin 12 = .ok (.iload_n 1, 1) := by decide +kernel
theorem dX2_staysWithin_13 : decode cX2_staysWithin 13 = .ok (.iload_n 2, 1) := by decide +kernel
theorem dX2_staysWithin_14 : decode cX2_staysWithin 14 = .ok (.invokevirtual 130, 3) := by decide +kernel
theorem dX2_staysWithin_17 : decode cX2_staysWithin 17 = .ok (.iconst 0, 1) := by decide +kernel
theorem dX2_staysWithin_18 : decode cX2_staysWithin 18 = .ok (.istore 7, 2) := by decide +kernel
theorem dX2_staysWithin_20 : decode cX2_staysWithin 20 = .ok (.iload 7, 2) := by decide +kernel
theorem dX2_staysWithin_22 : decode cX2_staysWithin 22 = .ok (.iload 4, 2) := by decide +kernel
theorem dX2_staysWithin_24 : decode cX2_staysWithin 24 = .ok (.if_icmp .ge 30, 3) := by decide +kernel
theorem dX2_staysWithin_27 : decode cX2_staysWithin 27 = .ok (.aload_n 0, 1) := by decide +kernel
theorem dX2_staysWithin_28 : decode cX2_staysWithin 28 = .ok (.getfield 16, 3) := by decide +kernel
theorem dX2_staysWithin_31 : decode cX2_staysWithin 31 = .ok (.getfield 110, 3) := by decide +kernel
theorem dX2_staysWithin_34 : decode cX2_staysWithin 34 = .ok (.dload 5, 2) := by decide +kernel
theorem dX2_staysWithin_36 : decode cX2_staysWithin 36 = .ok (.dcmp .g, 1) := by decide +kernel
theorem dX2_staysWithin_37 : decode cX2_staysWithin 37 = .ok (.ifCond .gt 17, 3) := by decide +kernel
theorem dX2_staysWithin_40 : decode cX2_staysWithin 40 = .ok (.aload_n 0, 1) := by decide +kernel
theorem dX2_staysWithin_41 : decode cX2_staysWithin 41 = .ok (.getfield 16, 3) := by decide +kernel
theorem dX2_staysWithin_44 : decode cX2_staysWithin 44 = .ok (.iconst 1, 1) := by decide +kernel
theorem dX2_staysWithin_45 : decode cX2_staysWithin 45 = .ok (.invokevirtual 74, 3) := by decide +kernel
theorem dX2_staysWithin_48 : decode cX2_staysWithin 48 = .ok (.iinc 7 1, 3) := by decide +kernel
theorem dX2_staysWithin_51 : decode cX2_staysWithin 51 = .ok (.goto (-31), 3) := by decide +kernel
theorem dX2_staysWithin_54 : decode cX2_staysWithin 54 = .ok (.aload_n 0, 1) := by decide +kernel
theorem dX2_staysWithin_55 : decode cX2_staysWithin 55 = .ok (.getfield 16, 3) := by decide +kernel
theorem dX2_staysWithin_58 : decode cX2_staysWithin 58 = .ok (.getfield 110, 3) := by decide +kernel
theorem dX2_staysWithin_61 : decode cX2_staysWithin 61 = .ok (.dload 5, 2) := by decide +kernel
theorem dX2_staysWithin_63 : decode cX2_staysWithin 63 = .ok (.dcmp .g, 1) := by decide +kernel
theorem dX2_staysWithin_64 : decode cX2_staysWithin 64 = .ok (.ifCond .gt 7, 3) := by decide +kernel
theorem dX2_staysWithin_67 : decode cX2_staysWithin 67 = .ok (.iconst 1, 1) := by decide +kernel
theorem dX2_staysWithin_68 : decode cX2_staysWithin 68 = .ok (.goto 4, 3) := by decide +kernel
theorem dX2_staysWithin_71 : decode cX2_staysWithin 71 = .ok (.iconst 0, 1) := by decide +kernel
theorem dX2_staysWithin_72 : decode cX2_staysWithin 72 = .ok (.ireturn, 1) := by decide +kernel
