theorem dX3_maySet_0 : decode cX3_maySet 0 = .ok (.iload_n 1, 1) := by decide +kernel
theorem dX3_maySet_1 : decode cX3_maySet 1 = .ok (.ifCond .ne 14, 3) := by decide +kernel
theorem dX3_maySet_4 : decode cX3_maySet 4 = .ok (.iload_n 2, 1) := by decide +kernel
theorem dX3_maySet_5 : decode cX3_maySet 5 = .ok (.iconst 0, 1) := by decide +kernel
theorem dX3_maySet_6 : decode cX3_maySet 6 = .ok (.sipush 1000, 3) := by decide +kernel
theorem dX3_maySet_9 : decode cX3_maySet 9 = .ok (.invokestatic 74, 3) := by decide +kernel
theorem dX3_maySet_12 : decode cX3_maySet 12 = .ok (.goto 39, 3) := by decide +kernel
theorem dX3_maySet_15 : decode cX3_maySet 15 = .ok (.iload_n 1, 1) := by decide +kernel
theorem dX3_maySet_16 : decode cX3_maySet 16 = .ok (.iconst 1, 1) := by decide +kernel
theorem dX3_maySet_17 : decode cX3_maySet 17 = .ok (.if_icmp .ne 14, 3) := by decide +kernel
theorem dX3_maySet_20 : decode cX3_maySet 20 = .ok (.iload_n 2, 1) := by decide +kernel
theorem dX3_maySet_21 : decode cX3_maySet 21 = .ok (.bipush (-100), 2) := by decide +kernel
theorem dX3_maySet_23 : decode cX3_maySet 23 = .ok (.bipush 100, 2) := by decide +kernel
theorem dX3_maySet_25 : decode cX3_maySet 25 = .ok (.invokestatic 74, 3) := by decide +kernel
theorem dX3_maySet_28 : decode cX3_maySet 28 = .ok (.goto 23, 3) := by decide +kernel
theorem dX3_maySet_31 : decode cX3_maySet 31 = .ok (.iload_n 1, 1) := by decide +kernel
theorem dX3_maySet_32 : decode cX3_maySet 32 = .ok (.iconst 2, 1) := by decide +kernel
theorem dX3_maySet_33 : decode cX3_maySet 33 = .ok (.if_icmp .ne 17, 3) := by decide +kernel
theorem dX3_maySet_36 : decode cX3_maySet 36 = .ok (.iload_n 2, 1) := by decide +kernel
theorem dX3_maySet_37 : decode cX3_maySet 37 = .ok (.iconst 1, 1) := by decide +kernel
theorem dX3_maySet_38 : decode cX3_maySet 38 = .ok (.bipush 99, 2) := by decide +kernel
theorem dX3_maySet_40 : decode cX3_maySet 40 = .ok (.invokestatic 74, 3) := by decide +kernel
theorem dX3_maySet_43 : decode cX3_maySet 43 = .ok (.ifCond .eq 7, 3) := by decide +kernel
theorem dX3_maySet_46 : decode cX3_maySet 46 = .ok (.iconst 1, 1) := by decide +kernel
theorem dX3_maySet_47 : decode cX3_maySet 47 = .ok (.goto 4, 3) := by decide +kernel
theorem dX3_maySet_50 : decode cX3_maySet 50 = .ok (.iconst 0, 1) := by decide +kernel
theorem dX3_maySet_51 : decode cX3_maySet 51 = .ok (.ireturn, 1) := by decide +kernel
theorem dX3_mayEnd_0 : decode cX3_mayEnd 0 = .ok (.iload_n 1, 1) := by decide +kernel
theorem dX3_mayEnd_1 : decode cX3_mayEnd 1 = .ok (.ifCond .ne 12, 3) := by decide +kernel
theorem dX3_mayEnd_4 : decode cX3_mayEnd 4 = .ok (.iload_n 2, 1) := by decide +kernel
theorem dX3_mayEnd_5 : decode cX3_mayEnd 5 = .ok (.iconst 0, 1) := by decide +kernel
theorem dX3_mayEnd_6 : decode cX3_mayEnd 6 = .ok (.iconst 1, 1) := by decide +kernel
theorem dX3_mayEnd_7 : decode cX3_mayEnd 7 = .ok (.invokestatic 74, 3) := by decide +kernel
theorem dX3_mayEnd_10 : decode cX3_mayEnd 10 = .ok (.goto 22, 3) := by decide +kernel
theorem dX3_mayEnd_13 : decode cX3_mayEnd 13 = .ok (.iload_n 1, 1) := by decide +kernel
theorem dX3_mayEnd_14 : decode cX3_mayEnd 14 = .ok (.iconst 1, 1) := by decide +kernel
theorem dX3_mayEnd_15 : decode cX3_mayEnd 15 = .ok (.if_icmp .ne 16, 3) := by decide +kernel
theorem dX3_mayEnd_18 : decode cX3_mayEnd 18 = .ok (.iload_n 2, 1) := by decide +kernel
theorem dX3_mayEnd_19 : decode cX3_mayEnd 19 = .ok (.iconst 0, 1) := by decide +kernel
theorem dX3_mayEnd_20 : decode cX3_mayEnd 20 = .ok (.iconst 3, 1) := by decide +kernel
theorem dX3_mayEnd_21 : decode cX3_mayEnd 21 = .ok (.invokestatic 74, 3) := by decide +kernel
theorem dX3_mayEnd_24 : decode cX3_mayEnd 24 = .ok (.ifCond .eq 7, 3) := by decide +kernel
theorem dX3_mayEnd_27 : decode cX3_mayEnd 27 = .ok (.iconst 1, 1) := by decide +kernel
theorem dX3_mayEnd_28 : decode cX3_mayEnd 28 = .ok (.goto 4, 3) := by decide +kernel
theorem dX3_mayEnd_31 : decode cX3_mayEnd 31 = .ok (.iconst 0, 1) := by decide +kernel
theorem dX3_mayEnd_32 : decode cX3_mayEnd 32 = .ok (.ireturn, 1) := by decide +kernel
theorem dX3_isLaw_0 : decode cX3_isLaw 0 = .ok (.iload_n 1, 1) := by decide +kernel
theorem dX3_isLaw_1 : decode cX3_isLaw 1 = .ok (.iconst 0, 1) := by decide +kernel
theorem dX3_isLaw_2 : decode cX3_isLaw 2 = .ok (.iconst 5, 1) := by decide +kernel
theorem dX3_isLaw_3 : decode cX3_isLaw 3 = .ok (.invokestatic 74, 3) := by decide +kernel
theorem dX3_isLaw_6 : decode cX3_isLaw 6 = .ok (.ifCond .eq 17, 3) := by decide +kernel
theorem dX3_isLaw_9 : decode cX3_isLaw 9 = .ok (.iload_n 2, 1) := by decide +kernel
theorem dX3_isLaw_10 : decode cX3_isLaw 10 = .ok (.iconst 1, 1) := by decide +kernel
theorem dX3_isLaw_11 : decode cX3_isLaw 11 = .ok (.bipush 60, 2) := by decide +kernel
theorem dX3_isLaw_13 : decode cX3_isLaw 13 = .ok (.invokestatic 74, 3) := by decide +kernel
theorem dX3_isLaw_16 : decode cX3_isLaw 16 = .ok (.ifCond .eq 7, 3) := by decide +kernel
theorem dX3_isLaw_19 : decode cX3_isLaw 19 = .ok (.iconst 1, 1) := by decide +kernel
theorem dX3_isLaw_20 : decode cX3_isLaw 20 = .ok (.goto 4, 3) := by decide +kernel
theorem dX3_isLaw_23 : decode cX3_isLaw 23 = .ok (.iconst 0, 1) := by decide +kernel
theorem dX3_isLaw_24 : decode cX3_isLaw 24 = .ok (.ireturn, 1) := by decide +kernel
theorem dX3_becomes_0 : decode cX3_becomes 0 = .ok (.aload_n 0, 1) := by decide +kernel
theorem dX3_becomes_1 : decode cX3_becomes 1 = .ok (.getfield 7, 3) := by decide +kernel
theorem dX3_becomes_4 : decode cX3_becomes 4 = .ok (.iload_n 1, 1) := by decide +kernel
theorem dX3_becomes_5 : decode cX3_becomes 5 = .ok (.iaload, 1) := by decide +kernel
theorem dX3_becomes_6 : decode cX3_becomes 6 = .ok (.istore_n 3, 1) := by decide +kernel
theorem dX3_becomes_7 : decode cX3_becomes 7 = .ok (.aload_n 0, 1) := by decide +kernel
theorem dX3_becomes_8 : decode cX3_becomes 8 = .ok (.getfield 7, 3) := by decide +kernel
theorem dX3_becomes_11 : decode cX3_becomes 11 = .ok (.iload_n 1, 1) := by decide +kernel
theorem dX3_becomes_12 : decode cX3_becomes 12 = .ok (.iload_n 2, 1) := by decide +kernel
theorem dX3_becomes_13 : decode cX3_becomes 13 = .ok (.iastore, 1) := by decide +kernel
theorem dX3_becomes_14 : decode cX3_becomes 14 = .ok (.aload_n 0, 1) := by decide +kernel
theorem dX3_becomes_15 : decode cX3_becomes 15 = .ok (.invokevirtual 44, 3) := by decide +kernel
theorem dX3_becomes_18 : decode cX3_becomes 18 = .ok (.iload_n 3, 1) := by decide +kernel
theorem dX3_becomes_19 : decode cX3_becomes 19 = .ok (.ireturn, 1) := by decide +kernel
theorem dX3_becomesLaw_0 : decode cX3_becomesLaw 0 = .ok (.aload_n 0, 1) := by decide +kernel
theorem dX3_becomesLaw_1 : decode cX3_becomesLaw 1 = .ok (.getfield 7, 3) := by decide +kernel
theorem dX3_becomesLaw_4 : decode cX3_becomesLaw 4 = .ok (.bipush 6, 2) := by decide +kernel
theorem dX3_becomesLaw_6 : decode cX3_becomesLaw 6 = .ok (.iaload, 1) := by decide +kernel
theorem dX3_becomesLaw_7 : decode cX3_becomesLaw 7 = .ok (.istore_n 3, 1) := by decide +kernel
theorem dX3_becomesLaw_8 : decode cX3_becomesLaw 8 = .ok (.aload_n 0, 1) := by decide +kernel
theorem dX3_becomesLaw_9 : decode cX3_becomesLaw 9 = .ok (.getfield 7, 3) := by decide +kernel
theorem dX3_becomesLaw_12 : decode cX3_becomesLaw 12 = .ok (.bipush 6, 2) := by decide +kernel
theorem dX3_becomesLaw_14 : decode cX3_becomesLaw 14 = .ok (.iload_n 1, 1) := by decide +kernel
theorem dX3_becomesLaw_15 : decode cX3_becomesLaw 15 = .ok (.iastore, 1) := by decide +kernel
theorem dX3_becomesLaw_16 : decode cX3_becomesLaw 16 = .ok (.aload_n 0, 1) := by decide +kernel
theorem dX3_becomesLaw_17 : decode cX3_becomesLaw 17 = .ok (.getfield 7, 3) := by decide +kernel
theorem dX3_becomesLaw_20 : decode cX3_becomesLaw 20 = .ok (.bipush 7, 2) := by decide +kernel
theorem dX3_becomesLaw_22 : decode cX3_becomesLaw 22 = .ok (.iload_n 2, 1) := by decide +kernel
theorem dX3_becomesLaw_23 : decode cX3_becomesLaw 23 = .ok (.iastore, 1) := by decide +kernel
theorem dX3_becomesLaw_24 : decode cX3_becomesLaw 24 = .ok (.iload_n 3, 1) := by decide +kernel
theorem dX3_becomesLaw_25 : decode cX3_becomesLaw 25 = .ok (.ireturn, 1) := by decide +kernel
theorem dX3_goesOnFor_0 : decode cX3_goesOnFor 0 = .ok (.iconst 0, 1) := by decide +kernel
theorem dX3_goesOnFor_1 : decode cX3_goesOnFor 1 = .ok (.istore_n 2, 1) := by decide +kernel
theorem dX3_goesOnFor_2 : decode cX3_goesOnFor 2 = .ok (.iload_n 2, 1) := by decide +kernel
theorem dX3_goesOnFor_3 : decode cX3_goesOnFor 3 = .ok (.iload_n 1, 1) := by decide +kernel
theorem dX3_goesOnFor_4 : decode cX3_goesOnFor 4 = .ok (.if_icmp .ge 13, 3) := by decide +kernel
theorem dX3_goesOnFor_7 : decode cX3_goesOnFor 7 = .ok (.aload_n 0, 1) := by decide +kernel
theorem dX3_goesOnFor_8 : decode cX3_goesOnFor 8 = .ok (.invokevirtual 78, 3) := by decide +kernel
theorem dX3_goesOnFor_11 : decode cX3_goesOnFor 11 = .ok (.iinc 2 1, 3) := by decide +kernel
theorem dX3_goesOnFor_14 : decode cX3_goesOnFor 14 = .ok (.goto (-12), 3) := by decide +kernel
theorem dX3_goesOnFor_17 : decode cX3_goesOnFor 17 = .ok (.aload_n 0, 1) := by decide +kernel
theorem dX3_goesOnFor_18 : decode cX3_goesOnFor 18 = .ok (.getfield 7, 3) := by decide +kernel
theorem dX3_goesOnFor_21 : decode cX3_goesOnFor 21 = .ok (.bipush 8, 2) := by decide +kernel
theorem dX3_goesOnFor_23 : decode cX3_goesOnFor 23 = .ok (.iaload, 1) := by decide +kernel
theorem dX3_goesOnFor_24 : decode cX3_goesOnFor 24 = .ok (.ireturn, 1) := by decide +kernel
theorem dX3_pipe_0 : decode cX3_pipe 0 = .ok (.aload_n 0, 1) := by decide +kernel
theorem dX3_pipe_1 : decode cX3_pipe 1 = .ok (.iload_n 1, 1) := by decide +kernel
theorem dX3_pipe_2 : decode cX3_pipe 2 = .ok (.invokevirtual 81, 3) := by decide +kernel
theorem dX3_pipe_5 : decode cX3_pipe 5 = .ok (.ifCond .ne 10, 3) := by decide +kernel
theorem dX3_pipe_8 : decode cX3_pipe 8 = .ok (.aload_n 0, 1) := by decide +kernel
theorem dX3_pipe_9 : decode cX3_pipe 9 = .ok (.bipush (-2), 2) := by decide +kernel
theorem dX3_pipe_11 : decode cX3_pipe 11 = .ok (.invokevirtual 53, 3) := by decide +kernel
theorem dX3_pipe_14 : decode cX3_pipe 14 = .ok (.ireturn, 1) := by decide +kernel
theorem dX3_pipe_15 : decode cX3_pipe 15 = .ok (.aload_n 0, 1) := by decide +kernel
theorem dX3_pipe_16 : decode cX3_pipe 16 = .ok (.invokevirtual 85, 3) := by decide +kernel
theorem dX3_pipe_19 : decode cX3_pipe 19 = .ok (.aload_n 0, 1) := by decide +kernel
theorem dX3_pipe_20 : decode cX3_pipe 20 = .ok (.iconst 0, 1) := by decide +kernel
theorem dX3_pipe_21 : decode cX3_pipe 21 = .ok (.iload_n 1, 1) := by decide +kernel
theorem dX3_pipe_22 : decode cX3_pipe 22 = .ok (.invokevirtual 88, 3) := by decide +kernel
theorem dX3_pipe_25 : decode cX3_pipe 25 = .ok (.ireturn, 1) := by decide +kernel
theorem dX3_sets_0 : decode cX3_sets 0 = .ok (.aload_n 0, 1) := by decide +kernel
theorem dX3_sets_1 : decode cX3_sets 1 = .ok (.iload_n 1, 1) := by decide +kernel
theorem dX3_sets_2 : decode cX3_sets 2 = .ok (.iload_n 2, 1) := by decide +kernel
theorem dX3_sets_3 : decode cX3_sets 3 = .ok (.invokevirtual 92, 3) := by decide +kernel
theorem dX3_sets_6 : decode cX3_sets 6 = .ok (.ifCond .ne 10, 3) := by decide +kernel
theorem dX3_sets_9 : decode cX3_sets 9 = .ok (.aload_n 0, 1) := by decide +kernel
theorem dX3_sets_10 : decode cX3_sets 10 = .ok (.bipush (-2), 2) := by decide +kernel
theorem dX3_sets_12 : decode cX3_sets 12 = .ok (.invokevirtual 53, 3) := by decide +kernel
theorem dX3_sets_15 : decode cX3_sets 15 = .ok (.ireturn, 1) := by decide +kernel
theorem dX3_sets_16 : decode cX3_sets 16 = .ok (.aload_n 0, 1) := by decide +kernel
theorem dX3_sets_17 : decode cX3_sets 17 = .ok (.invokevirtual 85, 3) := by decide +kernel
theorem dX3_sets_20 : decode cX3_sets 20 = .ok (.aload_n 0, 1) := by decide +kernel
theorem dX3_sets_21 : decode cX3_sets 21 = .ok (.iconst 1, 1) := by decide +kernel
theorem dX3_sets_22 : decode cX3_sets 22 = .ok (.iload_n 1, 1) := by decide +kernel
theorem dX3_sets_23 : decode cX3_sets 23 = .ok (.iadd, 1) := by decide +kernel
theorem dX3_sets_24 : decode cX3_sets 24 = .ok (.iload_n 2, 1) := by decide +kernel
theorem dX3_sets_25 : decode cX3_sets 25 = .ok (.invokevirtual 88, 3) := by decide +kernel
theorem dX3_sets_28 : decode cX3_sets 28 = .ok (.ireturn, 1) := by decide +kernel
theorem dX3_ends_0 : decode cX3_ends 0 = .ok (.aload_n 0, 1) := by decide +kernel
theorem dX3_ends_1 : decode cX3_ends 1 = .ok (.iload_n 1, 1) := by decide +kernel
theorem dX3_ends_2 : decode cX3_ends 2 = .ok (.iload_n 2, 1) := by decide +kernel
theorem dX3_ends_3 : decode cX3_ends 3 = .ok (.invokevirtual 96, 3) := by decide +kernel
theorem dX3_ends_6 : decode cX3_ends 6 = .ok (.ifCond .ne 10, 3) := by decide +kernel
theorem dX3_ends_9 : decode cX3_ends 9 = .ok (.aload_n 0, 1) := by decide +kernel
theorem dX3_ends_10 : decode cX3_ends 10 = .ok (.bipush (-2), 2) := by decide +kernel
theorem dX3_ends_12 : decode cX3_ends 12 = .ok (.invokevirtual 53, 3) := by decide +kernel
theorem dX3_ends_15 : decode cX3_ends 15 = .ok (.ireturn, 1) := by decide +kernel
theorem dX3_ends_16 : decode cX3_ends 16 = .ok (.aload_n 0, 1) := by decide +kernel
theorem dX3_ends_17 : decode cX3_ends 17 = .ok (.invokevirtual 85, 3) := by decide +kernel
theorem dX3_ends_20 : decode cX3_ends 20 = .ok (.aload_n 0, 1) := by decide +kernel
theorem dX3_ends_21 : decode cX3_ends 21 = .ok (.iconst 4, 1) := by decide +kernel
theorem dX3_ends_22 : decode cX3_ends 22 = .ok (.iload_n 1, 1) := by decide +kernel
theorem dX3_ends_23 : decode cX3_ends 23 = .ok (.iadd, 1) := by decide +kernel
theorem dX3_ends_24 : decode cX3_ends 24 = .ok (.iload_n 2, 1) := by decide +kernel
theorem dX3_ends_25 : decode cX3_ends 25 = .ok (.invokevirtual 88, 3) := by decide +kernel
theorem dX3_ends_28 : decode cX3_ends 28 = .ok (.ireturn, 1) := by decide +kernel
theorem dX3_law_0 : decode cX3_law 0 = .ok (.aload_n 0, 1) := by decide +kernel
theorem dX3_law_1 : decode cX3_law 1 = .ok (.iload_n 1, 1) := by decide +kernel
theorem dX3_law_2 : decode cX3_law 2 = .ok (.iload_n 2, 1) := by decide +kernel
theorem dX3_law_3 : decode cX3_law 3 = .ok (.invokevirtual 99, 3) := by decide +kernel
theorem dX3_law_6 : decode cX3_law 6 = .ok (.ifCond .ne 10, 3) := by decide +kernel
theorem dX3_law_9 : decode cX3_law 9 = .ok (.aload_n 0, 1) := by decide +kernel
theorem dX3_law_10 : decode cX3_law 10 = .ok (.bipush (-2), 2) := by decide +kernel
theorem dX3_law_12 : decode cX3_law 12 = .ok (.invokevirtual 53, 3) := by decide +kernel
theorem dX3_law_15 : decode cX3_law 15 = .ok (.ireturn, 1) := by decide +kernel
theorem dX3_law_16 : decode cX3_law 16 = .ok (.aload_n 0, 1) := by decide +kernel
theorem dX3_law_17 : decode cX3_law 17 = .ok (.invokevirtual 85, 3) := by decide +kernel
theorem dX3_law_20 : decode cX3_law 20 = .ok (.aload_n 0, 1) := by decide +kernel
theorem dX3_law_21 : decode cX3_law 21 = .ok (.iload_n 1, 1) := by decide +kernel
theorem dX3_law_22 : decode cX3_law 22 = .ok (.iload_n 2, 1) := by decide +kernel
theorem dX3_law_23 : decode cX3_law 23 = .ok (.invokevirtual 102, 3) := by decide +kernel
theorem dX3_law_26 : decode cX3_law 26 = .ok (.ireturn, 1) := by decide +kernel
theorem dX3_steady_0 : decode cX3_steady 0 = .ok (.aload_n 0, 1) := by decide +kernel
theorem dX3_steady_1 : decode cX3_steady 1 = .ok (.invokevirtual 85, 3) := by decide +kernel
theorem dX3_steady_4 : decode cX3_steady 4 = .ok (.aload_n 0, 1) := by decide +kernel
theorem dX3_steady_5 : decode cX3_steady 5 = .ok (.getfield 7, 3) := by decide +kernel
theorem dX3_steady_8 : decode cX3_steady 8 = .ok (.bipush 8, 2) := by decide +kernel
theorem dX3_steady_10 : decode cX3_steady 10 = .ok (.iaload, 1) := by decide +kernel
theorem dX3_steady_11 : decode cX3_steady 11 = .ok (.istore_n 1, 1) := by decide +kernel
theorem dX3_steady_12 : decode cX3_steady 12 = .ok (.aload_n 0, 1) := by decide +kernel
theorem dX3_steady_13 : decode cX3_steady 13 = .ok (.invokevirtual 44, 3) := by decide +kernel
theorem dX3_steady_16 : decode cX3_steady 16 = .ok (.iload_n 1, 1) := by decide +kernel
theorem dX3_steady_17 : decode cX3_steady 17 = .ok (.ireturn, 1) := by decide +kernel
theorem dX3_steps_0 : decode cX3_steps 0 = .ok (.iload_n 1, 1) := by decide +kernel
theorem dX3_steps_1 : decode cX3_steps 1 = .ok (.iconst 1, 1) := by decide +kernel
theorem dX3_steps_2 : decode cX3_steps 2 = .ok (.bipush 100, 2) := by decide +kernel
theorem dX3_steps_4 : decode cX3_steps 4 = .ok (.invokestatic 74, 3) := by decide +kernel
theorem dX3_steps_7 : decode cX3_steps 7 = .ok (.ifCond .ne 10, 3) := by decide +kernel
theorem dX3_steps_10 : decode cX3_steps 10 = .ok (.aload_n 0, 1) := by decide +kernel
theorem dX3_steps_11 : decode cX3_steps 11 = .ok (.bipush (-2), 2) := by decide +kernel
theorem dX3_steps_13 : decode cX3_steps 13 = .ok (.invokevirtual 53, 3) := by decide +kernel
theorem dX3_steps_16 : decode cX3_steps 16 = .ok (.ireturn, 1) := by decide +kernel
theorem dX3_steps_17 : decode cX3_steps 17 = .ok (.aload_n 0, 1) := by decide +kernel
theorem dX3_steps_18 : decode cX3_steps 18 = .ok (.getfield 7, 3) := by decide +kernel
theorem dX3_steps_21 : decode cX3_steps 21 = .ok (.bipush 8, 2) := by decide +kernel
theorem dX3_steps_23 : decode cX3_steps 23 = .ok (.iaload, 1) := by decide +kernel
theorem dX3_steps_24 : decode cX3_steps 24 = .ok (.iload_n 1, 1) := by decide +kernel
theorem dX3_steps_25 : decode cX3_steps 25 = .ok (.iadd, 1) := by decide +kernel
theorem dX3_steps_26 : decode cX3_steps 26 = .ok (.sipush 999, 3) := by decide +kernel
theorem dX3_steps_29 : decode cX3_steps 29 = .ok (.if_icmp .le 10, 3) := by decide +kernel
theorem dX3_steps_32 : decode cX3_steps 32 = .ok (.aload_n 0, 1) := by decide +kernel
theorem dX3_steps_33 : decode cX3_steps 33 = .ok (.bipush (-4), 2) := by decide +kernel
theorem dX3_steps_35 : decode cX3_steps 35 = .ok (.invokevirtual 53, 3) := by decide +kernel
theorem dX3_steps_38 : decode cX3_steps 38 = .ok (.ireturn, 1) := by decide +kernel
theorem dX3_steps_39 : decode cX3_steps 39 = .ok (.aload_n 0, 1) := by decide +kernel
theorem dX3_steps_40 : decode cX3_steps 40 = .ok (.invokevirtual 85, 3) := by decide +kernel
theorem dX3_steps_43 : decode cX3_steps 43 = .ok (.aload_n 0, 1) := by decide +kernel
theorem dX3_steps_44 : decode cX3_steps 44 = .ok (.iload_n 1, 1) := by decide +kernel
theorem dX3_steps_45 : decode cX3_steps 45 = .ok (.invokevirtual 105, 3) := by decide +kernel
theorem dX3_steps_48 : decode cX3_steps 48 = .ok (.ireturn, 1) := by decide +kernel
theorem dX3_whole_0 : decode cX3_whole 0 = .ok (.ldc2_w 108, 3) := by decide +kernel
theorem dX3_whole_3 : decode cX3_whole 3 = .ok (.dload_n 0, 1) := by decide +kernel
theorem dX3_whole_4 : decode cX3_whole 4 = .ok (.dmul, 1) := by decide +kernel
theorem dX3_whole_5 : decode cX3_whole 5 = .ok (.d2l, 1) := by decide +kernel
theorem dX3_whole_6 : decode cX3_whole 6 = .ok (.lreturn, 1) := by decide +kernel
theorem dX3_nodeIs_0 : decode cX3_nodeIs 0 = .ok (.iload_n 2, 1) := by decide +kernel
theorem dX3_nodeIs_1 : decode cX3_nodeIs 1 = .ok (.tableswitch 96 0 4 #[35, 52, 69, 76, 86], 35) := by decide +kernel
theorem dX3_nodeIs_36 : decode cX3_nodeIs 36 = .ok (.aload_n 0, 1) := by decide +kernel
theorem dX3_nodeIs_37 : decode cX3_nodeIs 37 = .ok (.getfield 13, 3) := by decide +kernel
theorem dX3_nodeIs_40 : decode cX3_nodeIs 40 = .ok (.iload_n 1, 1) := by decide +kernel
theorem dX3_nodeIs_41 : decode cX3_nodeIs 41 = .ok (.daload, 1) := by decide +kernel
theorem dX3_nodeIs_42 : decode cX3_nodeIs 42 = .ok (.aload_n 0, 1) := by decide +kernel
theorem dX3_nodeIs_43 : decode cX3_nodeIs 43 = .ok (.getfield 13, 3) := by decide +kernel
theorem dX3_nodeIs_46 : decode cX3_nodeIs 46 = .ok (.bipush 11, 2) := by decide +kernel
theorem dX3_nodeIs_48 : decode cX3_nodeIs 48 = .ok (.iload_n 1, 1) := by decide +kernel
theorem dX3_nodeIs_49 : decode cX3_nodeIs 49 = .ok (.iadd, 1) := by decide +kernel
theorem dX3_nodeIs_50 : decode cX3_nodeIs 50 = .ok (.daload, 1) := by decide +kernel
theorem dX3_nodeIs_51 : decode cX3_nodeIs 51 = .ok (.dadd, 1) := by decide +kernel
theorem dX3_nodeIs_52 : decode cX3_nodeIs 52 = .ok (.dreturn, 1) := by decide +kernel
theorem dX3_nodeIs_53 : decode cX3_nodeIs 53 = .ok (.aload_n 0, 1) := by decide +kernel
theorem dX3_nodeIs_54 : decode cX3_nodeIs 54 = .ok (.getfield 13, 3) := by decide +kernel
theorem dX3_nodeIs_57 : decode cX3_nodeIs 57 = .ok (.iload_n 1, 1) := by decide +kernel
theorem dX3_nodeIs_58 : decode cX3_nodeIs 58 = .ok (.daload, 1) := by decide +kernel
theorem dX3_nodeIs_59 : decode cX3_nodeIs 59 = .ok (.aload_n 0, 1) := by decide +kernel
theorem dX3_nodeIs_60 : decode cX3_nodeIs 60 = .ok (.getfield 13, 3) := by decide +kernel
theorem dX3_nodeIs_63 : decode cX3_nodeIs 63 = .ok (.bipush 11, 2) := by decide +kernel
theorem dX3_nodeIs_65 : decode cX3_nodeIs 65 = .ok (.iload_n 1, 1) := by decide +kernel
theorem dX3_nodeIs_66 : decode cX3_nodeIs 66 = .ok (.iadd, 1) := by decide +kernel
theorem dX3_nodeIs_67 : decode cX3_nodeIs 67 = .ok (.daload, 1) := by decide +kernel
theorem dX3_nodeIs_68 : decode cX3_nodeIs 68 = .ok (.dsub, 1) := by decide +kernel
theorem dX3_nodeIs_69 : decode cX3_nodeIs 69 = .ok (.dreturn, 1) := by decide +kernel
theorem dX3_nodeIs_70 : decode cX3_nodeIs 70 = .ok (.aload_n 0, 1) := by decide +kernel
theorem dX3_nodeIs_71 : decode cX3_nodeIs 71 = .ok (.getfield 13, 3) := by decide +kernel
theorem dX3_nodeIs_74 : decode cX3_nodeIs 74 = .ok (.iload_n 1, 1) := by decide +kernel
theorem dX3_nodeIs_75 : decode cX3_nodeIs 75 = .ok (.daload, 1) := by decide +kernel
theorem dX3_nodeIs_76 : decode cX3_nodeIs 76 = .ok (.dreturn, 1) := by decide +kernel
theorem dX3_nodeIs_77 : decode cX3_nodeIs 77 = .ok (.aload_n 0, 1) := by decide +kernel
theorem dX3_nodeIs_78 : decode cX3_nodeIs 78 = .ok (.getfield 13, 3) := by decide +kernel
theorem dX3_nodeIs_81 : decode cX3_nodeIs 81 = .ok (.bipush 11, 2) := by decide +kernel
theorem dX3_nodeIs_83 : decode cX3_nodeIs 83 = .ok (.iload_n 1, 1) := by decide +kernel
theorem dX3_nodeIs_84 : decode cX3_nodeIs 84 = .ok (.iadd, 1) := by decide +kernel
theorem dX3_nodeIs_85 : decode cX3_nodeIs 85 = .ok (.daload, 1) := by decide +kernel
theorem dX3_nodeIs_86 : decode cX3_nodeIs 86 = .ok (.dreturn, 1) := by decide +kernel
theorem dX3_nodeIs_87 : decode cX3_nodeIs 87 = .ok (.aload_n 0, 1) := by decide +kernel
theorem dX3_nodeIs_88 : decode cX3_nodeIs 88 = .ok (.getfield 13, 3) := by decide +kernel
theorem dX3_nodeIs_91 : decode cX3_nodeIs 91 = .ok (.bipush 22, 2) := by decide +kernel
theorem dX3_nodeIs_93 : decode cX3_nodeIs 93 = .ok (.iload_n 1, 1) := by decide +kernel
theorem dX3_nodeIs_94 : decode cX3_nodeIs 94 = .ok (.iadd, 1) := by decide +kernel
theorem dX3_nodeIs_95 : decode cX3_nodeIs 95 = .ok (.daload, 1) := by decide +kernel
theorem dX3_nodeIs_96 : decode cX3_nodeIs 96 = .ok (.dreturn, 1) := by decide +kernel
theorem dX3_nodeIs_97 : decode cX3_nodeIs 97 = .ok (.aload_n 0, 1) := by decide +kernel
theorem dX3_nodeIs_98 : decode cX3_nodeIs 98 = .ok (.getfield 13, 3) := by decide +kernel
theorem dX3_nodeIs_101 : decode cX3_nodeIs 101 = .ok (.bipush 33, 2) := by decide +kernel
theorem dX3_nodeIs_103 : decode cX3_nodeIs 103 = .ok (.iload_n 1, 1) := by decide +kernel
theorem dX3_nodeIs_104 : decode cX3_nodeIs 104 = .ok (.iadd, 1) := by decide +kernel
theorem dX3_nodeIs_105 : decode cX3_nodeIs 105 = .ok (.daload, 1) := by decide +kernel
theorem dX3_nodeIs_106 : decode cX3_nodeIs 106 = .ok (.dreturn, 1) := by decide +kernel
theorem dX3_node_0 : decode cX3_node 0 = .ok (.iload_n 1, 1) := by decide +kernel
theorem dX3_node_1 : decode cX3_node 1 = .ok (.iconst 0, 1) := by decide +kernel
theorem dX3_node_2 : decode cX3_node 2 = .ok (.aload_n 0, 1) := by decide +kernel
theorem dX3_node_3 : decode cX3_node 3 = .ok (.getfield 7, 3) := by decide +kernel
theorem dX3_node_6 : decode cX3_node 6 = .ok (.iconst 0, 1) := by decide +kernel
theorem dX3_node_7 : decode cX3_node 7 = .ok (.iaload, 1) := by decide +kernel
theorem dX3_node_8 : decode cX3_node 8 = .ok (.invokestatic 74, 3) := by decide +kernel
theorem dX3_node_11 : decode cX3_node 11 = .ok (.ifCond .eq 24, 3) := by decide +kernel
theorem dX3_node_14 : decode cX3_node 14 = .ok (.iload_n 2, 1) := by decide +kernel
theorem dX3_node_15 : decode cX3_node 15 = .ok (.iconst 0, 1) := by decide +kernel
theorem dX3_node_16 : decode cX3_node 16 = .ok (.iconst 5, 1) := by decide +kernel
theorem dX3_node_17 : decode cX3_node 17 = .ok (.invokestatic 74, 3) := by decide +kernel
theorem dX3_node_20 : decode cX3_node 20 = .ok (.ifCond .eq 15, 3) := by decide +kernel
theorem dX3_node_23 : decode cX3_node 23 = .ok (.aload_n 0, 1) := by decide +kernel
theorem dX3_node_24 : decode cX3_node 24 = .ok (.iload_n 1, 1) := by decide +kernel
theorem dX3_node_25 : decode cX3_node 25 = .ok (.iload_n 2, 1) := by decide +kernel
theorem dX3_node_26 : decode cX3_node 26 = .ok (.invokevirtual 110, 3) := by decide +kernel
theorem dX3_node_29 : decode cX3_node 29 = .ok (.invokestatic 114, 3) := by decide +kernel
theorem dX3_node_32 : decode cX3_node 32 = .ok (.goto 7, 3) := by decide +kernel
theorem dX3_node_35 : decode cX3_node 35 = .ok (.aload_n 0, 1) := by decide +kernel
theorem dX3_node_36 : decode cX3_node 36 = .ok (.invokevirtual 118, 3) := by decide +kernel
theorem dX3_node_39 : decode cX3_node 39 = .ok (.lreturn, 1) := by decide +kernel
theorem dX3_kept_0 : decode cX3_kept 0 = .ok (.dconst 0, 1) := by decide +kernel
theorem dX3_kept_1 : decode cX3_kept 1 = .ok (.dstore_n 1, 1) := by decide +kernel
theorem dX3_kept_2 : decode cX3_kept 2 = .ok (.iconst 0, 1) := by decide +kernel
theorem dX3_kept_3 : decode cX3_kept 3 = .ok (.istore_n 3, 1) := by decide +kernel
theorem dX3_kept_4 : decode cX3_kept 4 = .ok (.iload_n 3, 1) := by decide +kernel
theorem dX3_kept_5 : decode cX3_kept 5 = .ok (.aload_n 0, 1) := by decide +kernel
theorem dX3_kept_6 : decode cX3_kept 6 = .ok (.getfield 7, 3) := by decide +kernel
theorem dX3_kept_9 : decode cX3_kept 9 = .ok (.iconst 0, 1) := by decide +kernel
theorem dX3_kept_10 : decode cX3_kept 10 = .ok (.iaload, 1) := by decide +kernel
theorem dX3_kept_11 : decode cX3_kept 11 = .ok (.if_icmp .gt 45, 3) := by decide +kernel
theorem dX3_kept_14 : decode cX3_kept 14 = .ok (.dload_n 1, 1) := by decide +kernel
theorem dX3_kept_15 : decode cX3_kept 15 = .ok (.aload_n 0, 1) := by decide +kernel
theorem dX3_kept_16 : decode cX3_kept 16 = .ok (.getfield 13, 3) := by decide +kernel
theorem dX3_kept_19 : decode cX3_kept 19 = .ok (.iload_n 3, 1) := by decide +kernel
theorem dX3_kept_20 : decode cX3_kept 20 = .ok (.daload, 1) := by decide +kernel
theorem dX3_kept_21 : decode cX3_kept 21 = .ok (.aload_n 0, 1) := by decide +kernel
theorem dX3_kept_22 : decode cX3_kept 22 = .ok (.getfield 13, 3) := by decide +kernel
theorem dX3_kept_25 : decode cX3_kept 25 = .ok (.iload_n 3, 1) := by decide +kernel
theorem dX3_kept_26 : decode cX3_kept 26 = .ok (.daload, 1) := by decide +kernel
theorem dX3_kept_27 : decode cX3_kept 27 = .ok (.dmul, 1) := by decide +kernel
theorem dX3_kept_28 : decode cX3_kept 28 = .ok (.aload_n 0, 1) := by decide +kernel
theorem dX3_kept_29 : decode cX3_kept 29 = .ok (.getfield 13, 3) := by decide +kernel
theorem dX3_kept_32 : decode cX3_kept 32 = .ok (.bipush 11, 2) := by decide +kernel
theorem dX3_kept_34 : decode cX3_kept 34 = .ok (.iload_n 3, 1) := by decide +kernel
theorem dX3_kept_35 : decode cX3_kept 35 = .ok (.iadd, 1) := by decide +kernel
theorem dX3_kept_36 : decode cX3_kept 36 = .ok (.daload, 1) := by decide +kernel
theorem dX3_kept_37 : decode cX3_kept 37 = .ok (.aload_n 0, 1) := by decide +kernel
theorem dX3_kept_38 : decode cX3_kept 38 = .ok (.getfield 13, 3) := by decide +kernel
theorem dX3_kept_41 : decode cX3_kept 41 = .ok (.bipush 11, 2) := by decide +kernel
theorem dX3_kept_43 : decode cX3_kept 43 = .ok (.iload_n 3, 1) := by decide +kernel
theorem dX3_kept_44 : decode cX3_kept 44 = .ok (.iadd, 1) := by decide +kernel
theorem dX3_kept_45 : decode cX3_kept 45 = .ok (.daload, 1) := by decide +kernel
theorem dX3_kept_46 : decode cX3_kept 46 = .ok (.dmul, 1) := by decide +kernel
theorem dX3_kept_47 : decode cX3_kept 47 = .ok (.dadd, 1) := by decide +kernel
theorem dX3_kept_48 : decode cX3_kept 48 = .ok (.dadd, 1) := by decide +kernel
theorem dX3_kept_49 : decode cX3_kept 49 = .ok (.dstore_n 1, 1) := by decide +kernel
theorem dX3_kept_50 : decode cX3_kept 50 = .ok (.iinc 3 1, 3) := by decide +kernel
theorem dX3_kept_53 : decode cX3_kept 53 = .ok (.goto (-49), 3) := by decide +kernel
theorem dX3_kept_56 : decode cX3_kept 56 = .ok (.dload_n 1, 1) := by decide +kernel
theorem dX3_kept_57 : decode cX3_kept 57 = .ok (.dreturn, 1) := by decide +kernel
theorem dX3_farthest_0 : decode cX3_farthest 0 = .ok (.aload_n 0, 1) := by decide +kernel
theorem dX3_farthest_1 : decode cX3_farthest 1 = .ok (.getfield 13, 3) := by decide +kernel
theorem dX3_farthest_4 : decode cX3_farthest 4 = .ok (.iload_n 1, 1) := by decide +kernel
theorem dX3_farthest_5 : decode cX3_farthest 5 = .ok (.daload, 1) := by decide +kernel
theorem dX3_farthest_6 : decode cX3_farthest 6 = .ok (.dstore_n 3, 1) := by decide +kernel
theorem dX3_farthest_7 : decode cX3_farthest 7 = .ok (.iconst 1, 1) := by decide +kernel
theorem dX3_farthest_8 : decode cX3_farthest 8 = .ok (.istore 5, 2) := by decide +kernel
theorem dX3_farthest_10 : decode cX3_farthest 10 = .ok (.iload 5, 2) := by decide +kernel
theorem dX3_farthest_12 : decode cX3_farthest 12 = .ok (.aload_n 0, 1) := by decide +kernel
theorem dX3_farthest_13 : decode cX3_farthest 13 = .ok (.getfield 7, 3) := by decide +kernel
theorem dX3_farthest_16 : decode cX3_farthest 16 = .ok (.iconst 0, 1) := by decide +kernel
theorem dX3_farthest_17 : decode cX3_farthest 17 = .ok (.iaload, 1) := by decide +kernel
theorem dX3_farthest_18 : decode cX3_farthest 18 = .ok (.if_icmp .gt 54, 3) := by decide +kernel
theorem dX3_farthest_21 : decode cX3_farthest 21 = .ok (.aload_n 0, 1) := by decide +kernel
theorem dX3_farthest_22 : decode cX3_farthest 22 = .ok (.getfield 13, 3) := by decide +kernel
theorem dX3_farthest_25 : decode cX3_farthest 25 = .ok (.iload_n 1, 1) := by decide +kernel
theorem dX3_farthest_26 : decode cX3_farthest 26 = .ok (.iload 5, 2) := by decide +kernel
theorem dX3_farthest_28 : decode cX3_farthest 28 = .ok (.iadd, 1) := by decide +kernel
theorem dX3_farthest_29 : decode cX3_farthest 29 = .ok (.daload, 1) := by decide +kernel
theorem dX3_farthest_30 : decode cX3_farthest 30 = .ok (.dstore 6, 2) := by decide +kernel
theorem dX3_farthest_32 : decode cX3_farthest 32 = .ok (.iload_n 2, 1) := by decide +kernel
theorem dX3_farthest_33 : decode cX3_farthest 33 = .ok (.ifCond .eq 19, 3) := by decide +kernel
theorem dX3_farthest_36 : decode cX3_farthest 36 = .ok (.dload 6, 2) := by decide +kernel
theorem dX3_farthest_38 : decode cX3_farthest 38 = .ok (.dload_n 3, 1) := by decide +kernel
theorem dX3_farthest_39 : decode cX3_farthest 39 = .ok (.dcmp .l, 1) := by decide +kernel
theorem dX3_farthest_40 : decode cX3_farthest 40 = .ok (.ifCond .le 8, 3) := by decide +kernel
theorem dX3_farthest_43 : decode cX3_farthest 43 = .ok (.dload 6, 2) := by decide +kernel
theorem dX3_farthest_45 : decode cX3_farthest 45 = .ok (.goto 20, 3) := by decide +kernel
theorem dX3_farthest_48 : decode cX3_farthest 48 = .ok (.dload_n 3, 1) := by decide +kernel
theorem dX3_farthest_49 : decode cX3_farthest 49 = .ok (.goto 16, 3) := by decide +kernel
theorem dX3_farthest_52 : decode cX3_farthest 52 = .ok (.dload 6, 2) := by decide +kernel
theorem dX3_farthest_54 : decode cX3_farthest 54 = .ok (.dload_n 3, 1) := by decide +kernel
theorem dX3_farthest_55 : decode cX3_farthest 55 = .ok (.dcmp .g, 1) := by decide +kernel
theorem dX3_farthest_56 : decode cX3_farthest 56 = .ok (.ifCond .ge 8, 3) := by decide +kernel
theorem dX3_farthest_59 : decode cX3_farthest 59 = .ok (.dload 6, 2) := by decide +kernel
theorem dX3_farthest_61 : decode cX3_farthest 61 = .ok (.goto 4, 3) := by decide +kernel
theorem dX3_farthest_64 : decode cX3_farthest 64 = .ok (.dload_n 3, 1) := by decide +kernel
theorem dX3_farthest_65 : decode cX3_farthest 65 = .ok (.dstore_n 3, 1) := by decide +kernel
theorem dX3_farthest_66 : decode cX3_farthest 66 = .ok (.iinc 5 1, 3) := by decide +kernel
theorem dX3_farthest_69 : decode cX3_farthest 69 = .ok (.goto (-59), 3) := by decide +kernel
theorem dX3_farthest_72 : decode cX3_farthest 72 = .ok (.dload_n 3, 1) := by decide +kernel
theorem dX3_farthest_73 : decode cX3_farthest 73 = .ok (.dreturn, 1) := by decide +kernel
theorem dX3_allIs_0 : decode cX3_allIs 0 = .ok (.iload_n 1, 1) := by decide +kernel
theorem dX3_allIs_1 : decode cX3_allIs 1 = .ok (.tableswitch 48 0 2 #[27, 32, 40], 27) := by decide +kernel
theorem dX3_allIs_28 : decode cX3_allIs 28 = .ok (.aload_n 0, 1) := by decide +kernel
theorem dX3_allIs_29 : decode cX3_allIs 29 = .ok (.invokevirtual 122, 3) := by decide +kernel
theorem dX3_allIs_32 : decode cX3_allIs 32 = .ok (.dreturn, 1) := by decide +kernel
theorem dX3_allIs_33 : decode cX3_allIs 33 = .ok (.aload_n 0, 1) := by decide +kernel
theorem dX3_allIs_34 : decode cX3_allIs 34 = .ok (.bipush 22, 2) := by decide +kernel
theorem dX3_allIs_36 : decode cX3_allIs 36 = .ok (.iconst 1, 1) := by decide +kernel
theorem dX3_allIs_37 : decode cX3_allIs 37 = .ok (.invokevirtual 126, 3) := by decide +kernel
theorem dX3_allIs_40 : decode cX3_allIs 40 = .ok (.dreturn, 1) := by decide +kernel
theorem dX3_allIs_41 : decode cX3_allIs 41 = .ok (.aload_n 0, 1) := by decide +kernel
theorem dX3_allIs_42 : decode cX3_allIs 42 = .ok (.bipush 33, 2) := by decide +kernel
theorem dX3_allIs_44 : decode cX3_allIs 44 = .ok (.iconst 0, 1) := by decide +kernel
theorem dX3_allIs_45 : decode cX3_allIs 45 = .ok (.invokevirtual 126, 3) := by decide +kernel
theorem dX3_allIs_48 : decode cX3_allIs 48 = .ok (.dreturn, 1) := by decide +kernel
theorem dX3_allIs_49 : decode cX3_allIs 49 = .ok (.aload_n 0, 1) := by decide +kernel
theorem dX3_allIs_50 : decode cX3_allIs 50 = .ok (.getfield 7, 3) := by decide +kernel
theorem dX3_allIs_53 : decode cX3_allIs 53 = .ok (.iconst 5, 1) := by decide +kernel
theorem dX3_allIs_54 : decode cX3_allIs 54 = .ok (.iaload, 1) := by decide +kernel
theorem dX3_allIs_55 : decode cX3_allIs 55 = .ok (.iconst 3, 1) := by decide +kernel
theorem dX3_allIs_56 : decode cX3_allIs 56 = .ok (.if_icmp .ne 13, 3) := by decide +kernel
theorem dX3_allIs_59 : decode cX3_allIs 59 = .ok (.aload_n 0, 1) := by decide +kernel
theorem dX3_allIs_60 : decode cX3_allIs 60 = .ok (.getfield 13, 3) := by decide +kernel
theorem dX3_allIs_63 : decode cX3_allIs 63 = .ok (.bipush 44, 2) := by decide +kernel
theorem dX3_allIs_65 : decode cX3_allIs 65 = .ok (.daload, 1) := by decide +kernel
theorem dX3_allIs_66 : decode cX3_allIs 66 = .ok (.goto 10, 3) := by decide +kernel
theorem dX3_allIs_69 : decode cX3_allIs 69 = .ok (.aload_n 0, 1) := by decide +kernel
theorem dX3_allIs_70 : decode cX3_allIs 70 = .ok (.getfield 7, 3) := by decide +kernel
theorem dX3_allIs_73 : decode cX3_allIs 73 = .ok (.iconst 1, 1) := by decide +kernel
theorem dX3_allIs_74 : decode cX3_allIs 74 = .ok (.iaload, 1) := by decide +kernel
theorem dX3_allIs_75 : decode cX3_allIs 75 = .ok (.i2d, 1) := by decide +kernel
theorem dX3_allIs_76 : decode cX3_allIs 76 = .ok (.dreturn, 1) := by decide +kernel
theorem dX3_all_0 : decode cX3_all 0 = .ok (.iload_n 1, 1) := by decide +kernel
theorem dX3_all_1 : decode cX3_all 1 = .ok (.iconst 0, 1) := by decide +kernel
theorem dX3_all_2 : decode cX3_all 2 = .ok (.iconst 3, 1) := by decide +kernel
theorem dX3_all_3 : decode cX3_all 3 = .ok (.invokestatic 74, 3) := by decide +kernel
theorem dX3_all_6 : decode cX3_all 6 = .ok (.ifCond .eq 14, 3) := by decide +kernel
theorem dX3_all_9 : decode cX3_all 9 = .ok (.aload_n 0, 1) := by decide +kernel
theorem dX3_all_10 : decode cX3_all 10 = .ok (.iload_n 1, 1) := by decide +kernel
theorem dX3_all_11 : decode cX3_all 11 = .ok (.invokevirtual 130, 3) := by decide +kernel
theorem dX3_all_14 : decode cX3_all 14 = .ok (.invokestatic 114, 3) := by decide +kernel
theorem dX3_all_17 : decode cX3_all 17 = .ok (.goto 7, 3) := by decide +kernel
theorem dX3_all_20 : decode cX3_all 20 = .ok (.aload_n 0, 1) := by decide +kernel
theorem dX3_all_21 : decode cX3_all 21 = .ok (.invokevirtual 118, 3) := by decide +kernel
theorem dX3_all_24 : decode cX3_all 24 = .ok (.lreturn, 1) := by decide +kernel
theorem dX3_bits_0 : decode cX3_bits 0 = .ok (.iload_n 1, 1) := by decide +kernel
theorem dX3_bits_1 : decode cX3_bits 1 = .ok (.iconst 0, 1) := by decide +kernel
theorem dX3_bits_2 : decode cX3_bits 2 = .ok (.aload_n 0, 1) := by decide +kernel
theorem dX3_bits_3 : decode cX3_bits 3 = .ok (.getfield 7, 3) := by decide +kernel
theorem dX3_bits_6 : decode cX3_bits 6 = .ok (.iconst 0, 1) := by decide +kernel
theorem dX3_bits_7 : decode cX3_bits 7 = .ok (.iaload, 1) := by decide +kernel
theorem dX3_bits_8 : decode cX3_bits 8 = .ok (.invokestatic 74, 3) := by decide +kernel
theorem dX3_bits_11 : decode cX3_bits 11 = .ok (.ifCond .eq 25, 3) := by decide +kernel
theorem dX3_bits_14 : decode cX3_bits 14 = .ok (.aload_n 0, 1) := by decide +kernel
theorem dX3_bits_15 : decode cX3_bits 15 = .ok (.getfield 13, 3) := by decide +kernel
theorem dX3_bits_18 : decode cX3_bits 18 = .ok (.iload_n 1, 1) := by decide +kernel
theorem dX3_bits_19 : decode cX3_bits 19 = .ok (.daload, 1) := by decide +kernel
theorem dX3_bits_20 : decode cX3_bits 20 = .ok (.aload_n 0, 1) := by decide +kernel
theorem dX3_bits_21 : decode cX3_bits 21 = .ok (.getfield 13, 3) := by decide +kernel
theorem dX3_bits_24 : decode cX3_bits 24 = .ok (.bipush 11, 2) := by decide +kernel
theorem dX3_bits_26 : decode cX3_bits 26 = .ok (.iload_n 1, 1) := by decide +kernel
theorem dX3_bits_27 : decode cX3_bits 27 = .ok (.iadd, 1) := by decide +kernel
theorem dX3_bits_28 : decode cX3_bits 28 = .ok (.daload, 1) := by decide +kernel
theorem dX3_bits_29 : decode cX3_bits 29 = .ok (.dadd, 1) := by decide +kernel
theorem dX3_bits_30 : decode cX3_bits 30 = .ok (.invokestatic 134, 3) := by decide +kernel
theorem dX3_bits_33 : decode cX3_bits 33 = .ok (.goto 7, 3) := by decide +kernel
theorem dX3_bits_36 : decode cX3_bits 36 = .ok (.aload_n 0, 1) := by decide +kernel
theorem dX3_bits_37 : decode cX3_bits 37 = .ok (.invokevirtual 118, 3) := by decide +kernel
theorem dX3_bits_40 : decode cX3_bits 40 = .ok (.lreturn, 1) := by decide +kernel
theorem dX3_lets_0 : decode cX3_lets 0 = .ok (.aload_n 0, 1) := by decide +kernel
theorem dX3_lets_1 : decode cX3_lets 1 = .ok (.iload_n 1, 1) := by decide +kernel
theorem dX3_lets_2 : decode cX3_lets 2 = .ok (.iload_n 2, 1) := by decide +kernel
theorem dX3_lets_3 : decode cX3_lets 3 = .ok (.invokevirtual 99, 3) := by decide +kernel
theorem dX3_lets_6 : decode cX3_lets 6 = .ok (.ifCond .eq 27, 3) := by decide +kernel
theorem dX3_lets_9 : decode cX3_lets 9 = .ok (.iload_n 3, 1) := by decide +kernel
theorem dX3_lets_10 : decode cX3_lets 10 = .ok (.iconst 0, 1) := by decide +kernel
theorem dX3_lets_11 : decode cX3_lets 11 = .ok (.sipush 9999, 3) := by decide +kernel
theorem dX3_lets_14 : decode cX3_lets 14 = .ok (.invokestatic 74, 3) := by decide +kernel
theorem dX3_lets_17 : decode cX3_lets 17 = .ok (.ifCond .eq 16, 3) := by decide +kernel
theorem dX3_lets_20 : decode cX3_lets 20 = .ok (.aload_n 0, 1) := by decide +kernel
theorem dX3_lets_21 : decode cX3_lets 21 = .ok (.iload_n 1, 1) := by decide +kernel
theorem dX3_lets_22 : decode cX3_lets 22 = .ok (.iload_n 2, 1) := by decide +kernel
theorem dX3_lets_23 : decode cX3_lets 23 = .ok (.iload_n 3, 1) := by decide +kernel
theorem dX3_lets_24 : decode cX3_lets 24 = .ok (.invokevirtual 63, 3) := by decide +kernel
theorem dX3_lets_27 : decode cX3_lets 27 = .ok (.invokestatic 114, 3) := by decide +kernel
theorem dX3_lets_30 : decode cX3_lets 30 = .ok (.goto 7, 3) := by decide +kernel
theorem dX3_lets_33 : decode cX3_lets 33 = .ok (.aload_n 0, 1) := by decide +kernel
theorem dX3_lets_34 : decode cX3_lets 34 = .ok (.invokevirtual 118, 3) := by decide +kernel
theorem dX3_lets_37 : decode cX3_lets 37 = .ok (.lreturn, 1) := by decide +kernel
theorem dX3_tried_0 : decode cX3_tried 0 = .ok (.aload_n 0, 1) := by decide +kernel
theorem dX3_tried_1 : decode cX3_tried 1 = .ok (.invokevirtual 139, 3) := by decide +kernel
theorem dX3_tried_4 : decode cX3_tried 4 = .ok (.aload_n 0, 1) := by decide +kernel
theorem dX3_tried_5 : decode cX3_tried 5 = .ok (.getfield 7, 3) := by decide +kernel
theorem dX3_tried_8 : decode cX3_tried 8 = .ok (.iconst 5, 1) := by decide +kernel
theorem dX3_tried_9 : decode cX3_tried 9 = .ok (.iconst 0, 1) := by decide +kernel
theorem dX3_tried_10 : decode cX3_tried 10 = .ok (.iastore, 1) := by decide +kernel
theorem dX3_tried_11 : decode cX3_tried 11 = .ok (.aload_n 0, 1) := by decide +kernel
theorem dX3_tried_12 : decode cX3_tried 12 = .ok (.iload_n 1, 1) := by decide +kernel
theorem dX3_tried_13 : decode cX3_tried 13 = .ok (.iload_n 2, 1) := by decide +kernel
theorem dX3_tried_14 : decode cX3_tried 14 = .ok (.invokevirtual 102, 3) := by decide +kernel
theorem dX3_tried_17 : decode cX3_tried 17 = .ok (.pop, 1) := by decide +kernel
theorem dX3_tried_18 : decode cX3_tried 18 = .ok (.aload_n 0, 1) := by decide +kernel
theorem dX3_tried_19 : decode cX3_tried 19 = .ok (.invokevirtual 44, 3) := by decide +kernel
theorem dX3_tried_22 : decode cX3_tried 22 = .ok (.aload_n 0, 1) := by decide +kernel
theorem dX3_tried_23 : decode cX3_tried 23 = .ok (.iload_n 3, 1) := by decide +kernel
theorem dX3_tried_24 : decode cX3_tried 24 = .ok (.invokevirtual 105, 3) := by decide +kernel
theorem dX3_tried_27 : decode cX3_tried 27 = .ok (.pop, 1) := by decide +kernel
theorem dX3_tried_28 : decode cX3_tried 28 = .ok (.aload_n 0, 1) := by decide +kernel
theorem dX3_tried_29 : decode cX3_tried 29 = .ok (.bipush 22, 2) := by decide +kernel
theorem dX3_tried_31 : decode cX3_tried 31 = .ok (.iconst 1, 1) := by decide +kernel
theorem dX3_tried_32 : decode cX3_tried 32 = .ok (.invokevirtual 126, 3) := by decide +kernel
theorem dX3_tried_35 : decode cX3_tried 35 = .ok (.dstore 4, 2) := by decide +kernel
theorem dX3_tried_37 : decode cX3_tried 37 = .ok (.aload_n 0, 1) := by decide +kernel
theorem dX3_tried_38 : decode cX3_tried 38 = .ok (.invokevirtual 142, 3) := by decide +kernel
theorem dX3_tried_41 : decode cX3_tried 41 = .ok (.dload 4, 2) := by decide +kernel
theorem dX3_tried_43 : decode cX3_tried 43 = .ok (.dreturn, 1) := by decide +kernel
theorem dX3_trial_0 : decode cX3_trial 0 = .ok (.aload_n 0, 1) := by decide +kernel
theorem dX3_trial_1 : decode cX3_trial 1 = .ok (.iload_n 1, 1) := by decide +kernel
theorem dX3_trial_2 : decode cX3_trial 2 = .ok (.iload_n 2, 1) := by decide +kernel
theorem dX3_trial_3 : decode cX3_trial 3 = .ok (.invokevirtual 99, 3) := by decide +kernel
theorem dX3_trial_6 : decode cX3_trial 6 = .ok (.ifCond .eq 26, 3) := by decide +kernel
theorem dX3_trial_9 : decode cX3_trial 9 = .ok (.iload_n 3, 1) := by decide +kernel
theorem dX3_trial_10 : decode cX3_trial 10 = .ok (.iconst 0, 1) := by decide +kernel
theorem dX3_trial_11 : decode cX3_trial 11 = .ok (.bipush 100, 2) := by decide +kernel
theorem dX3_trial_13 : decode cX3_trial 13 = .ok (.invokestatic 74, 3) := by decide +kernel
theorem dX3_trial_16 : decode cX3_trial 16 = .ok (.ifCond .eq 16, 3) := by decide +kernel
theorem dX3_trial_19 : decode cX3_trial 19 = .ok (.aload_n 0, 1) := by decide +kernel
theorem dX3_trial_20 : decode cX3_trial 20 = .ok (.iload_n 1, 1) := by decide +kernel
theorem dX3_trial_21 : decode cX3_trial 21 = .ok (.iload_n 2, 1) := by decide +kernel
theorem dX3_trial_22 : decode cX3_trial 22 = .ok (.iload_n 3, 1) := by decide +kernel
theorem dX3_trial_23 : decode cX3_trial 23 = .ok (.invokevirtual 145, 3) := by decide +kernel
theorem dX3_trial_26 : decode cX3_trial 26 = .ok (.invokestatic 114, 3) := by decide +kernel
theorem dX3_trial_29 : decode cX3_trial 29 = .ok (.goto 7, 3) := by decide +kernel
theorem dX3_trial_32 : decode cX3_trial 32 = .ok (.aload_n 0, 1) := by decide +kernel
theorem dX3_trial_33 : decode cX3_trial 33 = .ok (.invokevirtual 118, 3) := by decide +kernel
theorem dX3_trial_36 : decode cX3_trial 36 = .ok (.lreturn, 1) := by decide +kernel
theorem dX3_soonestOf_0 : decode cX3_soonestOf 0 = .ok (.iconst 1, 1) := by decide +kernel
theorem dX3_soonestOf_1 : decode cX3_soonestOf 1 = .ok (.istore 4, 2) := by decide +kernel
theorem dX3_soonestOf_3 : decode cX3_soonestOf 3 = .ok (.iload 4, 2) := by decide +kernel
theorem dX3_soonestOf_5 : decode cX3_soonestOf 5 = .ok (.bipush 60, 2) := by decide +kernel
theorem dX3_soonestOf_7 : decode cX3_soonestOf 7 = .ok (.if_icmp .gt 26, 3) := by decide +kernel
theorem dX3_soonestOf_10 : decode cX3_soonestOf 10 = .ok (.aload_n 0, 1) := by decide +kernel
theorem dX3_soonestOf_11 : decode cX3_soonestOf 11 = .ok (.iload_n 1, 1) := by decide +kernel
theorem dX3_soonestOf_12 : decode cX3_soonestOf 12 = .ok (.iload 4, 2) := by decide +kernel
theorem dX3_soonestOf_14 : decode cX3_soonestOf 14 = .ok (.iload_n 3, 1) := by decide +kernel
theorem dX3_soonestOf_15 : decode cX3_soonestOf 15 = .ok (.invokevirtual 145, 3) := by decide +kernel
theorem dX3_soonestOf_18 : decode cX3_soonestOf 18 = .ok (.iload_n 2, 1) := by decide +kernel
theorem dX3_soonestOf_19 : decode cX3_soonestOf 19 = .ok (.i2d, 1) := by decide +kernel
theorem dX3_soonestOf_20 : decode cX3_soonestOf 20 = .ok (.dcmp .g, 1) := by decide +kernel
theorem dX3_soonestOf_21 : decode cX3_soonestOf 21 = .ok (.ifCond .gt 6, 3) := by decide +kernel
theorem dX3_soonestOf_24 : decode cX3_soonestOf 24 = .ok (.iload 4, 2) := by decide +kernel
theorem dX3_soonestOf_26 : decode cX3_soonestOf 26 = .ok (.ireturn, 1) := by decide +kernel
theorem dX3_soonestOf_27 : decode cX3_soonestOf 27 = .ok (.iinc 4 1, 3) := by decide +kernel
theorem dX3_soonestOf_30 : decode cX3_soonestOf 30 = .ok (.goto (-27), 3) := by decide +kernel
theorem dX3_soonestOf_33 : decode cX3_soonestOf 33 = .ok (.iconst (-1), 1) := by decide +kernel
theorem dX3_soonestOf_34 : decode cX3_soonestOf 34 = .ok (.ireturn, 1) := by decide +kernel
theorem dX3_soonest_0 : decode cX3_soonest 0 = .ok (.iload_n 1, 1) := by decide +kernel
theorem dX3_soonest_1 : decode cX3_soonest 1 = .ok (.iconst 0, 1) := by decide +kernel
theorem dX3_soonest_2 : decode cX3_soonest 2 = .ok (.iconst 5, 1) := by decide +kernel
theorem dX3_soonest_3 : decode cX3_soonest 3 = .ok (.invokestatic 74, 3) := by decide +kernel
theorem dX3_soonest_6 : decode cX3_soonest 6 = .ok (.ifCond .eq 36, 3) := by decide +kernel
theorem dX3_soonest_9 : decode cX3_soonest 9 = .ok (.iload_n 2, 1) := by decide +kernel
theorem dX3_soonest_10 : decode cX3_soonest 10 = .ok (.sipush (-9999), 3) := by decide +kernel
theorem dX3_soonest_13 : decode cX3_soonest 13 = .ok (.sipush 9999, 3) := by decide +kernel
theorem dX3_soonest_16 : decode cX3_soonest 16 = .ok (.invokestatic 74, 3) := by decide +kernel
theorem dX3_soonest_19 : decode cX3_soonest 19 = .ok (.ifCond .eq 23, 3) := by decide +kernel
theorem dX3_soonest_22 : decode cX3_soonest 22 = .ok (.iload_n 3, 1) := by decide +kernel
theorem dX3_soonest_23 : decode cX3_soonest 23 = .ok (.iconst 0, 1) := by decide +kernel
theorem dX3_soonest_24 : decode cX3_soonest 24 = .ok (.bipush 100, 2) := by decide +kernel
theorem dX3_soonest_26 : decode cX3_soonest 26 = .ok (.invokestatic 74, 3) := by decide +kernel
theorem dX3_soonest_29 : decode cX3_soonest 29 = .ok (.ifCond .eq 13, 3) := by decide +kernel
theorem dX3_soonest_32 : decode cX3_soonest 32 = .ok (.aload_n 0, 1) := by decide +kernel
theorem dX3_soonest_33 : decode cX3_soonest 33 = .ok (.iload_n 1, 1) := by decide +kernel
theorem dX3_soonest_34 : decode cX3_soonest 34 = .ok (.iload_n 2, 1) := by decide +kernel
theorem dX3_soonest_35 : decode cX3_soonest 35 = .ok (.iload_n 3, 1) := by decide +kernel
theorem dX3_soonest_36 : decode cX3_soonest 36 = .ok (.invokevirtual 148, 3) := by decide +kernel
theorem dX3_soonest_39 : decode cX3_soonest 39 = .ok (.goto 9, 3) := by decide +kernel
theorem dX3_soonest_42 : decode cX3_soonest 42 = .ok (.aload_n 0, 1) := by decide +kernel
theorem dX3_soonest_43 : decode cX3_soonest 43 = .ok (.bipush (-2), 2) := by decide +kernel
theorem dX3_soonest_45 : decode cX3_soonest 45 = .ok (.invokevirtual 53, 3) := by decide +kernel
theorem dX3_soonest_48 : decode cX3_soonest 48 = .ok (.ireturn, 1) := by decide +kernel
theorem dX3_best_0 : decode cX3_best 0 = .ok (.iload_n 1, 1) := by decide +kernel
theorem dX3_best_1 : decode cX3_best 1 = .ok (.sipush (-9999), 3) := by decide +kernel
theorem dX3_best_4 : decode cX3_best 4 = .ok (.sipush 9999, 3) := by decide +kernel
theorem dX3_best_7 : decode cX3_best 7 = .ok (.invokestatic 74, 3) := by decide +kernel
theorem dX3_best_10 : decode cX3_best 10 = .ok (.ifCond .eq 22, 3) := by decide +kernel
theorem dX3_best_13 : decode cX3_best 13 = .ok (.iload_n 2, 1) := by decide +kernel
theorem dX3_best_14 : decode cX3_best 14 = .ok (.iconst 0, 1) := by decide +kernel
theorem dX3_best_15 : decode cX3_best 15 = .ok (.bipush 100, 2) := by decide +kernel
theorem dX3_best_17 : decode cX3_best 17 = .ok (.invokestatic 74, 3) := by decide +kernel
theorem dX3_best_20 : decode cX3_best 20 = .ok (.ifCond .eq 12, 3) := by decide +kernel
theorem dX3_best_23 : decode cX3_best 23 = .ok (.iload_n 3, 1) := by decide +kernel
theorem dX3_best_24 : decode cX3_best 24 = .ok (.iconst 0, 1) := by decide +kernel
theorem dX3_best_25 : decode cX3_best 25 = .ok (.iconst 1, 1) := by decide +kernel
theorem dX3_best_26 : decode cX3_best 26 = .ok (.invokestatic 74, 3) := by decide +kernel
theorem dX3_best_29 : decode cX3_best 29 = .ok (.ifCond .ne 10, 3) := by decide +kernel
theorem dX3_best_32 : decode cX3_best 32 = .ok (.aload_n 0, 1) := by decide +kernel
theorem dX3_best_33 : decode cX3_best 33 = .ok (.bipush (-2), 2) := by decide +kernel
theorem dX3_best_35 : decode cX3_best 35 = .ok (.invokevirtual 53, 3) := by decide +kernel
theorem dX3_best_38 : decode cX3_best 38 = .ok (.ireturn, 1) := by decide +kernel
theorem dX3_best_39 : decode cX3_best 39 = .ok (.iconst (-1), 1) := by decide +kernel
theorem dX3_best_40 : decode cX3_best 40 = .ok (.istore 4, 2) := by decide +kernel
theorem dX3_best_42 : decode cX3_best 42 = .ok (.iconst (-1), 1) := by decide +kernel
theorem dX3_best_43 : decode cX3_best 43 = .ok (.istore 5, 2) := by decide +kernel
theorem dX3_best_45 : decode cX3_best 45 = .ok (.iconst 1, 1) := by decide +kernel
theorem dX3_best_46 : decode cX3_best 46 = .ok (.istore 6, 2) := by decide +kernel
theorem dX3_best_48 : decode cX3_best 48 = .ok (.iload 6, 2) := by decide +kernel
theorem dX3_best_50 : decode cX3_best 50 = .ok (.iconst 5, 1) := by decide +kernel
theorem dX3_best_51 : decode cX3_best 51 = .ok (.if_icmp .ge 46, 3) := by decide +kernel
theorem dX3_best_54 : decode cX3_best 54 = .ok (.aload_n 0, 1) := by decide +kernel
theorem dX3_best_55 : decode cX3_best 55 = .ok (.iload 6, 2) := by decide +kernel
theorem dX3_best_57 : decode cX3_best 57 = .ok (.iload_n 1, 1) := by decide +kernel
theorem dX3_best_58 : decode cX3_best 58 = .ok (.iload_n 2, 1) := by decide +kernel
theorem dX3_best_59 : decode cX3_best 59 = .ok (.invokevirtual 148, 3) := by decide +kernel
theorem dX3_best_62 : decode cX3_best 62 = .ok (.istore 7, 2) := by decide +kernel
theorem dX3_best_64 : decode cX3_best 64 = .ok (.iload 7, 2) := by decide +kernel
theorem dX3_best_66 : decode cX3_best 66 = .ok (.iconst (-1), 1) := by decide +kernel
theorem dX3_best_67 : decode cX3_best 67 = .ok (.if_icmp .eq 24, 3) := by decide +kernel
theorem dX3_best_70 : decode cX3_best 70 = .ok (.iload 5, 2) := by decide +kernel
theorem dX3_best_72 : decode cX3_best 72 = .ok (.iconst (-1), 1) := by decide +kernel
theorem dX3_best_73 : decode cX3_best 73 = .ok (.if_icmp .eq 10, 3) := by decide +kernel
theorem dX3_best_76 : decode cX3_best 76 = .ok (.iload 7, 2) := by decide +kernel
theorem dX3_best_78 : decode cX3_best 78 = .ok (.iload 5, 2) := by decide +kernel
theorem dX3_best_80 : decode cX3_best 80 = .ok (.if_icmp .ge 11, 3) := by decide +kernel
theorem dX3_best_83 : decode cX3_best 83 = .ok (.iload 6, 2) := by decide +kernel
theorem dX3_best_85 : decode cX3_best 85 = .ok (.istore 4, 2) := by decide +kernel
theorem dX3_best_87 : decode cX3_best 87 = .ok (.iload 7, 2) := by decide +kernel
theorem dX3_best_89 : decode cX3_best 89 = .ok (.istore 5, 2) := by decide +kernel
theorem dX3_best_91 : decode cX3_best 91 = .ok (.iinc 6 1, 3) := by decide +kernel
theorem dX3_best_94 : decode cX3_best 94 = .ok (.goto (-46), 3) := by decide +kernel
theorem dX3_best_97 : decode cX3_best 97 = .ok (.iload_n 3, 1) := by decide +kernel
theorem dX3_best_98 : decode cX3_best 98 = .ok (.ifCond .ne 8, 3) := by decide +kernel
theorem dX3_best_101 : decode cX3_best 101 = .ok (.iload 4, 2) := by decide +kernel
theorem dX3_best_103 : decode cX3_best 103 = .ok (.goto 5, 3) := by decide +kernel
theorem dX3_best_106 : decode cX3_best 106 = .ok (.iload 5, 2) := by decide +kernel
theorem dX3_best_108 : decode cX3_best 108 = .ok (.ireturn, 1) := by decide +kernel
theorem dX3_type_0 : decode cX3_type 0 = .ok (.iload_n 1, 1) := by decide +kernel
theorem dX3_type_1 : decode cX3_type 1 = .ok (.iconst 0, 1) := by decide +kernel
theorem dX3_type_2 : decode cX3_type 2 = .ok (.bipush 127, 2) := by decide +kernel
theorem dX3_type_4 : decode cX3_type 4 = .ok (.invokestatic 74, 3) := by decide +kernel
theorem dX3_type_7 : decode cX3_type 7 = .ok (.ifCond .ne 10, 3) := by decide +kernel
theorem dX3_type_10 : decode cX3_type 10 = .ok (.aload_n 0, 1) := by decide +kernel
theorem dX3_type_11 : decode cX3_type 11 = .ok (.bipush (-2), 2) := by decide +kernel
theorem dX3_type_13 : decode cX3_type 13 = .ok (.invokevirtual 53, 3) := by decide +kernel
theorem dX3_type_16 : decode cX3_type 16 = .ok (.ireturn, 1) := by decide +kernel
theorem dX3_type_17 : decode cX3_type 17 = .ok (.aload_n 0, 1) := by decide +kernel
theorem dX3_type_18 : decode cX3_type 18 = .ok (.getfield 152, 3) := by decide +kernel
theorem dX3_type_21 : decode cX3_type 21 = .ok (.bipush 100, 2) := by decide +kernel
theorem dX3_type_23 : decode cX3_type 23 = .ok (.if_icmp .ne 10, 3) := by decide +kernel
theorem dX3_type_26 : decode cX3_type 26 = .ok (.aload_n 0, 1) := by decide +kernel
theorem dX3_type_27 : decode cX3_type 27 = .ok (.bipush (-4), 2) := by decide +kernel
theorem dX3_type_29 : decode cX3_type 29 = .ok (.invokevirtual 53, 3) := by decide +kernel
theorem dX3_type_32 : decode cX3_type 32 = .ok (.ireturn, 1) := by decide +kernel
theorem dX3_type_33 : decode cX3_type 33 = .ok (.aload_n 0, 1) := by decide +kernel
theorem dX3_type_34 : decode cX3_type 34 = .ok (.getfield 35, 3) := by decide +kernel
theorem dX3_type_37 : decode cX3_type 37 = .ok (.aload_n 0, 1) := by decide +kernel
theorem dX3_type_38 : decode cX3_type 38 = .ok (.getfield 152, 3) := by decide +kernel
theorem dX3_type_41 : decode cX3_type 41 = .ok (.iload_n 1, 1) := by decide +kernel
theorem dX3_type_42 : decode cX3_type 42 = .ok (.iastore, 1) := by decide +kernel
theorem dX3_type_43 : decode cX3_type 43 = .ok (.aload_n 0, 1) := by decide +kernel
theorem dX3_type_44 : decode cX3_type 44 = .ok (.dup, 1) := by decide +kernel
theorem dX3_type_45 : decode cX3_type 45 = .ok (.getfield 152, 3) := by decide +kernel
theorem dX3_type_48 : decode cX3_type 48 = .ok (.iconst 1, 1) := by decide +kernel
theorem dX3_type_49 : decode cX3_type 49 = .ok (.iadd, 1) := by decide +kernel
theorem dX3_type_50 : decode cX3_type 50 = .ok (.putfield 152, 3) := by decide +kernel
theorem dX3_type_53 : decode cX3_type 53 = .ok (.aload_n 0, 1) := by decide +kernel
theorem dX3_type_54 : decode cX3_type 54 = .ok (.getfield 152, 3) := by decide +kernel
theorem dX3_type_57 : decode cX3_type 57 = .ok (.ireturn, 1) := by decide +kernel
theorem dX3_clear_0 : decode cX3_clear 0 = .ok (.aload_n 0, 1) := by decide +kernel
theorem dX3_clear_1 : decode cX3_clear 1 = .ok (.getfield 152, 3) := by decide +kernel
theorem dX3_clear_4 : decode cX3_clear 4 = .ok (.istore_n 1, 1) := by decide +kernel
theorem dX3_clear_5 : decode cX3_clear 5 = .ok (.aload_n 0, 1) := by decide +kernel
theorem dX3_clear_6 : decode cX3_clear 6 = .ok (.iconst 0, 1) := by decide +kernel
theorem dX3_clear_7 : decode cX3_clear 7 = .ok (.putfield 152, 3) := by decide +kernel
theorem dX3_clear_10 : decode cX3_clear 10 = .ok (.iload_n 1, 1) := by decide +kernel
theorem dX3_clear_11 : decode cX3_clear 11 = .ok (.ireturn, 1) := by decide +kernel
theorem dX3_here_0 : decode cX3_here 0 = .ok (.aload_n 0, 1) := by decide +kernel
theorem dX3_here_1 : decode cX3_here 1 = .ok (.getfield 155, 3) := by decide +kernel
theorem dX3_here_4 : decode cX3_here 4 = .ok (.aload_n 0, 1) := by decide +kernel
theorem dX3_here_5 : decode cX3_here 5 = .ok (.getfield 152, 3) := by decide +kernel
theorem dX3_here_8 : decode cX3_here 8 = .ok (.if_icmp .ge 15, 3) := by decide +kernel
theorem dX3_here_11 : decode cX3_here 11 = .ok (.aload_n 0, 1) := by decide +kernel
theorem dX3_here_12 : decode cX3_here 12 = .ok (.getfield 35, 3) := by decide +kernel
theorem dX3_here_15 : decode cX3_here 15 = .ok (.aload_n 0, 1) := by decide +kernel
theorem dX3_here_16 : decode cX3_here 16 = .ok (.getfield 155, 3) := by decide +kernel
theorem dX3_here_19 : decode cX3_here 19 = .ok (.iaload, 1) := by decide +kernel
theorem dX3_here_20 : decode cX3_here 20 = .ok (.goto 4, 3) := by decide +kernel
theorem dX3_here_23 : decode cX3_here 23 = .ok (.iconst (-1), 1) := by decide +kernel
theorem dX3_here_24 : decode cX3_here 24 = .ok (.ireturn, 1) := by decide +kernel
theorem dX3_blanks_0 : decode cX3_blanks 0 = .ok (.aload_n 0, 1) := by decide +kernel
theorem dX3_blanks_1 : decode cX3_blanks 1 = .ok (.invokevirtual 158, 3) := by decide +kernel
theorem dX3_blanks_4 : decode cX3_blanks 4 = .ok (.bipush 32, 2) := by decide +kernel
theorem dX3_blanks_6 : decode cX3_blanks 6 = .ok (.if_icmp .ne 16, 3) := by decide +kernel
theorem dX3_blanks_9 : decode cX3_blanks 9 = .ok (.aload_n 0, 1) := by decide +kernel
theorem dX3_blanks_10 : decode cX3_blanks 10 = .ok (.dup, 1) := by decide +kernel
theorem dX3_blanks_11 : decode cX3_blanks 11 = .ok (.getfield 155, 3) := by decide +kernel
theorem dX3_blanks_14 : decode cX3_blanks 14 = .ok (.iconst 1, 1) := by decide +kernel
theorem dX3_blanks_15 : decode cX3_blanks 15 = .ok (.iadd, 1) := by decide +kernel
theorem dX3_blanks_16 : decode cX3_blanks 16 = .ok (.putfield 155, 3) := by decide +kernel
theorem dX3_blanks_19 : decode cX3_blanks 19 = .ok (.goto (-19), 3) := by decide +kernel
theorem dX3_blanks_22 : decode cX3_blanks 22 = .ok (.return_, 1) := by decide +kernel
theorem dX3_passesNumber_0 : decode cX3_passesNumber 0 = .ok (.aload_n 0, 1) := by decide +kernel
theorem dX3_passesNumber_1 : decode cX3_passesNumber 1 = .ok (.invokevirtual 162, 3) := by decide +kernel
theorem dX3_passesNumber_4 : decode cX3_passesNumber 4 = .ok (.iload_n 2, 1) := by decide +kernel
theorem dX3_passesNumber_5 : decode cX3_passesNumber 5 = .ok (.ifCond .eq 16, 3) := by decide +kernel
theorem dX3_passesNumber_8 : decode cX3_passesNumber 8 = .ok (.aload_n 0, 1) := by decide +kernel
theorem dX3_passesNumber_9 : decode cX3_passesNumber 9 = .ok (.invokevirtual 158, 3) := by decide +kernel
theorem dX3_passesNumber_12 : decode cX3_passesNumber 12 = .ok (.bipush 45, 2) := by decide +kernel
theorem dX3_passesNumber_14 : decode cX3_passesNumber 14 = .ok (.if_icmp .ne 7, 3) := by decide +kernel
theorem dX3_passesNumber_17 : decode cX3_passesNumber 17 = .ok (.iconst 1, 1) := by decide +kernel
theorem dX3_passesNumber_18 : decode cX3_passesNumber 18 = .ok (.goto 4, 3) := by decide +kernel
theorem dX3_passesNumber_21 : decode cX3_passesNumber 21 = .ok (.iconst 0, 1) := by decide +kernel
theorem dX3_passesNumber_22 : decode cX3_passesNumber 22 = .ok (.istore_n 3, 1) := by decide +kernel
theorem dX3_passesNumber_23 : decode cX3_passesNumber 23 = .ok (.aload_n 0, 1) := by decide +kernel
theorem dX3_passesNumber_24 : decode cX3_passesNumber 24 = .ok (.dup, 1) := by decide +kernel
theorem dX3_passesNumber_25 : decode cX3_passesNumber 25 = .ok (.getfield 155, 3) := by decide +kernel
theorem dX3_passesNumber_28 : decode cX3_passesNumber 28 = .ok (.iload_n 3, 1) := by decide +kernel
theorem dX3_passesNumber_29 : decode cX3_passesNumber 29 = .ok (.ifCond .eq 7, 3) := by decide +kernel
theorem dX3_passesNumber_32 : decode cX3_passesNumber 32 = .ok (.iconst 1, 1) := by decide +kernel
theorem dX3_passesNumber_33 : decode cX3_passesNumber 33 = .ok (.goto 4, 3) := by decide +kernel
theorem dX3_passesNumber_36 : decode cX3_passesNumber 36 = .ok (.iconst 0, 1) := by decide +kernel
theorem dX3_passesNumber_37 : decode cX3_passesNumber 37 = .ok (.iadd, 1) := by decide +kernel
theorem dX3_passesNumber_38 : decode cX3_passesNumber 38 = .ok (.putfield 155, 3) := by decide +kernel
theorem dX3_passesNumber_41 : decode cX3_passesNumber 41 = .ok (.iconst 0, 1) := by decide +kernel
theorem dX3_passesNumber_42 : decode cX3_passesNumber 42 = .ok (.istore 4, 2) := by decide +kernel
theorem dX3_passesNumber_44 : decode cX3_passesNumber 44 = .ok (.iconst 0, 1) := by decide +kernel
theorem dX3_passesNumber_45 : decode cX3_passesNumber 45 = .ok (.istore 5, 2) := by decide +kernel
theorem dX3_passesNumber_47 : decode cX3_passesNumber 47 = .ok (.aload_n 0, 1) := by decide +kernel
theorem dX3_passesNumber_48 : decode cX3_passesNumber 48 = .ok (.invokevirtual 158, 3) := by decide +kernel
theorem dX3_passesNumber_51 : decode cX3_passesNumber 51 = .ok (.bipush 48, 2) := by decide +kernel
theorem dX3_passesNumber_53 : decode cX3_passesNumber 53 = .ok (.bipush 57, 2) := by decide +kernel
theorem dX3_passesNumber_55 : decode cX3_passesNumber 55 = .ok (.invokestatic 74, 3) := by decide +kernel
theorem dX3_passesNumber_58 : decode cX3_passesNumber 58 = .ok (.ifCond .eq 40, 3) := by decide +kernel
theorem dX3_passesNumber_61 : decode cX3_passesNumber 61 = .ok (.iload 5, 2) := by decide +kernel
theorem dX3_passesNumber_63 : decode cX3_passesNumber 63 = .ok (.iconst 4, 1) := by decide +kernel
theorem dX3_passesNumber_64 : decode cX3_passesNumber 64 = .ok (.if_icmp .ge 34, 3) := by decide +kernel
theorem dX3_passesNumber_67 : decode cX3_passesNumber 67 = .ok (.bipush 10, 2) := by decide +kernel
theorem dX3_passesNumber_69 : decode cX3_passesNumber 69 = .ok (.iload 4, 2) := by decide +kernel
theorem dX3_passesNumber_71 : decode cX3_passesNumber 71 = .ok (.imul, 1) := by decide +kernel
theorem dX3_passesNumber_72 : decode cX3_passesNumber 72 = .ok (.aload_n 0, 1) := by decide +kernel
theorem dX3_passesNumber_73 : decode cX3_passesNumber 73 = .ok (.invokevirtual 158, 3) := by decide +kernel
theorem dX3_passesNumber_76 : decode cX3_passesNumber 76 = .ok (.iadd, 1) := by decide +kernel
theorem dX3_passesNumber_77 : decode cX3_passesNumber 77 = .ok (.bipush 48, 2) := by decide +kernel
theorem dX3_passesNumber_79 : decode cX3_passesNumber 79 = .ok (.isub, 1) := by decide +kernel
theorem dX3_passesNumber_80 : decode cX3_passesNumber 80 = .ok (.istore 4, 2) := by decide +kernel
theorem dX3_passesNumber_82 : decode cX3_passesNumber 82 = .ok (.aload_n 0, 1) := by decide +kernel
theorem dX3_passesNumber_83 : decode cX3_passesNumber 83 = .ok (.dup, 1) := by decide +kernel
theorem dX3_passesNumber_84 : decode cX3_passesNumber 84 = .ok (.getfield 155, 3) := by decide +kernel
theorem dX3_passesNumber_87 : decode cX3_passesNumber 87 = .ok (.iconst 1, 1) := by decide +kernel
theorem dX3_passesNumber_88 : decode cX3_passesNumber 88 = .ok (.iadd, 1) := by decide +kernel
theorem dX3_passesNumber_89 : decode cX3_passesNumber 89 = .ok (.putfield 155, 3) := by decide +kernel
theorem dX3_passesNumber_92 : decode cX3_passesNumber 92 = .ok (.iinc 5 1, 3) := by decide +kernel
theorem dX3_passesNumber_95 : decode cX3_passesNumber 95 = .ok (.goto (-48), 3) := by decide +kernel
theorem dX3_passesNumber_98 : decode cX3_passesNumber 98 = .ok (.aload_n 0, 1) := by decide +kernel
theorem dX3_passesNumber_99 : decode cX3_passesNumber 99 = .ok (.getfield 41, 3) := by decide +kernel
theorem dX3_passesNumber_102 : decode cX3_passesNumber 102 = .ok (.iload_n 1, 1) := by decide +kernel
theorem dX3_passesNumber_103 : decode cX3_passesNumber 103 = .ok (.iload_n 3, 1) := by decide +kernel
theorem dX3_passesNumber_104 : decode cX3_passesNumber 104 = .ok (.ifCond .eq 9, 3) := by decide +kernel
theorem dX3_passesNumber_107 : decode cX3_passesNumber 107 = .ok (.iload 4, 2) := by decide +kernel
theorem dX3_passesNumber_109 : decode cX3_passesNumber 109 = .ok (.ineg, 1) := by decide +kernel
theorem dX3_passesNumber_110 : decode cX3_passesNumber 110 = .ok (.goto 5, 3) := by decide +kernel
theorem dX3_passesNumber_113 : decode cX3_passesNumber 113 = .ok (.iload 4, 2) := by decide +kernel
theorem dX3_passesNumber_115 : decode cX3_passesNumber 115 = .ok (.iastore, 1) := by decide +kernel
theorem dX3_passesNumber_116 : decode cX3_passesNumber 116 = .ok (.iload 5, 2) := by decide +kernel
theorem dX3_passesNumber_118 : decode cX3_passesNumber 118 = .ok (.ifCond .le 21, 3) := by decide +kernel
theorem dX3_passesNumber_121 : decode cX3_passesNumber 121 = .ok (.aload_n 0, 1) := by decide +kernel
theorem dX3_passesNumber_122 : decode cX3_passesNumber 122 = .ok (.invokevirtual 158, 3) := by decide +kernel
theorem dX3_passesNumber_125 : decode cX3_passesNumber 125 = .ok (.bipush 48, 2) := by decide +kernel
theorem dX3_passesNumber_127 : decode cX3_passesNumber 127 = .ok (.bipush 57, 2) := by decide +kernel
theorem dX3_passesNumber_129 : decode cX3_passesNumber 129 = .ok (.invokestatic 74, 3) := by decide +kernel
theorem dX3_passesNumber_132 : decode cX3_passesNumber 132 = .ok (.ifCond .ne 7, 3) := by decide +kernel
theorem dX3_passesNumber_135 : decode cX3_passesNumber 135 = .ok (.iconst 1, 1) := by decide +kernel
theorem dX3_passesNumber_136 : decode cX3_passesNumber 136 = .ok (.goto 4, 3) := by decide +kernel
theorem dX3_passesNumber_139 : decode cX3_passesNumber 139 = .ok (.iconst 0, 1) := by decide +kernel
theorem dX3_passesNumber_140 : decode cX3_passesNumber 140 = .ok (.ireturn, 1) := by decide +kernel
theorem dX3_isOrder_0 : decode cX3_isOrder 0 = .ok (.iload_n 0, 1) := by decide +kernel
theorem dX3_isOrder_1 : decode cX3_isOrder 1 = .ok (.bipush 112, 2) := by decide +kernel
theorem dX3_isOrder_3 : decode cX3_isOrder 3 = .ok (.if_icmp .eq 45, 3) := by decide +kernel
theorem dX3_isOrder_6 : decode cX3_isOrder 6 = .ok (.iload_n 0, 1) := by decide +kernel
theorem dX3_isOrder_7 : decode cX3_isOrder 7 = .ok (.bipush 104, 2) := by decide +kernel
theorem dX3_isOrder_9 : decode cX3_isOrder 9 = .ok (.if_icmp .eq 39, 3) := by decide +kernel
theorem dX3_isOrder_12 : decode cX3_isOrder 12 = .ok (.iload_n 0, 1) := by decide +kernel
theorem dX3_isOrder_13 : decode cX3_isOrder 13 = .ok (.bipush 113, 2) := by decide +kernel
theorem dX3_isOrder_15 : decode cX3_isOrder 15 = .ok (.if_icmp .eq 33, 3) := by decide +kernel
theorem dX3_isOrder_18 : decode cX3_isOrder 18 = .ok (.iload_n 0, 1) := by decide +kernel
theorem dX3_isOrder_19 : decode cX3_isOrder 19 = .ok (.bipush 97, 2) := by decide +kernel
theorem dX3_isOrder_21 : decode cX3_isOrder 21 = .ok (.if_icmp .eq 27, 3) := by decide +kernel
theorem dX3_isOrder_24 : decode cX3_isOrder 24 = .ok (.iload_n 0, 1) := by decide +kernel
theorem dX3_isOrder_25 : decode cX3_isOrder 25 = .ok (.bipush 108, 2) := by decide +kernel
theorem dX3_isOrder_27 : decode cX3_isOrder 27 = .ok (.if_icmp .eq 21, 3) := by decide +kernel
theorem dX3_isOrder_30 : decode cX3_isOrder 30 = .ok (.iload_n 0, 1) := by decide +kernel
theorem dX3_isOrder_31 : decode cX3_isOrder 31 = .ok (.bipush 114, 2) := by decide +kernel
theorem dX3_isOrder_33 : decode cX3_isOrder 33 = .ok (.if_icmp .eq 15, 3) := by decide +kernel
theorem dX3_isOrder_36 : decode cX3_isOrder 36 = .ok (.iload_n 0, 1) := by decide +kernel
theorem dX3_isOrder_37 : decode cX3_isOrder 37 = .ok (.bipush 119, 2) := by decide +kernel
theorem dX3_isOrder_39 : decode cX3_isOrder 39 = .ok (.if_icmp .eq 9, 3) := by decide +kernel
theorem dX3_isOrder_42 : decode cX3_isOrder 42 = .ok (.iload_n 0, 1) := by decide +kernel
theorem dX3_isOrder_43 : decode cX3_isOrder 43 = .ok (.bipush 115, 2) := by decide +kernel
theorem dX3_isOrder_45 : decode cX3_isOrder 45 = .ok (.if_icmp .ne 7, 3) := by decide +kernel
theorem dX3_isOrder_48 : decode cX3_isOrder 48 = .ok (.iconst 1, 1) := by decide +kernel
theorem dX3_isOrder_49 : decode cX3_isOrder 49 = .ok (.goto 4, 3) := by decide +kernel
theorem dX3_isOrder_52 : decode cX3_isOrder 52 = .ok (.iconst 0, 1) := by decide +kernel
theorem dX3_isOrder_53 : decode cX3_isOrder 53 = .ok (.ireturn, 1) := by decide +kernel
theorem dX3_passesOrder_0 : decode cX3_passesOrder 0 = .ok (.aload_n 0, 1) := by decide +kernel
theorem dX3_passesOrder_1 : decode cX3_passesOrder 1 = .ok (.invokevirtual 158, 3) := by decide +kernel
theorem dX3_passesOrder_4 : decode cX3_passesOrder 4 = .ok (.istore_n 1, 1) := by decide +kernel
theorem dX3_passesOrder_5 : decode cX3_passesOrder 5 = .ok (.iload_n 1, 1) := by decide +kernel
theorem dX3_passesOrder_6 : decode cX3_passesOrder 6 = .ok (.invokestatic 165, 3) := by decide +kernel
theorem dX3_passesOrder_9 : decode cX3_passesOrder 9 = .ok (.ifCond .ne 5, 3) := by decide +kernel
theorem dX3_passesOrder_12 : decode cX3_passesOrder 12 = .ok (.iconst 0, 1) := by decide +kernel
theorem dX3_passesOrder_13 : decode cX3_passesOrder 13 = .ok (.ireturn, 1) := by decide +kernel
theorem dX3_passesOrder_14 : decode cX3_passesOrder 14 = .ok (.aload_n 0, 1) := by decide +kernel
theorem dX3_passesOrder_15 : decode cX3_passesOrder 15 = .ok (.getfield 38, 3) := by decide +kernel
theorem dX3_passesOrder_18 : decode cX3_passesOrder 18 = .ok (.aload_n 0, 1) := by decide +kernel
theorem dX3_passesOrder_19 : decode cX3_passesOrder 19 = .ok (.getfield 168, 3) := by decide +kernel
theorem dX3_passesOrder_22 : decode cX3_passesOrder 22 = .ok (.iload_n 1, 1) := by decide +kernel
theorem dX3_passesOrder_23 : decode cX3_passesOrder 23 = .ok (.iastore, 1) := by decide +kernel
theorem dX3_passesOrder_24 : decode cX3_passesOrder 24 = .ok (.aload_n 0, 1) := by decide +kernel
theorem dX3_passesOrder_25 : decode cX3_passesOrder 25 = .ok (.dup, 1) := by decide +kernel
theorem dX3_passesOrder_26 : decode cX3_passesOrder 26 = .ok (.getfield 155, 3) := by decide +kernel
theorem dX3_passesOrder_29 : decode cX3_passesOrder 29 = .ok (.iconst 1, 1) := by decide +kernel
theorem dX3_passesOrder_30 : decode cX3_passesOrder 30 = .ok (.iadd, 1) := by decide +kernel
theorem dX3_passesOrder_31 : decode cX3_passesOrder 31 = .ok (.putfield 155, 3) := by decide +kernel
theorem dX3_passesOrder_34 : decode cX3_passesOrder 34 = .ok (.aload_n 0, 1) := by decide +kernel
theorem dX3_passesOrder_35 : decode cX3_passesOrder 35 = .ok (.iconst 2, 1) := by decide +kernel
theorem dX3_passesOrder_36 : decode cX3_passesOrder 36 = .ok (.aload_n 0, 1) := by decide +kernel
theorem dX3_passesOrder_37 : decode cX3_passesOrder 37 = .ok (.getfield 168, 3) := by decide +kernel
theorem dX3_passesOrder_40 : decode cX3_passesOrder 40 = .ok (.imul, 1) := by decide +kernel
theorem dX3_passesOrder_41 : decode cX3_passesOrder 41 = .ok (.iload_n 1, 1) := by decide +kernel
theorem dX3_passesOrder_42 : decode cX3_passesOrder 42 = .ok (.bipush 104, 2) := by decide +kernel
theorem dX3_passesOrder_44 : decode cX3_passesOrder 44 = .ok (.if_icmp .eq 9, 3) := by decide +kernel
theorem dX3_passesOrder_47 : decode cX3_passesOrder 47 = .ok (.iload_n 1, 1) := by decide +kernel
theorem dX3_passesOrder_48 : decode cX3_passesOrder 48 = .ok (.bipush 113, 2) := by decide +kernel
theorem dX3_passesOrder_50 : decode cX3_passesOrder 50 = .ok (.if_icmp .ne 7, 3) := by decide +kernel
theorem dX3_passesOrder_53 : decode cX3_passesOrder 53 = .ok (.iconst 1, 1) := by decide +kernel
theorem dX3_passesOrder_54 : decode cX3_passesOrder 54 = .ok (.goto 4, 3) := by decide +kernel
theorem dX3_passesOrder_57 : decode cX3_passesOrder 57 = .ok (.iconst 0, 1) := by decide +kernel
theorem dX3_passesOrder_58 : decode cX3_passesOrder 58 = .ok (.invokevirtual 171, 3) := by decide +kernel
theorem dX3_passesOrder_61 : decode cX3_passesOrder 61 = .ok (.ifCond .eq 25, 3) := by decide +kernel
theorem dX3_passesOrder_64 : decode cX3_passesOrder 64 = .ok (.iload_n 1, 1) := by decide +kernel
theorem dX3_passesOrder_65 : decode cX3_passesOrder 65 = .ok (.bipush 119, 2) := by decide +kernel
theorem dX3_passesOrder_67 : decode cX3_passesOrder 67 = .ok (.if_icmp .ne 21, 3) := by decide +kernel
theorem dX3_passesOrder_70 : decode cX3_passesOrder 70 = .ok (.aload_n 0, 1) := by decide +kernel
theorem dX3_passesOrder_71 : decode cX3_passesOrder 71 = .ok (.iconst 2, 1) := by decide +kernel
theorem dX3_passesOrder_72 : decode cX3_passesOrder 72 = .ok (.aload_n 0, 1) := by decide +kernel
theorem dX3_passesOrder_73 : decode cX3_passesOrder 73 = .ok (.getfield 168, 3) := by decide +kernel
theorem dX3_passesOrder_76 : decode cX3_passesOrder 76 = .ok (.imul, 1) := by decide +kernel
theorem dX3_passesOrder_77 : decode cX3_passesOrder 77 = .ok (.iconst 1, 1) := by decide +kernel
theorem dX3_passesOrder_78 : decode cX3_passesOrder 78 = .ok (.iadd, 1) := by decide +kernel
theorem dX3_passesOrder_79 : decode cX3_passesOrder 79 = .ok (.iconst 0, 1) := by decide +kernel
theorem dX3_passesOrder_80 : decode cX3_passesOrder 80 = .ok (.invokevirtual 171, 3) := by decide +kernel
theorem dX3_passesOrder_83 : decode cX3_passesOrder 83 = .ok (.ifCond .ne 5, 3) := by decide +kernel
theorem dX3_passesOrder_86 : decode cX3_passesOrder 86 = .ok (.iconst 0, 1) := by decide +kernel
theorem dX3_passesOrder_87 : decode cX3_passesOrder 87 = .ok (.ireturn, 1) := by decide +kernel
theorem dX3_passesOrder_88 : decode cX3_passesOrder 88 = .ok (.aload_n 0, 1) := by decide +kernel
theorem dX3_passesOrder_89 : decode cX3_passesOrder 89 = .ok (.invokevirtual 162, 3) := by decide +kernel
theorem dX3_passesOrder_92 : decode cX3_passesOrder 92 = .ok (.aload_n 0, 1) := by decide +kernel
theorem dX3_passesOrder_93 : decode cX3_passesOrder 93 = .ok (.invokevirtual 158, 3) := by decide +kernel
theorem dX3_passesOrder_96 : decode cX3_passesOrder 96 = .ok (.bipush 59, 2) := by decide +kernel
theorem dX3_passesOrder_98 : decode cX3_passesOrder 98 = .ok (.if_icmp .eq 5, 3) := by decide +kernel
theorem dX3_passesOrder_101 : decode cX3_passesOrder 101 = .ok (.iconst 0, 1) := by decide +kernel
theorem dX3_passesOrder_102 : decode cX3_passesOrder 102 = .ok (.ireturn, 1) := by decide +kernel
theorem dX3_passesOrder_103 : decode cX3_passesOrder 103 = .ok (.aload_n 0, 1) := by decide +kernel
theorem dX3_passesOrder_104 : decode cX3_passesOrder 104 = .ok (.dup, 1) := by decide +kernel
theorem dX3_passesOrder_105 : decode cX3_passesOrder 105 = .ok (.getfield 155, 3) := by decide +kernel
theorem dX3_passesOrder_108 : decode cX3_passesOrder 108 = .ok (.iconst 1, 1) := by decide +kernel
theorem dX3_passesOrder_109 : decode cX3_passesOrder 109 = .ok (.iadd, 1) := by decide +kernel
theorem dX3_passesOrder_110 : decode cX3_passesOrder 110 = .ok (.putfield 155, 3) := by decide +kernel
theorem dX3_passesOrder_113 : decode cX3_passesOrder 113 = .ok (.aload_n 0, 1) := by decide +kernel
theorem dX3_passesOrder_114 : decode cX3_passesOrder 114 = .ok (.dup, 1) := by decide +kernel
theorem dX3_passesOrder_115 : decode cX3_passesOrder 115 = .ok (.getfield 168, 3) := by decide +kernel
theorem dX3_passesOrder_118 : decode cX3_passesOrder 118 = .ok (.iconst 1, 1) := by decide +kernel
theorem dX3_passesOrder_119 : decode cX3_passesOrder 119 = .ok (.iadd, 1) := by decide +kernel
theorem dX3_passesOrder_120 : decode cX3_passesOrder 120 = .ok (.putfield 168, 3) := by decide +kernel
theorem dX3_passesOrder_123 : decode cX3_passesOrder 123 = .ok (.iconst 1, 1) := by decide +kernel
theorem dX3_passesOrder_124 : decode cX3_passesOrder 124 = .ok (.ireturn, 1) := by decide +kernel
theorem dX3_isRead_0 : decode cX3_isRead 0 = .ok (.aload_n 0, 1) := by decide +kernel
theorem dX3_isRead_1 : decode cX3_isRead 1 = .ok (.iconst 0, 1) := by decide +kernel
theorem dX3_isRead_2 : decode cX3_isRead 2 = .ok (.putfield 155, 3) := by decide +kernel
theorem dX3_isRead_5 : decode cX3_isRead 5 = .ok (.aload_n 0, 1) := by decide +kernel
theorem dX3_isRead_6 : decode cX3_isRead 6 = .ok (.iconst 0, 1) := by decide +kernel
theorem dX3_isRead_7 : decode cX3_isRead 7 = .ok (.putfield 168, 3) := by decide +kernel
theorem dX3_isRead_10 : decode cX3_isRead 10 = .ok (.aload_n 0, 1) := by decide +kernel
theorem dX3_isRead_11 : decode cX3_isRead 11 = .ok (.invokevirtual 162, 3) := by decide +kernel
theorem dX3_isRead_14 : decode cX3_isRead 14 = .ok (.aload_n 0, 1) := by decide +kernel
theorem dX3_isRead_15 : decode cX3_isRead 15 = .ok (.invokevirtual 175, 3) := by decide +kernel
theorem dX3_isRead_18 : decode cX3_isRead 18 = .ok (.ifCond .ne 5, 3) := by decide +kernel
theorem dX3_isRead_21 : decode cX3_isRead 21 = .ok (.iconst 0, 1) := by decide +kernel
theorem dX3_isRead_22 : decode cX3_isRead 22 = .ok (.ireturn, 1) := by decide +kernel
theorem dX3_isRead_23 : decode cX3_isRead 23 = .ok (.aload_n 0, 1) := by decide +kernel
theorem dX3_isRead_24 : decode cX3_isRead 24 = .ok (.invokevirtual 162, 3) := by decide +kernel
theorem dX3_isRead_27 : decode cX3_isRead 27 = .ok (.aload_n 0, 1) := by decide +kernel
theorem dX3_isRead_28 : decode cX3_isRead 28 = .ok (.invokevirtual 158, 3) := by decide +kernel
theorem dX3_isRead_31 : decode cX3_isRead 31 = .ok (.iconst (-1), 1) := by decide +kernel
theorem dX3_isRead_32 : decode cX3_isRead 32 = .ok (.if_icmp .ne (-18), 3) := by decide +kernel
theorem dX3_isRead_35 : decode cX3_isRead 35 = .ok (.iconst 1, 1) := by decide +kernel
theorem dX3_isRead_36 : decode cX3_isRead 36 = .ok (.ireturn, 1) := by decide +kernel
