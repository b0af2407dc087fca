theorem dX0_init_0 : decode cX0_init 0 = .ok (.aload_n 0, 1) := by decide +kernel
theorem dX0_init_1 : decode cX0_init 1 = .ok (.invokespecial 1, 3) := by decide +kernel
theorem dX0_init_4 : decode cX0_init 4 = .ok (.aload_n 0, 1) := by decide +kernel
theorem dX0_init_5 : decode cX0_init 5 = .ok (.bipush 9, 2) := by decide +kernel
theorem dX0_init_7 : decode cX0_init 7 = .ok (.newarray .int, 2) := by decide +kernel
theorem dX0_init_9 : decode cX0_init 9 = .ok (.dup, 1) := by decide +kernel
theorem dX0_init_10 : decode cX0_init 10 = .ok (.iconst 0, 1) := by decide +kernel
theorem dX0_init_11 : decode cX0_init 11 = .ok (.iconst 4, 1) := by decide +kernel
theorem dX0_init_12 : decode cX0_init 12 = .ok (.iastore, 1) := by decide +kernel
theorem dX0_init_13 : decode cX0_init 13 = .ok (.dup, 1) := by decide +kernel
theorem dX0_init_14 : decode cX0_init 14 = .ok (.iconst 1, 1) := by decide +kernel
theorem dX0_init_15 : decode cX0_init 15 = .ok (.bipush 100, 2) := by decide +kernel
theorem dX0_init_17 : decode cX0_init 17 = .ok (.iastore, 1) := by decide +kernel
theorem dX0_init_18 : decode cX0_init 18 = .ok (.dup, 1) := by decide +kernel
theorem dX0_init_19 : decode cX0_init 19 = .ok (.iconst 2, 1) := by decide +kernel
theorem dX0_init_20 : decode cX0_init 20 = .ok (.bipush 20, 2) := by decide +kernel
theorem dX0_init_22 : decode cX0_init 22 = .ok (.iastore, 1) := by decide +kernel
theorem dX0_init_23 : decode cX0_init 23 = .ok (.dup, 1) := by decide +kernel
theorem dX0_init_24 : decode cX0_init 24 = .ok (.iconst 3, 1) := by decide +kernel
theorem dX0_init_25 : decode cX0_init 25 = .ok (.iconst 5, 1) := by decide +kernel
theorem dX0_init_26 : decode cX0_init 26 = .ok (.iastore, 1) := by decide +kernel
theorem dX0_init_27 : decode cX0_init 27 = .ok (.dup, 1) := by decide +kernel
theorem dX0_init_28 : decode cX0_init 28 = .ok (.iconst 4, 1) := by decide +kernel
theorem dX0_init_29 : decode cX0_init 29 = .ok (.iconst 0, 1) := by decide +kernel
theorem dX0_init_30 : decode cX0_init 30 = .ok (.iastore, 1) := by decide +kernel
theorem dX0_init_31 : decode cX0_init 31 = .ok (.dup, 1) := by decide +kernel
theorem dX0_init_32 : decode cX0_init 32 = .ok (.iconst 5, 1) := by decide +kernel
theorem dX0_init_33 : decode cX0_init 33 = .ok (.iconst 0, 1) := by decide +kernel
theorem dX0_init_34 : decode cX0_init 34 = .ok (.iastore, 1) := by decide +kernel
theorem dX0_init_35 : decode cX0_init 35 = .ok (.dup, 1) := by decide +kernel
theorem dX0_init_36 : decode cX0_init 36 = .ok (.bipush 6, 2) := by decide +kernel
theorem dX0_init_38 : decode cX0_init 38 = .ok (.iconst 0, 1) := by decide +kernel
theorem dX0_init_39 : decode cX0_init 39 = .ok (.iastore, 1) := by decide +kernel
theorem dX0_init_40 : decode cX0_init 40 = .ok (.dup, 1) := by decide +kernel
theorem dX0_init_41 : decode cX0_init 41 = .ok (.bipush 7, 2) := by decide +kernel
theorem dX0_init_43 : decode cX0_init 43 = .ok (.bipush 10, 2) := by decide +kernel
theorem dX0_init_45 : decode cX0_init 45 = .ok (.iastore, 1) := by decide +kernel
theorem dX0_init_46 : decode cX0_init 46 = .ok (.dup, 1) := by decide +kernel
theorem dX0_init_47 : decode cX0_init 47 = .ok (.bipush 8, 2) := by decide +kernel
theorem dX0_init_49 : decode cX0_init 49 = .ok (.iconst 0, 1) := by decide +kernel
theorem dX0_init_50 : decode cX0_init 50 = .ok (.iastore, 1) := by decide +kernel
theorem dX0_init_51 : decode cX0_init 51 = .ok (.putfield 7, 3) := by decide +kernel
theorem dX0_init_54 : decode cX0_init 54 = .ok (.aload_n 0, 1) := by decide +kernel
theorem dX0_init_55 : decode cX0_init 55 = .ok (.bipush 11, 2) := by decide +kernel
theorem dX0_init_57 : decode cX0_init 57 = .ok (.newarray .double, 2) := by decide +kernel
theorem dX0_init_59 : decode cX0_init 59 = .ok (.putfield 13, 3) := by decide +kernel
theorem dX0_init_62 : decode cX0_init 62 = .ok (.aload_n 0, 1) := by decide +kernel
theorem dX0_init_63 : decode cX0_init 63 = .ok (.bipush 11, 2) := by decide +kernel
theorem dX0_init_65 : decode cX0_init 65 = .ok (.newarray .double, 2) := by decide +kernel
theorem dX0_init_67 : decode cX0_init 67 = .ok (.putfield 17, 3) := by decide +kernel
theorem dX0_init_70 : decode cX0_init 70 = .ok (.aload_n 0, 1) := by decide +kernel
theorem dX0_init_71 : decode cX0_init 71 = .ok (.bipush 11, 2) := by decide +kernel
theorem dX0_init_73 : decode cX0_init 73 = .ok (.newarray .double, 2) := by decide +kernel
theorem dX0_init_75 : decode cX0_init 75 = .ok (.putfield 20, 3) := by decide +kernel
theorem dX0_init_78 : decode cX0_init 78 = .ok (.aload_n 0, 1) := by decide +kernel
theorem dX0_init_79 : decode cX0_init 79 = .ok (.bipush 11, 2) := by decide +kernel
theorem dX0_init_81 : decode cX0_init 81 = .ok (.newarray .double, 2) := by decide +kernel
theorem dX0_init_83 : decode cX0_init 83 = .ok (.putfield 23, 3) := by decide +kernel
theorem dX0_init_86 : decode cX0_init 86 = .ok (.aload_n 0, 1) := by decide +kernel
theorem dX0_init_87 : decode cX0_init 87 = .ok (.invokevirtual 26, 3) := by decide +kernel
theorem dX0_init_90 : decode cX0_init 90 = .ok (.return_, 1) := by decide +kernel
theorem dX0_fits_0 : decode cX0_fits 0 = .ok (.iload_n 0, 1) := by decide +kernel
theorem dX0_fits_1 : decode cX0_fits 1 = .ok (.ifCond .lt 33, 3) := by decide +kernel
theorem dX0_fits_4 : decode cX0_fits 4 = .ok (.iload_n 0, 1) := by decide +kernel
theorem dX0_fits_5 : decode cX0_fits 5 = .ok (.getstatic 29, 3) := by decide +kernel
theorem dX0_fits_8 : decode cX0_fits 8 = .ok (.arraylength, 1) := by decide +kernel
theorem dX0_fits_9 : decode cX0_fits 9 = .ok (.if_icmp .ge 25, 3) := by decide +kernel
theorem dX0_fits_12 : decode cX0_fits 12 = .ok (.iload_n 1, 1) := by decide +kernel
theorem dX0_fits_13 : decode cX0_fits 13 = .ok (.getstatic 29, 3) := by decide +kernel
theorem dX0_fits_16 : decode cX0_fits 16 = .ok (.iload_n 0, 1) := by decide +kernel
theorem dX0_fits_17 : decode cX0_fits 17 = .ok (.iaload, 1) := by decide +kernel
theorem dX0_fits_18 : decode cX0_fits 18 = .ok (.if_icmp .lt 16, 3) := by decide +kernel
theorem dX0_fits_21 : decode cX0_fits 21 = .ok (.iload_n 1, 1) := by decide +kernel
theorem dX0_fits_22 : decode cX0_fits 22 = .ok (.getstatic 32, 3) := by decide +kernel
theorem dX0_fits_25 : decode cX0_fits 25 = .ok (.iload_n 0, 1) := by decide +kernel
theorem dX0_fits_26 : decode cX0_fits 26 = .ok (.iaload, 1) := by decide +kernel
theorem dX0_fits_27 : decode cX0_fits 27 = .ok (.if_icmp .gt 7, 3) := by decide +kernel
theorem dX0_fits_30 : decode cX0_fits 30 = .ok (.iconst 1, 1) := by decide +kernel
theorem dX0_fits_31 : decode cX0_fits 31 = .ok (.goto 4, 3) := by decide +kernel
theorem dX0_fits_34 : decode cX0_fits 34 = .ok (.iconst 0, 1) := by decide +kernel
theorem dX0_fits_35 : decode cX0_fits 35 = .ok (.ireturn, 1) := by decide +kernel
theorem dX0_isLaw_0 : decode cX0_isLaw 0 = .ok (.bipush 6, 2) := by decide +kernel
theorem dX0_isLaw_2 : decode cX0_isLaw 2 = .ok (.iload_n 0, 1) := by decide +kernel
theorem dX0_isLaw_3 : decode cX0_isLaw 3 = .ok (.invokestatic 35, 3) := by decide +kernel
theorem dX0_isLaw_6 : decode cX0_isLaw 6 = .ok (.ifCond .eq 16, 3) := by decide +kernel
theorem dX0_isLaw_9 : decode cX0_isLaw 9 = .ok (.bipush 7, 2) := by decide +kernel
theorem dX0_isLaw_11 : decode cX0_isLaw 11 = .ok (.iload_n 1, 1) := by decide +kernel
theorem dX0_isLaw_12 : decode cX0_isLaw 12 = .ok (.invokestatic 35, 3) := by decide +kernel
theorem dX0_isLaw_15 : decode cX0_isLaw 15 = .ok (.ifCond .eq 7, 3) := by decide +kernel
theorem dX0_isLaw_18 : decode cX0_isLaw 18 = .ok (.iconst 1, 1) := by decide +kernel
theorem dX0_isLaw_19 : decode cX0_isLaw 19 = .ok (.goto 4, 3) := by decide +kernel
theorem dX0_isLaw_22 : decode cX0_isLaw 22 = .ok (.iconst 0, 1) := by decide +kernel
theorem dX0_isLaw_23 : decode cX0_isLaw 23 = .ok (.ireturn, 1) := by decide +kernel
theorem dX0_letBy_0 : decode cX0_letBy 0 = .ok (.iload_n 1, 1) := by decide +kernel
theorem dX0_letBy_1 : decode cX0_letBy 1 = .ok (.i2d, 1) := by decide +kernel
theorem dX0_letBy_2 : decode cX0_letBy 2 = .ok (.dstore 4, 2) := by decide +kernel
theorem dX0_letBy_4 : decode cX0_letBy 4 = .ok (.iload_n 2, 1) := by decide +kernel
theorem dX0_letBy_5 : decode cX0_letBy 5 = .ok (.i2d, 1) := by decide +kernel
theorem dX0_letBy_6 : decode cX0_letBy 6 = .ok (.dstore 6, 2) := by decide +kernel
theorem dX0_letBy_8 : decode cX0_letBy 8 = .ok (.iload_n 3, 1) := by decide +kernel
theorem dX0_letBy_9 : decode cX0_letBy 9 = .ok (.i2d, 1) := by decide +kernel
theorem dX0_letBy_10 : decode cX0_letBy 10 = .ok (.dstore 8, 2) := by decide +kernel
theorem dX0_letBy_12 : decode cX0_letBy 12 = .ok (.iload_n 3, 1) := by decide +kernel
theorem dX0_letBy_13 : decode cX0_letBy 13 = .ok (.iload_n 2, 1) := by decide +kernel
theorem dX0_letBy_14 : decode cX0_letBy 14 = .ok (.if_icmp .ge 7, 3) := by decide +kernel
theorem dX0_letBy_17 : decode cX0_letBy 17 = .ok (.iconst 1, 1) := by decide +kernel
theorem dX0_letBy_18 : decode cX0_letBy 18 = .ok (.goto 4, 3) := by decide +kernel
theorem dX0_letBy_21 : decode cX0_letBy 21 = .ok (.iconst 0, 1) := by decide +kernel
theorem dX0_letBy_22 : decode cX0_letBy 22 = .ok (.istore 10, 2) := by decide +kernel
theorem dX0_letBy_24 : decode cX0_letBy 24 = .ok (.iload_n 0, 1) := by decide +kernel
theorem dX0_letBy_25 : decode cX0_letBy 25 = .ok (.tableswitch 138 1 5 #[35, 47, 68, 98, 114], 35) := by decide +kernel
theorem dX0_letBy_60 : decode cX0_letBy 60 = .ok (.iload 10, 2) := by decide +kernel
theorem dX0_letBy_62 : decode cX0_letBy 62 = .ok (.ifCond .eq 8, 3) := by decide +kernel
theorem dX0_letBy_65 : decode cX0_letBy 65 = .ok (.dload 4, 2) := by decide +kernel
theorem dX0_letBy_67 : decode cX0_letBy 67 = .ok (.goto 4, 3) := by decide +kernel
theorem dX0_letBy_70 : decode cX0_letBy 70 = .ok (.dconst 0, 1) := by decide +kernel
theorem dX0_letBy_71 : decode cX0_letBy 71 = .ok (.dreturn, 1) := by decide +kernel
theorem dX0_letBy_72 : decode cX0_letBy 72 = .ok (.iload 10, 2) := by decide +kernel
theorem dX0_letBy_74 : decode cX0_letBy 74 = .ok (.ifCond .eq 17, 3) := by decide +kernel
theorem dX0_letBy_77 : decode cX0_letBy 77 = .ok (.dload 4, 2) := by decide +kernel
theorem dX0_letBy_79 : decode cX0_letBy 79 = .ok (.dload 6, 2) := by decide +kernel
theorem dX0_letBy_81 : decode cX0_letBy 81 = .ok (.dload 8, 2) := by decide +kernel
theorem dX0_letBy_83 : decode cX0_letBy 83 = .ok (.dsub, 1) := by decide +kernel
theorem dX0_letBy_84 : decode cX0_letBy 84 = .ok (.dmul, 1) := by decide +kernel
theorem dX0_letBy_85 : decode cX0_letBy 85 = .ok (.dload 6, 2) := by decide +kernel
theorem dX0_letBy_87 : decode cX0_letBy 87 = .ok (.ddiv, 1) := by decide +kernel
theorem dX0_letBy_88 : decode cX0_letBy 88 = .ok (.goto 4, 3) := by decide +kernel
theorem dX0_letBy_91 : decode cX0_letBy 91 = .ok (.dconst 0, 1) := by decide +kernel
theorem dX0_letBy_92 : decode cX0_letBy 92 = .ok (.dreturn, 1) := by decide +kernel
theorem dX0_letBy_93 : decode cX0_letBy 93 = .ok (.iload 10, 2) := by decide +kernel
theorem dX0_letBy_95 : decode cX0_letBy 95 = .ok (.ifCond .eq 26, 3) := by decide +kernel
theorem dX0_letBy_98 : decode cX0_letBy 98 = .ok (.dload 4, 2) := by decide +kernel
theorem dX0_letBy_100 : decode cX0_letBy 100 = .ok (.dload 6, 2) := by decide +kernel
theorem dX0_letBy_102 : decode cX0_letBy 102 = .ok (.dload 6, 2) := by decide +kernel
theorem dX0_letBy_104 : decode cX0_letBy 104 = .ok (.dmul, 1) := by decide +kernel
theorem dX0_letBy_105 : decode cX0_letBy 105 = .ok (.dload 8, 2) := by decide +kernel
theorem dX0_letBy_107 : decode cX0_letBy 107 = .ok (.dload 8, 2) := by decide +kernel
theorem dX0_letBy_109 : decode cX0_letBy 109 = .ok (.dmul, 1) := by decide +kernel
theorem dX0_letBy_110 : decode cX0_letBy 110 = .ok (.dsub, 1) := by decide +kernel
theorem dX0_letBy_111 : decode cX0_letBy 111 = .ok (.dmul, 1) := by decide +kernel
theorem dX0_letBy_112 : decode cX0_letBy 112 = .ok (.dload 6, 2) := by decide +kernel
theorem dX0_letBy_114 : decode cX0_letBy 114 = .ok (.dload 6, 2) := by decide +kernel
theorem dX0_letBy_116 : decode cX0_letBy 116 = .ok (.dmul, 1) := by decide +kernel
theorem dX0_letBy_117 : decode cX0_letBy 117 = .ok (.ddiv, 1) := by decide +kernel
theorem dX0_letBy_118 : decode cX0_letBy 118 = .ok (.goto 4, 3) := by decide +kernel
theorem dX0_letBy_121 : decode cX0_letBy 121 = .ok (.dconst 0, 1) := by decide +kernel
theorem dX0_letBy_122 : decode cX0_letBy 122 = .ok (.dreturn, 1) := by decide +kernel
theorem dX0_letBy_123 : decode cX0_letBy 123 = .ok (.iload 10, 2) := by decide +kernel
theorem dX0_letBy_125 : decode cX0_letBy 125 = .ok (.ifCond .eq 12, 3) := by decide +kernel
theorem dX0_letBy_128 : decode cX0_letBy 128 = .ok (.dload 4, 2) := by decide +kernel
theorem dX0_letBy_130 : decode cX0_letBy 130 = .ok (.ldc2_w 39, 3) := by decide +kernel
theorem dX0_letBy_133 : decode cX0_letBy 133 = .ok (.ddiv, 1) := by decide +kernel
theorem dX0_letBy_134 : decode cX0_letBy 134 = .ok (.goto 4, 3) := by decide +kernel
theorem dX0_letBy_137 : decode cX0_letBy 137 = .ok (.dconst 0, 1) := by decide +kernel
theorem dX0_letBy_138 : decode cX0_letBy 138 = .ok (.dreturn, 1) := by decide +kernel
theorem dX0_letBy_139 : decode cX0_letBy 139 = .ok (.iload_n 2, 1) := by decide +kernel
theorem dX0_letBy_140 : decode cX0_letBy 140 = .ok (.ifCond .le 20, 3) := by decide +kernel
theorem dX0_letBy_143 : decode cX0_letBy 143 = .ok (.iload_n 3, 1) := by decide +kernel
theorem dX0_letBy_144 : decode cX0_letBy 144 = .ok (.iload_n 2, 1) := by decide +kernel
theorem dX0_letBy_145 : decode cX0_letBy 145 = .ok (.idiv, 1) := by decide +kernel
theorem dX0_letBy_146 : decode cX0_letBy 146 = .ok (.iconst 2, 1) := by decide +kernel
theorem dX0_letBy_147 : decode cX0_letBy 147 = .ok (.irem, 1) := by decide +kernel
theorem dX0_letBy_148 : decode cX0_letBy 148 = .ok (.ifCond .eq 12, 3) := by decide +kernel
theorem dX0_letBy_151 : decode cX0_letBy 151 = .ok (.dload 4, 2) := by decide +kernel
theorem dX0_letBy_153 : decode cX0_letBy 153 = .ok (.ldc2_w 39, 3) := by decide +kernel
theorem dX0_letBy_156 : decode cX0_letBy 156 = .ok (.ddiv, 1) := by decide +kernel
theorem dX0_letBy_157 : decode cX0_letBy 157 = .ok (.goto 5, 3) := by decide +kernel
theorem dX0_letBy_160 : decode cX0_letBy 160 = .ok (.dload 4, 2) := by decide +kernel
theorem dX0_letBy_162 : decode cX0_letBy 162 = .ok (.dreturn, 1) := by decide +kernel
theorem dX0_letBy_163 : decode cX0_letBy 163 = .ok (.dload 4, 2) := by decide +kernel
theorem dX0_letBy_165 : decode cX0_letBy 165 = .ok (.dreturn, 1) := by decide +kernel
theorem dX0_hasNode_0 : decode cX0_hasNode 0 = .ok (.iload_n 1, 1) := by decide +kernel
theorem dX0_hasNode_1 : decode cX0_hasNode 1 = .ok (.ifCond .lt 17, 3) := by decide +kernel
theorem dX0_hasNode_4 : decode cX0_hasNode 4 = .ok (.iload_n 1, 1) := by decide +kernel
theorem dX0_hasNode_5 : decode cX0_hasNode 5 = .ok (.aload_n 0, 1) := by decide +kernel
theorem dX0_hasNode_6 : decode cX0_hasNode 6 = .ok (.getfield 7, 3) := by decide +kernel
theorem dX0_hasNode_9 : decode cX0_hasNode 9 = .ok (.iconst 0, 1) := by decide +kernel
theorem dX0_hasNode_10 : decode cX0_hasNode 10 = .ok (.iaload, 1) := by decide +kernel
theorem dX0_hasNode_11 : decode cX0_hasNode 11 = .ok (.if_icmp .gt 7, 3) := by decide +kernel
theorem dX0_hasNode_14 : decode cX0_hasNode 14 = .ok (.iconst 1, 1) := by decide +kernel
theorem dX0_hasNode_15 : decode cX0_hasNode 15 = .ok (.goto 4, 3) := by decide +kernel
theorem dX0_hasNode_18 : decode cX0_hasNode 18 = .ok (.iconst 0, 1) := by decide +kernel
theorem dX0_hasNode_19 : decode cX0_hasNode 19 = .ok (.ireturn, 1) := by decide +kernel
theorem dX0_pressure_0 : decode cX0_pressure 0 = .ok (.aload_n 0, 1) := by decide +kernel
theorem dX0_pressure_1 : decode cX0_pressure 1 = .ok (.getfield 13, 3) := by decide +kernel
theorem dX0_pressure_4 : decode cX0_pressure 4 = .ok (.iload_n 1, 1) := by decide +kernel
theorem dX0_pressure_5 : decode cX0_pressure 5 = .ok (.daload, 1) := by decide +kernel
theorem dX0_pressure_6 : decode cX0_pressure 6 = .ok (.aload_n 0, 1) := by decide +kernel
theorem dX0_pressure_7 : decode cX0_pressure 7 = .ok (.getfield 17, 3) := by decide +kernel
theorem dX0_pressure_10 : decode cX0_pressure 10 = .ok (.iload_n 1, 1) := by decide +kernel
theorem dX0_pressure_11 : decode cX0_pressure 11 = .ok (.daload, 1) := by decide +kernel
theorem dX0_pressure_12 : decode cX0_pressure 12 = .ok (.dadd, 1) := by decide +kernel
theorem dX0_pressure_13 : decode cX0_pressure 13 = .ok (.dreturn, 1) := by decide +kernel
theorem dX0_sumOfSquares_0 : decode cX0_sumOfSquares 0 = .ok (.dconst 0, 1) := by decide +kernel
theorem dX0_sumOfSquares_1 : decode cX0_sumOfSquares 1 = .ok (.dstore_n 1, 1) := by decide +kernel
theorem dX0_sumOfSquares_2 : decode cX0_sumOfSquares 2 = .ok (.iconst 0, 1) := by decide +kernel
theorem dX0_sumOfSquares_3 : decode cX0_sumOfSquares 3 = .ok (.istore_n 3, 1) := by decide +kernel
theorem dX0_sumOfSquares_4 : decode cX0_sumOfSquares 4 = .ok (.iload_n 3, 1) := by decide +kernel
theorem dX0_sumOfSquares_5 : decode cX0_sumOfSquares 5 = .ok (.aload_n 0, 1) := by decide +kernel
theorem dX0_sumOfSquares_6 : decode cX0_sumOfSquares 6 = .ok (.getfield 7, 3) := by decide +kernel
theorem dX0_sumOfSquares_9 : decode cX0_sumOfSquares 9 = .ok (.iconst 0, 1) := by decide +kernel
theorem dX0_sumOfSquares_10 : decode cX0_sumOfSquares 10 = .ok (.iaload, 1) := by decide +kernel
theorem dX0_sumOfSquares_11 : decode cX0_sumOfSquares 11 = .ok (.if_icmp .gt 39, 3) := by decide +kernel
theorem dX0_sumOfSquares_14 : decode cX0_sumOfSquares 14 = .ok (.dload_n 1, 1) := by decide +kernel
theorem dX0_sumOfSquares_15 : decode cX0_sumOfSquares 15 = .ok (.aload_n 0, 1) := by decide +kernel
theorem dX0_sumOfSquares_16 : decode cX0_sumOfSquares 16 = .ok (.getfield 13, 3) := by decide +kernel
theorem dX0_sumOfSquares_19 : decode cX0_sumOfSquares 19 = .ok (.iload_n 3, 1) := by decide +kernel
theorem dX0_sumOfSquares_20 : decode cX0_sumOfSquares 20 = .ok (.daload, 1) := by decide +kernel
theorem dX0_sumOfSquares_21 : decode cX0_sumOfSquares 21 = .ok (.aload_n 0, 1) := by decide +kernel
theorem dX0_sumOfSquares_22 : decode cX0_sumOfSquares 22 = .ok (.getfield 13, 3) := by decide +kernel
theorem dX0_sumOfSquares_25 : decode cX0_sumOfSquares 25 = .ok (.iload_n 3, 1) := by decide +kernel
theorem dX0_sumOfSquares_26 : decode cX0_sumOfSquares 26 = .ok (.daload, 1) := by decide +kernel
theorem dX0_sumOfSquares_27 : decode cX0_sumOfSquares 27 = .ok (.dmul, 1) := by decide +kernel
theorem dX0_sumOfSquares_28 : decode cX0_sumOfSquares 28 = .ok (.aload_n 0, 1) := by decide +kernel
theorem dX0_sumOfSquares_29 : decode cX0_sumOfSquares 29 = .ok (.getfield 17, 3) := by decide +kernel
theorem dX0_sumOfSquares_32 : decode cX0_sumOfSquares 32 = .ok (.iload_n 3, 1) := by decide +kernel
theorem dX0_sumOfSquares_33 : decode cX0_sumOfSquares 33 = .ok (.daload, 1) := by decide +kernel
theorem dX0_sumOfSquares_34 : decode cX0_sumOfSquares 34 = .ok (.aload_n 0, 1) := by decide +kernel
theorem dX0_sumOfSquares_35 : decode cX0_sumOfSquares 35 = .ok (.getfield 17, 3) := by decide +kernel
theorem dX0_sumOfSquares_38 : decode cX0_sumOfSquares 38 = .ok (.iload_n 3, 1) := by decide +kernel
theorem dX0_sumOfSquares_39 : decode cX0_sumOfSquares 39 = .ok (.daload, 1) := by decide +kernel
theorem dX0_sumOfSquares_40 : decode cX0_sumOfSquares 40 = .ok (.dmul, 1) := by decide +kernel
theorem dX0_sumOfSquares_41 : decode cX0_sumOfSquares 41 = .ok (.dadd, 1) := by decide +kernel
theorem dX0_sumOfSquares_42 : decode cX0_sumOfSquares 42 = .ok (.dadd, 1) := by decide +kernel
theorem dX0_sumOfSquares_43 : decode cX0_sumOfSquares 43 = .ok (.dstore_n 1, 1) := by decide +kernel
theorem dX0_sumOfSquares_44 : decode cX0_sumOfSquares 44 = .ok (.iinc 3 1, 3) := by decide +kernel
theorem dX0_sumOfSquares_47 : decode cX0_sumOfSquares 47 = .ok (.goto (-43), 3) := by decide +kernel
theorem dX0_sumOfSquares_50 : decode cX0_sumOfSquares 50 = .ok (.dload_n 1, 1) := by decide +kernel
theorem dX0_sumOfSquares_51 : decode cX0_sumOfSquares 51 = .ok (.dreturn, 1) := by decide +kernel
theorem dX0_put_0 : decode cX0_put 0 = .ok (.aload_n 0, 1) := by decide +kernel
theorem dX0_put_1 : decode cX0_put 1 = .ok (.getfield 7, 3) := by decide +kernel
theorem dX0_put_4 : decode cX0_put 4 = .ok (.iload_n 1, 1) := by decide +kernel
theorem dX0_put_5 : decode cX0_put 5 = .ok (.iload_n 2, 1) := by decide +kernel
theorem dX0_put_6 : decode cX0_put 6 = .ok (.iastore, 1) := by decide +kernel
theorem dX0_put_7 : decode cX0_put 7 = .ok (.aload_n 0, 1) := by decide +kernel
theorem dX0_put_8 : decode cX0_put 8 = .ok (.invokevirtual 26, 3) := by decide +kernel
theorem dX0_put_11 : decode cX0_put 11 = .ok (.return_, 1) := by decide +kernel
theorem dX0_govern_0 : decode cX0_govern 0 = .ok (.aload_n 0, 1) := by decide +kernel
theorem dX0_govern_1 : decode cX0_govern 1 = .ok (.getfield 7, 3) := by decide +kernel
theorem dX0_govern_4 : decode cX0_govern 4 = .ok (.bipush 6, 2) := by decide +kernel
theorem dX0_govern_6 : decode cX0_govern 6 = .ok (.iload_n 1, 1) := by decide +kernel
theorem dX0_govern_7 : decode cX0_govern 7 = .ok (.iastore, 1) := by decide +kernel
theorem dX0_govern_8 : decode cX0_govern 8 = .ok (.aload_n 0, 1) := by decide +kernel
theorem dX0_govern_9 : decode cX0_govern 9 = .ok (.getfield 7, 3) := by decide +kernel
theorem dX0_govern_12 : decode cX0_govern 12 = .ok (.bipush 7, 2) := by decide +kernel
theorem dX0_govern_14 : decode cX0_govern 14 = .ok (.iload_n 2, 1) := by decide +kernel
theorem dX0_govern_15 : decode cX0_govern 15 = .ok (.iastore, 1) := by decide +kernel
theorem dX0_govern_16 : decode cX0_govern 16 = .ok (.return_, 1) := by decide +kernel
theorem dX0_tryOut_0 : decode cX0_tryOut 0 = .ok (.aload_n 1, 1) := by decide +kernel
theorem dX0_tryOut_1 : decode cX0_tryOut 1 = .ok (.getfield 7, 3) := by decide +kernel
theorem dX0_tryOut_4 : decode cX0_tryOut 4 = .ok (.iconst 0, 1) := by decide +kernel
theorem dX0_tryOut_5 : decode cX0_tryOut 5 = .ok (.aload_n 0, 1) := by decide +kernel
theorem dX0_tryOut_6 : decode cX0_tryOut 6 = .ok (.getfield 7, 3) := by decide +kernel
theorem dX0_tryOut_9 : decode cX0_tryOut 9 = .ok (.iconst 0, 1) := by decide +kernel
theorem dX0_tryOut_10 : decode cX0_tryOut 10 = .ok (.aload_n 0, 1) := by decide +kernel
theorem dX0_tryOut_11 : decode cX0_tryOut 11 = .ok (.getfield 7, 3) := by decide +kernel
theorem dX0_tryOut_14 : decode cX0_tryOut 14 = .ok (.arraylength, 1) := by decide +kernel
theorem dX0_tryOut_15 : decode cX0_tryOut 15 = .ok (.invokestatic 41, 3) := by decide +kernel
theorem dX0_tryOut_18 : decode cX0_tryOut 18 = .ok (.aload_n 0, 1) := by decide +kernel
theorem dX0_tryOut_19 : decode cX0_tryOut 19 = .ok (.getfield 7, 3) := by decide +kernel
theorem dX0_tryOut_22 : decode cX0_tryOut 22 = .ok (.iconst 5, 1) := by decide +kernel
theorem dX0_tryOut_23 : decode cX0_tryOut 23 = .ok (.iconst 0, 1) := by decide +kernel
theorem dX0_tryOut_24 : decode cX0_tryOut 24 = .ok (.iastore, 1) := by decide +kernel
theorem dX0_tryOut_25 : decode cX0_tryOut 25 = .ok (.aload_n 0, 1) := by decide +kernel
theorem dX0_tryOut_26 : decode cX0_tryOut 26 = .ok (.iload_n 2, 1) := by decide +kernel
theorem dX0_tryOut_27 : decode cX0_tryOut 27 = .ok (.iload_n 3, 1) := by decide +kernel
theorem dX0_tryOut_28 : decode cX0_tryOut 28 = .ok (.invokevirtual 47, 3) := by decide +kernel
theorem dX0_tryOut_31 : decode cX0_tryOut 31 = .ok (.aload_n 0, 1) := by decide +kernel
theorem dX0_tryOut_32 : decode cX0_tryOut 32 = .ok (.invokevirtual 26, 3) := by decide +kernel
theorem dX0_tryOut_35 : decode cX0_tryOut 35 = .ok (.return_, 1) := by decide +kernel
theorem dX0_copyFrom_0 : decode cX0_copyFrom 0 = .ok (.aload_n 1, 1) := by decide +kernel
theorem dX0_copyFrom_1 : decode cX0_copyFrom 1 = .ok (.getfield 7, 3) := by decide +kernel
theorem dX0_copyFrom_4 : decode cX0_copyFrom 4 = .ok (.iconst 0, 1) := by decide +kernel
theorem dX0_copyFrom_5 : decode cX0_copyFrom 5 = .ok (.aload_n 0, 1) := by decide +kernel
theorem dX0_copyFrom_6 : decode cX0_copyFrom 6 = .ok (.getfield 7, 3) := by decide +kernel
theorem dX0_copyFrom_9 : decode cX0_copyFrom 9 = .ok (.iconst 0, 1) := by decide +kernel
theorem dX0_copyFrom_10 : decode cX0_copyFrom 10 = .ok (.aload_n 0, 1) := by decide +kernel
theorem dX0_copyFrom_11 : decode cX0_copyFrom 11 = .ok (.getfield 7, 3) := by decide +kernel
theorem dX0_copyFrom_14 : decode cX0_copyFrom 14 = .ok (.arraylength, 1) := by decide +kernel
theorem dX0_copyFrom_15 : decode cX0_copyFrom 15 = .ok (.invokestatic 41, 3) := by decide +kernel
theorem dX0_copyFrom_18 : decode cX0_copyFrom 18 = .ok (.aload_n 1, 1) := by decide +kernel
theorem dX0_copyFrom_19 : decode cX0_copyFrom 19 = .ok (.getfield 13, 3) := by decide +kernel
theorem dX0_copyFrom_22 : decode cX0_copyFrom 22 = .ok (.iconst 0, 1) := by decide +kernel
theorem dX0_copyFrom_23 : decode cX0_copyFrom 23 = .ok (.aload_n 0, 1) := by decide +kernel
theorem dX0_copyFrom_24 : decode cX0_copyFrom 24 = .ok (.getfield 13, 3) := by decide +kernel
theorem dX0_copyFrom_27 : decode cX0_copyFrom 27 = .ok (.iconst 0, 1) := by decide +kernel
theorem dX0_copyFrom_28 : decode cX0_copyFrom 28 = .ok (.bipush 11, 2) := by decide +kernel
theorem dX0_copyFrom_30 : decode cX0_copyFrom 30 = .ok (.invokestatic 41, 3) := by decide +kernel
theorem dX0_copyFrom_33 : decode cX0_copyFrom 33 = .ok (.aload_n 1, 1) := by decide +kernel
theorem dX0_copyFrom_34 : decode cX0_copyFrom 34 = .ok (.getfield 17, 3) := by decide +kernel
theorem dX0_copyFrom_37 : decode cX0_copyFrom 37 = .ok (.iconst 0, 1) := by decide +kernel
theorem dX0_copyFrom_38 : decode cX0_copyFrom 38 = .ok (.aload_n 0, 1) := by decide +kernel
theorem dX0_copyFrom_39 : decode cX0_copyFrom 39 = .ok (.getfield 17, 3) := by decide +kernel
theorem dX0_copyFrom_42 : decode cX0_copyFrom 42 = .ok (.iconst 0, 1) := by decide +kernel
theorem dX0_copyFrom_43 : decode cX0_copyFrom 43 = .ok (.bipush 11, 2) := by decide +kernel
theorem dX0_copyFrom_45 : decode cX0_copyFrom 45 = .ok (.invokestatic 41, 3) := by decide +kernel
theorem dX0_copyFrom_48 : decode cX0_copyFrom 48 = .ok (.aload_n 1, 1) := by decide +kernel
theorem dX0_copyFrom_49 : decode cX0_copyFrom 49 = .ok (.getfield 20, 3) := by decide +kernel
theorem dX0_copyFrom_52 : decode cX0_copyFrom 52 = .ok (.iconst 0, 1) := by decide +kernel
theorem dX0_copyFrom_53 : decode cX0_copyFrom 53 = .ok (.aload_n 0, 1) := by decide +kernel
theorem dX0_copyFrom_54 : decode cX0_copyFrom 54 = .ok (.getfield 20, 3) := by decide +kernel
theorem dX0_copyFrom_57 : decode cX0_copyFrom 57 = .ok (.iconst 0, 1) := by decide +kernel
theorem dX0_copyFrom_58 : decode cX0_copyFrom 58 = .ok (.bipush 11, 2) := by decide +kernel
theorem dX0_copyFrom_60 : decode cX0_copyFrom 60 = .ok (.invokestatic 41, 3) := by decide +kernel
theorem dX0_copyFrom_63 : decode cX0_copyFrom 63 = .ok (.aload_n 1, 1) := by decide +kernel
theorem dX0_copyFrom_64 : decode cX0_copyFrom 64 = .ok (.getfield 23, 3) := by decide +kernel
theorem dX0_copyFrom_67 : decode cX0_copyFrom 67 = .ok (.iconst 0, 1) := by decide +kernel
theorem dX0_copyFrom_68 : decode cX0_copyFrom 68 = .ok (.aload_n 0, 1) := by decide +kernel
theorem dX0_copyFrom_69 : decode cX0_copyFrom 69 = .ok (.getfield 23, 3) := by decide +kernel
theorem dX0_copyFrom_72 : decode cX0_copyFrom 72 = .ok (.iconst 0, 1) := by decide +kernel
theorem dX0_copyFrom_73 : decode cX0_copyFrom 73 = .ok (.bipush 11, 2) := by decide +kernel
theorem dX0_copyFrom_75 : decode cX0_copyFrom 75 = .ok (.invokestatic 41, 3) := by decide +kernel
theorem dX0_copyFrom_78 : decode cX0_copyFrom 78 = .ok (.aload_n 0, 1) := by decide +kernel
theorem dX0_copyFrom_79 : decode cX0_copyFrom 79 = .ok (.aload_n 1, 1) := by decide +kernel
theorem dX0_copyFrom_80 : decode cX0_copyFrom 80 = .ok (.getfield 51, 3) := by decide +kernel
theorem dX0_copyFrom_83 : decode cX0_copyFrom 83 = .ok (.putfield 51, 3) := by decide +kernel
theorem dX0_copyFrom_86 : decode cX0_copyFrom 86 = .ok (.aload_n 0, 1) := by decide +kernel
theorem dX0_copyFrom_87 : decode cX0_copyFrom 87 = .ok (.aload_n 1, 1) := by decide +kernel
theorem dX0_copyFrom_88 : decode cX0_copyFrom 88 = .ok (.getfield 55, 3) := by decide +kernel
theorem dX0_copyFrom_91 : decode cX0_copyFrom 91 = .ok (.putfield 55, 3) := by decide +kernel
theorem dX0_copyFrom_94 : decode cX0_copyFrom 94 = .ok (.aload_n 0, 1) := by decide +kernel
theorem dX0_copyFrom_95 : decode cX0_copyFrom 95 = .ok (.aload_n 1, 1) := by decide +kernel
theorem dX0_copyFrom_96 : decode cX0_copyFrom 96 = .ok (.getfield 58, 3) := by decide +kernel
theorem dX0_copyFrom_99 : decode cX0_copyFrom 99 = .ok (.putfield 58, 3) := by decide +kernel
theorem dX0_copyFrom_102 : decode cX0_copyFrom 102 = .ok (.return_, 1) := by decide +kernel
theorem dX0_settle_0 : decode cX0_settle 0 = .ok (.aload_n 0, 1) := by decide +kernel
theorem dX0_settle_1 : decode cX0_settle 1 = .ok (.getfield 7, 3) := by decide +kernel
theorem dX0_settle_4 : decode cX0_settle 4 = .ok (.iconst 1, 1) := by decide +kernel
theorem dX0_settle_5 : decode cX0_settle 5 = .ok (.iaload, 1) := by decide +kernel
theorem dX0_settle_6 : decode cX0_settle 6 = .ok (.i2d, 1) := by decide +kernel
theorem dX0_settle_7 : decode cX0_settle 7 = .ok (.dstore_n 1, 1) := by decide +kernel
theorem dX0_settle_8 : decode cX0_settle 8 = .ok (.aload_n 0, 1) := by decide +kernel
theorem dX0_settle_9 : decode cX0_settle 9 = .ok (.getfield 7, 3) := by decide +kernel
theorem dX0_settle_12 : decode cX0_settle 12 = .ok (.iconst 2, 1) := by decide +kernel
theorem dX0_settle_13 : decode cX0_settle 13 = .ok (.iaload, 1) := by decide +kernel
theorem dX0_settle_14 : decode cX0_settle 14 = .ok (.i2d, 1) := by decide +kernel
theorem dX0_settle_15 : decode cX0_settle 15 = .ok (.dstore_n 3, 1) := by decide +kernel
theorem dX0_settle_16 : decode cX0_settle 16 = .ok (.aload_n 0, 1) := by decide +kernel
theorem dX0_settle_17 : decode cX0_settle 17 = .ok (.getfield 7, 3) := by decide +kernel
theorem dX0_settle_20 : decode cX0_settle 20 = .ok (.bipush 8, 2) := by decide +kernel
theorem dX0_settle_22 : decode cX0_settle 22 = .ok (.iconst 0, 1) := by decide +kernel
theorem dX0_settle_23 : decode cX0_settle 23 = .ok (.iastore, 1) := by decide +kernel
theorem dX0_settle_24 : decode cX0_settle 24 = .ok (.aload_n 0, 1) := by decide +kernel
theorem dX0_settle_25 : decode cX0_settle 25 = .ok (.dload_n 1, 1) := by decide +kernel
theorem dX0_settle_26 : decode cX0_settle 26 = .ok (.putfield 58, 3) := by decide +kernel
theorem dX0_settle_29 : decode cX0_settle 29 = .ok (.iconst 0, 1) := by decide +kernel
theorem dX0_settle_30 : decode cX0_settle 30 = .ok (.istore 5, 2) := by decide +kernel
theorem dX0_settle_32 : decode cX0_settle 32 = .ok (.iload 5, 2) := by decide +kernel
theorem dX0_settle_34 : decode cX0_settle 34 = .ok (.aload_n 0, 1) := by decide +kernel
theorem dX0_settle_35 : decode cX0_settle 35 = .ok (.getfield 7, 3) := by decide +kernel
theorem dX0_settle_38 : decode cX0_settle 38 = .ok (.iconst 0, 1) := by decide +kernel
theorem dX0_settle_39 : decode cX0_settle 39 = .ok (.iaload, 1) := by decide +kernel
theorem dX0_settle_40 : decode cX0_settle 40 = .ok (.if_icmp .gt 63, 3) := by decide +kernel
theorem dX0_settle_43 : decode cX0_settle 43 = .ok (.aload_n 0, 1) := by decide +kernel
theorem dX0_settle_44 : decode cX0_settle 44 = .ok (.getfield 13, 3) := by decide +kernel
theorem dX0_settle_47 : decode cX0_settle 47 = .ok (.iload 5, 2) := by decide +kernel
theorem dX0_settle_49 : decode cX0_settle 49 = .ok (.dload_n 1, 1) := by decide +kernel
theorem dX0_settle_50 : decode cX0_settle 50 = .ok (.dload_n 3, 1) := by decide +kernel
theorem dX0_settle_51 : decode cX0_settle 51 = .ok (.dadd, 1) := by decide +kernel
theorem dX0_settle_52 : decode cX0_settle 52 = .ok (.ldc2_w 39, 3) := by decide +kernel
theorem dX0_settle_55 : decode cX0_settle 55 = .ok (.ddiv, 1) := by decide +kernel
theorem dX0_settle_56 : decode cX0_settle 56 = .ok (.dastore, 1) := by decide +kernel
theorem dX0_settle_57 : decode cX0_settle 57 = .ok (.aload_n 0, 1) := by decide +kernel
theorem dX0_settle_58 : decode cX0_settle 58 = .ok (.getfield 17, 3) := by decide +kernel
theorem dX0_settle_61 : decode cX0_settle 61 = .ok (.iload 5, 2) := by decide +kernel
theorem dX0_settle_63 : decode cX0_settle 63 = .ok (.dload_n 1, 1) := by decide +kernel
theorem dX0_settle_64 : decode cX0_settle 64 = .ok (.dload_n 3, 1) := by decide +kernel
theorem dX0_settle_65 : decode cX0_settle 65 = .ok (.dsub, 1) := by decide +kernel
theorem dX0_settle_66 : decode cX0_settle 66 = .ok (.ldc2_w 39, 3) := by decide +kernel
theorem dX0_settle_69 : decode cX0_settle 69 = .ok (.ddiv, 1) := by decide +kernel
theorem dX0_settle_70 : decode cX0_settle 70 = .ok (.dastore, 1) := by decide +kernel
theorem dX0_settle_71 : decode cX0_settle 71 = .ok (.aload_n 0, 1) := by decide +kernel
theorem dX0_settle_72 : decode cX0_settle 72 = .ok (.getfield 20, 3) := by decide +kernel
theorem dX0_settle_75 : decode cX0_settle 75 = .ok (.iload 5, 2) := by decide +kernel
theorem dX0_settle_77 : decode cX0_settle 77 = .ok (.aload_n 0, 1) := by decide +kernel
theorem dX0_settle_78 : decode cX0_settle 78 = .ok (.iload 5, 2) := by decide +kernel
theorem dX0_settle_80 : decode cX0_settle 80 = .ok (.invokevirtual 61, 3) := by decide +kernel
theorem dX0_settle_83 : decode cX0_settle 83 = .ok (.dastore, 1) := by decide +kernel
theorem dX0_settle_84 : decode cX0_settle 84 = .ok (.aload_n 0, 1) := by decide +kernel
theorem dX0_settle_85 : decode cX0_settle 85 = .ok (.getfield 23, 3) := by decide +kernel
theorem dX0_settle_88 : decode cX0_settle 88 = .ok (.iload 5, 2) := by decide +kernel
theorem dX0_settle_90 : decode cX0_settle 90 = .ok (.aload_n 0, 1) := by decide +kernel
theorem dX0_settle_91 : decode cX0_settle 91 = .ok (.iload 5, 2) := by decide +kernel
theorem dX0_settle_93 : decode cX0_settle 93 = .ok (.invokevirtual 61, 3) := by decide +kernel
theorem dX0_settle_96 : decode cX0_settle 96 = .ok (.dastore, 1) := by decide +kernel
theorem dX0_settle_97 : decode cX0_settle 97 = .ok (.iinc 5 1, 3) := by decide +kernel
theorem dX0_settle_100 : decode cX0_settle 100 = .ok (.goto (-68), 3) := by decide +kernel
theorem dX0_settle_103 : decode cX0_settle 103 = .ok (.aload_n 0, 1) := by decide +kernel
theorem dX0_settle_104 : decode cX0_settle 104 = .ok (.aload_n 0, 1) := by decide +kernel
theorem dX0_settle_105 : decode cX0_settle 105 = .ok (.iconst 0, 1) := by decide +kernel
theorem dX0_settle_106 : decode cX0_settle 106 = .ok (.invokevirtual 61, 3) := by decide +kernel
theorem dX0_settle_109 : decode cX0_settle 109 = .ok (.putfield 51, 3) := by decide +kernel
theorem dX0_settle_112 : decode cX0_settle 112 = .ok (.aload_n 0, 1) := by decide +kernel
theorem dX0_settle_113 : decode cX0_settle 113 = .ok (.aload_n 0, 1) := by decide +kernel
theorem dX0_settle_114 : decode cX0_settle 114 = .ok (.iconst 0, 1) := by decide +kernel
theorem dX0_settle_115 : decode cX0_settle 115 = .ok (.invokevirtual 61, 3) := by decide +kernel
theorem dX0_settle_118 : decode cX0_settle 118 = .ok (.putfield 55, 3) := by decide +kernel
theorem dX0_settle_121 : decode cX0_settle 121 = .ok (.return_, 1) := by decide +kernel
theorem dX0_advance_0 : decode cX0_advance 0 = .ok (.iconst 0, 1) := by decide +kernel
theorem dX0_advance_1 : decode cX0_advance 1 = .ok (.istore_n 2, 1) := by decide +kernel
theorem dX0_advance_2 : decode cX0_advance 2 = .ok (.iload_n 2, 1) := by decide +kernel
theorem dX0_advance_3 : decode cX0_advance 3 = .ok (.iload_n 1, 1) := by decide +kernel
theorem dX0_advance_4 : decode cX0_advance 4 = .ok (.if_icmp .ge 36, 3) := by decide +kernel
theorem dX0_advance_7 : decode cX0_advance 7 = .ok (.aload_n 0, 1) := by decide +kernel
theorem dX0_advance_8 : decode cX0_advance 8 = .ok (.getfield 7, 3) := by decide +kernel
theorem dX0_advance_11 : decode cX0_advance 11 = .ok (.bipush 8, 2) := by decide +kernel
theorem dX0_advance_13 : decode cX0_advance 13 = .ok (.dup2, 1) := by decide +kernel
theorem dX0_advance_14 : decode cX0_advance 14 = .ok (.iaload, 1) := by decide +kernel
theorem dX0_advance_15 : decode cX0_advance 15 = .ok (.iconst 1, 1) := by decide +kernel
theorem dX0_advance_16 : decode cX0_advance 16 = .ok (.iadd, 1) := by decide +kernel
theorem dX0_advance_17 : decode cX0_advance 17 = .ok (.iastore, 1) := by decide +kernel
theorem dX0_advance_18 : decode cX0_advance 18 = .ok (.aload_n 0, 1) := by decide +kernel
theorem dX0_advance_19 : decode cX0_advance 19 = .ok (.invokevirtual 65, 3) := by decide +kernel
theorem dX0_advance_22 : decode cX0_advance 22 = .ok (.aload_n 0, 1) := by decide +kernel
theorem dX0_advance_23 : decode cX0_advance 23 = .ok (.invokevirtual 68, 3) := by decide +kernel
theorem dX0_advance_26 : decode cX0_advance 26 = .ok (.aload_n 0, 1) := by decide +kernel
theorem dX0_advance_27 : decode cX0_advance 27 = .ok (.invokevirtual 71, 3) := by decide +kernel
theorem dX0_advance_30 : decode cX0_advance 30 = .ok (.aload_n 0, 1) := by decide +kernel
theorem dX0_advance_31 : decode cX0_advance 31 = .ok (.invokevirtual 74, 3) := by decide +kernel
theorem dX0_advance_34 : decode cX0_advance 34 = .ok (.iinc 2 1, 3) := by decide +kernel
theorem dX0_advance_37 : decode cX0_advance 37 = .ok (.goto (-35), 3) := by decide +kernel
theorem dX0_advance_40 : decode cX0_advance 40 = .ok (.return_, 1) := by decide +kernel
theorem dX0_shift_0 : decode cX0_shift 0 = .ok (.aload_n 0, 1) := by decide +kernel
theorem dX0_shift_1 : decode cX0_shift 1 = .ok (.getfield 7, 3) := by decide +kernel
theorem dX0_shift_4 : decode cX0_shift 4 = .ok (.iconst 0, 1) := by decide +kernel
theorem dX0_shift_5 : decode cX0_shift 5 = .ok (.iaload, 1) := by decide +kernel
theorem dX0_shift_6 : decode cX0_shift 6 = .ok (.istore_n 1, 1) := by decide +kernel
theorem dX0_shift_7 : decode cX0_shift 7 = .ok (.iload_n 1, 1) := by decide +kernel
theorem dX0_shift_8 : decode cX0_shift 8 = .ok (.istore_n 2, 1) := by decide +kernel
theorem dX0_shift_9 : decode cX0_shift 9 = .ok (.iload_n 2, 1) := by decide +kernel
theorem dX0_shift_10 : decode cX0_shift 10 = .ok (.ifCond .le 23, 3) := by decide +kernel
theorem dX0_shift_13 : decode cX0_shift 13 = .ok (.aload_n 0, 1) := by decide +kernel
theorem dX0_shift_14 : decode cX0_shift 14 = .ok (.getfield 13, 3) := by decide +kernel
theorem dX0_shift_17 : decode cX0_shift 17 = .ok (.iload_n 2, 1) := by decide +kernel
theorem dX0_shift_18 : decode cX0_shift 18 = .ok (.aload_n 0, 1) := by decide +kernel
theorem dX0_shift_19 : decode cX0_shift 19 = .ok (.getfield 13, 3) := by decide +kernel
theorem dX0_shift_22 : decode cX0_shift 22 = .ok (.iload_n 2, 1) := by decide +kernel
theorem dX0_shift_23 : decode cX0_shift 23 = .ok (.iconst 1, 1) := by decide +kernel
theorem dX0_shift_24 : decode cX0_shift 24 = .ok (.isub, 1) := by decide +kernel
theorem dX0_shift_25 : decode cX0_shift 25 = .ok (.daload, 1) := by decide +kernel
theorem dX0_shift_26 : decode cX0_shift 26 = .ok (.dastore, 1) := by decide +kernel
theorem dX0_shift_27 : decode cX0_shift 27 = .ok (.iinc 2 (-1), 3) := by decide +kernel
theorem dX0_shift_30 : decode cX0_shift 30 = .ok (.goto (-21), 3) := by decide +kernel
theorem dX0_shift_33 : decode cX0_shift 33 = .ok (.iconst 0, 1) := by decide +kernel
theorem dX0_shift_34 : decode cX0_shift 34 = .ok (.istore_n 2, 1) := by decide +kernel
theorem dX0_shift_35 : decode cX0_shift 35 = .ok (.iload_n 2, 1) := by decide +kernel
theorem dX0_shift_36 : decode cX0_shift 36 = .ok (.iload_n 1, 1) := by decide +kernel
theorem dX0_shift_37 : decode cX0_shift 37 = .ok (.if_icmp .ge 23, 3) := by decide +kernel
theorem dX0_shift_40 : decode cX0_shift 40 = .ok (.aload_n 0, 1) := by decide +kernel
theorem dX0_shift_41 : decode cX0_shift 41 = .ok (.getfield 17, 3) := by decide +kernel
theorem dX0_shift_44 : decode cX0_shift 44 = .ok (.iload_n 2, 1) := by decide +kernel
theorem dX0_shift_45 : decode cX0_shift 45 = .ok (.aload_n 0, 1) := by decide +kernel
theorem dX0_shift_46 : decode cX0_shift 46 = .ok (.getfield 17, 3) := by decide +kernel
theorem dX0_shift_49 : decode cX0_shift 49 = .ok (.iload_n 2, 1) := by decide +kernel
theorem dX0_shift_50 : decode cX0_shift 50 = .ok (.iconst 1, 1) := by decide +kernel
theorem dX0_shift_51 : decode cX0_shift 51 = .ok (.iadd, 1) := by decide +kernel
theorem dX0_shift_52 : decode cX0_shift 52 = .ok (.daload, 1) := by decide +kernel
theorem dX0_shift_53 : decode cX0_shift 53 = .ok (.dastore, 1) := by decide +kernel
theorem dX0_shift_54 : decode cX0_shift 54 = .ok (.iinc 2 1, 3) := by decide +kernel
theorem dX0_shift_57 : decode cX0_shift 57 = .ok (.goto (-22), 3) := by decide +kernel
theorem dX0_shift_60 : decode cX0_shift 60 = .ok (.return_, 1) := by decide +kernel
theorem dX0_turnLeft_0 : decode cX0_turnLeft 0 = .ok (.aload_n 0, 1) := by decide +kernel
theorem dX0_turnLeft_1 : decode cX0_turnLeft 1 = .ok (.getfield 7, 3) := by decide +kernel
theorem dX0_turnLeft_4 : decode cX0_turnLeft 4 = .ok (.iconst 1, 1) := by decide +kernel
theorem dX0_turnLeft_5 : decode cX0_turnLeft 5 = .ok (.iaload, 1) := by decide +kernel
theorem dX0_turnLeft_6 : decode cX0_turnLeft 6 = .ok (.i2d, 1) := by decide +kernel
theorem dX0_turnLeft_7 : decode cX0_turnLeft 7 = .ok (.dstore_n 1, 1) := by decide +kernel
theorem dX0_turnLeft_8 : decode cX0_turnLeft 8 = .ok (.aload_n 0, 1) := by decide +kernel
theorem dX0_turnLeft_9 : decode cX0_turnLeft 9 = .ok (.getfield 13, 3) := by decide +kernel
theorem dX0_turnLeft_12 : decode cX0_turnLeft 12 = .ok (.iconst 0, 1) := by decide +kernel
theorem dX0_turnLeft_13 : decode cX0_turnLeft 13 = .ok (.aload_n 0, 1) := by decide +kernel
theorem dX0_turnLeft_14 : decode cX0_turnLeft 14 = .ok (.getfield 7, 3) := by decide +kernel
theorem dX0_turnLeft_17 : decode cX0_turnLeft 17 = .ok (.iconst 4, 1) := by decide +kernel
theorem dX0_turnLeft_18 : decode cX0_turnLeft 18 = .ok (.iaload, 1) := by decide +kernel
theorem dX0_turnLeft_19 : decode cX0_turnLeft 19 = .ok (.ifCond .ne 14, 3) := by decide +kernel
theorem dX0_turnLeft_22 : decode cX0_turnLeft 22 = .ok (.dload_n 1, 1) := by decide +kernel
theorem dX0_turnLeft_23 : decode cX0_turnLeft 23 = .ok (.aload_n 0, 1) := by decide +kernel
theorem dX0_turnLeft_24 : decode cX0_turnLeft 24 = .ok (.getfield 17, 3) := by decide +kernel
theorem dX0_turnLeft_27 : decode cX0_turnLeft 27 = .ok (.iconst 0, 1) := by decide +kernel
theorem dX0_turnLeft_28 : decode cX0_turnLeft 28 = .ok (.daload, 1) := by decide +kernel
theorem dX0_turnLeft_29 : decode cX0_turnLeft 29 = .ok (.dsub, 1) := by decide +kernel
theorem dX0_turnLeft_30 : decode cX0_turnLeft 30 = .ok (.goto 9, 3) := by decide +kernel
theorem dX0_turnLeft_33 : decode cX0_turnLeft 33 = .ok (.aload_n 0, 1) := by decide +kernel
theorem dX0_turnLeft_34 : decode cX0_turnLeft 34 = .ok (.getfield 17, 3) := by decide +kernel
theorem dX0_turnLeft_37 : decode cX0_turnLeft 37 = .ok (.iconst 0, 1) := by decide +kernel
theorem dX0_turnLeft_38 : decode cX0_turnLeft 38 = .ok (.daload, 1) := by decide +kernel
theorem dX0_turnLeft_39 : decode cX0_turnLeft 39 = .ok (.dastore, 1) := by decide +kernel
theorem dX0_turnLeft_40 : decode cX0_turnLeft 40 = .ok (.return_, 1) := by decide +kernel
theorem dX0_turnRight_0 : decode cX0_turnRight 0 = .ok (.aload_n 0, 1) := by decide +kernel
theorem dX0_turnRight_1 : decode cX0_turnRight 1 = .ok (.getfield 7, 3) := by decide +kernel
theorem dX0_turnRight_4 : decode cX0_turnRight 4 = .ok (.iconst 0, 1) := by decide +kernel
theorem dX0_turnRight_5 : decode cX0_turnRight 5 = .ok (.iaload, 1) := by decide +kernel
theorem dX0_turnRight_6 : decode cX0_turnRight 6 = .ok (.istore_n 1, 1) := by decide +kernel
theorem dX0_turnRight_7 : decode cX0_turnRight 7 = .ok (.aload_n 0, 1) := by decide +kernel
theorem dX0_turnRight_8 : decode cX0_turnRight 8 = .ok (.getfield 7, 3) := by decide +kernel
theorem dX0_turnRight_11 : decode cX0_turnRight 11 = .ok (.iconst 1, 1) := by decide +kernel
theorem dX0_turnRight_12 : decode cX0_turnRight 12 = .ok (.iaload, 1) := by decide +kernel
theorem dX0_turnRight_13 : decode cX0_turnRight 13 = .ok (.i2d, 1) := by decide +kernel
theorem dX0_turnRight_14 : decode cX0_turnRight 14 = .ok (.dstore_n 2, 1) := by decide +kernel
theorem dX0_turnRight_15 : decode cX0_turnRight 15 = .ok (.aload_n 0, 1) := by decide +kernel
theorem dX0_turnRight_16 : decode cX0_turnRight 16 = .ok (.getfield 7, 3) := by decide +kernel
theorem dX0_turnRight_19 : decode cX0_turnRight 19 = .ok (.iconst 5, 1) := by decide +kernel
theorem dX0_turnRight_20 : decode cX0_turnRight 20 = .ok (.iaload, 1) := by decide +kernel
theorem dX0_turnRight_21 : decode cX0_turnRight 21 = .ok (.tableswitch 105 0 2 #[27, 73, 90], 27) := by decide +kernel
theorem dX0_turnRight_48 : decode cX0_turnRight 48 = .ok (.aload_n 0, 1) := by decide +kernel
theorem dX0_turnRight_49 : decode cX0_turnRight 49 = .ok (.getfield 17, 3) := by decide +kernel
theorem dX0_turnRight_52 : decode cX0_turnRight 52 = .ok (.iload_n 1, 1) := by decide +kernel
theorem dX0_turnRight_53 : decode cX0_turnRight 53 = .ok (.aload_n 0, 1) := by decide +kernel
theorem dX0_turnRight_54 : decode cX0_turnRight 54 = .ok (.getfield 13, 3) := by decide +kernel
theorem dX0_turnRight_57 : decode cX0_turnRight 57 = .ok (.iload_n 1, 1) := by decide +kernel
theorem dX0_turnRight_58 : decode cX0_turnRight 58 = .ok (.daload, 1) := by decide +kernel
theorem dX0_turnRight_59 : decode cX0_turnRight 59 = .ok (.aload_n 0, 1) := by decide +kernel
theorem dX0_turnRight_60 : decode cX0_turnRight 60 = .ok (.getfield 7, 3) := by decide +kernel
theorem dX0_turnRight_63 : decode cX0_turnRight 63 = .ok (.bipush 6, 2) := by decide +kernel
theorem dX0_turnRight_65 : decode cX0_turnRight 65 = .ok (.iaload, 1) := by decide +kernel
theorem dX0_turnRight_66 : decode cX0_turnRight 66 = .ok (.aload_n 0, 1) := by decide +kernel
theorem dX0_turnRight_67 : decode cX0_turnRight 67 = .ok (.getfield 7, 3) := by decide +kernel
theorem dX0_turnRight_70 : decode cX0_turnRight 70 = .ok (.iconst 2, 1) := by decide +kernel
theorem dX0_turnRight_71 : decode cX0_turnRight 71 = .ok (.iaload, 1) := by decide +kernel
theorem dX0_turnRight_72 : decode cX0_turnRight 72 = .ok (.aload_n 0, 1) := by decide +kernel
theorem dX0_turnRight_73 : decode cX0_turnRight 73 = .ok (.getfield 7, 3) := by decide +kernel
theorem dX0_turnRight_76 : decode cX0_turnRight 76 = .ok (.bipush 7, 2) := by decide +kernel
theorem dX0_turnRight_78 : decode cX0_turnRight 78 = .ok (.iaload, 1) := by decide +kernel
theorem dX0_turnRight_79 : decode cX0_turnRight 79 = .ok (.aload_n 0, 1) := by decide +kernel
theorem dX0_turnRight_80 : decode cX0_turnRight 80 = .ok (.getfield 7, 3) := by decide +kernel
theorem dX0_turnRight_83 : decode cX0_turnRight 83 = .ok (.bipush 8, 2) := by decide +kernel
theorem dX0_turnRight_85 : decode cX0_turnRight 85 = .ok (.iaload, 1) := by decide +kernel
theorem dX0_turnRight_86 : decode cX0_turnRight 86 = .ok (.invokestatic 77, 3) := by decide +kernel
theorem dX0_turnRight_89 : decode cX0_turnRight 89 = .ok (.dsub, 1) := by decide +kernel
theorem dX0_turnRight_90 : decode cX0_turnRight 90 = .ok (.dastore, 1) := by decide +kernel
theorem dX0_turnRight_91 : decode cX0_turnRight 91 = .ok (.goto 69, 3) := by decide +kernel
theorem dX0_turnRight_94 : decode cX0_turnRight 94 = .ok (.aload_n 0, 1) := by decide +kernel
theorem dX0_turnRight_95 : decode cX0_turnRight 95 = .ok (.getfield 17, 3) := by decide +kernel
theorem dX0_turnRight_98 : decode cX0_turnRight 98 = .ok (.iload_n 1, 1) := by decide +kernel
theorem dX0_turnRight_99 : decode cX0_turnRight 99 = .ok (.dload_n 2, 1) := by decide +kernel
theorem dX0_turnRight_100 : decode cX0_turnRight 100 = .ok (.aload_n 0, 1) := by decide +kernel
theorem dX0_turnRight_101 : decode cX0_turnRight 101 = .ok (.getfield 13, 3) := by decide +kernel
theorem dX0_turnRight_104 : decode cX0_turnRight 104 = .ok (.iload_n 1, 1) := by decide +kernel
theorem dX0_turnRight_105 : decode cX0_turnRight 105 = .ok (.daload, 1) := by decide +kernel
theorem dX0_turnRight_106 : decode cX0_turnRight 106 = .ok (.dsub, 1) := by decide +kernel
theorem dX0_turnRight_107 : decode cX0_turnRight 107 = .ok (.dastore, 1) := by decide +kernel
theorem dX0_turnRight_108 : decode cX0_turnRight 108 = .ok (.goto 52, 3) := by decide +kernel
theorem dX0_turnRight_111 : decode cX0_turnRight 111 = .ok (.aload_n 0, 1) := by decide +kernel
theorem dX0_turnRight_112 : decode cX0_turnRight 112 = .ok (.getfield 17, 3) := by decide +kernel
theorem dX0_turnRight_115 : decode cX0_turnRight 115 = .ok (.iload_n 1, 1) := by decide +kernel
theorem dX0_turnRight_116 : decode cX0_turnRight 116 = .ok (.aload_n 0, 1) := by decide +kernel
theorem dX0_turnRight_117 : decode cX0_turnRight 117 = .ok (.getfield 13, 3) := by decide +kernel
theorem dX0_turnRight_120 : decode cX0_turnRight 120 = .ok (.iload_n 1, 1) := by decide +kernel
theorem dX0_turnRight_121 : decode cX0_turnRight 121 = .ok (.daload, 1) := by decide +kernel
theorem dX0_turnRight_122 : decode cX0_turnRight 122 = .ok (.dastore, 1) := by decide +kernel
theorem dX0_turnRight_123 : decode cX0_turnRight 123 = .ok (.goto 37, 3) := by decide +kernel
theorem dX0_turnRight_126 : decode cX0_turnRight 126 = .ok (.aload_n 0, 1) := by decide +kernel
theorem dX0_turnRight_127 : decode cX0_turnRight 127 = .ok (.getfield 17, 3) := by decide +kernel
theorem dX0_turnRight_130 : decode cX0_turnRight 130 = .ok (.iload_n 1, 1) := by decide +kernel
theorem dX0_turnRight_131 : decode cX0_turnRight 131 = .ok (.aload_n 0, 1) := by decide +kernel
theorem dX0_turnRight_132 : decode cX0_turnRight 132 = .ok (.getfield 58, 3) := by decide +kernel
theorem dX0_turnRight_135 : decode cX0_turnRight 135 = .ok (.aload_n 0, 1) := by decide +kernel
theorem dX0_turnRight_136 : decode cX0_turnRight 136 = .ok (.getfield 13, 3) := by decide +kernel
theorem dX0_turnRight_139 : decode cX0_turnRight 139 = .ok (.iload_n 1, 1) := by decide +kernel
theorem dX0_turnRight_140 : decode cX0_turnRight 140 = .ok (.daload, 1) := by decide +kernel
theorem dX0_turnRight_141 : decode cX0_turnRight 141 = .ok (.dsub, 1) := by decide +kernel
theorem dX0_turnRight_142 : decode cX0_turnRight 142 = .ok (.dastore, 1) := by decide +kernel
theorem dX0_turnRight_143 : decode cX0_turnRight 143 = .ok (.aload_n 0, 1) := by decide +kernel
theorem dX0_turnRight_144 : decode cX0_turnRight 144 = .ok (.aload_n 0, 1) := by decide +kernel
theorem dX0_turnRight_145 : decode cX0_turnRight 145 = .ok (.getfield 13, 3) := by decide +kernel
theorem dX0_turnRight_148 : decode cX0_turnRight 148 = .ok (.iload_n 1, 1) := by decide +kernel
theorem dX0_turnRight_149 : decode cX0_turnRight 149 = .ok (.daload, 1) := by decide +kernel
theorem dX0_turnRight_150 : decode cX0_turnRight 150 = .ok (.aload_n 0, 1) := by decide +kernel
theorem dX0_turnRight_151 : decode cX0_turnRight 151 = .ok (.getfield 17, 3) := by decide +kernel
theorem dX0_turnRight_154 : decode cX0_turnRight 154 = .ok (.iload_n 1, 1) := by decide +kernel
theorem dX0_turnRight_155 : decode cX0_turnRight 155 = .ok (.daload, 1) := by decide +kernel
theorem dX0_turnRight_156 : decode cX0_turnRight 156 = .ok (.dsub, 1) := by decide +kernel
theorem dX0_turnRight_157 : decode cX0_turnRight 157 = .ok (.invokevirtual 81, 3) := by decide +kernel
theorem dX0_turnRight_160 : decode cX0_turnRight 160 = .ok (.return_, 1) := by decide +kernel
theorem dX0_fillTank_0 : decode cX0_fillTank 0 = .ok (.aload_n 0, 1) := by decide +kernel
theorem dX0_fillTank_1 : decode cX0_fillTank 1 = .ok (.getfield 7, 3) := by decide +kernel
theorem dX0_fillTank_4 : decode cX0_fillTank 4 = .ok (.iconst 3, 1) := by decide +kernel
theorem dX0_fillTank_5 : decode cX0_fillTank 5 = .ok (.iaload, 1) := by decide +kernel
theorem dX0_fillTank_6 : decode cX0_fillTank 6 = .ok (.i2d, 1) := by decide +kernel
theorem dX0_fillTank_7 : decode cX0_fillTank 7 = .ok (.dstore_n 3, 1) := by decide +kernel
theorem dX0_fillTank_8 : decode cX0_fillTank 8 = .ok (.aload_n 0, 1) := by decide +kernel
theorem dX0_fillTank_9 : decode cX0_fillTank 9 = .ok (.getfield 58, 3) := by decide +kernel
theorem dX0_fillTank_12 : decode cX0_fillTank 12 = .ok (.dload_n 1, 1) := by decide +kernel
theorem dX0_fillTank_13 : decode cX0_fillTank 13 = .ok (.dload_n 3, 1) := by decide +kernel
theorem dX0_fillTank_14 : decode cX0_fillTank 14 = .ok (.ddiv, 1) := by decide +kernel
theorem dX0_fillTank_15 : decode cX0_fillTank 15 = .ok (.dadd, 1) := by decide +kernel
theorem dX0_fillTank_16 : decode cX0_fillTank 16 = .ok (.dstore 5, 2) := by decide +kernel
theorem dX0_fillTank_18 : decode cX0_fillTank 18 = .ok (.aload_n 0, 1) := by decide +kernel
theorem dX0_fillTank_19 : decode cX0_fillTank 19 = .ok (.dload 5, 2) := by decide +kernel
theorem dX0_fillTank_21 : decode cX0_fillTank 21 = .ok (.ldc2_w 85, 3) := by decide +kernel
theorem dX0_fillTank_24 : decode cX0_fillTank 24 = .ok (.dcmp .l, 1) := by decide +kernel
theorem dX0_fillTank_25 : decode cX0_fillTank 25 = .ok (.ifCond .le 9, 3) := by decide +kernel
theorem dX0_fillTank_28 : decode cX0_fillTank 28 = .ok (.ldc2_w 85, 3) := by decide +kernel
theorem dX0_fillTank_31 : decode cX0_fillTank 31 = .ok (.goto 20, 3) := by decide +kernel
theorem dX0_fillTank_34 : decode cX0_fillTank 34 = .ok (.dload 5, 2) := by decide +kernel
theorem dX0_fillTank_36 : decode cX0_fillTank 36 = .ok (.ldc2_w 87, 3) := by decide +kernel
theorem dX0_fillTank_39 : decode cX0_fillTank 39 = .ok (.dcmp .g, 1) := by decide +kernel
theorem dX0_fillTank_40 : decode cX0_fillTank 40 = .ok (.ifCond .ge 9, 3) := by decide +kernel
theorem dX0_fillTank_43 : decode cX0_fillTank 43 = .ok (.ldc2_w 87, 3) := by decide +kernel
theorem dX0_fillTank_46 : decode cX0_fillTank 46 = .ok (.goto 5, 3) := by decide +kernel
theorem dX0_fillTank_49 : decode cX0_fillTank 49 = .ok (.dload 5, 2) := by decide +kernel
theorem dX0_fillTank_51 : decode cX0_fillTank 51 = .ok (.putfield 58, 3) := by decide +kernel
theorem dX0_fillTank_54 : decode cX0_fillTank 54 = .ok (.return_, 1) := by decide +kernel
theorem dX0_widenEnvelopes_0 : decode cX0_widenEnvelopes 0 = .ok (.iconst 0, 1) := by decide +kernel
theorem dX0_widenEnvelopes_1 : decode cX0_widenEnvelopes 1 = .ok (.istore_n 1, 1) := by decide +kernel
theorem dX0_widenEnvelopes_2 : decode cX0_widenEnvelopes 2 = .ok (.iload_n 1, 1) := by decide +kernel
theorem dX0_widenEnvelopes_3 : decode cX0_widenEnvelopes 3 = .ok (.aload_n 0, 1) := by decide +kernel
theorem dX0_widenEnvelopes_4 : decode cX0_widenEnvelopes 4 = .ok (.getfield 7, 3) := by decide +kernel
theorem dX0_widenEnvelopes_7 : decode cX0_widenEnvelopes 7 = .ok (.iconst 0, 1) := by decide +kernel
theorem dX0_widenEnvelopes_8 : decode cX0_widenEnvelopes 8 = .ok (.iaload, 1) := by decide +kernel
theorem dX0_widenEnvelopes_9 : decode cX0_widenEnvelopes 9 = .ok (.if_icmp .gt 93, 3) := by decide +kernel
theorem dX0_widenEnvelopes_12 : decode cX0_widenEnvelopes 12 = .ok (.aload_n 0, 1) := by decide +kernel
theorem dX0_widenEnvelopes_13 : decode cX0_widenEnvelopes 13 = .ok (.iload_n 1, 1) := by decide +kernel
theorem dX0_widenEnvelopes_14 : decode cX0_widenEnvelopes 14 = .ok (.invokevirtual 61, 3) := by decide +kernel
theorem dX0_widenEnvelopes_17 : decode cX0_widenEnvelopes 17 = .ok (.dstore_n 2, 1) := by decide +kernel
theorem dX0_widenEnvelopes_18 : decode cX0_widenEnvelopes 18 = .ok (.dload_n 2, 1) := by decide +kernel
theorem dX0_widenEnvelopes_19 : decode cX0_widenEnvelopes 19 = .ok (.aload_n 0, 1) := by decide +kernel
theorem dX0_widenEnvelopes_20 : decode cX0_widenEnvelopes 20 = .ok (.getfield 20, 3) := by decide +kernel
theorem dX0_widenEnvelopes_23 : decode cX0_widenEnvelopes 23 = .ok (.iload_n 1, 1) := by decide +kernel
theorem dX0_widenEnvelopes_24 : decode cX0_widenEnvelopes 24 = .ok (.daload, 1) := by decide +kernel
theorem dX0_widenEnvelopes_25 : decode cX0_widenEnvelopes 25 = .ok (.dcmp .l, 1) := by decide +kernel
theorem dX0_widenEnvelopes_26 : decode cX0_widenEnvelopes 26 = .ok (.ifCond .le 31, 3) := by decide +kernel
theorem dX0_widenEnvelopes_29 : decode cX0_widenEnvelopes 29 = .ok (.aload_n 0, 1) := by decide +kernel
theorem dX0_widenEnvelopes_30 : decode cX0_widenEnvelopes 30 = .ok (.getfield 20, 3) := by decide +kernel
theorem dX0_widenEnvelopes_33 : decode cX0_widenEnvelopes 33 = .ok (.iload_n 1, 1) := by decide +kernel
theorem dX0_widenEnvelopes_34 : decode cX0_widenEnvelopes 34 = .ok (.dload_n 2, 1) := by decide +kernel
theorem dX0_widenEnvelopes_35 : decode cX0_widenEnvelopes 35 = .ok (.dastore, 1) := by decide +kernel
theorem dX0_widenEnvelopes_36 : decode cX0_widenEnvelopes 36 = .ok (.aload_n 0, 1) := by decide +kernel
theorem dX0_widenEnvelopes_37 : decode cX0_widenEnvelopes 37 = .ok (.dload_n 2, 1) := by decide +kernel
theorem dX0_widenEnvelopes_38 : decode cX0_widenEnvelopes 38 = .ok (.aload_n 0, 1) := by decide +kernel
theorem dX0_widenEnvelopes_39 : decode cX0_widenEnvelopes 39 = .ok (.getfield 51, 3) := by decide +kernel
theorem dX0_widenEnvelopes_42 : decode cX0_widenEnvelopes 42 = .ok (.dcmp .l, 1) := by decide +kernel
theorem dX0_widenEnvelopes_43 : decode cX0_widenEnvelopes 43 = .ok (.ifCond .le 7, 3) := by decide +kernel
theorem dX0_widenEnvelopes_46 : decode cX0_widenEnvelopes 46 = .ok (.dload_n 2, 1) := by decide +kernel
theorem dX0_widenEnvelopes_47 : decode cX0_widenEnvelopes 47 = .ok (.goto 7, 3) := by decide +kernel
theorem dX0_widenEnvelopes_50 : decode cX0_widenEnvelopes 50 = .ok (.aload_n 0, 1) := by decide +kernel
theorem dX0_widenEnvelopes_51 : decode cX0_widenEnvelopes 51 = .ok (.getfield 51, 3) := by decide +kernel
theorem dX0_widenEnvelopes_54 : decode cX0_widenEnvelopes 54 = .ok (.putfield 51, 3) := by decide +kernel
theorem dX0_widenEnvelopes_57 : decode cX0_widenEnvelopes 57 = .ok (.dload_n 2, 1) := by decide +kernel
theorem dX0_widenEnvelopes_58 : decode cX0_widenEnvelopes 58 = .ok (.aload_n 0, 1) := by decide +kernel
theorem dX0_widenEnvelopes_59 : decode cX0_widenEnvelopes 59 = .ok (.getfield 23, 3) := by decide +kernel
theorem dX0_widenEnvelopes_62 : decode cX0_widenEnvelopes 62 = .ok (.iload_n 1, 1) := by decide +kernel
theorem dX0_widenEnvelopes_63 : decode cX0_widenEnvelopes 63 = .ok (.daload, 1) := by decide +kernel
theorem dX0_widenEnvelopes_64 : decode cX0_widenEnvelopes 64 = .ok (.dcmp .g, 1) := by decide +kernel
theorem dX0_widenEnvelopes_65 : decode cX0_widenEnvelopes 65 = .ok (.ifCond .ge 31, 3) := by decide +kernel
theorem dX0_widenEnvelopes_68 : decode cX0_widenEnvelopes 68 = .ok (.aload_n 0, 1) := by decide +kernel
theorem dX0_widenEnvelopes_69 : decode cX0_widenEnvelopes 69 = .ok (.getfield 23, 3) := by decide +kernel
theorem dX0_widenEnvelopes_72 : decode cX0_widenEnvelopes 72 = .ok (.iload_n 1, 1) := by decide +kernel
theorem dX0_widenEnvelopes_73 : decode cX0_widenEnvelopes 73 = .ok (.dload_n 2, 1) := by decide +kernel
theorem dX0_widenEnvelopes_74 : decode cX0_widenEnvelopes 74 = .ok (.dastore, 1) := by decide +kernel
theorem dX0_widenEnvelopes_75 : decode cX0_widenEnvelopes 75 = .ok (.aload_n 0, 1) := by decide +kernel
theorem dX0_widenEnvelopes_76 : decode cX0_widenEnvelopes 76 = .ok (.dload_n 2, 1) := by decide +kernel
theorem dX0_widenEnvelopes_77 : decode cX0_widenEnvelopes 77 = .ok (.aload_n 0, 1) := by decide +kernel
theorem dX0_widenEnvelopes_78 : decode cX0_widenEnvelopes 78 = .ok (.getfield 55, 3) := by decide +kernel
theorem dX0_widenEnvelopes_81 : decode cX0_widenEnvelopes 81 = .ok (.dcmp .g, 1) := by decide +kernel
theorem dX0_widenEnvelopes_82 : decode cX0_widenEnvelopes 82 = .ok (.ifCond .ge 7, 3) := by decide +kernel
theorem dX0_widenEnvelopes_85 : decode cX0_widenEnvelopes 85 = .ok (.dload_n 2, 1) := by decide +kernel
theorem dX0_widenEnvelopes_86 : decode cX0_widenEnvelopes 86 = .ok (.goto 7, 3) := by decide +kernel
theorem dX0_widenEnvelopes_89 : decode cX0_widenEnvelopes 89 = .ok (.aload_n 0, 1) := by decide +kernel
theorem dX0_widenEnvelopes_90 : decode cX0_widenEnvelopes 90 = .ok (.getfield 55, 3) := by decide +kernel
theorem dX0_widenEnvelopes_93 : decode cX0_widenEnvelopes 93 = .ok (.putfield 55, 3) := by decide +kernel
theorem dX0_widenEnvelopes_96 : decode cX0_widenEnvelopes 96 = .ok (.iinc 1 1, 3) := by decide +kernel
theorem dX0_widenEnvelopes_99 : decode cX0_widenEnvelopes 99 = .ok (.goto (-97), 3) := by decide +kernel
theorem dX0_widenEnvelopes_102 : decode cX0_widenEnvelopes 102 = .ok (.return_, 1) := by decide +kernel
theorem dX1_init_0 : decode cX1_init 0 = .ok (.aload_n 0, 1) := by decide +kernel
theorem dX1_init_1 : decode cX1_init 1 = .ok (.invokespecial 3, 3) := by decide +kernel
theorem dX1_init_4 : decode cX1_init 4 = .ok (.aload_n 0, 1) := by decide +kernel
theorem dX1_init_5 : decode cX1_init 5 = .ok (.bipush 100, 2) := by decide +kernel
theorem dX1_init_7 : decode cX1_init 7 = .ok (.newarray .byte, 2) := by decide +kernel
theorem dX1_init_9 : decode cX1_init 9 = .ok (.putfield 11, 3) := by decide +kernel
theorem dX1_init_12 : decode cX1_init 12 = .ok (.aload_n 0, 1) := by decide +kernel
theorem dX1_init_13 : decode cX1_init 13 = .ok (.iconst 0, 1) := by decide +kernel
theorem dX1_init_14 : decode cX1_init 14 = .ok (.putfield 15, 3) := by decide +kernel
theorem dX1_init_17 : decode cX1_init 17 = .ok (.aload_n 0, 1) := by decide +kernel
theorem dX1_init_18 : decode cX1_init 18 = .ok (.iconst 0, 1) := by decide +kernel
theorem dX1_init_19 : decode cX1_init 19 = .ok (.putfield 19, 3) := by decide +kernel
theorem dX1_init_22 : decode cX1_init 22 = .ok (.aload_n 0, 1) := by decide +kernel
theorem dX1_init_23 : decode cX1_init 23 = .ok (.iconst 0, 1) := by decide +kernel
theorem dX1_init_24 : decode cX1_init 24 = .ok (.putfield 22, 3) := by decide +kernel
theorem dX1_init_27 : decode cX1_init 27 = .ok (.aload_n 0, 1) := by decide +kernel
theorem dX1_init_28 : decode cX1_init 28 = .ok (.iconst 0, 1) := by decide +kernel
theorem dX1_init_29 : decode cX1_init 29 = .ok (.putfield 25, 3) := by decide +kernel
theorem dX1_init_32 : decode cX1_init 32 = .ok (.aload_n 0, 1) := by decide +kernel
theorem dX1_init_33 : decode cX1_init 33 = .ok (.iconst 0, 1) := by decide +kernel
theorem dX1_init_34 : decode cX1_init 34 = .ok (.putfield 28, 3) := by decide +kernel
theorem dX1_init_37 : decode cX1_init 37 = .ok (.aload_n 0, 1) := by decide +kernel
theorem dX1_init_38 : decode cX1_init 38 = .ok (.iconst 0, 1) := by decide +kernel
theorem dX1_init_39 : decode cX1_init 39 = .ok (.putfield 31, 3) := by decide +kernel
theorem dX1_init_42 : decode cX1_init 42 = .ok (.aload_n 0, 1) := by decide +kernel
theorem dX1_init_43 : decode cX1_init 43 = .ok (.iconst 0, 1) := by decide +kernel
theorem dX1_init_44 : decode cX1_init 44 = .ok (.putfield 34, 3) := by decide +kernel
theorem dX1_init_47 : decode cX1_init 47 = .ok (.return_, 1) := by decide +kernel
theorem dX1_valueNamed_0 : decode cX1_valueNamed 0 = .ok (.iload_n 0, 1) := by decide +kernel
theorem dX1_valueNamed_1 : decode cX1_valueNamed 1 = .ok (.tableswitch 99 97 114 #[93, 99, 99, 99, 99, 99, 99, 89, 99, 99, 99, 95, 99, 99, 99, 87, 91, 97], 87) := by decide +kernel
theorem dX1_valueNamed_88 : decode cX1_valueNamed 88 = .ok (.iconst 0, 1) := by decide +kernel
theorem dX1_valueNamed_89 : decode cX1_valueNamed 89 = .ok (.ireturn, 1) := by decide +kernel
theorem dX1_valueNamed_90 : decode cX1_valueNamed 90 = .ok (.iconst 1, 1) := by decide +kernel
theorem dX1_valueNamed_91 : decode cX1_valueNamed 91 = .ok (.ireturn, 1) := by decide +kernel
theorem dX1_valueNamed_92 : decode cX1_valueNamed 92 = .ok (.iconst 2, 1) := by decide +kernel
theorem dX1_valueNamed_93 : decode cX1_valueNamed 93 = .ok (.ireturn, 1) := by decide +kernel
theorem dX1_valueNamed_94 : decode cX1_valueNamed 94 = .ok (.iconst 3, 1) := by decide +kernel
theorem dX1_valueNamed_95 : decode cX1_valueNamed 95 = .ok (.ireturn, 1) := by decide +kernel
theorem dX1_valueNamed_96 : decode cX1_valueNamed 96 = .ok (.iconst 4, 1) := by decide +kernel
theorem dX1_valueNamed_97 : decode cX1_valueNamed 97 = .ok (.ireturn, 1) := by decide +kernel
theorem dX1_valueNamed_98 : decode cX1_valueNamed 98 = .ok (.iconst 5, 1) := by decide +kernel
theorem dX1_valueNamed_99 : decode cX1_valueNamed 99 = .ok (.ireturn, 1) := by decide +kernel
theorem dX1_valueNamed_100 : decode cX1_valueNamed 100 = .ok (.iconst (-1), 1) := by decide +kernel
theorem dX1_valueNamed_101 : decode cX1_valueNamed 101 = .ok (.ireturn, 1) := by decide +kernel
theorem dX1_append_0 : decode cX1_append 0 = .ok (.aload_n 0, 1) := by decide +kernel
theorem dX1_append_1 : decode cX1_append 1 = .ok (.getfield 15, 3) := by decide +kernel
theorem dX1_append_4 : decode cX1_append 4 = .ok (.bipush 100, 2) := by decide +kernel
theorem dX1_append_6 : decode cX1_append 6 = .ok (.if_icmp .lt 5, 3) := by decide +kernel
theorem dX1_append_9 : decode cX1_append 9 = .ok (.iconst 0, 1) := by decide +kernel
theorem dX1_append_10 : decode cX1_append 10 = .ok (.ireturn, 1) := by decide +kernel
theorem dX1_append_11 : decode cX1_append 11 = .ok (.aload_n 0, 1) := by decide +kernel
theorem dX1_append_12 : decode cX1_append 12 = .ok (.getfield 11, 3) := by decide +kernel
theorem dX1_append_15 : decode cX1_append 15 = .ok (.aload_n 0, 1) := by decide +kernel
theorem dX1_append_16 : decode cX1_append 16 = .ok (.getfield 15, 3) := by decide +kernel
theorem dX1_append_19 : decode cX1_append 19 = .ok (.iload_n 1, 1) := by decide +kernel
theorem dX1_append_20 : decode cX1_append 20 = .ok (.i2b, 1) := by decide +kernel
theorem dX1_append_21 : decode cX1_append 21 = .ok (.bastore, 1) := by decide +kernel
theorem dX1_append_22 : decode cX1_append 22 = .ok (.aload_n 0, 1) := by decide +kernel
theorem dX1_append_23 : decode cX1_append 23 = .ok (.dup, 1) := by decide +kernel
theorem dX1_append_24 : decode cX1_append 24 = .ok (.getfield 15, 3) := by decide +kernel
theorem dX1_append_27 : decode cX1_append 27 = .ok (.iconst 1, 1) := by decide +kernel
theorem dX1_append_28 : decode cX1_append 28 = .ok (.iadd, 1) := by decide +kernel
theorem dX1_append_29 : decode cX1_append 29 = .ok (.putfield 15, 3) := by decide +kernel
theorem dX1_append_32 : decode cX1_append 32 = .ok (.iconst 1, 1) := by decide +kernel
theorem dX1_append_33 : decode cX1_append 33 = .ok (.ireturn, 1) := by decide +kernel
theorem dX1_rewind_0 : decode cX1_rewind 0 = .ok (.aload_n 0, 1) := by decide +kernel
theorem dX1_rewind_1 : decode cX1_rewind 1 = .ok (.iconst 0, 1) := by decide +kernel
theorem dX1_rewind_2 : decode cX1_rewind 2 = .ok (.putfield 31, 3) := by decide +kernel
theorem dX1_rewind_5 : decode cX1_rewind 5 = .ok (.return_, 1) := by decide +kernel
theorem dX1_findFault_0 : decode cX1_findFault 0 = .ok (.aload_n 0, 1) := by decide +kernel
theorem dX1_findFault_1 : decode cX1_findFault 1 = .ok (.invokevirtual 39, 3) := by decide +kernel
theorem dX1_findFault_4 : decode cX1_findFault 4 = .ok (.aload_n 0, 1) := by decide +kernel
theorem dX1_findFault_5 : decode cX1_findFault 5 = .ok (.iconst 0, 1) := by decide +kernel
theorem dX1_findFault_6 : decode cX1_findFault 6 = .ok (.putfield 19, 3) := by decide +kernel
theorem dX1_findFault_9 : decode cX1_findFault 9 = .ok (.aload_n 0, 1) := by decide +kernel
theorem dX1_findFault_10 : decode cX1_findFault 10 = .ok (.getfield 19, 3) := by decide +kernel
theorem dX1_findFault_13 : decode cX1_findFault 13 = .ok (.bipush 100, 2) := by decide +kernel
theorem dX1_findFault_15 : decode cX1_findFault 15 = .ok (.if_icmp .ge 48, 3) := by decide +kernel
theorem dX1_findFault_18 : decode cX1_findFault 18 = .ok (.aload_n 0, 1) := by decide +kernel
theorem dX1_findFault_19 : decode cX1_findFault 19 = .ok (.getfield 19, 3) := by decide +kernel
theorem dX1_findFault_22 : decode cX1_findFault 22 = .ok (.ifCond .le 16, 3) := by decide +kernel
theorem dX1_findFault_25 : decode cX1_findFault 25 = .ok (.aload_n 0, 1) := by decide +kernel
theorem dX1_findFault_26 : decode cX1_findFault 26 = .ok (.getfield 31, 3) := by decide +kernel
theorem dX1_findFault_29 : decode cX1_findFault 29 = .ok (.aload_n 0, 1) := by decide +kernel
theorem dX1_findFault_30 : decode cX1_findFault 30 = .ok (.getfield 15, 3) := by decide +kernel
theorem dX1_findFault_33 : decode cX1_findFault 33 = .ok (.if_icmp .lt 5, 3) := by decide +kernel
theorem dX1_findFault_36 : decode cX1_findFault 36 = .ok (.iconst (-1), 1) := by decide +kernel
theorem dX1_findFault_37 : decode cX1_findFault 37 = .ok (.ireturn, 1) := by decide +kernel
theorem dX1_findFault_38 : decode cX1_findFault 38 = .ok (.aload_n 0, 1) := by decide +kernel
theorem dX1_findFault_39 : decode cX1_findFault 39 = .ok (.invokevirtual 42, 3) := by decide +kernel
theorem dX1_findFault_42 : decode cX1_findFault 42 = .ok (.ifCond .ne 8, 3) := by decide +kernel
theorem dX1_findFault_45 : decode cX1_findFault 45 = .ok (.aload_n 0, 1) := by decide +kernel
theorem dX1_findFault_46 : decode cX1_findFault 46 = .ok (.getfield 31, 3) := by decide +kernel
theorem dX1_findFault_49 : decode cX1_findFault 49 = .ok (.ireturn, 1) := by decide +kernel
theorem dX1_findFault_50 : decode cX1_findFault 50 = .ok (.aload_n 0, 1) := by decide +kernel
theorem dX1_findFault_51 : decode cX1_findFault 51 = .ok (.dup, 1) := by decide +kernel
theorem dX1_findFault_52 : decode cX1_findFault 52 = .ok (.getfield 19, 3) := by decide +kernel
theorem dX1_findFault_55 : decode cX1_findFault 55 = .ok (.iconst 1, 1) := by decide +kernel
theorem dX1_findFault_56 : decode cX1_findFault 56 = .ok (.iadd, 1) := by decide +kernel
theorem dX1_findFault_57 : decode cX1_findFault 57 = .ok (.putfield 19, 3) := by decide +kernel
theorem dX1_findFault_60 : decode cX1_findFault 60 = .ok (.goto (-51), 3) := by decide +kernel
theorem dX1_findFault_63 : decode cX1_findFault 63 = .ok (.iconst (-1), 1) := by decide +kernel
theorem dX1_findFault_64 : decode cX1_findFault 64 = .ok (.ireturn, 1) := by decide +kernel
theorem dX1_nextOrder_0 : decode cX1_nextOrder 0 = .ok (.aload_n 0, 1) := by decide +kernel
theorem dX1_nextOrder_1 : decode cX1_nextOrder 1 = .ok (.invokevirtual 46, 3) := by decide +kernel
theorem dX1_nextOrder_4 : decode cX1_nextOrder 4 = .ok (.aload_n 0, 1) := by decide +kernel
theorem dX1_nextOrder_5 : decode cX1_nextOrder 5 = .ok (.aload_n 0, 1) := by decide +kernel
theorem dX1_nextOrder_6 : decode cX1_nextOrder 6 = .ok (.invokevirtual 49, 3) := by decide +kernel
theorem dX1_nextOrder_9 : decode cX1_nextOrder 9 = .ok (.putfield 22, 3) := by decide +kernel
theorem dX1_nextOrder_12 : decode cX1_nextOrder 12 = .ok (.aload_n 0, 1) := by decide +kernel
theorem dX1_nextOrder_13 : decode cX1_nextOrder 13 = .ok (.getfield 22, 3) := by decide +kernel
theorem dX1_nextOrder_16 : decode cX1_nextOrder 16 = .ok (.bipush 119, 2) := by decide +kernel
theorem dX1_nextOrder_18 : decode cX1_nextOrder 18 = .ok (.if_icmp .eq 25, 3) := by decide +kernel
theorem dX1_nextOrder_21 : decode cX1_nextOrder 21 = .ok (.aload_n 0, 1) := by decide +kernel
theorem dX1_nextOrder_22 : decode cX1_nextOrder 22 = .ok (.getfield 22, 3) := by decide +kernel
theorem dX1_nextOrder_25 : decode cX1_nextOrder 25 = .ok (.bipush 115, 2) := by decide +kernel
theorem dX1_nextOrder_27 : decode cX1_nextOrder 27 = .ok (.if_icmp .eq 16, 3) := by decide +kernel
theorem dX1_nextOrder_30 : decode cX1_nextOrder 30 = .ok (.aload_n 0, 1) := by decide +kernel
theorem dX1_nextOrder_31 : decode cX1_nextOrder 31 = .ok (.getfield 22, 3) := by decide +kernel
theorem dX1_nextOrder_34 : decode cX1_nextOrder 34 = .ok (.invokestatic 53, 3) := by decide +kernel
theorem dX1_nextOrder_37 : decode cX1_nextOrder 37 = .ok (.iconst (-1), 1) := by decide +kernel
theorem dX1_nextOrder_38 : decode cX1_nextOrder 38 = .ok (.if_icmp .ne 5, 3) := by decide +kernel
theorem dX1_nextOrder_41 : decode cX1_nextOrder 41 = .ok (.iconst 0, 1) := by decide +kernel
theorem dX1_nextOrder_42 : decode cX1_nextOrder 42 = .ok (.ireturn, 1) := by decide +kernel
theorem dX1_nextOrder_43 : decode cX1_nextOrder 43 = .ok (.aload_n 0, 1) := by decide +kernel
theorem dX1_nextOrder_44 : decode cX1_nextOrder 44 = .ok (.dup, 1) := by decide +kernel
theorem dX1_nextOrder_45 : decode cX1_nextOrder 45 = .ok (.getfield 31, 3) := by decide +kernel
theorem dX1_nextOrder_48 : decode cX1_nextOrder 48 = .ok (.iconst 1, 1) := by decide +kernel
theorem dX1_nextOrder_49 : decode cX1_nextOrder 49 = .ok (.iadd, 1) := by decide +kernel
theorem dX1_nextOrder_50 : decode cX1_nextOrder 50 = .ok (.putfield 31, 3) := by decide +kernel
theorem dX1_nextOrder_53 : decode cX1_nextOrder 53 = .ok (.aload_n 0, 1) := by decide +kernel
theorem dX1_nextOrder_54 : decode cX1_nextOrder 54 = .ok (.invokevirtual 46, 3) := by decide +kernel
theorem dX1_nextOrder_57 : decode cX1_nextOrder 57 = .ok (.aload_n 0, 1) := by decide +kernel
theorem dX1_nextOrder_58 : decode cX1_nextOrder 58 = .ok (.invokevirtual 57, 3) := by decide +kernel
theorem dX1_nextOrder_61 : decode cX1_nextOrder 61 = .ok (.ifCond .eq 12, 3) := by decide +kernel
theorem dX1_nextOrder_64 : decode cX1_nextOrder 64 = .ok (.aload_n 0, 1) := by decide +kernel
theorem dX1_nextOrder_65 : decode cX1_nextOrder 65 = .ok (.invokevirtual 49, 3) := by decide +kernel
theorem dX1_nextOrder_68 : decode cX1_nextOrder 68 = .ok (.bipush 59, 2) := by decide +kernel
theorem dX1_nextOrder_70 : decode cX1_nextOrder 70 = .ok (.if_icmp .eq 5, 3) := by decide +kernel
theorem dX1_nextOrder_73 : decode cX1_nextOrder 73 = .ok (.iconst 0, 1) := by decide +kernel
theorem dX1_nextOrder_74 : decode cX1_nextOrder 74 = .ok (.ireturn, 1) := by decide +kernel
theorem dX1_nextOrder_75 : decode cX1_nextOrder 75 = .ok (.aload_n 0, 1) := by decide +kernel
theorem dX1_nextOrder_76 : decode cX1_nextOrder 76 = .ok (.dup, 1) := by decide +kernel
theorem dX1_nextOrder_77 : decode cX1_nextOrder 77 = .ok (.getfield 31, 3) := by decide +kernel
theorem dX1_nextOrder_80 : decode cX1_nextOrder 80 = .ok (.iconst 1, 1) := by decide +kernel
theorem dX1_nextOrder_81 : decode cX1_nextOrder 81 = .ok (.iadd, 1) := by decide +kernel
theorem dX1_nextOrder_82 : decode cX1_nextOrder 82 = .ok (.putfield 31, 3) := by decide +kernel
theorem dX1_nextOrder_85 : decode cX1_nextOrder 85 = .ok (.aload_n 0, 1) := by decide +kernel
theorem dX1_nextOrder_86 : decode cX1_nextOrder 86 = .ok (.invokevirtual 46, 3) := by decide +kernel
theorem dX1_nextOrder_89 : decode cX1_nextOrder 89 = .ok (.iconst 1, 1) := by decide +kernel
theorem dX1_nextOrder_90 : decode cX1_nextOrder 90 = .ok (.ireturn, 1) := by decide +kernel
theorem dX1_takeNumbers_0 : decode cX1_takeNumbers 0 = .ok (.aload_n 0, 1) := by decide +kernel
theorem dX1_takeNumbers_1 : decode cX1_takeNumbers 1 = .ok (.getfield 22, 3) := by decide +kernel
theorem dX1_takeNumbers_4 : decode cX1_takeNumbers 4 = .ok (.bipush 104, 2) := by decide +kernel
theorem dX1_takeNumbers_6 : decode cX1_takeNumbers 6 = .ok (.if_icmp .eq 12, 3) := by decide +kernel
theorem dX1_takeNumbers_9 : decode cX1_takeNumbers 9 = .ok (.aload_n 0, 1) := by decide +kernel
theorem dX1_takeNumbers_10 : decode cX1_takeNumbers 10 = .ok (.getfield 22, 3) := by decide +kernel
theorem dX1_takeNumbers_13 : decode cX1_takeNumbers 13 = .ok (.bipush 113, 2) := by decide +kernel
theorem dX1_takeNumbers_15 : decode cX1_takeNumbers 15 = .ok (.if_icmp .ne 16, 3) := by decide +kernel
theorem dX1_takeNumbers_18 : decode cX1_takeNumbers 18 = .ok (.aload_n 0, 1) := by decide +kernel
theorem dX1_takeNumbers_19 : decode cX1_takeNumbers 19 = .ok (.invokevirtual 49, 3) := by decide +kernel
theorem dX1_takeNumbers_22 : decode cX1_takeNumbers 22 = .ok (.bipush 45, 2) := by decide +kernel
theorem dX1_takeNumbers_24 : decode cX1_takeNumbers 24 = .ok (.if_icmp .ne 7, 3) := by decide +kernel
theorem dX1_takeNumbers_27 : decode cX1_takeNumbers 27 = .ok (.iconst 1, 1) := by decide +kernel
theorem dX1_takeNumbers_28 : decode cX1_takeNumbers 28 = .ok (.goto 4, 3) := by decide +kernel
theorem dX1_takeNumbers_31 : decode cX1_takeNumbers 31 = .ok (.iconst 0, 1) := by decide +kernel
theorem dX1_takeNumbers_32 : decode cX1_takeNumbers 32 = .ok (.istore_n 1, 1) := by decide +kernel
theorem dX1_takeNumbers_33 : decode cX1_takeNumbers 33 = .ok (.iload_n 1, 1) := by decide +kernel
theorem dX1_takeNumbers_34 : decode cX1_takeNumbers 34 = .ok (.ifCond .eq 13, 3) := by decide +kernel
theorem dX1_takeNumbers_37 : decode cX1_takeNumbers 37 = .ok (.aload_n 0, 1) := by decide +kernel
theorem dX1_takeNumbers_38 : decode cX1_takeNumbers 38 = .ok (.dup, 1) := by decide +kernel
theorem dX1_takeNumbers_39 : decode cX1_takeNumbers 39 = .ok (.getfield 31, 3) := by decide +kernel
theorem dX1_takeNumbers_42 : decode cX1_takeNumbers 42 = .ok (.iconst 1, 1) := by decide +kernel
theorem dX1_takeNumbers_43 : decode cX1_takeNumbers 43 = .ok (.iadd, 1) := by decide +kernel
theorem dX1_takeNumbers_44 : decode cX1_takeNumbers 44 = .ok (.putfield 31, 3) := by decide +kernel
theorem dX1_takeNumbers_47 : decode cX1_takeNumbers 47 = .ok (.aload_n 0, 1) := by decide +kernel
theorem dX1_takeNumbers_48 : decode cX1_takeNumbers 48 = .ok (.invokevirtual 60, 3) := by decide +kernel
theorem dX1_takeNumbers_51 : decode cX1_takeNumbers 51 = .ok (.ifCond .ne 5, 3) := by decide +kernel
theorem dX1_takeNumbers_54 : decode cX1_takeNumbers 54 = .ok (.iconst 0, 1) := by decide +kernel
theorem dX1_takeNumbers_55 : decode cX1_takeNumbers 55 = .ok (.ireturn, 1) := by decide +kernel
theorem dX1_takeNumbers_56 : decode cX1_takeNumbers 56 = .ok (.aload_n 0, 1) := by decide +kernel
theorem dX1_takeNumbers_57 : decode cX1_takeNumbers 57 = .ok (.iload_n 1, 1) := by decide +kernel
theorem dX1_takeNumbers_58 : decode cX1_takeNumbers 58 = .ok (.ifCond .eq 11, 3) := by decide +kernel
theorem dX1_takeNumbers_61 : decode cX1_takeNumbers 61 = .ok (.aload_n 0, 1) := by decide +kernel
theorem dX1_takeNumbers_62 : decode cX1_takeNumbers 62 = .ok (.getfield 34, 3) := by decide +kernel
theorem dX1_takeNumbers_65 : decode cX1_takeNumbers 65 = .ok (.ineg, 1) := by decide +kernel
theorem dX1_takeNumbers_66 : decode cX1_takeNumbers 66 = .ok (.goto 7, 3) := by decide +kernel
theorem dX1_takeNumbers_69 : decode cX1_takeNumbers 69 = .ok (.aload_n 0, 1) := by decide +kernel
theorem dX1_takeNumbers_70 : decode cX1_takeNumbers 70 = .ok (.getfield 34, 3) := by decide +kernel
theorem dX1_takeNumbers_73 : decode cX1_takeNumbers 73 = .ok (.putfield 25, 3) := by decide +kernel
theorem dX1_takeNumbers_76 : decode cX1_takeNumbers 76 = .ok (.aload_n 0, 1) := by decide +kernel
theorem dX1_takeNumbers_77 : decode cX1_takeNumbers 77 = .ok (.getfield 22, 3) := by decide +kernel
theorem dX1_takeNumbers_80 : decode cX1_takeNumbers 80 = .ok (.bipush 119, 2) := by decide +kernel
theorem dX1_takeNumbers_82 : decode cX1_takeNumbers 82 = .ok (.if_icmp .ne 35, 3) := by decide +kernel
theorem dX1_takeNumbers_85 : decode cX1_takeNumbers 85 = .ok (.aload_n 0, 1) := by decide +kernel
theorem dX1_takeNumbers_86 : decode cX1_takeNumbers 86 = .ok (.invokevirtual 49, 3) := by decide +kernel
theorem dX1_takeNumbers_89 : decode cX1_takeNumbers 89 = .ok (.bipush 32, 2) := by decide +kernel
theorem dX1_takeNumbers_91 : decode cX1_takeNumbers 91 = .ok (.if_icmp .eq 5, 3) := by decide +kernel
theorem dX1_takeNumbers_94 : decode cX1_takeNumbers 94 = .ok (.iconst 0, 1) := by decide +kernel
theorem dX1_takeNumbers_95 : decode cX1_takeNumbers 95 = .ok (.ireturn, 1) := by decide +kernel
theorem dX1_takeNumbers_96 : decode cX1_takeNumbers 96 = .ok (.aload_n 0, 1) := by decide +kernel
theorem dX1_takeNumbers_97 : decode cX1_takeNumbers 97 = .ok (.invokevirtual 46, 3) := by decide +kernel
theorem dX1_takeNumbers_100 : decode cX1_takeNumbers 100 = .ok (.aload_n 0, 1) := by decide +kernel
theorem dX1_takeNumbers_101 : decode cX1_takeNumbers 101 = .ok (.invokevirtual 60, 3) := by decide +kernel
theorem dX1_takeNumbers_104 : decode cX1_takeNumbers 104 = .ok (.ifCond .ne 5, 3) := by decide +kernel
theorem dX1_takeNumbers_107 : decode cX1_takeNumbers 107 = .ok (.iconst 0, 1) := by decide +kernel
theorem dX1_takeNumbers_108 : decode cX1_takeNumbers 108 = .ok (.ireturn, 1) := by decide +kernel
theorem dX1_takeNumbers_109 : decode cX1_takeNumbers 109 = .ok (.aload_n 0, 1) := by decide +kernel
theorem dX1_takeNumbers_110 : decode cX1_takeNumbers 110 = .ok (.aload_n 0, 1) := by decide +kernel
theorem dX1_takeNumbers_111 : decode cX1_takeNumbers 111 = .ok (.getfield 34, 3) := by decide +kernel
theorem dX1_takeNumbers_114 : decode cX1_takeNumbers 114 = .ok (.putfield 28, 3) := by decide +kernel
theorem dX1_takeNumbers_117 : decode cX1_takeNumbers 117 = .ok (.aload_n 0, 1) := by decide +kernel
theorem dX1_takeNumbers_118 : decode cX1_takeNumbers 118 = .ok (.invokevirtual 46, 3) := by decide +kernel
theorem dX1_takeNumbers_121 : decode cX1_takeNumbers 121 = .ok (.iconst 1, 1) := by decide +kernel
theorem dX1_takeNumbers_122 : decode cX1_takeNumbers 122 = .ok (.ireturn, 1) := by decide +kernel
