theorem dX2_obey_0 : decode cX2_obey 0 = .ok (.iload_n 1, 1) := by decide +kernel
theorem dX2_obey_1 : decode cX2_obey 1 = .ok (.bipush 115, 2) := by decide +kernel
theorem dX2_obey_3 : decode cX2_obey 3 = .ok (.if_icmp .ne 30, 3) := by decide +kernel
theorem dX2_obey_6 : decode cX2_obey 6 = .ok (.iload_n 2, 1) := by decide +kernel
theorem dX2_obey_7 : decode cX2_obey 7 = .ok (.invokestatic 67, 3) := by decide +kernel
theorem dX2_obey_10 : decode cX2_obey 10 = .ok (.ifCond .eq 11, 3) := by decide +kernel
theorem dX2_obey_13 : decode cX2_obey 13 = .ok (.aload_n 0, 1) := by decide +kernel
theorem dX2_obey_14 : decode cX2_obey 14 = .ok (.iload_n 2, 1) := by decide +kernel
theorem dX2_obey_15 : decode cX2_obey 15 = .ok (.invokevirtual 71, 3) := by decide +kernel
theorem dX2_obey_18 : decode cX2_obey 18 = .ok (.ifCond .ne 5, 3) := by decide +kernel
theorem dX2_obey_21 : decode cX2_obey 21 = .ok (.iconst 0, 1) := by decide +kernel
theorem dX2_obey_22 : decode cX2_obey 22 = .ok (.ireturn, 1) := by decide +kernel
theorem dX2_obey_23 : decode cX2_obey 23 = .ok (.aload_n 0, 1) := by decide +kernel
theorem dX2_obey_24 : decode cX2_obey 24 = .ok (.getfield 10, 3) := by decide +kernel
theorem dX2_obey_27 : decode cX2_obey 27 = .ok (.iload_n 2, 1) := by decide +kernel
theorem dX2_obey_28 : decode cX2_obey 28 = .ok (.invokevirtual 74, 3) := by decide +kernel
theorem dX2_obey_31 : decode cX2_obey 31 = .ok (.iconst 1, 1) := by decide +kernel
theorem dX2_obey_32 : decode cX2_obey 32 = .ok (.ireturn, 1) := by decide +kernel
theorem dX2_obey_33 : decode cX2_obey 33 = .ok (.iload_n 1, 1) := by decide +kernel
theorem dX2_obey_34 : decode cX2_obey 34 = .ok (.bipush 119, 2) := by decide +kernel
theorem dX2_obey_36 : decode cX2_obey 36 = .ok (.if_icmp .ne 24, 3) := by decide +kernel
theorem dX2_obey_39 : decode cX2_obey 39 = .ok (.iload_n 2, 1) := by decide +kernel
theorem dX2_obey_40 : decode cX2_obey 40 = .ok (.iload_n 3, 1) := by decide +kernel
theorem dX2_obey_41 : decode cX2_obey 41 = .ok (.invokestatic 49, 3) := by decide +kernel
theorem dX2_obey_44 : decode cX2_obey 44 = .ok (.ifCond .ne 5, 3) := by decide +kernel
theorem dX2_obey_47 : decode cX2_obey 47 = .ok (.iconst 0, 1) := by decide +kernel
theorem dX2_obey_48 : decode cX2_obey 48 = .ok (.ireturn, 1) := by decide +kernel
theorem dX2_obey_49 : decode cX2_obey 49 = .ok (.aload_n 0, 1) := by decide +kernel
theorem dX2_obey_50 : decode cX2_obey 50 = .ok (.getfield 10, 3) := by decide +kernel
theorem dX2_obey_53 : decode cX2_obey 53 = .ok (.iload_n 2, 1) := by decide +kernel
theorem dX2_obey_54 : decode cX2_obey 54 = .ok (.iload_n 3, 1) := by decide +kernel
theorem dX2_obey_55 : decode cX2_obey 55 = .ok (.invokevirtual 60, 3) := by decide +kernel
theorem dX2_obey_58 : decode cX2_obey 58 = .ok (.iconst 1, 1) := by decide +kernel
theorem dX2_obey_59 : decode cX2_obey 59 = .ok (.ireturn, 1) := by decide +kernel
theorem dX2_obey_60 : decode cX2_obey 60 = .ok (.iload_n 1, 1) := by decide +kernel
theorem dX2_obey_61 : decode cX2_obey 61 = .ok (.invokestatic 207, 3) := by decide +kernel
theorem dX2_obey_64 : decode cX2_obey 64 = .ok (.istore 4, 2) := by decide +kernel
theorem dX2_obey_66 : decode cX2_obey 66 = .ok (.iload 4, 2) := by decide +kernel
theorem dX2_obey_68 : decode cX2_obey 68 = .ok (.iload_n 2, 1) := by decide +kernel
theorem dX2_obey_69 : decode cX2_obey 69 = .ok (.invokestatic 134, 3) := by decide +kernel
theorem dX2_obey_72 : decode cX2_obey 72 = .ok (.ifCond .ne 5, 3) := by decide +kernel
theorem dX2_obey_75 : decode cX2_obey 75 = .ok (.iconst 0, 1) := by decide +kernel
theorem dX2_obey_76 : decode cX2_obey 76 = .ok (.ireturn, 1) := by decide +kernel
theorem dX2_obey_77 : decode cX2_obey 77 = .ok (.aload_n 0, 1) := by decide +kernel
theorem dX2_obey_78 : decode cX2_obey 78 = .ok (.getfield 10, 3) := by decide +kernel
theorem dX2_obey_81 : decode cX2_obey 81 = .ok (.iload 4, 2) := by decide +kernel
theorem dX2_obey_83 : decode cX2_obey 83 = .ok (.iload_n 2, 1) := by decide +kernel
theorem dX2_obey_84 : decode cX2_obey 84 = .ok (.invokevirtual 204, 3) := by decide +kernel
theorem dX2_obey_87 : decode cX2_obey 87 = .ok (.iconst 1, 1) := by decide +kernel
theorem dX2_obey_88 : decode cX2_obey 88 = .ok (.ireturn, 1) := by decide +kernel
theorem dX2_thousandfold_0 : decode cX2_thousandfold 0 = .ok (.ldc2_w 210, 3) := by decide +kernel
theorem dX2_thousandfold_3 : decode cX2_thousandfold 3 = .ok (.dload_n 0, 1) := by decide +kernel
theorem dX2_thousandfold_4 : decode cX2_thousandfold 4 = .ok (.dmul, 1) := by decide +kernel
theorem dX2_thousandfold_5 : decode cX2_thousandfold 5 = .ok (.d2l, 1) := by decide +kernel
theorem dX2_thousandfold_6 : decode cX2_thousandfold 6 = .ok (.lreturn, 1) := by decide +kernel
theorem dX2_bitsOf_0 : decode cX2_bitsOf 0 = .ok (.dload_n 0, 1) := by decide +kernel
theorem dX2_bitsOf_1 : decode cX2_bitsOf 1 = .ok (.dconst 0, 1) := by decide +kernel
theorem dX2_bitsOf_2 : decode cX2_bitsOf 2 = .ok (.dcmp .l, 1) := by decide +kernel
theorem dX2_bitsOf_3 : decode cX2_bitsOf 3 = .ok (.ifCond .ne 5, 3) := by decide +kernel
theorem dX2_bitsOf_6 : decode cX2_bitsOf 6 = .ok (.lconst 0, 1) := by decide +kernel
theorem dX2_bitsOf_7 : decode cX2_bitsOf 7 = .ok (.lreturn, 1) := by decide +kernel
theorem dX2_bitsOf_8 : decode cX2_bitsOf 8 = .ok (.ldc2_w 212, 3) := by decide +kernel
theorem dX2_bitsOf_11 : decode cX2_bitsOf 11 = .ok (.lstore_n 2, 1) := by decide +kernel
theorem dX2_bitsOf_12 : decode cX2_bitsOf 12 = .ok (.dload_n 0, 1) := by decide +kernel
theorem dX2_bitsOf_13 : decode cX2_bitsOf 13 = .ok (.dconst 0, 1) := by decide +kernel
theorem dX2_bitsOf_14 : decode cX2_bitsOf 14 = .ok (.dcmp .g, 1) := by decide +kernel
theorem dX2_bitsOf_15 : decode cX2_bitsOf 15 = .ok (.ifCond .ge 8, 3) := by decide +kernel
theorem dX2_bitsOf_18 : decode cX2_bitsOf 18 = .ok (.dload_n 0, 1) := by decide +kernel
theorem dX2_bitsOf_19 : decode cX2_bitsOf 19 = .ok (.dneg, 1) := by decide +kernel
theorem dX2_bitsOf_20 : decode cX2_bitsOf 20 = .ok (.goto 4, 3) := by decide +kernel
theorem dX2_bitsOf_23 : decode cX2_bitsOf 23 = .ok (.dload_n 0, 1) := by decide +kernel
theorem dX2_bitsOf_24 : decode cX2_bitsOf 24 = .ok (.dstore 4, 2) := by decide +kernel
theorem dX2_bitsOf_26 : decode cX2_bitsOf 26 = .ok (.sipush 1075, 3) := by decide +kernel
theorem dX2_bitsOf_29 : decode cX2_bitsOf 29 = .ok (.istore 6, 2) := by decide +kernel
theorem dX2_bitsOf_31 : decode cX2_bitsOf 31 = .ok (.dload 4, 2) := by decide +kernel
theorem dX2_bitsOf_33 : decode cX2_bitsOf 33 = .ok (.lload_n 2, 1) := by decide +kernel
theorem dX2_bitsOf_34 : decode cX2_bitsOf 34 = .ok (.l2d, 1) := by decide +kernel
theorem dX2_bitsOf_35 : decode cX2_bitsOf 35 = .ok (.dcmp .g, 1) := by decide +kernel
theorem dX2_bitsOf_36 : decode cX2_bitsOf 36 = .ok (.ifCond .ge 23, 3) := by decide +kernel
theorem dX2_bitsOf_39 : decode cX2_bitsOf 39 = .ok (.iload 6, 2) := by decide +kernel
theorem dX2_bitsOf_41 : decode cX2_bitsOf 41 = .ok (.iconst 1, 1) := by decide +kernel
theorem dX2_bitsOf_42 : decode cX2_bitsOf 42 = .ok (.if_icmp .le 17, 3) := by decide +kernel
theorem dX2_bitsOf_45 : decode cX2_bitsOf 45 = .ok (.dload 4, 2) := by decide +kernel
theorem dX2_bitsOf_47 : decode cX2_bitsOf 47 = .ok (.ldc2_w 214, 3) := by decide +kernel
theorem dX2_bitsOf_50 : decode cX2_bitsOf 50 = .ok (.dmul, 1) := by decide +kernel
theorem dX2_bitsOf_51 : decode cX2_bitsOf 51 = .ok (.dstore 4, 2) := by decide +kernel
theorem dX2_bitsOf_53 : decode cX2_bitsOf 53 = .ok (.iinc 6 (-1), 3) := by decide +kernel
theorem dX2_bitsOf_56 : decode cX2_bitsOf 56 = .ok (.goto (-25), 3) := by decide +kernel
theorem dX2_bitsOf_59 : decode cX2_bitsOf 59 = .ok (.dload 4, 2) := by decide +kernel
theorem dX2_bitsOf_61 : decode cX2_bitsOf 61 = .ok (.d2l, 1) := by decide +kernel
theorem dX2_bitsOf_62 : decode cX2_bitsOf 62 = .ok (.lstore 7, 2) := by decide +kernel
theorem dX2_bitsOf_64 : decode cX2_bitsOf 64 = .ok (.lload 7, 2) := by decide +kernel
theorem dX2_bitsOf_66 : decode cX2_bitsOf 66 = .ok (.lload_n 2, 1) := by decide +kernel
theorem dX2_bitsOf_67 : decode cX2_bitsOf 67 = .ok (.lcmp, 1) := by decide +kernel
theorem dX2_bitsOf_68 : decode cX2_bitsOf 68 = .ok (.ifCond .ge 8, 3) := by decide +kernel
theorem dX2_bitsOf_71 : decode cX2_bitsOf 71 = .ok (.lload 7, 2) := by decide +kernel
theorem dX2_bitsOf_73 : decode cX2_bitsOf 73 = .ok (.goto 14, 3) := by decide +kernel
theorem dX2_bitsOf_76 : decode cX2_bitsOf 76 = .ok (.iload 6, 2) := by decide +kernel
theorem dX2_bitsOf_78 : decode cX2_bitsOf 78 = .ok (.i2l, 1) := by decide +kernel
theorem dX2_bitsOf_79 : decode cX2_bitsOf 79 = .ok (.bipush 52, 2) := by decide +kernel
theorem dX2_bitsOf_81 : decode cX2_bitsOf 81 = .ok (.lshl, 1) := by decide +kernel
theorem dX2_bitsOf_82 : decode cX2_bitsOf 82 = .ok (.lload 7, 2) := by decide +kernel
theorem dX2_bitsOf_84 : decode cX2_bitsOf 84 = .ok (.lload_n 2, 1) := by decide +kernel
theorem dX2_bitsOf_85 : decode cX2_bitsOf 85 = .ok (.lsub, 1) := by decide +kernel
theorem dX2_bitsOf_86 : decode cX2_bitsOf 86 = .ok (.ladd, 1) := by decide +kernel
theorem dX2_bitsOf_87 : decode cX2_bitsOf 87 = .ok (.lstore 9, 2) := by decide +kernel
theorem dX2_bitsOf_89 : decode cX2_bitsOf 89 = .ok (.dload_n 0, 1) := by decide +kernel
theorem dX2_bitsOf_90 : decode cX2_bitsOf 90 = .ok (.dconst 0, 1) := by decide +kernel
theorem dX2_bitsOf_91 : decode cX2_bitsOf 91 = .ok (.dcmp .g, 1) := by decide +kernel
theorem dX2_bitsOf_92 : decode cX2_bitsOf 92 = .ok (.ifCond .ge 12, 3) := by decide +kernel
theorem dX2_bitsOf_95 : decode cX2_bitsOf 95 = .ok (.lload 9, 2) := by decide +kernel
theorem dX2_bitsOf_97 : decode cX2_bitsOf 97 = .ok (.ldc2_w 216, 3) := by decide +kernel
theorem dX2_bitsOf_100 : decode cX2_bitsOf 100 = .ok (.lor, 1) := by decide +kernel
theorem dX2_bitsOf_101 : decode cX2_bitsOf 101 = .ok (.goto 5, 3) := by decide +kernel
theorem dX2_bitsOf_104 : decode cX2_bitsOf 104 = .ok (.lload 9, 2) := by decide +kernel
theorem dX2_bitsOf_106 : decode cX2_bitsOf 106 = .ok (.lreturn, 1) := by decide +kernel
theorem dJxe99ae_isNaN_b9ae7_0 : decode cJxe99ae_isNaN_b9ae7 0 = .ok (.dload_n 0, 1) := by decide +kernel
theorem dJxe99ae_isNaN_b9ae7_1 : decode cJxe99ae_isNaN_b9ae7 1 = .ok (.dload_n 0, 1) := by decide +kernel
theorem dJxe99ae_isNaN_b9ae7_2 : decode cJxe99ae_isNaN_b9ae7 2 = .ok (.dcmp .l, 1) := by decide +kernel
theorem dJxe99ae_isNaN_b9ae7_3 : decode cJxe99ae_isNaN_b9ae7 3 = .ok (.ifCond .eq 7, 3) := by decide +kernel
theorem dJxe99ae_isNaN_b9ae7_6 : decode cJxe99ae_isNaN_b9ae7 6 = .ok (.iconst 1, 1) := by decide +kernel
theorem dJxe99ae_isNaN_b9ae7_7 : decode cJxe99ae_isNaN_b9ae7 7 = .ok (.goto 4, 3) := by decide +kernel
theorem dJxe99ae_isNaN_b9ae7_10 : decode cJxe99ae_isNaN_b9ae7 10 = .ok (.iconst 0, 1) := by decide +kernel
theorem dJxe99ae_isNaN_b9ae7_11 : decode cJxe99ae_isNaN_b9ae7 11 = .ok (.ireturn, 1) := by decide +kernel
theorem dJxe99ae_doubleToLongBits_ccdee_0 : decode cJxe99ae_doubleToLongBits_ccdee 0 = .ok (.dload_n 0, 1) := by decide +kernel
theorem dJxe99ae_doubleToLongBits_ccdee_1 : decode cJxe99ae_doubleToLongBits_ccdee 1 = .ok (.invokestatic 122, 3) := by decide +kernel
theorem dJxe99ae_doubleToLongBits_ccdee_4 : decode cJxe99ae_doubleToLongBits_ccdee 4 = .ok (.ifCond .ne 8, 3) := by decide +kernel
theorem dJxe99ae_doubleToLongBits_ccdee_7 : decode cJxe99ae_doubleToLongBits_ccdee 7 = .ok (.dload_n 0, 1) := by decide +kernel
theorem dJxe99ae_doubleToLongBits_ccdee_8 : decode cJxe99ae_doubleToLongBits_ccdee 8 = .ok (.invokestatic 134, 3) := by decide +kernel
theorem dJxe99ae_doubleToLongBits_ccdee_11 : decode cJxe99ae_doubleToLongBits_ccdee 11 = .ok (.lreturn, 1) := by decide +kernel
theorem dJxe99ae_doubleToLongBits_ccdee_12 : decode cJxe99ae_doubleToLongBits_ccdee 12 = .ok (.ldc2_w 137, 3) := by decide +kernel
theorem dJxe99ae_doubleToLongBits_ccdee_15 : decode cJxe99ae_doubleToLongBits_ccdee 15 = .ok (.lreturn, 1) := by decide +kernel
theorem dX3_init_0 : decode cX3_init 0 = .ok (.aload_n 0, 1) := by decide +kernel
theorem dX3_init_1 : decode cX3_init 1 = .ok (.invokespecial 1, 3) := by decide +kernel
theorem dX3_init_4 : decode cX3_init 4 = .ok (.aload_n 0, 1) := by decide +kernel
theorem dX3_init_5 : decode cX3_init 5 = .ok (.bipush 9, 2) := by decide +kernel
theorem dX3_init_7 : decode cX3_init 7 = .ok (.newarray .int, 2) := by decide +kernel
theorem dX3_init_9 : decode cX3_init 9 = .ok (.putfield 7, 3) := by decide +kernel
theorem dX3_init_12 : decode cX3_init 12 = .ok (.aload_n 0, 1) := by decide +kernel
theorem dX3_init_13 : decode cX3_init 13 = .ok (.bipush 45, 2) := by decide +kernel
theorem dX3_init_15 : decode cX3_init 15 = .ok (.newarray .double, 2) := by decide +kernel
theorem dX3_init_17 : decode cX3_init 17 = .ok (.putfield 13, 3) := by decide +kernel
theorem dX3_init_20 : decode cX3_init 20 = .ok (.aload_n 0, 1) := by decide +kernel
theorem dX3_init_21 : decode cX3_init 21 = .ok (.bipush 22, 2) := by decide +kernel
theorem dX3_init_23 : decode cX3_init 23 = .ok (.newarray .double, 2) := by decide +kernel
theorem dX3_init_25 : decode cX3_init 25 = .ok (.putfield 17, 3) := by decide +kernel
theorem dX3_init_28 : decode cX3_init 28 = .ok (.aload_n 0, 1) := by decide +kernel
theorem dX3_init_29 : decode cX3_init 29 = .ok (.bipush 36, 2) := by decide +kernel
theorem dX3_init_31 : decode cX3_init 31 = .ok (.newarray .int, 2) := by decide +kernel
theorem dX3_init_33 : decode cX3_init 33 = .ok (.putfield 20, 3) := by decide +kernel
theorem dX3_init_36 : decode cX3_init 36 = .ok (.aload_n 0, 1) := by decide +kernel
theorem dX3_init_37 : decode cX3_init 37 = .ok (.sipush 180, 3) := by decide +kernel
theorem dX3_init_40 : decode cX3_init 40 = .ok (.newarray .double, 2) := by decide +kernel
theorem dX3_init_42 : decode cX3_init 42 = .ok (.putfield 23, 3) := by decide +kernel
theorem dX3_init_45 : decode cX3_init 45 = .ok (.aload_n 0, 1) := by decide +kernel
theorem dX3_init_46 : decode cX3_init 46 = .ok (.bipush 9, 2) := by decide +kernel
theorem dX3_init_48 : decode cX3_init 48 = .ok (.newarray .int, 2) := by decide +kernel
theorem dX3_init_50 : decode cX3_init 50 = .ok (.putfield 26, 3) := by decide +kernel
theorem dX3_init_53 : decode cX3_init 53 = .ok (.aload_n 0, 1) := by decide +kernel
theorem dX3_init_54 : decode cX3_init 54 = .ok (.bipush 45, 2) := by decide +kernel
theorem dX3_init_56 : decode cX3_init 56 = .ok (.newarray .double, 2) := by decide +kernel
theorem dX3_init_58 : decode cX3_init 58 = .ok (.putfield 29, 3) := by decide +kernel
theorem dX3_init_61 : decode cX3_init 61 = .ok (.aload_n 0, 1) := by decide +kernel
theorem dX3_init_62 : decode cX3_init 62 = .ok (.iconst 3, 1) := by decide +kernel
theorem dX3_init_63 : decode cX3_init 63 = .ok (.newarray .int, 2) := by decide +kernel
theorem dX3_init_65 : decode cX3_init 65 = .ok (.putfield 32, 3) := by decide +kernel
theorem dX3_init_68 : decode cX3_init 68 = .ok (.aload_n 0, 1) := by decide +kernel
theorem dX3_init_69 : decode cX3_init 69 = .ok (.bipush 100, 2) := by decide +kernel
theorem dX3_init_71 : decode cX3_init 71 = .ok (.newarray .int, 2) := by decide +kernel
theorem dX3_init_73 : decode cX3_init 73 = .ok (.putfield 35, 3) := by decide +kernel
theorem dX3_init_76 : decode cX3_init 76 = .ok (.aload_n 0, 1) := by decide +kernel
theorem dX3_init_77 : decode cX3_init 77 = .ok (.bipush 50, 2) := by decide +kernel
theorem dX3_init_79 : decode cX3_init 79 = .ok (.newarray .int, 2) := by decide +kernel
theorem dX3_init_81 : decode cX3_init 81 = .ok (.putfield 38, 3) := by decide +kernel
theorem dX3_init_84 : decode cX3_init 84 = .ok (.aload_n 0, 1) := by decide +kernel
theorem dX3_init_85 : decode cX3_init 85 = .ok (.bipush 100, 2) := by decide +kernel
theorem dX3_init_87 : decode cX3_init 87 = .ok (.newarray .int, 2) := by decide +kernel
theorem dX3_init_89 : decode cX3_init 89 = .ok (.putfield 41, 3) := by decide +kernel
theorem dX3_init_92 : decode cX3_init 92 = .ok (.aload_n 0, 1) := by decide +kernel
theorem dX3_init_93 : decode cX3_init 93 = .ok (.getfield 7, 3) := by decide +kernel
theorem dX3_init_96 : decode cX3_init 96 = .ok (.iconst 0, 1) := by decide +kernel
theorem dX3_init_97 : decode cX3_init 97 = .ok (.iconst 4, 1) := by decide +kernel
theorem dX3_init_98 : decode cX3_init 98 = .ok (.iastore, 1) := by decide +kernel
theorem dX3_init_99 : decode cX3_init 99 = .ok (.aload_n 0, 1) := by decide +kernel
theorem dX3_init_100 : decode cX3_init 100 = .ok (.getfield 7, 3) := by decide +kernel
theorem dX3_init_103 : decode cX3_init 103 = .ok (.iconst 1, 1) := by decide +kernel
theorem dX3_init_104 : decode cX3_init 104 = .ok (.bipush 100, 2) := by decide +kernel
theorem dX3_init_106 : decode cX3_init 106 = .ok (.iastore, 1) := by decide +kernel
theorem dX3_init_107 : decode cX3_init 107 = .ok (.aload_n 0, 1) := by decide +kernel
theorem dX3_init_108 : decode cX3_init 108 = .ok (.getfield 7, 3) := by decide +kernel
theorem dX3_init_111 : decode cX3_init 111 = .ok (.iconst 2, 1) := by decide +kernel
theorem dX3_init_112 : decode cX3_init 112 = .ok (.bipush 20, 2) := by decide +kernel
theorem dX3_init_114 : decode cX3_init 114 = .ok (.iastore, 1) := by decide +kernel
theorem dX3_init_115 : decode cX3_init 115 = .ok (.aload_n 0, 1) := by decide +kernel
theorem dX3_init_116 : decode cX3_init 116 = .ok (.getfield 7, 3) := by decide +kernel
theorem dX3_init_119 : decode cX3_init 119 = .ok (.iconst 3, 1) := by decide +kernel
theorem dX3_init_120 : decode cX3_init 120 = .ok (.iconst 5, 1) := by decide +kernel
theorem dX3_init_121 : decode cX3_init 121 = .ok (.iastore, 1) := by decide +kernel
theorem dX3_init_122 : decode cX3_init 122 = .ok (.aload_n 0, 1) := by decide +kernel
theorem dX3_init_123 : decode cX3_init 123 = .ok (.getfield 7, 3) := by decide +kernel
theorem dX3_init_126 : decode cX3_init 126 = .ok (.bipush 7, 2) := by decide +kernel
theorem dX3_init_128 : decode cX3_init 128 = .ok (.bipush 10, 2) := by decide +kernel
theorem dX3_init_130 : decode cX3_init 130 = .ok (.iastore, 1) := by decide +kernel
theorem dX3_init_131 : decode cX3_init 131 = .ok (.aload_n 0, 1) := by decide +kernel
theorem dX3_init_132 : decode cX3_init 132 = .ok (.invokevirtual 44, 3) := by decide +kernel
theorem dX3_init_135 : decode cX3_init 135 = .ok (.return_, 1) := by decide +kernel
theorem dX3_within_0 : decode cX3_within 0 = .ok (.iload_n 0, 1) := by decide +kernel
theorem dX3_within_1 : decode cX3_within 1 = .ok (.iload_n 1, 1) := by decide +kernel
theorem dX3_within_2 : decode cX3_within 2 = .ok (.if_icmp .lt 12, 3) := by decide +kernel
theorem dX3_within_5 : decode cX3_within 5 = .ok (.iload_n 0, 1) := by decide +kernel
theorem dX3_within_6 : decode cX3_within 6 = .ok (.iload_n 2, 1) := by decide +kernel
theorem dX3_within_7 : decode cX3_within 7 = .ok (.if_icmp .gt 7, 3) := by decide +kernel
theorem dX3_within_10 : decode cX3_within 10 = .ok (.iconst 1, 1) := by decide +kernel
theorem dX3_within_11 : decode cX3_within 11 = .ok (.goto 4, 3) := by decide +kernel
theorem dX3_within_14 : decode cX3_within 14 = .ok (.iconst 0, 1) := by decide +kernel
theorem dX3_within_15 : decode cX3_within 15 = .ok (.ireturn, 1) := by decide +kernel
theorem dX3_counts_0 : decode cX3_counts 0 = .ok (.aload_n 0, 1) := by decide +kernel
theorem dX3_counts_1 : decode cX3_counts 1 = .ok (.getfield 32, 3) := by decide +kernel
theorem dX3_counts_4 : decode cX3_counts 4 = .ok (.bipush (-2), 2) := by decide +kernel
theorem dX3_counts_6 : decode cX3_counts 6 = .ok (.iload_n 1, 1) := by decide +kernel
theorem dX3_counts_7 : decode cX3_counts 7 = .ok (.isub, 1) := by decide +kernel
theorem dX3_counts_8 : decode cX3_counts 8 = .ok (.dup2, 1) := by decide +kernel
theorem dX3_counts_9 : decode cX3_counts 9 = .ok (.iaload, 1) := by decide +kernel
theorem dX3_counts_10 : decode cX3_counts 10 = .ok (.iconst 1, 1) := by decide +kernel
theorem dX3_counts_11 : decode cX3_counts 11 = .ok (.iadd, 1) := by decide +kernel
theorem dX3_counts_12 : decode cX3_counts 12 = .ok (.iastore, 1) := by decide +kernel
theorem dX3_counts_13 : decode cX3_counts 13 = .ok (.iload_n 1, 1) := by decide +kernel
theorem dX3_counts_14 : decode cX3_counts 14 = .ok (.ireturn, 1) := by decide +kernel
theorem dX3_countsLong_0 : decode cX3_countsLong 0 = .ok (.aload_n 0, 1) := by decide +kernel
theorem dX3_countsLong_1 : decode cX3_countsLong 1 = .ok (.getfield 32, 3) := by decide +kernel
theorem dX3_countsLong_4 : decode cX3_countsLong 4 = .ok (.iconst 0, 1) := by decide +kernel
theorem dX3_countsLong_5 : decode cX3_countsLong 5 = .ok (.dup2, 1) := by decide +kernel
theorem dX3_countsLong_6 : decode cX3_countsLong 6 = .ok (.iaload, 1) := by decide +kernel
theorem dX3_countsLong_7 : decode cX3_countsLong 7 = .ok (.iconst 1, 1) := by decide +kernel
theorem dX3_countsLong_8 : decode cX3_countsLong 8 = .ok (.iadd, 1) := by decide +kernel
theorem dX3_countsLong_9 : decode cX3_countsLong 9 = .ok (.iastore, 1) := by decide +kernel
theorem dX3_countsLong_10 : decode cX3_countsLong 10 = .ok (.ldc2_w 47, 3) := by decide +kernel
theorem dX3_countsLong_13 : decode cX3_countsLong 13 = .ok (.lreturn, 1) := by decide +kernel
theorem dX3_leaves_0 : decode cX3_leaves 0 = .ok (.aload_n 0, 1) := by decide +kernel
theorem dX3_leaves_1 : decode cX3_leaves 1 = .ok (.getfield 49, 3) := by decide +kernel
theorem dX3_leaves_4 : decode cX3_leaves 4 = .ok (.iconst 4, 1) := by decide +kernel
theorem dX3_leaves_5 : decode cX3_leaves 5 = .ok (.if_icmp .ne 72, 3) := by decide +kernel
theorem dX3_leaves_8 : decode cX3_leaves 8 = .ok (.iconst 0, 1) := by decide +kernel
theorem dX3_leaves_9 : decode cX3_leaves 9 = .ok (.istore_n 1, 1) := by decide +kernel
theorem dX3_leaves_10 : decode cX3_leaves 10 = .ok (.iload_n 1, 1) := by decide +kernel
theorem dX3_leaves_11 : decode cX3_leaves 11 = .ok (.bipush 27, 2) := by decide +kernel
theorem dX3_leaves_13 : decode cX3_leaves 13 = .ok (.if_icmp .ge 24, 3) := by decide +kernel
theorem dX3_leaves_16 : decode cX3_leaves 16 = .ok (.aload_n 0, 1) := by decide +kernel
theorem dX3_leaves_17 : decode cX3_leaves 17 = .ok (.getfield 20, 3) := by decide +kernel
theorem dX3_leaves_20 : decode cX3_leaves 20 = .ok (.iload_n 1, 1) := by decide +kernel
theorem dX3_leaves_21 : decode cX3_leaves 21 = .ok (.aload_n 0, 1) := by decide +kernel
theorem dX3_leaves_22 : decode cX3_leaves 22 = .ok (.getfield 20, 3) := by decide +kernel
theorem dX3_leaves_25 : decode cX3_leaves 25 = .ok (.iload_n 1, 1) := by decide +kernel
theorem dX3_leaves_26 : decode cX3_leaves 26 = .ok (.bipush 9, 2) := by decide +kernel
theorem dX3_leaves_28 : decode cX3_leaves 28 = .ok (.iadd, 1) := by decide +kernel
theorem dX3_leaves_29 : decode cX3_leaves 29 = .ok (.iaload, 1) := by decide +kernel
theorem dX3_leaves_30 : decode cX3_leaves 30 = .ok (.iastore, 1) := by decide +kernel
theorem dX3_leaves_31 : decode cX3_leaves 31 = .ok (.iinc 1 1, 3) := by decide +kernel
theorem dX3_leaves_34 : decode cX3_leaves 34 = .ok (.goto (-24), 3) := by decide +kernel
theorem dX3_leaves_37 : decode cX3_leaves 37 = .ok (.iconst 0, 1) := by decide +kernel
theorem dX3_leaves_38 : decode cX3_leaves 38 = .ok (.istore_n 1, 1) := by decide +kernel
theorem dX3_leaves_39 : decode cX3_leaves 39 = .ok (.iload_n 1, 1) := by decide +kernel
theorem dX3_leaves_40 : decode cX3_leaves 40 = .ok (.sipush 135, 3) := by decide +kernel
theorem dX3_leaves_43 : decode cX3_leaves 43 = .ok (.if_icmp .ge 24, 3) := by decide +kernel
theorem dX3_leaves_46 : decode cX3_leaves 46 = .ok (.aload_n 0, 1) := by decide +kernel
theorem dX3_leaves_47 : decode cX3_leaves 47 = .ok (.getfield 23, 3) := by decide +kernel
theorem dX3_leaves_50 : decode cX3_leaves 50 = .ok (.iload_n 1, 1) := by decide +kernel
theorem dX3_leaves_51 : decode cX3_leaves 51 = .ok (.aload_n 0, 1) := by decide +kernel
theorem dX3_leaves_52 : decode cX3_leaves 52 = .ok (.getfield 23, 3) := by decide +kernel
theorem dX3_leaves_55 : decode cX3_leaves 55 = .ok (.iload_n 1, 1) := by decide +kernel
theorem dX3_leaves_56 : decode cX3_leaves 56 = .ok (.bipush 45, 2) := by decide +kernel
theorem dX3_leaves_58 : decode cX3_leaves 58 = .ok (.iadd, 1) := by decide +kernel
theorem dX3_leaves_59 : decode cX3_leaves 59 = .ok (.daload, 1) := by decide +kernel
theorem dX3_leaves_60 : decode cX3_leaves 60 = .ok (.dastore, 1) := by decide +kernel
theorem dX3_leaves_61 : decode cX3_leaves 61 = .ok (.iinc 1 1, 3) := by decide +kernel
theorem dX3_leaves_64 : decode cX3_leaves 64 = .ok (.goto (-25), 3) := by decide +kernel
theorem dX3_leaves_67 : decode cX3_leaves 67 = .ok (.aload_n 0, 1) := by decide +kernel
theorem dX3_leaves_68 : decode cX3_leaves 68 = .ok (.dup, 1) := by decide +kernel
theorem dX3_leaves_69 : decode cX3_leaves 69 = .ok (.getfield 49, 3) := by decide +kernel
theorem dX3_leaves_72 : decode cX3_leaves 72 = .ok (.iconst 1, 1) := by decide +kernel
theorem dX3_leaves_73 : decode cX3_leaves 73 = .ok (.isub, 1) := by decide +kernel
theorem dX3_leaves_74 : decode cX3_leaves 74 = .ok (.putfield 49, 3) := by decide +kernel
theorem dX3_leaves_77 : decode cX3_leaves 77 = .ok (.iconst 0, 1) := by decide +kernel
theorem dX3_leaves_78 : decode cX3_leaves 78 = .ok (.istore_n 1, 1) := by decide +kernel
theorem dX3_leaves_79 : decode cX3_leaves 79 = .ok (.iload_n 1, 1) := by decide +kernel
theorem dX3_leaves_80 : decode cX3_leaves 80 = .ok (.bipush 9, 2) := by decide +kernel
theorem dX3_leaves_82 : decode cX3_leaves 82 = .ok (.if_icmp .ge 29, 3) := by decide +kernel
theorem dX3_leaves_85 : decode cX3_leaves 85 = .ok (.aload_n 0, 1) := by decide +kernel
theorem dX3_leaves_86 : decode cX3_leaves 86 = .ok (.getfield 20, 3) := by decide +kernel
theorem dX3_leaves_89 : decode cX3_leaves 89 = .ok (.bipush 9, 2) := by decide +kernel
theorem dX3_leaves_91 : decode cX3_leaves 91 = .ok (.aload_n 0, 1) := by decide +kernel
theorem dX3_leaves_92 : decode cX3_leaves 92 = .ok (.getfield 49, 3) := by decide +kernel
theorem dX3_leaves_95 : decode cX3_leaves 95 = .ok (.imul, 1) := by decide +kernel
theorem dX3_leaves_96 : decode cX3_leaves 96 = .ok (.iload_n 1, 1) := by decide +kernel
theorem dX3_leaves_97 : decode cX3_leaves 97 = .ok (.iadd, 1) := by decide +kernel
theorem dX3_leaves_98 : decode cX3_leaves 98 = .ok (.aload_n 0, 1) := by decide +kernel
theorem dX3_leaves_99 : decode cX3_leaves 99 = .ok (.getfield 7, 3) := by decide +kernel
theorem dX3_leaves_102 : decode cX3_leaves 102 = .ok (.iload_n 1, 1) := by decide +kernel
theorem dX3_leaves_103 : decode cX3_leaves 103 = .ok (.iaload, 1) := by decide +kernel
theorem dX3_leaves_104 : decode cX3_leaves 104 = .ok (.iastore, 1) := by decide +kernel
theorem dX3_leaves_105 : decode cX3_leaves 105 = .ok (.iinc 1 1, 3) := by decide +kernel
theorem dX3_leaves_108 : decode cX3_leaves 108 = .ok (.goto (-29), 3) := by decide +kernel
theorem dX3_leaves_111 : decode cX3_leaves 111 = .ok (.iconst 0, 1) := by decide +kernel
theorem dX3_leaves_112 : decode cX3_leaves 112 = .ok (.istore_n 1, 1) := by decide +kernel
theorem dX3_leaves_113 : decode cX3_leaves 113 = .ok (.iload_n 1, 1) := by decide +kernel
theorem dX3_leaves_114 : decode cX3_leaves 114 = .ok (.bipush 45, 2) := by decide +kernel
theorem dX3_leaves_116 : decode cX3_leaves 116 = .ok (.if_icmp .ge 29, 3) := by decide +kernel
theorem dX3_leaves_119 : decode cX3_leaves 119 = .ok (.aload_n 0, 1) := by decide +kernel
theorem dX3_leaves_120 : decode cX3_leaves 120 = .ok (.getfield 23, 3) := by decide +kernel
theorem dX3_leaves_123 : decode cX3_leaves 123 = .ok (.bipush 45, 2) := by decide +kernel
theorem dX3_leaves_125 : decode cX3_leaves 125 = .ok (.aload_n 0, 1) := by decide +kernel
theorem dX3_leaves_126 : decode cX3_leaves 126 = .ok (.getfield 49, 3) := by decide +kernel
theorem dX3_leaves_129 : decode cX3_leaves 129 = .ok (.imul, 1) := by decide +kernel
theorem dX3_leaves_130 : decode cX3_leaves 130 = .ok (.iload_n 1, 1) := by decide +kernel
theorem dX3_leaves_131 : decode cX3_leaves 131 = .ok (.iadd, 1) := by decide +kernel
theorem dX3_leaves_132 : decode cX3_leaves 132 = .ok (.aload_n 0, 1) := by decide +kernel
theorem dX3_leaves_133 : decode cX3_leaves 133 = .ok (.getfield 13, 3) := by decide +kernel
theorem dX3_leaves_136 : decode cX3_leaves 136 = .ok (.iload_n 1, 1) := by decide +kernel
theorem dX3_leaves_137 : decode cX3_leaves 137 = .ok (.daload, 1) := by decide +kernel
theorem dX3_leaves_138 : decode cX3_leaves 138 = .ok (.dastore, 1) := by decide +kernel
theorem dX3_leaves_139 : decode cX3_leaves 139 = .ok (.iinc 1 1, 3) := by decide +kernel
theorem dX3_leaves_142 : decode cX3_leaves 142 = .ok (.goto (-29), 3) := by decide +kernel
theorem dX3_leaves_145 : decode cX3_leaves 145 = .ok (.aload_n 0, 1) := by decide +kernel
theorem dX3_leaves_146 : decode cX3_leaves 146 = .ok (.dup, 1) := by decide +kernel
theorem dX3_leaves_147 : decode cX3_leaves 147 = .ok (.getfield 49, 3) := by decide +kernel
theorem dX3_leaves_150 : decode cX3_leaves 150 = .ok (.iconst 1, 1) := by decide +kernel
theorem dX3_leaves_151 : decode cX3_leaves 151 = .ok (.iadd, 1) := by decide +kernel
theorem dX3_leaves_152 : decode cX3_leaves 152 = .ok (.putfield 49, 3) := by decide +kernel
theorem dX3_leaves_155 : decode cX3_leaves 155 = .ok (.return_, 1) := by decide +kernel
theorem dX3_becomesPast_0 : decode cX3_becomesPast 0 = .ok (.iconst 0, 1) := by decide +kernel
theorem dX3_becomesPast_1 : decode cX3_becomesPast 1 = .ok (.istore_n 2, 1) := by decide +kernel
theorem dX3_becomesPast_2 : decode cX3_becomesPast 2 = .ok (.iload_n 2, 1) := by decide +kernel
theorem dX3_becomesPast_3 : decode cX3_becomesPast 3 = .ok (.bipush 9, 2) := by decide +kernel
theorem dX3_becomesPast_5 : decode cX3_becomesPast 5 = .ok (.if_icmp .ge 26, 3) := by decide +kernel
theorem dX3_becomesPast_8 : decode cX3_becomesPast 8 = .ok (.aload_n 0, 1) := by decide +kernel
theorem dX3_becomesPast_9 : decode cX3_becomesPast 9 = .ok (.getfield 7, 3) := by decide +kernel
theorem dX3_becomesPast_12 : decode cX3_becomesPast 12 = .ok (.iload_n 2, 1) := by decide +kernel
theorem dX3_becomesPast_13 : decode cX3_becomesPast 13 = .ok (.aload_n 0, 1) := by decide +kernel
theorem dX3_becomesPast_14 : decode cX3_becomesPast 14 = .ok (.getfield 20, 3) := by decide +kernel
theorem dX3_becomesPast_17 : decode cX3_becomesPast 17 = .ok (.bipush 9, 2) := by decide +kernel
theorem dX3_becomesPast_19 : decode cX3_becomesPast 19 = .ok (.iload_n 1, 1) := by decide +kernel
theorem dX3_becomesPast_20 : decode cX3_becomesPast 20 = .ok (.imul, 1) := by decide +kernel
theorem dX3_becomesPast_21 : decode cX3_becomesPast 21 = .ok (.iload_n 2, 1) := by decide +kernel
theorem dX3_becomesPast_22 : decode cX3_becomesPast 22 = .ok (.iadd, 1) := by decide +kernel
theorem dX3_becomesPast_23 : decode cX3_becomesPast 23 = .ok (.iaload, 1) := by decide +kernel
theorem dX3_becomesPast_24 : decode cX3_becomesPast 24 = .ok (.iastore, 1) := by decide +kernel
theorem dX3_becomesPast_25 : decode cX3_becomesPast 25 = .ok (.iinc 2 1, 3) := by decide +kernel
theorem dX3_becomesPast_28 : decode cX3_becomesPast 28 = .ok (.goto (-26), 3) := by decide +kernel
theorem dX3_becomesPast_31 : decode cX3_becomesPast 31 = .ok (.iconst 0, 1) := by decide +kernel
theorem dX3_becomesPast_32 : decode cX3_becomesPast 32 = .ok (.istore_n 2, 1) := by decide +kernel
theorem dX3_becomesPast_33 : decode cX3_becomesPast 33 = .ok (.iload_n 2, 1) := by decide +kernel
theorem dX3_becomesPast_34 : decode cX3_becomesPast 34 = .ok (.bipush 45, 2) := by decide +kernel
theorem dX3_becomesPast_36 : decode cX3_becomesPast 36 = .ok (.if_icmp .ge 26, 3) := by decide +kernel
theorem dX3_becomesPast_39 : decode cX3_becomesPast 39 = .ok (.aload_n 0, 1) := by decide +kernel
theorem dX3_becomesPast_40 : decode cX3_becomesPast 40 = .ok (.getfield 13, 3) := by decide +kernel
theorem dX3_becomesPast_43 : decode cX3_becomesPast 43 = .ok (.iload_n 2, 1) := by decide +kernel
theorem dX3_becomesPast_44 : decode cX3_becomesPast 44 = .ok (.aload_n 0, 1) := by decide +kernel
theorem dX3_becomesPast_45 : decode cX3_becomesPast 45 = .ok (.getfield 23, 3) := by decide +kernel
theorem dX3_becomesPast_48 : decode cX3_becomesPast 48 = .ok (.bipush 45, 2) := by decide +kernel
theorem dX3_becomesPast_50 : decode cX3_becomesPast 50 = .ok (.iload_n 1, 1) := by decide +kernel
theorem dX3_becomesPast_51 : decode cX3_becomesPast 51 = .ok (.imul, 1) := by decide +kernel
theorem dX3_becomesPast_52 : decode cX3_becomesPast 52 = .ok (.iload_n 2, 1) := by decide +kernel
theorem dX3_becomesPast_53 : decode cX3_becomesPast 53 = .ok (.iadd, 1) := by decide +kernel
theorem dX3_becomesPast_54 : decode cX3_becomesPast 54 = .ok (.daload, 1) := by decide +kernel
theorem dX3_becomesPast_55 : decode cX3_becomesPast 55 = .ok (.dastore, 1) := by decide +kernel
theorem dX3_becomesPast_56 : decode cX3_becomesPast 56 = .ok (.iinc 2 1, 3) := by decide +kernel
theorem dX3_becomesPast_59 : decode cX3_becomesPast 59 = .ok (.goto (-26), 3) := by decide +kernel
theorem dX3_becomesPast_62 : decode cX3_becomesPast 62 = .ok (.return_, 1) := by decide +kernel
theorem dX3_back_0 : decode cX3_back 0 = .ok (.aload_n 0, 1) := by decide +kernel
theorem dX3_back_1 : decode cX3_back 1 = .ok (.getfield 49, 3) := by decide +kernel
theorem dX3_back_4 : decode cX3_back 4 = .ok (.ifCond .ne 10, 3) := by decide +kernel
theorem dX3_back_7 : decode cX3_back 7 = .ok (.aload_n 0, 1) := by decide +kernel
theorem dX3_back_8 : decode cX3_back 8 = .ok (.bipush (-3), 2) := by decide +kernel
theorem dX3_back_10 : decode cX3_back 10 = .ok (.invokevirtual 53, 3) := by decide +kernel
theorem dX3_back_13 : decode cX3_back 13 = .ok (.ireturn, 1) := by decide +kernel
theorem dX3_back_14 : decode cX3_back 14 = .ok (.aload_n 0, 1) := by decide +kernel
theorem dX3_back_15 : decode cX3_back 15 = .ok (.dup, 1) := by decide +kernel
theorem dX3_back_16 : decode cX3_back 16 = .ok (.getfield 49, 3) := by decide +kernel
theorem dX3_back_19 : decode cX3_back 19 = .ok (.iconst 1, 1) := by decide +kernel
theorem dX3_back_20 : decode cX3_back 20 = .ok (.isub, 1) := by decide +kernel
theorem dX3_back_21 : decode cX3_back 21 = .ok (.putfield 49, 3) := by decide +kernel
theorem dX3_back_24 : decode cX3_back 24 = .ok (.aload_n 0, 1) := by decide +kernel
theorem dX3_back_25 : decode cX3_back 25 = .ok (.aload_n 0, 1) := by decide +kernel
theorem dX3_back_26 : decode cX3_back 26 = .ok (.getfield 49, 3) := by decide +kernel
theorem dX3_back_29 : decode cX3_back 29 = .ok (.invokevirtual 57, 3) := by decide +kernel
theorem dX3_back_32 : decode cX3_back 32 = .ok (.aload_n 0, 1) := by decide +kernel
theorem dX3_back_33 : decode cX3_back 33 = .ok (.getfield 49, 3) := by decide +kernel
theorem dX3_back_36 : decode cX3_back 36 = .ok (.ireturn, 1) := by decide +kernel
theorem dX3_laysAside_0 : decode cX3_laysAside 0 = .ok (.iconst 0, 1) := by decide +kernel
theorem dX3_laysAside_1 : decode cX3_laysAside 1 = .ok (.istore_n 1, 1) := by decide +kernel
theorem dX3_laysAside_2 : decode cX3_laysAside 2 = .ok (.iload_n 1, 1) := by decide +kernel
theorem dX3_laysAside_3 : decode cX3_laysAside 3 = .ok (.bipush 9, 2) := by decide +kernel
theorem dX3_laysAside_5 : decode cX3_laysAside 5 = .ok (.if_icmp .ge 21, 3) := by decide +kernel
theorem dX3_laysAside_8 : decode cX3_laysAside 8 = .ok (.aload_n 0, 1) := by decide +kernel
theorem dX3_laysAside_9 : decode cX3_laysAside 9 = .ok (.getfield 26, 3) := by decide +kernel
theorem dX3_laysAside_12 : decode cX3_laysAside 12 = .ok (.iload_n 1, 1) := by decide +kernel
theorem dX3_laysAside_13 : decode cX3_laysAside 13 = .ok (.aload_n 0, 1) := by decide +kernel
theorem dX3_laysAside_14 : decode cX3_laysAside 14 = .ok (.getfield 7, 3) := by decide +kernel
theorem dX3_laysAside_17 : decode cX3_laysAside 17 = .ok (.iload_n 1, 1) := by decide +kernel
theorem dX3_laysAside_18 : decode cX3_laysAside 18 = .ok (.iaload, 1) := by decide +kernel
theorem dX3_laysAside_19 : decode cX3_laysAside 19 = .ok (.iastore, 1) := by decide +kernel
theorem dX3_laysAside_20 : decode cX3_laysAside 20 = .ok (.iinc 1 1, 3) := by decide +kernel
theorem dX3_laysAside_23 : decode cX3_laysAside 23 = .ok (.goto (-21), 3) := by decide +kernel
theorem dX3_laysAside_26 : decode cX3_laysAside 26 = .ok (.iconst 0, 1) := by decide +kernel
theorem dX3_laysAside_27 : decode cX3_laysAside 27 = .ok (.istore_n 1, 1) := by decide +kernel
theorem dX3_laysAside_28 : decode cX3_laysAside 28 = .ok (.iload_n 1, 1) := by decide +kernel
theorem dX3_laysAside_29 : decode cX3_laysAside 29 = .ok (.bipush 45, 2) := by decide +kernel
theorem dX3_laysAside_31 : decode cX3_laysAside 31 = .ok (.if_icmp .ge 21, 3) := by decide +kernel
theorem dX3_laysAside_34 : decode cX3_laysAside 34 = .ok (.aload_n 0, 1) := by decide +kernel
theorem dX3_laysAside_35 : decode cX3_laysAside 35 = .ok (.getfield 29, 3) := by decide +kernel
theorem dX3_laysAside_38 : decode cX3_laysAside 38 = .ok (.iload_n 1, 1) := by decide +kernel
theorem dX3_laysAside_39 : decode cX3_laysAside 39 = .ok (.aload_n 0, 1) := by decide +kernel
theorem dX3_laysAside_40 : decode cX3_laysAside 40 = .ok (.getfield 13, 3) := by decide +kernel
theorem dX3_laysAside_43 : decode cX3_laysAside 43 = .ok (.iload_n 1, 1) := by decide +kernel
theorem dX3_laysAside_44 : decode cX3_laysAside 44 = .ok (.daload, 1) := by decide +kernel
theorem dX3_laysAside_45 : decode cX3_laysAside 45 = .ok (.dastore, 1) := by decide +kernel
theorem dX3_laysAside_46 : decode cX3_laysAside 46 = .ok (.iinc 1 1, 3) := by decide +kernel
theorem dX3_laysAside_49 : decode cX3_laysAside 49 = .ok (.goto (-21), 3) := by decide +kernel
theorem dX3_laysAside_52 : decode cX3_laysAside 52 = .ok (.return_, 1) := by decide +kernel
theorem dX3_becomesAside_0 : decode cX3_becomesAside 0 = .ok (.iconst 0, 1) := by decide +kernel
theorem dX3_becomesAside_1 : decode cX3_becomesAside 1 = .ok (.istore_n 1, 1) := by decide +kernel
theorem dX3_becomesAside_2 : decode cX3_becomesAside 2 = .ok (.iload_n 1, 1) := by decide +kernel
theorem dX3_becomesAside_3 : decode cX3_becomesAside 3 = .ok (.bipush 9, 2) := by decide +kernel
theorem dX3_becomesAside_5 : decode cX3_becomesAside 5 = .ok (.if_icmp .ge 21, 3) := by decide +kernel
theorem dX3_becomesAside_8 : decode cX3_becomesAside 8 = .ok (.aload_n 0, 1) := by decide +kernel
theorem dX3_becomesAside_9 : decode cX3_becomesAside 9 = .ok (.getfield 7, 3) := by decide +kernel
theorem dX3_becomesAside_12 : decode cX3_becomesAside 12 = .ok (.iload_n 1, 1) := by decide +kernel
theorem dX3_becomesAside_13 : decode cX3_becomesAside 13 = .ok (.aload_n 0, 1) := by decide +kernel
theorem dX3_becomesAside_14 : decode cX3_becomesAside 14 = .ok (.getfield 26, 3) := by decide +kernel
theorem dX3_becomesAside_17 : decode cX3_becomesAside 17 = .ok (.iload_n 1, 1) := by decide +kernel
theorem dX3_becomesAside_18 : decode cX3_becomesAside 18 = .ok (.iaload, 1) := by decide +kernel
theorem dX3_becomesAside_19 : decode cX3_becomesAside 19 = .ok (.iastore, 1) := by decide +kernel
theorem dX3_becomesAside_20 : decode cX3_becomesAside 20 = .ok (.iinc 1 1, 3) := by decide +kernel
theorem dX3_becomesAside_23 : decode cX3_becomesAside 23 = .ok (.goto (-21), 3) := by decide +kernel
theorem dX3_becomesAside_26 : decode cX3_becomesAside 26 = .ok (.iconst 0, 1) := by decide +kernel
theorem dX3_becomesAside_27 : decode cX3_becomesAside 27 = .ok (.istore_n 1, 1) := by decide +kernel
theorem dX3_becomesAside_28 : decode cX3_becomesAside 28 = .ok (.iload_n 1, 1) := by decide +kernel
theorem dX3_becomesAside_29 : decode cX3_becomesAside 29 = .ok (.bipush 45, 2) := by decide +kernel
theorem dX3_becomesAside_31 : decode cX3_becomesAside 31 = .ok (.if_icmp .ge 21, 3) := by decide +kernel
theorem dX3_becomesAside_34 : decode cX3_becomesAside 34 = .ok (.aload_n 0, 1) := by decide +kernel
theorem dX3_becomesAside_35 : decode cX3_becomesAside 35 = .ok (.getfield 13, 3) := by decide +kernel
theorem dX3_becomesAside_38 : decode cX3_becomesAside 38 = .ok (.iload_n 1, 1) := by decide +kernel
theorem dX3_becomesAside_39 : decode cX3_becomesAside 39 = .ok (.aload_n 0, 1) := by decide +kernel
theorem dX3_becomesAside_40 : decode cX3_becomesAside 40 = .ok (.getfield 29, 3) := by decide +kernel
theorem dX3_becomesAside_43 : decode cX3_becomesAside 43 = .ok (.iload_n 1, 1) := by decide +kernel
theorem dX3_becomesAside_44 : decode cX3_becomesAside 44 = .ok (.daload, 1) := by decide +kernel
theorem dX3_becomesAside_45 : decode cX3_becomesAside 45 = .ok (.dastore, 1) := by decide +kernel
theorem dX3_becomesAside_46 : decode cX3_becomesAside 46 = .ok (.iinc 1 1, 3) := by decide +kernel
theorem dX3_becomesAside_49 : decode cX3_becomesAside 49 = .ok (.goto (-21), 3) := by decide +kernel
theorem dX3_becomesAside_52 : decode cX3_becomesAside 52 = .ok (.return_, 1) := by decide +kernel
theorem dX3_laysSteady_0 : decode cX3_laysSteady 0 = .ok (.aload_n 0, 1) := by decide +kernel
theorem dX3_laysSteady_1 : decode cX3_laysSteady 1 = .ok (.getfield 7, 3) := by decide +kernel
theorem dX3_laysSteady_4 : decode cX3_laysSteady 4 = .ok (.iconst 1, 1) := by decide +kernel
theorem dX3_laysSteady_5 : decode cX3_laysSteady 5 = .ok (.iaload, 1) := by decide +kernel
theorem dX3_laysSteady_6 : decode cX3_laysSteady 6 = .ok (.i2d, 1) := by decide +kernel
theorem dX3_laysSteady_7 : decode cX3_laysSteady 7 = .ok (.dstore_n 1, 1) := by decide +kernel
theorem dX3_laysSteady_8 : decode cX3_laysSteady 8 = .ok (.aload_n 0, 1) := by decide +kernel
theorem dX3_laysSteady_9 : decode cX3_laysSteady 9 = .ok (.getfield 7, 3) := by decide +kernel
theorem dX3_laysSteady_12 : decode cX3_laysSteady 12 = .ok (.iconst 2, 1) := by decide +kernel
theorem dX3_laysSteady_13 : decode cX3_laysSteady 13 = .ok (.iaload, 1) := by decide +kernel
theorem dX3_laysSteady_14 : decode cX3_laysSteady 14 = .ok (.i2d, 1) := by decide +kernel
theorem dX3_laysSteady_15 : decode cX3_laysSteady 15 = .ok (.dstore_n 3, 1) := by decide +kernel
theorem dX3_laysSteady_16 : decode cX3_laysSteady 16 = .ok (.iconst 0, 1) := by decide +kernel
theorem dX3_laysSteady_17 : decode cX3_laysSteady 17 = .ok (.istore 5, 2) := by decide +kernel
theorem dX3_laysSteady_19 : decode cX3_laysSteady 19 = .ok (.iload 5, 2) := by decide +kernel
theorem dX3_laysSteady_21 : decode cX3_laysSteady 21 = .ok (.aload_n 0, 1) := by decide +kernel
theorem dX3_laysSteady_22 : decode cX3_laysSteady 22 = .ok (.getfield 7, 3) := by decide +kernel
theorem dX3_laysSteady_25 : decode cX3_laysSteady 25 = .ok (.iconst 0, 1) := by decide +kernel
theorem dX3_laysSteady_26 : decode cX3_laysSteady 26 = .ok (.iaload, 1) := by decide +kernel
theorem dX3_laysSteady_27 : decode cX3_laysSteady 27 = .ok (.if_icmp .gt 96, 3) := by decide +kernel
theorem dX3_laysSteady_30 : decode cX3_laysSteady 30 = .ok (.aload_n 0, 1) := by decide +kernel
theorem dX3_laysSteady_31 : decode cX3_laysSteady 31 = .ok (.getfield 13, 3) := by decide +kernel
theorem dX3_laysSteady_34 : decode cX3_laysSteady 34 = .ok (.iload 5, 2) := by decide +kernel
theorem dX3_laysSteady_36 : decode cX3_laysSteady 36 = .ok (.dload_n 1, 1) := by decide +kernel
theorem dX3_laysSteady_37 : decode cX3_laysSteady 37 = .ok (.dload_n 3, 1) := by decide +kernel
theorem dX3_laysSteady_38 : decode cX3_laysSteady 38 = .ok (.dadd, 1) := by decide +kernel
theorem dX3_laysSteady_39 : decode cX3_laysSteady 39 = .ok (.ldc2_w 61, 3) := by decide +kernel
theorem dX3_laysSteady_42 : decode cX3_laysSteady 42 = .ok (.ddiv, 1) := by decide +kernel
theorem dX3_laysSteady_43 : decode cX3_laysSteady 43 = .ok (.dastore, 1) := by decide +kernel
theorem dX3_laysSteady_44 : decode cX3_laysSteady 44 = .ok (.aload_n 0, 1) := by decide +kernel
theorem dX3_laysSteady_45 : decode cX3_laysSteady 45 = .ok (.getfield 13, 3) := by decide +kernel
theorem dX3_laysSteady_48 : decode cX3_laysSteady 48 = .ok (.bipush 11, 2) := by decide +kernel
theorem dX3_laysSteady_50 : decode cX3_laysSteady 50 = .ok (.iload 5, 2) := by decide +kernel
theorem dX3_laysSteady_52 : decode cX3_laysSteady 52 = .ok (.iadd, 1) := by decide +kernel
theorem dX3_laysSteady_53 : decode cX3_laysSteady 53 = .ok (.dload_n 1, 1) := by decide +kernel
theorem dX3_laysSteady_54 : decode cX3_laysSteady 54 = .ok (.dload_n 3, 1) := by decide +kernel
theorem dX3_laysSteady_55 : decode cX3_laysSteady 55 = .ok (.dsub, 1) := by decide +kernel
theorem dX3_laysSteady_56 : decode cX3_laysSteady 56 = .ok (.ldc2_w 61, 3) := by decide +kernel
theorem dX3_laysSteady_59 : decode cX3_laysSteady 59 = .ok (.ddiv, 1) := by decide +kernel
theorem dX3_laysSteady_60 : decode cX3_laysSteady 60 = .ok (.dastore, 1) := by decide +kernel
theorem dX3_laysSteady_61 : decode cX3_laysSteady 61 = .ok (.aload_n 0, 1) := by decide +kernel
theorem dX3_laysSteady_62 : decode cX3_laysSteady 62 = .ok (.getfield 13, 3) := by decide +kernel
theorem dX3_laysSteady_65 : decode cX3_laysSteady 65 = .ok (.bipush 22, 2) := by decide +kernel
theorem dX3_laysSteady_67 : decode cX3_laysSteady 67 = .ok (.iload 5, 2) := by decide +kernel
theorem dX3_laysSteady_69 : decode cX3_laysSteady 69 = .ok (.iadd, 1) := by decide +kernel
theorem dX3_laysSteady_70 : decode cX3_laysSteady 70 = .ok (.aload_n 0, 1) := by decide +kernel
theorem dX3_laysSteady_71 : decode cX3_laysSteady 71 = .ok (.getfield 13, 3) := by decide +kernel
theorem dX3_laysSteady_74 : decode cX3_laysSteady 74 = .ok (.iload 5, 2) := by decide +kernel
theorem dX3_laysSteady_76 : decode cX3_laysSteady 76 = .ok (.daload, 1) := by decide +kernel
theorem dX3_laysSteady_77 : decode cX3_laysSteady 77 = .ok (.aload_n 0, 1) := by decide +kernel
theorem dX3_laysSteady_78 : decode cX3_laysSteady 78 = .ok (.getfield 13, 3) := by decide +kernel
theorem dX3_laysSteady_81 : decode cX3_laysSteady 81 = .ok (.bipush 11, 2) := by decide +kernel
theorem dX3_laysSteady_83 : decode cX3_laysSteady 83 = .ok (.iload 5, 2) := by decide +kernel
theorem dX3_laysSteady_85 : decode cX3_laysSteady 85 = .ok (.iadd, 1) := by decide +kernel
theorem dX3_laysSteady_86 : decode cX3_laysSteady 86 = .ok (.daload, 1) := by decide +kernel
theorem dX3_laysSteady_87 : decode cX3_laysSteady 87 = .ok (.dadd, 1) := by decide +kernel
theorem dX3_laysSteady_88 : decode cX3_laysSteady 88 = .ok (.dastore, 1) := by decide +kernel
theorem dX3_laysSteady_89 : decode cX3_laysSteady 89 = .ok (.aload_n 0, 1) := by decide +kernel
theorem dX3_laysSteady_90 : decode cX3_laysSteady 90 = .ok (.getfield 13, 3) := by decide +kernel
theorem dX3_laysSteady_93 : decode cX3_laysSteady 93 = .ok (.bipush 33, 2) := by decide +kernel
theorem dX3_laysSteady_95 : decode cX3_laysSteady 95 = .ok (.iload 5, 2) := by decide +kernel
theorem dX3_laysSteady_97 : decode cX3_laysSteady 97 = .ok (.iadd, 1) := by decide +kernel
theorem dX3_laysSteady_98 : decode cX3_laysSteady 98 = .ok (.aload_n 0, 1) := by decide +kernel
theorem dX3_laysSteady_99 : decode cX3_laysSteady 99 = .ok (.getfield 13, 3) := by decide +kernel
theorem dX3_laysSteady_102 : decode cX3_laysSteady 102 = .ok (.iload 5, 2) := by decide +kernel
theorem dX3_laysSteady_104 : decode cX3_laysSteady 104 = .ok (.daload, 1) := by decide +kernel
theorem dX3_laysSteady_105 : decode cX3_laysSteady 105 = .ok (.aload_n 0, 1) := by decide +kernel
theorem dX3_laysSteady_106 : decode cX3_laysSteady 106 = .ok (.getfield 13, 3) := by decide +kernel
theorem dX3_laysSteady_109 : decode cX3_laysSteady 109 = .ok (.bipush 11, 2) := by decide +kernel
theorem dX3_laysSteady_111 : decode cX3_laysSteady 111 = .ok (.iload 5, 2) := by decide +kernel
theorem dX3_laysSteady_113 : decode cX3_laysSteady 113 = .ok (.iadd, 1) := by decide +kernel
theorem dX3_laysSteady_114 : decode cX3_laysSteady 114 = .ok (.daload, 1) := by decide +kernel
theorem dX3_laysSteady_115 : decode cX3_laysSteady 115 = .ok (.dadd, 1) := by decide +kernel
theorem dX3_laysSteady_116 : decode cX3_laysSteady 116 = .ok (.dastore, 1) := by decide +kernel
theorem dX3_laysSteady_117 : decode cX3_laysSteady 117 = .ok (.iinc 5 1, 3) := by decide +kernel
theorem dX3_laysSteady_120 : decode cX3_laysSteady 120 = .ok (.goto (-101), 3) := by decide +kernel
theorem dX3_laysSteady_123 : decode cX3_laysSteady 123 = .ok (.aload_n 0, 1) := by decide +kernel
theorem dX3_laysSteady_124 : decode cX3_laysSteady 124 = .ok (.getfield 13, 3) := by decide +kernel
theorem dX3_laysSteady_127 : decode cX3_laysSteady 127 = .ok (.bipush 44, 2) := by decide +kernel
theorem dX3_laysSteady_129 : decode cX3_laysSteady 129 = .ok (.dload_n 1, 1) := by decide +kernel
theorem dX3_laysSteady_130 : decode cX3_laysSteady 130 = .ok (.dastore, 1) := by decide +kernel
theorem dX3_laysSteady_131 : decode cX3_laysSteady 131 = .ok (.aload_n 0, 1) := by decide +kernel
theorem dX3_laysSteady_132 : decode cX3_laysSteady 132 = .ok (.getfield 7, 3) := by decide +kernel
theorem dX3_laysSteady_135 : decode cX3_laysSteady 135 = .ok (.bipush 8, 2) := by decide +kernel
theorem dX3_laysSteady_137 : decode cX3_laysSteady 137 = .ok (.iconst 0, 1) := by decide +kernel
theorem dX3_laysSteady_138 : decode cX3_laysSteady 138 = .ok (.iastore, 1) := by decide +kernel
theorem dX3_laysSteady_139 : decode cX3_laysSteady 139 = .ok (.return_, 1) := by decide +kernel
theorem dX3_let_0 : decode cX3_let 0 = .ok (.aload_n 0, 1) := by decide +kernel
theorem dX3_let_1 : decode cX3_let 1 = .ok (.getfield 7, 3) := by decide +kernel
theorem dX3_let_4 : decode cX3_let 4 = .ok (.iconst 2, 1) := by decide +kernel
theorem dX3_let_5 : decode cX3_let 5 = .ok (.iaload, 1) := by decide +kernel
theorem dX3_let_6 : decode cX3_let 6 = .ok (.i2d, 1) := by decide +kernel
theorem dX3_let_7 : decode cX3_let 7 = .ok (.dstore 4, 2) := by decide +kernel
theorem dX3_let_9 : decode cX3_let 9 = .ok (.iload_n 3, 1) := by decide +kernel
theorem dX3_let_10 : decode cX3_let 10 = .ok (.i2d, 1) := by decide +kernel
theorem dX3_let_11 : decode cX3_let 11 = .ok (.dstore 6, 2) := by decide +kernel
theorem dX3_let_13 : decode cX3_let 13 = .ok (.iload_n 2, 1) := by decide +kernel
theorem dX3_let_14 : decode cX3_let 14 = .ok (.i2d, 1) := by decide +kernel
theorem dX3_let_15 : decode cX3_let 15 = .ok (.dstore 8, 2) := by decide +kernel
theorem dX3_let_17 : decode cX3_let 17 = .ok (.iload_n 1, 1) := by decide +kernel
theorem dX3_let_18 : decode cX3_let 18 = .ok (.tableswitch 116 0 4 #[34, 37, 49, 70, 100], 34) := by decide +kernel
theorem dX3_let_52 : decode cX3_let 52 = .ok (.dload 4, 2) := by decide +kernel
theorem dX3_let_54 : decode cX3_let 54 = .ok (.dreturn, 1) := by decide +kernel
theorem dX3_let_55 : decode cX3_let 55 = .ok (.iload_n 3, 1) := by decide +kernel
theorem dX3_let_56 : decode cX3_let 56 = .ok (.iload_n 2, 1) := by decide +kernel
theorem dX3_let_57 : decode cX3_let 57 = .ok (.if_icmp .ge 8, 3) := by decide +kernel
theorem dX3_let_60 : decode cX3_let 60 = .ok (.dload 4, 2) := by decide +kernel
theorem dX3_let_62 : decode cX3_let 62 = .ok (.goto 4, 3) := by decide +kernel
theorem dX3_let_65 : decode cX3_let 65 = .ok (.dconst 0, 1) := by decide +kernel
theorem dX3_let_66 : decode cX3_let 66 = .ok (.dreturn, 1) := by decide +kernel
theorem dX3_let_67 : decode cX3_let 67 = .ok (.iload_n 3, 1) := by decide +kernel
theorem dX3_let_68 : decode cX3_let 68 = .ok (.iload_n 2, 1) := by decide +kernel
theorem dX3_let_69 : decode cX3_let 69 = .ok (.if_icmp .ge 17, 3) := by decide +kernel
theorem dX3_let_72 : decode cX3_let 72 = .ok (.dload 4, 2) := by decide +kernel
theorem dX3_let_74 : decode cX3_let 74 = .ok (.dload 8, 2) := by decide +kernel
theorem dX3_let_76 : decode cX3_let 76 = .ok (.dload 6, 2) := by decide +kernel
theorem dX3_let_78 : decode cX3_let 78 = .ok (.dsub, 1) := by decide +kernel
theorem dX3_let_79 : decode cX3_let 79 = .ok (.dmul, 1) := by decide +kernel
theorem dX3_let_80 : decode cX3_let 80 = .ok (.dload 8, 2) := by decide +kernel
theorem dX3_let_82 : decode cX3_let 82 = .ok (.ddiv, 1) := by decide +kernel
theorem dX3_let_83 : decode cX3_let 83 = .ok (.goto 4, 3) := by decide +kernel
theorem dX3_let_86 : decode cX3_let 86 = .ok (.dconst 0, 1) := by decide +kernel
theorem dX3_let_87 : decode cX3_let 87 = .ok (.dreturn, 1) := by decide +kernel
theorem dX3_let_88 : decode cX3_let 88 = .ok (.iload_n 3, 1) := by decide +kernel
theorem dX3_let_89 : decode cX3_let 89 = .ok (.iload_n 2, 1) := by decide +kernel
theorem dX3_let_90 : decode cX3_let 90 = .ok (.if_icmp .ge 26, 3) := by decide +kernel
theorem dX3_let_93 : decode cX3_let 93 = .ok (.dload 4, 2) := by decide +kernel
theorem dX3_let_95 : decode cX3_let 95 = .ok (.dload 8, 2) := by decide +kernel
theorem dX3_let_97 : decode cX3_let 97 = .ok (.dload 8, 2) := by decide +kernel
theorem dX3_let_99 : decode cX3_let 99 = .ok (.dmul, 1) := by decide +kernel
theorem dX3_let_100 : decode cX3_let 100 = .ok (.dload 6, 2) := by decide +kernel
theorem dX3_let_102 : decode cX3_let 102 = .ok (.dload 6, 2) := by decide +kernel
theorem dX3_let_104 : decode cX3_let 104 = .ok (.dmul, 1) := by decide +kernel
theorem dX3_let_105 : decode cX3_let 105 = .ok (.dsub, 1) := by decide +kernel
theorem dX3_let_106 : decode cX3_let 106 = .ok (.dmul, 1) := by decide +kernel
theorem dX3_let_107 : decode cX3_let 107 = .ok (.dload 8, 2) := by decide +kernel
theorem dX3_let_109 : decode cX3_let 109 = .ok (.dload 8, 2) := by decide +kernel
theorem dX3_let_111 : decode cX3_let 111 = .ok (.dmul, 1) := by decide +kernel
theorem dX3_let_112 : decode cX3_let 112 = .ok (.ddiv, 1) := by decide +kernel
theorem dX3_let_113 : decode cX3_let 113 = .ok (.goto 4, 3) := by decide +kernel
theorem dX3_let_116 : decode cX3_let 116 = .ok (.dconst 0, 1) := by decide +kernel
theorem dX3_let_117 : decode cX3_let 117 = .ok (.dreturn, 1) := by decide +kernel
theorem dX3_let_118 : decode cX3_let 118 = .ok (.iload_n 3, 1) := by decide +kernel
theorem dX3_let_119 : decode cX3_let 119 = .ok (.iload_n 2, 1) := by decide +kernel
theorem dX3_let_120 : decode cX3_let 120 = .ok (.if_icmp .ge 12, 3) := by decide +kernel
theorem dX3_let_123 : decode cX3_let 123 = .ok (.dload 4, 2) := by decide +kernel
theorem dX3_let_125 : decode cX3_let 125 = .ok (.ldc2_w 61, 3) := by decide +kernel
theorem dX3_let_128 : decode cX3_let 128 = .ok (.ddiv, 1) := by decide +kernel
theorem dX3_let_129 : decode cX3_let 129 = .ok (.goto 4, 3) := by decide +kernel
theorem dX3_let_132 : decode cX3_let 132 = .ok (.dconst 0, 1) := by decide +kernel
theorem dX3_let_133 : decode cX3_let 133 = .ok (.dreturn, 1) := by decide +kernel
theorem dX3_let_134 : decode cX3_let 134 = .ok (.iload_n 3, 1) := by decide +kernel
theorem dX3_let_135 : decode cX3_let 135 = .ok (.iload_n 2, 1) := by decide +kernel
theorem dX3_let_136 : decode cX3_let 136 = .ok (.idiv, 1) := by decide +kernel
theorem dX3_let_137 : decode cX3_let 137 = .ok (.iconst 2, 1) := by decide +kernel
theorem dX3_let_138 : decode cX3_let 138 = .ok (.irem, 1) := by decide +kernel
theorem dX3_let_139 : decode cX3_let 139 = .ok (.ifCond .ne 8, 3) := by decide +kernel
theorem dX3_let_142 : decode cX3_let 142 = .ok (.dload 4, 2) := by decide +kernel
theorem dX3_let_144 : decode cX3_let 144 = .ok (.goto 9, 3) := by decide +kernel
theorem dX3_let_147 : decode cX3_let 147 = .ok (.dload 4, 2) := by decide +kernel
theorem dX3_let_149 : decode cX3_let 149 = .ok (.ldc2_w 61, 3) := by decide +kernel
theorem dX3_let_152 : decode cX3_let 152 = .ok (.ddiv, 1) := by decide +kernel
theorem dX3_let_153 : decode cX3_let 153 = .ok (.dreturn, 1) := by decide +kernel
theorem dX3_laysEnds_0 : decode cX3_laysEnds 0 = .ok (.aload_n 0, 1) := by decide +kernel
theorem dX3_laysEnds_1 : decode cX3_laysEnds 1 = .ok (.getfield 7, 3) := by decide +kernel
theorem dX3_laysEnds_4 : decode cX3_laysEnds 4 = .ok (.iconst 0, 1) := by decide +kernel
theorem dX3_laysEnds_5 : decode cX3_laysEnds 5 = .ok (.iaload, 1) := by decide +kernel
theorem dX3_laysEnds_6 : decode cX3_laysEnds 6 = .ok (.istore_n 1, 1) := by decide +kernel
theorem dX3_laysEnds_7 : decode cX3_laysEnds 7 = .ok (.aload_n 0, 1) := by decide +kernel
theorem dX3_laysEnds_8 : decode cX3_laysEnds 8 = .ok (.getfield 7, 3) := by decide +kernel
theorem dX3_laysEnds_11 : decode cX3_laysEnds 11 = .ok (.iconst 1, 1) := by decide +kernel
theorem dX3_laysEnds_12 : decode cX3_laysEnds 12 = .ok (.iaload, 1) := by decide +kernel
theorem dX3_laysEnds_13 : decode cX3_laysEnds 13 = .ok (.i2d, 1) := by decide +kernel
theorem dX3_laysEnds_14 : decode cX3_laysEnds 14 = .ok (.dstore_n 2, 1) := by decide +kernel
theorem dX3_laysEnds_15 : decode cX3_laysEnds 15 = .ok (.aload_n 0, 1) := by decide +kernel
theorem dX3_laysEnds_16 : decode cX3_laysEnds 16 = .ok (.getfield 13, 3) := by decide +kernel
theorem dX3_laysEnds_19 : decode cX3_laysEnds 19 = .ok (.iconst 0, 1) := by decide +kernel
theorem dX3_laysEnds_20 : decode cX3_laysEnds 20 = .ok (.aload_n 0, 1) := by decide +kernel
theorem dX3_laysEnds_21 : decode cX3_laysEnds 21 = .ok (.getfield 7, 3) := by decide +kernel
theorem dX3_laysEnds_24 : decode cX3_laysEnds 24 = .ok (.iconst 4, 1) := by decide +kernel
theorem dX3_laysEnds_25 : decode cX3_laysEnds 25 = .ok (.iaload, 1) := by decide +kernel
theorem dX3_laysEnds_26 : decode cX3_laysEnds 26 = .ok (.ifCond .ne 15, 3) := by decide +kernel
theorem dX3_laysEnds_29 : decode cX3_laysEnds 29 = .ok (.dload_n 2, 1) := by decide +kernel
theorem dX3_laysEnds_30 : decode cX3_laysEnds 30 = .ok (.aload_n 0, 1) := by decide +kernel
theorem dX3_laysEnds_31 : decode cX3_laysEnds 31 = .ok (.getfield 13, 3) := by decide +kernel
theorem dX3_laysEnds_34 : decode cX3_laysEnds 34 = .ok (.bipush 11, 2) := by decide +kernel
theorem dX3_laysEnds_36 : decode cX3_laysEnds 36 = .ok (.daload, 1) := by decide +kernel
theorem dX3_laysEnds_37 : decode cX3_laysEnds 37 = .ok (.dsub, 1) := by decide +kernel
theorem dX3_laysEnds_38 : decode cX3_laysEnds 38 = .ok (.goto 10, 3) := by decide +kernel
theorem dX3_laysEnds_41 : decode cX3_laysEnds 41 = .ok (.aload_n 0, 1) := by decide +kernel
theorem dX3_laysEnds_42 : decode cX3_laysEnds 42 = .ok (.getfield 13, 3) := by decide +kernel
theorem dX3_laysEnds_45 : decode cX3_laysEnds 45 = .ok (.bipush 11, 2) := by decide +kernel
theorem dX3_laysEnds_47 : decode cX3_laysEnds 47 = .ok (.daload, 1) := by decide +kernel
theorem dX3_laysEnds_48 : decode cX3_laysEnds 48 = .ok (.dastore, 1) := by decide +kernel
theorem dX3_laysEnds_49 : decode cX3_laysEnds 49 = .ok (.aload_n 0, 1) := by decide +kernel
theorem dX3_laysEnds_50 : decode cX3_laysEnds 50 = .ok (.getfield 7, 3) := by decide +kernel
theorem dX3_laysEnds_53 : decode cX3_laysEnds 53 = .ok (.iconst 5, 1) := by decide +kernel
theorem dX3_laysEnds_54 : decode cX3_laysEnds 54 = .ok (.iaload, 1) := by decide +kernel
theorem dX3_laysEnds_55 : decode cX3_laysEnds 55 = .ok (.tableswitch 107 0 2 #[25, 69, 89], 25) := by decide +kernel
theorem dX3_laysEnds_80 : decode cX3_laysEnds 80 = .ok (.aload_n 0, 1) := by decide +kernel
theorem dX3_laysEnds_81 : decode cX3_laysEnds 81 = .ok (.getfield 13, 3) := by decide +kernel
theorem dX3_laysEnds_84 : decode cX3_laysEnds 84 = .ok (.bipush 11, 2) := by decide +kernel
theorem dX3_laysEnds_86 : decode cX3_laysEnds 86 = .ok (.iload_n 1, 1) := by decide +kernel
theorem dX3_laysEnds_87 : decode cX3_laysEnds 87 = .ok (.iadd, 1) := by decide +kernel
theorem dX3_laysEnds_88 : decode cX3_laysEnds 88 = .ok (.aload_n 0, 1) := by decide +kernel
theorem dX3_laysEnds_89 : decode cX3_laysEnds 89 = .ok (.getfield 13, 3) := by decide +kernel
theorem dX3_laysEnds_92 : decode cX3_laysEnds 92 = .ok (.iload_n 1, 1) := by decide +kernel
theorem dX3_laysEnds_93 : decode cX3_laysEnds 93 = .ok (.daload, 1) := by decide +kernel
theorem dX3_laysEnds_94 : decode cX3_laysEnds 94 = .ok (.aload_n 0, 1) := by decide +kernel
theorem dX3_laysEnds_95 : decode cX3_laysEnds 95 = .ok (.aload_n 0, 1) := by decide +kernel
theorem dX3_laysEnds_96 : decode cX3_laysEnds 96 = .ok (.getfield 7, 3) := by decide +kernel
theorem dX3_laysEnds_99 : decode cX3_laysEnds 99 = .ok (.bipush 6, 2) := by decide +kernel
theorem dX3_laysEnds_101 : decode cX3_laysEnds 101 = .ok (.iaload, 1) := by decide +kernel
theorem dX3_laysEnds_102 : decode cX3_laysEnds 102 = .ok (.aload_n 0, 1) := by decide +kernel
theorem dX3_laysEnds_103 : decode cX3_laysEnds 103 = .ok (.getfield 7, 3) := by decide +kernel
theorem dX3_laysEnds_106 : decode cX3_laysEnds 106 = .ok (.bipush 7, 2) := by decide +kernel
theorem dX3_laysEnds_108 : decode cX3_laysEnds 108 = .ok (.iaload, 1) := by decide +kernel
theorem dX3_laysEnds_109 : decode cX3_laysEnds 109 = .ok (.aload_n 0, 1) := by decide +kernel
theorem dX3_laysEnds_110 : decode cX3_laysEnds 110 = .ok (.getfield 7, 3) := by decide +kernel
theorem dX3_laysEnds_113 : decode cX3_laysEnds 113 = .ok (.bipush 8, 2) := by decide +kernel
theorem dX3_laysEnds_115 : decode cX3_laysEnds 115 = .ok (.iaload, 1) := by decide +kernel
theorem dX3_laysEnds_116 : decode cX3_laysEnds 116 = .ok (.invokevirtual 63, 3) := by decide +kernel
theorem dX3_laysEnds_119 : decode cX3_laysEnds 119 = .ok (.dsub, 1) := by decide +kernel
theorem dX3_laysEnds_120 : decode cX3_laysEnds 120 = .ok (.dastore, 1) := by decide +kernel
theorem dX3_laysEnds_121 : decode cX3_laysEnds 121 = .ok (.goto 137, 3) := by decide +kernel
theorem dX3_laysEnds_124 : decode cX3_laysEnds 124 = .ok (.aload_n 0, 1) := by decide +kernel
theorem dX3_laysEnds_125 : decode cX3_laysEnds 125 = .ok (.getfield 13, 3) := by decide +kernel
theorem dX3_laysEnds_128 : decode cX3_laysEnds 128 = .ok (.bipush 11, 2) := by decide +kernel
theorem dX3_laysEnds_130 : decode cX3_laysEnds 130 = .ok (.iload_n 1, 1) := by decide +kernel
theorem dX3_laysEnds_131 : decode cX3_laysEnds 131 = .ok (.iadd, 1) := by decide +kernel
theorem dX3_laysEnds_132 : decode cX3_laysEnds 132 = .ok (.dload_n 2, 1) := by decide +kernel
theorem dX3_laysEnds_133 : decode cX3_laysEnds 133 = .ok (.aload_n 0, 1) := by decide +kernel
theorem dX3_laysEnds_134 : decode cX3_laysEnds 134 = .ok (.getfield 13, 3) := by decide +kernel
theorem dX3_laysEnds_137 : decode cX3_laysEnds 137 = .ok (.iload_n 1, 1) := by decide +kernel
theorem dX3_laysEnds_138 : decode cX3_laysEnds 138 = .ok (.daload, 1) := by decide +kernel
theorem dX3_laysEnds_139 : decode cX3_laysEnds 139 = .ok (.dsub, 1) := by decide +kernel
theorem dX3_laysEnds_140 : decode cX3_laysEnds 140 = .ok (.dastore, 1) := by decide +kernel
theorem dX3_laysEnds_141 : decode cX3_laysEnds 141 = .ok (.goto 117, 3) := by decide +kernel
theorem dX3_laysEnds_144 : decode cX3_laysEnds 144 = .ok (.aload_n 0, 1) := by decide +kernel
theorem dX3_laysEnds_145 : decode cX3_laysEnds 145 = .ok (.getfield 13, 3) := by decide +kernel
theorem dX3_laysEnds_148 : decode cX3_laysEnds 148 = .ok (.bipush 11, 2) := by decide +kernel
theorem dX3_laysEnds_150 : decode cX3_laysEnds 150 = .ok (.iload_n 1, 1) := by decide +kernel
theorem dX3_laysEnds_151 : decode cX3_laysEnds 151 = .ok (.iadd, 1) := by decide +kernel
theorem dX3_laysEnds_152 : decode cX3_laysEnds 152 = .ok (.aload_n 0, 1) := by decide +kernel
theorem dX3_laysEnds_153 : decode cX3_laysEnds 153 = .ok (.getfield 13, 3) := by decide +kernel
theorem dX3_laysEnds_156 : decode cX3_laysEnds 156 = .ok (.iload_n 1, 1) := by decide +kernel
theorem dX3_laysEnds_157 : decode cX3_laysEnds 157 = .ok (.daload, 1) := by decide +kernel
theorem dX3_laysEnds_158 : decode cX3_laysEnds 158 = .ok (.dastore, 1) := by decide +kernel
theorem dX3_laysEnds_159 : decode cX3_laysEnds 159 = .ok (.goto 99, 3) := by decide +kernel
theorem dX3_laysEnds_162 : decode cX3_laysEnds 162 = .ok (.aload_n 0, 1) := by decide +kernel
theorem dX3_laysEnds_163 : decode cX3_laysEnds 163 = .ok (.getfield 13, 3) := by decide +kernel
theorem dX3_laysEnds_166 : decode cX3_laysEnds 166 = .ok (.bipush 11, 2) := by decide +kernel
theorem dX3_laysEnds_168 : decode cX3_laysEnds 168 = .ok (.iload_n 1, 1) := by decide +kernel
theorem dX3_laysEnds_169 : decode cX3_laysEnds 169 = .ok (.iadd, 1) := by decide +kernel
theorem dX3_laysEnds_170 : decode cX3_laysEnds 170 = .ok (.aload_n 0, 1) := by decide +kernel
theorem dX3_laysEnds_171 : decode cX3_laysEnds 171 = .ok (.getfield 13, 3) := by decide +kernel
theorem dX3_laysEnds_174 : decode cX3_laysEnds 174 = .ok (.bipush 44, 2) := by decide +kernel
theorem dX3_laysEnds_176 : decode cX3_laysEnds 176 = .ok (.daload, 1) := by decide +kernel
theorem dX3_laysEnds_177 : decode cX3_laysEnds 177 = .ok (.aload_n 0, 1) := by decide +kernel
theorem dX3_laysEnds_178 : decode cX3_laysEnds 178 = .ok (.getfield 13, 3) := by decide +kernel
theorem dX3_laysEnds_181 : decode cX3_laysEnds 181 = .ok (.iload_n 1, 1) := by decide +kernel
theorem dX3_laysEnds_182 : decode cX3_laysEnds 182 = .ok (.daload, 1) := by decide +kernel
theorem dX3_laysEnds_183 : decode cX3_laysEnds 183 = .ok (.dsub, 1) := by decide +kernel
theorem dX3_laysEnds_184 : decode cX3_laysEnds 184 = .ok (.dastore, 1) := by decide +kernel
theorem dX3_laysEnds_185 : decode cX3_laysEnds 185 = .ok (.aload_n 0, 1) := by decide +kernel
theorem dX3_laysEnds_186 : decode cX3_laysEnds 186 = .ok (.getfield 13, 3) := by decide +kernel
theorem dX3_laysEnds_189 : decode cX3_laysEnds 189 = .ok (.bipush 44, 2) := by decide +kernel
theorem dX3_laysEnds_191 : decode cX3_laysEnds 191 = .ok (.daload, 1) := by decide +kernel
theorem dX3_laysEnds_192 : decode cX3_laysEnds 192 = .ok (.aload_n 0, 1) := by decide +kernel
theorem dX3_laysEnds_193 : decode cX3_laysEnds 193 = .ok (.getfield 13, 3) := by decide +kernel
theorem dX3_laysEnds_196 : decode cX3_laysEnds 196 = .ok (.iload_n 1, 1) := by decide +kernel
theorem dX3_laysEnds_197 : decode cX3_laysEnds 197 = .ok (.daload, 1) := by decide +kernel
theorem dX3_laysEnds_198 : decode cX3_laysEnds 198 = .ok (.aload_n 0, 1) := by decide +kernel
theorem dX3_laysEnds_199 : decode cX3_laysEnds 199 = .ok (.getfield 13, 3) := by decide +kernel
theorem dX3_laysEnds_202 : decode cX3_laysEnds 202 = .ok (.bipush 11, 2) := by decide +kernel
theorem dX3_laysEnds_204 : decode cX3_laysEnds 204 = .ok (.iload_n 1, 1) := by decide +kernel
theorem dX3_laysEnds_205 : decode cX3_laysEnds 205 = .ok (.iadd, 1) := by decide +kernel
theorem dX3_laysEnds_206 : decode cX3_laysEnds 206 = .ok (.daload, 1) := by decide +kernel
theorem dX3_laysEnds_207 : decode cX3_laysEnds 207 = .ok (.dsub, 1) := by decide +kernel
theorem dX3_laysEnds_208 : decode cX3_laysEnds 208 = .ok (.aload_n 0, 1) := by decide +kernel
theorem dX3_laysEnds_209 : decode cX3_laysEnds 209 = .ok (.getfield 7, 3) := by decide +kernel
theorem dX3_laysEnds_212 : decode cX3_laysEnds 212 = .ok (.iconst 3, 1) := by decide +kernel
theorem dX3_laysEnds_213 : decode cX3_laysEnds 213 = .ok (.iaload, 1) := by decide +kernel
theorem dX3_laysEnds_214 : decode cX3_laysEnds 214 = .ok (.i2d, 1) := by decide +kernel
theorem dX3_laysEnds_215 : decode cX3_laysEnds 215 = .ok (.ddiv, 1) := by decide +kernel
theorem dX3_laysEnds_216 : decode cX3_laysEnds 216 = .ok (.dadd, 1) := by decide +kernel
theorem dX3_laysEnds_217 : decode cX3_laysEnds 217 = .ok (.dstore 4, 2) := by decide +kernel
theorem dX3_laysEnds_219 : decode cX3_laysEnds 219 = .ok (.aload_n 0, 1) := by decide +kernel
theorem dX3_laysEnds_220 : decode cX3_laysEnds 220 = .ok (.getfield 13, 3) := by decide +kernel
theorem dX3_laysEnds_223 : decode cX3_laysEnds 223 = .ok (.bipush 44, 2) := by decide +kernel
theorem dX3_laysEnds_225 : decode cX3_laysEnds 225 = .ok (.dload 4, 2) := by decide +kernel
theorem dX3_laysEnds_227 : decode cX3_laysEnds 227 = .ok (.ldc2_w 67, 3) := by decide +kernel
theorem dX3_laysEnds_230 : decode cX3_laysEnds 230 = .ok (.dcmp .l, 1) := by decide +kernel
theorem dX3_laysEnds_231 : decode cX3_laysEnds 231 = .ok (.ifCond .le 9, 3) := by decide +kernel
theorem dX3_laysEnds_234 : decode cX3_laysEnds 234 = .ok (.ldc2_w 67, 3) := by decide +kernel
theorem dX3_laysEnds_237 : decode cX3_laysEnds 237 = .ok (.goto 20, 3) := by decide +kernel
theorem dX3_laysEnds_240 : decode cX3_laysEnds 240 = .ok (.dload 4, 2) := by decide +kernel
theorem dX3_laysEnds_242 : decode cX3_laysEnds 242 = .ok (.ldc2_w 69, 3) := by decide +kernel
theorem dX3_laysEnds_245 : decode cX3_laysEnds 245 = .ok (.dcmp .g, 1) := by decide +kernel
theorem dX3_laysEnds_246 : decode cX3_laysEnds 246 = .ok (.ifCond .ge 9, 3) := by decide +kernel
theorem dX3_laysEnds_249 : decode cX3_laysEnds 249 = .ok (.ldc2_w 69, 3) := by decide +kernel
theorem dX3_laysEnds_252 : decode cX3_laysEnds 252 = .ok (.goto 5, 3) := by decide +kernel
theorem dX3_laysEnds_255 : decode cX3_laysEnds 255 = .ok (.dload 4, 2) := by decide +kernel
theorem dX3_laysEnds_257 : decode cX3_laysEnds 257 = .ok (.dastore, 1) := by decide +kernel
theorem dX3_laysEnds_258 : decode cX3_laysEnds 258 = .ok (.return_, 1) := by decide +kernel
theorem dX3_goesOn_0 : decode cX3_goesOn 0 = .ok (.aload_n 0, 1) := by decide +kernel
theorem dX3_goesOn_1 : decode cX3_goesOn 1 = .ok (.getfield 7, 3) := by decide +kernel
theorem dX3_goesOn_4 : decode cX3_goesOn 4 = .ok (.iconst 0, 1) := by decide +kernel
theorem dX3_goesOn_5 : decode cX3_goesOn 5 = .ok (.iaload, 1) := by decide +kernel
theorem dX3_goesOn_6 : decode cX3_goesOn 6 = .ok (.istore_n 1, 1) := by decide +kernel
theorem dX3_goesOn_7 : decode cX3_goesOn 7 = .ok (.aload_n 0, 1) := by decide +kernel
theorem dX3_goesOn_8 : decode cX3_goesOn 8 = .ok (.getfield 7, 3) := by decide +kernel
theorem dX3_goesOn_11 : decode cX3_goesOn 11 = .ok (.bipush 8, 2) := by decide +kernel
theorem dX3_goesOn_13 : decode cX3_goesOn 13 = .ok (.dup2, 1) := by decide +kernel
theorem dX3_goesOn_14 : decode cX3_goesOn 14 = .ok (.iaload, 1) := by decide +kernel
theorem dX3_goesOn_15 : decode cX3_goesOn 15 = .ok (.iconst 1, 1) := by decide +kernel
theorem dX3_goesOn_16 : decode cX3_goesOn 16 = .ok (.iadd, 1) := by decide +kernel
theorem dX3_goesOn_17 : decode cX3_goesOn 17 = .ok (.iastore, 1) := by decide +kernel
theorem dX3_goesOn_18 : decode cX3_goesOn 18 = .ok (.iconst 0, 1) := by decide +kernel
theorem dX3_goesOn_19 : decode cX3_goesOn 19 = .ok (.istore_n 2, 1) := by decide +kernel
theorem dX3_goesOn_20 : decode cX3_goesOn 20 = .ok (.iload_n 2, 1) := by decide +kernel
theorem dX3_goesOn_21 : decode cX3_goesOn 21 = .ok (.bipush 22, 2) := by decide +kernel
theorem dX3_goesOn_23 : decode cX3_goesOn 23 = .ok (.if_icmp .ge 21, 3) := by decide +kernel
theorem dX3_goesOn_26 : decode cX3_goesOn 26 = .ok (.aload_n 0, 1) := by decide +kernel
theorem dX3_goesOn_27 : decode cX3_goesOn 27 = .ok (.getfield 17, 3) := by decide +kernel
theorem dX3_goesOn_30 : decode cX3_goesOn 30 = .ok (.iload_n 2, 1) := by decide +kernel
theorem dX3_goesOn_31 : decode cX3_goesOn 31 = .ok (.aload_n 0, 1) := by decide +kernel
theorem dX3_goesOn_32 : decode cX3_goesOn 32 = .ok (.getfield 13, 3) := by decide +kernel
theorem dX3_goesOn_35 : decode cX3_goesOn 35 = .ok (.iload_n 2, 1) := by decide +kernel
theorem dX3_goesOn_36 : decode cX3_goesOn 36 = .ok (.daload, 1) := by decide +kernel
theorem dX3_goesOn_37 : decode cX3_goesOn 37 = .ok (.dastore, 1) := by decide +kernel
theorem dX3_goesOn_38 : decode cX3_goesOn 38 = .ok (.iinc 2 1, 3) := by decide +kernel
theorem dX3_goesOn_41 : decode cX3_goesOn 41 = .ok (.goto (-21), 3) := by decide +kernel
theorem dX3_goesOn_44 : decode cX3_goesOn 44 = .ok (.iconst 0, 1) := by decide +kernel
theorem dX3_goesOn_45 : decode cX3_goesOn 45 = .ok (.istore_n 2, 1) := by decide +kernel
theorem dX3_goesOn_46 : decode cX3_goesOn 46 = .ok (.iload_n 2, 1) := by decide +kernel
theorem dX3_goesOn_47 : decode cX3_goesOn 47 = .ok (.iload_n 1, 1) := by decide +kernel
theorem dX3_goesOn_48 : decode cX3_goesOn 48 = .ok (.if_icmp .ge 43, 3) := by decide +kernel
theorem dX3_goesOn_51 : decode cX3_goesOn 51 = .ok (.aload_n 0, 1) := by decide +kernel
theorem dX3_goesOn_52 : decode cX3_goesOn 52 = .ok (.getfield 13, 3) := by decide +kernel
theorem dX3_goesOn_55 : decode cX3_goesOn 55 = .ok (.iload_n 2, 1) := by decide +kernel
theorem dX3_goesOn_56 : decode cX3_goesOn 56 = .ok (.iconst 1, 1) := by decide +kernel
theorem dX3_goesOn_57 : decode cX3_goesOn 57 = .ok (.iadd, 1) := by decide +kernel
theorem dX3_goesOn_58 : decode cX3_goesOn 58 = .ok (.aload_n 0, 1) := by decide +kernel
theorem dX3_goesOn_59 : decode cX3_goesOn 59 = .ok (.getfield 17, 3) := by decide +kernel
theorem dX3_goesOn_62 : decode cX3_goesOn 62 = .ok (.iload_n 2, 1) := by decide +kernel
theorem dX3_goesOn_63 : decode cX3_goesOn 63 = .ok (.daload, 1) := by decide +kernel
theorem dX3_goesOn_64 : decode cX3_goesOn 64 = .ok (.dastore, 1) := by decide +kernel
theorem dX3_goesOn_65 : decode cX3_goesOn 65 = .ok (.aload_n 0, 1) := by decide +kernel
theorem dX3_goesOn_66 : decode cX3_goesOn 66 = .ok (.getfield 13, 3) := by decide +kernel
theorem dX3_goesOn_69 : decode cX3_goesOn 69 = .ok (.bipush 11, 2) := by decide +kernel
theorem dX3_goesOn_71 : decode cX3_goesOn 71 = .ok (.iload_n 2, 1) := by decide +kernel
theorem dX3_goesOn_72 : decode cX3_goesOn 72 = .ok (.iadd, 1) := by decide +kernel
theorem dX3_goesOn_73 : decode cX3_goesOn 73 = .ok (.aload_n 0, 1) := by decide +kernel
theorem dX3_goesOn_74 : decode cX3_goesOn 74 = .ok (.getfield 17, 3) := by decide +kernel
theorem dX3_goesOn_77 : decode cX3_goesOn 77 = .ok (.bipush 11, 2) := by decide +kernel
theorem dX3_goesOn_79 : decode cX3_goesOn 79 = .ok (.iload_n 2, 1) := by decide +kernel
theorem dX3_goesOn_80 : decode cX3_goesOn 80 = .ok (.iadd, 1) := by decide +kernel
theorem dX3_goesOn_81 : decode cX3_goesOn 81 = .ok (.iconst 1, 1) := by decide +kernel
theorem dX3_goesOn_82 : decode cX3_goesOn 82 = .ok (.iadd, 1) := by decide +kernel
theorem dX3_goesOn_83 : decode cX3_goesOn 83 = .ok (.daload, 1) := by decide +kernel
theorem dX3_goesOn_84 : decode cX3_goesOn 84 = .ok (.dastore, 1) := by decide +kernel
theorem dX3_goesOn_85 : decode cX3_goesOn 85 = .ok (.iinc 2 1, 3) := by decide +kernel
theorem dX3_goesOn_88 : decode cX3_goesOn 88 = .ok (.goto (-42), 3) := by decide +kernel
theorem dX3_goesOn_91 : decode cX3_goesOn 91 = .ok (.aload_n 0, 1) := by decide +kernel
theorem dX3_goesOn_92 : decode cX3_goesOn 92 = .ok (.invokevirtual 71, 3) := by decide +kernel
theorem dX3_goesOn_95 : decode cX3_goesOn 95 = .ok (.iconst 0, 1) := by decide +kernel
theorem dX3_goesOn_96 : decode cX3_goesOn 96 = .ok (.istore_n 2, 1) := by decide +kernel
theorem dX3_goesOn_97 : decode cX3_goesOn 97 = .ok (.iload_n 2, 1) := by decide +kernel
theorem dX3_goesOn_98 : decode cX3_goesOn 98 = .ok (.iload_n 1, 1) := by decide +kernel
theorem dX3_goesOn_99 : decode cX3_goesOn 99 = .ok (.if_icmp .gt 98, 3) := by decide +kernel
theorem dX3_goesOn_102 : decode cX3_goesOn 102 = .ok (.aload_n 0, 1) := by decide +kernel
theorem dX3_goesOn_103 : decode cX3_goesOn 103 = .ok (.getfield 13, 3) := by decide +kernel
theorem dX3_goesOn_106 : decode cX3_goesOn 106 = .ok (.iload_n 2, 1) := by decide +kernel
theorem dX3_goesOn_107 : decode cX3_goesOn 107 = .ok (.daload, 1) := by decide +kernel
theorem dX3_goesOn_108 : decode cX3_goesOn 108 = .ok (.aload_n 0, 1) := by decide +kernel
theorem dX3_goesOn_109 : decode cX3_goesOn 109 = .ok (.getfield 13, 3) := by decide +kernel
theorem dX3_goesOn_112 : decode cX3_goesOn 112 = .ok (.bipush 11, 2) := by decide +kernel
theorem dX3_goesOn_114 : decode cX3_goesOn 114 = .ok (.iload_n 2, 1) := by decide +kernel
theorem dX3_goesOn_115 : decode cX3_goesOn 115 = .ok (.iadd, 1) := by decide +kernel
theorem dX3_goesOn_116 : decode cX3_goesOn 116 = .ok (.daload, 1) := by decide +kernel
theorem dX3_goesOn_117 : decode cX3_goesOn 117 = .ok (.dadd, 1) := by decide +kernel
theorem dX3_goesOn_118 : decode cX3_goesOn 118 = .ok (.dstore_n 3, 1) := by decide +kernel
theorem dX3_goesOn_119 : decode cX3_goesOn 119 = .ok (.aload_n 0, 1) := by decide +kernel
theorem dX3_goesOn_120 : decode cX3_goesOn 120 = .ok (.getfield 13, 3) := by decide +kernel
theorem dX3_goesOn_123 : decode cX3_goesOn 123 = .ok (.bipush 22, 2) := by decide +kernel
theorem dX3_goesOn_125 : decode cX3_goesOn 125 = .ok (.iload_n 2, 1) := by decide +kernel
theorem dX3_goesOn_126 : decode cX3_goesOn 126 = .ok (.iadd, 1) := by decide +kernel
theorem dX3_goesOn_127 : decode cX3_goesOn 127 = .ok (.dload_n 3, 1) := by decide +kernel
theorem dX3_goesOn_128 : decode cX3_goesOn 128 = .ok (.aload_n 0, 1) := by decide +kernel
theorem dX3_goesOn_129 : decode cX3_goesOn 129 = .ok (.getfield 13, 3) := by decide +kernel
theorem dX3_goesOn_132 : decode cX3_goesOn 132 = .ok (.bipush 22, 2) := by decide +kernel
theorem dX3_goesOn_134 : decode cX3_goesOn 134 = .ok (.iload_n 2, 1) := by decide +kernel
theorem dX3_goesOn_135 : decode cX3_goesOn 135 = .ok (.iadd, 1) := by decide +kernel
theorem dX3_goesOn_136 : decode cX3_goesOn 136 = .ok (.daload, 1) := by decide +kernel
theorem dX3_goesOn_137 : decode cX3_goesOn 137 = .ok (.dcmp .l, 1) := by decide +kernel
theorem dX3_goesOn_138 : decode cX3_goesOn 138 = .ok (.ifCond .le 7, 3) := by decide +kernel
theorem dX3_goesOn_141 : decode cX3_goesOn 141 = .ok (.dload_n 3, 1) := by decide +kernel
theorem dX3_goesOn_142 : decode cX3_goesOn 142 = .ok (.goto 12, 3) := by decide +kernel
theorem dX3_goesOn_145 : decode cX3_goesOn 145 = .ok (.aload_n 0, 1) := by decide +kernel
theorem dX3_goesOn_146 : decode cX3_goesOn 146 = .ok (.getfield 13, 3) := by decide +kernel
theorem dX3_goesOn_149 : decode cX3_goesOn 149 = .ok (.bipush 22, 2) := by decide +kernel
theorem dX3_goesOn_151 : decode cX3_goesOn 151 = .ok (.iload_n 2, 1) := by decide +kernel
theorem dX3_goesOn_152 : decode cX3_goesOn 152 = .ok (.iadd, 1) := by decide +kernel
theorem dX3_goesOn_153 : decode cX3_goesOn 153 = .ok (.daload, 1) := by decide +kernel
theorem dX3_goesOn_154 : decode cX3_goesOn 154 = .ok (.dastore, 1) := by decide +kernel
theorem dX3_goesOn_155 : decode cX3_goesOn 155 = .ok (.aload_n 0, 1) := by decide +kernel
theorem dX3_goesOn_156 : decode cX3_goesOn 156 = .ok (.getfield 13, 3) := by decide +kernel
theorem dX3_goesOn_159 : decode cX3_goesOn 159 = .ok (.bipush 33, 2) := by decide +kernel
theorem dX3_goesOn_161 : decode cX3_goesOn 161 = .ok (.iload_n 2, 1) := by decide +kernel
theorem dX3_goesOn_162 : decode cX3_goesOn 162 = .ok (.iadd, 1) := by decide +kernel
theorem dX3_goesOn_163 : decode cX3_goesOn 163 = .ok (.dload_n 3, 1) := by decide +kernel
theorem dX3_goesOn_164 : decode cX3_goesOn 164 = .ok (.aload_n 0, 1) := by decide +kernel
theorem dX3_goesOn_165 : decode cX3_goesOn 165 = .ok (.getfield 13, 3) := by decide +kernel
theorem dX3_goesOn_168 : decode cX3_goesOn 168 = .ok (.bipush 33, 2) := by decide +kernel
theorem dX3_goesOn_170 : decode cX3_goesOn 170 = .ok (.iload_n 2, 1) := by decide +kernel
theorem dX3_goesOn_171 : decode cX3_goesOn 171 = .ok (.iadd, 1) := by decide +kernel
theorem dX3_goesOn_172 : decode cX3_goesOn 172 = .ok (.daload, 1) := by decide +kernel
theorem dX3_goesOn_173 : decode cX3_goesOn 173 = .ok (.dcmp .g, 1) := by decide +kernel
theorem dX3_goesOn_174 : decode cX3_goesOn 174 = .ok (.ifCond .ge 7, 3) := by decide +kernel
theorem dX3_goesOn_177 : decode cX3_goesOn 177 = .ok (.dload_n 3, 1) := by decide +kernel
theorem dX3_goesOn_178 : decode cX3_goesOn 178 = .ok (.goto 12, 3) := by decide +kernel
theorem dX3_goesOn_181 : decode cX3_goesOn 181 = .ok (.aload_n 0, 1) := by decide +kernel
theorem dX3_goesOn_182 : decode cX3_goesOn 182 = .ok (.getfield 13, 3) := by decide +kernel
theorem dX3_goesOn_185 : decode cX3_goesOn 185 = .ok (.bipush 33, 2) := by decide +kernel
theorem dX3_goesOn_187 : decode cX3_goesOn 187 = .ok (.iload_n 2, 1) := by decide +kernel
theorem dX3_goesOn_188 : decode cX3_goesOn 188 = .ok (.iadd, 1) := by decide +kernel
theorem dX3_goesOn_189 : decode cX3_goesOn 189 = .ok (.daload, 1) := by decide +kernel
theorem dX3_goesOn_190 : decode cX3_goesOn 190 = .ok (.dastore, 1) := by decide +kernel
theorem dX3_goesOn_191 : decode cX3_goesOn 191 = .ok (.iinc 2 1, 3) := by decide +kernel
theorem dX3_goesOn_194 : decode cX3_goesOn 194 = .ok (.goto (-97), 3) := by decide +kernel
theorem dX3_goesOn_197 : decode cX3_goesOn 197 = .ok (.return_, 1) := by decide +kernel
theorem dX3_mayPipe_0 : decode cX3_mayPipe 0 = .ok (.iload_n 1, 1) := by decide +kernel
theorem dX3_mayPipe_1 : decode cX3_mayPipe 1 = .ok (.iconst 1, 1) := by decide +kernel
theorem dX3_mayPipe_2 : decode cX3_mayPipe 2 = .ok (.bipush 10, 2) := by decide +kernel
theorem dX3_mayPipe_4 : decode cX3_mayPipe 4 = .ok (.invokestatic 74, 3) := by decide +kernel
theorem dX3_mayPipe_7 : decode cX3_mayPipe 7 = .ok (.ireturn, 1) := by decide +kernel
