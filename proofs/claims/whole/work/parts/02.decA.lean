theorem dX0_init_0 : decode cX0_init 0 = .ok (.aload_n 0, 1) := by decide +kernel
theorem dX0_init_1 : decode cX0_init 1 = .ok (.invokespecial 3, 3) := by decide +kernel
theorem dX0_init_4 : decode cX0_init 4 = .ok (.aload_n 0, 1) := by decide +kernel
theorem dX0_init_5 : decode cX0_init 5 = .ok (.bipush 60, 2) := by decide +kernel
theorem dX0_init_7 : decode cX0_init 7 = .ok (.newarray .int, 2) := by decide +kernel
theorem dX0_init_9 : decode cX0_init 9 = .ok (.putfield 9, 3) := by decide +kernel
theorem dX0_init_12 : decode cX0_init 12 = .ok (.aload_n 0, 1) := by decide +kernel
theorem dX0_init_13 : decode cX0_init 13 = .ok (.bipush 60, 2) := by decide +kernel
theorem dX0_init_15 : decode cX0_init 15 = .ok (.newarray .int, 2) := by decide +kernel
theorem dX0_init_17 : decode cX0_init 17 = .ok (.putfield 15, 3) := by decide +kernel
theorem dX0_init_20 : decode cX0_init 20 = .ok (.aload_n 0, 1) := by decide +kernel
theorem dX0_init_21 : decode cX0_init 21 = .ok (.bipush 60, 2) := by decide +kernel
theorem dX0_init_23 : decode cX0_init 23 = .ok (.newarray .int, 2) := by decide +kernel
theorem dX0_init_25 : decode cX0_init 25 = .ok (.putfield 18, 3) := by decide +kernel
theorem dX0_init_28 : decode cX0_init 28 = .ok (.aload_n 0, 1) := by decide +kernel
theorem dX0_init_29 : decode cX0_init 29 = .ok (.iconst 0, 1) := by decide +kernel
theorem dX0_init_30 : decode cX0_init 30 = .ok (.putfield 21, 3) := by decide +kernel
theorem dX0_init_33 : decode cX0_init 33 = .ok (.return_, 1) := by decide +kernel
theorem dX0_read_0 : decode cX0_read 0 = .ok (.aload_n 0, 1) := by decide +kernel
theorem dX0_read_1 : decode cX0_read 1 = .ok (.iconst 0, 1) := by decide +kernel
theorem dX0_read_2 : decode cX0_read 2 = .ok (.putfield 25, 3) := by decide +kernel
theorem dX0_read_5 : decode cX0_read 5 = .ok (.iconst 0, 1) := by decide +kernel
theorem dX0_read_6 : decode cX0_read 6 = .ok (.istore_n 2, 1) := by decide +kernel
theorem dX0_read_7 : decode cX0_read 7 = .ok (.iload_n 2, 1) := by decide +kernel
theorem dX0_read_8 : decode cX0_read 8 = .ok (.bipush 60, 2) := by decide +kernel
theorem dX0_read_10 : decode cX0_read 10 = .ok (.if_icmp .ge 48, 3) := by decide +kernel
theorem dX0_read_13 : decode cX0_read 13 = .ok (.aload_n 0, 1) := by decide +kernel
theorem dX0_read_14 : decode cX0_read 14 = .ok (.aload_n 1, 1) := by decide +kernel
theorem dX0_read_15 : decode cX0_read 15 = .ok (.iload_n 2, 1) := by decide +kernel
theorem dX0_read_16 : decode cX0_read 16 = .ok (.invokevirtual 28, 3) := by decide +kernel
theorem dX0_read_19 : decode cX0_read 19 = .ok (.ifCond .ne 8, 3) := by decide +kernel
theorem dX0_read_22 : decode cX0_read 22 = .ok (.aload_n 0, 1) := by decide +kernel
theorem dX0_read_23 : decode cX0_read 23 = .ok (.getfield 25, 3) := by decide +kernel
theorem dX0_read_26 : decode cX0_read 26 = .ok (.ireturn, 1) := by decide +kernel
theorem dX0_read_27 : decode cX0_read 27 = .ok (.aload_n 0, 1) := by decide +kernel
theorem dX0_read_28 : decode cX0_read 28 = .ok (.iload_n 2, 1) := by decide +kernel
theorem dX0_read_29 : decode cX0_read 29 = .ok (.iconst 1, 1) := by decide +kernel
theorem dX0_read_30 : decode cX0_read 30 = .ok (.iadd, 1) := by decide +kernel
theorem dX0_read_31 : decode cX0_read 31 = .ok (.putfield 21, 3) := by decide +kernel
theorem dX0_read_34 : decode cX0_read 34 = .ok (.aload_n 0, 1) := by decide +kernel
theorem dX0_read_35 : decode cX0_read 35 = .ok (.aload_n 1, 1) := by decide +kernel
theorem dX0_read_36 : decode cX0_read 36 = .ok (.invokevirtual 32, 3) := by decide +kernel
theorem dX0_read_39 : decode cX0_read 39 = .ok (.aload_n 0, 1) := by decide +kernel
theorem dX0_read_40 : decode cX0_read 40 = .ok (.getfield 25, 3) := by decide +kernel
theorem dX0_read_43 : decode cX0_read 43 = .ok (.aload_n 1, 1) := by decide +kernel
theorem dX0_read_44 : decode cX0_read 44 = .ok (.getfield 36, 3) := by decide +kernel
theorem dX0_read_47 : decode cX0_read 47 = .ok (.if_icmp .lt 5, 3) := by decide +kernel
theorem dX0_read_50 : decode cX0_read 50 = .ok (.iconst (-1), 1) := by decide +kernel
theorem dX0_read_51 : decode cX0_read 51 = .ok (.ireturn, 1) := by decide +kernel
theorem dX0_read_52 : decode cX0_read 52 = .ok (.iinc 2 1, 3) := by decide +kernel
theorem dX0_read_55 : decode cX0_read 55 = .ok (.goto (-48), 3) := by decide +kernel
theorem dX0_read_58 : decode cX0_read 58 = .ok (.aload_n 0, 1) := by decide +kernel
theorem dX0_read_59 : decode cX0_read 59 = .ok (.getfield 25, 3) := by decide +kernel
theorem dX0_read_62 : decode cX0_read 62 = .ok (.ireturn, 1) := by decide +kernel
theorem dX0_readOrder_0 : decode cX0_readOrder 0 = .ok (.aload_n 0, 1) := by decide +kernel
theorem dX0_readOrder_1 : decode cX0_readOrder 1 = .ok (.aload_n 1, 1) := by decide +kernel
theorem dX0_readOrder_2 : decode cX0_readOrder 2 = .ok (.invokevirtual 32, 3) := by decide +kernel
theorem dX0_readOrder_5 : decode cX0_readOrder 5 = .ok (.aload_n 1, 1) := by decide +kernel
theorem dX0_readOrder_6 : decode cX0_readOrder 6 = .ok (.aload_n 0, 1) := by decide +kernel
theorem dX0_readOrder_7 : decode cX0_readOrder 7 = .ok (.getfield 25, 3) := by decide +kernel
theorem dX0_readOrder_10 : decode cX0_readOrder 10 = .ok (.invokevirtual 41, 3) := by decide +kernel
theorem dX0_readOrder_13 : decode cX0_readOrder 13 = .ok (.istore_n 3, 1) := by decide +kernel
theorem dX0_readOrder_14 : decode cX0_readOrder 14 = .ok (.iload_n 3, 1) := by decide +kernel
theorem dX0_readOrder_15 : decode cX0_readOrder 15 = .ok (.invokestatic 45, 3) := by decide +kernel
theorem dX0_readOrder_18 : decode cX0_readOrder 18 = .ok (.istore 4, 2) := by decide +kernel
theorem dX0_readOrder_20 : decode cX0_readOrder 20 = .ok (.iload 4, 2) := by decide +kernel
theorem dX0_readOrder_22 : decode cX0_readOrder 22 = .ok (.iconst (-1), 1) := by decide +kernel
theorem dX0_readOrder_23 : decode cX0_readOrder 23 = .ok (.if_icmp .ne 5, 3) := by decide +kernel
theorem dX0_readOrder_26 : decode cX0_readOrder 26 = .ok (.iconst 0, 1) := by decide +kernel
theorem dX0_readOrder_27 : decode cX0_readOrder 27 = .ok (.ireturn, 1) := by decide +kernel
theorem dX0_readOrder_28 : decode cX0_readOrder 28 = .ok (.aload_n 0, 1) := by decide +kernel
theorem dX0_readOrder_29 : decode cX0_readOrder 29 = .ok (.dup, 1) := by decide +kernel
theorem dX0_readOrder_30 : decode cX0_readOrder 30 = .ok (.getfield 25, 3) := by decide +kernel
theorem dX0_readOrder_33 : decode cX0_readOrder 33 = .ok (.iconst 1, 1) := by decide +kernel
theorem dX0_readOrder_34 : decode cX0_readOrder 34 = .ok (.iadd, 1) := by decide +kernel
theorem dX0_readOrder_35 : decode cX0_readOrder 35 = .ok (.putfield 25, 3) := by decide +kernel
theorem dX0_readOrder_38 : decode cX0_readOrder 38 = .ok (.aload_n 0, 1) := by decide +kernel
theorem dX0_readOrder_39 : decode cX0_readOrder 39 = .ok (.getfield 9, 3) := by decide +kernel
theorem dX0_readOrder_42 : decode cX0_readOrder 42 = .ok (.iload_n 2, 1) := by decide +kernel
theorem dX0_readOrder_43 : decode cX0_readOrder 43 = .ok (.iload_n 3, 1) := by decide +kernel
theorem dX0_readOrder_44 : decode cX0_readOrder 44 = .ok (.iastore, 1) := by decide +kernel
theorem dX0_readOrder_45 : decode cX0_readOrder 45 = .ok (.iload 4, 2) := by decide +kernel
theorem dX0_readOrder_47 : decode cX0_readOrder 47 = .ok (.iconst 1, 1) := by decide +kernel
theorem dX0_readOrder_48 : decode cX0_readOrder 48 = .ok (.if_icmp .lt 23, 3) := by decide +kernel
theorem dX0_readOrder_51 : decode cX0_readOrder 51 = .ok (.aload_n 0, 1) := by decide +kernel
theorem dX0_readOrder_52 : decode cX0_readOrder 52 = .ok (.aload_n 1, 1) := by decide +kernel
theorem dX0_readOrder_53 : decode cX0_readOrder 53 = .ok (.invokevirtual 48, 3) := by decide +kernel
theorem dX0_readOrder_56 : decode cX0_readOrder 56 = .ok (.ifCond .ne 5, 3) := by decide +kernel
theorem dX0_readOrder_59 : decode cX0_readOrder 59 = .ok (.iconst 0, 1) := by decide +kernel
theorem dX0_readOrder_60 : decode cX0_readOrder 60 = .ok (.ireturn, 1) := by decide +kernel
theorem dX0_readOrder_61 : decode cX0_readOrder 61 = .ok (.aload_n 0, 1) := by decide +kernel
theorem dX0_readOrder_62 : decode cX0_readOrder 62 = .ok (.getfield 15, 3) := by decide +kernel
theorem dX0_readOrder_65 : decode cX0_readOrder 65 = .ok (.iload_n 2, 1) := by decide +kernel
theorem dX0_readOrder_66 : decode cX0_readOrder 66 = .ok (.aload_n 0, 1) := by decide +kernel
theorem dX0_readOrder_67 : decode cX0_readOrder 67 = .ok (.getfield 52, 3) := by decide +kernel
theorem dX0_readOrder_70 : decode cX0_readOrder 70 = .ok (.iastore, 1) := by decide +kernel
theorem dX0_readOrder_71 : decode cX0_readOrder 71 = .ok (.iload 4, 2) := by decide +kernel
theorem dX0_readOrder_73 : decode cX0_readOrder 73 = .ok (.iconst 2, 1) := by decide +kernel
theorem dX0_readOrder_74 : decode cX0_readOrder 74 = .ok (.if_icmp .lt 23, 3) := by decide +kernel
theorem dX0_readOrder_77 : decode cX0_readOrder 77 = .ok (.aload_n 0, 1) := by decide +kernel
theorem dX0_readOrder_78 : decode cX0_readOrder 78 = .ok (.aload_n 1, 1) := by decide +kernel
theorem dX0_readOrder_79 : decode cX0_readOrder 79 = .ok (.invokevirtual 48, 3) := by decide +kernel
theorem dX0_readOrder_82 : decode cX0_readOrder 82 = .ok (.ifCond .ne 5, 3) := by decide +kernel
theorem dX0_readOrder_85 : decode cX0_readOrder 85 = .ok (.iconst 0, 1) := by decide +kernel
theorem dX0_readOrder_86 : decode cX0_readOrder 86 = .ok (.ireturn, 1) := by decide +kernel
theorem dX0_readOrder_87 : decode cX0_readOrder 87 = .ok (.aload_n 0, 1) := by decide +kernel
theorem dX0_readOrder_88 : decode cX0_readOrder 88 = .ok (.getfield 18, 3) := by decide +kernel
theorem dX0_readOrder_91 : decode cX0_readOrder 91 = .ok (.iload_n 2, 1) := by decide +kernel
theorem dX0_readOrder_92 : decode cX0_readOrder 92 = .ok (.aload_n 0, 1) := by decide +kernel
theorem dX0_readOrder_93 : decode cX0_readOrder 93 = .ok (.getfield 52, 3) := by decide +kernel
theorem dX0_readOrder_96 : decode cX0_readOrder 96 = .ok (.iastore, 1) := by decide +kernel
theorem dX0_readOrder_97 : decode cX0_readOrder 97 = .ok (.aload_n 0, 1) := by decide +kernel
theorem dX0_readOrder_98 : decode cX0_readOrder 98 = .ok (.aload_n 1, 1) := by decide +kernel
theorem dX0_readOrder_99 : decode cX0_readOrder 99 = .ok (.invokevirtual 32, 3) := by decide +kernel
theorem dX0_readOrder_102 : decode cX0_readOrder 102 = .ok (.aload_n 1, 1) := by decide +kernel
theorem dX0_readOrder_103 : decode cX0_readOrder 103 = .ok (.aload_n 0, 1) := by decide +kernel
theorem dX0_readOrder_104 : decode cX0_readOrder 104 = .ok (.getfield 25, 3) := by decide +kernel
theorem dX0_readOrder_107 : decode cX0_readOrder 107 = .ok (.invokevirtual 41, 3) := by decide +kernel
theorem dX0_readOrder_110 : decode cX0_readOrder 110 = .ok (.bipush 59, 2) := by decide +kernel
theorem dX0_readOrder_112 : decode cX0_readOrder 112 = .ok (.if_icmp .eq 5, 3) := by decide +kernel
theorem dX0_readOrder_115 : decode cX0_readOrder 115 = .ok (.iconst 0, 1) := by decide +kernel
theorem dX0_readOrder_116 : decode cX0_readOrder 116 = .ok (.ireturn, 1) := by decide +kernel
theorem dX0_readOrder_117 : decode cX0_readOrder 117 = .ok (.aload_n 0, 1) := by decide +kernel
theorem dX0_readOrder_118 : decode cX0_readOrder 118 = .ok (.dup, 1) := by decide +kernel
theorem dX0_readOrder_119 : decode cX0_readOrder 119 = .ok (.getfield 25, 3) := by decide +kernel
theorem dX0_readOrder_122 : decode cX0_readOrder 122 = .ok (.iconst 1, 1) := by decide +kernel
theorem dX0_readOrder_123 : decode cX0_readOrder 123 = .ok (.iadd, 1) := by decide +kernel
theorem dX0_readOrder_124 : decode cX0_readOrder 124 = .ok (.putfield 25, 3) := by decide +kernel
theorem dX0_readOrder_127 : decode cX0_readOrder 127 = .ok (.iconst 1, 1) := by decide +kernel
theorem dX0_readOrder_128 : decode cX0_readOrder 128 = .ok (.ireturn, 1) := by decide +kernel
theorem dX0_readNumber_0 : decode cX0_readNumber 0 = .ok (.aload_n 0, 1) := by decide +kernel
theorem dX0_readNumber_1 : decode cX0_readNumber 1 = .ok (.aload_n 1, 1) := by decide +kernel
theorem dX0_readNumber_2 : decode cX0_readNumber 2 = .ok (.invokevirtual 32, 3) := by decide +kernel
theorem dX0_readNumber_5 : decode cX0_readNumber 5 = .ok (.aload_n 0, 1) := by decide +kernel
theorem dX0_readNumber_6 : decode cX0_readNumber 6 = .ok (.iconst 0, 1) := by decide +kernel
theorem dX0_readNumber_7 : decode cX0_readNumber 7 = .ok (.putfield 52, 3) := by decide +kernel
theorem dX0_readNumber_10 : decode cX0_readNumber 10 = .ok (.iconst 0, 1) := by decide +kernel
theorem dX0_readNumber_11 : decode cX0_readNumber 11 = .ok (.istore_n 2, 1) := by decide +kernel
theorem dX0_readNumber_12 : decode cX0_readNumber 12 = .ok (.iload_n 2, 1) := by decide +kernel
theorem dX0_readNumber_13 : decode cX0_readNumber 13 = .ok (.bipush 6, 2) := by decide +kernel
theorem dX0_readNumber_15 : decode cX0_readNumber 15 = .ok (.if_icmp .ge 56, 3) := by decide +kernel
theorem dX0_readNumber_18 : decode cX0_readNumber 18 = .ok (.aload_n 1, 1) := by decide +kernel
theorem dX0_readNumber_19 : decode cX0_readNumber 19 = .ok (.aload_n 0, 1) := by decide +kernel
theorem dX0_readNumber_20 : decode cX0_readNumber 20 = .ok (.getfield 25, 3) := by decide +kernel
theorem dX0_readNumber_23 : decode cX0_readNumber 23 = .ok (.invokevirtual 41, 3) := by decide +kernel
theorem dX0_readNumber_26 : decode cX0_readNumber 26 = .ok (.invokestatic 55, 3) := by decide +kernel
theorem dX0_readNumber_29 : decode cX0_readNumber 29 = .ok (.ifCond .eq 42, 3) := by decide +kernel
theorem dX0_readNumber_32 : decode cX0_readNumber 32 = .ok (.aload_n 0, 1) := by decide +kernel
theorem dX0_readNumber_33 : decode cX0_readNumber 33 = .ok (.aload_n 0, 1) := by decide +kernel
theorem dX0_readNumber_34 : decode cX0_readNumber 34 = .ok (.getfield 52, 3) := by decide +kernel
theorem dX0_readNumber_37 : decode cX0_readNumber 37 = .ok (.bipush 10, 2) := by decide +kernel
theorem dX0_readNumber_39 : decode cX0_readNumber 39 = .ok (.imul, 1) := by decide +kernel
theorem dX0_readNumber_40 : decode cX0_readNumber 40 = .ok (.aload_n 1, 1) := by decide +kernel
theorem dX0_readNumber_41 : decode cX0_readNumber 41 = .ok (.aload_n 0, 1) := by decide +kernel
theorem dX0_readNumber_42 : decode cX0_readNumber 42 = .ok (.getfield 25, 3) := by decide +kernel
theorem dX0_readNumber_45 : decode cX0_readNumber 45 = .ok (.invokevirtual 41, 3) := by decide +kernel
theorem dX0_readNumber_48 : decode cX0_readNumber 48 = .ok (.iadd, 1) := by decide +kernel
theorem dX0_readNumber_49 : decode cX0_readNumber 49 = .ok (.bipush 48, 2) := by decide +kernel
theorem dX0_readNumber_51 : decode cX0_readNumber 51 = .ok (.isub, 1) := by decide +kernel
theorem dX0_readNumber_52 : decode cX0_readNumber 52 = .ok (.putfield 52, 3) := by decide +kernel
theorem dX0_readNumber_55 : decode cX0_readNumber 55 = .ok (.aload_n 0, 1) := by decide +kernel
theorem dX0_readNumber_56 : decode cX0_readNumber 56 = .ok (.dup, 1) := by decide +kernel
theorem dX0_readNumber_57 : decode cX0_readNumber 57 = .ok (.getfield 25, 3) := by decide +kernel
theorem dX0_readNumber_60 : decode cX0_readNumber 60 = .ok (.iconst 1, 1) := by decide +kernel
theorem dX0_readNumber_61 : decode cX0_readNumber 61 = .ok (.iadd, 1) := by decide +kernel
theorem dX0_readNumber_62 : decode cX0_readNumber 62 = .ok (.putfield 25, 3) := by decide +kernel
theorem dX0_readNumber_65 : decode cX0_readNumber 65 = .ok (.iinc 2 1, 3) := by decide +kernel
theorem dX0_readNumber_68 : decode cX0_readNumber 68 = .ok (.goto (-56), 3) := by decide +kernel
theorem dX0_readNumber_71 : decode cX0_readNumber 71 = .ok (.iload_n 2, 1) := by decide +kernel
theorem dX0_readNumber_72 : decode cX0_readNumber 72 = .ok (.ifCond .le 21, 3) := by decide +kernel
theorem dX0_readNumber_75 : decode cX0_readNumber 75 = .ok (.aload_n 1, 1) := by decide +kernel
theorem dX0_readNumber_76 : decode cX0_readNumber 76 = .ok (.aload_n 0, 1) := by decide +kernel
theorem dX0_readNumber_77 : decode cX0_readNumber 77 = .ok (.getfield 25, 3) := by decide +kernel
theorem dX0_readNumber_80 : decode cX0_readNumber 80 = .ok (.invokevirtual 41, 3) := by decide +kernel
theorem dX0_readNumber_83 : decode cX0_readNumber 83 = .ok (.invokestatic 55, 3) := by decide +kernel
theorem dX0_readNumber_86 : decode cX0_readNumber 86 = .ok (.ifCond .ne 7, 3) := by decide +kernel
theorem dX0_readNumber_89 : decode cX0_readNumber 89 = .ok (.iconst 1, 1) := by decide +kernel
theorem dX0_readNumber_90 : decode cX0_readNumber 90 = .ok (.goto 4, 3) := by decide +kernel
theorem dX0_readNumber_93 : decode cX0_readNumber 93 = .ok (.iconst 0, 1) := by decide +kernel
theorem dX0_readNumber_94 : decode cX0_readNumber 94 = .ok (.ireturn, 1) := by decide +kernel
theorem dX0_skipBlanks_0 : decode cX0_skipBlanks 0 = .ok (.aload_n 0, 1) := by decide +kernel
theorem dX0_skipBlanks_1 : decode cX0_skipBlanks 1 = .ok (.getfield 25, 3) := by decide +kernel
theorem dX0_skipBlanks_4 : decode cX0_skipBlanks 4 = .ok (.aload_n 1, 1) := by decide +kernel
theorem dX0_skipBlanks_5 : decode cX0_skipBlanks 5 = .ok (.getfield 36, 3) := by decide +kernel
theorem dX0_skipBlanks_8 : decode cX0_skipBlanks 8 = .ok (.if_icmp .ge 29, 3) := by decide +kernel
theorem dX0_skipBlanks_11 : decode cX0_skipBlanks 11 = .ok (.aload_n 1, 1) := by decide +kernel
theorem dX0_skipBlanks_12 : decode cX0_skipBlanks 12 = .ok (.aload_n 0, 1) := by decide +kernel
theorem dX0_skipBlanks_13 : decode cX0_skipBlanks 13 = .ok (.getfield 25, 3) := by decide +kernel
theorem dX0_skipBlanks_16 : decode cX0_skipBlanks 16 = .ok (.invokevirtual 41, 3) := by decide +kernel
theorem dX0_skipBlanks_19 : decode cX0_skipBlanks 19 = .ok (.bipush 32, 2) := by decide +kernel
theorem dX0_skipBlanks_21 : decode cX0_skipBlanks 21 = .ok (.if_icmp .ne 16, 3) := by decide +kernel
theorem dX0_skipBlanks_24 : decode cX0_skipBlanks 24 = .ok (.aload_n 0, 1) := by decide +kernel
theorem dX0_skipBlanks_25 : decode cX0_skipBlanks 25 = .ok (.dup, 1) := by decide +kernel
theorem dX0_skipBlanks_26 : decode cX0_skipBlanks 26 = .ok (.getfield 25, 3) := by decide +kernel
theorem dX0_skipBlanks_29 : decode cX0_skipBlanks 29 = .ok (.iconst 1, 1) := by decide +kernel
theorem dX0_skipBlanks_30 : decode cX0_skipBlanks 30 = .ok (.iadd, 1) := by decide +kernel
theorem dX0_skipBlanks_31 : decode cX0_skipBlanks 31 = .ok (.putfield 25, 3) := by decide +kernel
theorem dX0_skipBlanks_34 : decode cX0_skipBlanks 34 = .ok (.goto (-34), 3) := by decide +kernel
theorem dX0_skipBlanks_37 : decode cX0_skipBlanks 37 = .ok (.return_, 1) := by decide +kernel
theorem dX0_isFigure_0 : decode cX0_isFigure 0 = .ok (.iload_n 0, 1) := by decide +kernel
theorem dX0_isFigure_1 : decode cX0_isFigure 1 = .ok (.i2l, 1) := by decide +kernel
theorem dX0_isFigure_2 : decode cX0_isFigure 2 = .ok (.ldc2_w 59, 3) := by decide +kernel
theorem dX0_isFigure_5 : decode cX0_isFigure 5 = .ok (.ldc2_w 61, 3) := by decide +kernel
theorem dX0_isFigure_8 : decode cX0_isFigure 8 = .ok (.invokestatic 63, 3) := by decide +kernel
theorem dX0_isFigure_11 : decode cX0_isFigure 11 = .ok (.ireturn, 1) := by decide +kernel
theorem dX0_numbersOf_0 : decode cX0_numbersOf 0 = .ok (.iload_n 0, 1) := by decide +kernel
theorem dX0_numbersOf_1 : decode cX0_numbersOf 1 = .ok (.tableswitch 105 99 119 #[99, 101, 105, 105, 105, 105, 103, 105, 105, 105, 105, 105, 105, 105, 105, 101, 101, 103, 101, 99, 103], 99) := by decide +kernel
theorem dX0_numbersOf_100 : decode cX0_numbersOf 100 = .ok (.iconst 0, 1) := by decide +kernel
theorem dX0_numbersOf_101 : decode cX0_numbersOf 101 = .ok (.ireturn, 1) := by decide +kernel
theorem dX0_numbersOf_102 : decode cX0_numbersOf 102 = .ok (.iconst 1, 1) := by decide +kernel
theorem dX0_numbersOf_103 : decode cX0_numbersOf 103 = .ok (.ireturn, 1) := by decide +kernel
theorem dX0_numbersOf_104 : decode cX0_numbersOf 104 = .ok (.iconst 2, 1) := by decide +kernel
theorem dX0_numbersOf_105 : decode cX0_numbersOf 105 = .ok (.ireturn, 1) := by decide +kernel
theorem dX0_numbersOf_106 : decode cX0_numbersOf 106 = .ok (.iconst (-1), 1) := by decide +kernel
theorem dX0_numbersOf_107 : decode cX0_numbersOf 107 = .ok (.ireturn, 1) := by decide +kernel
theorem dX1_init_0 : decode cX1_init 0 = .ok (.aload_n 0, 1) := by decide +kernel
theorem dX1_init_1 : decode cX1_init 1 = .ok (.invokespecial 3, 3) := by decide +kernel
theorem dX1_init_4 : decode cX1_init 4 = .ok (.aload_n 0, 1) := by decide +kernel
theorem dX1_init_5 : decode cX1_init 5 = .ok (.iconst 5, 1) := by decide +kernel
theorem dX1_init_6 : decode cX1_init 6 = .ok (.anewarray 9, 3) := by decide +kernel
theorem dX1_init_9 : decode cX1_init 9 = .ok (.putfield 11, 3) := by decide +kernel
theorem dX1_init_12 : decode cX1_init 12 = .ok (.aload_n 0, 1) := by decide +kernel
theorem dX1_init_13 : decode cX1_init 13 = .ok (.iconst 0, 1) := by decide +kernel
theorem dX1_init_14 : decode cX1_init 14 = .ok (.putfield 17, 3) := by decide +kernel
theorem dX1_init_17 : decode cX1_init 17 = .ok (.aload_n 0, 1) := by decide +kernel
theorem dX1_init_18 : decode cX1_init 18 = .ok (.iconst 0, 1) := by decide +kernel
theorem dX1_init_19 : decode cX1_init 19 = .ok (.putfield 21, 3) := by decide +kernel
theorem dX1_init_22 : decode cX1_init 22 = .ok (.iconst 0, 1) := by decide +kernel
theorem dX1_init_23 : decode cX1_init 23 = .ok (.istore_n 1, 1) := by decide +kernel
theorem dX1_init_24 : decode cX1_init 24 = .ok (.iload_n 1, 1) := by decide +kernel
theorem dX1_init_25 : decode cX1_init 25 = .ok (.iconst 5, 1) := by decide +kernel
theorem dX1_init_26 : decode cX1_init 26 = .ok (.if_icmp .ge 22, 3) := by decide +kernel
theorem dX1_init_29 : decode cX1_init 29 = .ok (.aload_n 0, 1) := by decide +kernel
theorem dX1_init_30 : decode cX1_init 30 = .ok (.getfield 11, 3) := by decide +kernel
theorem dX1_init_33 : decode cX1_init 33 = .ok (.iload_n 1, 1) := by decide +kernel
theorem dX1_init_34 : decode cX1_init 34 = .ok (.new 9, 3) := by decide +kernel
theorem dX1_init_37 : decode cX1_init 37 = .ok (.dup, 1) := by decide +kernel
theorem dX1_init_38 : decode cX1_init 38 = .ok (.invokespecial 24, 3) := by decide +kernel
theorem dX1_init_41 : decode cX1_init 41 = .ok (.aastore, 1) := by decide +kernel
theorem dX1_init_42 : decode cX1_init 42 = .ok (.iinc 1 1, 3) := by decide +kernel
theorem dX1_init_45 : decode cX1_init 45 = .ok (.goto (-21), 3) := by decide +kernel
theorem dX1_init_48 : decode cX1_init 48 = .ok (.return_, 1) := by decide +kernel
theorem dX1_keep_0 : decode cX1_keep 0 = .ok (.aload_n 0, 1) := by decide +kernel
theorem dX1_keep_1 : decode cX1_keep 1 = .ok (.getfield 11, 3) := by decide +kernel
theorem dX1_keep_4 : decode cX1_keep 4 = .ok (.aload_n 0, 1) := by decide +kernel
theorem dX1_keep_5 : decode cX1_keep 5 = .ok (.getfield 17, 3) := by decide +kernel
theorem dX1_keep_8 : decode cX1_keep 8 = .ok (.aaload, 1) := by decide +kernel
theorem dX1_keep_9 : decode cX1_keep 9 = .ok (.aload_n 1, 1) := by decide +kernel
theorem dX1_keep_10 : decode cX1_keep 10 = .ok (.invokevirtual 25, 3) := by decide +kernel
theorem dX1_keep_13 : decode cX1_keep 13 = .ok (.aload_n 0, 1) := by decide +kernel
theorem dX1_keep_14 : decode cX1_keep 14 = .ok (.aload_n 0, 1) := by decide +kernel
theorem dX1_keep_15 : decode cX1_keep 15 = .ok (.getfield 17, 3) := by decide +kernel
theorem dX1_keep_18 : decode cX1_keep 18 = .ok (.iconst 1, 1) := by decide +kernel
theorem dX1_keep_19 : decode cX1_keep 19 = .ok (.iadd, 1) := by decide +kernel
theorem dX1_keep_20 : decode cX1_keep 20 = .ok (.iconst 5, 1) := by decide +kernel
theorem dX1_keep_21 : decode cX1_keep 21 = .ok (.irem, 1) := by decide +kernel
theorem dX1_keep_22 : decode cX1_keep 22 = .ok (.putfield 17, 3) := by decide +kernel
theorem dX1_keep_25 : decode cX1_keep 25 = .ok (.aload_n 0, 1) := by decide +kernel
theorem dX1_keep_26 : decode cX1_keep 26 = .ok (.aload_n 0, 1) := by decide +kernel
theorem dX1_keep_27 : decode cX1_keep 27 = .ok (.getfield 21, 3) := by decide +kernel
theorem dX1_keep_30 : decode cX1_keep 30 = .ok (.iconst 1, 1) := by decide +kernel
theorem dX1_keep_31 : decode cX1_keep 31 = .ok (.iadd, 1) := by decide +kernel
theorem dX1_keep_32 : decode cX1_keep 32 = .ok (.iconst 5, 1) := by decide +kernel
theorem dX1_keep_33 : decode cX1_keep 33 = .ok (.invokestatic 29, 3) := by decide +kernel
theorem dX1_keep_36 : decode cX1_keep 36 = .ok (.putfield 21, 3) := by decide +kernel
theorem dX1_keep_39 : decode cX1_keep 39 = .ok (.return_, 1) := by decide +kernel
theorem dX1_giveBackTo_0 : decode cX1_giveBackTo 0 = .ok (.aload_n 0, 1) := by decide +kernel
theorem dX1_giveBackTo_1 : decode cX1_giveBackTo 1 = .ok (.getfield 21, 3) := by decide +kernel
theorem dX1_giveBackTo_4 : decode cX1_giveBackTo 4 = .ok (.ifCond .ne 4, 3) := by decide +kernel
theorem dX1_giveBackTo_7 : decode cX1_giveBackTo 7 = .ok (.return_, 1) := by decide +kernel
theorem dX1_giveBackTo_8 : decode cX1_giveBackTo 8 = .ok (.aload_n 0, 1) := by decide +kernel
theorem dX1_giveBackTo_9 : decode cX1_giveBackTo 9 = .ok (.aload_n 0, 1) := by decide +kernel
theorem dX1_giveBackTo_10 : decode cX1_giveBackTo 10 = .ok (.getfield 17, 3) := by decide +kernel
theorem dX1_giveBackTo_13 : decode cX1_giveBackTo 13 = .ok (.iconst 5, 1) := by decide +kernel
theorem dX1_giveBackTo_14 : decode cX1_giveBackTo 14 = .ok (.iadd, 1) := by decide +kernel
theorem dX1_giveBackTo_15 : decode cX1_giveBackTo 15 = .ok (.iconst 1, 1) := by decide +kernel
theorem dX1_giveBackTo_16 : decode cX1_giveBackTo 16 = .ok (.isub, 1) := by decide +kernel
theorem dX1_giveBackTo_17 : decode cX1_giveBackTo 17 = .ok (.iconst 5, 1) := by decide +kernel
theorem dX1_giveBackTo_18 : decode cX1_giveBackTo 18 = .ok (.irem, 1) := by decide +kernel
theorem dX1_giveBackTo_19 : decode cX1_giveBackTo 19 = .ok (.putfield 17, 3) := by decide +kernel
theorem dX1_giveBackTo_22 : decode cX1_giveBackTo 22 = .ok (.aload_n 0, 1) := by decide +kernel
theorem dX1_giveBackTo_23 : decode cX1_giveBackTo 23 = .ok (.dup, 1) := by decide +kernel
theorem dX1_giveBackTo_24 : decode cX1_giveBackTo 24 = .ok (.getfield 21, 3) := by decide +kernel
theorem dX1_giveBackTo_27 : decode cX1_giveBackTo 27 = .ok (.iconst 1, 1) := by decide +kernel
theorem dX1_giveBackTo_28 : decode cX1_giveBackTo 28 = .ok (.isub, 1) := by decide +kernel
theorem dX1_giveBackTo_29 : decode cX1_giveBackTo 29 = .ok (.putfield 21, 3) := by decide +kernel
theorem dX1_giveBackTo_32 : decode cX1_giveBackTo 32 = .ok (.aload_n 1, 1) := by decide +kernel
theorem dX1_giveBackTo_33 : decode cX1_giveBackTo 33 = .ok (.aload_n 0, 1) := by decide +kernel
theorem dX1_giveBackTo_34 : decode cX1_giveBackTo 34 = .ok (.getfield 11, 3) := by decide +kernel
theorem dX1_giveBackTo_37 : decode cX1_giveBackTo 37 = .ok (.aload_n 0, 1) := by decide +kernel
theorem dX1_giveBackTo_38 : decode cX1_giveBackTo 38 = .ok (.getfield 17, 3) := by decide +kernel
theorem dX1_giveBackTo_41 : decode cX1_giveBackTo 41 = .ok (.aaload, 1) := by decide +kernel
theorem dX1_giveBackTo_42 : decode cX1_giveBackTo 42 = .ok (.invokevirtual 25, 3) := by decide +kernel
theorem dX1_giveBackTo_45 : decode cX1_giveBackTo 45 = .ok (.return_, 1) := by decide +kernel
theorem dX2_init_0 : decode cX2_init 0 = .ok (.aload_n 0, 1) := by decide +kernel
theorem dX2_init_1 : decode cX2_init 1 = .ok (.invokespecial 3, 3) := by decide +kernel
theorem dX2_init_4 : decode cX2_init 4 = .ok (.aload_n 0, 1) := by decide +kernel
theorem dX2_init_5 : decode cX2_init 5 = .ok (.bipush 120, 2) := by decide +kernel
theorem dX2_init_7 : decode cX2_init 7 = .ok (.newarray .byte, 2) := by decide +kernel
theorem dX2_init_9 : decode cX2_init 9 = .ok (.putfield 9, 3) := by decide +kernel
theorem dX2_init_12 : decode cX2_init 12 = .ok (.aload_n 0, 1) := by decide +kernel
theorem dX2_init_13 : decode cX2_init 13 = .ok (.iconst 0, 1) := by decide +kernel
theorem dX2_init_14 : decode cX2_init 14 = .ok (.putfield 15, 3) := by decide +kernel
theorem dX2_init_17 : decode cX2_init 17 = .ok (.return_, 1) := by decide +kernel
theorem dX2_add_0 : decode cX2_add 0 = .ok (.iload_n 1, 1) := by decide +kernel
theorem dX2_add_1 : decode cX2_add 1 = .ok (.i2l, 1) := by decide +kernel
theorem dX2_add_2 : decode cX2_add 2 = .ok (.lconst 0, 1) := by decide +kernel
theorem dX2_add_3 : decode cX2_add 3 = .ok (.ldc2_w 19, 3) := by decide +kernel
theorem dX2_add_6 : decode cX2_add 6 = .ok (.invokestatic 21, 3) := by decide +kernel
theorem dX2_add_9 : decode cX2_add 9 = .ok (.ifCond .ne 6, 3) := by decide +kernel
theorem dX2_add_12 : decode cX2_add 12 = .ok (.bipush (-2), 2) := by decide +kernel
theorem dX2_add_14 : decode cX2_add 14 = .ok (.ireturn, 1) := by decide +kernel
theorem dX2_add_15 : decode cX2_add 15 = .ok (.aload_n 0, 1) := by decide +kernel
theorem dX2_add_16 : decode cX2_add 16 = .ok (.getfield 15, 3) := by decide +kernel
theorem dX2_add_19 : decode cX2_add 19 = .ok (.bipush 120, 2) := by decide +kernel
theorem dX2_add_21 : decode cX2_add 21 = .ok (.if_icmp .lt 6, 3) := by decide +kernel
theorem dX2_add_24 : decode cX2_add 24 = .ok (.bipush (-4), 2) := by decide +kernel
theorem dX2_add_26 : decode cX2_add 26 = .ok (.ireturn, 1) := by decide +kernel
theorem dX2_add_27 : decode cX2_add 27 = .ok (.aload_n 0, 1) := by decide +kernel
theorem dX2_add_28 : decode cX2_add 28 = .ok (.getfield 9, 3) := by decide +kernel
theorem dX2_add_31 : decode cX2_add 31 = .ok (.aload_n 0, 1) := by decide +kernel
theorem dX2_add_32 : decode cX2_add 32 = .ok (.getfield 15, 3) := by decide +kernel
theorem dX2_add_35 : decode cX2_add 35 = .ok (.iload_n 1, 1) := by decide +kernel
theorem dX2_add_36 : decode cX2_add 36 = .ok (.i2b, 1) := by decide +kernel
theorem dX2_add_37 : decode cX2_add 37 = .ok (.bastore, 1) := by decide +kernel
theorem dX2_add_38 : decode cX2_add 38 = .ok (.aload_n 0, 1) := by decide +kernel
theorem dX2_add_39 : decode cX2_add 39 = .ok (.dup, 1) := by decide +kernel
theorem dX2_add_40 : decode cX2_add 40 = .ok (.getfield 15, 3) := by decide +kernel
theorem dX2_add_43 : decode cX2_add 43 = .ok (.iconst 1, 1) := by decide +kernel
theorem dX2_add_44 : decode cX2_add 44 = .ok (.iadd, 1) := by decide +kernel
theorem dX2_add_45 : decode cX2_add 45 = .ok (.putfield 15, 3) := by decide +kernel
theorem dX2_add_48 : decode cX2_add 48 = .ok (.aload_n 0, 1) := by decide +kernel
theorem dX2_add_49 : decode cX2_add 49 = .ok (.getfield 15, 3) := by decide +kernel
theorem dX2_add_52 : decode cX2_add 52 = .ok (.ireturn, 1) := by decide +kernel
theorem dX2_empty_0 : decode cX2_empty 0 = .ok (.aload_n 0, 1) := by decide +kernel
theorem dX2_empty_1 : decode cX2_empty 1 = .ok (.getfield 15, 3) := by decide +kernel
theorem dX2_empty_4 : decode cX2_empty 4 = .ok (.istore_n 1, 1) := by decide +kernel
theorem dX2_empty_5 : decode cX2_empty 5 = .ok (.aload_n 0, 1) := by decide +kernel
theorem dX2_empty_6 : decode cX2_empty 6 = .ok (.iconst 0, 1) := by decide +kernel
theorem dX2_empty_7 : decode cX2_empty 7 = .ok (.putfield 15, 3) := by decide +kernel
theorem dX2_empty_10 : decode cX2_empty 10 = .ok (.iload_n 1, 1) := by decide +kernel
theorem dX2_empty_11 : decode cX2_empty 11 = .ok (.ireturn, 1) := by decide +kernel
theorem dX2_at_0 : decode cX2_at 0 = .ok (.iload_n 1, 1) := by decide +kernel
theorem dX2_at_1 : decode cX2_at 1 = .ok (.i2l, 1) := by decide +kernel
theorem dX2_at_2 : decode cX2_at 2 = .ok (.lconst 0, 1) := by decide +kernel
theorem dX2_at_3 : decode cX2_at 3 = .ok (.aload_n 0, 1) := by decide +kernel
theorem dX2_at_4 : decode cX2_at 4 = .ok (.getfield 15, 3) := by decide +kernel
theorem dX2_at_7 : decode cX2_at 7 = .ok (.iconst 1, 1) := by decide +kernel
theorem dX2_at_8 : decode cX2_at 8 = .ok (.isub, 1) := by decide +kernel
theorem dX2_at_9 : decode cX2_at 9 = .ok (.i2l, 1) := by decide +kernel
theorem dX2_at_10 : decode cX2_at 10 = .ok (.invokestatic 21, 3) := by decide +kernel
theorem dX2_at_13 : decode cX2_at 13 = .ok (.ifCond .eq 12, 3) := by decide +kernel
theorem dX2_at_16 : decode cX2_at 16 = .ok (.aload_n 0, 1) := by decide +kernel
theorem dX2_at_17 : decode cX2_at 17 = .ok (.getfield 9, 3) := by decide +kernel
theorem dX2_at_20 : decode cX2_at 20 = .ok (.iload_n 1, 1) := by decide +kernel
theorem dX2_at_21 : decode cX2_at 21 = .ok (.baload, 1) := by decide +kernel
theorem dX2_at_22 : decode cX2_at 22 = .ok (.goto 4, 3) := by decide +kernel
theorem dX2_at_25 : decode cX2_at 25 = .ok (.iconst (-1), 1) := by decide +kernel
theorem dX2_at_26 : decode cX2_at 26 = .ok (.ireturn, 1) := by decide +kernel
theorem dX3_init_0 : decode cX3_init 0 = .ok (.aload_n 0, 1) := by decide +kernel
theorem dX3_init_1 : decode cX3_init 1 = .ok (.invokespecial 3, 3) := by decide +kernel
theorem dX3_init_4 : decode cX3_init 4 = .ok (.aload_n 0, 1) := by decide +kernel
theorem dX3_init_5 : decode cX3_init 5 = .ok (.bipush 6, 2) := by decide +kernel
theorem dX3_init_7 : decode cX3_init 7 = .ok (.newarray .int, 2) := by decide +kernel
theorem dX3_init_9 : decode cX3_init 9 = .ok (.putfield 9, 3) := by decide +kernel
theorem dX3_init_12 : decode cX3_init 12 = .ok (.aload_n 0, 1) := by decide +kernel
theorem dX3_init_13 : decode cX3_init 13 = .ok (.bipush 6, 2) := by decide +kernel
theorem dX3_init_15 : decode cX3_init 15 = .ok (.newarray .int, 2) := by decide +kernel
theorem dX3_init_17 : decode cX3_init 17 = .ok (.putfield 15, 3) := by decide +kernel
theorem dX3_init_20 : decode cX3_init 20 = .ok (.aload_n 0, 1) := by decide +kernel
theorem dX3_init_21 : decode cX3_init 21 = .ok (.bipush 12, 2) := by decide +kernel
theorem dX3_init_23 : decode cX3_init 23 = .ok (.newarray .int, 2) := by decide +kernel
theorem dX3_init_25 : decode cX3_init 25 = .ok (.putfield 18, 3) := by decide +kernel
theorem dX3_init_28 : decode cX3_init 28 = .ok (.aload_n 0, 1) := by decide +kernel
theorem dX3_init_29 : decode cX3_init 29 = .ok (.bipush 7, 2) := by decide +kernel
theorem dX3_init_31 : decode cX3_init 31 = .ok (.newarray .int, 2) := by decide +kernel
theorem dX3_init_33 : decode cX3_init 33 = .ok (.putfield 21, 3) := by decide +kernel
theorem dX3_init_36 : decode cX3_init 36 = .ok (.aload_n 0, 1) := by decide +kernel
theorem dX3_init_37 : decode cX3_init 37 = .ok (.iconst 0, 1) := by decide +kernel
theorem dX3_init_38 : decode cX3_init 38 = .ok (.putfield 24, 3) := by decide +kernel
theorem dX3_init_41 : decode cX3_init 41 = .ok (.aload_n 0, 1) := by decide +kernel
theorem dX3_init_42 : decode cX3_init 42 = .ok (.bipush 12, 2) := by decide +kernel
theorem dX3_init_44 : decode cX3_init 44 = .ok (.putfield 28, 3) := by decide +kernel
theorem dX3_init_47 : decode cX3_init 47 = .ok (.aload_n 0, 1) := by decide +kernel
theorem dX3_init_48 : decode cX3_init 48 = .ok (.iconst 0, 1) := by decide +kernel
theorem dX3_init_49 : decode cX3_init 49 = .ok (.putfield 31, 3) := by decide +kernel
theorem dX3_init_52 : decode cX3_init 52 = .ok (.aload_n 0, 1) := by decide +kernel
theorem dX3_init_53 : decode cX3_init 53 = .ok (.iconst 0, 1) := by decide +kernel
theorem dX3_init_54 : decode cX3_init 54 = .ok (.putfield 34, 3) := by decide +kernel
theorem dX3_init_57 : decode cX3_init 57 = .ok (.return_, 1) := by decide +kernel
theorem dX3_copyFrom_0 : decode cX3_copyFrom 0 = .ok (.aload_n 1, 1) := by decide +kernel
theorem dX3_copyFrom_1 : decode cX3_copyFrom 1 = .ok (.getfield 9, 3) := by decide +kernel
theorem dX3_copyFrom_4 : decode cX3_copyFrom 4 = .ok (.iconst 0, 1) := by decide +kernel
theorem dX3_copyFrom_5 : decode cX3_copyFrom 5 = .ok (.aload_n 0, 1) := by decide +kernel
theorem dX3_copyFrom_6 : decode cX3_copyFrom 6 = .ok (.getfield 9, 3) := by decide +kernel
theorem dX3_copyFrom_9 : decode cX3_copyFrom 9 = .ok (.iconst 0, 1) := by decide +kernel
theorem dX3_copyFrom_10 : decode cX3_copyFrom 10 = .ok (.bipush 6, 2) := by decide +kernel
theorem dX3_copyFrom_12 : decode cX3_copyFrom 12 = .ok (.invokestatic 37, 3) := by decide +kernel
theorem dX3_copyFrom_15 : decode cX3_copyFrom 15 = .ok (.aload_n 1, 1) := by decide +kernel
theorem dX3_copyFrom_16 : decode cX3_copyFrom 16 = .ok (.getfield 15, 3) := by decide +kernel
theorem dX3_copyFrom_19 : decode cX3_copyFrom 19 = .ok (.iconst 0, 1) := by decide +kernel
theorem dX3_copyFrom_20 : decode cX3_copyFrom 20 = .ok (.aload_n 0, 1) := by decide +kernel
theorem dX3_copyFrom_21 : decode cX3_copyFrom 21 = .ok (.getfield 15, 3) := by decide +kernel
theorem dX3_copyFrom_24 : decode cX3_copyFrom 24 = .ok (.iconst 0, 1) := by decide +kernel
theorem dX3_copyFrom_25 : decode cX3_copyFrom 25 = .ok (.bipush 6, 2) := by decide +kernel
theorem dX3_copyFrom_27 : decode cX3_copyFrom 27 = .ok (.invokestatic 37, 3) := by decide +kernel
theorem dX3_copyFrom_30 : decode cX3_copyFrom 30 = .ok (.aload_n 1, 1) := by decide +kernel
theorem dX3_copyFrom_31 : decode cX3_copyFrom 31 = .ok (.getfield 18, 3) := by decide +kernel
theorem dX3_copyFrom_34 : decode cX3_copyFrom 34 = .ok (.iconst 0, 1) := by decide +kernel
theorem dX3_copyFrom_35 : decode cX3_copyFrom 35 = .ok (.aload_n 0, 1) := by decide +kernel
theorem dX3_copyFrom_36 : decode cX3_copyFrom 36 = .ok (.getfield 18, 3) := by decide +kernel
theorem dX3_copyFrom_39 : decode cX3_copyFrom 39 = .ok (.iconst 0, 1) := by decide +kernel
theorem dX3_copyFrom_40 : decode cX3_copyFrom 40 = .ok (.bipush 12, 2) := by decide +kernel
theorem dX3_copyFrom_42 : decode cX3_copyFrom 42 = .ok (.invokestatic 37, 3) := by decide +kernel
theorem dX3_copyFrom_45 : decode cX3_copyFrom 45 = .ok (.aload_n 1, 1) := by decide +kernel
theorem dX3_copyFrom_46 : decode cX3_copyFrom 46 = .ok (.getfield 21, 3) := by decide +kernel
theorem dX3_copyFrom_49 : decode cX3_copyFrom 49 = .ok (.iconst 0, 1) := by decide +kernel
theorem dX3_copyFrom_50 : decode cX3_copyFrom 50 = .ok (.aload_n 0, 1) := by decide +kernel
theorem dX3_copyFrom_51 : decode cX3_copyFrom 51 = .ok (.getfield 21, 3) := by decide +kernel
theorem dX3_copyFrom_54 : decode cX3_copyFrom 54 = .ok (.iconst 0, 1) := by decide +kernel
theorem dX3_copyFrom_55 : decode cX3_copyFrom 55 = .ok (.bipush 7, 2) := by decide +kernel
theorem dX3_copyFrom_57 : decode cX3_copyFrom 57 = .ok (.invokestatic 37, 3) := by decide +kernel
theorem dX3_copyFrom_60 : decode cX3_copyFrom 60 = .ok (.aload_n 0, 1) := by decide +kernel
theorem dX3_copyFrom_61 : decode cX3_copyFrom 61 = .ok (.aload_n 1, 1) := by decide +kernel
theorem dX3_copyFrom_62 : decode cX3_copyFrom 62 = .ok (.getfield 24, 3) := by decide +kernel
theorem dX3_copyFrom_65 : decode cX3_copyFrom 65 = .ok (.putfield 24, 3) := by decide +kernel
theorem dX3_copyFrom_68 : decode cX3_copyFrom 68 = .ok (.aload_n 0, 1) := by decide +kernel
theorem dX3_copyFrom_69 : decode cX3_copyFrom 69 = .ok (.aload_n 1, 1) := by decide +kernel
theorem dX3_copyFrom_70 : decode cX3_copyFrom 70 = .ok (.getfield 28, 3) := by decide +kernel
theorem dX3_copyFrom_73 : decode cX3_copyFrom 73 = .ok (.putfield 28, 3) := by decide +kernel
theorem dX3_copyFrom_76 : decode cX3_copyFrom 76 = .ok (.aload_n 0, 1) := by decide +kernel
theorem dX3_copyFrom_77 : decode cX3_copyFrom 77 = .ok (.aload_n 1, 1) := by decide +kernel
theorem dX3_copyFrom_78 : decode cX3_copyFrom 78 = .ok (.getfield 31, 3) := by decide +kernel
theorem dX3_copyFrom_81 : decode cX3_copyFrom 81 = .ok (.putfield 31, 3) := by decide +kernel
theorem dX3_copyFrom_84 : decode cX3_copyFrom 84 = .ok (.aload_n 0, 1) := by decide +kernel
theorem dX3_copyFrom_85 : decode cX3_copyFrom 85 = .ok (.aload_n 1, 1) := by decide +kernel
theorem dX3_copyFrom_86 : decode cX3_copyFrom 86 = .ok (.getfield 34, 3) := by decide +kernel
theorem dX3_copyFrom_89 : decode cX3_copyFrom 89 = .ok (.putfield 34, 3) := by decide +kernel
theorem dX3_copyFrom_92 : decode cX3_copyFrom 92 = .ok (.return_, 1) := by decide +kernel
theorem dX3_setDrum_0 : decode cX3_setDrum 0 = .ok (.iload_n 1, 1) := by decide +kernel
theorem dX3_setDrum_1 : decode cX3_setDrum 1 = .ok (.i2l, 1) := by decide +kernel
theorem dX3_setDrum_2 : decode cX3_setDrum 2 = .ok (.lconst 0, 1) := by decide +kernel
theorem dX3_setDrum_3 : decode cX3_setDrum 3 = .ok (.ldc2_w 43, 3) := by decide +kernel
theorem dX3_setDrum_6 : decode cX3_setDrum 6 = .ok (.invokestatic 45, 3) := by decide +kernel
theorem dX3_setDrum_9 : decode cX3_setDrum 9 = .ok (.ifCond .eq 15, 3) := by decide +kernel
theorem dX3_setDrum_12 : decode cX3_setDrum 12 = .ok (.iload_n 2, 1) := by decide +kernel
theorem dX3_setDrum_13 : decode cX3_setDrum 13 = .ok (.i2l, 1) := by decide +kernel
theorem dX3_setDrum_14 : decode cX3_setDrum 14 = .ok (.lconst 0, 1) := by decide +kernel
theorem dX3_setDrum_15 : decode cX3_setDrum 15 = .ok (.ldc2_w 49, 3) := by decide +kernel
theorem dX3_setDrum_18 : decode cX3_setDrum 18 = .ok (.invokestatic 45, 3) := by decide +kernel
theorem dX3_setDrum_21 : decode cX3_setDrum 21 = .ok (.ifCond .ne 6, 3) := by decide +kernel
theorem dX3_setDrum_24 : decode cX3_setDrum 24 = .ok (.bipush (-2), 2) := by decide +kernel
theorem dX3_setDrum_26 : decode cX3_setDrum 26 = .ok (.ireturn, 1) := by decide +kernel
theorem dX3_setDrum_27 : decode cX3_setDrum 27 = .ok (.aload_n 0, 1) := by decide +kernel
theorem dX3_setDrum_28 : decode cX3_setDrum 28 = .ok (.getfield 9, 3) := by decide +kernel
theorem dX3_setDrum_31 : decode cX3_setDrum 31 = .ok (.iload_n 1, 1) := by decide +kernel
theorem dX3_setDrum_32 : decode cX3_setDrum 32 = .ok (.iaload, 1) := by decide +kernel
theorem dX3_setDrum_33 : decode cX3_setDrum 33 = .ok (.istore_n 3, 1) := by decide +kernel
theorem dX3_setDrum_34 : decode cX3_setDrum 34 = .ok (.aload_n 0, 1) := by decide +kernel
theorem dX3_setDrum_35 : decode cX3_setDrum 35 = .ok (.getfield 9, 3) := by decide +kernel
theorem dX3_setDrum_38 : decode cX3_setDrum 38 = .ok (.iload_n 1, 1) := by decide +kernel
theorem dX3_setDrum_39 : decode cX3_setDrum 39 = .ok (.iload_n 2, 1) := by decide +kernel
theorem dX3_setDrum_40 : decode cX3_setDrum 40 = .ok (.iastore, 1) := by decide +kernel
theorem dX3_setDrum_41 : decode cX3_setDrum 41 = .ok (.iload_n 3, 1) := by decide +kernel
theorem dX3_setDrum_42 : decode cX3_setDrum 42 = .ok (.ireturn, 1) := by decide +kernel
theorem dX3_setDrums_0 : decode cX3_setDrums 0 = .ok (.iload_n 1, 1) := by decide +kernel
theorem dX3_setDrums_1 : decode cX3_setDrums 1 = .ok (.i2l, 1) := by decide +kernel
theorem dX3_setDrums_2 : decode cX3_setDrums 2 = .ok (.lconst 0, 1) := by decide +kernel
theorem dX3_setDrums_3 : decode cX3_setDrums 3 = .ok (.ldc2_w 51, 3) := by decide +kernel
theorem dX3_setDrums_6 : decode cX3_setDrums 6 = .ok (.invokestatic 45, 3) := by decide +kernel
theorem dX3_setDrums_9 : decode cX3_setDrums 9 = .ok (.ifCond .ne 6, 3) := by decide +kernel
theorem dX3_setDrums_12 : decode cX3_setDrums 12 = .ok (.bipush (-2), 2) := by decide +kernel
theorem dX3_setDrums_14 : decode cX3_setDrums 14 = .ok (.ireturn, 1) := by decide +kernel
theorem dX3_setDrums_15 : decode cX3_setDrums 15 = .ok (.aload_n 0, 1) := by decide +kernel
theorem dX3_setDrums_16 : decode cX3_setDrums 16 = .ok (.getfield 9, 3) := by decide +kernel
theorem dX3_setDrums_19 : decode cX3_setDrums 19 = .ok (.invokestatic 53, 3) := by decide +kernel
theorem dX3_setDrums_22 : decode cX3_setDrums 22 = .ok (.l2i, 1) := by decide +kernel
theorem dX3_setDrums_23 : decode cX3_setDrums 23 = .ok (.istore_n 2, 1) := by decide +kernel
theorem dX3_setDrums_24 : decode cX3_setDrums 24 = .ok (.aload_n 0, 1) := by decide +kernel
theorem dX3_setDrums_25 : decode cX3_setDrums 25 = .ok (.getfield 9, 3) := by decide +kernel
theorem dX3_setDrums_28 : decode cX3_setDrums 28 = .ok (.iload_n 1, 1) := by decide +kernel
theorem dX3_setDrums_29 : decode cX3_setDrums 29 = .ok (.i2l, 1) := by decide +kernel
theorem dX3_setDrums_30 : decode cX3_setDrums 30 = .ok (.invokestatic 57, 3) := by decide +kernel
theorem dX3_setDrums_33 : decode cX3_setDrums 33 = .ok (.pop, 1) := by decide +kernel
theorem dX3_setDrums_34 : decode cX3_setDrums 34 = .ok (.iload_n 2, 1) := by decide +kernel
theorem dX3_setDrums_35 : decode cX3_setDrums 35 = .ok (.ireturn, 1) := by decide +kernel
theorem dX3_setShift_0 : decode cX3_setShift 0 = .ok (.iload_n 1, 1) := by decide +kernel
theorem dX3_setShift_1 : decode cX3_setShift 1 = .ok (.i2l, 1) := by decide +kernel
theorem dX3_setShift_2 : decode cX3_setShift 2 = .ok (.lconst 0, 1) := by decide +kernel
theorem dX3_setShift_3 : decode cX3_setShift 3 = .ok (.ldc2_w 61, 3) := by decide +kernel
theorem dX3_setShift_6 : decode cX3_setShift 6 = .ok (.invokestatic 45, 3) := by decide +kernel
theorem dX3_setShift_9 : decode cX3_setShift 9 = .ok (.ifCond .ne 6, 3) := by decide +kernel
theorem dX3_setShift_12 : decode cX3_setShift 12 = .ok (.bipush (-2), 2) := by decide +kernel
theorem dX3_setShift_14 : decode cX3_setShift 14 = .ok (.ireturn, 1) := by decide +kernel
theorem dX3_setShift_15 : decode cX3_setShift 15 = .ok (.aload_n 0, 1) := by decide +kernel
theorem dX3_setShift_16 : decode cX3_setShift 16 = .ok (.getfield 24, 3) := by decide +kernel
theorem dX3_setShift_19 : decode cX3_setShift 19 = .ok (.istore_n 2, 1) := by decide +kernel
theorem dX3_setShift_20 : decode cX3_setShift 20 = .ok (.aload_n 0, 1) := by decide +kernel
theorem dX3_setShift_21 : decode cX3_setShift 21 = .ok (.iload_n 1, 1) := by decide +kernel
theorem dX3_setShift_22 : decode cX3_setShift 22 = .ok (.putfield 24, 3) := by decide +kernel
theorem dX3_setShift_25 : decode cX3_setShift 25 = .ok (.iload_n 2, 1) := by decide +kernel
theorem dX3_setShift_26 : decode cX3_setShift 26 = .ok (.ireturn, 1) := by decide +kernel
theorem dX3_setReach_0 : decode cX3_setReach 0 = .ok (.iload_n 1, 1) := by decide +kernel
theorem dX3_setReach_1 : decode cX3_setReach 1 = .ok (.i2l, 1) := by decide +kernel
theorem dX3_setReach_2 : decode cX3_setReach 2 = .ok (.lconst 0, 1) := by decide +kernel
theorem dX3_setReach_3 : decode cX3_setReach 3 = .ok (.ldc2_w 63, 3) := by decide +kernel
theorem dX3_setReach_6 : decode cX3_setReach 6 = .ok (.invokestatic 45, 3) := by decide +kernel
theorem dX3_setReach_9 : decode cX3_setReach 9 = .ok (.ifCond .ne 6, 3) := by decide +kernel
theorem dX3_setReach_12 : decode cX3_setReach 12 = .ok (.bipush (-2), 2) := by decide +kernel
theorem dX3_setReach_14 : decode cX3_setReach 14 = .ok (.ireturn, 1) := by decide +kernel
theorem dX3_setReach_15 : decode cX3_setReach 15 = .ok (.aload_n 0, 1) := by decide +kernel
theorem dX3_setReach_16 : decode cX3_setReach 16 = .ok (.getfield 28, 3) := by decide +kernel
theorem dX3_setReach_19 : decode cX3_setReach 19 = .ok (.istore_n 2, 1) := by decide +kernel
theorem dX3_setReach_20 : decode cX3_setReach 20 = .ok (.aload_n 0, 1) := by decide +kernel
theorem dX3_setReach_21 : decode cX3_setReach 21 = .ok (.iload_n 1, 1) := by decide +kernel
theorem dX3_setReach_22 : decode cX3_setReach 22 = .ok (.putfield 28, 3) := by decide +kernel
theorem dX3_setReach_25 : decode cX3_setReach 25 = .ok (.iload_n 2, 1) := by decide +kernel
theorem dX3_setReach_26 : decode cX3_setReach 26 = .ok (.ireturn, 1) := by decide +kernel
theorem dX3_wearTooth_0 : decode cX3_wearTooth 0 = .ok (.iload_n 1, 1) := by decide +kernel
theorem dX3_wearTooth_1 : decode cX3_wearTooth 1 = .ok (.i2l, 1) := by decide +kernel
theorem dX3_wearTooth_2 : decode cX3_wearTooth 2 = .ok (.lconst 0, 1) := by decide +kernel
theorem dX3_wearTooth_3 : decode cX3_wearTooth 3 = .ok (.ldc2_w 43, 3) := by decide +kernel
theorem dX3_wearTooth_6 : decode cX3_wearTooth 6 = .ok (.invokestatic 45, 3) := by decide +kernel
theorem dX3_wearTooth_9 : decode cX3_wearTooth 9 = .ok (.ifCond .eq 15, 3) := by decide +kernel
theorem dX3_wearTooth_12 : decode cX3_wearTooth 12 = .ok (.iload_n 2, 1) := by decide +kernel
theorem dX3_wearTooth_13 : decode cX3_wearTooth 13 = .ok (.i2l, 1) := by decide +kernel
theorem dX3_wearTooth_14 : decode cX3_wearTooth 14 = .ok (.lconst 1, 1) := by decide +kernel
theorem dX3_wearTooth_15 : decode cX3_wearTooth 15 = .ok (.ldc2_w 49, 3) := by decide +kernel
theorem dX3_wearTooth_18 : decode cX3_wearTooth 18 = .ok (.invokestatic 45, 3) := by decide +kernel
theorem dX3_wearTooth_21 : decode cX3_wearTooth 21 = .ok (.ifCond .ne 6, 3) := by decide +kernel
theorem dX3_wearTooth_24 : decode cX3_wearTooth 24 = .ok (.bipush (-2), 2) := by decide +kernel
theorem dX3_wearTooth_26 : decode cX3_wearTooth 26 = .ok (.ireturn, 1) := by decide +kernel
theorem dX3_wearTooth_27 : decode cX3_wearTooth 27 = .ok (.aload_n 0, 1) := by decide +kernel
theorem dX3_wearTooth_28 : decode cX3_wearTooth 28 = .ok (.getfield 15, 3) := by decide +kernel
theorem dX3_wearTooth_31 : decode cX3_wearTooth 31 = .ok (.iload_n 1, 1) := by decide +kernel
theorem dX3_wearTooth_32 : decode cX3_wearTooth 32 = .ok (.dup2, 1) := by decide +kernel
theorem dX3_wearTooth_33 : decode cX3_wearTooth 33 = .ok (.iaload, 1) := by decide +kernel
theorem dX3_wearTooth_34 : decode cX3_wearTooth 34 = .ok (.iconst 1, 1) := by decide +kernel
theorem dX3_wearTooth_35 : decode cX3_wearTooth 35 = .ok (.iload_n 2, 1) := by decide +kernel
theorem dX3_wearTooth_36 : decode cX3_wearTooth 36 = .ok (.ishl, 1) := by decide +kernel
theorem dX3_wearTooth_37 : decode cX3_wearTooth 37 = .ok (.ixor, 1) := by decide +kernel
theorem dX3_wearTooth_38 : decode cX3_wearTooth 38 = .ok (.iastore, 1) := by decide +kernel
theorem dX3_wearTooth_39 : decode cX3_wearTooth 39 = .ok (.aload_n 0, 1) := by decide +kernel
theorem dX3_wearTooth_40 : decode cX3_wearTooth 40 = .ok (.getfield 15, 3) := by decide +kernel
theorem dX3_wearTooth_43 : decode cX3_wearTooth 43 = .ok (.iload_n 1, 1) := by decide +kernel
theorem dX3_wearTooth_44 : decode cX3_wearTooth 44 = .ok (.iaload, 1) := by decide +kernel
theorem dX3_wearTooth_45 : decode cX3_wearTooth 45 = .ok (.invokestatic 65, 3) := by decide +kernel
theorem dX3_wearTooth_48 : decode cX3_wearTooth 48 = .ok (.ireturn, 1) := by decide +kernel
theorem dX3_clearAll_0 : decode cX3_clearAll 0 = .ok (.aload_n 0, 1) := by decide +kernel
theorem dX3_clearAll_1 : decode cX3_clearAll 1 = .ok (.getfield 21, 3) := by decide +kernel
theorem dX3_clearAll_4 : decode cX3_clearAll 4 = .ok (.iconst 0, 1) := by decide +kernel
theorem dX3_clearAll_5 : decode cX3_clearAll 5 = .ok (.invokestatic 71, 3) := by decide +kernel
theorem dX3_clearAll_8 : decode cX3_clearAll 8 = .ok (.aload_n 0, 1) := by decide +kernel
theorem dX3_clearAll_9 : decode cX3_clearAll 9 = .ok (.getfield 18, 3) := by decide +kernel
theorem dX3_clearAll_12 : decode cX3_clearAll 12 = .ok (.lconst 0, 1) := by decide +kernel
theorem dX3_clearAll_13 : decode cX3_clearAll 13 = .ok (.invokestatic 57, 3) := by decide +kernel
theorem dX3_clearAll_16 : decode cX3_clearAll 16 = .ok (.ireturn, 1) := by decide +kernel
theorem dX3_layWheels_0 : decode cX3_layWheels 0 = .ok (.lload_n 1, 1) := by decide +kernel
theorem dX3_layWheels_1 : decode cX3_layWheels 1 = .ok (.lconst 0, 1) := by decide +kernel
theorem dX3_layWheels_2 : decode cX3_layWheels 2 = .ok (.ldc2_w 77, 3) := by decide +kernel
theorem dX3_layWheels_5 : decode cX3_layWheels 5 = .ok (.invokestatic 45, 3) := by decide +kernel
theorem dX3_layWheels_8 : decode cX3_layWheels 8 = .ok (.ifCond .eq 14, 3) := by decide +kernel
theorem dX3_layWheels_11 : decode cX3_layWheels 11 = .ok (.aload_n 0, 1) := by decide +kernel
theorem dX3_layWheels_12 : decode cX3_layWheels 12 = .ok (.getfield 18, 3) := by decide +kernel
theorem dX3_layWheels_15 : decode cX3_layWheels 15 = .ok (.lload_n 1, 1) := by decide +kernel
theorem dX3_layWheels_16 : decode cX3_layWheels 16 = .ok (.invokestatic 57, 3) := by decide +kernel
theorem dX3_layWheels_19 : decode cX3_layWheels 19 = .ok (.goto 5, 3) := by decide +kernel
theorem dX3_layWheels_22 : decode cX3_layWheels 22 = .ok (.bipush (-2), 2) := by decide +kernel
theorem dX3_layWheels_24 : decode cX3_layWheels 24 = .ok (.ireturn, 1) := by decide +kernel
theorem dX3_turnOften_0 : decode cX3_turnOften 0 = .ok (.iload_n 1, 1) := by decide +kernel
theorem dX3_turnOften_1 : decode cX3_turnOften 1 = .ok (.i2l, 1) := by decide +kernel
theorem dX3_turnOften_2 : decode cX3_turnOften 2 = .ok (.lconst 1, 1) := by decide +kernel
theorem dX3_turnOften_3 : decode cX3_turnOften 3 = .ok (.ldc2_w 79, 3) := by decide +kernel
theorem dX3_turnOften_6 : decode cX3_turnOften 6 = .ok (.invokestatic 45, 3) := by decide +kernel
theorem dX3_turnOften_9 : decode cX3_turnOften 9 = .ok (.ifCond .ne 6, 3) := by decide +kernel
theorem dX3_turnOften_12 : decode cX3_turnOften 12 = .ok (.bipush (-2), 2) := by decide +kernel
theorem dX3_turnOften_14 : decode cX3_turnOften 14 = .ok (.ireturn, 1) := by decide +kernel
theorem dX3_turnOften_15 : decode cX3_turnOften 15 = .ok (.aload_n 0, 1) := by decide +kernel
theorem dX3_turnOften_16 : decode cX3_turnOften 16 = .ok (.getfield 31, 3) := by decide +kernel
theorem dX3_turnOften_19 : decode cX3_turnOften 19 = .ok (.istore_n 3, 1) := by decide +kernel
theorem dX3_turnOften_20 : decode cX3_turnOften 20 = .ok (.iconst 0, 1) := by decide +kernel
theorem dX3_turnOften_21 : decode cX3_turnOften 21 = .ok (.istore 4, 2) := by decide +kernel
theorem dX3_turnOften_23 : decode cX3_turnOften 23 = .ok (.iload 4, 2) := by decide +kernel
theorem dX3_turnOften_25 : decode cX3_turnOften 25 = .ok (.iload_n 1, 1) := by decide +kernel
theorem dX3_turnOften_26 : decode cX3_turnOften 26 = .ok (.if_icmp .ge 16, 3) := by decide +kernel
theorem dX3_turnOften_29 : decode cX3_turnOften 29 = .ok (.aload_n 0, 1) := by decide +kernel
theorem dX3_turnOften_30 : decode cX3_turnOften 30 = .ok (.iload_n 2, 1) := by decide +kernel
theorem dX3_turnOften_31 : decode cX3_turnOften 31 = .ok (.iload_n 2, 1) := by decide +kernel
theorem dX3_turnOften_32 : decode cX3_turnOften 32 = .ok (.invokevirtual 81, 3) := by decide +kernel
theorem dX3_turnOften_35 : decode cX3_turnOften 35 = .ok (.pop, 1) := by decide +kernel
theorem dX3_turnOften_36 : decode cX3_turnOften 36 = .ok (.iinc 4 1, 3) := by decide +kernel
theorem dX3_turnOften_39 : decode cX3_turnOften 39 = .ok (.goto (-16), 3) := by decide +kernel
theorem dX3_turnOften_42 : decode cX3_turnOften 42 = .ok (.aload_n 0, 1) := by decide +kernel
theorem dX3_turnOften_43 : decode cX3_turnOften 43 = .ok (.getfield 31, 3) := by decide +kernel
theorem dX3_turnOften_46 : decode cX3_turnOften 46 = .ok (.iload_n 3, 1) := by decide +kernel
theorem dX3_turnOften_47 : decode cX3_turnOften 47 = .ok (.isub, 1) := by decide +kernel
theorem dX3_turnOften_48 : decode cX3_turnOften 48 = .ok (.ireturn, 1) := by decide +kernel
theorem dX3_multiply_0 : decode cX3_multiply 0 = .ok (.iload_n 1, 1) := by decide +kernel
theorem dX3_multiply_1 : decode cX3_multiply 1 = .ok (.iload_n 2, 1) := by decide +kernel
theorem dX3_multiply_2 : decode cX3_multiply 2 = .ok (.invokestatic 85, 3) := by decide +kernel
theorem dX3_multiply_5 : decode cX3_multiply 5 = .ok (.ifCond .ne 6, 3) := by decide +kernel
theorem dX3_multiply_8 : decode cX3_multiply 8 = .ok (.bipush (-2), 2) := by decide +kernel
theorem dX3_multiply_10 : decode cX3_multiply 10 = .ok (.ireturn, 1) := by decide +kernel
theorem dX3_multiply_11 : decode cX3_multiply 11 = .ok (.aload_n 0, 1) := by decide +kernel
theorem dX3_multiply_12 : decode cX3_multiply 12 = .ok (.getfield 34, 3) := by decide +kernel
theorem dX3_multiply_15 : decode cX3_multiply 15 = .ok (.istore_n 3, 1) := by decide +kernel
theorem dX3_multiply_16 : decode cX3_multiply 16 = .ok (.aload_n 0, 1) := by decide +kernel
theorem dX3_multiply_17 : decode cX3_multiply 17 = .ok (.invokevirtual 88, 3) := by decide +kernel
theorem dX3_multiply_20 : decode cX3_multiply 20 = .ok (.pop, 1) := by decide +kernel
theorem dX3_multiply_21 : decode cX3_multiply 21 = .ok (.iload_n 1, 1) := by decide +kernel
theorem dX3_multiply_22 : decode cX3_multiply 22 = .ok (.istore 4, 2) := by decide +kernel
theorem dX3_multiply_24 : decode cX3_multiply 24 = .ok (.iconst 0, 1) := by decide +kernel
theorem dX3_multiply_25 : decode cX3_multiply 25 = .ok (.istore 5, 2) := by decide +kernel
theorem dX3_multiply_27 : decode cX3_multiply 27 = .ok (.iload 5, 2) := by decide +kernel
theorem dX3_multiply_29 : decode cX3_multiply 29 = .ok (.iload_n 2, 1) := by decide +kernel
theorem dX3_multiply_30 : decode cX3_multiply 30 = .ok (.invokestatic 92, 3) := by decide +kernel
theorem dX3_multiply_33 : decode cX3_multiply 33 = .ok (.if_icmp .ge 72, 3) := by decide +kernel
theorem dX3_multiply_36 : decode cX3_multiply 36 = .ok (.aload_n 0, 1) := by decide +kernel
theorem dX3_multiply_37 : decode cX3_multiply 37 = .ok (.iload 5, 2) := by decide +kernel
theorem dX3_multiply_39 : decode cX3_multiply 39 = .ok (.putfield 24, 3) := by decide +kernel
theorem dX3_multiply_42 : decode cX3_multiply 42 = .ok (.iload 4, 2) := by decide +kernel
theorem dX3_multiply_44 : decode cX3_multiply 44 = .ok (.iload_n 2, 1) := by decide +kernel
theorem dX3_multiply_45 : decode cX3_multiply 45 = .ok (.invokestatic 95, 3) := by decide +kernel
theorem dX3_multiply_48 : decode cX3_multiply 48 = .ok (.istore 6, 2) := by decide +kernel
theorem dX3_multiply_50 : decode cX3_multiply 50 = .ok (.iload 4, 2) := by decide +kernel
theorem dX3_multiply_52 : decode cX3_multiply 52 = .ok (.iload 6, 2) := by decide +kernel
theorem dX3_multiply_54 : decode cX3_multiply 54 = .ok (.invokestatic 99, 3) := by decide +kernel
theorem dX3_multiply_57 : decode cX3_multiply 57 = .ok (.istore 4, 2) := by decide +kernel
theorem dX3_multiply_59 : decode cX3_multiply 59 = .ok (.iload 6, 2) := by decide +kernel
theorem dX3_multiply_61 : decode cX3_multiply 61 = .ok (.ifCond .ge 7, 3) := by decide +kernel
theorem dX3_multiply_64 : decode cX3_multiply 64 = .ok (.iconst (-1), 1) := by decide +kernel
theorem dX3_multiply_65 : decode cX3_multiply 65 = .ok (.goto 4, 3) := by decide +kernel
theorem dX3_multiply_68 : decode cX3_multiply 68 = .ok (.iconst 1, 1) := by decide +kernel
theorem dX3_multiply_69 : decode cX3_multiply 69 = .ok (.istore 7, 2) := by decide +kernel
theorem dX3_multiply_71 : decode cX3_multiply 71 = .ok (.iconst 0, 1) := by decide +kernel
theorem dX3_multiply_72 : decode cX3_multiply 72 = .ok (.istore 8, 2) := by decide +kernel
theorem dX3_multiply_74 : decode cX3_multiply 74 = .ok (.iload 8, 2) := by decide +kernel
theorem dX3_multiply_76 : decode cX3_multiply 76 = .ok (.iload 6, 2) := by decide +kernel
theorem dX3_multiply_78 : decode cX3_multiply 78 = .ok (.invokestatic 102, 3) := by decide +kernel
theorem dX3_multiply_81 : decode cX3_multiply 81 = .ok (.if_icmp .ge 18, 3) := by decide +kernel
theorem dX3_multiply_84 : decode cX3_multiply 84 = .ok (.aload_n 0, 1) := by decide +kernel
theorem dX3_multiply_85 : decode cX3_multiply 85 = .ok (.iload 7, 2) := by decide +kernel
theorem dX3_multiply_87 : decode cX3_multiply 87 = .ok (.iload 7, 2) := by decide +kernel
theorem dX3_multiply_89 : decode cX3_multiply 89 = .ok (.invokevirtual 81, 3) := by decide +kernel
theorem dX3_multiply_92 : decode cX3_multiply 92 = .ok (.pop, 1) := by decide +kernel
theorem dX3_multiply_93 : decode cX3_multiply 93 = .ok (.iinc 8 1, 3) := by decide +kernel
theorem dX3_multiply_96 : decode cX3_multiply 96 = .ok (.goto (-22), 3) := by decide +kernel
theorem dX3_multiply_99 : decode cX3_multiply 99 = .ok (.iinc 5 1, 3) := by decide +kernel
theorem dX3_multiply_102 : decode cX3_multiply 102 = .ok (.goto (-75), 3) := by decide +kernel
theorem dX3_multiply_105 : decode cX3_multiply 105 = .ok (.aload_n 0, 1) := by decide +kernel
theorem dX3_multiply_106 : decode cX3_multiply 106 = .ok (.getfield 34, 3) := by decide +kernel
theorem dX3_multiply_109 : decode cX3_multiply 109 = .ok (.iload_n 3, 1) := by decide +kernel
theorem dX3_multiply_110 : decode cX3_multiply 110 = .ok (.isub, 1) := by decide +kernel
theorem dX3_multiply_111 : decode cX3_multiply 111 = .ok (.ireturn, 1) := by decide +kernel
theorem dX3_divide_0 : decode cX3_divide 0 = .ok (.aload_n 0, 1) := by decide +kernel
theorem dX3_divide_1 : decode cX3_divide 1 = .ok (.invokevirtual 107, 3) := by decide +kernel
theorem dX3_divide_4 : decode cX3_divide 4 = .ok (.ifCond .ne 6, 3) := by decide +kernel
theorem dX3_divide_7 : decode cX3_divide 7 = .ok (.bipush (-3), 2) := by decide +kernel
theorem dX3_divide_9 : decode cX3_divide 9 = .ok (.ireturn, 1) := by decide +kernel
theorem dX3_divide_10 : decode cX3_divide 10 = .ok (.aload_n 0, 1) := by decide +kernel
theorem dX3_divide_11 : decode cX3_divide 11 = .ok (.getfield 34, 3) := by decide +kernel
theorem dX3_divide_14 : decode cX3_divide 14 = .ok (.istore_n 1, 1) := by decide +kernel
theorem dX3_divide_15 : decode cX3_divide 15 = .ok (.aload_n 0, 1) := by decide +kernel
theorem dX3_divide_16 : decode cX3_divide 16 = .ok (.getfield 21, 3) := by decide +kernel
theorem dX3_divide_19 : decode cX3_divide 19 = .ok (.iconst 0, 1) := by decide +kernel
theorem dX3_divide_20 : decode cX3_divide 20 = .ok (.invokestatic 71, 3) := by decide +kernel
theorem dX3_divide_23 : decode cX3_divide 23 = .ok (.bipush 6, 2) := by decide +kernel
theorem dX3_divide_25 : decode cX3_divide 25 = .ok (.istore_n 2, 1) := by decide +kernel
theorem dX3_divide_26 : decode cX3_divide 26 = .ok (.iload_n 2, 1) := by decide +kernel
theorem dX3_divide_27 : decode cX3_divide 27 = .ok (.ifCond .lt 31, 3) := by decide +kernel
theorem dX3_divide_30 : decode cX3_divide 30 = .ok (.aload_n 0, 1) := by decide +kernel
theorem dX3_divide_31 : decode cX3_divide 31 = .ok (.iload_n 2, 1) := by decide +kernel
theorem dX3_divide_32 : decode cX3_divide 32 = .ok (.putfield 24, 3) := by decide +kernel
theorem dX3_divide_35 : decode cX3_divide 35 = .ok (.aload_n 0, 1) := by decide +kernel
theorem dX3_divide_36 : decode cX3_divide 36 = .ok (.invokevirtual 110, 3) := by decide +kernel
theorem dX3_divide_39 : decode cX3_divide 39 = .ok (.ifCond .ne 6, 3) := by decide +kernel
theorem dX3_divide_42 : decode cX3_divide 42 = .ok (.bipush (-3), 2) := by decide +kernel
theorem dX3_divide_44 : decode cX3_divide 44 = .ok (.ireturn, 1) := by decide +kernel
theorem dX3_divide_45 : decode cX3_divide 45 = .ok (.aload_n 0, 1) := by decide +kernel
theorem dX3_divide_46 : decode cX3_divide 46 = .ok (.iconst 1, 1) := by decide +kernel
theorem dX3_divide_47 : decode cX3_divide 47 = .ok (.iconst (-1), 1) := by decide +kernel
theorem dX3_divide_48 : decode cX3_divide 48 = .ok (.invokevirtual 81, 3) := by decide +kernel
theorem dX3_divide_51 : decode cX3_divide 51 = .ok (.pop, 1) := by decide +kernel
theorem dX3_divide_52 : decode cX3_divide 52 = .ok (.iinc 2 (-1), 3) := by decide +kernel
theorem dX3_divide_55 : decode cX3_divide 55 = .ok (.goto (-29), 3) := by decide +kernel
theorem dX3_divide_58 : decode cX3_divide 58 = .ok (.aload_n 0, 1) := by decide +kernel
theorem dX3_divide_59 : decode cX3_divide 59 = .ok (.getfield 34, 3) := by decide +kernel
theorem dX3_divide_62 : decode cX3_divide 62 = .ok (.iload_n 1, 1) := by decide +kernel
theorem dX3_divide_63 : decode cX3_divide 63 = .ok (.isub, 1) := by decide +kernel
theorem dX3_divide_64 : decode cX3_divide 64 = .ok (.ireturn, 1) := by decide +kernel
theorem dX3_turnDownTillBell_0 : decode cX3_turnDownTillBell 0 = .ok (.iconst 0, 1) := by decide +kernel
theorem dX3_turnDownTillBell_1 : decode cX3_turnDownTillBell 1 = .ok (.istore_n 1, 1) := by decide +kernel
theorem dX3_turnDownTillBell_2 : decode cX3_turnDownTillBell 2 = .ok (.iload_n 1, 1) := by decide +kernel
theorem dX3_turnDownTillBell_3 : decode cX3_turnDownTillBell 3 = .ok (.bipush 20, 2) := by decide +kernel
theorem dX3_turnDownTillBell_5 : decode cX3_turnDownTillBell 5 = .ok (.if_icmp .ge 20, 3) := by decide +kernel
theorem dX3_turnDownTillBell_8 : decode cX3_turnDownTillBell 8 = .ok (.aload_n 0, 1) := by decide +kernel
theorem dX3_turnDownTillBell_9 : decode cX3_turnDownTillBell 9 = .ok (.iconst (-1), 1) := by decide +kernel
theorem dX3_turnDownTillBell_10 : decode cX3_turnDownTillBell 10 = .ok (.iconst 1, 1) := by decide +kernel
theorem dX3_turnDownTillBell_11 : decode cX3_turnDownTillBell 11 = .ok (.invokevirtual 81, 3) := by decide +kernel
theorem dX3_turnDownTillBell_14 : decode cX3_turnDownTillBell 14 = .ok (.ifCond .eq 5, 3) := by decide +kernel
theorem dX3_turnDownTillBell_17 : decode cX3_turnDownTillBell 17 = .ok (.iconst 1, 1) := by decide +kernel
theorem dX3_turnDownTillBell_18 : decode cX3_turnDownTillBell 18 = .ok (.ireturn, 1) := by decide +kernel
theorem dX3_turnDownTillBell_19 : decode cX3_turnDownTillBell 19 = .ok (.iinc 1 1, 3) := by decide +kernel
theorem dX3_turnDownTillBell_22 : decode cX3_turnDownTillBell 22 = .ok (.goto (-20), 3) := by decide +kernel
theorem dX3_turnDownTillBell_25 : decode cX3_turnDownTillBell 25 = .ok (.iconst 0, 1) := by decide +kernel
theorem dX3_turnDownTillBell_26 : decode cX3_turnDownTillBell 26 = .ok (.ireturn, 1) := by decide +kernel
theorem dX3_turnOnce_0 : decode cX3_turnOnce 0 = .ok (.aload_n 0, 1) := by decide +kernel
theorem dX3_turnOnce_1 : decode cX3_turnOnce 1 = .ok (.getfield 24, 3) := by decide +kernel
theorem dX3_turnOnce_4 : decode cX3_turnOnce 4 = .ok (.bipush 6, 2) := by decide +kernel
theorem dX3_turnOnce_6 : decode cX3_turnOnce 6 = .ok (.iadd, 1) := by decide +kernel
theorem dX3_turnOnce_7 : decode cX3_turnOnce 7 = .ok (.iconst 1, 1) := by decide +kernel
theorem dX3_turnOnce_8 : decode cX3_turnOnce 8 = .ok (.isub, 1) := by decide +kernel
theorem dX3_turnOnce_9 : decode cX3_turnOnce 9 = .ok (.aload_n 0, 1) := by decide +kernel
theorem dX3_turnOnce_10 : decode cX3_turnOnce 10 = .ok (.getfield 28, 3) := by decide +kernel
theorem dX3_turnOnce_13 : decode cX3_turnOnce 13 = .ok (.iadd, 1) := by decide +kernel
theorem dX3_turnOnce_14 : decode cX3_turnOnce 14 = .ok (.istore_n 3, 1) := by decide +kernel
theorem dX3_turnOnce_15 : decode cX3_turnOnce 15 = .ok (.iconst 0, 1) := by decide +kernel
theorem dX3_turnOnce_16 : decode cX3_turnOnce 16 = .ok (.istore 4, 2) := by decide +kernel
theorem dX3_turnOnce_18 : decode cX3_turnOnce 18 = .ok (.aload_n 0, 1) := by decide +kernel
theorem dX3_turnOnce_19 : decode cX3_turnOnce 19 = .ok (.getfield 24, 3) := by decide +kernel
theorem dX3_turnOnce_22 : decode cX3_turnOnce 22 = .ok (.istore 5, 2) := by decide +kernel
theorem dX3_turnOnce_24 : decode cX3_turnOnce 24 = .ok (.iload 5, 2) := by decide +kernel
theorem dX3_turnOnce_26 : decode cX3_turnOnce 26 = .ok (.bipush 12, 2) := by decide +kernel
theorem dX3_turnOnce_28 : decode cX3_turnOnce 28 = .ok (.if_icmp .ge 118, 3) := by decide +kernel
theorem dX3_turnOnce_31 : decode cX3_turnOnce 31 = .ok (.iload 5, 2) := by decide +kernel
theorem dX3_turnOnce_33 : decode cX3_turnOnce 33 = .ok (.aload_n 0, 1) := by decide +kernel
theorem dX3_turnOnce_34 : decode cX3_turnOnce 34 = .ok (.getfield 24, 3) := by decide +kernel
theorem dX3_turnOnce_37 : decode cX3_turnOnce 37 = .ok (.bipush 6, 2) := by decide +kernel
theorem dX3_turnOnce_39 : decode cX3_turnOnce 39 = .ok (.iadd, 1) := by decide +kernel
theorem dX3_turnOnce_40 : decode cX3_turnOnce 40 = .ok (.if_icmp .ge 7, 3) := by decide +kernel
theorem dX3_turnOnce_43 : decode cX3_turnOnce 43 = .ok (.iconst 1, 1) := by decide +kernel
theorem dX3_turnOnce_44 : decode cX3_turnOnce 44 = .ok (.goto 4, 3) := by decide +kernel
theorem dX3_turnOnce_47 : decode cX3_turnOnce 47 = .ok (.iconst 0, 1) := by decide +kernel
theorem dX3_turnOnce_48 : decode cX3_turnOnce 48 = .ok (.istore 6, 2) := by decide +kernel
theorem dX3_turnOnce_50 : decode cX3_turnOnce 50 = .ok (.iload 6, 2) := by decide +kernel
theorem dX3_turnOnce_52 : decode cX3_turnOnce 52 = .ok (.ifCond .ne 17, 3) := by decide +kernel
theorem dX3_turnOnce_55 : decode cX3_turnOnce 55 = .ok (.iload 4, 2) := by decide +kernel
theorem dX3_turnOnce_57 : decode cX3_turnOnce 57 = .ok (.ifCond .eq 89, 3) := by decide +kernel
theorem dX3_turnOnce_60 : decode cX3_turnOnce 60 = .ok (.iload 5, 2) := by decide +kernel
theorem dX3_turnOnce_62 : decode cX3_turnOnce 62 = .ok (.iload_n 3, 1) := by decide +kernel
theorem dX3_turnOnce_63 : decode cX3_turnOnce 63 = .ok (.if_icmp .le 6, 3) := by decide +kernel
theorem dX3_turnOnce_66 : decode cX3_turnOnce 66 = .ok (.goto 80, 3) := by decide +kernel
theorem dX3_turnOnce_69 : decode cX3_turnOnce 69 = .ok (.aload_n 0, 1) := by decide +kernel
theorem dX3_turnOnce_70 : decode cX3_turnOnce 70 = .ok (.getfield 18, 3) := by decide +kernel
theorem dX3_turnOnce_73 : decode cX3_turnOnce 73 = .ok (.iload 5, 2) := by decide +kernel
theorem dX3_turnOnce_75 : decode cX3_turnOnce 75 = .ok (.iaload, 1) := by decide +kernel
theorem dX3_turnOnce_76 : decode cX3_turnOnce 76 = .ok (.iload_n 1, 1) := by decide +kernel
theorem dX3_turnOnce_77 : decode cX3_turnOnce 77 = .ok (.iload 6, 2) := by decide +kernel
theorem dX3_turnOnce_79 : decode cX3_turnOnce 79 = .ok (.ifCond .eq 17, 3) := by decide +kernel
theorem dX3_turnOnce_82 : decode cX3_turnOnce 82 = .ok (.aload_n 0, 1) := by decide +kernel
theorem dX3_turnOnce_83 : decode cX3_turnOnce 83 = .ok (.iload 5, 2) := by decide +kernel
theorem dX3_turnOnce_85 : decode cX3_turnOnce 85 = .ok (.aload_n 0, 1) := by decide +kernel
theorem dX3_turnOnce_86 : decode cX3_turnOnce 86 = .ok (.getfield 24, 3) := by decide +kernel
theorem dX3_turnOnce_89 : decode cX3_turnOnce 89 = .ok (.isub, 1) := by decide +kernel
theorem dX3_turnOnce_90 : decode cX3_turnOnce 90 = .ok (.invokevirtual 114, 3) := by decide +kernel
theorem dX3_turnOnce_93 : decode cX3_turnOnce 93 = .ok (.goto 4, 3) := by decide +kernel
theorem dX3_turnOnce_96 : decode cX3_turnOnce 96 = .ok (.iconst 0, 1) := by decide +kernel
theorem dX3_turnOnce_97 : decode cX3_turnOnce 97 = .ok (.iload 4, 2) := by decide +kernel
theorem dX3_turnOnce_99 : decode cX3_turnOnce 99 = .ok (.iadd, 1) := by decide +kernel
theorem dX3_turnOnce_100 : decode cX3_turnOnce 100 = .ok (.imul, 1) := by decide +kernel
theorem dX3_turnOnce_101 : decode cX3_turnOnce 101 = .ok (.iadd, 1) := by decide +kernel
theorem dX3_turnOnce_102 : decode cX3_turnOnce 102 = .ok (.istore 7, 2) := by decide +kernel
theorem dX3_turnOnce_104 : decode cX3_turnOnce 104 = .ok (.iload 7, 2) := by decide +kernel
theorem dX3_turnOnce_106 : decode cX3_turnOnce 106 = .ok (.ifCond .lt 10, 3) := by decide +kernel
theorem dX3_turnOnce_109 : decode cX3_turnOnce 109 = .ok (.iload 7, 2) := by decide +kernel
theorem dX3_turnOnce_111 : decode cX3_turnOnce 111 = .ok (.bipush 9, 2) := by decide +kernel
theorem dX3_turnOnce_113 : decode cX3_turnOnce 113 = .ok (.if_icmp .le 7, 3) := by decide +kernel
theorem dX3_turnOnce_116 : decode cX3_turnOnce 116 = .ok (.iconst 1, 1) := by decide +kernel
theorem dX3_turnOnce_117 : decode cX3_turnOnce 117 = .ok (.goto 4, 3) := by decide +kernel
theorem dX3_turnOnce_120 : decode cX3_turnOnce 120 = .ok (.iconst 0, 1) := by decide +kernel
theorem dX3_turnOnce_121 : decode cX3_turnOnce 121 = .ok (.istore 4, 2) := by decide +kernel
theorem dX3_turnOnce_123 : decode cX3_turnOnce 123 = .ok (.aload_n 0, 1) := by decide +kernel
theorem dX3_turnOnce_124 : decode cX3_turnOnce 124 = .ok (.getfield 18, 3) := by decide +kernel
theorem dX3_turnOnce_127 : decode cX3_turnOnce 127 = .ok (.iload 5, 2) := by decide +kernel
theorem dX3_turnOnce_129 : decode cX3_turnOnce 129 = .ok (.iload 7, 2) := by decide +kernel
theorem dX3_turnOnce_131 : decode cX3_turnOnce 131 = .ok (.iload_n 1, 1) := by decide +kernel
theorem dX3_turnOnce_132 : decode cX3_turnOnce 132 = .ok (.bipush 10, 2) := by decide +kernel
theorem dX3_turnOnce_134 : decode cX3_turnOnce 134 = .ok (.imul, 1) := by decide +kernel
theorem dX3_turnOnce_135 : decode cX3_turnOnce 135 = .ok (.iload 4, 2) := by decide +kernel
theorem dX3_turnOnce_137 : decode cX3_turnOnce 137 = .ok (.imul, 1) := by decide +kernel
theorem dX3_turnOnce_138 : decode cX3_turnOnce 138 = .ok (.isub, 1) := by decide +kernel
theorem dX3_turnOnce_139 : decode cX3_turnOnce 139 = .ok (.iastore, 1) := by decide +kernel
theorem dX3_turnOnce_140 : decode cX3_turnOnce 140 = .ok (.iinc 5 1, 3) := by decide +kernel
theorem dX3_turnOnce_143 : decode cX3_turnOnce 143 = .ok (.goto (-119), 3) := by decide +kernel
theorem dX3_turnOnce_146 : decode cX3_turnOnce 146 = .ok (.aload_n 0, 1) := by decide +kernel
theorem dX3_turnOnce_147 : decode cX3_turnOnce 147 = .ok (.getfield 21, 3) := by decide +kernel
theorem dX3_turnOnce_150 : decode cX3_turnOnce 150 = .ok (.aload_n 0, 1) := by decide +kernel
theorem dX3_turnOnce_151 : decode cX3_turnOnce 151 = .ok (.getfield 24, 3) := by decide +kernel
theorem dX3_turnOnce_154 : decode cX3_turnOnce 154 = .ok (.aload_n 0, 1) := by decide +kernel
theorem dX3_turnOnce_155 : decode cX3_turnOnce 155 = .ok (.getfield 21, 3) := by decide +kernel
theorem dX3_turnOnce_158 : decode cX3_turnOnce 158 = .ok (.aload_n 0, 1) := by decide +kernel
theorem dX3_turnOnce_159 : decode cX3_turnOnce 159 = .ok (.getfield 24, 3) := by decide +kernel
theorem dX3_turnOnce_162 : decode cX3_turnOnce 162 = .ok (.iaload, 1) := by decide +kernel
theorem dX3_turnOnce_163 : decode cX3_turnOnce 163 = .ok (.iload_n 2, 1) := by decide +kernel
theorem dX3_turnOnce_164 : decode cX3_turnOnce 164 = .ok (.iadd, 1) := by decide +kernel
theorem dX3_turnOnce_165 : decode cX3_turnOnce 165 = .ok (.bipush 10, 2) := by decide +kernel
theorem dX3_turnOnce_167 : decode cX3_turnOnce 167 = .ok (.iadd, 1) := by decide +kernel
theorem dX3_turnOnce_168 : decode cX3_turnOnce 168 = .ok (.bipush 10, 2) := by decide +kernel
theorem dX3_turnOnce_170 : decode cX3_turnOnce 170 = .ok (.irem, 1) := by decide +kernel
theorem dX3_turnOnce_171 : decode cX3_turnOnce 171 = .ok (.iastore, 1) := by decide +kernel
theorem dX3_turnOnce_172 : decode cX3_turnOnce 172 = .ok (.aload_n 0, 1) := by decide +kernel
theorem dX3_turnOnce_173 : decode cX3_turnOnce 173 = .ok (.dup, 1) := by decide +kernel
theorem dX3_turnOnce_174 : decode cX3_turnOnce 174 = .ok (.getfield 34, 3) := by decide +kernel
theorem dX3_turnOnce_177 : decode cX3_turnOnce 177 = .ok (.iconst 1, 1) := by decide +kernel
theorem dX3_turnOnce_178 : decode cX3_turnOnce 178 = .ok (.iadd, 1) := by decide +kernel
theorem dX3_turnOnce_179 : decode cX3_turnOnce 179 = .ok (.putfield 34, 3) := by decide +kernel
theorem dX3_turnOnce_182 : decode cX3_turnOnce 182 = .ok (.iload 4, 2) := by decide +kernel
theorem dX3_turnOnce_184 : decode cX3_turnOnce 184 = .ok (.iconst 1, 1) := by decide +kernel
theorem dX3_turnOnce_185 : decode cX3_turnOnce 185 = .ok (.if_icmp .ne 13, 3) := by decide +kernel
theorem dX3_turnOnce_188 : decode cX3_turnOnce 188 = .ok (.bipush 12, 2) := by decide +kernel
theorem dX3_turnOnce_190 : decode cX3_turnOnce 190 = .ok (.iload_n 3, 1) := by decide +kernel
theorem dX3_turnOnce_191 : decode cX3_turnOnce 191 = .ok (.if_icmp .gt 7, 3) := by decide +kernel
theorem dX3_turnOnce_194 : decode cX3_turnOnce 194 = .ok (.iconst 1, 1) := by decide +kernel
theorem dX3_turnOnce_195 : decode cX3_turnOnce 195 = .ok (.goto 4, 3) := by decide +kernel
theorem dX3_turnOnce_198 : decode cX3_turnOnce 198 = .ok (.iconst 0, 1) := by decide +kernel
theorem dX3_turnOnce_199 : decode cX3_turnOnce 199 = .ok (.istore 5, 2) := by decide +kernel
theorem dX3_turnOnce_201 : decode cX3_turnOnce 201 = .ok (.iload 5, 2) := by decide +kernel
theorem dX3_turnOnce_203 : decode cX3_turnOnce 203 = .ok (.ifCond .eq 13, 3) := by decide +kernel
theorem dX3_turnOnce_206 : decode cX3_turnOnce 206 = .ok (.aload_n 0, 1) := by decide +kernel
theorem dX3_turnOnce_207 : decode cX3_turnOnce 207 = .ok (.dup, 1) := by decide +kernel
theorem dX3_turnOnce_208 : decode cX3_turnOnce 208 = .ok (.getfield 31, 3) := by decide +kernel
theorem dX3_turnOnce_211 : decode cX3_turnOnce 211 = .ok (.iconst 1, 1) := by decide +kernel
theorem dX3_turnOnce_212 : decode cX3_turnOnce 212 = .ok (.iadd, 1) := by decide +kernel
theorem dX3_turnOnce_213 : decode cX3_turnOnce 213 = .ok (.putfield 31, 3) := by decide +kernel
theorem dX3_turnOnce_216 : decode cX3_turnOnce 216 = .ok (.iload 5, 2) := by decide +kernel
theorem dX3_turnOnce_218 : decode cX3_turnOnce 218 = .ok (.ireturn, 1) := by decide +kernel
theorem dX3_given_0 : decode cX3_given 0 = .ok (.iconst 2, 1) := by decide +kernel
theorem dX3_given_1 : decode cX3_given 1 = .ok (.aload_n 0, 1) := by decide +kernel
theorem dX3_given_2 : decode cX3_given 2 = .ok (.getfield 9, 3) := by decide +kernel
theorem dX3_given_5 : decode cX3_given 5 = .ok (.iload_n 1, 1) := by decide +kernel
theorem dX3_given_6 : decode cX3_given 6 = .ok (.iaload, 1) := by decide +kernel
theorem dX3_given_7 : decode cX3_given 7 = .ok (.ishl, 1) := by decide +kernel
theorem dX3_given_8 : decode cX3_given 8 = .ok (.iconst 1, 1) := by decide +kernel
theorem dX3_given_9 : decode cX3_given 9 = .ok (.isub, 1) := by decide +kernel
theorem dX3_given_10 : decode cX3_given 10 = .ok (.istore_n 2, 1) := by decide +kernel
theorem dX3_given_11 : decode cX3_given 11 = .ok (.aload_n 0, 1) := by decide +kernel
theorem dX3_given_12 : decode cX3_given 12 = .ok (.getfield 9, 3) := by decide +kernel
theorem dX3_given_15 : decode cX3_given 15 = .ok (.iload_n 1, 1) := by decide +kernel
theorem dX3_given_16 : decode cX3_given 16 = .ok (.iaload, 1) := by decide +kernel
theorem dX3_given_17 : decode cX3_given 17 = .ok (.aload_n 0, 1) := by decide +kernel
theorem dX3_given_18 : decode cX3_given 18 = .ok (.getfield 15, 3) := by decide +kernel
theorem dX3_given_21 : decode cX3_given 21 = .ok (.iload_n 1, 1) := by decide +kernel
theorem dX3_given_22 : decode cX3_given 22 = .ok (.iaload, 1) := by decide +kernel
theorem dX3_given_23 : decode cX3_given 23 = .ok (.iload_n 2, 1) := by decide +kernel
theorem dX3_given_24 : decode cX3_given 24 = .ok (.iand, 1) := by decide +kernel
theorem dX3_given_25 : decode cX3_given 25 = .ok (.invokestatic 65, 3) := by decide +kernel
theorem dX3_given_28 : decode cX3_given 28 = .ok (.isub, 1) := by decide +kernel
theorem dX3_given_29 : decode cX3_given 29 = .ok (.ireturn, 1) := by decide +kernel
theorem dX3_numberGiven_0 : decode cX3_numberGiven 0 = .ok (.iconst 0, 1) := by decide +kernel
theorem dX3_numberGiven_1 : decode cX3_numberGiven 1 = .ok (.istore_n 1, 1) := by decide +kernel
theorem dX3_numberGiven_2 : decode cX3_numberGiven 2 = .ok (.iconst 5, 1) := by decide +kernel
theorem dX3_numberGiven_3 : decode cX3_numberGiven 3 = .ok (.istore_n 2, 1) := by decide +kernel
theorem dX3_numberGiven_4 : decode cX3_numberGiven 4 = .ok (.iload_n 2, 1) := by decide +kernel
theorem dX3_numberGiven_5 : decode cX3_numberGiven 5 = .ok (.ifCond .lt 20, 3) := by decide +kernel
theorem dX3_numberGiven_8 : decode cX3_numberGiven 8 = .ok (.iload_n 1, 1) := by decide +kernel
theorem dX3_numberGiven_9 : decode cX3_numberGiven 9 = .ok (.bipush 10, 2) := by decide +kernel
theorem dX3_numberGiven_11 : decode cX3_numberGiven 11 = .ok (.imul, 1) := by decide +kernel
theorem dX3_numberGiven_12 : decode cX3_numberGiven 12 = .ok (.aload_n 0, 1) := by decide +kernel
theorem dX3_numberGiven_13 : decode cX3_numberGiven 13 = .ok (.iload_n 2, 1) := by decide +kernel
theorem dX3_numberGiven_14 : decode cX3_numberGiven 14 = .ok (.invokevirtual 114, 3) := by decide +kernel
theorem dX3_numberGiven_17 : decode cX3_numberGiven 17 = .ok (.iadd, 1) := by decide +kernel
theorem dX3_numberGiven_18 : decode cX3_numberGiven 18 = .ok (.istore_n 1, 1) := by decide +kernel
theorem dX3_numberGiven_19 : decode cX3_numberGiven 19 = .ok (.iinc 2 (-1), 3) := by decide +kernel
theorem dX3_numberGiven_22 : decode cX3_numberGiven 22 = .ok (.goto (-18), 3) := by decide +kernel
theorem dX3_numberGiven_25 : decode cX3_numberGiven 25 = .ok (.iload_n 1, 1) := by decide +kernel
theorem dX3_numberGiven_26 : decode cX3_numberGiven 26 = .ok (.ireturn, 1) := by decide +kernel
theorem dX3_tellDrum_0 : decode cX3_tellDrum 0 = .ok (.iload_n 1, 1) := by decide +kernel
theorem dX3_tellDrum_1 : decode cX3_tellDrum 1 = .ok (.i2l, 1) := by decide +kernel
theorem dX3_tellDrum_2 : decode cX3_tellDrum 2 = .ok (.lconst 0, 1) := by decide +kernel
theorem dX3_tellDrum_3 : decode cX3_tellDrum 3 = .ok (.ldc2_w 43, 3) := by decide +kernel
theorem dX3_tellDrum_6 : decode cX3_tellDrum 6 = .ok (.invokestatic 45, 3) := by decide +kernel
theorem dX3_tellDrum_9 : decode cX3_tellDrum 9 = .ok (.ifCond .ne 6, 3) := by decide +kernel
theorem dX3_tellDrum_12 : decode cX3_tellDrum 12 = .ok (.bipush (-2), 2) := by decide +kernel
theorem dX3_tellDrum_14 : decode cX3_tellDrum 14 = .ok (.ireturn, 1) := by decide +kernel
theorem dX3_tellDrum_15 : decode cX3_tellDrum 15 = .ok (.iload_n 2, 1) := by decide +kernel
theorem dX3_tellDrum_16 : decode cX3_tellDrum 16 = .ok (.tableswitch 48 0 2 #[28, 35, 41], 28) := by decide +kernel
theorem dX3_tellDrum_44 : decode cX3_tellDrum 44 = .ok (.aload_n 0, 1) := by decide +kernel
theorem dX3_tellDrum_45 : decode cX3_tellDrum 45 = .ok (.getfield 9, 3) := by decide +kernel
theorem dX3_tellDrum_48 : decode cX3_tellDrum 48 = .ok (.iload_n 1, 1) := by decide +kernel
theorem dX3_tellDrum_49 : decode cX3_tellDrum 49 = .ok (.iaload, 1) := by decide +kernel
theorem dX3_tellDrum_50 : decode cX3_tellDrum 50 = .ok (.ireturn, 1) := by decide +kernel
theorem dX3_tellDrum_51 : decode cX3_tellDrum 51 = .ok (.aload_n 0, 1) := by decide +kernel
theorem dX3_tellDrum_52 : decode cX3_tellDrum 52 = .ok (.iload_n 1, 1) := by decide +kernel
theorem dX3_tellDrum_53 : decode cX3_tellDrum 53 = .ok (.invokevirtual 114, 3) := by decide +kernel
theorem dX3_tellDrum_56 : decode cX3_tellDrum 56 = .ok (.ireturn, 1) := by decide +kernel
theorem dX3_tellDrum_57 : decode cX3_tellDrum 57 = .ok (.aload_n 0, 1) := by decide +kernel
theorem dX3_tellDrum_58 : decode cX3_tellDrum 58 = .ok (.getfield 15, 3) := by decide +kernel
theorem dX3_tellDrum_61 : decode cX3_tellDrum 61 = .ok (.iload_n 1, 1) := by decide +kernel
theorem dX3_tellDrum_62 : decode cX3_tellDrum 62 = .ok (.iaload, 1) := by decide +kernel
theorem dX3_tellDrum_63 : decode cX3_tellDrum 63 = .ok (.ireturn, 1) := by decide +kernel
theorem dX3_tellDrum_64 : decode cX3_tellDrum 64 = .ok (.bipush (-2), 2) := by decide +kernel
theorem dX3_tellDrum_66 : decode cX3_tellDrum 66 = .ok (.ireturn, 1) := by decide +kernel
theorem dX3_tellCount_0 : decode cX3_tellCount 0 = .ok (.iload_n 1, 1) := by decide +kernel
theorem dX3_tellCount_1 : decode cX3_tellCount 1 = .ok (.tableswitch 95 0 7 #[47, 56, 61, 70, 75, 80, 85, 90], 47) := by decide +kernel
theorem dX3_tellCount_48 : decode cX3_tellCount 48 = .ok (.aload_n 0, 1) := by decide +kernel
theorem dX3_tellCount_49 : decode cX3_tellCount 49 = .ok (.getfield 9, 3) := by decide +kernel
theorem dX3_tellCount_52 : decode cX3_tellCount 52 = .ok (.invokestatic 53, 3) := by decide +kernel
theorem dX3_tellCount_55 : decode cX3_tellCount 55 = .ok (.l2i, 1) := by decide +kernel
theorem dX3_tellCount_56 : decode cX3_tellCount 56 = .ok (.ireturn, 1) := by decide +kernel
theorem dX3_tellCount_57 : decode cX3_tellCount 57 = .ok (.aload_n 0, 1) := by decide +kernel
theorem dX3_tellCount_58 : decode cX3_tellCount 58 = .ok (.invokevirtual 107, 3) := by decide +kernel
theorem dX3_tellCount_61 : decode cX3_tellCount 61 = .ok (.ireturn, 1) := by decide +kernel
theorem dX3_tellCount_62 : decode cX3_tellCount 62 = .ok (.aload_n 0, 1) := by decide +kernel
theorem dX3_tellCount_63 : decode cX3_tellCount 63 = .ok (.getfield 21, 3) := by decide +kernel
theorem dX3_tellCount_66 : decode cX3_tellCount 66 = .ok (.invokestatic 53, 3) := by decide +kernel
theorem dX3_tellCount_69 : decode cX3_tellCount 69 = .ok (.l2i, 1) := by decide +kernel
theorem dX3_tellCount_70 : decode cX3_tellCount 70 = .ok (.ireturn, 1) := by decide +kernel
theorem dX3_tellCount_71 : decode cX3_tellCount 71 = .ok (.aload_n 0, 1) := by decide +kernel
theorem dX3_tellCount_72 : decode cX3_tellCount 72 = .ok (.getfield 24, 3) := by decide +kernel
theorem dX3_tellCount_75 : decode cX3_tellCount 75 = .ok (.ireturn, 1) := by decide +kernel
theorem dX3_tellCount_76 : decode cX3_tellCount 76 = .ok (.aload_n 0, 1) := by decide +kernel
theorem dX3_tellCount_77 : decode cX3_tellCount 77 = .ok (.getfield 28, 3) := by decide +kernel
theorem dX3_tellCount_80 : decode cX3_tellCount 80 = .ok (.ireturn, 1) := by decide +kernel
theorem dX3_tellCount_81 : decode cX3_tellCount 81 = .ok (.aload_n 0, 1) := by decide +kernel
theorem dX3_tellCount_82 : decode cX3_tellCount 82 = .ok (.getfield 31, 3) := by decide +kernel
theorem dX3_tellCount_85 : decode cX3_tellCount 85 = .ok (.ireturn, 1) := by decide +kernel
theorem dX3_tellCount_86 : decode cX3_tellCount 86 = .ok (.aload_n 0, 1) := by decide +kernel
theorem dX3_tellCount_87 : decode cX3_tellCount 87 = .ok (.getfield 34, 3) := by decide +kernel
theorem dX3_tellCount_90 : decode cX3_tellCount 90 = .ok (.ireturn, 1) := by decide +kernel
theorem dX3_tellCount_91 : decode cX3_tellCount 91 = .ok (.aload_n 0, 1) := by decide +kernel
theorem dX3_tellCount_92 : decode cX3_tellCount 92 = .ok (.invokevirtual 117, 3) := by decide +kernel
theorem dX3_tellCount_95 : decode cX3_tellCount 95 = .ok (.ireturn, 1) := by decide +kernel
theorem dX3_tellCount_96 : decode cX3_tellCount 96 = .ok (.bipush (-2), 2) := by decide +kernel
theorem dX3_tellCount_98 : decode cX3_tellCount 98 = .ok (.ireturn, 1) := by decide +kernel
theorem dX3_wornTeeth_0 : decode cX3_wornTeeth 0 = .ok (.iconst 0, 1) := by decide +kernel
theorem dX3_wornTeeth_1 : decode cX3_wornTeeth 1 = .ok (.istore_n 1, 1) := by decide +kernel
theorem dX3_wornTeeth_2 : decode cX3_wornTeeth 2 = .ok (.iconst 0, 1) := by decide +kernel
theorem dX3_wornTeeth_3 : decode cX3_wornTeeth 3 = .ok (.istore_n 2, 1) := by decide +kernel
theorem dX3_wornTeeth_4 : decode cX3_wornTeeth 4 = .ok (.iload_n 2, 1) := by decide +kernel
theorem dX3_wornTeeth_5 : decode cX3_wornTeeth 5 = .ok (.bipush 6, 2) := by decide +kernel
theorem dX3_wornTeeth_7 : decode cX3_wornTeeth 7 = .ok (.if_icmp .ge 21, 3) := by decide +kernel
theorem dX3_wornTeeth_10 : decode cX3_wornTeeth 10 = .ok (.iload_n 1, 1) := by decide +kernel
theorem dX3_wornTeeth_11 : decode cX3_wornTeeth 11 = .ok (.aload_n 0, 1) := by decide +kernel
theorem dX3_wornTeeth_12 : decode cX3_wornTeeth 12 = .ok (.getfield 15, 3) := by decide +kernel
theorem dX3_wornTeeth_15 : decode cX3_wornTeeth 15 = .ok (.iload_n 2, 1) := by decide +kernel
theorem dX3_wornTeeth_16 : decode cX3_wornTeeth 16 = .ok (.iaload, 1) := by decide +kernel
theorem dX3_wornTeeth_17 : decode cX3_wornTeeth 17 = .ok (.invokestatic 65, 3) := by decide +kernel
theorem dX3_wornTeeth_20 : decode cX3_wornTeeth 20 = .ok (.iadd, 1) := by decide +kernel
theorem dX3_wornTeeth_21 : decode cX3_wornTeeth 21 = .ok (.istore_n 1, 1) := by decide +kernel
theorem dX3_wornTeeth_22 : decode cX3_wornTeeth 22 = .ok (.iinc 2 1, 3) := by decide +kernel
theorem dX3_wornTeeth_25 : decode cX3_wornTeeth 25 = .ok (.goto (-21), 3) := by decide +kernel
theorem dX3_wornTeeth_28 : decode cX3_wornTeeth 28 = .ok (.iload_n 1, 1) := by decide +kernel
theorem dX3_wornTeeth_29 : decode cX3_wornTeeth 29 = .ok (.ireturn, 1) := by decide +kernel
theorem dX3_tried_0 : decode cX3_tried 0 = .ok (.iload_n 1, 1) := by decide +kernel
theorem dX3_tried_1 : decode cX3_tried 1 = .ok (.i2l, 1) := by decide +kernel
theorem dX3_tried_2 : decode cX3_tried 2 = .ok (.iload_n 2, 1) := by decide +kernel
theorem dX3_tried_3 : decode cX3_tried 3 = .ok (.i2l, 1) := by decide +kernel
theorem dX3_tried_4 : decode cX3_tried 4 = .ok (.lmul, 1) := by decide +kernel
theorem dX3_tried_5 : decode cX3_tried 5 = .ok (.lstore_n 3, 1) := by decide +kernel
theorem dX3_tried_6 : decode cX3_tried 6 = .ok (.aload_n 0, 1) := by decide +kernel
theorem dX3_tried_7 : decode cX3_tried 7 = .ok (.getfield 28, 3) := by decide +kernel
theorem dX3_tried_10 : decode cX3_tried 10 = .ok (.ifCond .ne 9, 3) := by decide +kernel
theorem dX3_tried_13 : decode cX3_tried 13 = .ok (.lload_n 3, 1) := by decide +kernel
theorem dX3_tried_14 : decode cX3_tried 14 = .ok (.ldc2_w 120, 3) := by decide +kernel
theorem dX3_tried_17 : decode cX3_tried 17 = .ok (.lrem, 1) := by decide +kernel
theorem dX3_tried_18 : decode cX3_tried 18 = .ok (.lreturn, 1) := by decide +kernel
theorem dX3_tried_19 : decode cX3_tried 19 = .ok (.aload_n 0, 1) := by decide +kernel
theorem dX3_tried_20 : decode cX3_tried 20 = .ok (.getfield 28, 3) := by decide +kernel
theorem dX3_tried_23 : decode cX3_tried 23 = .ok (.iconst 1, 1) := by decide +kernel
theorem dX3_tried_24 : decode cX3_tried 24 = .ok (.if_icmp .ne 11, 3) := by decide +kernel
theorem dX3_tried_27 : decode cX3_tried 27 = .ok (.lload_n 3, 1) := by decide +kernel
theorem dX3_tried_28 : decode cX3_tried 28 = .ok (.ldc2_w 122, 3) := by decide +kernel
theorem dX3_tried_31 : decode cX3_tried 31 = .ok (.lrem, 1) := by decide +kernel
theorem dX3_tried_32 : decode cX3_tried 32 = .ok (.goto 4, 3) := by decide +kernel
theorem dX3_tried_35 : decode cX3_tried 35 = .ok (.lload_n 3, 1) := by decide +kernel
theorem dX3_tried_36 : decode cX3_tried 36 = .ok (.lreturn, 1) := by decide +kernel
theorem dX3_explain_0 : decode cX3_explain 0 = .ok (.aload_n 0, 1) := by decide +kernel
theorem dX3_explain_1 : decode cX3_explain 1 = .ok (.getfield 9, 3) := by decide +kernel
theorem dX3_explain_4 : decode cX3_explain 4 = .ok (.invokestatic 53, 3) := by decide +kernel
theorem dX3_explain_7 : decode cX3_explain 7 = .ok (.l2i, 1) := by decide +kernel
theorem dX3_explain_8 : decode cX3_explain 8 = .ok (.istore 5, 2) := by decide +kernel
theorem dX3_explain_10 : decode cX3_explain 10 = .ok (.iconst 0, 1) := by decide +kernel
theorem dX3_explain_11 : decode cX3_explain 11 = .ok (.istore 6, 2) := by decide +kernel
theorem dX3_explain_13 : decode cX3_explain 13 = .ok (.iconst (-1), 1) := by decide +kernel
theorem dX3_explain_14 : decode cX3_explain 14 = .ok (.istore 7, 2) := by decide +kernel
theorem dX3_explain_16 : decode cX3_explain 16 = .ok (.iconst (-1), 1) := by decide +kernel
theorem dX3_explain_17 : decode cX3_explain 17 = .ok (.istore 8, 2) := by decide +kernel
theorem dX3_explain_19 : decode cX3_explain 19 = .ok (.iconst 1, 1) := by decide +kernel
theorem dX3_explain_20 : decode cX3_explain 20 = .ok (.istore 9, 2) := by decide +kernel
theorem dX3_explain_22 : decode cX3_explain 22 = .ok (.iconst 0, 1) := by decide +kernel
theorem dX3_explain_23 : decode cX3_explain 23 = .ok (.istore 10, 2) := by decide +kernel
theorem dX3_explain_25 : decode cX3_explain 25 = .ok (.iload 10, 2) := by decide +kernel
theorem dX3_explain_27 : decode cX3_explain 27 = .ok (.bipush 6, 2) := by decide +kernel
theorem dX3_explain_29 : decode cX3_explain 29 = .ok (.if_icmp .ge 96, 3) := by decide +kernel
theorem dX3_explain_32 : decode cX3_explain 32 = .ok (.iconst 1, 1) := by decide +kernel
theorem dX3_explain_33 : decode cX3_explain 33 = .ok (.istore 11, 2) := by decide +kernel
theorem dX3_explain_35 : decode cX3_explain 35 = .ok (.iload 11, 2) := by decide +kernel
theorem dX3_explain_37 : decode cX3_explain 37 = .ok (.bipush 9, 2) := by decide +kernel
theorem dX3_explain_39 : decode cX3_explain 39 = .ok (.if_icmp .gt 73, 3) := by decide +kernel
theorem dX3_explain_42 : decode cX3_explain 42 = .ok (.iload 11, 2) := by decide +kernel
theorem dX3_explain_44 : decode cX3_explain 44 = .ok (.aload_n 0, 1) := by decide +kernel
theorem dX3_explain_45 : decode cX3_explain 45 = .ok (.getfield 9, 3) := by decide +kernel
theorem dX3_explain_48 : decode cX3_explain 48 = .ok (.iload 10, 2) := by decide +kernel
theorem dX3_explain_50 : decode cX3_explain 50 = .ok (.iaload, 1) := by decide +kernel
theorem dX3_explain_51 : decode cX3_explain 51 = .ok (.if_icmp .gt 11, 3) := by decide +kernel
theorem dX3_explain_54 : decode cX3_explain 54 = .ok (.iload 5, 2) := by decide +kernel
theorem dX3_explain_56 : decode cX3_explain 56 = .ok (.iload 9, 2) := by decide +kernel
theorem dX3_explain_58 : decode cX3_explain 58 = .ok (.isub, 1) := by decide +kernel
theorem dX3_explain_59 : decode cX3_explain 59 = .ok (.goto 5, 3) := by decide +kernel
theorem dX3_explain_62 : decode cX3_explain 62 = .ok (.iload 5, 2) := by decide +kernel
theorem dX3_explain_64 : decode cX3_explain 64 = .ok (.istore 12, 2) := by decide +kernel
theorem dX3_explain_66 : decode cX3_explain 66 = .ok (.aload_n 0, 1) := by decide +kernel
theorem dX3_explain_67 : decode cX3_explain 67 = .ok (.iload 12, 2) := by decide +kernel
theorem dX3_explain_69 : decode cX3_explain 69 = .ok (.iload_n 3, 1) := by decide +kernel
theorem dX3_explain_70 : decode cX3_explain 70 = .ok (.invokevirtual 124, 3) := by decide +kernel
theorem dX3_explain_73 : decode cX3_explain 73 = .ok (.lload_n 1, 1) := by decide +kernel
theorem dX3_explain_74 : decode cX3_explain 74 = .ok (.lcmp, 1) := by decide +kernel
theorem dX3_explain_75 : decode cX3_explain 75 = .ok (.ifCond .ne 31, 3) := by decide +kernel
theorem dX3_explain_78 : decode cX3_explain 78 = .ok (.iinc 6 1, 3) := by decide +kernel
theorem dX3_explain_81 : decode cX3_explain 81 = .ok (.bipush 10, 2) := by decide +kernel
theorem dX3_explain_83 : decode cX3_explain 83 = .ok (.iload 10, 2) := by decide +kernel
theorem dX3_explain_85 : decode cX3_explain 85 = .ok (.imul, 1) := by decide +kernel
theorem dX3_explain_86 : decode cX3_explain 86 = .ok (.iload 11, 2) := by decide +kernel
theorem dX3_explain_88 : decode cX3_explain 88 = .ok (.iadd, 1) := by decide +kernel
theorem dX3_explain_89 : decode cX3_explain 89 = .ok (.istore 8, 2) := by decide +kernel
theorem dX3_explain_91 : decode cX3_explain 91 = .ok (.iload 7, 2) := by decide +kernel
theorem dX3_explain_93 : decode cX3_explain 93 = .ok (.iconst (-1), 1) := by decide +kernel
theorem dX3_explain_94 : decode cX3_explain 94 = .ok (.if_icmp .ne 8, 3) := by decide +kernel
theorem dX3_explain_97 : decode cX3_explain 97 = .ok (.iload 8, 2) := by decide +kernel
theorem dX3_explain_99 : decode cX3_explain 99 = .ok (.goto 5, 3) := by decide +kernel
theorem dX3_explain_102 : decode cX3_explain 102 = .ok (.iload 7, 2) := by decide +kernel
theorem dX3_explain_104 : decode cX3_explain 104 = .ok (.istore 7, 2) := by decide +kernel
theorem dX3_explain_106 : decode cX3_explain 106 = .ok (.iinc 11 1, 3) := by decide +kernel
theorem dX3_explain_109 : decode cX3_explain 109 = .ok (.goto (-74), 3) := by decide +kernel
theorem dX3_explain_112 : decode cX3_explain 112 = .ok (.iload 9, 2) := by decide +kernel
theorem dX3_explain_114 : decode cX3_explain 114 = .ok (.bipush 10, 2) := by decide +kernel
theorem dX3_explain_116 : decode cX3_explain 116 = .ok (.imul, 1) := by decide +kernel
theorem dX3_explain_117 : decode cX3_explain 117 = .ok (.istore 9, 2) := by decide +kernel
theorem dX3_explain_119 : decode cX3_explain 119 = .ok (.iinc 10 1, 3) := by decide +kernel
theorem dX3_explain_122 : decode cX3_explain 122 = .ok (.goto (-97), 3) := by decide +kernel
theorem dX3_explain_125 : decode cX3_explain 125 = .ok (.iload 4, 2) := by decide +kernel
theorem dX3_explain_127 : decode cX3_explain 127 = .ok (.ifCond .ne 6, 3) := by decide +kernel
theorem dX3_explain_130 : decode cX3_explain 130 = .ok (.iload 6, 2) := by decide +kernel
theorem dX3_explain_132 : decode cX3_explain 132 = .ok (.ireturn, 1) := by decide +kernel
theorem dX3_explain_133 : decode cX3_explain 133 = .ok (.iload 4, 2) := by decide +kernel
theorem dX3_explain_135 : decode cX3_explain 135 = .ok (.iconst 1, 1) := by decide +kernel
theorem dX3_explain_136 : decode cX3_explain 136 = .ok (.if_icmp .ne 8, 3) := by decide +kernel
theorem dX3_explain_139 : decode cX3_explain 139 = .ok (.iload 7, 2) := by decide +kernel
theorem dX3_explain_141 : decode cX3_explain 141 = .ok (.goto 5, 3) := by decide +kernel
theorem dX3_explain_144 : decode cX3_explain 144 = .ok (.iload 8, 2) := by decide +kernel
theorem dX3_explain_146 : decode cX3_explain 146 = .ok (.ireturn, 1) := by decide +kernel
theorem dX4_init_0 : decode cX4_init 0 = .ok (.aload_n 0, 1) := by decide +kernel
theorem dX4_init_1 : decode cX4_init 1 = .ok (.invokespecial 1, 3) := by decide +kernel
theorem dX4_init_4 : decode cX4_init 4 = .ok (.aload_n 0, 1) := by decide +kernel
theorem dX4_init_5 : decode cX4_init 5 = .ok (.new 7, 3) := by decide +kernel
theorem dX4_init_8 : decode cX4_init 8 = .ok (.dup, 1) := by decide +kernel
theorem dX4_init_9 : decode cX4_init 9 = .ok (.invokespecial 9, 3) := by decide +kernel
theorem dX4_init_12 : decode cX4_init 12 = .ok (.putfield 10, 3) := by decide +kernel
theorem dX4_init_15 : decode cX4_init 15 = .ok (.aload_n 0, 1) := by decide +kernel
theorem dX4_init_16 : decode cX4_init 16 = .ok (.new 7, 3) := by decide +kernel
theorem dX4_init_19 : decode cX4_init 19 = .ok (.dup, 1) := by decide +kernel
theorem dX4_init_20 : decode cX4_init 20 = .ok (.invokespecial 9, 3) := by decide +kernel
theorem dX4_init_23 : decode cX4_init 23 = .ok (.putfield 16, 3) := by decide +kernel
theorem dX4_init_26 : decode cX4_init 26 = .ok (.aload_n 0, 1) := by decide +kernel
theorem dX4_init_27 : decode cX4_init 27 = .ok (.new 19, 3) := by decide +kernel
theorem dX4_init_30 : decode cX4_init 30 = .ok (.dup, 1) := by decide +kernel
theorem dX4_init_31 : decode cX4_init 31 = .ok (.invokespecial 21, 3) := by decide +kernel
theorem dX4_init_34 : decode cX4_init 34 = .ok (.putfield 22, 3) := by decide +kernel
theorem dX4_init_37 : decode cX4_init 37 = .ok (.aload_n 0, 1) := by decide +kernel
theorem dX4_init_38 : decode cX4_init 38 = .ok (.new 26, 3) := by decide +kernel
theorem dX4_init_41 : decode cX4_init 41 = .ok (.dup, 1) := by decide +kernel
theorem dX4_init_42 : decode cX4_init 42 = .ok (.invokespecial 28, 3) := by decide +kernel
theorem dX4_init_45 : decode cX4_init 45 = .ok (.putfield 29, 3) := by decide +kernel
theorem dX4_init_48 : decode cX4_init 48 = .ok (.aload_n 0, 1) := by decide +kernel
theorem dX4_init_49 : decode cX4_init 49 = .ok (.new 33, 3) := by decide +kernel
theorem dX4_init_52 : decode cX4_init 52 = .ok (.dup, 1) := by decide +kernel
theorem dX4_init_53 : decode cX4_init 53 = .ok (.invokespecial 35, 3) := by decide +kernel
theorem dX4_init_56 : decode cX4_init 56 = .ok (.putfield 36, 3) := by decide +kernel
theorem dX4_init_59 : decode cX4_init 59 = .ok (.return_, 1) := by decide +kernel
theorem dX4_sets_0 : decode cX4_sets 0 = .ok (.aload_n 0, 1) := by decide +kernel
theorem dX4_sets_1 : decode cX4_sets 1 = .ok (.invokevirtual 40, 3) := by decide +kernel
theorem dX4_sets_4 : decode cX4_sets 4 = .ok (.aload_n 0, 1) := by decide +kernel
theorem dX4_sets_5 : decode cX4_sets 5 = .ok (.aload_n 0, 1) := by decide +kernel
theorem dX4_sets_6 : decode cX4_sets 6 = .ok (.getfield 10, 3) := by decide +kernel
theorem dX4_sets_9 : decode cX4_sets 9 = .ok (.iload_n 1, 1) := by decide +kernel
theorem dX4_sets_10 : decode cX4_sets 10 = .ok (.iload_n 2, 1) := by decide +kernel
theorem dX4_sets_11 : decode cX4_sets 11 = .ok (.invokevirtual 43, 3) := by decide +kernel
theorem dX4_sets_14 : decode cX4_sets 14 = .ok (.invokevirtual 47, 3) := by decide +kernel
theorem dX4_sets_17 : decode cX4_sets 17 = .ok (.ireturn, 1) := by decide +kernel
theorem dX4_input_0 : decode cX4_input 0 = .ok (.aload_n 0, 1) := by decide +kernel
theorem dX4_input_1 : decode cX4_input 1 = .ok (.invokevirtual 40, 3) := by decide +kernel
theorem dX4_input_4 : decode cX4_input 4 = .ok (.aload_n 0, 1) := by decide +kernel
theorem dX4_input_5 : decode cX4_input 5 = .ok (.aload_n 0, 1) := by decide +kernel
theorem dX4_input_6 : decode cX4_input 6 = .ok (.getfield 10, 3) := by decide +kernel
theorem dX4_input_9 : decode cX4_input 9 = .ok (.iload_n 1, 1) := by decide +kernel
theorem dX4_input_10 : decode cX4_input 10 = .ok (.invokevirtual 51, 3) := by decide +kernel
theorem dX4_input_13 : decode cX4_input 13 = .ok (.invokevirtual 47, 3) := by decide +kernel
theorem dX4_input_16 : decode cX4_input 16 = .ok (.ireturn, 1) := by decide +kernel
theorem dX4_shifts_0 : decode cX4_shifts 0 = .ok (.aload_n 0, 1) := by decide +kernel
theorem dX4_shifts_1 : decode cX4_shifts 1 = .ok (.invokevirtual 40, 3) := by decide +kernel
theorem dX4_shifts_4 : decode cX4_shifts 4 = .ok (.aload_n 0, 1) := by decide +kernel
theorem dX4_shifts_5 : decode cX4_shifts 5 = .ok (.aload_n 0, 1) := by decide +kernel
theorem dX4_shifts_6 : decode cX4_shifts 6 = .ok (.getfield 10, 3) := by decide +kernel
theorem dX4_shifts_9 : decode cX4_shifts 9 = .ok (.iload_n 1, 1) := by decide +kernel
theorem dX4_shifts_10 : decode cX4_shifts 10 = .ok (.invokevirtual 54, 3) := by decide +kernel
theorem dX4_shifts_13 : decode cX4_shifts 13 = .ok (.invokevirtual 47, 3) := by decide +kernel
theorem dX4_shifts_16 : decode cX4_shifts 16 = .ok (.ireturn, 1) := by decide +kernel
theorem dX4_reaches_0 : decode cX4_reaches 0 = .ok (.aload_n 0, 1) := by decide +kernel
theorem dX4_reaches_1 : decode cX4_reaches 1 = .ok (.invokevirtual 40, 3) := by decide +kernel
theorem dX4_reaches_4 : decode cX4_reaches 4 = .ok (.aload_n 0, 1) := by decide +kernel
theorem dX4_reaches_5 : decode cX4_reaches 5 = .ok (.aload_n 0, 1) := by decide +kernel
theorem dX4_reaches_6 : decode cX4_reaches 6 = .ok (.getfield 10, 3) := by decide +kernel
theorem dX4_reaches_9 : decode cX4_reaches 9 = .ok (.iload_n 1, 1) := by decide +kernel
theorem dX4_reaches_10 : decode cX4_reaches 10 = .ok (.invokevirtual 57, 3) := by decide +kernel
theorem dX4_reaches_13 : decode cX4_reaches 13 = .ok (.invokevirtual 47, 3) := by decide +kernel
theorem dX4_reaches_16 : decode cX4_reaches 16 = .ok (.ireturn, 1) := by decide +kernel
theorem dX4_wears_0 : decode cX4_wears 0 = .ok (.aload_n 0, 1) := by decide +kernel
theorem dX4_wears_1 : decode cX4_wears 1 = .ok (.invokevirtual 40, 3) := by decide +kernel
theorem dX4_wears_4 : decode cX4_wears 4 = .ok (.aload_n 0, 1) := by decide +kernel
theorem dX4_wears_5 : decode cX4_wears 5 = .ok (.aload_n 0, 1) := by decide +kernel
theorem dX4_wears_6 : decode cX4_wears 6 = .ok (.getfield 10, 3) := by decide +kernel
theorem dX4_wears_9 : decode cX4_wears 9 = .ok (.iload_n 1, 1) := by decide +kernel
theorem dX4_wears_10 : decode cX4_wears 10 = .ok (.iload_n 2, 1) := by decide +kernel
theorem dX4_wears_11 : decode cX4_wears 11 = .ok (.invokevirtual 60, 3) := by decide +kernel
theorem dX4_wears_14 : decode cX4_wears 14 = .ok (.invokevirtual 47, 3) := by decide +kernel
theorem dX4_wears_17 : decode cX4_wears 17 = .ok (.ireturn, 1) := by decide +kernel
theorem dX4_clears_0 : decode cX4_clears 0 = .ok (.aload_n 0, 1) := by decide +kernel
theorem dX4_clears_1 : decode cX4_clears 1 = .ok (.invokevirtual 40, 3) := by decide +kernel
theorem dX4_clears_4 : decode cX4_clears 4 = .ok (.aload_n 0, 1) := by decide +kernel
theorem dX4_clears_5 : decode cX4_clears 5 = .ok (.aload_n 0, 1) := by decide +kernel
theorem dX4_clears_6 : decode cX4_clears 6 = .ok (.getfield 10, 3) := by decide +kernel
theorem dX4_clears_9 : decode cX4_clears 9 = .ok (.invokevirtual 63, 3) := by decide +kernel
theorem dX4_clears_12 : decode cX4_clears 12 = .ok (.invokevirtual 47, 3) := by decide +kernel
theorem dX4_clears_15 : decode cX4_clears 15 = .ok (.ireturn, 1) := by decide +kernel
theorem dX4_lays_0 : decode cX4_lays 0 = .ok (.aload_n 0, 1) := by decide +kernel
theorem dX4_lays_1 : decode cX4_lays 1 = .ok (.invokevirtual 40, 3) := by decide +kernel
theorem dX4_lays_4 : decode cX4_lays 4 = .ok (.aload_n 0, 1) := by decide +kernel
theorem dX4_lays_5 : decode cX4_lays 5 = .ok (.aload_n 0, 1) := by decide +kernel
theorem dX4_lays_6 : decode cX4_lays 6 = .ok (.getfield 10, 3) := by decide +kernel
theorem dX4_lays_9 : decode cX4_lays 9 = .ok (.lload_n 1, 1) := by decide +kernel
theorem dX4_lays_10 : decode cX4_lays 10 = .ok (.invokevirtual 67, 3) := by decide +kernel
theorem dX4_lays_13 : decode cX4_lays 13 = .ok (.invokevirtual 47, 3) := by decide +kernel
theorem dX4_lays_16 : decode cX4_lays 16 = .ok (.ireturn, 1) := by decide +kernel
theorem dX4_ups_0 : decode cX4_ups 0 = .ok (.aload_n 0, 1) := by decide +kernel
theorem dX4_ups_1 : decode cX4_ups 1 = .ok (.invokevirtual 40, 3) := by decide +kernel
theorem dX4_ups_4 : decode cX4_ups 4 = .ok (.aload_n 0, 1) := by decide +kernel
theorem dX4_ups_5 : decode cX4_ups 5 = .ok (.aload_n 0, 1) := by decide +kernel
theorem dX4_ups_6 : decode cX4_ups 6 = .ok (.getfield 10, 3) := by decide +kernel
theorem dX4_ups_9 : decode cX4_ups 9 = .ok (.iload_n 1, 1) := by decide +kernel
theorem dX4_ups_10 : decode cX4_ups 10 = .ok (.iconst 1, 1) := by decide +kernel
theorem dX4_ups_11 : decode cX4_ups 11 = .ok (.invokevirtual 71, 3) := by decide +kernel
theorem dX4_ups_14 : decode cX4_ups 14 = .ok (.invokevirtual 47, 3) := by decide +kernel
theorem dX4_ups_17 : decode cX4_ups 17 = .ok (.ireturn, 1) := by decide +kernel
theorem dX4_downs_0 : decode cX4_downs 0 = .ok (.aload_n 0, 1) := by decide +kernel
theorem dX4_downs_1 : decode cX4_downs 1 = .ok (.invokevirtual 40, 3) := by decide +kernel
theorem dX4_downs_4 : decode cX4_downs 4 = .ok (.aload_n 0, 1) := by decide +kernel
theorem dX4_downs_5 : decode cX4_downs 5 = .ok (.aload_n 0, 1) := by decide +kernel
theorem dX4_downs_6 : decode cX4_downs 6 = .ok (.getfield 10, 3) := by decide +kernel
theorem dX4_downs_9 : decode cX4_downs 9 = .ok (.iload_n 1, 1) := by decide +kernel
theorem dX4_downs_10 : decode cX4_downs 10 = .ok (.iconst (-1), 1) := by decide +kernel
theorem dX4_downs_11 : decode cX4_downs 11 = .ok (.invokevirtual 71, 3) := by decide +kernel
theorem dX4_downs_14 : decode cX4_downs 14 = .ok (.invokevirtual 47, 3) := by decide +kernel
theorem dX4_downs_17 : decode cX4_downs 17 = .ok (.ireturn, 1) := by decide +kernel
theorem dX4_times_0 : decode cX4_times 0 = .ok (.aload_n 0, 1) := by decide +kernel
theorem dX4_times_1 : decode cX4_times 1 = .ok (.invokevirtual 40, 3) := by decide +kernel
theorem dX4_times_4 : decode cX4_times 4 = .ok (.aload_n 0, 1) := by decide +kernel
theorem dX4_times_5 : decode cX4_times 5 = .ok (.aload_n 0, 1) := by decide +kernel
theorem dX4_times_6 : decode cX4_times 6 = .ok (.getfield 10, 3) := by decide +kernel
theorem dX4_times_9 : decode cX4_times 9 = .ok (.iload_n 1, 1) := by decide +kernel
theorem dX4_times_10 : decode cX4_times 10 = .ok (.iload_n 2, 1) := by decide +kernel
theorem dX4_times_11 : decode cX4_times 11 = .ok (.invokevirtual 74, 3) := by decide +kernel
theorem dX4_times_14 : decode cX4_times 14 = .ok (.invokevirtual 47, 3) := by decide +kernel
theorem dX4_times_17 : decode cX4_times 17 = .ok (.ireturn, 1) := by decide +kernel
theorem dX4_divides_0 : decode cX4_divides 0 = .ok (.aload_n 0, 1) := by decide +kernel
theorem dX4_divides_1 : decode cX4_divides 1 = .ok (.invokevirtual 40, 3) := by decide +kernel
theorem dX4_divides_4 : decode cX4_divides 4 = .ok (.aload_n 0, 1) := by decide +kernel
theorem dX4_divides_5 : decode cX4_divides 5 = .ok (.aload_n 0, 1) := by decide +kernel
theorem dX4_divides_6 : decode cX4_divides 6 = .ok (.getfield 10, 3) := by decide +kernel
theorem dX4_divides_9 : decode cX4_divides 9 = .ok (.invokevirtual 77, 3) := by decide +kernel
theorem dX4_divides_12 : decode cX4_divides 12 = .ok (.invokevirtual 47, 3) := by decide +kernel
theorem dX4_divides_15 : decode cX4_divides 15 = .ok (.ireturn, 1) := by decide +kernel
theorem dX4_turns_0 : decode cX4_turns 0 = .ok (.aload_n 0, 1) := by decide +kernel
theorem dX4_turns_1 : decode cX4_turns 1 = .ok (.iload_n 1, 1) := by decide +kernel
theorem dX4_turns_2 : decode cX4_turns 2 = .ok (.iload_n 2, 1) := by decide +kernel
theorem dX4_turns_3 : decode cX4_turns 3 = .ok (.invokestatic 80, 3) := by decide +kernel
theorem dX4_turns_6 : decode cX4_turns 6 = .ok (.invokevirtual 83, 3) := by decide +kernel
theorem dX4_turns_9 : decode cX4_turns 9 = .ok (.ireturn, 1) := by decide +kernel
theorem dX4_drum_0 : decode cX4_drum 0 = .ok (.aload_n 0, 1) := by decide +kernel
theorem dX4_drum_1 : decode cX4_drum 1 = .ok (.aload_n 0, 1) := by decide +kernel
theorem dX4_drum_2 : decode cX4_drum 2 = .ok (.getfield 10, 3) := by decide +kernel
theorem dX4_drum_5 : decode cX4_drum 5 = .ok (.iload_n 1, 1) := by decide +kernel
theorem dX4_drum_6 : decode cX4_drum 6 = .ok (.iload_n 2, 1) := by decide +kernel
theorem dX4_drum_7 : decode cX4_drum 7 = .ok (.invokevirtual 86, 3) := by decide +kernel
theorem dX4_drum_10 : decode cX4_drum 10 = .ok (.invokevirtual 83, 3) := by decide +kernel
theorem dX4_drum_13 : decode cX4_drum 13 = .ok (.ireturn, 1) := by decide +kernel
theorem dX4_wheel_0 : decode cX4_wheel 0 = .ok (.aload_n 0, 1) := by decide +kernel
theorem dX4_wheel_1 : decode cX4_wheel 1 = .ok (.iload_n 1, 1) := by decide +kernel
theorem dX4_wheel_2 : decode cX4_wheel 2 = .ok (.i2l, 1) := by decide +kernel
theorem dX4_wheel_3 : decode cX4_wheel 3 = .ok (.lconst 0, 1) := by decide +kernel
theorem dX4_wheel_4 : decode cX4_wheel 4 = .ok (.ldc2_w 89, 3) := by decide +kernel
theorem dX4_wheel_7 : decode cX4_wheel 7 = .ok (.invokestatic 91, 3) := by decide +kernel
theorem dX4_wheel_10 : decode cX4_wheel 10 = .ok (.ifCond .eq 15, 3) := by decide +kernel
theorem dX4_wheel_13 : decode cX4_wheel 13 = .ok (.aload_n 0, 1) := by decide +kernel
theorem dX4_wheel_14 : decode cX4_wheel 14 = .ok (.getfield 10, 3) := by decide +kernel
theorem dX4_wheel_17 : decode cX4_wheel 17 = .ok (.getfield 95, 3) := by decide +kernel
theorem dX4_wheel_20 : decode cX4_wheel 20 = .ok (.iload_n 1, 1) := by decide +kernel
theorem dX4_wheel_21 : decode cX4_wheel 21 = .ok (.iaload, 1) := by decide +kernel
theorem dX4_wheel_22 : decode cX4_wheel 22 = .ok (.goto 5, 3) := by decide +kernel
theorem dX4_wheel_25 : decode cX4_wheel 25 = .ok (.bipush (-2), 2) := by decide +kernel
theorem dX4_wheel_27 : decode cX4_wheel 27 = .ok (.invokevirtual 83, 3) := by decide +kernel
theorem dX4_wheel_30 : decode cX4_wheel 30 = .ok (.ireturn, 1) := by decide +kernel
theorem dX4_value_0 : decode cX4_value 0 = .ok (.aload_n 0, 1) := by decide +kernel
theorem dX4_value_1 : decode cX4_value 1 = .ok (.getfield 10, 3) := by decide +kernel
theorem dX4_value_4 : decode cX4_value 4 = .ok (.getfield 95, 3) := by decide +kernel
theorem dX4_value_7 : decode cX4_value 7 = .ok (.invokestatic 99, 3) := by decide +kernel
theorem dX4_value_10 : decode cX4_value 10 = .ok (.lreturn, 1) := by decide +kernel
theorem dX4_counter_0 : decode cX4_counter 0 = .ok (.aload_n 0, 1) := by decide +kernel
theorem dX4_counter_1 : decode cX4_counter 1 = .ok (.iload_n 1, 1) := by decide +kernel
theorem dX4_counter_2 : decode cX4_counter 2 = .ok (.i2l, 1) := by decide +kernel
theorem dX4_counter_3 : decode cX4_counter 3 = .ok (.lconst 0, 1) := by decide +kernel
theorem dX4_counter_4 : decode cX4_counter 4 = .ok (.ldc2_w 103, 3) := by decide +kernel
theorem dX4_counter_7 : decode cX4_counter 7 = .ok (.invokestatic 91, 3) := by decide +kernel
theorem dX4_counter_10 : decode cX4_counter 10 = .ok (.ifCond .eq 15, 3) := by decide +kernel
theorem dX4_counter_13 : decode cX4_counter 13 = .ok (.aload_n 0, 1) := by decide +kernel
theorem dX4_counter_14 : decode cX4_counter 14 = .ok (.getfield 10, 3) := by decide +kernel
theorem dX4_counter_17 : decode cX4_counter 17 = .ok (.getfield 105, 3) := by decide +kernel
theorem dX4_counter_20 : decode cX4_counter 20 = .ok (.iload_n 1, 1) := by decide +kernel
theorem dX4_counter_21 : decode cX4_counter 21 = .ok (.iaload, 1) := by decide +kernel
theorem dX4_counter_22 : decode cX4_counter 22 = .ok (.goto 5, 3) := by decide +kernel
theorem dX4_counter_25 : decode cX4_counter 25 = .ok (.bipush (-2), 2) := by decide +kernel
theorem dX4_counter_27 : decode cX4_counter 27 = .ok (.invokevirtual 83, 3) := by decide +kernel
theorem dX4_counter_30 : decode cX4_counter 30 = .ok (.ireturn, 1) := by decide +kernel
theorem dX4_count_0 : decode cX4_count 0 = .ok (.aload_n 0, 1) := by decide +kernel
theorem dX4_count_1 : decode cX4_count 1 = .ok (.aload_n 0, 1) := by decide +kernel
theorem dX4_count_2 : decode cX4_count 2 = .ok (.getfield 10, 3) := by decide +kernel
theorem dX4_count_5 : decode cX4_count 5 = .ok (.iload_n 1, 1) := by decide +kernel
theorem dX4_count_6 : decode cX4_count 6 = .ok (.invokevirtual 108, 3) := by decide +kernel
theorem dX4_count_9 : decode cX4_count 9 = .ok (.invokevirtual 83, 3) := by decide +kernel
theorem dX4_count_12 : decode cX4_count 12 = .ok (.ireturn, 1) := by decide +kernel
theorem dX4_trial_0 : decode cX4_trial 0 = .ok (.iload_n 1, 1) := by decide +kernel
theorem dX4_trial_1 : decode cX4_trial 1 = .ok (.i2l, 1) := by decide +kernel
theorem dX4_trial_2 : decode cX4_trial 2 = .ok (.lconst 1, 1) := by decide +kernel
theorem dX4_trial_3 : decode cX4_trial 3 = .ok (.ldc2_w 111, 3) := by decide +kernel
theorem dX4_trial_6 : decode cX4_trial 6 = .ok (.invokestatic 91, 3) := by decide +kernel
theorem dX4_trial_9 : decode cX4_trial 9 = .ok (.ifCond .ne 11, 3) := by decide +kernel
theorem dX4_trial_12 : decode cX4_trial 12 = .ok (.aload_n 0, 1) := by decide +kernel
theorem dX4_trial_13 : decode cX4_trial 13 = .ok (.bipush (-2), 2) := by decide +kernel
theorem dX4_trial_15 : decode cX4_trial 15 = .ok (.invokevirtual 83, 3) := by decide +kernel
theorem dX4_trial_18 : decode cX4_trial 18 = .ok (.i2l, 1) := by decide +kernel
theorem dX4_trial_19 : decode cX4_trial 19 = .ok (.lreturn, 1) := by decide +kernel
theorem dX4_trial_20 : decode cX4_trial 20 = .ok (.aload_n 0, 1) := by decide +kernel
theorem dX4_trial_21 : decode cX4_trial 21 = .ok (.getfield 10, 3) := by decide +kernel
theorem dX4_trial_24 : decode cX4_trial 24 = .ok (.aload_n 0, 1) := by decide +kernel
theorem dX4_trial_25 : decode cX4_trial 25 = .ok (.getfield 10, 3) := by decide +kernel
theorem dX4_trial_28 : decode cX4_trial 28 = .ok (.invokevirtual 113, 3) := by decide +kernel
theorem dX4_trial_31 : decode cX4_trial 31 = .ok (.iload_n 1, 1) := by decide +kernel
theorem dX4_trial_32 : decode cX4_trial 32 = .ok (.invokevirtual 116, 3) := by decide +kernel
theorem dX4_trial_35 : decode cX4_trial 35 = .ok (.lreturn, 1) := by decide +kernel
theorem dX4_explains_0 : decode cX4_explains 0 = .ok (.lload_n 1, 1) := by decide +kernel
theorem dX4_explains_1 : decode cX4_explains 1 = .ok (.lconst 0, 1) := by decide +kernel
theorem dX4_explains_2 : decode cX4_explains 2 = .ok (.ldc2_w 120, 3) := by decide +kernel
theorem dX4_explains_5 : decode cX4_explains 5 = .ok (.invokestatic 91, 3) := by decide +kernel
theorem dX4_explains_8 : decode cX4_explains 8 = .ok (.ifCond .eq 28, 3) := by decide +kernel
theorem dX4_explains_11 : decode cX4_explains 11 = .ok (.iload_n 3, 1) := by decide +kernel
theorem dX4_explains_12 : decode cX4_explains 12 = .ok (.i2l, 1) := by decide +kernel
theorem dX4_explains_13 : decode cX4_explains 13 = .ok (.lconst 1, 1) := by decide +kernel
theorem dX4_explains_14 : decode cX4_explains 14 = .ok (.ldc2_w 111, 3) := by decide +kernel
theorem dX4_explains_17 : decode cX4_explains 17 = .ok (.invokestatic 91, 3) := by decide +kernel
theorem dX4_explains_20 : decode cX4_explains 20 = .ok (.ifCond .eq 16, 3) := by decide +kernel
theorem dX4_explains_23 : decode cX4_explains 23 = .ok (.iload 4, 2) := by decide +kernel
theorem dX4_explains_25 : decode cX4_explains 25 = .ok (.i2l, 1) := by decide +kernel
theorem dX4_explains_26 : decode cX4_explains 26 = .ok (.lconst 0, 1) := by decide +kernel
theorem dX4_explains_27 : decode cX4_explains 27 = .ok (.ldc2_w 122, 3) := by decide +kernel
theorem dX4_explains_30 : decode cX4_explains 30 = .ok (.invokestatic 91, 3) := by decide +kernel
theorem dX4_explains_33 : decode cX4_explains 33 = .ok (.ifCond .ne 10, 3) := by decide +kernel
theorem dX4_explains_36 : decode cX4_explains 36 = .ok (.aload_n 0, 1) := by decide +kernel
theorem dX4_explains_37 : decode cX4_explains 37 = .ok (.bipush (-2), 2) := by decide +kernel
theorem dX4_explains_39 : decode cX4_explains 39 = .ok (.invokevirtual 83, 3) := by decide +kernel
theorem dX4_explains_42 : decode cX4_explains 42 = .ok (.ireturn, 1) := by decide +kernel
theorem dX4_explains_43 : decode cX4_explains 43 = .ok (.aload_n 0, 1) := by decide +kernel
theorem dX4_explains_44 : decode cX4_explains 44 = .ok (.getfield 10, 3) := by decide +kernel
theorem dX4_explains_47 : decode cX4_explains 47 = .ok (.lload_n 1, 1) := by decide +kernel
theorem dX4_explains_48 : decode cX4_explains 48 = .ok (.iload_n 3, 1) := by decide +kernel
theorem dX4_explains_49 : decode cX4_explains 49 = .ok (.iload 4, 2) := by decide +kernel
theorem dX4_explains_51 : decode cX4_explains 51 = .ok (.invokevirtual 124, 3) := by decide +kernel
theorem dX4_explains_54 : decode cX4_explains 54 = .ok (.ireturn, 1) := by decide +kernel
theorem dX4_type_0 : decode cX4_type 0 = .ok (.aload_n 0, 1) := by decide +kernel
theorem dX4_type_1 : decode cX4_type 1 = .ok (.aload_n 0, 1) := by decide +kernel
theorem dX4_type_2 : decode cX4_type 2 = .ok (.getfield 29, 3) := by decide +kernel
theorem dX4_type_5 : decode cX4_type 5 = .ok (.iload_n 1, 1) := by decide +kernel
theorem dX4_type_6 : decode cX4_type 6 = .ok (.invokevirtual 128, 3) := by decide +kernel
theorem dX4_type_9 : decode cX4_type 9 = .ok (.invokevirtual 83, 3) := by decide +kernel
theorem dX4_type_12 : decode cX4_type 12 = .ok (.ireturn, 1) := by decide +kernel
theorem dX4_wipes_0 : decode cX4_wipes 0 = .ok (.aload_n 0, 1) := by decide +kernel
theorem dX4_wipes_1 : decode cX4_wipes 1 = .ok (.getfield 29, 3) := by decide +kernel
theorem dX4_wipes_4 : decode cX4_wipes 4 = .ok (.invokevirtual 131, 3) := by decide +kernel
theorem dX4_wipes_7 : decode cX4_wipes 7 = .ok (.ireturn, 1) := by decide +kernel
theorem dX4_does_0 : decode cX4_does 0 = .ok (.aload_n 0, 1) := by decide +kernel
theorem dX4_does_1 : decode cX4_does 1 = .ok (.getfield 36, 3) := by decide +kernel
theorem dX4_does_4 : decode cX4_does 4 = .ok (.aload_n 0, 1) := by decide +kernel
theorem dX4_does_5 : decode cX4_does 5 = .ok (.getfield 29, 3) := by decide +kernel
theorem dX4_does_8 : decode cX4_does 8 = .ok (.invokevirtual 134, 3) := by decide +kernel
theorem dX4_does_11 : decode cX4_does 11 = .ok (.istore_n 1, 1) := by decide +kernel
theorem dX4_does_12 : decode cX4_does 12 = .ok (.iload_n 1, 1) := by decide +kernel
theorem dX4_does_13 : decode cX4_does 13 = .ok (.iconst (-1), 1) := by decide +kernel
theorem dX4_does_14 : decode cX4_does 14 = .ok (.if_icmp .eq 8, 3) := by decide +kernel
theorem dX4_does_17 : decode cX4_does 17 = .ok (.bipush (-10), 2) := by decide +kernel
theorem dX4_does_19 : decode cX4_does 19 = .ok (.iload_n 1, 1) := by decide +kernel
theorem dX4_does_20 : decode cX4_does 20 = .ok (.isub, 1) := by decide +kernel
theorem dX4_does_21 : decode cX4_does 21 = .ok (.ireturn, 1) := by decide +kernel
theorem dX4_does_22 : decode cX4_does 22 = .ok (.aload_n 0, 1) := by decide +kernel
theorem dX4_does_23 : decode cX4_does 23 = .ok (.invokevirtual 40, 3) := by decide +kernel
theorem dX4_does_26 : decode cX4_does 26 = .ok (.iconst 0, 1) := by decide +kernel
theorem dX4_does_27 : decode cX4_does 27 = .ok (.istore_n 2, 1) := by decide +kernel
theorem dX4_does_28 : decode cX4_does 28 = .ok (.iload_n 2, 1) := by decide +kernel
theorem dX4_does_29 : decode cX4_does 29 = .ok (.aload_n 0, 1) := by decide +kernel
theorem dX4_does_30 : decode cX4_does 30 = .ok (.getfield 36, 3) := by decide +kernel
theorem dX4_does_33 : decode cX4_does 33 = .ok (.getfield 138, 3) := by decide +kernel
theorem dX4_does_36 : decode cX4_does 36 = .ok (.if_icmp .ge 60, 3) := by decide +kernel
theorem dX4_does_39 : decode cX4_does 39 = .ok (.aload_n 0, 1) := by decide +kernel
theorem dX4_does_40 : decode cX4_does 40 = .ok (.aload_n 0, 1) := by decide +kernel
theorem dX4_does_41 : decode cX4_does 41 = .ok (.getfield 36, 3) := by decide +kernel
theorem dX4_does_44 : decode cX4_does 44 = .ok (.getfield 142, 3) := by decide +kernel
theorem dX4_does_47 : decode cX4_does 47 = .ok (.iload_n 2, 1) := by decide +kernel
theorem dX4_does_48 : decode cX4_does 48 = .ok (.iaload, 1) := by decide +kernel
theorem dX4_does_49 : decode cX4_does 49 = .ok (.aload_n 0, 1) := by decide +kernel
theorem dX4_does_50 : decode cX4_does 50 = .ok (.getfield 36, 3) := by decide +kernel
theorem dX4_does_53 : decode cX4_does 53 = .ok (.getfield 145, 3) := by decide +kernel
theorem dX4_does_56 : decode cX4_does 56 = .ok (.iload_n 2, 1) := by decide +kernel
theorem dX4_does_57 : decode cX4_does 57 = .ok (.iaload, 1) := by decide +kernel
theorem dX4_does_58 : decode cX4_does 58 = .ok (.aload_n 0, 1) := by decide +kernel
theorem dX4_does_59 : decode cX4_does 59 = .ok (.getfield 36, 3) := by decide +kernel
theorem dX4_does_62 : decode cX4_does 62 = .ok (.getfield 148, 3) := by decide +kernel
theorem dX4_does_65 : decode cX4_does 65 = .ok (.iload_n 2, 1) := by decide +kernel
theorem dX4_does_66 : decode cX4_does 66 = .ok (.iaload, 1) := by decide +kernel
theorem dX4_does_67 : decode cX4_does 67 = .ok (.invokevirtual 151, 3) := by decide +kernel
theorem dX4_does_70 : decode cX4_does 70 = .ok (.ifCond .ge 20, 3) := by decide +kernel
theorem dX4_does_73 : decode cX4_does 73 = .ok (.aload_n 0, 1) := by decide +kernel
theorem dX4_does_74 : decode cX4_does 74 = .ok (.getfield 10, 3) := by decide +kernel
theorem dX4_does_77 : decode cX4_does 77 = .ok (.aload_n 0, 1) := by decide +kernel
theorem dX4_does_78 : decode cX4_does 78 = .ok (.getfield 16, 3) := by decide +kernel
theorem dX4_does_81 : decode cX4_does 81 = .ok (.invokevirtual 155, 3) := by decide +kernel
theorem dX4_does_84 : decode cX4_does 84 = .ok (.sipush (-1000), 3) := by decide +kernel
theorem dX4_does_87 : decode cX4_does 87 = .ok (.iload_n 2, 1) := by decide +kernel
theorem dX4_does_88 : decode cX4_does 88 = .ok (.isub, 1) := by decide +kernel
theorem dX4_does_89 : decode cX4_does 89 = .ok (.ireturn, 1) := by decide +kernel
theorem dX4_does_90 : decode cX4_does 90 = .ok (.iinc 2 1, 3) := by decide +kernel
theorem dX4_does_93 : decode cX4_does 93 = .ok (.goto (-65), 3) := by decide +kernel
theorem dX4_does_96 : decode cX4_does 96 = .ok (.aload_n 0, 1) := by decide +kernel
theorem dX4_does_97 : decode cX4_does 97 = .ok (.getfield 22, 3) := by decide +kernel
theorem dX4_does_100 : decode cX4_does 100 = .ok (.aload_n 0, 1) := by decide +kernel
theorem dX4_does_101 : decode cX4_does 101 = .ok (.getfield 16, 3) := by decide +kernel
theorem dX4_does_104 : decode cX4_does 104 = .ok (.invokevirtual 159, 3) := by decide +kernel
theorem dX4_does_107 : decode cX4_does 107 = .ok (.aload_n 0, 1) := by decide +kernel
theorem dX4_does_108 : decode cX4_does 108 = .ok (.getfield 36, 3) := by decide +kernel
theorem dX4_does_111 : decode cX4_does 111 = .ok (.getfield 138, 3) := by decide +kernel
theorem dX4_does_114 : decode cX4_does 114 = .ok (.ireturn, 1) := by decide +kernel
theorem dX4_back_0 : decode cX4_back 0 = .ok (.aload_n 0, 1) := by decide +kernel
theorem dX4_back_1 : decode cX4_back 1 = .ok (.getfield 22, 3) := by decide +kernel
theorem dX4_back_4 : decode cX4_back 4 = .ok (.getfield 162, 3) := by decide +kernel
theorem dX4_back_7 : decode cX4_back 7 = .ok (.ifCond .ne 10, 3) := by decide +kernel
theorem dX4_back_10 : decode cX4_back 10 = .ok (.aload_n 0, 1) := by decide +kernel
theorem dX4_back_11 : decode cX4_back 11 = .ok (.bipush (-3), 2) := by decide +kernel
theorem dX4_back_13 : decode cX4_back 13 = .ok (.invokevirtual 83, 3) := by decide +kernel
theorem dX4_back_16 : decode cX4_back 16 = .ok (.ireturn, 1) := by decide +kernel
theorem dX4_back_17 : decode cX4_back 17 = .ok (.aload_n 0, 1) := by decide +kernel
theorem dX4_back_18 : decode cX4_back 18 = .ok (.getfield 22, 3) := by decide +kernel
theorem dX4_back_21 : decode cX4_back 21 = .ok (.aload_n 0, 1) := by decide +kernel
theorem dX4_back_22 : decode cX4_back 22 = .ok (.getfield 10, 3) := by decide +kernel
theorem dX4_back_25 : decode cX4_back 25 = .ok (.invokevirtual 163, 3) := by decide +kernel
theorem dX4_back_28 : decode cX4_back 28 = .ok (.aload_n 0, 1) := by decide +kernel
theorem dX4_back_29 : decode cX4_back 29 = .ok (.getfield 22, 3) := by decide +kernel
theorem dX4_back_32 : decode cX4_back 32 = .ok (.getfield 162, 3) := by decide +kernel
theorem dX4_back_35 : decode cX4_back 35 = .ok (.ireturn, 1) := by decide +kernel
theorem dX4_told_0 : decode cX4_told 0 = .ok (.iload_n 1, 1) := by decide +kernel
theorem dX4_told_1 : decode cX4_told 1 = .ok (.tableswitch 66 0 4 #[35, 40, 45, 50, 58], 35) := by decide +kernel
theorem dX4_told_36 : decode cX4_told 36 = .ok (.aload_n 0, 1) := by decide +kernel
theorem dX4_told_37 : decode cX4_told 37 = .ok (.getfield 166, 3) := by decide +kernel
theorem dX4_told_40 : decode cX4_told 40 = .ok (.ireturn, 1) := by decide +kernel
theorem dX4_told_41 : decode cX4_told 41 = .ok (.aload_n 0, 1) := by decide +kernel
theorem dX4_told_42 : decode cX4_told 42 = .ok (.getfield 169, 3) := by decide +kernel
theorem dX4_told_45 : decode cX4_told 45 = .ok (.ireturn, 1) := by decide +kernel
theorem dX4_told_46 : decode cX4_told 46 = .ok (.aload_n 0, 1) := by decide +kernel
theorem dX4_told_47 : decode cX4_told 47 = .ok (.getfield 172, 3) := by decide +kernel
theorem dX4_told_50 : decode cX4_told 50 = .ok (.ireturn, 1) := by decide +kernel
theorem dX4_told_51 : decode cX4_told 51 = .ok (.aload_n 0, 1) := by decide +kernel
theorem dX4_told_52 : decode cX4_told 52 = .ok (.getfield 29, 3) := by decide +kernel
theorem dX4_told_55 : decode cX4_told 55 = .ok (.getfield 175, 3) := by decide +kernel
theorem dX4_told_58 : decode cX4_told 58 = .ok (.ireturn, 1) := by decide +kernel
theorem dX4_told_59 : decode cX4_told 59 = .ok (.aload_n 0, 1) := by decide +kernel
theorem dX4_told_60 : decode cX4_told 60 = .ok (.getfield 22, 3) := by decide +kernel
theorem dX4_told_63 : decode cX4_told 63 = .ok (.getfield 162, 3) := by decide +kernel
theorem dX4_told_66 : decode cX4_told 66 = .ok (.ireturn, 1) := by decide +kernel
theorem dX4_told_67 : decode cX4_told 67 = .ok (.aload_n 0, 1) := by decide +kernel
theorem dX4_told_68 : decode cX4_told 68 = .ok (.bipush (-2), 2) := by decide +kernel
theorem dX4_told_70 : decode cX4_told 70 = .ok (.invokevirtual 83, 3) := by decide +kernel
theorem dX4_told_73 : decode cX4_told 73 = .ok (.ireturn, 1) := by decide +kernel
theorem dX4_digest_0 : decode cX4_digest 0 = .ok (.ldc2_w 178, 3) := by decide +kernel
theorem dX4_digest_3 : decode cX4_digest 3 = .ok (.lstore_n 1, 1) := by decide +kernel
theorem dX4_digest_4 : decode cX4_digest 4 = .ok (.iconst 0, 1) := by decide +kernel
theorem dX4_digest_5 : decode cX4_digest 5 = .ok (.istore_n 3, 1) := by decide +kernel
theorem dX4_digest_6 : decode cX4_digest 6 = .ok (.iload_n 3, 1) := by decide +kernel
theorem dX4_digest_7 : decode cX4_digest 7 = .ok (.iconst 4, 1) := by decide +kernel
theorem dX4_digest_8 : decode cX4_digest 8 = .ok (.if_icmp .gt 22, 3) := by decide +kernel
theorem dX4_digest_11 : decode cX4_digest 11 = .ok (.ldc2_w 180, 3) := by decide +kernel
theorem dX4_digest_14 : decode cX4_digest 14 = .ok (.lload_n 1, 1) := by decide +kernel
theorem dX4_digest_15 : decode cX4_digest 15 = .ok (.lmul, 1) := by decide +kernel
theorem dX4_digest_16 : decode cX4_digest 16 = .ok (.aload_n 0, 1) := by decide +kernel
theorem dX4_digest_17 : decode cX4_digest 17 = .ok (.iload_n 3, 1) := by decide +kernel
theorem dX4_digest_18 : decode cX4_digest 18 = .ok (.invokevirtual 182, 3) := by decide +kernel
theorem dX4_digest_21 : decode cX4_digest 21 = .ok (.i2l, 1) := by decide +kernel
theorem dX4_digest_22 : decode cX4_digest 22 = .ok (.ladd, 1) := by decide +kernel
theorem dX4_digest_23 : decode cX4_digest 23 = .ok (.lstore_n 1, 1) := by decide +kernel
theorem dX4_digest_24 : decode cX4_digest 24 = .ok (.iinc 3 1, 3) := by decide +kernel
theorem dX4_digest_27 : decode cX4_digest 27 = .ok (.goto (-21), 3) := by decide +kernel
theorem dX4_digest_30 : decode cX4_digest 30 = .ok (.iconst 0, 1) := by decide +kernel
theorem dX4_digest_31 : decode cX4_digest 31 = .ok (.istore_n 3, 1) := by decide +kernel
theorem dX4_digest_32 : decode cX4_digest 32 = .ok (.iload_n 3, 1) := by decide +kernel
theorem dX4_digest_33 : decode cX4_digest 33 = .ok (.bipush 7, 2) := by decide +kernel
theorem dX4_digest_35 : decode cX4_digest 35 = .ok (.if_icmp .gt 22, 3) := by decide +kernel
theorem dX4_digest_38 : decode cX4_digest 38 = .ok (.ldc2_w 180, 3) := by decide +kernel
theorem dX4_digest_41 : decode cX4_digest 41 = .ok (.lload_n 1, 1) := by decide +kernel
theorem dX4_digest_42 : decode cX4_digest 42 = .ok (.lmul, 1) := by decide +kernel
theorem dX4_digest_43 : decode cX4_digest 43 = .ok (.aload_n 0, 1) := by decide +kernel
theorem dX4_digest_44 : decode cX4_digest 44 = .ok (.iload_n 3, 1) := by decide +kernel
theorem dX4_digest_45 : decode cX4_digest 45 = .ok (.invokevirtual 185, 3) := by decide +kernel
theorem dX4_digest_48 : decode cX4_digest 48 = .ok (.i2l, 1) := by decide +kernel
theorem dX4_digest_49 : decode cX4_digest 49 = .ok (.ladd, 1) := by decide +kernel
theorem dX4_digest_50 : decode cX4_digest 50 = .ok (.lstore_n 1, 1) := by decide +kernel
theorem dX4_digest_51 : decode cX4_digest 51 = .ok (.iinc 3 1, 3) := by decide +kernel
theorem dX4_digest_54 : decode cX4_digest 54 = .ok (.goto (-22), 3) := by decide +kernel
theorem dX4_digest_57 : decode cX4_digest 57 = .ok (.iconst 0, 1) := by decide +kernel
theorem dX4_digest_58 : decode cX4_digest 58 = .ok (.istore_n 3, 1) := by decide +kernel
theorem dX4_digest_59 : decode cX4_digest 59 = .ok (.iload_n 3, 1) := by decide +kernel
theorem dX4_digest_60 : decode cX4_digest 60 = .ok (.bipush 6, 2) := by decide +kernel
theorem dX4_digest_62 : decode cX4_digest 62 = .ok (.if_icmp .ge 39, 3) := by decide +kernel
theorem dX4_digest_65 : decode cX4_digest 65 = .ok (.iconst 0, 1) := by decide +kernel
theorem dX4_digest_66 : decode cX4_digest 66 = .ok (.istore 4, 2) := by decide +kernel
theorem dX4_digest_68 : decode cX4_digest 68 = .ok (.iload 4, 2) := by decide +kernel
theorem dX4_digest_70 : decode cX4_digest 70 = .ok (.iconst 2, 1) := by decide +kernel
theorem dX4_digest_71 : decode cX4_digest 71 = .ok (.if_icmp .gt 24, 3) := by decide +kernel
theorem dX4_digest_74 : decode cX4_digest 74 = .ok (.ldc2_w 180, 3) := by decide +kernel
theorem dX4_digest_77 : decode cX4_digest 77 = .ok (.lload_n 1, 1) := by decide +kernel
theorem dX4_digest_78 : decode cX4_digest 78 = .ok (.lmul, 1) := by decide +kernel
theorem dX4_digest_79 : decode cX4_digest 79 = .ok (.aload_n 0, 1) := by decide +kernel
theorem dX4_digest_80 : decode cX4_digest 80 = .ok (.iload_n 3, 1) := by decide +kernel
theorem dX4_digest_81 : decode cX4_digest 81 = .ok (.iload 4, 2) := by decide +kernel
theorem dX4_digest_83 : decode cX4_digest 83 = .ok (.invokevirtual 188, 3) := by decide +kernel
theorem dX4_digest_86 : decode cX4_digest 86 = .ok (.i2l, 1) := by decide +kernel
theorem dX4_digest_87 : decode cX4_digest 87 = .ok (.ladd, 1) := by decide +kernel
theorem dX4_digest_88 : decode cX4_digest 88 = .ok (.lstore_n 1, 1) := by decide +kernel
theorem dX4_digest_89 : decode cX4_digest 89 = .ok (.iinc 4 1, 3) := by decide +kernel
theorem dX4_digest_92 : decode cX4_digest 92 = .ok (.goto (-24), 3) := by decide +kernel
theorem dX4_digest_95 : decode cX4_digest 95 = .ok (.iinc 3 1, 3) := by decide +kernel
theorem dX4_digest_98 : decode cX4_digest 98 = .ok (.goto (-39), 3) := by decide +kernel
theorem dX4_digest_101 : decode cX4_digest 101 = .ok (.iconst 0, 1) := by decide +kernel
theorem dX4_digest_102 : decode cX4_digest 102 = .ok (.istore_n 3, 1) := by decide +kernel
theorem dX4_digest_103 : decode cX4_digest 103 = .ok (.iload_n 3, 1) := by decide +kernel
theorem dX4_digest_104 : decode cX4_digest 104 = .ok (.bipush 12, 2) := by decide +kernel
theorem dX4_digest_106 : decode cX4_digest 106 = .ok (.if_icmp .ge 22, 3) := by decide +kernel
theorem dX4_digest_109 : decode cX4_digest 109 = .ok (.ldc2_w 180, 3) := by decide +kernel
theorem dX4_digest_112 : decode cX4_digest 112 = .ok (.lload_n 1, 1) := by decide +kernel
theorem dX4_digest_113 : decode cX4_digest 113 = .ok (.lmul, 1) := by decide +kernel
theorem dX4_digest_114 : decode cX4_digest 114 = .ok (.aload_n 0, 1) := by decide +kernel
theorem dX4_digest_115 : decode cX4_digest 115 = .ok (.iload_n 3, 1) := by decide +kernel
theorem dX4_digest_116 : decode cX4_digest 116 = .ok (.invokevirtual 191, 3) := by decide +kernel
theorem dX4_digest_119 : decode cX4_digest 119 = .ok (.i2l, 1) := by decide +kernel
theorem dX4_digest_120 : decode cX4_digest 120 = .ok (.ladd, 1) := by decide +kernel
theorem dX4_digest_121 : decode cX4_digest 121 = .ok (.lstore_n 1, 1) := by decide +kernel
theorem dX4_digest_122 : decode cX4_digest 122 = .ok (.iinc 3 1, 3) := by decide +kernel
theorem dX4_digest_125 : decode cX4_digest 125 = .ok (.goto (-22), 3) := by decide +kernel
theorem dX4_digest_128 : decode cX4_digest 128 = .ok (.iconst 0, 1) := by decide +kernel
theorem dX4_digest_129 : decode cX4_digest 129 = .ok (.istore_n 3, 1) := by decide +kernel
theorem dX4_digest_130 : decode cX4_digest 130 = .ok (.iload_n 3, 1) := by decide +kernel
theorem dX4_digest_131 : decode cX4_digest 131 = .ok (.bipush 7, 2) := by decide +kernel
theorem dX4_digest_133 : decode cX4_digest 133 = .ok (.if_icmp .ge 22, 3) := by decide +kernel
theorem dX4_digest_136 : decode cX4_digest 136 = .ok (.ldc2_w 180, 3) := by decide +kernel
theorem dX4_digest_139 : decode cX4_digest 139 = .ok (.lload_n 1, 1) := by decide +kernel
theorem dX4_digest_140 : decode cX4_digest 140 = .ok (.lmul, 1) := by decide +kernel
theorem dX4_digest_141 : decode cX4_digest 141 = .ok (.aload_n 0, 1) := by decide +kernel
theorem dX4_digest_142 : decode cX4_digest 142 = .ok (.iload_n 3, 1) := by decide +kernel
theorem dX4_digest_143 : decode cX4_digest 143 = .ok (.invokevirtual 194, 3) := by decide +kernel
theorem dX4_digest_146 : decode cX4_digest 146 = .ok (.i2l, 1) := by decide +kernel
theorem dX4_digest_147 : decode cX4_digest 147 = .ok (.ladd, 1) := by decide +kernel
theorem dX4_digest_148 : decode cX4_digest 148 = .ok (.lstore_n 1, 1) := by decide +kernel
theorem dX4_digest_149 : decode cX4_digest 149 = .ok (.iinc 3 1, 3) := by decide +kernel
theorem dX4_digest_152 : decode cX4_digest 152 = .ok (.goto (-22), 3) := by decide +kernel
theorem dX4_digest_155 : decode cX4_digest 155 = .ok (.ldc2_w 180, 3) := by decide +kernel
theorem dX4_digest_158 : decode cX4_digest 158 = .ok (.lload_n 1, 1) := by decide +kernel
theorem dX4_digest_159 : decode cX4_digest 159 = .ok (.lmul, 1) := by decide +kernel
theorem dX4_digest_160 : decode cX4_digest 160 = .ok (.aload_n 0, 1) := by decide +kernel
theorem dX4_digest_161 : decode cX4_digest 161 = .ok (.invokevirtual 197, 3) := by decide +kernel
theorem dX4_digest_164 : decode cX4_digest 164 = .ok (.ladd, 1) := by decide +kernel
theorem dX4_digest_165 : decode cX4_digest 165 = .ok (.lstore_n 1, 1) := by decide +kernel
theorem dX4_digest_166 : decode cX4_digest 166 = .ok (.ldc2_w 180, 3) := by decide +kernel
theorem dX4_digest_169 : decode cX4_digest 169 = .ok (.lload_n 1, 1) := by decide +kernel
theorem dX4_digest_170 : decode cX4_digest 170 = .ok (.lmul, 1) := by decide +kernel
theorem dX4_digest_171 : decode cX4_digest 171 = .ok (.aload_n 0, 1) := by decide +kernel
theorem dX4_digest_172 : decode cX4_digest 172 = .ok (.bipush 9, 2) := by decide +kernel
theorem dX4_digest_174 : decode cX4_digest 174 = .ok (.invokevirtual 201, 3) := by decide +kernel
theorem dX4_digest_177 : decode cX4_digest 177 = .ok (.ladd, 1) := by decide +kernel
theorem dX4_digest_178 : decode cX4_digest 178 = .ok (.lstore_n 1, 1) := by decide +kernel
theorem dX4_digest_179 : decode cX4_digest 179 = .ok (.ldc2_w 180, 3) := by decide +kernel
theorem dX4_digest_182 : decode cX4_digest 182 = .ok (.lload_n 1, 1) := by decide +kernel
theorem dX4_digest_183 : decode cX4_digest 183 = .ok (.lmul, 1) := by decide +kernel
theorem dX4_digest_184 : decode cX4_digest 184 = .ok (.aload_n 0, 1) := by decide +kernel
theorem dX4_digest_185 : decode cX4_digest 185 = .ok (.aload_n 0, 1) := by decide +kernel
theorem dX4_digest_186 : decode cX4_digest 186 = .ok (.invokevirtual 197, 3) := by decide +kernel
theorem dX4_digest_189 : decode cX4_digest 189 = .ok (.iconst 3, 1) := by decide +kernel
theorem dX4_digest_190 : decode cX4_digest 190 = .ok (.iconst 0, 1) := by decide +kernel
theorem dX4_digest_191 : decode cX4_digest 191 = .ok (.invokevirtual 205, 3) := by decide +kernel
theorem dX4_digest_194 : decode cX4_digest 194 = .ok (.i2l, 1) := by decide +kernel
theorem dX4_digest_195 : decode cX4_digest 195 = .ok (.ladd, 1) := by decide +kernel
theorem dX4_digest_196 : decode cX4_digest 196 = .ok (.lreturn, 1) := by decide +kernel
theorem dX4_remember_0 : decode cX4_remember 0 = .ok (.aload_n 0, 1) := by decide +kernel
theorem dX4_remember_1 : decode cX4_remember 1 = .ok (.getfield 16, 3) := by decide +kernel
theorem dX4_remember_4 : decode cX4_remember 4 = .ok (.aload_n 0, 1) := by decide +kernel
theorem dX4_remember_5 : decode cX4_remember 5 = .ok (.getfield 10, 3) := by decide +kernel
theorem dX4_remember_8 : decode cX4_remember 8 = .ok (.invokevirtual 155, 3) := by decide +kernel
theorem dX4_remember_11 : decode cX4_remember 11 = .ok (.return_, 1) := by decide +kernel
theorem dX4_settled_0 : decode cX4_settled 0 = .ok (.iload_n 1, 1) := by decide +kernel
theorem dX4_settled_1 : decode cX4_settled 1 = .ok (.ifCond .ge 20, 3) := by decide +kernel
theorem dX4_settled_4 : decode cX4_settled 4 = .ok (.aload_n 0, 1) := by decide +kernel
theorem dX4_settled_5 : decode cX4_settled 5 = .ok (.getfield 10, 3) := by decide +kernel
theorem dX4_settled_8 : decode cX4_settled 8 = .ok (.aload_n 0, 1) := by decide +kernel
theorem dX4_settled_9 : decode cX4_settled 9 = .ok (.getfield 16, 3) := by decide +kernel
theorem dX4_settled_12 : decode cX4_settled 12 = .ok (.invokevirtual 155, 3) := by decide +kernel
theorem dX4_settled_15 : decode cX4_settled 15 = .ok (.aload_n 0, 1) := by decide +kernel
theorem dX4_settled_16 : decode cX4_settled 16 = .ok (.iload_n 1, 1) := by decide +kernel
theorem dX4_settled_17 : decode cX4_settled 17 = .ok (.invokevirtual 83, 3) := by decide +kernel
theorem dX4_settled_20 : decode cX4_settled 20 = .ok (.ireturn, 1) := by decide +kernel
theorem dX4_settled_21 : decode cX4_settled 21 = .ok (.aload_n 0, 1) := by decide +kernel
theorem dX4_settled_22 : decode cX4_settled 22 = .ok (.getfield 22, 3) := by decide +kernel
theorem dX4_settled_25 : decode cX4_settled 25 = .ok (.aload_n 0, 1) := by decide +kernel
theorem dX4_settled_26 : decode cX4_settled 26 = .ok (.getfield 16, 3) := by decide +kernel
theorem dX4_settled_29 : decode cX4_settled 29 = .ok (.invokevirtual 159, 3) := by decide +kernel
theorem dX4_settled_32 : decode cX4_settled 32 = .ok (.iload_n 1, 1) := by decide +kernel
theorem dX4_settled_33 : decode cX4_settled 33 = .ok (.ireturn, 1) := by decide +kernel
theorem dX4_counted_0 : decode cX4_counted 0 = .ok (.iload_n 1, 1) := by decide +kernel
theorem dX4_counted_1 : decode cX4_counted 1 = .ok (.bipush (-2), 2) := by decide +kernel
theorem dX4_counted_3 : decode cX4_counted 3 = .ok (.if_icmp .ne 16, 3) := by decide +kernel
theorem dX4_counted_6 : decode cX4_counted 6 = .ok (.aload_n 0, 1) := by decide +kernel
theorem dX4_counted_7 : decode cX4_counted 7 = .ok (.dup, 1) := by decide +kernel
theorem dX4_counted_8 : decode cX4_counted 8 = .ok (.getfield 166, 3) := by decide +kernel
theorem dX4_counted_11 : decode cX4_counted 11 = .ok (.iconst 1, 1) := by decide +kernel
theorem dX4_counted_12 : decode cX4_counted 12 = .ok (.iadd, 1) := by decide +kernel
theorem dX4_counted_13 : decode cX4_counted 13 = .ok (.putfield 166, 3) := by decide +kernel
theorem dX4_counted_16 : decode cX4_counted 16 = .ok (.goto 38, 3) := by decide +kernel
theorem dX4_counted_19 : decode cX4_counted 19 = .ok (.iload_n 1, 1) := by decide +kernel
theorem dX4_counted_20 : decode cX4_counted 20 = .ok (.bipush (-3), 2) := by decide +kernel
theorem dX4_counted_22 : decode cX4_counted 22 = .ok (.if_icmp .ne 16, 3) := by decide +kernel
theorem dX4_counted_25 : decode cX4_counted 25 = .ok (.aload_n 0, 1) := by decide +kernel
theorem dX4_counted_26 : decode cX4_counted 26 = .ok (.dup, 1) := by decide +kernel
theorem dX4_counted_27 : decode cX4_counted 27 = .ok (.getfield 169, 3) := by decide +kernel
theorem dX4_counted_30 : decode cX4_counted 30 = .ok (.iconst 1, 1) := by decide +kernel
theorem dX4_counted_31 : decode cX4_counted 31 = .ok (.iadd, 1) := by decide +kernel
theorem dX4_counted_32 : decode cX4_counted 32 = .ok (.putfield 169, 3) := by decide +kernel
theorem dX4_counted_35 : decode cX4_counted 35 = .ok (.goto 19, 3) := by decide +kernel
theorem dX4_counted_38 : decode cX4_counted 38 = .ok (.iload_n 1, 1) := by decide +kernel
theorem dX4_counted_39 : decode cX4_counted 39 = .ok (.bipush (-4), 2) := by decide +kernel
theorem dX4_counted_41 : decode cX4_counted 41 = .ok (.if_icmp .ne 13, 3) := by decide +kernel
theorem dX4_counted_44 : decode cX4_counted 44 = .ok (.aload_n 0, 1) := by decide +kernel
theorem dX4_counted_45 : decode cX4_counted 45 = .ok (.dup, 1) := by decide +kernel
theorem dX4_counted_46 : decode cX4_counted 46 = .ok (.getfield 172, 3) := by decide +kernel
theorem dX4_counted_49 : decode cX4_counted 49 = .ok (.iconst 1, 1) := by decide +kernel
theorem dX4_counted_50 : decode cX4_counted 50 = .ok (.iadd, 1) := by decide +kernel
theorem dX4_counted_51 : decode cX4_counted 51 = .ok (.putfield 172, 3) := by decide +kernel
theorem dX4_counted_54 : decode cX4_counted 54 = .ok (.iload_n 1, 1) := by decide +kernel
theorem dX4_counted_55 : decode cX4_counted 55 = .ok (.ireturn, 1) := by decide +kernel
theorem dX4_perform_0 : decode cX4_perform 0 = .ok (.iload_n 1, 1) := by decide +kernel
theorem dX4_perform_1 : decode cX4_perform 1 = .ok (.tableswitch 183 99 119 #[138, 128, 183, 183, 183, 183, 99, 183, 183, 183, 183, 183, 183, 183, 183, 174, 109, 146, 118, 156, 164], 99) := by decide +kernel
theorem dX4_perform_100 : decode cX4_perform 100 = .ok (.aload_n 0, 1) := by decide +kernel
theorem dX4_perform_101 : decode cX4_perform 101 = .ok (.getfield 10, 3) := by decide +kernel
theorem dX4_perform_104 : decode cX4_perform 104 = .ok (.iload_n 2, 1) := by decide +kernel
theorem dX4_perform_105 : decode cX4_perform 105 = .ok (.iload_n 3, 1) := by decide +kernel
theorem dX4_perform_106 : decode cX4_perform 106 = .ok (.invokevirtual 43, 3) := by decide +kernel
theorem dX4_perform_109 : decode cX4_perform 109 = .ok (.ireturn, 1) := by decide +kernel
theorem dX4_perform_110 : decode cX4_perform 110 = .ok (.aload_n 0, 1) := by decide +kernel
theorem dX4_perform_111 : decode cX4_perform 111 = .ok (.getfield 10, 3) := by decide +kernel
theorem dX4_perform_114 : decode cX4_perform 114 = .ok (.iload_n 2, 1) := by decide +kernel
theorem dX4_perform_115 : decode cX4_perform 115 = .ok (.invokevirtual 54, 3) := by decide +kernel
theorem dX4_perform_118 : decode cX4_perform 118 = .ok (.ireturn, 1) := by decide +kernel
theorem dX4_perform_119 : decode cX4_perform 119 = .ok (.aload_n 0, 1) := by decide +kernel
theorem dX4_perform_120 : decode cX4_perform 120 = .ok (.getfield 10, 3) := by decide +kernel
theorem dX4_perform_123 : decode cX4_perform 123 = .ok (.iload_n 2, 1) := by decide +kernel
theorem dX4_perform_124 : decode cX4_perform 124 = .ok (.iconst 1, 1) := by decide +kernel
theorem dX4_perform_125 : decode cX4_perform 125 = .ok (.invokevirtual 71, 3) := by decide +kernel
theorem dX4_perform_128 : decode cX4_perform 128 = .ok (.ireturn, 1) := by decide +kernel
theorem dX4_perform_129 : decode cX4_perform 129 = .ok (.aload_n 0, 1) := by decide +kernel
theorem dX4_perform_130 : decode cX4_perform 130 = .ok (.getfield 10, 3) := by decide +kernel
theorem dX4_perform_133 : decode cX4_perform 133 = .ok (.iload_n 2, 1) := by decide +kernel
theorem dX4_perform_134 : decode cX4_perform 134 = .ok (.iconst (-1), 1) := by decide +kernel
theorem dX4_perform_135 : decode cX4_perform 135 = .ok (.invokevirtual 71, 3) := by decide +kernel
theorem dX4_perform_138 : decode cX4_perform 138 = .ok (.ireturn, 1) := by decide +kernel
theorem dX4_perform_139 : decode cX4_perform 139 = .ok (.aload_n 0, 1) := by decide +kernel
theorem dX4_perform_140 : decode cX4_perform 140 = .ok (.getfield 10, 3) := by decide +kernel
theorem dX4_perform_143 : decode cX4_perform 143 = .ok (.invokevirtual 63, 3) := by decide +kernel
theorem dX4_perform_146 : decode cX4_perform 146 = .ok (.ireturn, 1) := by decide +kernel
theorem dX4_perform_147 : decode cX4_perform 147 = .ok (.aload_n 0, 1) := by decide +kernel
theorem dX4_perform_148 : decode cX4_perform 148 = .ok (.getfield 10, 3) := by decide +kernel
theorem dX4_perform_151 : decode cX4_perform 151 = .ok (.iload_n 2, 1) := by decide +kernel
theorem dX4_perform_152 : decode cX4_perform 152 = .ok (.iload_n 3, 1) := by decide +kernel
theorem dX4_perform_153 : decode cX4_perform 153 = .ok (.invokevirtual 74, 3) := by decide +kernel
theorem dX4_perform_156 : decode cX4_perform 156 = .ok (.ireturn, 1) := by decide +kernel
theorem dX4_perform_157 : decode cX4_perform 157 = .ok (.aload_n 0, 1) := by decide +kernel
theorem dX4_perform_158 : decode cX4_perform 158 = .ok (.getfield 10, 3) := by decide +kernel
theorem dX4_perform_161 : decode cX4_perform 161 = .ok (.invokevirtual 77, 3) := by decide +kernel
theorem dX4_perform_164 : decode cX4_perform 164 = .ok (.ireturn, 1) := by decide +kernel
theorem dX4_perform_165 : decode cX4_perform 165 = .ok (.aload_n 0, 1) := by decide +kernel
theorem dX4_perform_166 : decode cX4_perform 166 = .ok (.getfield 10, 3) := by decide +kernel
theorem dX4_perform_169 : decode cX4_perform 169 = .ok (.iload_n 2, 1) := by decide +kernel
theorem dX4_perform_170 : decode cX4_perform 170 = .ok (.iload_n 3, 1) := by decide +kernel
theorem dX4_perform_171 : decode cX4_perform 171 = .ok (.invokevirtual 60, 3) := by decide +kernel
theorem dX4_perform_174 : decode cX4_perform 174 = .ok (.ireturn, 1) := by decide +kernel
theorem dX4_perform_175 : decode cX4_perform 175 = .ok (.aload_n 0, 1) := by decide +kernel
theorem dX4_perform_176 : decode cX4_perform 176 = .ok (.getfield 10, 3) := by decide +kernel
theorem dX4_perform_179 : decode cX4_perform 179 = .ok (.iload_n 2, 1) := by decide +kernel
theorem dX4_perform_180 : decode cX4_perform 180 = .ok (.invokevirtual 57, 3) := by decide +kernel
theorem dX4_perform_183 : decode cX4_perform 183 = .ok (.ireturn, 1) := by decide +kernel
theorem dX4_perform_184 : decode cX4_perform 184 = .ok (.bipush (-2), 2) := by decide +kernel
theorem dX4_perform_186 : decode cX4_perform 186 = .ok (.ireturn, 1) := by decide +kernel
theorem dX4_within_0 : decode cX4_within 0 = .ok (.lload_n 2, 1) := by decide +kernel
theorem dX4_within_1 : decode cX4_within 1 = .ok (.lload_n 0, 1) := by decide +kernel
theorem dX4_within_2 : decode cX4_within 2 = .ok (.lcmp, 1) := by decide +kernel
theorem dX4_within_3 : decode cX4_within 3 = .ok (.ifCond .gt 14, 3) := by decide +kernel
theorem dX4_within_6 : decode cX4_within 6 = .ok (.lload_n 0, 1) := by decide +kernel
theorem dX4_within_7 : decode cX4_within 7 = .ok (.lload 4, 2) := by decide +kernel
theorem dX4_within_9 : decode cX4_within 9 = .ok (.lcmp, 1) := by decide +kernel
theorem dX4_within_10 : decode cX4_within 10 = .ok (.ifCond .gt 7, 3) := by decide +kernel
theorem dX4_within_13 : decode cX4_within 13 = .ok (.iconst 1, 1) := by decide +kernel
theorem dX4_within_14 : decode cX4_within 14 = .ok (.goto 4, 3) := by decide +kernel
theorem dX4_within_17 : decode cX4_within 17 = .ok (.iconst 0, 1) := by decide +kernel
theorem dX4_within_18 : decode cX4_within 18 = .ok (.ireturn, 1) := by decide +kernel
theorem dX4_number_0 : decode cX4_number 0 = .ok (.lconst 0, 1) := by decide +kernel
theorem dX4_number_1 : decode cX4_number 1 = .ok (.lstore_n 1, 1) := by decide +kernel
theorem dX4_number_2 : decode cX4_number 2 = .ok (.aload_n 0, 1) := by decide +kernel
theorem dX4_number_3 : decode cX4_number 3 = .ok (.arraylength, 1) := by decide +kernel
theorem dX4_number_4 : decode cX4_number 4 = .ok (.iconst 1, 1) := by decide +kernel
theorem dX4_number_5 : decode cX4_number 5 = .ok (.isub, 1) := by decide +kernel
theorem dX4_number_6 : decode cX4_number 6 = .ok (.istore_n 3, 1) := by decide +kernel
theorem dX4_number_7 : decode cX4_number 7 = .ok (.iload_n 3, 1) := by decide +kernel
theorem dX4_number_8 : decode cX4_number 8 = .ok (.ifCond .lt 20, 3) := by decide +kernel
theorem dX4_number_11 : decode cX4_number 11 = .ok (.lload_n 1, 1) := by decide +kernel
theorem dX4_number_12 : decode cX4_number 12 = .ok (.ldc2_w 208, 3) := by decide +kernel
theorem dX4_number_15 : decode cX4_number 15 = .ok (.lmul, 1) := by decide +kernel
theorem dX4_number_16 : decode cX4_number 16 = .ok (.aload_n 0, 1) := by decide +kernel
theorem dX4_number_17 : decode cX4_number 17 = .ok (.iload_n 3, 1) := by decide +kernel
theorem dX4_number_18 : decode cX4_number 18 = .ok (.iaload, 1) := by decide +kernel
theorem dX4_number_19 : decode cX4_number 19 = .ok (.i2l, 1) := by decide +kernel
theorem dX4_number_20 : decode cX4_number 20 = .ok (.ladd, 1) := by decide +kernel
theorem dX4_number_21 : decode cX4_number 21 = .ok (.lstore_n 1, 1) := by decide +kernel
theorem dX4_number_22 : decode cX4_number 22 = .ok (.iinc 3 (-1), 3) := by decide +kernel
theorem dX4_number_25 : decode cX4_number 25 = .ok (.goto (-18), 3) := by decide +kernel
theorem dX4_number_28 : decode cX4_number 28 = .ok (.lload_n 1, 1) := by decide +kernel
theorem dX4_number_29 : decode cX4_number 29 = .ok (.lreturn, 1) := by decide +kernel
theorem dX4_putFigures_0 : decode cX4_putFigures 0 = .ok (.iconst 0, 1) := by decide +kernel
theorem dX4_putFigures_1 : decode cX4_putFigures 1 = .ok (.istore_n 3, 1) := by decide +kernel
theorem dX4_putFigures_2 : decode cX4_putFigures 2 = .ok (.lload_n 1, 1) := by decide +kernel
theorem dX4_putFigures_3 : decode cX4_putFigures 3 = .ok (.lstore 4, 2) := by decide +kernel
theorem dX4_putFigures_5 : decode cX4_putFigures 5 = .ok (.iconst 0, 1) := by decide +kernel
theorem dX4_putFigures_6 : decode cX4_putFigures 6 = .ok (.istore 6, 2) := by decide +kernel
theorem dX4_putFigures_8 : decode cX4_putFigures 8 = .ok (.iload 6, 2) := by decide +kernel
theorem dX4_putFigures_10 : decode cX4_putFigures 10 = .ok (.aload_n 0, 1) := by decide +kernel
theorem dX4_putFigures_11 : decode cX4_putFigures 11 = .ok (.arraylength, 1) := by decide +kernel
theorem dX4_putFigures_12 : decode cX4_putFigures 12 = .ok (.if_icmp .ge 44, 3) := by decide +kernel
theorem dX4_putFigures_15 : decode cX4_putFigures 15 = .ok (.lload 4, 2) := by decide +kernel
theorem dX4_putFigures_17 : decode cX4_putFigures 17 = .ok (.ldc2_w 208, 3) := by decide +kernel
theorem dX4_putFigures_20 : decode cX4_putFigures 20 = .ok (.lrem, 1) := by decide +kernel
theorem dX4_putFigures_21 : decode cX4_putFigures 21 = .ok (.l2i, 1) := by decide +kernel
theorem dX4_putFigures_22 : decode cX4_putFigures 22 = .ok (.istore 7, 2) := by decide +kernel
theorem dX4_putFigures_24 : decode cX4_putFigures 24 = .ok (.lload 4, 2) := by decide +kernel
theorem dX4_putFigures_26 : decode cX4_putFigures 26 = .ok (.ldc2_w 208, 3) := by decide +kernel
theorem dX4_putFigures_29 : decode cX4_putFigures 29 = .ok (.ldiv, 1) := by decide +kernel
theorem dX4_putFigures_30 : decode cX4_putFigures 30 = .ok (.lstore 4, 2) := by decide +kernel
theorem dX4_putFigures_32 : decode cX4_putFigures 32 = .ok (.aload_n 0, 1) := by decide +kernel
theorem dX4_putFigures_33 : decode cX4_putFigures 33 = .ok (.iload 6, 2) := by decide +kernel
theorem dX4_putFigures_35 : decode cX4_putFigures 35 = .ok (.iaload, 1) := by decide +kernel
theorem dX4_putFigures_36 : decode cX4_putFigures 36 = .ok (.iload 7, 2) := by decide +kernel
theorem dX4_putFigures_38 : decode cX4_putFigures 38 = .ok (.if_icmp .eq 6, 3) := by decide +kernel
theorem dX4_putFigures_41 : decode cX4_putFigures 41 = .ok (.iinc 3 1, 3) := by decide +kernel
theorem dX4_putFigures_44 : decode cX4_putFigures 44 = .ok (.aload_n 0, 1) := by decide +kernel
theorem dX4_putFigures_45 : decode cX4_putFigures 45 = .ok (.iload 6, 2) := by decide +kernel
theorem dX4_putFigures_47 : decode cX4_putFigures 47 = .ok (.iload 7, 2) := by decide +kernel
theorem dX4_putFigures_49 : decode cX4_putFigures 49 = .ok (.iastore, 1) := by decide +kernel
theorem dX4_putFigures_50 : decode cX4_putFigures 50 = .ok (.iinc 6 1, 3) := by decide +kernel
theorem dX4_putFigures_53 : decode cX4_putFigures 53 = .ok (.goto (-45), 3) := by decide +kernel
theorem dX4_putFigures_56 : decode cX4_putFigures 56 = .ok (.iload_n 3, 1) := by decide +kernel
theorem dX4_putFigures_57 : decode cX4_putFigures 57 = .ok (.ireturn, 1) := by decide +kernel
theorem dX4_canMultiply_0 : decode cX4_canMultiply 0 = .ok (.iload_n 0, 1) := by decide +kernel
theorem dX4_canMultiply_1 : decode cX4_canMultiply 1 = .ok (.i2l, 1) := by decide +kernel
theorem dX4_canMultiply_2 : decode cX4_canMultiply 2 = .ok (.lconst 0, 1) := by decide +kernel
theorem dX4_canMultiply_3 : decode cX4_canMultiply 3 = .ok (.ldc2_w 210, 3) := by decide +kernel
theorem dX4_canMultiply_6 : decode cX4_canMultiply 6 = .ok (.invokestatic 91, 3) := by decide +kernel
theorem dX4_canMultiply_9 : decode cX4_canMultiply 9 = .ok (.ifCond .eq 17, 3) := by decide +kernel
theorem dX4_canMultiply_12 : decode cX4_canMultiply 12 = .ok (.iload_n 1, 1) := by decide +kernel
theorem dX4_canMultiply_13 : decode cX4_canMultiply 13 = .ok (.i2l, 1) := by decide +kernel
theorem dX4_canMultiply_14 : decode cX4_canMultiply 14 = .ok (.lconst 0, 1) := by decide +kernel
theorem dX4_canMultiply_15 : decode cX4_canMultiply 15 = .ok (.lconst 1, 1) := by decide +kernel
theorem dX4_canMultiply_16 : decode cX4_canMultiply 16 = .ok (.invokestatic 91, 3) := by decide +kernel
theorem dX4_canMultiply_19 : decode cX4_canMultiply 19 = .ok (.ifCond .eq 7, 3) := by decide +kernel
theorem dX4_canMultiply_22 : decode cX4_canMultiply 22 = .ok (.iconst 1, 1) := by decide +kernel
theorem dX4_canMultiply_23 : decode cX4_canMultiply 23 = .ok (.goto 4, 3) := by decide +kernel
theorem dX4_canMultiply_26 : decode cX4_canMultiply 26 = .ok (.iconst 0, 1) := by decide +kernel
theorem dX4_canMultiply_27 : decode cX4_canMultiply 27 = .ok (.ireturn, 1) := by decide +kernel
theorem dX4_figuresToMultiply_0 : decode cX4_figuresToMultiply 0 = .ok (.iload_n 0, 1) := by decide +kernel
theorem dX4_figuresToMultiply_1 : decode cX4_figuresToMultiply 1 = .ok (.iconst 1, 1) := by decide +kernel
theorem dX4_figuresToMultiply_2 : decode cX4_figuresToMultiply 2 = .ok (.if_icmp .ne 8, 3) := by decide +kernel
theorem dX4_figuresToMultiply_5 : decode cX4_figuresToMultiply 5 = .ok (.bipush 7, 2) := by decide +kernel
theorem dX4_figuresToMultiply_7 : decode cX4_figuresToMultiply 7 = .ok (.goto 5, 3) := by decide +kernel
theorem dX4_figuresToMultiply_10 : decode cX4_figuresToMultiply 10 = .ok (.bipush 6, 2) := by decide +kernel
theorem dX4_figuresToMultiply_12 : decode cX4_figuresToMultiply 12 = .ok (.ireturn, 1) := by decide +kernel
theorem dX4_turnsForFigure_0 : decode cX4_turnsForFigure 0 = .ok (.iload_n 0, 1) := by decide +kernel
theorem dX4_turnsForFigure_1 : decode cX4_turnsForFigure 1 = .ok (.bipush 10, 2) := by decide +kernel
theorem dX4_turnsForFigure_3 : decode cX4_turnsForFigure 3 = .ok (.irem, 1) := by decide +kernel
theorem dX4_turnsForFigure_4 : decode cX4_turnsForFigure 4 = .ok (.istore_n 2, 1) := by decide +kernel
theorem dX4_turnsForFigure_5 : decode cX4_turnsForFigure 5 = .ok (.iload_n 1, 1) := by decide +kernel
theorem dX4_turnsForFigure_6 : decode cX4_turnsForFigure 6 = .ok (.iconst 1, 1) := by decide +kernel
theorem dX4_turnsForFigure_7 : decode cX4_turnsForFigure 7 = .ok (.if_icmp .ne 15, 3) := by decide +kernel
theorem dX4_turnsForFigure_10 : decode cX4_turnsForFigure 10 = .ok (.iload_n 2, 1) := by decide +kernel
theorem dX4_turnsForFigure_11 : decode cX4_turnsForFigure 11 = .ok (.iconst 5, 1) := by decide +kernel
theorem dX4_turnsForFigure_12 : decode cX4_turnsForFigure 12 = .ok (.if_icmp .le 10, 3) := by decide +kernel
theorem dX4_turnsForFigure_15 : decode cX4_turnsForFigure 15 = .ok (.iload_n 2, 1) := by decide +kernel
theorem dX4_turnsForFigure_16 : decode cX4_turnsForFigure 16 = .ok (.bipush 10, 2) := by decide +kernel
theorem dX4_turnsForFigure_18 : decode cX4_turnsForFigure 18 = .ok (.isub, 1) := by decide +kernel
theorem dX4_turnsForFigure_19 : decode cX4_turnsForFigure 19 = .ok (.goto 4, 3) := by decide +kernel
theorem dX4_turnsForFigure_22 : decode cX4_turnsForFigure 22 = .ok (.iload_n 2, 1) := by decide +kernel
theorem dX4_turnsForFigure_23 : decode cX4_turnsForFigure 23 = .ok (.ireturn, 1) := by decide +kernel
theorem dX4_leftBehindFigure_0 : decode cX4_leftBehindFigure 0 = .ok (.iload_n 0, 1) := by decide +kernel
theorem dX4_leftBehindFigure_1 : decode cX4_leftBehindFigure 1 = .ok (.iload_n 1, 1) := by decide +kernel
theorem dX4_leftBehindFigure_2 : decode cX4_leftBehindFigure 2 = .ok (.isub, 1) := by decide +kernel
theorem dX4_leftBehindFigure_3 : decode cX4_leftBehindFigure 3 = .ok (.bipush 10, 2) := by decide +kernel
theorem dX4_leftBehindFigure_5 : decode cX4_leftBehindFigure 5 = .ok (.idiv, 1) := by decide +kernel
theorem dX4_leftBehindFigure_6 : decode cX4_leftBehindFigure 6 = .ok (.ireturn, 1) := by decide +kernel
theorem dX4_turnsToMultiply_0 : decode cX4_turnsToMultiply 0 = .ok (.iload_n 0, 1) := by decide +kernel
theorem dX4_turnsToMultiply_1 : decode cX4_turnsToMultiply 1 = .ok (.iload_n 1, 1) := by decide +kernel
theorem dX4_turnsToMultiply_2 : decode cX4_turnsToMultiply 2 = .ok (.invokestatic 212, 3) := by decide +kernel
theorem dX4_turnsToMultiply_5 : decode cX4_turnsToMultiply 5 = .ok (.ifCond .ne 6, 3) := by decide +kernel
theorem dX4_turnsToMultiply_8 : decode cX4_turnsToMultiply 8 = .ok (.bipush (-2), 2) := by decide +kernel
theorem dX4_turnsToMultiply_10 : decode cX4_turnsToMultiply 10 = .ok (.ireturn, 1) := by decide +kernel
theorem dX4_turnsToMultiply_11 : decode cX4_turnsToMultiply 11 = .ok (.iconst 0, 1) := by decide +kernel
theorem dX4_turnsToMultiply_12 : decode cX4_turnsToMultiply 12 = .ok (.istore_n 2, 1) := by decide +kernel
theorem dX4_turnsToMultiply_13 : decode cX4_turnsToMultiply 13 = .ok (.iload_n 0, 1) := by decide +kernel
theorem dX4_turnsToMultiply_14 : decode cX4_turnsToMultiply 14 = .ok (.istore_n 3, 1) := by decide +kernel
theorem dX4_turnsToMultiply_15 : decode cX4_turnsToMultiply 15 = .ok (.iconst 0, 1) := by decide +kernel
theorem dX4_turnsToMultiply_16 : decode cX4_turnsToMultiply 16 = .ok (.istore 4, 2) := by decide +kernel
theorem dX4_turnsToMultiply_18 : decode cX4_turnsToMultiply 18 = .ok (.iload 4, 2) := by decide +kernel
theorem dX4_turnsToMultiply_20 : decode cX4_turnsToMultiply 20 = .ok (.iload_n 1, 1) := by decide +kernel
theorem dX4_turnsToMultiply_21 : decode cX4_turnsToMultiply 21 = .ok (.invokestatic 216, 3) := by decide +kernel
theorem dX4_turnsToMultiply_24 : decode cX4_turnsToMultiply 24 = .ok (.if_icmp .ge 31, 3) := by decide +kernel
theorem dX4_turnsToMultiply_27 : decode cX4_turnsToMultiply 27 = .ok (.iload_n 3, 1) := by decide +kernel
theorem dX4_turnsToMultiply_28 : decode cX4_turnsToMultiply 28 = .ok (.iload_n 1, 1) := by decide +kernel
theorem dX4_turnsToMultiply_29 : decode cX4_turnsToMultiply 29 = .ok (.invokestatic 219, 3) := by decide +kernel
theorem dX4_turnsToMultiply_32 : decode cX4_turnsToMultiply 32 = .ok (.istore 5, 2) := by decide +kernel
theorem dX4_turnsToMultiply_34 : decode cX4_turnsToMultiply 34 = .ok (.iload_n 3, 1) := by decide +kernel
theorem dX4_turnsToMultiply_35 : decode cX4_turnsToMultiply 35 = .ok (.iload 5, 2) := by decide +kernel
theorem dX4_turnsToMultiply_37 : decode cX4_turnsToMultiply 37 = .ok (.invokestatic 222, 3) := by decide +kernel
theorem dX4_turnsToMultiply_40 : decode cX4_turnsToMultiply 40 = .ok (.istore_n 3, 1) := by decide +kernel
theorem dX4_turnsToMultiply_41 : decode cX4_turnsToMultiply 41 = .ok (.iload_n 2, 1) := by decide +kernel
theorem dX4_turnsToMultiply_42 : decode cX4_turnsToMultiply 42 = .ok (.iload 5, 2) := by decide +kernel
theorem dX4_turnsToMultiply_44 : decode cX4_turnsToMultiply 44 = .ok (.invokestatic 225, 3) := by decide +kernel
theorem dX4_turnsToMultiply_47 : decode cX4_turnsToMultiply 47 = .ok (.iadd, 1) := by decide +kernel
theorem dX4_turnsToMultiply_48 : decode cX4_turnsToMultiply 48 = .ok (.istore_n 2, 1) := by decide +kernel
theorem dX4_turnsToMultiply_49 : decode cX4_turnsToMultiply 49 = .ok (.iinc 4 1, 3) := by decide +kernel
theorem dX4_turnsToMultiply_52 : decode cX4_turnsToMultiply 52 = .ok (.goto (-34), 3) := by decide +kernel
theorem dX4_turnsToMultiply_55 : decode cX4_turnsToMultiply 55 = .ok (.iload_n 2, 1) := by decide +kernel
theorem dX4_turnsToMultiply_56 : decode cX4_turnsToMultiply 56 = .ok (.ireturn, 1) := by decide +kernel
theorem dJ6_bitCount_0f7a4_0 : decode cJ6_bitCount_0f7a4 0 = .ok (.iload_n 0, 1) := by decide +kernel
theorem dJ6_bitCount_0f7a4_1 : decode cJ6_bitCount_0f7a4 1 = .ok (.iload_n 0, 1) := by decide +kernel
theorem dJ6_bitCount_0f7a4_2 : decode cJ6_bitCount_0f7a4 2 = .ok (.iconst 1, 1) := by decide +kernel
theorem dJ6_bitCount_0f7a4_3 : decode cJ6_bitCount_0f7a4 3 = .ok (.iushr, 1) := by decide +kernel
theorem dJ6_bitCount_0f7a4_4 : decode cJ6_bitCount_0f7a4 4 = .ok (.ldc_w 265, 3) := by decide +kernel
theorem dJ6_bitCount_0f7a4_7 : decode cJ6_bitCount_0f7a4 7 = .ok (.iand, 1) := by decide +kernel
theorem dJ6_bitCount_0f7a4_8 : decode cJ6_bitCount_0f7a4 8 = .ok (.isub, 1) := by decide +kernel
theorem dJ6_bitCount_0f7a4_9 : decode cJ6_bitCount_0f7a4 9 = .ok (.istore_n 0, 1) := by decide +kernel
theorem dJ6_bitCount_0f7a4_10 : decode cJ6_bitCount_0f7a4 10 = .ok (.iload_n 0, 1) := by decide +kernel
theorem dJ6_bitCount_0f7a4_11 : decode cJ6_bitCount_0f7a4 11 = .ok (.ldc_w 266, 3) := by decide +kernel
theorem dJ6_bitCount_0f7a4_14 : decode cJ6_bitCount_0f7a4 14 = .ok (.iand, 1) := by decide +kernel
theorem dJ6_bitCount_0f7a4_15 : decode cJ6_bitCount_0f7a4 15 = .ok (.iload_n 0, 1) := by decide +kernel
theorem dJ6_bitCount_0f7a4_16 : decode cJ6_bitCount_0f7a4 16 = .ok (.iconst 2, 1) := by decide +kernel
theorem dJ6_bitCount_0f7a4_17 : decode cJ6_bitCount_0f7a4 17 = .ok (.iushr, 1) := by decide +kernel
theorem dJ6_bitCount_0f7a4_18 : decode cJ6_bitCount_0f7a4 18 = .ok (.ldc_w 266, 3) := by decide +kernel
theorem dJ6_bitCount_0f7a4_21 : decode cJ6_bitCount_0f7a4 21 = .ok (.iand, 1) := by decide +kernel
theorem dJ6_bitCount_0f7a4_22 : decode cJ6_bitCount_0f7a4 22 = .ok (.iadd, 1) := by decide +kernel
theorem dJ6_bitCount_0f7a4_23 : decode cJ6_bitCount_0f7a4 23 = .ok (.istore_n 0, 1) := by decide +kernel
theorem dJ6_bitCount_0f7a4_24 : decode cJ6_bitCount_0f7a4 24 = .ok (.iload_n 0, 1) := by decide +kernel
theorem dJ6_bitCount_0f7a4_25 : decode cJ6_bitCount_0f7a4 25 = .ok (.iload_n 0, 1) := by decide +kernel
theorem dJ6_bitCount_0f7a4_26 : decode cJ6_bitCount_0f7a4 26 = .ok (.iconst 4, 1) := by decide +kernel
theorem dJ6_bitCount_0f7a4_27 : decode cJ6_bitCount_0f7a4 27 = .ok (.iushr, 1) := by decide +kernel
theorem dJ6_bitCount_0f7a4_28 : decode cJ6_bitCount_0f7a4 28 = .ok (.iadd, 1) := by decide +kernel
theorem dJ6_bitCount_0f7a4_29 : decode cJ6_bitCount_0f7a4 29 = .ok (.ldc_w 267, 3) := by decide +kernel
theorem dJ6_bitCount_0f7a4_32 : decode cJ6_bitCount_0f7a4 32 = .ok (.iand, 1) := by decide +kernel
theorem dJ6_bitCount_0f7a4_33 : decode cJ6_bitCount_0f7a4 33 = .ok (.istore_n 0, 1) := by decide +kernel
theorem dJ6_bitCount_0f7a4_34 : decode cJ6_bitCount_0f7a4 34 = .ok (.iload_n 0, 1) := by decide +kernel
theorem dJ6_bitCount_0f7a4_35 : decode cJ6_bitCount_0f7a4 35 = .ok (.iload_n 0, 1) := by decide +kernel
theorem dJ6_bitCount_0f7a4_36 : decode cJ6_bitCount_0f7a4 36 = .ok (.bipush 8, 2) := by decide +kernel
theorem dJ6_bitCount_0f7a4_38 : decode cJ6_bitCount_0f7a4 38 = .ok (.iushr, 1) := by decide +kernel
theorem dJ6_bitCount_0f7a4_39 : decode cJ6_bitCount_0f7a4 39 = .ok (.iadd, 1) := by decide +kernel
theorem dJ6_bitCount_0f7a4_40 : decode cJ6_bitCount_0f7a4 40 = .ok (.istore_n 0, 1) := by decide +kernel
theorem dJ6_bitCount_0f7a4_41 : decode cJ6_bitCount_0f7a4 41 = .ok (.iload_n 0, 1) := by decide +kernel
theorem dJ6_bitCount_0f7a4_42 : decode cJ6_bitCount_0f7a4 42 = .ok (.iload_n 0, 1) := by decide +kernel
theorem dJ6_bitCount_0f7a4_43 : decode cJ6_bitCount_0f7a4 43 = .ok (.bipush 16, 2) := by decide +kernel
theorem dJ6_bitCount_0f7a4_45 : decode cJ6_bitCount_0f7a4 45 = .ok (.iushr, 1) := by decide +kernel
theorem dJ6_bitCount_0f7a4_46 : decode cJ6_bitCount_0f7a4 46 = .ok (.iadd, 1) := by decide +kernel
theorem dJ6_bitCount_0f7a4_47 : decode cJ6_bitCount_0f7a4 47 = .ok (.istore_n 0, 1) := by decide +kernel
theorem dJ6_bitCount_0f7a4_48 : decode cJ6_bitCount_0f7a4 48 = .ok (.iload_n 0, 1) := by decide +kernel
theorem dJ6_bitCount_0f7a4_49 : decode cJ6_bitCount_0f7a4 49 = .ok (.bipush 63, 2) := by decide +kernel
theorem dJ6_bitCount_0f7a4_51 : decode cJ6_bitCount_0f7a4 51 = .ok (.iand, 1) := by decide +kernel
theorem dJ6_bitCount_0f7a4_52 : decode cJ6_bitCount_0f7a4 52 = .ok (.ireturn, 1) := by decide +kernel
theorem dJ9_abs_0f7a4_0 : decode cJ9_abs_0f7a4 0 = .ok (.iload_n 0, 1) := by decide +kernel
theorem dJ9_abs_0f7a4_1 : decode cJ9_abs_0f7a4 1 = .ok (.ifCond .ge 8, 3) := by decide +kernel
theorem dJ9_abs_0f7a4_4 : decode cJ9_abs_0f7a4 4 = .ok (.iload_n 0, 1) := by decide +kernel
theorem dJ9_abs_0f7a4_5 : decode cJ9_abs_0f7a4 5 = .ok (.ineg, 1) := by decide +kernel
theorem dJ9_abs_0f7a4_6 : decode cJ9_abs_0f7a4 6 = .ok (.goto 4, 3) := by decide +kernel
theorem dJ9_abs_0f7a4_9 : decode cJ9_abs_0f7a4 9 = .ok (.iload_n 0, 1) := by decide +kernel
theorem dJ9_abs_0f7a4_10 : decode cJ9_abs_0f7a4 10 = .ok (.ireturn, 1) := by decide +kernel
theorem dJ9_min_7cf53_0 : decode cJ9_min_7cf53 0 = .ok (.iload_n 0, 1) := by decide +kernel
theorem dJ9_min_7cf53_1 : decode cJ9_min_7cf53 1 = .ok (.iload_n 1, 1) := by decide +kernel
theorem dJ9_min_7cf53_2 : decode cJ9_min_7cf53 2 = .ok (.if_icmp .gt 7, 3) := by decide +kernel
theorem dJ9_min_7cf53_5 : decode cJ9_min_7cf53 5 = .ok (.iload_n 0, 1) := by decide +kernel
theorem dJ9_min_7cf53_6 : decode cJ9_min_7cf53 6 = .ok (.goto 4, 3) := by decide +kernel
theorem dJ9_min_7cf53_9 : decode cJ9_min_7cf53 9 = .ok (.iload_n 1, 1) := by decide +kernel
theorem dJ9_min_7cf53_10 : decode cJ9_min_7cf53 10 = .ok (.ireturn, 1) := by decide +kernel
theorem dJ7_fill_53178_0 : decode cJ7_fill_53178 0 = .ok (.iconst 0, 1) := by decide +kernel
theorem dJ7_fill_53178_1 : decode cJ7_fill_53178 1 = .ok (.istore_n 2, 1) := by decide +kernel
theorem dJ7_fill_53178_2 : decode cJ7_fill_53178 2 = .ok (.aload_n 0, 1) := by decide +kernel
theorem dJ7_fill_53178_3 : decode cJ7_fill_53178 3 = .ok (.arraylength, 1) := by decide +kernel
theorem dJ7_fill_53178_4 : decode cJ7_fill_53178 4 = .ok (.istore_n 3, 1) := by decide +kernel
theorem dJ7_fill_53178_5 : decode cJ7_fill_53178 5 = .ok (.iload_n 2, 1) := by decide +kernel
theorem dJ7_fill_53178_6 : decode cJ7_fill_53178 6 = .ok (.iload_n 3, 1) := by decide +kernel
theorem dJ7_fill_53178_7 : decode cJ7_fill_53178 7 = .ok (.if_icmp .ge 13, 3) := by decide +kernel
theorem dJ7_fill_53178_10 : decode cJ7_fill_53178 10 = .ok (.aload_n 0, 1) := by decide +kernel
theorem dJ7_fill_53178_11 : decode cJ7_fill_53178 11 = .ok (.iload_n 2, 1) := by decide +kernel
theorem dJ7_fill_53178_12 : decode cJ7_fill_53178 12 = .ok (.iload_n 1, 1) := by decide +kernel
theorem dJ7_fill_53178_13 : decode cJ7_fill_53178 13 = .ok (.iastore, 1) := by decide +kernel
theorem dJ7_fill_53178_14 : decode cJ7_fill_53178 14 = .ok (.iinc 2 1, 3) := by decide +kernel
theorem dJ7_fill_53178_17 : decode cJ7_fill_53178 17 = .ok (.goto (-12), 3) := by decide +kernel
theorem dJ7_fill_53178_20 : decode cJ7_fill_53178 20 = .ok (.return_, 1) := by decide +kernel
