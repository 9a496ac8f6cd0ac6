theorem dX5_init_0 : decode cX5_init 0 = .ok (.aload_n 0, 1) := by decide +kernel
theorem dX5_init_1 : decode cX5_init 1 = .ok (.invokespecial 1, 3) := by decide +kernel
theorem dX5_init_4 : decode cX5_init 4 = .ok (.aload_n 0, 1) := by decide +kernel
theorem dX5_init_5 : decode cX5_init 5 = .ok (.bipush 35, 2) := by decide +kernel
theorem dX5_init_7 : decode cX5_init 7 = .ok (.newarray .int, 2) := by decide +kernel
theorem dX5_init_9 : decode cX5_init 9 = .ok (.putfield 7, 3) := by decide +kernel
theorem dX5_init_12 : decode cX5_init 12 = .ok (.aload_n 0, 1) := by decide +kernel
theorem dX5_init_13 : decode cX5_init 13 = .ok (.bipush 35, 2) := by decide +kernel
theorem dX5_init_15 : decode cX5_init 15 = .ok (.newarray .int, 2) := by decide +kernel
theorem dX5_init_17 : decode cX5_init 17 = .ok (.putfield 13, 3) := by decide +kernel
theorem dX5_init_20 : decode cX5_init 20 = .ok (.aload_n 0, 1) := by decide +kernel
theorem dX5_init_21 : decode cX5_init 21 = .ok (.sipush 175, 3) := by decide +kernel
theorem dX5_init_24 : decode cX5_init 24 = .ok (.newarray .int, 2) := by decide +kernel
theorem dX5_init_26 : decode cX5_init 26 = .ok (.putfield 16, 3) := by decide +kernel
theorem dX5_init_29 : decode cX5_init 29 = .ok (.aload_n 0, 1) := by decide +kernel
theorem dX5_init_30 : decode cX5_init 30 = .ok (.iconst 3, 1) := by decide +kernel
theorem dX5_init_31 : decode cX5_init 31 = .ok (.newarray .int, 2) := by decide +kernel
theorem dX5_init_33 : decode cX5_init 33 = .ok (.putfield 19, 3) := by decide +kernel
theorem dX5_init_36 : decode cX5_init 36 = .ok (.aload_n 0, 1) := by decide +kernel
theorem dX5_init_37 : decode cX5_init 37 = .ok (.bipush 120, 2) := by decide +kernel
theorem dX5_init_39 : decode cX5_init 39 = .ok (.newarray .int, 2) := by decide +kernel
theorem dX5_init_41 : decode cX5_init 41 = .ok (.putfield 22, 3) := by decide +kernel
theorem dX5_init_44 : decode cX5_init 44 = .ok (.aload_n 0, 1) := by decide +kernel
theorem dX5_init_45 : decode cX5_init 45 = .ok (.bipush 6, 2) := by decide +kernel
theorem dX5_init_47 : decode cX5_init 47 = .ok (.newarray .int, 2) := by decide +kernel
theorem dX5_init_49 : decode cX5_init 49 = .ok (.putfield 25, 3) := by decide +kernel
theorem dX5_init_52 : decode cX5_init 52 = .ok (.aload_n 0, 1) := by decide +kernel
theorem dX5_init_53 : decode cX5_init 53 = .ok (.bipush 12, 2) := by decide +kernel
theorem dX5_init_55 : decode cX5_init 55 = .ok (.newarray .int, 2) := by decide +kernel
theorem dX5_init_57 : decode cX5_init 57 = .ok (.putfield 28, 3) := by decide +kernel
theorem dX5_init_60 : decode cX5_init 60 = .ok (.aload_n 0, 1) := by decide +kernel
theorem dX5_init_61 : decode cX5_init 61 = .ok (.bipush 7, 2) := by decide +kernel
theorem dX5_init_63 : decode cX5_init 63 = .ok (.newarray .int, 2) := by decide +kernel
theorem dX5_init_65 : decode cX5_init 65 = .ok (.putfield 31, 3) := by decide +kernel
theorem dX5_init_68 : decode cX5_init 68 = .ok (.aload_n 0, 1) := by decide +kernel
theorem dX5_init_69 : decode cX5_init 69 = .ok (.bipush 60, 2) := by decide +kernel
theorem dX5_init_71 : decode cX5_init 71 = .ok (.newarray .int, 2) := by decide +kernel
theorem dX5_init_73 : decode cX5_init 73 = .ok (.putfield 34, 3) := by decide +kernel
theorem dX5_init_76 : decode cX5_init 76 = .ok (.aload_n 0, 1) := by decide +kernel
theorem dX5_init_77 : decode cX5_init 77 = .ok (.bipush 120, 2) := by decide +kernel
theorem dX5_init_79 : decode cX5_init 79 = .ok (.newarray .int, 2) := by decide +kernel
theorem dX5_init_81 : decode cX5_init 81 = .ok (.putfield 37, 3) := by decide +kernel
theorem dX5_init_84 : decode cX5_init 84 = .ok (.aload_n 0, 1) := by decide +kernel
theorem dX5_init_85 : decode cX5_init 85 = .ok (.getfield 7, 3) := by decide +kernel
theorem dX5_init_88 : decode cX5_init 88 = .ok (.bipush 32, 2) := by decide +kernel
theorem dX5_init_90 : decode cX5_init 90 = .ok (.bipush 12, 2) := by decide +kernel
theorem dX5_init_92 : decode cX5_init 92 = .ok (.iastore, 1) := by decide +kernel
theorem dX5_init_93 : decode cX5_init 93 = .ok (.return_, 1) := by decide +kernel
theorem dX5_in_0 : decode cX5_in 0 = .ok (.lload_n 0, 1) := by decide +kernel
theorem dX5_in_1 : decode cX5_in 1 = .ok (.lload_n 2, 1) := by decide +kernel
theorem dX5_in_2 : decode cX5_in 2 = .ok (.lcmp, 1) := by decide +kernel
theorem dX5_in_3 : decode cX5_in 3 = .ok (.ifCond .lt 14, 3) := by decide +kernel
theorem dX5_in_6 : decode cX5_in 6 = .ok (.lload_n 0, 1) := by decide +kernel
theorem dX5_in_7 : decode cX5_in 7 = .ok (.lload 4, 2) := by decide +kernel
theorem dX5_in_9 : decode cX5_in 9 = .ok (.lcmp, 1) := by decide +kernel
theorem dX5_in_10 : decode cX5_in 10 = .ok (.ifCond .gt 7, 3) := by decide +kernel
theorem dX5_in_13 : decode cX5_in 13 = .ok (.iconst 1, 1) := by decide +kernel
theorem dX5_in_14 : decode cX5_in 14 = .ok (.goto 4, 3) := by decide +kernel
theorem dX5_in_17 : decode cX5_in 17 = .ok (.iconst 0, 1) := by decide +kernel
theorem dX5_in_18 : decode cX5_in 18 = .ok (.ireturn, 1) := by decide +kernel
theorem dX5_refuses_0 : decode cX5_refuses 0 = .ok (.aload_n 0, 1) := by decide +kernel
theorem dX5_refuses_1 : decode cX5_refuses 1 = .ok (.getfield 19, 3) := by decide +kernel
theorem dX5_refuses_4 : decode cX5_refuses 4 = .ok (.bipush (-2), 2) := by decide +kernel
theorem dX5_refuses_6 : decode cX5_refuses 6 = .ok (.iload_n 1, 1) := by decide +kernel
theorem dX5_refuses_7 : decode cX5_refuses 7 = .ok (.isub, 1) := by decide +kernel
theorem dX5_refuses_8 : decode cX5_refuses 8 = .ok (.dup2, 1) := by decide +kernel
theorem dX5_refuses_9 : decode cX5_refuses 9 = .ok (.iaload, 1) := by decide +kernel
theorem dX5_refuses_10 : decode cX5_refuses 10 = .ok (.iconst 1, 1) := by decide +kernel
theorem dX5_refuses_11 : decode cX5_refuses 11 = .ok (.iadd, 1) := by decide +kernel
theorem dX5_refuses_12 : decode cX5_refuses 12 = .ok (.iastore, 1) := by decide +kernel
theorem dX5_refuses_13 : decode cX5_refuses 13 = .ok (.iload_n 1, 1) := by decide +kernel
theorem dX5_refuses_14 : decode cX5_refuses 14 = .ok (.ireturn, 1) := by decide +kernel
theorem dX5_laysAside_0 : decode cX5_laysAside 0 = .ok (.iconst 0, 1) := by decide +kernel
theorem dX5_laysAside_1 : decode cX5_laysAside 1 = .ok (.istore_n 1, 1) := by decide +kernel
theorem dX5_laysAside_2 : decode cX5_laysAside 2 = .ok (.iload_n 1, 1) := by decide +kernel
theorem dX5_laysAside_3 : decode cX5_laysAside 3 = .ok (.bipush 35, 2) := by decide +kernel
theorem dX5_laysAside_5 : decode cX5_laysAside 5 = .ok (.if_icmp .ge 21, 3) := by decide +kernel
theorem dX5_laysAside_8 : decode cX5_laysAside 8 = .ok (.aload_n 0, 1) := by decide +kernel
theorem dX5_laysAside_9 : decode cX5_laysAside 9 = .ok (.getfield 13, 3) := by decide +kernel
theorem dX5_laysAside_12 : decode cX5_laysAside 12 = .ok (.iload_n 1, 1) := by decide +kernel
theorem dX5_laysAside_13 : decode cX5_laysAside 13 = .ok (.aload_n 0, 1) := by decide +kernel
theorem dX5_laysAside_14 : decode cX5_laysAside 14 = .ok (.getfield 7, 3) := by decide +kernel
theorem dX5_laysAside_17 : decode cX5_laysAside 17 = .ok (.iload_n 1, 1) := by decide +kernel
theorem dX5_laysAside_18 : decode cX5_laysAside 18 = .ok (.iaload, 1) := by decide +kernel
theorem dX5_laysAside_19 : decode cX5_laysAside 19 = .ok (.iastore, 1) := by decide +kernel
theorem dX5_laysAside_20 : decode cX5_laysAside 20 = .ok (.iinc 1 1, 3) := by decide +kernel
theorem dX5_laysAside_23 : decode cX5_laysAside 23 = .ok (.goto (-21), 3) := by decide +kernel
theorem dX5_laysAside_26 : decode cX5_laysAside 26 = .ok (.return_, 1) := by decide +kernel
theorem dX5_takesBack_0 : decode cX5_takesBack 0 = .ok (.iconst 0, 1) := by decide +kernel
theorem dX5_takesBack_1 : decode cX5_takesBack 1 = .ok (.istore_n 1, 1) := by decide +kernel
theorem dX5_takesBack_2 : decode cX5_takesBack 2 = .ok (.iload_n 1, 1) := by decide +kernel
theorem dX5_takesBack_3 : decode cX5_takesBack 3 = .ok (.bipush 35, 2) := by decide +kernel
theorem dX5_takesBack_5 : decode cX5_takesBack 5 = .ok (.if_icmp .ge 21, 3) := by decide +kernel
theorem dX5_takesBack_8 : decode cX5_takesBack 8 = .ok (.aload_n 0, 1) := by decide +kernel
theorem dX5_takesBack_9 : decode cX5_takesBack 9 = .ok (.getfield 7, 3) := by decide +kernel
theorem dX5_takesBack_12 : decode cX5_takesBack 12 = .ok (.iload_n 1, 1) := by decide +kernel
theorem dX5_takesBack_13 : decode cX5_takesBack 13 = .ok (.aload_n 0, 1) := by decide +kernel
theorem dX5_takesBack_14 : decode cX5_takesBack 14 = .ok (.getfield 13, 3) := by decide +kernel
theorem dX5_takesBack_17 : decode cX5_takesBack 17 = .ok (.iload_n 1, 1) := by decide +kernel
theorem dX5_takesBack_18 : decode cX5_takesBack 18 = .ok (.iaload, 1) := by decide +kernel
theorem dX5_takesBack_19 : decode cX5_takesBack 19 = .ok (.iastore, 1) := by decide +kernel
theorem dX5_takesBack_20 : decode cX5_takesBack 20 = .ok (.iinc 1 1, 3) := by decide +kernel
theorem dX5_takesBack_23 : decode cX5_takesBack 23 = .ok (.goto (-21), 3) := by decide +kernel
theorem dX5_takesBack_26 : decode cX5_takesBack 26 = .ok (.return_, 1) := by decide +kernel
theorem dX5_remembers_0 : decode cX5_remembers 0 = .ok (.aload_n 0, 1) := by decide +kernel
theorem dX5_remembers_1 : decode cX5_remembers 1 = .ok (.getfield 40, 3) := by decide +kernel
theorem dX5_remembers_4 : decode cX5_remembers 4 = .ok (.iconst 5, 1) := by decide +kernel
theorem dX5_remembers_5 : decode cX5_remembers 5 = .ok (.if_icmp .ne 43, 3) := by decide +kernel
theorem dX5_remembers_8 : decode cX5_remembers 8 = .ok (.iconst 0, 1) := by decide +kernel
theorem dX5_remembers_9 : decode cX5_remembers 9 = .ok (.istore_n 1, 1) := by decide +kernel
theorem dX5_remembers_10 : decode cX5_remembers 10 = .ok (.iload_n 1, 1) := by decide +kernel
theorem dX5_remembers_11 : decode cX5_remembers 11 = .ok (.sipush 140, 3) := by decide +kernel
theorem dX5_remembers_14 : decode cX5_remembers 14 = .ok (.if_icmp .ge 24, 3) := by decide +kernel
theorem dX5_remembers_17 : decode cX5_remembers 17 = .ok (.aload_n 0, 1) := by decide +kernel
theorem dX5_remembers_18 : decode cX5_remembers 18 = .ok (.getfield 16, 3) := by decide +kernel
theorem dX5_remembers_21 : decode cX5_remembers 21 = .ok (.iload_n 1, 1) := by decide +kernel
theorem dX5_remembers_22 : decode cX5_remembers 22 = .ok (.aload_n 0, 1) := by decide +kernel
theorem dX5_remembers_23 : decode cX5_remembers 23 = .ok (.getfield 16, 3) := by decide +kernel
theorem dX5_remembers_26 : decode cX5_remembers 26 = .ok (.iload_n 1, 1) := by decide +kernel
theorem dX5_remembers_27 : decode cX5_remembers 27 = .ok (.bipush 35, 2) := by decide +kernel
theorem dX5_remembers_29 : decode cX5_remembers 29 = .ok (.iadd, 1) := by decide +kernel
theorem dX5_remembers_30 : decode cX5_remembers 30 = .ok (.iaload, 1) := by decide +kernel
theorem dX5_remembers_31 : decode cX5_remembers 31 = .ok (.iastore, 1) := by decide +kernel
theorem dX5_remembers_32 : decode cX5_remembers 32 = .ok (.iinc 1 1, 3) := by decide +kernel
theorem dX5_remembers_35 : decode cX5_remembers 35 = .ok (.goto (-25), 3) := by decide +kernel
theorem dX5_remembers_38 : decode cX5_remembers 38 = .ok (.aload_n 0, 1) := by decide +kernel
theorem dX5_remembers_39 : decode cX5_remembers 39 = .ok (.dup, 1) := by decide +kernel
theorem dX5_remembers_40 : decode cX5_remembers 40 = .ok (.getfield 40, 3) := by decide +kernel
theorem dX5_remembers_43 : decode cX5_remembers 43 = .ok (.iconst 1, 1) := by decide +kernel
theorem dX5_remembers_44 : decode cX5_remembers 44 = .ok (.isub, 1) := by decide +kernel
theorem dX5_remembers_45 : decode cX5_remembers 45 = .ok (.putfield 40, 3) := by decide +kernel
theorem dX5_remembers_48 : decode cX5_remembers 48 = .ok (.iconst 0, 1) := by decide +kernel
theorem dX5_remembers_49 : decode cX5_remembers 49 = .ok (.istore_n 1, 1) := by decide +kernel
theorem dX5_remembers_50 : decode cX5_remembers 50 = .ok (.iload_n 1, 1) := by decide +kernel
theorem dX5_remembers_51 : decode cX5_remembers 51 = .ok (.bipush 35, 2) := by decide +kernel
theorem dX5_remembers_53 : decode cX5_remembers 53 = .ok (.if_icmp .ge 29, 3) := by decide +kernel
theorem dX5_remembers_56 : decode cX5_remembers 56 = .ok (.aload_n 0, 1) := by decide +kernel
theorem dX5_remembers_57 : decode cX5_remembers 57 = .ok (.getfield 16, 3) := by decide +kernel
theorem dX5_remembers_60 : decode cX5_remembers 60 = .ok (.bipush 35, 2) := by decide +kernel
theorem dX5_remembers_62 : decode cX5_remembers 62 = .ok (.aload_n 0, 1) := by decide +kernel
theorem dX5_remembers_63 : decode cX5_remembers 63 = .ok (.getfield 40, 3) := by decide +kernel
theorem dX5_remembers_66 : decode cX5_remembers 66 = .ok (.imul, 1) := by decide +kernel
theorem dX5_remembers_67 : decode cX5_remembers 67 = .ok (.iload_n 1, 1) := by decide +kernel
theorem dX5_remembers_68 : decode cX5_remembers 68 = .ok (.iadd, 1) := by decide +kernel
theorem dX5_remembers_69 : decode cX5_remembers 69 = .ok (.aload_n 0, 1) := by decide +kernel
theorem dX5_remembers_70 : decode cX5_remembers 70 = .ok (.getfield 13, 3) := by decide +kernel
theorem dX5_remembers_73 : decode cX5_remembers 73 = .ok (.iload_n 1, 1) := by decide +kernel
theorem dX5_remembers_74 : decode cX5_remembers 74 = .ok (.iaload, 1) := by decide +kernel
theorem dX5_remembers_75 : decode cX5_remembers 75 = .ok (.iastore, 1) := by decide +kernel
theorem dX5_remembers_76 : decode cX5_remembers 76 = .ok (.iinc 1 1, 3) := by decide +kernel
theorem dX5_remembers_79 : decode cX5_remembers 79 = .ok (.goto (-29), 3) := by decide +kernel
theorem dX5_remembers_82 : decode cX5_remembers 82 = .ok (.aload_n 0, 1) := by decide +kernel
theorem dX5_remembers_83 : decode cX5_remembers 83 = .ok (.dup, 1) := by decide +kernel
theorem dX5_remembers_84 : decode cX5_remembers 84 = .ok (.getfield 40, 3) := by decide +kernel
theorem dX5_remembers_87 : decode cX5_remembers 87 = .ok (.iconst 1, 1) := by decide +kernel
theorem dX5_remembers_88 : decode cX5_remembers 88 = .ok (.iadd, 1) := by decide +kernel
theorem dX5_remembers_89 : decode cX5_remembers 89 = .ok (.putfield 40, 3) := by decide +kernel
theorem dX5_remembers_92 : decode cX5_remembers 92 = .ok (.return_, 1) := by decide +kernel
theorem dX5_back_0 : decode cX5_back 0 = .ok (.aload_n 0, 1) := by decide +kernel
theorem dX5_back_1 : decode cX5_back 1 = .ok (.getfield 40, 3) := by decide +kernel
theorem dX5_back_4 : decode cX5_back 4 = .ok (.ifCond .ne 10, 3) := by decide +kernel
theorem dX5_back_7 : decode cX5_back 7 = .ok (.aload_n 0, 1) := by decide +kernel
theorem dX5_back_8 : decode cX5_back 8 = .ok (.bipush (-3), 2) := by decide +kernel
theorem dX5_back_10 : decode cX5_back 10 = .ok (.invokevirtual 44, 3) := by decide +kernel
theorem dX5_back_13 : decode cX5_back 13 = .ok (.ireturn, 1) := by decide +kernel
theorem dX5_back_14 : decode cX5_back 14 = .ok (.aload_n 0, 1) := by decide +kernel
theorem dX5_back_15 : decode cX5_back 15 = .ok (.dup, 1) := by decide +kernel
theorem dX5_back_16 : decode cX5_back 16 = .ok (.getfield 40, 3) := by decide +kernel
theorem dX5_back_19 : decode cX5_back 19 = .ok (.iconst 1, 1) := by decide +kernel
theorem dX5_back_20 : decode cX5_back 20 = .ok (.isub, 1) := by decide +kernel
theorem dX5_back_21 : decode cX5_back 21 = .ok (.putfield 40, 3) := by decide +kernel
theorem dX5_back_24 : decode cX5_back 24 = .ok (.iconst 0, 1) := by decide +kernel
theorem dX5_back_25 : decode cX5_back 25 = .ok (.istore_n 1, 1) := by decide +kernel
theorem dX5_back_26 : decode cX5_back 26 = .ok (.iload_n 1, 1) := by decide +kernel
theorem dX5_back_27 : decode cX5_back 27 = .ok (.bipush 35, 2) := by decide +kernel
theorem dX5_back_29 : decode cX5_back 29 = .ok (.if_icmp .ge 29, 3) := by decide +kernel
theorem dX5_back_32 : decode cX5_back 32 = .ok (.aload_n 0, 1) := by decide +kernel
theorem dX5_back_33 : decode cX5_back 33 = .ok (.getfield 7, 3) := by decide +kernel
theorem dX5_back_36 : decode cX5_back 36 = .ok (.iload_n 1, 1) := by decide +kernel
theorem dX5_back_37 : decode cX5_back 37 = .ok (.aload_n 0, 1) := by decide +kernel
theorem dX5_back_38 : decode cX5_back 38 = .ok (.getfield 16, 3) := by decide +kernel
theorem dX5_back_41 : decode cX5_back 41 = .ok (.bipush 35, 2) := by decide +kernel
theorem dX5_back_43 : decode cX5_back 43 = .ok (.aload_n 0, 1) := by decide +kernel
theorem dX5_back_44 : decode cX5_back 44 = .ok (.getfield 40, 3) := by decide +kernel
theorem dX5_back_47 : decode cX5_back 47 = .ok (.imul, 1) := by decide +kernel
theorem dX5_back_48 : decode cX5_back 48 = .ok (.iload_n 1, 1) := by decide +kernel
theorem dX5_back_49 : decode cX5_back 49 = .ok (.iadd, 1) := by decide +kernel
theorem dX5_back_50 : decode cX5_back 50 = .ok (.iaload, 1) := by decide +kernel
theorem dX5_back_51 : decode cX5_back 51 = .ok (.iastore, 1) := by decide +kernel
theorem dX5_back_52 : decode cX5_back 52 = .ok (.iinc 1 1, 3) := by decide +kernel
theorem dX5_back_55 : decode cX5_back 55 = .ok (.goto (-29), 3) := by decide +kernel
theorem dX5_back_58 : decode cX5_back 58 = .ok (.aload_n 0, 1) := by decide +kernel
theorem dX5_back_59 : decode cX5_back 59 = .ok (.getfield 40, 3) := by decide +kernel
theorem dX5_back_62 : decode cX5_back 62 = .ok (.ireturn, 1) := by decide +kernel
theorem dX5_finished_0 : decode cX5_finished 0 = .ok (.iload_n 1, 1) := by decide +kernel
theorem dX5_finished_1 : decode cX5_finished 1 = .ok (.bipush (-2), 2) := by decide +kernel
theorem dX5_finished_3 : decode cX5_finished 3 = .ok (.if_icmp .gt 9, 3) := by decide +kernel
theorem dX5_finished_6 : decode cX5_finished 6 = .ok (.aload_n 0, 1) := by decide +kernel
theorem dX5_finished_7 : decode cX5_finished 7 = .ok (.iload_n 1, 1) := by decide +kernel
theorem dX5_finished_8 : decode cX5_finished 8 = .ok (.invokevirtual 44, 3) := by decide +kernel
theorem dX5_finished_11 : decode cX5_finished 11 = .ok (.ireturn, 1) := by decide +kernel
theorem dX5_finished_12 : decode cX5_finished 12 = .ok (.aload_n 0, 1) := by decide +kernel
theorem dX5_finished_13 : decode cX5_finished 13 = .ok (.invokevirtual 48, 3) := by decide +kernel
theorem dX5_finished_16 : decode cX5_finished 16 = .ok (.iload_n 1, 1) := by decide +kernel
theorem dX5_finished_17 : decode cX5_finished 17 = .ok (.ireturn, 1) := by decide +kernel
theorem dX5_isDrum_0 : decode cX5_isDrum 0 = .ok (.iload_n 0, 1) := by decide +kernel
theorem dX5_isDrum_1 : decode cX5_isDrum 1 = .ok (.i2l, 1) := by decide +kernel
theorem dX5_isDrum_2 : decode cX5_isDrum 2 = .ok (.lconst 0, 1) := by decide +kernel
theorem dX5_isDrum_3 : decode cX5_isDrum 3 = .ok (.ldc2_w 51, 3) := by decide +kernel
theorem dX5_isDrum_6 : decode cX5_isDrum 6 = .ok (.invokestatic 53, 3) := by decide +kernel
theorem dX5_isDrum_9 : decode cX5_isDrum 9 = .ok (.ireturn, 1) := by decide +kernel
theorem dX5_whole_0 : decode cX5_whole 0 = .ok (.iconst 0, 1) := by decide +kernel
theorem dX5_whole_1 : decode cX5_whole 1 = .ok (.istore_n 2, 1) := by decide +kernel
theorem dX5_whole_2 : decode cX5_whole 2 = .ok (.iconst 1, 1) := by decide +kernel
theorem dX5_whole_3 : decode cX5_whole 3 = .ok (.istore_n 3, 1) := by decide +kernel
theorem dX5_whole_4 : decode cX5_whole 4 = .ok (.iload_n 3, 1) := by decide +kernel
theorem dX5_whole_5 : decode cX5_whole 5 = .ok (.iload_n 0, 1) := by decide +kernel
theorem dX5_whole_6 : decode cX5_whole 6 = .ok (.if_icmp .gt 19, 3) := by decide +kernel
theorem dX5_whole_9 : decode cX5_whole 9 = .ok (.iload_n 2, 1) := by decide +kernel
theorem dX5_whole_10 : decode cX5_whole 10 = .ok (.iload_n 1, 1) := by decide +kernel
theorem dX5_whole_11 : decode cX5_whole 11 = .ok (.iload_n 3, 1) := by decide +kernel
theorem dX5_whole_12 : decode cX5_whole 12 = .ok (.ishr, 1) := by decide +kernel
theorem dX5_whole_13 : decode cX5_whole 13 = .ok (.iconst 1, 1) := by decide +kernel
theorem dX5_whole_14 : decode cX5_whole 14 = .ok (.iand, 1) := by decide +kernel
theorem dX5_whole_15 : decode cX5_whole 15 = .ok (.iconst 1, 1) := by decide +kernel
theorem dX5_whole_16 : decode cX5_whole 16 = .ok (.ixor, 1) := by decide +kernel
theorem dX5_whole_17 : decode cX5_whole 17 = .ok (.iadd, 1) := by decide +kernel
theorem dX5_whole_18 : decode cX5_whole 18 = .ok (.istore_n 2, 1) := by decide +kernel
theorem dX5_whole_19 : decode cX5_whole 19 = .ok (.iinc 3 1, 3) := by decide +kernel
theorem dX5_whole_22 : decode cX5_whole 22 = .ok (.goto (-18), 3) := by decide +kernel
theorem dX5_whole_25 : decode cX5_whole 25 = .ok (.iload_n 2, 1) := by decide +kernel
theorem dX5_whole_26 : decode cX5_whole 26 = .ok (.ireturn, 1) := by decide +kernel
theorem dX5_laysGives_0 : decode cX5_laysGives 0 = .ok (.iconst 0, 1) := by decide +kernel
theorem dX5_laysGives_1 : decode cX5_laysGives 1 = .ok (.istore_n 1, 1) := by decide +kernel
theorem dX5_laysGives_2 : decode cX5_laysGives 2 = .ok (.iload_n 1, 1) := by decide +kernel
theorem dX5_laysGives_3 : decode cX5_laysGives 3 = .ok (.bipush 6, 2) := by decide +kernel
theorem dX5_laysGives_5 : decode cX5_laysGives 5 = .ok (.if_icmp .ge 35, 3) := by decide +kernel
theorem dX5_laysGives_8 : decode cX5_laysGives 8 = .ok (.aload_n 0, 1) := by decide +kernel
theorem dX5_laysGives_9 : decode cX5_laysGives 9 = .ok (.getfield 25, 3) := by decide +kernel
theorem dX5_laysGives_12 : decode cX5_laysGives 12 = .ok (.iload_n 1, 1) := by decide +kernel
theorem dX5_laysGives_13 : decode cX5_laysGives 13 = .ok (.aload_n 0, 1) := by decide +kernel
theorem dX5_laysGives_14 : decode cX5_laysGives 14 = .ok (.getfield 7, 3) := by decide +kernel
theorem dX5_laysGives_17 : decode cX5_laysGives 17 = .ok (.iconst 0, 1) := by decide +kernel
theorem dX5_laysGives_18 : decode cX5_laysGives 18 = .ok (.iload_n 1, 1) := by decide +kernel
theorem dX5_laysGives_19 : decode cX5_laysGives 19 = .ok (.iadd, 1) := by decide +kernel
theorem dX5_laysGives_20 : decode cX5_laysGives 20 = .ok (.iaload, 1) := by decide +kernel
theorem dX5_laysGives_21 : decode cX5_laysGives 21 = .ok (.aload_n 0, 1) := by decide +kernel
theorem dX5_laysGives_22 : decode cX5_laysGives 22 = .ok (.getfield 7, 3) := by decide +kernel
theorem dX5_laysGives_25 : decode cX5_laysGives 25 = .ok (.bipush 6, 2) := by decide +kernel
theorem dX5_laysGives_27 : decode cX5_laysGives 27 = .ok (.iload_n 1, 1) := by decide +kernel
theorem dX5_laysGives_28 : decode cX5_laysGives 28 = .ok (.iadd, 1) := by decide +kernel
theorem dX5_laysGives_29 : decode cX5_laysGives 29 = .ok (.iaload, 1) := by decide +kernel
theorem dX5_laysGives_30 : decode cX5_laysGives 30 = .ok (.invokestatic 57, 3) := by decide +kernel
theorem dX5_laysGives_33 : decode cX5_laysGives 33 = .ok (.iastore, 1) := by decide +kernel
theorem dX5_laysGives_34 : decode cX5_laysGives 34 = .ok (.iinc 1 1, 3) := by decide +kernel
theorem dX5_laysGives_37 : decode cX5_laysGives 37 = .ok (.goto (-35), 3) := by decide +kernel
theorem dX5_laysGives_40 : decode cX5_laysGives 40 = .ok (.return_, 1) := by decide +kernel
theorem dX5_turnsBy_0 : decode cX5_turnsBy 0 = .ok (.iload_n 3, 1) := by decide +kernel
theorem dX5_turnsBy_1 : decode cX5_turnsBy 1 = .ok (.iconst 5, 1) := by decide +kernel
theorem dX5_turnsBy_2 : decode cX5_turnsBy 2 = .ok (.iadd, 1) := by decide +kernel
theorem dX5_turnsBy_3 : decode cX5_turnsBy 3 = .ok (.aload_n 0, 1) := by decide +kernel
theorem dX5_turnsBy_4 : decode cX5_turnsBy 4 = .ok (.getfield 7, 3) := by decide +kernel
theorem dX5_turnsBy_7 : decode cX5_turnsBy 7 = .ok (.bipush 32, 2) := by decide +kernel
theorem dX5_turnsBy_9 : decode cX5_turnsBy 9 = .ok (.iaload, 1) := by decide +kernel
theorem dX5_turnsBy_10 : decode cX5_turnsBy 10 = .ok (.iadd, 1) := by decide +kernel
theorem dX5_turnsBy_11 : decode cX5_turnsBy 11 = .ok (.istore 5, 2) := by decide +kernel
theorem dX5_turnsBy_13 : decode cX5_turnsBy 13 = .ok (.iconst 0, 1) := by decide +kernel
theorem dX5_turnsBy_14 : decode cX5_turnsBy 14 = .ok (.istore 6, 2) := by decide +kernel
theorem dX5_turnsBy_16 : decode cX5_turnsBy 16 = .ok (.iconst 0, 1) := by decide +kernel
theorem dX5_turnsBy_17 : decode cX5_turnsBy 17 = .ok (.istore 7, 2) := by decide +kernel
theorem dX5_turnsBy_19 : decode cX5_turnsBy 19 = .ok (.iload 7, 2) := by decide +kernel
theorem dX5_turnsBy_21 : decode cX5_turnsBy 21 = .ok (.bipush 6, 2) := by decide +kernel
theorem dX5_turnsBy_23 : decode cX5_turnsBy 23 = .ok (.if_icmp .ge 97, 3) := by decide +kernel
theorem dX5_turnsBy_26 : decode cX5_turnsBy 26 = .ok (.aload_n 1, 1) := by decide +kernel
theorem dX5_turnsBy_27 : decode cX5_turnsBy 27 = .ok (.iload_n 2, 1) := by decide +kernel
theorem dX5_turnsBy_28 : decode cX5_turnsBy 28 = .ok (.iload 7, 2) := by decide +kernel
theorem dX5_turnsBy_30 : decode cX5_turnsBy 30 = .ok (.iadd, 1) := by decide +kernel
theorem dX5_turnsBy_31 : decode cX5_turnsBy 31 = .ok (.iload_n 3, 1) := by decide +kernel
theorem dX5_turnsBy_32 : decode cX5_turnsBy 32 = .ok (.iadd, 1) := by decide +kernel
theorem dX5_turnsBy_33 : decode cX5_turnsBy 33 = .ok (.iaload, 1) := by decide +kernel
theorem dX5_turnsBy_34 : decode cX5_turnsBy 34 = .ok (.iload 4, 2) := by decide +kernel
theorem dX5_turnsBy_36 : decode cX5_turnsBy 36 = .ok (.aload_n 0, 1) := by decide +kernel
theorem dX5_turnsBy_37 : decode cX5_turnsBy 37 = .ok (.getfield 25, 3) := by decide +kernel
theorem dX5_turnsBy_40 : decode cX5_turnsBy 40 = .ok (.iload 7, 2) := by decide +kernel
theorem dX5_turnsBy_42 : decode cX5_turnsBy 42 = .ok (.iaload, 1) := by decide +kernel
theorem dX5_turnsBy_43 : decode cX5_turnsBy 43 = .ok (.imul, 1) := by decide +kernel
theorem dX5_turnsBy_44 : decode cX5_turnsBy 44 = .ok (.iadd, 1) := by decide +kernel
theorem dX5_turnsBy_45 : decode cX5_turnsBy 45 = .ok (.istore 8, 2) := by decide +kernel
theorem dX5_turnsBy_47 : decode cX5_turnsBy 47 = .ok (.iload 8, 2) := by decide +kernel
theorem dX5_turnsBy_49 : decode cX5_turnsBy 49 = .ok (.bipush 9, 2) := by decide +kernel
theorem dX5_turnsBy_51 : decode cX5_turnsBy 51 = .ok (.if_icmp .gt 8, 3) := by decide +kernel
theorem dX5_turnsBy_54 : decode cX5_turnsBy 54 = .ok (.iload 8, 2) := by decide +kernel
theorem dX5_turnsBy_56 : decode cX5_turnsBy 56 = .ok (.ifCond .ge 7, 3) := by decide +kernel
theorem dX5_turnsBy_59 : decode cX5_turnsBy 59 = .ok (.iconst 1, 1) := by decide +kernel
theorem dX5_turnsBy_60 : decode cX5_turnsBy 60 = .ok (.goto 4, 3) := by decide +kernel
theorem dX5_turnsBy_63 : decode cX5_turnsBy 63 = .ok (.iconst 0, 1) := by decide +kernel
theorem dX5_turnsBy_64 : decode cX5_turnsBy 64 = .ok (.istore 9, 2) := by decide +kernel
theorem dX5_turnsBy_66 : decode cX5_turnsBy 66 = .ok (.aload_n 1, 1) := by decide +kernel
theorem dX5_turnsBy_67 : decode cX5_turnsBy 67 = .ok (.iload_n 2, 1) := by decide +kernel
theorem dX5_turnsBy_68 : decode cX5_turnsBy 68 = .ok (.iload 7, 2) := by decide +kernel
theorem dX5_turnsBy_70 : decode cX5_turnsBy 70 = .ok (.iadd, 1) := by decide +kernel
theorem dX5_turnsBy_71 : decode cX5_turnsBy 71 = .ok (.iload_n 3, 1) := by decide +kernel
theorem dX5_turnsBy_72 : decode cX5_turnsBy 72 = .ok (.iadd, 1) := by decide +kernel
theorem dX5_turnsBy_73 : decode cX5_turnsBy 73 = .ok (.iload 9, 2) := by decide +kernel
theorem dX5_turnsBy_75 : decode cX5_turnsBy 75 = .ok (.ifCond .eq 14, 3) := by decide +kernel
theorem dX5_turnsBy_78 : decode cX5_turnsBy 78 = .ok (.iload 8, 2) := by decide +kernel
theorem dX5_turnsBy_80 : decode cX5_turnsBy 80 = .ok (.bipush 10, 2) := by decide +kernel
theorem dX5_turnsBy_82 : decode cX5_turnsBy 82 = .ok (.iload 4, 2) := by decide +kernel
theorem dX5_turnsBy_84 : decode cX5_turnsBy 84 = .ok (.imul, 1) := by decide +kernel
theorem dX5_turnsBy_85 : decode cX5_turnsBy 85 = .ok (.isub, 1) := by decide +kernel
theorem dX5_turnsBy_86 : decode cX5_turnsBy 86 = .ok (.goto 5, 3) := by decide +kernel
theorem dX5_turnsBy_89 : decode cX5_turnsBy 89 = .ok (.iload 8, 2) := by decide +kernel
theorem dX5_turnsBy_91 : decode cX5_turnsBy 91 = .ok (.iastore, 1) := by decide +kernel
theorem dX5_turnsBy_92 : decode cX5_turnsBy 92 = .ok (.iload 6, 2) := by decide +kernel
theorem dX5_turnsBy_94 : decode cX5_turnsBy 94 = .ok (.iload 9, 2) := by decide +kernel
theorem dX5_turnsBy_96 : decode cX5_turnsBy 96 = .ok (.ifCond .eq 14, 3) := by decide +kernel
theorem dX5_turnsBy_99 : decode cX5_turnsBy 99 = .ok (.iconst 1, 1) := by decide +kernel
theorem dX5_turnsBy_100 : decode cX5_turnsBy 100 = .ok (.iload 7, 2) := by decide +kernel
theorem dX5_turnsBy_102 : decode cX5_turnsBy 102 = .ok (.iload_n 3, 1) := by decide +kernel
theorem dX5_turnsBy_103 : decode cX5_turnsBy 103 = .ok (.iadd, 1) := by decide +kernel
theorem dX5_turnsBy_104 : decode cX5_turnsBy 104 = .ok (.iconst 1, 1) := by decide +kernel
theorem dX5_turnsBy_105 : decode cX5_turnsBy 105 = .ok (.iadd, 1) := by decide +kernel
theorem dX5_turnsBy_106 : decode cX5_turnsBy 106 = .ok (.ishl, 1) := by decide +kernel
theorem dX5_turnsBy_107 : decode cX5_turnsBy 107 = .ok (.goto 4, 3) := by decide +kernel
theorem dX5_turnsBy_110 : decode cX5_turnsBy 110 = .ok (.iconst 0, 1) := by decide +kernel
theorem dX5_turnsBy_111 : decode cX5_turnsBy 111 = .ok (.ior, 1) := by decide +kernel
theorem dX5_turnsBy_112 : decode cX5_turnsBy 112 = .ok (.istore 6, 2) := by decide +kernel
theorem dX5_turnsBy_114 : decode cX5_turnsBy 114 = .ok (.iinc 7 1, 3) := by decide +kernel
theorem dX5_turnsBy_117 : decode cX5_turnsBy 117 = .ok (.goto (-98), 3) := by decide +kernel
theorem dX5_turnsBy_120 : decode cX5_turnsBy 120 = .ok (.iload_n 3, 1) := by decide +kernel
theorem dX5_turnsBy_121 : decode cX5_turnsBy 121 = .ok (.istore 7, 2) := by decide +kernel
theorem dX5_turnsBy_123 : decode cX5_turnsBy 123 = .ok (.iload 7, 2) := by decide +kernel
theorem dX5_turnsBy_125 : decode cX5_turnsBy 125 = .ok (.bipush 12, 2) := by decide +kernel
theorem dX5_turnsBy_127 : decode cX5_turnsBy 127 = .ok (.if_icmp .ge 101, 3) := by decide +kernel
theorem dX5_turnsBy_130 : decode cX5_turnsBy 130 = .ok (.iload 6, 2) := by decide +kernel
theorem dX5_turnsBy_132 : decode cX5_turnsBy 132 = .ok (.iload 7, 2) := by decide +kernel
theorem dX5_turnsBy_134 : decode cX5_turnsBy 134 = .ok (.ishr, 1) := by decide +kernel
theorem dX5_turnsBy_135 : decode cX5_turnsBy 135 = .ok (.iconst 1, 1) := by decide +kernel
theorem dX5_turnsBy_136 : decode cX5_turnsBy 136 = .ok (.iand, 1) := by decide +kernel
theorem dX5_turnsBy_137 : decode cX5_turnsBy 137 = .ok (.iconst 1, 1) := by decide +kernel
theorem dX5_turnsBy_138 : decode cX5_turnsBy 138 = .ok (.if_icmp .ne 84, 3) := by decide +kernel
theorem dX5_turnsBy_141 : decode cX5_turnsBy 141 = .ok (.iload 7, 2) := by decide +kernel
theorem dX5_turnsBy_143 : decode cX5_turnsBy 143 = .ok (.iload 5, 2) := by decide +kernel
theorem dX5_turnsBy_145 : decode cX5_turnsBy 145 = .ok (.if_icmp .gt 77, 3) := by decide +kernel
theorem dX5_turnsBy_148 : decode cX5_turnsBy 148 = .ok (.aload_n 1, 1) := by decide +kernel
theorem dX5_turnsBy_149 : decode cX5_turnsBy 149 = .ok (.iload_n 2, 1) := by decide +kernel
theorem dX5_turnsBy_150 : decode cX5_turnsBy 150 = .ok (.iload 7, 2) := by decide +kernel
theorem dX5_turnsBy_152 : decode cX5_turnsBy 152 = .ok (.iadd, 1) := by decide +kernel
theorem dX5_turnsBy_153 : decode cX5_turnsBy 153 = .ok (.iaload, 1) := by decide +kernel
theorem dX5_turnsBy_154 : decode cX5_turnsBy 154 = .ok (.iload 4, 2) := by decide +kernel
theorem dX5_turnsBy_156 : decode cX5_turnsBy 156 = .ok (.iadd, 1) := by decide +kernel
theorem dX5_turnsBy_157 : decode cX5_turnsBy 157 = .ok (.istore 8, 2) := by decide +kernel
theorem dX5_turnsBy_159 : decode cX5_turnsBy 159 = .ok (.iload 8, 2) := by decide +kernel
theorem dX5_turnsBy_161 : decode cX5_turnsBy 161 = .ok (.bipush 9, 2) := by decide +kernel
theorem dX5_turnsBy_163 : decode cX5_turnsBy 163 = .ok (.if_icmp .gt 8, 3) := by decide +kernel
theorem dX5_turnsBy_166 : decode cX5_turnsBy 166 = .ok (.iload 8, 2) := by decide +kernel
theorem dX5_turnsBy_168 : decode cX5_turnsBy 168 = .ok (.ifCond .ge 7, 3) := by decide +kernel
theorem dX5_turnsBy_171 : decode cX5_turnsBy 171 = .ok (.iconst 1, 1) := by decide +kernel
theorem dX5_turnsBy_172 : decode cX5_turnsBy 172 = .ok (.goto 4, 3) := by decide +kernel
theorem dX5_turnsBy_175 : decode cX5_turnsBy 175 = .ok (.iconst 0, 1) := by decide +kernel
theorem dX5_turnsBy_176 : decode cX5_turnsBy 176 = .ok (.istore 9, 2) := by decide +kernel
theorem dX5_turnsBy_178 : decode cX5_turnsBy 178 = .ok (.aload_n 1, 1) := by decide +kernel
theorem dX5_turnsBy_179 : decode cX5_turnsBy 179 = .ok (.iload_n 2, 1) := by decide +kernel
theorem dX5_turnsBy_180 : decode cX5_turnsBy 180 = .ok (.iload 7, 2) := by decide +kernel
theorem dX5_turnsBy_182 : decode cX5_turnsBy 182 = .ok (.iadd, 1) := by decide +kernel
theorem dX5_turnsBy_183 : decode cX5_turnsBy 183 = .ok (.iload 9, 2) := by decide +kernel
theorem dX5_turnsBy_185 : decode cX5_turnsBy 185 = .ok (.ifCond .eq 14, 3) := by decide +kernel
theorem dX5_turnsBy_188 : decode cX5_turnsBy 188 = .ok (.iload 8, 2) := by decide +kernel
theorem dX5_turnsBy_190 : decode cX5_turnsBy 190 = .ok (.bipush 10, 2) := by decide +kernel
theorem dX5_turnsBy_192 : decode cX5_turnsBy 192 = .ok (.iload 4, 2) := by decide +kernel
theorem dX5_turnsBy_194 : decode cX5_turnsBy 194 = .ok (.imul, 1) := by decide +kernel
theorem dX5_turnsBy_195 : decode cX5_turnsBy 195 = .ok (.isub, 1) := by decide +kernel
theorem dX5_turnsBy_196 : decode cX5_turnsBy 196 = .ok (.goto 5, 3) := by decide +kernel
theorem dX5_turnsBy_199 : decode cX5_turnsBy 199 = .ok (.iload 8, 2) := by decide +kernel
theorem dX5_turnsBy_201 : decode cX5_turnsBy 201 = .ok (.iastore, 1) := by decide +kernel
theorem dX5_turnsBy_202 : decode cX5_turnsBy 202 = .ok (.iload 6, 2) := by decide +kernel
theorem dX5_turnsBy_204 : decode cX5_turnsBy 204 = .ok (.iload 9, 2) := by decide +kernel
theorem dX5_turnsBy_206 : decode cX5_turnsBy 206 = .ok (.ifCond .eq 12, 3) := by decide +kernel
theorem dX5_turnsBy_209 : decode cX5_turnsBy 209 = .ok (.iconst 1, 1) := by decide +kernel
theorem dX5_turnsBy_210 : decode cX5_turnsBy 210 = .ok (.iload 7, 2) := by decide +kernel
theorem dX5_turnsBy_212 : decode cX5_turnsBy 212 = .ok (.iconst 1, 1) := by decide +kernel
theorem dX5_turnsBy_213 : decode cX5_turnsBy 213 = .ok (.iadd, 1) := by decide +kernel
theorem dX5_turnsBy_214 : decode cX5_turnsBy 214 = .ok (.ishl, 1) := by decide +kernel
theorem dX5_turnsBy_215 : decode cX5_turnsBy 215 = .ok (.goto 4, 3) := by decide +kernel
theorem dX5_turnsBy_218 : decode cX5_turnsBy 218 = .ok (.iconst 0, 1) := by decide +kernel
theorem dX5_turnsBy_219 : decode cX5_turnsBy 219 = .ok (.ior, 1) := by decide +kernel
theorem dX5_turnsBy_220 : decode cX5_turnsBy 220 = .ok (.istore 6, 2) := by decide +kernel
theorem dX5_turnsBy_222 : decode cX5_turnsBy 222 = .ok (.iinc 7 1, 3) := by decide +kernel
theorem dX5_turnsBy_225 : decode cX5_turnsBy 225 = .ok (.goto (-102), 3) := by decide +kernel
theorem dX5_turnsBy_228 : decode cX5_turnsBy 228 = .ok (.iload 6, 2) := by decide +kernel
theorem dX5_turnsBy_230 : decode cX5_turnsBy 230 = .ok (.bipush 12, 2) := by decide +kernel
theorem dX5_turnsBy_232 : decode cX5_turnsBy 232 = .ok (.ishr, 1) := by decide +kernel
theorem dX5_turnsBy_233 : decode cX5_turnsBy 233 = .ok (.iconst 1, 1) := by decide +kernel
theorem dX5_turnsBy_234 : decode cX5_turnsBy 234 = .ok (.iand, 1) := by decide +kernel
theorem dX5_turnsBy_235 : decode cX5_turnsBy 235 = .ok (.iconst 1, 1) := by decide +kernel
theorem dX5_turnsBy_236 : decode cX5_turnsBy 236 = .ok (.if_icmp .ne 14, 3) := by decide +kernel
theorem dX5_turnsBy_239 : decode cX5_turnsBy 239 = .ok (.bipush 12, 2) := by decide +kernel
theorem dX5_turnsBy_241 : decode cX5_turnsBy 241 = .ok (.iload 5, 2) := by decide +kernel
theorem dX5_turnsBy_243 : decode cX5_turnsBy 243 = .ok (.if_icmp .gt 7, 3) := by decide +kernel
theorem dX5_turnsBy_246 : decode cX5_turnsBy 246 = .ok (.iconst 1, 1) := by decide +kernel
theorem dX5_turnsBy_247 : decode cX5_turnsBy 247 = .ok (.goto 4, 3) := by decide +kernel
theorem dX5_turnsBy_250 : decode cX5_turnsBy 250 = .ok (.iconst 0, 1) := by decide +kernel
theorem dX5_turnsBy_251 : decode cX5_turnsBy 251 = .ok (.ireturn, 1) := by decide +kernel
theorem dX5_turnsOnce_0 : decode cX5_turnsOnce 0 = .ok (.aload_n 0, 1) := by decide +kernel
theorem dX5_turnsOnce_1 : decode cX5_turnsOnce 1 = .ok (.getfield 7, 3) := by decide +kernel
theorem dX5_turnsOnce_4 : decode cX5_turnsOnce 4 = .ok (.bipush 31, 2) := by decide +kernel
theorem dX5_turnsOnce_6 : decode cX5_turnsOnce 6 = .ok (.iaload, 1) := by decide +kernel
theorem dX5_turnsOnce_7 : decode cX5_turnsOnce 7 = .ok (.istore_n 3, 1) := by decide +kernel
theorem dX5_turnsOnce_8 : decode cX5_turnsOnce 8 = .ok (.aload_n 0, 1) := by decide +kernel
theorem dX5_turnsOnce_9 : decode cX5_turnsOnce 9 = .ok (.aload_n 0, 1) := by decide +kernel
theorem dX5_turnsOnce_10 : decode cX5_turnsOnce 10 = .ok (.getfield 7, 3) := by decide +kernel
theorem dX5_turnsOnce_13 : decode cX5_turnsOnce 13 = .ok (.bipush 12, 2) := by decide +kernel
theorem dX5_turnsOnce_15 : decode cX5_turnsOnce 15 = .ok (.iload_n 3, 1) := by decide +kernel
theorem dX5_turnsOnce_16 : decode cX5_turnsOnce 16 = .ok (.iload_n 1, 1) := by decide +kernel
theorem dX5_turnsOnce_17 : decode cX5_turnsOnce 17 = .ok (.invokevirtual 61, 3) := by decide +kernel
theorem dX5_turnsOnce_20 : decode cX5_turnsOnce 20 = .ok (.istore 4, 2) := by decide +kernel
theorem dX5_turnsOnce_22 : decode cX5_turnsOnce 22 = .ok (.aload_n 0, 1) := by decide +kernel
theorem dX5_turnsOnce_23 : decode cX5_turnsOnce 23 = .ok (.getfield 7, 3) := by decide +kernel
theorem dX5_turnsOnce_26 : decode cX5_turnsOnce 26 = .ok (.bipush 33, 2) := by decide +kernel
theorem dX5_turnsOnce_28 : decode cX5_turnsOnce 28 = .ok (.dup2, 1) := by decide +kernel
theorem dX5_turnsOnce_29 : decode cX5_turnsOnce 29 = .ok (.iaload, 1) := by decide +kernel
theorem dX5_turnsOnce_30 : decode cX5_turnsOnce 30 = .ok (.iload 4, 2) := by decide +kernel
theorem dX5_turnsOnce_32 : decode cX5_turnsOnce 32 = .ok (.ifCond .eq 7, 3) := by decide +kernel
theorem dX5_turnsOnce_35 : decode cX5_turnsOnce 35 = .ok (.iconst 1, 1) := by decide +kernel
theorem dX5_turnsOnce_36 : decode cX5_turnsOnce 36 = .ok (.goto 4, 3) := by decide +kernel
theorem dX5_turnsOnce_39 : decode cX5_turnsOnce 39 = .ok (.iconst 0, 1) := by decide +kernel
theorem dX5_turnsOnce_40 : decode cX5_turnsOnce 40 = .ok (.iadd, 1) := by decide +kernel
theorem dX5_turnsOnce_41 : decode cX5_turnsOnce 41 = .ok (.iastore, 1) := by decide +kernel
theorem dX5_turnsOnce_42 : decode cX5_turnsOnce 42 = .ok (.aload_n 0, 1) := by decide +kernel
theorem dX5_turnsOnce_43 : decode cX5_turnsOnce 43 = .ok (.getfield 7, 3) := by decide +kernel
theorem dX5_turnsOnce_46 : decode cX5_turnsOnce 46 = .ok (.bipush 24, 2) := by decide +kernel
theorem dX5_turnsOnce_48 : decode cX5_turnsOnce 48 = .ok (.iload_n 3, 1) := by decide +kernel
theorem dX5_turnsOnce_49 : decode cX5_turnsOnce 49 = .ok (.iadd, 1) := by decide +kernel
theorem dX5_turnsOnce_50 : decode cX5_turnsOnce 50 = .ok (.aload_n 0, 1) := by decide +kernel
theorem dX5_turnsOnce_51 : decode cX5_turnsOnce 51 = .ok (.getfield 7, 3) := by decide +kernel
theorem dX5_turnsOnce_54 : decode cX5_turnsOnce 54 = .ok (.bipush 24, 2) := by decide +kernel
theorem dX5_turnsOnce_56 : decode cX5_turnsOnce 56 = .ok (.iload_n 3, 1) := by decide +kernel
theorem dX5_turnsOnce_57 : decode cX5_turnsOnce 57 = .ok (.iadd, 1) := by decide +kernel
theorem dX5_turnsOnce_58 : decode cX5_turnsOnce 58 = .ok (.iaload, 1) := by decide +kernel
theorem dX5_turnsOnce_59 : decode cX5_turnsOnce 59 = .ok (.iload_n 2, 1) := by decide +kernel
theorem dX5_turnsOnce_60 : decode cX5_turnsOnce 60 = .ok (.iadd, 1) := by decide +kernel
theorem dX5_turnsOnce_61 : decode cX5_turnsOnce 61 = .ok (.bipush 10, 2) := by decide +kernel
theorem dX5_turnsOnce_63 : decode cX5_turnsOnce 63 = .ok (.iadd, 1) := by decide +kernel
theorem dX5_turnsOnce_64 : decode cX5_turnsOnce 64 = .ok (.bipush 10, 2) := by decide +kernel
theorem dX5_turnsOnce_66 : decode cX5_turnsOnce 66 = .ok (.irem, 1) := by decide +kernel
theorem dX5_turnsOnce_67 : decode cX5_turnsOnce 67 = .ok (.iastore, 1) := by decide +kernel
theorem dX5_turnsOnce_68 : decode cX5_turnsOnce 68 = .ok (.aload_n 0, 1) := by decide +kernel
theorem dX5_turnsOnce_69 : decode cX5_turnsOnce 69 = .ok (.getfield 7, 3) := by decide +kernel
theorem dX5_turnsOnce_72 : decode cX5_turnsOnce 72 = .ok (.bipush 34, 2) := by decide +kernel
theorem dX5_turnsOnce_74 : decode cX5_turnsOnce 74 = .ok (.dup2, 1) := by decide +kernel
theorem dX5_turnsOnce_75 : decode cX5_turnsOnce 75 = .ok (.iaload, 1) := by decide +kernel
theorem dX5_turnsOnce_76 : decode cX5_turnsOnce 76 = .ok (.iconst 1, 1) := by decide +kernel
theorem dX5_turnsOnce_77 : decode cX5_turnsOnce 77 = .ok (.iadd, 1) := by decide +kernel
theorem dX5_turnsOnce_78 : decode cX5_turnsOnce 78 = .ok (.iastore, 1) := by decide +kernel
theorem dX5_turnsOnce_79 : decode cX5_turnsOnce 79 = .ok (.iload 4, 2) := by decide +kernel
theorem dX5_turnsOnce_81 : decode cX5_turnsOnce 81 = .ok (.ireturn, 1) := by decide +kernel
theorem dX5_doesTurns_0 : decode cX5_doesTurns 0 = .ok (.iload_n 1, 1) := by decide +kernel
theorem dX5_doesTurns_1 : decode cX5_doesTurns 1 = .ok (.i2l, 1) := by decide +kernel
theorem dX5_doesTurns_2 : decode cX5_doesTurns 2 = .ok (.lconst 1, 1) := by decide +kernel
theorem dX5_doesTurns_3 : decode cX5_doesTurns 3 = .ok (.ldc2_w 65, 3) := by decide +kernel
theorem dX5_doesTurns_6 : decode cX5_doesTurns 6 = .ok (.invokestatic 53, 3) := by decide +kernel
theorem dX5_doesTurns_9 : decode cX5_doesTurns 9 = .ok (.ifCond .ne 6, 3) := by decide +kernel
theorem dX5_doesTurns_12 : decode cX5_doesTurns 12 = .ok (.bipush (-2), 2) := by decide +kernel
theorem dX5_doesTurns_14 : decode cX5_doesTurns 14 = .ok (.ireturn, 1) := by decide +kernel
theorem dX5_doesTurns_15 : decode cX5_doesTurns 15 = .ok (.aload_n 0, 1) := by decide +kernel
theorem dX5_doesTurns_16 : decode cX5_doesTurns 16 = .ok (.invokevirtual 67, 3) := by decide +kernel
theorem dX5_doesTurns_19 : decode cX5_doesTurns 19 = .ok (.iconst 0, 1) := by decide +kernel
theorem dX5_doesTurns_20 : decode cX5_doesTurns 20 = .ok (.istore_n 3, 1) := by decide +kernel
theorem dX5_doesTurns_21 : decode cX5_doesTurns 21 = .ok (.iconst 0, 1) := by decide +kernel
theorem dX5_doesTurns_22 : decode cX5_doesTurns 22 = .ok (.istore 4, 2) := by decide +kernel
theorem dX5_doesTurns_24 : decode cX5_doesTurns 24 = .ok (.iload 4, 2) := by decide +kernel
theorem dX5_doesTurns_26 : decode cX5_doesTurns 26 = .ok (.iload_n 1, 1) := by decide +kernel
theorem dX5_doesTurns_27 : decode cX5_doesTurns 27 = .ok (.if_icmp .ge 26, 3) := by decide +kernel
theorem dX5_doesTurns_30 : decode cX5_doesTurns 30 = .ok (.iload_n 3, 1) := by decide +kernel
theorem dX5_doesTurns_31 : decode cX5_doesTurns 31 = .ok (.aload_n 0, 1) := by decide +kernel
theorem dX5_doesTurns_32 : decode cX5_doesTurns 32 = .ok (.iload_n 2, 1) := by decide +kernel
theorem dX5_doesTurns_33 : decode cX5_doesTurns 33 = .ok (.iload_n 2, 1) := by decide +kernel
theorem dX5_doesTurns_34 : decode cX5_doesTurns 34 = .ok (.invokevirtual 70, 3) := by decide +kernel
theorem dX5_doesTurns_37 : decode cX5_doesTurns 37 = .ok (.ifCond .eq 7, 3) := by decide +kernel
theorem dX5_doesTurns_40 : decode cX5_doesTurns 40 = .ok (.iconst 1, 1) := by decide +kernel
theorem dX5_doesTurns_41 : decode cX5_doesTurns 41 = .ok (.goto 4, 3) := by decide +kernel
theorem dX5_doesTurns_44 : decode cX5_doesTurns 44 = .ok (.iconst 0, 1) := by decide +kernel
theorem dX5_doesTurns_45 : decode cX5_doesTurns 45 = .ok (.iadd, 1) := by decide +kernel
theorem dX5_doesTurns_46 : decode cX5_doesTurns 46 = .ok (.istore_n 3, 1) := by decide +kernel
theorem dX5_doesTurns_47 : decode cX5_doesTurns 47 = .ok (.iinc 4 1, 3) := by decide +kernel
theorem dX5_doesTurns_50 : decode cX5_doesTurns 50 = .ok (.goto (-26), 3) := by decide +kernel
theorem dX5_doesTurns_53 : decode cX5_doesTurns 53 = .ok (.iload_n 3, 1) := by decide +kernel
theorem dX5_doesTurns_54 : decode cX5_doesTurns 54 = .ok (.ireturn, 1) := by decide +kernel
theorem dX5_clearsAll_0 : decode cX5_clearsAll 0 = .ok (.iconst 0, 1) := by decide +kernel
theorem dX5_clearsAll_1 : decode cX5_clearsAll 1 = .ok (.istore_n 1, 1) := by decide +kernel
theorem dX5_clearsAll_2 : decode cX5_clearsAll 2 = .ok (.iconst 0, 1) := by decide +kernel
theorem dX5_clearsAll_3 : decode cX5_clearsAll 3 = .ok (.istore_n 2, 1) := by decide +kernel
theorem dX5_clearsAll_4 : decode cX5_clearsAll 4 = .ok (.iload_n 2, 1) := by decide +kernel
theorem dX5_clearsAll_5 : decode cX5_clearsAll 5 = .ok (.bipush 12, 2) := by decide +kernel
theorem dX5_clearsAll_7 : decode cX5_clearsAll 7 = .ok (.if_icmp .ge 39, 3) := by decide +kernel
theorem dX5_clearsAll_10 : decode cX5_clearsAll 10 = .ok (.iload_n 1, 1) := by decide +kernel
theorem dX5_clearsAll_11 : decode cX5_clearsAll 11 = .ok (.aload_n 0, 1) := by decide +kernel
theorem dX5_clearsAll_12 : decode cX5_clearsAll 12 = .ok (.getfield 7, 3) := by decide +kernel
theorem dX5_clearsAll_15 : decode cX5_clearsAll 15 = .ok (.bipush 12, 2) := by decide +kernel
theorem dX5_clearsAll_17 : decode cX5_clearsAll 17 = .ok (.iload_n 2, 1) := by decide +kernel
theorem dX5_clearsAll_18 : decode cX5_clearsAll 18 = .ok (.iadd, 1) := by decide +kernel
theorem dX5_clearsAll_19 : decode cX5_clearsAll 19 = .ok (.iaload, 1) := by decide +kernel
theorem dX5_clearsAll_20 : decode cX5_clearsAll 20 = .ok (.ifCond .eq 7, 3) := by decide +kernel
theorem dX5_clearsAll_23 : decode cX5_clearsAll 23 = .ok (.iconst 1, 1) := by decide +kernel
theorem dX5_clearsAll_24 : decode cX5_clearsAll 24 = .ok (.goto 4, 3) := by decide +kernel
theorem dX5_clearsAll_27 : decode cX5_clearsAll 27 = .ok (.iconst 0, 1) := by decide +kernel
theorem dX5_clearsAll_28 : decode cX5_clearsAll 28 = .ok (.iadd, 1) := by decide +kernel
theorem dX5_clearsAll_29 : decode cX5_clearsAll 29 = .ok (.istore_n 1, 1) := by decide +kernel
theorem dX5_clearsAll_30 : decode cX5_clearsAll 30 = .ok (.aload_n 0, 1) := by decide +kernel
theorem dX5_clearsAll_31 : decode cX5_clearsAll 31 = .ok (.getfield 7, 3) := by decide +kernel
theorem dX5_clearsAll_34 : decode cX5_clearsAll 34 = .ok (.bipush 12, 2) := by decide +kernel
theorem dX5_clearsAll_36 : decode cX5_clearsAll 36 = .ok (.iload_n 2, 1) := by decide +kernel
theorem dX5_clearsAll_37 : decode cX5_clearsAll 37 = .ok (.iadd, 1) := by decide +kernel
theorem dX5_clearsAll_38 : decode cX5_clearsAll 38 = .ok (.iconst 0, 1) := by decide +kernel
theorem dX5_clearsAll_39 : decode cX5_clearsAll 39 = .ok (.iastore, 1) := by decide +kernel
theorem dX5_clearsAll_40 : decode cX5_clearsAll 40 = .ok (.iinc 2 1, 3) := by decide +kernel
theorem dX5_clearsAll_43 : decode cX5_clearsAll 43 = .ok (.goto (-39), 3) := by decide +kernel
theorem dX5_clearsAll_46 : decode cX5_clearsAll 46 = .ok (.aload_n 0, 1) := by decide +kernel
theorem dX5_clearsAll_47 : decode cX5_clearsAll 47 = .ok (.invokevirtual 74, 3) := by decide +kernel
theorem dX5_clearsAll_50 : decode cX5_clearsAll 50 = .ok (.iload_n 1, 1) := by decide +kernel
theorem dX5_clearsAll_51 : decode cX5_clearsAll 51 = .ok (.ireturn, 1) := by decide +kernel
theorem dX5_clearsCounters_0 : decode cX5_clearsCounters 0 = .ok (.iconst 0, 1) := by decide +kernel
theorem dX5_clearsCounters_1 : decode cX5_clearsCounters 1 = .ok (.istore_n 1, 1) := by decide +kernel
theorem dX5_clearsCounters_2 : decode cX5_clearsCounters 2 = .ok (.iload_n 1, 1) := by decide +kernel
theorem dX5_clearsCounters_3 : decode cX5_clearsCounters 3 = .ok (.bipush 7, 2) := by decide +kernel
theorem dX5_clearsCounters_5 : decode cX5_clearsCounters 5 = .ok (.if_icmp .ge 19, 3) := by decide +kernel
theorem dX5_clearsCounters_8 : decode cX5_clearsCounters 8 = .ok (.aload_n 0, 1) := by decide +kernel
theorem dX5_clearsCounters_9 : decode cX5_clearsCounters 9 = .ok (.getfield 7, 3) := by decide +kernel
theorem dX5_clearsCounters_12 : decode cX5_clearsCounters 12 = .ok (.bipush 24, 2) := by decide +kernel
theorem dX5_clearsCounters_14 : decode cX5_clearsCounters 14 = .ok (.iload_n 1, 1) := by decide +kernel
theorem dX5_clearsCounters_15 : decode cX5_clearsCounters 15 = .ok (.iadd, 1) := by decide +kernel
theorem dX5_clearsCounters_16 : decode cX5_clearsCounters 16 = .ok (.iconst 0, 1) := by decide +kernel
theorem dX5_clearsCounters_17 : decode cX5_clearsCounters 17 = .ok (.iastore, 1) := by decide +kernel
theorem dX5_clearsCounters_18 : decode cX5_clearsCounters 18 = .ok (.iinc 1 1, 3) := by decide +kernel
theorem dX5_clearsCounters_21 : decode cX5_clearsCounters 21 = .ok (.goto (-19), 3) := by decide +kernel
theorem dX5_clearsCounters_24 : decode cX5_clearsCounters 24 = .ok (.return_, 1) := by decide +kernel
theorem dX5_laysPlan_0 : decode cX5_laysPlan 0 = .ok (.iload_n 1, 1) := by decide +kernel
theorem dX5_laysPlan_1 : decode cX5_laysPlan 1 = .ok (.istore_n 3, 1) := by decide +kernel
theorem dX5_laysPlan_2 : decode cX5_laysPlan 2 = .ok (.iconst 0, 1) := by decide +kernel
theorem dX5_laysPlan_3 : decode cX5_laysPlan 3 = .ok (.istore 4, 2) := by decide +kernel
theorem dX5_laysPlan_5 : decode cX5_laysPlan 5 = .ok (.iconst 0, 1) := by decide +kernel
theorem dX5_laysPlan_6 : decode cX5_laysPlan 6 = .ok (.istore 5, 2) := by decide +kernel
theorem dX5_laysPlan_8 : decode cX5_laysPlan 8 = .ok (.iconst 0, 1) := by decide +kernel
theorem dX5_laysPlan_9 : decode cX5_laysPlan 9 = .ok (.istore 6, 2) := by decide +kernel
theorem dX5_laysPlan_11 : decode cX5_laysPlan 11 = .ok (.iload 6, 2) := by decide +kernel
theorem dX5_laysPlan_13 : decode cX5_laysPlan 13 = .ok (.bipush 7, 2) := by decide +kernel
theorem dX5_laysPlan_15 : decode cX5_laysPlan 15 = .ok (.if_icmp .ge 108, 3) := by decide +kernel
theorem dX5_laysPlan_18 : decode cX5_laysPlan 18 = .ok (.iload_n 3, 1) := by decide +kernel
theorem dX5_laysPlan_19 : decode cX5_laysPlan 19 = .ok (.bipush 10, 2) := by decide +kernel
theorem dX5_laysPlan_21 : decode cX5_laysPlan 21 = .ok (.irem, 1) := by decide +kernel
theorem dX5_laysPlan_22 : decode cX5_laysPlan 22 = .ok (.iload 4, 2) := by decide +kernel
theorem dX5_laysPlan_24 : decode cX5_laysPlan 24 = .ok (.iadd, 1) := by decide +kernel
theorem dX5_laysPlan_25 : decode cX5_laysPlan 25 = .ok (.istore 7, 2) := by decide +kernel
theorem dX5_laysPlan_27 : decode cX5_laysPlan 27 = .ok (.iload_n 3, 1) := by decide +kernel
theorem dX5_laysPlan_28 : decode cX5_laysPlan 28 = .ok (.bipush 10, 2) := by decide +kernel
theorem dX5_laysPlan_30 : decode cX5_laysPlan 30 = .ok (.idiv, 1) := by decide +kernel
theorem dX5_laysPlan_31 : decode cX5_laysPlan 31 = .ok (.istore_n 3, 1) := by decide +kernel
theorem dX5_laysPlan_32 : decode cX5_laysPlan 32 = .ok (.iload_n 2, 1) := by decide +kernel
theorem dX5_laysPlan_33 : decode cX5_laysPlan 33 = .ok (.iconst 1, 1) := by decide +kernel
theorem dX5_laysPlan_34 : decode cX5_laysPlan 34 = .ok (.if_icmp .ne 13, 3) := by decide +kernel
theorem dX5_laysPlan_37 : decode cX5_laysPlan 37 = .ok (.iload 7, 2) := by decide +kernel
theorem dX5_laysPlan_39 : decode cX5_laysPlan 39 = .ok (.iconst 5, 1) := by decide +kernel
theorem dX5_laysPlan_40 : decode cX5_laysPlan 40 = .ok (.if_icmp .le 7, 3) := by decide +kernel
theorem dX5_laysPlan_43 : decode cX5_laysPlan 43 = .ok (.iconst 1, 1) := by decide +kernel
theorem dX5_laysPlan_44 : decode cX5_laysPlan 44 = .ok (.goto 4, 3) := by decide +kernel
theorem dX5_laysPlan_47 : decode cX5_laysPlan 47 = .ok (.iconst 0, 1) := by decide +kernel
theorem dX5_laysPlan_48 : decode cX5_laysPlan 48 = .ok (.istore 8, 2) := by decide +kernel
theorem dX5_laysPlan_50 : decode cX5_laysPlan 50 = .ok (.iload 8, 2) := by decide +kernel
theorem dX5_laysPlan_52 : decode cX5_laysPlan 52 = .ok (.ifCond .eq 7, 3) := by decide +kernel
theorem dX5_laysPlan_55 : decode cX5_laysPlan 55 = .ok (.iconst 1, 1) := by decide +kernel
theorem dX5_laysPlan_56 : decode cX5_laysPlan 56 = .ok (.goto 4, 3) := by decide +kernel
theorem dX5_laysPlan_59 : decode cX5_laysPlan 59 = .ok (.iconst 0, 1) := by decide +kernel
theorem dX5_laysPlan_60 : decode cX5_laysPlan 60 = .ok (.istore 4, 2) := by decide +kernel
theorem dX5_laysPlan_62 : decode cX5_laysPlan 62 = .ok (.aload_n 0, 1) := by decide +kernel
theorem dX5_laysPlan_63 : decode cX5_laysPlan 63 = .ok (.getfield 31, 3) := by decide +kernel
theorem dX5_laysPlan_66 : decode cX5_laysPlan 66 = .ok (.iload 6, 2) := by decide +kernel
theorem dX5_laysPlan_68 : decode cX5_laysPlan 68 = .ok (.iload 8, 2) := by decide +kernel
theorem dX5_laysPlan_70 : decode cX5_laysPlan 70 = .ok (.ifCond .eq 11, 3) := by decide +kernel
theorem dX5_laysPlan_73 : decode cX5_laysPlan 73 = .ok (.iload 7, 2) := by decide +kernel
theorem dX5_laysPlan_75 : decode cX5_laysPlan 75 = .ok (.bipush 10, 2) := by decide +kernel
theorem dX5_laysPlan_77 : decode cX5_laysPlan 77 = .ok (.isub, 1) := by decide +kernel
theorem dX5_laysPlan_78 : decode cX5_laysPlan 78 = .ok (.goto 5, 3) := by decide +kernel
theorem dX5_laysPlan_81 : decode cX5_laysPlan 81 = .ok (.iload 7, 2) := by decide +kernel
theorem dX5_laysPlan_83 : decode cX5_laysPlan 83 = .ok (.iastore, 1) := by decide +kernel
theorem dX5_laysPlan_84 : decode cX5_laysPlan 84 = .ok (.iload 5, 2) := by decide +kernel
theorem dX5_laysPlan_86 : decode cX5_laysPlan 86 = .ok (.aload_n 0, 1) := by decide +kernel
theorem dX5_laysPlan_87 : decode cX5_laysPlan 87 = .ok (.getfield 31, 3) := by decide +kernel
theorem dX5_laysPlan_90 : decode cX5_laysPlan 90 = .ok (.iload 6, 2) := by decide +kernel
theorem dX5_laysPlan_92 : decode cX5_laysPlan 92 = .ok (.iaload, 1) := by decide +kernel
theorem dX5_laysPlan_93 : decode cX5_laysPlan 93 = .ok (.ifCond .ge 14, 3) := by decide +kernel
theorem dX5_laysPlan_96 : decode cX5_laysPlan 96 = .ok (.aload_n 0, 1) := by decide +kernel
theorem dX5_laysPlan_97 : decode cX5_laysPlan 97 = .ok (.getfield 31, 3) := by decide +kernel
theorem dX5_laysPlan_100 : decode cX5_laysPlan 100 = .ok (.iload 6, 2) := by decide +kernel
theorem dX5_laysPlan_102 : decode cX5_laysPlan 102 = .ok (.iaload, 1) := by decide +kernel
theorem dX5_laysPlan_103 : decode cX5_laysPlan 103 = .ok (.ineg, 1) := by decide +kernel
theorem dX5_laysPlan_104 : decode cX5_laysPlan 104 = .ok (.goto 10, 3) := by decide +kernel
theorem dX5_laysPlan_107 : decode cX5_laysPlan 107 = .ok (.aload_n 0, 1) := by decide +kernel
theorem dX5_laysPlan_108 : decode cX5_laysPlan 108 = .ok (.getfield 31, 3) := by decide +kernel
theorem dX5_laysPlan_111 : decode cX5_laysPlan 111 = .ok (.iload 6, 2) := by decide +kernel
theorem dX5_laysPlan_113 : decode cX5_laysPlan 113 = .ok (.iaload, 1) := by decide +kernel
theorem dX5_laysPlan_114 : decode cX5_laysPlan 114 = .ok (.iadd, 1) := by decide +kernel
theorem dX5_laysPlan_115 : decode cX5_laysPlan 115 = .ok (.istore 5, 2) := by decide +kernel
theorem dX5_laysPlan_117 : decode cX5_laysPlan 117 = .ok (.iinc 6 1, 3) := by decide +kernel
theorem dX5_laysPlan_120 : decode cX5_laysPlan 120 = .ok (.goto (-109), 3) := by decide +kernel
theorem dX5_laysPlan_123 : decode cX5_laysPlan 123 = .ok (.iload 5, 2) := by decide +kernel
theorem dX5_laysPlan_125 : decode cX5_laysPlan 125 = .ok (.ireturn, 1) := by decide +kernel
theorem dX5_doesTimes_0 : decode cX5_doesTimes 0 = .ok (.iload_n 1, 1) := by decide +kernel
theorem dX5_doesTimes_1 : decode cX5_doesTimes 1 = .ok (.i2l, 1) := by decide +kernel
theorem dX5_doesTimes_2 : decode cX5_doesTimes 2 = .ok (.lconst 0, 1) := by decide +kernel
theorem dX5_doesTimes_3 : decode cX5_doesTimes 3 = .ok (.ldc2_w 77, 3) := by decide +kernel
theorem dX5_doesTimes_6 : decode cX5_doesTimes 6 = .ok (.invokestatic 53, 3) := by decide +kernel
theorem dX5_doesTimes_9 : decode cX5_doesTimes 9 = .ok (.ifCond .eq 13, 3) := by decide +kernel
theorem dX5_doesTimes_12 : decode cX5_doesTimes 12 = .ok (.iload_n 2, 1) := by decide +kernel
theorem dX5_doesTimes_13 : decode cX5_doesTimes 13 = .ok (.i2l, 1) := by decide +kernel
theorem dX5_doesTimes_14 : decode cX5_doesTimes 14 = .ok (.lconst 0, 1) := by decide +kernel
theorem dX5_doesTimes_15 : decode cX5_doesTimes 15 = .ok (.lconst 1, 1) := by decide +kernel
theorem dX5_doesTimes_16 : decode cX5_doesTimes 16 = .ok (.invokestatic 53, 3) := by decide +kernel
theorem dX5_doesTimes_19 : decode cX5_doesTimes 19 = .ok (.ifCond .ne 6, 3) := by decide +kernel
theorem dX5_doesTimes_22 : decode cX5_doesTimes 22 = .ok (.bipush (-2), 2) := by decide +kernel
theorem dX5_doesTimes_24 : decode cX5_doesTimes 24 = .ok (.ireturn, 1) := by decide +kernel
theorem dX5_doesTimes_25 : decode cX5_doesTimes 25 = .ok (.aload_n 0, 1) := by decide +kernel
theorem dX5_doesTimes_26 : decode cX5_doesTimes 26 = .ok (.invokevirtual 79, 3) := by decide +kernel
theorem dX5_doesTimes_29 : decode cX5_doesTimes 29 = .ok (.istore_n 3, 1) := by decide +kernel
theorem dX5_doesTimes_30 : decode cX5_doesTimes 30 = .ok (.aload_n 0, 1) := by decide +kernel
theorem dX5_doesTimes_31 : decode cX5_doesTimes 31 = .ok (.iload_n 1, 1) := by decide +kernel
theorem dX5_doesTimes_32 : decode cX5_doesTimes 32 = .ok (.iload_n 2, 1) := by decide +kernel
theorem dX5_doesTimes_33 : decode cX5_doesTimes 33 = .ok (.invokevirtual 83, 3) := by decide +kernel
theorem dX5_doesTimes_36 : decode cX5_doesTimes 36 = .ok (.istore 4, 2) := by decide +kernel
theorem dX5_doesTimes_38 : decode cX5_doesTimes 38 = .ok (.aload_n 0, 1) := by decide +kernel
theorem dX5_doesTimes_39 : decode cX5_doesTimes 39 = .ok (.invokevirtual 67, 3) := by decide +kernel
theorem dX5_doesTimes_42 : decode cX5_doesTimes 42 = .ok (.iconst 0, 1) := by decide +kernel
theorem dX5_doesTimes_43 : decode cX5_doesTimes 43 = .ok (.istore 5, 2) := by decide +kernel
theorem dX5_doesTimes_45 : decode cX5_doesTimes 45 = .ok (.iload 5, 2) := by decide +kernel
theorem dX5_doesTimes_47 : decode cX5_doesTimes 47 = .ok (.bipush 6, 2) := by decide +kernel
theorem dX5_doesTimes_49 : decode cX5_doesTimes 49 = .ok (.iload_n 2, 1) := by decide +kernel
theorem dX5_doesTimes_50 : decode cX5_doesTimes 50 = .ok (.iadd, 1) := by decide +kernel
theorem dX5_doesTimes_51 : decode cX5_doesTimes 51 = .ok (.if_icmp .ge 68, 3) := by decide +kernel
theorem dX5_doesTimes_54 : decode cX5_doesTimes 54 = .ok (.aload_n 0, 1) := by decide +kernel
theorem dX5_doesTimes_55 : decode cX5_doesTimes 55 = .ok (.getfield 7, 3) := by decide +kernel
theorem dX5_doesTimes_58 : decode cX5_doesTimes 58 = .ok (.bipush 31, 2) := by decide +kernel
theorem dX5_doesTimes_60 : decode cX5_doesTimes 60 = .ok (.iload 5, 2) := by decide +kernel
theorem dX5_doesTimes_62 : decode cX5_doesTimes 62 = .ok (.iastore, 1) := by decide +kernel
theorem dX5_doesTimes_63 : decode cX5_doesTimes 63 = .ok (.aload_n 0, 1) := by decide +kernel
theorem dX5_doesTimes_64 : decode cX5_doesTimes 64 = .ok (.getfield 31, 3) := by decide +kernel
theorem dX5_doesTimes_67 : decode cX5_doesTimes 67 = .ok (.iload 5, 2) := by decide +kernel
theorem dX5_doesTimes_69 : decode cX5_doesTimes 69 = .ok (.iaload, 1) := by decide +kernel
theorem dX5_doesTimes_70 : decode cX5_doesTimes 70 = .ok (.ifCond .ge 7, 3) := by decide +kernel
theorem dX5_doesTimes_73 : decode cX5_doesTimes 73 = .ok (.iconst (-1), 1) := by decide +kernel
theorem dX5_doesTimes_74 : decode cX5_doesTimes 74 = .ok (.goto 4, 3) := by decide +kernel
theorem dX5_doesTimes_77 : decode cX5_doesTimes 77 = .ok (.iconst 1, 1) := by decide +kernel
theorem dX5_doesTimes_78 : decode cX5_doesTimes 78 = .ok (.istore 6, 2) := by decide +kernel
theorem dX5_doesTimes_80 : decode cX5_doesTimes 80 = .ok (.iload 6, 2) := by decide +kernel
theorem dX5_doesTimes_82 : decode cX5_doesTimes 82 = .ok (.aload_n 0, 1) := by decide +kernel
theorem dX5_doesTimes_83 : decode cX5_doesTimes 83 = .ok (.getfield 31, 3) := by decide +kernel
theorem dX5_doesTimes_86 : decode cX5_doesTimes 86 = .ok (.iload 5, 2) := by decide +kernel
theorem dX5_doesTimes_88 : decode cX5_doesTimes 88 = .ok (.iaload, 1) := by decide +kernel
theorem dX5_doesTimes_89 : decode cX5_doesTimes 89 = .ok (.imul, 1) := by decide +kernel
theorem dX5_doesTimes_90 : decode cX5_doesTimes 90 = .ok (.istore 7, 2) := by decide +kernel
theorem dX5_doesTimes_92 : decode cX5_doesTimes 92 = .ok (.iload 7, 2) := by decide +kernel
theorem dX5_doesTimes_94 : decode cX5_doesTimes 94 = .ok (.ifCond .le 19, 3) := by decide +kernel
theorem dX5_doesTimes_97 : decode cX5_doesTimes 97 = .ok (.aload_n 0, 1) := by decide +kernel
theorem dX5_doesTimes_98 : decode cX5_doesTimes 98 = .ok (.iload 6, 2) := by decide +kernel
theorem dX5_doesTimes_100 : decode cX5_doesTimes 100 = .ok (.iload 6, 2) := by decide +kernel
theorem dX5_doesTimes_102 : decode cX5_doesTimes 102 = .ok (.invokevirtual 70, 3) := by decide +kernel
theorem dX5_doesTimes_105 : decode cX5_doesTimes 105 = .ok (.istore 8, 2) := by decide +kernel
theorem dX5_doesTimes_107 : decode cX5_doesTimes 107 = .ok (.iinc 7 (-1), 3) := by decide +kernel
theorem dX5_doesTimes_110 : decode cX5_doesTimes 110 = .ok (.goto (-18), 3) := by decide +kernel
theorem dX5_doesTimes_113 : decode cX5_doesTimes 113 = .ok (.iinc 5 1, 3) := by decide +kernel
theorem dX5_doesTimes_116 : decode cX5_doesTimes 116 = .ok (.goto (-71), 3) := by decide +kernel
theorem dX5_doesTimes_119 : decode cX5_doesTimes 119 = .ok (.iload 4, 2) := by decide +kernel
theorem dX5_doesTimes_121 : decode cX5_doesTimes 121 = .ok (.ireturn, 1) := by decide +kernel
theorem dX5_downs0_0 : decode cX5_downs0 0 = .ok (.iconst 0, 1) := by decide +kernel
theorem dX5_downs0_1 : decode cX5_downs0 1 = .ok (.istore_n 1, 1) := by decide +kernel
theorem dX5_downs0_2 : decode cX5_downs0 2 = .ok (.iconst 0, 1) := by decide +kernel
theorem dX5_downs0_3 : decode cX5_downs0 3 = .ok (.istore_n 2, 1) := by decide +kernel
theorem dX5_downs0_4 : decode cX5_downs0 4 = .ok (.iload_n 2, 1) := by decide +kernel
theorem dX5_downs0_5 : decode cX5_downs0 5 = .ok (.bipush 20, 2) := by decide +kernel
theorem dX5_downs0_7 : decode cX5_downs0 7 = .ok (.if_icmp .ge 20, 3) := by decide +kernel
theorem dX5_downs0_10 : decode cX5_downs0 10 = .ok (.iload_n 1, 1) := by decide +kernel
theorem dX5_downs0_11 : decode cX5_downs0 11 = .ok (.ifCond .ne 16, 3) := by decide +kernel
theorem dX5_downs0_14 : decode cX5_downs0 14 = .ok (.aload_n 0, 1) := by decide +kernel
theorem dX5_downs0_15 : decode cX5_downs0 15 = .ok (.iconst (-1), 1) := by decide +kernel
theorem dX5_downs0_16 : decode cX5_downs0 16 = .ok (.iconst 1, 1) := by decide +kernel
theorem dX5_downs0_17 : decode cX5_downs0 17 = .ok (.invokevirtual 70, 3) := by decide +kernel
theorem dX5_downs0_20 : decode cX5_downs0 20 = .ok (.istore_n 1, 1) := by decide +kernel
theorem dX5_downs0_21 : decode cX5_downs0 21 = .ok (.iinc 2 1, 3) := by decide +kernel
theorem dX5_downs0_24 : decode cX5_downs0 24 = .ok (.goto (-20), 3) := by decide +kernel
theorem dX5_downs0_27 : decode cX5_downs0 27 = .ok (.iload_n 1, 1) := by decide +kernel
theorem dX5_downs0_28 : decode cX5_downs0 28 = .ok (.ireturn, 1) := by decide +kernel
theorem dX5_doesDivide_0 : decode cX5_doesDivide 0 = .ok (.aload_n 0, 1) := by decide +kernel
theorem dX5_doesDivide_1 : decode cX5_doesDivide 1 = .ok (.invokevirtual 67, 3) := by decide +kernel
theorem dX5_doesDivide_4 : decode cX5_doesDivide 4 = .ok (.iconst 0, 1) := by decide +kernel
theorem dX5_doesDivide_5 : decode cX5_doesDivide 5 = .ok (.istore_n 1, 1) := by decide +kernel
theorem dX5_doesDivide_6 : decode cX5_doesDivide 6 = .ok (.iconst 0, 1) := by decide +kernel
theorem dX5_doesDivide_7 : decode cX5_doesDivide 7 = .ok (.istore_n 2, 1) := by decide +kernel
theorem dX5_doesDivide_8 : decode cX5_doesDivide 8 = .ok (.iload_n 2, 1) := by decide +kernel
theorem dX5_doesDivide_9 : decode cX5_doesDivide 9 = .ok (.bipush 6, 2) := by decide +kernel
theorem dX5_doesDivide_11 : decode cX5_doesDivide 11 = .ok (.if_icmp .ge 18, 3) := by decide +kernel
theorem dX5_doesDivide_14 : decode cX5_doesDivide 14 = .ok (.iload_n 1, 1) := by decide +kernel
theorem dX5_doesDivide_15 : decode cX5_doesDivide 15 = .ok (.aload_n 0, 1) := by decide +kernel
theorem dX5_doesDivide_16 : decode cX5_doesDivide 16 = .ok (.getfield 25, 3) := by decide +kernel
theorem dX5_doesDivide_19 : decode cX5_doesDivide 19 = .ok (.iload_n 2, 1) := by decide +kernel
theorem dX5_doesDivide_20 : decode cX5_doesDivide 20 = .ok (.iaload, 1) := by decide +kernel
theorem dX5_doesDivide_21 : decode cX5_doesDivide 21 = .ok (.iadd, 1) := by decide +kernel
theorem dX5_doesDivide_22 : decode cX5_doesDivide 22 = .ok (.istore_n 1, 1) := by decide +kernel
theorem dX5_doesDivide_23 : decode cX5_doesDivide 23 = .ok (.iinc 2 1, 3) := by decide +kernel
theorem dX5_doesDivide_26 : decode cX5_doesDivide 26 = .ok (.goto (-18), 3) := by decide +kernel
theorem dX5_doesDivide_29 : decode cX5_doesDivide 29 = .ok (.iload_n 1, 1) := by decide +kernel
theorem dX5_doesDivide_30 : decode cX5_doesDivide 30 = .ok (.ifCond .ne 6, 3) := by decide +kernel
theorem dX5_doesDivide_33 : decode cX5_doesDivide 33 = .ok (.bipush (-3), 2) := by decide +kernel
theorem dX5_doesDivide_35 : decode cX5_doesDivide 35 = .ok (.ireturn, 1) := by decide +kernel
theorem dX5_doesDivide_36 : decode cX5_doesDivide 36 = .ok (.aload_n 0, 1) := by decide +kernel
theorem dX5_doesDivide_37 : decode cX5_doesDivide 37 = .ok (.getfield 7, 3) := by decide +kernel
theorem dX5_doesDivide_40 : decode cX5_doesDivide 40 = .ok (.bipush 34, 2) := by decide +kernel
theorem dX5_doesDivide_42 : decode cX5_doesDivide 42 = .ok (.iaload, 1) := by decide +kernel
theorem dX5_doesDivide_43 : decode cX5_doesDivide 43 = .ok (.istore_n 2, 1) := by decide +kernel
theorem dX5_doesDivide_44 : decode cX5_doesDivide 44 = .ok (.aload_n 0, 1) := by decide +kernel
theorem dX5_doesDivide_45 : decode cX5_doesDivide 45 = .ok (.invokevirtual 74, 3) := by decide +kernel
theorem dX5_doesDivide_48 : decode cX5_doesDivide 48 = .ok (.bipush 6, 2) := by decide +kernel
theorem dX5_doesDivide_50 : decode cX5_doesDivide 50 = .ok (.istore_n 3, 1) := by decide +kernel
theorem dX5_doesDivide_51 : decode cX5_doesDivide 51 = .ok (.iload_n 3, 1) := by decide +kernel
theorem dX5_doesDivide_52 : decode cX5_doesDivide 52 = .ok (.ifCond .lt 35, 3) := by decide +kernel
theorem dX5_doesDivide_55 : decode cX5_doesDivide 55 = .ok (.aload_n 0, 1) := by decide +kernel
theorem dX5_doesDivide_56 : decode cX5_doesDivide 56 = .ok (.getfield 7, 3) := by decide +kernel
theorem dX5_doesDivide_59 : decode cX5_doesDivide 59 = .ok (.bipush 31, 2) := by decide +kernel
theorem dX5_doesDivide_61 : decode cX5_doesDivide 61 = .ok (.iload_n 3, 1) := by decide +kernel
theorem dX5_doesDivide_62 : decode cX5_doesDivide 62 = .ok (.iastore, 1) := by decide +kernel
theorem dX5_doesDivide_63 : decode cX5_doesDivide 63 = .ok (.aload_n 0, 1) := by decide +kernel
theorem dX5_doesDivide_64 : decode cX5_doesDivide 64 = .ok (.invokevirtual 86, 3) := by decide +kernel
theorem dX5_doesDivide_67 : decode cX5_doesDivide 67 = .ok (.ifCond .ne 6, 3) := by decide +kernel
theorem dX5_doesDivide_70 : decode cX5_doesDivide 70 = .ok (.bipush (-3), 2) := by decide +kernel
theorem dX5_doesDivide_72 : decode cX5_doesDivide 72 = .ok (.ireturn, 1) := by decide +kernel
theorem dX5_doesDivide_73 : decode cX5_doesDivide 73 = .ok (.aload_n 0, 1) := by decide +kernel
theorem dX5_doesDivide_74 : decode cX5_doesDivide 74 = .ok (.iconst 1, 1) := by decide +kernel
theorem dX5_doesDivide_75 : decode cX5_doesDivide 75 = .ok (.iconst (-1), 1) := by decide +kernel
theorem dX5_doesDivide_76 : decode cX5_doesDivide 76 = .ok (.invokevirtual 70, 3) := by decide +kernel
theorem dX5_doesDivide_79 : decode cX5_doesDivide 79 = .ok (.istore 4, 2) := by decide +kernel
theorem dX5_doesDivide_81 : decode cX5_doesDivide 81 = .ok (.iinc 3 (-1), 3) := by decide +kernel
theorem dX5_doesDivide_84 : decode cX5_doesDivide 84 = .ok (.goto (-33), 3) := by decide +kernel
theorem dX5_doesDivide_87 : decode cX5_doesDivide 87 = .ok (.aload_n 0, 1) := by decide +kernel
theorem dX5_doesDivide_88 : decode cX5_doesDivide 88 = .ok (.getfield 7, 3) := by decide +kernel
theorem dX5_doesDivide_91 : decode cX5_doesDivide 91 = .ok (.bipush 34, 2) := by decide +kernel
theorem dX5_doesDivide_93 : decode cX5_doesDivide 93 = .ok (.iaload, 1) := by decide +kernel
theorem dX5_doesDivide_94 : decode cX5_doesDivide 94 = .ok (.iload_n 2, 1) := by decide +kernel
theorem dX5_doesDivide_95 : decode cX5_doesDivide 95 = .ok (.isub, 1) := by decide +kernel
theorem dX5_doesDivide_96 : decode cX5_doesDivide 96 = .ok (.ireturn, 1) := by decide +kernel
theorem dX5_change_0 : decode cX5_change 0 = .ok (.aload_n 0, 1) := by decide +kernel
theorem dX5_change_1 : decode cX5_change 1 = .ok (.getfield 7, 3) := by decide +kernel
theorem dX5_change_4 : decode cX5_change 4 = .ok (.iload_n 1, 1) := by decide +kernel
theorem dX5_change_5 : decode cX5_change 5 = .ok (.iaload, 1) := by decide +kernel
theorem dX5_change_6 : decode cX5_change 6 = .ok (.istore_n 3, 1) := by decide +kernel
theorem dX5_change_7 : decode cX5_change 7 = .ok (.aload_n 0, 1) := by decide +kernel
theorem dX5_change_8 : decode cX5_change 8 = .ok (.getfield 7, 3) := by decide +kernel
theorem dX5_change_11 : decode cX5_change 11 = .ok (.iload_n 1, 1) := by decide +kernel
theorem dX5_change_12 : decode cX5_change 12 = .ok (.iload_n 2, 1) := by decide +kernel
theorem dX5_change_13 : decode cX5_change 13 = .ok (.iastore, 1) := by decide +kernel
theorem dX5_change_14 : decode cX5_change 14 = .ok (.iload_n 3, 1) := by decide +kernel
theorem dX5_change_15 : decode cX5_change 15 = .ok (.ireturn, 1) := by decide +kernel
theorem dX5_putDigit_0 : decode cX5_putDigit 0 = .ok (.iload_n 1, 1) := by decide +kernel
theorem dX5_putDigit_1 : decode cX5_putDigit 1 = .ok (.invokestatic 90, 3) := by decide +kernel
theorem dX5_putDigit_4 : decode cX5_putDigit 4 = .ok (.ifCond .eq 26, 3) := by decide +kernel
theorem dX5_putDigit_7 : decode cX5_putDigit 7 = .ok (.iload_n 2, 1) := by decide +kernel
theorem dX5_putDigit_8 : decode cX5_putDigit 8 = .ok (.i2l, 1) := by decide +kernel
theorem dX5_putDigit_9 : decode cX5_putDigit 9 = .ok (.lconst 0, 1) := by decide +kernel
theorem dX5_putDigit_10 : decode cX5_putDigit 10 = .ok (.ldc2_w 94, 3) := by decide +kernel
theorem dX5_putDigit_13 : decode cX5_putDigit 13 = .ok (.invokestatic 53, 3) := by decide +kernel
theorem dX5_putDigit_16 : decode cX5_putDigit 16 = .ok (.ifCond .eq 14, 3) := by decide +kernel
theorem dX5_putDigit_19 : decode cX5_putDigit 19 = .ok (.aload_n 0, 1) := by decide +kernel
theorem dX5_putDigit_20 : decode cX5_putDigit 20 = .ok (.iconst 0, 1) := by decide +kernel
theorem dX5_putDigit_21 : decode cX5_putDigit 21 = .ok (.iload_n 1, 1) := by decide +kernel
theorem dX5_putDigit_22 : decode cX5_putDigit 22 = .ok (.iadd, 1) := by decide +kernel
theorem dX5_putDigit_23 : decode cX5_putDigit 23 = .ok (.iload_n 2, 1) := by decide +kernel
theorem dX5_putDigit_24 : decode cX5_putDigit 24 = .ok (.invokevirtual 96, 3) := by decide +kernel
theorem dX5_putDigit_27 : decode cX5_putDigit 27 = .ok (.goto 5, 3) := by decide +kernel
theorem dX5_putDigit_30 : decode cX5_putDigit 30 = .ok (.bipush (-2), 2) := by decide +kernel
theorem dX5_putDigit_32 : decode cX5_putDigit 32 = .ok (.ireturn, 1) := by decide +kernel
theorem dX5_putShift_0 : decode cX5_putShift 0 = .ok (.iload_n 1, 1) := by decide +kernel
theorem dX5_putShift_1 : decode cX5_putShift 1 = .ok (.i2l, 1) := by decide +kernel
theorem dX5_putShift_2 : decode cX5_putShift 2 = .ok (.lconst 0, 1) := by decide +kernel
theorem dX5_putShift_3 : decode cX5_putShift 3 = .ok (.ldc2_w 99, 3) := by decide +kernel
theorem dX5_putShift_6 : decode cX5_putShift 6 = .ok (.invokestatic 53, 3) := by decide +kernel
theorem dX5_putShift_9 : decode cX5_putShift 9 = .ok (.ifCond .eq 13, 3) := by decide +kernel
theorem dX5_putShift_12 : decode cX5_putShift 12 = .ok (.aload_n 0, 1) := by decide +kernel
theorem dX5_putShift_13 : decode cX5_putShift 13 = .ok (.bipush 31, 2) := by decide +kernel
theorem dX5_putShift_15 : decode cX5_putShift 15 = .ok (.iload_n 1, 1) := by decide +kernel
theorem dX5_putShift_16 : decode cX5_putShift 16 = .ok (.invokevirtual 96, 3) := by decide +kernel
theorem dX5_putShift_19 : decode cX5_putShift 19 = .ok (.goto 5, 3) := by decide +kernel
theorem dX5_putShift_22 : decode cX5_putShift 22 = .ok (.bipush (-2), 2) := by decide +kernel
theorem dX5_putShift_24 : decode cX5_putShift 24 = .ok (.ireturn, 1) := by decide +kernel
theorem dX5_putReach_0 : decode cX5_putReach 0 = .ok (.iload_n 1, 1) := by decide +kernel
theorem dX5_putReach_1 : decode cX5_putReach 1 = .ok (.i2l, 1) := by decide +kernel
theorem dX5_putReach_2 : decode cX5_putReach 2 = .ok (.lconst 0, 1) := by decide +kernel
theorem dX5_putReach_3 : decode cX5_putReach 3 = .ok (.ldc2_w 101, 3) := by decide +kernel
theorem dX5_putReach_6 : decode cX5_putReach 6 = .ok (.invokestatic 53, 3) := by decide +kernel
theorem dX5_putReach_9 : decode cX5_putReach 9 = .ok (.ifCond .eq 13, 3) := by decide +kernel
theorem dX5_putReach_12 : decode cX5_putReach 12 = .ok (.aload_n 0, 1) := by decide +kernel
theorem dX5_putReach_13 : decode cX5_putReach 13 = .ok (.bipush 32, 2) := by decide +kernel
theorem dX5_putReach_15 : decode cX5_putReach 15 = .ok (.iload_n 1, 1) := by decide +kernel
theorem dX5_putReach_16 : decode cX5_putReach 16 = .ok (.invokevirtual 96, 3) := by decide +kernel
theorem dX5_putReach_19 : decode cX5_putReach 19 = .ok (.goto 5, 3) := by decide +kernel
theorem dX5_putReach_22 : decode cX5_putReach 22 = .ok (.bipush (-2), 2) := by decide +kernel
theorem dX5_putReach_24 : decode cX5_putReach 24 = .ok (.ireturn, 1) := by decide +kernel
theorem dX5_wornMany_0 : decode cX5_wornMany 0 = .ok (.iconst 0, 1) := by decide +kernel
theorem dX5_wornMany_1 : decode cX5_wornMany 1 = .ok (.istore_n 1, 1) := by decide +kernel
theorem dX5_wornMany_2 : decode cX5_wornMany 2 = .ok (.iconst 1, 1) := by decide +kernel
theorem dX5_wornMany_3 : decode cX5_wornMany 3 = .ok (.istore_n 2, 1) := by decide +kernel
theorem dX5_wornMany_4 : decode cX5_wornMany 4 = .ok (.iload_n 2, 1) := by decide +kernel
theorem dX5_wornMany_5 : decode cX5_wornMany 5 = .ok (.bipush 10, 2) := by decide +kernel
theorem dX5_wornMany_7 : decode cX5_wornMany 7 = .ok (.if_icmp .ge 17, 3) := by decide +kernel
theorem dX5_wornMany_10 : decode cX5_wornMany 10 = .ok (.iload_n 1, 1) := by decide +kernel
theorem dX5_wornMany_11 : decode cX5_wornMany 11 = .ok (.iload_n 0, 1) := by decide +kernel
theorem dX5_wornMany_12 : decode cX5_wornMany 12 = .ok (.iload_n 2, 1) := by decide +kernel
theorem dX5_wornMany_13 : decode cX5_wornMany 13 = .ok (.ishr, 1) := by decide +kernel
theorem dX5_wornMany_14 : decode cX5_wornMany 14 = .ok (.iconst 1, 1) := by decide +kernel
theorem dX5_wornMany_15 : decode cX5_wornMany 15 = .ok (.iand, 1) := by decide +kernel
theorem dX5_wornMany_16 : decode cX5_wornMany 16 = .ok (.iadd, 1) := by decide +kernel
theorem dX5_wornMany_17 : decode cX5_wornMany 17 = .ok (.istore_n 1, 1) := by decide +kernel
theorem dX5_wornMany_18 : decode cX5_wornMany 18 = .ok (.iinc 2 1, 3) := by decide +kernel
theorem dX5_wornMany_21 : decode cX5_wornMany 21 = .ok (.goto (-17), 3) := by decide +kernel
theorem dX5_wornMany_24 : decode cX5_wornMany 24 = .ok (.iload_n 1, 1) := by decide +kernel
theorem dX5_wornMany_25 : decode cX5_wornMany 25 = .ok (.ireturn, 1) := by decide +kernel
theorem dX5_putWorn_0 : decode cX5_putWorn 0 = .ok (.iload_n 1, 1) := by decide +kernel
theorem dX5_putWorn_1 : decode cX5_putWorn 1 = .ok (.invokestatic 90, 3) := by decide +kernel
theorem dX5_putWorn_4 : decode cX5_putWorn 4 = .ok (.ifCond .eq 15, 3) := by decide +kernel
theorem dX5_putWorn_7 : decode cX5_putWorn 7 = .ok (.iload_n 2, 1) := by decide +kernel
theorem dX5_putWorn_8 : decode cX5_putWorn 8 = .ok (.i2l, 1) := by decide +kernel
theorem dX5_putWorn_9 : decode cX5_putWorn 9 = .ok (.lconst 1, 1) := by decide +kernel
theorem dX5_putWorn_10 : decode cX5_putWorn 10 = .ok (.ldc2_w 94, 3) := by decide +kernel
theorem dX5_putWorn_13 : decode cX5_putWorn 13 = .ok (.invokestatic 53, 3) := by decide +kernel
theorem dX5_putWorn_16 : decode cX5_putWorn 16 = .ok (.ifCond .ne 6, 3) := by decide +kernel
theorem dX5_putWorn_19 : decode cX5_putWorn 19 = .ok (.bipush (-2), 2) := by decide +kernel
theorem dX5_putWorn_21 : decode cX5_putWorn 21 = .ok (.ireturn, 1) := by decide +kernel
theorem dX5_putWorn_22 : decode cX5_putWorn 22 = .ok (.aload_n 0, 1) := by decide +kernel
theorem dX5_putWorn_23 : decode cX5_putWorn 23 = .ok (.getfield 7, 3) := by decide +kernel
theorem dX5_putWorn_26 : decode cX5_putWorn 26 = .ok (.bipush 6, 2) := by decide +kernel
theorem dX5_putWorn_28 : decode cX5_putWorn 28 = .ok (.iload_n 1, 1) := by decide +kernel
theorem dX5_putWorn_29 : decode cX5_putWorn 29 = .ok (.iadd, 1) := by decide +kernel
theorem dX5_putWorn_30 : decode cX5_putWorn 30 = .ok (.dup2, 1) := by decide +kernel
theorem dX5_putWorn_31 : decode cX5_putWorn 31 = .ok (.iaload, 1) := by decide +kernel
theorem dX5_putWorn_32 : decode cX5_putWorn 32 = .ok (.iconst 1, 1) := by decide +kernel
theorem dX5_putWorn_33 : decode cX5_putWorn 33 = .ok (.iload_n 2, 1) := by decide +kernel
theorem dX5_putWorn_34 : decode cX5_putWorn 34 = .ok (.ishl, 1) := by decide +kernel
theorem dX5_putWorn_35 : decode cX5_putWorn 35 = .ok (.ixor, 1) := by decide +kernel
theorem dX5_putWorn_36 : decode cX5_putWorn 36 = .ok (.iastore, 1) := by decide +kernel
theorem dX5_putWorn_37 : decode cX5_putWorn 37 = .ok (.aload_n 0, 1) := by decide +kernel
theorem dX5_putWorn_38 : decode cX5_putWorn 38 = .ok (.getfield 7, 3) := by decide +kernel
theorem dX5_putWorn_41 : decode cX5_putWorn 41 = .ok (.bipush 6, 2) := by decide +kernel
theorem dX5_putWorn_43 : decode cX5_putWorn 43 = .ok (.iload_n 1, 1) := by decide +kernel
theorem dX5_putWorn_44 : decode cX5_putWorn 44 = .ok (.iadd, 1) := by decide +kernel
theorem dX5_putWorn_45 : decode cX5_putWorn 45 = .ok (.iaload, 1) := by decide +kernel
theorem dX5_putWorn_46 : decode cX5_putWorn 46 = .ok (.invokestatic 103, 3) := by decide +kernel
theorem dX5_putWorn_49 : decode cX5_putWorn 49 = .ok (.ireturn, 1) := by decide +kernel
theorem dX5_number_0 : decode cX5_number 0 = .ok (.iconst 0, 1) := by decide +kernel
theorem dX5_number_1 : decode cX5_number 1 = .ok (.istore_n 3, 1) := by decide +kernel
theorem dX5_number_2 : decode cX5_number 2 = .ok (.iload_n 2, 1) := by decide +kernel
theorem dX5_number_3 : decode cX5_number 3 = .ok (.iconst 1, 1) := by decide +kernel
theorem dX5_number_4 : decode cX5_number 4 = .ok (.isub, 1) := by decide +kernel
theorem dX5_number_5 : decode cX5_number 5 = .ok (.istore 4, 2) := by decide +kernel
theorem dX5_number_7 : decode cX5_number 7 = .ok (.iload 4, 2) := by decide +kernel
theorem dX5_number_9 : decode cX5_number 9 = .ok (.ifCond .lt 21, 3) := by decide +kernel
theorem dX5_number_12 : decode cX5_number 12 = .ok (.bipush 10, 2) := by decide +kernel
theorem dX5_number_14 : decode cX5_number 14 = .ok (.iload_n 3, 1) := by decide +kernel
theorem dX5_number_15 : decode cX5_number 15 = .ok (.imul, 1) := by decide +kernel
theorem dX5_number_16 : decode cX5_number 16 = .ok (.aload_n 0, 1) := by decide +kernel
theorem dX5_number_17 : decode cX5_number 17 = .ok (.iload_n 1, 1) := by decide +kernel
theorem dX5_number_18 : decode cX5_number 18 = .ok (.iload 4, 2) := by decide +kernel
theorem dX5_number_20 : decode cX5_number 20 = .ok (.iadd, 1) := by decide +kernel
theorem dX5_number_21 : decode cX5_number 21 = .ok (.iaload, 1) := by decide +kernel
theorem dX5_number_22 : decode cX5_number 22 = .ok (.iadd, 1) := by decide +kernel
theorem dX5_number_23 : decode cX5_number 23 = .ok (.istore_n 3, 1) := by decide +kernel
theorem dX5_number_24 : decode cX5_number 24 = .ok (.iinc 4 (-1), 3) := by decide +kernel
theorem dX5_number_27 : decode cX5_number 27 = .ok (.goto (-20), 3) := by decide +kernel
theorem dX5_number_30 : decode cX5_number 30 = .ok (.iload_n 3, 1) := by decide +kernel
theorem dX5_number_31 : decode cX5_number 31 = .ok (.ireturn, 1) := by decide +kernel
theorem dX5_putInput_0 : decode cX5_putInput 0 = .ok (.iload_n 1, 1) := by decide +kernel
theorem dX5_putInput_1 : decode cX5_putInput 1 = .ok (.i2l, 1) := by decide +kernel
theorem dX5_putInput_2 : decode cX5_putInput 2 = .ok (.lconst 0, 1) := by decide +kernel
theorem dX5_putInput_3 : decode cX5_putInput 3 = .ok (.ldc2_w 77, 3) := by decide +kernel
theorem dX5_putInput_6 : decode cX5_putInput 6 = .ok (.invokestatic 53, 3) := by decide +kernel
theorem dX5_putInput_9 : decode cX5_putInput 9 = .ok (.ifCond .ne 6, 3) := by decide +kernel
theorem dX5_putInput_12 : decode cX5_putInput 12 = .ok (.bipush (-2), 2) := by decide +kernel
theorem dX5_putInput_14 : decode cX5_putInput 14 = .ok (.ireturn, 1) := by decide +kernel
theorem dX5_putInput_15 : decode cX5_putInput 15 = .ok (.aload_n 0, 1) := by decide +kernel
theorem dX5_putInput_16 : decode cX5_putInput 16 = .ok (.getfield 7, 3) := by decide +kernel
theorem dX5_putInput_19 : decode cX5_putInput 19 = .ok (.iconst 0, 1) := by decide +kernel
theorem dX5_putInput_20 : decode cX5_putInput 20 = .ok (.bipush 6, 2) := by decide +kernel
theorem dX5_putInput_22 : decode cX5_putInput 22 = .ok (.invokestatic 106, 3) := by decide +kernel
theorem dX5_putInput_25 : decode cX5_putInput 25 = .ok (.istore_n 2, 1) := by decide +kernel
theorem dX5_putInput_26 : decode cX5_putInput 26 = .ok (.iload_n 1, 1) := by decide +kernel
theorem dX5_putInput_27 : decode cX5_putInput 27 = .ok (.istore_n 3, 1) := by decide +kernel
theorem dX5_putInput_28 : decode cX5_putInput 28 = .ok (.iconst 0, 1) := by decide +kernel
theorem dX5_putInput_29 : decode cX5_putInput 29 = .ok (.istore 4, 2) := by decide +kernel
theorem dX5_putInput_31 : decode cX5_putInput 31 = .ok (.iload 4, 2) := by decide +kernel
theorem dX5_putInput_33 : decode cX5_putInput 33 = .ok (.bipush 6, 2) := by decide +kernel
theorem dX5_putInput_35 : decode cX5_putInput 35 = .ok (.if_icmp .ge 27, 3) := by decide +kernel
theorem dX5_putInput_38 : decode cX5_putInput 38 = .ok (.aload_n 0, 1) := by decide +kernel
theorem dX5_putInput_39 : decode cX5_putInput 39 = .ok (.getfield 7, 3) := by decide +kernel
theorem dX5_putInput_42 : decode cX5_putInput 42 = .ok (.iconst 0, 1) := by decide +kernel
theorem dX5_putInput_43 : decode cX5_putInput 43 = .ok (.iload 4, 2) := by decide +kernel
theorem dX5_putInput_45 : decode cX5_putInput 45 = .ok (.iadd, 1) := by decide +kernel
theorem dX5_putInput_46 : decode cX5_putInput 46 = .ok (.iload_n 3, 1) := by decide +kernel
theorem dX5_putInput_47 : decode cX5_putInput 47 = .ok (.bipush 10, 2) := by decide +kernel
theorem dX5_putInput_49 : decode cX5_putInput 49 = .ok (.irem, 1) := by decide +kernel
theorem dX5_putInput_50 : decode cX5_putInput 50 = .ok (.iastore, 1) := by decide +kernel
theorem dX5_putInput_51 : decode cX5_putInput 51 = .ok (.iload_n 3, 1) := by decide +kernel
theorem dX5_putInput_52 : decode cX5_putInput 52 = .ok (.bipush 10, 2) := by decide +kernel
theorem dX5_putInput_54 : decode cX5_putInput 54 = .ok (.idiv, 1) := by decide +kernel
theorem dX5_putInput_55 : decode cX5_putInput 55 = .ok (.istore_n 3, 1) := by decide +kernel
theorem dX5_putInput_56 : decode cX5_putInput 56 = .ok (.iinc 4 1, 3) := by decide +kernel
theorem dX5_putInput_59 : decode cX5_putInput 59 = .ok (.goto (-28), 3) := by decide +kernel
theorem dX5_putInput_62 : decode cX5_putInput 62 = .ok (.iload_n 2, 1) := by decide +kernel
theorem dX5_putInput_63 : decode cX5_putInput 63 = .ok (.ireturn, 1) := by decide +kernel
theorem dX5_putWheels_0 : decode cX5_putWheels 0 = .ok (.lload_n 1, 1) := by decide +kernel
theorem dX5_putWheels_1 : decode cX5_putWheels 1 = .ok (.lconst 0, 1) := by decide +kernel
theorem dX5_putWheels_2 : decode cX5_putWheels 2 = .ok (.ldc2_w 110, 3) := by decide +kernel
theorem dX5_putWheels_5 : decode cX5_putWheels 5 = .ok (.invokestatic 53, 3) := by decide +kernel
theorem dX5_putWheels_8 : decode cX5_putWheels 8 = .ok (.ifCond .ne 6, 3) := by decide +kernel
theorem dX5_putWheels_11 : decode cX5_putWheels 11 = .ok (.bipush (-2), 2) := by decide +kernel
theorem dX5_putWheels_13 : decode cX5_putWheels 13 = .ok (.ireturn, 1) := by decide +kernel
theorem dX5_putWheels_14 : decode cX5_putWheels 14 = .ok (.lload_n 1, 1) := by decide +kernel
theorem dX5_putWheels_15 : decode cX5_putWheels 15 = .ok (.lstore_n 3, 1) := by decide +kernel
theorem dX5_putWheels_16 : decode cX5_putWheels 16 = .ok (.iconst 0, 1) := by decide +kernel
theorem dX5_putWheels_17 : decode cX5_putWheels 17 = .ok (.istore 5, 2) := by decide +kernel
theorem dX5_putWheels_19 : decode cX5_putWheels 19 = .ok (.iconst 0, 1) := by decide +kernel
theorem dX5_putWheels_20 : decode cX5_putWheels 20 = .ok (.istore 6, 2) := by decide +kernel
theorem dX5_putWheels_22 : decode cX5_putWheels 22 = .ok (.iload 6, 2) := by decide +kernel
theorem dX5_putWheels_24 : decode cX5_putWheels 24 = .ok (.bipush 12, 2) := by decide +kernel
theorem dX5_putWheels_26 : decode cX5_putWheels 26 = .ok (.if_icmp .ge 60, 3) := by decide +kernel
theorem dX5_putWheels_29 : decode cX5_putWheels 29 = .ok (.lload_n 3, 1) := by decide +kernel
theorem dX5_putWheels_30 : decode cX5_putWheels 30 = .ok (.ldc2_w 112, 3) := by decide +kernel
theorem dX5_putWheels_33 : decode cX5_putWheels 33 = .ok (.lrem, 1) := by decide +kernel
theorem dX5_putWheels_34 : decode cX5_putWheels 34 = .ok (.l2i, 1) := by decide +kernel
theorem dX5_putWheels_35 : decode cX5_putWheels 35 = .ok (.istore 7, 2) := by decide +kernel
theorem dX5_putWheels_37 : decode cX5_putWheels 37 = .ok (.iload 5, 2) := by decide +kernel
theorem dX5_putWheels_39 : decode cX5_putWheels 39 = .ok (.aload_n 0, 1) := by decide +kernel
theorem dX5_putWheels_40 : decode cX5_putWheels 40 = .ok (.getfield 7, 3) := by decide +kernel
theorem dX5_putWheels_43 : decode cX5_putWheels 43 = .ok (.bipush 12, 2) := by decide +kernel
theorem dX5_putWheels_45 : decode cX5_putWheels 45 = .ok (.iload 6, 2) := by decide +kernel
theorem dX5_putWheels_47 : decode cX5_putWheels 47 = .ok (.iadd, 1) := by decide +kernel
theorem dX5_putWheels_48 : decode cX5_putWheels 48 = .ok (.iaload, 1) := by decide +kernel
theorem dX5_putWheels_49 : decode cX5_putWheels 49 = .ok (.iload 7, 2) := by decide +kernel
theorem dX5_putWheels_51 : decode cX5_putWheels 51 = .ok (.if_icmp .eq 7, 3) := by decide +kernel
theorem dX5_putWheels_54 : decode cX5_putWheels 54 = .ok (.iconst 1, 1) := by decide +kernel
theorem dX5_putWheels_55 : decode cX5_putWheels 55 = .ok (.goto 4, 3) := by decide +kernel
theorem dX5_putWheels_58 : decode cX5_putWheels 58 = .ok (.iconst 0, 1) := by decide +kernel
theorem dX5_putWheels_59 : decode cX5_putWheels 59 = .ok (.iadd, 1) := by decide +kernel
theorem dX5_putWheels_60 : decode cX5_putWheels 60 = .ok (.istore 5, 2) := by decide +kernel
theorem dX5_putWheels_62 : decode cX5_putWheels 62 = .ok (.aload_n 0, 1) := by decide +kernel
theorem dX5_putWheels_63 : decode cX5_putWheels 63 = .ok (.getfield 7, 3) := by decide +kernel
theorem dX5_putWheels_66 : decode cX5_putWheels 66 = .ok (.bipush 12, 2) := by decide +kernel
theorem dX5_putWheels_68 : decode cX5_putWheels 68 = .ok (.iload 6, 2) := by decide +kernel
theorem dX5_putWheels_70 : decode cX5_putWheels 70 = .ok (.iadd, 1) := by decide +kernel
theorem dX5_putWheels_71 : decode cX5_putWheels 71 = .ok (.iload 7, 2) := by decide +kernel
theorem dX5_putWheels_73 : decode cX5_putWheels 73 = .ok (.iastore, 1) := by decide +kernel
theorem dX5_putWheels_74 : decode cX5_putWheels 74 = .ok (.lload_n 3, 1) := by decide +kernel
theorem dX5_putWheels_75 : decode cX5_putWheels 75 = .ok (.ldc2_w 112, 3) := by decide +kernel
theorem dX5_putWheels_78 : decode cX5_putWheels 78 = .ok (.ldiv, 1) := by decide +kernel
theorem dX5_putWheels_79 : decode cX5_putWheels 79 = .ok (.lstore_n 3, 1) := by decide +kernel
theorem dX5_putWheels_80 : decode cX5_putWheels 80 = .ok (.iinc 6 1, 3) := by decide +kernel
theorem dX5_putWheels_83 : decode cX5_putWheels 83 = .ok (.goto (-61), 3) := by decide +kernel
theorem dX5_putWheels_86 : decode cX5_putWheels 86 = .ok (.iload 5, 2) := by decide +kernel
theorem dX5_putWheels_88 : decode cX5_putWheels 88 = .ok (.ireturn, 1) := by decide +kernel
theorem dX5_sets_0 : decode cX5_sets 0 = .ok (.aload_n 0, 1) := by decide +kernel
theorem dX5_sets_1 : decode cX5_sets 1 = .ok (.invokevirtual 114, 3) := by decide +kernel
theorem dX5_sets_4 : decode cX5_sets 4 = .ok (.aload_n 0, 1) := by decide +kernel
theorem dX5_sets_5 : decode cX5_sets 5 = .ok (.aload_n 0, 1) := by decide +kernel
theorem dX5_sets_6 : decode cX5_sets 6 = .ok (.iload_n 1, 1) := by decide +kernel
theorem dX5_sets_7 : decode cX5_sets 7 = .ok (.iload_n 2, 1) := by decide +kernel
theorem dX5_sets_8 : decode cX5_sets 8 = .ok (.invokevirtual 117, 3) := by decide +kernel
theorem dX5_sets_11 : decode cX5_sets 11 = .ok (.invokevirtual 120, 3) := by decide +kernel
theorem dX5_sets_14 : decode cX5_sets 14 = .ok (.ireturn, 1) := by decide +kernel
theorem dX5_input_0 : decode cX5_input 0 = .ok (.aload_n 0, 1) := by decide +kernel
theorem dX5_input_1 : decode cX5_input 1 = .ok (.invokevirtual 114, 3) := by decide +kernel
theorem dX5_input_4 : decode cX5_input 4 = .ok (.aload_n 0, 1) := by decide +kernel
theorem dX5_input_5 : decode cX5_input 5 = .ok (.aload_n 0, 1) := by decide +kernel
theorem dX5_input_6 : decode cX5_input 6 = .ok (.iload_n 1, 1) := by decide +kernel
theorem dX5_input_7 : decode cX5_input 7 = .ok (.invokevirtual 123, 3) := by decide +kernel
theorem dX5_input_10 : decode cX5_input 10 = .ok (.invokevirtual 120, 3) := by decide +kernel
theorem dX5_input_13 : decode cX5_input 13 = .ok (.ireturn, 1) := by decide +kernel
theorem dX5_shifts_0 : decode cX5_shifts 0 = .ok (.aload_n 0, 1) := by decide +kernel
theorem dX5_shifts_1 : decode cX5_shifts 1 = .ok (.invokevirtual 114, 3) := by decide +kernel
theorem dX5_shifts_4 : decode cX5_shifts 4 = .ok (.aload_n 0, 1) := by decide +kernel
theorem dX5_shifts_5 : decode cX5_shifts 5 = .ok (.aload_n 0, 1) := by decide +kernel
theorem dX5_shifts_6 : decode cX5_shifts 6 = .ok (.iload_n 1, 1) := by decide +kernel
theorem dX5_shifts_7 : decode cX5_shifts 7 = .ok (.invokevirtual 126, 3) := by decide +kernel
theorem dX5_shifts_10 : decode cX5_shifts 10 = .ok (.invokevirtual 120, 3) := by decide +kernel
theorem dX5_shifts_13 : decode cX5_shifts 13 = .ok (.ireturn, 1) := by decide +kernel
theorem dX5_reaches_0 : decode cX5_reaches 0 = .ok (.aload_n 0, 1) := by decide +kernel
theorem dX5_reaches_1 : decode cX5_reaches 1 = .ok (.invokevirtual 114, 3) := by decide +kernel
theorem dX5_reaches_4 : decode cX5_reaches 4 = .ok (.aload_n 0, 1) := by decide +kernel
theorem dX5_reaches_5 : decode cX5_reaches 5 = .ok (.aload_n 0, 1) := by decide +kernel
theorem dX5_reaches_6 : decode cX5_reaches 6 = .ok (.iload_n 1, 1) := by decide +kernel
theorem dX5_reaches_7 : decode cX5_reaches 7 = .ok (.invokevirtual 129, 3) := by decide +kernel
theorem dX5_reaches_10 : decode cX5_reaches 10 = .ok (.invokevirtual 120, 3) := by decide +kernel
theorem dX5_reaches_13 : decode cX5_reaches 13 = .ok (.ireturn, 1) := by decide +kernel
theorem dX5_wears_0 : decode cX5_wears 0 = .ok (.aload_n 0, 1) := by decide +kernel
theorem dX5_wears_1 : decode cX5_wears 1 = .ok (.invokevirtual 114, 3) := by decide +kernel
theorem dX5_wears_4 : decode cX5_wears 4 = .ok (.aload_n 0, 1) := by decide +kernel
theorem dX5_wears_5 : decode cX5_wears 5 = .ok (.aload_n 0, 1) := by decide +kernel
theorem dX5_wears_6 : decode cX5_wears 6 = .ok (.iload_n 1, 1) := by decide +kernel
theorem dX5_wears_7 : decode cX5_wears 7 = .ok (.iload_n 2, 1) := by decide +kernel
theorem dX5_wears_8 : decode cX5_wears 8 = .ok (.invokevirtual 132, 3) := by decide +kernel
theorem dX5_wears_11 : decode cX5_wears 11 = .ok (.invokevirtual 120, 3) := by decide +kernel
theorem dX5_wears_14 : decode cX5_wears 14 = .ok (.ireturn, 1) := by decide +kernel
theorem dX5_clears_0 : decode cX5_clears 0 = .ok (.aload_n 0, 1) := by decide +kernel
theorem dX5_clears_1 : decode cX5_clears 1 = .ok (.invokevirtual 114, 3) := by decide +kernel
theorem dX5_clears_4 : decode cX5_clears 4 = .ok (.aload_n 0, 1) := by decide +kernel
theorem dX5_clears_5 : decode cX5_clears 5 = .ok (.aload_n 0, 1) := by decide +kernel
theorem dX5_clears_6 : decode cX5_clears 6 = .ok (.invokevirtual 79, 3) := by decide +kernel
theorem dX5_clears_9 : decode cX5_clears 9 = .ok (.invokevirtual 120, 3) := by decide +kernel
theorem dX5_clears_12 : decode cX5_clears 12 = .ok (.ireturn, 1) := by decide +kernel
theorem dX5_lays_0 : decode cX5_lays 0 = .ok (.aload_n 0, 1) := by decide +kernel
theorem dX5_lays_1 : decode cX5_lays 1 = .ok (.invokevirtual 114, 3) := by decide +kernel
theorem dX5_lays_4 : decode cX5_lays 4 = .ok (.aload_n 0, 1) := by decide +kernel
theorem dX5_lays_5 : decode cX5_lays 5 = .ok (.aload_n 0, 1) := by decide +kernel
theorem dX5_lays_6 : decode cX5_lays 6 = .ok (.lload_n 1, 1) := by decide +kernel
theorem dX5_lays_7 : decode cX5_lays 7 = .ok (.invokevirtual 135, 3) := by decide +kernel
theorem dX5_lays_10 : decode cX5_lays 10 = .ok (.invokevirtual 120, 3) := by decide +kernel
theorem dX5_lays_13 : decode cX5_lays 13 = .ok (.ireturn, 1) := by decide +kernel
theorem dX5_ups_0 : decode cX5_ups 0 = .ok (.aload_n 0, 1) := by decide +kernel
theorem dX5_ups_1 : decode cX5_ups 1 = .ok (.invokevirtual 114, 3) := by decide +kernel
theorem dX5_ups_4 : decode cX5_ups 4 = .ok (.aload_n 0, 1) := by decide +kernel
theorem dX5_ups_5 : decode cX5_ups 5 = .ok (.aload_n 0, 1) := by decide +kernel
theorem dX5_ups_6 : decode cX5_ups 6 = .ok (.iload_n 1, 1) := by decide +kernel
theorem dX5_ups_7 : decode cX5_ups 7 = .ok (.iconst 1, 1) := by decide +kernel
theorem dX5_ups_8 : decode cX5_ups 8 = .ok (.invokevirtual 139, 3) := by decide +kernel
theorem dX5_ups_11 : decode cX5_ups 11 = .ok (.invokevirtual 120, 3) := by decide +kernel
theorem dX5_ups_14 : decode cX5_ups 14 = .ok (.ireturn, 1) := by decide +kernel
theorem dX5_downs_0 : decode cX5_downs 0 = .ok (.aload_n 0, 1) := by decide +kernel
theorem dX5_downs_1 : decode cX5_downs 1 = .ok (.invokevirtual 114, 3) := by decide +kernel
theorem dX5_downs_4 : decode cX5_downs 4 = .ok (.aload_n 0, 1) := by decide +kernel
theorem dX5_downs_5 : decode cX5_downs 5 = .ok (.aload_n 0, 1) := by decide +kernel
theorem dX5_downs_6 : decode cX5_downs 6 = .ok (.iload_n 1, 1) := by decide +kernel
theorem dX5_downs_7 : decode cX5_downs 7 = .ok (.iconst (-1), 1) := by decide +kernel
theorem dX5_downs_8 : decode cX5_downs 8 = .ok (.invokevirtual 139, 3) := by decide +kernel
theorem dX5_downs_11 : decode cX5_downs 11 = .ok (.invokevirtual 120, 3) := by decide +kernel
theorem dX5_downs_14 : decode cX5_downs 14 = .ok (.ireturn, 1) := by decide +kernel
theorem dX5_times_0 : decode cX5_times 0 = .ok (.aload_n 0, 1) := by decide +kernel
theorem dX5_times_1 : decode cX5_times 1 = .ok (.invokevirtual 114, 3) := by decide +kernel
theorem dX5_times_4 : decode cX5_times 4 = .ok (.aload_n 0, 1) := by decide +kernel
theorem dX5_times_5 : decode cX5_times 5 = .ok (.aload_n 0, 1) := by decide +kernel
theorem dX5_times_6 : decode cX5_times 6 = .ok (.iload_n 1, 1) := by decide +kernel
theorem dX5_times_7 : decode cX5_times 7 = .ok (.iload_n 2, 1) := by decide +kernel
theorem dX5_times_8 : decode cX5_times 8 = .ok (.invokevirtual 142, 3) := by decide +kernel
theorem dX5_times_11 : decode cX5_times 11 = .ok (.invokevirtual 120, 3) := by decide +kernel
theorem dX5_times_14 : decode cX5_times 14 = .ok (.ireturn, 1) := by decide +kernel
theorem dX5_divides_0 : decode cX5_divides 0 = .ok (.aload_n 0, 1) := by decide +kernel
theorem dX5_divides_1 : decode cX5_divides 1 = .ok (.invokevirtual 114, 3) := by decide +kernel
theorem dX5_divides_4 : decode cX5_divides 4 = .ok (.aload_n 0, 1) := by decide +kernel
theorem dX5_divides_5 : decode cX5_divides 5 = .ok (.invokevirtual 145, 3) := by decide +kernel
theorem dX5_divides_8 : decode cX5_divides 8 = .ok (.istore_n 1, 1) := by decide +kernel
theorem dX5_divides_9 : decode cX5_divides 9 = .ok (.iload_n 1, 1) := by decide +kernel
theorem dX5_divides_10 : decode cX5_divides 10 = .ok (.bipush (-3), 2) := by decide +kernel
theorem dX5_divides_12 : decode cX5_divides 12 = .ok (.if_icmp .ne 7, 3) := by decide +kernel
theorem dX5_divides_15 : decode cX5_divides 15 = .ok (.aload_n 0, 1) := by decide +kernel
theorem dX5_divides_16 : decode cX5_divides 16 = .ok (.invokevirtual 148, 3) := by decide +kernel
theorem dX5_divides_19 : decode cX5_divides 19 = .ok (.aload_n 0, 1) := by decide +kernel
theorem dX5_divides_20 : decode cX5_divides 20 = .ok (.iload_n 1, 1) := by decide +kernel
theorem dX5_divides_21 : decode cX5_divides 21 = .ok (.invokevirtual 120, 3) := by decide +kernel
theorem dX5_divides_24 : decode cX5_divides 24 = .ok (.ireturn, 1) := by decide +kernel
theorem dX5_turns_0 : decode cX5_turns 0 = .ok (.iload_n 1, 1) := by decide +kernel
theorem dX5_turns_1 : decode cX5_turns 1 = .ok (.i2l, 1) := by decide +kernel
theorem dX5_turns_2 : decode cX5_turns 2 = .ok (.lconst 0, 1) := by decide +kernel
theorem dX5_turns_3 : decode cX5_turns 3 = .ok (.ldc2_w 77, 3) := by decide +kernel
theorem dX5_turns_6 : decode cX5_turns 6 = .ok (.invokestatic 53, 3) := by decide +kernel
theorem dX5_turns_9 : decode cX5_turns 9 = .ok (.ifCond .eq 22, 3) := by decide +kernel
theorem dX5_turns_12 : decode cX5_turns 12 = .ok (.iload_n 2, 1) := by decide +kernel
theorem dX5_turns_13 : decode cX5_turns 13 = .ok (.i2l, 1) := by decide +kernel
theorem dX5_turns_14 : decode cX5_turns 14 = .ok (.lconst 0, 1) := by decide +kernel
theorem dX5_turns_15 : decode cX5_turns 15 = .ok (.lconst 1, 1) := by decide +kernel
theorem dX5_turns_16 : decode cX5_turns 16 = .ok (.invokestatic 53, 3) := by decide +kernel
theorem dX5_turns_19 : decode cX5_turns 19 = .ok (.ifCond .eq 12, 3) := by decide +kernel
theorem dX5_turns_22 : decode cX5_turns 22 = .ok (.aload_n 0, 1) := by decide +kernel
theorem dX5_turns_23 : decode cX5_turns 23 = .ok (.iload_n 1, 1) := by decide +kernel
theorem dX5_turns_24 : decode cX5_turns 24 = .ok (.iload_n 2, 1) := by decide +kernel
theorem dX5_turns_25 : decode cX5_turns 25 = .ok (.invokevirtual 83, 3) := by decide +kernel
theorem dX5_turns_28 : decode cX5_turns 28 = .ok (.goto 9, 3) := by decide +kernel
theorem dX5_turns_31 : decode cX5_turns 31 = .ok (.aload_n 0, 1) := by decide +kernel
theorem dX5_turns_32 : decode cX5_turns 32 = .ok (.bipush (-2), 2) := by decide +kernel
theorem dX5_turns_34 : decode cX5_turns 34 = .ok (.invokevirtual 44, 3) := by decide +kernel
theorem dX5_turns_37 : decode cX5_turns 37 = .ok (.ireturn, 1) := by decide +kernel
theorem dX5_drumTold_0 : decode cX5_drumTold 0 = .ok (.iload_n 2, 1) := by decide +kernel
theorem dX5_drumTold_1 : decode cX5_drumTold 1 = .ok (.ifCond .ne 14, 3) := by decide +kernel
theorem dX5_drumTold_4 : decode cX5_drumTold 4 = .ok (.aload_n 0, 1) := by decide +kernel
theorem dX5_drumTold_5 : decode cX5_drumTold 5 = .ok (.getfield 7, 3) := by decide +kernel
theorem dX5_drumTold_8 : decode cX5_drumTold 8 = .ok (.iconst 0, 1) := by decide +kernel
theorem dX5_drumTold_9 : decode cX5_drumTold 9 = .ok (.iload_n 1, 1) := by decide +kernel
theorem dX5_drumTold_10 : decode cX5_drumTold 10 = .ok (.iadd, 1) := by decide +kernel
theorem dX5_drumTold_11 : decode cX5_drumTold 11 = .ok (.iaload, 1) := by decide +kernel
theorem dX5_drumTold_12 : decode cX5_drumTold 12 = .ok (.goto 40, 3) := by decide +kernel
theorem dX5_drumTold_15 : decode cX5_drumTold 15 = .ok (.iload_n 2, 1) := by decide +kernel
theorem dX5_drumTold_16 : decode cX5_drumTold 16 = .ok (.iconst 1, 1) := by decide +kernel
theorem dX5_drumTold_17 : decode cX5_drumTold 17 = .ok (.if_icmp .ne 26, 3) := by decide +kernel
theorem dX5_drumTold_20 : decode cX5_drumTold 20 = .ok (.aload_n 0, 1) := by decide +kernel
theorem dX5_drumTold_21 : decode cX5_drumTold 21 = .ok (.getfield 7, 3) := by decide +kernel
theorem dX5_drumTold_24 : decode cX5_drumTold 24 = .ok (.iconst 0, 1) := by decide +kernel
theorem dX5_drumTold_25 : decode cX5_drumTold 25 = .ok (.iload_n 1, 1) := by decide +kernel
theorem dX5_drumTold_26 : decode cX5_drumTold 26 = .ok (.iadd, 1) := by decide +kernel
theorem dX5_drumTold_27 : decode cX5_drumTold 27 = .ok (.iaload, 1) := by decide +kernel
theorem dX5_drumTold_28 : decode cX5_drumTold 28 = .ok (.aload_n 0, 1) := by decide +kernel
theorem dX5_drumTold_29 : decode cX5_drumTold 29 = .ok (.getfield 7, 3) := by decide +kernel
theorem dX5_drumTold_32 : decode cX5_drumTold 32 = .ok (.bipush 6, 2) := by decide +kernel
theorem dX5_drumTold_34 : decode cX5_drumTold 34 = .ok (.iload_n 1, 1) := by decide +kernel
theorem dX5_drumTold_35 : decode cX5_drumTold 35 = .ok (.iadd, 1) := by decide +kernel
theorem dX5_drumTold_36 : decode cX5_drumTold 36 = .ok (.iaload, 1) := by decide +kernel
theorem dX5_drumTold_37 : decode cX5_drumTold 37 = .ok (.invokestatic 57, 3) := by decide +kernel
theorem dX5_drumTold_40 : decode cX5_drumTold 40 = .ok (.goto 12, 3) := by decide +kernel
theorem dX5_drumTold_43 : decode cX5_drumTold 43 = .ok (.aload_n 0, 1) := by decide +kernel
theorem dX5_drumTold_44 : decode cX5_drumTold 44 = .ok (.getfield 7, 3) := by decide +kernel
theorem dX5_drumTold_47 : decode cX5_drumTold 47 = .ok (.bipush 6, 2) := by decide +kernel
theorem dX5_drumTold_49 : decode cX5_drumTold 49 = .ok (.iload_n 1, 1) := by decide +kernel
theorem dX5_drumTold_50 : decode cX5_drumTold 50 = .ok (.iadd, 1) := by decide +kernel
theorem dX5_drumTold_51 : decode cX5_drumTold 51 = .ok (.iaload, 1) := by decide +kernel
theorem dX5_drumTold_52 : decode cX5_drumTold 52 = .ok (.ireturn, 1) := by decide +kernel
theorem dX5_drum_0 : decode cX5_drum 0 = .ok (.iload_n 1, 1) := by decide +kernel
theorem dX5_drum_1 : decode cX5_drum 1 = .ok (.invokestatic 90, 3) := by decide +kernel
theorem dX5_drum_4 : decode cX5_drum 4 = .ok (.ifCond .eq 24, 3) := by decide +kernel
theorem dX5_drum_7 : decode cX5_drum 7 = .ok (.iload_n 2, 1) := by decide +kernel
theorem dX5_drum_8 : decode cX5_drum 8 = .ok (.i2l, 1) := by decide +kernel
theorem dX5_drum_9 : decode cX5_drum 9 = .ok (.lconst 0, 1) := by decide +kernel
theorem dX5_drum_10 : decode cX5_drum 10 = .ok (.ldc2_w 151, 3) := by decide +kernel
theorem dX5_drum_13 : decode cX5_drum 13 = .ok (.invokestatic 53, 3) := by decide +kernel
theorem dX5_drum_16 : decode cX5_drum 16 = .ok (.ifCond .eq 12, 3) := by decide +kernel
theorem dX5_drum_19 : decode cX5_drum 19 = .ok (.aload_n 0, 1) := by decide +kernel
theorem dX5_drum_20 : decode cX5_drum 20 = .ok (.iload_n 1, 1) := by decide +kernel
theorem dX5_drum_21 : decode cX5_drum 21 = .ok (.iload_n 2, 1) := by decide +kernel
theorem dX5_drum_22 : decode cX5_drum 22 = .ok (.invokevirtual 153, 3) := by decide +kernel
theorem dX5_drum_25 : decode cX5_drum 25 = .ok (.goto 9, 3) := by decide +kernel
theorem dX5_drum_28 : decode cX5_drum 28 = .ok (.aload_n 0, 1) := by decide +kernel
theorem dX5_drum_29 : decode cX5_drum 29 = .ok (.bipush (-2), 2) := by decide +kernel
theorem dX5_drum_31 : decode cX5_drum 31 = .ok (.invokevirtual 44, 3) := by decide +kernel
theorem dX5_drum_34 : decode cX5_drum 34 = .ok (.ireturn, 1) := by decide +kernel
theorem dX5_wheel_0 : decode cX5_wheel 0 = .ok (.iload_n 1, 1) := by decide +kernel
theorem dX5_wheel_1 : decode cX5_wheel 1 = .ok (.i2l, 1) := by decide +kernel
theorem dX5_wheel_2 : decode cX5_wheel 2 = .ok (.lconst 0, 1) := by decide +kernel
theorem dX5_wheel_3 : decode cX5_wheel 3 = .ok (.ldc2_w 156, 3) := by decide +kernel
theorem dX5_wheel_6 : decode cX5_wheel 6 = .ok (.invokestatic 53, 3) := by decide +kernel
theorem dX5_wheel_9 : decode cX5_wheel 9 = .ok (.ifCond .eq 15, 3) := by decide +kernel
theorem dX5_wheel_12 : decode cX5_wheel 12 = .ok (.aload_n 0, 1) := by decide +kernel
theorem dX5_wheel_13 : decode cX5_wheel 13 = .ok (.getfield 7, 3) := by decide +kernel
theorem dX5_wheel_16 : decode cX5_wheel 16 = .ok (.bipush 12, 2) := by decide +kernel
theorem dX5_wheel_18 : decode cX5_wheel 18 = .ok (.iload_n 1, 1) := by decide +kernel
theorem dX5_wheel_19 : decode cX5_wheel 19 = .ok (.iadd, 1) := by decide +kernel
theorem dX5_wheel_20 : decode cX5_wheel 20 = .ok (.iaload, 1) := by decide +kernel
theorem dX5_wheel_21 : decode cX5_wheel 21 = .ok (.goto 9, 3) := by decide +kernel
theorem dX5_wheel_24 : decode cX5_wheel 24 = .ok (.aload_n 0, 1) := by decide +kernel
theorem dX5_wheel_25 : decode cX5_wheel 25 = .ok (.bipush (-2), 2) := by decide +kernel
theorem dX5_wheel_27 : decode cX5_wheel 27 = .ok (.invokevirtual 44, 3) := by decide +kernel
theorem dX5_wheel_30 : decode cX5_wheel 30 = .ok (.ireturn, 1) := by decide +kernel
theorem dX5_valueOf_0 : decode cX5_valueOf 0 = .ok (.lconst 0, 1) := by decide +kernel
theorem dX5_valueOf_1 : decode cX5_valueOf 1 = .ok (.lstore_n 2, 1) := by decide +kernel
theorem dX5_valueOf_2 : decode cX5_valueOf 2 = .ok (.bipush 11, 2) := by decide +kernel
theorem dX5_valueOf_4 : decode cX5_valueOf 4 = .ok (.istore 4, 2) := by decide +kernel
theorem dX5_valueOf_6 : decode cX5_valueOf 6 = .ok (.iload 4, 2) := by decide +kernel
theorem dX5_valueOf_8 : decode cX5_valueOf 8 = .ok (.ifCond .lt 23, 3) := by decide +kernel
theorem dX5_valueOf_11 : decode cX5_valueOf 11 = .ok (.ldc2_w 112, 3) := by decide +kernel
theorem dX5_valueOf_14 : decode cX5_valueOf 14 = .ok (.lload_n 2, 1) := by decide +kernel
theorem dX5_valueOf_15 : decode cX5_valueOf 15 = .ok (.lmul, 1) := by decide +kernel
theorem dX5_valueOf_16 : decode cX5_valueOf 16 = .ok (.aload_n 0, 1) := by decide +kernel
theorem dX5_valueOf_17 : decode cX5_valueOf 17 = .ok (.iload_n 1, 1) := by decide +kernel
theorem dX5_valueOf_18 : decode cX5_valueOf 18 = .ok (.iload 4, 2) := by decide +kernel
theorem dX5_valueOf_20 : decode cX5_valueOf 20 = .ok (.iadd, 1) := by decide +kernel
theorem dX5_valueOf_21 : decode cX5_valueOf 21 = .ok (.iaload, 1) := by decide +kernel
theorem dX5_valueOf_22 : decode cX5_valueOf 22 = .ok (.i2l, 1) := by decide +kernel
theorem dX5_valueOf_23 : decode cX5_valueOf 23 = .ok (.ladd, 1) := by decide +kernel
theorem dX5_valueOf_24 : decode cX5_valueOf 24 = .ok (.lstore_n 2, 1) := by decide +kernel
theorem dX5_valueOf_25 : decode cX5_valueOf 25 = .ok (.iinc 4 (-1), 3) := by decide +kernel
theorem dX5_valueOf_28 : decode cX5_valueOf 28 = .ok (.goto (-22), 3) := by decide +kernel
theorem dX5_valueOf_31 : decode cX5_valueOf 31 = .ok (.lload_n 2, 1) := by decide +kernel
theorem dX5_valueOf_32 : decode cX5_valueOf 32 = .ok (.lreturn, 1) := by decide +kernel
theorem dX5_value_0 : decode cX5_value 0 = .ok (.aload_n 0, 1) := by decide +kernel
theorem dX5_value_1 : decode cX5_value 1 = .ok (.getfield 7, 3) := by decide +kernel
theorem dX5_value_4 : decode cX5_value 4 = .ok (.bipush 12, 2) := by decide +kernel
theorem dX5_value_6 : decode cX5_value 6 = .ok (.invokestatic 158, 3) := by decide +kernel
theorem dX5_value_9 : decode cX5_value 9 = .ok (.lreturn, 1) := by decide +kernel
theorem dX5_counter_0 : decode cX5_counter 0 = .ok (.iload_n 1, 1) := by decide +kernel
theorem dX5_counter_1 : decode cX5_counter 1 = .ok (.i2l, 1) := by decide +kernel
theorem dX5_counter_2 : decode cX5_counter 2 = .ok (.lconst 0, 1) := by decide +kernel
theorem dX5_counter_3 : decode cX5_counter 3 = .ok (.ldc2_w 99, 3) := by decide +kernel
theorem dX5_counter_6 : decode cX5_counter 6 = .ok (.invokestatic 53, 3) := by decide +kernel
theorem dX5_counter_9 : decode cX5_counter 9 = .ok (.ifCond .eq 15, 3) := by decide +kernel
theorem dX5_counter_12 : decode cX5_counter 12 = .ok (.aload_n 0, 1) := by decide +kernel
theorem dX5_counter_13 : decode cX5_counter 13 = .ok (.getfield 7, 3) := by decide +kernel
theorem dX5_counter_16 : decode cX5_counter 16 = .ok (.bipush 24, 2) := by decide +kernel
theorem dX5_counter_18 : decode cX5_counter 18 = .ok (.iload_n 1, 1) := by decide +kernel
theorem dX5_counter_19 : decode cX5_counter 19 = .ok (.iadd, 1) := by decide +kernel
theorem dX5_counter_20 : decode cX5_counter 20 = .ok (.iaload, 1) := by decide +kernel
theorem dX5_counter_21 : decode cX5_counter 21 = .ok (.goto 9, 3) := by decide +kernel
theorem dX5_counter_24 : decode cX5_counter 24 = .ok (.aload_n 0, 1) := by decide +kernel
theorem dX5_counter_25 : decode cX5_counter 25 = .ok (.bipush (-2), 2) := by decide +kernel
theorem dX5_counter_27 : decode cX5_counter 27 = .ok (.invokevirtual 44, 3) := by decide +kernel
theorem dX5_counter_30 : decode cX5_counter 30 = .ok (.ireturn, 1) := by decide +kernel
theorem dX5_countTold_0 : decode cX5_countTold 0 = .ok (.iload_n 1, 1) := by decide +kernel
theorem dX5_countTold_1 : decode cX5_countTold 1 = .ok (.tableswitch 93 0 6 #[43, 54, 69, 81, 81, 81, 81], 43) := by decide +kernel
theorem dX5_countTold_44 : decode cX5_countTold 44 = .ok (.aload_n 0, 1) := by decide +kernel
theorem dX5_countTold_45 : decode cX5_countTold 45 = .ok (.getfield 7, 3) := by decide +kernel
theorem dX5_countTold_48 : decode cX5_countTold 48 = .ok (.iconst 0, 1) := by decide +kernel
theorem dX5_countTold_49 : decode cX5_countTold 49 = .ok (.bipush 6, 2) := by decide +kernel
theorem dX5_countTold_51 : decode cX5_countTold 51 = .ok (.invokestatic 106, 3) := by decide +kernel
theorem dX5_countTold_54 : decode cX5_countTold 54 = .ok (.ireturn, 1) := by decide +kernel
theorem dX5_countTold_55 : decode cX5_countTold 55 = .ok (.aload_n 0, 1) := by decide +kernel
theorem dX5_countTold_56 : decode cX5_countTold 56 = .ok (.invokevirtual 67, 3) := by decide +kernel
theorem dX5_countTold_59 : decode cX5_countTold 59 = .ok (.aload_n 0, 1) := by decide +kernel
theorem dX5_countTold_60 : decode cX5_countTold 60 = .ok (.getfield 25, 3) := by decide +kernel
theorem dX5_countTold_63 : decode cX5_countTold 63 = .ok (.iconst 0, 1) := by decide +kernel
theorem dX5_countTold_64 : decode cX5_countTold 64 = .ok (.bipush 6, 2) := by decide +kernel
theorem dX5_countTold_66 : decode cX5_countTold 66 = .ok (.invokestatic 106, 3) := by decide +kernel
theorem dX5_countTold_69 : decode cX5_countTold 69 = .ok (.ireturn, 1) := by decide +kernel
theorem dX5_countTold_70 : decode cX5_countTold 70 = .ok (.aload_n 0, 1) := by decide +kernel
theorem dX5_countTold_71 : decode cX5_countTold 71 = .ok (.getfield 7, 3) := by decide +kernel
theorem dX5_countTold_74 : decode cX5_countTold 74 = .ok (.bipush 24, 2) := by decide +kernel
theorem dX5_countTold_76 : decode cX5_countTold 76 = .ok (.bipush 7, 2) := by decide +kernel
theorem dX5_countTold_78 : decode cX5_countTold 78 = .ok (.invokestatic 106, 3) := by decide +kernel
theorem dX5_countTold_81 : decode cX5_countTold 81 = .ok (.ireturn, 1) := by decide +kernel
theorem dX5_countTold_82 : decode cX5_countTold 82 = .ok (.aload_n 0, 1) := by decide +kernel
theorem dX5_countTold_83 : decode cX5_countTold 83 = .ok (.getfield 7, 3) := by decide +kernel
theorem dX5_countTold_86 : decode cX5_countTold 86 = .ok (.bipush 31, 2) := by decide +kernel
theorem dX5_countTold_88 : decode cX5_countTold 88 = .ok (.iload_n 1, 1) := by decide +kernel
theorem dX5_countTold_89 : decode cX5_countTold 89 = .ok (.iadd, 1) := by decide +kernel
theorem dX5_countTold_90 : decode cX5_countTold 90 = .ok (.iconst 3, 1) := by decide +kernel
theorem dX5_countTold_91 : decode cX5_countTold 91 = .ok (.isub, 1) := by decide +kernel
theorem dX5_countTold_92 : decode cX5_countTold 92 = .ok (.iaload, 1) := by decide +kernel
theorem dX5_countTold_93 : decode cX5_countTold 93 = .ok (.ireturn, 1) := by decide +kernel
theorem dX5_countTold_94 : decode cX5_countTold 94 = .ok (.iconst 0, 1) := by decide +kernel
theorem dX5_countTold_95 : decode cX5_countTold 95 = .ok (.istore_n 2, 1) := by decide +kernel
theorem dX5_countTold_96 : decode cX5_countTold 96 = .ok (.iconst 0, 1) := by decide +kernel
theorem dX5_countTold_97 : decode cX5_countTold 97 = .ok (.istore_n 3, 1) := by decide +kernel
theorem dX5_countTold_98 : decode cX5_countTold 98 = .ok (.iload_n 3, 1) := by decide +kernel
theorem dX5_countTold_99 : decode cX5_countTold 99 = .ok (.bipush 6, 2) := by decide +kernel
theorem dX5_countTold_101 : decode cX5_countTold 101 = .ok (.if_icmp .ge 24, 3) := by decide +kernel
theorem dX5_countTold_104 : decode cX5_countTold 104 = .ok (.iload_n 2, 1) := by decide +kernel
theorem dX5_countTold_105 : decode cX5_countTold 105 = .ok (.aload_n 0, 1) := by decide +kernel
theorem dX5_countTold_106 : decode cX5_countTold 106 = .ok (.getfield 7, 3) := by decide +kernel
theorem dX5_countTold_109 : decode cX5_countTold 109 = .ok (.bipush 6, 2) := by decide +kernel
theorem dX5_countTold_111 : decode cX5_countTold 111 = .ok (.iload_n 3, 1) := by decide +kernel
theorem dX5_countTold_112 : decode cX5_countTold 112 = .ok (.iadd, 1) := by decide +kernel
theorem dX5_countTold_113 : decode cX5_countTold 113 = .ok (.iaload, 1) := by decide +kernel
theorem dX5_countTold_114 : decode cX5_countTold 114 = .ok (.invokestatic 103, 3) := by decide +kernel
theorem dX5_countTold_117 : decode cX5_countTold 117 = .ok (.iadd, 1) := by decide +kernel
theorem dX5_countTold_118 : decode cX5_countTold 118 = .ok (.istore_n 2, 1) := by decide +kernel
theorem dX5_countTold_119 : decode cX5_countTold 119 = .ok (.iinc 3 1, 3) := by decide +kernel
theorem dX5_countTold_122 : decode cX5_countTold 122 = .ok (.goto (-24), 3) := by decide +kernel
theorem dX5_countTold_125 : decode cX5_countTold 125 = .ok (.iload_n 2, 1) := by decide +kernel
theorem dX5_countTold_126 : decode cX5_countTold 126 = .ok (.ireturn, 1) := by decide +kernel
theorem dX5_count_0 : decode cX5_count 0 = .ok (.iload_n 1, 1) := by decide +kernel
theorem dX5_count_1 : decode cX5_count 1 = .ok (.i2l, 1) := by decide +kernel
theorem dX5_count_2 : decode cX5_count 2 = .ok (.lconst 0, 1) := by decide +kernel
theorem dX5_count_3 : decode cX5_count 3 = .ok (.ldc2_w 162, 3) := by decide +kernel
theorem dX5_count_6 : decode cX5_count 6 = .ok (.invokestatic 53, 3) := by decide +kernel
theorem dX5_count_9 : decode cX5_count 9 = .ok (.ifCond .eq 11, 3) := by decide +kernel
theorem dX5_count_12 : decode cX5_count 12 = .ok (.aload_n 0, 1) := by decide +kernel
theorem dX5_count_13 : decode cX5_count 13 = .ok (.iload_n 1, 1) := by decide +kernel
theorem dX5_count_14 : decode cX5_count 14 = .ok (.invokevirtual 164, 3) := by decide +kernel
theorem dX5_count_17 : decode cX5_count 17 = .ok (.goto 9, 3) := by decide +kernel
theorem dX5_count_20 : decode cX5_count 20 = .ok (.aload_n 0, 1) := by decide +kernel
theorem dX5_count_21 : decode cX5_count 21 = .ok (.bipush (-2), 2) := by decide +kernel
theorem dX5_count_23 : decode cX5_count 23 = .ok (.invokevirtual 44, 3) := by decide +kernel
theorem dX5_count_26 : decode cX5_count 26 = .ok (.ireturn, 1) := by decide +kernel
theorem dX5_tries_0 : decode cX5_tries 0 = .ok (.iconst 0, 1) := by decide +kernel
theorem dX5_tries_1 : decode cX5_tries 1 = .ok (.istore_n 2, 1) := by decide +kernel
theorem dX5_tries_2 : decode cX5_tries 2 = .ok (.iload_n 2, 1) := by decide +kernel
theorem dX5_tries_3 : decode cX5_tries 3 = .ok (.bipush 12, 2) := by decide +kernel
theorem dX5_tries_5 : decode cX5_tries 5 = .ok (.if_icmp .ge 16, 3) := by decide +kernel
theorem dX5_tries_8 : decode cX5_tries 8 = .ok (.aload_n 0, 1) := by decide +kernel
theorem dX5_tries_9 : decode cX5_tries 9 = .ok (.getfield 28, 3) := by decide +kernel
theorem dX5_tries_12 : decode cX5_tries 12 = .ok (.iload_n 2, 1) := by decide +kernel
theorem dX5_tries_13 : decode cX5_tries 13 = .ok (.iconst 0, 1) := by decide +kernel
theorem dX5_tries_14 : decode cX5_tries 14 = .ok (.iastore, 1) := by decide +kernel
theorem dX5_tries_15 : decode cX5_tries 15 = .ok (.iinc 2 1, 3) := by decide +kernel
theorem dX5_tries_18 : decode cX5_tries 18 = .ok (.goto (-16), 3) := by decide +kernel
theorem dX5_tries_21 : decode cX5_tries 21 = .ok (.iconst 0, 1) := by decide +kernel
theorem dX5_tries_22 : decode cX5_tries 22 = .ok (.istore_n 2, 1) := by decide +kernel
theorem dX5_tries_23 : decode cX5_tries 23 = .ok (.iload_n 2, 1) := by decide +kernel
theorem dX5_tries_24 : decode cX5_tries 24 = .ok (.iload_n 1, 1) := by decide +kernel
theorem dX5_tries_25 : decode cX5_tries 25 = .ok (.if_icmp .ge 21, 3) := by decide +kernel
theorem dX5_tries_28 : decode cX5_tries 28 = .ok (.aload_n 0, 1) := by decide +kernel
theorem dX5_tries_29 : decode cX5_tries 29 = .ok (.aload_n 0, 1) := by decide +kernel
theorem dX5_tries_30 : decode cX5_tries 30 = .ok (.getfield 28, 3) := by decide +kernel
theorem dX5_tries_33 : decode cX5_tries 33 = .ok (.iconst 0, 1) := by decide +kernel
theorem dX5_tries_34 : decode cX5_tries 34 = .ok (.iconst 0, 1) := by decide +kernel
theorem dX5_tries_35 : decode cX5_tries 35 = .ok (.iconst 1, 1) := by decide +kernel
theorem dX5_tries_36 : decode cX5_tries 36 = .ok (.invokevirtual 61, 3) := by decide +kernel
theorem dX5_tries_39 : decode cX5_tries 39 = .ok (.istore_n 3, 1) := by decide +kernel
theorem dX5_tries_40 : decode cX5_tries 40 = .ok (.iinc 2 1, 3) := by decide +kernel
theorem dX5_tries_43 : decode cX5_tries 43 = .ok (.goto (-20), 3) := by decide +kernel
theorem dX5_tries_46 : decode cX5_tries 46 = .ok (.aload_n 0, 1) := by decide +kernel
theorem dX5_tries_47 : decode cX5_tries 47 = .ok (.getfield 28, 3) := by decide +kernel
theorem dX5_tries_50 : decode cX5_tries 50 = .ok (.iconst 0, 1) := by decide +kernel
theorem dX5_tries_51 : decode cX5_tries 51 = .ok (.invokestatic 158, 3) := by decide +kernel
theorem dX5_tries_54 : decode cX5_tries 54 = .ok (.lreturn, 1) := by decide +kernel
theorem dX5_trialOf_0 : decode cX5_trialOf 0 = .ok (.aload_n 0, 1) := by decide +kernel
theorem dX5_trialOf_1 : decode cX5_trialOf 1 = .ok (.invokevirtual 67, 3) := by decide +kernel
theorem dX5_trialOf_4 : decode cX5_trialOf 4 = .ok (.aload_n 0, 1) := by decide +kernel
theorem dX5_trialOf_5 : decode cX5_trialOf 5 = .ok (.iload_n 1, 1) := by decide +kernel
theorem dX5_trialOf_6 : decode cX5_trialOf 6 = .ok (.invokevirtual 167, 3) := by decide +kernel
theorem dX5_trialOf_9 : decode cX5_trialOf 9 = .ok (.lreturn, 1) := by decide +kernel
theorem dX5_trial_0 : decode cX5_trial 0 = .ok (.iload_n 1, 1) := by decide +kernel
theorem dX5_trial_1 : decode cX5_trial 1 = .ok (.i2l, 1) := by decide +kernel
theorem dX5_trial_2 : decode cX5_trial 2 = .ok (.lconst 1, 1) := by decide +kernel
theorem dX5_trial_3 : decode cX5_trial 3 = .ok (.ldc2_w 65, 3) := by decide +kernel
theorem dX5_trial_6 : decode cX5_trial 6 = .ok (.invokestatic 53, 3) := by decide +kernel
theorem dX5_trial_9 : decode cX5_trial 9 = .ok (.ifCond .eq 11, 3) := by decide +kernel
theorem dX5_trial_12 : decode cX5_trial 12 = .ok (.aload_n 0, 1) := by decide +kernel
theorem dX5_trial_13 : decode cX5_trial 13 = .ok (.iload_n 1, 1) := by decide +kernel
theorem dX5_trial_14 : decode cX5_trial 14 = .ok (.invokevirtual 171, 3) := by decide +kernel
theorem dX5_trial_17 : decode cX5_trial 17 = .ok (.goto 10, 3) := by decide +kernel
theorem dX5_trial_20 : decode cX5_trial 20 = .ok (.aload_n 0, 1) := by decide +kernel
theorem dX5_trial_21 : decode cX5_trial 21 = .ok (.bipush (-2), 2) := by decide +kernel
theorem dX5_trial_23 : decode cX5_trial 23 = .ok (.invokevirtual 44, 3) := by decide +kernel
theorem dX5_trial_26 : decode cX5_trial 26 = .ok (.i2l, 1) := by decide +kernel
theorem dX5_trial_27 : decode cX5_trial 27 = .ok (.lreturn, 1) := by decide +kernel
theorem dX5_explained_0 : decode cX5_explained 0 = .ok (.iconst 0, 1) := by decide +kernel
theorem dX5_explained_1 : decode cX5_explained 1 = .ok (.istore 5, 2) := by decide +kernel
theorem dX5_explained_3 : decode cX5_explained 3 = .ok (.iconst (-1), 1) := by decide +kernel
theorem dX5_explained_4 : decode cX5_explained 4 = .ok (.istore 6, 2) := by decide +kernel
theorem dX5_explained_6 : decode cX5_explained 6 = .ok (.iconst (-1), 1) := by decide +kernel
theorem dX5_explained_7 : decode cX5_explained 7 = .ok (.istore 7, 2) := by decide +kernel
theorem dX5_explained_9 : decode cX5_explained 9 = .ok (.iconst 0, 1) := by decide +kernel
theorem dX5_explained_10 : decode cX5_explained 10 = .ok (.istore 8, 2) := by decide +kernel
theorem dX5_explained_12 : decode cX5_explained 12 = .ok (.iload 8, 2) := by decide +kernel
theorem dX5_explained_14 : decode cX5_explained 14 = .ok (.bipush 6, 2) := by decide +kernel
theorem dX5_explained_16 : decode cX5_explained 16 = .ok (.if_icmp .ge 119, 3) := by decide +kernel
theorem dX5_explained_19 : decode cX5_explained 19 = .ok (.iconst 1, 1) := by decide +kernel
theorem dX5_explained_20 : decode cX5_explained 20 = .ok (.istore 9, 2) := by decide +kernel
theorem dX5_explained_22 : decode cX5_explained 22 = .ok (.iload 9, 2) := by decide +kernel
theorem dX5_explained_24 : decode cX5_explained 24 = .ok (.bipush 10, 2) := by decide +kernel
theorem dX5_explained_26 : decode cX5_explained 26 = .ok (.if_icmp .ge 103, 3) := by decide +kernel
theorem dX5_explained_29 : decode cX5_explained 29 = .ok (.iconst 0, 1) := by decide +kernel
theorem dX5_explained_30 : decode cX5_explained 30 = .ok (.istore 10, 2) := by decide +kernel
theorem dX5_explained_32 : decode cX5_explained 32 = .ok (.iload 10, 2) := by decide +kernel
theorem dX5_explained_34 : decode cX5_explained 34 = .ok (.bipush 6, 2) := by decide +kernel
theorem dX5_explained_36 : decode cX5_explained 36 = .ok (.if_icmp .ge 43, 3) := by decide +kernel
theorem dX5_explained_39 : decode cX5_explained 39 = .ok (.aload_n 0, 1) := by decide +kernel
theorem dX5_explained_40 : decode cX5_explained 40 = .ok (.getfield 25, 3) := by decide +kernel
theorem dX5_explained_43 : decode cX5_explained 43 = .ok (.iload 10, 2) := by decide +kernel
theorem dX5_explained_45 : decode cX5_explained 45 = .ok (.aload_n 0, 1) := by decide +kernel
theorem dX5_explained_46 : decode cX5_explained 46 = .ok (.getfield 7, 3) := by decide +kernel
theorem dX5_explained_49 : decode cX5_explained 49 = .ok (.iconst 0, 1) := by decide +kernel
theorem dX5_explained_50 : decode cX5_explained 50 = .ok (.iload 10, 2) := by decide +kernel
theorem dX5_explained_52 : decode cX5_explained 52 = .ok (.iadd, 1) := by decide +kernel
theorem dX5_explained_53 : decode cX5_explained 53 = .ok (.iaload, 1) := by decide +kernel
theorem dX5_explained_54 : decode cX5_explained 54 = .ok (.iload 10, 2) := by decide +kernel
theorem dX5_explained_56 : decode cX5_explained 56 = .ok (.iload 8, 2) := by decide +kernel
theorem dX5_explained_58 : decode cX5_explained 58 = .ok (.if_icmp .ne 10, 3) := by decide +kernel
theorem dX5_explained_61 : decode cX5_explained 61 = .ok (.iconst 1, 1) := by decide +kernel
theorem dX5_explained_62 : decode cX5_explained 62 = .ok (.iload 9, 2) := by decide +kernel
theorem dX5_explained_64 : decode cX5_explained 64 = .ok (.ishl, 1) := by decide +kernel
theorem dX5_explained_65 : decode cX5_explained 65 = .ok (.goto 4, 3) := by decide +kernel
theorem dX5_explained_68 : decode cX5_explained 68 = .ok (.iconst 0, 1) := by decide +kernel
theorem dX5_explained_69 : decode cX5_explained 69 = .ok (.invokestatic 57, 3) := by decide +kernel
theorem dX5_explained_72 : decode cX5_explained 72 = .ok (.iastore, 1) := by decide +kernel
theorem dX5_explained_73 : decode cX5_explained 73 = .ok (.iinc 10 1, 3) := by decide +kernel
theorem dX5_explained_76 : decode cX5_explained 76 = .ok (.goto (-44), 3) := by decide +kernel
theorem dX5_explained_79 : decode cX5_explained 79 = .ok (.aload_n 0, 1) := by decide +kernel
theorem dX5_explained_80 : decode cX5_explained 80 = .ok (.iload_n 3, 1) := by decide +kernel
theorem dX5_explained_81 : decode cX5_explained 81 = .ok (.invokevirtual 167, 3) := by decide +kernel
theorem dX5_explained_84 : decode cX5_explained 84 = .ok (.lload_n 1, 1) := by decide +kernel
theorem dX5_explained_85 : decode cX5_explained 85 = .ok (.lcmp, 1) := by decide +kernel
theorem dX5_explained_86 : decode cX5_explained 86 = .ok (.ifCond .ne 37, 3) := by decide +kernel
theorem dX5_explained_89 : decode cX5_explained 89 = .ok (.iinc 5 1, 3) := by decide +kernel
theorem dX5_explained_92 : decode cX5_explained 92 = .ok (.iload 6, 2) := by decide +kernel
theorem dX5_explained_94 : decode cX5_explained 94 = .ok (.iconst (-1), 1) := by decide +kernel
theorem dX5_explained_95 : decode cX5_explained 95 = .ok (.if_icmp .ne 14, 3) := by decide +kernel
theorem dX5_explained_98 : decode cX5_explained 98 = .ok (.bipush 10, 2) := by decide +kernel
theorem dX5_explained_100 : decode cX5_explained 100 = .ok (.iload 8, 2) := by decide +kernel
theorem dX5_explained_102 : decode cX5_explained 102 = .ok (.imul, 1) := by decide +kernel
theorem dX5_explained_103 : decode cX5_explained 103 = .ok (.iload 9, 2) := by decide +kernel
theorem dX5_explained_105 : decode cX5_explained 105 = .ok (.iadd, 1) := by decide +kernel
theorem dX5_explained_106 : decode cX5_explained 106 = .ok (.goto 5, 3) := by decide +kernel
theorem dX5_explained_109 : decode cX5_explained 109 = .ok (.iload 6, 2) := by decide +kernel
theorem dX5_explained_111 : decode cX5_explained 111 = .ok (.istore 6, 2) := by decide +kernel
theorem dX5_explained_113 : decode cX5_explained 113 = .ok (.bipush 10, 2) := by decide +kernel
theorem dX5_explained_115 : decode cX5_explained 115 = .ok (.iload 8, 2) := by decide +kernel
theorem dX5_explained_117 : decode cX5_explained 117 = .ok (.imul, 1) := by decide +kernel
theorem dX5_explained_118 : decode cX5_explained 118 = .ok (.iload 9, 2) := by decide +kernel
theorem dX5_explained_120 : decode cX5_explained 120 = .ok (.iadd, 1) := by decide +kernel
theorem dX5_explained_121 : decode cX5_explained 121 = .ok (.istore 7, 2) := by decide +kernel
theorem dX5_explained_123 : decode cX5_explained 123 = .ok (.iinc 9 1, 3) := by decide +kernel
theorem dX5_explained_126 : decode cX5_explained 126 = .ok (.goto (-104), 3) := by decide +kernel
theorem dX5_explained_129 : decode cX5_explained 129 = .ok (.iinc 8 1, 3) := by decide +kernel
theorem dX5_explained_132 : decode cX5_explained 132 = .ok (.goto (-120), 3) := by decide +kernel
theorem dX5_explained_135 : decode cX5_explained 135 = .ok (.iload 4, 2) := by decide +kernel
theorem dX5_explained_137 : decode cX5_explained 137 = .ok (.ifCond .ne 8, 3) := by decide +kernel
theorem dX5_explained_140 : decode cX5_explained 140 = .ok (.iload 5, 2) := by decide +kernel
theorem dX5_explained_142 : decode cX5_explained 142 = .ok (.goto 16, 3) := by decide +kernel
theorem dX5_explained_145 : decode cX5_explained 145 = .ok (.iload 4, 2) := by decide +kernel
theorem dX5_explained_147 : decode cX5_explained 147 = .ok (.iconst 1, 1) := by decide +kernel
theorem dX5_explained_148 : decode cX5_explained 148 = .ok (.if_icmp .ne 8, 3) := by decide +kernel
theorem dX5_explained_151 : decode cX5_explained 151 = .ok (.iload 6, 2) := by decide +kernel
theorem dX5_explained_153 : decode cX5_explained 153 = .ok (.goto 5, 3) := by decide +kernel
theorem dX5_explained_156 : decode cX5_explained 156 = .ok (.iload 7, 2) := by decide +kernel
theorem dX5_explained_158 : decode cX5_explained 158 = .ok (.ireturn, 1) := by decide +kernel
theorem dX5_explains_0 : decode cX5_explains 0 = .ok (.lload_n 1, 1) := by decide +kernel
theorem dX5_explains_1 : decode cX5_explains 1 = .ok (.lconst 0, 1) := by decide +kernel
theorem dX5_explains_2 : decode cX5_explains 2 = .ok (.ldc2_w 110, 3) := by decide +kernel
theorem dX5_explains_5 : decode cX5_explains 5 = .ok (.invokestatic 53, 3) := by decide +kernel
theorem dX5_explains_8 : decode cX5_explains 8 = .ok (.ifCond .eq 32, 3) := by decide +kernel
theorem dX5_explains_11 : decode cX5_explains 11 = .ok (.iload_n 3, 1) := by decide +kernel
theorem dX5_explains_12 : decode cX5_explains 12 = .ok (.i2l, 1) := by decide +kernel
theorem dX5_explains_13 : decode cX5_explains 13 = .ok (.lconst 1, 1) := by decide +kernel
theorem dX5_explains_14 : decode cX5_explains 14 = .ok (.ldc2_w 65, 3) := by decide +kernel
theorem dX5_explains_17 : decode cX5_explains 17 = .ok (.invokestatic 53, 3) := by decide +kernel
theorem dX5_explains_20 : decode cX5_explains 20 = .ok (.ifCond .eq 20, 3) := by decide +kernel
theorem dX5_explains_23 : decode cX5_explains 23 = .ok (.iload 4, 2) := by decide +kernel
theorem dX5_explains_25 : decode cX5_explains 25 = .ok (.i2l, 1) := by decide +kernel
theorem dX5_explains_26 : decode cX5_explains 26 = .ok (.lconst 0, 1) := by decide +kernel
theorem dX5_explains_27 : decode cX5_explains 27 = .ok (.ldc2_w 151, 3) := by decide +kernel
theorem dX5_explains_30 : decode cX5_explains 30 = .ok (.invokestatic 53, 3) := by decide +kernel
theorem dX5_explains_33 : decode cX5_explains 33 = .ok (.ifCond .eq 7, 3) := by decide +kernel
theorem dX5_explains_36 : decode cX5_explains 36 = .ok (.iconst 1, 1) := by decide +kernel
theorem dX5_explains_37 : decode cX5_explains 37 = .ok (.goto 4, 3) := by decide +kernel
theorem dX5_explains_40 : decode cX5_explains 40 = .ok (.iconst 0, 1) := by decide +kernel
theorem dX5_explains_41 : decode cX5_explains 41 = .ok (.istore 5, 2) := by decide +kernel
theorem dX5_explains_43 : decode cX5_explains 43 = .ok (.iload 5, 2) := by decide +kernel
theorem dX5_explains_45 : decode cX5_explains 45 = .ok (.ifCond .eq 14, 3) := by decide +kernel
theorem dX5_explains_48 : decode cX5_explains 48 = .ok (.aload_n 0, 1) := by decide +kernel
theorem dX5_explains_49 : decode cX5_explains 49 = .ok (.lload_n 1, 1) := by decide +kernel
theorem dX5_explains_50 : decode cX5_explains 50 = .ok (.iload_n 3, 1) := by decide +kernel
theorem dX5_explains_51 : decode cX5_explains 51 = .ok (.iload 4, 2) := by decide +kernel
theorem dX5_explains_53 : decode cX5_explains 53 = .ok (.invokevirtual 174, 3) := by decide +kernel
theorem dX5_explains_56 : decode cX5_explains 56 = .ok (.goto 9, 3) := by decide +kernel
theorem dX5_explains_59 : decode cX5_explains 59 = .ok (.aload_n 0, 1) := by decide +kernel
theorem dX5_explains_60 : decode cX5_explains 60 = .ok (.bipush (-2), 2) := by decide +kernel
theorem dX5_explains_62 : decode cX5_explains 62 = .ok (.invokevirtual 44, 3) := by decide +kernel
theorem dX5_explains_65 : decode cX5_explains 65 = .ok (.ireturn, 1) := by decide +kernel
theorem dX5_type_0 : decode cX5_type 0 = .ok (.iload_n 1, 1) := by decide +kernel
theorem dX5_type_1 : decode cX5_type 1 = .ok (.i2l, 1) := by decide +kernel
theorem dX5_type_2 : decode cX5_type 2 = .ok (.lconst 0, 1) := by decide +kernel
theorem dX5_type_3 : decode cX5_type 3 = .ok (.ldc2_w 178, 3) := by decide +kernel
theorem dX5_type_6 : decode cX5_type 6 = .ok (.invokestatic 53, 3) := by decide +kernel
theorem dX5_type_9 : decode cX5_type 9 = .ok (.ifCond .ne 10, 3) := by decide +kernel
theorem dX5_type_12 : decode cX5_type 12 = .ok (.aload_n 0, 1) := by decide +kernel
theorem dX5_type_13 : decode cX5_type 13 = .ok (.bipush (-2), 2) := by decide +kernel
theorem dX5_type_15 : decode cX5_type 15 = .ok (.invokevirtual 44, 3) := by decide +kernel
theorem dX5_type_18 : decode cX5_type 18 = .ok (.ireturn, 1) := by decide +kernel
theorem dX5_type_19 : decode cX5_type 19 = .ok (.aload_n 0, 1) := by decide +kernel
theorem dX5_type_20 : decode cX5_type 20 = .ok (.getfield 180, 3) := by decide +kernel
theorem dX5_type_23 : decode cX5_type 23 = .ok (.bipush 120, 2) := by decide +kernel
theorem dX5_type_25 : decode cX5_type 25 = .ok (.if_icmp .ne 10, 3) := by decide +kernel
theorem dX5_type_28 : decode cX5_type 28 = .ok (.aload_n 0, 1) := by decide +kernel
theorem dX5_type_29 : decode cX5_type 29 = .ok (.bipush (-4), 2) := by decide +kernel
theorem dX5_type_31 : decode cX5_type 31 = .ok (.invokevirtual 44, 3) := by decide +kernel
theorem dX5_type_34 : decode cX5_type 34 = .ok (.ireturn, 1) := by decide +kernel
theorem dX5_type_35 : decode cX5_type 35 = .ok (.aload_n 0, 1) := by decide +kernel
theorem dX5_type_36 : decode cX5_type 36 = .ok (.getfield 22, 3) := by decide +kernel
theorem dX5_type_39 : decode cX5_type 39 = .ok (.aload_n 0, 1) := by decide +kernel
theorem dX5_type_40 : decode cX5_type 40 = .ok (.getfield 180, 3) := by decide +kernel
theorem dX5_type_43 : decode cX5_type 43 = .ok (.iload_n 1, 1) := by decide +kernel
theorem dX5_type_44 : decode cX5_type 44 = .ok (.iastore, 1) := by decide +kernel
theorem dX5_type_45 : decode cX5_type 45 = .ok (.aload_n 0, 1) := by decide +kernel
theorem dX5_type_46 : decode cX5_type 46 = .ok (.dup, 1) := by decide +kernel
theorem dX5_type_47 : decode cX5_type 47 = .ok (.getfield 180, 3) := by decide +kernel
theorem dX5_type_50 : decode cX5_type 50 = .ok (.iconst 1, 1) := by decide +kernel
theorem dX5_type_51 : decode cX5_type 51 = .ok (.iadd, 1) := by decide +kernel
theorem dX5_type_52 : decode cX5_type 52 = .ok (.putfield 180, 3) := by decide +kernel
theorem dX5_type_55 : decode cX5_type 55 = .ok (.aload_n 0, 1) := by decide +kernel
theorem dX5_type_56 : decode cX5_type 56 = .ok (.getfield 180, 3) := by decide +kernel
theorem dX5_type_59 : decode cX5_type 59 = .ok (.ireturn, 1) := by decide +kernel
theorem dX5_wipes_0 : decode cX5_wipes 0 = .ok (.aload_n 0, 1) := by decide +kernel
theorem dX5_wipes_1 : decode cX5_wipes 1 = .ok (.getfield 180, 3) := by decide +kernel
theorem dX5_wipes_4 : decode cX5_wipes 4 = .ok (.istore_n 1, 1) := by decide +kernel
theorem dX5_wipes_5 : decode cX5_wipes 5 = .ok (.aload_n 0, 1) := by decide +kernel
theorem dX5_wipes_6 : decode cX5_wipes 6 = .ok (.iconst 0, 1) := by decide +kernel
theorem dX5_wipes_7 : decode cX5_wipes 7 = .ok (.putfield 180, 3) := by decide +kernel
theorem dX5_wipes_10 : decode cX5_wipes 10 = .ok (.iload_n 1, 1) := by decide +kernel
theorem dX5_wipes_11 : decode cX5_wipes 11 = .ok (.ireturn, 1) := by decide +kernel
theorem dX5_isAt_0 : decode cX5_isAt 0 = .ok (.aload_n 0, 1) := by decide +kernel
theorem dX5_isAt_1 : decode cX5_isAt 1 = .ok (.getfield 183, 3) := by decide +kernel
theorem dX5_isAt_4 : decode cX5_isAt 4 = .ok (.aload_n 0, 1) := by decide +kernel
theorem dX5_isAt_5 : decode cX5_isAt 5 = .ok (.getfield 180, 3) := by decide +kernel
theorem dX5_isAt_8 : decode cX5_isAt 8 = .ok (.if_icmp .ge 27, 3) := by decide +kernel
theorem dX5_isAt_11 : decode cX5_isAt 11 = .ok (.aload_n 0, 1) := by decide +kernel
theorem dX5_isAt_12 : decode cX5_isAt 12 = .ok (.getfield 22, 3) := by decide +kernel
theorem dX5_isAt_15 : decode cX5_isAt 15 = .ok (.aload_n 0, 1) := by decide +kernel
theorem dX5_isAt_16 : decode cX5_isAt 16 = .ok (.getfield 183, 3) := by decide +kernel
theorem dX5_isAt_19 : decode cX5_isAt 19 = .ok (.iaload, 1) := by decide +kernel
theorem dX5_isAt_20 : decode cX5_isAt 20 = .ok (.i2l, 1) := by decide +kernel
theorem dX5_isAt_21 : decode cX5_isAt 21 = .ok (.iload_n 1, 1) := by decide +kernel
theorem dX5_isAt_22 : decode cX5_isAt 22 = .ok (.i2l, 1) := by decide +kernel
theorem dX5_isAt_23 : decode cX5_isAt 23 = .ok (.iload_n 2, 1) := by decide +kernel
theorem dX5_isAt_24 : decode cX5_isAt 24 = .ok (.i2l, 1) := by decide +kernel
theorem dX5_isAt_25 : decode cX5_isAt 25 = .ok (.invokestatic 53, 3) := by decide +kernel
theorem dX5_isAt_28 : decode cX5_isAt 28 = .ok (.ifCond .eq 7, 3) := by decide +kernel
theorem dX5_isAt_31 : decode cX5_isAt 31 = .ok (.iconst 1, 1) := by decide +kernel
theorem dX5_isAt_32 : decode cX5_isAt 32 = .ok (.goto 4, 3) := by decide +kernel
theorem dX5_isAt_35 : decode cX5_isAt 35 = .ok (.iconst 0, 1) := by decide +kernel
theorem dX5_isAt_36 : decode cX5_isAt 36 = .ok (.ireturn, 1) := by decide +kernel
theorem dX5_blanks_0 : decode cX5_blanks 0 = .ok (.aload_n 0, 1) := by decide +kernel
theorem dX5_blanks_1 : decode cX5_blanks 1 = .ok (.bipush 32, 2) := by decide +kernel
theorem dX5_blanks_3 : decode cX5_blanks 3 = .ok (.bipush 32, 2) := by decide +kernel
theorem dX5_blanks_5 : decode cX5_blanks 5 = .ok (.invokevirtual 186, 3) := by decide +kernel
theorem dX5_blanks_8 : decode cX5_blanks 8 = .ok (.ifCond .eq 16, 3) := by decide +kernel
theorem dX5_blanks_11 : decode cX5_blanks 11 = .ok (.aload_n 0, 1) := by decide +kernel
theorem dX5_blanks_12 : decode cX5_blanks 12 = .ok (.dup, 1) := by decide +kernel
theorem dX5_blanks_13 : decode cX5_blanks 13 = .ok (.getfield 183, 3) := by decide +kernel
theorem dX5_blanks_16 : decode cX5_blanks 16 = .ok (.iconst 1, 1) := by decide +kernel
theorem dX5_blanks_17 : decode cX5_blanks 17 = .ok (.iadd, 1) := by decide +kernel
theorem dX5_blanks_18 : decode cX5_blanks 18 = .ok (.putfield 183, 3) := by decide +kernel
theorem dX5_blanks_21 : decode cX5_blanks 21 = .ok (.goto (-21), 3) := by decide +kernel
theorem dX5_blanks_24 : decode cX5_blanks 24 = .ok (.return_, 1) := by decide +kernel
theorem dX5_fails_0 : decode cX5_fails 0 = .ok (.aload_n 0, 1) := by decide +kernel
theorem dX5_fails_1 : decode cX5_fails 1 = .ok (.aload_n 0, 1) := by decide +kernel
theorem dX5_fails_2 : decode cX5_fails 2 = .ok (.getfield 183, 3) := by decide +kernel
theorem dX5_fails_5 : decode cX5_fails 5 = .ok (.putfield 189, 3) := by decide +kernel
theorem dX5_fails_8 : decode cX5_fails 8 = .ok (.iconst 0, 1) := by decide +kernel
theorem dX5_fails_9 : decode cX5_fails 9 = .ok (.ireturn, 1) := by decide +kernel
theorem dX5_manyOf_0 : decode cX5_manyOf 0 = .ok (.iload_n 0, 1) := by decide +kernel
theorem dX5_manyOf_1 : decode cX5_manyOf 1 = .ok (.tableswitch 105 99 119 #[103, 101, 105, 105, 105, 105, 99, 105, 105, 105, 105, 105, 105, 105, 105, 101, 101, 99, 101, 103, 99], 99) := by decide +kernel
theorem dX5_manyOf_100 : decode cX5_manyOf 100 = .ok (.iconst 2, 1) := by decide +kernel
theorem dX5_manyOf_101 : decode cX5_manyOf 101 = .ok (.ireturn, 1) := by decide +kernel
theorem dX5_manyOf_102 : decode cX5_manyOf 102 = .ok (.iconst 1, 1) := by decide +kernel
theorem dX5_manyOf_103 : decode cX5_manyOf 103 = .ok (.ireturn, 1) := by decide +kernel
theorem dX5_manyOf_104 : decode cX5_manyOf 104 = .ok (.iconst 0, 1) := by decide +kernel
theorem dX5_manyOf_105 : decode cX5_manyOf 105 = .ok (.ireturn, 1) := by decide +kernel
theorem dX5_manyOf_106 : decode cX5_manyOf 106 = .ok (.iconst (-1), 1) := by decide +kernel
theorem dX5_manyOf_107 : decode cX5_manyOf 107 = .ok (.ireturn, 1) := by decide +kernel
theorem dX5_takesNumber_0 : decode cX5_takesNumber 0 = .ok (.aload_n 0, 1) := by decide +kernel
theorem dX5_takesNumber_1 : decode cX5_takesNumber 1 = .ok (.invokevirtual 192, 3) := by decide +kernel
theorem dX5_takesNumber_4 : decode cX5_takesNumber 4 = .ok (.aload_n 0, 1) := by decide +kernel
theorem dX5_takesNumber_5 : decode cX5_takesNumber 5 = .ok (.getfield 183, 3) := by decide +kernel
theorem dX5_takesNumber_8 : decode cX5_takesNumber 8 = .ok (.istore_n 2, 1) := by decide +kernel
theorem dX5_takesNumber_9 : decode cX5_takesNumber 9 = .ok (.iconst 0, 1) := by decide +kernel
theorem dX5_takesNumber_10 : decode cX5_takesNumber 10 = .ok (.istore_n 3, 1) := by decide +kernel
theorem dX5_takesNumber_11 : decode cX5_takesNumber 11 = .ok (.aload_n 0, 1) := by decide +kernel
theorem dX5_takesNumber_12 : decode cX5_takesNumber 12 = .ok (.bipush 48, 2) := by decide +kernel
theorem dX5_takesNumber_14 : decode cX5_takesNumber 14 = .ok (.bipush 57, 2) := by decide +kernel
theorem dX5_takesNumber_16 : decode cX5_takesNumber 16 = .ok (.invokevirtual 186, 3) := by decide +kernel
theorem dX5_takesNumber_19 : decode cX5_takesNumber 19 = .ok (.ifCond .eq 50, 3) := by decide +kernel
theorem dX5_takesNumber_22 : decode cX5_takesNumber 22 = .ok (.aload_n 0, 1) := by decide +kernel
theorem dX5_takesNumber_23 : decode cX5_takesNumber 23 = .ok (.getfield 183, 3) := by decide +kernel
theorem dX5_takesNumber_26 : decode cX5_takesNumber 26 = .ok (.iload_n 2, 1) := by decide +kernel
theorem dX5_takesNumber_27 : decode cX5_takesNumber 27 = .ok (.bipush 6, 2) := by decide +kernel
theorem dX5_takesNumber_29 : decode cX5_takesNumber 29 = .ok (.iadd, 1) := by decide +kernel
theorem dX5_takesNumber_30 : decode cX5_takesNumber 30 = .ok (.if_icmp .ne 8, 3) := by decide +kernel
theorem dX5_takesNumber_33 : decode cX5_takesNumber 33 = .ok (.aload_n 0, 1) := by decide +kernel
theorem dX5_takesNumber_34 : decode cX5_takesNumber 34 = .ok (.invokevirtual 195, 3) := by decide +kernel
theorem dX5_takesNumber_37 : decode cX5_takesNumber 37 = .ok (.ireturn, 1) := by decide +kernel
theorem dX5_takesNumber_38 : decode cX5_takesNumber 38 = .ok (.bipush 10, 2) := by decide +kernel
theorem dX5_takesNumber_40 : decode cX5_takesNumber 40 = .ok (.iload_n 3, 1) := by decide +kernel
theorem dX5_takesNumber_41 : decode cX5_takesNumber 41 = .ok (.imul, 1) := by decide +kernel
theorem dX5_takesNumber_42 : decode cX5_takesNumber 42 = .ok (.aload_n 0, 1) := by decide +kernel
theorem dX5_takesNumber_43 : decode cX5_takesNumber 43 = .ok (.getfield 22, 3) := by decide +kernel
theorem dX5_takesNumber_46 : decode cX5_takesNumber 46 = .ok (.aload_n 0, 1) := by decide +kernel
theorem dX5_takesNumber_47 : decode cX5_takesNumber 47 = .ok (.getfield 183, 3) := by decide +kernel
theorem dX5_takesNumber_50 : decode cX5_takesNumber 50 = .ok (.iaload, 1) := by decide +kernel
theorem dX5_takesNumber_51 : decode cX5_takesNumber 51 = .ok (.iadd, 1) := by decide +kernel
theorem dX5_takesNumber_52 : decode cX5_takesNumber 52 = .ok (.bipush 48, 2) := by decide +kernel
theorem dX5_takesNumber_54 : decode cX5_takesNumber 54 = .ok (.isub, 1) := by decide +kernel
theorem dX5_takesNumber_55 : decode cX5_takesNumber 55 = .ok (.istore_n 3, 1) := by decide +kernel
theorem dX5_takesNumber_56 : decode cX5_takesNumber 56 = .ok (.aload_n 0, 1) := by decide +kernel
theorem dX5_takesNumber_57 : decode cX5_takesNumber 57 = .ok (.dup, 1) := by decide +kernel
theorem dX5_takesNumber_58 : decode cX5_takesNumber 58 = .ok (.getfield 183, 3) := by decide +kernel
theorem dX5_takesNumber_61 : decode cX5_takesNumber 61 = .ok (.iconst 1, 1) := by decide +kernel
theorem dX5_takesNumber_62 : decode cX5_takesNumber 62 = .ok (.iadd, 1) := by decide +kernel
theorem dX5_takesNumber_63 : decode cX5_takesNumber 63 = .ok (.putfield 183, 3) := by decide +kernel
theorem dX5_takesNumber_66 : decode cX5_takesNumber 66 = .ok (.goto (-55), 3) := by decide +kernel
theorem dX5_takesNumber_69 : decode cX5_takesNumber 69 = .ok (.aload_n 0, 1) := by decide +kernel
theorem dX5_takesNumber_70 : decode cX5_takesNumber 70 = .ok (.getfield 37, 3) := by decide +kernel
theorem dX5_takesNumber_73 : decode cX5_takesNumber 73 = .ok (.iload_n 1, 1) := by decide +kernel
theorem dX5_takesNumber_74 : decode cX5_takesNumber 74 = .ok (.iload_n 3, 1) := by decide +kernel
theorem dX5_takesNumber_75 : decode cX5_takesNumber 75 = .ok (.iastore, 1) := by decide +kernel
theorem dX5_takesNumber_76 : decode cX5_takesNumber 76 = .ok (.aload_n 0, 1) := by decide +kernel
theorem dX5_takesNumber_77 : decode cX5_takesNumber 77 = .ok (.getfield 183, 3) := by decide +kernel
theorem dX5_takesNumber_80 : decode cX5_takesNumber 80 = .ok (.iload_n 2, 1) := by decide +kernel
theorem dX5_takesNumber_81 : decode cX5_takesNumber 81 = .ok (.if_icmp .gt 10, 3) := by decide +kernel
theorem dX5_takesNumber_84 : decode cX5_takesNumber 84 = .ok (.aload_n 0, 1) := by decide +kernel
theorem dX5_takesNumber_85 : decode cX5_takesNumber 85 = .ok (.invokevirtual 195, 3) := by decide +kernel
theorem dX5_takesNumber_88 : decode cX5_takesNumber 88 = .ok (.ifCond .eq 7, 3) := by decide +kernel
theorem dX5_takesNumber_91 : decode cX5_takesNumber 91 = .ok (.iconst 1, 1) := by decide +kernel
theorem dX5_takesNumber_92 : decode cX5_takesNumber 92 = .ok (.goto 4, 3) := by decide +kernel
theorem dX5_takesNumber_95 : decode cX5_takesNumber 95 = .ok (.iconst 0, 1) := by decide +kernel
theorem dX5_takesNumber_96 : decode cX5_takesNumber 96 = .ok (.ireturn, 1) := by decide +kernel
theorem dX5_takesOrder_0 : decode cX5_takesOrder 0 = .ok (.aload_n 0, 1) := by decide +kernel
theorem dX5_takesOrder_1 : decode cX5_takesOrder 1 = .ok (.getfield 22, 3) := by decide +kernel
theorem dX5_takesOrder_4 : decode cX5_takesOrder 4 = .ok (.aload_n 0, 1) := by decide +kernel
theorem dX5_takesOrder_5 : decode cX5_takesOrder 5 = .ok (.getfield 183, 3) := by decide +kernel
theorem dX5_takesOrder_8 : decode cX5_takesOrder 8 = .ok (.iaload, 1) := by decide +kernel
theorem dX5_takesOrder_9 : decode cX5_takesOrder 9 = .ok (.invokestatic 198, 3) := by decide +kernel
theorem dX5_takesOrder_12 : decode cX5_takesOrder 12 = .ok (.istore_n 1, 1) := by decide +kernel
theorem dX5_takesOrder_13 : decode cX5_takesOrder 13 = .ok (.iload_n 1, 1) := by decide +kernel
theorem dX5_takesOrder_14 : decode cX5_takesOrder 14 = .ok (.iconst (-1), 1) := by decide +kernel
theorem dX5_takesOrder_15 : decode cX5_takesOrder 15 = .ok (.if_icmp .ne 8, 3) := by decide +kernel
theorem dX5_takesOrder_18 : decode cX5_takesOrder 18 = .ok (.aload_n 0, 1) := by decide +kernel
theorem dX5_takesOrder_19 : decode cX5_takesOrder 19 = .ok (.invokevirtual 195, 3) := by decide +kernel
theorem dX5_takesOrder_22 : decode cX5_takesOrder 22 = .ok (.ireturn, 1) := by decide +kernel
theorem dX5_takesOrder_23 : decode cX5_takesOrder 23 = .ok (.aload_n 0, 1) := by decide +kernel
theorem dX5_takesOrder_24 : decode cX5_takesOrder 24 = .ok (.getfield 34, 3) := by decide +kernel
theorem dX5_takesOrder_27 : decode cX5_takesOrder 27 = .ok (.aload_n 0, 1) := by decide +kernel
theorem dX5_takesOrder_28 : decode cX5_takesOrder 28 = .ok (.getfield 201, 3) := by decide +kernel
theorem dX5_takesOrder_31 : decode cX5_takesOrder 31 = .ok (.aload_n 0, 1) := by decide +kernel
theorem dX5_takesOrder_32 : decode cX5_takesOrder 32 = .ok (.getfield 22, 3) := by decide +kernel
theorem dX5_takesOrder_35 : decode cX5_takesOrder 35 = .ok (.aload_n 0, 1) := by decide +kernel
theorem dX5_takesOrder_36 : decode cX5_takesOrder 36 = .ok (.getfield 183, 3) := by decide +kernel
theorem dX5_takesOrder_39 : decode cX5_takesOrder 39 = .ok (.iaload, 1) := by decide +kernel
theorem dX5_takesOrder_40 : decode cX5_takesOrder 40 = .ok (.iastore, 1) := by decide +kernel
theorem dX5_takesOrder_41 : decode cX5_takesOrder 41 = .ok (.aload_n 0, 1) := by decide +kernel
theorem dX5_takesOrder_42 : decode cX5_takesOrder 42 = .ok (.dup, 1) := by decide +kernel
theorem dX5_takesOrder_43 : decode cX5_takesOrder 43 = .ok (.getfield 183, 3) := by decide +kernel
theorem dX5_takesOrder_46 : decode cX5_takesOrder 46 = .ok (.iconst 1, 1) := by decide +kernel
theorem dX5_takesOrder_47 : decode cX5_takesOrder 47 = .ok (.iadd, 1) := by decide +kernel
theorem dX5_takesOrder_48 : decode cX5_takesOrder 48 = .ok (.putfield 183, 3) := by decide +kernel
theorem dX5_takesOrder_51 : decode cX5_takesOrder 51 = .ok (.iconst 0, 1) := by decide +kernel
theorem dX5_takesOrder_52 : decode cX5_takesOrder 52 = .ok (.istore_n 2, 1) := by decide +kernel
theorem dX5_takesOrder_53 : decode cX5_takesOrder 53 = .ok (.iload_n 2, 1) := by decide +kernel
theorem dX5_takesOrder_54 : decode cX5_takesOrder 54 = .ok (.iload_n 1, 1) := by decide +kernel
theorem dX5_takesOrder_55 : decode cX5_takesOrder 55 = .ok (.if_icmp .ge 26, 3) := by decide +kernel
theorem dX5_takesOrder_58 : decode cX5_takesOrder 58 = .ok (.aload_n 0, 1) := by decide +kernel
theorem dX5_takesOrder_59 : decode cX5_takesOrder 59 = .ok (.iconst 2, 1) := by decide +kernel
theorem dX5_takesOrder_60 : decode cX5_takesOrder 60 = .ok (.aload_n 0, 1) := by decide +kernel
theorem dX5_takesOrder_61 : decode cX5_takesOrder 61 = .ok (.getfield 201, 3) := by decide +kernel
theorem dX5_takesOrder_64 : decode cX5_takesOrder 64 = .ok (.imul, 1) := by decide +kernel
theorem dX5_takesOrder_65 : decode cX5_takesOrder 65 = .ok (.iload_n 2, 1) := by decide +kernel
theorem dX5_takesOrder_66 : decode cX5_takesOrder 66 = .ok (.iadd, 1) := by decide +kernel
theorem dX5_takesOrder_67 : decode cX5_takesOrder 67 = .ok (.invokevirtual 204, 3) := by decide +kernel
theorem dX5_takesOrder_70 : decode cX5_takesOrder 70 = .ok (.ifCond .ne 5, 3) := by decide +kernel
theorem dX5_takesOrder_73 : decode cX5_takesOrder 73 = .ok (.iconst 0, 1) := by decide +kernel
theorem dX5_takesOrder_74 : decode cX5_takesOrder 74 = .ok (.ireturn, 1) := by decide +kernel
theorem dX5_takesOrder_75 : decode cX5_takesOrder 75 = .ok (.iinc 2 1, 3) := by decide +kernel
theorem dX5_takesOrder_78 : decode cX5_takesOrder 78 = .ok (.goto (-25), 3) := by decide +kernel
theorem dX5_takesOrder_81 : decode cX5_takesOrder 81 = .ok (.aload_n 0, 1) := by decide +kernel
theorem dX5_takesOrder_82 : decode cX5_takesOrder 82 = .ok (.invokevirtual 192, 3) := by decide +kernel
theorem dX5_takesOrder_85 : decode cX5_takesOrder 85 = .ok (.aload_n 0, 1) := by decide +kernel
theorem dX5_takesOrder_86 : decode cX5_takesOrder 86 = .ok (.bipush 59, 2) := by decide +kernel
theorem dX5_takesOrder_88 : decode cX5_takesOrder 88 = .ok (.bipush 59, 2) := by decide +kernel
theorem dX5_takesOrder_90 : decode cX5_takesOrder 90 = .ok (.invokevirtual 186, 3) := by decide +kernel
theorem dX5_takesOrder_93 : decode cX5_takesOrder 93 = .ok (.ifCond .ne 8, 3) := by decide +kernel
theorem dX5_takesOrder_96 : decode cX5_takesOrder 96 = .ok (.aload_n 0, 1) := by decide +kernel
theorem dX5_takesOrder_97 : decode cX5_takesOrder 97 = .ok (.invokevirtual 195, 3) := by decide +kernel
theorem dX5_takesOrder_100 : decode cX5_takesOrder 100 = .ok (.ireturn, 1) := by decide +kernel
theorem dX5_takesOrder_101 : decode cX5_takesOrder 101 = .ok (.aload_n 0, 1) := by decide +kernel
theorem dX5_takesOrder_102 : decode cX5_takesOrder 102 = .ok (.dup, 1) := by decide +kernel
theorem dX5_takesOrder_103 : decode cX5_takesOrder 103 = .ok (.getfield 183, 3) := by decide +kernel
theorem dX5_takesOrder_106 : decode cX5_takesOrder 106 = .ok (.iconst 1, 1) := by decide +kernel
theorem dX5_takesOrder_107 : decode cX5_takesOrder 107 = .ok (.iadd, 1) := by decide +kernel
theorem dX5_takesOrder_108 : decode cX5_takesOrder 108 = .ok (.putfield 183, 3) := by decide +kernel
theorem dX5_takesOrder_111 : decode cX5_takesOrder 111 = .ok (.aload_n 0, 1) := by decide +kernel
theorem dX5_takesOrder_112 : decode cX5_takesOrder 112 = .ok (.dup, 1) := by decide +kernel
theorem dX5_takesOrder_113 : decode cX5_takesOrder 113 = .ok (.getfield 201, 3) := by decide +kernel
theorem dX5_takesOrder_116 : decode cX5_takesOrder 116 = .ok (.iconst 1, 1) := by decide +kernel
theorem dX5_takesOrder_117 : decode cX5_takesOrder 117 = .ok (.iadd, 1) := by decide +kernel
theorem dX5_takesOrder_118 : decode cX5_takesOrder 118 = .ok (.putfield 201, 3) := by decide +kernel
theorem dX5_takesOrder_121 : decode cX5_takesOrder 121 = .ok (.iconst 1, 1) := by decide +kernel
theorem dX5_takesOrder_122 : decode cX5_takesOrder 122 = .ok (.ireturn, 1) := by decide +kernel
theorem dX5_isRead_0 : decode cX5_isRead 0 = .ok (.aload_n 0, 1) := by decide +kernel
theorem dX5_isRead_1 : decode cX5_isRead 1 = .ok (.iconst 0, 1) := by decide +kernel
theorem dX5_isRead_2 : decode cX5_isRead 2 = .ok (.putfield 183, 3) := by decide +kernel
theorem dX5_isRead_5 : decode cX5_isRead 5 = .ok (.aload_n 0, 1) := by decide +kernel
theorem dX5_isRead_6 : decode cX5_isRead 6 = .ok (.iconst 0, 1) := by decide +kernel
theorem dX5_isRead_7 : decode cX5_isRead 7 = .ok (.putfield 201, 3) := by decide +kernel
theorem dX5_isRead_10 : decode cX5_isRead 10 = .ok (.aload_n 0, 1) := by decide +kernel
theorem dX5_isRead_11 : decode cX5_isRead 11 = .ok (.invokevirtual 192, 3) := by decide +kernel
theorem dX5_isRead_14 : decode cX5_isRead 14 = .ok (.aload_n 0, 1) := by decide +kernel
theorem dX5_isRead_15 : decode cX5_isRead 15 = .ok (.getfield 183, 3) := by decide +kernel
theorem dX5_isRead_18 : decode cX5_isRead 18 = .ok (.aload_n 0, 1) := by decide +kernel
theorem dX5_isRead_19 : decode cX5_isRead 19 = .ok (.getfield 180, 3) := by decide +kernel
theorem dX5_isRead_22 : decode cX5_isRead 22 = .ok (.if_icmp .ge 19, 3) := by decide +kernel
theorem dX5_isRead_25 : decode cX5_isRead 25 = .ok (.aload_n 0, 1) := by decide +kernel
theorem dX5_isRead_26 : decode cX5_isRead 26 = .ok (.invokevirtual 207, 3) := by decide +kernel
theorem dX5_isRead_29 : decode cX5_isRead 29 = .ok (.ifCond .ne 5, 3) := by decide +kernel
theorem dX5_isRead_32 : decode cX5_isRead 32 = .ok (.iconst 0, 1) := by decide +kernel
theorem dX5_isRead_33 : decode cX5_isRead 33 = .ok (.ireturn, 1) := by decide +kernel
theorem dX5_isRead_34 : decode cX5_isRead 34 = .ok (.aload_n 0, 1) := by decide +kernel
theorem dX5_isRead_35 : decode cX5_isRead 35 = .ok (.invokevirtual 192, 3) := by decide +kernel
theorem dX5_isRead_38 : decode cX5_isRead 38 = .ok (.goto (-24), 3) := by decide +kernel
theorem dX5_isRead_41 : decode cX5_isRead 41 = .ok (.aload_n 0, 1) := by decide +kernel
theorem dX5_isRead_42 : decode cX5_isRead 42 = .ok (.getfield 201, 3) := by decide +kernel
theorem dX5_isRead_45 : decode cX5_isRead 45 = .ok (.ifCond .gt 10, 3) := by decide +kernel
theorem dX5_isRead_48 : decode cX5_isRead 48 = .ok (.aload_n 0, 1) := by decide +kernel
theorem dX5_isRead_49 : decode cX5_isRead 49 = .ok (.invokevirtual 195, 3) := by decide +kernel
theorem dX5_isRead_52 : decode cX5_isRead 52 = .ok (.ifCond .eq 7, 3) := by decide +kernel
theorem dX5_isRead_55 : decode cX5_isRead 55 = .ok (.iconst 1, 1) := by decide +kernel
theorem dX5_isRead_56 : decode cX5_isRead 56 = .ok (.goto 4, 3) := by decide +kernel
theorem dX5_isRead_59 : decode cX5_isRead 59 = .ok (.iconst 0, 1) := by decide +kernel
theorem dX5_isRead_60 : decode cX5_isRead 60 = .ok (.ireturn, 1) := by decide +kernel
theorem dX5_doneOne_0 : decode cX5_doneOne 0 = .ok (.aload_n 0, 1) := by decide +kernel
theorem dX5_doneOne_1 : decode cX5_doneOne 1 = .ok (.getfield 37, 3) := by decide +kernel
theorem dX5_doneOne_4 : decode cX5_doneOne 4 = .ok (.iconst 2, 1) := by decide +kernel
theorem dX5_doneOne_5 : decode cX5_doneOne 5 = .ok (.iload_n 1, 1) := by decide +kernel
theorem dX5_doneOne_6 : decode cX5_doneOne 6 = .ok (.imul, 1) := by decide +kernel
theorem dX5_doneOne_7 : decode cX5_doneOne 7 = .ok (.iaload, 1) := by decide +kernel
theorem dX5_doneOne_8 : decode cX5_doneOne 8 = .ok (.istore_n 2, 1) := by decide +kernel
theorem dX5_doneOne_9 : decode cX5_doneOne 9 = .ok (.aload_n 0, 1) := by decide +kernel
theorem dX5_doneOne_10 : decode cX5_doneOne 10 = .ok (.getfield 37, 3) := by decide +kernel
theorem dX5_doneOne_13 : decode cX5_doneOne 13 = .ok (.iconst 2, 1) := by decide +kernel
theorem dX5_doneOne_14 : decode cX5_doneOne 14 = .ok (.iload_n 1, 1) := by decide +kernel
theorem dX5_doneOne_15 : decode cX5_doneOne 15 = .ok (.imul, 1) := by decide +kernel
theorem dX5_doneOne_16 : decode cX5_doneOne 16 = .ok (.iconst 1, 1) := by decide +kernel
theorem dX5_doneOne_17 : decode cX5_doneOne 17 = .ok (.iadd, 1) := by decide +kernel
theorem dX5_doneOne_18 : decode cX5_doneOne 18 = .ok (.iaload, 1) := by decide +kernel
theorem dX5_doneOne_19 : decode cX5_doneOne 19 = .ok (.istore_n 3, 1) := by decide +kernel
theorem dX5_doneOne_20 : decode cX5_doneOne 20 = .ok (.aload_n 0, 1) := by decide +kernel
theorem dX5_doneOne_21 : decode cX5_doneOne 21 = .ok (.getfield 34, 3) := by decide +kernel
theorem dX5_doneOne_24 : decode cX5_doneOne 24 = .ok (.iload_n 1, 1) := by decide +kernel
theorem dX5_doneOne_25 : decode cX5_doneOne 25 = .ok (.iaload, 1) := by decide +kernel
theorem dX5_doneOne_26 : decode cX5_doneOne 26 = .ok (.tableswitch 149 99 119 #[125, 118, 149, 149, 149, 149, 98, 149, 149, 149, 149, 149, 149, 149, 149, 149, 105, 130, 111, 137, 142], 98) := by decide +kernel
theorem dX5_doneOne_124 : decode cX5_doneOne 124 = .ok (.aload_n 0, 1) := by decide +kernel
theorem dX5_doneOne_125 : decode cX5_doneOne 125 = .ok (.iload_n 2, 1) := by decide +kernel
theorem dX5_doneOne_126 : decode cX5_doneOne 126 = .ok (.iload_n 3, 1) := by decide +kernel
theorem dX5_doneOne_127 : decode cX5_doneOne 127 = .ok (.invokevirtual 117, 3) := by decide +kernel
theorem dX5_doneOne_130 : decode cX5_doneOne 130 = .ok (.ireturn, 1) := by decide +kernel
theorem dX5_doneOne_131 : decode cX5_doneOne 131 = .ok (.aload_n 0, 1) := by decide +kernel
theorem dX5_doneOne_132 : decode cX5_doneOne 132 = .ok (.iload_n 2, 1) := by decide +kernel
theorem dX5_doneOne_133 : decode cX5_doneOne 133 = .ok (.invokevirtual 126, 3) := by decide +kernel
theorem dX5_doneOne_136 : decode cX5_doneOne 136 = .ok (.ireturn, 1) := by decide +kernel
theorem dX5_doneOne_137 : decode cX5_doneOne 137 = .ok (.aload_n 0, 1) := by decide +kernel
theorem dX5_doneOne_138 : decode cX5_doneOne 138 = .ok (.iload_n 2, 1) := by decide +kernel
theorem dX5_doneOne_139 : decode cX5_doneOne 139 = .ok (.iconst 1, 1) := by decide +kernel
theorem dX5_doneOne_140 : decode cX5_doneOne 140 = .ok (.invokevirtual 139, 3) := by decide +kernel
theorem dX5_doneOne_143 : decode cX5_doneOne 143 = .ok (.ireturn, 1) := by decide +kernel
theorem dX5_doneOne_144 : decode cX5_doneOne 144 = .ok (.aload_n 0, 1) := by decide +kernel
theorem dX5_doneOne_145 : decode cX5_doneOne 145 = .ok (.iload_n 2, 1) := by decide +kernel
theorem dX5_doneOne_146 : decode cX5_doneOne 146 = .ok (.iconst (-1), 1) := by decide +kernel
theorem dX5_doneOne_147 : decode cX5_doneOne 147 = .ok (.invokevirtual 139, 3) := by decide +kernel
theorem dX5_doneOne_150 : decode cX5_doneOne 150 = .ok (.ireturn, 1) := by decide +kernel
theorem dX5_doneOne_151 : decode cX5_doneOne 151 = .ok (.aload_n 0, 1) := by decide +kernel
theorem dX5_doneOne_152 : decode cX5_doneOne 152 = .ok (.invokevirtual 79, 3) := by decide +kernel
theorem dX5_doneOne_155 : decode cX5_doneOne 155 = .ok (.ireturn, 1) := by decide +kernel
theorem dX5_doneOne_156 : decode cX5_doneOne 156 = .ok (.aload_n 0, 1) := by decide +kernel
theorem dX5_doneOne_157 : decode cX5_doneOne 157 = .ok (.iload_n 2, 1) := by decide +kernel
theorem dX5_doneOne_158 : decode cX5_doneOne 158 = .ok (.iload_n 3, 1) := by decide +kernel
theorem dX5_doneOne_159 : decode cX5_doneOne 159 = .ok (.invokevirtual 142, 3) := by decide +kernel
theorem dX5_doneOne_162 : decode cX5_doneOne 162 = .ok (.ireturn, 1) := by decide +kernel
theorem dX5_doneOne_163 : decode cX5_doneOne 163 = .ok (.aload_n 0, 1) := by decide +kernel
theorem dX5_doneOne_164 : decode cX5_doneOne 164 = .ok (.invokevirtual 145, 3) := by decide +kernel
theorem dX5_doneOne_167 : decode cX5_doneOne 167 = .ok (.ireturn, 1) := by decide +kernel
theorem dX5_doneOne_168 : decode cX5_doneOne 168 = .ok (.aload_n 0, 1) := by decide +kernel
theorem dX5_doneOne_169 : decode cX5_doneOne 169 = .ok (.iload_n 2, 1) := by decide +kernel
theorem dX5_doneOne_170 : decode cX5_doneOne 170 = .ok (.iload_n 3, 1) := by decide +kernel
theorem dX5_doneOne_171 : decode cX5_doneOne 171 = .ok (.invokevirtual 132, 3) := by decide +kernel
theorem dX5_doneOne_174 : decode cX5_doneOne 174 = .ok (.ireturn, 1) := by decide +kernel
theorem dX5_doneOne_175 : decode cX5_doneOne 175 = .ok (.aload_n 0, 1) := by decide +kernel
theorem dX5_doneOne_176 : decode cX5_doneOne 176 = .ok (.iload_n 2, 1) := by decide +kernel
theorem dX5_doneOne_177 : decode cX5_doneOne 177 = .ok (.invokevirtual 129, 3) := by decide +kernel
theorem dX5_doneOne_180 : decode cX5_doneOne 180 = .ok (.ireturn, 1) := by decide +kernel
theorem dX5_does_0 : decode cX5_does 0 = .ok (.aload_n 0, 1) := by decide +kernel
theorem dX5_does_1 : decode cX5_does 1 = .ok (.invokevirtual 210, 3) := by decide +kernel
theorem dX5_does_4 : decode cX5_does 4 = .ok (.ifCond .ne 11, 3) := by decide +kernel
theorem dX5_does_7 : decode cX5_does 7 = .ok (.bipush (-10), 2) := by decide +kernel
theorem dX5_does_9 : decode cX5_does 9 = .ok (.aload_n 0, 1) := by decide +kernel
theorem dX5_does_10 : decode cX5_does 10 = .ok (.getfield 189, 3) := by decide +kernel
theorem dX5_does_13 : decode cX5_does 13 = .ok (.isub, 1) := by decide +kernel
theorem dX5_does_14 : decode cX5_does 14 = .ok (.ireturn, 1) := by decide +kernel
theorem dX5_does_15 : decode cX5_does 15 = .ok (.aload_n 0, 1) := by decide +kernel
theorem dX5_does_16 : decode cX5_does 16 = .ok (.invokevirtual 114, 3) := by decide +kernel
theorem dX5_does_19 : decode cX5_does 19 = .ok (.iconst 0, 1) := by decide +kernel
theorem dX5_does_20 : decode cX5_does 20 = .ok (.istore_n 1, 1) := by decide +kernel
theorem dX5_does_21 : decode cX5_does 21 = .ok (.iload_n 1, 1) := by decide +kernel
theorem dX5_does_22 : decode cX5_does 22 = .ok (.aload_n 0, 1) := by decide +kernel
theorem dX5_does_23 : decode cX5_does 23 = .ok (.getfield 201, 3) := by decide +kernel
theorem dX5_does_26 : decode cX5_does 26 = .ok (.if_icmp .ge 29, 3) := by decide +kernel
theorem dX5_does_29 : decode cX5_does 29 = .ok (.aload_n 0, 1) := by decide +kernel
theorem dX5_does_30 : decode cX5_does 30 = .ok (.iload_n 1, 1) := by decide +kernel
theorem dX5_does_31 : decode cX5_does 31 = .ok (.invokevirtual 213, 3) := by decide +kernel
theorem dX5_does_34 : decode cX5_does 34 = .ok (.bipush (-2), 2) := by decide +kernel
theorem dX5_does_36 : decode cX5_does 36 = .ok (.if_icmp .gt 13, 3) := by decide +kernel
theorem dX5_does_39 : decode cX5_does 39 = .ok (.aload_n 0, 1) := by decide +kernel
theorem dX5_does_40 : decode cX5_does 40 = .ok (.invokevirtual 148, 3) := by decide +kernel
theorem dX5_does_43 : decode cX5_does 43 = .ok (.sipush (-1000), 3) := by decide +kernel
theorem dX5_does_46 : decode cX5_does 46 = .ok (.iload_n 1, 1) := by decide +kernel
theorem dX5_does_47 : decode cX5_does 47 = .ok (.isub, 1) := by decide +kernel
theorem dX5_does_48 : decode cX5_does 48 = .ok (.ireturn, 1) := by decide +kernel
theorem dX5_does_49 : decode cX5_does 49 = .ok (.iinc 1 1, 3) := by decide +kernel
theorem dX5_does_52 : decode cX5_does 52 = .ok (.goto (-31), 3) := by decide +kernel
theorem dX5_does_55 : decode cX5_does 55 = .ok (.aload_n 0, 1) := by decide +kernel
theorem dX5_does_56 : decode cX5_does 56 = .ok (.invokevirtual 48, 3) := by decide +kernel
theorem dX5_does_59 : decode cX5_does 59 = .ok (.aload_n 0, 1) := by decide +kernel
theorem dX5_does_60 : decode cX5_does 60 = .ok (.getfield 201, 3) := by decide +kernel
theorem dX5_does_63 : decode cX5_does 63 = .ok (.ireturn, 1) := by decide +kernel
theorem dX5_toldAt_0 : decode cX5_toldAt 0 = .ok (.iload_n 1, 1) := by decide +kernel
theorem dX5_toldAt_1 : decode cX5_toldAt 1 = .ok (.iconst 3, 1) := by decide +kernel
theorem dX5_toldAt_2 : decode cX5_toldAt 2 = .ok (.if_icmp .ge 12, 3) := by decide +kernel
theorem dX5_toldAt_5 : decode cX5_toldAt 5 = .ok (.aload_n 0, 1) := by decide +kernel
theorem dX5_toldAt_6 : decode cX5_toldAt 6 = .ok (.getfield 19, 3) := by decide +kernel
theorem dX5_toldAt_9 : decode cX5_toldAt 9 = .ok (.iload_n 1, 1) := by decide +kernel
theorem dX5_toldAt_10 : decode cX5_toldAt 10 = .ok (.iaload, 1) := by decide +kernel
theorem dX5_toldAt_11 : decode cX5_toldAt 11 = .ok (.goto 19, 3) := by decide +kernel
theorem dX5_toldAt_14 : decode cX5_toldAt 14 = .ok (.iload_n 1, 1) := by decide +kernel
theorem dX5_toldAt_15 : decode cX5_toldAt 15 = .ok (.iconst 3, 1) := by decide +kernel
theorem dX5_toldAt_16 : decode cX5_toldAt 16 = .ok (.if_icmp .ne 10, 3) := by decide +kernel
theorem dX5_toldAt_19 : decode cX5_toldAt 19 = .ok (.aload_n 0, 1) := by decide +kernel
theorem dX5_toldAt_20 : decode cX5_toldAt 20 = .ok (.getfield 180, 3) := by decide +kernel
theorem dX5_toldAt_23 : decode cX5_toldAt 23 = .ok (.goto 7, 3) := by decide +kernel
theorem dX5_toldAt_26 : decode cX5_toldAt 26 = .ok (.aload_n 0, 1) := by decide +kernel
theorem dX5_toldAt_27 : decode cX5_toldAt 27 = .ok (.getfield 40, 3) := by decide +kernel
theorem dX5_toldAt_30 : decode cX5_toldAt 30 = .ok (.ireturn, 1) := by decide +kernel
theorem dX5_told_0 : decode cX5_told 0 = .ok (.iload_n 1, 1) := by decide +kernel
theorem dX5_told_1 : decode cX5_told 1 = .ok (.i2l, 1) := by decide +kernel
theorem dX5_told_2 : decode cX5_told 2 = .ok (.lconst 0, 1) := by decide +kernel
theorem dX5_told_3 : decode cX5_told 3 = .ok (.ldc2_w 216, 3) := by decide +kernel
theorem dX5_told_6 : decode cX5_told 6 = .ok (.invokestatic 53, 3) := by decide +kernel
theorem dX5_told_9 : decode cX5_told 9 = .ok (.ifCond .eq 11, 3) := by decide +kernel
theorem dX5_told_12 : decode cX5_told 12 = .ok (.aload_n 0, 1) := by decide +kernel
theorem dX5_told_13 : decode cX5_told 13 = .ok (.iload_n 1, 1) := by decide +kernel
theorem dX5_told_14 : decode cX5_told 14 = .ok (.invokevirtual 218, 3) := by decide +kernel
theorem dX5_told_17 : decode cX5_told 17 = .ok (.goto 9, 3) := by decide +kernel
theorem dX5_told_20 : decode cX5_told 20 = .ok (.aload_n 0, 1) := by decide +kernel
theorem dX5_told_21 : decode cX5_told 21 = .ok (.bipush (-2), 2) := by decide +kernel
theorem dX5_told_23 : decode cX5_told 23 = .ok (.invokevirtual 44, 3) := by decide +kernel
theorem dX5_told_26 : decode cX5_told 26 = .ok (.ireturn, 1) := by decide +kernel
theorem dX5_mix_0 : decode cX5_mix 0 = .ok (.aload_n 0, 1) := by decide +kernel
theorem dX5_mix_1 : decode cX5_mix 1 = .ok (.ldc2_w 221, 3) := by decide +kernel
theorem dX5_mix_4 : decode cX5_mix 4 = .ok (.aload_n 0, 1) := by decide +kernel
theorem dX5_mix_5 : decode cX5_mix 5 = .ok (.getfield 223, 3) := by decide +kernel
theorem dX5_mix_8 : decode cX5_mix 8 = .ok (.lmul, 1) := by decide +kernel
theorem dX5_mix_9 : decode cX5_mix 9 = .ok (.lload_n 1, 1) := by decide +kernel
theorem dX5_mix_10 : decode cX5_mix 10 = .ok (.ladd, 1) := by decide +kernel
theorem dX5_mix_11 : decode cX5_mix 11 = .ok (.putfield 223, 3) := by decide +kernel
theorem dX5_mix_14 : decode cX5_mix 14 = .ok (.return_, 1) := by decide +kernel
theorem dX5_digest_0 : decode cX5_digest 0 = .ok (.aload_n 0, 1) := by decide +kernel
theorem dX5_digest_1 : decode cX5_digest 1 = .ok (.ldc2_w 227, 3) := by decide +kernel
theorem dX5_digest_4 : decode cX5_digest 4 = .ok (.putfield 223, 3) := by decide +kernel
theorem dX5_digest_7 : decode cX5_digest 7 = .ok (.iconst 0, 1) := by decide +kernel
theorem dX5_digest_8 : decode cX5_digest 8 = .ok (.istore_n 1, 1) := by decide +kernel
theorem dX5_digest_9 : decode cX5_digest 9 = .ok (.iload_n 1, 1) := by decide +kernel
theorem dX5_digest_10 : decode cX5_digest 10 = .ok (.iconst 5, 1) := by decide +kernel
theorem dX5_digest_11 : decode cX5_digest 11 = .ok (.if_icmp .ge 19, 3) := by decide +kernel
theorem dX5_digest_14 : decode cX5_digest 14 = .ok (.aload_n 0, 1) := by decide +kernel
theorem dX5_digest_15 : decode cX5_digest 15 = .ok (.aload_n 0, 1) := by decide +kernel
theorem dX5_digest_16 : decode cX5_digest 16 = .ok (.iload_n 1, 1) := by decide +kernel
theorem dX5_digest_17 : decode cX5_digest 17 = .ok (.invokevirtual 218, 3) := by decide +kernel
theorem dX5_digest_20 : decode cX5_digest 20 = .ok (.i2l, 1) := by decide +kernel
theorem dX5_digest_21 : decode cX5_digest 21 = .ok (.invokevirtual 229, 3) := by decide +kernel
theorem dX5_digest_24 : decode cX5_digest 24 = .ok (.iinc 1 1, 3) := by decide +kernel
theorem dX5_digest_27 : decode cX5_digest 27 = .ok (.goto (-18), 3) := by decide +kernel
theorem dX5_digest_30 : decode cX5_digest 30 = .ok (.iconst 0, 1) := by decide +kernel
theorem dX5_digest_31 : decode cX5_digest 31 = .ok (.istore_n 1, 1) := by decide +kernel
theorem dX5_digest_32 : decode cX5_digest 32 = .ok (.iload_n 1, 1) := by decide +kernel
theorem dX5_digest_33 : decode cX5_digest 33 = .ok (.bipush 8, 2) := by decide +kernel
theorem dX5_digest_35 : decode cX5_digest 35 = .ok (.if_icmp .ge 19, 3) := by decide +kernel
theorem dX5_digest_38 : decode cX5_digest 38 = .ok (.aload_n 0, 1) := by decide +kernel
theorem dX5_digest_39 : decode cX5_digest 39 = .ok (.aload_n 0, 1) := by decide +kernel
theorem dX5_digest_40 : decode cX5_digest 40 = .ok (.iload_n 1, 1) := by decide +kernel
theorem dX5_digest_41 : decode cX5_digest 41 = .ok (.invokevirtual 164, 3) := by decide +kernel
theorem dX5_digest_44 : decode cX5_digest 44 = .ok (.i2l, 1) := by decide +kernel
theorem dX5_digest_45 : decode cX5_digest 45 = .ok (.invokevirtual 229, 3) := by decide +kernel
theorem dX5_digest_48 : decode cX5_digest 48 = .ok (.iinc 1 1, 3) := by decide +kernel
theorem dX5_digest_51 : decode cX5_digest 51 = .ok (.goto (-19), 3) := by decide +kernel
theorem dX5_digest_54 : decode cX5_digest 54 = .ok (.iconst 0, 1) := by decide +kernel
theorem dX5_digest_55 : decode cX5_digest 55 = .ok (.istore_n 1, 1) := by decide +kernel
theorem dX5_digest_56 : decode cX5_digest 56 = .ok (.iload_n 1, 1) := by decide +kernel
theorem dX5_digest_57 : decode cX5_digest 57 = .ok (.bipush 6, 2) := by decide +kernel
theorem dX5_digest_59 : decode cX5_digest 59 = .ok (.if_icmp .ge 33, 3) := by decide +kernel
theorem dX5_digest_62 : decode cX5_digest 62 = .ok (.iconst 0, 1) := by decide +kernel
theorem dX5_digest_63 : decode cX5_digest 63 = .ok (.istore_n 2, 1) := by decide +kernel
theorem dX5_digest_64 : decode cX5_digest 64 = .ok (.iload_n 2, 1) := by decide +kernel
theorem dX5_digest_65 : decode cX5_digest 65 = .ok (.iconst 3, 1) := by decide +kernel
theorem dX5_digest_66 : decode cX5_digest 66 = .ok (.if_icmp .ge 20, 3) := by decide +kernel
theorem dX5_digest_69 : decode cX5_digest 69 = .ok (.aload_n 0, 1) := by decide +kernel
theorem dX5_digest_70 : decode cX5_digest 70 = .ok (.aload_n 0, 1) := by decide +kernel
theorem dX5_digest_71 : decode cX5_digest 71 = .ok (.iload_n 1, 1) := by decide +kernel
theorem dX5_digest_72 : decode cX5_digest 72 = .ok (.iload_n 2, 1) := by decide +kernel
theorem dX5_digest_73 : decode cX5_digest 73 = .ok (.invokevirtual 153, 3) := by decide +kernel
theorem dX5_digest_76 : decode cX5_digest 76 = .ok (.i2l, 1) := by decide +kernel
theorem dX5_digest_77 : decode cX5_digest 77 = .ok (.invokevirtual 229, 3) := by decide +kernel
theorem dX5_digest_80 : decode cX5_digest 80 = .ok (.iinc 2 1, 3) := by decide +kernel
theorem dX5_digest_83 : decode cX5_digest 83 = .ok (.goto (-19), 3) := by decide +kernel
theorem dX5_digest_86 : decode cX5_digest 86 = .ok (.iinc 1 1, 3) := by decide +kernel
theorem dX5_digest_89 : decode cX5_digest 89 = .ok (.goto (-33), 3) := by decide +kernel
theorem dX5_digest_92 : decode cX5_digest 92 = .ok (.iconst 0, 1) := by decide +kernel
theorem dX5_digest_93 : decode cX5_digest 93 = .ok (.istore_n 1, 1) := by decide +kernel
theorem dX5_digest_94 : decode cX5_digest 94 = .ok (.iload_n 1, 1) := by decide +kernel
theorem dX5_digest_95 : decode cX5_digest 95 = .ok (.bipush 19, 2) := by decide +kernel
theorem dX5_digest_97 : decode cX5_digest 97 = .ok (.if_icmp .ge 23, 3) := by decide +kernel
theorem dX5_digest_100 : decode cX5_digest 100 = .ok (.aload_n 0, 1) := by decide +kernel
theorem dX5_digest_101 : decode cX5_digest 101 = .ok (.aload_n 0, 1) := by decide +kernel
theorem dX5_digest_102 : decode cX5_digest 102 = .ok (.getfield 7, 3) := by decide +kernel
theorem dX5_digest_105 : decode cX5_digest 105 = .ok (.bipush 12, 2) := by decide +kernel
theorem dX5_digest_107 : decode cX5_digest 107 = .ok (.iload_n 1, 1) := by decide +kernel
theorem dX5_digest_108 : decode cX5_digest 108 = .ok (.iadd, 1) := by decide +kernel
theorem dX5_digest_109 : decode cX5_digest 109 = .ok (.iaload, 1) := by decide +kernel
theorem dX5_digest_110 : decode cX5_digest 110 = .ok (.i2l, 1) := by decide +kernel
theorem dX5_digest_111 : decode cX5_digest 111 = .ok (.invokevirtual 229, 3) := by decide +kernel
theorem dX5_digest_114 : decode cX5_digest 114 = .ok (.iinc 1 1, 3) := by decide +kernel
theorem dX5_digest_117 : decode cX5_digest 117 = .ok (.goto (-23), 3) := by decide +kernel
theorem dX5_digest_120 : decode cX5_digest 120 = .ok (.aload_n 0, 1) := by decide +kernel
theorem dX5_digest_121 : decode cX5_digest 121 = .ok (.invokevirtual 233, 3) := by decide +kernel
theorem dX5_digest_124 : decode cX5_digest 124 = .ok (.lstore_n 1, 1) := by decide +kernel
theorem dX5_digest_125 : decode cX5_digest 125 = .ok (.aload_n 0, 1) := by decide +kernel
theorem dX5_digest_126 : decode cX5_digest 126 = .ok (.lload_n 1, 1) := by decide +kernel
theorem dX5_digest_127 : decode cX5_digest 127 = .ok (.invokevirtual 229, 3) := by decide +kernel
theorem dX5_digest_130 : decode cX5_digest 130 = .ok (.aload_n 0, 1) := by decide +kernel
theorem dX5_digest_131 : decode cX5_digest 131 = .ok (.aload_n 0, 1) := by decide +kernel
theorem dX5_digest_132 : decode cX5_digest 132 = .ok (.bipush 9, 2) := by decide +kernel
theorem dX5_digest_134 : decode cX5_digest 134 = .ok (.invokevirtual 171, 3) := by decide +kernel
theorem dX5_digest_137 : decode cX5_digest 137 = .ok (.invokevirtual 229, 3) := by decide +kernel
theorem dX5_digest_140 : decode cX5_digest 140 = .ok (.aload_n 0, 1) := by decide +kernel
theorem dX5_digest_141 : decode cX5_digest 141 = .ok (.aload_n 0, 1) := by decide +kernel
theorem dX5_digest_142 : decode cX5_digest 142 = .ok (.lload_n 1, 1) := by decide +kernel
theorem dX5_digest_143 : decode cX5_digest 143 = .ok (.iconst 3, 1) := by decide +kernel
theorem dX5_digest_144 : decode cX5_digest 144 = .ok (.iconst 0, 1) := by decide +kernel
theorem dX5_digest_145 : decode cX5_digest 145 = .ok (.invokevirtual 174, 3) := by decide +kernel
theorem dX5_digest_148 : decode cX5_digest 148 = .ok (.i2l, 1) := by decide +kernel
theorem dX5_digest_149 : decode cX5_digest 149 = .ok (.invokevirtual 229, 3) := by decide +kernel
theorem dX5_digest_152 : decode cX5_digest 152 = .ok (.aload_n 0, 1) := by decide +kernel
theorem dX5_digest_153 : decode cX5_digest 153 = .ok (.getfield 223, 3) := by decide +kernel
theorem dX5_digest_156 : decode cX5_digest 156 = .ok (.lreturn, 1) := by decide +kernel
