theorem dX6_init_0 : decode cX6_init 0 = .ok (.aload_n 0, 1) := by decide +kernel
theorem dX6_init_1 : decode cX6_init 1 = .ok (.invokespecial 1, 3) := by decide +kernel
theorem dX6_init_4 : decode cX6_init 4 = .ok (.aload_n 0, 1) := by decide +kernel
theorem dX6_init_5 : decode cX6_init 5 = .ok (.iconst 3, 1) := by decide +kernel
theorem dX6_init_6 : decode cX6_init 6 = .ok (.newarray .int, 2) := by decide +kernel
theorem dX6_init_8 : decode cX6_init 8 = .ok (.putfield 7, 3) := by decide +kernel
theorem dX6_init_11 : decode cX6_init 11 = .ok (.aload_n 0, 1) := by decide +kernel
theorem dX6_init_12 : decode cX6_init 12 = .ok (.bipush 123, 2) := by decide +kernel
theorem dX6_init_14 : decode cX6_init 14 = .ok (.newarray .int, 2) := by decide +kernel
theorem dX6_init_16 : decode cX6_init 16 = .ok (.putfield 13, 3) := by decide +kernel
theorem dX6_init_19 : decode cX6_init 19 = .ok (.aload_n 0, 1) := by decide +kernel
theorem dX6_init_20 : decode cX6_init 20 = .ok (.sipush 738, 3) := by decide +kernel
theorem dX6_init_23 : decode cX6_init 23 = .ok (.newarray .int, 2) := by decide +kernel
theorem dX6_init_25 : decode cX6_init 25 = .ok (.putfield 16, 3) := by decide +kernel
theorem dX6_init_28 : decode cX6_init 28 = .ok (.aload_n 0, 1) := by decide +kernel
theorem dX6_init_29 : decode cX6_init 29 = .ok (.bipush 6, 2) := by decide +kernel
theorem dX6_init_31 : decode cX6_init 31 = .ok (.newarray .int, 2) := by decide +kernel
theorem dX6_init_33 : decode cX6_init 33 = .ok (.putfield 19, 3) := by decide +kernel
theorem dX6_init_36 : decode cX6_init 36 = .ok (.aload_n 0, 1) := by decide +kernel
theorem dX6_init_37 : decode cX6_init 37 = .ok (.bipush 6, 2) := by decide +kernel
theorem dX6_init_39 : decode cX6_init 39 = .ok (.newarray .int, 2) := by decide +kernel
theorem dX6_init_41 : decode cX6_init 41 = .ok (.putfield 22, 3) := by decide +kernel
theorem dX6_init_44 : decode cX6_init 44 = .ok (.aload_n 0, 1) := by decide +kernel
theorem dX6_init_45 : decode cX6_init 45 = .ok (.bipush 6, 2) := by decide +kernel
theorem dX6_init_47 : decode cX6_init 47 = .ok (.newarray .int, 2) := by decide +kernel
theorem dX6_init_49 : decode cX6_init 49 = .ok (.putfield 25, 3) := by decide +kernel
theorem dX6_init_52 : decode cX6_init 52 = .ok (.aload_n 0, 1) := by decide +kernel
theorem dX6_init_53 : decode cX6_init 53 = .ok (.bipush 36, 2) := by decide +kernel
theorem dX6_init_55 : decode cX6_init 55 = .ok (.newarray .int, 2) := by decide +kernel
theorem dX6_init_57 : decode cX6_init 57 = .ok (.putfield 28, 3) := by decide +kernel
theorem dX6_init_60 : decode cX6_init 60 = .ok (.aload_n 0, 1) := by decide +kernel
theorem dX6_init_61 : decode cX6_init 61 = .ok (.bipush 17, 2) := by decide +kernel
theorem dX6_init_63 : decode cX6_init 63 = .ok (.newarray .int, 2) := by decide +kernel
theorem dX6_init_65 : decode cX6_init 65 = .ok (.putfield 31, 3) := by decide +kernel
theorem dX6_init_68 : decode cX6_init 68 = .ok (.aload_n 0, 1) := by decide +kernel
theorem dX6_init_69 : decode cX6_init 69 = .ok (.bipush 17, 2) := by decide +kernel
theorem dX6_init_71 : decode cX6_init 71 = .ok (.newarray .int, 2) := by decide +kernel
theorem dX6_init_73 : decode cX6_init 73 = .ok (.putfield 34, 3) := by decide +kernel
theorem dX6_init_76 : decode cX6_init 76 = .ok (.aload_n 0, 1) := by decide +kernel
theorem dX6_init_77 : decode cX6_init 77 = .ok (.bipush 120, 2) := by decide +kernel
theorem dX6_init_79 : decode cX6_init 79 = .ok (.newarray .int, 2) := by decide +kernel
theorem dX6_init_81 : decode cX6_init 81 = .ok (.putfield 37, 3) := by decide +kernel
theorem dX6_init_84 : decode cX6_init 84 = .ok (.aload_n 0, 1) := by decide +kernel
theorem dX6_init_85 : decode cX6_init 85 = .ok (.sipush 200, 3) := by decide +kernel
theorem dX6_init_88 : decode cX6_init 88 = .ok (.newarray .int, 2) := by decide +kernel
theorem dX6_init_90 : decode cX6_init 90 = .ok (.putfield 40, 3) := by decide +kernel
theorem dX6_init_93 : decode cX6_init 93 = .ok (.aload_n 0, 1) := by decide +kernel
theorem dX6_init_94 : decode cX6_init 94 = .ok (.getfield 13, 3) := by decide +kernel
theorem dX6_init_97 : decode cX6_init 97 = .ok (.iconst 2, 1) := by decide +kernel
theorem dX6_init_98 : decode cX6_init 98 = .ok (.bipush 6, 2) := by decide +kernel
theorem dX6_init_100 : decode cX6_init 100 = .ok (.iastore, 1) := by decide +kernel
theorem dX6_init_101 : decode cX6_init 101 = .ok (.aload_n 0, 1) := by decide +kernel
theorem dX6_init_102 : decode cX6_init 102 = .ok (.getfield 13, 3) := by decide +kernel
theorem dX6_init_105 : decode cX6_init 105 = .ok (.iconst 3, 1) := by decide +kernel
theorem dX6_init_106 : decode cX6_init 106 = .ok (.iconst 2, 1) := by decide +kernel
theorem dX6_init_107 : decode cX6_init 107 = .ok (.iastore, 1) := by decide +kernel
theorem dX6_init_108 : decode cX6_init 108 = .ok (.aload_n 0, 1) := by decide +kernel
theorem dX6_init_109 : decode cX6_init 109 = .ok (.getfield 13, 3) := by decide +kernel
theorem dX6_init_112 : decode cX6_init 112 = .ok (.bipush 8, 2) := by decide +kernel
theorem dX6_init_114 : decode cX6_init 114 = .ok (.iconst 4, 1) := by decide +kernel
theorem dX6_init_115 : decode cX6_init 115 = .ok (.iastore, 1) := by decide +kernel
theorem dX6_init_116 : decode cX6_init 116 = .ok (.return_, 1) := by decide +kernel
theorem dX6_bad_0 : decode cX6_bad 0 = .ok (.aload_n 0, 1) := by decide +kernel
theorem dX6_bad_1 : decode cX6_bad 1 = .ok (.getfield 7, 3) := by decide +kernel
theorem dX6_bad_4 : decode cX6_bad 4 = .ok (.iconst 0, 1) := by decide +kernel
theorem dX6_bad_5 : decode cX6_bad 5 = .ok (.dup2, 1) := by decide +kernel
theorem dX6_bad_6 : decode cX6_bad 6 = .ok (.iaload, 1) := by decide +kernel
theorem dX6_bad_7 : decode cX6_bad 7 = .ok (.iconst 1, 1) := by decide +kernel
theorem dX6_bad_8 : decode cX6_bad 8 = .ok (.iadd, 1) := by decide +kernel
theorem dX6_bad_9 : decode cX6_bad 9 = .ok (.iastore, 1) := by decide +kernel
theorem dX6_bad_10 : decode cX6_bad 10 = .ok (.bipush (-2), 2) := by decide +kernel
theorem dX6_bad_12 : decode cX6_bad 12 = .ok (.ireturn, 1) := by decide +kernel
theorem dX6_no_0 : decode cX6_no 0 = .ok (.aload_n 0, 1) := by decide +kernel
theorem dX6_no_1 : decode cX6_no 1 = .ok (.getfield 7, 3) := by decide +kernel
theorem dX6_no_4 : decode cX6_no 4 = .ok (.iconst 1, 1) := by decide +kernel
theorem dX6_no_5 : decode cX6_no 5 = .ok (.dup2, 1) := by decide +kernel
theorem dX6_no_6 : decode cX6_no 6 = .ok (.iaload, 1) := by decide +kernel
theorem dX6_no_7 : decode cX6_no 7 = .ok (.iconst 1, 1) := by decide +kernel
theorem dX6_no_8 : decode cX6_no 8 = .ok (.iadd, 1) := by decide +kernel
theorem dX6_no_9 : decode cX6_no 9 = .ok (.iastore, 1) := by decide +kernel
theorem dX6_no_10 : decode cX6_no 10 = .ok (.bipush (-3), 2) := by decide +kernel
theorem dX6_no_12 : decode cX6_no 12 = .ok (.ireturn, 1) := by decide +kernel
theorem dX6_full_0 : decode cX6_full 0 = .ok (.aload_n 0, 1) := by decide +kernel
theorem dX6_full_1 : decode cX6_full 1 = .ok (.getfield 7, 3) := by decide +kernel
theorem dX6_full_4 : decode cX6_full 4 = .ok (.iconst 2, 1) := by decide +kernel
theorem dX6_full_5 : decode cX6_full 5 = .ok (.dup2, 1) := by decide +kernel
theorem dX6_full_6 : decode cX6_full 6 = .ok (.iaload, 1) := by decide +kernel
theorem dX6_full_7 : decode cX6_full 7 = .ok (.iconst 1, 1) := by decide +kernel
theorem dX6_full_8 : decode cX6_full 8 = .ok (.iadd, 1) := by decide +kernel
theorem dX6_full_9 : decode cX6_full 9 = .ok (.iastore, 1) := by decide +kernel
theorem dX6_full_10 : decode cX6_full 10 = .ok (.bipush (-4), 2) := by decide +kernel
theorem dX6_full_12 : decode cX6_full 12 = .ok (.ireturn, 1) := by decide +kernel
theorem dX6_counted_0 : decode cX6_counted 0 = .ok (.iload_n 1, 1) := by decide +kernel
theorem dX6_counted_1 : decode cX6_counted 1 = .ok (.bipush (-2), 2) := by decide +kernel
theorem dX6_counted_3 : decode cX6_counted 3 = .ok (.if_icmp .ne 10, 3) := by decide +kernel
theorem dX6_counted_6 : decode cX6_counted 6 = .ok (.aload_n 0, 1) := by decide +kernel
theorem dX6_counted_7 : decode cX6_counted 7 = .ok (.invokevirtual 43, 3) := by decide +kernel
theorem dX6_counted_10 : decode cX6_counted 10 = .ok (.goto 30, 3) := by decide +kernel
theorem dX6_counted_13 : decode cX6_counted 13 = .ok (.iload_n 1, 1) := by decide +kernel
theorem dX6_counted_14 : decode cX6_counted 14 = .ok (.bipush (-3), 2) := by decide +kernel
theorem dX6_counted_16 : decode cX6_counted 16 = .ok (.if_icmp .ne 10, 3) := by decide +kernel
theorem dX6_counted_19 : decode cX6_counted 19 = .ok (.aload_n 0, 1) := by decide +kernel
theorem dX6_counted_20 : decode cX6_counted 20 = .ok (.invokevirtual 47, 3) := by decide +kernel
theorem dX6_counted_23 : decode cX6_counted 23 = .ok (.goto 17, 3) := by decide +kernel
theorem dX6_counted_26 : decode cX6_counted 26 = .ok (.iload_n 1, 1) := by decide +kernel
theorem dX6_counted_27 : decode cX6_counted 27 = .ok (.bipush (-4), 2) := by decide +kernel
theorem dX6_counted_29 : decode cX6_counted 29 = .ok (.if_icmp .ne 10, 3) := by decide +kernel
theorem dX6_counted_32 : decode cX6_counted 32 = .ok (.aload_n 0, 1) := by decide +kernel
theorem dX6_counted_33 : decode cX6_counted 33 = .ok (.invokevirtual 50, 3) := by decide +kernel
theorem dX6_counted_36 : decode cX6_counted 36 = .ok (.goto 4, 3) := by decide +kernel
theorem dX6_counted_39 : decode cX6_counted 39 = .ok (.iload_n 1, 1) := by decide +kernel
theorem dX6_counted_40 : decode cX6_counted 40 = .ok (.ireturn, 1) := by decide +kernel
theorem dX6_in_0 : decode cX6_in 0 = .ok (.iload_n 0, 1) := by decide +kernel
theorem dX6_in_1 : decode cX6_in 1 = .ok (.iload_n 1, 1) := by decide +kernel
theorem dX6_in_2 : decode cX6_in 2 = .ok (.if_icmp .lt 12, 3) := by decide +kernel
theorem dX6_in_5 : decode cX6_in 5 = .ok (.iload_n 0, 1) := by decide +kernel
theorem dX6_in_6 : decode cX6_in 6 = .ok (.iload_n 2, 1) := by decide +kernel
theorem dX6_in_7 : decode cX6_in 7 = .ok (.if_icmp .gt 7, 3) := by decide +kernel
theorem dX6_in_10 : decode cX6_in 10 = .ok (.iconst 1, 1) := by decide +kernel
theorem dX6_in_11 : decode cX6_in 11 = .ok (.goto 4, 3) := by decide +kernel
theorem dX6_in_14 : decode cX6_in 14 = .ok (.iconst 0, 1) := by decide +kernel
theorem dX6_in_15 : decode cX6_in 15 = .ok (.ireturn, 1) := by decide +kernel
theorem dX6_puts_0 : decode cX6_puts 0 = .ok (.iconst 0, 1) := by decide +kernel
theorem dX6_puts_1 : decode cX6_puts 1 = .ok (.istore_n 2, 1) := by decide +kernel
theorem dX6_puts_2 : decode cX6_puts 2 = .ok (.iload_n 2, 1) := by decide +kernel
theorem dX6_puts_3 : decode cX6_puts 3 = .ok (.bipush 123, 2) := by decide +kernel
theorem dX6_puts_5 : decode cX6_puts 5 = .ok (.if_icmp .ge 26, 3) := by decide +kernel
theorem dX6_puts_8 : decode cX6_puts 8 = .ok (.aload_n 0, 1) := by decide +kernel
theorem dX6_puts_9 : decode cX6_puts 9 = .ok (.getfield 16, 3) := by decide +kernel
theorem dX6_puts_12 : decode cX6_puts 12 = .ok (.bipush 123, 2) := by decide +kernel
theorem dX6_puts_14 : decode cX6_puts 14 = .ok (.iload_n 1, 1) := by decide +kernel
theorem dX6_puts_15 : decode cX6_puts 15 = .ok (.imul, 1) := by decide +kernel
theorem dX6_puts_16 : decode cX6_puts 16 = .ok (.iload_n 2, 1) := by decide +kernel
theorem dX6_puts_17 : decode cX6_puts 17 = .ok (.iadd, 1) := by decide +kernel
theorem dX6_puts_18 : decode cX6_puts 18 = .ok (.aload_n 0, 1) := by decide +kernel
theorem dX6_puts_19 : decode cX6_puts 19 = .ok (.getfield 13, 3) := by decide +kernel
theorem dX6_puts_22 : decode cX6_puts 22 = .ok (.iload_n 2, 1) := by decide +kernel
theorem dX6_puts_23 : decode cX6_puts 23 = .ok (.iaload, 1) := by decide +kernel
theorem dX6_puts_24 : decode cX6_puts 24 = .ok (.iastore, 1) := by decide +kernel
theorem dX6_puts_25 : decode cX6_puts 25 = .ok (.iinc 2 1, 3) := by decide +kernel
theorem dX6_puts_28 : decode cX6_puts 28 = .ok (.goto (-26), 3) := by decide +kernel
theorem dX6_puts_31 : decode cX6_puts 31 = .ok (.return_, 1) := by decide +kernel
theorem dX6_takes_0 : decode cX6_takes 0 = .ok (.iconst 0, 1) := by decide +kernel
theorem dX6_takes_1 : decode cX6_takes 1 = .ok (.istore_n 2, 1) := by decide +kernel
theorem dX6_takes_2 : decode cX6_takes 2 = .ok (.iload_n 2, 1) := by decide +kernel
theorem dX6_takes_3 : decode cX6_takes 3 = .ok (.bipush 123, 2) := by decide +kernel
theorem dX6_takes_5 : decode cX6_takes 5 = .ok (.if_icmp .ge 26, 3) := by decide +kernel
theorem dX6_takes_8 : decode cX6_takes 8 = .ok (.aload_n 0, 1) := by decide +kernel
theorem dX6_takes_9 : decode cX6_takes 9 = .ok (.getfield 13, 3) := by decide +kernel
theorem dX6_takes_12 : decode cX6_takes 12 = .ok (.iload_n 2, 1) := by decide +kernel
theorem dX6_takes_13 : decode cX6_takes 13 = .ok (.aload_n 0, 1) := by decide +kernel
theorem dX6_takes_14 : decode cX6_takes 14 = .ok (.getfield 16, 3) := by decide +kernel
theorem dX6_takes_17 : decode cX6_takes 17 = .ok (.bipush 123, 2) := by decide +kernel
theorem dX6_takes_19 : decode cX6_takes 19 = .ok (.iload_n 1, 1) := by decide +kernel
theorem dX6_takes_20 : decode cX6_takes 20 = .ok (.imul, 1) := by decide +kernel
theorem dX6_takes_21 : decode cX6_takes 21 = .ok (.iload_n 2, 1) := by decide +kernel
theorem dX6_takes_22 : decode cX6_takes 22 = .ok (.iadd, 1) := by decide +kernel
theorem dX6_takes_23 : decode cX6_takes 23 = .ok (.iaload, 1) := by decide +kernel
theorem dX6_takes_24 : decode cX6_takes 24 = .ok (.iastore, 1) := by decide +kernel
theorem dX6_takes_25 : decode cX6_takes 25 = .ok (.iinc 2 1, 3) := by decide +kernel
theorem dX6_takes_28 : decode cX6_takes 28 = .ok (.goto (-26), 3) := by decide +kernel
theorem dX6_takes_31 : decode cX6_takes 31 = .ok (.return_, 1) := by decide +kernel
theorem dX6_leavesState_0 : decode cX6_leavesState 0 = .ok (.aload_n 0, 1) := by decide +kernel
theorem dX6_leavesState_1 : decode cX6_leavesState 1 = .ok (.getfield 53, 3) := by decide +kernel
theorem dX6_leavesState_4 : decode cX6_leavesState 4 = .ok (.iconst 5, 1) := by decide +kernel
theorem dX6_leavesState_5 : decode cX6_leavesState 5 = .ok (.if_icmp .ne 43, 3) := by decide +kernel
theorem dX6_leavesState_8 : decode cX6_leavesState 8 = .ok (.iconst 0, 1) := by decide +kernel
theorem dX6_leavesState_9 : decode cX6_leavesState 9 = .ok (.istore_n 1, 1) := by decide +kernel
theorem dX6_leavesState_10 : decode cX6_leavesState 10 = .ok (.iload_n 1, 1) := by decide +kernel
theorem dX6_leavesState_11 : decode cX6_leavesState 11 = .ok (.sipush 492, 3) := by decide +kernel
theorem dX6_leavesState_14 : decode cX6_leavesState 14 = .ok (.if_icmp .ge 24, 3) := by decide +kernel
theorem dX6_leavesState_17 : decode cX6_leavesState 17 = .ok (.aload_n 0, 1) := by decide +kernel
theorem dX6_leavesState_18 : decode cX6_leavesState 18 = .ok (.getfield 16, 3) := by decide +kernel
theorem dX6_leavesState_21 : decode cX6_leavesState 21 = .ok (.iload_n 1, 1) := by decide +kernel
theorem dX6_leavesState_22 : decode cX6_leavesState 22 = .ok (.aload_n 0, 1) := by decide +kernel
theorem dX6_leavesState_23 : decode cX6_leavesState 23 = .ok (.getfield 16, 3) := by decide +kernel
theorem dX6_leavesState_26 : decode cX6_leavesState 26 = .ok (.iload_n 1, 1) := by decide +kernel
theorem dX6_leavesState_27 : decode cX6_leavesState 27 = .ok (.bipush 123, 2) := by decide +kernel
theorem dX6_leavesState_29 : decode cX6_leavesState 29 = .ok (.iadd, 1) := by decide +kernel
theorem dX6_leavesState_30 : decode cX6_leavesState 30 = .ok (.iaload, 1) := by decide +kernel
theorem dX6_leavesState_31 : decode cX6_leavesState 31 = .ok (.iastore, 1) := by decide +kernel
theorem dX6_leavesState_32 : decode cX6_leavesState 32 = .ok (.iinc 1 1, 3) := by decide +kernel
theorem dX6_leavesState_35 : decode cX6_leavesState 35 = .ok (.goto (-25), 3) := by decide +kernel
theorem dX6_leavesState_38 : decode cX6_leavesState 38 = .ok (.aload_n 0, 1) := by decide +kernel
theorem dX6_leavesState_39 : decode cX6_leavesState 39 = .ok (.dup, 1) := by decide +kernel
theorem dX6_leavesState_40 : decode cX6_leavesState 40 = .ok (.getfield 53, 3) := by decide +kernel
theorem dX6_leavesState_43 : decode cX6_leavesState 43 = .ok (.iconst 1, 1) := by decide +kernel
theorem dX6_leavesState_44 : decode cX6_leavesState 44 = .ok (.isub, 1) := by decide +kernel
theorem dX6_leavesState_45 : decode cX6_leavesState 45 = .ok (.putfield 53, 3) := by decide +kernel
theorem dX6_leavesState_48 : decode cX6_leavesState 48 = .ok (.iconst 0, 1) := by decide +kernel
theorem dX6_leavesState_49 : decode cX6_leavesState 49 = .ok (.istore_n 1, 1) := by decide +kernel
theorem dX6_leavesState_50 : decode cX6_leavesState 50 = .ok (.iload_n 1, 1) := by decide +kernel
theorem dX6_leavesState_51 : decode cX6_leavesState 51 = .ok (.bipush 123, 2) := by decide +kernel
theorem dX6_leavesState_53 : decode cX6_leavesState 53 = .ok (.if_icmp .ge 33, 3) := by decide +kernel
theorem dX6_leavesState_56 : decode cX6_leavesState 56 = .ok (.aload_n 0, 1) := by decide +kernel
theorem dX6_leavesState_57 : decode cX6_leavesState 57 = .ok (.getfield 16, 3) := by decide +kernel
theorem dX6_leavesState_60 : decode cX6_leavesState 60 = .ok (.bipush 123, 2) := by decide +kernel
theorem dX6_leavesState_62 : decode cX6_leavesState 62 = .ok (.aload_n 0, 1) := by decide +kernel
theorem dX6_leavesState_63 : decode cX6_leavesState 63 = .ok (.getfield 53, 3) := by decide +kernel
theorem dX6_leavesState_66 : decode cX6_leavesState 66 = .ok (.imul, 1) := by decide +kernel
theorem dX6_leavesState_67 : decode cX6_leavesState 67 = .ok (.iload_n 1, 1) := by decide +kernel
theorem dX6_leavesState_68 : decode cX6_leavesState 68 = .ok (.iadd, 1) := by decide +kernel
theorem dX6_leavesState_69 : decode cX6_leavesState 69 = .ok (.aload_n 0, 1) := by decide +kernel
theorem dX6_leavesState_70 : decode cX6_leavesState 70 = .ok (.getfield 16, 3) := by decide +kernel
theorem dX6_leavesState_73 : decode cX6_leavesState 73 = .ok (.sipush 615, 3) := by decide +kernel
theorem dX6_leavesState_76 : decode cX6_leavesState 76 = .ok (.iload_n 1, 1) := by decide +kernel
theorem dX6_leavesState_77 : decode cX6_leavesState 77 = .ok (.iadd, 1) := by decide +kernel
theorem dX6_leavesState_78 : decode cX6_leavesState 78 = .ok (.iaload, 1) := by decide +kernel
theorem dX6_leavesState_79 : decode cX6_leavesState 79 = .ok (.iastore, 1) := by decide +kernel
theorem dX6_leavesState_80 : decode cX6_leavesState 80 = .ok (.iinc 1 1, 3) := by decide +kernel
theorem dX6_leavesState_83 : decode cX6_leavesState 83 = .ok (.goto (-33), 3) := by decide +kernel
theorem dX6_leavesState_86 : decode cX6_leavesState 86 = .ok (.aload_n 0, 1) := by decide +kernel
theorem dX6_leavesState_87 : decode cX6_leavesState 87 = .ok (.dup, 1) := by decide +kernel
theorem dX6_leavesState_88 : decode cX6_leavesState 88 = .ok (.getfield 53, 3) := by decide +kernel
theorem dX6_leavesState_91 : decode cX6_leavesState 91 = .ok (.iconst 1, 1) := by decide +kernel
theorem dX6_leavesState_92 : decode cX6_leavesState 92 = .ok (.iadd, 1) := by decide +kernel
theorem dX6_leavesState_93 : decode cX6_leavesState 93 = .ok (.putfield 53, 3) := by decide +kernel
theorem dX6_leavesState_96 : decode cX6_leavesState 96 = .ok (.return_, 1) := by decide +kernel
theorem dX6_back_0 : decode cX6_back 0 = .ok (.aload_n 0, 1) := by decide +kernel
theorem dX6_back_1 : decode cX6_back 1 = .ok (.getfield 53, 3) := by decide +kernel
theorem dX6_back_4 : decode cX6_back 4 = .ok (.ifCond .ne 8, 3) := by decide +kernel
theorem dX6_back_7 : decode cX6_back 7 = .ok (.aload_n 0, 1) := by decide +kernel
theorem dX6_back_8 : decode cX6_back 8 = .ok (.invokevirtual 47, 3) := by decide +kernel
theorem dX6_back_11 : decode cX6_back 11 = .ok (.ireturn, 1) := by decide +kernel
theorem dX6_back_12 : decode cX6_back 12 = .ok (.aload_n 0, 1) := by decide +kernel
theorem dX6_back_13 : decode cX6_back 13 = .ok (.dup, 1) := by decide +kernel
theorem dX6_back_14 : decode cX6_back 14 = .ok (.getfield 53, 3) := by decide +kernel
theorem dX6_back_17 : decode cX6_back 17 = .ok (.iconst 1, 1) := by decide +kernel
theorem dX6_back_18 : decode cX6_back 18 = .ok (.isub, 1) := by decide +kernel
theorem dX6_back_19 : decode cX6_back 19 = .ok (.putfield 53, 3) := by decide +kernel
theorem dX6_back_22 : decode cX6_back 22 = .ok (.aload_n 0, 1) := by decide +kernel
theorem dX6_back_23 : decode cX6_back 23 = .ok (.aload_n 0, 1) := by decide +kernel
theorem dX6_back_24 : decode cX6_back 24 = .ok (.getfield 53, 3) := by decide +kernel
theorem dX6_back_27 : decode cX6_back 27 = .ok (.invokevirtual 57, 3) := by decide +kernel
theorem dX6_back_30 : decode cX6_back 30 = .ok (.aload_n 0, 1) := by decide +kernel
theorem dX6_back_31 : decode cX6_back 31 = .ok (.getfield 53, 3) := by decide +kernel
theorem dX6_back_34 : decode cX6_back 34 = .ok (.ireturn, 1) := by decide +kernel
theorem dX6_isLine_0 : decode cX6_isLine 0 = .ok (.iload_n 1, 1) := by decide +kernel
theorem dX6_isLine_1 : decode cX6_isLine 1 = .ok (.iconst 0, 1) := by decide +kernel
theorem dX6_isLine_2 : decode cX6_isLine 2 = .ok (.aload_n 0, 1) := by decide +kernel
theorem dX6_isLine_3 : decode cX6_isLine 3 = .ok (.getfield 13, 3) := by decide +kernel
theorem dX6_isLine_6 : decode cX6_isLine 6 = .ok (.iconst 0, 1) := by decide +kernel
theorem dX6_isLine_7 : decode cX6_isLine 7 = .ok (.iaload, 1) := by decide +kernel
theorem dX6_isLine_8 : decode cX6_isLine 8 = .ok (.iconst 1, 1) := by decide +kernel
theorem dX6_isLine_9 : decode cX6_isLine 9 = .ok (.isub, 1) := by decide +kernel
theorem dX6_isLine_10 : decode cX6_isLine 10 = .ok (.invokestatic 61, 3) := by decide +kernel
theorem dX6_isLine_13 : decode cX6_isLine 13 = .ok (.ireturn, 1) := by decide +kernel
theorem dX6_isPocket_0 : decode cX6_isPocket 0 = .ok (.iload_n 1, 1) := by decide +kernel
theorem dX6_isPocket_1 : decode cX6_isPocket 1 = .ok (.iconst 0, 1) := by decide +kernel
theorem dX6_isPocket_2 : decode cX6_isPocket 2 = .ok (.aload_n 0, 1) := by decide +kernel
theorem dX6_isPocket_3 : decode cX6_isPocket 3 = .ok (.getfield 13, 3) := by decide +kernel
theorem dX6_isPocket_6 : decode cX6_isPocket 6 = .ok (.iconst 1, 1) := by decide +kernel
theorem dX6_isPocket_7 : decode cX6_isPocket 7 = .ok (.iaload, 1) := by decide +kernel
theorem dX6_isPocket_8 : decode cX6_isPocket 8 = .ok (.iconst 1, 1) := by decide +kernel
theorem dX6_isPocket_9 : decode cX6_isPocket 9 = .ok (.isub, 1) := by decide +kernel
theorem dX6_isPocket_10 : decode cX6_isPocket 10 = .ok (.invokestatic 61, 3) := by decide +kernel
theorem dX6_isPocket_13 : decode cX6_isPocket 13 = .ok (.ireturn, 1) := by decide +kernel
theorem dX6_runsOf_0 : decode cX6_runsOf 0 = .ok (.aload_n 0, 1) := by decide +kernel
theorem dX6_runsOf_1 : decode cX6_runsOf 1 = .ok (.getfield 13, 3) := by decide +kernel
theorem dX6_runsOf_4 : decode cX6_runsOf 4 = .ok (.bipush 9, 2) := by decide +kernel
theorem dX6_runsOf_6 : decode cX6_runsOf 6 = .ok (.bipush 17, 2) := by decide +kernel
theorem dX6_runsOf_8 : decode cX6_runsOf 8 = .ok (.iload_n 1, 1) := by decide +kernel
theorem dX6_runsOf_9 : decode cX6_runsOf 9 = .ok (.imul, 1) := by decide +kernel
theorem dX6_runsOf_10 : decode cX6_runsOf 10 = .ok (.iadd, 1) := by decide +kernel
theorem dX6_runsOf_11 : decode cX6_runsOf 11 = .ok (.iaload, 1) := by decide +kernel
theorem dX6_runsOf_12 : decode cX6_runsOf 12 = .ok (.ireturn, 1) := by decide +kernel
theorem dX6_longOf_0 : decode cX6_longOf 0 = .ok (.aload_n 0, 1) := by decide +kernel
theorem dX6_longOf_1 : decode cX6_longOf 1 = .ok (.getfield 13, 3) := by decide +kernel
theorem dX6_longOf_4 : decode cX6_longOf 4 = .ok (.bipush 9, 2) := by decide +kernel
theorem dX6_longOf_6 : decode cX6_longOf 6 = .ok (.bipush 17, 2) := by decide +kernel
theorem dX6_longOf_8 : decode cX6_longOf 8 = .ok (.iload_n 1, 1) := by decide +kernel
theorem dX6_longOf_9 : decode cX6_longOf 9 = .ok (.imul, 1) := by decide +kernel
theorem dX6_longOf_10 : decode cX6_longOf 10 = .ok (.iadd, 1) := by decide +kernel
theorem dX6_longOf_11 : decode cX6_longOf 11 = .ok (.iconst 1, 1) := by decide +kernel
theorem dX6_longOf_12 : decode cX6_longOf 12 = .ok (.iadd, 1) := by decide +kernel
theorem dX6_longOf_13 : decode cX6_longOf 13 = .ok (.iload_n 2, 1) := by decide +kernel
theorem dX6_longOf_14 : decode cX6_longOf 14 = .ok (.iadd, 1) := by decide +kernel
theorem dX6_longOf_15 : decode cX6_longOf 15 = .ok (.iaload, 1) := by decide +kernel
theorem dX6_longOf_16 : decode cX6_longOf 16 = .ok (.ireturn, 1) := by decide +kernel
theorem dX6_turnOf_0 : decode cX6_turnOf 0 = .ok (.aload_n 0, 1) := by decide +kernel
theorem dX6_turnOf_1 : decode cX6_turnOf 1 = .ok (.getfield 13, 3) := by decide +kernel
theorem dX6_turnOf_4 : decode cX6_turnOf 4 = .ok (.bipush 9, 2) := by decide +kernel
theorem dX6_turnOf_6 : decode cX6_turnOf 6 = .ok (.bipush 17, 2) := by decide +kernel
theorem dX6_turnOf_8 : decode cX6_turnOf 8 = .ok (.iload_n 1, 1) := by decide +kernel
theorem dX6_turnOf_9 : decode cX6_turnOf 9 = .ok (.imul, 1) := by decide +kernel
theorem dX6_turnOf_10 : decode cX6_turnOf 10 = .ok (.iadd, 1) := by decide +kernel
theorem dX6_turnOf_11 : decode cX6_turnOf 11 = .ok (.bipush 9, 2) := by decide +kernel
theorem dX6_turnOf_13 : decode cX6_turnOf 13 = .ok (.iadd, 1) := by decide +kernel
theorem dX6_turnOf_14 : decode cX6_turnOf 14 = .ok (.iload_n 2, 1) := by decide +kernel
theorem dX6_turnOf_15 : decode cX6_turnOf 15 = .ok (.iadd, 1) := by decide +kernel
theorem dX6_turnOf_16 : decode cX6_turnOf 16 = .ok (.iaload, 1) := by decide +kernel
theorem dX6_turnOf_17 : decode cX6_turnOf 17 = .ok (.ireturn, 1) := by decide +kernel
theorem dX6_addLine_0 : decode cX6_addLine 0 = .ok (.iload_n 1, 1) := by decide +kernel
theorem dX6_addLine_1 : decode cX6_addLine 1 = .ok (.iconst 1, 1) := by decide +kernel
theorem dX6_addLine_2 : decode cX6_addLine 2 = .ok (.bipush 60, 2) := by decide +kernel
theorem dX6_addLine_4 : decode cX6_addLine 4 = .ok (.invokestatic 61, 3) := by decide +kernel
theorem dX6_addLine_7 : decode cX6_addLine 7 = .ok (.ifCond .ne 6, 3) := by decide +kernel
theorem dX6_addLine_10 : decode cX6_addLine 10 = .ok (.bipush (-2), 2) := by decide +kernel
theorem dX6_addLine_12 : decode cX6_addLine 12 = .ok (.ireturn, 1) := by decide +kernel
theorem dX6_addLine_13 : decode cX6_addLine 13 = .ok (.aload_n 0, 1) := by decide +kernel
theorem dX6_addLine_14 : decode cX6_addLine 14 = .ok (.getfield 13, 3) := by decide +kernel
theorem dX6_addLine_17 : decode cX6_addLine 17 = .ok (.iconst 0, 1) := by decide +kernel
theorem dX6_addLine_18 : decode cX6_addLine 18 = .ok (.iaload, 1) := by decide +kernel
theorem dX6_addLine_19 : decode cX6_addLine 19 = .ok (.bipush 6, 2) := by decide +kernel
theorem dX6_addLine_21 : decode cX6_addLine 21 = .ok (.if_icmp .ne 6, 3) := by decide +kernel
theorem dX6_addLine_24 : decode cX6_addLine 24 = .ok (.bipush (-4), 2) := by decide +kernel
theorem dX6_addLine_26 : decode cX6_addLine 26 = .ok (.ireturn, 1) := by decide +kernel
theorem dX6_addLine_27 : decode cX6_addLine 27 = .ok (.aload_n 0, 1) := by decide +kernel
theorem dX6_addLine_28 : decode cX6_addLine 28 = .ok (.getfield 13, 3) := by decide +kernel
theorem dX6_addLine_31 : decode cX6_addLine 31 = .ok (.iconst 0, 1) := by decide +kernel
theorem dX6_addLine_32 : decode cX6_addLine 32 = .ok (.iaload, 1) := by decide +kernel
theorem dX6_addLine_33 : decode cX6_addLine 33 = .ok (.istore_n 2, 1) := by decide +kernel
theorem dX6_addLine_34 : decode cX6_addLine 34 = .ok (.iconst 0, 1) := by decide +kernel
theorem dX6_addLine_35 : decode cX6_addLine 35 = .ok (.istore_n 3, 1) := by decide +kernel
theorem dX6_addLine_36 : decode cX6_addLine 36 = .ok (.iload_n 3, 1) := by decide +kernel
theorem dX6_addLine_37 : decode cX6_addLine 37 = .ok (.bipush 17, 2) := by decide +kernel
theorem dX6_addLine_39 : decode cX6_addLine 39 = .ok (.if_icmp .ge 24, 3) := by decide +kernel
theorem dX6_addLine_42 : decode cX6_addLine 42 = .ok (.aload_n 0, 1) := by decide +kernel
theorem dX6_addLine_43 : decode cX6_addLine 43 = .ok (.getfield 13, 3) := by decide +kernel
theorem dX6_addLine_46 : decode cX6_addLine 46 = .ok (.bipush 9, 2) := by decide +kernel
theorem dX6_addLine_48 : decode cX6_addLine 48 = .ok (.bipush 17, 2) := by decide +kernel
theorem dX6_addLine_50 : decode cX6_addLine 50 = .ok (.iload_n 2, 1) := by decide +kernel
theorem dX6_addLine_51 : decode cX6_addLine 51 = .ok (.imul, 1) := by decide +kernel
theorem dX6_addLine_52 : decode cX6_addLine 52 = .ok (.iadd, 1) := by decide +kernel
theorem dX6_addLine_53 : decode cX6_addLine 53 = .ok (.iload_n 3, 1) := by decide +kernel
theorem dX6_addLine_54 : decode cX6_addLine 54 = .ok (.iadd, 1) := by decide +kernel
theorem dX6_addLine_55 : decode cX6_addLine 55 = .ok (.iconst 0, 1) := by decide +kernel
theorem dX6_addLine_56 : decode cX6_addLine 56 = .ok (.iastore, 1) := by decide +kernel
theorem dX6_addLine_57 : decode cX6_addLine 57 = .ok (.iinc 3 1, 3) := by decide +kernel
theorem dX6_addLine_60 : decode cX6_addLine 60 = .ok (.goto (-24), 3) := by decide +kernel
theorem dX6_addLine_63 : decode cX6_addLine 63 = .ok (.aload_n 0, 1) := by decide +kernel
theorem dX6_addLine_64 : decode cX6_addLine 64 = .ok (.getfield 13, 3) := by decide +kernel
theorem dX6_addLine_67 : decode cX6_addLine 67 = .ok (.bipush 9, 2) := by decide +kernel
theorem dX6_addLine_69 : decode cX6_addLine 69 = .ok (.bipush 17, 2) := by decide +kernel
theorem dX6_addLine_71 : decode cX6_addLine 71 = .ok (.iload_n 2, 1) := by decide +kernel
theorem dX6_addLine_72 : decode cX6_addLine 72 = .ok (.imul, 1) := by decide +kernel
theorem dX6_addLine_73 : decode cX6_addLine 73 = .ok (.iadd, 1) := by decide +kernel
theorem dX6_addLine_74 : decode cX6_addLine 74 = .ok (.iconst 1, 1) := by decide +kernel
theorem dX6_addLine_75 : decode cX6_addLine 75 = .ok (.iastore, 1) := by decide +kernel
theorem dX6_addLine_76 : decode cX6_addLine 76 = .ok (.aload_n 0, 1) := by decide +kernel
theorem dX6_addLine_77 : decode cX6_addLine 77 = .ok (.getfield 13, 3) := by decide +kernel
theorem dX6_addLine_80 : decode cX6_addLine 80 = .ok (.bipush 9, 2) := by decide +kernel
theorem dX6_addLine_82 : decode cX6_addLine 82 = .ok (.bipush 17, 2) := by decide +kernel
theorem dX6_addLine_84 : decode cX6_addLine 84 = .ok (.iload_n 2, 1) := by decide +kernel
theorem dX6_addLine_85 : decode cX6_addLine 85 = .ok (.imul, 1) := by decide +kernel
theorem dX6_addLine_86 : decode cX6_addLine 86 = .ok (.iadd, 1) := by decide +kernel
theorem dX6_addLine_87 : decode cX6_addLine 87 = .ok (.iconst 1, 1) := by decide +kernel
theorem dX6_addLine_88 : decode cX6_addLine 88 = .ok (.iadd, 1) := by decide +kernel
theorem dX6_addLine_89 : decode cX6_addLine 89 = .ok (.iload_n 1, 1) := by decide +kernel
theorem dX6_addLine_90 : decode cX6_addLine 90 = .ok (.iastore, 1) := by decide +kernel
theorem dX6_addLine_91 : decode cX6_addLine 91 = .ok (.aload_n 0, 1) := by decide +kernel
theorem dX6_addLine_92 : decode cX6_addLine 92 = .ok (.getfield 13, 3) := by decide +kernel
theorem dX6_addLine_95 : decode cX6_addLine 95 = .ok (.iconst 0, 1) := by decide +kernel
theorem dX6_addLine_96 : decode cX6_addLine 96 = .ok (.dup2, 1) := by decide +kernel
theorem dX6_addLine_97 : decode cX6_addLine 97 = .ok (.iaload, 1) := by decide +kernel
theorem dX6_addLine_98 : decode cX6_addLine 98 = .ok (.iconst 1, 1) := by decide +kernel
theorem dX6_addLine_99 : decode cX6_addLine 99 = .ok (.iadd, 1) := by decide +kernel
theorem dX6_addLine_100 : decode cX6_addLine 100 = .ok (.iastore, 1) := by decide +kernel
theorem dX6_addLine_101 : decode cX6_addLine 101 = .ok (.iload_n 2, 1) := by decide +kernel
theorem dX6_addLine_102 : decode cX6_addLine 102 = .ok (.ireturn, 1) := by decide +kernel
theorem dX6_addRun_0 : decode cX6_addRun 0 = .ok (.aload_n 0, 1) := by decide +kernel
theorem dX6_addRun_1 : decode cX6_addRun 1 = .ok (.iload_n 1, 1) := by decide +kernel
theorem dX6_addRun_2 : decode cX6_addRun 2 = .ok (.invokevirtual 65, 3) := by decide +kernel
theorem dX6_addRun_5 : decode cX6_addRun 5 = .ok (.ifCond .eq 22, 3) := by decide +kernel
theorem dX6_addRun_8 : decode cX6_addRun 8 = .ok (.iload_n 2, 1) := by decide +kernel
theorem dX6_addRun_9 : decode cX6_addRun 9 = .ok (.iconst 0, 1) := by decide +kernel
theorem dX6_addRun_10 : decode cX6_addRun 10 = .ok (.iconst 1, 1) := by decide +kernel
theorem dX6_addRun_11 : decode cX6_addRun 11 = .ok (.invokestatic 61, 3) := by decide +kernel
theorem dX6_addRun_14 : decode cX6_addRun 14 = .ok (.ifCond .eq 13, 3) := by decide +kernel
theorem dX6_addRun_17 : decode cX6_addRun 17 = .ok (.iload_n 3, 1) := by decide +kernel
theorem dX6_addRun_18 : decode cX6_addRun 18 = .ok (.iconst 1, 1) := by decide +kernel
theorem dX6_addRun_19 : decode cX6_addRun 19 = .ok (.bipush 60, 2) := by decide +kernel
theorem dX6_addRun_21 : decode cX6_addRun 21 = .ok (.invokestatic 61, 3) := by decide +kernel
theorem dX6_addRun_24 : decode cX6_addRun 24 = .ok (.ifCond .ne 6, 3) := by decide +kernel
theorem dX6_addRun_27 : decode cX6_addRun 27 = .ok (.bipush (-2), 2) := by decide +kernel
theorem dX6_addRun_29 : decode cX6_addRun 29 = .ok (.ireturn, 1) := by decide +kernel
theorem dX6_addRun_30 : decode cX6_addRun 30 = .ok (.aload_n 0, 1) := by decide +kernel
theorem dX6_addRun_31 : decode cX6_addRun 31 = .ok (.iload_n 1, 1) := by decide +kernel
theorem dX6_addRun_32 : decode cX6_addRun 32 = .ok (.invokevirtual 69, 3) := by decide +kernel
theorem dX6_addRun_35 : decode cX6_addRun 35 = .ok (.istore 4, 2) := by decide +kernel
theorem dX6_addRun_37 : decode cX6_addRun 37 = .ok (.iload 4, 2) := by decide +kernel
theorem dX6_addRun_39 : decode cX6_addRun 39 = .ok (.bipush 8, 2) := by decide +kernel
theorem dX6_addRun_41 : decode cX6_addRun 41 = .ok (.if_icmp .ne 6, 3) := by decide +kernel
theorem dX6_addRun_44 : decode cX6_addRun 44 = .ok (.bipush (-4), 2) := by decide +kernel
theorem dX6_addRun_46 : decode cX6_addRun 46 = .ok (.ireturn, 1) := by decide +kernel
theorem dX6_addRun_47 : decode cX6_addRun 47 = .ok (.aload_n 0, 1) := by decide +kernel
theorem dX6_addRun_48 : decode cX6_addRun 48 = .ok (.getfield 13, 3) := by decide +kernel
theorem dX6_addRun_51 : decode cX6_addRun 51 = .ok (.bipush 9, 2) := by decide +kernel
theorem dX6_addRun_53 : decode cX6_addRun 53 = .ok (.bipush 17, 2) := by decide +kernel
theorem dX6_addRun_55 : decode cX6_addRun 55 = .ok (.iload_n 1, 1) := by decide +kernel
theorem dX6_addRun_56 : decode cX6_addRun 56 = .ok (.imul, 1) := by decide +kernel
theorem dX6_addRun_57 : decode cX6_addRun 57 = .ok (.iadd, 1) := by decide +kernel
theorem dX6_addRun_58 : decode cX6_addRun 58 = .ok (.iconst 1, 1) := by decide +kernel
theorem dX6_addRun_59 : decode cX6_addRun 59 = .ok (.iadd, 1) := by decide +kernel
theorem dX6_addRun_60 : decode cX6_addRun 60 = .ok (.iload 4, 2) := by decide +kernel
theorem dX6_addRun_62 : decode cX6_addRun 62 = .ok (.iadd, 1) := by decide +kernel
theorem dX6_addRun_63 : decode cX6_addRun 63 = .ok (.iload_n 3, 1) := by decide +kernel
theorem dX6_addRun_64 : decode cX6_addRun 64 = .ok (.iastore, 1) := by decide +kernel
theorem dX6_addRun_65 : decode cX6_addRun 65 = .ok (.aload_n 0, 1) := by decide +kernel
theorem dX6_addRun_66 : decode cX6_addRun 66 = .ok (.getfield 13, 3) := by decide +kernel
theorem dX6_addRun_69 : decode cX6_addRun 69 = .ok (.bipush 9, 2) := by decide +kernel
theorem dX6_addRun_71 : decode cX6_addRun 71 = .ok (.bipush 17, 2) := by decide +kernel
theorem dX6_addRun_73 : decode cX6_addRun 73 = .ok (.iload_n 1, 1) := by decide +kernel
theorem dX6_addRun_74 : decode cX6_addRun 74 = .ok (.imul, 1) := by decide +kernel
theorem dX6_addRun_75 : decode cX6_addRun 75 = .ok (.iadd, 1) := by decide +kernel
theorem dX6_addRun_76 : decode cX6_addRun 76 = .ok (.bipush 9, 2) := by decide +kernel
theorem dX6_addRun_78 : decode cX6_addRun 78 = .ok (.iadd, 1) := by decide +kernel
theorem dX6_addRun_79 : decode cX6_addRun 79 = .ok (.iload 4, 2) := by decide +kernel
theorem dX6_addRun_81 : decode cX6_addRun 81 = .ok (.iadd, 1) := by decide +kernel
theorem dX6_addRun_82 : decode cX6_addRun 82 = .ok (.iload_n 2, 1) := by decide +kernel
theorem dX6_addRun_83 : decode cX6_addRun 83 = .ok (.iastore, 1) := by decide +kernel
theorem dX6_addRun_84 : decode cX6_addRun 84 = .ok (.aload_n 0, 1) := by decide +kernel
theorem dX6_addRun_85 : decode cX6_addRun 85 = .ok (.getfield 13, 3) := by decide +kernel
theorem dX6_addRun_88 : decode cX6_addRun 88 = .ok (.bipush 9, 2) := by decide +kernel
theorem dX6_addRun_90 : decode cX6_addRun 90 = .ok (.bipush 17, 2) := by decide +kernel
theorem dX6_addRun_92 : decode cX6_addRun 92 = .ok (.iload_n 1, 1) := by decide +kernel
theorem dX6_addRun_93 : decode cX6_addRun 93 = .ok (.imul, 1) := by decide +kernel
theorem dX6_addRun_94 : decode cX6_addRun 94 = .ok (.iadd, 1) := by decide +kernel
theorem dX6_addRun_95 : decode cX6_addRun 95 = .ok (.iload 4, 2) := by decide +kernel
theorem dX6_addRun_97 : decode cX6_addRun 97 = .ok (.iconst 1, 1) := by decide +kernel
theorem dX6_addRun_98 : decode cX6_addRun 98 = .ok (.iadd, 1) := by decide +kernel
theorem dX6_addRun_99 : decode cX6_addRun 99 = .ok (.iastore, 1) := by decide +kernel
theorem dX6_addRun_100 : decode cX6_addRun 100 = .ok (.iload 4, 2) := by decide +kernel
theorem dX6_addRun_102 : decode cX6_addRun 102 = .ok (.iconst 1, 1) := by decide +kernel
theorem dX6_addRun_103 : decode cX6_addRun 103 = .ok (.iadd, 1) := by decide +kernel
theorem dX6_addRun_104 : decode cX6_addRun 104 = .ok (.ireturn, 1) := by decide +kernel
theorem dX6_dropRun_0 : decode cX6_dropRun 0 = .ok (.aload_n 0, 1) := by decide +kernel
theorem dX6_dropRun_1 : decode cX6_dropRun 1 = .ok (.iload_n 1, 1) := by decide +kernel
theorem dX6_dropRun_2 : decode cX6_dropRun 2 = .ok (.invokevirtual 65, 3) := by decide +kernel
theorem dX6_dropRun_5 : decode cX6_dropRun 5 = .ok (.ifCond .ne 6, 3) := by decide +kernel
theorem dX6_dropRun_8 : decode cX6_dropRun 8 = .ok (.bipush (-2), 2) := by decide +kernel
theorem dX6_dropRun_10 : decode cX6_dropRun 10 = .ok (.ireturn, 1) := by decide +kernel
theorem dX6_dropRun_11 : decode cX6_dropRun 11 = .ok (.aload_n 0, 1) := by decide +kernel
theorem dX6_dropRun_12 : decode cX6_dropRun 12 = .ok (.iload_n 1, 1) := by decide +kernel
theorem dX6_dropRun_13 : decode cX6_dropRun 13 = .ok (.invokevirtual 69, 3) := by decide +kernel
theorem dX6_dropRun_16 : decode cX6_dropRun 16 = .ok (.iconst 1, 1) := by decide +kernel
theorem dX6_dropRun_17 : decode cX6_dropRun 17 = .ok (.if_icmp .ne 6, 3) := by decide +kernel
theorem dX6_dropRun_20 : decode cX6_dropRun 20 = .ok (.bipush (-3), 2) := by decide +kernel
theorem dX6_dropRun_22 : decode cX6_dropRun 22 = .ok (.ireturn, 1) := by decide +kernel
theorem dX6_dropRun_23 : decode cX6_dropRun 23 = .ok (.aload_n 0, 1) := by decide +kernel
theorem dX6_dropRun_24 : decode cX6_dropRun 24 = .ok (.getfield 13, 3) := by decide +kernel
theorem dX6_dropRun_27 : decode cX6_dropRun 27 = .ok (.bipush 9, 2) := by decide +kernel
theorem dX6_dropRun_29 : decode cX6_dropRun 29 = .ok (.bipush 17, 2) := by decide +kernel
theorem dX6_dropRun_31 : decode cX6_dropRun 31 = .ok (.iload_n 1, 1) := by decide +kernel
theorem dX6_dropRun_32 : decode cX6_dropRun 32 = .ok (.imul, 1) := by decide +kernel
theorem dX6_dropRun_33 : decode cX6_dropRun 33 = .ok (.iadd, 1) := by decide +kernel
theorem dX6_dropRun_34 : decode cX6_dropRun 34 = .ok (.dup2, 1) := by decide +kernel
theorem dX6_dropRun_35 : decode cX6_dropRun 35 = .ok (.iaload, 1) := by decide +kernel
theorem dX6_dropRun_36 : decode cX6_dropRun 36 = .ok (.iconst 1, 1) := by decide +kernel
theorem dX6_dropRun_37 : decode cX6_dropRun 37 = .ok (.isub, 1) := by decide +kernel
theorem dX6_dropRun_38 : decode cX6_dropRun 38 = .ok (.iastore, 1) := by decide +kernel
theorem dX6_dropRun_39 : decode cX6_dropRun 39 = .ok (.aload_n 0, 1) := by decide +kernel
theorem dX6_dropRun_40 : decode cX6_dropRun 40 = .ok (.iload_n 1, 1) := by decide +kernel
theorem dX6_dropRun_41 : decode cX6_dropRun 41 = .ok (.invokevirtual 69, 3) := by decide +kernel
theorem dX6_dropRun_44 : decode cX6_dropRun 44 = .ok (.ireturn, 1) := by decide +kernel
theorem dX6_addPocket_0 : decode cX6_addPocket 0 = .ok (.iload_n 1, 1) := by decide +kernel
theorem dX6_addPocket_1 : decode cX6_addPocket 1 = .ok (.iconst 1, 1) := by decide +kernel
theorem dX6_addPocket_2 : decode cX6_addPocket 2 = .ok (.bipush 60, 2) := by decide +kernel
theorem dX6_addPocket_4 : decode cX6_addPocket 4 = .ok (.invokestatic 61, 3) := by decide +kernel
theorem dX6_addPocket_7 : decode cX6_addPocket 7 = .ok (.ifCond .eq 13, 3) := by decide +kernel
theorem dX6_addPocket_10 : decode cX6_addPocket 10 = .ok (.iload_n 2, 1) := by decide +kernel
theorem dX6_addPocket_11 : decode cX6_addPocket 11 = .ok (.iconst 0, 1) := by decide +kernel
theorem dX6_addPocket_12 : decode cX6_addPocket 12 = .ok (.bipush 63, 2) := by decide +kernel
theorem dX6_addPocket_14 : decode cX6_addPocket 14 = .ok (.invokestatic 61, 3) := by decide +kernel
theorem dX6_addPocket_17 : decode cX6_addPocket 17 = .ok (.ifCond .ne 6, 3) := by decide +kernel
theorem dX6_addPocket_20 : decode cX6_addPocket 20 = .ok (.bipush (-2), 2) := by decide +kernel
theorem dX6_addPocket_22 : decode cX6_addPocket 22 = .ok (.ireturn, 1) := by decide +kernel
theorem dX6_addPocket_23 : decode cX6_addPocket 23 = .ok (.aload_n 0, 1) := by decide +kernel
theorem dX6_addPocket_24 : decode cX6_addPocket 24 = .ok (.getfield 13, 3) := by decide +kernel
theorem dX6_addPocket_27 : decode cX6_addPocket 27 = .ok (.iconst 1, 1) := by decide +kernel
theorem dX6_addPocket_28 : decode cX6_addPocket 28 = .ok (.iaload, 1) := by decide +kernel
theorem dX6_addPocket_29 : decode cX6_addPocket 29 = .ok (.bipush 6, 2) := by decide +kernel
theorem dX6_addPocket_31 : decode cX6_addPocket 31 = .ok (.if_icmp .ne 6, 3) := by decide +kernel
theorem dX6_addPocket_34 : decode cX6_addPocket 34 = .ok (.bipush (-4), 2) := by decide +kernel
theorem dX6_addPocket_36 : decode cX6_addPocket 36 = .ok (.ireturn, 1) := by decide +kernel
theorem dX6_addPocket_37 : decode cX6_addPocket 37 = .ok (.aload_n 0, 1) := by decide +kernel
theorem dX6_addPocket_38 : decode cX6_addPocket 38 = .ok (.getfield 13, 3) := by decide +kernel
theorem dX6_addPocket_41 : decode cX6_addPocket 41 = .ok (.iconst 1, 1) := by decide +kernel
theorem dX6_addPocket_42 : decode cX6_addPocket 42 = .ok (.iaload, 1) := by decide +kernel
theorem dX6_addPocket_43 : decode cX6_addPocket 43 = .ok (.istore_n 3, 1) := by decide +kernel
theorem dX6_addPocket_44 : decode cX6_addPocket 44 = .ok (.aload_n 0, 1) := by decide +kernel
theorem dX6_addPocket_45 : decode cX6_addPocket 45 = .ok (.getfield 13, 3) := by decide +kernel
theorem dX6_addPocket_48 : decode cX6_addPocket 48 = .ok (.bipush 111, 2) := by decide +kernel
theorem dX6_addPocket_50 : decode cX6_addPocket 50 = .ok (.iconst 2, 1) := by decide +kernel
theorem dX6_addPocket_51 : decode cX6_addPocket 51 = .ok (.iload_n 3, 1) := by decide +kernel
theorem dX6_addPocket_52 : decode cX6_addPocket 52 = .ok (.imul, 1) := by decide +kernel
theorem dX6_addPocket_53 : decode cX6_addPocket 53 = .ok (.iadd, 1) := by decide +kernel
theorem dX6_addPocket_54 : decode cX6_addPocket 54 = .ok (.iload_n 1, 1) := by decide +kernel
theorem dX6_addPocket_55 : decode cX6_addPocket 55 = .ok (.iastore, 1) := by decide +kernel
theorem dX6_addPocket_56 : decode cX6_addPocket 56 = .ok (.aload_n 0, 1) := by decide +kernel
theorem dX6_addPocket_57 : decode cX6_addPocket 57 = .ok (.getfield 13, 3) := by decide +kernel
theorem dX6_addPocket_60 : decode cX6_addPocket 60 = .ok (.bipush 111, 2) := by decide +kernel
theorem dX6_addPocket_62 : decode cX6_addPocket 62 = .ok (.iconst 2, 1) := by decide +kernel
theorem dX6_addPocket_63 : decode cX6_addPocket 63 = .ok (.iload_n 3, 1) := by decide +kernel
theorem dX6_addPocket_64 : decode cX6_addPocket 64 = .ok (.imul, 1) := by decide +kernel
theorem dX6_addPocket_65 : decode cX6_addPocket 65 = .ok (.iadd, 1) := by decide +kernel
theorem dX6_addPocket_66 : decode cX6_addPocket 66 = .ok (.iconst 1, 1) := by decide +kernel
theorem dX6_addPocket_67 : decode cX6_addPocket 67 = .ok (.iadd, 1) := by decide +kernel
theorem dX6_addPocket_68 : decode cX6_addPocket 68 = .ok (.iload_n 2, 1) := by decide +kernel
theorem dX6_addPocket_69 : decode cX6_addPocket 69 = .ok (.iastore, 1) := by decide +kernel
theorem dX6_addPocket_70 : decode cX6_addPocket 70 = .ok (.aload_n 0, 1) := by decide +kernel
theorem dX6_addPocket_71 : decode cX6_addPocket 71 = .ok (.getfield 13, 3) := by decide +kernel
theorem dX6_addPocket_74 : decode cX6_addPocket 74 = .ok (.iconst 1, 1) := by decide +kernel
theorem dX6_addPocket_75 : decode cX6_addPocket 75 = .ok (.dup2, 1) := by decide +kernel
theorem dX6_addPocket_76 : decode cX6_addPocket 76 = .ok (.iaload, 1) := by decide +kernel
theorem dX6_addPocket_77 : decode cX6_addPocket 77 = .ok (.iconst 1, 1) := by decide +kernel
theorem dX6_addPocket_78 : decode cX6_addPocket 78 = .ok (.iadd, 1) := by decide +kernel
theorem dX6_addPocket_79 : decode cX6_addPocket 79 = .ok (.iastore, 1) := by decide +kernel
theorem dX6_addPocket_80 : decode cX6_addPocket 80 = .ok (.iload_n 3, 1) := by decide +kernel
theorem dX6_addPocket_81 : decode cX6_addPocket 81 = .ok (.ireturn, 1) := by decide +kernel
theorem dX6_becomes_0 : decode cX6_becomes 0 = .ok (.aload_n 0, 1) := by decide +kernel
theorem dX6_becomes_1 : decode cX6_becomes 1 = .ok (.getfield 13, 3) := by decide +kernel
theorem dX6_becomes_4 : decode cX6_becomes 4 = .ok (.iload_n 1, 1) := by decide +kernel
theorem dX6_becomes_5 : decode cX6_becomes 5 = .ok (.iaload, 1) := by decide +kernel
theorem dX6_becomes_6 : decode cX6_becomes 6 = .ok (.istore_n 3, 1) := by decide +kernel
theorem dX6_becomes_7 : decode cX6_becomes 7 = .ok (.aload_n 0, 1) := by decide +kernel
theorem dX6_becomes_8 : decode cX6_becomes 8 = .ok (.getfield 13, 3) := by decide +kernel
theorem dX6_becomes_11 : decode cX6_becomes 11 = .ok (.iload_n 1, 1) := by decide +kernel
theorem dX6_becomes_12 : decode cX6_becomes 12 = .ok (.iload_n 2, 1) := by decide +kernel
theorem dX6_becomes_13 : decode cX6_becomes 13 = .ok (.iastore, 1) := by decide +kernel
theorem dX6_becomes_14 : decode cX6_becomes 14 = .ok (.iload_n 3, 1) := by decide +kernel
theorem dX6_becomes_15 : decode cX6_becomes 15 = .ok (.ireturn, 1) := by decide +kernel
theorem dX6_setWide_0 : decode cX6_setWide 0 = .ok (.aload_n 0, 1) := by decide +kernel
theorem dX6_setWide_1 : decode cX6_setWide 1 = .ok (.iload_n 1, 1) := by decide +kernel
theorem dX6_setWide_2 : decode cX6_setWide 2 = .ok (.invokevirtual 73, 3) := by decide +kernel
theorem dX6_setWide_5 : decode cX6_setWide 5 = .ok (.ifCond .eq 27, 3) := by decide +kernel
theorem dX6_setWide_8 : decode cX6_setWide 8 = .ok (.iload_n 2, 1) := by decide +kernel
theorem dX6_setWide_9 : decode cX6_setWide 9 = .ok (.iconst 1, 1) := by decide +kernel
theorem dX6_setWide_10 : decode cX6_setWide 10 = .ok (.bipush 60, 2) := by decide +kernel
theorem dX6_setWide_12 : decode cX6_setWide 12 = .ok (.invokestatic 61, 3) := by decide +kernel
theorem dX6_setWide_15 : decode cX6_setWide 15 = .ok (.ifCond .eq 17, 3) := by decide +kernel
theorem dX6_setWide_18 : decode cX6_setWide 18 = .ok (.aload_n 0, 1) := by decide +kernel
theorem dX6_setWide_19 : decode cX6_setWide 19 = .ok (.bipush 111, 2) := by decide +kernel
theorem dX6_setWide_21 : decode cX6_setWide 21 = .ok (.iconst 2, 1) := by decide +kernel
theorem dX6_setWide_22 : decode cX6_setWide 22 = .ok (.iload_n 1, 1) := by decide +kernel
theorem dX6_setWide_23 : decode cX6_setWide 23 = .ok (.imul, 1) := by decide +kernel
theorem dX6_setWide_24 : decode cX6_setWide 24 = .ok (.iadd, 1) := by decide +kernel
theorem dX6_setWide_25 : decode cX6_setWide 25 = .ok (.iload_n 2, 1) := by decide +kernel
theorem dX6_setWide_26 : decode cX6_setWide 26 = .ok (.invokevirtual 76, 3) := by decide +kernel
theorem dX6_setWide_29 : decode cX6_setWide 29 = .ok (.goto 5, 3) := by decide +kernel
theorem dX6_setWide_32 : decode cX6_setWide 32 = .ok (.bipush (-2), 2) := by decide +kernel
theorem dX6_setWide_34 : decode cX6_setWide 34 = .ok (.ireturn, 1) := by decide +kernel
theorem dX6_setTouch_0 : decode cX6_setTouch 0 = .ok (.aload_n 0, 1) := by decide +kernel
theorem dX6_setTouch_1 : decode cX6_setTouch 1 = .ok (.iload_n 1, 1) := by decide +kernel
theorem dX6_setTouch_2 : decode cX6_setTouch 2 = .ok (.invokevirtual 73, 3) := by decide +kernel
theorem dX6_setTouch_5 : decode cX6_setTouch 5 = .ok (.ifCond .eq 29, 3) := by decide +kernel
theorem dX6_setTouch_8 : decode cX6_setTouch 8 = .ok (.iload_n 2, 1) := by decide +kernel
theorem dX6_setTouch_9 : decode cX6_setTouch 9 = .ok (.iconst 0, 1) := by decide +kernel
theorem dX6_setTouch_10 : decode cX6_setTouch 10 = .ok (.bipush 63, 2) := by decide +kernel
theorem dX6_setTouch_12 : decode cX6_setTouch 12 = .ok (.invokestatic 61, 3) := by decide +kernel
theorem dX6_setTouch_15 : decode cX6_setTouch 15 = .ok (.ifCond .eq 19, 3) := by decide +kernel
theorem dX6_setTouch_18 : decode cX6_setTouch 18 = .ok (.aload_n 0, 1) := by decide +kernel
theorem dX6_setTouch_19 : decode cX6_setTouch 19 = .ok (.bipush 111, 2) := by decide +kernel
theorem dX6_setTouch_21 : decode cX6_setTouch 21 = .ok (.iconst 2, 1) := by decide +kernel
theorem dX6_setTouch_22 : decode cX6_setTouch 22 = .ok (.iload_n 1, 1) := by decide +kernel
theorem dX6_setTouch_23 : decode cX6_setTouch 23 = .ok (.imul, 1) := by decide +kernel
theorem dX6_setTouch_24 : decode cX6_setTouch 24 = .ok (.iadd, 1) := by decide +kernel
theorem dX6_setTouch_25 : decode cX6_setTouch 25 = .ok (.iconst 1, 1) := by decide +kernel
theorem dX6_setTouch_26 : decode cX6_setTouch 26 = .ok (.iadd, 1) := by decide +kernel
theorem dX6_setTouch_27 : decode cX6_setTouch 27 = .ok (.iload_n 2, 1) := by decide +kernel
theorem dX6_setTouch_28 : decode cX6_setTouch 28 = .ok (.invokevirtual 76, 3) := by decide +kernel
theorem dX6_setTouch_31 : decode cX6_setTouch 31 = .ok (.goto 5, 3) := by decide +kernel
theorem dX6_setTouch_34 : decode cX6_setTouch 34 = .ok (.bipush (-2), 2) := by decide +kernel
theorem dX6_setTouch_36 : decode cX6_setTouch 36 = .ok (.ireturn, 1) := by decide +kernel
theorem dX6_leastOf_0 : decode cX6_leastOf 0 = .ok (.iload_n 0, 1) := by decide +kernel
theorem dX6_leastOf_1 : decode cX6_leastOf 1 = .ok (.ifCond .ne 7, 3) := by decide +kernel
theorem dX6_leastOf_4 : decode cX6_leastOf 4 = .ok (.iconst 2, 1) := by decide +kernel
theorem dX6_leastOf_5 : decode cX6_leastOf 5 = .ok (.goto 19, 3) := by decide +kernel
theorem dX6_leastOf_8 : decode cX6_leastOf 8 = .ok (.iload_n 0, 1) := by decide +kernel
theorem dX6_leastOf_9 : decode cX6_leastOf 9 = .ok (.iconst 1, 1) := by decide +kernel
theorem dX6_leastOf_10 : decode cX6_leastOf 10 = .ok (.if_icmp .eq 9, 3) := by decide +kernel
theorem dX6_leastOf_13 : decode cX6_leastOf 13 = .ok (.iload_n 0, 1) := by decide +kernel
theorem dX6_leastOf_14 : decode cX6_leastOf 14 = .ok (.bipush 6, 2) := by decide +kernel
theorem dX6_leastOf_16 : decode cX6_leastOf 16 = .ok (.if_icmp .ne 7, 3) := by decide +kernel
theorem dX6_leastOf_19 : decode cX6_leastOf 19 = .ok (.iconst 1, 1) := by decide +kernel
theorem dX6_leastOf_20 : decode cX6_leastOf 20 = .ok (.goto 4, 3) := by decide +kernel
theorem dX6_leastOf_23 : decode cX6_leastOf 23 = .ok (.iconst 0, 1) := by decide +kernel
theorem dX6_leastOf_24 : decode cX6_leastOf 24 = .ok (.ireturn, 1) := by decide +kernel
theorem dX6_mostOf_0 : decode cX6_mostOf 0 = .ok (.iload_n 0, 1) := by decide +kernel
theorem dX6_mostOf_1 : decode cX6_mostOf 1 = .ok (.ifCond .ne 8, 3) := by decide +kernel
theorem dX6_mostOf_4 : decode cX6_mostOf 4 = .ok (.bipush 12, 2) := by decide +kernel
theorem dX6_mostOf_6 : decode cX6_mostOf 6 = .ok (.goto 54, 3) := by decide +kernel
theorem dX6_mostOf_9 : decode cX6_mostOf 9 = .ok (.iload_n 0, 1) := by decide +kernel
theorem dX6_mostOf_10 : decode cX6_mostOf 10 = .ok (.iconst 1, 1) := by decide +kernel
theorem dX6_mostOf_11 : decode cX6_mostOf 11 = .ok (.if_icmp .ne 7, 3) := by decide +kernel
theorem dX6_mostOf_14 : decode cX6_mostOf 14 = .ok (.iconst 4, 1) := by decide +kernel
theorem dX6_mostOf_15 : decode cX6_mostOf 15 = .ok (.goto 45, 3) := by decide +kernel
theorem dX6_mostOf_18 : decode cX6_mostOf 18 = .ok (.iload_n 0, 1) := by decide +kernel
theorem dX6_mostOf_19 : decode cX6_mostOf 19 = .ok (.iconst 2, 1) := by decide +kernel
theorem dX6_mostOf_20 : decode cX6_mostOf 20 = .ok (.if_icmp .ne 7, 3) := by decide +kernel
theorem dX6_mostOf_23 : decode cX6_mostOf 23 = .ok (.iconst 2, 1) := by decide +kernel
theorem dX6_mostOf_24 : decode cX6_mostOf 24 = .ok (.goto 36, 3) := by decide +kernel
theorem dX6_mostOf_27 : decode cX6_mostOf 27 = .ok (.iload_n 0, 1) := by decide +kernel
theorem dX6_mostOf_28 : decode cX6_mostOf 28 = .ok (.iconst 3, 1) := by decide +kernel
theorem dX6_mostOf_29 : decode cX6_mostOf 29 = .ok (.if_icmp .ne 8, 3) := by decide +kernel
theorem dX6_mostOf_32 : decode cX6_mostOf 32 = .ok (.bipush 20, 2) := by decide +kernel
theorem dX6_mostOf_34 : decode cX6_mostOf 34 = .ok (.goto 26, 3) := by decide +kernel
theorem dX6_mostOf_37 : decode cX6_mostOf 37 = .ok (.iload_n 0, 1) := by decide +kernel
theorem dX6_mostOf_38 : decode cX6_mostOf 38 = .ok (.iconst 4, 1) := by decide +kernel
theorem dX6_mostOf_39 : decode cX6_mostOf 39 = .ok (.if_icmp .ne 9, 3) := by decide +kernel
theorem dX6_mostOf_42 : decode cX6_mostOf 42 = .ok (.sipush 999, 3) := by decide +kernel
theorem dX6_mostOf_45 : decode cX6_mostOf 45 = .ok (.goto 15, 3) := by decide +kernel
theorem dX6_mostOf_48 : decode cX6_mostOf 48 = .ok (.iload_n 0, 1) := by decide +kernel
theorem dX6_mostOf_49 : decode cX6_mostOf 49 = .ok (.iconst 5, 1) := by decide +kernel
theorem dX6_mostOf_50 : decode cX6_mostOf 50 = .ok (.if_icmp .ne 8, 3) := by decide +kernel
theorem dX6_mostOf_53 : decode cX6_mostOf 53 = .ok (.bipush 6, 2) := by decide +kernel
theorem dX6_mostOf_55 : decode cX6_mostOf 55 = .ok (.goto 5, 3) := by decide +kernel
theorem dX6_mostOf_58 : decode cX6_mostOf 58 = .ok (.bipush 9, 2) := by decide +kernel
theorem dX6_mostOf_60 : decode cX6_mostOf 60 = .ok (.ireturn, 1) := by decide +kernel
theorem dX6_setSetting_0 : decode cX6_setSetting 0 = .ok (.iload_n 1, 1) := by decide +kernel
theorem dX6_setSetting_1 : decode cX6_setSetting 1 = .ok (.iconst 0, 1) := by decide +kernel
theorem dX6_setSetting_2 : decode cX6_setSetting 2 = .ok (.bipush 6, 2) := by decide +kernel
theorem dX6_setSetting_4 : decode cX6_setSetting 4 = .ok (.invokestatic 61, 3) := by decide +kernel
theorem dX6_setSetting_7 : decode cX6_setSetting 7 = .ok (.ifCond .eq 29, 3) := by decide +kernel
theorem dX6_setSetting_10 : decode cX6_setSetting 10 = .ok (.iload_n 2, 1) := by decide +kernel
theorem dX6_setSetting_11 : decode cX6_setSetting 11 = .ok (.iload_n 1, 1) := by decide +kernel
theorem dX6_setSetting_12 : decode cX6_setSetting 12 = .ok (.invokestatic 80, 3) := by decide +kernel
theorem dX6_setSetting_15 : decode cX6_setSetting 15 = .ok (.iload_n 1, 1) := by decide +kernel
theorem dX6_setSetting_16 : decode cX6_setSetting 16 = .ok (.invokestatic 83, 3) := by decide +kernel
theorem dX6_setSetting_19 : decode cX6_setSetting 19 = .ok (.invokestatic 61, 3) := by decide +kernel
theorem dX6_setSetting_22 : decode cX6_setSetting 22 = .ok (.ifCond .eq 14, 3) := by decide +kernel
theorem dX6_setSetting_25 : decode cX6_setSetting 25 = .ok (.aload_n 0, 1) := by decide +kernel
theorem dX6_setSetting_26 : decode cX6_setSetting 26 = .ok (.iconst 2, 1) := by decide +kernel
theorem dX6_setSetting_27 : decode cX6_setSetting 27 = .ok (.iload_n 1, 1) := by decide +kernel
theorem dX6_setSetting_28 : decode cX6_setSetting 28 = .ok (.iadd, 1) := by decide +kernel
theorem dX6_setSetting_29 : decode cX6_setSetting 29 = .ok (.iload_n 2, 1) := by decide +kernel
theorem dX6_setSetting_30 : decode cX6_setSetting 30 = .ok (.invokevirtual 76, 3) := by decide +kernel
theorem dX6_setSetting_33 : decode cX6_setSetting 33 = .ok (.goto 5, 3) := by decide +kernel
theorem dX6_setSetting_36 : decode cX6_setSetting 36 = .ok (.bipush (-2), 2) := by decide +kernel
theorem dX6_setSetting_38 : decode cX6_setSetting 38 = .ok (.ireturn, 1) := by decide +kernel
theorem dX6_done_0 : decode cX6_done 0 = .ok (.iload_n 1, 1) := by decide +kernel
theorem dX6_done_1 : decode cX6_done 1 = .ok (.ifCond .ge 9, 3) := by decide +kernel
theorem dX6_done_4 : decode cX6_done 4 = .ok (.aload_n 0, 1) := by decide +kernel
theorem dX6_done_5 : decode cX6_done 5 = .ok (.iload_n 1, 1) := by decide +kernel
theorem dX6_done_6 : decode cX6_done 6 = .ok (.invokevirtual 86, 3) := by decide +kernel
theorem dX6_done_9 : decode cX6_done 9 = .ok (.ireturn, 1) := by decide +kernel
theorem dX6_done_10 : decode cX6_done 10 = .ok (.aload_n 0, 1) := by decide +kernel
theorem dX6_done_11 : decode cX6_done 11 = .ok (.invokevirtual 89, 3) := by decide +kernel
theorem dX6_done_14 : decode cX6_done 14 = .ok (.iload_n 1, 1) := by decide +kernel
theorem dX6_done_15 : decode cX6_done 15 = .ok (.ireturn, 1) := by decide +kernel
theorem dX6_line_0 : decode cX6_line 0 = .ok (.aload_n 0, 1) := by decide +kernel
theorem dX6_line_1 : decode cX6_line 1 = .ok (.iconst 5, 1) := by decide +kernel
theorem dX6_line_2 : decode cX6_line 2 = .ok (.invokevirtual 92, 3) := by decide +kernel
theorem dX6_line_5 : decode cX6_line 5 = .ok (.aload_n 0, 1) := by decide +kernel
theorem dX6_line_6 : decode cX6_line 6 = .ok (.aload_n 0, 1) := by decide +kernel
theorem dX6_line_7 : decode cX6_line 7 = .ok (.iload_n 1, 1) := by decide +kernel
theorem dX6_line_8 : decode cX6_line 8 = .ok (.invokevirtual 95, 3) := by decide +kernel
theorem dX6_line_11 : decode cX6_line 11 = .ok (.invokevirtual 98, 3) := by decide +kernel
theorem dX6_line_14 : decode cX6_line 14 = .ok (.ireturn, 1) := by decide +kernel
theorem dX6_goes_0 : decode cX6_goes 0 = .ok (.aload_n 0, 1) := by decide +kernel
theorem dX6_goes_1 : decode cX6_goes 1 = .ok (.iconst 5, 1) := by decide +kernel
theorem dX6_goes_2 : decode cX6_goes 2 = .ok (.invokevirtual 92, 3) := by decide +kernel
theorem dX6_goes_5 : decode cX6_goes 5 = .ok (.aload_n 0, 1) := by decide +kernel
theorem dX6_goes_6 : decode cX6_goes 6 = .ok (.aload_n 0, 1) := by decide +kernel
theorem dX6_goes_7 : decode cX6_goes 7 = .ok (.iload_n 1, 1) := by decide +kernel
theorem dX6_goes_8 : decode cX6_goes 8 = .ok (.iload_n 2, 1) := by decide +kernel
theorem dX6_goes_9 : decode cX6_goes 9 = .ok (.iload_n 3, 1) := by decide +kernel
theorem dX6_goes_10 : decode cX6_goes 10 = .ok (.invokevirtual 101, 3) := by decide +kernel
theorem dX6_goes_13 : decode cX6_goes 13 = .ok (.invokevirtual 98, 3) := by decide +kernel
theorem dX6_goes_16 : decode cX6_goes 16 = .ok (.ireturn, 1) := by decide +kernel
theorem dX6_shortens_0 : decode cX6_shortens 0 = .ok (.aload_n 0, 1) := by decide +kernel
theorem dX6_shortens_1 : decode cX6_shortens 1 = .ok (.iconst 5, 1) := by decide +kernel
theorem dX6_shortens_2 : decode cX6_shortens 2 = .ok (.invokevirtual 92, 3) := by decide +kernel
theorem dX6_shortens_5 : decode cX6_shortens 5 = .ok (.aload_n 0, 1) := by decide +kernel
theorem dX6_shortens_6 : decode cX6_shortens 6 = .ok (.aload_n 0, 1) := by decide +kernel
theorem dX6_shortens_7 : decode cX6_shortens 7 = .ok (.iload_n 1, 1) := by decide +kernel
theorem dX6_shortens_8 : decode cX6_shortens 8 = .ok (.invokevirtual 105, 3) := by decide +kernel
theorem dX6_shortens_11 : decode cX6_shortens 11 = .ok (.invokevirtual 98, 3) := by decide +kernel
theorem dX6_shortens_14 : decode cX6_shortens 14 = .ok (.ireturn, 1) := by decide +kernel
theorem dX6_pocket_0 : decode cX6_pocket 0 = .ok (.aload_n 0, 1) := by decide +kernel
theorem dX6_pocket_1 : decode cX6_pocket 1 = .ok (.iconst 5, 1) := by decide +kernel
theorem dX6_pocket_2 : decode cX6_pocket 2 = .ok (.invokevirtual 92, 3) := by decide +kernel
theorem dX6_pocket_5 : decode cX6_pocket 5 = .ok (.aload_n 0, 1) := by decide +kernel
theorem dX6_pocket_6 : decode cX6_pocket 6 = .ok (.aload_n 0, 1) := by decide +kernel
theorem dX6_pocket_7 : decode cX6_pocket 7 = .ok (.iload_n 1, 1) := by decide +kernel
theorem dX6_pocket_8 : decode cX6_pocket 8 = .ok (.iload_n 2, 1) := by decide +kernel
theorem dX6_pocket_9 : decode cX6_pocket 9 = .ok (.invokevirtual 108, 3) := by decide +kernel
theorem dX6_pocket_12 : decode cX6_pocket 12 = .ok (.invokevirtual 98, 3) := by decide +kernel
theorem dX6_pocket_15 : decode cX6_pocket 15 = .ok (.ireturn, 1) := by decide +kernel
theorem dX6_widens_0 : decode cX6_widens 0 = .ok (.aload_n 0, 1) := by decide +kernel
theorem dX6_widens_1 : decode cX6_widens 1 = .ok (.iconst 5, 1) := by decide +kernel
theorem dX6_widens_2 : decode cX6_widens 2 = .ok (.invokevirtual 92, 3) := by decide +kernel
theorem dX6_widens_5 : decode cX6_widens 5 = .ok (.aload_n 0, 1) := by decide +kernel
theorem dX6_widens_6 : decode cX6_widens 6 = .ok (.aload_n 0, 1) := by decide +kernel
theorem dX6_widens_7 : decode cX6_widens 7 = .ok (.iload_n 1, 1) := by decide +kernel
theorem dX6_widens_8 : decode cX6_widens 8 = .ok (.iload_n 2, 1) := by decide +kernel
theorem dX6_widens_9 : decode cX6_widens 9 = .ok (.invokevirtual 111, 3) := by decide +kernel
theorem dX6_widens_12 : decode cX6_widens 12 = .ok (.invokevirtual 98, 3) := by decide +kernel
theorem dX6_widens_15 : decode cX6_widens 15 = .ok (.ireturn, 1) := by decide +kernel
theorem dX6_touches_0 : decode cX6_touches 0 = .ok (.aload_n 0, 1) := by decide +kernel
theorem dX6_touches_1 : decode cX6_touches 1 = .ok (.iconst 5, 1) := by decide +kernel
theorem dX6_touches_2 : decode cX6_touches 2 = .ok (.invokevirtual 92, 3) := by decide +kernel
theorem dX6_touches_5 : decode cX6_touches 5 = .ok (.aload_n 0, 1) := by decide +kernel
theorem dX6_touches_6 : decode cX6_touches 6 = .ok (.aload_n 0, 1) := by decide +kernel
theorem dX6_touches_7 : decode cX6_touches 7 = .ok (.iload_n 1, 1) := by decide +kernel
theorem dX6_touches_8 : decode cX6_touches 8 = .ok (.iload_n 2, 1) := by decide +kernel
theorem dX6_touches_9 : decode cX6_touches 9 = .ok (.invokevirtual 114, 3) := by decide +kernel
theorem dX6_touches_12 : decode cX6_touches 12 = .ok (.invokevirtual 98, 3) := by decide +kernel
theorem dX6_touches_15 : decode cX6_touches 15 = .ok (.ireturn, 1) := by decide +kernel
theorem dX6_sets_0 : decode cX6_sets 0 = .ok (.aload_n 0, 1) := by decide +kernel
theorem dX6_sets_1 : decode cX6_sets 1 = .ok (.iconst 5, 1) := by decide +kernel
theorem dX6_sets_2 : decode cX6_sets 2 = .ok (.invokevirtual 92, 3) := by decide +kernel
theorem dX6_sets_5 : decode cX6_sets 5 = .ok (.aload_n 0, 1) := by decide +kernel
theorem dX6_sets_6 : decode cX6_sets 6 = .ok (.aload_n 0, 1) := by decide +kernel
theorem dX6_sets_7 : decode cX6_sets 7 = .ok (.iload_n 1, 1) := by decide +kernel
theorem dX6_sets_8 : decode cX6_sets 8 = .ok (.iload_n 2, 1) := by decide +kernel
theorem dX6_sets_9 : decode cX6_sets 9 = .ok (.invokevirtual 117, 3) := by decide +kernel
theorem dX6_sets_12 : decode cX6_sets 12 = .ok (.invokevirtual 98, 3) := by decide +kernel
theorem dX6_sets_15 : decode cX6_sets 15 = .ok (.ireturn, 1) := by decide +kernel
theorem dX6_base_0 : decode cX6_base 0 = .ok (.iconst 0, 1) := by decide +kernel
theorem dX6_base_1 : decode cX6_base 1 = .ok (.istore_n 2, 1) := by decide +kernel
theorem dX6_base_2 : decode cX6_base 2 = .ok (.iconst 0, 1) := by decide +kernel
theorem dX6_base_3 : decode cX6_base 3 = .ok (.istore_n 3, 1) := by decide +kernel
theorem dX6_base_4 : decode cX6_base 4 = .ok (.iload_n 3, 1) := by decide +kernel
theorem dX6_base_5 : decode cX6_base 5 = .ok (.aload_n 0, 1) := by decide +kernel
theorem dX6_base_6 : decode cX6_base 6 = .ok (.iload_n 1, 1) := by decide +kernel
theorem dX6_base_7 : decode cX6_base 7 = .ok (.invokevirtual 69, 3) := by decide +kernel
theorem dX6_base_10 : decode cX6_base 10 = .ok (.if_icmp .ge 18, 3) := by decide +kernel
theorem dX6_base_13 : decode cX6_base 13 = .ok (.iload_n 2, 1) := by decide +kernel
theorem dX6_base_14 : decode cX6_base 14 = .ok (.aload_n 0, 1) := by decide +kernel
theorem dX6_base_15 : decode cX6_base 15 = .ok (.iload_n 1, 1) := by decide +kernel
theorem dX6_base_16 : decode cX6_base 16 = .ok (.iload_n 3, 1) := by decide +kernel
theorem dX6_base_17 : decode cX6_base 17 = .ok (.invokevirtual 120, 3) := by decide +kernel
theorem dX6_base_20 : decode cX6_base 20 = .ok (.iadd, 1) := by decide +kernel
theorem dX6_base_21 : decode cX6_base 21 = .ok (.istore_n 2, 1) := by decide +kernel
theorem dX6_base_22 : decode cX6_base 22 = .ok (.iinc 3 1, 3) := by decide +kernel
theorem dX6_base_25 : decode cX6_base 25 = .ok (.goto (-21), 3) := by decide +kernel
theorem dX6_base_28 : decode cX6_base 28 = .ok (.iload_n 2, 1) := by decide +kernel
theorem dX6_base_29 : decode cX6_base 29 = .ok (.aload_n 0, 1) := by decide +kernel
theorem dX6_base_30 : decode cX6_base 30 = .ok (.getfield 13, 3) := by decide +kernel
theorem dX6_base_33 : decode cX6_base 33 = .ok (.iconst 4, 1) := by decide +kernel
theorem dX6_base_34 : decode cX6_base 34 = .ok (.iaload, 1) := by decide +kernel
theorem dX6_base_35 : decode cX6_base 35 = .ok (.aload_n 0, 1) := by decide +kernel
theorem dX6_base_36 : decode cX6_base 36 = .ok (.iload_n 1, 1) := by decide +kernel
theorem dX6_base_37 : decode cX6_base 37 = .ok (.invokevirtual 69, 3) := by decide +kernel
theorem dX6_base_40 : decode cX6_base 40 = .ok (.iconst 1, 1) := by decide +kernel
theorem dX6_base_41 : decode cX6_base 41 = .ok (.isub, 1) := by decide +kernel
theorem dX6_base_42 : decode cX6_base 42 = .ok (.imul, 1) := by decide +kernel
theorem dX6_base_43 : decode cX6_base 43 = .ok (.isub, 1) := by decide +kernel
theorem dX6_base_44 : decode cX6_base 44 = .ok (.istore_n 2, 1) := by decide +kernel
theorem dX6_base_45 : decode cX6_base 45 = .ok (.iload_n 2, 1) := by decide +kernel
theorem dX6_base_46 : decode cX6_base 46 = .ok (.ifCond .ge 7, 3) := by decide +kernel
theorem dX6_base_49 : decode cX6_base 49 = .ok (.iconst 0, 1) := by decide +kernel
theorem dX6_base_50 : decode cX6_base 50 = .ok (.goto 4, 3) := by decide +kernel
theorem dX6_base_53 : decode cX6_base 53 = .ok (.iload_n 2, 1) := by decide +kernel
theorem dX6_base_54 : decode cX6_base 54 = .ok (.ireturn, 1) := by decide +kernel
theorem dX6_gain_0 : decode cX6_gain 0 = .ok (.iconst 2, 1) := by decide +kernel
theorem dX6_gain_1 : decode cX6_gain 1 = .ok (.aload_n 0, 1) := by decide +kernel
theorem dX6_gain_2 : decode cX6_gain 2 = .ok (.getfield 13, 3) := by decide +kernel
theorem dX6_gain_5 : decode cX6_gain 5 = .ok (.iconst 2, 1) := by decide +kernel
theorem dX6_gain_6 : decode cX6_gain 6 = .ok (.iaload, 1) := by decide +kernel
theorem dX6_gain_7 : decode cX6_gain 7 = .ok (.aload_n 0, 1) := by decide +kernel
theorem dX6_gain_8 : decode cX6_gain 8 = .ok (.getfield 13, 3) := by decide +kernel
theorem dX6_gain_11 : decode cX6_gain 11 = .ok (.iconst 3, 1) := by decide +kernel
theorem dX6_gain_12 : decode cX6_gain 12 = .ok (.iaload, 1) := by decide +kernel
theorem dX6_gain_13 : decode cX6_gain 13 = .ok (.isub, 1) := by decide +kernel
theorem dX6_gain_14 : decode cX6_gain 14 = .ok (.imul, 1) := by decide +kernel
theorem dX6_gain_15 : decode cX6_gain 15 = .ok (.iconst 4, 1) := by decide +kernel
theorem dX6_gain_16 : decode cX6_gain 16 = .ok (.aload_n 0, 1) := by decide +kernel
theorem dX6_gain_17 : decode cX6_gain 17 = .ok (.getfield 13, 3) := by decide +kernel
theorem dX6_gain_20 : decode cX6_gain 20 = .ok (.iconst 4, 1) := by decide +kernel
theorem dX6_gain_21 : decode cX6_gain 21 = .ok (.iaload, 1) := by decide +kernel
theorem dX6_gain_22 : decode cX6_gain 22 = .ok (.imul, 1) := by decide +kernel
theorem dX6_gain_23 : decode cX6_gain 23 = .ok (.isub, 1) := by decide +kernel
theorem dX6_gain_24 : decode cX6_gain 24 = .ok (.ireturn, 1) := by decide +kernel
theorem dX6_humps_0 : decode cX6_humps 0 = .ok (.aload_n 0, 1) := by decide +kernel
theorem dX6_humps_1 : decode cX6_humps 1 = .ok (.invokevirtual 123, 3) := by decide +kernel
theorem dX6_humps_4 : decode cX6_humps 4 = .ok (.iconst 2, 1) := by decide +kernel
theorem dX6_humps_5 : decode cX6_humps 5 = .ok (.if_icmp .ge 7, 3) := by decide +kernel
theorem dX6_humps_8 : decode cX6_humps 8 = .ok (.iconst 0, 1) := by decide +kernel
theorem dX6_humps_9 : decode cX6_humps 9 = .ok (.goto 30, 3) := by decide +kernel
theorem dX6_humps_12 : decode cX6_humps 12 = .ok (.aload_n 0, 1) := by decide +kernel
theorem dX6_humps_13 : decode cX6_humps 13 = .ok (.getfield 13, 3) := by decide +kernel
theorem dX6_humps_16 : decode cX6_humps 16 = .ok (.bipush 111, 2) := by decide +kernel
theorem dX6_humps_18 : decode cX6_humps 18 = .ok (.iconst 2, 1) := by decide +kernel
theorem dX6_humps_19 : decode cX6_humps 19 = .ok (.iload_n 1, 1) := by decide +kernel
theorem dX6_humps_20 : decode cX6_humps 20 = .ok (.imul, 1) := by decide +kernel
theorem dX6_humps_21 : decode cX6_humps 21 = .ok (.iadd, 1) := by decide +kernel
theorem dX6_humps_22 : decode cX6_humps 22 = .ok (.iaload, 1) := by decide +kernel
theorem dX6_humps_23 : decode cX6_humps 23 = .ok (.aload_n 0, 1) := by decide +kernel
theorem dX6_humps_24 : decode cX6_humps 24 = .ok (.getfield 13, 3) := by decide +kernel
theorem dX6_humps_27 : decode cX6_humps 27 = .ok (.iconst 3, 1) := by decide +kernel
theorem dX6_humps_28 : decode cX6_humps 28 = .ok (.iaload, 1) := by decide +kernel
theorem dX6_humps_29 : decode cX6_humps 29 = .ok (.iadd, 1) := by decide +kernel
theorem dX6_humps_30 : decode cX6_humps 30 = .ok (.iconst 2, 1) := by decide +kernel
theorem dX6_humps_31 : decode cX6_humps 31 = .ok (.aload_n 0, 1) := by decide +kernel
theorem dX6_humps_32 : decode cX6_humps 32 = .ok (.getfield 13, 3) := by decide +kernel
theorem dX6_humps_35 : decode cX6_humps 35 = .ok (.iconst 3, 1) := by decide +kernel
theorem dX6_humps_36 : decode cX6_humps 36 = .ok (.iaload, 1) := by decide +kernel
theorem dX6_humps_37 : decode cX6_humps 37 = .ok (.imul, 1) := by decide +kernel
theorem dX6_humps_38 : decode cX6_humps 38 = .ok (.idiv, 1) := by decide +kernel
theorem dX6_humps_39 : decode cX6_humps 39 = .ok (.ireturn, 1) := by decide +kernel
theorem dX6_lack_0 : decode cX6_lack 0 = .ok (.iload_n 2, 1) := by decide +kernel
theorem dX6_lack_1 : decode cX6_lack 1 = .ok (.aload_n 0, 1) := by decide +kernel
theorem dX6_lack_2 : decode cX6_lack 2 = .ok (.getfield 13, 3) := by decide +kernel
theorem dX6_lack_5 : decode cX6_lack 5 = .ok (.iconst 5, 1) := by decide +kernel
theorem dX6_lack_6 : decode cX6_lack 6 = .ok (.iaload, 1) := by decide +kernel
theorem dX6_lack_7 : decode cX6_lack 7 = .ok (.isub, 1) := by decide +kernel
theorem dX6_lack_8 : decode cX6_lack 8 = .ok (.aload_n 0, 1) := by decide +kernel
theorem dX6_lack_9 : decode cX6_lack 9 = .ok (.iload_n 1, 1) := by decide +kernel
theorem dX6_lack_10 : decode cX6_lack 10 = .ok (.invokevirtual 126, 3) := by decide +kernel
theorem dX6_lack_13 : decode cX6_lack 13 = .ok (.isub, 1) := by decide +kernel
theorem dX6_lack_14 : decode cX6_lack 14 = .ok (.istore_n 3, 1) := by decide +kernel
theorem dX6_lack_15 : decode cX6_lack 15 = .ok (.iload_n 3, 1) := by decide +kernel
theorem dX6_lack_16 : decode cX6_lack 16 = .ok (.ifCond .gt 7, 3) := by decide +kernel
theorem dX6_lack_19 : decode cX6_lack 19 = .ok (.iconst 0, 1) := by decide +kernel
theorem dX6_lack_20 : decode cX6_lack 20 = .ok (.goto 16, 3) := by decide +kernel
theorem dX6_lack_23 : decode cX6_lack 23 = .ok (.iload_n 3, 1) := by decide +kernel
theorem dX6_lack_24 : decode cX6_lack 24 = .ok (.iconst 2, 1) := by decide +kernel
theorem dX6_lack_25 : decode cX6_lack 25 = .ok (.irem, 1) := by decide +kernel
theorem dX6_lack_26 : decode cX6_lack 26 = .ok (.ifCond .ne 7, 3) := by decide +kernel
theorem dX6_lack_29 : decode cX6_lack 29 = .ok (.iload_n 3, 1) := by decide +kernel
theorem dX6_lack_30 : decode cX6_lack 30 = .ok (.goto 6, 3) := by decide +kernel
theorem dX6_lack_33 : decode cX6_lack 33 = .ok (.iload_n 3, 1) := by decide +kernel
theorem dX6_lack_34 : decode cX6_lack 34 = .ok (.iconst 1, 1) := by decide +kernel
theorem dX6_lack_35 : decode cX6_lack 35 = .ok (.iadd, 1) := by decide +kernel
theorem dX6_lack_36 : decode cX6_lack 36 = .ok (.ireturn, 1) := by decide +kernel
theorem dX6_needBy_0 : decode cX6_needBy 0 = .ok (.aload_n 0, 1) := by decide +kernel
theorem dX6_needBy_1 : decode cX6_needBy 1 = .ok (.iload_n 1, 1) := by decide +kernel
theorem dX6_needBy_2 : decode cX6_needBy 2 = .ok (.iload_n 2, 1) := by decide +kernel
theorem dX6_needBy_3 : decode cX6_needBy 3 = .ok (.invokevirtual 129, 3) := by decide +kernel
theorem dX6_needBy_6 : decode cX6_needBy 6 = .ok (.istore_n 3, 1) := by decide +kernel
theorem dX6_needBy_7 : decode cX6_needBy 7 = .ok (.iload_n 3, 1) := by decide +kernel
theorem dX6_needBy_8 : decode cX6_needBy 8 = .ok (.ifCond .ne 7, 3) := by decide +kernel
theorem dX6_needBy_11 : decode cX6_needBy 11 = .ok (.iconst 0, 1) := by decide +kernel
theorem dX6_needBy_12 : decode cX6_needBy 12 = .ok (.goto 30, 3) := by decide +kernel
theorem dX6_needBy_15 : decode cX6_needBy 15 = .ok (.aload_n 0, 1) := by decide +kernel
theorem dX6_needBy_16 : decode cX6_needBy 16 = .ok (.invokevirtual 123, 3) := by decide +kernel
theorem dX6_needBy_19 : decode cX6_needBy 19 = .ok (.iconst 2, 1) := by decide +kernel
theorem dX6_needBy_20 : decode cX6_needBy 20 = .ok (.if_icmp .ge 9, 3) := by decide +kernel
theorem dX6_needBy_23 : decode cX6_needBy 23 = .ok (.sipush 1000, 3) := by decide +kernel
theorem dX6_needBy_26 : decode cX6_needBy 26 = .ok (.goto 16, 3) := by decide +kernel
theorem dX6_needBy_29 : decode cX6_needBy 29 = .ok (.iload_n 3, 1) := by decide +kernel
theorem dX6_needBy_30 : decode cX6_needBy 30 = .ok (.aload_n 0, 1) := by decide +kernel
theorem dX6_needBy_31 : decode cX6_needBy 31 = .ok (.invokevirtual 123, 3) := by decide +kernel
theorem dX6_needBy_34 : decode cX6_needBy 34 = .ok (.iadd, 1) := by decide +kernel
theorem dX6_needBy_35 : decode cX6_needBy 35 = .ok (.iconst 1, 1) := by decide +kernel
theorem dX6_needBy_36 : decode cX6_needBy 36 = .ok (.isub, 1) := by decide +kernel
theorem dX6_needBy_37 : decode cX6_needBy 37 = .ok (.aload_n 0, 1) := by decide +kernel
theorem dX6_needBy_38 : decode cX6_needBy 38 = .ok (.invokevirtual 123, 3) := by decide +kernel
theorem dX6_needBy_41 : decode cX6_needBy 41 = .ok (.idiv, 1) := by decide +kernel
theorem dX6_needBy_42 : decode cX6_needBy 42 = .ok (.ireturn, 1) := by decide +kernel
theorem dX6_pocketsOf_0 : decode cX6_pocketsOf 0 = .ok (.iconst 0, 1) := by decide +kernel
theorem dX6_pocketsOf_1 : decode cX6_pocketsOf 1 = .ok (.istore_n 2, 1) := by decide +kernel
theorem dX6_pocketsOf_2 : decode cX6_pocketsOf 2 = .ok (.iconst 0, 1) := by decide +kernel
theorem dX6_pocketsOf_3 : decode cX6_pocketsOf 3 = .ok (.istore_n 3, 1) := by decide +kernel
theorem dX6_pocketsOf_4 : decode cX6_pocketsOf 4 = .ok (.iload_n 3, 1) := by decide +kernel
theorem dX6_pocketsOf_5 : decode cX6_pocketsOf 5 = .ok (.aload_n 0, 1) := by decide +kernel
theorem dX6_pocketsOf_6 : decode cX6_pocketsOf 6 = .ok (.getfield 13, 3) := by decide +kernel
theorem dX6_pocketsOf_9 : decode cX6_pocketsOf 9 = .ok (.iconst 1, 1) := by decide +kernel
theorem dX6_pocketsOf_10 : decode cX6_pocketsOf 10 = .ok (.iaload, 1) := by decide +kernel
theorem dX6_pocketsOf_11 : decode cX6_pocketsOf 11 = .ok (.if_icmp .ge 31, 3) := by decide +kernel
theorem dX6_pocketsOf_14 : decode cX6_pocketsOf 14 = .ok (.iload_n 2, 1) := by decide +kernel
theorem dX6_pocketsOf_15 : decode cX6_pocketsOf 15 = .ok (.aload_n 0, 1) := by decide +kernel
theorem dX6_pocketsOf_16 : decode cX6_pocketsOf 16 = .ok (.getfield 13, 3) := by decide +kernel
theorem dX6_pocketsOf_19 : decode cX6_pocketsOf 19 = .ok (.bipush 111, 2) := by decide +kernel
theorem dX6_pocketsOf_21 : decode cX6_pocketsOf 21 = .ok (.iconst 2, 1) := by decide +kernel
theorem dX6_pocketsOf_22 : decode cX6_pocketsOf 22 = .ok (.iload_n 3, 1) := by decide +kernel
theorem dX6_pocketsOf_23 : decode cX6_pocketsOf 23 = .ok (.imul, 1) := by decide +kernel
theorem dX6_pocketsOf_24 : decode cX6_pocketsOf 24 = .ok (.iadd, 1) := by decide +kernel
theorem dX6_pocketsOf_25 : decode cX6_pocketsOf 25 = .ok (.iconst 1, 1) := by decide +kernel
theorem dX6_pocketsOf_26 : decode cX6_pocketsOf 26 = .ok (.iadd, 1) := by decide +kernel
theorem dX6_pocketsOf_27 : decode cX6_pocketsOf 27 = .ok (.iaload, 1) := by decide +kernel
theorem dX6_pocketsOf_28 : decode cX6_pocketsOf 28 = .ok (.iload_n 1, 1) := by decide +kernel
theorem dX6_pocketsOf_29 : decode cX6_pocketsOf 29 = .ok (.ishr, 1) := by decide +kernel
theorem dX6_pocketsOf_30 : decode cX6_pocketsOf 30 = .ok (.iconst 1, 1) := by decide +kernel
theorem dX6_pocketsOf_31 : decode cX6_pocketsOf 31 = .ok (.iand, 1) := by decide +kernel
theorem dX6_pocketsOf_32 : decode cX6_pocketsOf 32 = .ok (.iload_n 3, 1) := by decide +kernel
theorem dX6_pocketsOf_33 : decode cX6_pocketsOf 33 = .ok (.ishl, 1) := by decide +kernel
theorem dX6_pocketsOf_34 : decode cX6_pocketsOf 34 = .ok (.ior, 1) := by decide +kernel
theorem dX6_pocketsOf_35 : decode cX6_pocketsOf 35 = .ok (.istore_n 2, 1) := by decide +kernel
theorem dX6_pocketsOf_36 : decode cX6_pocketsOf 36 = .ok (.iinc 3 1, 3) := by decide +kernel
theorem dX6_pocketsOf_39 : decode cX6_pocketsOf 39 = .ok (.goto (-35), 3) := by decide +kernel
theorem dX6_pocketsOf_42 : decode cX6_pocketsOf 42 = .ok (.iload_n 2, 1) := by decide +kernel
theorem dX6_pocketsOf_43 : decode cX6_pocketsOf 43 = .ok (.ireturn, 1) := by decide +kernel
theorem dX6_turns_0 : decode cX6_turns 0 = .ok (.iconst 0, 1) := by decide +kernel
theorem dX6_turns_1 : decode cX6_turns 1 = .ok (.istore_n 3, 1) := by decide +kernel
theorem dX6_turns_2 : decode cX6_turns 2 = .ok (.iconst 1, 1) := by decide +kernel
theorem dX6_turns_3 : decode cX6_turns 3 = .ok (.istore 4, 2) := by decide +kernel
theorem dX6_turns_5 : decode cX6_turns 5 = .ok (.iload 4, 2) := by decide +kernel
theorem dX6_turns_7 : decode cX6_turns 7 = .ok (.aload_n 0, 1) := by decide +kernel
theorem dX6_turns_8 : decode cX6_turns 8 = .ok (.iload_n 1, 1) := by decide +kernel
theorem dX6_turns_9 : decode cX6_turns 9 = .ok (.invokevirtual 69, 3) := by decide +kernel
theorem dX6_turns_12 : decode cX6_turns 12 = .ok (.if_icmp .ge 28, 3) := by decide +kernel
theorem dX6_turns_15 : decode cX6_turns 15 = .ok (.iload_n 3, 1) := by decide +kernel
theorem dX6_turns_16 : decode cX6_turns 16 = .ok (.aload_n 0, 1) := by decide +kernel
theorem dX6_turns_17 : decode cX6_turns 17 = .ok (.iload_n 1, 1) := by decide +kernel
theorem dX6_turns_18 : decode cX6_turns 18 = .ok (.iload 4, 2) := by decide +kernel
theorem dX6_turns_20 : decode cX6_turns 20 = .ok (.invokevirtual 132, 3) := by decide +kernel
theorem dX6_turns_23 : decode cX6_turns 23 = .ok (.iload_n 2, 1) := by decide +kernel
theorem dX6_turns_24 : decode cX6_turns 24 = .ok (.if_icmp .ne 7, 3) := by decide +kernel
theorem dX6_turns_27 : decode cX6_turns 27 = .ok (.iconst 1, 1) := by decide +kernel
theorem dX6_turns_28 : decode cX6_turns 28 = .ok (.goto 4, 3) := by decide +kernel
theorem dX6_turns_31 : decode cX6_turns 31 = .ok (.iconst 0, 1) := by decide +kernel
theorem dX6_turns_32 : decode cX6_turns 32 = .ok (.iadd, 1) := by decide +kernel
theorem dX6_turns_33 : decode cX6_turns 33 = .ok (.istore_n 3, 1) := by decide +kernel
theorem dX6_turns_34 : decode cX6_turns 34 = .ok (.iinc 4 1, 3) := by decide +kernel
theorem dX6_turns_37 : decode cX6_turns 37 = .ok (.goto (-32), 3) := by decide +kernel
theorem dX6_turns_40 : decode cX6_turns 40 = .ok (.iload_n 3, 1) := by decide +kernel
theorem dX6_turns_41 : decode cX6_turns 41 = .ok (.ireturn, 1) := by decide +kernel
theorem dX6_toldLine_0 : decode cX6_toldLine 0 = .ok (.iload_n 2, 1) := by decide +kernel
theorem dX6_toldLine_1 : decode cX6_toldLine 1 = .ok (.tableswitch 90 0 5 #[39, 45, 51, 64, 77, 83], 39) := by decide +kernel
theorem dX6_toldLine_40 : decode cX6_toldLine 40 = .ok (.aload_n 0, 1) := by decide +kernel
theorem dX6_toldLine_41 : decode cX6_toldLine 41 = .ok (.iload_n 1, 1) := by decide +kernel
theorem dX6_toldLine_42 : decode cX6_toldLine 42 = .ok (.invokevirtual 69, 3) := by decide +kernel
theorem dX6_toldLine_45 : decode cX6_toldLine 45 = .ok (.ireturn, 1) := by decide +kernel
theorem dX6_toldLine_46 : decode cX6_toldLine 46 = .ok (.aload_n 0, 1) := by decide +kernel
theorem dX6_toldLine_47 : decode cX6_toldLine 47 = .ok (.iload_n 1, 1) := by decide +kernel
theorem dX6_toldLine_48 : decode cX6_toldLine 48 = .ok (.invokevirtual 126, 3) := by decide +kernel
theorem dX6_toldLine_51 : decode cX6_toldLine 51 = .ok (.ireturn, 1) := by decide +kernel
theorem dX6_toldLine_52 : decode cX6_toldLine 52 = .ok (.aload_n 0, 1) := by decide +kernel
theorem dX6_toldLine_53 : decode cX6_toldLine 53 = .ok (.iload_n 1, 1) := by decide +kernel
theorem dX6_toldLine_54 : decode cX6_toldLine 54 = .ok (.aload_n 0, 1) := by decide +kernel
theorem dX6_toldLine_55 : decode cX6_toldLine 55 = .ok (.getfield 13, 3) := by decide +kernel
theorem dX6_toldLine_58 : decode cX6_toldLine 58 = .ok (.bipush 6, 2) := by decide +kernel
theorem dX6_toldLine_60 : decode cX6_toldLine 60 = .ok (.iaload, 1) := by decide +kernel
theorem dX6_toldLine_61 : decode cX6_toldLine 61 = .ok (.invokevirtual 129, 3) := by decide +kernel
theorem dX6_toldLine_64 : decode cX6_toldLine 64 = .ok (.ireturn, 1) := by decide +kernel
theorem dX6_toldLine_65 : decode cX6_toldLine 65 = .ok (.aload_n 0, 1) := by decide +kernel
theorem dX6_toldLine_66 : decode cX6_toldLine 66 = .ok (.iload_n 1, 1) := by decide +kernel
theorem dX6_toldLine_67 : decode cX6_toldLine 67 = .ok (.aload_n 0, 1) := by decide +kernel
theorem dX6_toldLine_68 : decode cX6_toldLine 68 = .ok (.getfield 13, 3) := by decide +kernel
theorem dX6_toldLine_71 : decode cX6_toldLine 71 = .ok (.bipush 6, 2) := by decide +kernel
theorem dX6_toldLine_73 : decode cX6_toldLine 73 = .ok (.iaload, 1) := by decide +kernel
theorem dX6_toldLine_74 : decode cX6_toldLine 74 = .ok (.invokevirtual 135, 3) := by decide +kernel
theorem dX6_toldLine_77 : decode cX6_toldLine 77 = .ok (.ireturn, 1) := by decide +kernel
theorem dX6_toldLine_78 : decode cX6_toldLine 78 = .ok (.aload_n 0, 1) := by decide +kernel
theorem dX6_toldLine_79 : decode cX6_toldLine 79 = .ok (.iload_n 1, 1) := by decide +kernel
theorem dX6_toldLine_80 : decode cX6_toldLine 80 = .ok (.invokevirtual 138, 3) := by decide +kernel
theorem dX6_toldLine_83 : decode cX6_toldLine 83 = .ok (.ireturn, 1) := by decide +kernel
theorem dX6_toldLine_84 : decode cX6_toldLine 84 = .ok (.aload_n 0, 1) := by decide +kernel
theorem dX6_toldLine_85 : decode cX6_toldLine 85 = .ok (.iload_n 1, 1) := by decide +kernel
theorem dX6_toldLine_86 : decode cX6_toldLine 86 = .ok (.iconst 1, 1) := by decide +kernel
theorem dX6_toldLine_87 : decode cX6_toldLine 87 = .ok (.invokevirtual 141, 3) := by decide +kernel
theorem dX6_toldLine_90 : decode cX6_toldLine 90 = .ok (.ireturn, 1) := by decide +kernel
theorem dX6_toldLine_91 : decode cX6_toldLine 91 = .ok (.aload_n 0, 1) := by decide +kernel
theorem dX6_toldLine_92 : decode cX6_toldLine 92 = .ok (.iload_n 1, 1) := by decide +kernel
theorem dX6_toldLine_93 : decode cX6_toldLine 93 = .ok (.iconst 0, 1) := by decide +kernel
theorem dX6_toldLine_94 : decode cX6_toldLine 94 = .ok (.invokevirtual 141, 3) := by decide +kernel
theorem dX6_toldLine_97 : decode cX6_toldLine 97 = .ok (.ireturn, 1) := by decide +kernel
theorem dX6_of_0 : decode cX6_of 0 = .ok (.aload_n 0, 1) := by decide +kernel
theorem dX6_of_1 : decode cX6_of 1 = .ok (.iload_n 1, 1) := by decide +kernel
theorem dX6_of_2 : decode cX6_of 2 = .ok (.invokevirtual 65, 3) := by decide +kernel
theorem dX6_of_5 : decode cX6_of 5 = .ok (.ifCond .eq 22, 3) := by decide +kernel
theorem dX6_of_8 : decode cX6_of 8 = .ok (.iload_n 2, 1) := by decide +kernel
theorem dX6_of_9 : decode cX6_of 9 = .ok (.iconst 0, 1) := by decide +kernel
theorem dX6_of_10 : decode cX6_of 10 = .ok (.bipush 6, 2) := by decide +kernel
theorem dX6_of_12 : decode cX6_of 12 = .ok (.invokestatic 61, 3) := by decide +kernel
theorem dX6_of_15 : decode cX6_of 15 = .ok (.ifCond .eq 12, 3) := by decide +kernel
theorem dX6_of_18 : decode cX6_of 18 = .ok (.aload_n 0, 1) := by decide +kernel
theorem dX6_of_19 : decode cX6_of 19 = .ok (.iload_n 1, 1) := by decide +kernel
theorem dX6_of_20 : decode cX6_of 20 = .ok (.iload_n 2, 1) := by decide +kernel
theorem dX6_of_21 : decode cX6_of 21 = .ok (.invokevirtual 144, 3) := by decide +kernel
theorem dX6_of_24 : decode cX6_of 24 = .ok (.goto 7, 3) := by decide +kernel
theorem dX6_of_27 : decode cX6_of 27 = .ok (.aload_n 0, 1) := by decide +kernel
theorem dX6_of_28 : decode cX6_of 28 = .ok (.invokevirtual 43, 3) := by decide +kernel
theorem dX6_of_31 : decode cX6_of 31 = .ok (.ireturn, 1) := by decide +kernel
theorem dX6_toldRun_0 : decode cX6_toldRun 0 = .ok (.iload_n 3, 1) := by decide +kernel
theorem dX6_toldRun_1 : decode cX6_toldRun 1 = .ok (.ifCond .ne 12, 3) := by decide +kernel
theorem dX6_toldRun_4 : decode cX6_toldRun 4 = .ok (.aload_n 0, 1) := by decide +kernel
theorem dX6_toldRun_5 : decode cX6_toldRun 5 = .ok (.iload_n 1, 1) := by decide +kernel
theorem dX6_toldRun_6 : decode cX6_toldRun 6 = .ok (.iload_n 2, 1) := by decide +kernel
theorem dX6_toldRun_7 : decode cX6_toldRun 7 = .ok (.invokevirtual 120, 3) := by decide +kernel
theorem dX6_toldRun_10 : decode cX6_toldRun 10 = .ok (.goto 39, 3) := by decide +kernel
theorem dX6_toldRun_13 : decode cX6_toldRun 13 = .ok (.iload_n 3, 1) := by decide +kernel
theorem dX6_toldRun_14 : decode cX6_toldRun 14 = .ok (.iconst 1, 1) := by decide +kernel
theorem dX6_toldRun_15 : decode cX6_toldRun 15 = .ok (.if_icmp .ne 20, 3) := by decide +kernel
theorem dX6_toldRun_18 : decode cX6_toldRun 18 = .ok (.iload_n 2, 1) := by decide +kernel
theorem dX6_toldRun_19 : decode cX6_toldRun 19 = .ok (.ifCond .ne 7, 3) := by decide +kernel
theorem dX6_toldRun_22 : decode cX6_toldRun 22 = .ok (.iconst (-1), 1) := by decide +kernel
theorem dX6_toldRun_23 : decode cX6_toldRun 23 = .ok (.goto 26, 3) := by decide +kernel
theorem dX6_toldRun_26 : decode cX6_toldRun 26 = .ok (.aload_n 0, 1) := by decide +kernel
theorem dX6_toldRun_27 : decode cX6_toldRun 27 = .ok (.iload_n 1, 1) := by decide +kernel
theorem dX6_toldRun_28 : decode cX6_toldRun 28 = .ok (.iload_n 2, 1) := by decide +kernel
theorem dX6_toldRun_29 : decode cX6_toldRun 29 = .ok (.invokevirtual 132, 3) := by decide +kernel
theorem dX6_toldRun_32 : decode cX6_toldRun 32 = .ok (.goto 17, 3) := by decide +kernel
theorem dX6_toldRun_35 : decode cX6_toldRun 35 = .ok (.aload_n 0, 1) := by decide +kernel
theorem dX6_toldRun_36 : decode cX6_toldRun 36 = .ok (.iload_n 1, 1) := by decide +kernel
theorem dX6_toldRun_37 : decode cX6_toldRun 37 = .ok (.iload_n 2, 1) := by decide +kernel
theorem dX6_toldRun_38 : decode cX6_toldRun 38 = .ok (.invokevirtual 120, 3) := by decide +kernel
theorem dX6_toldRun_41 : decode cX6_toldRun 41 = .ok (.aload_n 0, 1) := by decide +kernel
theorem dX6_toldRun_42 : decode cX6_toldRun 42 = .ok (.getfield 13, 3) := by decide +kernel
theorem dX6_toldRun_45 : decode cX6_toldRun 45 = .ok (.bipush 8, 2) := by decide +kernel
theorem dX6_toldRun_47 : decode cX6_toldRun 47 = .ok (.iaload, 1) := by decide +kernel
theorem dX6_toldRun_48 : decode cX6_toldRun 48 = .ok (.idiv, 1) := by decide +kernel
theorem dX6_toldRun_49 : decode cX6_toldRun 49 = .ok (.ireturn, 1) := by decide +kernel
theorem dX6_isRun_0 : decode cX6_isRun 0 = .ok (.aload_n 0, 1) := by decide +kernel
theorem dX6_isRun_1 : decode cX6_isRun 1 = .ok (.iload_n 1, 1) := by decide +kernel
theorem dX6_isRun_2 : decode cX6_isRun 2 = .ok (.invokevirtual 65, 3) := by decide +kernel
theorem dX6_isRun_5 : decode cX6_isRun 5 = .ok (.ifCond .eq 22, 3) := by decide +kernel
theorem dX6_isRun_8 : decode cX6_isRun 8 = .ok (.iload_n 2, 1) := by decide +kernel
theorem dX6_isRun_9 : decode cX6_isRun 9 = .ok (.iconst 0, 1) := by decide +kernel
theorem dX6_isRun_10 : decode cX6_isRun 10 = .ok (.aload_n 0, 1) := by decide +kernel
theorem dX6_isRun_11 : decode cX6_isRun 11 = .ok (.iload_n 1, 1) := by decide +kernel
theorem dX6_isRun_12 : decode cX6_isRun 12 = .ok (.invokevirtual 69, 3) := by decide +kernel
theorem dX6_isRun_15 : decode cX6_isRun 15 = .ok (.iconst 1, 1) := by decide +kernel
theorem dX6_isRun_16 : decode cX6_isRun 16 = .ok (.isub, 1) := by decide +kernel
theorem dX6_isRun_17 : decode cX6_isRun 17 = .ok (.invokestatic 61, 3) := by decide +kernel
theorem dX6_isRun_20 : decode cX6_isRun 20 = .ok (.ifCond .eq 7, 3) := by decide +kernel
theorem dX6_isRun_23 : decode cX6_isRun 23 = .ok (.iconst 1, 1) := by decide +kernel
theorem dX6_isRun_24 : decode cX6_isRun 24 = .ok (.goto 4, 3) := by decide +kernel
theorem dX6_isRun_27 : decode cX6_isRun 27 = .ok (.iconst 0, 1) := by decide +kernel
theorem dX6_isRun_28 : decode cX6_isRun 28 = .ok (.ireturn, 1) := by decide +kernel
theorem dX6_run_0 : decode cX6_run 0 = .ok (.aload_n 0, 1) := by decide +kernel
theorem dX6_run_1 : decode cX6_run 1 = .ok (.iload_n 1, 1) := by decide +kernel
theorem dX6_run_2 : decode cX6_run 2 = .ok (.iload_n 2, 1) := by decide +kernel
theorem dX6_run_3 : decode cX6_run 3 = .ok (.invokevirtual 147, 3) := by decide +kernel
theorem dX6_run_6 : decode cX6_run 6 = .ok (.ifCond .eq 22, 3) := by decide +kernel
theorem dX6_run_9 : decode cX6_run 9 = .ok (.iload_n 3, 1) := by decide +kernel
theorem dX6_run_10 : decode cX6_run 10 = .ok (.iconst 0, 1) := by decide +kernel
theorem dX6_run_11 : decode cX6_run 11 = .ok (.iconst 2, 1) := by decide +kernel
theorem dX6_run_12 : decode cX6_run 12 = .ok (.invokestatic 61, 3) := by decide +kernel
theorem dX6_run_15 : decode cX6_run 15 = .ok (.ifCond .eq 13, 3) := by decide +kernel
theorem dX6_run_18 : decode cX6_run 18 = .ok (.aload_n 0, 1) := by decide +kernel
theorem dX6_run_19 : decode cX6_run 19 = .ok (.iload_n 1, 1) := by decide +kernel
theorem dX6_run_20 : decode cX6_run 20 = .ok (.iload_n 2, 1) := by decide +kernel
theorem dX6_run_21 : decode cX6_run 21 = .ok (.iload_n 3, 1) := by decide +kernel
theorem dX6_run_22 : decode cX6_run 22 = .ok (.invokevirtual 151, 3) := by decide +kernel
theorem dX6_run_25 : decode cX6_run 25 = .ok (.goto 7, 3) := by decide +kernel
theorem dX6_run_28 : decode cX6_run 28 = .ok (.aload_n 0, 1) := by decide +kernel
theorem dX6_run_29 : decode cX6_run 29 = .ok (.invokevirtual 43, 3) := by decide +kernel
theorem dX6_run_32 : decode cX6_run 32 = .ok (.ireturn, 1) := by decide +kernel
theorem dX6_lays_0 : decode cX6_lays 0 = .ok (.iconst 1, 1) := by decide +kernel
theorem dX6_lays_1 : decode cX6_lays 1 = .ok (.istore_n 2, 1) := by decide +kernel
theorem dX6_lays_2 : decode cX6_lays 2 = .ok (.iconst 0, 1) := by decide +kernel
theorem dX6_lays_3 : decode cX6_lays 3 = .ok (.istore_n 3, 1) := by decide +kernel
theorem dX6_lays_4 : decode cX6_lays 4 = .ok (.iload_n 3, 1) := by decide +kernel
theorem dX6_lays_5 : decode cX6_lays 5 = .ok (.aload_n 0, 1) := by decide +kernel
theorem dX6_lays_6 : decode cX6_lays 6 = .ok (.getfield 13, 3) := by decide +kernel
theorem dX6_lays_9 : decode cX6_lays 9 = .ok (.iconst 0, 1) := by decide +kernel
theorem dX6_lays_10 : decode cX6_lays 10 = .ok (.iaload, 1) := by decide +kernel
theorem dX6_lays_11 : decode cX6_lays 11 = .ok (.if_icmp .ge 51, 3) := by decide +kernel
theorem dX6_lays_14 : decode cX6_lays 14 = .ok (.aload_n 0, 1) := by decide +kernel
theorem dX6_lays_15 : decode cX6_lays 15 = .ok (.getfield 19, 3) := by decide +kernel
theorem dX6_lays_18 : decode cX6_lays 18 = .ok (.iload_n 3, 1) := by decide +kernel
theorem dX6_lays_19 : decode cX6_lays 19 = .ok (.aload_n 0, 1) := by decide +kernel
theorem dX6_lays_20 : decode cX6_lays 20 = .ok (.iload_n 3, 1) := by decide +kernel
theorem dX6_lays_21 : decode cX6_lays 21 = .ok (.iload_n 1, 1) := by decide +kernel
theorem dX6_lays_22 : decode cX6_lays 22 = .ok (.invokevirtual 135, 3) := by decide +kernel
theorem dX6_lays_25 : decode cX6_lays 25 = .ok (.iastore, 1) := by decide +kernel
theorem dX6_lays_26 : decode cX6_lays 26 = .ok (.aload_n 0, 1) := by decide +kernel
theorem dX6_lays_27 : decode cX6_lays 27 = .ok (.getfield 25, 3) := by decide +kernel
theorem dX6_lays_30 : decode cX6_lays 30 = .ok (.iload_n 3, 1) := by decide +kernel
theorem dX6_lays_31 : decode cX6_lays 31 = .ok (.aload_n 0, 1) := by decide +kernel
theorem dX6_lays_32 : decode cX6_lays 32 = .ok (.iload_n 3, 1) := by decide +kernel
theorem dX6_lays_33 : decode cX6_lays 33 = .ok (.invokevirtual 138, 3) := by decide +kernel
theorem dX6_lays_36 : decode cX6_lays 36 = .ok (.iastore, 1) := by decide +kernel
theorem dX6_lays_37 : decode cX6_lays 37 = .ok (.iload_n 2, 1) := by decide +kernel
theorem dX6_lays_38 : decode cX6_lays 38 = .ok (.ifCond .eq 16, 3) := by decide +kernel
theorem dX6_lays_41 : decode cX6_lays 41 = .ok (.aload_n 0, 1) := by decide +kernel
theorem dX6_lays_42 : decode cX6_lays 42 = .ok (.iload_n 3, 1) := by decide +kernel
theorem dX6_lays_43 : decode cX6_lays 43 = .ok (.invokevirtual 126, 3) := by decide +kernel
theorem dX6_lays_46 : decode cX6_lays 46 = .ok (.iload_n 1, 1) := by decide +kernel
theorem dX6_lays_47 : decode cX6_lays 47 = .ok (.if_icmp .gt 7, 3) := by decide +kernel
theorem dX6_lays_50 : decode cX6_lays 50 = .ok (.iconst 1, 1) := by decide +kernel
theorem dX6_lays_51 : decode cX6_lays 51 = .ok (.goto 4, 3) := by decide +kernel
theorem dX6_lays_54 : decode cX6_lays 54 = .ok (.iconst 0, 1) := by decide +kernel
theorem dX6_lays_55 : decode cX6_lays 55 = .ok (.istore_n 2, 1) := by decide +kernel
theorem dX6_lays_56 : decode cX6_lays 56 = .ok (.iinc 3 1, 3) := by decide +kernel
theorem dX6_lays_59 : decode cX6_lays 59 = .ok (.goto (-55), 3) := by decide +kernel
theorem dX6_lays_62 : decode cX6_lays 62 = .ok (.iconst 0, 1) := by decide +kernel
theorem dX6_lays_63 : decode cX6_lays 63 = .ok (.istore_n 3, 1) := by decide +kernel
theorem dX6_lays_64 : decode cX6_lays 64 = .ok (.iload_n 3, 1) := by decide +kernel
theorem dX6_lays_65 : decode cX6_lays 65 = .ok (.aload_n 0, 1) := by decide +kernel
theorem dX6_lays_66 : decode cX6_lays 66 = .ok (.getfield 13, 3) := by decide +kernel
theorem dX6_lays_69 : decode cX6_lays 69 = .ok (.iconst 1, 1) := by decide +kernel
theorem dX6_lays_70 : decode cX6_lays 70 = .ok (.iaload, 1) := by decide +kernel
theorem dX6_lays_71 : decode cX6_lays 71 = .ok (.if_icmp .ge 20, 3) := by decide +kernel
theorem dX6_lays_74 : decode cX6_lays 74 = .ok (.aload_n 0, 1) := by decide +kernel
theorem dX6_lays_75 : decode cX6_lays 75 = .ok (.getfield 22, 3) := by decide +kernel
theorem dX6_lays_78 : decode cX6_lays 78 = .ok (.iload_n 3, 1) := by decide +kernel
theorem dX6_lays_79 : decode cX6_lays 79 = .ok (.aload_n 0, 1) := by decide +kernel
theorem dX6_lays_80 : decode cX6_lays 80 = .ok (.iload_n 3, 1) := by decide +kernel
theorem dX6_lays_81 : decode cX6_lays 81 = .ok (.invokevirtual 154, 3) := by decide +kernel
theorem dX6_lays_84 : decode cX6_lays 84 = .ok (.iastore, 1) := by decide +kernel
theorem dX6_lays_85 : decode cX6_lays 85 = .ok (.iinc 3 1, 3) := by decide +kernel
theorem dX6_lays_88 : decode cX6_lays 88 = .ok (.goto (-24), 3) := by decide +kernel
theorem dX6_lays_91 : decode cX6_lays 91 = .ok (.iload_n 2, 1) := by decide +kernel
theorem dX6_lays_92 : decode cX6_lays 92 = .ok (.ireturn, 1) := by decide +kernel
theorem dX6_isEnough_0 : decode cX6_isEnough 0 = .ok (.iconst 0, 1) := by decide +kernel
theorem dX6_isEnough_1 : decode cX6_isEnough 1 = .ok (.istore_n 2, 1) := by decide +kernel
theorem dX6_isEnough_2 : decode cX6_isEnough 2 = .ok (.iconst 0, 1) := by decide +kernel
theorem dX6_isEnough_3 : decode cX6_isEnough 3 = .ok (.istore_n 3, 1) := by decide +kernel
theorem dX6_isEnough_4 : decode cX6_isEnough 4 = .ok (.iconst 0, 1) := by decide +kernel
theorem dX6_isEnough_5 : decode cX6_isEnough 5 = .ok (.istore 4, 2) := by decide +kernel
theorem dX6_isEnough_7 : decode cX6_isEnough 7 = .ok (.iload 4, 2) := by decide +kernel
theorem dX6_isEnough_9 : decode cX6_isEnough 9 = .ok (.aload_n 0, 1) := by decide +kernel
theorem dX6_isEnough_10 : decode cX6_isEnough 10 = .ok (.getfield 13, 3) := by decide +kernel
theorem dX6_isEnough_13 : decode cX6_isEnough 13 = .ok (.iconst 0, 1) := by decide +kernel
theorem dX6_isEnough_14 : decode cX6_isEnough 14 = .ok (.iaload, 1) := by decide +kernel
theorem dX6_isEnough_15 : decode cX6_isEnough 15 = .ok (.if_icmp .ge 39, 3) := by decide +kernel
theorem dX6_isEnough_18 : decode cX6_isEnough 18 = .ok (.iload_n 1, 1) := by decide +kernel
theorem dX6_isEnough_19 : decode cX6_isEnough 19 = .ok (.iload 4, 2) := by decide +kernel
theorem dX6_isEnough_21 : decode cX6_isEnough 21 = .ok (.ishr, 1) := by decide +kernel
theorem dX6_isEnough_22 : decode cX6_isEnough 22 = .ok (.iconst 1, 1) := by decide +kernel
theorem dX6_isEnough_23 : decode cX6_isEnough 23 = .ok (.iand, 1) := by decide +kernel
theorem dX6_isEnough_24 : decode cX6_isEnough 24 = .ok (.iconst 1, 1) := by decide +kernel
theorem dX6_isEnough_25 : decode cX6_isEnough 25 = .ok (.if_icmp .ne 23, 3) := by decide +kernel
theorem dX6_isEnough_28 : decode cX6_isEnough 28 = .ok (.iload_n 3, 1) := by decide +kernel
theorem dX6_isEnough_29 : decode cX6_isEnough 29 = .ok (.aload_n 0, 1) := by decide +kernel
theorem dX6_isEnough_30 : decode cX6_isEnough 30 = .ok (.getfield 19, 3) := by decide +kernel
theorem dX6_isEnough_33 : decode cX6_isEnough 33 = .ok (.iload 4, 2) := by decide +kernel
theorem dX6_isEnough_35 : decode cX6_isEnough 35 = .ok (.iaload, 1) := by decide +kernel
theorem dX6_isEnough_36 : decode cX6_isEnough 36 = .ok (.iadd, 1) := by decide +kernel
theorem dX6_isEnough_37 : decode cX6_isEnough 37 = .ok (.istore_n 3, 1) := by decide +kernel
theorem dX6_isEnough_38 : decode cX6_isEnough 38 = .ok (.iload_n 2, 1) := by decide +kernel
theorem dX6_isEnough_39 : decode cX6_isEnough 39 = .ok (.aload_n 0, 1) := by decide +kernel
theorem dX6_isEnough_40 : decode cX6_isEnough 40 = .ok (.getfield 25, 3) := by decide +kernel
theorem dX6_isEnough_43 : decode cX6_isEnough 43 = .ok (.iload 4, 2) := by decide +kernel
theorem dX6_isEnough_45 : decode cX6_isEnough 45 = .ok (.iaload, 1) := by decide +kernel
theorem dX6_isEnough_46 : decode cX6_isEnough 46 = .ok (.ior, 1) := by decide +kernel
theorem dX6_isEnough_47 : decode cX6_isEnough 47 = .ok (.istore_n 2, 1) := by decide +kernel
theorem dX6_isEnough_48 : decode cX6_isEnough 48 = .ok (.iinc 4 1, 3) := by decide +kernel
theorem dX6_isEnough_51 : decode cX6_isEnough 51 = .ok (.goto (-44), 3) := by decide +kernel
theorem dX6_isEnough_54 : decode cX6_isEnough 54 = .ok (.iconst 0, 1) := by decide +kernel
theorem dX6_isEnough_55 : decode cX6_isEnough 55 = .ok (.istore 4, 2) := by decide +kernel
theorem dX6_isEnough_57 : decode cX6_isEnough 57 = .ok (.iload 4, 2) := by decide +kernel
theorem dX6_isEnough_59 : decode cX6_isEnough 59 = .ok (.aload_n 0, 1) := by decide +kernel
theorem dX6_isEnough_60 : decode cX6_isEnough 60 = .ok (.getfield 13, 3) := by decide +kernel
theorem dX6_isEnough_63 : decode cX6_isEnough 63 = .ok (.iconst 1, 1) := by decide +kernel
theorem dX6_isEnough_64 : decode cX6_isEnough 64 = .ok (.iaload, 1) := by decide +kernel
theorem dX6_isEnough_65 : decode cX6_isEnough 65 = .ok (.if_icmp .ge 33, 3) := by decide +kernel
theorem dX6_isEnough_68 : decode cX6_isEnough 68 = .ok (.iload_n 3, 1) := by decide +kernel
theorem dX6_isEnough_69 : decode cX6_isEnough 69 = .ok (.iload_n 2, 1) := by decide +kernel
theorem dX6_isEnough_70 : decode cX6_isEnough 70 = .ok (.iload 4, 2) := by decide +kernel
theorem dX6_isEnough_72 : decode cX6_isEnough 72 = .ok (.ishr, 1) := by decide +kernel
theorem dX6_isEnough_73 : decode cX6_isEnough 73 = .ok (.iconst 1, 1) := by decide +kernel
theorem dX6_isEnough_74 : decode cX6_isEnough 74 = .ok (.iand, 1) := by decide +kernel
theorem dX6_isEnough_75 : decode cX6_isEnough 75 = .ok (.iconst 1, 1) := by decide +kernel
theorem dX6_isEnough_76 : decode cX6_isEnough 76 = .ok (.if_icmp .ne 13, 3) := by decide +kernel
theorem dX6_isEnough_79 : decode cX6_isEnough 79 = .ok (.aload_n 0, 1) := by decide +kernel
theorem dX6_isEnough_80 : decode cX6_isEnough 80 = .ok (.getfield 22, 3) := by decide +kernel
theorem dX6_isEnough_83 : decode cX6_isEnough 83 = .ok (.iload 4, 2) := by decide +kernel
theorem dX6_isEnough_85 : decode cX6_isEnough 85 = .ok (.iaload, 1) := by decide +kernel
theorem dX6_isEnough_86 : decode cX6_isEnough 86 = .ok (.goto 4, 3) := by decide +kernel
theorem dX6_isEnough_89 : decode cX6_isEnough 89 = .ok (.iconst 0, 1) := by decide +kernel
theorem dX6_isEnough_90 : decode cX6_isEnough 90 = .ok (.isub, 1) := by decide +kernel
theorem dX6_isEnough_91 : decode cX6_isEnough 91 = .ok (.istore_n 3, 1) := by decide +kernel
theorem dX6_isEnough_92 : decode cX6_isEnough 92 = .ok (.iinc 4 1, 3) := by decide +kernel
theorem dX6_isEnough_95 : decode cX6_isEnough 95 = .ok (.goto (-38), 3) := by decide +kernel
theorem dX6_isEnough_98 : decode cX6_isEnough 98 = .ok (.iload_n 3, 1) := by decide +kernel
theorem dX6_isEnough_99 : decode cX6_isEnough 99 = .ok (.ifCond .gt 7, 3) := by decide +kernel
theorem dX6_isEnough_102 : decode cX6_isEnough 102 = .ok (.iconst 1, 1) := by decide +kernel
theorem dX6_isEnough_103 : decode cX6_isEnough 103 = .ok (.goto 4, 3) := by decide +kernel
theorem dX6_isEnough_106 : decode cX6_isEnough 106 = .ok (.iconst 0, 1) := by decide +kernel
theorem dX6_isEnough_107 : decode cX6_isEnough 107 = .ok (.ireturn, 1) := by decide +kernel
theorem dX6_areEnough_0 : decode cX6_areEnough 0 = .ok (.iconst 1, 1) := by decide +kernel
theorem dX6_areEnough_1 : decode cX6_areEnough 1 = .ok (.istore_n 1, 1) := by decide +kernel
theorem dX6_areEnough_2 : decode cX6_areEnough 2 = .ok (.iconst 1, 1) := by decide +kernel
theorem dX6_areEnough_3 : decode cX6_areEnough 3 = .ok (.istore_n 2, 1) := by decide +kernel
theorem dX6_areEnough_4 : decode cX6_areEnough 4 = .ok (.iload_n 2, 1) := by decide +kernel
theorem dX6_areEnough_5 : decode cX6_areEnough 5 = .ok (.iconst 1, 1) := by decide +kernel
theorem dX6_areEnough_6 : decode cX6_areEnough 6 = .ok (.aload_n 0, 1) := by decide +kernel
theorem dX6_areEnough_7 : decode cX6_areEnough 7 = .ok (.getfield 13, 3) := by decide +kernel
theorem dX6_areEnough_10 : decode cX6_areEnough 10 = .ok (.iconst 0, 1) := by decide +kernel
theorem dX6_areEnough_11 : decode cX6_areEnough 11 = .ok (.iaload, 1) := by decide +kernel
theorem dX6_areEnough_12 : decode cX6_areEnough 12 = .ok (.ishl, 1) := by decide +kernel
theorem dX6_areEnough_13 : decode cX6_areEnough 13 = .ok (.if_icmp .ge 19, 3) := by decide +kernel
theorem dX6_areEnough_16 : decode cX6_areEnough 16 = .ok (.iload_n 1, 1) := by decide +kernel
theorem dX6_areEnough_17 : decode cX6_areEnough 17 = .ok (.ifCond .eq 15, 3) := by decide +kernel
theorem dX6_areEnough_20 : decode cX6_areEnough 20 = .ok (.aload_n 0, 1) := by decide +kernel
theorem dX6_areEnough_21 : decode cX6_areEnough 21 = .ok (.iload_n 2, 1) := by decide +kernel
theorem dX6_areEnough_22 : decode cX6_areEnough 22 = .ok (.invokevirtual 157, 3) := by decide +kernel
theorem dX6_areEnough_25 : decode cX6_areEnough 25 = .ok (.istore_n 1, 1) := by decide +kernel
theorem dX6_areEnough_26 : decode cX6_areEnough 26 = .ok (.iinc 2 1, 3) := by decide +kernel
theorem dX6_areEnough_29 : decode cX6_areEnough 29 = .ok (.goto (-25), 3) := by decide +kernel
theorem dX6_areEnough_32 : decode cX6_areEnough 32 = .ok (.iload_n 1, 1) := by decide +kernel
theorem dX6_areEnough_33 : decode cX6_areEnough 33 = .ok (.ireturn, 1) := by decide +kernel
theorem dX6_allCan_0 : decode cX6_allCan 0 = .ok (.aload_n 0, 1) := by decide +kernel
theorem dX6_allCan_1 : decode cX6_allCan 1 = .ok (.iload_n 1, 1) := by decide +kernel
theorem dX6_allCan_2 : decode cX6_allCan 2 = .ok (.invokevirtual 160, 3) := by decide +kernel
theorem dX6_allCan_5 : decode cX6_allCan 5 = .ok (.ifCond .eq 14, 3) := by decide +kernel
theorem dX6_allCan_8 : decode cX6_allCan 8 = .ok (.aload_n 0, 1) := by decide +kernel
theorem dX6_allCan_9 : decode cX6_allCan 9 = .ok (.invokevirtual 163, 3) := by decide +kernel
theorem dX6_allCan_12 : decode cX6_allCan 12 = .ok (.ifCond .eq 7, 3) := by decide +kernel
theorem dX6_allCan_15 : decode cX6_allCan 15 = .ok (.iconst 1, 1) := by decide +kernel
theorem dX6_allCan_16 : decode cX6_allCan 16 = .ok (.goto 4, 3) := by decide +kernel
theorem dX6_allCan_19 : decode cX6_allCan 19 = .ok (.iconst 0, 1) := by decide +kernel
theorem dX6_allCan_20 : decode cX6_allCan 20 = .ok (.ireturn, 1) := by decide +kernel
theorem dX6_allCanNow_0 : decode cX6_allCanNow 0 = .ok (.aload_n 0, 1) := by decide +kernel
theorem dX6_allCanNow_1 : decode cX6_allCanNow 1 = .ok (.aload_n 0, 1) := by decide +kernel
theorem dX6_allCanNow_2 : decode cX6_allCanNow 2 = .ok (.getfield 13, 3) := by decide +kernel
theorem dX6_allCanNow_5 : decode cX6_allCanNow 5 = .ok (.bipush 6, 2) := by decide +kernel
theorem dX6_allCanNow_7 : decode cX6_allCanNow 7 = .ok (.iaload, 1) := by decide +kernel
theorem dX6_allCanNow_8 : decode cX6_allCanNow 8 = .ok (.invokevirtual 167, 3) := by decide +kernel
theorem dX6_allCanNow_11 : decode cX6_allCanNow 11 = .ok (.ireturn, 1) := by decide +kernel
theorem dX6_can_0 : decode cX6_can 0 = .ok (.iload_n 1, 1) := by decide +kernel
theorem dX6_can_1 : decode cX6_can 1 = .ok (.iconst 0, 1) := by decide +kernel
theorem dX6_can_2 : decode cX6_can 2 = .ok (.sipush 999, 3) := by decide +kernel
theorem dX6_can_5 : decode cX6_can 5 = .ok (.invokestatic 61, 3) := by decide +kernel
theorem dX6_can_8 : decode cX6_can 8 = .ok (.ifCond .eq 19, 3) := by decide +kernel
theorem dX6_can_11 : decode cX6_can 11 = .ok (.aload_n 0, 1) := by decide +kernel
theorem dX6_can_12 : decode cX6_can 12 = .ok (.iload_n 1, 1) := by decide +kernel
theorem dX6_can_13 : decode cX6_can 13 = .ok (.invokevirtual 167, 3) := by decide +kernel
theorem dX6_can_16 : decode cX6_can 16 = .ok (.ifCond .eq 7, 3) := by decide +kernel
theorem dX6_can_19 : decode cX6_can 19 = .ok (.iconst 1, 1) := by decide +kernel
theorem dX6_can_20 : decode cX6_can 20 = .ok (.goto 11, 3) := by decide +kernel
theorem dX6_can_23 : decode cX6_can 23 = .ok (.iconst 0, 1) := by decide +kernel
theorem dX6_can_24 : decode cX6_can 24 = .ok (.goto 7, 3) := by decide +kernel
theorem dX6_can_27 : decode cX6_can 27 = .ok (.aload_n 0, 1) := by decide +kernel
theorem dX6_can_28 : decode cX6_can 28 = .ok (.invokevirtual 43, 3) := by decide +kernel
theorem dX6_can_31 : decode cX6_can 31 = .ok (.ireturn, 1) := by decide +kernel
theorem dX6_longest_0 : decode cX6_longest 0 = .ok (.iconst 0, 1) := by decide +kernel
theorem dX6_longest_1 : decode cX6_longest 1 = .ok (.istore_n 1, 1) := by decide +kernel
theorem dX6_longest_2 : decode cX6_longest 2 = .ok (.iconst 0, 1) := by decide +kernel
theorem dX6_longest_3 : decode cX6_longest 3 = .ok (.istore_n 2, 1) := by decide +kernel
theorem dX6_longest_4 : decode cX6_longest 4 = .ok (.iload_n 2, 1) := by decide +kernel
theorem dX6_longest_5 : decode cX6_longest 5 = .ok (.aload_n 0, 1) := by decide +kernel
theorem dX6_longest_6 : decode cX6_longest 6 = .ok (.getfield 13, 3) := by decide +kernel
theorem dX6_longest_9 : decode cX6_longest 9 = .ok (.iconst 0, 1) := by decide +kernel
theorem dX6_longest_10 : decode cX6_longest 10 = .ok (.iaload, 1) := by decide +kernel
theorem dX6_longest_11 : decode cX6_longest 11 = .ok (.if_icmp .ge 28, 3) := by decide +kernel
theorem dX6_longest_14 : decode cX6_longest 14 = .ok (.aload_n 0, 1) := by decide +kernel
theorem dX6_longest_15 : decode cX6_longest 15 = .ok (.iload_n 2, 1) := by decide +kernel
theorem dX6_longest_16 : decode cX6_longest 16 = .ok (.invokevirtual 126, 3) := by decide +kernel
theorem dX6_longest_19 : decode cX6_longest 19 = .ok (.iload_n 1, 1) := by decide +kernel
theorem dX6_longest_20 : decode cX6_longest 20 = .ok (.if_icmp .le 11, 3) := by decide +kernel
theorem dX6_longest_23 : decode cX6_longest 23 = .ok (.aload_n 0, 1) := by decide +kernel
theorem dX6_longest_24 : decode cX6_longest 24 = .ok (.iload_n 2, 1) := by decide +kernel
theorem dX6_longest_25 : decode cX6_longest 25 = .ok (.invokevirtual 126, 3) := by decide +kernel
theorem dX6_longest_28 : decode cX6_longest 28 = .ok (.goto 4, 3) := by decide +kernel
theorem dX6_longest_31 : decode cX6_longest 31 = .ok (.iload_n 1, 1) := by decide +kernel
theorem dX6_longest_32 : decode cX6_longest 32 = .ok (.istore_n 1, 1) := by decide +kernel
theorem dX6_longest_33 : decode cX6_longest 33 = .ok (.iinc 2 1, 3) := by decide +kernel
theorem dX6_longest_36 : decode cX6_longest 36 = .ok (.goto (-32), 3) := by decide +kernel
theorem dX6_longest_39 : decode cX6_longest 39 = .ok (.iload_n 1, 1) := by decide +kernel
theorem dX6_longest_40 : decode cX6_longest 40 = .ok (.ireturn, 1) := by decide +kernel
theorem dX6_least_0 : decode cX6_least 0 = .ok (.aload_n 0, 1) := by decide +kernel
theorem dX6_least_1 : decode cX6_least 1 = .ok (.aload_n 0, 1) := by decide +kernel
theorem dX6_least_2 : decode cX6_least 2 = .ok (.invokevirtual 170, 3) := by decide +kernel
theorem dX6_least_5 : decode cX6_least 5 = .ok (.invokevirtual 167, 3) := by decide +kernel
theorem dX6_least_8 : decode cX6_least 8 = .ok (.ifCond .eq 10, 3) := by decide +kernel
theorem dX6_least_11 : decode cX6_least 11 = .ok (.aload_n 0, 1) := by decide +kernel
theorem dX6_least_12 : decode cX6_least 12 = .ok (.invokevirtual 170, 3) := by decide +kernel
theorem dX6_least_15 : decode cX6_least 15 = .ok (.goto 4, 3) := by decide +kernel
theorem dX6_least_18 : decode cX6_least 18 = .ok (.iconst (-1), 1) := by decide +kernel
theorem dX6_least_19 : decode cX6_least 19 = .ok (.ireturn, 1) := by decide +kernel
theorem dX6_greatest_0 : decode cX6_greatest 0 = .ok (.aload_n 0, 1) := by decide +kernel
theorem dX6_greatest_1 : decode cX6_greatest 1 = .ok (.invokevirtual 170, 3) := by decide +kernel
theorem dX6_greatest_4 : decode cX6_greatest 4 = .ok (.istore_n 1, 1) := by decide +kernel
theorem dX6_greatest_5 : decode cX6_greatest 5 = .ok (.aload_n 0, 1) := by decide +kernel
theorem dX6_greatest_6 : decode cX6_greatest 6 = .ok (.iload_n 1, 1) := by decide +kernel
theorem dX6_greatest_7 : decode cX6_greatest 7 = .ok (.invokevirtual 167, 3) := by decide +kernel
theorem dX6_greatest_10 : decode cX6_greatest 10 = .ok (.ifCond .ne 5, 3) := by decide +kernel
theorem dX6_greatest_13 : decode cX6_greatest 13 = .ok (.iconst (-1), 1) := by decide +kernel
theorem dX6_greatest_14 : decode cX6_greatest 14 = .ok (.ireturn, 1) := by decide +kernel
theorem dX6_greatest_15 : decode cX6_greatest 15 = .ok (.sipush 1000, 3) := by decide +kernel
theorem dX6_greatest_18 : decode cX6_greatest 18 = .ok (.istore_n 2, 1) := by decide +kernel
theorem dX6_greatest_19 : decode cX6_greatest 19 = .ok (.iload_n 2, 1) := by decide +kernel
theorem dX6_greatest_20 : decode cX6_greatest 20 = .ok (.iload_n 1, 1) := by decide +kernel
theorem dX6_greatest_21 : decode cX6_greatest 21 = .ok (.isub, 1) := by decide +kernel
theorem dX6_greatest_22 : decode cX6_greatest 22 = .ok (.iconst 1, 1) := by decide +kernel
theorem dX6_greatest_23 : decode cX6_greatest 23 = .ok (.if_icmp .le 27, 3) := by decide +kernel
theorem dX6_greatest_26 : decode cX6_greatest 26 = .ok (.iload_n 1, 1) := by decide +kernel
theorem dX6_greatest_27 : decode cX6_greatest 27 = .ok (.iload_n 2, 1) := by decide +kernel
theorem dX6_greatest_28 : decode cX6_greatest 28 = .ok (.iadd, 1) := by decide +kernel
theorem dX6_greatest_29 : decode cX6_greatest 29 = .ok (.iconst 2, 1) := by decide +kernel
theorem dX6_greatest_30 : decode cX6_greatest 30 = .ok (.idiv, 1) := by decide +kernel
theorem dX6_greatest_31 : decode cX6_greatest 31 = .ok (.istore_n 3, 1) := by decide +kernel
theorem dX6_greatest_32 : decode cX6_greatest 32 = .ok (.aload_n 0, 1) := by decide +kernel
theorem dX6_greatest_33 : decode cX6_greatest 33 = .ok (.iload_n 3, 1) := by decide +kernel
theorem dX6_greatest_34 : decode cX6_greatest 34 = .ok (.invokevirtual 167, 3) := by decide +kernel
theorem dX6_greatest_37 : decode cX6_greatest 37 = .ok (.ifCond .eq 8, 3) := by decide +kernel
theorem dX6_greatest_40 : decode cX6_greatest 40 = .ok (.iload_n 3, 1) := by decide +kernel
theorem dX6_greatest_41 : decode cX6_greatest 41 = .ok (.istore_n 1, 1) := by decide +kernel
theorem dX6_greatest_42 : decode cX6_greatest 42 = .ok (.goto 5, 3) := by decide +kernel
theorem dX6_greatest_45 : decode cX6_greatest 45 = .ok (.iload_n 3, 1) := by decide +kernel
theorem dX6_greatest_46 : decode cX6_greatest 46 = .ok (.istore_n 2, 1) := by decide +kernel
theorem dX6_greatest_47 : decode cX6_greatest 47 = .ok (.goto (-28), 3) := by decide +kernel
theorem dX6_greatest_50 : decode cX6_greatest 50 = .ok (.iload_n 1, 1) := by decide +kernel
theorem dX6_greatest_51 : decode cX6_greatest 51 = .ok (.ireturn, 1) := by decide +kernel
theorem dX6_ones_0 : decode cX6_ones 0 = .ok (.iconst 0, 1) := by decide +kernel
theorem dX6_ones_1 : decode cX6_ones 1 = .ok (.istore_n 1, 1) := by decide +kernel
theorem dX6_ones_2 : decode cX6_ones 2 = .ok (.iconst 0, 1) := by decide +kernel
theorem dX6_ones_3 : decode cX6_ones 3 = .ok (.istore_n 2, 1) := by decide +kernel
theorem dX6_ones_4 : decode cX6_ones 4 = .ok (.iload_n 2, 1) := by decide +kernel
theorem dX6_ones_5 : decode cX6_ones 5 = .ok (.bipush 6, 2) := by decide +kernel
theorem dX6_ones_7 : decode cX6_ones 7 = .ok (.if_icmp .ge 17, 3) := by decide +kernel
theorem dX6_ones_10 : decode cX6_ones 10 = .ok (.iload_n 1, 1) := by decide +kernel
theorem dX6_ones_11 : decode cX6_ones 11 = .ok (.iload_n 0, 1) := by decide +kernel
theorem dX6_ones_12 : decode cX6_ones 12 = .ok (.iload_n 2, 1) := by decide +kernel
theorem dX6_ones_13 : decode cX6_ones 13 = .ok (.ishr, 1) := by decide +kernel
theorem dX6_ones_14 : decode cX6_ones 14 = .ok (.iconst 1, 1) := by decide +kernel
theorem dX6_ones_15 : decode cX6_ones 15 = .ok (.iand, 1) := by decide +kernel
theorem dX6_ones_16 : decode cX6_ones 16 = .ok (.iadd, 1) := by decide +kernel
theorem dX6_ones_17 : decode cX6_ones 17 = .ok (.istore_n 1, 1) := by decide +kernel
theorem dX6_ones_18 : decode cX6_ones 18 = .ok (.iinc 2 1, 3) := by decide +kernel
theorem dX6_ones_21 : decode cX6_ones 21 = .ok (.goto (-17), 3) := by decide +kernel
theorem dX6_ones_24 : decode cX6_ones 24 = .ok (.iload_n 1, 1) := by decide +kernel
theorem dX6_ones_25 : decode cX6_ones 25 = .ok (.ireturn, 1) := by decide +kernel
theorem dX6_blocked_0 : decode cX6_blocked 0 = .ok (.iconst 0, 1) := by decide +kernel
theorem dX6_blocked_1 : decode cX6_blocked 1 = .ok (.istore_n 1, 1) := by decide +kernel
theorem dX6_blocked_2 : decode cX6_blocked 2 = .ok (.iconst 0, 1) := by decide +kernel
theorem dX6_blocked_3 : decode cX6_blocked 3 = .ok (.istore_n 2, 1) := by decide +kernel
theorem dX6_blocked_4 : decode cX6_blocked 4 = .ok (.iload_n 2, 1) := by decide +kernel
theorem dX6_blocked_5 : decode cX6_blocked 5 = .ok (.aload_n 0, 1) := by decide +kernel
theorem dX6_blocked_6 : decode cX6_blocked 6 = .ok (.getfield 13, 3) := by decide +kernel
theorem dX6_blocked_9 : decode cX6_blocked 9 = .ok (.iconst 0, 1) := by decide +kernel
theorem dX6_blocked_10 : decode cX6_blocked 10 = .ok (.iaload, 1) := by decide +kernel
theorem dX6_blocked_11 : decode cX6_blocked 11 = .ok (.if_icmp .ge 34, 3) := by decide +kernel
theorem dX6_blocked_14 : decode cX6_blocked 14 = .ok (.iload_n 1, 1) := by decide +kernel
theorem dX6_blocked_15 : decode cX6_blocked 15 = .ok (.aload_n 0, 1) := by decide +kernel
theorem dX6_blocked_16 : decode cX6_blocked 16 = .ok (.iload_n 2, 1) := by decide +kernel
theorem dX6_blocked_17 : decode cX6_blocked 17 = .ok (.invokevirtual 126, 3) := by decide +kernel
theorem dX6_blocked_20 : decode cX6_blocked 20 = .ok (.aload_n 0, 1) := by decide +kernel
theorem dX6_blocked_21 : decode cX6_blocked 21 = .ok (.getfield 13, 3) := by decide +kernel
theorem dX6_blocked_24 : decode cX6_blocked 24 = .ok (.bipush 6, 2) := by decide +kernel
theorem dX6_blocked_26 : decode cX6_blocked 26 = .ok (.iaload, 1) := by decide +kernel
theorem dX6_blocked_27 : decode cX6_blocked 27 = .ok (.if_icmp .le 9, 3) := by decide +kernel
theorem dX6_blocked_30 : decode cX6_blocked 30 = .ok (.iconst 1, 1) := by decide +kernel
theorem dX6_blocked_31 : decode cX6_blocked 31 = .ok (.iload_n 2, 1) := by decide +kernel
theorem dX6_blocked_32 : decode cX6_blocked 32 = .ok (.ishl, 1) := by decide +kernel
theorem dX6_blocked_33 : decode cX6_blocked 33 = .ok (.goto 4, 3) := by decide +kernel
theorem dX6_blocked_36 : decode cX6_blocked 36 = .ok (.iconst 0, 1) := by decide +kernel
theorem dX6_blocked_37 : decode cX6_blocked 37 = .ok (.ior, 1) := by decide +kernel
theorem dX6_blocked_38 : decode cX6_blocked 38 = .ok (.istore_n 1, 1) := by decide +kernel
theorem dX6_blocked_39 : decode cX6_blocked 39 = .ok (.iinc 2 1, 3) := by decide +kernel
theorem dX6_blocked_42 : decode cX6_blocked 42 = .ok (.goto (-38), 3) := by decide +kernel
theorem dX6_blocked_45 : decode cX6_blocked 45 = .ok (.iload_n 1, 1) := by decide +kernel
theorem dX6_blocked_46 : decode cX6_blocked 46 = .ok (.ifCond .eq 5, 3) := by decide +kernel
theorem dX6_blocked_49 : decode cX6_blocked 49 = .ok (.iload_n 1, 1) := by decide +kernel
theorem dX6_blocked_50 : decode cX6_blocked 50 = .ok (.ireturn, 1) := by decide +kernel
theorem dX6_blocked_51 : decode cX6_blocked 51 = .ok (.aload_n 0, 1) := by decide +kernel
theorem dX6_blocked_52 : decode cX6_blocked 52 = .ok (.aload_n 0, 1) := by decide +kernel
theorem dX6_blocked_53 : decode cX6_blocked 53 = .ok (.getfield 13, 3) := by decide +kernel
theorem dX6_blocked_56 : decode cX6_blocked 56 = .ok (.bipush 6, 2) := by decide +kernel
theorem dX6_blocked_58 : decode cX6_blocked 58 = .ok (.iaload, 1) := by decide +kernel
theorem dX6_blocked_59 : decode cX6_blocked 59 = .ok (.invokevirtual 160, 3) := by decide +kernel
theorem dX6_blocked_62 : decode cX6_blocked 62 = .ok (.pop, 1) := by decide +kernel
theorem dX6_blocked_63 : decode cX6_blocked 63 = .ok (.iconst 0, 1) := by decide +kernel
theorem dX6_blocked_64 : decode cX6_blocked 64 = .ok (.istore_n 2, 1) := by decide +kernel
theorem dX6_blocked_65 : decode cX6_blocked 65 = .ok (.iconst 1, 1) := by decide +kernel
theorem dX6_blocked_66 : decode cX6_blocked 66 = .ok (.istore_n 3, 1) := by decide +kernel
theorem dX6_blocked_67 : decode cX6_blocked 67 = .ok (.iload_n 3, 1) := by decide +kernel
theorem dX6_blocked_68 : decode cX6_blocked 68 = .ok (.iconst 1, 1) := by decide +kernel
theorem dX6_blocked_69 : decode cX6_blocked 69 = .ok (.aload_n 0, 1) := by decide +kernel
theorem dX6_blocked_70 : decode cX6_blocked 70 = .ok (.getfield 13, 3) := by decide +kernel
theorem dX6_blocked_73 : decode cX6_blocked 73 = .ok (.iconst 0, 1) := by decide +kernel
theorem dX6_blocked_74 : decode cX6_blocked 74 = .ok (.iaload, 1) := by decide +kernel
theorem dX6_blocked_75 : decode cX6_blocked 75 = .ok (.ishl, 1) := by decide +kernel
theorem dX6_blocked_76 : decode cX6_blocked 76 = .ok (.if_icmp .ge 38, 3) := by decide +kernel
theorem dX6_blocked_79 : decode cX6_blocked 79 = .ok (.aload_n 0, 1) := by decide +kernel
theorem dX6_blocked_80 : decode cX6_blocked 80 = .ok (.iload_n 3, 1) := by decide +kernel
theorem dX6_blocked_81 : decode cX6_blocked 81 = .ok (.invokevirtual 157, 3) := by decide +kernel
theorem dX6_blocked_84 : decode cX6_blocked 84 = .ok (.ifCond .ne 22, 3) := by decide +kernel
theorem dX6_blocked_87 : decode cX6_blocked 87 = .ok (.iload_n 2, 1) := by decide +kernel
theorem dX6_blocked_88 : decode cX6_blocked 88 = .ok (.ifCond .eq 14, 3) := by decide +kernel
theorem dX6_blocked_91 : decode cX6_blocked 91 = .ok (.iload_n 3, 1) := by decide +kernel
theorem dX6_blocked_92 : decode cX6_blocked 92 = .ok (.invokestatic 173, 3) := by decide +kernel
theorem dX6_blocked_95 : decode cX6_blocked 95 = .ok (.iload_n 2, 1) := by decide +kernel
theorem dX6_blocked_96 : decode cX6_blocked 96 = .ok (.invokestatic 173, 3) := by decide +kernel
theorem dX6_blocked_99 : decode cX6_blocked 99 = .ok (.if_icmp .ge 7, 3) := by decide +kernel
theorem dX6_blocked_102 : decode cX6_blocked 102 = .ok (.iload_n 3, 1) := by decide +kernel
theorem dX6_blocked_103 : decode cX6_blocked 103 = .ok (.goto 4, 3) := by decide +kernel
theorem dX6_blocked_106 : decode cX6_blocked 106 = .ok (.iload_n 2, 1) := by decide +kernel
theorem dX6_blocked_107 : decode cX6_blocked 107 = .ok (.istore_n 2, 1) := by decide +kernel
theorem dX6_blocked_108 : decode cX6_blocked 108 = .ok (.iinc 3 1, 3) := by decide +kernel
theorem dX6_blocked_111 : decode cX6_blocked 111 = .ok (.goto (-44), 3) := by decide +kernel
theorem dX6_blocked_114 : decode cX6_blocked 114 = .ok (.iload_n 2, 1) := by decide +kernel
theorem dX6_blocked_115 : decode cX6_blocked 115 = .ok (.ireturn, 1) := by decide +kernel
theorem dX6_more_0 : decode cX6_more 0 = .ok (.aload_n 0, 1) := by decide +kernel
theorem dX6_more_1 : decode cX6_more 1 = .ok (.invokevirtual 176, 3) := by decide +kernel
theorem dX6_more_4 : decode cX6_more 4 = .ok (.ifCond .eq 8, 3) := by decide +kernel
theorem dX6_more_7 : decode cX6_more 7 = .ok (.aload_n 0, 1) := by decide +kernel
theorem dX6_more_8 : decode cX6_more 8 = .ok (.invokevirtual 47, 3) := by decide +kernel
theorem dX6_more_11 : decode cX6_more 11 = .ok (.ireturn, 1) := by decide +kernel
theorem dX6_more_12 : decode cX6_more 12 = .ok (.iconst (-1), 1) := by decide +kernel
theorem dX6_more_13 : decode cX6_more 13 = .ok (.istore_n 1, 1) := by decide +kernel
theorem dX6_more_14 : decode cX6_more 14 = .ok (.aload_n 0, 1) := by decide +kernel
theorem dX6_more_15 : decode cX6_more 15 = .ok (.getfield 13, 3) := by decide +kernel
theorem dX6_more_18 : decode cX6_more 18 = .ok (.iconst 1, 1) := by decide +kernel
theorem dX6_more_19 : decode cX6_more 19 = .ok (.iaload, 1) := by decide +kernel
theorem dX6_more_20 : decode cX6_more 20 = .ok (.iconst 1, 1) := by decide +kernel
theorem dX6_more_21 : decode cX6_more 21 = .ok (.isub, 1) := by decide +kernel
theorem dX6_more_22 : decode cX6_more 22 = .ok (.istore_n 2, 1) := by decide +kernel
theorem dX6_more_23 : decode cX6_more 23 = .ok (.iload_n 2, 1) := by decide +kernel
theorem dX6_more_24 : decode cX6_more 24 = .ok (.ifCond .lt 48, 3) := by decide +kernel
theorem dX6_more_27 : decode cX6_more 27 = .ok (.aload_n 0, 1) := by decide +kernel
theorem dX6_more_28 : decode cX6_more 28 = .ok (.aload_n 0, 1) := by decide +kernel
theorem dX6_more_29 : decode cX6_more 29 = .ok (.getfield 13, 3) := by decide +kernel
theorem dX6_more_32 : decode cX6_more 32 = .ok (.bipush 6, 2) := by decide +kernel
theorem dX6_more_34 : decode cX6_more 34 = .ok (.iaload, 1) := by decide +kernel
theorem dX6_more_35 : decode cX6_more 35 = .ok (.invokevirtual 160, 3) := by decide +kernel
theorem dX6_more_38 : decode cX6_more 38 = .ok (.istore_n 3, 1) := by decide +kernel
theorem dX6_more_39 : decode cX6_more 39 = .ok (.aload_n 0, 1) := by decide +kernel
theorem dX6_more_40 : decode cX6_more 40 = .ok (.getfield 22, 3) := by decide +kernel
theorem dX6_more_43 : decode cX6_more 43 = .ok (.iload_n 2, 1) := by decide +kernel
theorem dX6_more_44 : decode cX6_more 44 = .ok (.dup2, 1) := by decide +kernel
theorem dX6_more_45 : decode cX6_more 45 = .ok (.iaload, 1) := by decide +kernel
theorem dX6_more_46 : decode cX6_more 46 = .ok (.iconst 1, 1) := by decide +kernel
theorem dX6_more_47 : decode cX6_more 47 = .ok (.iadd, 1) := by decide +kernel
theorem dX6_more_48 : decode cX6_more 48 = .ok (.iastore, 1) := by decide +kernel
theorem dX6_more_49 : decode cX6_more 49 = .ok (.iload_n 3, 1) := by decide +kernel
theorem dX6_more_50 : decode cX6_more 50 = .ok (.ifCond .eq 14, 3) := by decide +kernel
theorem dX6_more_53 : decode cX6_more 53 = .ok (.aload_n 0, 1) := by decide +kernel
theorem dX6_more_54 : decode cX6_more 54 = .ok (.invokevirtual 163, 3) := by decide +kernel
theorem dX6_more_57 : decode cX6_more 57 = .ok (.ifCond .eq 7, 3) := by decide +kernel
theorem dX6_more_60 : decode cX6_more 60 = .ok (.iload_n 2, 1) := by decide +kernel
theorem dX6_more_61 : decode cX6_more 61 = .ok (.goto 4, 3) := by decide +kernel
theorem dX6_more_64 : decode cX6_more 64 = .ok (.iload_n 1, 1) := by decide +kernel
theorem dX6_more_65 : decode cX6_more 65 = .ok (.istore_n 1, 1) := by decide +kernel
theorem dX6_more_66 : decode cX6_more 66 = .ok (.iinc 2 (-1), 3) := by decide +kernel
theorem dX6_more_69 : decode cX6_more 69 = .ok (.goto (-46), 3) := by decide +kernel
theorem dX6_more_72 : decode cX6_more 72 = .ok (.iload_n 1, 1) := by decide +kernel
theorem dX6_more_73 : decode cX6_more 73 = .ok (.ireturn, 1) := by decide +kernel
theorem dX6_draw_0 : decode cX6_draw 0 = .ok (.aload_n 0, 1) := by decide +kernel
theorem dX6_draw_1 : decode cX6_draw 1 = .ok (.invokevirtual 176, 3) := by decide +kernel
theorem dX6_draw_4 : decode cX6_draw 4 = .ok (.ifCond .ne 5, 3) := by decide +kernel
theorem dX6_draw_7 : decode cX6_draw 7 = .ok (.iconst 0, 1) := by decide +kernel
theorem dX6_draw_8 : decode cX6_draw 8 = .ok (.ireturn, 1) := by decide +kernel
theorem dX6_draw_9 : decode cX6_draw 9 = .ok (.iconst 0, 1) := by decide +kernel
theorem dX6_draw_10 : decode cX6_draw 10 = .ok (.istore_n 1, 1) := by decide +kernel
theorem dX6_draw_11 : decode cX6_draw 11 = .ok (.iload_n 1, 1) := by decide +kernel
theorem dX6_draw_12 : decode cX6_draw 12 = .ok (.aload_n 0, 1) := by decide +kernel
theorem dX6_draw_13 : decode cX6_draw 13 = .ok (.getfield 13, 3) := by decide +kernel
theorem dX6_draw_16 : decode cX6_draw 16 = .ok (.iconst 0, 1) := by decide +kernel
theorem dX6_draw_17 : decode cX6_draw 17 = .ok (.iaload, 1) := by decide +kernel
theorem dX6_draw_18 : decode cX6_draw 18 = .ok (.if_icmp .ge 174, 3) := by decide +kernel
theorem dX6_draw_21 : decode cX6_draw 21 = .ok (.iconst 0, 1) := by decide +kernel
theorem dX6_draw_22 : decode cX6_draw 22 = .ok (.istore_n 2, 1) := by decide +kernel
theorem dX6_draw_23 : decode cX6_draw 23 = .ok (.iload_n 2, 1) := by decide +kernel
theorem dX6_draw_24 : decode cX6_draw 24 = .ok (.aload_n 0, 1) := by decide +kernel
theorem dX6_draw_25 : decode cX6_draw 25 = .ok (.getfield 13, 3) := by decide +kernel
theorem dX6_draw_28 : decode cX6_draw 28 = .ok (.iconst 1, 1) := by decide +kernel
theorem dX6_draw_29 : decode cX6_draw 29 = .ok (.iaload, 1) := by decide +kernel
theorem dX6_draw_30 : decode cX6_draw 30 = .ok (.if_icmp .ge 156, 3) := by decide +kernel
theorem dX6_draw_33 : decode cX6_draw 33 = .ok (.aload_n 0, 1) := by decide +kernel
theorem dX6_draw_34 : decode cX6_draw 34 = .ok (.getfield 25, 3) := by decide +kernel
theorem dX6_draw_37 : decode cX6_draw 37 = .ok (.iload_n 1, 1) := by decide +kernel
theorem dX6_draw_38 : decode cX6_draw 38 = .ok (.iaload, 1) := by decide +kernel
theorem dX6_draw_39 : decode cX6_draw 39 = .ok (.iload_n 2, 1) := by decide +kernel
theorem dX6_draw_40 : decode cX6_draw 40 = .ok (.ishr, 1) := by decide +kernel
theorem dX6_draw_41 : decode cX6_draw 41 = .ok (.iconst 1, 1) := by decide +kernel
theorem dX6_draw_42 : decode cX6_draw 42 = .ok (.iand, 1) := by decide +kernel
theorem dX6_draw_43 : decode cX6_draw 43 = .ok (.iconst 1, 1) := by decide +kernel
theorem dX6_draw_44 : decode cX6_draw 44 = .ok (.if_icmp .ne 7, 3) := by decide +kernel
theorem dX6_draw_47 : decode cX6_draw 47 = .ok (.iconst 1, 1) := by decide +kernel
theorem dX6_draw_48 : decode cX6_draw 48 = .ok (.goto 4, 3) := by decide +kernel
theorem dX6_draw_51 : decode cX6_draw 51 = .ok (.iconst 0, 1) := by decide +kernel
theorem dX6_draw_52 : decode cX6_draw 52 = .ok (.istore_n 3, 1) := by decide +kernel
theorem dX6_draw_53 : decode cX6_draw 53 = .ok (.aload_n 0, 1) := by decide +kernel
theorem dX6_draw_54 : decode cX6_draw 54 = .ok (.getfield 25, 3) := by decide +kernel
theorem dX6_draw_57 : decode cX6_draw 57 = .ok (.iload_n 1, 1) := by decide +kernel
theorem dX6_draw_58 : decode cX6_draw 58 = .ok (.dup2, 1) := by decide +kernel
theorem dX6_draw_59 : decode cX6_draw 59 = .ok (.iaload, 1) := by decide +kernel
theorem dX6_draw_60 : decode cX6_draw 60 = .ok (.iconst 1, 1) := by decide +kernel
theorem dX6_draw_61 : decode cX6_draw 61 = .ok (.iload_n 2, 1) := by decide +kernel
theorem dX6_draw_62 : decode cX6_draw 62 = .ok (.ishl, 1) := by decide +kernel
theorem dX6_draw_63 : decode cX6_draw 63 = .ok (.iconst (-1), 1) := by decide +kernel
theorem dX6_draw_64 : decode cX6_draw 64 = .ok (.ixor, 1) := by decide +kernel
theorem dX6_draw_65 : decode cX6_draw 65 = .ok (.iand, 1) := by decide +kernel
theorem dX6_draw_66 : decode cX6_draw 66 = .ok (.iastore, 1) := by decide +kernel
theorem dX6_draw_67 : decode cX6_draw 67 = .ok (.iload_n 3, 1) := by decide +kernel
theorem dX6_draw_68 : decode cX6_draw 68 = .ok (.ifCond .ne 7, 3) := by decide +kernel
theorem dX6_draw_71 : decode cX6_draw 71 = .ok (.iconst 0, 1) := by decide +kernel
theorem dX6_draw_72 : decode cX6_draw 72 = .ok (.goto 33, 3) := by decide +kernel
theorem dX6_draw_75 : decode cX6_draw 75 = .ok (.aload_n 0, 1) := by decide +kernel
theorem dX6_draw_76 : decode cX6_draw 76 = .ok (.getfield 19, 3) := by decide +kernel
theorem dX6_draw_79 : decode cX6_draw 79 = .ok (.iload_n 1, 1) := by decide +kernel
theorem dX6_draw_80 : decode cX6_draw 80 = .ok (.iaload, 1) := by decide +kernel
theorem dX6_draw_81 : decode cX6_draw 81 = .ok (.aload_n 0, 1) := by decide +kernel
theorem dX6_draw_82 : decode cX6_draw 82 = .ok (.getfield 22, 3) := by decide +kernel
theorem dX6_draw_85 : decode cX6_draw 85 = .ok (.iload_n 2, 1) := by decide +kernel
theorem dX6_draw_86 : decode cX6_draw 86 = .ok (.iaload, 1) := by decide +kernel
theorem dX6_draw_87 : decode cX6_draw 87 = .ok (.if_icmp .ge 12, 3) := by decide +kernel
theorem dX6_draw_90 : decode cX6_draw 90 = .ok (.aload_n 0, 1) := by decide +kernel
theorem dX6_draw_91 : decode cX6_draw 91 = .ok (.getfield 19, 3) := by decide +kernel
theorem dX6_draw_94 : decode cX6_draw 94 = .ok (.iload_n 1, 1) := by decide +kernel
theorem dX6_draw_95 : decode cX6_draw 95 = .ok (.iaload, 1) := by decide +kernel
theorem dX6_draw_96 : decode cX6_draw 96 = .ok (.goto 9, 3) := by decide +kernel
theorem dX6_draw_99 : decode cX6_draw 99 = .ok (.aload_n 0, 1) := by decide +kernel
theorem dX6_draw_100 : decode cX6_draw 100 = .ok (.getfield 22, 3) := by decide +kernel
theorem dX6_draw_103 : decode cX6_draw 103 = .ok (.iload_n 2, 1) := by decide +kernel
theorem dX6_draw_104 : decode cX6_draw 104 = .ok (.iaload, 1) := by decide +kernel
theorem dX6_draw_105 : decode cX6_draw 105 = .ok (.istore 4, 2) := by decide +kernel
theorem dX6_draw_107 : decode cX6_draw 107 = .ok (.aload_n 0, 1) := by decide +kernel
theorem dX6_draw_108 : decode cX6_draw 108 = .ok (.getfield 19, 3) := by decide +kernel
theorem dX6_draw_111 : decode cX6_draw 111 = .ok (.iload_n 1, 1) := by decide +kernel
theorem dX6_draw_112 : decode cX6_draw 112 = .ok (.dup2, 1) := by decide +kernel
theorem dX6_draw_113 : decode cX6_draw 113 = .ok (.iaload, 1) := by decide +kernel
theorem dX6_draw_114 : decode cX6_draw 114 = .ok (.iload 4, 2) := by decide +kernel
theorem dX6_draw_116 : decode cX6_draw 116 = .ok (.isub, 1) := by decide +kernel
theorem dX6_draw_117 : decode cX6_draw 117 = .ok (.iastore, 1) := by decide +kernel
theorem dX6_draw_118 : decode cX6_draw 118 = .ok (.aload_n 0, 1) := by decide +kernel
theorem dX6_draw_119 : decode cX6_draw 119 = .ok (.getfield 22, 3) := by decide +kernel
theorem dX6_draw_122 : decode cX6_draw 122 = .ok (.iload_n 2, 1) := by decide +kernel
theorem dX6_draw_123 : decode cX6_draw 123 = .ok (.dup2, 1) := by decide +kernel
theorem dX6_draw_124 : decode cX6_draw 124 = .ok (.iaload, 1) := by decide +kernel
theorem dX6_draw_125 : decode cX6_draw 125 = .ok (.iload 4, 2) := by decide +kernel
theorem dX6_draw_127 : decode cX6_draw 127 = .ok (.isub, 1) := by decide +kernel
theorem dX6_draw_128 : decode cX6_draw 128 = .ok (.iastore, 1) := by decide +kernel
theorem dX6_draw_129 : decode cX6_draw 129 = .ok (.iload 4, 2) := by decide +kernel
theorem dX6_draw_131 : decode cX6_draw 131 = .ok (.ifCond .le 36, 3) := by decide +kernel
theorem dX6_draw_134 : decode cX6_draw 134 = .ok (.aload_n 0, 1) := by decide +kernel
theorem dX6_draw_135 : decode cX6_draw 135 = .ok (.invokevirtual 163, 3) := by decide +kernel
theorem dX6_draw_138 : decode cX6_draw 138 = .ok (.ifCond .ne 29, 3) := by decide +kernel
theorem dX6_draw_141 : decode cX6_draw 141 = .ok (.iinc 4 (-1), 3) := by decide +kernel
theorem dX6_draw_144 : decode cX6_draw 144 = .ok (.aload_n 0, 1) := by decide +kernel
theorem dX6_draw_145 : decode cX6_draw 145 = .ok (.getfield 19, 3) := by decide +kernel
theorem dX6_draw_148 : decode cX6_draw 148 = .ok (.iload_n 1, 1) := by decide +kernel
theorem dX6_draw_149 : decode cX6_draw 149 = .ok (.dup2, 1) := by decide +kernel
theorem dX6_draw_150 : decode cX6_draw 150 = .ok (.iaload, 1) := by decide +kernel
theorem dX6_draw_151 : decode cX6_draw 151 = .ok (.iconst 1, 1) := by decide +kernel
theorem dX6_draw_152 : decode cX6_draw 152 = .ok (.iadd, 1) := by decide +kernel
theorem dX6_draw_153 : decode cX6_draw 153 = .ok (.iastore, 1) := by decide +kernel
theorem dX6_draw_154 : decode cX6_draw 154 = .ok (.aload_n 0, 1) := by decide +kernel
theorem dX6_draw_155 : decode cX6_draw 155 = .ok (.getfield 22, 3) := by decide +kernel
theorem dX6_draw_158 : decode cX6_draw 158 = .ok (.iload_n 2, 1) := by decide +kernel
theorem dX6_draw_159 : decode cX6_draw 159 = .ok (.dup2, 1) := by decide +kernel
theorem dX6_draw_160 : decode cX6_draw 160 = .ok (.iaload, 1) := by decide +kernel
theorem dX6_draw_161 : decode cX6_draw 161 = .ok (.iconst 1, 1) := by decide +kernel
theorem dX6_draw_162 : decode cX6_draw 162 = .ok (.iadd, 1) := by decide +kernel
theorem dX6_draw_163 : decode cX6_draw 163 = .ok (.iastore, 1) := by decide +kernel
theorem dX6_draw_164 : decode cX6_draw 164 = .ok (.goto (-35), 3) := by decide +kernel
theorem dX6_draw_167 : decode cX6_draw 167 = .ok (.aload_n 0, 1) := by decide +kernel
theorem dX6_draw_168 : decode cX6_draw 168 = .ok (.getfield 28, 3) := by decide +kernel
theorem dX6_draw_171 : decode cX6_draw 171 = .ok (.bipush 6, 2) := by decide +kernel
theorem dX6_draw_173 : decode cX6_draw 173 = .ok (.iload_n 1, 1) := by decide +kernel
theorem dX6_draw_174 : decode cX6_draw 174 = .ok (.imul, 1) := by decide +kernel
theorem dX6_draw_175 : decode cX6_draw 175 = .ok (.iload_n 2, 1) := by decide +kernel
theorem dX6_draw_176 : decode cX6_draw 176 = .ok (.iadd, 1) := by decide +kernel
theorem dX6_draw_177 : decode cX6_draw 177 = .ok (.iload 4, 2) := by decide +kernel
theorem dX6_draw_179 : decode cX6_draw 179 = .ok (.iastore, 1) := by decide +kernel
theorem dX6_draw_180 : decode cX6_draw 180 = .ok (.iinc 2 1, 3) := by decide +kernel
theorem dX6_draw_183 : decode cX6_draw 183 = .ok (.goto (-160), 3) := by decide +kernel
theorem dX6_draw_186 : decode cX6_draw 186 = .ok (.iinc 1 1, 3) := by decide +kernel
theorem dX6_draw_189 : decode cX6_draw 189 = .ok (.goto (-178), 3) := by decide +kernel
theorem dX6_draw_192 : decode cX6_draw 192 = .ok (.iconst 1, 1) := by decide +kernel
theorem dX6_draw_193 : decode cX6_draw 193 = .ok (.ireturn, 1) := by decide +kernel
theorem dX6_draws_0 : decode cX6_draws 0 = .ok (.aload_n 0, 1) := by decide +kernel
theorem dX6_draws_1 : decode cX6_draws 1 = .ok (.iload_n 1, 1) := by decide +kernel
theorem dX6_draws_2 : decode cX6_draws 2 = .ok (.invokevirtual 65, 3) := by decide +kernel
theorem dX6_draws_5 : decode cX6_draws 5 = .ok (.ifCond .eq 11, 3) := by decide +kernel
theorem dX6_draws_8 : decode cX6_draws 8 = .ok (.aload_n 0, 1) := by decide +kernel
theorem dX6_draws_9 : decode cX6_draws 9 = .ok (.iload_n 2, 1) := by decide +kernel
theorem dX6_draws_10 : decode cX6_draws 10 = .ok (.invokevirtual 73, 3) := by decide +kernel
theorem dX6_draws_13 : decode cX6_draws 13 = .ok (.ifCond .ne 8, 3) := by decide +kernel
theorem dX6_draws_16 : decode cX6_draws 16 = .ok (.aload_n 0, 1) := by decide +kernel
theorem dX6_draws_17 : decode cX6_draws 17 = .ok (.invokevirtual 43, 3) := by decide +kernel
theorem dX6_draws_20 : decode cX6_draws 20 = .ok (.ireturn, 1) := by decide +kernel
theorem dX6_draws_21 : decode cX6_draws 21 = .ok (.aload_n 0, 1) := by decide +kernel
theorem dX6_draws_22 : decode cX6_draws 22 = .ok (.invokevirtual 179, 3) := by decide +kernel
theorem dX6_draws_25 : decode cX6_draws 25 = .ok (.ifCond .eq 17, 3) := by decide +kernel
theorem dX6_draws_28 : decode cX6_draws 28 = .ok (.aload_n 0, 1) := by decide +kernel
theorem dX6_draws_29 : decode cX6_draws 29 = .ok (.getfield 28, 3) := by decide +kernel
theorem dX6_draws_32 : decode cX6_draws 32 = .ok (.bipush 6, 2) := by decide +kernel
theorem dX6_draws_34 : decode cX6_draws 34 = .ok (.iload_n 1, 1) := by decide +kernel
theorem dX6_draws_35 : decode cX6_draws 35 = .ok (.imul, 1) := by decide +kernel
theorem dX6_draws_36 : decode cX6_draws 36 = .ok (.iload_n 2, 1) := by decide +kernel
theorem dX6_draws_37 : decode cX6_draws 37 = .ok (.iadd, 1) := by decide +kernel
theorem dX6_draws_38 : decode cX6_draws 38 = .ok (.iaload, 1) := by decide +kernel
theorem dX6_draws_39 : decode cX6_draws 39 = .ok (.goto 7, 3) := by decide +kernel
theorem dX6_draws_42 : decode cX6_draws 42 = .ok (.aload_n 0, 1) := by decide +kernel
theorem dX6_draws_43 : decode cX6_draws 43 = .ok (.invokevirtual 47, 3) := by decide +kernel
theorem dX6_draws_46 : decode cX6_draws 46 = .ok (.ireturn, 1) := by decide +kernel
theorem dX6_length_0 : decode cX6_length 0 = .ok (.aload_n 0, 1) := by decide +kernel
theorem dX6_length_1 : decode cX6_length 1 = .ok (.iload_n 1, 1) := by decide +kernel
theorem dX6_length_2 : decode cX6_length 2 = .ok (.invokevirtual 65, 3) := by decide +kernel
theorem dX6_length_5 : decode cX6_length 5 = .ok (.ifCond .ne 8, 3) := by decide +kernel
theorem dX6_length_8 : decode cX6_length 8 = .ok (.aload_n 0, 1) := by decide +kernel
theorem dX6_length_9 : decode cX6_length 9 = .ok (.invokevirtual 43, 3) := by decide +kernel
theorem dX6_length_12 : decode cX6_length 12 = .ok (.ireturn, 1) := by decide +kernel
theorem dX6_length_13 : decode cX6_length 13 = .ok (.aload_n 0, 1) := by decide +kernel
theorem dX6_length_14 : decode cX6_length 14 = .ok (.invokevirtual 176, 3) := by decide +kernel
theorem dX6_length_17 : decode cX6_length 17 = .ok (.ifCond .eq 24, 3) := by decide +kernel
theorem dX6_length_20 : decode cX6_length 20 = .ok (.aload_n 0, 1) := by decide +kernel
theorem dX6_length_21 : decode cX6_length 21 = .ok (.iload_n 1, 1) := by decide +kernel
theorem dX6_length_22 : decode cX6_length 22 = .ok (.invokevirtual 126, 3) := by decide +kernel
theorem dX6_length_25 : decode cX6_length 25 = .ok (.aload_n 0, 1) := by decide +kernel
theorem dX6_length_26 : decode cX6_length 26 = .ok (.iload_n 1, 1) := by decide +kernel
theorem dX6_length_27 : decode cX6_length 27 = .ok (.aload_n 0, 1) := by decide +kernel
theorem dX6_length_28 : decode cX6_length 28 = .ok (.getfield 13, 3) := by decide +kernel
theorem dX6_length_31 : decode cX6_length 31 = .ok (.bipush 6, 2) := by decide +kernel
theorem dX6_length_33 : decode cX6_length 33 = .ok (.iaload, 1) := by decide +kernel
theorem dX6_length_34 : decode cX6_length 34 = .ok (.invokevirtual 129, 3) := by decide +kernel
theorem dX6_length_37 : decode cX6_length 37 = .ok (.iadd, 1) := by decide +kernel
theorem dX6_length_38 : decode cX6_length 38 = .ok (.goto 7, 3) := by decide +kernel
theorem dX6_length_41 : decode cX6_length 41 = .ok (.aload_n 0, 1) := by decide +kernel
theorem dX6_length_42 : decode cX6_length 42 = .ok (.invokevirtual 47, 3) := by decide +kernel
theorem dX6_length_45 : decode cX6_length 45 = .ok (.ireturn, 1) := by decide +kernel
theorem dX6_free_0 : decode cX6_free 0 = .ok (.aload_n 0, 1) := by decide +kernel
theorem dX6_free_1 : decode cX6_free 1 = .ok (.invokevirtual 179, 3) := by decide +kernel
theorem dX6_free_4 : decode cX6_free 4 = .ok (.ifCond .ne 5, 3) := by decide +kernel
theorem dX6_free_7 : decode cX6_free 7 = .ok (.iconst (-1), 1) := by decide +kernel
theorem dX6_free_8 : decode cX6_free 8 = .ok (.ireturn, 1) := by decide +kernel
theorem dX6_free_9 : decode cX6_free 9 = .ok (.aload_n 0, 1) := by decide +kernel
theorem dX6_free_10 : decode cX6_free 10 = .ok (.iload_n 1, 1) := by decide +kernel
theorem dX6_free_11 : decode cX6_free 11 = .ok (.invokevirtual 154, 3) := by decide +kernel
theorem dX6_free_14 : decode cX6_free 14 = .ok (.istore_n 2, 1) := by decide +kernel
theorem dX6_free_15 : decode cX6_free 15 = .ok (.iconst 0, 1) := by decide +kernel
theorem dX6_free_16 : decode cX6_free 16 = .ok (.istore_n 3, 1) := by decide +kernel
theorem dX6_free_17 : decode cX6_free 17 = .ok (.iload_n 3, 1) := by decide +kernel
theorem dX6_free_18 : decode cX6_free 18 = .ok (.aload_n 0, 1) := by decide +kernel
theorem dX6_free_19 : decode cX6_free 19 = .ok (.getfield 13, 3) := by decide +kernel
theorem dX6_free_22 : decode cX6_free 22 = .ok (.iconst 0, 1) := by decide +kernel
theorem dX6_free_23 : decode cX6_free 23 = .ok (.iaload, 1) := by decide +kernel
theorem dX6_free_24 : decode cX6_free 24 = .ok (.if_icmp .ge 23, 3) := by decide +kernel
theorem dX6_free_27 : decode cX6_free 27 = .ok (.iload_n 2, 1) := by decide +kernel
theorem dX6_free_28 : decode cX6_free 28 = .ok (.aload_n 0, 1) := by decide +kernel
theorem dX6_free_29 : decode cX6_free 29 = .ok (.getfield 28, 3) := by decide +kernel
theorem dX6_free_32 : decode cX6_free 32 = .ok (.bipush 6, 2) := by decide +kernel
theorem dX6_free_34 : decode cX6_free 34 = .ok (.iload_n 3, 1) := by decide +kernel
theorem dX6_free_35 : decode cX6_free 35 = .ok (.imul, 1) := by decide +kernel
theorem dX6_free_36 : decode cX6_free 36 = .ok (.iload_n 1, 1) := by decide +kernel
theorem dX6_free_37 : decode cX6_free 37 = .ok (.iadd, 1) := by decide +kernel
theorem dX6_free_38 : decode cX6_free 38 = .ok (.iaload, 1) := by decide +kernel
theorem dX6_free_39 : decode cX6_free 39 = .ok (.isub, 1) := by decide +kernel
theorem dX6_free_40 : decode cX6_free 40 = .ok (.istore_n 2, 1) := by decide +kernel
theorem dX6_free_41 : decode cX6_free 41 = .ok (.iinc 3 1, 3) := by decide +kernel
theorem dX6_free_44 : decode cX6_free 44 = .ok (.goto (-27), 3) := by decide +kernel
theorem dX6_free_47 : decode cX6_free 47 = .ok (.iload_n 2, 1) := by decide +kernel
theorem dX6_free_48 : decode cX6_free 48 = .ok (.ireturn, 1) := by decide +kernel
theorem dX6_toldPocket_0 : decode cX6_toldPocket 0 = .ok (.iload_n 2, 1) := by decide +kernel
theorem dX6_toldPocket_1 : decode cX6_toldPocket 1 = .ok (.ifCond .ne 17, 3) := by decide +kernel
theorem dX6_toldPocket_4 : decode cX6_toldPocket 4 = .ok (.aload_n 0, 1) := by decide +kernel
theorem dX6_toldPocket_5 : decode cX6_toldPocket 5 = .ok (.getfield 13, 3) := by decide +kernel
theorem dX6_toldPocket_8 : decode cX6_toldPocket 8 = .ok (.bipush 111, 2) := by decide +kernel
theorem dX6_toldPocket_10 : decode cX6_toldPocket 10 = .ok (.iconst 2, 1) := by decide +kernel
theorem dX6_toldPocket_11 : decode cX6_toldPocket 11 = .ok (.iload_n 1, 1) := by decide +kernel
theorem dX6_toldPocket_12 : decode cX6_toldPocket 12 = .ok (.imul, 1) := by decide +kernel
theorem dX6_toldPocket_13 : decode cX6_toldPocket 13 = .ok (.iadd, 1) := by decide +kernel
theorem dX6_toldPocket_14 : decode cX6_toldPocket 14 = .ok (.iaload, 1) := by decide +kernel
theorem dX6_toldPocket_15 : decode cX6_toldPocket 15 = .ok (.goto 53, 3) := by decide +kernel
theorem dX6_toldPocket_18 : decode cX6_toldPocket 18 = .ok (.iload_n 2, 1) := by decide +kernel
theorem dX6_toldPocket_19 : decode cX6_toldPocket 19 = .ok (.iconst 1, 1) := by decide +kernel
theorem dX6_toldPocket_20 : decode cX6_toldPocket 20 = .ok (.if_icmp .ne 30, 3) := by decide +kernel
theorem dX6_toldPocket_23 : decode cX6_toldPocket 23 = .ok (.aload_n 0, 1) := by decide +kernel
theorem dX6_toldPocket_24 : decode cX6_toldPocket 24 = .ok (.getfield 13, 3) := by decide +kernel
theorem dX6_toldPocket_27 : decode cX6_toldPocket 27 = .ok (.bipush 111, 2) := by decide +kernel
theorem dX6_toldPocket_29 : decode cX6_toldPocket 29 = .ok (.iconst 2, 1) := by decide +kernel
theorem dX6_toldPocket_30 : decode cX6_toldPocket 30 = .ok (.iload_n 1, 1) := by decide +kernel
theorem dX6_toldPocket_31 : decode cX6_toldPocket 31 = .ok (.imul, 1) := by decide +kernel
theorem dX6_toldPocket_32 : decode cX6_toldPocket 32 = .ok (.iadd, 1) := by decide +kernel
theorem dX6_toldPocket_33 : decode cX6_toldPocket 33 = .ok (.iconst 1, 1) := by decide +kernel
theorem dX6_toldPocket_34 : decode cX6_toldPocket 34 = .ok (.iadd, 1) := by decide +kernel
theorem dX6_toldPocket_35 : decode cX6_toldPocket 35 = .ok (.iaload, 1) := by decide +kernel
theorem dX6_toldPocket_36 : decode cX6_toldPocket 36 = .ok (.iconst 1, 1) := by decide +kernel
theorem dX6_toldPocket_37 : decode cX6_toldPocket 37 = .ok (.aload_n 0, 1) := by decide +kernel
theorem dX6_toldPocket_38 : decode cX6_toldPocket 38 = .ok (.getfield 13, 3) := by decide +kernel
theorem dX6_toldPocket_41 : decode cX6_toldPocket 41 = .ok (.iconst 0, 1) := by decide +kernel
theorem dX6_toldPocket_42 : decode cX6_toldPocket 42 = .ok (.iaload, 1) := by decide +kernel
theorem dX6_toldPocket_43 : decode cX6_toldPocket 43 = .ok (.ishl, 1) := by decide +kernel
theorem dX6_toldPocket_44 : decode cX6_toldPocket 44 = .ok (.iconst 1, 1) := by decide +kernel
theorem dX6_toldPocket_45 : decode cX6_toldPocket 45 = .ok (.isub, 1) := by decide +kernel
theorem dX6_toldPocket_46 : decode cX6_toldPocket 46 = .ok (.iand, 1) := by decide +kernel
theorem dX6_toldPocket_47 : decode cX6_toldPocket 47 = .ok (.goto 21, 3) := by decide +kernel
theorem dX6_toldPocket_50 : decode cX6_toldPocket 50 = .ok (.iload_n 2, 1) := by decide +kernel
theorem dX6_toldPocket_51 : decode cX6_toldPocket 51 = .ok (.iconst 2, 1) := by decide +kernel
theorem dX6_toldPocket_52 : decode cX6_toldPocket 52 = .ok (.if_icmp .ne 11, 3) := by decide +kernel
theorem dX6_toldPocket_55 : decode cX6_toldPocket 55 = .ok (.aload_n 0, 1) := by decide +kernel
theorem dX6_toldPocket_56 : decode cX6_toldPocket 56 = .ok (.iload_n 1, 1) := by decide +kernel
theorem dX6_toldPocket_57 : decode cX6_toldPocket 57 = .ok (.invokevirtual 154, 3) := by decide +kernel
theorem dX6_toldPocket_60 : decode cX6_toldPocket 60 = .ok (.goto 8, 3) := by decide +kernel
theorem dX6_toldPocket_63 : decode cX6_toldPocket 63 = .ok (.aload_n 0, 1) := by decide +kernel
theorem dX6_toldPocket_64 : decode cX6_toldPocket 64 = .ok (.iload_n 1, 1) := by decide +kernel
theorem dX6_toldPocket_65 : decode cX6_toldPocket 65 = .ok (.invokevirtual 182, 3) := by decide +kernel
theorem dX6_toldPocket_68 : decode cX6_toldPocket 68 = .ok (.ireturn, 1) := by decide +kernel
theorem dX6_about_0 : decode cX6_about 0 = .ok (.aload_n 0, 1) := by decide +kernel
theorem dX6_about_1 : decode cX6_about 1 = .ok (.iload_n 1, 1) := by decide +kernel
theorem dX6_about_2 : decode cX6_about 2 = .ok (.invokevirtual 73, 3) := by decide +kernel
theorem dX6_about_5 : decode cX6_about 5 = .ok (.ifCond .eq 21, 3) := by decide +kernel
theorem dX6_about_8 : decode cX6_about 8 = .ok (.iload_n 2, 1) := by decide +kernel
theorem dX6_about_9 : decode cX6_about 9 = .ok (.iconst 0, 1) := by decide +kernel
theorem dX6_about_10 : decode cX6_about 10 = .ok (.iconst 3, 1) := by decide +kernel
theorem dX6_about_11 : decode cX6_about 11 = .ok (.invokestatic 61, 3) := by decide +kernel
theorem dX6_about_14 : decode cX6_about 14 = .ok (.ifCond .eq 12, 3) := by decide +kernel
theorem dX6_about_17 : decode cX6_about 17 = .ok (.aload_n 0, 1) := by decide +kernel
theorem dX6_about_18 : decode cX6_about 18 = .ok (.iload_n 1, 1) := by decide +kernel
theorem dX6_about_19 : decode cX6_about 19 = .ok (.iload_n 2, 1) := by decide +kernel
theorem dX6_about_20 : decode cX6_about 20 = .ok (.invokevirtual 185, 3) := by decide +kernel
theorem dX6_about_23 : decode cX6_about 23 = .ok (.goto 7, 3) := by decide +kernel
theorem dX6_about_26 : decode cX6_about 26 = .ok (.aload_n 0, 1) := by decide +kernel
theorem dX6_about_27 : decode cX6_about 27 = .ok (.invokevirtual 43, 3) := by decide +kernel
theorem dX6_about_30 : decode cX6_about 30 = .ok (.ireturn, 1) := by decide +kernel
theorem dX6_setting_0 : decode cX6_setting 0 = .ok (.iload_n 1, 1) := by decide +kernel
theorem dX6_setting_1 : decode cX6_setting 1 = .ok (.iconst 0, 1) := by decide +kernel
theorem dX6_setting_2 : decode cX6_setting 2 = .ok (.bipush 6, 2) := by decide +kernel
theorem dX6_setting_4 : decode cX6_setting 4 = .ok (.invokestatic 61, 3) := by decide +kernel
theorem dX6_setting_7 : decode cX6_setting 7 = .ok (.ifCond .eq 14, 3) := by decide +kernel
theorem dX6_setting_10 : decode cX6_setting 10 = .ok (.aload_n 0, 1) := by decide +kernel
theorem dX6_setting_11 : decode cX6_setting 11 = .ok (.getfield 13, 3) := by decide +kernel
theorem dX6_setting_14 : decode cX6_setting 14 = .ok (.iconst 2, 1) := by decide +kernel
theorem dX6_setting_15 : decode cX6_setting 15 = .ok (.iload_n 1, 1) := by decide +kernel
theorem dX6_setting_16 : decode cX6_setting 16 = .ok (.iadd, 1) := by decide +kernel
theorem dX6_setting_17 : decode cX6_setting 17 = .ok (.iaload, 1) := by decide +kernel
theorem dX6_setting_18 : decode cX6_setting 18 = .ok (.goto 7, 3) := by decide +kernel
theorem dX6_setting_21 : decode cX6_setting 21 = .ok (.aload_n 0, 1) := by decide +kernel
theorem dX6_setting_22 : decode cX6_setting 22 = .ok (.invokevirtual 43, 3) := by decide +kernel
theorem dX6_setting_25 : decode cX6_setting 25 = .ok (.ireturn, 1) := by decide +kernel
theorem dX6_countOf_0 : decode cX6_countOf 0 = .ok (.iconst 0, 1) := by decide +kernel
theorem dX6_countOf_1 : decode cX6_countOf 1 = .ok (.istore_n 2, 1) := by decide +kernel
theorem dX6_countOf_2 : decode cX6_countOf 2 = .ok (.iload_n 1, 1) := by decide +kernel
theorem dX6_countOf_3 : decode cX6_countOf 3 = .ok (.iconst 5, 1) := by decide +kernel
theorem dX6_countOf_4 : decode cX6_countOf 4 = .ok (.if_icmp .ne 29, 3) := by decide +kernel
theorem dX6_countOf_7 : decode cX6_countOf 7 = .ok (.iconst 0, 1) := by decide +kernel
theorem dX6_countOf_8 : decode cX6_countOf 8 = .ok (.istore_n 3, 1) := by decide +kernel
theorem dX6_countOf_9 : decode cX6_countOf 9 = .ok (.iload_n 3, 1) := by decide +kernel
theorem dX6_countOf_10 : decode cX6_countOf 10 = .ok (.aload_n 0, 1) := by decide +kernel
theorem dX6_countOf_11 : decode cX6_countOf 11 = .ok (.getfield 13, 3) := by decide +kernel
theorem dX6_countOf_14 : decode cX6_countOf 14 = .ok (.iconst 1, 1) := by decide +kernel
theorem dX6_countOf_15 : decode cX6_countOf 15 = .ok (.iaload, 1) := by decide +kernel
theorem dX6_countOf_16 : decode cX6_countOf 16 = .ok (.if_icmp .ge 17, 3) := by decide +kernel
theorem dX6_countOf_19 : decode cX6_countOf 19 = .ok (.iload_n 2, 1) := by decide +kernel
theorem dX6_countOf_20 : decode cX6_countOf 20 = .ok (.aload_n 0, 1) := by decide +kernel
theorem dX6_countOf_21 : decode cX6_countOf 21 = .ok (.iload_n 3, 1) := by decide +kernel
theorem dX6_countOf_22 : decode cX6_countOf 22 = .ok (.invokevirtual 154, 3) := by decide +kernel
theorem dX6_countOf_25 : decode cX6_countOf 25 = .ok (.iadd, 1) := by decide +kernel
theorem dX6_countOf_26 : decode cX6_countOf 26 = .ok (.istore_n 2, 1) := by decide +kernel
theorem dX6_countOf_27 : decode cX6_countOf 27 = .ok (.iinc 3 1, 3) := by decide +kernel
theorem dX6_countOf_30 : decode cX6_countOf 30 = .ok (.goto (-21), 3) := by decide +kernel
theorem dX6_countOf_33 : decode cX6_countOf 33 = .ok (.iload_n 1, 1) := by decide +kernel
theorem dX6_countOf_34 : decode cX6_countOf 34 = .ok (.bipush 6, 2) := by decide +kernel
theorem dX6_countOf_36 : decode cX6_countOf 36 = .ok (.if_icmp .ne 36, 3) := by decide +kernel
theorem dX6_countOf_39 : decode cX6_countOf 39 = .ok (.iconst 0, 1) := by decide +kernel
theorem dX6_countOf_40 : decode cX6_countOf 40 = .ok (.istore_n 3, 1) := by decide +kernel
theorem dX6_countOf_41 : decode cX6_countOf 41 = .ok (.iload_n 3, 1) := by decide +kernel
theorem dX6_countOf_42 : decode cX6_countOf 42 = .ok (.aload_n 0, 1) := by decide +kernel
theorem dX6_countOf_43 : decode cX6_countOf 43 = .ok (.getfield 13, 3) := by decide +kernel
theorem dX6_countOf_46 : decode cX6_countOf 46 = .ok (.iconst 0, 1) := by decide +kernel
theorem dX6_countOf_47 : decode cX6_countOf 47 = .ok (.iaload, 1) := by decide +kernel
theorem dX6_countOf_48 : decode cX6_countOf 48 = .ok (.if_icmp .ge 24, 3) := by decide +kernel
theorem dX6_countOf_51 : decode cX6_countOf 51 = .ok (.iload_n 2, 1) := by decide +kernel
theorem dX6_countOf_52 : decode cX6_countOf 52 = .ok (.aload_n 0, 1) := by decide +kernel
theorem dX6_countOf_53 : decode cX6_countOf 53 = .ok (.iload_n 3, 1) := by decide +kernel
theorem dX6_countOf_54 : decode cX6_countOf 54 = .ok (.aload_n 0, 1) := by decide +kernel
theorem dX6_countOf_55 : decode cX6_countOf 55 = .ok (.getfield 13, 3) := by decide +kernel
theorem dX6_countOf_58 : decode cX6_countOf 58 = .ok (.bipush 6, 2) := by decide +kernel
theorem dX6_countOf_60 : decode cX6_countOf 60 = .ok (.iaload, 1) := by decide +kernel
theorem dX6_countOf_61 : decode cX6_countOf 61 = .ok (.invokevirtual 135, 3) := by decide +kernel
theorem dX6_countOf_64 : decode cX6_countOf 64 = .ok (.iadd, 1) := by decide +kernel
theorem dX6_countOf_65 : decode cX6_countOf 65 = .ok (.istore_n 2, 1) := by decide +kernel
theorem dX6_countOf_66 : decode cX6_countOf 66 = .ok (.iinc 3 1, 3) := by decide +kernel
theorem dX6_countOf_69 : decode cX6_countOf 69 = .ok (.goto (-28), 3) := by decide +kernel
theorem dX6_countOf_72 : decode cX6_countOf 72 = .ok (.iload_n 1, 1) := by decide +kernel
theorem dX6_countOf_73 : decode cX6_countOf 73 = .ok (.iconst 2, 1) := by decide +kernel
theorem dX6_countOf_74 : decode cX6_countOf 74 = .ok (.if_icmp .ge 12, 3) := by decide +kernel
theorem dX6_countOf_77 : decode cX6_countOf 77 = .ok (.aload_n 0, 1) := by decide +kernel
theorem dX6_countOf_78 : decode cX6_countOf 78 = .ok (.getfield 13, 3) := by decide +kernel
theorem dX6_countOf_81 : decode cX6_countOf 81 = .ok (.iload_n 1, 1) := by decide +kernel
theorem dX6_countOf_82 : decode cX6_countOf 82 = .ok (.iaload, 1) := by decide +kernel
theorem dX6_countOf_83 : decode cX6_countOf 83 = .ok (.goto 51, 3) := by decide +kernel
theorem dX6_countOf_86 : decode cX6_countOf 86 = .ok (.iload_n 1, 1) := by decide +kernel
theorem dX6_countOf_87 : decode cX6_countOf 87 = .ok (.iconst 2, 1) := by decide +kernel
theorem dX6_countOf_88 : decode cX6_countOf 88 = .ok (.if_icmp .ne 13, 3) := by decide +kernel
theorem dX6_countOf_91 : decode cX6_countOf 91 = .ok (.aload_n 0, 1) := by decide +kernel
theorem dX6_countOf_92 : decode cX6_countOf 92 = .ok (.invokevirtual 123, 3) := by decide +kernel
theorem dX6_countOf_95 : decode cX6_countOf 95 = .ok (.bipush 100, 2) := by decide +kernel
theorem dX6_countOf_97 : decode cX6_countOf 97 = .ok (.iadd, 1) := by decide +kernel
theorem dX6_countOf_98 : decode cX6_countOf 98 = .ok (.goto 36, 3) := by decide +kernel
theorem dX6_countOf_101 : decode cX6_countOf 101 = .ok (.iload_n 1, 1) := by decide +kernel
theorem dX6_countOf_102 : decode cX6_countOf 102 = .ok (.iconst 3, 1) := by decide +kernel
theorem dX6_countOf_103 : decode cX6_countOf 103 = .ok (.if_icmp .ne 18, 3) := by decide +kernel
theorem dX6_countOf_106 : decode cX6_countOf 106 = .ok (.aload_n 0, 1) := by decide +kernel
theorem dX6_countOf_107 : decode cX6_countOf 107 = .ok (.invokevirtual 176, 3) := by decide +kernel
theorem dX6_countOf_110 : decode cX6_countOf 110 = .ok (.ifCond .eq 7, 3) := by decide +kernel
theorem dX6_countOf_113 : decode cX6_countOf 113 = .ok (.iconst 1, 1) := by decide +kernel
theorem dX6_countOf_114 : decode cX6_countOf 114 = .ok (.goto 20, 3) := by decide +kernel
theorem dX6_countOf_117 : decode cX6_countOf 117 = .ok (.iconst 0, 1) := by decide +kernel
theorem dX6_countOf_118 : decode cX6_countOf 118 = .ok (.goto 16, 3) := by decide +kernel
theorem dX6_countOf_121 : decode cX6_countOf 121 = .ok (.iload_n 1, 1) := by decide +kernel
theorem dX6_countOf_122 : decode cX6_countOf 122 = .ok (.iconst 4, 1) := by decide +kernel
theorem dX6_countOf_123 : decode cX6_countOf 123 = .ok (.if_icmp .ne 10, 3) := by decide +kernel
theorem dX6_countOf_126 : decode cX6_countOf 126 = .ok (.aload_n 0, 1) := by decide +kernel
theorem dX6_countOf_127 : decode cX6_countOf 127 = .ok (.invokevirtual 170, 3) := by decide +kernel
theorem dX6_countOf_130 : decode cX6_countOf 130 = .ok (.goto 4, 3) := by decide +kernel
theorem dX6_countOf_133 : decode cX6_countOf 133 = .ok (.iload_n 2, 1) := by decide +kernel
theorem dX6_countOf_134 : decode cX6_countOf 134 = .ok (.ireturn, 1) := by decide +kernel
theorem dX6_count_0 : decode cX6_count 0 = .ok (.iload_n 1, 1) := by decide +kernel
theorem dX6_count_1 : decode cX6_count 1 = .ok (.iconst 0, 1) := by decide +kernel
theorem dX6_count_2 : decode cX6_count 2 = .ok (.bipush 6, 2) := by decide +kernel
theorem dX6_count_4 : decode cX6_count 4 = .ok (.invokestatic 61, 3) := by decide +kernel
theorem dX6_count_7 : decode cX6_count 7 = .ok (.ifCond .eq 11, 3) := by decide +kernel
theorem dX6_count_10 : decode cX6_count 10 = .ok (.aload_n 0, 1) := by decide +kernel
theorem dX6_count_11 : decode cX6_count 11 = .ok (.iload_n 1, 1) := by decide +kernel
theorem dX6_count_12 : decode cX6_count 12 = .ok (.invokevirtual 188, 3) := by decide +kernel
theorem dX6_count_15 : decode cX6_count 15 = .ok (.goto 7, 3) := by decide +kernel
theorem dX6_count_18 : decode cX6_count 18 = .ok (.aload_n 0, 1) := by decide +kernel
theorem dX6_count_19 : decode cX6_count 19 = .ok (.invokevirtual 43, 3) := by decide +kernel
theorem dX6_count_22 : decode cX6_count 22 = .ok (.ireturn, 1) := by decide +kernel
theorem dX6_skewOf_0 : decode cX6_skewOf 0 = .ok (.iconst 0, 1) := by decide +kernel
theorem dX6_skewOf_1 : decode cX6_skewOf 1 = .ok (.istore_n 3, 1) := by decide +kernel
theorem dX6_skewOf_2 : decode cX6_skewOf 2 = .ok (.iconst 1, 1) := by decide +kernel
theorem dX6_skewOf_3 : decode cX6_skewOf 3 = .ok (.istore 4, 2) := by decide +kernel
theorem dX6_skewOf_5 : decode cX6_skewOf 5 = .ok (.iload 4, 2) := by decide +kernel
theorem dX6_skewOf_7 : decode cX6_skewOf 7 = .ok (.iload_n 2, 1) := by decide +kernel
theorem dX6_skewOf_8 : decode cX6_skewOf 8 = .ok (.if_icmp .gt 29, 3) := by decide +kernel
theorem dX6_skewOf_11 : decode cX6_skewOf 11 = .ok (.iload_n 3, 1) := by decide +kernel
theorem dX6_skewOf_12 : decode cX6_skewOf 12 = .ok (.aload_n 0, 1) := by decide +kernel
theorem dX6_skewOf_13 : decode cX6_skewOf 13 = .ok (.iload_n 1, 1) := by decide +kernel
theorem dX6_skewOf_14 : decode cX6_skewOf 14 = .ok (.iload 4, 2) := by decide +kernel
theorem dX6_skewOf_16 : decode cX6_skewOf 16 = .ok (.invokevirtual 132, 3) := by decide +kernel
theorem dX6_skewOf_19 : decode cX6_skewOf 19 = .ok (.iconst 1, 1) := by decide +kernel
theorem dX6_skewOf_20 : decode cX6_skewOf 20 = .ok (.if_icmp .ne 7, 3) := by decide +kernel
theorem dX6_skewOf_23 : decode cX6_skewOf 23 = .ok (.iconst 2, 1) := by decide +kernel
theorem dX6_skewOf_24 : decode cX6_skewOf 24 = .ok (.goto 5, 3) := by decide +kernel
theorem dX6_skewOf_27 : decode cX6_skewOf 27 = .ok (.bipush (-2), 2) := by decide +kernel
theorem dX6_skewOf_29 : decode cX6_skewOf 29 = .ok (.iadd, 1) := by decide +kernel
theorem dX6_skewOf_30 : decode cX6_skewOf 30 = .ok (.istore_n 3, 1) := by decide +kernel
theorem dX6_skewOf_31 : decode cX6_skewOf 31 = .ok (.iinc 4 1, 3) := by decide +kernel
theorem dX6_skewOf_34 : decode cX6_skewOf 34 = .ok (.goto (-29), 3) := by decide +kernel
theorem dX6_skewOf_37 : decode cX6_skewOf 37 = .ok (.iload_n 3, 1) := by decide +kernel
theorem dX6_skewOf_38 : decode cX6_skewOf 38 = .ok (.ireturn, 1) := by decide +kernel
theorem dX6_skew_0 : decode cX6_skew 0 = .ok (.aload_n 0, 1) := by decide +kernel
theorem dX6_skew_1 : decode cX6_skew 1 = .ok (.iload_n 1, 1) := by decide +kernel
theorem dX6_skew_2 : decode cX6_skew 2 = .ok (.iload_n 2, 1) := by decide +kernel
theorem dX6_skew_3 : decode cX6_skew 3 = .ok (.invokevirtual 147, 3) := by decide +kernel
theorem dX6_skew_6 : decode cX6_skew 6 = .ok (.ifCond .eq 15, 3) := by decide +kernel
theorem dX6_skew_9 : decode cX6_skew 9 = .ok (.aload_n 0, 1) := by decide +kernel
theorem dX6_skew_10 : decode cX6_skew 10 = .ok (.iload_n 1, 1) := by decide +kernel
theorem dX6_skew_11 : decode cX6_skew 11 = .ok (.iload_n 2, 1) := by decide +kernel
theorem dX6_skew_12 : decode cX6_skew 12 = .ok (.invokevirtual 191, 3) := by decide +kernel
theorem dX6_skew_15 : decode cX6_skew 15 = .ok (.bipush 100, 2) := by decide +kernel
theorem dX6_skew_17 : decode cX6_skew 17 = .ok (.iadd, 1) := by decide +kernel
theorem dX6_skew_18 : decode cX6_skew 18 = .ok (.goto 7, 3) := by decide +kernel
theorem dX6_skew_21 : decode cX6_skew 21 = .ok (.aload_n 0, 1) := by decide +kernel
theorem dX6_skew_22 : decode cX6_skew 22 = .ok (.invokevirtual 43, 3) := by decide +kernel
theorem dX6_skew_25 : decode cX6_skew 25 = .ok (.ireturn, 1) := by decide +kernel
theorem dX6_fewestBumps_0 : decode cX6_fewestBumps 0 = .ok (.iconst 0, 1) := by decide +kernel
theorem dX6_fewestBumps_1 : decode cX6_fewestBumps 1 = .ok (.istore_n 2, 1) := by decide +kernel
theorem dX6_fewestBumps_2 : decode cX6_fewestBumps 2 = .ok (.iload_n 2, 1) := by decide +kernel
theorem dX6_fewestBumps_3 : decode cX6_fewestBumps 3 = .ok (.bipush 17, 2) := by decide +kernel
theorem dX6_fewestBumps_5 : decode cX6_fewestBumps 5 = .ok (.if_icmp .ge 28, 3) := by decide +kernel
theorem dX6_fewestBumps_8 : decode cX6_fewestBumps 8 = .ok (.aload_n 0, 1) := by decide +kernel
theorem dX6_fewestBumps_9 : decode cX6_fewestBumps 9 = .ok (.getfield 31, 3) := by decide +kernel
theorem dX6_fewestBumps_12 : decode cX6_fewestBumps 12 = .ok (.iload_n 2, 1) := by decide +kernel
theorem dX6_fewestBumps_13 : decode cX6_fewestBumps 13 = .ok (.iload_n 2, 1) := by decide +kernel
theorem dX6_fewestBumps_14 : decode cX6_fewestBumps 14 = .ok (.bipush 8, 2) := by decide +kernel
theorem dX6_fewestBumps_16 : decode cX6_fewestBumps 16 = .ok (.if_icmp .ne 7, 3) := by decide +kernel
theorem dX6_fewestBumps_19 : decode cX6_fewestBumps 19 = .ok (.iconst 0, 1) := by decide +kernel
theorem dX6_fewestBumps_20 : decode cX6_fewestBumps 20 = .ok (.goto 6, 3) := by decide +kernel
theorem dX6_fewestBumps_23 : decode cX6_fewestBumps 23 = .ok (.sipush 1000, 3) := by decide +kernel
theorem dX6_fewestBumps_26 : decode cX6_fewestBumps 26 = .ok (.iastore, 1) := by decide +kernel
theorem dX6_fewestBumps_27 : decode cX6_fewestBumps 27 = .ok (.iinc 2 1, 3) := by decide +kernel
theorem dX6_fewestBumps_30 : decode cX6_fewestBumps 30 = .ok (.goto (-28), 3) := by decide +kernel
theorem dX6_fewestBumps_33 : decode cX6_fewestBumps 33 = .ok (.iconst 0, 1) := by decide +kernel
theorem dX6_fewestBumps_34 : decode cX6_fewestBumps 34 = .ok (.istore_n 2, 1) := by decide +kernel
theorem dX6_fewestBumps_35 : decode cX6_fewestBumps 35 = .ok (.iload_n 2, 1) := by decide +kernel
theorem dX6_fewestBumps_36 : decode cX6_fewestBumps 36 = .ok (.aload_n 0, 1) := by decide +kernel
theorem dX6_fewestBumps_37 : decode cX6_fewestBumps 37 = .ok (.iload_n 1, 1) := by decide +kernel
theorem dX6_fewestBumps_38 : decode cX6_fewestBumps 38 = .ok (.invokevirtual 69, 3) := by decide +kernel
theorem dX6_fewestBumps_41 : decode cX6_fewestBumps 41 = .ok (.if_icmp .ge 279, 3) := by decide +kernel
theorem dX6_fewestBumps_44 : decode cX6_fewestBumps 44 = .ok (.iload_n 2, 1) := by decide +kernel
theorem dX6_fewestBumps_45 : decode cX6_fewestBumps 45 = .ok (.ifCond .ne 7, 3) := by decide +kernel
theorem dX6_fewestBumps_48 : decode cX6_fewestBumps 48 = .ok (.iconst 0, 1) := by decide +kernel
theorem dX6_fewestBumps_49 : decode cX6_fewestBumps 49 = .ok (.goto 18, 3) := by decide +kernel
theorem dX6_fewestBumps_52 : decode cX6_fewestBumps 52 = .ok (.aload_n 0, 1) := by decide +kernel
theorem dX6_fewestBumps_53 : decode cX6_fewestBumps 53 = .ok (.iload_n 1, 1) := by decide +kernel
theorem dX6_fewestBumps_54 : decode cX6_fewestBumps 54 = .ok (.iload_n 2, 1) := by decide +kernel
theorem dX6_fewestBumps_55 : decode cX6_fewestBumps 55 = .ok (.invokevirtual 132, 3) := by decide +kernel
theorem dX6_fewestBumps_58 : decode cX6_fewestBumps 58 = .ok (.iconst 1, 1) := by decide +kernel
theorem dX6_fewestBumps_59 : decode cX6_fewestBumps 59 = .ok (.if_icmp .ne 7, 3) := by decide +kernel
theorem dX6_fewestBumps_62 : decode cX6_fewestBumps 62 = .ok (.iconst 1, 1) := by decide +kernel
theorem dX6_fewestBumps_63 : decode cX6_fewestBumps 63 = .ok (.goto 4, 3) := by decide +kernel
theorem dX6_fewestBumps_66 : decode cX6_fewestBumps 66 = .ok (.iconst (-1), 1) := by decide +kernel
theorem dX6_fewestBumps_67 : decode cX6_fewestBumps 67 = .ok (.istore_n 3, 1) := by decide +kernel
theorem dX6_fewestBumps_68 : decode cX6_fewestBumps 68 = .ok (.aload_n 0, 1) := by decide +kernel
theorem dX6_fewestBumps_69 : decode cX6_fewestBumps 69 = .ok (.iload_n 1, 1) := by decide +kernel
theorem dX6_fewestBumps_70 : decode cX6_fewestBumps 70 = .ok (.iload_n 2, 1) := by decide +kernel
theorem dX6_fewestBumps_71 : decode cX6_fewestBumps 71 = .ok (.iconst 2, 1) := by decide +kernel
theorem dX6_fewestBumps_72 : decode cX6_fewestBumps 72 = .ok (.invokevirtual 151, 3) := by decide +kernel
theorem dX6_fewestBumps_75 : decode cX6_fewestBumps 75 = .ok (.istore 4, 2) := by decide +kernel
theorem dX6_fewestBumps_77 : decode cX6_fewestBumps 77 = .ok (.iconst 0, 1) := by decide +kernel
theorem dX6_fewestBumps_78 : decode cX6_fewestBumps 78 = .ok (.istore 5, 2) := by decide +kernel
theorem dX6_fewestBumps_80 : decode cX6_fewestBumps 80 = .ok (.iload 5, 2) := by decide +kernel
theorem dX6_fewestBumps_82 : decode cX6_fewestBumps 82 = .ok (.bipush 17, 2) := by decide +kernel
theorem dX6_fewestBumps_84 : decode cX6_fewestBumps 84 = .ok (.if_icmp .ge 19, 3) := by decide +kernel
theorem dX6_fewestBumps_87 : decode cX6_fewestBumps 87 = .ok (.aload_n 0, 1) := by decide +kernel
theorem dX6_fewestBumps_88 : decode cX6_fewestBumps 88 = .ok (.getfield 34, 3) := by decide +kernel
theorem dX6_fewestBumps_91 : decode cX6_fewestBumps 91 = .ok (.iload 5, 2) := by decide +kernel
theorem dX6_fewestBumps_93 : decode cX6_fewestBumps 93 = .ok (.sipush 1000, 3) := by decide +kernel
theorem dX6_fewestBumps_96 : decode cX6_fewestBumps 96 = .ok (.iastore, 1) := by decide +kernel
theorem dX6_fewestBumps_97 : decode cX6_fewestBumps 97 = .ok (.iinc 5 1, 3) := by decide +kernel
theorem dX6_fewestBumps_100 : decode cX6_fewestBumps 100 = .ok (.goto (-20), 3) := by decide +kernel
theorem dX6_fewestBumps_103 : decode cX6_fewestBumps 103 = .ok (.iconst 0, 1) := by decide +kernel
theorem dX6_fewestBumps_104 : decode cX6_fewestBumps 104 = .ok (.istore 5, 2) := by decide +kernel
theorem dX6_fewestBumps_106 : decode cX6_fewestBumps 106 = .ok (.iload 5, 2) := by decide +kernel
theorem dX6_fewestBumps_108 : decode cX6_fewestBumps 108 = .ok (.bipush 17, 2) := by decide +kernel
theorem dX6_fewestBumps_110 : decode cX6_fewestBumps 110 = .ok (.if_icmp .ge 174, 3) := by decide +kernel
theorem dX6_fewestBumps_113 : decode cX6_fewestBumps 113 = .ok (.iload 5, 2) := by decide +kernel
theorem dX6_fewestBumps_115 : decode cX6_fewestBumps 115 = .ok (.bipush 8, 2) := by decide +kernel
theorem dX6_fewestBumps_117 : decode cX6_fewestBumps 117 = .ok (.isub, 1) := by decide +kernel
theorem dX6_fewestBumps_118 : decode cX6_fewestBumps 118 = .ok (.iload_n 3, 1) := by decide +kernel
theorem dX6_fewestBumps_119 : decode cX6_fewestBumps 119 = .ok (.iadd, 1) := by decide +kernel
theorem dX6_fewestBumps_120 : decode cX6_fewestBumps 120 = .ok (.istore 6, 2) := by decide +kernel
theorem dX6_fewestBumps_122 : decode cX6_fewestBumps 122 = .ok (.iconst 0, 1) := by decide +kernel
theorem dX6_fewestBumps_123 : decode cX6_fewestBumps 123 = .ok (.istore 7, 2) := by decide +kernel
theorem dX6_fewestBumps_125 : decode cX6_fewestBumps 125 = .ok (.iload 7, 2) := by decide +kernel
theorem dX6_fewestBumps_127 : decode cX6_fewestBumps 127 = .ok (.iload 4, 2) := by decide +kernel
theorem dX6_fewestBumps_129 : decode cX6_fewestBumps 129 = .ok (.if_icmp .gt 149, 3) := by decide +kernel
theorem dX6_fewestBumps_132 : decode cX6_fewestBumps 132 = .ok (.aload_n 0, 1) := by decide +kernel
theorem dX6_fewestBumps_133 : decode cX6_fewestBumps 133 = .ok (.getfield 31, 3) := by decide +kernel
theorem dX6_fewestBumps_136 : decode cX6_fewestBumps 136 = .ok (.iload 5, 2) := by decide +kernel
theorem dX6_fewestBumps_138 : decode cX6_fewestBumps 138 = .ok (.iaload, 1) := by decide +kernel
theorem dX6_fewestBumps_139 : decode cX6_fewestBumps 139 = .ok (.sipush 1000, 3) := by decide +kernel
theorem dX6_fewestBumps_142 : decode cX6_fewestBumps 142 = .ok (.if_icmp .ge 136, 3) := by decide +kernel
theorem dX6_fewestBumps_145 : decode cX6_fewestBumps 145 = .ok (.iload 6, 2) := by decide +kernel
theorem dX6_fewestBumps_147 : decode cX6_fewestBumps 147 = .ok (.ifCond .le 11, 3) := by decide +kernel
theorem dX6_fewestBumps_150 : decode cX6_fewestBumps 150 = .ok (.iload 6, 2) := by decide +kernel
theorem dX6_fewestBumps_152 : decode cX6_fewestBumps 152 = .ok (.iload 7, 2) := by decide +kernel
theorem dX6_fewestBumps_154 : decode cX6_fewestBumps 154 = .ok (.isub, 1) := by decide +kernel
theorem dX6_fewestBumps_155 : decode cX6_fewestBumps 155 = .ok (.goto 8, 3) := by decide +kernel
theorem dX6_fewestBumps_158 : decode cX6_fewestBumps 158 = .ok (.iload 6, 2) := by decide +kernel
theorem dX6_fewestBumps_160 : decode cX6_fewestBumps 160 = .ok (.iload 7, 2) := by decide +kernel
theorem dX6_fewestBumps_162 : decode cX6_fewestBumps 162 = .ok (.iadd, 1) := by decide +kernel
theorem dX6_fewestBumps_163 : decode cX6_fewestBumps 163 = .ok (.istore 8, 2) := by decide +kernel
theorem dX6_fewestBumps_165 : decode cX6_fewestBumps 165 = .ok (.iload 6, 2) := by decide +kernel
theorem dX6_fewestBumps_167 : decode cX6_fewestBumps 167 = .ok (.ifCond .le 16, 3) := by decide +kernel
theorem dX6_fewestBumps_170 : decode cX6_fewestBumps 170 = .ok (.iload 8, 2) := by decide +kernel
theorem dX6_fewestBumps_172 : decode cX6_fewestBumps 172 = .ok (.ifCond .ge 7, 3) := by decide +kernel
theorem dX6_fewestBumps_175 : decode cX6_fewestBumps 175 = .ok (.iconst 1, 1) := by decide +kernel
theorem dX6_fewestBumps_176 : decode cX6_fewestBumps 176 = .ok (.goto 17, 3) := by decide +kernel
theorem dX6_fewestBumps_179 : decode cX6_fewestBumps 179 = .ok (.iconst 0, 1) := by decide +kernel
theorem dX6_fewestBumps_180 : decode cX6_fewestBumps 180 = .ok (.goto 13, 3) := by decide +kernel
theorem dX6_fewestBumps_183 : decode cX6_fewestBumps 183 = .ok (.iload 8, 2) := by decide +kernel
theorem dX6_fewestBumps_185 : decode cX6_fewestBumps 185 = .ok (.ifCond .le 7, 3) := by decide +kernel
theorem dX6_fewestBumps_188 : decode cX6_fewestBumps 188 = .ok (.iconst 1, 1) := by decide +kernel
theorem dX6_fewestBumps_189 : decode cX6_fewestBumps 189 = .ok (.goto 4, 3) := by decide +kernel
theorem dX6_fewestBumps_192 : decode cX6_fewestBumps 192 = .ok (.iconst 0, 1) := by decide +kernel
theorem dX6_fewestBumps_193 : decode cX6_fewestBumps 193 = .ok (.istore 9, 2) := by decide +kernel
theorem dX6_fewestBumps_195 : decode cX6_fewestBumps 195 = .ok (.iload 8, 2) := by decide +kernel
theorem dX6_fewestBumps_197 : decode cX6_fewestBumps 197 = .ok (.ifCond .ge 9, 3) := by decide +kernel
theorem dX6_fewestBumps_200 : decode cX6_fewestBumps 200 = .ok (.iload 8, 2) := by decide +kernel
theorem dX6_fewestBumps_202 : decode cX6_fewestBumps 202 = .ok (.ineg, 1) := by decide +kernel
theorem dX6_fewestBumps_203 : decode cX6_fewestBumps 203 = .ok (.goto 5, 3) := by decide +kernel
theorem dX6_fewestBumps_206 : decode cX6_fewestBumps 206 = .ok (.iload 8, 2) := by decide +kernel
theorem dX6_fewestBumps_208 : decode cX6_fewestBumps 208 = .ok (.istore 10, 2) := by decide +kernel
theorem dX6_fewestBumps_210 : decode cX6_fewestBumps 210 = .ok (.iload 9, 2) := by decide +kernel
theorem dX6_fewestBumps_212 : decode cX6_fewestBumps 212 = .ok (.ifCond .ne 60, 3) := by decide +kernel
theorem dX6_fewestBumps_215 : decode cX6_fewestBumps 215 = .ok (.iconst 2, 1) := by decide +kernel
theorem dX6_fewestBumps_216 : decode cX6_fewestBumps 216 = .ok (.iload 10, 2) := by decide +kernel
theorem dX6_fewestBumps_218 : decode cX6_fewestBumps 218 = .ok (.imul, 1) := by decide +kernel
theorem dX6_fewestBumps_219 : decode cX6_fewestBumps 219 = .ok (.aload_n 0, 1) := by decide +kernel
theorem dX6_fewestBumps_220 : decode cX6_fewestBumps 220 = .ok (.getfield 13, 3) := by decide +kernel
theorem dX6_fewestBumps_223 : decode cX6_fewestBumps 223 = .ok (.bipush 7, 2) := by decide +kernel
theorem dX6_fewestBumps_225 : decode cX6_fewestBumps 225 = .ok (.iaload, 1) := by decide +kernel
theorem dX6_fewestBumps_226 : decode cX6_fewestBumps 226 = .ok (.if_icmp .gt 46, 3) := by decide +kernel
theorem dX6_fewestBumps_229 : decode cX6_fewestBumps 229 = .ok (.aload_n 0, 1) := by decide +kernel
theorem dX6_fewestBumps_230 : decode cX6_fewestBumps 230 = .ok (.getfield 31, 3) := by decide +kernel
theorem dX6_fewestBumps_233 : decode cX6_fewestBumps 233 = .ok (.iload 5, 2) := by decide +kernel
theorem dX6_fewestBumps_235 : decode cX6_fewestBumps 235 = .ok (.iaload, 1) := by decide +kernel
theorem dX6_fewestBumps_236 : decode cX6_fewestBumps 236 = .ok (.iload 7, 2) := by decide +kernel
theorem dX6_fewestBumps_238 : decode cX6_fewestBumps 238 = .ok (.iadd, 1) := by decide +kernel
theorem dX6_fewestBumps_239 : decode cX6_fewestBumps 239 = .ok (.aload_n 0, 1) := by decide +kernel
theorem dX6_fewestBumps_240 : decode cX6_fewestBumps 240 = .ok (.getfield 34, 3) := by decide +kernel
theorem dX6_fewestBumps_243 : decode cX6_fewestBumps 243 = .ok (.iload 8, 2) := by decide +kernel
theorem dX6_fewestBumps_245 : decode cX6_fewestBumps 245 = .ok (.bipush 8, 2) := by decide +kernel
theorem dX6_fewestBumps_247 : decode cX6_fewestBumps 247 = .ok (.iadd, 1) := by decide +kernel
theorem dX6_fewestBumps_248 : decode cX6_fewestBumps 248 = .ok (.iaload, 1) := by decide +kernel
theorem dX6_fewestBumps_249 : decode cX6_fewestBumps 249 = .ok (.if_icmp .ge 23, 3) := by decide +kernel
theorem dX6_fewestBumps_252 : decode cX6_fewestBumps 252 = .ok (.aload_n 0, 1) := by decide +kernel
theorem dX6_fewestBumps_253 : decode cX6_fewestBumps 253 = .ok (.getfield 34, 3) := by decide +kernel
theorem dX6_fewestBumps_256 : decode cX6_fewestBumps 256 = .ok (.iload 8, 2) := by decide +kernel
theorem dX6_fewestBumps_258 : decode cX6_fewestBumps 258 = .ok (.bipush 8, 2) := by decide +kernel
theorem dX6_fewestBumps_260 : decode cX6_fewestBumps 260 = .ok (.iadd, 1) := by decide +kernel
theorem dX6_fewestBumps_261 : decode cX6_fewestBumps 261 = .ok (.aload_n 0, 1) := by decide +kernel
theorem dX6_fewestBumps_262 : decode cX6_fewestBumps 262 = .ok (.getfield 31, 3) := by decide +kernel
theorem dX6_fewestBumps_265 : decode cX6_fewestBumps 265 = .ok (.iload 5, 2) := by decide +kernel
theorem dX6_fewestBumps_267 : decode cX6_fewestBumps 267 = .ok (.iaload, 1) := by decide +kernel
theorem dX6_fewestBumps_268 : decode cX6_fewestBumps 268 = .ok (.iload 7, 2) := by decide +kernel
theorem dX6_fewestBumps_270 : decode cX6_fewestBumps 270 = .ok (.iadd, 1) := by decide +kernel
theorem dX6_fewestBumps_271 : decode cX6_fewestBumps 271 = .ok (.iastore, 1) := by decide +kernel
theorem dX6_fewestBumps_272 : decode cX6_fewestBumps 272 = .ok (.iinc 7 1, 3) := by decide +kernel
theorem dX6_fewestBumps_275 : decode cX6_fewestBumps 275 = .ok (.goto (-150), 3) := by decide +kernel
theorem dX6_fewestBumps_278 : decode cX6_fewestBumps 278 = .ok (.iinc 5 1, 3) := by decide +kernel
theorem dX6_fewestBumps_281 : decode cX6_fewestBumps 281 = .ok (.goto (-175), 3) := by decide +kernel
theorem dX6_fewestBumps_284 : decode cX6_fewestBumps 284 = .ok (.iconst 0, 1) := by decide +kernel
theorem dX6_fewestBumps_285 : decode cX6_fewestBumps 285 = .ok (.istore 5, 2) := by decide +kernel
theorem dX6_fewestBumps_287 : decode cX6_fewestBumps 287 = .ok (.iload 5, 2) := by decide +kernel
theorem dX6_fewestBumps_289 : decode cX6_fewestBumps 289 = .ok (.bipush 17, 2) := by decide +kernel
theorem dX6_fewestBumps_291 : decode cX6_fewestBumps 291 = .ok (.if_icmp .ge 23, 3) := by decide +kernel
theorem dX6_fewestBumps_294 : decode cX6_fewestBumps 294 = .ok (.aload_n 0, 1) := by decide +kernel
theorem dX6_fewestBumps_295 : decode cX6_fewestBumps 295 = .ok (.getfield 31, 3) := by decide +kernel
theorem dX6_fewestBumps_298 : decode cX6_fewestBumps 298 = .ok (.iload 5, 2) := by decide +kernel
theorem dX6_fewestBumps_300 : decode cX6_fewestBumps 300 = .ok (.aload_n 0, 1) := by decide +kernel
theorem dX6_fewestBumps_301 : decode cX6_fewestBumps 301 = .ok (.getfield 34, 3) := by decide +kernel
theorem dX6_fewestBumps_304 : decode cX6_fewestBumps 304 = .ok (.iload 5, 2) := by decide +kernel
theorem dX6_fewestBumps_306 : decode cX6_fewestBumps 306 = .ok (.iaload, 1) := by decide +kernel
theorem dX6_fewestBumps_307 : decode cX6_fewestBumps 307 = .ok (.iastore, 1) := by decide +kernel
theorem dX6_fewestBumps_308 : decode cX6_fewestBumps 308 = .ok (.iinc 5 1, 3) := by decide +kernel
theorem dX6_fewestBumps_311 : decode cX6_fewestBumps 311 = .ok (.goto (-24), 3) := by decide +kernel
theorem dX6_fewestBumps_314 : decode cX6_fewestBumps 314 = .ok (.iinc 2 1, 3) := by decide +kernel
theorem dX6_fewestBumps_317 : decode cX6_fewestBumps 317 = .ok (.goto (-282), 3) := by decide +kernel
theorem dX6_fewestBumps_320 : decode cX6_fewestBumps 320 = .ok (.aload_n 0, 1) := by decide +kernel
theorem dX6_fewestBumps_321 : decode cX6_fewestBumps 321 = .ok (.getfield 31, 3) := by decide +kernel
theorem dX6_fewestBumps_324 : decode cX6_fewestBumps 324 = .ok (.bipush 8, 2) := by decide +kernel
theorem dX6_fewestBumps_326 : decode cX6_fewestBumps 326 = .ok (.iaload, 1) := by decide +kernel
theorem dX6_fewestBumps_327 : decode cX6_fewestBumps 327 = .ok (.sipush 1000, 3) := by decide +kernel
theorem dX6_fewestBumps_330 : decode cX6_fewestBumps 330 = .ok (.if_icmp .ge 13, 3) := by decide +kernel
theorem dX6_fewestBumps_333 : decode cX6_fewestBumps 333 = .ok (.aload_n 0, 1) := by decide +kernel
theorem dX6_fewestBumps_334 : decode cX6_fewestBumps 334 = .ok (.getfield 31, 3) := by decide +kernel
theorem dX6_fewestBumps_337 : decode cX6_fewestBumps 337 = .ok (.bipush 8, 2) := by decide +kernel
theorem dX6_fewestBumps_339 : decode cX6_fewestBumps 339 = .ok (.iaload, 1) := by decide +kernel
theorem dX6_fewestBumps_340 : decode cX6_fewestBumps 340 = .ok (.goto 4, 3) := by decide +kernel
theorem dX6_fewestBumps_343 : decode cX6_fewestBumps 343 = .ok (.iconst (-1), 1) := by decide +kernel
theorem dX6_fewestBumps_344 : decode cX6_fewestBumps 344 = .ok (.ireturn, 1) := by decide +kernel
theorem dX6_bumps_0 : decode cX6_bumps 0 = .ok (.aload_n 0, 1) := by decide +kernel
theorem dX6_bumps_1 : decode cX6_bumps 1 = .ok (.iload_n 1, 1) := by decide +kernel
theorem dX6_bumps_2 : decode cX6_bumps 2 = .ok (.invokevirtual 65, 3) := by decide +kernel
theorem dX6_bumps_5 : decode cX6_bumps 5 = .ok (.ifCond .eq 11, 3) := by decide +kernel
theorem dX6_bumps_8 : decode cX6_bumps 8 = .ok (.aload_n 0, 1) := by decide +kernel
theorem dX6_bumps_9 : decode cX6_bumps 9 = .ok (.iload_n 1, 1) := by decide +kernel
theorem dX6_bumps_10 : decode cX6_bumps 10 = .ok (.invokevirtual 194, 3) := by decide +kernel
theorem dX6_bumps_13 : decode cX6_bumps 13 = .ok (.goto 7, 3) := by decide +kernel
theorem dX6_bumps_16 : decode cX6_bumps 16 = .ok (.aload_n 0, 1) := by decide +kernel
theorem dX6_bumps_17 : decode cX6_bumps 17 = .ok (.invokevirtual 43, 3) := by decide +kernel
theorem dX6_bumps_20 : decode cX6_bumps 20 = .ok (.ireturn, 1) := by decide +kernel
theorem dX6_type_0 : decode cX6_type 0 = .ok (.iload_n 1, 1) := by decide +kernel
theorem dX6_type_1 : decode cX6_type 1 = .ok (.iconst 0, 1) := by decide +kernel
theorem dX6_type_2 : decode cX6_type 2 = .ok (.bipush 127, 2) := by decide +kernel
theorem dX6_type_4 : decode cX6_type 4 = .ok (.invokestatic 61, 3) := by decide +kernel
theorem dX6_type_7 : decode cX6_type 7 = .ok (.ifCond .ne 8, 3) := by decide +kernel
theorem dX6_type_10 : decode cX6_type 10 = .ok (.aload_n 0, 1) := by decide +kernel
theorem dX6_type_11 : decode cX6_type 11 = .ok (.invokevirtual 43, 3) := by decide +kernel
theorem dX6_type_14 : decode cX6_type 14 = .ok (.ireturn, 1) := by decide +kernel
theorem dX6_type_15 : decode cX6_type 15 = .ok (.aload_n 0, 1) := by decide +kernel
theorem dX6_type_16 : decode cX6_type 16 = .ok (.getfield 197, 3) := by decide +kernel
theorem dX6_type_19 : decode cX6_type 19 = .ok (.bipush 120, 2) := by decide +kernel
theorem dX6_type_21 : decode cX6_type 21 = .ok (.if_icmp .ne 8, 3) := by decide +kernel
theorem dX6_type_24 : decode cX6_type 24 = .ok (.aload_n 0, 1) := by decide +kernel
theorem dX6_type_25 : decode cX6_type 25 = .ok (.invokevirtual 50, 3) := by decide +kernel
theorem dX6_type_28 : decode cX6_type 28 = .ok (.ireturn, 1) := by decide +kernel
theorem dX6_type_29 : decode cX6_type 29 = .ok (.aload_n 0, 1) := by decide +kernel
theorem dX6_type_30 : decode cX6_type 30 = .ok (.getfield 37, 3) := by decide +kernel
theorem dX6_type_33 : decode cX6_type 33 = .ok (.aload_n 0, 1) := by decide +kernel
theorem dX6_type_34 : decode cX6_type 34 = .ok (.getfield 197, 3) := by decide +kernel
theorem dX6_type_37 : decode cX6_type 37 = .ok (.iload_n 1, 1) := by decide +kernel
theorem dX6_type_38 : decode cX6_type 38 = .ok (.iastore, 1) := by decide +kernel
theorem dX6_type_39 : decode cX6_type 39 = .ok (.aload_n 0, 1) := by decide +kernel
theorem dX6_type_40 : decode cX6_type 40 = .ok (.dup, 1) := by decide +kernel
theorem dX6_type_41 : decode cX6_type 41 = .ok (.getfield 197, 3) := by decide +kernel
theorem dX6_type_44 : decode cX6_type 44 = .ok (.iconst 1, 1) := by decide +kernel
theorem dX6_type_45 : decode cX6_type 45 = .ok (.iadd, 1) := by decide +kernel
theorem dX6_type_46 : decode cX6_type 46 = .ok (.putfield 197, 3) := by decide +kernel
theorem dX6_type_49 : decode cX6_type 49 = .ok (.aload_n 0, 1) := by decide +kernel
theorem dX6_type_50 : decode cX6_type 50 = .ok (.getfield 197, 3) := by decide +kernel
theorem dX6_type_53 : decode cX6_type 53 = .ok (.ireturn, 1) := by decide +kernel
theorem dX6_clear_0 : decode cX6_clear 0 = .ok (.aload_n 0, 1) := by decide +kernel
theorem dX6_clear_1 : decode cX6_clear 1 = .ok (.getfield 197, 3) := by decide +kernel
theorem dX6_clear_4 : decode cX6_clear 4 = .ok (.istore_n 1, 1) := by decide +kernel
theorem dX6_clear_5 : decode cX6_clear 5 = .ok (.aload_n 0, 1) := by decide +kernel
theorem dX6_clear_6 : decode cX6_clear 6 = .ok (.iconst 0, 1) := by decide +kernel
theorem dX6_clear_7 : decode cX6_clear 7 = .ok (.putfield 197, 3) := by decide +kernel
theorem dX6_clear_10 : decode cX6_clear 10 = .ok (.iload_n 1, 1) := by decide +kernel
theorem dX6_clear_11 : decode cX6_clear 11 = .ok (.ireturn, 1) := by decide +kernel
theorem dX6_byteAt_0 : decode cX6_byteAt 0 = .ok (.iload_n 1, 1) := by decide +kernel
theorem dX6_byteAt_1 : decode cX6_byteAt 1 = .ok (.aload_n 0, 1) := by decide +kernel
theorem dX6_byteAt_2 : decode cX6_byteAt 2 = .ok (.getfield 197, 3) := by decide +kernel
theorem dX6_byteAt_5 : decode cX6_byteAt 5 = .ok (.if_icmp .ge 12, 3) := by decide +kernel
theorem dX6_byteAt_8 : decode cX6_byteAt 8 = .ok (.aload_n 0, 1) := by decide +kernel
theorem dX6_byteAt_9 : decode cX6_byteAt 9 = .ok (.getfield 37, 3) := by decide +kernel
theorem dX6_byteAt_12 : decode cX6_byteAt 12 = .ok (.iload_n 1, 1) := by decide +kernel
theorem dX6_byteAt_13 : decode cX6_byteAt 13 = .ok (.iaload, 1) := by decide +kernel
theorem dX6_byteAt_14 : decode cX6_byteAt 14 = .ok (.goto 4, 3) := by decide +kernel
theorem dX6_byteAt_17 : decode cX6_byteAt 17 = .ok (.iconst (-1), 1) := by decide +kernel
theorem dX6_byteAt_18 : decode cX6_byteAt 18 = .ok (.ireturn, 1) := by decide +kernel
theorem dX6_isFigure_0 : decode cX6_isFigure 0 = .ok (.aload_n 0, 1) := by decide +kernel
theorem dX6_isFigure_1 : decode cX6_isFigure 1 = .ok (.iload_n 1, 1) := by decide +kernel
theorem dX6_isFigure_2 : decode cX6_isFigure 2 = .ok (.invokevirtual 200, 3) := by decide +kernel
theorem dX6_isFigure_5 : decode cX6_isFigure 5 = .ok (.bipush 48, 2) := by decide +kernel
theorem dX6_isFigure_7 : decode cX6_isFigure 7 = .ok (.bipush 57, 2) := by decide +kernel
theorem dX6_isFigure_9 : decode cX6_isFigure 9 = .ok (.invokestatic 61, 3) := by decide +kernel
theorem dX6_isFigure_12 : decode cX6_isFigure 12 = .ok (.ireturn, 1) := by decide +kernel
theorem dX6_blanks_0 : decode cX6_blanks 0 = .ok (.aload_n 0, 1) := by decide +kernel
theorem dX6_blanks_1 : decode cX6_blanks 1 = .ok (.aload_n 0, 1) := by decide +kernel
theorem dX6_blanks_2 : decode cX6_blanks 2 = .ok (.getfield 203, 3) := by decide +kernel
theorem dX6_blanks_5 : decode cX6_blanks 5 = .ok (.invokevirtual 200, 3) := by decide +kernel
theorem dX6_blanks_8 : decode cX6_blanks 8 = .ok (.bipush 32, 2) := by decide +kernel
theorem dX6_blanks_10 : decode cX6_blanks 10 = .ok (.if_icmp .ne 16, 3) := by decide +kernel
theorem dX6_blanks_13 : decode cX6_blanks 13 = .ok (.aload_n 0, 1) := by decide +kernel
theorem dX6_blanks_14 : decode cX6_blanks 14 = .ok (.dup, 1) := by decide +kernel
theorem dX6_blanks_15 : decode cX6_blanks 15 = .ok (.getfield 203, 3) := by decide +kernel
theorem dX6_blanks_18 : decode cX6_blanks 18 = .ok (.iconst 1, 1) := by decide +kernel
theorem dX6_blanks_19 : decode cX6_blanks 19 = .ok (.iadd, 1) := by decide +kernel
theorem dX6_blanks_20 : decode cX6_blanks 20 = .ok (.putfield 203, 3) := by decide +kernel
theorem dX6_blanks_23 : decode cX6_blanks 23 = .ok (.goto (-23), 3) := by decide +kernel
theorem dX6_blanks_26 : decode cX6_blanks 26 = .ok (.return_, 1) := by decide +kernel
theorem dX6_wants_0 : decode cX6_wants 0 = .ok (.iload_n 0, 1) := by decide +kernel
theorem dX6_wants_1 : decode cX6_wants 1 = .ok (.bipush 108, 2) := by decide +kernel
theorem dX6_wants_3 : decode cX6_wants 3 = .ok (.if_icmp .ne 7, 3) := by decide +kernel
theorem dX6_wants_6 : decode cX6_wants 6 = .ok (.iconst 1, 1) := by decide +kernel
theorem dX6_wants_7 : decode cX6_wants 7 = .ok (.goto 36, 3) := by decide +kernel
theorem dX6_wants_10 : decode cX6_wants 10 = .ok (.iload_n 0, 1) := by decide +kernel
theorem dX6_wants_11 : decode cX6_wants 11 = .ok (.bipush 103, 2) := by decide +kernel
theorem dX6_wants_13 : decode cX6_wants 13 = .ok (.if_icmp .ne 7, 3) := by decide +kernel
theorem dX6_wants_16 : decode cX6_wants 16 = .ok (.iconst 3, 1) := by decide +kernel
theorem dX6_wants_17 : decode cX6_wants 17 = .ok (.goto 26, 3) := by decide +kernel
theorem dX6_wants_20 : decode cX6_wants 20 = .ok (.iload_n 0, 1) := by decide +kernel
theorem dX6_wants_21 : decode cX6_wants 21 = .ok (.bipush 107, 2) := by decide +kernel
theorem dX6_wants_23 : decode cX6_wants 23 = .ok (.if_icmp .eq 15, 3) := by decide +kernel
theorem dX6_wants_26 : decode cX6_wants 26 = .ok (.iload_n 0, 1) := by decide +kernel
theorem dX6_wants_27 : decode cX6_wants 27 = .ok (.bipush 115, 2) := by decide +kernel
theorem dX6_wants_29 : decode cX6_wants 29 = .ok (.if_icmp .eq 9, 3) := by decide +kernel
theorem dX6_wants_32 : decode cX6_wants 32 = .ok (.iload_n 0, 1) := by decide +kernel
theorem dX6_wants_33 : decode cX6_wants 33 = .ok (.bipush 119, 2) := by decide +kernel
theorem dX6_wants_35 : decode cX6_wants 35 = .ok (.if_icmp .ne 7, 3) := by decide +kernel
theorem dX6_wants_38 : decode cX6_wants 38 = .ok (.iconst 2, 1) := by decide +kernel
theorem dX6_wants_39 : decode cX6_wants 39 = .ok (.goto 4, 3) := by decide +kernel
theorem dX6_wants_42 : decode cX6_wants 42 = .ok (.iconst (-1), 1) := by decide +kernel
theorem dX6_wants_43 : decode cX6_wants 43 = .ok (.ireturn, 1) := by decide +kernel
theorem dX6_number_0 : decode cX6_number 0 = .ok (.aload_n 0, 1) := by decide +kernel
theorem dX6_number_1 : decode cX6_number 1 = .ok (.aload_n 0, 1) := by decide +kernel
theorem dX6_number_2 : decode cX6_number 2 = .ok (.getfield 203, 3) := by decide +kernel
theorem dX6_number_5 : decode cX6_number 5 = .ok (.invokevirtual 206, 3) := by decide +kernel
theorem dX6_number_8 : decode cX6_number 8 = .ok (.ifCond .ne 5, 3) := by decide +kernel
theorem dX6_number_11 : decode cX6_number 11 = .ok (.iconst (-1), 1) := by decide +kernel
theorem dX6_number_12 : decode cX6_number 12 = .ok (.ireturn, 1) := by decide +kernel
theorem dX6_number_13 : decode cX6_number 13 = .ok (.iconst 0, 1) := by decide +kernel
theorem dX6_number_14 : decode cX6_number 14 = .ok (.istore_n 1, 1) := by decide +kernel
theorem dX6_number_15 : decode cX6_number 15 = .ok (.iconst 0, 1) := by decide +kernel
theorem dX6_number_16 : decode cX6_number 16 = .ok (.istore_n 2, 1) := by decide +kernel
theorem dX6_number_17 : decode cX6_number 17 = .ok (.aload_n 0, 1) := by decide +kernel
theorem dX6_number_18 : decode cX6_number 18 = .ok (.aload_n 0, 1) := by decide +kernel
theorem dX6_number_19 : decode cX6_number 19 = .ok (.getfield 203, 3) := by decide +kernel
theorem dX6_number_22 : decode cX6_number 22 = .ok (.invokevirtual 206, 3) := by decide +kernel
theorem dX6_number_25 : decode cX6_number 25 = .ok (.ifCond .eq 41, 3) := by decide +kernel
theorem dX6_number_28 : decode cX6_number 28 = .ok (.iload_n 2, 1) := by decide +kernel
theorem dX6_number_29 : decode cX6_number 29 = .ok (.iconst 3, 1) := by decide +kernel
theorem dX6_number_30 : decode cX6_number 30 = .ok (.if_icmp .ge 36, 3) := by decide +kernel
theorem dX6_number_33 : decode cX6_number 33 = .ok (.bipush 10, 2) := by decide +kernel
theorem dX6_number_35 : decode cX6_number 35 = .ok (.iload_n 1, 1) := by decide +kernel
theorem dX6_number_36 : decode cX6_number 36 = .ok (.imul, 1) := by decide +kernel
theorem dX6_number_37 : decode cX6_number 37 = .ok (.aload_n 0, 1) := by decide +kernel
theorem dX6_number_38 : decode cX6_number 38 = .ok (.aload_n 0, 1) := by decide +kernel
theorem dX6_number_39 : decode cX6_number 39 = .ok (.getfield 203, 3) := by decide +kernel
theorem dX6_number_42 : decode cX6_number 42 = .ok (.invokevirtual 200, 3) := by decide +kernel
theorem dX6_number_45 : decode cX6_number 45 = .ok (.iadd, 1) := by decide +kernel
theorem dX6_number_46 : decode cX6_number 46 = .ok (.bipush 48, 2) := by decide +kernel
theorem dX6_number_48 : decode cX6_number 48 = .ok (.isub, 1) := by decide +kernel
theorem dX6_number_49 : decode cX6_number 49 = .ok (.istore_n 1, 1) := by decide +kernel
theorem dX6_number_50 : decode cX6_number 50 = .ok (.aload_n 0, 1) := by decide +kernel
theorem dX6_number_51 : decode cX6_number 51 = .ok (.dup, 1) := by decide +kernel
theorem dX6_number_52 : decode cX6_number 52 = .ok (.getfield 203, 3) := by decide +kernel
theorem dX6_number_55 : decode cX6_number 55 = .ok (.iconst 1, 1) := by decide +kernel
theorem dX6_number_56 : decode cX6_number 56 = .ok (.iadd, 1) := by decide +kernel
theorem dX6_number_57 : decode cX6_number 57 = .ok (.putfield 203, 3) := by decide +kernel
theorem dX6_number_60 : decode cX6_number 60 = .ok (.iinc 2 1, 3) := by decide +kernel
theorem dX6_number_63 : decode cX6_number 63 = .ok (.goto (-46), 3) := by decide +kernel
theorem dX6_number_66 : decode cX6_number 66 = .ok (.aload_n 0, 1) := by decide +kernel
theorem dX6_number_67 : decode cX6_number 67 = .ok (.aload_n 0, 1) := by decide +kernel
theorem dX6_number_68 : decode cX6_number 68 = .ok (.getfield 203, 3) := by decide +kernel
theorem dX6_number_71 : decode cX6_number 71 = .ok (.invokevirtual 206, 3) := by decide +kernel
theorem dX6_number_74 : decode cX6_number 74 = .ok (.ifCond .eq 5, 3) := by decide +kernel
theorem dX6_number_77 : decode cX6_number 77 = .ok (.iconst (-1), 1) := by decide +kernel
theorem dX6_number_78 : decode cX6_number 78 = .ok (.ireturn, 1) := by decide +kernel
theorem dX6_number_79 : decode cX6_number 79 = .ok (.aload_n 0, 1) := by decide +kernel
theorem dX6_number_80 : decode cX6_number 80 = .ok (.invokevirtual 209, 3) := by decide +kernel
theorem dX6_number_83 : decode cX6_number 83 = .ok (.iload_n 1, 1) := by decide +kernel
theorem dX6_number_84 : decode cX6_number 84 = .ok (.ireturn, 1) := by decide +kernel
theorem dX6_reads_0 : decode cX6_reads 0 = .ok (.aload_n 0, 1) := by decide +kernel
theorem dX6_reads_1 : decode cX6_reads 1 = .ok (.aload_n 0, 1) := by decide +kernel
theorem dX6_reads_2 : decode cX6_reads 2 = .ok (.getfield 203, 3) := by decide +kernel
theorem dX6_reads_5 : decode cX6_reads 5 = .ok (.invokevirtual 200, 3) := by decide +kernel
theorem dX6_reads_8 : decode cX6_reads 8 = .ok (.istore_n 1, 1) := by decide +kernel
theorem dX6_reads_9 : decode cX6_reads 9 = .ok (.iload_n 1, 1) := by decide +kernel
theorem dX6_reads_10 : decode cX6_reads 10 = .ok (.invokestatic 212, 3) := by decide +kernel
theorem dX6_reads_13 : decode cX6_reads 13 = .ok (.istore_n 2, 1) := by decide +kernel
theorem dX6_reads_14 : decode cX6_reads 14 = .ok (.iload_n 2, 1) := by decide +kernel
theorem dX6_reads_15 : decode cX6_reads 15 = .ok (.iconst (-1), 1) := by decide +kernel
theorem dX6_reads_16 : decode cX6_reads 16 = .ok (.if_icmp .ne 5, 3) := by decide +kernel
theorem dX6_reads_19 : decode cX6_reads 19 = .ok (.iconst 0, 1) := by decide +kernel
theorem dX6_reads_20 : decode cX6_reads 20 = .ok (.ireturn, 1) := by decide +kernel
theorem dX6_reads_21 : decode cX6_reads 21 = .ok (.aload_n 0, 1) := by decide +kernel
theorem dX6_reads_22 : decode cX6_reads 22 = .ok (.dup, 1) := by decide +kernel
theorem dX6_reads_23 : decode cX6_reads 23 = .ok (.getfield 203, 3) := by decide +kernel
theorem dX6_reads_26 : decode cX6_reads 26 = .ok (.iconst 1, 1) := by decide +kernel
theorem dX6_reads_27 : decode cX6_reads 27 = .ok (.iadd, 1) := by decide +kernel
theorem dX6_reads_28 : decode cX6_reads 28 = .ok (.putfield 203, 3) := by decide +kernel
theorem dX6_reads_31 : decode cX6_reads 31 = .ok (.aload_n 0, 1) := by decide +kernel
theorem dX6_reads_32 : decode cX6_reads 32 = .ok (.invokevirtual 209, 3) := by decide +kernel
theorem dX6_reads_35 : decode cX6_reads 35 = .ok (.aload_n 0, 1) := by decide +kernel
theorem dX6_reads_36 : decode cX6_reads 36 = .ok (.getfield 40, 3) := by decide +kernel
theorem dX6_reads_39 : decode cX6_reads 39 = .ok (.iconst 4, 1) := by decide +kernel
theorem dX6_reads_40 : decode cX6_reads 40 = .ok (.aload_n 0, 1) := by decide +kernel
theorem dX6_reads_41 : decode cX6_reads 41 = .ok (.getfield 215, 3) := by decide +kernel
theorem dX6_reads_44 : decode cX6_reads 44 = .ok (.imul, 1) := by decide +kernel
theorem dX6_reads_45 : decode cX6_reads 45 = .ok (.iload_n 1, 1) := by decide +kernel
theorem dX6_reads_46 : decode cX6_reads 46 = .ok (.iastore, 1) := by decide +kernel
theorem dX6_reads_47 : decode cX6_reads 47 = .ok (.iconst 0, 1) := by decide +kernel
theorem dX6_reads_48 : decode cX6_reads 48 = .ok (.istore_n 3, 1) := by decide +kernel
theorem dX6_reads_49 : decode cX6_reads 49 = .ok (.iload_n 3, 1) := by decide +kernel
theorem dX6_reads_50 : decode cX6_reads 50 = .ok (.iload_n 2, 1) := by decide +kernel
theorem dX6_reads_51 : decode cX6_reads 51 = .ok (.if_icmp .ge 40, 3) := by decide +kernel
theorem dX6_reads_54 : decode cX6_reads 54 = .ok (.aload_n 0, 1) := by decide +kernel
theorem dX6_reads_55 : decode cX6_reads 55 = .ok (.invokevirtual 218, 3) := by decide +kernel
theorem dX6_reads_58 : decode cX6_reads 58 = .ok (.istore 4, 2) := by decide +kernel
theorem dX6_reads_60 : decode cX6_reads 60 = .ok (.iload 4, 2) := by decide +kernel
theorem dX6_reads_62 : decode cX6_reads 62 = .ok (.iconst (-1), 1) := by decide +kernel
theorem dX6_reads_63 : decode cX6_reads 63 = .ok (.if_icmp .ne 5, 3) := by decide +kernel
theorem dX6_reads_66 : decode cX6_reads 66 = .ok (.iconst 0, 1) := by decide +kernel
theorem dX6_reads_67 : decode cX6_reads 67 = .ok (.ireturn, 1) := by decide +kernel
theorem dX6_reads_68 : decode cX6_reads 68 = .ok (.aload_n 0, 1) := by decide +kernel
theorem dX6_reads_69 : decode cX6_reads 69 = .ok (.getfield 40, 3) := by decide +kernel
theorem dX6_reads_72 : decode cX6_reads 72 = .ok (.iconst 4, 1) := by decide +kernel
theorem dX6_reads_73 : decode cX6_reads 73 = .ok (.aload_n 0, 1) := by decide +kernel
theorem dX6_reads_74 : decode cX6_reads 74 = .ok (.getfield 215, 3) := by decide +kernel
theorem dX6_reads_77 : decode cX6_reads 77 = .ok (.imul, 1) := by decide +kernel
theorem dX6_reads_78 : decode cX6_reads 78 = .ok (.iconst 1, 1) := by decide +kernel
theorem dX6_reads_79 : decode cX6_reads 79 = .ok (.iadd, 1) := by decide +kernel
theorem dX6_reads_80 : decode cX6_reads 80 = .ok (.iload_n 3, 1) := by decide +kernel
theorem dX6_reads_81 : decode cX6_reads 81 = .ok (.iadd, 1) := by decide +kernel
theorem dX6_reads_82 : decode cX6_reads 82 = .ok (.iload 4, 2) := by decide +kernel
theorem dX6_reads_84 : decode cX6_reads 84 = .ok (.iastore, 1) := by decide +kernel
theorem dX6_reads_85 : decode cX6_reads 85 = .ok (.iinc 3 1, 3) := by decide +kernel
theorem dX6_reads_88 : decode cX6_reads 88 = .ok (.goto (-39), 3) := by decide +kernel
theorem dX6_reads_91 : decode cX6_reads 91 = .ok (.aload_n 0, 1) := by decide +kernel
theorem dX6_reads_92 : decode cX6_reads 92 = .ok (.aload_n 0, 1) := by decide +kernel
theorem dX6_reads_93 : decode cX6_reads 93 = .ok (.getfield 203, 3) := by decide +kernel
theorem dX6_reads_96 : decode cX6_reads 96 = .ok (.invokevirtual 200, 3) := by decide +kernel
theorem dX6_reads_99 : decode cX6_reads 99 = .ok (.bipush 59, 2) := by decide +kernel
theorem dX6_reads_101 : decode cX6_reads 101 = .ok (.if_icmp .eq 5, 3) := by decide +kernel
theorem dX6_reads_104 : decode cX6_reads 104 = .ok (.iconst 0, 1) := by decide +kernel
theorem dX6_reads_105 : decode cX6_reads 105 = .ok (.ireturn, 1) := by decide +kernel
theorem dX6_reads_106 : decode cX6_reads 106 = .ok (.aload_n 0, 1) := by decide +kernel
theorem dX6_reads_107 : decode cX6_reads 107 = .ok (.dup, 1) := by decide +kernel
theorem dX6_reads_108 : decode cX6_reads 108 = .ok (.getfield 203, 3) := by decide +kernel
theorem dX6_reads_111 : decode cX6_reads 111 = .ok (.iconst 1, 1) := by decide +kernel
theorem dX6_reads_112 : decode cX6_reads 112 = .ok (.iadd, 1) := by decide +kernel
theorem dX6_reads_113 : decode cX6_reads 113 = .ok (.putfield 203, 3) := by decide +kernel
theorem dX6_reads_116 : decode cX6_reads 116 = .ok (.aload_n 0, 1) := by decide +kernel
theorem dX6_reads_117 : decode cX6_reads 117 = .ok (.invokevirtual 209, 3) := by decide +kernel
theorem dX6_reads_120 : decode cX6_reads 120 = .ok (.aload_n 0, 1) := by decide +kernel
theorem dX6_reads_121 : decode cX6_reads 121 = .ok (.dup, 1) := by decide +kernel
theorem dX6_reads_122 : decode cX6_reads 122 = .ok (.getfield 215, 3) := by decide +kernel
theorem dX6_reads_125 : decode cX6_reads 125 = .ok (.iconst 1, 1) := by decide +kernel
theorem dX6_reads_126 : decode cX6_reads 126 = .ok (.iadd, 1) := by decide +kernel
theorem dX6_reads_127 : decode cX6_reads 127 = .ok (.putfield 215, 3) := by decide +kernel
theorem dX6_reads_130 : decode cX6_reads 130 = .ok (.iconst 1, 1) := by decide +kernel
theorem dX6_reads_131 : decode cX6_reads 131 = .ok (.ireturn, 1) := by decide +kernel
theorem dX6_acted_0 : decode cX6_acted 0 = .ok (.aload_n 0, 1) := by decide +kernel
theorem dX6_acted_1 : decode cX6_acted 1 = .ok (.getfield 40, 3) := by decide +kernel
theorem dX6_acted_4 : decode cX6_acted 4 = .ok (.iconst 4, 1) := by decide +kernel
theorem dX6_acted_5 : decode cX6_acted 5 = .ok (.iload_n 1, 1) := by decide +kernel
theorem dX6_acted_6 : decode cX6_acted 6 = .ok (.imul, 1) := by decide +kernel
theorem dX6_acted_7 : decode cX6_acted 7 = .ok (.iaload, 1) := by decide +kernel
theorem dX6_acted_8 : decode cX6_acted 8 = .ok (.istore_n 2, 1) := by decide +kernel
theorem dX6_acted_9 : decode cX6_acted 9 = .ok (.aload_n 0, 1) := by decide +kernel
theorem dX6_acted_10 : decode cX6_acted 10 = .ok (.getfield 40, 3) := by decide +kernel
theorem dX6_acted_13 : decode cX6_acted 13 = .ok (.iconst 4, 1) := by decide +kernel
theorem dX6_acted_14 : decode cX6_acted 14 = .ok (.iload_n 1, 1) := by decide +kernel
theorem dX6_acted_15 : decode cX6_acted 15 = .ok (.imul, 1) := by decide +kernel
theorem dX6_acted_16 : decode cX6_acted 16 = .ok (.iconst 1, 1) := by decide +kernel
theorem dX6_acted_17 : decode cX6_acted 17 = .ok (.iadd, 1) := by decide +kernel
theorem dX6_acted_18 : decode cX6_acted 18 = .ok (.iaload, 1) := by decide +kernel
theorem dX6_acted_19 : decode cX6_acted 19 = .ok (.istore_n 3, 1) := by decide +kernel
theorem dX6_acted_20 : decode cX6_acted 20 = .ok (.aload_n 0, 1) := by decide +kernel
theorem dX6_acted_21 : decode cX6_acted 21 = .ok (.getfield 40, 3) := by decide +kernel
theorem dX6_acted_24 : decode cX6_acted 24 = .ok (.iconst 4, 1) := by decide +kernel
theorem dX6_acted_25 : decode cX6_acted 25 = .ok (.iload_n 1, 1) := by decide +kernel
theorem dX6_acted_26 : decode cX6_acted 26 = .ok (.imul, 1) := by decide +kernel
theorem dX6_acted_27 : decode cX6_acted 27 = .ok (.iconst 2, 1) := by decide +kernel
theorem dX6_acted_28 : decode cX6_acted 28 = .ok (.iadd, 1) := by decide +kernel
theorem dX6_acted_29 : decode cX6_acted 29 = .ok (.iaload, 1) := by decide +kernel
theorem dX6_acted_30 : decode cX6_acted 30 = .ok (.istore 4, 2) := by decide +kernel
theorem dX6_acted_32 : decode cX6_acted 32 = .ok (.iload_n 2, 1) := by decide +kernel
theorem dX6_acted_33 : decode cX6_acted 33 = .ok (.bipush 108, 2) := by decide +kernel
theorem dX6_acted_35 : decode cX6_acted 35 = .ok (.if_icmp .ne 11, 3) := by decide +kernel
theorem dX6_acted_38 : decode cX6_acted 38 = .ok (.aload_n 0, 1) := by decide +kernel
theorem dX6_acted_39 : decode cX6_acted 39 = .ok (.iload_n 3, 1) := by decide +kernel
theorem dX6_acted_40 : decode cX6_acted 40 = .ok (.invokevirtual 95, 3) := by decide +kernel
theorem dX6_acted_43 : decode cX6_acted 43 = .ok (.goto 68, 3) := by decide +kernel
theorem dX6_acted_46 : decode cX6_acted 46 = .ok (.iload_n 2, 1) := by decide +kernel
theorem dX6_acted_47 : decode cX6_acted 47 = .ok (.bipush 103, 2) := by decide +kernel
theorem dX6_acted_49 : decode cX6_acted 49 = .ok (.if_icmp .ne 23, 3) := by decide +kernel
theorem dX6_acted_52 : decode cX6_acted 52 = .ok (.aload_n 0, 1) := by decide +kernel
theorem dX6_acted_53 : decode cX6_acted 53 = .ok (.iload_n 3, 1) := by decide +kernel
theorem dX6_acted_54 : decode cX6_acted 54 = .ok (.iload 4, 2) := by decide +kernel
theorem dX6_acted_56 : decode cX6_acted 56 = .ok (.aload_n 0, 1) := by decide +kernel
theorem dX6_acted_57 : decode cX6_acted 57 = .ok (.getfield 40, 3) := by decide +kernel
theorem dX6_acted_60 : decode cX6_acted 60 = .ok (.iconst 4, 1) := by decide +kernel
theorem dX6_acted_61 : decode cX6_acted 61 = .ok (.iload_n 1, 1) := by decide +kernel
theorem dX6_acted_62 : decode cX6_acted 62 = .ok (.imul, 1) := by decide +kernel
theorem dX6_acted_63 : decode cX6_acted 63 = .ok (.iconst 3, 1) := by decide +kernel
theorem dX6_acted_64 : decode cX6_acted 64 = .ok (.iadd, 1) := by decide +kernel
theorem dX6_acted_65 : decode cX6_acted 65 = .ok (.iaload, 1) := by decide +kernel
theorem dX6_acted_66 : decode cX6_acted 66 = .ok (.invokevirtual 101, 3) := by decide +kernel
theorem dX6_acted_69 : decode cX6_acted 69 = .ok (.goto 42, 3) := by decide +kernel
theorem dX6_acted_72 : decode cX6_acted 72 = .ok (.iload_n 2, 1) := by decide +kernel
theorem dX6_acted_73 : decode cX6_acted 73 = .ok (.bipush 107, 2) := by decide +kernel
theorem dX6_acted_75 : decode cX6_acted 75 = .ok (.if_icmp .ne 13, 3) := by decide +kernel
theorem dX6_acted_78 : decode cX6_acted 78 = .ok (.aload_n 0, 1) := by decide +kernel
theorem dX6_acted_79 : decode cX6_acted 79 = .ok (.iload_n 3, 1) := by decide +kernel
theorem dX6_acted_80 : decode cX6_acted 80 = .ok (.iload 4, 2) := by decide +kernel
theorem dX6_acted_82 : decode cX6_acted 82 = .ok (.invokevirtual 108, 3) := by decide +kernel
theorem dX6_acted_85 : decode cX6_acted 85 = .ok (.goto 26, 3) := by decide +kernel
theorem dX6_acted_88 : decode cX6_acted 88 = .ok (.iload_n 2, 1) := by decide +kernel
theorem dX6_acted_89 : decode cX6_acted 89 = .ok (.bipush 115, 2) := by decide +kernel
theorem dX6_acted_91 : decode cX6_acted 91 = .ok (.if_icmp .ne 13, 3) := by decide +kernel
theorem dX6_acted_94 : decode cX6_acted 94 = .ok (.aload_n 0, 1) := by decide +kernel
theorem dX6_acted_95 : decode cX6_acted 95 = .ok (.iload_n 3, 1) := by decide +kernel
theorem dX6_acted_96 : decode cX6_acted 96 = .ok (.iload 4, 2) := by decide +kernel
theorem dX6_acted_98 : decode cX6_acted 98 = .ok (.invokevirtual 117, 3) := by decide +kernel
theorem dX6_acted_101 : decode cX6_acted 101 = .ok (.goto 10, 3) := by decide +kernel
theorem dX6_acted_104 : decode cX6_acted 104 = .ok (.aload_n 0, 1) := by decide +kernel
theorem dX6_acted_105 : decode cX6_acted 105 = .ok (.iload_n 3, 1) := by decide +kernel
theorem dX6_acted_106 : decode cX6_acted 106 = .ok (.iload 4, 2) := by decide +kernel
theorem dX6_acted_108 : decode cX6_acted 108 = .ok (.invokevirtual 111, 3) := by decide +kernel
theorem dX6_acted_111 : decode cX6_acted 111 = .ok (.ireturn, 1) := by decide +kernel
theorem dX6_does_0 : decode cX6_does 0 = .ok (.aload_n 0, 1) := by decide +kernel
theorem dX6_does_1 : decode cX6_does 1 = .ok (.iconst 0, 1) := by decide +kernel
theorem dX6_does_2 : decode cX6_does 2 = .ok (.putfield 203, 3) := by decide +kernel
theorem dX6_does_5 : decode cX6_does 5 = .ok (.aload_n 0, 1) := by decide +kernel
theorem dX6_does_6 : decode cX6_does 6 = .ok (.iconst 0, 1) := by decide +kernel
theorem dX6_does_7 : decode cX6_does 7 = .ok (.putfield 215, 3) := by decide +kernel
theorem dX6_does_10 : decode cX6_does 10 = .ok (.aload_n 0, 1) := by decide +kernel
theorem dX6_does_11 : decode cX6_does 11 = .ok (.invokevirtual 209, 3) := by decide +kernel
theorem dX6_does_14 : decode cX6_does 14 = .ok (.iconst 1, 1) := by decide +kernel
theorem dX6_does_15 : decode cX6_does 15 = .ok (.istore_n 1, 1) := by decide +kernel
theorem dX6_does_16 : decode cX6_does 16 = .ok (.iconst 0, 1) := by decide +kernel
theorem dX6_does_17 : decode cX6_does 17 = .ok (.istore_n 2, 1) := by decide +kernel
theorem dX6_does_18 : decode cX6_does 18 = .ok (.iload_n 1, 1) := by decide +kernel
theorem dX6_does_19 : decode cX6_does 19 = .ok (.ifCond .eq 28, 3) := by decide +kernel
theorem dX6_does_22 : decode cX6_does 22 = .ok (.iload_n 2, 1) := by decide +kernel
theorem dX6_does_23 : decode cX6_does 23 = .ok (.ifCond .eq 14, 3) := by decide +kernel
theorem dX6_does_26 : decode cX6_does 26 = .ok (.aload_n 0, 1) := by decide +kernel
theorem dX6_does_27 : decode cX6_does 27 = .ok (.getfield 203, 3) := by decide +kernel
theorem dX6_does_30 : decode cX6_does 30 = .ok (.aload_n 0, 1) := by decide +kernel
theorem dX6_does_31 : decode cX6_does 31 = .ok (.getfield 197, 3) := by decide +kernel
theorem dX6_does_34 : decode cX6_does 34 = .ok (.if_icmp .ge 13, 3) := by decide +kernel
theorem dX6_does_37 : decode cX6_does 37 = .ok (.iconst 1, 1) := by decide +kernel
theorem dX6_does_38 : decode cX6_does 38 = .ok (.istore_n 2, 1) := by decide +kernel
theorem dX6_does_39 : decode cX6_does 39 = .ok (.aload_n 0, 1) := by decide +kernel
theorem dX6_does_40 : decode cX6_does 40 = .ok (.invokevirtual 221, 3) := by decide +kernel
theorem dX6_does_43 : decode cX6_does 43 = .ok (.istore_n 1, 1) := by decide +kernel
theorem dX6_does_44 : decode cX6_does 44 = .ok (.goto (-26), 3) := by decide +kernel
theorem dX6_does_47 : decode cX6_does 47 = .ok (.iload_n 1, 1) := by decide +kernel
theorem dX6_does_48 : decode cX6_does 48 = .ok (.ifCond .ne 11, 3) := by decide +kernel
theorem dX6_does_51 : decode cX6_does 51 = .ok (.bipush (-10), 2) := by decide +kernel
theorem dX6_does_53 : decode cX6_does 53 = .ok (.aload_n 0, 1) := by decide +kernel
theorem dX6_does_54 : decode cX6_does 54 = .ok (.getfield 203, 3) := by decide +kernel
theorem dX6_does_57 : decode cX6_does 57 = .ok (.isub, 1) := by decide +kernel
theorem dX6_does_58 : decode cX6_does 58 = .ok (.ireturn, 1) := by decide +kernel
theorem dX6_does_59 : decode cX6_does 59 = .ok (.aload_n 0, 1) := by decide +kernel
theorem dX6_does_60 : decode cX6_does 60 = .ok (.iconst 5, 1) := by decide +kernel
theorem dX6_does_61 : decode cX6_does 61 = .ok (.invokevirtual 92, 3) := by decide +kernel
theorem dX6_does_64 : decode cX6_does 64 = .ok (.iconst 0, 1) := by decide +kernel
theorem dX6_does_65 : decode cX6_does 65 = .ok (.istore_n 3, 1) := by decide +kernel
theorem dX6_does_66 : decode cX6_does 66 = .ok (.iload_n 3, 1) := by decide +kernel
theorem dX6_does_67 : decode cX6_does 67 = .ok (.aload_n 0, 1) := by decide +kernel
theorem dX6_does_68 : decode cX6_does 68 = .ok (.getfield 215, 3) := by decide +kernel
theorem dX6_does_71 : decode cX6_does 71 = .ok (.if_icmp .ge 28, 3) := by decide +kernel
theorem dX6_does_74 : decode cX6_does 74 = .ok (.aload_n 0, 1) := by decide +kernel
theorem dX6_does_75 : decode cX6_does 75 = .ok (.iload_n 3, 1) := by decide +kernel
theorem dX6_does_76 : decode cX6_does 76 = .ok (.invokevirtual 224, 3) := by decide +kernel
theorem dX6_does_79 : decode cX6_does 79 = .ok (.ifCond .ge 14, 3) := by decide +kernel
theorem dX6_does_82 : decode cX6_does 82 = .ok (.aload_n 0, 1) := by decide +kernel
theorem dX6_does_83 : decode cX6_does 83 = .ok (.iconst 5, 1) := by decide +kernel
theorem dX6_does_84 : decode cX6_does 84 = .ok (.invokevirtual 57, 3) := by decide +kernel
theorem dX6_does_87 : decode cX6_does 87 = .ok (.sipush (-1000), 3) := by decide +kernel
theorem dX6_does_90 : decode cX6_does 90 = .ok (.iload_n 3, 1) := by decide +kernel
theorem dX6_does_91 : decode cX6_does 91 = .ok (.isub, 1) := by decide +kernel
theorem dX6_does_92 : decode cX6_does 92 = .ok (.ireturn, 1) := by decide +kernel
theorem dX6_does_93 : decode cX6_does 93 = .ok (.iinc 3 1, 3) := by decide +kernel
theorem dX6_does_96 : decode cX6_does 96 = .ok (.goto (-30), 3) := by decide +kernel
theorem dX6_does_99 : decode cX6_does 99 = .ok (.aload_n 0, 1) := by decide +kernel
theorem dX6_does_100 : decode cX6_does 100 = .ok (.invokevirtual 89, 3) := by decide +kernel
theorem dX6_does_103 : decode cX6_does 103 = .ok (.aload_n 0, 1) := by decide +kernel
theorem dX6_does_104 : decode cX6_does 104 = .ok (.getfield 215, 3) := by decide +kernel
theorem dX6_does_107 : decode cX6_does 107 = .ok (.ireturn, 1) := by decide +kernel
theorem dX6_toldOf_0 : decode cX6_toldOf 0 = .ok (.iload_n 1, 1) := by decide +kernel
theorem dX6_toldOf_1 : decode cX6_toldOf 1 = .ok (.iconst 3, 1) := by decide +kernel
theorem dX6_toldOf_2 : decode cX6_toldOf 2 = .ok (.if_icmp .ge 12, 3) := by decide +kernel
theorem dX6_toldOf_5 : decode cX6_toldOf 5 = .ok (.aload_n 0, 1) := by decide +kernel
theorem dX6_toldOf_6 : decode cX6_toldOf 6 = .ok (.getfield 7, 3) := by decide +kernel
theorem dX6_toldOf_9 : decode cX6_toldOf 9 = .ok (.iload_n 1, 1) := by decide +kernel
theorem dX6_toldOf_10 : decode cX6_toldOf 10 = .ok (.iaload, 1) := by decide +kernel
theorem dX6_toldOf_11 : decode cX6_toldOf 11 = .ok (.goto 19, 3) := by decide +kernel
theorem dX6_toldOf_14 : decode cX6_toldOf 14 = .ok (.iload_n 1, 1) := by decide +kernel
theorem dX6_toldOf_15 : decode cX6_toldOf 15 = .ok (.iconst 3, 1) := by decide +kernel
theorem dX6_toldOf_16 : decode cX6_toldOf 16 = .ok (.if_icmp .ne 10, 3) := by decide +kernel
theorem dX6_toldOf_19 : decode cX6_toldOf 19 = .ok (.aload_n 0, 1) := by decide +kernel
theorem dX6_toldOf_20 : decode cX6_toldOf 20 = .ok (.getfield 197, 3) := by decide +kernel
theorem dX6_toldOf_23 : decode cX6_toldOf 23 = .ok (.goto 7, 3) := by decide +kernel
theorem dX6_toldOf_26 : decode cX6_toldOf 26 = .ok (.aload_n 0, 1) := by decide +kernel
theorem dX6_toldOf_27 : decode cX6_toldOf 27 = .ok (.getfield 53, 3) := by decide +kernel
theorem dX6_toldOf_30 : decode cX6_toldOf 30 = .ok (.ireturn, 1) := by decide +kernel
theorem dX6_told_0 : decode cX6_told 0 = .ok (.iload_n 1, 1) := by decide +kernel
theorem dX6_told_1 : decode cX6_told 1 = .ok (.iconst 0, 1) := by decide +kernel
theorem dX6_told_2 : decode cX6_told 2 = .ok (.iconst 4, 1) := by decide +kernel
theorem dX6_told_3 : decode cX6_told 3 = .ok (.invokestatic 61, 3) := by decide +kernel
theorem dX6_told_6 : decode cX6_told 6 = .ok (.ifCond .eq 11, 3) := by decide +kernel
theorem dX6_told_9 : decode cX6_told 9 = .ok (.aload_n 0, 1) := by decide +kernel
theorem dX6_told_10 : decode cX6_told 10 = .ok (.iload_n 1, 1) := by decide +kernel
theorem dX6_told_11 : decode cX6_told 11 = .ok (.invokevirtual 227, 3) := by decide +kernel
theorem dX6_told_14 : decode cX6_told 14 = .ok (.goto 7, 3) := by decide +kernel
theorem dX6_told_17 : decode cX6_told 17 = .ok (.aload_n 0, 1) := by decide +kernel
theorem dX6_told_18 : decode cX6_told 18 = .ok (.invokevirtual 43, 3) := by decide +kernel
theorem dX6_told_21 : decode cX6_told 21 = .ok (.ireturn, 1) := by decide +kernel
theorem dX6_digest_0 : decode cX6_digest 0 = .ok (.ldc2_w 230, 3) := by decide +kernel
theorem dX6_digest_3 : decode cX6_digest 3 = .ok (.lstore_n 1, 1) := by decide +kernel
theorem dX6_digest_4 : decode cX6_digest 4 = .ok (.iconst 0, 1) := by decide +kernel
theorem dX6_digest_5 : decode cX6_digest 5 = .ok (.istore_n 3, 1) := by decide +kernel
theorem dX6_digest_6 : decode cX6_digest 6 = .ok (.iload_n 3, 1) := by decide +kernel
theorem dX6_digest_7 : decode cX6_digest 7 = .ok (.iconst 5, 1) := by decide +kernel
theorem dX6_digest_8 : decode cX6_digest 8 = .ok (.if_icmp .ge 22, 3) := by decide +kernel
theorem dX6_digest_11 : decode cX6_digest 11 = .ok (.ldc2_w 232, 3) := by decide +kernel
theorem dX6_digest_14 : decode cX6_digest 14 = .ok (.lload_n 1, 1) := by decide +kernel
theorem dX6_digest_15 : decode cX6_digest 15 = .ok (.lmul, 1) := by decide +kernel
theorem dX6_digest_16 : decode cX6_digest 16 = .ok (.aload_n 0, 1) := by decide +kernel
theorem dX6_digest_17 : decode cX6_digest 17 = .ok (.iload_n 3, 1) := by decide +kernel
theorem dX6_digest_18 : decode cX6_digest 18 = .ok (.invokevirtual 227, 3) := by decide +kernel
theorem dX6_digest_21 : decode cX6_digest 21 = .ok (.i2l, 1) := by decide +kernel
theorem dX6_digest_22 : decode cX6_digest 22 = .ok (.ladd, 1) := by decide +kernel
theorem dX6_digest_23 : decode cX6_digest 23 = .ok (.lstore_n 1, 1) := by decide +kernel
theorem dX6_digest_24 : decode cX6_digest 24 = .ok (.iinc 3 1, 3) := by decide +kernel
theorem dX6_digest_27 : decode cX6_digest 27 = .ok (.goto (-21), 3) := by decide +kernel
theorem dX6_digest_30 : decode cX6_digest 30 = .ok (.iconst 0, 1) := by decide +kernel
theorem dX6_digest_31 : decode cX6_digest 31 = .ok (.istore_n 3, 1) := by decide +kernel
theorem dX6_digest_32 : decode cX6_digest 32 = .ok (.iload_n 3, 1) := by decide +kernel
theorem dX6_digest_33 : decode cX6_digest 33 = .ok (.bipush 7, 2) := by decide +kernel
theorem dX6_digest_35 : decode cX6_digest 35 = .ok (.if_icmp .ge 22, 3) := by decide +kernel
theorem dX6_digest_38 : decode cX6_digest 38 = .ok (.ldc2_w 232, 3) := by decide +kernel
theorem dX6_digest_41 : decode cX6_digest 41 = .ok (.lload_n 1, 1) := by decide +kernel
theorem dX6_digest_42 : decode cX6_digest 42 = .ok (.lmul, 1) := by decide +kernel
theorem dX6_digest_43 : decode cX6_digest 43 = .ok (.aload_n 0, 1) := by decide +kernel
theorem dX6_digest_44 : decode cX6_digest 44 = .ok (.iload_n 3, 1) := by decide +kernel
theorem dX6_digest_45 : decode cX6_digest 45 = .ok (.invokevirtual 188, 3) := by decide +kernel
theorem dX6_digest_48 : decode cX6_digest 48 = .ok (.i2l, 1) := by decide +kernel
theorem dX6_digest_49 : decode cX6_digest 49 = .ok (.ladd, 1) := by decide +kernel
theorem dX6_digest_50 : decode cX6_digest 50 = .ok (.lstore_n 1, 1) := by decide +kernel
theorem dX6_digest_51 : decode cX6_digest 51 = .ok (.iinc 3 1, 3) := by decide +kernel
theorem dX6_digest_54 : decode cX6_digest 54 = .ok (.goto (-22), 3) := by decide +kernel
theorem dX6_digest_57 : decode cX6_digest 57 = .ok (.iconst 0, 1) := by decide +kernel
theorem dX6_digest_58 : decode cX6_digest 58 = .ok (.istore_n 3, 1) := by decide +kernel
theorem dX6_digest_59 : decode cX6_digest 59 = .ok (.iload_n 3, 1) := by decide +kernel
theorem dX6_digest_60 : decode cX6_digest 60 = .ok (.bipush 7, 2) := by decide +kernel
theorem dX6_digest_62 : decode cX6_digest 62 = .ok (.if_icmp .ge 25, 3) := by decide +kernel
theorem dX6_digest_65 : decode cX6_digest 65 = .ok (.ldc2_w 232, 3) := by decide +kernel
theorem dX6_digest_68 : decode cX6_digest 68 = .ok (.lload_n 1, 1) := by decide +kernel
theorem dX6_digest_69 : decode cX6_digest 69 = .ok (.lmul, 1) := by decide +kernel
theorem dX6_digest_70 : decode cX6_digest 70 = .ok (.aload_n 0, 1) := by decide +kernel
theorem dX6_digest_71 : decode cX6_digest 71 = .ok (.getfield 13, 3) := by decide +kernel
theorem dX6_digest_74 : decode cX6_digest 74 = .ok (.iconst 2, 1) := by decide +kernel
theorem dX6_digest_75 : decode cX6_digest 75 = .ok (.iload_n 3, 1) := by decide +kernel
theorem dX6_digest_76 : decode cX6_digest 76 = .ok (.iadd, 1) := by decide +kernel
theorem dX6_digest_77 : decode cX6_digest 77 = .ok (.iaload, 1) := by decide +kernel
theorem dX6_digest_78 : decode cX6_digest 78 = .ok (.i2l, 1) := by decide +kernel
theorem dX6_digest_79 : decode cX6_digest 79 = .ok (.ladd, 1) := by decide +kernel
theorem dX6_digest_80 : decode cX6_digest 80 = .ok (.lstore_n 1, 1) := by decide +kernel
theorem dX6_digest_81 : decode cX6_digest 81 = .ok (.iinc 3 1, 3) := by decide +kernel
theorem dX6_digest_84 : decode cX6_digest 84 = .ok (.goto (-25), 3) := by decide +kernel
theorem dX6_digest_87 : decode cX6_digest 87 = .ok (.iconst 0, 1) := by decide +kernel
theorem dX6_digest_88 : decode cX6_digest 88 = .ok (.istore_n 3, 1) := by decide +kernel
theorem dX6_digest_89 : decode cX6_digest 89 = .ok (.iload_n 3, 1) := by decide +kernel
theorem dX6_digest_90 : decode cX6_digest 90 = .ok (.aload_n 0, 1) := by decide +kernel
theorem dX6_digest_91 : decode cX6_digest 91 = .ok (.getfield 13, 3) := by decide +kernel
theorem dX6_digest_94 : decode cX6_digest 94 = .ok (.iconst 0, 1) := by decide +kernel
theorem dX6_digest_95 : decode cX6_digest 95 = .ok (.iaload, 1) := by decide +kernel
theorem dX6_digest_96 : decode cX6_digest 96 = .ok (.if_icmp .ge 104, 3) := by decide +kernel
theorem dX6_digest_99 : decode cX6_digest 99 = .ok (.iconst 0, 1) := by decide +kernel
theorem dX6_digest_100 : decode cX6_digest 100 = .ok (.istore 4, 2) := by decide +kernel
theorem dX6_digest_102 : decode cX6_digest 102 = .ok (.iload 4, 2) := by decide +kernel
theorem dX6_digest_104 : decode cX6_digest 104 = .ok (.bipush 7, 2) := by decide +kernel
theorem dX6_digest_106 : decode cX6_digest 106 = .ok (.if_icmp .ge 24, 3) := by decide +kernel
theorem dX6_digest_109 : decode cX6_digest 109 = .ok (.ldc2_w 232, 3) := by decide +kernel
theorem dX6_digest_112 : decode cX6_digest 112 = .ok (.lload_n 1, 1) := by decide +kernel
theorem dX6_digest_113 : decode cX6_digest 113 = .ok (.lmul, 1) := by decide +kernel
theorem dX6_digest_114 : decode cX6_digest 114 = .ok (.aload_n 0, 1) := by decide +kernel
theorem dX6_digest_115 : decode cX6_digest 115 = .ok (.iload_n 3, 1) := by decide +kernel
theorem dX6_digest_116 : decode cX6_digest 116 = .ok (.iload 4, 2) := by decide +kernel
theorem dX6_digest_118 : decode cX6_digest 118 = .ok (.invokevirtual 144, 3) := by decide +kernel
theorem dX6_digest_121 : decode cX6_digest 121 = .ok (.i2l, 1) := by decide +kernel
theorem dX6_digest_122 : decode cX6_digest 122 = .ok (.ladd, 1) := by decide +kernel
theorem dX6_digest_123 : decode cX6_digest 123 = .ok (.lstore_n 1, 1) := by decide +kernel
theorem dX6_digest_124 : decode cX6_digest 124 = .ok (.iinc 4 1, 3) := by decide +kernel
theorem dX6_digest_127 : decode cX6_digest 127 = .ok (.goto (-25), 3) := by decide +kernel
theorem dX6_digest_130 : decode cX6_digest 130 = .ok (.iconst 0, 1) := by decide +kernel
theorem dX6_digest_131 : decode cX6_digest 131 = .ok (.istore 4, 2) := by decide +kernel
theorem dX6_digest_133 : decode cX6_digest 133 = .ok (.iload 4, 2) := by decide +kernel
theorem dX6_digest_135 : decode cX6_digest 135 = .ok (.aload_n 0, 1) := by decide +kernel
theorem dX6_digest_136 : decode cX6_digest 136 = .ok (.iload_n 3, 1) := by decide +kernel
theorem dX6_digest_137 : decode cX6_digest 137 = .ok (.invokevirtual 69, 3) := by decide +kernel
theorem dX6_digest_140 : decode cX6_digest 140 = .ok (.if_icmp .ge 41, 3) := by decide +kernel
theorem dX6_digest_143 : decode cX6_digest 143 = .ok (.iconst 0, 1) := by decide +kernel
theorem dX6_digest_144 : decode cX6_digest 144 = .ok (.istore 5, 2) := by decide +kernel
theorem dX6_digest_146 : decode cX6_digest 146 = .ok (.iload 5, 2) := by decide +kernel
theorem dX6_digest_148 : decode cX6_digest 148 = .ok (.iconst 3, 1) := by decide +kernel
theorem dX6_digest_149 : decode cX6_digest 149 = .ok (.if_icmp .ge 26, 3) := by decide +kernel
theorem dX6_digest_152 : decode cX6_digest 152 = .ok (.ldc2_w 232, 3) := by decide +kernel
theorem dX6_digest_155 : decode cX6_digest 155 = .ok (.lload_n 1, 1) := by decide +kernel
theorem dX6_digest_156 : decode cX6_digest 156 = .ok (.lmul, 1) := by decide +kernel
theorem dX6_digest_157 : decode cX6_digest 157 = .ok (.aload_n 0, 1) := by decide +kernel
theorem dX6_digest_158 : decode cX6_digest 158 = .ok (.iload_n 3, 1) := by decide +kernel
theorem dX6_digest_159 : decode cX6_digest 159 = .ok (.iload 4, 2) := by decide +kernel
theorem dX6_digest_161 : decode cX6_digest 161 = .ok (.iload 5, 2) := by decide +kernel
theorem dX6_digest_163 : decode cX6_digest 163 = .ok (.invokevirtual 151, 3) := by decide +kernel
theorem dX6_digest_166 : decode cX6_digest 166 = .ok (.i2l, 1) := by decide +kernel
theorem dX6_digest_167 : decode cX6_digest 167 = .ok (.ladd, 1) := by decide +kernel
theorem dX6_digest_168 : decode cX6_digest 168 = .ok (.lstore_n 1, 1) := by decide +kernel
theorem dX6_digest_169 : decode cX6_digest 169 = .ok (.iinc 5 1, 3) := by decide +kernel
theorem dX6_digest_172 : decode cX6_digest 172 = .ok (.goto (-26), 3) := by decide +kernel
theorem dX6_digest_175 : decode cX6_digest 175 = .ok (.iinc 4 1, 3) := by decide +kernel
theorem dX6_digest_178 : decode cX6_digest 178 = .ok (.goto (-45), 3) := by decide +kernel
theorem dX6_digest_181 : decode cX6_digest 181 = .ok (.ldc2_w 232, 3) := by decide +kernel
theorem dX6_digest_184 : decode cX6_digest 184 = .ok (.lload_n 1, 1) := by decide +kernel
theorem dX6_digest_185 : decode cX6_digest 185 = .ok (.lmul, 1) := by decide +kernel
theorem dX6_digest_186 : decode cX6_digest 186 = .ok (.aload_n 0, 1) := by decide +kernel
theorem dX6_digest_187 : decode cX6_digest 187 = .ok (.iload_n 3, 1) := by decide +kernel
theorem dX6_digest_188 : decode cX6_digest 188 = .ok (.invokevirtual 194, 3) := by decide +kernel
theorem dX6_digest_191 : decode cX6_digest 191 = .ok (.i2l, 1) := by decide +kernel
theorem dX6_digest_192 : decode cX6_digest 192 = .ok (.ladd, 1) := by decide +kernel
theorem dX6_digest_193 : decode cX6_digest 193 = .ok (.lstore_n 1, 1) := by decide +kernel
theorem dX6_digest_194 : decode cX6_digest 194 = .ok (.iinc 3 1, 3) := by decide +kernel
theorem dX6_digest_197 : decode cX6_digest 197 = .ok (.goto (-108), 3) := by decide +kernel
theorem dX6_digest_200 : decode cX6_digest 200 = .ok (.iconst 0, 1) := by decide +kernel
theorem dX6_digest_201 : decode cX6_digest 201 = .ok (.istore_n 3, 1) := by decide +kernel
theorem dX6_digest_202 : decode cX6_digest 202 = .ok (.iload_n 3, 1) := by decide +kernel
theorem dX6_digest_203 : decode cX6_digest 203 = .ok (.aload_n 0, 1) := by decide +kernel
theorem dX6_digest_204 : decode cX6_digest 204 = .ok (.getfield 13, 3) := by decide +kernel
theorem dX6_digest_207 : decode cX6_digest 207 = .ok (.iconst 1, 1) := by decide +kernel
theorem dX6_digest_208 : decode cX6_digest 208 = .ok (.iaload, 1) := by decide +kernel
theorem dX6_digest_209 : decode cX6_digest 209 = .ok (.if_icmp .ge 39, 3) := by decide +kernel
theorem dX6_digest_212 : decode cX6_digest 212 = .ok (.iconst 0, 1) := by decide +kernel
theorem dX6_digest_213 : decode cX6_digest 213 = .ok (.istore 4, 2) := by decide +kernel
theorem dX6_digest_215 : decode cX6_digest 215 = .ok (.iload 4, 2) := by decide +kernel
theorem dX6_digest_217 : decode cX6_digest 217 = .ok (.iconst 4, 1) := by decide +kernel
theorem dX6_digest_218 : decode cX6_digest 218 = .ok (.if_icmp .ge 24, 3) := by decide +kernel
theorem dX6_digest_221 : decode cX6_digest 221 = .ok (.ldc2_w 232, 3) := by decide +kernel
theorem dX6_digest_224 : decode cX6_digest 224 = .ok (.lload_n 1, 1) := by decide +kernel
theorem dX6_digest_225 : decode cX6_digest 225 = .ok (.lmul, 1) := by decide +kernel
theorem dX6_digest_226 : decode cX6_digest 226 = .ok (.aload_n 0, 1) := by decide +kernel
theorem dX6_digest_227 : decode cX6_digest 227 = .ok (.iload_n 3, 1) := by decide +kernel
theorem dX6_digest_228 : decode cX6_digest 228 = .ok (.iload 4, 2) := by decide +kernel
theorem dX6_digest_230 : decode cX6_digest 230 = .ok (.invokevirtual 185, 3) := by decide +kernel
theorem dX6_digest_233 : decode cX6_digest 233 = .ok (.i2l, 1) := by decide +kernel
theorem dX6_digest_234 : decode cX6_digest 234 = .ok (.ladd, 1) := by decide +kernel
theorem dX6_digest_235 : decode cX6_digest 235 = .ok (.lstore_n 1, 1) := by decide +kernel
theorem dX6_digest_236 : decode cX6_digest 236 = .ok (.iinc 4 1, 3) := by decide +kernel
theorem dX6_digest_239 : decode cX6_digest 239 = .ok (.goto (-24), 3) := by decide +kernel
theorem dX6_digest_242 : decode cX6_digest 242 = .ok (.iinc 3 1, 3) := by decide +kernel
theorem dX6_digest_245 : decode cX6_digest 245 = .ok (.goto (-43), 3) := by decide +kernel
theorem dX6_digest_248 : decode cX6_digest 248 = .ok (.ldc2_w 232, 3) := by decide +kernel
theorem dX6_digest_251 : decode cX6_digest 251 = .ok (.lload_n 1, 1) := by decide +kernel
theorem dX6_digest_252 : decode cX6_digest 252 = .ok (.lmul, 1) := by decide +kernel
theorem dX6_digest_253 : decode cX6_digest 253 = .ok (.aload_n 0, 1) := by decide +kernel
theorem dX6_digest_254 : decode cX6_digest 254 = .ok (.invokevirtual 234, 3) := by decide +kernel
theorem dX6_digest_257 : decode cX6_digest 257 = .ok (.i2l, 1) := by decide +kernel
theorem dX6_digest_258 : decode cX6_digest 258 = .ok (.ladd, 1) := by decide +kernel
theorem dX6_digest_259 : decode cX6_digest 259 = .ok (.lstore_n 1, 1) := by decide +kernel
theorem dX6_digest_260 : decode cX6_digest 260 = .ok (.ldc2_w 232, 3) := by decide +kernel
theorem dX6_digest_263 : decode cX6_digest 263 = .ok (.lload_n 1, 1) := by decide +kernel
theorem dX6_digest_264 : decode cX6_digest 264 = .ok (.lmul, 1) := by decide +kernel
theorem dX6_digest_265 : decode cX6_digest 265 = .ok (.aload_n 0, 1) := by decide +kernel
theorem dX6_digest_266 : decode cX6_digest 266 = .ok (.invokevirtual 237, 3) := by decide +kernel
theorem dX6_digest_269 : decode cX6_digest 269 = .ok (.i2l, 1) := by decide +kernel
theorem dX6_digest_270 : decode cX6_digest 270 = .ok (.ladd, 1) := by decide +kernel
theorem dX6_digest_271 : decode cX6_digest 271 = .ok (.lstore_n 1, 1) := by decide +kernel
theorem dX6_digest_272 : decode cX6_digest 272 = .ok (.ldc2_w 232, 3) := by decide +kernel
theorem dX6_digest_275 : decode cX6_digest 275 = .ok (.lload_n 1, 1) := by decide +kernel
theorem dX6_digest_276 : decode cX6_digest 276 = .ok (.lmul, 1) := by decide +kernel
theorem dX6_digest_277 : decode cX6_digest 277 = .ok (.aload_n 0, 1) := by decide +kernel
theorem dX6_digest_278 : decode cX6_digest 278 = .ok (.invokevirtual 240, 3) := by decide +kernel
theorem dX6_digest_281 : decode cX6_digest 281 = .ok (.i2l, 1) := by decide +kernel
theorem dX6_digest_282 : decode cX6_digest 282 = .ok (.ladd, 1) := by decide +kernel
theorem dX6_digest_283 : decode cX6_digest 283 = .ok (.lstore_n 1, 1) := by decide +kernel
theorem dX6_digest_284 : decode cX6_digest 284 = .ok (.aload_n 0, 1) := by decide +kernel
theorem dX6_digest_285 : decode cX6_digest 285 = .ok (.invokevirtual 179, 3) := by decide +kernel
theorem dX6_digest_288 : decode cX6_digest 288 = .ok (.istore_n 3, 1) := by decide +kernel
theorem dX6_digest_289 : decode cX6_digest 289 = .ok (.iconst 0, 1) := by decide +kernel
theorem dX6_digest_290 : decode cX6_digest 290 = .ok (.istore 4, 2) := by decide +kernel
theorem dX6_digest_292 : decode cX6_digest 292 = .ok (.iload 4, 2) := by decide +kernel
theorem dX6_digest_294 : decode cX6_digest 294 = .ok (.aload_n 0, 1) := by decide +kernel
theorem dX6_digest_295 : decode cX6_digest 295 = .ok (.getfield 13, 3) := by decide +kernel
theorem dX6_digest_298 : decode cX6_digest 298 = .ok (.iconst 0, 1) := by decide +kernel
theorem dX6_digest_299 : decode cX6_digest 299 = .ok (.iaload, 1) := by decide +kernel
theorem dX6_digest_300 : decode cX6_digest 300 = .ok (.if_icmp .ge 54, 3) := by decide +kernel
theorem dX6_digest_303 : decode cX6_digest 303 = .ok (.iload_n 3, 1) := by decide +kernel
theorem dX6_digest_304 : decode cX6_digest 304 = .ok (.ifCond .eq 50, 3) := by decide +kernel
theorem dX6_digest_307 : decode cX6_digest 307 = .ok (.iconst 0, 1) := by decide +kernel
theorem dX6_digest_308 : decode cX6_digest 308 = .ok (.istore 5, 2) := by decide +kernel
theorem dX6_digest_310 : decode cX6_digest 310 = .ok (.iload 5, 2) := by decide +kernel
theorem dX6_digest_312 : decode cX6_digest 312 = .ok (.aload_n 0, 1) := by decide +kernel
theorem dX6_digest_313 : decode cX6_digest 313 = .ok (.getfield 13, 3) := by decide +kernel
theorem dX6_digest_316 : decode cX6_digest 316 = .ok (.iconst 1, 1) := by decide +kernel
theorem dX6_digest_317 : decode cX6_digest 317 = .ok (.iaload, 1) := by decide +kernel
theorem dX6_digest_318 : decode cX6_digest 318 = .ok (.if_icmp .ge 30, 3) := by decide +kernel
theorem dX6_digest_321 : decode cX6_digest 321 = .ok (.ldc2_w 232, 3) := by decide +kernel
theorem dX6_digest_324 : decode cX6_digest 324 = .ok (.lload_n 1, 1) := by decide +kernel
theorem dX6_digest_325 : decode cX6_digest 325 = .ok (.lmul, 1) := by decide +kernel
theorem dX6_digest_326 : decode cX6_digest 326 = .ok (.aload_n 0, 1) := by decide +kernel
theorem dX6_digest_327 : decode cX6_digest 327 = .ok (.getfield 28, 3) := by decide +kernel
theorem dX6_digest_330 : decode cX6_digest 330 = .ok (.bipush 6, 2) := by decide +kernel
theorem dX6_digest_332 : decode cX6_digest 332 = .ok (.iload 4, 2) := by decide +kernel
theorem dX6_digest_334 : decode cX6_digest 334 = .ok (.imul, 1) := by decide +kernel
theorem dX6_digest_335 : decode cX6_digest 335 = .ok (.iload 5, 2) := by decide +kernel
theorem dX6_digest_337 : decode cX6_digest 337 = .ok (.iadd, 1) := by decide +kernel
theorem dX6_digest_338 : decode cX6_digest 338 = .ok (.iaload, 1) := by decide +kernel
theorem dX6_digest_339 : decode cX6_digest 339 = .ok (.i2l, 1) := by decide +kernel
theorem dX6_digest_340 : decode cX6_digest 340 = .ok (.ladd, 1) := by decide +kernel
theorem dX6_digest_341 : decode cX6_digest 341 = .ok (.lstore_n 1, 1) := by decide +kernel
theorem dX6_digest_342 : decode cX6_digest 342 = .ok (.iinc 5 1, 3) := by decide +kernel
theorem dX6_digest_345 : decode cX6_digest 345 = .ok (.goto (-35), 3) := by decide +kernel
theorem dX6_digest_348 : decode cX6_digest 348 = .ok (.iinc 4 1, 3) := by decide +kernel
theorem dX6_digest_351 : decode cX6_digest 351 = .ok (.goto (-59), 3) := by decide +kernel
theorem dX6_digest_354 : decode cX6_digest 354 = .ok (.lload_n 1, 1) := by decide +kernel
theorem dX6_digest_355 : decode cX6_digest 355 = .ok (.lreturn, 1) := by decide +kernel
