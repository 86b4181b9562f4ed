theorem dX5_init_0 : decode cX5_init 0 = .ok (.aload_n 0, 1) := by decide +kernel
theorem dX5_init_1 : decode cX5_init 1 = .ok (.invokespecial 1, 3) := by decide +kernel
theorem dX5_init_4 : decode cX5_init 4 = .ok (.aload_n 0, 1) := by decide +kernel
theorem dX5_init_5 : decode cX5_init 5 = .ok (.new 7, 3) := by decide +kernel
theorem dX5_init_8 : decode cX5_init 8 = .ok (.dup, 1) := by decide +kernel
theorem dX5_init_9 : decode cX5_init 9 = .ok (.invokespecial 9, 3) := by decide +kernel
theorem dX5_init_12 : decode cX5_init 12 = .ok (.putfield 10, 3) := by decide +kernel
theorem dX5_init_15 : decode cX5_init 15 = .ok (.aload_n 0, 1) := by decide +kernel
theorem dX5_init_16 : decode cX5_init 16 = .ok (.new 7, 3) := by decide +kernel
theorem dX5_init_19 : decode cX5_init 19 = .ok (.dup, 1) := by decide +kernel
theorem dX5_init_20 : decode cX5_init 20 = .ok (.invokespecial 9, 3) := by decide +kernel
theorem dX5_init_23 : decode cX5_init 23 = .ok (.putfield 16, 3) := by decide +kernel
theorem dX5_init_26 : decode cX5_init 26 = .ok (.aload_n 0, 1) := by decide +kernel
theorem dX5_init_27 : decode cX5_init 27 = .ok (.new 19, 3) := by decide +kernel
theorem dX5_init_30 : decode cX5_init 30 = .ok (.dup, 1) := by decide +kernel
theorem dX5_init_31 : decode cX5_init 31 = .ok (.invokespecial 21, 3) := by decide +kernel
theorem dX5_init_34 : decode cX5_init 34 = .ok (.putfield 22, 3) := by decide +kernel
theorem dX5_init_37 : decode cX5_init 37 = .ok (.aload_n 0, 1) := by decide +kernel
theorem dX5_init_38 : decode cX5_init 38 = .ok (.new 26, 3) := by decide +kernel
theorem dX5_init_41 : decode cX5_init 41 = .ok (.dup, 1) := by decide +kernel
theorem dX5_init_42 : decode cX5_init 42 = .ok (.invokespecial 28, 3) := by decide +kernel
theorem dX5_init_45 : decode cX5_init 45 = .ok (.putfield 29, 3) := by decide +kernel
theorem dX5_init_48 : decode cX5_init 48 = .ok (.aload_n 0, 1) := by decide +kernel
theorem dX5_init_49 : decode cX5_init 49 = .ok (.new 33, 3) := by decide +kernel
theorem dX5_init_52 : decode cX5_init 52 = .ok (.dup, 1) := by decide +kernel
theorem dX5_init_53 : decode cX5_init 53 = .ok (.invokespecial 35, 3) := by decide +kernel
theorem dX5_init_56 : decode cX5_init 56 = .ok (.putfield 36, 3) := by decide +kernel
theorem dX5_init_59 : decode cX5_init 59 = .ok (.aload_n 0, 1) := by decide +kernel
theorem dX5_init_60 : decode cX5_init 60 = .ok (.new 33, 3) := by decide +kernel
theorem dX5_init_63 : decode cX5_init 63 = .ok (.dup, 1) := by decide +kernel
theorem dX5_init_64 : decode cX5_init 64 = .ok (.invokespecial 35, 3) := by decide +kernel
theorem dX5_init_67 : decode cX5_init 67 = .ok (.putfield 40, 3) := by decide +kernel
theorem dX5_init_70 : decode cX5_init 70 = .ok (.aload_n 0, 1) := by decide +kernel
theorem dX5_init_71 : decode cX5_init 71 = .ok (.new 43, 3) := by decide +kernel
theorem dX5_init_74 : decode cX5_init 74 = .ok (.dup, 1) := by decide +kernel
theorem dX5_init_75 : decode cX5_init 75 = .ok (.invokespecial 45, 3) := by decide +kernel
theorem dX5_init_78 : decode cX5_init 78 = .ok (.putfield 46, 3) := by decide +kernel
theorem dX5_init_81 : decode cX5_init 81 = .ok (.aload_n 0, 1) := by decide +kernel
theorem dX5_init_82 : decode cX5_init 82 = .ok (.iconst 0, 1) := by decide +kernel
theorem dX5_init_83 : decode cX5_init 83 = .ok (.putfield 50, 3) := by decide +kernel
theorem dX5_init_86 : decode cX5_init 86 = .ok (.aload_n 0, 1) := by decide +kernel
theorem dX5_init_87 : decode cX5_init 87 = .ok (.iconst 0, 1) := by decide +kernel
theorem dX5_init_88 : decode cX5_init 88 = .ok (.putfield 54, 3) := by decide +kernel
theorem dX5_init_91 : decode cX5_init 91 = .ok (.aload_n 0, 1) := by decide +kernel
theorem dX5_init_92 : decode cX5_init 92 = .ok (.iconst 0, 1) := by decide +kernel
theorem dX5_init_93 : decode cX5_init 93 = .ok (.putfield 58, 3) := by decide +kernel
theorem dX5_init_96 : decode cX5_init 96 = .ok (.aload_n 0, 1) := by decide +kernel
theorem dX5_init_97 : decode cX5_init 97 = .ok (.iconst 0, 1) := by decide +kernel
theorem dX5_init_98 : decode cX5_init 98 = .ok (.putfield 61, 3) := by decide +kernel
theorem dX5_init_101 : decode cX5_init 101 = .ok (.return_, 1) := by decide +kernel
theorem dX5_line_0 : decode cX5_line 0 = .ok (.aload_n 0, 1) := by decide +kernel
theorem dX5_line_1 : decode cX5_line 1 = .ok (.aload_n 0, 1) := by decide +kernel
theorem dX5_line_2 : decode cX5_line 2 = .ok (.invokevirtual 64, 3) := by decide +kernel
theorem dX5_line_5 : decode cX5_line 5 = .ok (.iload_n 1, 1) := by decide +kernel
theorem dX5_line_6 : decode cX5_line 6 = .ok (.invokevirtual 68, 3) := by decide +kernel
theorem dX5_line_9 : decode cX5_line 9 = .ok (.invokevirtual 72, 3) := by decide +kernel
theorem dX5_line_12 : decode cX5_line 12 = .ok (.ireturn, 1) := by decide +kernel
theorem dX5_goes_0 : decode cX5_goes 0 = .ok (.aload_n 0, 1) := by decide +kernel
theorem dX5_goes_1 : decode cX5_goes 1 = .ok (.aload_n 0, 1) := by decide +kernel
theorem dX5_goes_2 : decode cX5_goes 2 = .ok (.invokevirtual 64, 3) := by decide +kernel
theorem dX5_goes_5 : decode cX5_goes 5 = .ok (.iload_n 1, 1) := by decide +kernel
theorem dX5_goes_6 : decode cX5_goes 6 = .ok (.iload_n 2, 1) := by decide +kernel
theorem dX5_goes_7 : decode cX5_goes 7 = .ok (.iload_n 3, 1) := by decide +kernel
theorem dX5_goes_8 : decode cX5_goes 8 = .ok (.invokevirtual 75, 3) := by decide +kernel
theorem dX5_goes_11 : decode cX5_goes 11 = .ok (.invokevirtual 72, 3) := by decide +kernel
theorem dX5_goes_14 : decode cX5_goes 14 = .ok (.ireturn, 1) := by decide +kernel
theorem dX5_shortens_0 : decode cX5_shortens 0 = .ok (.aload_n 0, 1) := by decide +kernel
theorem dX5_shortens_1 : decode cX5_shortens 1 = .ok (.aload_n 0, 1) := by decide +kernel
theorem dX5_shortens_2 : decode cX5_shortens 2 = .ok (.invokevirtual 64, 3) := by decide +kernel
theorem dX5_shortens_5 : decode cX5_shortens 5 = .ok (.iload_n 1, 1) := by decide +kernel
theorem dX5_shortens_6 : decode cX5_shortens 6 = .ok (.invokevirtual 79, 3) := by decide +kernel
theorem dX5_shortens_9 : decode cX5_shortens 9 = .ok (.invokevirtual 72, 3) := by decide +kernel
theorem dX5_shortens_12 : decode cX5_shortens 12 = .ok (.ireturn, 1) := by decide +kernel
theorem dX5_pocket_0 : decode cX5_pocket 0 = .ok (.aload_n 0, 1) := by decide +kernel
theorem dX5_pocket_1 : decode cX5_pocket 1 = .ok (.aload_n 0, 1) := by decide +kernel
theorem dX5_pocket_2 : decode cX5_pocket 2 = .ok (.invokevirtual 64, 3) := by decide +kernel
theorem dX5_pocket_5 : decode cX5_pocket 5 = .ok (.iload_n 1, 1) := by decide +kernel
theorem dX5_pocket_6 : decode cX5_pocket 6 = .ok (.iload_n 2, 1) := by decide +kernel
theorem dX5_pocket_7 : decode cX5_pocket 7 = .ok (.invokevirtual 82, 3) := by decide +kernel
theorem dX5_pocket_10 : decode cX5_pocket 10 = .ok (.invokevirtual 72, 3) := by decide +kernel
theorem dX5_pocket_13 : decode cX5_pocket 13 = .ok (.ireturn, 1) := by decide +kernel
theorem dX5_widens_0 : decode cX5_widens 0 = .ok (.aload_n 0, 1) := by decide +kernel
theorem dX5_widens_1 : decode cX5_widens 1 = .ok (.aload_n 0, 1) := by decide +kernel
theorem dX5_widens_2 : decode cX5_widens 2 = .ok (.invokevirtual 64, 3) := by decide +kernel
theorem dX5_widens_5 : decode cX5_widens 5 = .ok (.iload_n 1, 1) := by decide +kernel
theorem dX5_widens_6 : decode cX5_widens 6 = .ok (.iload_n 2, 1) := by decide +kernel
theorem dX5_widens_7 : decode cX5_widens 7 = .ok (.invokevirtual 86, 3) := by decide +kernel
theorem dX5_widens_10 : decode cX5_widens 10 = .ok (.invokevirtual 72, 3) := by decide +kernel
theorem dX5_widens_13 : decode cX5_widens 13 = .ok (.ireturn, 1) := by decide +kernel
theorem dX5_touches_0 : decode cX5_touches 0 = .ok (.aload_n 0, 1) := by decide +kernel
theorem dX5_touches_1 : decode cX5_touches 1 = .ok (.aload_n 0, 1) := by decide +kernel
theorem dX5_touches_2 : decode cX5_touches 2 = .ok (.invokevirtual 64, 3) := by decide +kernel
theorem dX5_touches_5 : decode cX5_touches 5 = .ok (.iload_n 1, 1) := by decide +kernel
theorem dX5_touches_6 : decode cX5_touches 6 = .ok (.iload_n 2, 1) := by decide +kernel
theorem dX5_touches_7 : decode cX5_touches 7 = .ok (.invokevirtual 89, 3) := by decide +kernel
theorem dX5_touches_10 : decode cX5_touches 10 = .ok (.invokevirtual 72, 3) := by decide +kernel
theorem dX5_touches_13 : decode cX5_touches 13 = .ok (.ireturn, 1) := by decide +kernel
theorem dX5_sets_0 : decode cX5_sets 0 = .ok (.aload_n 0, 1) := by decide +kernel
theorem dX5_sets_1 : decode cX5_sets 1 = .ok (.aload_n 0, 1) := by decide +kernel
theorem dX5_sets_2 : decode cX5_sets 2 = .ok (.invokevirtual 64, 3) := by decide +kernel
theorem dX5_sets_5 : decode cX5_sets 5 = .ok (.iload_n 1, 1) := by decide +kernel
theorem dX5_sets_6 : decode cX5_sets 6 = .ok (.iload_n 2, 1) := by decide +kernel
theorem dX5_sets_7 : decode cX5_sets 7 = .ok (.invokevirtual 92, 3) := by decide +kernel
theorem dX5_sets_10 : decode cX5_sets 10 = .ok (.invokevirtual 72, 3) := by decide +kernel
theorem dX5_sets_13 : decode cX5_sets 13 = .ok (.ireturn, 1) := by decide +kernel
theorem dX5_of_0 : decode cX5_of 0 = .ok (.aload_n 0, 1) := by decide +kernel
theorem dX5_of_1 : decode cX5_of 1 = .ok (.getfield 10, 3) := by decide +kernel
theorem dX5_of_4 : decode cX5_of 4 = .ok (.iload_n 1, 1) := by decide +kernel
theorem dX5_of_5 : decode cX5_of 5 = .ok (.invokevirtual 95, 3) := by decide +kernel
theorem dX5_of_8 : decode cX5_of 8 = .ok (.ifCond .ne 10, 3) := by decide +kernel
theorem dX5_of_11 : decode cX5_of 11 = .ok (.aload_n 0, 1) := by decide +kernel
theorem dX5_of_12 : decode cX5_of 12 = .ok (.bipush (-2), 2) := by decide +kernel
theorem dX5_of_14 : decode cX5_of 14 = .ok (.invokevirtual 99, 3) := by decide +kernel
theorem dX5_of_17 : decode cX5_of 17 = .ok (.ireturn, 1) := by decide +kernel
theorem dX5_of_18 : decode cX5_of 18 = .ok (.iload_n 2, 1) := by decide +kernel
theorem dX5_of_19 : decode cX5_of 19 = .ok (.tableswitch 136 0 6 #[41, 50, 59, 83, 107, 116, 126], 41) := by decide +kernel
theorem dX5_of_60 : decode cX5_of 60 = .ok (.aload_n 0, 1) := by decide +kernel
theorem dX5_of_61 : decode cX5_of 61 = .ok (.getfield 10, 3) := by decide +kernel
theorem dX5_of_64 : decode cX5_of 64 = .ok (.iload_n 1, 1) := by decide +kernel
theorem dX5_of_65 : decode cX5_of 65 = .ok (.invokevirtual 102, 3) := by decide +kernel
theorem dX5_of_68 : decode cX5_of 68 = .ok (.ireturn, 1) := by decide +kernel
theorem dX5_of_69 : decode cX5_of 69 = .ok (.aload_n 0, 1) := by decide +kernel
theorem dX5_of_70 : decode cX5_of 70 = .ok (.getfield 10, 3) := by decide +kernel
theorem dX5_of_73 : decode cX5_of 73 = .ok (.iload_n 1, 1) := by decide +kernel
theorem dX5_of_74 : decode cX5_of 74 = .ok (.invokevirtual 105, 3) := by decide +kernel
theorem dX5_of_77 : decode cX5_of 77 = .ok (.ireturn, 1) := by decide +kernel
theorem dX5_of_78 : decode cX5_of 78 = .ok (.aload_n 0, 1) := by decide +kernel
theorem dX5_of_79 : decode cX5_of 79 = .ok (.getfield 10, 3) := by decide +kernel
theorem dX5_of_82 : decode cX5_of 82 = .ok (.aload_n 0, 1) := by decide +kernel
theorem dX5_of_83 : decode cX5_of 83 = .ok (.getfield 10, 3) := by decide +kernel
theorem dX5_of_86 : decode cX5_of 86 = .ok (.iload_n 1, 1) := by decide +kernel
theorem dX5_of_87 : decode cX5_of 87 = .ok (.invokevirtual 105, 3) := by decide +kernel
theorem dX5_of_90 : decode cX5_of 90 = .ok (.aload_n 0, 1) := by decide +kernel
theorem dX5_of_91 : decode cX5_of 91 = .ok (.getfield 10, 3) := by decide +kernel
theorem dX5_of_94 : decode cX5_of 94 = .ok (.iconst 4, 1) := by decide +kernel
theorem dX5_of_95 : decode cX5_of 95 = .ok (.invokevirtual 108, 3) := by decide +kernel
theorem dX5_of_98 : decode cX5_of 98 = .ok (.invokevirtual 111, 3) := by decide +kernel
theorem dX5_of_101 : decode cX5_of 101 = .ok (.ireturn, 1) := by decide +kernel
theorem dX5_of_102 : decode cX5_of 102 = .ok (.aload_n 0, 1) := by decide +kernel
theorem dX5_of_103 : decode cX5_of 103 = .ok (.getfield 10, 3) := by decide +kernel
theorem dX5_of_106 : decode cX5_of 106 = .ok (.aload_n 0, 1) := by decide +kernel
theorem dX5_of_107 : decode cX5_of 107 = .ok (.getfield 10, 3) := by decide +kernel
theorem dX5_of_110 : decode cX5_of 110 = .ok (.iload_n 1, 1) := by decide +kernel
theorem dX5_of_111 : decode cX5_of 111 = .ok (.invokevirtual 105, 3) := by decide +kernel
theorem dX5_of_114 : decode cX5_of 114 = .ok (.aload_n 0, 1) := by decide +kernel
theorem dX5_of_115 : decode cX5_of 115 = .ok (.getfield 10, 3) := by decide +kernel
theorem dX5_of_118 : decode cX5_of 118 = .ok (.iconst 4, 1) := by decide +kernel
theorem dX5_of_119 : decode cX5_of 119 = .ok (.invokevirtual 108, 3) := by decide +kernel
theorem dX5_of_122 : decode cX5_of 122 = .ok (.invokevirtual 114, 3) := by decide +kernel
theorem dX5_of_125 : decode cX5_of 125 = .ok (.ireturn, 1) := by decide +kernel
theorem dX5_of_126 : decode cX5_of 126 = .ok (.aload_n 0, 1) := by decide +kernel
theorem dX5_of_127 : decode cX5_of 127 = .ok (.getfield 10, 3) := by decide +kernel
theorem dX5_of_130 : decode cX5_of 130 = .ok (.iload_n 1, 1) := by decide +kernel
theorem dX5_of_131 : decode cX5_of 131 = .ok (.invokevirtual 117, 3) := by decide +kernel
theorem dX5_of_134 : decode cX5_of 134 = .ok (.ireturn, 1) := by decide +kernel
theorem dX5_of_135 : decode cX5_of 135 = .ok (.aload_n 0, 1) := by decide +kernel
theorem dX5_of_136 : decode cX5_of 136 = .ok (.getfield 10, 3) := by decide +kernel
theorem dX5_of_139 : decode cX5_of 139 = .ok (.iload_n 1, 1) := by decide +kernel
theorem dX5_of_140 : decode cX5_of 140 = .ok (.iconst 1, 1) := by decide +kernel
theorem dX5_of_141 : decode cX5_of 141 = .ok (.invokevirtual 120, 3) := by decide +kernel
theorem dX5_of_144 : decode cX5_of 144 = .ok (.ireturn, 1) := by decide +kernel
theorem dX5_of_145 : decode cX5_of 145 = .ok (.aload_n 0, 1) := by decide +kernel
theorem dX5_of_146 : decode cX5_of 146 = .ok (.getfield 10, 3) := by decide +kernel
theorem dX5_of_149 : decode cX5_of 149 = .ok (.iload_n 1, 1) := by decide +kernel
theorem dX5_of_150 : decode cX5_of 150 = .ok (.iconst 0, 1) := by decide +kernel
theorem dX5_of_151 : decode cX5_of 151 = .ok (.invokevirtual 120, 3) := by decide +kernel
theorem dX5_of_154 : decode cX5_of 154 = .ok (.ireturn, 1) := by decide +kernel
theorem dX5_of_155 : decode cX5_of 155 = .ok (.aload_n 0, 1) := by decide +kernel
theorem dX5_of_156 : decode cX5_of 156 = .ok (.bipush (-2), 2) := by decide +kernel
theorem dX5_of_158 : decode cX5_of 158 = .ok (.invokevirtual 99, 3) := by decide +kernel
theorem dX5_of_161 : decode cX5_of 161 = .ok (.ireturn, 1) := by decide +kernel
theorem dX5_run_0 : decode cX5_run 0 = .ok (.aload_n 0, 1) := by decide +kernel
theorem dX5_run_1 : decode cX5_run 1 = .ok (.getfield 10, 3) := by decide +kernel
theorem dX5_run_4 : decode cX5_run 4 = .ok (.iload_n 1, 1) := by decide +kernel
theorem dX5_run_5 : decode cX5_run 5 = .ok (.iload_n 2, 1) := by decide +kernel
theorem dX5_run_6 : decode cX5_run 6 = .ok (.invokevirtual 123, 3) := by decide +kernel
theorem dX5_run_9 : decode cX5_run 9 = .ok (.ifCond .ne 10, 3) := by decide +kernel
theorem dX5_run_12 : decode cX5_run 12 = .ok (.aload_n 0, 1) := by decide +kernel
theorem dX5_run_13 : decode cX5_run 13 = .ok (.bipush (-2), 2) := by decide +kernel
theorem dX5_run_15 : decode cX5_run 15 = .ok (.invokevirtual 99, 3) := by decide +kernel
theorem dX5_run_18 : decode cX5_run 18 = .ok (.ireturn, 1) := by decide +kernel
theorem dX5_run_19 : decode cX5_run 19 = .ok (.iload_n 3, 1) := by decide +kernel
theorem dX5_run_20 : decode cX5_run 20 = .ok (.tableswitch 58 0 2 #[28, 38, 48], 28) := by decide +kernel
theorem dX5_run_48 : decode cX5_run 48 = .ok (.aload_n 0, 1) := by decide +kernel
theorem dX5_run_49 : decode cX5_run 49 = .ok (.getfield 10, 3) := by decide +kernel
theorem dX5_run_52 : decode cX5_run 52 = .ok (.iload_n 1, 1) := by decide +kernel
theorem dX5_run_53 : decode cX5_run 53 = .ok (.iload_n 2, 1) := by decide +kernel
theorem dX5_run_54 : decode cX5_run 54 = .ok (.invokevirtual 127, 3) := by decide +kernel
theorem dX5_run_57 : decode cX5_run 57 = .ok (.ireturn, 1) := by decide +kernel
theorem dX5_run_58 : decode cX5_run 58 = .ok (.aload_n 0, 1) := by decide +kernel
theorem dX5_run_59 : decode cX5_run 59 = .ok (.getfield 10, 3) := by decide +kernel
theorem dX5_run_62 : decode cX5_run 62 = .ok (.iload_n 1, 1) := by decide +kernel
theorem dX5_run_63 : decode cX5_run 63 = .ok (.iload_n 2, 1) := by decide +kernel
theorem dX5_run_64 : decode cX5_run 64 = .ok (.invokevirtual 130, 3) := by decide +kernel
theorem dX5_run_67 : decode cX5_run 67 = .ok (.ireturn, 1) := by decide +kernel
theorem dX5_run_68 : decode cX5_run 68 = .ok (.aload_n 0, 1) := by decide +kernel
theorem dX5_run_69 : decode cX5_run 69 = .ok (.getfield 10, 3) := by decide +kernel
theorem dX5_run_72 : decode cX5_run 72 = .ok (.iload_n 1, 1) := by decide +kernel
theorem dX5_run_73 : decode cX5_run 73 = .ok (.iload_n 2, 1) := by decide +kernel
theorem dX5_run_74 : decode cX5_run 74 = .ok (.invokevirtual 133, 3) := by decide +kernel
theorem dX5_run_77 : decode cX5_run 77 = .ok (.ireturn, 1) := by decide +kernel
theorem dX5_run_78 : decode cX5_run 78 = .ok (.aload_n 0, 1) := by decide +kernel
theorem dX5_run_79 : decode cX5_run 79 = .ok (.bipush (-2), 2) := by decide +kernel
theorem dX5_run_81 : decode cX5_run 81 = .ok (.invokevirtual 99, 3) := by decide +kernel
theorem dX5_run_84 : decode cX5_run 84 = .ok (.ireturn, 1) := by decide +kernel
theorem dX5_about_0 : decode cX5_about 0 = .ok (.aload_n 0, 1) := by decide +kernel
theorem dX5_about_1 : decode cX5_about 1 = .ok (.getfield 10, 3) := by decide +kernel
theorem dX5_about_4 : decode cX5_about 4 = .ok (.iload_n 1, 1) := by decide +kernel
theorem dX5_about_5 : decode cX5_about 5 = .ok (.invokevirtual 136, 3) := by decide +kernel
theorem dX5_about_8 : decode cX5_about 8 = .ok (.ifCond .ne 10, 3) := by decide +kernel
theorem dX5_about_11 : decode cX5_about 11 = .ok (.aload_n 0, 1) := by decide +kernel
theorem dX5_about_12 : decode cX5_about 12 = .ok (.bipush (-2), 2) := by decide +kernel
theorem dX5_about_14 : decode cX5_about 14 = .ok (.invokevirtual 99, 3) := by decide +kernel
theorem dX5_about_17 : decode cX5_about 17 = .ok (.ireturn, 1) := by decide +kernel
theorem dX5_about_18 : decode cX5_about 18 = .ok (.iload_n 2, 1) := by decide +kernel
theorem dX5_about_19 : decode cX5_about 19 = .ok (.tableswitch 79 0 3 #[29, 38, 47, 56], 29) := by decide +kernel
theorem dX5_about_48 : decode cX5_about 48 = .ok (.aload_n 0, 1) := by decide +kernel
theorem dX5_about_49 : decode cX5_about 49 = .ok (.getfield 10, 3) := by decide +kernel
theorem dX5_about_52 : decode cX5_about 52 = .ok (.iload_n 1, 1) := by decide +kernel
theorem dX5_about_53 : decode cX5_about 53 = .ok (.invokevirtual 139, 3) := by decide +kernel
theorem dX5_about_56 : decode cX5_about 56 = .ok (.ireturn, 1) := by decide +kernel
theorem dX5_about_57 : decode cX5_about 57 = .ok (.aload_n 0, 1) := by decide +kernel
theorem dX5_about_58 : decode cX5_about 58 = .ok (.getfield 10, 3) := by decide +kernel
theorem dX5_about_61 : decode cX5_about 61 = .ok (.iload_n 1, 1) := by decide +kernel
theorem dX5_about_62 : decode cX5_about 62 = .ok (.invokevirtual 142, 3) := by decide +kernel
theorem dX5_about_65 : decode cX5_about 65 = .ok (.ireturn, 1) := by decide +kernel
theorem dX5_about_66 : decode cX5_about 66 = .ok (.aload_n 0, 1) := by decide +kernel
theorem dX5_about_67 : decode cX5_about 67 = .ok (.getfield 10, 3) := by decide +kernel
theorem dX5_about_70 : decode cX5_about 70 = .ok (.iload_n 1, 1) := by decide +kernel
theorem dX5_about_71 : decode cX5_about 71 = .ok (.invokevirtual 145, 3) := by decide +kernel
theorem dX5_about_74 : decode cX5_about 74 = .ok (.ireturn, 1) := by decide +kernel
theorem dX5_about_75 : decode cX5_about 75 = .ok (.aload_n 0, 1) := by decide +kernel
theorem dX5_about_76 : decode cX5_about 76 = .ok (.invokevirtual 148, 3) := by decide +kernel
theorem dX5_about_79 : decode cX5_about 79 = .ok (.invokevirtual 152, 3) := by decide +kernel
theorem dX5_about_82 : decode cX5_about 82 = .ok (.ifCond .eq 14, 3) := by decide +kernel
theorem dX5_about_85 : decode cX5_about 85 = .ok (.aload_n 0, 1) := by decide +kernel
theorem dX5_about_86 : decode cX5_about 86 = .ok (.invokevirtual 148, 3) := by decide +kernel
theorem dX5_about_89 : decode cX5_about 89 = .ok (.iload_n 1, 1) := by decide +kernel
theorem dX5_about_90 : decode cX5_about 90 = .ok (.invokevirtual 156, 3) := by decide +kernel
theorem dX5_about_93 : decode cX5_about 93 = .ok (.goto 4, 3) := by decide +kernel
theorem dX5_about_96 : decode cX5_about 96 = .ok (.iconst (-1), 1) := by decide +kernel
theorem dX5_about_97 : decode cX5_about 97 = .ok (.ireturn, 1) := by decide +kernel
theorem dX5_about_98 : decode cX5_about 98 = .ok (.aload_n 0, 1) := by decide +kernel
theorem dX5_about_99 : decode cX5_about 99 = .ok (.bipush (-2), 2) := by decide +kernel
theorem dX5_about_101 : decode cX5_about 101 = .ok (.invokevirtual 99, 3) := by decide +kernel
theorem dX5_about_104 : decode cX5_about 104 = .ok (.ireturn, 1) := by decide +kernel
theorem dX5_setting_0 : decode cX5_setting 0 = .ok (.iload_n 1, 1) := by decide +kernel
theorem dX5_setting_1 : decode cX5_setting 1 = .ok (.iconst 0, 1) := by decide +kernel
theorem dX5_setting_2 : decode cX5_setting 2 = .ok (.bipush 6, 2) := by decide +kernel
theorem dX5_setting_4 : decode cX5_setting 4 = .ok (.invokestatic 159, 3) := by decide +kernel
theorem dX5_setting_7 : decode cX5_setting 7 = .ok (.ifCond .eq 14, 3) := by decide +kernel
theorem dX5_setting_10 : decode cX5_setting 10 = .ok (.aload_n 0, 1) := by decide +kernel
theorem dX5_setting_11 : decode cX5_setting 11 = .ok (.getfield 10, 3) := by decide +kernel
theorem dX5_setting_14 : decode cX5_setting 14 = .ok (.iload_n 1, 1) := by decide +kernel
theorem dX5_setting_15 : decode cX5_setting 15 = .ok (.invokevirtual 108, 3) := by decide +kernel
theorem dX5_setting_18 : decode cX5_setting 18 = .ok (.goto 9, 3) := by decide +kernel
theorem dX5_setting_21 : decode cX5_setting 21 = .ok (.aload_n 0, 1) := by decide +kernel
theorem dX5_setting_22 : decode cX5_setting 22 = .ok (.bipush (-2), 2) := by decide +kernel
theorem dX5_setting_24 : decode cX5_setting 24 = .ok (.invokevirtual 99, 3) := by decide +kernel
theorem dX5_setting_27 : decode cX5_setting 27 = .ok (.ireturn, 1) := by decide +kernel
theorem dX5_count_0 : decode cX5_count 0 = .ok (.iload_n 1, 1) := by decide +kernel
theorem dX5_count_1 : decode cX5_count 1 = .ok (.tableswitch 118 0 6 #[43, 51, 59, 70, 86, 94, 102], 43) := by decide +kernel
theorem dX5_count_44 : decode cX5_count 44 = .ok (.aload_n 0, 1) := by decide +kernel
theorem dX5_count_45 : decode cX5_count 45 = .ok (.getfield 10, 3) := by decide +kernel
theorem dX5_count_48 : decode cX5_count 48 = .ok (.invokevirtual 163, 3) := by decide +kernel
theorem dX5_count_51 : decode cX5_count 51 = .ok (.ireturn, 1) := by decide +kernel
theorem dX5_count_52 : decode cX5_count 52 = .ok (.aload_n 0, 1) := by decide +kernel
theorem dX5_count_53 : decode cX5_count 53 = .ok (.getfield 10, 3) := by decide +kernel
theorem dX5_count_56 : decode cX5_count 56 = .ok (.invokevirtual 167, 3) := by decide +kernel
theorem dX5_count_59 : decode cX5_count 59 = .ok (.ireturn, 1) := by decide +kernel
theorem dX5_count_60 : decode cX5_count 60 = .ok (.aload_n 0, 1) := by decide +kernel
theorem dX5_count_61 : decode cX5_count 61 = .ok (.getfield 10, 3) := by decide +kernel
theorem dX5_count_64 : decode cX5_count 64 = .ok (.invokevirtual 170, 3) := by decide +kernel
theorem dX5_count_67 : decode cX5_count 67 = .ok (.bipush 100, 2) := by decide +kernel
theorem dX5_count_69 : decode cX5_count 69 = .ok (.iadd, 1) := by decide +kernel
theorem dX5_count_70 : decode cX5_count 70 = .ok (.ireturn, 1) := by decide +kernel
theorem dX5_count_71 : decode cX5_count 71 = .ok (.aload_n 0, 1) := by decide +kernel
theorem dX5_count_72 : decode cX5_count 72 = .ok (.invokevirtual 148, 3) := by decide +kernel
theorem dX5_count_75 : decode cX5_count 75 = .ok (.invokevirtual 152, 3) := by decide +kernel
theorem dX5_count_78 : decode cX5_count 78 = .ok (.ifCond .eq 7, 3) := by decide +kernel
theorem dX5_count_81 : decode cX5_count 81 = .ok (.iconst 1, 1) := by decide +kernel
theorem dX5_count_82 : decode cX5_count 82 = .ok (.goto 4, 3) := by decide +kernel
theorem dX5_count_85 : decode cX5_count 85 = .ok (.iconst 0, 1) := by decide +kernel
theorem dX5_count_86 : decode cX5_count 86 = .ok (.ireturn, 1) := by decide +kernel
theorem dX5_count_87 : decode cX5_count 87 = .ok (.aload_n 0, 1) := by decide +kernel
theorem dX5_count_88 : decode cX5_count 88 = .ok (.getfield 10, 3) := by decide +kernel
theorem dX5_count_91 : decode cX5_count 91 = .ok (.invokevirtual 173, 3) := by decide +kernel
theorem dX5_count_94 : decode cX5_count 94 = .ok (.ireturn, 1) := by decide +kernel
theorem dX5_count_95 : decode cX5_count 95 = .ok (.aload_n 0, 1) := by decide +kernel
theorem dX5_count_96 : decode cX5_count 96 = .ok (.getfield 10, 3) := by decide +kernel
theorem dX5_count_99 : decode cX5_count 99 = .ok (.invokevirtual 176, 3) := by decide +kernel
theorem dX5_count_102 : decode cX5_count 102 = .ok (.ireturn, 1) := by decide +kernel
theorem dX5_count_103 : decode cX5_count 103 = .ok (.aload_n 0, 1) := by decide +kernel
theorem dX5_count_104 : decode cX5_count 104 = .ok (.getfield 10, 3) := by decide +kernel
theorem dX5_count_107 : decode cX5_count 107 = .ok (.aload_n 0, 1) := by decide +kernel
theorem dX5_count_108 : decode cX5_count 108 = .ok (.getfield 10, 3) := by decide +kernel
theorem dX5_count_111 : decode cX5_count 111 = .ok (.iconst 4, 1) := by decide +kernel
theorem dX5_count_112 : decode cX5_count 112 = .ok (.invokevirtual 108, 3) := by decide +kernel
theorem dX5_count_115 : decode cX5_count 115 = .ok (.invokevirtual 179, 3) := by decide +kernel
theorem dX5_count_118 : decode cX5_count 118 = .ok (.ireturn, 1) := by decide +kernel
theorem dX5_count_119 : decode cX5_count 119 = .ok (.aload_n 0, 1) := by decide +kernel
theorem dX5_count_120 : decode cX5_count 120 = .ok (.bipush (-2), 2) := by decide +kernel
theorem dX5_count_122 : decode cX5_count 122 = .ok (.invokevirtual 99, 3) := by decide +kernel
theorem dX5_count_125 : decode cX5_count 125 = .ok (.ireturn, 1) := by decide +kernel
theorem dX5_draws_0 : decode cX5_draws 0 = .ok (.aload_n 0, 1) := by decide +kernel
theorem dX5_draws_1 : decode cX5_draws 1 = .ok (.getfield 10, 3) := by decide +kernel
theorem dX5_draws_4 : decode cX5_draws 4 = .ok (.iload_n 1, 1) := by decide +kernel
theorem dX5_draws_5 : decode cX5_draws 5 = .ok (.invokevirtual 95, 3) := by decide +kernel
theorem dX5_draws_8 : decode cX5_draws 8 = .ok (.ifCond .eq 14, 3) := by decide +kernel
theorem dX5_draws_11 : decode cX5_draws 11 = .ok (.aload_n 0, 1) := by decide +kernel
theorem dX5_draws_12 : decode cX5_draws 12 = .ok (.getfield 10, 3) := by decide +kernel
theorem dX5_draws_15 : decode cX5_draws 15 = .ok (.iload_n 2, 1) := by decide +kernel
theorem dX5_draws_16 : decode cX5_draws 16 = .ok (.invokevirtual 136, 3) := by decide +kernel
theorem dX5_draws_19 : decode cX5_draws 19 = .ok (.ifCond .ne 10, 3) := by decide +kernel
theorem dX5_draws_22 : decode cX5_draws 22 = .ok (.aload_n 0, 1) := by decide +kernel
theorem dX5_draws_23 : decode cX5_draws 23 = .ok (.bipush (-2), 2) := by decide +kernel
theorem dX5_draws_25 : decode cX5_draws 25 = .ok (.invokevirtual 99, 3) := by decide +kernel
theorem dX5_draws_28 : decode cX5_draws 28 = .ok (.ireturn, 1) := by decide +kernel
theorem dX5_draws_29 : decode cX5_draws 29 = .ok (.aload_n 0, 1) := by decide +kernel
theorem dX5_draws_30 : decode cX5_draws 30 = .ok (.invokevirtual 148, 3) := by decide +kernel
theorem dX5_draws_33 : decode cX5_draws 33 = .ok (.invokevirtual 152, 3) := by decide +kernel
theorem dX5_draws_36 : decode cX5_draws 36 = .ok (.ifCond .eq 15, 3) := by decide +kernel
theorem dX5_draws_39 : decode cX5_draws 39 = .ok (.aload_n 0, 1) := by decide +kernel
theorem dX5_draws_40 : decode cX5_draws 40 = .ok (.invokevirtual 148, 3) := by decide +kernel
theorem dX5_draws_43 : decode cX5_draws 43 = .ok (.iload_n 1, 1) := by decide +kernel
theorem dX5_draws_44 : decode cX5_draws 44 = .ok (.iload_n 2, 1) := by decide +kernel
theorem dX5_draws_45 : decode cX5_draws 45 = .ok (.invokevirtual 182, 3) := by decide +kernel
theorem dX5_draws_48 : decode cX5_draws 48 = .ok (.goto 9, 3) := by decide +kernel
theorem dX5_draws_51 : decode cX5_draws 51 = .ok (.aload_n 0, 1) := by decide +kernel
theorem dX5_draws_52 : decode cX5_draws 52 = .ok (.bipush (-3), 2) := by decide +kernel
theorem dX5_draws_54 : decode cX5_draws 54 = .ok (.invokevirtual 99, 3) := by decide +kernel
theorem dX5_draws_57 : decode cX5_draws 57 = .ok (.ireturn, 1) := by decide +kernel
theorem dX5_length_0 : decode cX5_length 0 = .ok (.aload_n 0, 1) := by decide +kernel
theorem dX5_length_1 : decode cX5_length 1 = .ok (.getfield 10, 3) := by decide +kernel
theorem dX5_length_4 : decode cX5_length 4 = .ok (.iload_n 1, 1) := by decide +kernel
theorem dX5_length_5 : decode cX5_length 5 = .ok (.invokevirtual 95, 3) := by decide +kernel
theorem dX5_length_8 : decode cX5_length 8 = .ok (.ifCond .ne 10, 3) := by decide +kernel
theorem dX5_length_11 : decode cX5_length 11 = .ok (.aload_n 0, 1) := by decide +kernel
theorem dX5_length_12 : decode cX5_length 12 = .ok (.bipush (-2), 2) := by decide +kernel
theorem dX5_length_14 : decode cX5_length 14 = .ok (.invokevirtual 99, 3) := by decide +kernel
theorem dX5_length_17 : decode cX5_length 17 = .ok (.ireturn, 1) := by decide +kernel
theorem dX5_length_18 : decode cX5_length 18 = .ok (.aload_n 0, 1) := by decide +kernel
theorem dX5_length_19 : decode cX5_length 19 = .ok (.invokevirtual 148, 3) := by decide +kernel
theorem dX5_length_22 : decode cX5_length 22 = .ok (.invokevirtual 152, 3) := by decide +kernel
theorem dX5_length_25 : decode cX5_length 25 = .ok (.ifCond .ne 10, 3) := by decide +kernel
theorem dX5_length_28 : decode cX5_length 28 = .ok (.aload_n 0, 1) := by decide +kernel
theorem dX5_length_29 : decode cX5_length 29 = .ok (.bipush (-3), 2) := by decide +kernel
theorem dX5_length_31 : decode cX5_length 31 = .ok (.invokevirtual 99, 3) := by decide +kernel
theorem dX5_length_34 : decode cX5_length 34 = .ok (.ireturn, 1) := by decide +kernel
theorem dX5_length_35 : decode cX5_length 35 = .ok (.aload_n 0, 1) := by decide +kernel
theorem dX5_length_36 : decode cX5_length 36 = .ok (.getfield 10, 3) := by decide +kernel
theorem dX5_length_39 : decode cX5_length 39 = .ok (.iload_n 1, 1) := by decide +kernel
theorem dX5_length_40 : decode cX5_length 40 = .ok (.invokevirtual 105, 3) := by decide +kernel
theorem dX5_length_43 : decode cX5_length 43 = .ok (.istore_n 2, 1) := by decide +kernel
theorem dX5_length_44 : decode cX5_length 44 = .ok (.iload_n 2, 1) := by decide +kernel
theorem dX5_length_45 : decode cX5_length 45 = .ok (.aload_n 0, 1) := by decide +kernel
theorem dX5_length_46 : decode cX5_length 46 = .ok (.getfield 10, 3) := by decide +kernel
theorem dX5_length_49 : decode cX5_length 49 = .ok (.iload_n 2, 1) := by decide +kernel
theorem dX5_length_50 : decode cX5_length 50 = .ok (.aload_n 0, 1) := by decide +kernel
theorem dX5_length_51 : decode cX5_length 51 = .ok (.getfield 10, 3) := by decide +kernel
theorem dX5_length_54 : decode cX5_length 54 = .ok (.iconst 4, 1) := by decide +kernel
theorem dX5_length_55 : decode cX5_length 55 = .ok (.invokevirtual 108, 3) := by decide +kernel
theorem dX5_length_58 : decode cX5_length 58 = .ok (.invokevirtual 111, 3) := by decide +kernel
theorem dX5_length_61 : decode cX5_length 61 = .ok (.iadd, 1) := by decide +kernel
theorem dX5_length_62 : decode cX5_length 62 = .ok (.ireturn, 1) := by decide +kernel
theorem dX5_blocked_0 : decode cX5_blocked 0 = .ok (.aload_n 0, 1) := by decide +kernel
theorem dX5_blocked_1 : decode cX5_blocked 1 = .ok (.invokevirtual 148, 3) := by decide +kernel
theorem dX5_blocked_4 : decode cX5_blocked 4 = .ok (.invokevirtual 185, 3) := by decide +kernel
theorem dX5_blocked_7 : decode cX5_blocked 7 = .ok (.ireturn, 1) := by decide +kernel
theorem dX5_can_0 : decode cX5_can 0 = .ok (.iload_n 1, 1) := by decide +kernel
theorem dX5_can_1 : decode cX5_can 1 = .ok (.iconst 0, 1) := by decide +kernel
theorem dX5_can_2 : decode cX5_can 2 = .ok (.sipush 999, 3) := by decide +kernel
theorem dX5_can_5 : decode cX5_can 5 = .ok (.invokestatic 159, 3) := by decide +kernel
theorem dX5_can_8 : decode cX5_can 8 = .ok (.ifCond .ne 10, 3) := by decide +kernel
theorem dX5_can_11 : decode cX5_can 11 = .ok (.aload_n 0, 1) := by decide +kernel
theorem dX5_can_12 : decode cX5_can 12 = .ok (.bipush (-2), 2) := by decide +kernel
theorem dX5_can_14 : decode cX5_can 14 = .ok (.invokevirtual 99, 3) := by decide +kernel
theorem dX5_can_17 : decode cX5_can 17 = .ok (.ireturn, 1) := by decide +kernel
theorem dX5_can_18 : decode cX5_can 18 = .ok (.aload_n 0, 1) := by decide +kernel
theorem dX5_can_19 : decode cX5_can 19 = .ok (.iload_n 1, 1) := by decide +kernel
theorem dX5_can_20 : decode cX5_can 20 = .ok (.invokevirtual 188, 3) := by decide +kernel
theorem dX5_can_23 : decode cX5_can 23 = .ok (.ifCond .eq 7, 3) := by decide +kernel
theorem dX5_can_26 : decode cX5_can 26 = .ok (.iconst 1, 1) := by decide +kernel
theorem dX5_can_27 : decode cX5_can 27 = .ok (.goto 4, 3) := by decide +kernel
theorem dX5_can_30 : decode cX5_can 30 = .ok (.iconst 0, 1) := by decide +kernel
theorem dX5_can_31 : decode cX5_can 31 = .ok (.ireturn, 1) := by decide +kernel
theorem dX5_least_0 : decode cX5_least 0 = .ok (.aload_n 0, 1) := by decide +kernel
theorem dX5_least_1 : decode cX5_least 1 = .ok (.getfield 10, 3) := by decide +kernel
theorem dX5_least_4 : decode cX5_least 4 = .ok (.invokevirtual 173, 3) := by decide +kernel
theorem dX5_least_7 : decode cX5_least 7 = .ok (.istore_n 1, 1) := by decide +kernel
theorem dX5_least_8 : decode cX5_least 8 = .ok (.aload_n 0, 1) := by decide +kernel
theorem dX5_least_9 : decode cX5_least 9 = .ok (.iload_n 1, 1) := by decide +kernel
theorem dX5_least_10 : decode cX5_least 10 = .ok (.invokevirtual 188, 3) := by decide +kernel
theorem dX5_least_13 : decode cX5_least 13 = .ok (.ifCond .eq 7, 3) := by decide +kernel
theorem dX5_least_16 : decode cX5_least 16 = .ok (.iload_n 1, 1) := by decide +kernel
theorem dX5_least_17 : decode cX5_least 17 = .ok (.goto 4, 3) := by decide +kernel
theorem dX5_least_20 : decode cX5_least 20 = .ok (.iconst (-1), 1) := by decide +kernel
theorem dX5_least_21 : decode cX5_least 21 = .ok (.ireturn, 1) := by decide +kernel
theorem dX5_greatest_0 : decode cX5_greatest 0 = .ok (.aload_n 0, 1) := by decide +kernel
theorem dX5_greatest_1 : decode cX5_greatest 1 = .ok (.getfield 10, 3) := by decide +kernel
theorem dX5_greatest_4 : decode cX5_greatest 4 = .ok (.invokevirtual 173, 3) := by decide +kernel
theorem dX5_greatest_7 : decode cX5_greatest 7 = .ok (.istore_n 1, 1) := by decide +kernel
theorem dX5_greatest_8 : decode cX5_greatest 8 = .ok (.aload_n 0, 1) := by decide +kernel
theorem dX5_greatest_9 : decode cX5_greatest 9 = .ok (.iload_n 1, 1) := by decide +kernel
theorem dX5_greatest_10 : decode cX5_greatest 10 = .ok (.invokevirtual 188, 3) := by decide +kernel
theorem dX5_greatest_13 : decode cX5_greatest 13 = .ok (.ifCond .ne 5, 3) := by decide +kernel
theorem dX5_greatest_16 : decode cX5_greatest 16 = .ok (.iconst (-1), 1) := by decide +kernel
theorem dX5_greatest_17 : decode cX5_greatest 17 = .ok (.ireturn, 1) := by decide +kernel
theorem dX5_greatest_18 : decode cX5_greatest 18 = .ok (.sipush 512, 3) := by decide +kernel
theorem dX5_greatest_21 : decode cX5_greatest 21 = .ok (.istore_n 2, 1) := by decide +kernel
theorem dX5_greatest_22 : decode cX5_greatest 22 = .ok (.iload_n 2, 1) := by decide +kernel
theorem dX5_greatest_23 : decode cX5_greatest 23 = .ok (.ifCond .le 33, 3) := by decide +kernel
theorem dX5_greatest_26 : decode cX5_greatest 26 = .ok (.iload_n 1, 1) := by decide +kernel
theorem dX5_greatest_27 : decode cX5_greatest 27 = .ok (.iload_n 2, 1) := by decide +kernel
theorem dX5_greatest_28 : decode cX5_greatest 28 = .ok (.iadd, 1) := by decide +kernel
theorem dX5_greatest_29 : decode cX5_greatest 29 = .ok (.sipush 999, 3) := by decide +kernel
theorem dX5_greatest_32 : decode cX5_greatest 32 = .ok (.if_icmp .gt 17, 3) := by decide +kernel
theorem dX5_greatest_35 : decode cX5_greatest 35 = .ok (.aload_n 0, 1) := by decide +kernel
theorem dX5_greatest_36 : decode cX5_greatest 36 = .ok (.iload_n 1, 1) := by decide +kernel
theorem dX5_greatest_37 : decode cX5_greatest 37 = .ok (.iload_n 2, 1) := by decide +kernel
theorem dX5_greatest_38 : decode cX5_greatest 38 = .ok (.iadd, 1) := by decide +kernel
theorem dX5_greatest_39 : decode cX5_greatest 39 = .ok (.invokevirtual 188, 3) := by decide +kernel
theorem dX5_greatest_42 : decode cX5_greatest 42 = .ok (.ifCond .eq 7, 3) := by decide +kernel
theorem dX5_greatest_45 : decode cX5_greatest 45 = .ok (.iload_n 1, 1) := by decide +kernel
theorem dX5_greatest_46 : decode cX5_greatest 46 = .ok (.iload_n 2, 1) := by decide +kernel
theorem dX5_greatest_47 : decode cX5_greatest 47 = .ok (.iadd, 1) := by decide +kernel
theorem dX5_greatest_48 : decode cX5_greatest 48 = .ok (.istore_n 1, 1) := by decide +kernel
theorem dX5_greatest_49 : decode cX5_greatest 49 = .ok (.iload_n 2, 1) := by decide +kernel
theorem dX5_greatest_50 : decode cX5_greatest 50 = .ok (.iconst 2, 1) := by decide +kernel
theorem dX5_greatest_51 : decode cX5_greatest 51 = .ok (.idiv, 1) := by decide +kernel
theorem dX5_greatest_52 : decode cX5_greatest 52 = .ok (.istore_n 2, 1) := by decide +kernel
theorem dX5_greatest_53 : decode cX5_greatest 53 = .ok (.goto (-31), 3) := by decide +kernel
theorem dX5_greatest_56 : decode cX5_greatest 56 = .ok (.iload_n 1, 1) := by decide +kernel
theorem dX5_greatest_57 : decode cX5_greatest 57 = .ok (.ireturn, 1) := by decide +kernel
theorem dX5_more_0 : decode cX5_more 0 = .ok (.aload_n 0, 1) := by decide +kernel
theorem dX5_more_1 : decode cX5_more 1 = .ok (.invokevirtual 148, 3) := by decide +kernel
theorem dX5_more_4 : decode cX5_more 4 = .ok (.invokevirtual 152, 3) := by decide +kernel
theorem dX5_more_7 : decode cX5_more 7 = .ok (.ifCond .eq 10, 3) := by decide +kernel
theorem dX5_more_10 : decode cX5_more 10 = .ok (.aload_n 0, 1) := by decide +kernel
theorem dX5_more_11 : decode cX5_more 11 = .ok (.bipush (-3), 2) := by decide +kernel
theorem dX5_more_13 : decode cX5_more 13 = .ok (.invokevirtual 99, 3) := by decide +kernel
theorem dX5_more_16 : decode cX5_more 16 = .ok (.ireturn, 1) := by decide +kernel
theorem dX5_more_17 : decode cX5_more 17 = .ok (.aload_n 0, 1) := by decide +kernel
theorem dX5_more_18 : decode cX5_more 18 = .ok (.getfield 40, 3) := by decide +kernel
theorem dX5_more_21 : decode cX5_more 21 = .ok (.aload_n 0, 1) := by decide +kernel
theorem dX5_more_22 : decode cX5_more 22 = .ok (.getfield 10, 3) := by decide +kernel
theorem dX5_more_25 : decode cX5_more 25 = .ok (.aload_n 0, 1) := by decide +kernel
theorem dX5_more_26 : decode cX5_more 26 = .ok (.getfield 10, 3) := by decide +kernel
theorem dX5_more_29 : decode cX5_more 29 = .ok (.iconst 4, 1) := by decide +kernel
theorem dX5_more_30 : decode cX5_more 30 = .ok (.invokevirtual 108, 3) := by decide +kernel
theorem dX5_more_33 : decode cX5_more 33 = .ok (.invokevirtual 191, 3) := by decide +kernel
theorem dX5_more_36 : decode cX5_more 36 = .ok (.iconst 0, 1) := by decide +kernel
theorem dX5_more_37 : decode cX5_more 37 = .ok (.istore_n 1, 1) := by decide +kernel
theorem dX5_more_38 : decode cX5_more 38 = .ok (.iload_n 1, 1) := by decide +kernel
theorem dX5_more_39 : decode cX5_more 39 = .ok (.aload_n 0, 1) := by decide +kernel
theorem dX5_more_40 : decode cX5_more 40 = .ok (.getfield 10, 3) := by decide +kernel
theorem dX5_more_43 : decode cX5_more 43 = .ok (.invokevirtual 167, 3) := by decide +kernel
theorem dX5_more_46 : decode cX5_more 46 = .ok (.if_icmp .ge 22, 3) := by decide +kernel
theorem dX5_more_49 : decode cX5_more 49 = .ok (.aload_n 0, 1) := by decide +kernel
theorem dX5_more_50 : decode cX5_more 50 = .ok (.getfield 40, 3) := by decide +kernel
theorem dX5_more_53 : decode cX5_more 53 = .ok (.iload_n 1, 1) := by decide +kernel
theorem dX5_more_54 : decode cX5_more 54 = .ok (.invokevirtual 195, 3) := by decide +kernel
theorem dX5_more_57 : decode cX5_more 57 = .ok (.ifCond .eq 5, 3) := by decide +kernel
theorem dX5_more_60 : decode cX5_more 60 = .ok (.iload_n 1, 1) := by decide +kernel
theorem dX5_more_61 : decode cX5_more 61 = .ok (.ireturn, 1) := by decide +kernel
theorem dX5_more_62 : decode cX5_more 62 = .ok (.iinc 1 1, 3) := by decide +kernel
theorem dX5_more_65 : decode cX5_more 65 = .ok (.goto (-27), 3) := by decide +kernel
theorem dX5_more_68 : decode cX5_more 68 = .ok (.iconst (-1), 1) := by decide +kernel
theorem dX5_more_69 : decode cX5_more 69 = .ok (.ireturn, 1) := by decide +kernel
theorem dX5_bumps_0 : decode cX5_bumps 0 = .ok (.aload_n 0, 1) := by decide +kernel
theorem dX5_bumps_1 : decode cX5_bumps 1 = .ok (.getfield 10, 3) := by decide +kernel
theorem dX5_bumps_4 : decode cX5_bumps 4 = .ok (.iload_n 1, 1) := by decide +kernel
theorem dX5_bumps_5 : decode cX5_bumps 5 = .ok (.invokevirtual 95, 3) := by decide +kernel
theorem dX5_bumps_8 : decode cX5_bumps 8 = .ok (.ifCond .eq 18, 3) := by decide +kernel
theorem dX5_bumps_11 : decode cX5_bumps 11 = .ok (.aload_n 0, 1) := by decide +kernel
theorem dX5_bumps_12 : decode cX5_bumps 12 = .ok (.getfield 46, 3) := by decide +kernel
theorem dX5_bumps_15 : decode cX5_bumps 15 = .ok (.aload_n 0, 1) := by decide +kernel
theorem dX5_bumps_16 : decode cX5_bumps 16 = .ok (.getfield 10, 3) := by decide +kernel
theorem dX5_bumps_19 : decode cX5_bumps 19 = .ok (.iload_n 1, 1) := by decide +kernel
theorem dX5_bumps_20 : decode cX5_bumps 20 = .ok (.invokevirtual 198, 3) := by decide +kernel
theorem dX5_bumps_23 : decode cX5_bumps 23 = .ok (.goto 9, 3) := by decide +kernel
theorem dX5_bumps_26 : decode cX5_bumps 26 = .ok (.aload_n 0, 1) := by decide +kernel
theorem dX5_bumps_27 : decode cX5_bumps 27 = .ok (.bipush (-2), 2) := by decide +kernel
theorem dX5_bumps_29 : decode cX5_bumps 29 = .ok (.invokevirtual 99, 3) := by decide +kernel
theorem dX5_bumps_32 : decode cX5_bumps 32 = .ok (.ireturn, 1) := by decide +kernel
theorem dX5_skew_0 : decode cX5_skew 0 = .ok (.aload_n 0, 1) := by decide +kernel
theorem dX5_skew_1 : decode cX5_skew 1 = .ok (.getfield 10, 3) := by decide +kernel
theorem dX5_skew_4 : decode cX5_skew 4 = .ok (.iload_n 1, 1) := by decide +kernel
theorem dX5_skew_5 : decode cX5_skew 5 = .ok (.iload_n 2, 1) := by decide +kernel
theorem dX5_skew_6 : decode cX5_skew 6 = .ok (.invokevirtual 123, 3) := by decide +kernel
theorem dX5_skew_9 : decode cX5_skew 9 = .ok (.ifCond .eq 18, 3) := by decide +kernel
theorem dX5_skew_12 : decode cX5_skew 12 = .ok (.aload_n 0, 1) := by decide +kernel
theorem dX5_skew_13 : decode cX5_skew 13 = .ok (.getfield 10, 3) := by decide +kernel
theorem dX5_skew_16 : decode cX5_skew 16 = .ok (.iload_n 1, 1) := by decide +kernel
theorem dX5_skew_17 : decode cX5_skew 17 = .ok (.iload_n 2, 1) := by decide +kernel
theorem dX5_skew_18 : decode cX5_skew 18 = .ok (.invokevirtual 202, 3) := by decide +kernel
theorem dX5_skew_21 : decode cX5_skew 21 = .ok (.bipush 100, 2) := by decide +kernel
theorem dX5_skew_23 : decode cX5_skew 23 = .ok (.iadd, 1) := by decide +kernel
theorem dX5_skew_24 : decode cX5_skew 24 = .ok (.goto 9, 3) := by decide +kernel
theorem dX5_skew_27 : decode cX5_skew 27 = .ok (.aload_n 0, 1) := by decide +kernel
theorem dX5_skew_28 : decode cX5_skew 28 = .ok (.bipush (-2), 2) := by decide +kernel
theorem dX5_skew_30 : decode cX5_skew 30 = .ok (.invokevirtual 99, 3) := by decide +kernel
theorem dX5_skew_33 : decode cX5_skew 33 = .ok (.ireturn, 1) := by decide +kernel
theorem dX5_type_0 : decode cX5_type 0 = .ok (.iload_n 1, 1) := by decide +kernel
theorem dX5_type_1 : decode cX5_type 1 = .ok (.iconst 0, 1) := by decide +kernel
theorem dX5_type_2 : decode cX5_type 2 = .ok (.bipush 127, 2) := by decide +kernel
theorem dX5_type_4 : decode cX5_type 4 = .ok (.invokestatic 159, 3) := by decide +kernel
theorem dX5_type_7 : decode cX5_type 7 = .ok (.ifCond .ne 10, 3) := by decide +kernel
theorem dX5_type_10 : decode cX5_type 10 = .ok (.aload_n 0, 1) := by decide +kernel
theorem dX5_type_11 : decode cX5_type 11 = .ok (.bipush (-2), 2) := by decide +kernel
theorem dX5_type_13 : decode cX5_type 13 = .ok (.invokevirtual 99, 3) := by decide +kernel
theorem dX5_type_16 : decode cX5_type 16 = .ok (.ireturn, 1) := by decide +kernel
theorem dX5_type_17 : decode cX5_type 17 = .ok (.aload_n 0, 1) := by decide +kernel
theorem dX5_type_18 : decode cX5_type 18 = .ok (.getfield 29, 3) := by decide +kernel
theorem dX5_type_21 : decode cX5_type 21 = .ok (.iload_n 1, 1) := by decide +kernel
theorem dX5_type_22 : decode cX5_type 22 = .ok (.invokevirtual 205, 3) := by decide +kernel
theorem dX5_type_25 : decode cX5_type 25 = .ok (.ifCond .eq 13, 3) := by decide +kernel
theorem dX5_type_28 : decode cX5_type 28 = .ok (.aload_n 0, 1) := by decide +kernel
theorem dX5_type_29 : decode cX5_type 29 = .ok (.getfield 29, 3) := by decide +kernel
theorem dX5_type_32 : decode cX5_type 32 = .ok (.invokevirtual 208, 3) := by decide +kernel
theorem dX5_type_35 : decode cX5_type 35 = .ok (.goto 9, 3) := by decide +kernel
theorem dX5_type_38 : decode cX5_type 38 = .ok (.aload_n 0, 1) := by decide +kernel
theorem dX5_type_39 : decode cX5_type 39 = .ok (.bipush (-4), 2) := by decide +kernel
theorem dX5_type_41 : decode cX5_type 41 = .ok (.invokevirtual 99, 3) := by decide +kernel
theorem dX5_type_44 : decode cX5_type 44 = .ok (.ireturn, 1) := by decide +kernel
theorem dX5_clear_0 : decode cX5_clear 0 = .ok (.aload_n 0, 1) := by decide +kernel
theorem dX5_clear_1 : decode cX5_clear 1 = .ok (.getfield 29, 3) := by decide +kernel
theorem dX5_clear_4 : decode cX5_clear 4 = .ok (.invokevirtual 208, 3) := by decide +kernel
theorem dX5_clear_7 : decode cX5_clear 7 = .ok (.istore_n 1, 1) := by decide +kernel
theorem dX5_clear_8 : decode cX5_clear 8 = .ok (.aload_n 0, 1) := by decide +kernel
theorem dX5_clear_9 : decode cX5_clear 9 = .ok (.getfield 29, 3) := by decide +kernel
theorem dX5_clear_12 : decode cX5_clear 12 = .ok (.invokevirtual 211, 3) := by decide +kernel
theorem dX5_clear_15 : decode cX5_clear 15 = .ok (.iload_n 1, 1) := by decide +kernel
theorem dX5_clear_16 : decode cX5_clear 16 = .ok (.ireturn, 1) := by decide +kernel
theorem dX5_does_0 : decode cX5_does 0 = .ok (.aload_n 0, 1) := by decide +kernel
theorem dX5_does_1 : decode cX5_does 1 = .ok (.getfield 29, 3) := by decide +kernel
theorem dX5_does_4 : decode cX5_does 4 = .ok (.invokevirtual 214, 3) := by decide +kernel
theorem dX5_does_7 : decode cX5_does 7 = .ok (.istore_n 1, 1) := by decide +kernel
theorem dX5_does_8 : decode cX5_does 8 = .ok (.iload_n 1, 1) := by decide +kernel
theorem dX5_does_9 : decode cX5_does 9 = .ok (.iconst (-1), 1) := by decide +kernel
theorem dX5_does_10 : decode cX5_does 10 = .ok (.if_icmp .eq 8, 3) := by decide +kernel
theorem dX5_does_13 : decode cX5_does 13 = .ok (.bipush (-10), 2) := by decide +kernel
theorem dX5_does_15 : decode cX5_does 15 = .ok (.iload_n 1, 1) := by decide +kernel
theorem dX5_does_16 : decode cX5_does 16 = .ok (.isub, 1) := by decide +kernel
theorem dX5_does_17 : decode cX5_does 17 = .ok (.ireturn, 1) := by decide +kernel
theorem dX5_does_18 : decode cX5_does 18 = .ok (.aload_n 0, 1) := by decide +kernel
theorem dX5_does_19 : decode cX5_does 19 = .ok (.getfield 29, 3) := by decide +kernel
theorem dX5_does_22 : decode cX5_does 22 = .ok (.aload_n 0, 1) := by decide +kernel
theorem dX5_does_23 : decode cX5_does 23 = .ok (.invokevirtual 64, 3) := by decide +kernel
theorem dX5_does_26 : decode cX5_does 26 = .ok (.invokevirtual 217, 3) := by decide +kernel
theorem dX5_does_29 : decode cX5_does 29 = .ok (.istore_n 2, 1) := by decide +kernel
theorem dX5_does_30 : decode cX5_does 30 = .ok (.iload_n 2, 1) := by decide +kernel
theorem dX5_does_31 : decode cX5_does 31 = .ok (.iconst (-1), 1) := by decide +kernel
theorem dX5_does_32 : decode cX5_does 32 = .ok (.if_icmp .eq 9, 3) := by decide +kernel
theorem dX5_does_35 : decode cX5_does 35 = .ok (.sipush (-1000), 3) := by decide +kernel
theorem dX5_does_38 : decode cX5_does 38 = .ok (.iload_n 2, 1) := by decide +kernel
theorem dX5_does_39 : decode cX5_does 39 = .ok (.isub, 1) := by decide +kernel
theorem dX5_does_40 : decode cX5_does 40 = .ok (.ireturn, 1) := by decide +kernel
theorem dX5_does_41 : decode cX5_does 41 = .ok (.aload_n 0, 1) := by decide +kernel
theorem dX5_does_42 : decode cX5_does 42 = .ok (.invokevirtual 221, 3) := by decide +kernel
theorem dX5_does_45 : decode cX5_does 45 = .ok (.aload_n 0, 1) := by decide +kernel
theorem dX5_does_46 : decode cX5_does 46 = .ok (.getfield 29, 3) := by decide +kernel
theorem dX5_does_49 : decode cX5_does 49 = .ok (.invokevirtual 224, 3) := by decide +kernel
theorem dX5_does_52 : decode cX5_does 52 = .ok (.ireturn, 1) := by decide +kernel
theorem dX5_back_0 : decode cX5_back 0 = .ok (.aload_n 0, 1) := by decide +kernel
theorem dX5_back_1 : decode cX5_back 1 = .ok (.getfield 22, 3) := by decide +kernel
theorem dX5_back_4 : decode cX5_back 4 = .ok (.aload_n 0, 1) := by decide +kernel
theorem dX5_back_5 : decode cX5_back 5 = .ok (.getfield 10, 3) := by decide +kernel
theorem dX5_back_8 : decode cX5_back 8 = .ok (.invokevirtual 227, 3) := by decide +kernel
theorem dX5_back_11 : decode cX5_back 11 = .ok (.ifCond .ne 10, 3) := by decide +kernel
theorem dX5_back_14 : decode cX5_back 14 = .ok (.aload_n 0, 1) := by decide +kernel
theorem dX5_back_15 : decode cX5_back 15 = .ok (.bipush (-3), 2) := by decide +kernel
theorem dX5_back_17 : decode cX5_back 17 = .ok (.invokevirtual 99, 3) := by decide +kernel
theorem dX5_back_20 : decode cX5_back 20 = .ok (.ireturn, 1) := by decide +kernel
theorem dX5_back_21 : decode cX5_back 21 = .ok (.aload_n 0, 1) := by decide +kernel
theorem dX5_back_22 : decode cX5_back 22 = .ok (.iconst 0, 1) := by decide +kernel
theorem dX5_back_23 : decode cX5_back 23 = .ok (.putfield 50, 3) := by decide +kernel
theorem dX5_back_26 : decode cX5_back 26 = .ok (.aload_n 0, 1) := by decide +kernel
theorem dX5_back_27 : decode cX5_back 27 = .ok (.getfield 22, 3) := by decide +kernel
theorem dX5_back_30 : decode cX5_back 30 = .ok (.invokevirtual 231, 3) := by decide +kernel
theorem dX5_back_33 : decode cX5_back 33 = .ok (.ireturn, 1) := by decide +kernel
theorem dX5_told_0 : decode cX5_told 0 = .ok (.iload_n 1, 1) := by decide +kernel
theorem dX5_told_1 : decode cX5_told 1 = .ok (.tableswitch 66 0 4 #[35, 40, 45, 50, 58], 35) := by decide +kernel
theorem dX5_told_36 : decode cX5_told 36 = .ok (.aload_n 0, 1) := by decide +kernel
theorem dX5_told_37 : decode cX5_told 37 = .ok (.getfield 54, 3) := by decide +kernel
theorem dX5_told_40 : decode cX5_told 40 = .ok (.ireturn, 1) := by decide +kernel
theorem dX5_told_41 : decode cX5_told 41 = .ok (.aload_n 0, 1) := by decide +kernel
theorem dX5_told_42 : decode cX5_told 42 = .ok (.getfield 58, 3) := by decide +kernel
theorem dX5_told_45 : decode cX5_told 45 = .ok (.ireturn, 1) := by decide +kernel
theorem dX5_told_46 : decode cX5_told 46 = .ok (.aload_n 0, 1) := by decide +kernel
theorem dX5_told_47 : decode cX5_told 47 = .ok (.getfield 61, 3) := by decide +kernel
theorem dX5_told_50 : decode cX5_told 50 = .ok (.ireturn, 1) := by decide +kernel
theorem dX5_told_51 : decode cX5_told 51 = .ok (.aload_n 0, 1) := by decide +kernel
theorem dX5_told_52 : decode cX5_told 52 = .ok (.getfield 29, 3) := by decide +kernel
theorem dX5_told_55 : decode cX5_told 55 = .ok (.invokevirtual 208, 3) := by decide +kernel
theorem dX5_told_58 : decode cX5_told 58 = .ok (.ireturn, 1) := by decide +kernel
theorem dX5_told_59 : decode cX5_told 59 = .ok (.aload_n 0, 1) := by decide +kernel
theorem dX5_told_60 : decode cX5_told 60 = .ok (.getfield 22, 3) := by decide +kernel
theorem dX5_told_63 : decode cX5_told 63 = .ok (.invokevirtual 231, 3) := by decide +kernel
theorem dX5_told_66 : decode cX5_told 66 = .ok (.ireturn, 1) := by decide +kernel
theorem dX5_told_67 : decode cX5_told 67 = .ok (.aload_n 0, 1) := by decide +kernel
theorem dX5_told_68 : decode cX5_told 68 = .ok (.bipush (-2), 2) := by decide +kernel
theorem dX5_told_70 : decode cX5_told 70 = .ok (.invokevirtual 99, 3) := by decide +kernel
theorem dX5_told_73 : decode cX5_told 73 = .ok (.ireturn, 1) := by decide +kernel
theorem dX5_digest_0 : decode cX5_digest 0 = .ok (.ldc2_w 232, 3) := by decide +kernel
theorem dX5_digest_3 : decode cX5_digest 3 = .ok (.lstore_n 1, 1) := by decide +kernel
theorem dX5_digest_4 : decode cX5_digest 4 = .ok (.iconst 0, 1) := by decide +kernel
theorem dX5_digest_5 : decode cX5_digest 5 = .ok (.istore_n 3, 1) := by decide +kernel
theorem dX5_digest_6 : decode cX5_digest 6 = .ok (.iload_n 3, 1) := by decide +kernel
theorem dX5_digest_7 : decode cX5_digest 7 = .ok (.iconst 5, 1) := by decide +kernel
theorem dX5_digest_8 : decode cX5_digest 8 = .ok (.if_icmp .ge 19, 3) := by decide +kernel
theorem dX5_digest_11 : decode cX5_digest 11 = .ok (.lload_n 1, 1) := by decide +kernel
theorem dX5_digest_12 : decode cX5_digest 12 = .ok (.aload_n 0, 1) := by decide +kernel
theorem dX5_digest_13 : decode cX5_digest 13 = .ok (.iload_n 3, 1) := by decide +kernel
theorem dX5_digest_14 : decode cX5_digest 14 = .ok (.invokevirtual 234, 3) := by decide +kernel
theorem dX5_digest_17 : decode cX5_digest 17 = .ok (.invokestatic 237, 3) := by decide +kernel
theorem dX5_digest_20 : decode cX5_digest 20 = .ok (.lstore_n 1, 1) := by decide +kernel
theorem dX5_digest_21 : decode cX5_digest 21 = .ok (.iinc 3 1, 3) := by decide +kernel
theorem dX5_digest_24 : decode cX5_digest 24 = .ok (.goto (-18), 3) := by decide +kernel
theorem dX5_digest_27 : decode cX5_digest 27 = .ok (.iconst 0, 1) := by decide +kernel
theorem dX5_digest_28 : decode cX5_digest 28 = .ok (.istore_n 3, 1) := by decide +kernel
theorem dX5_digest_29 : decode cX5_digest 29 = .ok (.iload_n 3, 1) := by decide +kernel
theorem dX5_digest_30 : decode cX5_digest 30 = .ok (.bipush 7, 2) := by decide +kernel
theorem dX5_digest_32 : decode cX5_digest 32 = .ok (.if_icmp .ge 19, 3) := by decide +kernel
theorem dX5_digest_35 : decode cX5_digest 35 = .ok (.lload_n 1, 1) := by decide +kernel
theorem dX5_digest_36 : decode cX5_digest 36 = .ok (.aload_n 0, 1) := by decide +kernel
theorem dX5_digest_37 : decode cX5_digest 37 = .ok (.iload_n 3, 1) := by decide +kernel
theorem dX5_digest_38 : decode cX5_digest 38 = .ok (.invokevirtual 241, 3) := by decide +kernel
theorem dX5_digest_41 : decode cX5_digest 41 = .ok (.invokestatic 237, 3) := by decide +kernel
theorem dX5_digest_44 : decode cX5_digest 44 = .ok (.lstore_n 1, 1) := by decide +kernel
theorem dX5_digest_45 : decode cX5_digest 45 = .ok (.iinc 3 1, 3) := by decide +kernel
theorem dX5_digest_48 : decode cX5_digest 48 = .ok (.goto (-19), 3) := by decide +kernel
theorem dX5_digest_51 : decode cX5_digest 51 = .ok (.iconst 0, 1) := by decide +kernel
theorem dX5_digest_52 : decode cX5_digest 52 = .ok (.istore_n 3, 1) := by decide +kernel
theorem dX5_digest_53 : decode cX5_digest 53 = .ok (.iload_n 3, 1) := by decide +kernel
theorem dX5_digest_54 : decode cX5_digest 54 = .ok (.bipush 7, 2) := by decide +kernel
theorem dX5_digest_56 : decode cX5_digest 56 = .ok (.if_icmp .ge 22, 3) := by decide +kernel
theorem dX5_digest_59 : decode cX5_digest 59 = .ok (.lload_n 1, 1) := by decide +kernel
theorem dX5_digest_60 : decode cX5_digest 60 = .ok (.aload_n 0, 1) := by decide +kernel
theorem dX5_digest_61 : decode cX5_digest 61 = .ok (.getfield 10, 3) := by decide +kernel
theorem dX5_digest_64 : decode cX5_digest 64 = .ok (.iload_n 3, 1) := by decide +kernel
theorem dX5_digest_65 : decode cX5_digest 65 = .ok (.invokevirtual 108, 3) := by decide +kernel
theorem dX5_digest_68 : decode cX5_digest 68 = .ok (.invokestatic 237, 3) := by decide +kernel
theorem dX5_digest_71 : decode cX5_digest 71 = .ok (.lstore_n 1, 1) := by decide +kernel
theorem dX5_digest_72 : decode cX5_digest 72 = .ok (.iinc 3 1, 3) := by decide +kernel
theorem dX5_digest_75 : decode cX5_digest 75 = .ok (.goto (-22), 3) := by decide +kernel
theorem dX5_digest_78 : decode cX5_digest 78 = .ok (.iconst 0, 1) := by decide +kernel
theorem dX5_digest_79 : decode cX5_digest 79 = .ok (.istore_n 3, 1) := by decide +kernel
theorem dX5_digest_80 : decode cX5_digest 80 = .ok (.iload_n 3, 1) := by decide +kernel
theorem dX5_digest_81 : decode cX5_digest 81 = .ok (.aload_n 0, 1) := by decide +kernel
theorem dX5_digest_82 : decode cX5_digest 82 = .ok (.getfield 10, 3) := by decide +kernel
theorem dX5_digest_85 : decode cX5_digest 85 = .ok (.invokevirtual 163, 3) := by decide +kernel
theorem dX5_digest_88 : decode cX5_digest 88 = .ok (.if_icmp .ge 16, 3) := by decide +kernel
theorem dX5_digest_91 : decode cX5_digest 91 = .ok (.aload_n 0, 1) := by decide +kernel
theorem dX5_digest_92 : decode cX5_digest 92 = .ok (.lload_n 1, 1) := by decide +kernel
theorem dX5_digest_93 : decode cX5_digest 93 = .ok (.iload_n 3, 1) := by decide +kernel
theorem dX5_digest_94 : decode cX5_digest 94 = .ok (.invokevirtual 244, 3) := by decide +kernel
theorem dX5_digest_97 : decode cX5_digest 97 = .ok (.lstore_n 1, 1) := by decide +kernel
theorem dX5_digest_98 : decode cX5_digest 98 = .ok (.iinc 3 1, 3) := by decide +kernel
theorem dX5_digest_101 : decode cX5_digest 101 = .ok (.goto (-21), 3) := by decide +kernel
theorem dX5_digest_104 : decode cX5_digest 104 = .ok (.iconst 0, 1) := by decide +kernel
theorem dX5_digest_105 : decode cX5_digest 105 = .ok (.istore_n 3, 1) := by decide +kernel
theorem dX5_digest_106 : decode cX5_digest 106 = .ok (.iload_n 3, 1) := by decide +kernel
theorem dX5_digest_107 : decode cX5_digest 107 = .ok (.aload_n 0, 1) := by decide +kernel
theorem dX5_digest_108 : decode cX5_digest 108 = .ok (.getfield 10, 3) := by decide +kernel
theorem dX5_digest_111 : decode cX5_digest 111 = .ok (.invokevirtual 167, 3) := by decide +kernel
theorem dX5_digest_114 : decode cX5_digest 114 = .ok (.if_icmp .ge 36, 3) := by decide +kernel
theorem dX5_digest_117 : decode cX5_digest 117 = .ok (.iconst 0, 1) := by decide +kernel
theorem dX5_digest_118 : decode cX5_digest 118 = .ok (.istore 4, 2) := by decide +kernel
theorem dX5_digest_120 : decode cX5_digest 120 = .ok (.iload 4, 2) := by decide +kernel
theorem dX5_digest_122 : decode cX5_digest 122 = .ok (.iconst 4, 1) := by decide +kernel
theorem dX5_digest_123 : decode cX5_digest 123 = .ok (.if_icmp .ge 21, 3) := by decide +kernel
theorem dX5_digest_126 : decode cX5_digest 126 = .ok (.lload_n 1, 1) := by decide +kernel
theorem dX5_digest_127 : decode cX5_digest 127 = .ok (.aload_n 0, 1) := by decide +kernel
theorem dX5_digest_128 : decode cX5_digest 128 = .ok (.iload_n 3, 1) := by decide +kernel
theorem dX5_digest_129 : decode cX5_digest 129 = .ok (.iload 4, 2) := by decide +kernel
theorem dX5_digest_131 : decode cX5_digest 131 = .ok (.invokevirtual 247, 3) := by decide +kernel
theorem dX5_digest_134 : decode cX5_digest 134 = .ok (.invokestatic 237, 3) := by decide +kernel
theorem dX5_digest_137 : decode cX5_digest 137 = .ok (.lstore_n 1, 1) := by decide +kernel
theorem dX5_digest_138 : decode cX5_digest 138 = .ok (.iinc 4 1, 3) := by decide +kernel
theorem dX5_digest_141 : decode cX5_digest 141 = .ok (.goto (-21), 3) := by decide +kernel
theorem dX5_digest_144 : decode cX5_digest 144 = .ok (.iinc 3 1, 3) := by decide +kernel
theorem dX5_digest_147 : decode cX5_digest 147 = .ok (.goto (-41), 3) := by decide +kernel
theorem dX5_digest_150 : decode cX5_digest 150 = .ok (.lload_n 1, 1) := by decide +kernel
theorem dX5_digest_151 : decode cX5_digest 151 = .ok (.aload_n 0, 1) := by decide +kernel
theorem dX5_digest_152 : decode cX5_digest 152 = .ok (.invokevirtual 250, 3) := by decide +kernel
theorem dX5_digest_155 : decode cX5_digest 155 = .ok (.invokestatic 237, 3) := by decide +kernel
theorem dX5_digest_158 : decode cX5_digest 158 = .ok (.aload_n 0, 1) := by decide +kernel
theorem dX5_digest_159 : decode cX5_digest 159 = .ok (.invokevirtual 253, 3) := by decide +kernel
theorem dX5_digest_162 : decode cX5_digest 162 = .ok (.invokestatic 237, 3) := by decide +kernel
theorem dX5_digest_165 : decode cX5_digest 165 = .ok (.aload_n 0, 1) := by decide +kernel
theorem dX5_digest_166 : decode cX5_digest 166 = .ok (.invokevirtual 256, 3) := by decide +kernel
theorem dX5_digest_169 : decode cX5_digest 169 = .ok (.invokestatic 237, 3) := by decide +kernel
theorem dX5_digest_172 : decode cX5_digest 172 = .ok (.lstore_n 1, 1) := by decide +kernel
theorem dX5_digest_173 : decode cX5_digest 173 = .ok (.aload_n 0, 1) := by decide +kernel
theorem dX5_digest_174 : decode cX5_digest 174 = .ok (.invokevirtual 148, 3) := by decide +kernel
theorem dX5_digest_177 : decode cX5_digest 177 = .ok (.invokevirtual 152, 3) := by decide +kernel
theorem dX5_digest_180 : decode cX5_digest 180 = .ok (.ifCond .eq 11, 3) := by decide +kernel
theorem dX5_digest_183 : decode cX5_digest 183 = .ok (.aload_n 0, 1) := by decide +kernel
theorem dX5_digest_184 : decode cX5_digest 184 = .ok (.lload_n 1, 1) := by decide +kernel
theorem dX5_digest_185 : decode cX5_digest 185 = .ok (.invokevirtual 259, 3) := by decide +kernel
theorem dX5_digest_188 : decode cX5_digest 188 = .ok (.goto 4, 3) := by decide +kernel
theorem dX5_digest_191 : decode cX5_digest 191 = .ok (.lload_n 1, 1) := by decide +kernel
theorem dX5_digest_192 : decode cX5_digest 192 = .ok (.lreturn, 1) := by decide +kernel
theorem dX5_mixed_0 : decode cX5_mixed 0 = .ok (.ldc2_w 263, 3) := by decide +kernel
theorem dX5_mixed_3 : decode cX5_mixed 3 = .ok (.lload_n 0, 1) := by decide +kernel
theorem dX5_mixed_4 : decode cX5_mixed 4 = .ok (.lmul, 1) := by decide +kernel
theorem dX5_mixed_5 : decode cX5_mixed 5 = .ok (.iload_n 2, 1) := by decide +kernel
theorem dX5_mixed_6 : decode cX5_mixed 6 = .ok (.i2l, 1) := by decide +kernel
theorem dX5_mixed_7 : decode cX5_mixed 7 = .ok (.ladd, 1) := by decide +kernel
theorem dX5_mixed_8 : decode cX5_mixed 8 = .ok (.lreturn, 1) := by decide +kernel
theorem dX5_mixedLine_0 : decode cX5_mixedLine 0 = .ok (.lload_n 1, 1) := by decide +kernel
theorem dX5_mixedLine_1 : decode cX5_mixedLine 1 = .ok (.lstore 4, 2) := by decide +kernel
theorem dX5_mixedLine_3 : decode cX5_mixedLine 3 = .ok (.iconst 0, 1) := by decide +kernel
theorem dX5_mixedLine_4 : decode cX5_mixedLine 4 = .ok (.istore 6, 2) := by decide +kernel
theorem dX5_mixedLine_6 : decode cX5_mixedLine 6 = .ok (.iload 6, 2) := by decide +kernel
theorem dX5_mixedLine_8 : decode cX5_mixedLine 8 = .ok (.bipush 7, 2) := by decide +kernel
theorem dX5_mixedLine_10 : decode cX5_mixedLine 10 = .ok (.if_icmp .ge 23, 3) := by decide +kernel
theorem dX5_mixedLine_13 : decode cX5_mixedLine 13 = .ok (.lload 4, 2) := by decide +kernel
theorem dX5_mixedLine_15 : decode cX5_mixedLine 15 = .ok (.aload_n 0, 1) := by decide +kernel
theorem dX5_mixedLine_16 : decode cX5_mixedLine 16 = .ok (.iload_n 3, 1) := by decide +kernel
theorem dX5_mixedLine_17 : decode cX5_mixedLine 17 = .ok (.iload 6, 2) := by decide +kernel
theorem dX5_mixedLine_19 : decode cX5_mixedLine 19 = .ok (.invokevirtual 265, 3) := by decide +kernel
theorem dX5_mixedLine_22 : decode cX5_mixedLine 22 = .ok (.invokestatic 237, 3) := by decide +kernel
theorem dX5_mixedLine_25 : decode cX5_mixedLine 25 = .ok (.lstore 4, 2) := by decide +kernel
theorem dX5_mixedLine_27 : decode cX5_mixedLine 27 = .ok (.iinc 6 1, 3) := by decide +kernel
theorem dX5_mixedLine_30 : decode cX5_mixedLine 30 = .ok (.goto (-24), 3) := by decide +kernel
theorem dX5_mixedLine_33 : decode cX5_mixedLine 33 = .ok (.iconst 0, 1) := by decide +kernel
theorem dX5_mixedLine_34 : decode cX5_mixedLine 34 = .ok (.istore 6, 2) := by decide +kernel
theorem dX5_mixedLine_36 : decode cX5_mixedLine 36 = .ok (.iload 6, 2) := by decide +kernel
theorem dX5_mixedLine_38 : decode cX5_mixedLine 38 = .ok (.aload_n 0, 1) := by decide +kernel
theorem dX5_mixedLine_39 : decode cX5_mixedLine 39 = .ok (.getfield 10, 3) := by decide +kernel
theorem dX5_mixedLine_42 : decode cX5_mixedLine 42 = .ok (.iload_n 3, 1) := by decide +kernel
theorem dX5_mixedLine_43 : decode cX5_mixedLine 43 = .ok (.invokevirtual 102, 3) := by decide +kernel
theorem dX5_mixedLine_46 : decode cX5_mixedLine 46 = .ok (.if_icmp .ge 40, 3) := by decide +kernel
theorem dX5_mixedLine_49 : decode cX5_mixedLine 49 = .ok (.iconst 0, 1) := by decide +kernel
theorem dX5_mixedLine_50 : decode cX5_mixedLine 50 = .ok (.istore 7, 2) := by decide +kernel
theorem dX5_mixedLine_52 : decode cX5_mixedLine 52 = .ok (.iload 7, 2) := by decide +kernel
theorem dX5_mixedLine_54 : decode cX5_mixedLine 54 = .ok (.iconst 3, 1) := by decide +kernel
theorem dX5_mixedLine_55 : decode cX5_mixedLine 55 = .ok (.if_icmp .ge 25, 3) := by decide +kernel
theorem dX5_mixedLine_58 : decode cX5_mixedLine 58 = .ok (.lload 4, 2) := by decide +kernel
theorem dX5_mixedLine_60 : decode cX5_mixedLine 60 = .ok (.aload_n 0, 1) := by decide +kernel
theorem dX5_mixedLine_61 : decode cX5_mixedLine 61 = .ok (.iload_n 3, 1) := by decide +kernel
theorem dX5_mixedLine_62 : decode cX5_mixedLine 62 = .ok (.iload 6, 2) := by decide +kernel
theorem dX5_mixedLine_64 : decode cX5_mixedLine 64 = .ok (.iload 7, 2) := by decide +kernel
theorem dX5_mixedLine_66 : decode cX5_mixedLine 66 = .ok (.invokevirtual 268, 3) := by decide +kernel
theorem dX5_mixedLine_69 : decode cX5_mixedLine 69 = .ok (.invokestatic 237, 3) := by decide +kernel
theorem dX5_mixedLine_72 : decode cX5_mixedLine 72 = .ok (.lstore 4, 2) := by decide +kernel
theorem dX5_mixedLine_74 : decode cX5_mixedLine 74 = .ok (.iinc 7 1, 3) := by decide +kernel
theorem dX5_mixedLine_77 : decode cX5_mixedLine 77 = .ok (.goto (-25), 3) := by decide +kernel
theorem dX5_mixedLine_80 : decode cX5_mixedLine 80 = .ok (.iinc 6 1, 3) := by decide +kernel
theorem dX5_mixedLine_83 : decode cX5_mixedLine 83 = .ok (.goto (-47), 3) := by decide +kernel
theorem dX5_mixedLine_86 : decode cX5_mixedLine 86 = .ok (.lload 4, 2) := by decide +kernel
theorem dX5_mixedLine_88 : decode cX5_mixedLine 88 = .ok (.aload_n 0, 1) := by decide +kernel
theorem dX5_mixedLine_89 : decode cX5_mixedLine 89 = .ok (.iload_n 3, 1) := by decide +kernel
theorem dX5_mixedLine_90 : decode cX5_mixedLine 90 = .ok (.invokevirtual 271, 3) := by decide +kernel
theorem dX5_mixedLine_93 : decode cX5_mixedLine 93 = .ok (.invokestatic 237, 3) := by decide +kernel
theorem dX5_mixedLine_96 : decode cX5_mixedLine 96 = .ok (.lreturn, 1) := by decide +kernel
theorem dX5_mixedHumps_0 : decode cX5_mixedHumps 0 = .ok (.lload_n 1, 1) := by decide +kernel
theorem dX5_mixedHumps_1 : decode cX5_mixedHumps 1 = .ok (.lstore_n 3, 1) := by decide +kernel
theorem dX5_mixedHumps_2 : decode cX5_mixedHumps 2 = .ok (.iconst 0, 1) := by decide +kernel
theorem dX5_mixedHumps_3 : decode cX5_mixedHumps 3 = .ok (.istore 5, 2) := by decide +kernel
theorem dX5_mixedHumps_5 : decode cX5_mixedHumps 5 = .ok (.iload 5, 2) := by decide +kernel
theorem dX5_mixedHumps_7 : decode cX5_mixedHumps 7 = .ok (.aload_n 0, 1) := by decide +kernel
theorem dX5_mixedHumps_8 : decode cX5_mixedHumps 8 = .ok (.getfield 10, 3) := by decide +kernel
theorem dX5_mixedHumps_11 : decode cX5_mixedHumps 11 = .ok (.invokevirtual 163, 3) := by decide +kernel
theorem dX5_mixedHumps_14 : decode cX5_mixedHumps 14 = .ok (.if_icmp .ge 46, 3) := by decide +kernel
theorem dX5_mixedHumps_17 : decode cX5_mixedHumps 17 = .ok (.iconst 0, 1) := by decide +kernel
theorem dX5_mixedHumps_18 : decode cX5_mixedHumps 18 = .ok (.istore 6, 2) := by decide +kernel
theorem dX5_mixedHumps_20 : decode cX5_mixedHumps 20 = .ok (.iload 6, 2) := by decide +kernel
theorem dX5_mixedHumps_22 : decode cX5_mixedHumps 22 = .ok (.aload_n 0, 1) := by decide +kernel
theorem dX5_mixedHumps_23 : decode cX5_mixedHumps 23 = .ok (.getfield 10, 3) := by decide +kernel
theorem dX5_mixedHumps_26 : decode cX5_mixedHumps 26 = .ok (.invokevirtual 167, 3) := by decide +kernel
theorem dX5_mixedHumps_29 : decode cX5_mixedHumps 29 = .ok (.if_icmp .ge 25, 3) := by decide +kernel
theorem dX5_mixedHumps_32 : decode cX5_mixedHumps 32 = .ok (.lload_n 3, 1) := by decide +kernel
theorem dX5_mixedHumps_33 : decode cX5_mixedHumps 33 = .ok (.aload_n 0, 1) := by decide +kernel
theorem dX5_mixedHumps_34 : decode cX5_mixedHumps 34 = .ok (.invokevirtual 148, 3) := by decide +kernel
theorem dX5_mixedHumps_37 : decode cX5_mixedHumps 37 = .ok (.iload 5, 2) := by decide +kernel
theorem dX5_mixedHumps_39 : decode cX5_mixedHumps 39 = .ok (.iload 6, 2) := by decide +kernel
theorem dX5_mixedHumps_41 : decode cX5_mixedHumps 41 = .ok (.invokevirtual 182, 3) := by decide +kernel
theorem dX5_mixedHumps_44 : decode cX5_mixedHumps 44 = .ok (.invokestatic 237, 3) := by decide +kernel
theorem dX5_mixedHumps_47 : decode cX5_mixedHumps 47 = .ok (.lstore_n 3, 1) := by decide +kernel
theorem dX5_mixedHumps_48 : decode cX5_mixedHumps 48 = .ok (.iinc 6 1, 3) := by decide +kernel
theorem dX5_mixedHumps_51 : decode cX5_mixedHumps 51 = .ok (.goto (-31), 3) := by decide +kernel
theorem dX5_mixedHumps_54 : decode cX5_mixedHumps 54 = .ok (.iinc 5 1, 3) := by decide +kernel
theorem dX5_mixedHumps_57 : decode cX5_mixedHumps 57 = .ok (.goto (-52), 3) := by decide +kernel
theorem dX5_mixedHumps_60 : decode cX5_mixedHumps 60 = .ok (.lload_n 3, 1) := by decide +kernel
theorem dX5_mixedHumps_61 : decode cX5_mixedHumps 61 = .ok (.lreturn, 1) := by decide +kernel
theorem dX5_draft_0 : decode cX5_draft 0 = .ok (.aload_n 0, 1) := by decide +kernel
theorem dX5_draft_1 : decode cX5_draft 1 = .ok (.getfield 16, 3) := by decide +kernel
theorem dX5_draft_4 : decode cX5_draft 4 = .ok (.aload_n 0, 1) := by decide +kernel
theorem dX5_draft_5 : decode cX5_draft 5 = .ok (.getfield 10, 3) := by decide +kernel
theorem dX5_draft_8 : decode cX5_draft 8 = .ok (.invokevirtual 274, 3) := by decide +kernel
theorem dX5_draft_11 : decode cX5_draft 11 = .ok (.aload_n 0, 1) := by decide +kernel
theorem dX5_draft_12 : decode cX5_draft 12 = .ok (.getfield 16, 3) := by decide +kernel
theorem dX5_draft_15 : decode cX5_draft 15 = .ok (.areturn, 1) := by decide +kernel
theorem dX5_settled_0 : decode cX5_settled 0 = .ok (.iload_n 1, 1) := by decide +kernel
theorem dX5_settled_1 : decode cX5_settled 1 = .ok (.ifCond .ge 9, 3) := by decide +kernel
theorem dX5_settled_4 : decode cX5_settled 4 = .ok (.aload_n 0, 1) := by decide +kernel
theorem dX5_settled_5 : decode cX5_settled 5 = .ok (.iload_n 1, 1) := by decide +kernel
theorem dX5_settled_6 : decode cX5_settled 6 = .ok (.invokevirtual 99, 3) := by decide +kernel
theorem dX5_settled_9 : decode cX5_settled 9 = .ok (.ireturn, 1) := by decide +kernel
theorem dX5_settled_10 : decode cX5_settled 10 = .ok (.aload_n 0, 1) := by decide +kernel
theorem dX5_settled_11 : decode cX5_settled 11 = .ok (.invokevirtual 221, 3) := by decide +kernel
theorem dX5_settled_14 : decode cX5_settled 14 = .ok (.iload_n 1, 1) := by decide +kernel
theorem dX5_settled_15 : decode cX5_settled 15 = .ok (.ireturn, 1) := by decide +kernel
theorem dX5_accept_0 : decode cX5_accept 0 = .ok (.aload_n 0, 1) := by decide +kernel
theorem dX5_accept_1 : decode cX5_accept 1 = .ok (.getfield 22, 3) := by decide +kernel
theorem dX5_accept_4 : decode cX5_accept 4 = .ok (.aload_n 0, 1) := by decide +kernel
theorem dX5_accept_5 : decode cX5_accept 5 = .ok (.getfield 10, 3) := by decide +kernel
theorem dX5_accept_8 : decode cX5_accept 8 = .ok (.invokevirtual 278, 3) := by decide +kernel
theorem dX5_accept_11 : decode cX5_accept 11 = .ok (.aload_n 0, 1) := by decide +kernel
theorem dX5_accept_12 : decode cX5_accept 12 = .ok (.getfield 10, 3) := by decide +kernel
theorem dX5_accept_15 : decode cX5_accept 15 = .ok (.aload_n 0, 1) := by decide +kernel
theorem dX5_accept_16 : decode cX5_accept 16 = .ok (.getfield 16, 3) := by decide +kernel
theorem dX5_accept_19 : decode cX5_accept 19 = .ok (.invokevirtual 274, 3) := by decide +kernel
theorem dX5_accept_22 : decode cX5_accept 22 = .ok (.aload_n 0, 1) := by decide +kernel
theorem dX5_accept_23 : decode cX5_accept 23 = .ok (.iconst 0, 1) := by decide +kernel
theorem dX5_accept_24 : decode cX5_accept 24 = .ok (.putfield 50, 3) := by decide +kernel
theorem dX5_accept_27 : decode cX5_accept 27 = .ok (.return_, 1) := by decide +kernel
theorem dX5_refused_0 : decode cX5_refused 0 = .ok (.iload_n 1, 1) := by decide +kernel
theorem dX5_refused_1 : decode cX5_refused 1 = .ok (.bipush (-2), 2) := by decide +kernel
theorem dX5_refused_3 : decode cX5_refused 3 = .ok (.if_icmp .ne 16, 3) := by decide +kernel
theorem dX5_refused_6 : decode cX5_refused 6 = .ok (.aload_n 0, 1) := by decide +kernel
theorem dX5_refused_7 : decode cX5_refused 7 = .ok (.dup, 1) := by decide +kernel
theorem dX5_refused_8 : decode cX5_refused 8 = .ok (.getfield 54, 3) := by decide +kernel
theorem dX5_refused_11 : decode cX5_refused 11 = .ok (.iconst 1, 1) := by decide +kernel
theorem dX5_refused_12 : decode cX5_refused 12 = .ok (.iadd, 1) := by decide +kernel
theorem dX5_refused_13 : decode cX5_refused 13 = .ok (.putfield 54, 3) := by decide +kernel
theorem dX5_refused_16 : decode cX5_refused 16 = .ok (.goto 38, 3) := by decide +kernel
theorem dX5_refused_19 : decode cX5_refused 19 = .ok (.iload_n 1, 1) := by decide +kernel
theorem dX5_refused_20 : decode cX5_refused 20 = .ok (.bipush (-3), 2) := by decide +kernel
theorem dX5_refused_22 : decode cX5_refused 22 = .ok (.if_icmp .ne 16, 3) := by decide +kernel
theorem dX5_refused_25 : decode cX5_refused 25 = .ok (.aload_n 0, 1) := by decide +kernel
theorem dX5_refused_26 : decode cX5_refused 26 = .ok (.dup, 1) := by decide +kernel
theorem dX5_refused_27 : decode cX5_refused 27 = .ok (.getfield 58, 3) := by decide +kernel
theorem dX5_refused_30 : decode cX5_refused 30 = .ok (.iconst 1, 1) := by decide +kernel
theorem dX5_refused_31 : decode cX5_refused 31 = .ok (.iadd, 1) := by decide +kernel
theorem dX5_refused_32 : decode cX5_refused 32 = .ok (.putfield 58, 3) := by decide +kernel
theorem dX5_refused_35 : decode cX5_refused 35 = .ok (.goto 19, 3) := by decide +kernel
theorem dX5_refused_38 : decode cX5_refused 38 = .ok (.iload_n 1, 1) := by decide +kernel
theorem dX5_refused_39 : decode cX5_refused 39 = .ok (.bipush (-4), 2) := by decide +kernel
theorem dX5_refused_41 : decode cX5_refused 41 = .ok (.if_icmp .ne 13, 3) := by decide +kernel
theorem dX5_refused_44 : decode cX5_refused 44 = .ok (.aload_n 0, 1) := by decide +kernel
theorem dX5_refused_45 : decode cX5_refused 45 = .ok (.dup, 1) := by decide +kernel
theorem dX5_refused_46 : decode cX5_refused 46 = .ok (.getfield 61, 3) := by decide +kernel
theorem dX5_refused_49 : decode cX5_refused 49 = .ok (.iconst 1, 1) := by decide +kernel
theorem dX5_refused_50 : decode cX5_refused 50 = .ok (.iadd, 1) := by decide +kernel
theorem dX5_refused_51 : decode cX5_refused 51 = .ok (.putfield 61, 3) := by decide +kernel
theorem dX5_refused_54 : decode cX5_refused 54 = .ok (.iload_n 1, 1) := by decide +kernel
theorem dX5_refused_55 : decode cX5_refused 55 = .ok (.ireturn, 1) := by decide +kernel
theorem dX5_fitsBy_0 : decode cX5_fitsBy 0 = .ok (.aload_n 0, 1) := by decide +kernel
theorem dX5_fitsBy_1 : decode cX5_fitsBy 1 = .ok (.getfield 40, 3) := by decide +kernel
theorem dX5_fitsBy_4 : decode cX5_fitsBy 4 = .ok (.aload_n 0, 1) := by decide +kernel
theorem dX5_fitsBy_5 : decode cX5_fitsBy 5 = .ok (.getfield 10, 3) := by decide +kernel
theorem dX5_fitsBy_8 : decode cX5_fitsBy 8 = .ok (.iload_n 1, 1) := by decide +kernel
theorem dX5_fitsBy_9 : decode cX5_fitsBy 9 = .ok (.invokevirtual 191, 3) := by decide +kernel
theorem dX5_fitsBy_12 : decode cX5_fitsBy 12 = .ok (.aload_n 0, 1) := by decide +kernel
theorem dX5_fitsBy_13 : decode cX5_fitsBy 13 = .ok (.getfield 40, 3) := by decide +kernel
theorem dX5_fitsBy_16 : decode cX5_fitsBy 16 = .ok (.invokevirtual 281, 3) := by decide +kernel
theorem dX5_fitsBy_19 : decode cX5_fitsBy 19 = .ok (.ireturn, 1) := by decide +kernel
theorem dX5_plan_0 : decode cX5_plan 0 = .ok (.aload_n 0, 1) := by decide +kernel
theorem dX5_plan_1 : decode cX5_plan 1 = .ok (.getfield 50, 3) := by decide +kernel
theorem dX5_plan_4 : decode cX5_plan 4 = .ok (.ifCond .ne 71, 3) := by decide +kernel
theorem dX5_plan_7 : decode cX5_plan 7 = .ok (.aload_n 0, 1) := by decide +kernel
theorem dX5_plan_8 : decode cX5_plan 8 = .ok (.getfield 36, 3) := by decide +kernel
theorem dX5_plan_11 : decode cX5_plan 11 = .ok (.aload_n 0, 1) := by decide +kernel
theorem dX5_plan_12 : decode cX5_plan 12 = .ok (.getfield 10, 3) := by decide +kernel
theorem dX5_plan_15 : decode cX5_plan 15 = .ok (.aload_n 0, 1) := by decide +kernel
theorem dX5_plan_16 : decode cX5_plan 16 = .ok (.getfield 10, 3) := by decide +kernel
theorem dX5_plan_19 : decode cX5_plan 19 = .ok (.iconst 4, 1) := by decide +kernel
theorem dX5_plan_20 : decode cX5_plan 20 = .ok (.invokevirtual 108, 3) := by decide +kernel
theorem dX5_plan_23 : decode cX5_plan 23 = .ok (.invokevirtual 191, 3) := by decide +kernel
theorem dX5_plan_26 : decode cX5_plan 26 = .ok (.aload_n 0, 1) := by decide +kernel
theorem dX5_plan_27 : decode cX5_plan 27 = .ok (.getfield 36, 3) := by decide +kernel
theorem dX5_plan_30 : decode cX5_plan 30 = .ok (.invokevirtual 284, 3) := by decide +kernel
theorem dX5_plan_33 : decode cX5_plan 33 = .ok (.iconst 0, 1) := by decide +kernel
theorem dX5_plan_34 : decode cX5_plan 34 = .ok (.istore_n 1, 1) := by decide +kernel
theorem dX5_plan_35 : decode cX5_plan 35 = .ok (.iload_n 1, 1) := by decide +kernel
theorem dX5_plan_36 : decode cX5_plan 36 = .ok (.aload_n 0, 1) := by decide +kernel
theorem dX5_plan_37 : decode cX5_plan 37 = .ok (.getfield 10, 3) := by decide +kernel
theorem dX5_plan_40 : decode cX5_plan 40 = .ok (.invokevirtual 163, 3) := by decide +kernel
theorem dX5_plan_43 : decode cX5_plan 43 = .ok (.if_icmp .ge 27, 3) := by decide +kernel
theorem dX5_plan_46 : decode cX5_plan 46 = .ok (.aload_n 0, 1) := by decide +kernel
theorem dX5_plan_47 : decode cX5_plan 47 = .ok (.getfield 36, 3) := by decide +kernel
theorem dX5_plan_50 : decode cX5_plan 50 = .ok (.invokevirtual 152, 3) := by decide +kernel
theorem dX5_plan_53 : decode cX5_plan 53 = .ok (.ifCond .eq 17, 3) := by decide +kernel
theorem dX5_plan_56 : decode cX5_plan 56 = .ok (.aload_n 0, 1) := by decide +kernel
theorem dX5_plan_57 : decode cX5_plan 57 = .ok (.getfield 36, 3) := by decide +kernel
theorem dX5_plan_60 : decode cX5_plan 60 = .ok (.iload_n 1, 1) := by decide +kernel
theorem dX5_plan_61 : decode cX5_plan 61 = .ok (.invokevirtual 287, 3) := by decide +kernel
theorem dX5_plan_64 : decode cX5_plan 64 = .ok (.iinc 1 1, 3) := by decide +kernel
theorem dX5_plan_67 : decode cX5_plan 67 = .ok (.goto (-32), 3) := by decide +kernel
theorem dX5_plan_70 : decode cX5_plan 70 = .ok (.aload_n 0, 1) := by decide +kernel
theorem dX5_plan_71 : decode cX5_plan 71 = .ok (.iconst 1, 1) := by decide +kernel
theorem dX5_plan_72 : decode cX5_plan 72 = .ok (.putfield 50, 3) := by decide +kernel
theorem dX5_plan_75 : decode cX5_plan 75 = .ok (.aload_n 0, 1) := by decide +kernel
theorem dX5_plan_76 : decode cX5_plan 76 = .ok (.getfield 36, 3) := by decide +kernel
theorem dX5_plan_79 : decode cX5_plan 79 = .ok (.areturn, 1) := by decide +kernel
theorem dX5_within_0 : decode cX5_within 0 = .ok (.iload_n 0, 1) := by decide +kernel
theorem dX5_within_1 : decode cX5_within 1 = .ok (.iload_n 1, 1) := by decide +kernel
theorem dX5_within_2 : decode cX5_within 2 = .ok (.if_icmp .lt 12, 3) := by decide +kernel
theorem dX5_within_5 : decode cX5_within 5 = .ok (.iload_n 0, 1) := by decide +kernel
theorem dX5_within_6 : decode cX5_within 6 = .ok (.iload_n 2, 1) := by decide +kernel
theorem dX5_within_7 : decode cX5_within 7 = .ok (.if_icmp .gt 7, 3) := by decide +kernel
theorem dX5_within_10 : decode cX5_within 10 = .ok (.iconst 1, 1) := by decide +kernel
theorem dX5_within_11 : decode cX5_within 11 = .ok (.goto 4, 3) := by decide +kernel
theorem dX5_within_14 : decode cX5_within 14 = .ok (.iconst 0, 1) := by decide +kernel
theorem dX5_within_15 : decode cX5_within 15 = .ok (.ireturn, 1) := by decide +kernel
theorem dX5_hasBit_0 : decode cX5_hasBit 0 = .ok (.iload_n 0, 1) := by decide +kernel
theorem dX5_hasBit_1 : decode cX5_hasBit 1 = .ok (.iload_n 1, 1) := by decide +kernel
theorem dX5_hasBit_2 : decode cX5_hasBit 2 = .ok (.ishr, 1) := by decide +kernel
theorem dX5_hasBit_3 : decode cX5_hasBit 3 = .ok (.iconst 1, 1) := by decide +kernel
theorem dX5_hasBit_4 : decode cX5_hasBit 4 = .ok (.iand, 1) := by decide +kernel
theorem dX5_hasBit_5 : decode cX5_hasBit 5 = .ok (.iconst 1, 1) := by decide +kernel
theorem dX5_hasBit_6 : decode cX5_hasBit 6 = .ok (.if_icmp .ne 7, 3) := by decide +kernel
theorem dX5_hasBit_9 : decode cX5_hasBit 9 = .ok (.iconst 1, 1) := by decide +kernel
theorem dX5_hasBit_10 : decode cX5_hasBit 10 = .ok (.goto 4, 3) := by decide +kernel
theorem dX5_hasBit_13 : decode cX5_hasBit 13 = .ok (.iconst 0, 1) := by decide +kernel
theorem dX5_hasBit_14 : decode cX5_hasBit 14 = .ok (.ireturn, 1) := by decide +kernel
theorem dX5_at_0 : decode cX5_at 0 = .ok (.iload_n 1, 1) := by decide +kernel
theorem dX5_at_1 : decode cX5_at 1 = .ok (.ifCond .lt 15, 3) := by decide +kernel
theorem dX5_at_4 : decode cX5_at 4 = .ok (.iload_n 1, 1) := by decide +kernel
theorem dX5_at_5 : decode cX5_at 5 = .ok (.aload_n 0, 1) := by decide +kernel
theorem dX5_at_6 : decode cX5_at 6 = .ok (.arraylength, 1) := by decide +kernel
theorem dX5_at_7 : decode cX5_at 7 = .ok (.if_icmp .ge 9, 3) := by decide +kernel
theorem dX5_at_10 : decode cX5_at 10 = .ok (.aload_n 0, 1) := by decide +kernel
theorem dX5_at_11 : decode cX5_at 11 = .ok (.iload_n 1, 1) := by decide +kernel
theorem dX5_at_12 : decode cX5_at 12 = .ok (.iaload, 1) := by decide +kernel
theorem dX5_at_13 : decode cX5_at 13 = .ok (.goto 4, 3) := by decide +kernel
theorem dX5_at_16 : decode cX5_at 16 = .ok (.iconst 0, 1) := by decide +kernel
theorem dX5_at_17 : decode cX5_at 17 = .ok (.ireturn, 1) := by decide +kernel
theorem dX5_put_0 : decode cX5_put 0 = .ok (.iload_n 1, 1) := by decide +kernel
theorem dX5_put_1 : decode cX5_put 1 = .ok (.ifCond .lt 13, 3) := by decide +kernel
theorem dX5_put_4 : decode cX5_put 4 = .ok (.iload_n 1, 1) := by decide +kernel
theorem dX5_put_5 : decode cX5_put 5 = .ok (.aload_n 0, 1) := by decide +kernel
theorem dX5_put_6 : decode cX5_put 6 = .ok (.arraylength, 1) := by decide +kernel
theorem dX5_put_7 : decode cX5_put 7 = .ok (.if_icmp .ge 7, 3) := by decide +kernel
theorem dX5_put_10 : decode cX5_put 10 = .ok (.aload_n 0, 1) := by decide +kernel
theorem dX5_put_11 : decode cX5_put 11 = .ok (.iload_n 1, 1) := by decide +kernel
theorem dX5_put_12 : decode cX5_put 12 = .ok (.iload_n 2, 1) := by decide +kernel
theorem dX5_put_13 : decode cX5_put 13 = .ok (.iastore, 1) := by decide +kernel
theorem dX5_put_14 : decode cX5_put 14 = .ok (.return_, 1) := by decide +kernel
theorem dX5_cell_0 : decode cX5_cell 0 = .ok (.iload_n 1, 1) := by decide +kernel
theorem dX5_cell_1 : decode cX5_cell 1 = .ok (.ifCond .lt 16, 3) := by decide +kernel
theorem dX5_cell_4 : decode cX5_cell 4 = .ok (.iload_n 1, 1) := by decide +kernel
theorem dX5_cell_5 : decode cX5_cell 5 = .ok (.iload_n 2, 1) := by decide +kernel
theorem dX5_cell_6 : decode cX5_cell 6 = .ok (.if_icmp .ge 11, 3) := by decide +kernel
theorem dX5_cell_9 : decode cX5_cell 9 = .ok (.iload_n 0, 1) := by decide +kernel
theorem dX5_cell_10 : decode cX5_cell 10 = .ok (.iload_n 2, 1) := by decide +kernel
theorem dX5_cell_11 : decode cX5_cell 11 = .ok (.imul, 1) := by decide +kernel
theorem dX5_cell_12 : decode cX5_cell 12 = .ok (.iload_n 1, 1) := by decide +kernel
theorem dX5_cell_13 : decode cX5_cell 13 = .ok (.iadd, 1) := by decide +kernel
theorem dX5_cell_14 : decode cX5_cell 14 = .ok (.goto 4, 3) := by decide +kernel
theorem dX5_cell_17 : decode cX5_cell 17 = .ok (.iconst (-1), 1) := by decide +kernel
theorem dX5_cell_18 : decode cX5_cell 18 = .ok (.ireturn, 1) := by decide +kernel
theorem dX5_copy_0 : decode cX5_copy 0 = .ok (.aload_n 0, 1) := by decide +kernel
theorem dX5_copy_1 : decode cX5_copy 1 = .ok (.iconst 0, 1) := by decide +kernel
theorem dX5_copy_2 : decode cX5_copy 2 = .ok (.aload_n 1, 1) := by decide +kernel
theorem dX5_copy_3 : decode cX5_copy 3 = .ok (.iconst 0, 1) := by decide +kernel
theorem dX5_copy_4 : decode cX5_copy 4 = .ok (.aload_n 0, 1) := by decide +kernel
theorem dX5_copy_5 : decode cX5_copy 5 = .ok (.arraylength, 1) := by decide +kernel
theorem dX5_copy_6 : decode cX5_copy 6 = .ok (.aload_n 1, 1) := by decide +kernel
theorem dX5_copy_7 : decode cX5_copy 7 = .ok (.arraylength, 1) := by decide +kernel
theorem dX5_copy_8 : decode cX5_copy 8 = .ok (.invokestatic 291, 3) := by decide +kernel
theorem dX5_copy_11 : decode cX5_copy 11 = .ok (.invokestatic 296, 3) := by decide +kernel
theorem dX5_copy_14 : decode cX5_copy 14 = .ok (.return_, 1) := by decide +kernel
