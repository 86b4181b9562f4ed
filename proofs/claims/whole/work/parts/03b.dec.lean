theorem dX3_init_0 : decode cX3_init 0 = .ok (.aload_n 0, 1) := by decide +kernel
theorem dX3_init_1 : decode cX3_init 1 = .ok (.invokespecial 3, 3) := by decide +kernel
theorem dX3_init_4 : decode cX3_init 4 = .ok (.aload_n 0, 1) := by decide +kernel
theorem dX3_init_5 : decode cX3_init 5 = .ok (.bipush 64, 2) := by decide +kernel
theorem dX3_init_7 : decode cX3_init 7 = .ok (.newarray .int, 2) := by decide +kernel
theorem dX3_init_9 : decode cX3_init 9 = .ok (.putfield 9, 3) := by decide +kernel
theorem dX3_init_12 : decode cX3_init 12 = .ok (.aload_n 0, 1) := by decide +kernel
theorem dX3_init_13 : decode cX3_init 13 = .ok (.bipush 64, 2) := by decide +kernel
theorem dX3_init_15 : decode cX3_init 15 = .ok (.newarray .int, 2) := by decide +kernel
theorem dX3_init_17 : decode cX3_init 17 = .ok (.putfield 15, 3) := by decide +kernel
theorem dX3_init_20 : decode cX3_init 20 = .ok (.aload_n 0, 1) := by decide +kernel
theorem dX3_init_21 : decode cX3_init 21 = .ok (.bipush 6, 2) := by decide +kernel
theorem dX3_init_23 : decode cX3_init 23 = .ok (.newarray .int, 2) := by decide +kernel
theorem dX3_init_25 : decode cX3_init 25 = .ok (.putfield 18, 3) := by decide +kernel
theorem dX3_init_28 : decode cX3_init 28 = .ok (.aload_n 0, 1) := by decide +kernel
theorem dX3_init_29 : decode cX3_init 29 = .ok (.bipush 36, 2) := by decide +kernel
theorem dX3_init_31 : decode cX3_init 31 = .ok (.newarray .int, 2) := by decide +kernel
theorem dX3_init_33 : decode cX3_init 33 = .ok (.putfield 21, 3) := by decide +kernel
theorem dX3_init_36 : decode cX3_init 36 = .ok (.aload_n 0, 1) := by decide +kernel
theorem dX3_init_37 : decode cX3_init 37 = .ok (.iconst 0, 1) := by decide +kernel
theorem dX3_init_38 : decode cX3_init 38 = .ok (.putfield 24, 3) := by decide +kernel
theorem dX3_init_41 : decode cX3_init 41 = .ok (.aload_n 0, 1) := by decide +kernel
theorem dX3_init_42 : decode cX3_init 42 = .ok (.iconst 0, 1) := by decide +kernel
theorem dX3_init_43 : decode cX3_init 43 = .ok (.putfield 28, 3) := by decide +kernel
theorem dX3_init_46 : decode cX3_init 46 = .ok (.aload_n 0, 1) := by decide +kernel
theorem dX3_init_47 : decode cX3_init 47 = .ok (.iconst 0, 1) := by decide +kernel
theorem dX3_init_48 : decode cX3_init 48 = .ok (.putfield 31, 3) := by decide +kernel
theorem dX3_init_51 : decode cX3_init 51 = .ok (.aload_n 0, 1) := by decide +kernel
theorem dX3_init_52 : decode cX3_init 52 = .ok (.iconst 0, 1) := by decide +kernel
theorem dX3_init_53 : decode cX3_init 53 = .ok (.putfield 34, 3) := by decide +kernel
theorem dX3_init_56 : decode cX3_init 56 = .ok (.return_, 1) := by decide +kernel
theorem dX3_look_0 : decode cX3_look 0 = .ok (.aload_n 0, 1) := by decide +kernel
theorem dX3_look_1 : decode cX3_look 1 = .ok (.aload_n 1, 1) := by decide +kernel
theorem dX3_look_2 : decode cX3_look 2 = .ok (.invokevirtual 37, 3) := by decide +kernel
theorem dX3_look_5 : decode cX3_look 5 = .ok (.putfield 24, 3) := by decide +kernel
theorem dX3_look_8 : decode cX3_look 8 = .ok (.aload_n 0, 1) := by decide +kernel
theorem dX3_look_9 : decode cX3_look 9 = .ok (.aload_n 1, 1) := by decide +kernel
theorem dX3_look_10 : decode cX3_look 10 = .ok (.invokevirtual 43, 3) := by decide +kernel
theorem dX3_look_13 : decode cX3_look 13 = .ok (.putfield 28, 3) := by decide +kernel
theorem dX3_look_16 : decode cX3_look 16 = .ok (.aload_n 0, 1) := by decide +kernel
theorem dX3_look_17 : decode cX3_look 17 = .ok (.iconst 0, 1) := by decide +kernel
theorem dX3_look_18 : decode cX3_look 18 = .ok (.putfield 31, 3) := by decide +kernel
theorem dX3_look_21 : decode cX3_look 21 = .ok (.iconst 0, 1) := by decide +kernel
theorem dX3_look_22 : decode cX3_look 22 = .ok (.istore_n 3, 1) := by decide +kernel
theorem dX3_look_23 : decode cX3_look 23 = .ok (.iload_n 3, 1) := by decide +kernel
theorem dX3_look_24 : decode cX3_look 24 = .ok (.aload_n 0, 1) := by decide +kernel
theorem dX3_look_25 : decode cX3_look 25 = .ok (.getfield 24, 3) := by decide +kernel
theorem dX3_look_28 : decode cX3_look 28 = .ok (.if_icmp .ge 66, 3) := by decide +kernel
theorem dX3_look_31 : decode cX3_look 31 = .ok (.aload_n 1, 1) := by decide +kernel
theorem dX3_look_32 : decode cX3_look 32 = .ok (.iload_n 3, 1) := by decide +kernel
theorem dX3_look_33 : decode cX3_look 33 = .ok (.invokevirtual 46, 3) := by decide +kernel
theorem dX3_look_36 : decode cX3_look 36 = .ok (.istore 4, 2) := by decide +kernel
theorem dX3_look_38 : decode cX3_look 38 = .ok (.aload_n 0, 1) := by decide +kernel
theorem dX3_look_39 : decode cX3_look 39 = .ok (.getfield 9, 3) := by decide +kernel
theorem dX3_look_42 : decode cX3_look 42 = .ok (.iconst 1, 1) := by decide +kernel
theorem dX3_look_43 : decode cX3_look 43 = .ok (.iload_n 3, 1) := by decide +kernel
theorem dX3_look_44 : decode cX3_look 44 = .ok (.ishl, 1) := by decide +kernel
theorem dX3_look_45 : decode cX3_look 45 = .ok (.aload_n 1, 1) := by decide +kernel
theorem dX3_look_46 : decode cX3_look 46 = .ok (.iload 4, 2) := by decide +kernel
theorem dX3_look_48 : decode cX3_look 48 = .ok (.iload_n 2, 1) := by decide +kernel
theorem dX3_look_49 : decode cX3_look 49 = .ok (.invokevirtual 50, 3) := by decide +kernel
theorem dX3_look_52 : decode cX3_look 52 = .ok (.invokestatic 54, 3) := by decide +kernel
theorem dX3_look_55 : decode cX3_look 55 = .ok (.aload_n 0, 1) := by decide +kernel
theorem dX3_look_56 : decode cX3_look 56 = .ok (.getfield 15, 3) := by decide +kernel
theorem dX3_look_59 : decode cX3_look 59 = .ok (.iconst 1, 1) := by decide +kernel
theorem dX3_look_60 : decode cX3_look 60 = .ok (.iload_n 3, 1) := by decide +kernel
theorem dX3_look_61 : decode cX3_look 61 = .ok (.ishl, 1) := by decide +kernel
theorem dX3_look_62 : decode cX3_look 62 = .ok (.aload_n 1, 1) := by decide +kernel
theorem dX3_look_63 : decode cX3_look 63 = .ok (.iload_n 3, 1) := by decide +kernel
theorem dX3_look_64 : decode cX3_look 64 = .ok (.invokevirtual 58, 3) := by decide +kernel
theorem dX3_look_67 : decode cX3_look 67 = .ok (.invokestatic 54, 3) := by decide +kernel
theorem dX3_look_70 : decode cX3_look 70 = .ok (.iload 4, 2) := by decide +kernel
theorem dX3_look_72 : decode cX3_look 72 = .ok (.iload_n 2, 1) := by decide +kernel
theorem dX3_look_73 : decode cX3_look 73 = .ok (.if_icmp .le 15, 3) := by decide +kernel
theorem dX3_look_76 : decode cX3_look 76 = .ok (.aload_n 0, 1) := by decide +kernel
theorem dX3_look_77 : decode cX3_look 77 = .ok (.dup, 1) := by decide +kernel
theorem dX3_look_78 : decode cX3_look 78 = .ok (.getfield 31, 3) := by decide +kernel
theorem dX3_look_81 : decode cX3_look 81 = .ok (.iconst 1, 1) := by decide +kernel
theorem dX3_look_82 : decode cX3_look 82 = .ok (.iload_n 3, 1) := by decide +kernel
theorem dX3_look_83 : decode cX3_look 83 = .ok (.ishl, 1) := by decide +kernel
theorem dX3_look_84 : decode cX3_look 84 = .ok (.ior, 1) := by decide +kernel
theorem dX3_look_85 : decode cX3_look 85 = .ok (.putfield 31, 3) := by decide +kernel
theorem dX3_look_88 : decode cX3_look 88 = .ok (.iinc 3 1, 3) := by decide +kernel
theorem dX3_look_91 : decode cX3_look 91 = .ok (.goto (-68), 3) := by decide +kernel
theorem dX3_look_94 : decode cX3_look 94 = .ok (.iconst 0, 1) := by decide +kernel
theorem dX3_look_95 : decode cX3_look 95 = .ok (.istore_n 3, 1) := by decide +kernel
theorem dX3_look_96 : decode cX3_look 96 = .ok (.iload_n 3, 1) := by decide +kernel
theorem dX3_look_97 : decode cX3_look 97 = .ok (.aload_n 0, 1) := by decide +kernel
theorem dX3_look_98 : decode cX3_look 98 = .ok (.getfield 28, 3) := by decide +kernel
theorem dX3_look_101 : decode cX3_look 101 = .ok (.if_icmp .ge 22, 3) := by decide +kernel
theorem dX3_look_104 : decode cX3_look 104 = .ok (.aload_n 0, 1) := by decide +kernel
theorem dX3_look_105 : decode cX3_look 105 = .ok (.getfield 18, 3) := by decide +kernel
theorem dX3_look_108 : decode cX3_look 108 = .ok (.iload_n 3, 1) := by decide +kernel
theorem dX3_look_109 : decode cX3_look 109 = .ok (.aload_n 1, 1) := by decide +kernel
theorem dX3_look_110 : decode cX3_look 110 = .ok (.iload_n 3, 1) := by decide +kernel
theorem dX3_look_111 : decode cX3_look 111 = .ok (.invokevirtual 61, 3) := by decide +kernel
theorem dX3_look_114 : decode cX3_look 114 = .ok (.invokestatic 54, 3) := by decide +kernel
theorem dX3_look_117 : decode cX3_look 117 = .ok (.iinc 3 1, 3) := by decide +kernel
theorem dX3_look_120 : decode cX3_look 120 = .ok (.goto (-24), 3) := by decide +kernel
theorem dX3_look_123 : decode cX3_look 123 = .ok (.aload_n 0, 1) := by decide +kernel
theorem dX3_look_124 : decode cX3_look 124 = .ok (.invokevirtual 64, 3) := by decide +kernel
theorem dX3_look_127 : decode cX3_look 127 = .ok (.return_, 1) := by decide +kernel
theorem dX3_joinSets_0 : decode cX3_joinSets 0 = .ok (.iconst 1, 1) := by decide +kernel
theorem dX3_joinSets_1 : decode cX3_joinSets 1 = .ok (.istore_n 1, 1) := by decide +kernel
theorem dX3_joinSets_2 : decode cX3_joinSets 2 = .ok (.iload_n 1, 1) := by decide +kernel
theorem dX3_joinSets_3 : decode cX3_joinSets 3 = .ok (.iconst 1, 1) := by decide +kernel
theorem dX3_joinSets_4 : decode cX3_joinSets 4 = .ok (.aload_n 0, 1) := by decide +kernel
theorem dX3_joinSets_5 : decode cX3_joinSets 5 = .ok (.getfield 24, 3) := by decide +kernel
theorem dX3_joinSets_8 : decode cX3_joinSets 8 = .ok (.ishl, 1) := by decide +kernel
theorem dX3_joinSets_9 : decode cX3_joinSets 9 = .ok (.if_icmp .ge 69, 3) := by decide +kernel
theorem dX3_joinSets_12 : decode cX3_joinSets 12 = .ok (.iload_n 1, 1) := by decide +kernel
theorem dX3_joinSets_13 : decode cX3_joinSets 13 = .ok (.iload_n 1, 1) := by decide +kernel
theorem dX3_joinSets_14 : decode cX3_joinSets 14 = .ok (.iconst 1, 1) := by decide +kernel
theorem dX3_joinSets_15 : decode cX3_joinSets 15 = .ok (.isub, 1) := by decide +kernel
theorem dX3_joinSets_16 : decode cX3_joinSets 16 = .ok (.iand, 1) := by decide +kernel
theorem dX3_joinSets_17 : decode cX3_joinSets 17 = .ok (.istore_n 2, 1) := by decide +kernel
theorem dX3_joinSets_18 : decode cX3_joinSets 18 = .ok (.iload_n 1, 1) := by decide +kernel
theorem dX3_joinSets_19 : decode cX3_joinSets 19 = .ok (.iload_n 2, 1) := by decide +kernel
theorem dX3_joinSets_20 : decode cX3_joinSets 20 = .ok (.ixor, 1) := by decide +kernel
theorem dX3_joinSets_21 : decode cX3_joinSets 21 = .ok (.istore_n 3, 1) := by decide +kernel
theorem dX3_joinSets_22 : decode cX3_joinSets 22 = .ok (.aload_n 0, 1) := by decide +kernel
theorem dX3_joinSets_23 : decode cX3_joinSets 23 = .ok (.getfield 9, 3) := by decide +kernel
theorem dX3_joinSets_26 : decode cX3_joinSets 26 = .ok (.iload_n 1, 1) := by decide +kernel
theorem dX3_joinSets_27 : decode cX3_joinSets 27 = .ok (.aload_n 0, 1) := by decide +kernel
theorem dX3_joinSets_28 : decode cX3_joinSets 28 = .ok (.getfield 9, 3) := by decide +kernel
theorem dX3_joinSets_31 : decode cX3_joinSets 31 = .ok (.iload_n 2, 1) := by decide +kernel
theorem dX3_joinSets_32 : decode cX3_joinSets 32 = .ok (.invokestatic 67, 3) := by decide +kernel
theorem dX3_joinSets_35 : decode cX3_joinSets 35 = .ok (.aload_n 0, 1) := by decide +kernel
theorem dX3_joinSets_36 : decode cX3_joinSets 36 = .ok (.getfield 9, 3) := by decide +kernel
theorem dX3_joinSets_39 : decode cX3_joinSets 39 = .ok (.iload_n 3, 1) := by decide +kernel
theorem dX3_joinSets_40 : decode cX3_joinSets 40 = .ok (.invokestatic 67, 3) := by decide +kernel
theorem dX3_joinSets_43 : decode cX3_joinSets 43 = .ok (.iadd, 1) := by decide +kernel
theorem dX3_joinSets_44 : decode cX3_joinSets 44 = .ok (.invokestatic 54, 3) := by decide +kernel
theorem dX3_joinSets_47 : decode cX3_joinSets 47 = .ok (.aload_n 0, 1) := by decide +kernel
theorem dX3_joinSets_48 : decode cX3_joinSets 48 = .ok (.getfield 15, 3) := by decide +kernel
theorem dX3_joinSets_51 : decode cX3_joinSets 51 = .ok (.iload_n 1, 1) := by decide +kernel
theorem dX3_joinSets_52 : decode cX3_joinSets 52 = .ok (.aload_n 0, 1) := by decide +kernel
theorem dX3_joinSets_53 : decode cX3_joinSets 53 = .ok (.getfield 15, 3) := by decide +kernel
theorem dX3_joinSets_56 : decode cX3_joinSets 56 = .ok (.iload_n 2, 1) := by decide +kernel
theorem dX3_joinSets_57 : decode cX3_joinSets 57 = .ok (.invokestatic 67, 3) := by decide +kernel
theorem dX3_joinSets_60 : decode cX3_joinSets 60 = .ok (.aload_n 0, 1) := by decide +kernel
theorem dX3_joinSets_61 : decode cX3_joinSets 61 = .ok (.getfield 15, 3) := by decide +kernel
theorem dX3_joinSets_64 : decode cX3_joinSets 64 = .ok (.iload_n 3, 1) := by decide +kernel
theorem dX3_joinSets_65 : decode cX3_joinSets 65 = .ok (.invokestatic 67, 3) := by decide +kernel
theorem dX3_joinSets_68 : decode cX3_joinSets 68 = .ok (.ior, 1) := by decide +kernel
theorem dX3_joinSets_69 : decode cX3_joinSets 69 = .ok (.invokestatic 54, 3) := by decide +kernel
theorem dX3_joinSets_72 : decode cX3_joinSets 72 = .ok (.iinc 1 1, 3) := by decide +kernel
theorem dX3_joinSets_75 : decode cX3_joinSets 75 = .ok (.goto (-73), 3) := by decide +kernel
theorem dX3_joinSets_78 : decode cX3_joinSets 78 = .ok (.return_, 1) := by decide +kernel
theorem dX3_fits_0 : decode cX3_fits 0 = .ok (.aload_n 0, 1) := by decide +kernel
theorem dX3_fits_1 : decode cX3_fits 1 = .ok (.getfield 31, 3) := by decide +kernel
theorem dX3_fits_4 : decode cX3_fits 4 = .ok (.ifCond .ne 14, 3) := by decide +kernel
theorem dX3_fits_7 : decode cX3_fits 7 = .ok (.aload_n 0, 1) := by decide +kernel
theorem dX3_fits_8 : decode cX3_fits 8 = .ok (.invokevirtual 71, 3) := by decide +kernel
theorem dX3_fits_11 : decode cX3_fits 11 = .ok (.ifCond .ne 7, 3) := by decide +kernel
theorem dX3_fits_14 : decode cX3_fits 14 = .ok (.iconst 1, 1) := by decide +kernel
theorem dX3_fits_15 : decode cX3_fits 15 = .ok (.goto 4, 3) := by decide +kernel
theorem dX3_fits_18 : decode cX3_fits 18 = .ok (.iconst 0, 1) := by decide +kernel
theorem dX3_fits_19 : decode cX3_fits 19 = .ok (.ireturn, 1) := by decide +kernel
theorem dX3_fitsWithOneMore_0 : decode cX3_fitsWithOneMore 0 = .ok (.aload_n 0, 1) := by decide +kernel
theorem dX3_fitsWithOneMore_1 : decode cX3_fitsWithOneMore 1 = .ok (.getfield 18, 3) := by decide +kernel
theorem dX3_fitsWithOneMore_4 : decode cX3_fitsWithOneMore 4 = .ok (.iload_n 1, 1) := by decide +kernel
theorem dX3_fitsWithOneMore_5 : decode cX3_fitsWithOneMore 5 = .ok (.invokestatic 67, 3) := by decide +kernel
theorem dX3_fitsWithOneMore_8 : decode cX3_fitsWithOneMore 8 = .ok (.istore_n 2, 1) := by decide +kernel
theorem dX3_fitsWithOneMore_9 : decode cX3_fitsWithOneMore 9 = .ok (.aload_n 0, 1) := by decide +kernel
theorem dX3_fitsWithOneMore_10 : decode cX3_fitsWithOneMore 10 = .ok (.getfield 18, 3) := by decide +kernel
theorem dX3_fitsWithOneMore_13 : decode cX3_fitsWithOneMore 13 = .ok (.iload_n 1, 1) := by decide +kernel
theorem dX3_fitsWithOneMore_14 : decode cX3_fitsWithOneMore 14 = .ok (.iload_n 2, 1) := by decide +kernel
theorem dX3_fitsWithOneMore_15 : decode cX3_fitsWithOneMore 15 = .ok (.iconst 1, 1) := by decide +kernel
theorem dX3_fitsWithOneMore_16 : decode cX3_fitsWithOneMore 16 = .ok (.iadd, 1) := by decide +kernel
theorem dX3_fitsWithOneMore_17 : decode cX3_fitsWithOneMore 17 = .ok (.invokestatic 54, 3) := by decide +kernel
theorem dX3_fitsWithOneMore_20 : decode cX3_fitsWithOneMore 20 = .ok (.aload_n 0, 1) := by decide +kernel
theorem dX3_fitsWithOneMore_21 : decode cX3_fitsWithOneMore 21 = .ok (.invokevirtual 74, 3) := by decide +kernel
theorem dX3_fitsWithOneMore_24 : decode cX3_fitsWithOneMore 24 = .ok (.istore_n 3, 1) := by decide +kernel
theorem dX3_fitsWithOneMore_25 : decode cX3_fitsWithOneMore 25 = .ok (.aload_n 0, 1) := by decide +kernel
theorem dX3_fitsWithOneMore_26 : decode cX3_fitsWithOneMore 26 = .ok (.getfield 18, 3) := by decide +kernel
theorem dX3_fitsWithOneMore_29 : decode cX3_fitsWithOneMore 29 = .ok (.iload_n 1, 1) := by decide +kernel
theorem dX3_fitsWithOneMore_30 : decode cX3_fitsWithOneMore 30 = .ok (.iload_n 2, 1) := by decide +kernel
theorem dX3_fitsWithOneMore_31 : decode cX3_fitsWithOneMore 31 = .ok (.invokestatic 54, 3) := by decide +kernel
theorem dX3_fitsWithOneMore_34 : decode cX3_fitsWithOneMore 34 = .ok (.iload_n 3, 1) := by decide +kernel
theorem dX3_fitsWithOneMore_35 : decode cX3_fitsWithOneMore 35 = .ok (.ireturn, 1) := by decide +kernel
theorem dX3_findBlocked_0 : decode cX3_findBlocked 0 = .ok (.aload_n 0, 1) := by decide +kernel
theorem dX3_findBlocked_1 : decode cX3_findBlocked 1 = .ok (.aload_n 0, 1) := by decide +kernel
theorem dX3_findBlocked_2 : decode cX3_findBlocked 2 = .ok (.getfield 31, 3) := by decide +kernel
theorem dX3_findBlocked_5 : decode cX3_findBlocked 5 = .ok (.ifCond .eq 10, 3) := by decide +kernel
theorem dX3_findBlocked_8 : decode cX3_findBlocked 8 = .ok (.aload_n 0, 1) := by decide +kernel
theorem dX3_findBlocked_9 : decode cX3_findBlocked 9 = .ok (.getfield 31, 3) := by decide +kernel
theorem dX3_findBlocked_12 : decode cX3_findBlocked 12 = .ok (.goto 7, 3) := by decide +kernel
theorem dX3_findBlocked_15 : decode cX3_findBlocked 15 = .ok (.aload_n 0, 1) := by decide +kernel
theorem dX3_findBlocked_16 : decode cX3_findBlocked 16 = .ok (.invokevirtual 71, 3) := by decide +kernel
theorem dX3_findBlocked_19 : decode cX3_findBlocked 19 = .ok (.putfield 34, 3) := by decide +kernel
theorem dX3_findBlocked_22 : decode cX3_findBlocked 22 = .ok (.return_, 1) := by decide +kernel
theorem dX3_drawLine_0 : decode cX3_drawLine 0 = .ok (.aload_n 0, 1) := by decide +kernel
theorem dX3_drawLine_1 : decode cX3_drawLine 1 = .ok (.getfield 9, 3) := by decide +kernel
theorem dX3_drawLine_4 : decode cX3_drawLine 4 = .ok (.iconst 1, 1) := by decide +kernel
theorem dX3_drawLine_5 : decode cX3_drawLine 5 = .ok (.iload_n 1, 1) := by decide +kernel
theorem dX3_drawLine_6 : decode cX3_drawLine 6 = .ok (.ishl, 1) := by decide +kernel
theorem dX3_drawLine_7 : decode cX3_drawLine 7 = .ok (.invokestatic 67, 3) := by decide +kernel
theorem dX3_drawLine_10 : decode cX3_drawLine 10 = .ok (.istore_n 2, 1) := by decide +kernel
theorem dX3_drawLine_11 : decode cX3_drawLine 11 = .ok (.iconst 0, 1) := by decide +kernel
theorem dX3_drawLine_12 : decode cX3_drawLine 12 = .ok (.istore_n 3, 1) := by decide +kernel
theorem dX3_drawLine_13 : decode cX3_drawLine 13 = .ok (.iload_n 3, 1) := by decide +kernel
theorem dX3_drawLine_14 : decode cX3_drawLine 14 = .ok (.aload_n 0, 1) := by decide +kernel
theorem dX3_drawLine_15 : decode cX3_drawLine 15 = .ok (.getfield 28, 3) := by decide +kernel
theorem dX3_drawLine_18 : decode cX3_drawLine 18 = .ok (.if_icmp .ge 86, 3) := by decide +kernel
theorem dX3_drawLine_21 : decode cX3_drawLine 21 = .ok (.aload_n 0, 1) := by decide +kernel
theorem dX3_drawLine_22 : decode cX3_drawLine 22 = .ok (.getfield 15, 3) := by decide +kernel
theorem dX3_drawLine_25 : decode cX3_drawLine 25 = .ok (.iconst 1, 1) := by decide +kernel
theorem dX3_drawLine_26 : decode cX3_drawLine 26 = .ok (.iload_n 1, 1) := by decide +kernel
theorem dX3_drawLine_27 : decode cX3_drawLine 27 = .ok (.ishl, 1) := by decide +kernel
theorem dX3_drawLine_28 : decode cX3_drawLine 28 = .ok (.invokestatic 67, 3) := by decide +kernel
theorem dX3_drawLine_31 : decode cX3_drawLine 31 = .ok (.iload_n 3, 1) := by decide +kernel
theorem dX3_drawLine_32 : decode cX3_drawLine 32 = .ok (.invokestatic 78, 3) := by decide +kernel
theorem dX3_drawLine_35 : decode cX3_drawLine 35 = .ok (.istore 4, 2) := by decide +kernel
theorem dX3_drawLine_37 : decode cX3_drawLine 37 = .ok (.iload 4, 2) := by decide +kernel
theorem dX3_drawLine_39 : decode cX3_drawLine 39 = .ok (.ifCond .eq 16, 3) := by decide +kernel
theorem dX3_drawLine_42 : decode cX3_drawLine 42 = .ok (.iload_n 2, 1) := by decide +kernel
theorem dX3_drawLine_43 : decode cX3_drawLine 43 = .ok (.aload_n 0, 1) := by decide +kernel
theorem dX3_drawLine_44 : decode cX3_drawLine 44 = .ok (.iload_n 1, 1) := by decide +kernel
theorem dX3_drawLine_45 : decode cX3_drawLine 45 = .ok (.iload_n 3, 1) := by decide +kernel
theorem dX3_drawLine_46 : decode cX3_drawLine 46 = .ok (.invokevirtual 82, 3) := by decide +kernel
theorem dX3_drawLine_49 : decode cX3_drawLine 49 = .ok (.invokestatic 85, 3) := by decide +kernel
theorem dX3_drawLine_52 : decode cX3_drawLine 52 = .ok (.goto 4, 3) := by decide +kernel
theorem dX3_drawLine_55 : decode cX3_drawLine 55 = .ok (.iconst 0, 1) := by decide +kernel
theorem dX3_drawLine_56 : decode cX3_drawLine 56 = .ok (.istore 5, 2) := by decide +kernel
theorem dX3_drawLine_58 : decode cX3_drawLine 58 = .ok (.aload_n 0, 1) := by decide +kernel
theorem dX3_drawLine_59 : decode cX3_drawLine 59 = .ok (.getfield 21, 3) := by decide +kernel
theorem dX3_drawLine_62 : decode cX3_drawLine 62 = .ok (.iload_n 1, 1) := by decide +kernel
theorem dX3_drawLine_63 : decode cX3_drawLine 63 = .ok (.iload_n 3, 1) := by decide +kernel
theorem dX3_drawLine_64 : decode cX3_drawLine 64 = .ok (.bipush 6, 2) := by decide +kernel
theorem dX3_drawLine_66 : decode cX3_drawLine 66 = .ok (.invokestatic 90, 3) := by decide +kernel
theorem dX3_drawLine_69 : decode cX3_drawLine 69 = .ok (.iload 5, 2) := by decide +kernel
theorem dX3_drawLine_71 : decode cX3_drawLine 71 = .ok (.invokestatic 54, 3) := by decide +kernel
theorem dX3_drawLine_74 : decode cX3_drawLine 74 = .ok (.aload_n 0, 1) := by decide +kernel
theorem dX3_drawLine_75 : decode cX3_drawLine 75 = .ok (.getfield 18, 3) := by decide +kernel
theorem dX3_drawLine_78 : decode cX3_drawLine 78 = .ok (.iload_n 3, 1) := by decide +kernel
theorem dX3_drawLine_79 : decode cX3_drawLine 79 = .ok (.aload_n 0, 1) := by decide +kernel
theorem dX3_drawLine_80 : decode cX3_drawLine 80 = .ok (.getfield 18, 3) := by decide +kernel
theorem dX3_drawLine_83 : decode cX3_drawLine 83 = .ok (.iload_n 3, 1) := by decide +kernel
theorem dX3_drawLine_84 : decode cX3_drawLine 84 = .ok (.invokestatic 67, 3) := by decide +kernel
theorem dX3_drawLine_87 : decode cX3_drawLine 87 = .ok (.iload 5, 2) := by decide +kernel
theorem dX3_drawLine_89 : decode cX3_drawLine 89 = .ok (.isub, 1) := by decide +kernel
theorem dX3_drawLine_90 : decode cX3_drawLine 90 = .ok (.invokestatic 54, 3) := by decide +kernel
theorem dX3_drawLine_93 : decode cX3_drawLine 93 = .ok (.iload_n 2, 1) := by decide +kernel
theorem dX3_drawLine_94 : decode cX3_drawLine 94 = .ok (.iload 5, 2) := by decide +kernel
theorem dX3_drawLine_96 : decode cX3_drawLine 96 = .ok (.isub, 1) := by decide +kernel
theorem dX3_drawLine_97 : decode cX3_drawLine 97 = .ok (.istore_n 2, 1) := by decide +kernel
theorem dX3_drawLine_98 : decode cX3_drawLine 98 = .ok (.iinc 3 1, 3) := by decide +kernel
theorem dX3_drawLine_101 : decode cX3_drawLine 101 = .ok (.goto (-88), 3) := by decide +kernel
theorem dX3_drawLine_104 : decode cX3_drawLine 104 = .ok (.return_, 1) := by decide +kernel
theorem dX3_allFit_0 : decode cX3_allFit 0 = .ok (.aload_n 0, 1) := by decide +kernel
theorem dX3_allFit_1 : decode cX3_allFit 1 = .ok (.getfield 34, 3) := by decide +kernel
theorem dX3_allFit_4 : decode cX3_allFit 4 = .ok (.ifCond .ne 7, 3) := by decide +kernel
theorem dX3_allFit_7 : decode cX3_allFit 7 = .ok (.iconst 1, 1) := by decide +kernel
theorem dX3_allFit_8 : decode cX3_allFit 8 = .ok (.goto 4, 3) := by decide +kernel
theorem dX3_allFit_11 : decode cX3_allFit 11 = .ok (.iconst 0, 1) := by decide +kernel
theorem dX3_allFit_12 : decode cX3_allFit 12 = .ok (.ireturn, 1) := by decide +kernel
theorem dX3_blockedLines_0 : decode cX3_blockedLines 0 = .ok (.aload_n 0, 1) := by decide +kernel
theorem dX3_blockedLines_1 : decode cX3_blockedLines 1 = .ok (.getfield 34, 3) := by decide +kernel
theorem dX3_blockedLines_4 : decode cX3_blockedLines 4 = .ok (.ireturn, 1) := by decide +kernel
theorem dX3_freeOf_0 : decode cX3_freeOf 0 = .ok (.aload_n 0, 1) := by decide +kernel
theorem dX3_freeOf_1 : decode cX3_freeOf 1 = .ok (.getfield 18, 3) := by decide +kernel
theorem dX3_freeOf_4 : decode cX3_freeOf 4 = .ok (.iload_n 1, 1) := by decide +kernel
theorem dX3_freeOf_5 : decode cX3_freeOf 5 = .ok (.invokestatic 67, 3) := by decide +kernel
theorem dX3_freeOf_8 : decode cX3_freeOf 8 = .ok (.ireturn, 1) := by decide +kernel
theorem dX3_drawnBy_0 : decode cX3_drawnBy 0 = .ok (.aload_n 0, 1) := by decide +kernel
theorem dX3_drawnBy_1 : decode cX3_drawnBy 1 = .ok (.getfield 21, 3) := by decide +kernel
theorem dX3_drawnBy_4 : decode cX3_drawnBy 4 = .ok (.iload_n 1, 1) := by decide +kernel
theorem dX3_drawnBy_5 : decode cX3_drawnBy 5 = .ok (.iload_n 2, 1) := by decide +kernel
theorem dX3_drawnBy_6 : decode cX3_drawnBy 6 = .ok (.bipush 6, 2) := by decide +kernel
theorem dX3_drawnBy_8 : decode cX3_drawnBy 8 = .ok (.invokestatic 90, 3) := by decide +kernel
theorem dX3_drawnBy_11 : decode cX3_drawnBy 11 = .ok (.invokestatic 67, 3) := by decide +kernel
theorem dX3_drawnBy_14 : decode cX3_drawnBy 14 = .ok (.ireturn, 1) := by decide +kernel
theorem dX3_crowd_0 : decode cX3_crowd 0 = .ok (.iconst 0, 1) := by decide +kernel
theorem dX3_crowd_1 : decode cX3_crowd 1 = .ok (.istore_n 1, 1) := by decide +kernel
theorem dX3_crowd_2 : decode cX3_crowd 2 = .ok (.bipush 7, 2) := by decide +kernel
theorem dX3_crowd_4 : decode cX3_crowd 4 = .ok (.istore_n 2, 1) := by decide +kernel
theorem dX3_crowd_5 : decode cX3_crowd 5 = .ok (.iconst 1, 1) := by decide +kernel
theorem dX3_crowd_6 : decode cX3_crowd 6 = .ok (.istore_n 3, 1) := by decide +kernel
theorem dX3_crowd_7 : decode cX3_crowd 7 = .ok (.iload_n 3, 1) := by decide +kernel
theorem dX3_crowd_8 : decode cX3_crowd 8 = .ok (.iconst 1, 1) := by decide +kernel
theorem dX3_crowd_9 : decode cX3_crowd 9 = .ok (.aload_n 0, 1) := by decide +kernel
theorem dX3_crowd_10 : decode cX3_crowd 10 = .ok (.getfield 24, 3) := by decide +kernel
theorem dX3_crowd_13 : decode cX3_crowd 13 = .ok (.ishl, 1) := by decide +kernel
theorem dX3_crowd_14 : decode cX3_crowd 14 = .ok (.if_icmp .ge 34, 3) := by decide +kernel
theorem dX3_crowd_17 : decode cX3_crowd 17 = .ok (.iload_n 3, 1) := by decide +kernel
theorem dX3_crowd_18 : decode cX3_crowd 18 = .ok (.invokestatic 94, 3) := by decide +kernel
theorem dX3_crowd_21 : decode cX3_crowd 21 = .ok (.istore 4, 2) := by decide +kernel
theorem dX3_crowd_23 : decode cX3_crowd 23 = .ok (.iload 4, 2) := by decide +kernel
theorem dX3_crowd_25 : decode cX3_crowd 25 = .ok (.iload_n 2, 1) := by decide +kernel
theorem dX3_crowd_26 : decode cX3_crowd 26 = .ok (.if_icmp .ge 16, 3) := by decide +kernel
theorem dX3_crowd_29 : decode cX3_crowd 29 = .ok (.aload_n 0, 1) := by decide +kernel
theorem dX3_crowd_30 : decode cX3_crowd 30 = .ok (.iload_n 3, 1) := by decide +kernel
theorem dX3_crowd_31 : decode cX3_crowd 31 = .ok (.invokevirtual 99, 3) := by decide +kernel
theorem dX3_crowd_34 : decode cX3_crowd 34 = .ok (.ifCond .ge 8, 3) := by decide +kernel
theorem dX3_crowd_37 : decode cX3_crowd 37 = .ok (.iload_n 3, 1) := by decide +kernel
theorem dX3_crowd_38 : decode cX3_crowd 38 = .ok (.istore_n 1, 1) := by decide +kernel
theorem dX3_crowd_39 : decode cX3_crowd 39 = .ok (.iload 4, 2) := by decide +kernel
theorem dX3_crowd_41 : decode cX3_crowd 41 = .ok (.istore_n 2, 1) := by decide +kernel
theorem dX3_crowd_42 : decode cX3_crowd 42 = .ok (.iinc 3 1, 3) := by decide +kernel
theorem dX3_crowd_45 : decode cX3_crowd 45 = .ok (.goto (-38), 3) := by decide +kernel
theorem dX3_crowd_48 : decode cX3_crowd 48 = .ok (.iload_n 1, 1) := by decide +kernel
theorem dX3_crowd_49 : decode cX3_crowd 49 = .ok (.ireturn, 1) := by decide +kernel
theorem dX3_spare_0 : decode cX3_spare 0 = .ok (.aload_n 0, 1) := by decide +kernel
theorem dX3_spare_1 : decode cX3_spare 1 = .ok (.getfield 9, 3) := by decide +kernel
theorem dX3_spare_4 : decode cX3_spare 4 = .ok (.iload_n 1, 1) := by decide +kernel
theorem dX3_spare_5 : decode cX3_spare 5 = .ok (.invokestatic 67, 3) := by decide +kernel
theorem dX3_spare_8 : decode cX3_spare 8 = .ok (.ineg, 1) := by decide +kernel
theorem dX3_spare_9 : decode cX3_spare 9 = .ok (.istore_n 2, 1) := by decide +kernel
theorem dX3_spare_10 : decode cX3_spare 10 = .ok (.iconst 0, 1) := by decide +kernel
theorem dX3_spare_11 : decode cX3_spare 11 = .ok (.istore_n 3, 1) := by decide +kernel
theorem dX3_spare_12 : decode cX3_spare 12 = .ok (.iload_n 3, 1) := by decide +kernel
theorem dX3_spare_13 : decode cX3_spare 13 = .ok (.aload_n 0, 1) := by decide +kernel
theorem dX3_spare_14 : decode cX3_spare 14 = .ok (.getfield 28, 3) := by decide +kernel
theorem dX3_spare_17 : decode cX3_spare 17 = .ok (.if_icmp .ge 35, 3) := by decide +kernel
theorem dX3_spare_20 : decode cX3_spare 20 = .ok (.aload_n 0, 1) := by decide +kernel
theorem dX3_spare_21 : decode cX3_spare 21 = .ok (.getfield 15, 3) := by decide +kernel
theorem dX3_spare_24 : decode cX3_spare 24 = .ok (.iload_n 1, 1) := by decide +kernel
theorem dX3_spare_25 : decode cX3_spare 25 = .ok (.invokestatic 67, 3) := by decide +kernel
theorem dX3_spare_28 : decode cX3_spare 28 = .ok (.iload_n 3, 1) := by decide +kernel
theorem dX3_spare_29 : decode cX3_spare 29 = .ok (.invokestatic 78, 3) := by decide +kernel
theorem dX3_spare_32 : decode cX3_spare 32 = .ok (.ifCond .eq 14, 3) := by decide +kernel
theorem dX3_spare_35 : decode cX3_spare 35 = .ok (.iload_n 2, 1) := by decide +kernel
theorem dX3_spare_36 : decode cX3_spare 36 = .ok (.aload_n 0, 1) := by decide +kernel
theorem dX3_spare_37 : decode cX3_spare 37 = .ok (.getfield 18, 3) := by decide +kernel
theorem dX3_spare_40 : decode cX3_spare 40 = .ok (.iload_n 3, 1) := by decide +kernel
theorem dX3_spare_41 : decode cX3_spare 41 = .ok (.invokestatic 67, 3) := by decide +kernel
theorem dX3_spare_44 : decode cX3_spare 44 = .ok (.iadd, 1) := by decide +kernel
theorem dX3_spare_45 : decode cX3_spare 45 = .ok (.istore_n 2, 1) := by decide +kernel
theorem dX3_spare_46 : decode cX3_spare 46 = .ok (.iinc 3 1, 3) := by decide +kernel
theorem dX3_spare_49 : decode cX3_spare 49 = .ok (.goto (-37), 3) := by decide +kernel
theorem dX3_spare_52 : decode cX3_spare 52 = .ok (.iload_n 2, 1) := by decide +kernel
theorem dX3_spare_53 : decode cX3_spare 53 = .ok (.ireturn, 1) := by decide +kernel
theorem dX3_mostFor_0 : decode cX3_mostFor 0 = .ok (.aload_n 0, 1) := by decide +kernel
theorem dX3_mostFor_1 : decode cX3_mostFor 1 = .ok (.getfield 18, 3) := by decide +kernel
theorem dX3_mostFor_4 : decode cX3_mostFor 4 = .ok (.iload_n 2, 1) := by decide +kernel
theorem dX3_mostFor_5 : decode cX3_mostFor 5 = .ok (.invokestatic 67, 3) := by decide +kernel
theorem dX3_mostFor_8 : decode cX3_mostFor 8 = .ok (.istore_n 3, 1) := by decide +kernel
theorem dX3_mostFor_9 : decode cX3_mostFor 9 = .ok (.iconst 2, 1) := by decide +kernel
theorem dX3_mostFor_10 : decode cX3_mostFor 10 = .ok (.iload_n 1, 1) := by decide +kernel
theorem dX3_mostFor_11 : decode cX3_mostFor 11 = .ok (.ishl, 1) := by decide +kernel
theorem dX3_mostFor_12 : decode cX3_mostFor 12 = .ok (.istore 4, 2) := by decide +kernel
theorem dX3_mostFor_14 : decode cX3_mostFor 14 = .ok (.iload 4, 2) := by decide +kernel
theorem dX3_mostFor_16 : decode cX3_mostFor 16 = .ok (.istore 5, 2) := by decide +kernel
theorem dX3_mostFor_18 : decode cX3_mostFor 18 = .ok (.iload 5, 2) := by decide +kernel
theorem dX3_mostFor_20 : decode cX3_mostFor 20 = .ok (.iconst 1, 1) := by decide +kernel
theorem dX3_mostFor_21 : decode cX3_mostFor 21 = .ok (.aload_n 0, 1) := by decide +kernel
theorem dX3_mostFor_22 : decode cX3_mostFor 22 = .ok (.getfield 24, 3) := by decide +kernel
theorem dX3_mostFor_25 : decode cX3_mostFor 25 = .ok (.ishl, 1) := by decide +kernel
theorem dX3_mostFor_26 : decode cX3_mostFor 26 = .ok (.if_icmp .ge 40, 3) := by decide +kernel
theorem dX3_mostFor_29 : decode cX3_mostFor 29 = .ok (.aload_n 0, 1) := by decide +kernel
theorem dX3_mostFor_30 : decode cX3_mostFor 30 = .ok (.getfield 15, 3) := by decide +kernel
theorem dX3_mostFor_33 : decode cX3_mostFor 33 = .ok (.iload 5, 2) := by decide +kernel
theorem dX3_mostFor_35 : decode cX3_mostFor 35 = .ok (.invokestatic 67, 3) := by decide +kernel
theorem dX3_mostFor_38 : decode cX3_mostFor 38 = .ok (.iload_n 2, 1) := by decide +kernel
theorem dX3_mostFor_39 : decode cX3_mostFor 39 = .ok (.invokestatic 78, 3) := by decide +kernel
theorem dX3_mostFor_42 : decode cX3_mostFor 42 = .ok (.ifCond .eq 14, 3) := by decide +kernel
theorem dX3_mostFor_45 : decode cX3_mostFor 45 = .ok (.iload_n 3, 1) := by decide +kernel
theorem dX3_mostFor_46 : decode cX3_mostFor 46 = .ok (.aload_n 0, 1) := by decide +kernel
theorem dX3_mostFor_47 : decode cX3_mostFor 47 = .ok (.iload 5, 2) := by decide +kernel
theorem dX3_mostFor_49 : decode cX3_mostFor 49 = .ok (.invokevirtual 99, 3) := by decide +kernel
theorem dX3_mostFor_52 : decode cX3_mostFor 52 = .ok (.invokestatic 85, 3) := by decide +kernel
theorem dX3_mostFor_55 : decode cX3_mostFor 55 = .ok (.istore_n 3, 1) := by decide +kernel
theorem dX3_mostFor_56 : decode cX3_mostFor 56 = .ok (.iload 5, 2) := by decide +kernel
theorem dX3_mostFor_58 : decode cX3_mostFor 58 = .ok (.iload 4, 2) := by decide +kernel
theorem dX3_mostFor_60 : decode cX3_mostFor 60 = .ok (.iadd, 1) := by decide +kernel
theorem dX3_mostFor_61 : decode cX3_mostFor 61 = .ok (.istore 5, 2) := by decide +kernel
theorem dX3_mostFor_63 : decode cX3_mostFor 63 = .ok (.goto (-45), 3) := by decide +kernel
theorem dX3_mostFor_66 : decode cX3_mostFor 66 = .ok (.iload_n 3, 1) := by decide +kernel
theorem dX3_mostFor_67 : decode cX3_mostFor 67 = .ok (.ireturn, 1) := by decide +kernel
theorem dX4_init_0 : decode cX4_init 0 = .ok (.aload_n 0, 1) := by decide +kernel
theorem dX4_init_1 : decode cX4_init 1 = .ok (.invokespecial 3, 3) := by decide +kernel
theorem dX4_init_4 : decode cX4_init 4 = .ok (.aload_n 0, 1) := by decide +kernel
theorem dX4_init_5 : decode cX4_init 5 = .ok (.bipush 120, 2) := by decide +kernel
theorem dX4_init_7 : decode cX4_init 7 = .ok (.newarray .int, 2) := by decide +kernel
theorem dX4_init_9 : decode cX4_init 9 = .ok (.putfield 9, 3) := by decide +kernel
theorem dX4_init_12 : decode cX4_init 12 = .ok (.aload_n 0, 1) := by decide +kernel
theorem dX4_init_13 : decode cX4_init 13 = .ok (.bipush 40, 2) := by decide +kernel
theorem dX4_init_15 : decode cX4_init 15 = .ok (.newarray .int, 2) := by decide +kernel
theorem dX4_init_17 : decode cX4_init 17 = .ok (.putfield 15, 3) := by decide +kernel
theorem dX4_init_20 : decode cX4_init 20 = .ok (.aload_n 0, 1) := by decide +kernel
theorem dX4_init_21 : decode cX4_init 21 = .ok (.bipush 120, 2) := by decide +kernel
theorem dX4_init_23 : decode cX4_init 23 = .ok (.newarray .int, 2) := by decide +kernel
theorem dX4_init_25 : decode cX4_init 25 = .ok (.putfield 18, 3) := by decide +kernel
theorem dX4_init_28 : decode cX4_init 28 = .ok (.aload_n 0, 1) := by decide +kernel
theorem dX4_init_29 : decode cX4_init 29 = .ok (.iconst 0, 1) := by decide +kernel
theorem dX4_init_30 : decode cX4_init 30 = .ok (.putfield 21, 3) := by decide +kernel
theorem dX4_init_33 : decode cX4_init 33 = .ok (.aload_n 0, 1) := by decide +kernel
theorem dX4_init_34 : decode cX4_init 34 = .ok (.iconst 0, 1) := by decide +kernel
theorem dX4_init_35 : decode cX4_init 35 = .ok (.putfield 25, 3) := by decide +kernel
theorem dX4_init_38 : decode cX4_init 38 = .ok (.aload_n 0, 1) := by decide +kernel
theorem dX4_init_39 : decode cX4_init 39 = .ok (.iconst 0, 1) := by decide +kernel
theorem dX4_init_40 : decode cX4_init 40 = .ok (.putfield 28, 3) := by decide +kernel
theorem dX4_init_43 : decode cX4_init 43 = .ok (.aload_n 0, 1) := by decide +kernel
theorem dX4_init_44 : decode cX4_init 44 = .ok (.iconst 0, 1) := by decide +kernel
theorem dX4_init_45 : decode cX4_init 45 = .ok (.putfield 31, 3) := by decide +kernel
theorem dX4_init_48 : decode cX4_init 48 = .ok (.aload_n 0, 1) := by decide +kernel
theorem dX4_init_49 : decode cX4_init 49 = .ok (.iconst 0, 1) := by decide +kernel
theorem dX4_init_50 : decode cX4_init 50 = .ok (.putfield 34, 3) := by decide +kernel
theorem dX4_init_53 : decode cX4_init 53 = .ok (.return_, 1) := by decide +kernel
theorem dX4_size_0 : decode cX4_size 0 = .ok (.aload_n 0, 1) := by decide +kernel
theorem dX4_size_1 : decode cX4_size 1 = .ok (.getfield 21, 3) := by decide +kernel
theorem dX4_size_4 : decode cX4_size 4 = .ok (.ireturn, 1) := by decide +kernel
theorem dX4_append_0 : decode cX4_append 0 = .ok (.aload_n 0, 1) := by decide +kernel
theorem dX4_append_1 : decode cX4_append 1 = .ok (.getfield 21, 3) := by decide +kernel
theorem dX4_append_4 : decode cX4_append 4 = .ok (.bipush 120, 2) := by decide +kernel
theorem dX4_append_6 : decode cX4_append 6 = .ok (.if_icmp .lt 5, 3) := by decide +kernel
theorem dX4_append_9 : decode cX4_append 9 = .ok (.iconst 0, 1) := by decide +kernel
theorem dX4_append_10 : decode cX4_append 10 = .ok (.ireturn, 1) := by decide +kernel
theorem dX4_append_11 : decode cX4_append 11 = .ok (.aload_n 0, 1) := by decide +kernel
theorem dX4_append_12 : decode cX4_append 12 = .ok (.getfield 9, 3) := by decide +kernel
theorem dX4_append_15 : decode cX4_append 15 = .ok (.aload_n 0, 1) := by decide +kernel
theorem dX4_append_16 : decode cX4_append 16 = .ok (.getfield 21, 3) := by decide +kernel
theorem dX4_append_19 : decode cX4_append 19 = .ok (.iload_n 1, 1) := by decide +kernel
theorem dX4_append_20 : decode cX4_append 20 = .ok (.invokestatic 37, 3) := by decide +kernel
theorem dX4_append_23 : decode cX4_append 23 = .ok (.aload_n 0, 1) := by decide +kernel
theorem dX4_append_24 : decode cX4_append 24 = .ok (.dup, 1) := by decide +kernel
theorem dX4_append_25 : decode cX4_append 25 = .ok (.getfield 21, 3) := by decide +kernel
theorem dX4_append_28 : decode cX4_append 28 = .ok (.iconst 1, 1) := by decide +kernel
theorem dX4_append_29 : decode cX4_append 29 = .ok (.iadd, 1) := by decide +kernel
theorem dX4_append_30 : decode cX4_append 30 = .ok (.putfield 21, 3) := by decide +kernel
theorem dX4_append_33 : decode cX4_append 33 = .ok (.iconst 1, 1) := by decide +kernel
theorem dX4_append_34 : decode cX4_append 34 = .ok (.ireturn, 1) := by decide +kernel
theorem dX4_empty_0 : decode cX4_empty 0 = .ok (.aload_n 0, 1) := by decide +kernel
theorem dX4_empty_1 : decode cX4_empty 1 = .ok (.iconst 0, 1) := by decide +kernel
theorem dX4_empty_2 : decode cX4_empty 2 = .ok (.putfield 21, 3) := by decide +kernel
theorem dX4_empty_5 : decode cX4_empty 5 = .ok (.return_, 1) := by decide +kernel
theorem dX4_orderCount_0 : decode cX4_orderCount 0 = .ok (.aload_n 0, 1) := by decide +kernel
theorem dX4_orderCount_1 : decode cX4_orderCount 1 = .ok (.getfield 25, 3) := by decide +kernel
theorem dX4_orderCount_4 : decode cX4_orderCount 4 = .ok (.ireturn, 1) := by decide +kernel
theorem dX4_parse_0 : decode cX4_parse 0 = .ok (.aload_n 0, 1) := by decide +kernel
theorem dX4_parse_1 : decode cX4_parse 1 = .ok (.iconst 0, 1) := by decide +kernel
theorem dX4_parse_2 : decode cX4_parse 2 = .ok (.putfield 25, 3) := by decide +kernel
theorem dX4_parse_5 : decode cX4_parse 5 = .ok (.aload_n 0, 1) := by decide +kernel
theorem dX4_parse_6 : decode cX4_parse 6 = .ok (.iconst 0, 1) := by decide +kernel
theorem dX4_parse_7 : decode cX4_parse 7 = .ok (.putfield 28, 3) := by decide +kernel
theorem dX4_parse_10 : decode cX4_parse 10 = .ok (.iconst 0, 1) := by decide +kernel
theorem dX4_parse_11 : decode cX4_parse 11 = .ok (.istore_n 1, 1) := by decide +kernel
theorem dX4_parse_12 : decode cX4_parse 12 = .ok (.iload_n 1, 1) := by decide +kernel
theorem dX4_parse_13 : decode cX4_parse 13 = .ok (.aload_n 0, 1) := by decide +kernel
theorem dX4_parse_14 : decode cX4_parse 14 = .ok (.getfield 21, 3) := by decide +kernel
theorem dX4_parse_17 : decode cX4_parse 17 = .ok (.if_icmp .ge 26, 3) := by decide +kernel
theorem dX4_parse_20 : decode cX4_parse 20 = .ok (.aload_n 0, 1) := by decide +kernel
theorem dX4_parse_21 : decode cX4_parse 21 = .ok (.aload_n 0, 1) := by decide +kernel
theorem dX4_parse_22 : decode cX4_parse 22 = .ok (.getfield 9, 3) := by decide +kernel
theorem dX4_parse_25 : decode cX4_parse 25 = .ok (.iload_n 1, 1) := by decide +kernel
theorem dX4_parse_26 : decode cX4_parse 26 = .ok (.invokestatic 41, 3) := by decide +kernel
theorem dX4_parse_29 : decode cX4_parse 29 = .ok (.invokevirtual 45, 3) := by decide +kernel
theorem dX4_parse_32 : decode cX4_parse 32 = .ok (.ifCond .ne 5, 3) := by decide +kernel
theorem dX4_parse_35 : decode cX4_parse 35 = .ok (.iload_n 1, 1) := by decide +kernel
theorem dX4_parse_36 : decode cX4_parse 36 = .ok (.ireturn, 1) := by decide +kernel
theorem dX4_parse_37 : decode cX4_parse 37 = .ok (.iinc 1 1, 3) := by decide +kernel
theorem dX4_parse_40 : decode cX4_parse 40 = .ok (.goto (-28), 3) := by decide +kernel
theorem dX4_parse_43 : decode cX4_parse 43 = .ok (.aload_n 0, 1) := by decide +kernel
theorem dX4_parse_44 : decode cX4_parse 44 = .ok (.getfield 28, 3) := by decide +kernel
theorem dX4_parse_47 : decode cX4_parse 47 = .ok (.ifCond .ne 14, 3) := by decide +kernel
theorem dX4_parse_50 : decode cX4_parse 50 = .ok (.aload_n 0, 1) := by decide +kernel
theorem dX4_parse_51 : decode cX4_parse 51 = .ok (.getfield 25, 3) := by decide +kernel
theorem dX4_parse_54 : decode cX4_parse 54 = .ok (.ifCond .le 7, 3) := by decide +kernel
theorem dX4_parse_57 : decode cX4_parse 57 = .ok (.iconst (-1), 1) := by decide +kernel
theorem dX4_parse_58 : decode cX4_parse 58 = .ok (.goto 7, 3) := by decide +kernel
theorem dX4_parse_61 : decode cX4_parse 61 = .ok (.aload_n 0, 1) := by decide +kernel
theorem dX4_parse_62 : decode cX4_parse 62 = .ok (.getfield 21, 3) := by decide +kernel
theorem dX4_parse_65 : decode cX4_parse 65 = .ok (.ireturn, 1) := by decide +kernel
theorem dX4_takes_0 : decode cX4_takes 0 = .ok (.iload_n 1, 1) := by decide +kernel
theorem dX4_takes_1 : decode cX4_takes 1 = .ok (.bipush 32, 2) := by decide +kernel
theorem dX4_takes_3 : decode cX4_takes 3 = .ok (.if_icmp .ne 10, 3) := by decide +kernel
theorem dX4_takes_6 : decode cX4_takes 6 = .ok (.aload_n 0, 1) := by decide +kernel
theorem dX4_takes_7 : decode cX4_takes 7 = .ok (.iconst 0, 1) := by decide +kernel
theorem dX4_takes_8 : decode cX4_takes 8 = .ok (.putfield 34, 3) := by decide +kernel
theorem dX4_takes_11 : decode cX4_takes 11 = .ok (.iconst 1, 1) := by decide +kernel
theorem dX4_takes_12 : decode cX4_takes 12 = .ok (.ireturn, 1) := by decide +kernel
theorem dX4_takes_13 : decode cX4_takes 13 = .ok (.aload_n 0, 1) := by decide +kernel
theorem dX4_takes_14 : decode cX4_takes 14 = .ok (.getfield 28, 3) := by decide +kernel
theorem dX4_takes_17 : decode cX4_takes 17 = .ok (.ifCond .ne 9, 3) := by decide +kernel
theorem dX4_takes_20 : decode cX4_takes 20 = .ok (.aload_n 0, 1) := by decide +kernel
theorem dX4_takes_21 : decode cX4_takes 21 = .ok (.iload_n 1, 1) := by decide +kernel
theorem dX4_takes_22 : decode cX4_takes 22 = .ok (.invokevirtual 49, 3) := by decide +kernel
theorem dX4_takes_25 : decode cX4_takes 25 = .ok (.ireturn, 1) := by decide +kernel
theorem dX4_takes_26 : decode cX4_takes 26 = .ok (.iload_n 1, 1) := by decide +kernel
theorem dX4_takes_27 : decode cX4_takes 27 = .ok (.bipush 59, 2) := by decide +kernel
theorem dX4_takes_29 : decode cX4_takes 29 = .ok (.if_icmp .ne 8, 3) := by decide +kernel
theorem dX4_takes_32 : decode cX4_takes 32 = .ok (.aload_n 0, 1) := by decide +kernel
theorem dX4_takes_33 : decode cX4_takes 33 = .ok (.invokevirtual 52, 3) := by decide +kernel
theorem dX4_takes_36 : decode cX4_takes 36 = .ok (.ireturn, 1) := by decide +kernel
theorem dX4_takes_37 : decode cX4_takes 37 = .ok (.iload_n 1, 1) := by decide +kernel
theorem dX4_takes_38 : decode cX4_takes 38 = .ok (.bipush 48, 2) := by decide +kernel
theorem dX4_takes_40 : decode cX4_takes 40 = .ok (.bipush 57, 2) := by decide +kernel
theorem dX4_takes_42 : decode cX4_takes 42 = .ok (.invokestatic 56, 3) := by decide +kernel
theorem dX4_takes_45 : decode cX4_takes 45 = .ok (.ifCond .eq 18, 3) := by decide +kernel
theorem dX4_takes_48 : decode cX4_takes 48 = .ok (.aload_n 0, 1) := by decide +kernel
theorem dX4_takes_49 : decode cX4_takes 49 = .ok (.iload_n 1, 1) := by decide +kernel
theorem dX4_takes_50 : decode cX4_takes 50 = .ok (.bipush 48, 2) := by decide +kernel
theorem dX4_takes_52 : decode cX4_takes 52 = .ok (.isub, 1) := by decide +kernel
theorem dX4_takes_53 : decode cX4_takes 53 = .ok (.invokevirtual 60, 3) := by decide +kernel
theorem dX4_takes_56 : decode cX4_takes 56 = .ok (.ifCond .eq 7, 3) := by decide +kernel
theorem dX4_takes_59 : decode cX4_takes 59 = .ok (.iconst 1, 1) := by decide +kernel
theorem dX4_takes_60 : decode cX4_takes 60 = .ok (.goto 4, 3) := by decide +kernel
theorem dX4_takes_63 : decode cX4_takes 63 = .ok (.iconst 0, 1) := by decide +kernel
theorem dX4_takes_64 : decode cX4_takes 64 = .ok (.ireturn, 1) := by decide +kernel
theorem dX4_opens_0 : decode cX4_opens 0 = .ok (.iload_n 1, 1) := by decide +kernel
theorem dX4_opens_1 : decode cX4_opens 1 = .ok (.invokestatic 63, 3) := by decide +kernel
theorem dX4_opens_4 : decode cX4_opens 4 = .ok (.ifCond .ne 5, 3) := by decide +kernel
theorem dX4_opens_7 : decode cX4_opens 7 = .ok (.iconst 0, 1) := by decide +kernel
theorem dX4_opens_8 : decode cX4_opens 8 = .ok (.ireturn, 1) := by decide +kernel
theorem dX4_opens_9 : decode cX4_opens 9 = .ok (.aload_n 0, 1) := by decide +kernel
theorem dX4_opens_10 : decode cX4_opens 10 = .ok (.iload_n 1, 1) := by decide +kernel
theorem dX4_opens_11 : decode cX4_opens 11 = .ok (.putfield 28, 3) := by decide +kernel
theorem dX4_opens_14 : decode cX4_opens 14 = .ok (.aload_n 0, 1) := by decide +kernel
theorem dX4_opens_15 : decode cX4_opens 15 = .ok (.iconst 0, 1) := by decide +kernel
theorem dX4_opens_16 : decode cX4_opens 16 = .ok (.putfield 31, 3) := by decide +kernel
theorem dX4_opens_19 : decode cX4_opens 19 = .ok (.aload_n 0, 1) := by decide +kernel
theorem dX4_opens_20 : decode cX4_opens 20 = .ok (.iconst 0, 1) := by decide +kernel
theorem dX4_opens_21 : decode cX4_opens 21 = .ok (.putfield 34, 3) := by decide +kernel
theorem dX4_opens_24 : decode cX4_opens 24 = .ok (.iconst 1, 1) := by decide +kernel
theorem dX4_opens_25 : decode cX4_opens 25 = .ok (.ireturn, 1) := by decide +kernel
theorem dX4_closes_0 : decode cX4_closes 0 = .ok (.aload_n 0, 1) := by decide +kernel
theorem dX4_closes_1 : decode cX4_closes 1 = .ok (.getfield 31, 3) := by decide +kernel
theorem dX4_closes_4 : decode cX4_closes 4 = .ok (.aload_n 0, 1) := by decide +kernel
theorem dX4_closes_5 : decode cX4_closes 5 = .ok (.getfield 28, 3) := by decide +kernel
theorem dX4_closes_8 : decode cX4_closes 8 = .ok (.invokestatic 63, 3) := by decide +kernel
theorem dX4_closes_11 : decode cX4_closes 11 = .ok (.if_icmp .eq 5, 3) := by decide +kernel
theorem dX4_closes_14 : decode cX4_closes 14 = .ok (.iconst 0, 1) := by decide +kernel
theorem dX4_closes_15 : decode cX4_closes 15 = .ok (.ireturn, 1) := by decide +kernel
theorem dX4_closes_16 : decode cX4_closes 16 = .ok (.aload_n 0, 1) := by decide +kernel
theorem dX4_closes_17 : decode cX4_closes 17 = .ok (.getfield 15, 3) := by decide +kernel
theorem dX4_closes_20 : decode cX4_closes 20 = .ok (.aload_n 0, 1) := by decide +kernel
theorem dX4_closes_21 : decode cX4_closes 21 = .ok (.getfield 25, 3) := by decide +kernel
theorem dX4_closes_24 : decode cX4_closes 24 = .ok (.aload_n 0, 1) := by decide +kernel
theorem dX4_closes_25 : decode cX4_closes 25 = .ok (.getfield 28, 3) := by decide +kernel
theorem dX4_closes_28 : decode cX4_closes 28 = .ok (.invokestatic 37, 3) := by decide +kernel
theorem dX4_closes_31 : decode cX4_closes 31 = .ok (.aload_n 0, 1) := by decide +kernel
theorem dX4_closes_32 : decode cX4_closes 32 = .ok (.dup, 1) := by decide +kernel
theorem dX4_closes_33 : decode cX4_closes 33 = .ok (.getfield 25, 3) := by decide +kernel
theorem dX4_closes_36 : decode cX4_closes 36 = .ok (.iconst 1, 1) := by decide +kernel
theorem dX4_closes_37 : decode cX4_closes 37 = .ok (.iadd, 1) := by decide +kernel
theorem dX4_closes_38 : decode cX4_closes 38 = .ok (.putfield 25, 3) := by decide +kernel
theorem dX4_closes_41 : decode cX4_closes 41 = .ok (.aload_n 0, 1) := by decide +kernel
theorem dX4_closes_42 : decode cX4_closes 42 = .ok (.iconst 0, 1) := by decide +kernel
theorem dX4_closes_43 : decode cX4_closes 43 = .ok (.putfield 28, 3) := by decide +kernel
theorem dX4_closes_46 : decode cX4_closes 46 = .ok (.iconst 1, 1) := by decide +kernel
theorem dX4_closes_47 : decode cX4_closes 47 = .ok (.ireturn, 1) := by decide +kernel
theorem dX4_takesFigure_0 : decode cX4_takesFigure 0 = .ok (.aload_n 0, 1) := by decide +kernel
theorem dX4_takesFigure_1 : decode cX4_takesFigure 1 = .ok (.getfield 34, 3) := by decide +kernel
theorem dX4_takesFigure_4 : decode cX4_takesFigure 4 = .ok (.ifCond .ne 51, 3) := by decide +kernel
theorem dX4_takesFigure_7 : decode cX4_takesFigure 7 = .ok (.aload_n 0, 1) := by decide +kernel
theorem dX4_takesFigure_8 : decode cX4_takesFigure 8 = .ok (.getfield 31, 3) := by decide +kernel
theorem dX4_takesFigure_11 : decode cX4_takesFigure 11 = .ok (.aload_n 0, 1) := by decide +kernel
theorem dX4_takesFigure_12 : decode cX4_takesFigure 12 = .ok (.getfield 28, 3) := by decide +kernel
theorem dX4_takesFigure_15 : decode cX4_takesFigure 15 = .ok (.invokestatic 63, 3) := by decide +kernel
theorem dX4_takesFigure_18 : decode cX4_takesFigure 18 = .ok (.if_icmp .ne 5, 3) := by decide +kernel
theorem dX4_takesFigure_21 : decode cX4_takesFigure 21 = .ok (.iconst 0, 1) := by decide +kernel
theorem dX4_takesFigure_22 : decode cX4_takesFigure 22 = .ok (.ireturn, 1) := by decide +kernel
theorem dX4_takesFigure_23 : decode cX4_takesFigure 23 = .ok (.aload_n 0, 1) := by decide +kernel
theorem dX4_takesFigure_24 : decode cX4_takesFigure 24 = .ok (.dup, 1) := by decide +kernel
theorem dX4_takesFigure_25 : decode cX4_takesFigure 25 = .ok (.getfield 31, 3) := by decide +kernel
theorem dX4_takesFigure_28 : decode cX4_takesFigure 28 = .ok (.iconst 1, 1) := by decide +kernel
theorem dX4_takesFigure_29 : decode cX4_takesFigure 29 = .ok (.iadd, 1) := by decide +kernel
theorem dX4_takesFigure_30 : decode cX4_takesFigure 30 = .ok (.putfield 31, 3) := by decide +kernel
theorem dX4_takesFigure_33 : decode cX4_takesFigure 33 = .ok (.aload_n 0, 1) := by decide +kernel
theorem dX4_takesFigure_34 : decode cX4_takesFigure 34 = .ok (.getfield 18, 3) := by decide +kernel
theorem dX4_takesFigure_37 : decode cX4_takesFigure 37 = .ok (.aload_n 0, 1) := by decide +kernel
theorem dX4_takesFigure_38 : decode cX4_takesFigure 38 = .ok (.getfield 25, 3) := by decide +kernel
theorem dX4_takesFigure_41 : decode cX4_takesFigure 41 = .ok (.aload_n 0, 1) := by decide +kernel
theorem dX4_takesFigure_42 : decode cX4_takesFigure 42 = .ok (.getfield 31, 3) := by decide +kernel
theorem dX4_takesFigure_45 : decode cX4_takesFigure 45 = .ok (.iconst 1, 1) := by decide +kernel
theorem dX4_takesFigure_46 : decode cX4_takesFigure 46 = .ok (.isub, 1) := by decide +kernel
theorem dX4_takesFigure_47 : decode cX4_takesFigure 47 = .ok (.iconst 3, 1) := by decide +kernel
theorem dX4_takesFigure_48 : decode cX4_takesFigure 48 = .ok (.invokestatic 67, 3) := by decide +kernel
theorem dX4_takesFigure_51 : decode cX4_takesFigure 51 = .ok (.iconst 0, 1) := by decide +kernel
theorem dX4_takesFigure_52 : decode cX4_takesFigure 52 = .ok (.invokestatic 37, 3) := by decide +kernel
theorem dX4_takesFigure_55 : decode cX4_takesFigure 55 = .ok (.aload_n 0, 1) := by decide +kernel
theorem dX4_takesFigure_56 : decode cX4_takesFigure 56 = .ok (.getfield 34, 3) := by decide +kernel
theorem dX4_takesFigure_59 : decode cX4_takesFigure 59 = .ok (.iconst 3, 1) := by decide +kernel
theorem dX4_takesFigure_60 : decode cX4_takesFigure 60 = .ok (.if_icmp .ne 5, 3) := by decide +kernel
theorem dX4_takesFigure_63 : decode cX4_takesFigure 63 = .ok (.iconst 0, 1) := by decide +kernel
theorem dX4_takesFigure_64 : decode cX4_takesFigure 64 = .ok (.ireturn, 1) := by decide +kernel
theorem dX4_takesFigure_65 : decode cX4_takesFigure 65 = .ok (.aload_n 0, 1) := by decide +kernel
theorem dX4_takesFigure_66 : decode cX4_takesFigure 66 = .ok (.dup, 1) := by decide +kernel
theorem dX4_takesFigure_67 : decode cX4_takesFigure 67 = .ok (.getfield 34, 3) := by decide +kernel
theorem dX4_takesFigure_70 : decode cX4_takesFigure 70 = .ok (.iconst 1, 1) := by decide +kernel
theorem dX4_takesFigure_71 : decode cX4_takesFigure 71 = .ok (.iadd, 1) := by decide +kernel
theorem dX4_takesFigure_72 : decode cX4_takesFigure 72 = .ok (.putfield 34, 3) := by decide +kernel
theorem dX4_takesFigure_75 : decode cX4_takesFigure 75 = .ok (.aload_n 0, 1) := by decide +kernel
theorem dX4_takesFigure_76 : decode cX4_takesFigure 76 = .ok (.getfield 25, 3) := by decide +kernel
theorem dX4_takesFigure_79 : decode cX4_takesFigure 79 = .ok (.aload_n 0, 1) := by decide +kernel
theorem dX4_takesFigure_80 : decode cX4_takesFigure 80 = .ok (.getfield 31, 3) := by decide +kernel
theorem dX4_takesFigure_83 : decode cX4_takesFigure 83 = .ok (.iconst 1, 1) := by decide +kernel
theorem dX4_takesFigure_84 : decode cX4_takesFigure 84 = .ok (.isub, 1) := by decide +kernel
theorem dX4_takesFigure_85 : decode cX4_takesFigure 85 = .ok (.iconst 3, 1) := by decide +kernel
theorem dX4_takesFigure_86 : decode cX4_takesFigure 86 = .ok (.invokestatic 67, 3) := by decide +kernel
theorem dX4_takesFigure_89 : decode cX4_takesFigure 89 = .ok (.istore_n 2, 1) := by decide +kernel
theorem dX4_takesFigure_90 : decode cX4_takesFigure 90 = .ok (.aload_n 0, 1) := by decide +kernel
theorem dX4_takesFigure_91 : decode cX4_takesFigure 91 = .ok (.getfield 18, 3) := by decide +kernel
theorem dX4_takesFigure_94 : decode cX4_takesFigure 94 = .ok (.iload_n 2, 1) := by decide +kernel
theorem dX4_takesFigure_95 : decode cX4_takesFigure 95 = .ok (.bipush 10, 2) := by decide +kernel
theorem dX4_takesFigure_97 : decode cX4_takesFigure 97 = .ok (.aload_n 0, 1) := by decide +kernel
theorem dX4_takesFigure_98 : decode cX4_takesFigure 98 = .ok (.getfield 18, 3) := by decide +kernel
theorem dX4_takesFigure_101 : decode cX4_takesFigure 101 = .ok (.iload_n 2, 1) := by decide +kernel
theorem dX4_takesFigure_102 : decode cX4_takesFigure 102 = .ok (.invokestatic 41, 3) := by decide +kernel
theorem dX4_takesFigure_105 : decode cX4_takesFigure 105 = .ok (.imul, 1) := by decide +kernel
theorem dX4_takesFigure_106 : decode cX4_takesFigure 106 = .ok (.iload_n 1, 1) := by decide +kernel
theorem dX4_takesFigure_107 : decode cX4_takesFigure 107 = .ok (.iadd, 1) := by decide +kernel
theorem dX4_takesFigure_108 : decode cX4_takesFigure 108 = .ok (.invokestatic 37, 3) := by decide +kernel
theorem dX4_takesFigure_111 : decode cX4_takesFigure 111 = .ok (.iconst 1, 1) := by decide +kernel
theorem dX4_takesFigure_112 : decode cX4_takesFigure 112 = .ok (.ireturn, 1) := by decide +kernel
theorem dX4_apply_0 : decode cX4_apply 0 = .ok (.iconst 0, 1) := by decide +kernel
theorem dX4_apply_1 : decode cX4_apply 1 = .ok (.istore_n 2, 1) := by decide +kernel
theorem dX4_apply_2 : decode cX4_apply 2 = .ok (.iload_n 2, 1) := by decide +kernel
theorem dX4_apply_3 : decode cX4_apply 3 = .ok (.aload_n 0, 1) := by decide +kernel
theorem dX4_apply_4 : decode cX4_apply 4 = .ok (.getfield 25, 3) := by decide +kernel
theorem dX4_apply_7 : decode cX4_apply 7 = .ok (.if_icmp .ge 20, 3) := by decide +kernel
theorem dX4_apply_10 : decode cX4_apply 10 = .ok (.aload_n 0, 1) := by decide +kernel
theorem dX4_apply_11 : decode cX4_apply 11 = .ok (.aload_n 1, 1) := by decide +kernel
theorem dX4_apply_12 : decode cX4_apply 12 = .ok (.iload_n 2, 1) := by decide +kernel
theorem dX4_apply_13 : decode cX4_apply 13 = .ok (.invokevirtual 71, 3) := by decide +kernel
theorem dX4_apply_16 : decode cX4_apply 16 = .ok (.ifCond .ge 5, 3) := by decide +kernel
theorem dX4_apply_19 : decode cX4_apply 19 = .ok (.iload_n 2, 1) := by decide +kernel
theorem dX4_apply_20 : decode cX4_apply 20 = .ok (.ireturn, 1) := by decide +kernel
theorem dX4_apply_21 : decode cX4_apply 21 = .ok (.iinc 2 1, 3) := by decide +kernel
theorem dX4_apply_24 : decode cX4_apply 24 = .ok (.goto (-22), 3) := by decide +kernel
theorem dX4_apply_27 : decode cX4_apply 27 = .ok (.iconst (-1), 1) := by decide +kernel
theorem dX4_apply_28 : decode cX4_apply 28 = .ok (.ireturn, 1) := by decide +kernel
theorem dX4_applyOne_0 : decode cX4_applyOne 0 = .ok (.aload_n 0, 1) := by decide +kernel
theorem dX4_applyOne_1 : decode cX4_applyOne 1 = .ok (.getfield 18, 3) := by decide +kernel
theorem dX4_applyOne_4 : decode cX4_applyOne 4 = .ok (.iload_n 2, 1) := by decide +kernel
theorem dX4_applyOne_5 : decode cX4_applyOne 5 = .ok (.iconst 0, 1) := by decide +kernel
theorem dX4_applyOne_6 : decode cX4_applyOne 6 = .ok (.iconst 3, 1) := by decide +kernel
theorem dX4_applyOne_7 : decode cX4_applyOne 7 = .ok (.invokestatic 67, 3) := by decide +kernel
theorem dX4_applyOne_10 : decode cX4_applyOne 10 = .ok (.invokestatic 41, 3) := by decide +kernel
theorem dX4_applyOne_13 : decode cX4_applyOne 13 = .ok (.istore_n 3, 1) := by decide +kernel
theorem dX4_applyOne_14 : decode cX4_applyOne 14 = .ok (.aload_n 0, 1) := by decide +kernel
theorem dX4_applyOne_15 : decode cX4_applyOne 15 = .ok (.getfield 18, 3) := by decide +kernel
theorem dX4_applyOne_18 : decode cX4_applyOne 18 = .ok (.iload_n 2, 1) := by decide +kernel
theorem dX4_applyOne_19 : decode cX4_applyOne 19 = .ok (.iconst 1, 1) := by decide +kernel
theorem dX4_applyOne_20 : decode cX4_applyOne 20 = .ok (.iconst 3, 1) := by decide +kernel
theorem dX4_applyOne_21 : decode cX4_applyOne 21 = .ok (.invokestatic 67, 3) := by decide +kernel
theorem dX4_applyOne_24 : decode cX4_applyOne 24 = .ok (.invokestatic 41, 3) := by decide +kernel
theorem dX4_applyOne_27 : decode cX4_applyOne 27 = .ok (.istore 4, 2) := by decide +kernel
theorem dX4_applyOne_29 : decode cX4_applyOne 29 = .ok (.aload_n 0, 1) := by decide +kernel
theorem dX4_applyOne_30 : decode cX4_applyOne 30 = .ok (.getfield 18, 3) := by decide +kernel
theorem dX4_applyOne_33 : decode cX4_applyOne 33 = .ok (.iload_n 2, 1) := by decide +kernel
theorem dX4_applyOne_34 : decode cX4_applyOne 34 = .ok (.iconst 2, 1) := by decide +kernel
theorem dX4_applyOne_35 : decode cX4_applyOne 35 = .ok (.iconst 3, 1) := by decide +kernel
theorem dX4_applyOne_36 : decode cX4_applyOne 36 = .ok (.invokestatic 67, 3) := by decide +kernel
theorem dX4_applyOne_39 : decode cX4_applyOne 39 = .ok (.invokestatic 41, 3) := by decide +kernel
theorem dX4_applyOne_42 : decode cX4_applyOne 42 = .ok (.istore 5, 2) := by decide +kernel
theorem dX4_applyOne_44 : decode cX4_applyOne 44 = .ok (.aload_n 0, 1) := by decide +kernel
theorem dX4_applyOne_45 : decode cX4_applyOne 45 = .ok (.getfield 15, 3) := by decide +kernel
theorem dX4_applyOne_48 : decode cX4_applyOne 48 = .ok (.iload_n 2, 1) := by decide +kernel
theorem dX4_applyOne_49 : decode cX4_applyOne 49 = .ok (.invokestatic 41, 3) := by decide +kernel
theorem dX4_applyOne_52 : decode cX4_applyOne 52 = .ok (.lookupswitch 92 #[(103, 58), (107, 68), (108, 52), (115, 76), (119, 84)], 52) := by decide +kernel
theorem dX4_applyOne_104 : decode cX4_applyOne 104 = .ok (.aload_n 1, 1) := by decide +kernel
theorem dX4_applyOne_105 : decode cX4_applyOne 105 = .ok (.iload_n 3, 1) := by decide +kernel
theorem dX4_applyOne_106 : decode cX4_applyOne 106 = .ok (.invokevirtual 75, 3) := by decide +kernel
theorem dX4_applyOne_109 : decode cX4_applyOne 109 = .ok (.ireturn, 1) := by decide +kernel
theorem dX4_applyOne_110 : decode cX4_applyOne 110 = .ok (.aload_n 1, 1) := by decide +kernel
theorem dX4_applyOne_111 : decode cX4_applyOne 111 = .ok (.iload_n 3, 1) := by decide +kernel
theorem dX4_applyOne_112 : decode cX4_applyOne 112 = .ok (.iload 4, 2) := by decide +kernel
theorem dX4_applyOne_114 : decode cX4_applyOne 114 = .ok (.iload 5, 2) := by decide +kernel
theorem dX4_applyOne_116 : decode cX4_applyOne 116 = .ok (.invokevirtual 80, 3) := by decide +kernel
theorem dX4_applyOne_119 : decode cX4_applyOne 119 = .ok (.ireturn, 1) := by decide +kernel
theorem dX4_applyOne_120 : decode cX4_applyOne 120 = .ok (.aload_n 1, 1) := by decide +kernel
theorem dX4_applyOne_121 : decode cX4_applyOne 121 = .ok (.iload_n 3, 1) := by decide +kernel
theorem dX4_applyOne_122 : decode cX4_applyOne 122 = .ok (.iload 4, 2) := by decide +kernel
theorem dX4_applyOne_124 : decode cX4_applyOne 124 = .ok (.invokevirtual 83, 3) := by decide +kernel
theorem dX4_applyOne_127 : decode cX4_applyOne 127 = .ok (.ireturn, 1) := by decide +kernel
theorem dX4_applyOne_128 : decode cX4_applyOne 128 = .ok (.aload_n 1, 1) := by decide +kernel
theorem dX4_applyOne_129 : decode cX4_applyOne 129 = .ok (.iload_n 3, 1) := by decide +kernel
theorem dX4_applyOne_130 : decode cX4_applyOne 130 = .ok (.iload 4, 2) := by decide +kernel
theorem dX4_applyOne_132 : decode cX4_applyOne 132 = .ok (.invokevirtual 87, 3) := by decide +kernel
theorem dX4_applyOne_135 : decode cX4_applyOne 135 = .ok (.ireturn, 1) := by decide +kernel
theorem dX4_applyOne_136 : decode cX4_applyOne 136 = .ok (.aload_n 1, 1) := by decide +kernel
theorem dX4_applyOne_137 : decode cX4_applyOne 137 = .ok (.iload_n 3, 1) := by decide +kernel
theorem dX4_applyOne_138 : decode cX4_applyOne 138 = .ok (.iload 4, 2) := by decide +kernel
theorem dX4_applyOne_140 : decode cX4_applyOne 140 = .ok (.invokevirtual 90, 3) := by decide +kernel
theorem dX4_applyOne_143 : decode cX4_applyOne 143 = .ok (.ireturn, 1) := by decide +kernel
theorem dX4_applyOne_144 : decode cX4_applyOne 144 = .ok (.bipush (-2), 2) := by decide +kernel
theorem dX4_applyOne_146 : decode cX4_applyOne 146 = .ok (.ireturn, 1) := by decide +kernel
theorem dX4_numbersOf_0 : decode cX4_numbersOf 0 = .ok (.iload_n 0, 1) := by decide +kernel
theorem dX4_numbersOf_1 : decode cX4_numbersOf 1 = .ok (.lookupswitch 57 #[(103, 53), (107, 55), (108, 51), (115, 55), (119, 55)], 51) := by decide +kernel
theorem dX4_numbersOf_52 : decode cX4_numbersOf 52 = .ok (.iconst 1, 1) := by decide +kernel
theorem dX4_numbersOf_53 : decode cX4_numbersOf 53 = .ok (.ireturn, 1) := by decide +kernel
theorem dX4_numbersOf_54 : decode cX4_numbersOf 54 = .ok (.iconst 3, 1) := by decide +kernel
theorem dX4_numbersOf_55 : decode cX4_numbersOf 55 = .ok (.ireturn, 1) := by decide +kernel
theorem dX4_numbersOf_56 : decode cX4_numbersOf 56 = .ok (.iconst 2, 1) := by decide +kernel
theorem dX4_numbersOf_57 : decode cX4_numbersOf 57 = .ok (.ireturn, 1) := by decide +kernel
theorem dX4_numbersOf_58 : decode cX4_numbersOf 58 = .ok (.iconst 0, 1) := by decide +kernel
theorem dX4_numbersOf_59 : decode cX4_numbersOf 59 = .ok (.ireturn, 1) := by decide +kernel
