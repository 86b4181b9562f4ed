theorem dX0_init_0 : decode cX0_init 0 = .ok (.aload_n 0, 1) := by decide +kernel
theorem dX0_init_1 : decode cX0_init 1 = .ok (.invokespecial 3, 3) := by decide +kernel
theorem dX0_init_4 : decode cX0_init 4 = .ok (.aload_n 0, 1) := by decide +kernel
theorem dX0_init_5 : decode cX0_init 5 = .ok (.bipush 6, 2) := by decide +kernel
theorem dX0_init_7 : decode cX0_init 7 = .ok (.newarray .int, 2) := by decide +kernel
theorem dX0_init_9 : decode cX0_init 9 = .ok (.putfield 9, 3) := by decide +kernel
theorem dX0_init_12 : decode cX0_init 12 = .ok (.aload_n 0, 1) := by decide +kernel
theorem dX0_init_13 : decode cX0_init 13 = .ok (.bipush 48, 2) := by decide +kernel
theorem dX0_init_15 : decode cX0_init 15 = .ok (.newarray .int, 2) := by decide +kernel
theorem dX0_init_17 : decode cX0_init 17 = .ok (.putfield 15, 3) := by decide +kernel
theorem dX0_init_20 : decode cX0_init 20 = .ok (.aload_n 0, 1) := by decide +kernel
theorem dX0_init_21 : decode cX0_init 21 = .ok (.bipush 48, 2) := by decide +kernel
theorem dX0_init_23 : decode cX0_init 23 = .ok (.newarray .int, 2) := by decide +kernel
theorem dX0_init_25 : decode cX0_init 25 = .ok (.putfield 18, 3) := by decide +kernel
theorem dX0_init_28 : decode cX0_init 28 = .ok (.aload_n 0, 1) := by decide +kernel
theorem dX0_init_29 : decode cX0_init 29 = .ok (.bipush 6, 2) := by decide +kernel
theorem dX0_init_31 : decode cX0_init 31 = .ok (.newarray .int, 2) := by decide +kernel
theorem dX0_init_33 : decode cX0_init 33 = .ok (.putfield 21, 3) := by decide +kernel
theorem dX0_init_36 : decode cX0_init 36 = .ok (.aload_n 0, 1) := by decide +kernel
theorem dX0_init_37 : decode cX0_init 37 = .ok (.bipush 6, 2) := by decide +kernel
theorem dX0_init_39 : decode cX0_init 39 = .ok (.newarray .int, 2) := by decide +kernel
theorem dX0_init_41 : decode cX0_init 41 = .ok (.putfield 24, 3) := by decide +kernel
theorem dX0_init_44 : decode cX0_init 44 = .ok (.aload_n 0, 1) := by decide +kernel
theorem dX0_init_45 : decode cX0_init 45 = .ok (.bipush 7, 2) := by decide +kernel
theorem dX0_init_47 : decode cX0_init 47 = .ok (.newarray .int, 2) := by decide +kernel
theorem dX0_init_49 : decode cX0_init 49 = .ok (.putfield 27, 3) := by decide +kernel
theorem dX0_init_52 : decode cX0_init 52 = .ok (.aload_n 0, 1) := by decide +kernel
theorem dX0_init_53 : decode cX0_init 53 = .ok (.iconst 0, 1) := by decide +kernel
theorem dX0_init_54 : decode cX0_init 54 = .ok (.putfield 30, 3) := by decide +kernel
theorem dX0_init_57 : decode cX0_init 57 = .ok (.aload_n 0, 1) := by decide +kernel
theorem dX0_init_58 : decode cX0_init 58 = .ok (.iconst 0, 1) := by decide +kernel
theorem dX0_init_59 : decode cX0_init 59 = .ok (.putfield 34, 3) := by decide +kernel
theorem dX0_init_62 : decode cX0_init 62 = .ok (.getstatic 37, 3) := by decide +kernel
theorem dX0_init_65 : decode cX0_init 65 = .ok (.aload_n 0, 1) := by decide +kernel
theorem dX0_init_66 : decode cX0_init 66 = .ok (.getfield 27, 3) := by decide +kernel
theorem dX0_init_69 : decode cX0_init 69 = .ok (.invokestatic 40, 3) := by decide +kernel
theorem dX0_init_72 : decode cX0_init 72 = .ok (.return_, 1) := by decide +kernel
theorem dX0_takeFrom_0 : decode cX0_takeFrom 0 = .ok (.aload_n 1, 1) := by decide +kernel
theorem dX0_takeFrom_1 : decode cX0_takeFrom 1 = .ok (.getfield 9, 3) := by decide +kernel
theorem dX0_takeFrom_4 : decode cX0_takeFrom 4 = .ok (.aload_n 0, 1) := by decide +kernel
theorem dX0_takeFrom_5 : decode cX0_takeFrom 5 = .ok (.getfield 9, 3) := by decide +kernel
theorem dX0_takeFrom_8 : decode cX0_takeFrom 8 = .ok (.invokestatic 40, 3) := by decide +kernel
theorem dX0_takeFrom_11 : decode cX0_takeFrom 11 = .ok (.aload_n 1, 1) := by decide +kernel
theorem dX0_takeFrom_12 : decode cX0_takeFrom 12 = .ok (.getfield 15, 3) := by decide +kernel
theorem dX0_takeFrom_15 : decode cX0_takeFrom 15 = .ok (.aload_n 0, 1) := by decide +kernel
theorem dX0_takeFrom_16 : decode cX0_takeFrom 16 = .ok (.getfield 15, 3) := by decide +kernel
theorem dX0_takeFrom_19 : decode cX0_takeFrom 19 = .ok (.invokestatic 40, 3) := by decide +kernel
theorem dX0_takeFrom_22 : decode cX0_takeFrom 22 = .ok (.aload_n 1, 1) := by decide +kernel
theorem dX0_takeFrom_23 : decode cX0_takeFrom 23 = .ok (.getfield 18, 3) := by decide +kernel
theorem dX0_takeFrom_26 : decode cX0_takeFrom 26 = .ok (.aload_n 0, 1) := by decide +kernel
theorem dX0_takeFrom_27 : decode cX0_takeFrom 27 = .ok (.getfield 18, 3) := by decide +kernel
theorem dX0_takeFrom_30 : decode cX0_takeFrom 30 = .ok (.invokestatic 40, 3) := by decide +kernel
theorem dX0_takeFrom_33 : decode cX0_takeFrom 33 = .ok (.aload_n 1, 1) := by decide +kernel
theorem dX0_takeFrom_34 : decode cX0_takeFrom 34 = .ok (.getfield 21, 3) := by decide +kernel
theorem dX0_takeFrom_37 : decode cX0_takeFrom 37 = .ok (.aload_n 0, 1) := by decide +kernel
theorem dX0_takeFrom_38 : decode cX0_takeFrom 38 = .ok (.getfield 21, 3) := by decide +kernel
theorem dX0_takeFrom_41 : decode cX0_takeFrom 41 = .ok (.invokestatic 40, 3) := by decide +kernel
theorem dX0_takeFrom_44 : decode cX0_takeFrom 44 = .ok (.aload_n 1, 1) := by decide +kernel
theorem dX0_takeFrom_45 : decode cX0_takeFrom 45 = .ok (.getfield 24, 3) := by decide +kernel
theorem dX0_takeFrom_48 : decode cX0_takeFrom 48 = .ok (.aload_n 0, 1) := by decide +kernel
theorem dX0_takeFrom_49 : decode cX0_takeFrom 49 = .ok (.getfield 24, 3) := by decide +kernel
theorem dX0_takeFrom_52 : decode cX0_takeFrom 52 = .ok (.invokestatic 40, 3) := by decide +kernel
theorem dX0_takeFrom_55 : decode cX0_takeFrom 55 = .ok (.aload_n 1, 1) := by decide +kernel
theorem dX0_takeFrom_56 : decode cX0_takeFrom 56 = .ok (.getfield 27, 3) := by decide +kernel
theorem dX0_takeFrom_59 : decode cX0_takeFrom 59 = .ok (.aload_n 0, 1) := by decide +kernel
theorem dX0_takeFrom_60 : decode cX0_takeFrom 60 = .ok (.getfield 27, 3) := by decide +kernel
theorem dX0_takeFrom_63 : decode cX0_takeFrom 63 = .ok (.invokestatic 40, 3) := by decide +kernel
theorem dX0_takeFrom_66 : decode cX0_takeFrom 66 = .ok (.aload_n 0, 1) := by decide +kernel
theorem dX0_takeFrom_67 : decode cX0_takeFrom 67 = .ok (.aload_n 1, 1) := by decide +kernel
theorem dX0_takeFrom_68 : decode cX0_takeFrom 68 = .ok (.getfield 30, 3) := by decide +kernel
theorem dX0_takeFrom_71 : decode cX0_takeFrom 71 = .ok (.putfield 30, 3) := by decide +kernel
theorem dX0_takeFrom_74 : decode cX0_takeFrom 74 = .ok (.aload_n 0, 1) := by decide +kernel
theorem dX0_takeFrom_75 : decode cX0_takeFrom 75 = .ok (.aload_n 1, 1) := by decide +kernel
theorem dX0_takeFrom_76 : decode cX0_takeFrom 76 = .ok (.getfield 34, 3) := by decide +kernel
theorem dX0_takeFrom_79 : decode cX0_takeFrom 79 = .ok (.putfield 34, 3) := by decide +kernel
theorem dX0_takeFrom_82 : decode cX0_takeFrom 82 = .ok (.return_, 1) := by decide +kernel
theorem dX0_addLine_0 : decode cX0_addLine 0 = .ok (.iload_n 1, 1) := by decide +kernel
theorem dX0_addLine_1 : decode cX0_addLine 1 = .ok (.iconst 1, 1) := by decide +kernel
theorem dX0_addLine_2 : decode cX0_addLine 2 = .ok (.bipush 60, 2) := by decide +kernel
theorem dX0_addLine_4 : decode cX0_addLine 4 = .ok (.invokestatic 44, 3) := by decide +kernel
theorem dX0_addLine_7 : decode cX0_addLine 7 = .ok (.ifCond .ne 6, 3) := by decide +kernel
theorem dX0_addLine_10 : decode cX0_addLine 10 = .ok (.bipush (-2), 2) := by decide +kernel
theorem dX0_addLine_12 : decode cX0_addLine 12 = .ok (.ireturn, 1) := by decide +kernel
theorem dX0_addLine_13 : decode cX0_addLine 13 = .ok (.aload_n 0, 1) := by decide +kernel
theorem dX0_addLine_14 : decode cX0_addLine 14 = .ok (.getfield 30, 3) := by decide +kernel
theorem dX0_addLine_17 : decode cX0_addLine 17 = .ok (.bipush 6, 2) := by decide +kernel
theorem dX0_addLine_19 : decode cX0_addLine 19 = .ok (.if_icmp .lt 6, 3) := by decide +kernel
theorem dX0_addLine_22 : decode cX0_addLine 22 = .ok (.bipush (-4), 2) := by decide +kernel
theorem dX0_addLine_24 : decode cX0_addLine 24 = .ok (.ireturn, 1) := by decide +kernel
theorem dX0_addLine_25 : decode cX0_addLine 25 = .ok (.aload_n 0, 1) := by decide +kernel
theorem dX0_addLine_26 : decode cX0_addLine 26 = .ok (.getfield 9, 3) := by decide +kernel
theorem dX0_addLine_29 : decode cX0_addLine 29 = .ok (.aload_n 0, 1) := by decide +kernel
theorem dX0_addLine_30 : decode cX0_addLine 30 = .ok (.getfield 30, 3) := by decide +kernel
theorem dX0_addLine_33 : decode cX0_addLine 33 = .ok (.iconst 1, 1) := by decide +kernel
theorem dX0_addLine_34 : decode cX0_addLine 34 = .ok (.invokestatic 48, 3) := by decide +kernel
theorem dX0_addLine_37 : decode cX0_addLine 37 = .ok (.aload_n 0, 1) := by decide +kernel
theorem dX0_addLine_38 : decode cX0_addLine 38 = .ok (.getfield 15, 3) := by decide +kernel
theorem dX0_addLine_41 : decode cX0_addLine 41 = .ok (.aload_n 0, 1) := by decide +kernel
theorem dX0_addLine_42 : decode cX0_addLine 42 = .ok (.getfield 30, 3) := by decide +kernel
theorem dX0_addLine_45 : decode cX0_addLine 45 = .ok (.iconst 0, 1) := by decide +kernel
theorem dX0_addLine_46 : decode cX0_addLine 46 = .ok (.bipush 8, 2) := by decide +kernel
theorem dX0_addLine_48 : decode cX0_addLine 48 = .ok (.invokestatic 52, 3) := by decide +kernel
theorem dX0_addLine_51 : decode cX0_addLine 51 = .ok (.iload_n 1, 1) := by decide +kernel
theorem dX0_addLine_52 : decode cX0_addLine 52 = .ok (.invokestatic 48, 3) := by decide +kernel
theorem dX0_addLine_55 : decode cX0_addLine 55 = .ok (.aload_n 0, 1) := by decide +kernel
theorem dX0_addLine_56 : decode cX0_addLine 56 = .ok (.getfield 18, 3) := by decide +kernel
theorem dX0_addLine_59 : decode cX0_addLine 59 = .ok (.aload_n 0, 1) := by decide +kernel
theorem dX0_addLine_60 : decode cX0_addLine 60 = .ok (.getfield 30, 3) := by decide +kernel
theorem dX0_addLine_63 : decode cX0_addLine 63 = .ok (.iconst 0, 1) := by decide +kernel
theorem dX0_addLine_64 : decode cX0_addLine 64 = .ok (.bipush 8, 2) := by decide +kernel
theorem dX0_addLine_66 : decode cX0_addLine 66 = .ok (.invokestatic 52, 3) := by decide +kernel
theorem dX0_addLine_69 : decode cX0_addLine 69 = .ok (.iconst (-1), 1) := by decide +kernel
theorem dX0_addLine_70 : decode cX0_addLine 70 = .ok (.invokestatic 48, 3) := by decide +kernel
theorem dX0_addLine_73 : decode cX0_addLine 73 = .ok (.aload_n 0, 1) := by decide +kernel
theorem dX0_addLine_74 : decode cX0_addLine 74 = .ok (.dup, 1) := by decide +kernel
theorem dX0_addLine_75 : decode cX0_addLine 75 = .ok (.getfield 30, 3) := by decide +kernel
theorem dX0_addLine_78 : decode cX0_addLine 78 = .ok (.iconst 1, 1) := by decide +kernel
theorem dX0_addLine_79 : decode cX0_addLine 79 = .ok (.iadd, 1) := by decide +kernel
theorem dX0_addLine_80 : decode cX0_addLine 80 = .ok (.putfield 30, 3) := by decide +kernel
theorem dX0_addLine_83 : decode cX0_addLine 83 = .ok (.aload_n 0, 1) := by decide +kernel
theorem dX0_addLine_84 : decode cX0_addLine 84 = .ok (.getfield 30, 3) := by decide +kernel
theorem dX0_addLine_87 : decode cX0_addLine 87 = .ok (.iconst 1, 1) := by decide +kernel
theorem dX0_addLine_88 : decode cX0_addLine 88 = .ok (.isub, 1) := by decide +kernel
theorem dX0_addLine_89 : decode cX0_addLine 89 = .ok (.ireturn, 1) := by decide +kernel
theorem dX0_addRun_0 : decode cX0_addRun 0 = .ok (.aload_n 0, 1) := by decide +kernel
theorem dX0_addRun_1 : decode cX0_addRun 1 = .ok (.iload_n 1, 1) := by decide +kernel
theorem dX0_addRun_2 : decode cX0_addRun 2 = .ok (.invokevirtual 56, 3) := by decide +kernel
theorem dX0_addRun_5 : decode cX0_addRun 5 = .ok (.ifCond .eq 22, 3) := by decide +kernel
theorem dX0_addRun_8 : decode cX0_addRun 8 = .ok (.iload_n 2, 1) := by decide +kernel
theorem dX0_addRun_9 : decode cX0_addRun 9 = .ok (.iconst 0, 1) := by decide +kernel
theorem dX0_addRun_10 : decode cX0_addRun 10 = .ok (.iconst 1, 1) := by decide +kernel
theorem dX0_addRun_11 : decode cX0_addRun 11 = .ok (.invokestatic 44, 3) := by decide +kernel
theorem dX0_addRun_14 : decode cX0_addRun 14 = .ok (.ifCond .eq 13, 3) := by decide +kernel
theorem dX0_addRun_17 : decode cX0_addRun 17 = .ok (.iload_n 3, 1) := by decide +kernel
theorem dX0_addRun_18 : decode cX0_addRun 18 = .ok (.iconst 1, 1) := by decide +kernel
theorem dX0_addRun_19 : decode cX0_addRun 19 = .ok (.bipush 60, 2) := by decide +kernel
theorem dX0_addRun_21 : decode cX0_addRun 21 = .ok (.invokestatic 44, 3) := by decide +kernel
theorem dX0_addRun_24 : decode cX0_addRun 24 = .ok (.ifCond .ne 6, 3) := by decide +kernel
theorem dX0_addRun_27 : decode cX0_addRun 27 = .ok (.bipush (-2), 2) := by decide +kernel
theorem dX0_addRun_29 : decode cX0_addRun 29 = .ok (.ireturn, 1) := by decide +kernel
theorem dX0_addRun_30 : decode cX0_addRun 30 = .ok (.aload_n 0, 1) := by decide +kernel
theorem dX0_addRun_31 : decode cX0_addRun 31 = .ok (.iload_n 1, 1) := by decide +kernel
theorem dX0_addRun_32 : decode cX0_addRun 32 = .ok (.invokevirtual 60, 3) := by decide +kernel
theorem dX0_addRun_35 : decode cX0_addRun 35 = .ok (.istore 4, 2) := by decide +kernel
theorem dX0_addRun_37 : decode cX0_addRun 37 = .ok (.iload 4, 2) := by decide +kernel
theorem dX0_addRun_39 : decode cX0_addRun 39 = .ok (.bipush 8, 2) := by decide +kernel
theorem dX0_addRun_41 : decode cX0_addRun 41 = .ok (.if_icmp .lt 6, 3) := by decide +kernel
theorem dX0_addRun_44 : decode cX0_addRun 44 = .ok (.bipush (-4), 2) := by decide +kernel
theorem dX0_addRun_46 : decode cX0_addRun 46 = .ok (.ireturn, 1) := by decide +kernel
theorem dX0_addRun_47 : decode cX0_addRun 47 = .ok (.aload_n 0, 1) := by decide +kernel
theorem dX0_addRun_48 : decode cX0_addRun 48 = .ok (.getfield 15, 3) := by decide +kernel
theorem dX0_addRun_51 : decode cX0_addRun 51 = .ok (.iload_n 1, 1) := by decide +kernel
theorem dX0_addRun_52 : decode cX0_addRun 52 = .ok (.iload 4, 2) := by decide +kernel
theorem dX0_addRun_54 : decode cX0_addRun 54 = .ok (.bipush 8, 2) := by decide +kernel
theorem dX0_addRun_56 : decode cX0_addRun 56 = .ok (.invokestatic 52, 3) := by decide +kernel
theorem dX0_addRun_59 : decode cX0_addRun 59 = .ok (.iload_n 3, 1) := by decide +kernel
theorem dX0_addRun_60 : decode cX0_addRun 60 = .ok (.invokestatic 48, 3) := by decide +kernel
theorem dX0_addRun_63 : decode cX0_addRun 63 = .ok (.aload_n 0, 1) := by decide +kernel
theorem dX0_addRun_64 : decode cX0_addRun 64 = .ok (.getfield 18, 3) := by decide +kernel
theorem dX0_addRun_67 : decode cX0_addRun 67 = .ok (.iload_n 1, 1) := by decide +kernel
theorem dX0_addRun_68 : decode cX0_addRun 68 = .ok (.iload 4, 2) := by decide +kernel
theorem dX0_addRun_70 : decode cX0_addRun 70 = .ok (.bipush 8, 2) := by decide +kernel
theorem dX0_addRun_72 : decode cX0_addRun 72 = .ok (.invokestatic 52, 3) := by decide +kernel
theorem dX0_addRun_75 : decode cX0_addRun 75 = .ok (.iload_n 2, 1) := by decide +kernel
theorem dX0_addRun_76 : decode cX0_addRun 76 = .ok (.invokestatic 48, 3) := by decide +kernel
theorem dX0_addRun_79 : decode cX0_addRun 79 = .ok (.aload_n 0, 1) := by decide +kernel
theorem dX0_addRun_80 : decode cX0_addRun 80 = .ok (.getfield 9, 3) := by decide +kernel
theorem dX0_addRun_83 : decode cX0_addRun 83 = .ok (.iload_n 1, 1) := by decide +kernel
theorem dX0_addRun_84 : decode cX0_addRun 84 = .ok (.iload 4, 2) := by decide +kernel
theorem dX0_addRun_86 : decode cX0_addRun 86 = .ok (.iconst 1, 1) := by decide +kernel
theorem dX0_addRun_87 : decode cX0_addRun 87 = .ok (.iadd, 1) := by decide +kernel
theorem dX0_addRun_88 : decode cX0_addRun 88 = .ok (.invokestatic 48, 3) := by decide +kernel
theorem dX0_addRun_91 : decode cX0_addRun 91 = .ok (.iload 4, 2) := by decide +kernel
theorem dX0_addRun_93 : decode cX0_addRun 93 = .ok (.iconst 1, 1) := by decide +kernel
theorem dX0_addRun_94 : decode cX0_addRun 94 = .ok (.iadd, 1) := by decide +kernel
theorem dX0_addRun_95 : decode cX0_addRun 95 = .ok (.ireturn, 1) := by decide +kernel
theorem dX0_dropRun_0 : decode cX0_dropRun 0 = .ok (.aload_n 0, 1) := by decide +kernel
theorem dX0_dropRun_1 : decode cX0_dropRun 1 = .ok (.iload_n 1, 1) := by decide +kernel
theorem dX0_dropRun_2 : decode cX0_dropRun 2 = .ok (.invokevirtual 56, 3) := by decide +kernel
theorem dX0_dropRun_5 : decode cX0_dropRun 5 = .ok (.ifCond .ne 6, 3) := by decide +kernel
theorem dX0_dropRun_8 : decode cX0_dropRun 8 = .ok (.bipush (-2), 2) := by decide +kernel
theorem dX0_dropRun_10 : decode cX0_dropRun 10 = .ok (.ireturn, 1) := by decide +kernel
theorem dX0_dropRun_11 : decode cX0_dropRun 11 = .ok (.aload_n 0, 1) := by decide +kernel
theorem dX0_dropRun_12 : decode cX0_dropRun 12 = .ok (.iload_n 1, 1) := by decide +kernel
theorem dX0_dropRun_13 : decode cX0_dropRun 13 = .ok (.invokevirtual 60, 3) := by decide +kernel
theorem dX0_dropRun_16 : decode cX0_dropRun 16 = .ok (.iconst 1, 1) := by decide +kernel
theorem dX0_dropRun_17 : decode cX0_dropRun 17 = .ok (.isub, 1) := by decide +kernel
theorem dX0_dropRun_18 : decode cX0_dropRun 18 = .ok (.istore_n 2, 1) := by decide +kernel
theorem dX0_dropRun_19 : decode cX0_dropRun 19 = .ok (.iload_n 2, 1) := by decide +kernel
theorem dX0_dropRun_20 : decode cX0_dropRun 20 = .ok (.iconst 1, 1) := by decide +kernel
theorem dX0_dropRun_21 : decode cX0_dropRun 21 = .ok (.if_icmp .ge 6, 3) := by decide +kernel
theorem dX0_dropRun_24 : decode cX0_dropRun 24 = .ok (.bipush (-3), 2) := by decide +kernel
theorem dX0_dropRun_26 : decode cX0_dropRun 26 = .ok (.ireturn, 1) := by decide +kernel
theorem dX0_dropRun_27 : decode cX0_dropRun 27 = .ok (.aload_n 0, 1) := by decide +kernel
theorem dX0_dropRun_28 : decode cX0_dropRun 28 = .ok (.getfield 9, 3) := by decide +kernel
theorem dX0_dropRun_31 : decode cX0_dropRun 31 = .ok (.iload_n 1, 1) := by decide +kernel
theorem dX0_dropRun_32 : decode cX0_dropRun 32 = .ok (.iload_n 2, 1) := by decide +kernel
theorem dX0_dropRun_33 : decode cX0_dropRun 33 = .ok (.invokestatic 48, 3) := by decide +kernel
theorem dX0_dropRun_36 : decode cX0_dropRun 36 = .ok (.iload_n 2, 1) := by decide +kernel
theorem dX0_dropRun_37 : decode cX0_dropRun 37 = .ok (.ireturn, 1) := by decide +kernel
theorem dX0_addPocket_0 : decode cX0_addPocket 0 = .ok (.iload_n 1, 1) := by decide +kernel
theorem dX0_addPocket_1 : decode cX0_addPocket 1 = .ok (.iconst 1, 1) := by decide +kernel
theorem dX0_addPocket_2 : decode cX0_addPocket 2 = .ok (.bipush 60, 2) := by decide +kernel
theorem dX0_addPocket_4 : decode cX0_addPocket 4 = .ok (.invokestatic 44, 3) := by decide +kernel
theorem dX0_addPocket_7 : decode cX0_addPocket 7 = .ok (.ifCond .eq 13, 3) := by decide +kernel
theorem dX0_addPocket_10 : decode cX0_addPocket 10 = .ok (.iload_n 2, 1) := by decide +kernel
theorem dX0_addPocket_11 : decode cX0_addPocket 11 = .ok (.iconst 0, 1) := by decide +kernel
theorem dX0_addPocket_12 : decode cX0_addPocket 12 = .ok (.bipush 63, 2) := by decide +kernel
theorem dX0_addPocket_14 : decode cX0_addPocket 14 = .ok (.invokestatic 44, 3) := by decide +kernel
theorem dX0_addPocket_17 : decode cX0_addPocket 17 = .ok (.ifCond .ne 6, 3) := by decide +kernel
theorem dX0_addPocket_20 : decode cX0_addPocket 20 = .ok (.bipush (-2), 2) := by decide +kernel
theorem dX0_addPocket_22 : decode cX0_addPocket 22 = .ok (.ireturn, 1) := by decide +kernel
theorem dX0_addPocket_23 : decode cX0_addPocket 23 = .ok (.aload_n 0, 1) := by decide +kernel
theorem dX0_addPocket_24 : decode cX0_addPocket 24 = .ok (.getfield 34, 3) := by decide +kernel
theorem dX0_addPocket_27 : decode cX0_addPocket 27 = .ok (.bipush 6, 2) := by decide +kernel
theorem dX0_addPocket_29 : decode cX0_addPocket 29 = .ok (.if_icmp .lt 6, 3) := by decide +kernel
theorem dX0_addPocket_32 : decode cX0_addPocket 32 = .ok (.bipush (-4), 2) := by decide +kernel
theorem dX0_addPocket_34 : decode cX0_addPocket 34 = .ok (.ireturn, 1) := by decide +kernel
theorem dX0_addPocket_35 : decode cX0_addPocket 35 = .ok (.aload_n 0, 1) := by decide +kernel
theorem dX0_addPocket_36 : decode cX0_addPocket 36 = .ok (.getfield 21, 3) := by decide +kernel
theorem dX0_addPocket_39 : decode cX0_addPocket 39 = .ok (.aload_n 0, 1) := by decide +kernel
theorem dX0_addPocket_40 : decode cX0_addPocket 40 = .ok (.getfield 34, 3) := by decide +kernel
theorem dX0_addPocket_43 : decode cX0_addPocket 43 = .ok (.iload_n 1, 1) := by decide +kernel
theorem dX0_addPocket_44 : decode cX0_addPocket 44 = .ok (.invokestatic 48, 3) := by decide +kernel
theorem dX0_addPocket_47 : decode cX0_addPocket 47 = .ok (.aload_n 0, 1) := by decide +kernel
theorem dX0_addPocket_48 : decode cX0_addPocket 48 = .ok (.getfield 24, 3) := by decide +kernel
theorem dX0_addPocket_51 : decode cX0_addPocket 51 = .ok (.aload_n 0, 1) := by decide +kernel
theorem dX0_addPocket_52 : decode cX0_addPocket 52 = .ok (.getfield 34, 3) := by decide +kernel
theorem dX0_addPocket_55 : decode cX0_addPocket 55 = .ok (.iload_n 2, 1) := by decide +kernel
theorem dX0_addPocket_56 : decode cX0_addPocket 56 = .ok (.invokestatic 48, 3) := by decide +kernel
theorem dX0_addPocket_59 : decode cX0_addPocket 59 = .ok (.aload_n 0, 1) := by decide +kernel
theorem dX0_addPocket_60 : decode cX0_addPocket 60 = .ok (.dup, 1) := by decide +kernel
theorem dX0_addPocket_61 : decode cX0_addPocket 61 = .ok (.getfield 34, 3) := by decide +kernel
theorem dX0_addPocket_64 : decode cX0_addPocket 64 = .ok (.iconst 1, 1) := by decide +kernel
theorem dX0_addPocket_65 : decode cX0_addPocket 65 = .ok (.iadd, 1) := by decide +kernel
theorem dX0_addPocket_66 : decode cX0_addPocket 66 = .ok (.putfield 34, 3) := by decide +kernel
theorem dX0_addPocket_69 : decode cX0_addPocket 69 = .ok (.aload_n 0, 1) := by decide +kernel
theorem dX0_addPocket_70 : decode cX0_addPocket 70 = .ok (.getfield 34, 3) := by decide +kernel
theorem dX0_addPocket_73 : decode cX0_addPocket 73 = .ok (.iconst 1, 1) := by decide +kernel
theorem dX0_addPocket_74 : decode cX0_addPocket 74 = .ok (.isub, 1) := by decide +kernel
theorem dX0_addPocket_75 : decode cX0_addPocket 75 = .ok (.ireturn, 1) := by decide +kernel
theorem dX0_changeWide_0 : decode cX0_changeWide 0 = .ok (.aload_n 0, 1) := by decide +kernel
theorem dX0_changeWide_1 : decode cX0_changeWide 1 = .ok (.iload_n 1, 1) := by decide +kernel
theorem dX0_changeWide_2 : decode cX0_changeWide 2 = .ok (.invokevirtual 64, 3) := by decide +kernel
theorem dX0_changeWide_5 : decode cX0_changeWide 5 = .ok (.ifCond .eq 13, 3) := by decide +kernel
theorem dX0_changeWide_8 : decode cX0_changeWide 8 = .ok (.iload_n 2, 1) := by decide +kernel
theorem dX0_changeWide_9 : decode cX0_changeWide 9 = .ok (.iconst 1, 1) := by decide +kernel
theorem dX0_changeWide_10 : decode cX0_changeWide 10 = .ok (.bipush 60, 2) := by decide +kernel
theorem dX0_changeWide_12 : decode cX0_changeWide 12 = .ok (.invokestatic 44, 3) := by decide +kernel
theorem dX0_changeWide_15 : decode cX0_changeWide 15 = .ok (.ifCond .ne 6, 3) := by decide +kernel
theorem dX0_changeWide_18 : decode cX0_changeWide 18 = .ok (.bipush (-2), 2) := by decide +kernel
theorem dX0_changeWide_20 : decode cX0_changeWide 20 = .ok (.ireturn, 1) := by decide +kernel
theorem dX0_changeWide_21 : decode cX0_changeWide 21 = .ok (.aload_n 0, 1) := by decide +kernel
theorem dX0_changeWide_22 : decode cX0_changeWide 22 = .ok (.iload_n 1, 1) := by decide +kernel
theorem dX0_changeWide_23 : decode cX0_changeWide 23 = .ok (.invokevirtual 67, 3) := by decide +kernel
theorem dX0_changeWide_26 : decode cX0_changeWide 26 = .ok (.istore_n 3, 1) := by decide +kernel
theorem dX0_changeWide_27 : decode cX0_changeWide 27 = .ok (.aload_n 0, 1) := by decide +kernel
theorem dX0_changeWide_28 : decode cX0_changeWide 28 = .ok (.getfield 21, 3) := by decide +kernel
theorem dX0_changeWide_31 : decode cX0_changeWide 31 = .ok (.iload_n 1, 1) := by decide +kernel
theorem dX0_changeWide_32 : decode cX0_changeWide 32 = .ok (.iload_n 2, 1) := by decide +kernel
theorem dX0_changeWide_33 : decode cX0_changeWide 33 = .ok (.invokestatic 48, 3) := by decide +kernel
theorem dX0_changeWide_36 : decode cX0_changeWide 36 = .ok (.iload_n 3, 1) := by decide +kernel
theorem dX0_changeWide_37 : decode cX0_changeWide 37 = .ok (.ireturn, 1) := by decide +kernel
theorem dX0_changeTouch_0 : decode cX0_changeTouch 0 = .ok (.aload_n 0, 1) := by decide +kernel
theorem dX0_changeTouch_1 : decode cX0_changeTouch 1 = .ok (.iload_n 1, 1) := by decide +kernel
theorem dX0_changeTouch_2 : decode cX0_changeTouch 2 = .ok (.invokevirtual 64, 3) := by decide +kernel
theorem dX0_changeTouch_5 : decode cX0_changeTouch 5 = .ok (.ifCond .eq 13, 3) := by decide +kernel
theorem dX0_changeTouch_8 : decode cX0_changeTouch 8 = .ok (.iload_n 2, 1) := by decide +kernel
theorem dX0_changeTouch_9 : decode cX0_changeTouch 9 = .ok (.iconst 0, 1) := by decide +kernel
theorem dX0_changeTouch_10 : decode cX0_changeTouch 10 = .ok (.bipush 63, 2) := by decide +kernel
theorem dX0_changeTouch_12 : decode cX0_changeTouch 12 = .ok (.invokestatic 44, 3) := by decide +kernel
theorem dX0_changeTouch_15 : decode cX0_changeTouch 15 = .ok (.ifCond .ne 6, 3) := by decide +kernel
theorem dX0_changeTouch_18 : decode cX0_changeTouch 18 = .ok (.bipush (-2), 2) := by decide +kernel
theorem dX0_changeTouch_20 : decode cX0_changeTouch 20 = .ok (.ireturn, 1) := by decide +kernel
theorem dX0_changeTouch_21 : decode cX0_changeTouch 21 = .ok (.aload_n 0, 1) := by decide +kernel
theorem dX0_changeTouch_22 : decode cX0_changeTouch 22 = .ok (.getfield 24, 3) := by decide +kernel
theorem dX0_changeTouch_25 : decode cX0_changeTouch 25 = .ok (.iload_n 1, 1) := by decide +kernel
theorem dX0_changeTouch_26 : decode cX0_changeTouch 26 = .ok (.invokestatic 70, 3) := by decide +kernel
theorem dX0_changeTouch_29 : decode cX0_changeTouch 29 = .ok (.istore_n 3, 1) := by decide +kernel
theorem dX0_changeTouch_30 : decode cX0_changeTouch 30 = .ok (.aload_n 0, 1) := by decide +kernel
theorem dX0_changeTouch_31 : decode cX0_changeTouch 31 = .ok (.getfield 24, 3) := by decide +kernel
theorem dX0_changeTouch_34 : decode cX0_changeTouch 34 = .ok (.iload_n 1, 1) := by decide +kernel
theorem dX0_changeTouch_35 : decode cX0_changeTouch 35 = .ok (.iload_n 2, 1) := by decide +kernel
theorem dX0_changeTouch_36 : decode cX0_changeTouch 36 = .ok (.invokestatic 48, 3) := by decide +kernel
theorem dX0_changeTouch_39 : decode cX0_changeTouch 39 = .ok (.iload_n 3, 1) := by decide +kernel
theorem dX0_changeTouch_40 : decode cX0_changeTouch 40 = .ok (.ireturn, 1) := by decide +kernel
theorem dX0_changeSetting_0 : decode cX0_changeSetting 0 = .ok (.iload_n 1, 1) := by decide +kernel
theorem dX0_changeSetting_1 : decode cX0_changeSetting 1 = .ok (.iconst 0, 1) := by decide +kernel
theorem dX0_changeSetting_2 : decode cX0_changeSetting 2 = .ok (.bipush 6, 2) := by decide +kernel
theorem dX0_changeSetting_4 : decode cX0_changeSetting 4 = .ok (.invokestatic 44, 3) := by decide +kernel
theorem dX0_changeSetting_7 : decode cX0_changeSetting 7 = .ok (.ifCond .eq 24, 3) := by decide +kernel
theorem dX0_changeSetting_10 : decode cX0_changeSetting 10 = .ok (.iload_n 2, 1) := by decide +kernel
theorem dX0_changeSetting_11 : decode cX0_changeSetting 11 = .ok (.getstatic 74, 3) := by decide +kernel
theorem dX0_changeSetting_14 : decode cX0_changeSetting 14 = .ok (.iload_n 1, 1) := by decide +kernel
theorem dX0_changeSetting_15 : decode cX0_changeSetting 15 = .ok (.invokestatic 70, 3) := by decide +kernel
theorem dX0_changeSetting_18 : decode cX0_changeSetting 18 = .ok (.getstatic 77, 3) := by decide +kernel
theorem dX0_changeSetting_21 : decode cX0_changeSetting 21 = .ok (.iload_n 1, 1) := by decide +kernel
theorem dX0_changeSetting_22 : decode cX0_changeSetting 22 = .ok (.invokestatic 70, 3) := by decide +kernel
theorem dX0_changeSetting_25 : decode cX0_changeSetting 25 = .ok (.invokestatic 44, 3) := by decide +kernel
theorem dX0_changeSetting_28 : decode cX0_changeSetting 28 = .ok (.ifCond .ne 6, 3) := by decide +kernel
theorem dX0_changeSetting_31 : decode cX0_changeSetting 31 = .ok (.bipush (-2), 2) := by decide +kernel
theorem dX0_changeSetting_33 : decode cX0_changeSetting 33 = .ok (.ireturn, 1) := by decide +kernel
theorem dX0_changeSetting_34 : decode cX0_changeSetting 34 = .ok (.aload_n 0, 1) := by decide +kernel
theorem dX0_changeSetting_35 : decode cX0_changeSetting 35 = .ok (.getfield 27, 3) := by decide +kernel
theorem dX0_changeSetting_38 : decode cX0_changeSetting 38 = .ok (.iload_n 1, 1) := by decide +kernel
theorem dX0_changeSetting_39 : decode cX0_changeSetting 39 = .ok (.invokestatic 70, 3) := by decide +kernel
theorem dX0_changeSetting_42 : decode cX0_changeSetting 42 = .ok (.istore_n 3, 1) := by decide +kernel
theorem dX0_changeSetting_43 : decode cX0_changeSetting 43 = .ok (.aload_n 0, 1) := by decide +kernel
theorem dX0_changeSetting_44 : decode cX0_changeSetting 44 = .ok (.getfield 27, 3) := by decide +kernel
theorem dX0_changeSetting_47 : decode cX0_changeSetting 47 = .ok (.iload_n 1, 1) := by decide +kernel
theorem dX0_changeSetting_48 : decode cX0_changeSetting 48 = .ok (.iload_n 2, 1) := by decide +kernel
theorem dX0_changeSetting_49 : decode cX0_changeSetting 49 = .ok (.invokestatic 48, 3) := by decide +kernel
theorem dX0_changeSetting_52 : decode cX0_changeSetting 52 = .ok (.iload_n 3, 1) := by decide +kernel
theorem dX0_changeSetting_53 : decode cX0_changeSetting 53 = .ok (.ireturn, 1) := by decide +kernel
theorem dX0_hasLine_0 : decode cX0_hasLine 0 = .ok (.iload_n 1, 1) := by decide +kernel
theorem dX0_hasLine_1 : decode cX0_hasLine 1 = .ok (.ifCond .lt 15, 3) := by decide +kernel
theorem dX0_hasLine_4 : decode cX0_hasLine 4 = .ok (.iload_n 1, 1) := by decide +kernel
theorem dX0_hasLine_5 : decode cX0_hasLine 5 = .ok (.aload_n 0, 1) := by decide +kernel
theorem dX0_hasLine_6 : decode cX0_hasLine 6 = .ok (.getfield 30, 3) := by decide +kernel
theorem dX0_hasLine_9 : decode cX0_hasLine 9 = .ok (.if_icmp .ge 7, 3) := by decide +kernel
theorem dX0_hasLine_12 : decode cX0_hasLine 12 = .ok (.iconst 1, 1) := by decide +kernel
theorem dX0_hasLine_13 : decode cX0_hasLine 13 = .ok (.goto 4, 3) := by decide +kernel
theorem dX0_hasLine_16 : decode cX0_hasLine 16 = .ok (.iconst 0, 1) := by decide +kernel
theorem dX0_hasLine_17 : decode cX0_hasLine 17 = .ok (.ireturn, 1) := by decide +kernel
theorem dX0_hasRun_0 : decode cX0_hasRun 0 = .ok (.aload_n 0, 1) := by decide +kernel
theorem dX0_hasRun_1 : decode cX0_hasRun 1 = .ok (.iload_n 1, 1) := by decide +kernel
theorem dX0_hasRun_2 : decode cX0_hasRun 2 = .ok (.invokevirtual 56, 3) := by decide +kernel
theorem dX0_hasRun_5 : decode cX0_hasRun 5 = .ok (.ifCond .eq 20, 3) := by decide +kernel
theorem dX0_hasRun_8 : decode cX0_hasRun 8 = .ok (.iload_n 2, 1) := by decide +kernel
theorem dX0_hasRun_9 : decode cX0_hasRun 9 = .ok (.ifCond .lt 16, 3) := by decide +kernel
theorem dX0_hasRun_12 : decode cX0_hasRun 12 = .ok (.iload_n 2, 1) := by decide +kernel
theorem dX0_hasRun_13 : decode cX0_hasRun 13 = .ok (.aload_n 0, 1) := by decide +kernel
theorem dX0_hasRun_14 : decode cX0_hasRun 14 = .ok (.iload_n 1, 1) := by decide +kernel
theorem dX0_hasRun_15 : decode cX0_hasRun 15 = .ok (.invokevirtual 60, 3) := by decide +kernel
theorem dX0_hasRun_18 : decode cX0_hasRun 18 = .ok (.if_icmp .ge 7, 3) := by decide +kernel
theorem dX0_hasRun_21 : decode cX0_hasRun 21 = .ok (.iconst 1, 1) := by decide +kernel
theorem dX0_hasRun_22 : decode cX0_hasRun 22 = .ok (.goto 4, 3) := by decide +kernel
theorem dX0_hasRun_25 : decode cX0_hasRun 25 = .ok (.iconst 0, 1) := by decide +kernel
theorem dX0_hasRun_26 : decode cX0_hasRun 26 = .ok (.ireturn, 1) := by decide +kernel
theorem dX0_hasPocket_0 : decode cX0_hasPocket 0 = .ok (.iload_n 1, 1) := by decide +kernel
theorem dX0_hasPocket_1 : decode cX0_hasPocket 1 = .ok (.ifCond .lt 15, 3) := by decide +kernel
theorem dX0_hasPocket_4 : decode cX0_hasPocket 4 = .ok (.iload_n 1, 1) := by decide +kernel
theorem dX0_hasPocket_5 : decode cX0_hasPocket 5 = .ok (.aload_n 0, 1) := by decide +kernel
theorem dX0_hasPocket_6 : decode cX0_hasPocket 6 = .ok (.getfield 34, 3) := by decide +kernel
theorem dX0_hasPocket_9 : decode cX0_hasPocket 9 = .ok (.if_icmp .ge 7, 3) := by decide +kernel
theorem dX0_hasPocket_12 : decode cX0_hasPocket 12 = .ok (.iconst 1, 1) := by decide +kernel
theorem dX0_hasPocket_13 : decode cX0_hasPocket 13 = .ok (.goto 4, 3) := by decide +kernel
theorem dX0_hasPocket_16 : decode cX0_hasPocket 16 = .ok (.iconst 0, 1) := by decide +kernel
theorem dX0_hasPocket_17 : decode cX0_hasPocket 17 = .ok (.ireturn, 1) := by decide +kernel
theorem dX0_lineCount_0 : decode cX0_lineCount 0 = .ok (.aload_n 0, 1) := by decide +kernel
theorem dX0_lineCount_1 : decode cX0_lineCount 1 = .ok (.getfield 30, 3) := by decide +kernel
theorem dX0_lineCount_4 : decode cX0_lineCount 4 = .ok (.ireturn, 1) := by decide +kernel
theorem dX0_pocketCount_0 : decode cX0_pocketCount 0 = .ok (.aload_n 0, 1) := by decide +kernel
theorem dX0_pocketCount_1 : decode cX0_pocketCount 1 = .ok (.getfield 34, 3) := by decide +kernel
theorem dX0_pocketCount_4 : decode cX0_pocketCount 4 = .ok (.ireturn, 1) := by decide +kernel
theorem dX0_settingAt_0 : decode cX0_settingAt 0 = .ok (.aload_n 0, 1) := by decide +kernel
theorem dX0_settingAt_1 : decode cX0_settingAt 1 = .ok (.getfield 27, 3) := by decide +kernel
theorem dX0_settingAt_4 : decode cX0_settingAt 4 = .ok (.iload_n 1, 1) := by decide +kernel
theorem dX0_settingAt_5 : decode cX0_settingAt 5 = .ok (.invokestatic 70, 3) := by decide +kernel
theorem dX0_settingAt_8 : decode cX0_settingAt 8 = .ok (.ireturn, 1) := by decide +kernel
theorem dX0_runsOf_0 : decode cX0_runsOf 0 = .ok (.aload_n 0, 1) := by decide +kernel
theorem dX0_runsOf_1 : decode cX0_runsOf 1 = .ok (.getfield 9, 3) := by decide +kernel
theorem dX0_runsOf_4 : decode cX0_runsOf 4 = .ok (.iload_n 1, 1) := by decide +kernel
theorem dX0_runsOf_5 : decode cX0_runsOf 5 = .ok (.invokestatic 70, 3) := by decide +kernel
theorem dX0_runsOf_8 : decode cX0_runsOf 8 = .ok (.ireturn, 1) := by decide +kernel
theorem dX0_longOf_0 : decode cX0_longOf 0 = .ok (.aload_n 0, 1) := by decide +kernel
theorem dX0_longOf_1 : decode cX0_longOf 1 = .ok (.getfield 15, 3) := by decide +kernel
theorem dX0_longOf_4 : decode cX0_longOf 4 = .ok (.iload_n 1, 1) := by decide +kernel
theorem dX0_longOf_5 : decode cX0_longOf 5 = .ok (.iload_n 2, 1) := by decide +kernel
theorem dX0_longOf_6 : decode cX0_longOf 6 = .ok (.bipush 8, 2) := by decide +kernel
theorem dX0_longOf_8 : decode cX0_longOf 8 = .ok (.invokestatic 52, 3) := by decide +kernel
theorem dX0_longOf_11 : decode cX0_longOf 11 = .ok (.invokestatic 70, 3) := by decide +kernel
theorem dX0_longOf_14 : decode cX0_longOf 14 = .ok (.ireturn, 1) := by decide +kernel
theorem dX0_turnAhead_0 : decode cX0_turnAhead 0 = .ok (.aload_n 0, 1) := by decide +kernel
theorem dX0_turnAhead_1 : decode cX0_turnAhead 1 = .ok (.getfield 18, 3) := by decide +kernel
theorem dX0_turnAhead_4 : decode cX0_turnAhead 4 = .ok (.iload_n 1, 1) := by decide +kernel
theorem dX0_turnAhead_5 : decode cX0_turnAhead 5 = .ok (.iload_n 2, 1) := by decide +kernel
theorem dX0_turnAhead_6 : decode cX0_turnAhead 6 = .ok (.bipush 8, 2) := by decide +kernel
theorem dX0_turnAhead_8 : decode cX0_turnAhead 8 = .ok (.invokestatic 52, 3) := by decide +kernel
theorem dX0_turnAhead_11 : decode cX0_turnAhead 11 = .ok (.invokestatic 70, 3) := by decide +kernel
theorem dX0_turnAhead_14 : decode cX0_turnAhead 14 = .ok (.ireturn, 1) := by decide +kernel
theorem dX0_bumpRoom_0 : decode cX0_bumpRoom 0 = .ok (.aload_n 0, 1) := by decide +kernel
theorem dX0_bumpRoom_1 : decode cX0_bumpRoom 1 = .ok (.getfield 27, 3) := by decide +kernel
theorem dX0_bumpRoom_4 : decode cX0_bumpRoom 4 = .ok (.bipush 6, 2) := by decide +kernel
theorem dX0_bumpRoom_6 : decode cX0_bumpRoom 6 = .ok (.invokestatic 70, 3) := by decide +kernel
theorem dX0_bumpRoom_9 : decode cX0_bumpRoom 9 = .ok (.istore_n 3, 1) := by decide +kernel
theorem dX0_bumpRoom_10 : decode cX0_bumpRoom 10 = .ok (.iload_n 3, 1) := by decide +kernel
theorem dX0_bumpRoom_11 : decode cX0_bumpRoom 11 = .ok (.iconst 1, 1) := by decide +kernel
theorem dX0_bumpRoom_12 : decode cX0_bumpRoom 12 = .ok (.if_icmp .ge 7, 3) := by decide +kernel
theorem dX0_bumpRoom_15 : decode cX0_bumpRoom 15 = .ok (.iconst 0, 1) := by decide +kernel
theorem dX0_bumpRoom_16 : decode cX0_bumpRoom 16 = .ok (.goto 11, 3) := by decide +kernel
theorem dX0_bumpRoom_19 : decode cX0_bumpRoom 19 = .ok (.aload_n 0, 1) := by decide +kernel
theorem dX0_bumpRoom_20 : decode cX0_bumpRoom 20 = .ok (.iload_n 1, 1) := by decide +kernel
theorem dX0_bumpRoom_21 : decode cX0_bumpRoom 21 = .ok (.iload_n 2, 1) := by decide +kernel
theorem dX0_bumpRoom_22 : decode cX0_bumpRoom 22 = .ok (.invokevirtual 80, 3) := by decide +kernel
theorem dX0_bumpRoom_25 : decode cX0_bumpRoom 25 = .ok (.iload_n 3, 1) := by decide +kernel
theorem dX0_bumpRoom_26 : decode cX0_bumpRoom 26 = .ok (.idiv, 1) := by decide +kernel
theorem dX0_bumpRoom_27 : decode cX0_bumpRoom 27 = .ok (.ireturn, 1) := by decide +kernel
theorem dX0_turnsOf_0 : decode cX0_turnsOf 0 = .ok (.iconst 0, 1) := by decide +kernel
theorem dX0_turnsOf_1 : decode cX0_turnsOf 1 = .ok (.istore_n 3, 1) := by decide +kernel
theorem dX0_turnsOf_2 : decode cX0_turnsOf 2 = .ok (.iconst 1, 1) := by decide +kernel
theorem dX0_turnsOf_3 : decode cX0_turnsOf 3 = .ok (.istore 4, 2) := by decide +kernel
theorem dX0_turnsOf_5 : decode cX0_turnsOf 5 = .ok (.iload 4, 2) := by decide +kernel
theorem dX0_turnsOf_7 : decode cX0_turnsOf 7 = .ok (.aload_n 0, 1) := by decide +kernel
theorem dX0_turnsOf_8 : decode cX0_turnsOf 8 = .ok (.iload_n 1, 1) := by decide +kernel
theorem dX0_turnsOf_9 : decode cX0_turnsOf 9 = .ok (.invokevirtual 60, 3) := by decide +kernel
theorem dX0_turnsOf_12 : decode cX0_turnsOf 12 = .ok (.if_icmp .ge 23, 3) := by decide +kernel
theorem dX0_turnsOf_15 : decode cX0_turnsOf 15 = .ok (.aload_n 0, 1) := by decide +kernel
theorem dX0_turnsOf_16 : decode cX0_turnsOf 16 = .ok (.iload_n 1, 1) := by decide +kernel
theorem dX0_turnsOf_17 : decode cX0_turnsOf 17 = .ok (.iload 4, 2) := by decide +kernel
theorem dX0_turnsOf_19 : decode cX0_turnsOf 19 = .ok (.invokevirtual 84, 3) := by decide +kernel
theorem dX0_turnsOf_22 : decode cX0_turnsOf 22 = .ok (.iload_n 2, 1) := by decide +kernel
theorem dX0_turnsOf_23 : decode cX0_turnsOf 23 = .ok (.if_icmp .ne 6, 3) := by decide +kernel
theorem dX0_turnsOf_26 : decode cX0_turnsOf 26 = .ok (.iinc 3 1, 3) := by decide +kernel
theorem dX0_turnsOf_29 : decode cX0_turnsOf 29 = .ok (.iinc 4 1, 3) := by decide +kernel
theorem dX0_turnsOf_32 : decode cX0_turnsOf 32 = .ok (.goto (-27), 3) := by decide +kernel
theorem dX0_turnsOf_35 : decode cX0_turnsOf 35 = .ok (.iload_n 3, 1) := by decide +kernel
theorem dX0_turnsOf_36 : decode cX0_turnsOf 36 = .ok (.ireturn, 1) := by decide +kernel
theorem dX0_plainSkew_0 : decode cX0_plainSkew 0 = .ok (.iconst 0, 1) := by decide +kernel
theorem dX0_plainSkew_1 : decode cX0_plainSkew 1 = .ok (.istore_n 3, 1) := by decide +kernel
theorem dX0_plainSkew_2 : decode cX0_plainSkew 2 = .ok (.iconst 1, 1) := by decide +kernel
theorem dX0_plainSkew_3 : decode cX0_plainSkew 3 = .ok (.istore 4, 2) := by decide +kernel
theorem dX0_plainSkew_5 : decode cX0_plainSkew 5 = .ok (.iload 4, 2) := by decide +kernel
theorem dX0_plainSkew_7 : decode cX0_plainSkew 7 = .ok (.iload_n 2, 1) := by decide +kernel
theorem dX0_plainSkew_8 : decode cX0_plainSkew 8 = .ok (.if_icmp .gt 39, 3) := by decide +kernel
theorem dX0_plainSkew_11 : decode cX0_plainSkew 11 = .ok (.iload 4, 2) := by decide +kernel
theorem dX0_plainSkew_13 : decode cX0_plainSkew 13 = .ok (.aload_n 0, 1) := by decide +kernel
theorem dX0_plainSkew_14 : decode cX0_plainSkew 14 = .ok (.iload_n 1, 1) := by decide +kernel
theorem dX0_plainSkew_15 : decode cX0_plainSkew 15 = .ok (.invokevirtual 60, 3) := by decide +kernel
theorem dX0_plainSkew_18 : decode cX0_plainSkew 18 = .ok (.if_icmp .ge 29, 3) := by decide +kernel
theorem dX0_plainSkew_21 : decode cX0_plainSkew 21 = .ok (.iload_n 3, 1) := by decide +kernel
theorem dX0_plainSkew_22 : decode cX0_plainSkew 22 = .ok (.aload_n 0, 1) := by decide +kernel
theorem dX0_plainSkew_23 : decode cX0_plainSkew 23 = .ok (.iload_n 1, 1) := by decide +kernel
theorem dX0_plainSkew_24 : decode cX0_plainSkew 24 = .ok (.iload 4, 2) := by decide +kernel
theorem dX0_plainSkew_26 : decode cX0_plainSkew 26 = .ok (.invokevirtual 84, 3) := by decide +kernel
theorem dX0_plainSkew_29 : decode cX0_plainSkew 29 = .ok (.iconst 1, 1) := by decide +kernel
theorem dX0_plainSkew_30 : decode cX0_plainSkew 30 = .ok (.if_icmp .ne 7, 3) := by decide +kernel
theorem dX0_plainSkew_33 : decode cX0_plainSkew 33 = .ok (.iconst 2, 1) := by decide +kernel
theorem dX0_plainSkew_34 : decode cX0_plainSkew 34 = .ok (.goto 5, 3) := by decide +kernel
theorem dX0_plainSkew_37 : decode cX0_plainSkew 37 = .ok (.bipush (-2), 2) := by decide +kernel
theorem dX0_plainSkew_39 : decode cX0_plainSkew 39 = .ok (.iadd, 1) := by decide +kernel
theorem dX0_plainSkew_40 : decode cX0_plainSkew 40 = .ok (.istore_n 3, 1) := by decide +kernel
theorem dX0_plainSkew_41 : decode cX0_plainSkew 41 = .ok (.iinc 4 1, 3) := by decide +kernel
theorem dX0_plainSkew_44 : decode cX0_plainSkew 44 = .ok (.goto (-39), 3) := by decide +kernel
theorem dX0_plainSkew_47 : decode cX0_plainSkew 47 = .ok (.iload_n 3, 1) := by decide +kernel
theorem dX0_plainSkew_48 : decode cX0_plainSkew 48 = .ok (.ireturn, 1) := by decide +kernel
theorem dX0_baseOf_0 : decode cX0_baseOf 0 = .ok (.iconst 0, 1) := by decide +kernel
theorem dX0_baseOf_1 : decode cX0_baseOf 1 = .ok (.istore_n 2, 1) := by decide +kernel
theorem dX0_baseOf_2 : decode cX0_baseOf 2 = .ok (.iconst 0, 1) := by decide +kernel
theorem dX0_baseOf_3 : decode cX0_baseOf 3 = .ok (.istore_n 3, 1) := by decide +kernel
theorem dX0_baseOf_4 : decode cX0_baseOf 4 = .ok (.iload_n 3, 1) := by decide +kernel
theorem dX0_baseOf_5 : decode cX0_baseOf 5 = .ok (.aload_n 0, 1) := by decide +kernel
theorem dX0_baseOf_6 : decode cX0_baseOf 6 = .ok (.iload_n 1, 1) := by decide +kernel
theorem dX0_baseOf_7 : decode cX0_baseOf 7 = .ok (.invokevirtual 60, 3) := by decide +kernel
theorem dX0_baseOf_10 : decode cX0_baseOf 10 = .ok (.if_icmp .ge 18, 3) := by decide +kernel
theorem dX0_baseOf_13 : decode cX0_baseOf 13 = .ok (.iload_n 2, 1) := by decide +kernel
theorem dX0_baseOf_14 : decode cX0_baseOf 14 = .ok (.aload_n 0, 1) := by decide +kernel
theorem dX0_baseOf_15 : decode cX0_baseOf 15 = .ok (.iload_n 1, 1) := by decide +kernel
theorem dX0_baseOf_16 : decode cX0_baseOf 16 = .ok (.iload_n 3, 1) := by decide +kernel
theorem dX0_baseOf_17 : decode cX0_baseOf 17 = .ok (.invokevirtual 80, 3) := by decide +kernel
theorem dX0_baseOf_20 : decode cX0_baseOf 20 = .ok (.iadd, 1) := by decide +kernel
theorem dX0_baseOf_21 : decode cX0_baseOf 21 = .ok (.istore_n 2, 1) := by decide +kernel
theorem dX0_baseOf_22 : decode cX0_baseOf 22 = .ok (.iinc 3 1, 3) := by decide +kernel
theorem dX0_baseOf_25 : decode cX0_baseOf 25 = .ok (.goto (-21), 3) := by decide +kernel
theorem dX0_baseOf_28 : decode cX0_baseOf 28 = .ok (.iconst 0, 1) := by decide +kernel
theorem dX0_baseOf_29 : decode cX0_baseOf 29 = .ok (.iload_n 2, 1) := by decide +kernel
theorem dX0_baseOf_30 : decode cX0_baseOf 30 = .ok (.aload_n 0, 1) := by decide +kernel
theorem dX0_baseOf_31 : decode cX0_baseOf 31 = .ok (.getfield 27, 3) := by decide +kernel
theorem dX0_baseOf_34 : decode cX0_baseOf 34 = .ok (.iconst 2, 1) := by decide +kernel
theorem dX0_baseOf_35 : decode cX0_baseOf 35 = .ok (.invokestatic 70, 3) := by decide +kernel
theorem dX0_baseOf_38 : decode cX0_baseOf 38 = .ok (.aload_n 0, 1) := by decide +kernel
theorem dX0_baseOf_39 : decode cX0_baseOf 39 = .ok (.iload_n 1, 1) := by decide +kernel
theorem dX0_baseOf_40 : decode cX0_baseOf 40 = .ok (.invokevirtual 60, 3) := by decide +kernel
theorem dX0_baseOf_43 : decode cX0_baseOf 43 = .ok (.iconst 1, 1) := by decide +kernel
theorem dX0_baseOf_44 : decode cX0_baseOf 44 = .ok (.isub, 1) := by decide +kernel
theorem dX0_baseOf_45 : decode cX0_baseOf 45 = .ok (.imul, 1) := by decide +kernel
theorem dX0_baseOf_46 : decode cX0_baseOf 46 = .ok (.isub, 1) := by decide +kernel
theorem dX0_baseOf_47 : decode cX0_baseOf 47 = .ok (.invokestatic 87, 3) := by decide +kernel
theorem dX0_baseOf_50 : decode cX0_baseOf 50 = .ok (.ireturn, 1) := by decide +kernel
theorem dX0_longestBase_0 : decode cX0_longestBase 0 = .ok (.iconst 0, 1) := by decide +kernel
theorem dX0_longestBase_1 : decode cX0_longestBase 1 = .ok (.istore_n 1, 1) := by decide +kernel
theorem dX0_longestBase_2 : decode cX0_longestBase 2 = .ok (.iconst 0, 1) := by decide +kernel
theorem dX0_longestBase_3 : decode cX0_longestBase 3 = .ok (.istore_n 2, 1) := by decide +kernel
theorem dX0_longestBase_4 : decode cX0_longestBase 4 = .ok (.iload_n 2, 1) := by decide +kernel
theorem dX0_longestBase_5 : decode cX0_longestBase 5 = .ok (.aload_n 0, 1) := by decide +kernel
theorem dX0_longestBase_6 : decode cX0_longestBase 6 = .ok (.getfield 30, 3) := by decide +kernel
theorem dX0_longestBase_9 : decode cX0_longestBase 9 = .ok (.if_icmp .ge 19, 3) := by decide +kernel
theorem dX0_longestBase_12 : decode cX0_longestBase 12 = .ok (.iload_n 1, 1) := by decide +kernel
theorem dX0_longestBase_13 : decode cX0_longestBase 13 = .ok (.aload_n 0, 1) := by decide +kernel
theorem dX0_longestBase_14 : decode cX0_longestBase 14 = .ok (.iload_n 2, 1) := by decide +kernel
theorem dX0_longestBase_15 : decode cX0_longestBase 15 = .ok (.invokevirtual 92, 3) := by decide +kernel
theorem dX0_longestBase_18 : decode cX0_longestBase 18 = .ok (.invokestatic 87, 3) := by decide +kernel
theorem dX0_longestBase_21 : decode cX0_longestBase 21 = .ok (.istore_n 1, 1) := by decide +kernel
theorem dX0_longestBase_22 : decode cX0_longestBase 22 = .ok (.iinc 2 1, 3) := by decide +kernel
theorem dX0_longestBase_25 : decode cX0_longestBase 25 = .ok (.goto (-21), 3) := by decide +kernel
theorem dX0_longestBase_28 : decode cX0_longestBase 28 = .ok (.iload_n 1, 1) := by decide +kernel
theorem dX0_longestBase_29 : decode cX0_longestBase 29 = .ok (.ireturn, 1) := by decide +kernel
theorem dX0_lackFor_0 : decode cX0_lackFor 0 = .ok (.iconst 0, 1) := by decide +kernel
theorem dX0_lackFor_1 : decode cX0_lackFor 1 = .ok (.iload_n 2, 1) := by decide +kernel
theorem dX0_lackFor_2 : decode cX0_lackFor 2 = .ok (.aload_n 0, 1) := by decide +kernel
theorem dX0_lackFor_3 : decode cX0_lackFor 3 = .ok (.getfield 27, 3) := by decide +kernel
theorem dX0_lackFor_6 : decode cX0_lackFor 6 = .ok (.iconst 3, 1) := by decide +kernel
theorem dX0_lackFor_7 : decode cX0_lackFor 7 = .ok (.invokestatic 70, 3) := by decide +kernel
theorem dX0_lackFor_10 : decode cX0_lackFor 10 = .ok (.isub, 1) := by decide +kernel
theorem dX0_lackFor_11 : decode cX0_lackFor 11 = .ok (.iload_n 1, 1) := by decide +kernel
theorem dX0_lackFor_12 : decode cX0_lackFor 12 = .ok (.isub, 1) := by decide +kernel
theorem dX0_lackFor_13 : decode cX0_lackFor 13 = .ok (.invokestatic 87, 3) := by decide +kernel
theorem dX0_lackFor_16 : decode cX0_lackFor 16 = .ok (.istore_n 3, 1) := by decide +kernel
theorem dX0_lackFor_17 : decode cX0_lackFor 17 = .ok (.iload_n 3, 1) := by decide +kernel
theorem dX0_lackFor_18 : decode cX0_lackFor 18 = .ok (.iload_n 3, 1) := by decide +kernel
theorem dX0_lackFor_19 : decode cX0_lackFor 19 = .ok (.iconst 1, 1) := by decide +kernel
theorem dX0_lackFor_20 : decode cX0_lackFor 20 = .ok (.iand, 1) := by decide +kernel
theorem dX0_lackFor_21 : decode cX0_lackFor 21 = .ok (.iadd, 1) := by decide +kernel
theorem dX0_lackFor_22 : decode cX0_lackFor 22 = .ok (.ireturn, 1) := by decide +kernel
theorem dX0_needFor_0 : decode cX0_needFor 0 = .ok (.aload_n 0, 1) := by decide +kernel
theorem dX0_needFor_1 : decode cX0_needFor 1 = .ok (.iload_n 1, 1) := by decide +kernel
theorem dX0_needFor_2 : decode cX0_needFor 2 = .ok (.iload_n 2, 1) := by decide +kernel
theorem dX0_needFor_3 : decode cX0_needFor 3 = .ok (.invokevirtual 95, 3) := by decide +kernel
theorem dX0_needFor_6 : decode cX0_needFor 6 = .ok (.istore_n 3, 1) := by decide +kernel
theorem dX0_needFor_7 : decode cX0_needFor 7 = .ok (.iload_n 3, 1) := by decide +kernel
theorem dX0_needFor_8 : decode cX0_needFor 8 = .ok (.ifCond .ne 5, 3) := by decide +kernel
theorem dX0_needFor_11 : decode cX0_needFor 11 = .ok (.iconst 0, 1) := by decide +kernel
theorem dX0_needFor_12 : decode cX0_needFor 12 = .ok (.ireturn, 1) := by decide +kernel
theorem dX0_needFor_13 : decode cX0_needFor 13 = .ok (.aload_n 0, 1) := by decide +kernel
theorem dX0_needFor_14 : decode cX0_needFor 14 = .ok (.invokevirtual 98, 3) := by decide +kernel
theorem dX0_needFor_17 : decode cX0_needFor 17 = .ok (.istore 4, 2) := by decide +kernel
theorem dX0_needFor_19 : decode cX0_needFor 19 = .ok (.iload 4, 2) := by decide +kernel
theorem dX0_needFor_21 : decode cX0_needFor 21 = .ok (.iconst 2, 1) := by decide +kernel
theorem dX0_needFor_22 : decode cX0_needFor 22 = .ok (.if_icmp .ge 9, 3) := by decide +kernel
theorem dX0_needFor_25 : decode cX0_needFor 25 = .ok (.sipush 1000, 3) := by decide +kernel
theorem dX0_needFor_28 : decode cX0_needFor 28 = .ok (.goto 12, 3) := by decide +kernel
theorem dX0_needFor_31 : decode cX0_needFor 31 = .ok (.iload_n 3, 1) := by decide +kernel
theorem dX0_needFor_32 : decode cX0_needFor 32 = .ok (.iload 4, 2) := by decide +kernel
theorem dX0_needFor_34 : decode cX0_needFor 34 = .ok (.iadd, 1) := by decide +kernel
theorem dX0_needFor_35 : decode cX0_needFor 35 = .ok (.iconst 1, 1) := by decide +kernel
theorem dX0_needFor_36 : decode cX0_needFor 36 = .ok (.isub, 1) := by decide +kernel
theorem dX0_needFor_37 : decode cX0_needFor 37 = .ok (.iload 4, 2) := by decide +kernel
theorem dX0_needFor_39 : decode cX0_needFor 39 = .ok (.idiv, 1) := by decide +kernel
theorem dX0_needFor_40 : decode cX0_needFor 40 = .ok (.ireturn, 1) := by decide +kernel
theorem dX0_allNeeds_0 : decode cX0_allNeeds 0 = .ok (.iconst 0, 1) := by decide +kernel
theorem dX0_allNeeds_1 : decode cX0_allNeeds 1 = .ok (.istore_n 2, 1) := by decide +kernel
theorem dX0_allNeeds_2 : decode cX0_allNeeds 2 = .ok (.iconst 0, 1) := by decide +kernel
theorem dX0_allNeeds_3 : decode cX0_allNeeds 3 = .ok (.istore_n 3, 1) := by decide +kernel
theorem dX0_allNeeds_4 : decode cX0_allNeeds 4 = .ok (.iload_n 3, 1) := by decide +kernel
theorem dX0_allNeeds_5 : decode cX0_allNeeds 5 = .ok (.aload_n 0, 1) := by decide +kernel
theorem dX0_allNeeds_6 : decode cX0_allNeeds 6 = .ok (.getfield 30, 3) := by decide +kernel
theorem dX0_allNeeds_9 : decode cX0_allNeeds 9 = .ok (.if_icmp .ge 22, 3) := by decide +kernel
theorem dX0_allNeeds_12 : decode cX0_allNeeds 12 = .ok (.iload_n 2, 1) := by decide +kernel
theorem dX0_allNeeds_13 : decode cX0_allNeeds 13 = .ok (.aload_n 0, 1) := by decide +kernel
theorem dX0_allNeeds_14 : decode cX0_allNeeds 14 = .ok (.aload_n 0, 1) := by decide +kernel
theorem dX0_allNeeds_15 : decode cX0_allNeeds 15 = .ok (.iload_n 3, 1) := by decide +kernel
theorem dX0_allNeeds_16 : decode cX0_allNeeds 16 = .ok (.invokevirtual 92, 3) := by decide +kernel
theorem dX0_allNeeds_19 : decode cX0_allNeeds 19 = .ok (.iload_n 1, 1) := by decide +kernel
theorem dX0_allNeeds_20 : decode cX0_allNeeds 20 = .ok (.invokevirtual 102, 3) := by decide +kernel
theorem dX0_allNeeds_23 : decode cX0_allNeeds 23 = .ok (.iadd, 1) := by decide +kernel
theorem dX0_allNeeds_24 : decode cX0_allNeeds 24 = .ok (.istore_n 2, 1) := by decide +kernel
theorem dX0_allNeeds_25 : decode cX0_allNeeds 25 = .ok (.iinc 3 1, 3) := by decide +kernel
theorem dX0_allNeeds_28 : decode cX0_allNeeds 28 = .ok (.goto (-24), 3) := by decide +kernel
theorem dX0_allNeeds_31 : decode cX0_allNeeds 31 = .ok (.iload_n 2, 1) := by decide +kernel
theorem dX0_allNeeds_32 : decode cX0_allNeeds 32 = .ok (.ireturn, 1) := by decide +kernel
theorem dX0_gain_0 : decode cX0_gain 0 = .ok (.iconst 2, 1) := by decide +kernel
theorem dX0_gain_1 : decode cX0_gain 1 = .ok (.aload_n 0, 1) := by decide +kernel
theorem dX0_gain_2 : decode cX0_gain 2 = .ok (.getfield 27, 3) := by decide +kernel
theorem dX0_gain_5 : decode cX0_gain 5 = .ok (.iconst 0, 1) := by decide +kernel
theorem dX0_gain_6 : decode cX0_gain 6 = .ok (.invokestatic 70, 3) := by decide +kernel
theorem dX0_gain_9 : decode cX0_gain 9 = .ok (.aload_n 0, 1) := by decide +kernel
theorem dX0_gain_10 : decode cX0_gain 10 = .ok (.getfield 27, 3) := by decide +kernel
theorem dX0_gain_13 : decode cX0_gain 13 = .ok (.iconst 1, 1) := by decide +kernel
theorem dX0_gain_14 : decode cX0_gain 14 = .ok (.invokestatic 70, 3) := by decide +kernel
theorem dX0_gain_17 : decode cX0_gain 17 = .ok (.isub, 1) := by decide +kernel
theorem dX0_gain_18 : decode cX0_gain 18 = .ok (.imul, 1) := by decide +kernel
theorem dX0_gain_19 : decode cX0_gain 19 = .ok (.iconst 4, 1) := by decide +kernel
theorem dX0_gain_20 : decode cX0_gain 20 = .ok (.aload_n 0, 1) := by decide +kernel
theorem dX0_gain_21 : decode cX0_gain 21 = .ok (.getfield 27, 3) := by decide +kernel
theorem dX0_gain_24 : decode cX0_gain 24 = .ok (.iconst 2, 1) := by decide +kernel
theorem dX0_gain_25 : decode cX0_gain 25 = .ok (.invokestatic 70, 3) := by decide +kernel
theorem dX0_gain_28 : decode cX0_gain 28 = .ok (.imul, 1) := by decide +kernel
theorem dX0_gain_29 : decode cX0_gain 29 = .ok (.isub, 1) := by decide +kernel
theorem dX0_gain_30 : decode cX0_gain 30 = .ok (.ireturn, 1) := by decide +kernel
theorem dX0_wideOf_0 : decode cX0_wideOf 0 = .ok (.aload_n 0, 1) := by decide +kernel
theorem dX0_wideOf_1 : decode cX0_wideOf 1 = .ok (.getfield 21, 3) := by decide +kernel
theorem dX0_wideOf_4 : decode cX0_wideOf 4 = .ok (.iload_n 1, 1) := by decide +kernel
theorem dX0_wideOf_5 : decode cX0_wideOf 5 = .ok (.invokestatic 70, 3) := by decide +kernel
theorem dX0_wideOf_8 : decode cX0_wideOf 8 = .ok (.ireturn, 1) := by decide +kernel
theorem dX0_presentAt_0 : decode cX0_presentAt 0 = .ok (.aload_n 0, 1) := by decide +kernel
theorem dX0_presentAt_1 : decode cX0_presentAt 1 = .ok (.getfield 24, 3) := by decide +kernel
theorem dX0_presentAt_4 : decode cX0_presentAt 4 = .ok (.iload_n 1, 1) := by decide +kernel
theorem dX0_presentAt_5 : decode cX0_presentAt 5 = .ok (.invokestatic 70, 3) := by decide +kernel
theorem dX0_presentAt_8 : decode cX0_presentAt 8 = .ok (.iconst 1, 1) := by decide +kernel
theorem dX0_presentAt_9 : decode cX0_presentAt 9 = .ok (.aload_n 0, 1) := by decide +kernel
theorem dX0_presentAt_10 : decode cX0_presentAt 10 = .ok (.getfield 30, 3) := by decide +kernel
theorem dX0_presentAt_13 : decode cX0_presentAt 13 = .ok (.ishl, 1) := by decide +kernel
theorem dX0_presentAt_14 : decode cX0_presentAt 14 = .ok (.iconst 1, 1) := by decide +kernel
theorem dX0_presentAt_15 : decode cX0_presentAt 15 = .ok (.isub, 1) := by decide +kernel
theorem dX0_presentAt_16 : decode cX0_presentAt 16 = .ok (.iand, 1) := by decide +kernel
theorem dX0_presentAt_17 : decode cX0_presentAt 17 = .ok (.ireturn, 1) := by decide +kernel
theorem dX0_reachOf_0 : decode cX0_reachOf 0 = .ok (.iconst 0, 1) := by decide +kernel
theorem dX0_reachOf_1 : decode cX0_reachOf 1 = .ok (.istore_n 2, 1) := by decide +kernel
theorem dX0_reachOf_2 : decode cX0_reachOf 2 = .ok (.iconst 0, 1) := by decide +kernel
theorem dX0_reachOf_3 : decode cX0_reachOf 3 = .ok (.istore_n 3, 1) := by decide +kernel
theorem dX0_reachOf_4 : decode cX0_reachOf 4 = .ok (.iload_n 3, 1) := by decide +kernel
theorem dX0_reachOf_5 : decode cX0_reachOf 5 = .ok (.aload_n 0, 1) := by decide +kernel
theorem dX0_reachOf_6 : decode cX0_reachOf 6 = .ok (.getfield 34, 3) := by decide +kernel
theorem dX0_reachOf_9 : decode cX0_reachOf 9 = .ok (.if_icmp .ge 30, 3) := by decide +kernel
theorem dX0_reachOf_12 : decode cX0_reachOf 12 = .ok (.aload_n 0, 1) := by decide +kernel
theorem dX0_reachOf_13 : decode cX0_reachOf 13 = .ok (.getfield 24, 3) := by decide +kernel
theorem dX0_reachOf_16 : decode cX0_reachOf 16 = .ok (.iload_n 3, 1) := by decide +kernel
theorem dX0_reachOf_17 : decode cX0_reachOf 17 = .ok (.invokestatic 70, 3) := by decide +kernel
theorem dX0_reachOf_20 : decode cX0_reachOf 20 = .ok (.iload_n 1, 1) := by decide +kernel
theorem dX0_reachOf_21 : decode cX0_reachOf 21 = .ok (.invokestatic 105, 3) := by decide +kernel
theorem dX0_reachOf_24 : decode cX0_reachOf 24 = .ok (.ifCond .eq 9, 3) := by decide +kernel
theorem dX0_reachOf_27 : decode cX0_reachOf 27 = .ok (.iload_n 2, 1) := by decide +kernel
theorem dX0_reachOf_28 : decode cX0_reachOf 28 = .ok (.iconst 1, 1) := by decide +kernel
theorem dX0_reachOf_29 : decode cX0_reachOf 29 = .ok (.iload_n 3, 1) := by decide +kernel
theorem dX0_reachOf_30 : decode cX0_reachOf 30 = .ok (.ishl, 1) := by decide +kernel
theorem dX0_reachOf_31 : decode cX0_reachOf 31 = .ok (.ior, 1) := by decide +kernel
theorem dX0_reachOf_32 : decode cX0_reachOf 32 = .ok (.istore_n 2, 1) := by decide +kernel
theorem dX0_reachOf_33 : decode cX0_reachOf 33 = .ok (.iinc 3 1, 3) := by decide +kernel
theorem dX0_reachOf_36 : decode cX0_reachOf 36 = .ok (.goto (-32), 3) := by decide +kernel
theorem dX0_reachOf_39 : decode cX0_reachOf 39 = .ok (.iload_n 2, 1) := by decide +kernel
theorem dX0_reachOf_40 : decode cX0_reachOf 40 = .ok (.ireturn, 1) := by decide +kernel
theorem dX0_humpsOf_0 : decode cX0_humpsOf 0 = .ok (.aload_n 0, 1) := by decide +kernel
theorem dX0_humpsOf_1 : decode cX0_humpsOf 1 = .ok (.getfield 27, 3) := by decide +kernel
theorem dX0_humpsOf_4 : decode cX0_humpsOf 4 = .ok (.iconst 1, 1) := by decide +kernel
theorem dX0_humpsOf_5 : decode cX0_humpsOf 5 = .ok (.invokestatic 70, 3) := by decide +kernel
theorem dX0_humpsOf_8 : decode cX0_humpsOf 8 = .ok (.istore_n 2, 1) := by decide +kernel
theorem dX0_humpsOf_9 : decode cX0_humpsOf 9 = .ok (.iload_n 2, 1) := by decide +kernel
theorem dX0_humpsOf_10 : decode cX0_humpsOf 10 = .ok (.iconst 1, 1) := by decide +kernel
theorem dX0_humpsOf_11 : decode cX0_humpsOf 11 = .ok (.if_icmp .lt 11, 3) := by decide +kernel
theorem dX0_humpsOf_14 : decode cX0_humpsOf 14 = .ok (.aload_n 0, 1) := by decide +kernel
theorem dX0_humpsOf_15 : decode cX0_humpsOf 15 = .ok (.invokevirtual 98, 3) := by decide +kernel
theorem dX0_humpsOf_18 : decode cX0_humpsOf 18 = .ok (.iconst 2, 1) := by decide +kernel
theorem dX0_humpsOf_19 : decode cX0_humpsOf 19 = .ok (.if_icmp .ge 7, 3) := by decide +kernel
theorem dX0_humpsOf_22 : decode cX0_humpsOf 22 = .ok (.iconst 0, 1) := by decide +kernel
theorem dX0_humpsOf_23 : decode cX0_humpsOf 23 = .ok (.goto 14, 3) := by decide +kernel
theorem dX0_humpsOf_26 : decode cX0_humpsOf 26 = .ok (.aload_n 0, 1) := by decide +kernel
theorem dX0_humpsOf_27 : decode cX0_humpsOf 27 = .ok (.iload_n 1, 1) := by decide +kernel
theorem dX0_humpsOf_28 : decode cX0_humpsOf 28 = .ok (.invokevirtual 67, 3) := by decide +kernel
theorem dX0_humpsOf_31 : decode cX0_humpsOf 31 = .ok (.iload_n 2, 1) := by decide +kernel
theorem dX0_humpsOf_32 : decode cX0_humpsOf 32 = .ok (.iadd, 1) := by decide +kernel
theorem dX0_humpsOf_33 : decode cX0_humpsOf 33 = .ok (.iconst 2, 1) := by decide +kernel
theorem dX0_humpsOf_34 : decode cX0_humpsOf 34 = .ok (.iload_n 2, 1) := by decide +kernel
theorem dX0_humpsOf_35 : decode cX0_humpsOf 35 = .ok (.imul, 1) := by decide +kernel
theorem dX0_humpsOf_36 : decode cX0_humpsOf 36 = .ok (.idiv, 1) := by decide +kernel
theorem dX0_humpsOf_37 : decode cX0_humpsOf 37 = .ok (.ireturn, 1) := by decide +kernel
theorem dX0_allHumps_0 : decode cX0_allHumps 0 = .ok (.iconst 0, 1) := by decide +kernel
theorem dX0_allHumps_1 : decode cX0_allHumps 1 = .ok (.istore_n 1, 1) := by decide +kernel
theorem dX0_allHumps_2 : decode cX0_allHumps 2 = .ok (.iconst 0, 1) := by decide +kernel
theorem dX0_allHumps_3 : decode cX0_allHumps 3 = .ok (.istore_n 2, 1) := by decide +kernel
theorem dX0_allHumps_4 : decode cX0_allHumps 4 = .ok (.iload_n 2, 1) := by decide +kernel
theorem dX0_allHumps_5 : decode cX0_allHumps 5 = .ok (.aload_n 0, 1) := by decide +kernel
theorem dX0_allHumps_6 : decode cX0_allHumps 6 = .ok (.getfield 34, 3) := by decide +kernel
theorem dX0_allHumps_9 : decode cX0_allHumps 9 = .ok (.if_icmp .ge 17, 3) := by decide +kernel
theorem dX0_allHumps_12 : decode cX0_allHumps 12 = .ok (.iload_n 1, 1) := by decide +kernel
theorem dX0_allHumps_13 : decode cX0_allHumps 13 = .ok (.aload_n 0, 1) := by decide +kernel
theorem dX0_allHumps_14 : decode cX0_allHumps 14 = .ok (.iload_n 2, 1) := by decide +kernel
theorem dX0_allHumps_15 : decode cX0_allHumps 15 = .ok (.invokevirtual 109, 3) := by decide +kernel
theorem dX0_allHumps_18 : decode cX0_allHumps 18 = .ok (.iadd, 1) := by decide +kernel
theorem dX0_allHumps_19 : decode cX0_allHumps 19 = .ok (.istore_n 1, 1) := by decide +kernel
theorem dX0_allHumps_20 : decode cX0_allHumps 20 = .ok (.iinc 2 1, 3) := by decide +kernel
theorem dX0_allHumps_23 : decode cX0_allHumps 23 = .ok (.goto (-19), 3) := by decide +kernel
theorem dX0_allHumps_26 : decode cX0_allHumps 26 = .ok (.iload_n 1, 1) := by decide +kernel
theorem dX0_allHumps_27 : decode cX0_allHumps 27 = .ok (.ireturn, 1) := by decide +kernel
theorem dX1_init_0 : decode cX1_init 0 = .ok (.aload_n 0, 1) := by decide +kernel
theorem dX1_init_1 : decode cX1_init 1 = .ok (.invokespecial 3, 3) := by decide +kernel
theorem dX1_init_4 : decode cX1_init 4 = .ok (.aload_n 0, 1) := by decide +kernel
theorem dX1_init_5 : decode cX1_init 5 = .ok (.iconst 5, 1) := by decide +kernel
theorem dX1_init_6 : decode cX1_init 6 = .ok (.anewarray 9, 3) := by decide +kernel
theorem dX1_init_9 : decode cX1_init 9 = .ok (.putfield 11, 3) := by decide +kernel
theorem dX1_init_12 : decode cX1_init 12 = .ok (.aload_n 0, 1) := by decide +kernel
theorem dX1_init_13 : decode cX1_init 13 = .ok (.iconst 0, 1) := by decide +kernel
theorem dX1_init_14 : decode cX1_init 14 = .ok (.putfield 17, 3) := by decide +kernel
theorem dX1_init_17 : decode cX1_init 17 = .ok (.aload_n 0, 1) := by decide +kernel
theorem dX1_init_18 : decode cX1_init 18 = .ok (.iconst 0, 1) := by decide +kernel
theorem dX1_init_19 : decode cX1_init 19 = .ok (.putfield 21, 3) := by decide +kernel
theorem dX1_init_22 : decode cX1_init 22 = .ok (.iconst 0, 1) := by decide +kernel
theorem dX1_init_23 : decode cX1_init 23 = .ok (.istore_n 1, 1) := by decide +kernel
theorem dX1_init_24 : decode cX1_init 24 = .ok (.iload_n 1, 1) := by decide +kernel
theorem dX1_init_25 : decode cX1_init 25 = .ok (.aload_n 0, 1) := by decide +kernel
theorem dX1_init_26 : decode cX1_init 26 = .ok (.getfield 11, 3) := by decide +kernel
theorem dX1_init_29 : decode cX1_init 29 = .ok (.arraylength, 1) := by decide +kernel
theorem dX1_init_30 : decode cX1_init 30 = .ok (.if_icmp .ge 22, 3) := by decide +kernel
theorem dX1_init_33 : decode cX1_init 33 = .ok (.aload_n 0, 1) := by decide +kernel
theorem dX1_init_34 : decode cX1_init 34 = .ok (.getfield 11, 3) := by decide +kernel
theorem dX1_init_37 : decode cX1_init 37 = .ok (.iload_n 1, 1) := by decide +kernel
theorem dX1_init_38 : decode cX1_init 38 = .ok (.new 9, 3) := by decide +kernel
theorem dX1_init_41 : decode cX1_init 41 = .ok (.dup, 1) := by decide +kernel
theorem dX1_init_42 : decode cX1_init 42 = .ok (.invokespecial 24, 3) := by decide +kernel
theorem dX1_init_45 : decode cX1_init 45 = .ok (.aastore, 1) := by decide +kernel
theorem dX1_init_46 : decode cX1_init 46 = .ok (.iinc 1 1, 3) := by decide +kernel
theorem dX1_init_49 : decode cX1_init 49 = .ok (.goto (-25), 3) := by decide +kernel
theorem dX1_init_52 : decode cX1_init 52 = .ok (.return_, 1) := by decide +kernel
theorem dX1_size_0 : decode cX1_size 0 = .ok (.aload_n 0, 1) := by decide +kernel
theorem dX1_size_1 : decode cX1_size 1 = .ok (.getfield 21, 3) := by decide +kernel
theorem dX1_size_4 : decode cX1_size 4 = .ok (.ireturn, 1) := by decide +kernel
theorem dX1_keep_0 : decode cX1_keep 0 = .ok (.aload_n 0, 1) := by decide +kernel
theorem dX1_keep_1 : decode cX1_keep 1 = .ok (.aload_n 0, 1) := by decide +kernel
theorem dX1_keep_2 : decode cX1_keep 2 = .ok (.getfield 17, 3) := by decide +kernel
theorem dX1_keep_5 : decode cX1_keep 5 = .ok (.invokevirtual 25, 3) := by decide +kernel
theorem dX1_keep_8 : decode cX1_keep 8 = .ok (.astore_n 2, 1) := by decide +kernel
theorem dX1_keep_9 : decode cX1_keep 9 = .ok (.aload_n 2, 1) := by decide +kernel
theorem dX1_keep_10 : decode cX1_keep 10 = .ok (.ifnull 34, 3) := by decide +kernel
theorem dX1_keep_13 : decode cX1_keep 13 = .ok (.aload_n 2, 1) := by decide +kernel
theorem dX1_keep_14 : decode cX1_keep 14 = .ok (.aload_n 1, 1) := by decide +kernel
theorem dX1_keep_15 : decode cX1_keep 15 = .ok (.invokevirtual 29, 3) := by decide +kernel
theorem dX1_keep_18 : decode cX1_keep 18 = .ok (.aload_n 0, 1) := by decide +kernel
theorem dX1_keep_19 : decode cX1_keep 19 = .ok (.aload_n 0, 1) := by decide +kernel
theorem dX1_keep_20 : decode cX1_keep 20 = .ok (.getfield 17, 3) := by decide +kernel
theorem dX1_keep_23 : decode cX1_keep 23 = .ok (.iconst 1, 1) := by decide +kernel
theorem dX1_keep_24 : decode cX1_keep 24 = .ok (.iadd, 1) := by decide +kernel
theorem dX1_keep_25 : decode cX1_keep 25 = .ok (.iconst 5, 1) := by decide +kernel
theorem dX1_keep_26 : decode cX1_keep 26 = .ok (.irem, 1) := by decide +kernel
theorem dX1_keep_27 : decode cX1_keep 27 = .ok (.putfield 17, 3) := by decide +kernel
theorem dX1_keep_30 : decode cX1_keep 30 = .ok (.aload_n 0, 1) := by decide +kernel
theorem dX1_keep_31 : decode cX1_keep 31 = .ok (.iconst 5, 1) := by decide +kernel
theorem dX1_keep_32 : decode cX1_keep 32 = .ok (.aload_n 0, 1) := by decide +kernel
theorem dX1_keep_33 : decode cX1_keep 33 = .ok (.getfield 21, 3) := by decide +kernel
theorem dX1_keep_36 : decode cX1_keep 36 = .ok (.iconst 1, 1) := by decide +kernel
theorem dX1_keep_37 : decode cX1_keep 37 = .ok (.iadd, 1) := by decide +kernel
theorem dX1_keep_38 : decode cX1_keep 38 = .ok (.invokestatic 33, 3) := by decide +kernel
theorem dX1_keep_41 : decode cX1_keep 41 = .ok (.putfield 21, 3) := by decide +kernel
theorem dX1_keep_44 : decode cX1_keep 44 = .ok (.return_, 1) := by decide +kernel
theorem dX1_giveBack_0 : decode cX1_giveBack 0 = .ok (.aload_n 0, 1) := by decide +kernel
theorem dX1_giveBack_1 : decode cX1_giveBack 1 = .ok (.getfield 17, 3) := by decide +kernel
theorem dX1_giveBack_4 : decode cX1_giveBack 4 = .ok (.iconst 5, 1) := by decide +kernel
theorem dX1_giveBack_5 : decode cX1_giveBack 5 = .ok (.iadd, 1) := by decide +kernel
theorem dX1_giveBack_6 : decode cX1_giveBack 6 = .ok (.iconst 1, 1) := by decide +kernel
theorem dX1_giveBack_7 : decode cX1_giveBack 7 = .ok (.isub, 1) := by decide +kernel
theorem dX1_giveBack_8 : decode cX1_giveBack 8 = .ok (.iconst 5, 1) := by decide +kernel
theorem dX1_giveBack_9 : decode cX1_giveBack 9 = .ok (.irem, 1) := by decide +kernel
theorem dX1_giveBack_10 : decode cX1_giveBack 10 = .ok (.istore_n 2, 1) := by decide +kernel
theorem dX1_giveBack_11 : decode cX1_giveBack 11 = .ok (.aload_n 0, 1) := by decide +kernel
theorem dX1_giveBack_12 : decode cX1_giveBack 12 = .ok (.iload_n 2, 1) := by decide +kernel
theorem dX1_giveBack_13 : decode cX1_giveBack 13 = .ok (.invokevirtual 25, 3) := by decide +kernel
theorem dX1_giveBack_16 : decode cX1_giveBack 16 = .ok (.astore_n 3, 1) := by decide +kernel
theorem dX1_giveBack_17 : decode cX1_giveBack 17 = .ok (.aload_n 0, 1) := by decide +kernel
theorem dX1_giveBack_18 : decode cX1_giveBack 18 = .ok (.getfield 21, 3) := by decide +kernel
theorem dX1_giveBack_21 : decode cX1_giveBack 21 = .ok (.ifCond .eq 7, 3) := by decide +kernel
theorem dX1_giveBack_24 : decode cX1_giveBack 24 = .ok (.aload_n 3, 1) := by decide +kernel
theorem dX1_giveBack_25 : decode cX1_giveBack 25 = .ok (.ifnonnull 5, 3) := by decide +kernel
theorem dX1_giveBack_28 : decode cX1_giveBack 28 = .ok (.iconst 0, 1) := by decide +kernel
theorem dX1_giveBack_29 : decode cX1_giveBack 29 = .ok (.ireturn, 1) := by decide +kernel
theorem dX1_giveBack_30 : decode cX1_giveBack 30 = .ok (.aload_n 1, 1) := by decide +kernel
theorem dX1_giveBack_31 : decode cX1_giveBack 31 = .ok (.aload_n 3, 1) := by decide +kernel
theorem dX1_giveBack_32 : decode cX1_giveBack 32 = .ok (.invokevirtual 29, 3) := by decide +kernel
theorem dX1_giveBack_35 : decode cX1_giveBack 35 = .ok (.aload_n 0, 1) := by decide +kernel
theorem dX1_giveBack_36 : decode cX1_giveBack 36 = .ok (.iload_n 2, 1) := by decide +kernel
theorem dX1_giveBack_37 : decode cX1_giveBack 37 = .ok (.putfield 17, 3) := by decide +kernel
theorem dX1_giveBack_40 : decode cX1_giveBack 40 = .ok (.aload_n 0, 1) := by decide +kernel
theorem dX1_giveBack_41 : decode cX1_giveBack 41 = .ok (.dup, 1) := by decide +kernel
theorem dX1_giveBack_42 : decode cX1_giveBack 42 = .ok (.getfield 21, 3) := by decide +kernel
theorem dX1_giveBack_45 : decode cX1_giveBack 45 = .ok (.iconst 1, 1) := by decide +kernel
theorem dX1_giveBack_46 : decode cX1_giveBack 46 = .ok (.isub, 1) := by decide +kernel
theorem dX1_giveBack_47 : decode cX1_giveBack 47 = .ok (.putfield 21, 3) := by decide +kernel
theorem dX1_giveBack_50 : decode cX1_giveBack 50 = .ok (.iconst 1, 1) := by decide +kernel
theorem dX1_giveBack_51 : decode cX1_giveBack 51 = .ok (.ireturn, 1) := by decide +kernel
theorem dX1_slotAt_0 : decode cX1_slotAt 0 = .ok (.iload_n 1, 1) := by decide +kernel
theorem dX1_slotAt_1 : decode cX1_slotAt 1 = .ok (.ifCond .lt 21, 3) := by decide +kernel
theorem dX1_slotAt_4 : decode cX1_slotAt 4 = .ok (.iload_n 1, 1) := by decide +kernel
theorem dX1_slotAt_5 : decode cX1_slotAt 5 = .ok (.aload_n 0, 1) := by decide +kernel
theorem dX1_slotAt_6 : decode cX1_slotAt 6 = .ok (.getfield 11, 3) := by decide +kernel
theorem dX1_slotAt_9 : decode cX1_slotAt 9 = .ok (.arraylength, 1) := by decide +kernel
theorem dX1_slotAt_10 : decode cX1_slotAt 10 = .ok (.if_icmp .ge 12, 3) := by decide +kernel
theorem dX1_slotAt_13 : decode cX1_slotAt 13 = .ok (.aload_n 0, 1) := by decide +kernel
theorem dX1_slotAt_14 : decode cX1_slotAt 14 = .ok (.getfield 11, 3) := by decide +kernel
theorem dX1_slotAt_17 : decode cX1_slotAt 17 = .ok (.iload_n 1, 1) := by decide +kernel
theorem dX1_slotAt_18 : decode cX1_slotAt 18 = .ok (.aaload, 1) := by decide +kernel
theorem dX1_slotAt_19 : decode cX1_slotAt 19 = .ok (.goto 4, 3) := by decide +kernel
theorem dX1_slotAt_22 : decode cX1_slotAt 22 = .ok (.aconst_null, 1) := by decide +kernel
theorem dX1_slotAt_23 : decode cX1_slotAt 23 = .ok (.areturn, 1) := by decide +kernel
theorem dX2_init_0 : decode cX2_init 0 = .ok (.aload_n 0, 1) := by decide +kernel
theorem dX2_init_1 : decode cX2_init 1 = .ok (.invokespecial 3, 3) := by decide +kernel
theorem dX2_init_4 : decode cX2_init 4 = .ok (.aload_n 0, 1) := by decide +kernel
theorem dX2_init_5 : decode cX2_init 5 = .ok (.bipush 15, 2) := by decide +kernel
theorem dX2_init_7 : decode cX2_init 7 = .ok (.newarray .int, 2) := by decide +kernel
theorem dX2_init_9 : decode cX2_init 9 = .ok (.putfield 11, 3) := by decide +kernel
theorem dX2_init_12 : decode cX2_init 12 = .ok (.aload_n 0, 1) := by decide +kernel
theorem dX2_init_13 : decode cX2_init 13 = .ok (.bipush 15, 2) := by decide +kernel
theorem dX2_init_15 : decode cX2_init 15 = .ok (.newarray .int, 2) := by decide +kernel
theorem dX2_init_17 : decode cX2_init 17 = .ok (.putfield 15, 3) := by decide +kernel
theorem dX2_init_20 : decode cX2_init 20 = .ok (.return_, 1) := by decide +kernel
theorem dX2_fewestFor_0 : decode cX2_fewestFor 0 = .ok (.aload_n 0, 1) := by decide +kernel
theorem dX2_fewestFor_1 : decode cX2_fewestFor 1 = .ok (.getfield 11, 3) := by decide +kernel
theorem dX2_fewestFor_4 : decode cX2_fewestFor 4 = .ok (.ldc 18, 2) := by decide +kernel
theorem dX2_fewestFor_6 : decode cX2_fewestFor 6 = .ok (.invokestatic 19, 3) := by decide +kernel
theorem dX2_fewestFor_9 : decode cX2_fewestFor 9 = .ok (.aload_n 0, 1) := by decide +kernel
theorem dX2_fewestFor_10 : decode cX2_fewestFor 10 = .ok (.getfield 11, 3) := by decide +kernel
theorem dX2_fewestFor_13 : decode cX2_fewestFor 13 = .ok (.bipush 7, 2) := by decide +kernel
theorem dX2_fewestFor_15 : decode cX2_fewestFor 15 = .ok (.iconst 0, 1) := by decide +kernel
theorem dX2_fewestFor_16 : decode cX2_fewestFor 16 = .ok (.invokestatic 25, 3) := by decide +kernel
theorem dX2_fewestFor_19 : decode cX2_fewestFor 19 = .ok (.iconst 0, 1) := by decide +kernel
theorem dX2_fewestFor_20 : decode cX2_fewestFor 20 = .ok (.istore_n 3, 1) := by decide +kernel
theorem dX2_fewestFor_21 : decode cX2_fewestFor 21 = .ok (.iload_n 3, 1) := by decide +kernel
theorem dX2_fewestFor_22 : decode cX2_fewestFor 22 = .ok (.aload_n 1, 1) := by decide +kernel
theorem dX2_fewestFor_23 : decode cX2_fewestFor 23 = .ok (.iload_n 2, 1) := by decide +kernel
theorem dX2_fewestFor_24 : decode cX2_fewestFor 24 = .ok (.invokevirtual 29, 3) := by decide +kernel
theorem dX2_fewestFor_27 : decode cX2_fewestFor 27 = .ok (.if_icmp .ge 53, 3) := by decide +kernel
theorem dX2_fewestFor_30 : decode cX2_fewestFor 30 = .ok (.aload_n 0, 1) := by decide +kernel
theorem dX2_fewestFor_31 : decode cX2_fewestFor 31 = .ok (.getfield 15, 3) := by decide +kernel
theorem dX2_fewestFor_34 : decode cX2_fewestFor 34 = .ok (.ldc 18, 2) := by decide +kernel
theorem dX2_fewestFor_36 : decode cX2_fewestFor 36 = .ok (.invokestatic 19, 3) := by decide +kernel
theorem dX2_fewestFor_39 : decode cX2_fewestFor 39 = .ok (.aload_n 0, 1) := by decide +kernel
theorem dX2_fewestFor_40 : decode cX2_fewestFor 40 = .ok (.aload_n 1, 1) := by decide +kernel
theorem dX2_fewestFor_41 : decode cX2_fewestFor 41 = .ok (.iload_n 2, 1) := by decide +kernel
theorem dX2_fewestFor_42 : decode cX2_fewestFor 42 = .ok (.iload_n 3, 1) := by decide +kernel
theorem dX2_fewestFor_43 : decode cX2_fewestFor 43 = .ok (.invokevirtual 35, 3) := by decide +kernel
theorem dX2_fewestFor_46 : decode cX2_fewestFor 46 = .ok (.invokestatic 39, 3) := by decide +kernel
theorem dX2_fewestFor_49 : decode cX2_fewestFor 49 = .ok (.aload_n 1, 1) := by decide +kernel
theorem dX2_fewestFor_50 : decode cX2_fewestFor 50 = .ok (.iload_n 2, 1) := by decide +kernel
theorem dX2_fewestFor_51 : decode cX2_fewestFor 51 = .ok (.iload_n 3, 1) := by decide +kernel
theorem dX2_fewestFor_52 : decode cX2_fewestFor 52 = .ok (.invokevirtual 42, 3) := by decide +kernel
theorem dX2_fewestFor_55 : decode cX2_fewestFor 55 = .ok (.aload_n 1, 1) := by decide +kernel
theorem dX2_fewestFor_56 : decode cX2_fewestFor 56 = .ok (.iconst 5, 1) := by decide +kernel
theorem dX2_fewestFor_57 : decode cX2_fewestFor 57 = .ok (.invokevirtual 45, 3) := by decide +kernel
theorem dX2_fewestFor_60 : decode cX2_fewestFor 60 = .ok (.invokevirtual 48, 3) := by decide +kernel
theorem dX2_fewestFor_63 : decode cX2_fewestFor 63 = .ok (.aload_n 0, 1) := by decide +kernel
theorem dX2_fewestFor_64 : decode cX2_fewestFor 64 = .ok (.getfield 15, 3) := by decide +kernel
theorem dX2_fewestFor_67 : decode cX2_fewestFor 67 = .ok (.aload_n 0, 1) := by decide +kernel
theorem dX2_fewestFor_68 : decode cX2_fewestFor 68 = .ok (.getfield 11, 3) := by decide +kernel
theorem dX2_fewestFor_71 : decode cX2_fewestFor 71 = .ok (.invokestatic 52, 3) := by decide +kernel
theorem dX2_fewestFor_74 : decode cX2_fewestFor 74 = .ok (.iinc 3 1, 3) := by decide +kernel
theorem dX2_fewestFor_77 : decode cX2_fewestFor 77 = .ok (.goto (-56), 3) := by decide +kernel
theorem dX2_fewestFor_80 : decode cX2_fewestFor 80 = .ok (.aload_n 0, 1) := by decide +kernel
theorem dX2_fewestFor_81 : decode cX2_fewestFor 81 = .ok (.getfield 11, 3) := by decide +kernel
theorem dX2_fewestFor_84 : decode cX2_fewestFor 84 = .ok (.bipush 7, 2) := by decide +kernel
theorem dX2_fewestFor_86 : decode cX2_fewestFor 86 = .ok (.invokestatic 56, 3) := by decide +kernel
theorem dX2_fewestFor_89 : decode cX2_fewestFor 89 = .ok (.istore_n 3, 1) := by decide +kernel
theorem dX2_fewestFor_90 : decode cX2_fewestFor 90 = .ok (.iload_n 3, 1) := by decide +kernel
theorem dX2_fewestFor_91 : decode cX2_fewestFor 91 = .ok (.ldc 18, 2) := by decide +kernel
theorem dX2_fewestFor_93 : decode cX2_fewestFor 93 = .ok (.if_icmp .ge 7, 3) := by decide +kernel
theorem dX2_fewestFor_96 : decode cX2_fewestFor 96 = .ok (.iload_n 3, 1) := by decide +kernel
theorem dX2_fewestFor_97 : decode cX2_fewestFor 97 = .ok (.goto 4, 3) := by decide +kernel
theorem dX2_fewestFor_100 : decode cX2_fewestFor 100 = .ok (.iconst (-1), 1) := by decide +kernel
theorem dX2_fewestFor_101 : decode cX2_fewestFor 101 = .ok (.ireturn, 1) := by decide +kernel
theorem dX2_turnStep_0 : decode cX2_turnStep 0 = .ok (.iload_n 0, 1) := by decide +kernel
theorem dX2_turnStep_1 : decode cX2_turnStep 1 = .ok (.iconst 1, 1) := by decide +kernel
theorem dX2_turnStep_2 : decode cX2_turnStep 2 = .ok (.if_icmp .ne 5, 3) := by decide +kernel
theorem dX2_turnStep_5 : decode cX2_turnStep 5 = .ok (.iconst 1, 1) := by decide +kernel
theorem dX2_turnStep_6 : decode cX2_turnStep 6 = .ok (.ireturn, 1) := by decide +kernel
theorem dX2_turnStep_7 : decode cX2_turnStep 7 = .ok (.iload_n 0, 1) := by decide +kernel
theorem dX2_turnStep_8 : decode cX2_turnStep 8 = .ok (.ifCond .ne 7, 3) := by decide +kernel
theorem dX2_turnStep_11 : decode cX2_turnStep 11 = .ok (.iconst (-1), 1) := by decide +kernel
theorem dX2_turnStep_12 : decode cX2_turnStep 12 = .ok (.goto 4, 3) := by decide +kernel
theorem dX2_turnStep_15 : decode cX2_turnStep 15 = .ok (.iconst 0, 1) := by decide +kernel
theorem dX2_turnStep_16 : decode cX2_turnStep 16 = .ok (.ireturn, 1) := by decide +kernel
theorem dX2_passRun_0 : decode cX2_passRun 0 = .ok (.bipush (-7), 2) := by decide +kernel
theorem dX2_passRun_2 : decode cX2_passRun 2 = .ok (.istore 4, 2) := by decide +kernel
theorem dX2_passRun_4 : decode cX2_passRun 4 = .ok (.iload 4, 2) := by decide +kernel
theorem dX2_passRun_6 : decode cX2_passRun 6 = .ok (.bipush 7, 2) := by decide +kernel
theorem dX2_passRun_8 : decode cX2_passRun 8 = .ok (.if_icmp .gt 42, 3) := by decide +kernel
theorem dX2_passRun_11 : decode cX2_passRun 11 = .ok (.aload_n 0, 1) := by decide +kernel
theorem dX2_passRun_12 : decode cX2_passRun 12 = .ok (.getfield 11, 3) := by decide +kernel
theorem dX2_passRun_15 : decode cX2_passRun 15 = .ok (.iload 4, 2) := by decide +kernel
theorem dX2_passRun_17 : decode cX2_passRun 17 = .ok (.bipush 7, 2) := by decide +kernel
theorem dX2_passRun_19 : decode cX2_passRun 19 = .ok (.iadd, 1) := by decide +kernel
theorem dX2_passRun_20 : decode cX2_passRun 20 = .ok (.invokestatic 56, 3) := by decide +kernel
theorem dX2_passRun_23 : decode cX2_passRun 23 = .ok (.istore 5, 2) := by decide +kernel
theorem dX2_passRun_25 : decode cX2_passRun 25 = .ok (.iload 5, 2) := by decide +kernel
theorem dX2_passRun_27 : decode cX2_passRun 27 = .ok (.ldc 18, 2) := by decide +kernel
theorem dX2_passRun_29 : decode cX2_passRun 29 = .ok (.if_icmp .ge 15, 3) := by decide +kernel
theorem dX2_passRun_32 : decode cX2_passRun 32 = .ok (.aload_n 0, 1) := by decide +kernel
theorem dX2_passRun_33 : decode cX2_passRun 33 = .ok (.iload 4, 2) := by decide +kernel
theorem dX2_passRun_35 : decode cX2_passRun 35 = .ok (.iload_n 1, 1) := by decide +kernel
theorem dX2_passRun_36 : decode cX2_passRun 36 = .ok (.iadd, 1) := by decide +kernel
theorem dX2_passRun_37 : decode cX2_passRun 37 = .ok (.iload 5, 2) := by decide +kernel
theorem dX2_passRun_39 : decode cX2_passRun 39 = .ok (.iload_n 2, 1) := by decide +kernel
theorem dX2_passRun_40 : decode cX2_passRun 40 = .ok (.iload_n 3, 1) := by decide +kernel
theorem dX2_passRun_41 : decode cX2_passRun 41 = .ok (.invokevirtual 60, 3) := by decide +kernel
theorem dX2_passRun_44 : decode cX2_passRun 44 = .ok (.iinc 4 1, 3) := by decide +kernel
theorem dX2_passRun_47 : decode cX2_passRun 47 = .ok (.goto (-43), 3) := by decide +kernel
theorem dX2_passRun_50 : decode cX2_passRun 50 = .ok (.return_, 1) := by decide +kernel
theorem dX2_putBumps_0 : decode cX2_putBumps 0 = .ok (.iload_n 3, 1) := by decide +kernel
theorem dX2_putBumps_1 : decode cX2_putBumps 1 = .ok (.iload_n 1, 1) := by decide +kernel
theorem dX2_putBumps_2 : decode cX2_putBumps 2 = .ok (.invokestatic 64, 3) := by decide +kernel
theorem dX2_putBumps_5 : decode cX2_putBumps 5 = .ok (.invokestatic 69, 3) := by decide +kernel
theorem dX2_putBumps_8 : decode cX2_putBumps 8 = .ok (.istore 5, 2) := by decide +kernel
theorem dX2_putBumps_10 : decode cX2_putBumps 10 = .ok (.iconst 0, 1) := by decide +kernel
theorem dX2_putBumps_11 : decode cX2_putBumps 11 = .ok (.istore 6, 2) := by decide +kernel
theorem dX2_putBumps_13 : decode cX2_putBumps 13 = .ok (.iload 6, 2) := by decide +kernel
theorem dX2_putBumps_15 : decode cX2_putBumps 15 = .ok (.iload 5, 2) := by decide +kernel
theorem dX2_putBumps_17 : decode cX2_putBumps 17 = .ok (.if_icmp .gt 70, 3) := by decide +kernel
theorem dX2_putBumps_20 : decode cX2_putBumps 20 = .ok (.iload_n 1, 1) := by decide +kernel
theorem dX2_putBumps_21 : decode cX2_putBumps 21 = .ok (.ifCond .le 10, 3) := by decide +kernel
theorem dX2_putBumps_24 : decode cX2_putBumps 24 = .ok (.iload_n 1, 1) := by decide +kernel
theorem dX2_putBumps_25 : decode cX2_putBumps 25 = .ok (.iload 6, 2) := by decide +kernel
theorem dX2_putBumps_27 : decode cX2_putBumps 27 = .ok (.isub, 1) := by decide +kernel
theorem dX2_putBumps_28 : decode cX2_putBumps 28 = .ok (.goto 7, 3) := by decide +kernel
theorem dX2_putBumps_31 : decode cX2_putBumps 31 = .ok (.iload_n 1, 1) := by decide +kernel
theorem dX2_putBumps_32 : decode cX2_putBumps 32 = .ok (.iload 6, 2) := by decide +kernel
theorem dX2_putBumps_34 : decode cX2_putBumps 34 = .ok (.iadd, 1) := by decide +kernel
theorem dX2_putBumps_35 : decode cX2_putBumps 35 = .ok (.istore 7, 2) := by decide +kernel
theorem dX2_putBumps_37 : decode cX2_putBumps 37 = .ok (.iload 7, 2) := by decide +kernel
theorem dX2_putBumps_39 : decode cX2_putBumps 39 = .ok (.bipush 7, 2) := by decide +kernel
theorem dX2_putBumps_41 : decode cX2_putBumps 41 = .ok (.iadd, 1) := by decide +kernel
theorem dX2_putBumps_42 : decode cX2_putBumps 42 = .ok (.istore 8, 2) := by decide +kernel
theorem dX2_putBumps_44 : decode cX2_putBumps 44 = .ok (.iconst 2, 1) := by decide +kernel
theorem dX2_putBumps_45 : decode cX2_putBumps 45 = .ok (.iload 7, 2) := by decide +kernel
theorem dX2_putBumps_47 : decode cX2_putBumps 47 = .ok (.imul, 1) := by decide +kernel
theorem dX2_putBumps_48 : decode cX2_putBumps 48 = .ok (.invokestatic 64, 3) := by decide +kernel
theorem dX2_putBumps_51 : decode cX2_putBumps 51 = .ok (.iload 4, 2) := by decide +kernel
theorem dX2_putBumps_53 : decode cX2_putBumps 53 = .ok (.if_icmp .gt 28, 3) := by decide +kernel
theorem dX2_putBumps_56 : decode cX2_putBumps 56 = .ok (.aload_n 0, 1) := by decide +kernel
theorem dX2_putBumps_57 : decode cX2_putBumps 57 = .ok (.getfield 15, 3) := by decide +kernel
theorem dX2_putBumps_60 : decode cX2_putBumps 60 = .ok (.iload 8, 2) := by decide +kernel
theorem dX2_putBumps_62 : decode cX2_putBumps 62 = .ok (.aload_n 0, 1) := by decide +kernel
theorem dX2_putBumps_63 : decode cX2_putBumps 63 = .ok (.getfield 15, 3) := by decide +kernel
theorem dX2_putBumps_66 : decode cX2_putBumps 66 = .ok (.iload 8, 2) := by decide +kernel
theorem dX2_putBumps_68 : decode cX2_putBumps 68 = .ok (.invokestatic 56, 3) := by decide +kernel
theorem dX2_putBumps_71 : decode cX2_putBumps 71 = .ok (.iload_n 2, 1) := by decide +kernel
theorem dX2_putBumps_72 : decode cX2_putBumps 72 = .ok (.iload 6, 2) := by decide +kernel
theorem dX2_putBumps_74 : decode cX2_putBumps 74 = .ok (.iadd, 1) := by decide +kernel
theorem dX2_putBumps_75 : decode cX2_putBumps 75 = .ok (.invokestatic 69, 3) := by decide +kernel
theorem dX2_putBumps_78 : decode cX2_putBumps 78 = .ok (.invokestatic 25, 3) := by decide +kernel
theorem dX2_putBumps_81 : decode cX2_putBumps 81 = .ok (.iinc 6 1, 3) := by decide +kernel
theorem dX2_putBumps_84 : decode cX2_putBumps 84 = .ok (.goto (-71), 3) := by decide +kernel
theorem dX2_putBumps_87 : decode cX2_putBumps 87 = .ok (.return_, 1) := by decide +kernel
theorem dJ6_bitCount_0f7a4_0 : decode cJ6_bitCount_0f7a4 0 = .ok (.iload_n 0, 1) := by decide +kernel
theorem dJ6_bitCount_0f7a4_1 : decode cJ6_bitCount_0f7a4 1 = .ok (.iload_n 0, 1) := by decide +kernel
theorem dJ6_bitCount_0f7a4_2 : decode cJ6_bitCount_0f7a4 2 = .ok (.iconst 1, 1) := by decide +kernel
theorem dJ6_bitCount_0f7a4_3 : decode cJ6_bitCount_0f7a4 3 = .ok (.iushr, 1) := by decide +kernel
theorem dJ6_bitCount_0f7a4_4 : decode cJ6_bitCount_0f7a4 4 = .ok (.ldc_w 265, 3) := by decide +kernel
theorem dJ6_bitCount_0f7a4_7 : decode cJ6_bitCount_0f7a4 7 = .ok (.iand, 1) := by decide +kernel
theorem dJ6_bitCount_0f7a4_8 : decode cJ6_bitCount_0f7a4 8 = .ok (.isub, 1) := by decide +kernel
theorem dJ6_bitCount_0f7a4_9 : decode cJ6_bitCount_0f7a4 9 = .ok (.istore_n 0, 1) := by decide +kernel
theorem dJ6_bitCount_0f7a4_10 : decode cJ6_bitCount_0f7a4 10 = .ok (.iload_n 0, 1) := by decide +kernel
theorem dJ6_bitCount_0f7a4_11 : decode cJ6_bitCount_0f7a4 11 = .ok (.ldc_w 266, 3) := by decide +kernel
theorem dJ6_bitCount_0f7a4_14 : decode cJ6_bitCount_0f7a4 14 = .ok (.iand, 1) := by decide +kernel
theorem dJ6_bitCount_0f7a4_15 : decode cJ6_bitCount_0f7a4 15 = .ok (.iload_n 0, 1) := by decide +kernel
theorem dJ6_bitCount_0f7a4_16 : decode cJ6_bitCount_0f7a4 16 = .ok (.iconst 2, 1) := by decide +kernel
theorem dJ6_bitCount_0f7a4_17 : decode cJ6_bitCount_0f7a4 17 = .ok (.iushr, 1) := by decide +kernel
theorem dJ6_bitCount_0f7a4_18 : decode cJ6_bitCount_0f7a4 18 = .ok (.ldc_w 266, 3) := by decide +kernel
theorem dJ6_bitCount_0f7a4_21 : decode cJ6_bitCount_0f7a4 21 = .ok (.iand, 1) := by decide +kernel
theorem dJ6_bitCount_0f7a4_22 : decode cJ6_bitCount_0f7a4 22 = .ok (.iadd, 1) := by decide +kernel
theorem dJ6_bitCount_0f7a4_23 : decode cJ6_bitCount_0f7a4 23 = .ok (.istore_n 0, 1) := by decide +kernel
theorem dJ6_bitCount_0f7a4_24 : decode cJ6_bitCount_0f7a4 24 = .ok (.iload_n 0, 1) := by decide +kernel
theorem dJ6_bitCount_0f7a4_25 : decode cJ6_bitCount_0f7a4 25 = .ok (.iload_n 0, 1) := by decide +kernel
theorem dJ6_bitCount_0f7a4_26 : decode cJ6_bitCount_0f7a4 26 = .ok (.iconst 4, 1) := by decide +kernel
theorem dJ6_bitCount_0f7a4_27 : decode cJ6_bitCount_0f7a4 27 = .ok (.iushr, 1) := by decide +kernel
theorem dJ6_bitCount_0f7a4_28 : decode cJ6_bitCount_0f7a4 28 = .ok (.iadd, 1) := by decide +kernel
theorem dJ6_bitCount_0f7a4_29 : decode cJ6_bitCount_0f7a4 29 = .ok (.ldc_w 267, 3) := by decide +kernel
theorem dJ6_bitCount_0f7a4_32 : decode cJ6_bitCount_0f7a4 32 = .ok (.iand, 1) := by decide +kernel
theorem dJ6_bitCount_0f7a4_33 : decode cJ6_bitCount_0f7a4 33 = .ok (.istore_n 0, 1) := by decide +kernel
theorem dJ6_bitCount_0f7a4_34 : decode cJ6_bitCount_0f7a4 34 = .ok (.iload_n 0, 1) := by decide +kernel
theorem dJ6_bitCount_0f7a4_35 : decode cJ6_bitCount_0f7a4 35 = .ok (.iload_n 0, 1) := by decide +kernel
theorem dJ6_bitCount_0f7a4_36 : decode cJ6_bitCount_0f7a4 36 = .ok (.bipush 8, 2) := by decide +kernel
theorem dJ6_bitCount_0f7a4_38 : decode cJ6_bitCount_0f7a4 38 = .ok (.iushr, 1) := by decide +kernel
theorem dJ6_bitCount_0f7a4_39 : decode cJ6_bitCount_0f7a4 39 = .ok (.iadd, 1) := by decide +kernel
theorem dJ6_bitCount_0f7a4_40 : decode cJ6_bitCount_0f7a4 40 = .ok (.istore_n 0, 1) := by decide +kernel
theorem dJ6_bitCount_0f7a4_41 : decode cJ6_bitCount_0f7a4 41 = .ok (.iload_n 0, 1) := by decide +kernel
theorem dJ6_bitCount_0f7a4_42 : decode cJ6_bitCount_0f7a4 42 = .ok (.iload_n 0, 1) := by decide +kernel
theorem dJ6_bitCount_0f7a4_43 : decode cJ6_bitCount_0f7a4 43 = .ok (.bipush 16, 2) := by decide +kernel
theorem dJ6_bitCount_0f7a4_45 : decode cJ6_bitCount_0f7a4 45 = .ok (.iushr, 1) := by decide +kernel
theorem dJ6_bitCount_0f7a4_46 : decode cJ6_bitCount_0f7a4 46 = .ok (.iadd, 1) := by decide +kernel
theorem dJ6_bitCount_0f7a4_47 : decode cJ6_bitCount_0f7a4 47 = .ok (.istore_n 0, 1) := by decide +kernel
theorem dJ6_bitCount_0f7a4_48 : decode cJ6_bitCount_0f7a4 48 = .ok (.iload_n 0, 1) := by decide +kernel
theorem dJ6_bitCount_0f7a4_49 : decode cJ6_bitCount_0f7a4 49 = .ok (.bipush 63, 2) := by decide +kernel
theorem dJ6_bitCount_0f7a4_51 : decode cJ6_bitCount_0f7a4 51 = .ok (.iand, 1) := by decide +kernel
theorem dJ6_bitCount_0f7a4_52 : decode cJ6_bitCount_0f7a4 52 = .ok (.ireturn, 1) := by decide +kernel
theorem dJ7_fill_53178_0 : decode cJ7_fill_53178 0 = .ok (.iconst 0, 1) := by decide +kernel
theorem dJ7_fill_53178_1 : decode cJ7_fill_53178 1 = .ok (.istore_n 2, 1) := by decide +kernel
theorem dJ7_fill_53178_2 : decode cJ7_fill_53178 2 = .ok (.aload_n 0, 1) := by decide +kernel
theorem dJ7_fill_53178_3 : decode cJ7_fill_53178 3 = .ok (.arraylength, 1) := by decide +kernel
theorem dJ7_fill_53178_4 : decode cJ7_fill_53178 4 = .ok (.istore_n 3, 1) := by decide +kernel
theorem dJ7_fill_53178_5 : decode cJ7_fill_53178 5 = .ok (.iload_n 2, 1) := by decide +kernel
theorem dJ7_fill_53178_6 : decode cJ7_fill_53178 6 = .ok (.iload_n 3, 1) := by decide +kernel
theorem dJ7_fill_53178_7 : decode cJ7_fill_53178 7 = .ok (.if_icmp .ge 13, 3) := by decide +kernel
theorem dJ7_fill_53178_10 : decode cJ7_fill_53178 10 = .ok (.aload_n 0, 1) := by decide +kernel
theorem dJ7_fill_53178_11 : decode cJ7_fill_53178 11 = .ok (.iload_n 2, 1) := by decide +kernel
theorem dJ7_fill_53178_12 : decode cJ7_fill_53178 12 = .ok (.iload_n 1, 1) := by decide +kernel
theorem dJ7_fill_53178_13 : decode cJ7_fill_53178 13 = .ok (.iastore, 1) := by decide +kernel
theorem dJ7_fill_53178_14 : decode cJ7_fill_53178 14 = .ok (.iinc 2 1, 3) := by decide +kernel
theorem dJ7_fill_53178_17 : decode cJ7_fill_53178 17 = .ok (.goto (-12), 3) := by decide +kernel
theorem dJ7_fill_53178_20 : decode cJ7_fill_53178 20 = .ok (.return_, 1) := by decide +kernel
theorem dJ9_abs_0f7a4_0 : decode cJ9_abs_0f7a4 0 = .ok (.iload_n 0, 1) := by decide +kernel
theorem dJ9_abs_0f7a4_1 : decode cJ9_abs_0f7a4 1 = .ok (.ifCond .ge 8, 3) := by decide +kernel
theorem dJ9_abs_0f7a4_4 : decode cJ9_abs_0f7a4 4 = .ok (.iload_n 0, 1) := by decide +kernel
theorem dJ9_abs_0f7a4_5 : decode cJ9_abs_0f7a4 5 = .ok (.ineg, 1) := by decide +kernel
theorem dJ9_abs_0f7a4_6 : decode cJ9_abs_0f7a4 6 = .ok (.goto 4, 3) := by decide +kernel
theorem dJ9_abs_0f7a4_9 : decode cJ9_abs_0f7a4 9 = .ok (.iload_n 0, 1) := by decide +kernel
theorem dJ9_abs_0f7a4_10 : decode cJ9_abs_0f7a4 10 = .ok (.ireturn, 1) := by decide +kernel
theorem dJ9_max_7cf53_0 : decode cJ9_max_7cf53 0 = .ok (.iload_n 0, 1) := by decide +kernel
theorem dJ9_max_7cf53_1 : decode cJ9_max_7cf53 1 = .ok (.iload_n 1, 1) := by decide +kernel
theorem dJ9_max_7cf53_2 : decode cJ9_max_7cf53 2 = .ok (.if_icmp .lt 7, 3) := by decide +kernel
theorem dJ9_max_7cf53_5 : decode cJ9_max_7cf53 5 = .ok (.iload_n 0, 1) := by decide +kernel
theorem dJ9_max_7cf53_6 : decode cJ9_max_7cf53 6 = .ok (.goto 4, 3) := by decide +kernel
theorem dJ9_max_7cf53_9 : decode cJ9_max_7cf53 9 = .ok (.iload_n 1, 1) := by decide +kernel
theorem dJ9_max_7cf53_10 : decode cJ9_max_7cf53 10 = .ok (.ireturn, 1) := by decide +kernel
theorem dJ9_min_7cf53_0 : decode cJ9_min_7cf53 0 = .ok (.iload_n 0, 1) := by decide +kernel
theorem dJ9_min_7cf53_1 : decode cJ9_min_7cf53 1 = .ok (.iload_n 1, 1) := by decide +kernel
theorem dJ9_min_7cf53_2 : decode cJ9_min_7cf53 2 = .ok (.if_icmp .gt 7, 3) := by decide +kernel
theorem dJ9_min_7cf53_5 : decode cJ9_min_7cf53 5 = .ok (.iload_n 0, 1) := by decide +kernel
theorem dJ9_min_7cf53_6 : decode cJ9_min_7cf53 6 = .ok (.goto 4, 3) := by decide +kernel
theorem dJ9_min_7cf53_9 : decode cJ9_min_7cf53 9 = .ok (.iload_n 1, 1) := by decide +kernel
theorem dJ9_min_7cf53_10 : decode cJ9_min_7cf53 10 = .ok (.ireturn, 1) := by decide +kernel
