theorem dX3_init_0 : decode cX3_init 0 = .ok (.aload_n 0, 1) := by decide +kernel
theorem dX3_init_1 : decode cX3_init 1 = .ok (.invokespecial 1, 3) := by decide +kernel
theorem dX3_init_4 : decode cX3_init 4 = .ok (.aload_n 0, 1) := by decide +kernel
theorem dX3_init_5 : decode cX3_init 5 = .ok (.new 7, 3) := by decide +kernel
theorem dX3_init_8 : decode cX3_init 8 = .ok (.dup, 1) := by decide +kernel
theorem dX3_init_9 : decode cX3_init 9 = .ok (.bipush 6, 2) := by decide +kernel
theorem dX3_init_11 : decode cX3_init 11 = .ok (.bipush 40, 2) := by decide +kernel
theorem dX3_init_13 : decode cX3_init 13 = .ok (.iconst 0, 1) := by decide +kernel
theorem dX3_init_14 : decode cX3_init 14 = .ok (.invokespecial 11, 3) := by decide +kernel
theorem dX3_init_17 : decode cX3_init 17 = .ok (.putfield 14, 3) := by decide +kernel
theorem dX3_init_20 : decode cX3_init 20 = .ok (.aload_n 0, 1) := by decide +kernel
theorem dX3_init_21 : decode cX3_init 21 = .ok (.new 7, 3) := by decide +kernel
theorem dX3_init_24 : decode cX3_init 24 = .ok (.dup, 1) := by decide +kernel
theorem dX3_init_25 : decode cX3_init 25 = .ok (.iconst 4, 1) := by decide +kernel
theorem dX3_init_26 : decode cX3_init 26 = .ok (.bipush 60, 2) := by decide +kernel
theorem dX3_init_28 : decode cX3_init 28 = .ok (.bipush 32, 2) := by decide +kernel
theorem dX3_init_30 : decode cX3_init 30 = .ok (.invokespecial 11, 3) := by decide +kernel
theorem dX3_init_33 : decode cX3_init 33 = .ok (.putfield 18, 3) := by decide +kernel
theorem dX3_init_36 : decode cX3_init 36 = .ok (.aload_n 0, 1) := by decide +kernel
theorem dX3_init_37 : decode cX3_init 37 = .ok (.new 21, 3) := by decide +kernel
theorem dX3_init_40 : decode cX3_init 40 = .ok (.dup, 1) := by decide +kernel
theorem dX3_init_41 : decode cX3_init 41 = .ok (.invokespecial 23, 3) := by decide +kernel
theorem dX3_init_44 : decode cX3_init 44 = .ok (.putfield 24, 3) := by decide +kernel
theorem dX3_init_47 : decode cX3_init 47 = .ok (.aload_n 0, 1) := by decide +kernel
theorem dX3_init_48 : decode cX3_init 48 = .ok (.new 28, 3) := by decide +kernel
theorem dX3_init_51 : decode cX3_init 51 = .ok (.dup, 1) := by decide +kernel
theorem dX3_init_52 : decode cX3_init 52 = .ok (.invokespecial 30, 3) := by decide +kernel
theorem dX3_init_55 : decode cX3_init 55 = .ok (.putfield 31, 3) := by decide +kernel
theorem dX3_init_58 : decode cX3_init 58 = .ok (.aload_n 0, 1) := by decide +kernel
theorem dX3_init_59 : decode cX3_init 59 = .ok (.bipush 16, 2) := by decide +kernel
theorem dX3_init_61 : decode cX3_init 61 = .ok (.newarray .int, 2) := by decide +kernel
theorem dX3_init_63 : decode cX3_init 63 = .ok (.putfield 35, 3) := by decide +kernel
theorem dX3_init_66 : decode cX3_init 66 = .ok (.aload_n 0, 1) := by decide +kernel
theorem dX3_init_67 : decode cX3_init 67 = .ok (.bipush 16, 2) := by decide +kernel
theorem dX3_init_69 : decode cX3_init 69 = .ok (.newarray .int, 2) := by decide +kernel
theorem dX3_init_71 : decode cX3_init 71 = .ok (.putfield 39, 3) := by decide +kernel
theorem dX3_init_74 : decode cX3_init 74 = .ok (.aload_n 0, 1) := by decide +kernel
theorem dX3_init_75 : decode cX3_init 75 = .ok (.bipush 6, 2) := by decide +kernel
theorem dX3_init_77 : decode cX3_init 77 = .ok (.newarray .int, 2) := by decide +kernel
theorem dX3_init_79 : decode cX3_init 79 = .ok (.putfield 42, 3) := by decide +kernel
theorem dX3_init_82 : decode cX3_init 82 = .ok (.aload_n 0, 1) := by decide +kernel
theorem dX3_init_83 : decode cX3_init 83 = .ok (.iconst 0, 1) := by decide +kernel
theorem dX3_init_84 : decode cX3_init 84 = .ok (.putfield 45, 3) := by decide +kernel
theorem dX3_init_87 : decode cX3_init 87 = .ok (.aload_n 0, 1) := by decide +kernel
theorem dX3_init_88 : decode cX3_init 88 = .ok (.iconst 0, 1) := by decide +kernel
theorem dX3_init_89 : decode cX3_init 89 = .ok (.putfield 49, 3) := by decide +kernel
theorem dX3_init_92 : decode cX3_init 92 = .ok (.aload_n 0, 1) := by decide +kernel
theorem dX3_init_93 : decode cX3_init 93 = .ok (.lconst 0, 1) := by decide +kernel
theorem dX3_init_94 : decode cX3_init 94 = .ok (.putfield 52, 3) := by decide +kernel
theorem dX3_init_97 : decode cX3_init 97 = .ok (.aload_n 0, 1) := by decide +kernel
theorem dX3_init_98 : decode cX3_init 98 = .ok (.lconst 1, 1) := by decide +kernel
theorem dX3_init_99 : decode cX3_init 99 = .ok (.putfield 56, 3) := by decide +kernel
theorem dX3_init_102 : decode cX3_init 102 = .ok (.return_, 1) := by decide +kernel
theorem dX3_row_0 : decode cX3_row 0 = .ok (.iload_n 1, 1) := by decide +kernel
theorem dX3_row_1 : decode cX3_row 1 = .ok (.invokestatic 59, 3) := by decide +kernel
theorem dX3_row_4 : decode cX3_row 4 = .ok (.ifCond .eq 9, 3) := by decide +kernel
theorem dX3_row_7 : decode cX3_row 7 = .ok (.iload_n 2, 1) := by decide +kernel
theorem dX3_row_8 : decode cX3_row 8 = .ok (.bipush 40, 2) := by decide +kernel
theorem dX3_row_10 : decode cX3_row 10 = .ok (.if_icmp .le 5, 3) := by decide +kernel
theorem dX3_row_13 : decode cX3_row 13 = .ok (.iconst (-1), 1) := by decide +kernel
theorem dX3_row_14 : decode cX3_row 14 = .ok (.ireturn, 1) := by decide +kernel
theorem dX3_row_15 : decode cX3_row 15 = .ok (.iload_n 2, 1) := by decide +kernel
theorem dX3_row_16 : decode cX3_row 16 = .ok (.ifCond .ge 9, 3) := by decide +kernel
theorem dX3_row_19 : decode cX3_row 19 = .ok (.aload_n 0, 1) := by decide +kernel
theorem dX3_row_20 : decode cX3_row 20 = .ok (.iconst 5, 1) := by decide +kernel
theorem dX3_row_21 : decode cX3_row 21 = .ok (.invokevirtual 63, 3) := by decide +kernel
theorem dX3_row_24 : decode cX3_row 24 = .ok (.ireturn, 1) := by decide +kernel
theorem dX3_row_25 : decode cX3_row 25 = .ok (.aload_n 0, 1) := by decide +kernel
theorem dX3_row_26 : decode cX3_row 26 = .ok (.getfield 14, 3) := by decide +kernel
theorem dX3_row_29 : decode cX3_row 29 = .ok (.iload_n 1, 1) := by decide +kernel
theorem dX3_row_30 : decode cX3_row 30 = .ok (.iload_n 2, 1) := by decide +kernel
theorem dX3_row_31 : decode cX3_row 31 = .ok (.invokevirtual 67, 3) := by decide +kernel
theorem dX3_row_34 : decode cX3_row 34 = .ok (.iload_n 2, 1) := by decide +kernel
theorem dX3_row_35 : decode cX3_row 35 = .ok (.ireturn, 1) := by decide +kernel
theorem dX3_lay_0 : decode cX3_lay 0 = .ok (.aload_n 0, 1) := by decide +kernel
theorem dX3_lay_1 : decode cX3_lay 1 = .ok (.iload_n 1, 1) := by decide +kernel
theorem dX3_lay_2 : decode cX3_lay 2 = .ok (.iload_n 2, 1) := by decide +kernel
theorem dX3_lay_3 : decode cX3_lay 3 = .ok (.invokevirtual 71, 3) := by decide +kernel
theorem dX3_lay_6 : decode cX3_lay 6 = .ok (.istore 4, 2) := by decide +kernel
theorem dX3_lay_8 : decode cX3_lay 8 = .ok (.iload 4, 2) := by decide +kernel
theorem dX3_lay_10 : decode cX3_lay 10 = .ok (.ifCond .eq 6, 3) := by decide +kernel
theorem dX3_lay_13 : decode cX3_lay 13 = .ok (.iload 4, 2) := by decide +kernel
theorem dX3_lay_15 : decode cX3_lay 15 = .ok (.ireturn, 1) := by decide +kernel
theorem dX3_lay_16 : decode cX3_lay 16 = .ok (.aload_n 0, 1) := by decide +kernel
theorem dX3_lay_17 : decode cX3_lay 17 = .ok (.aload_n 0, 1) := by decide +kernel
theorem dX3_lay_18 : decode cX3_lay 18 = .ok (.getfield 14, 3) := by decide +kernel
theorem dX3_lay_21 : decode cX3_lay 21 = .ok (.getfield 75, 3) := by decide +kernel
theorem dX3_lay_24 : decode cX3_lay 24 = .ok (.iload_n 1, 1) := by decide +kernel
theorem dX3_lay_25 : decode cX3_lay 25 = .ok (.aaload, 1) := by decide +kernel
theorem dX3_lay_26 : decode cX3_lay 26 = .ok (.iload_n 2, 1) := by decide +kernel
theorem dX3_lay_27 : decode cX3_lay 27 = .ok (.iaload, 1) := by decide +kernel
theorem dX3_lay_28 : decode cX3_lay 28 = .ok (.putfield 49, 3) := by decide +kernel
theorem dX3_lay_31 : decode cX3_lay 31 = .ok (.aload_n 0, 1) := by decide +kernel
theorem dX3_lay_32 : decode cX3_lay 32 = .ok (.getfield 14, 3) := by decide +kernel
theorem dX3_lay_35 : decode cX3_lay 35 = .ok (.getfield 75, 3) := by decide +kernel
theorem dX3_lay_38 : decode cX3_lay 38 = .ok (.iload_n 1, 1) := by decide +kernel
theorem dX3_lay_39 : decode cX3_lay 39 = .ok (.aaload, 1) := by decide +kernel
theorem dX3_lay_40 : decode cX3_lay 40 = .ok (.iload_n 2, 1) := by decide +kernel
theorem dX3_lay_41 : decode cX3_lay 41 = .ok (.iload_n 3, 1) := by decide +kernel
theorem dX3_lay_42 : decode cX3_lay 42 = .ok (.iastore, 1) := by decide +kernel
theorem dX3_lay_43 : decode cX3_lay 43 = .ok (.iconst 1, 1) := by decide +kernel
theorem dX3_lay_44 : decode cX3_lay 44 = .ok (.ireturn, 1) := by decide +kernel
theorem dX3_at_0 : decode cX3_at 0 = .ok (.aload_n 0, 1) := by decide +kernel
theorem dX3_at_1 : decode cX3_at 1 = .ok (.iload_n 1, 1) := by decide +kernel
theorem dX3_at_2 : decode cX3_at 2 = .ok (.iload_n 2, 1) := by decide +kernel
theorem dX3_at_3 : decode cX3_at 3 = .ok (.invokevirtual 71, 3) := by decide +kernel
theorem dX3_at_6 : decode cX3_at 6 = .ok (.istore_n 3, 1) := by decide +kernel
theorem dX3_at_7 : decode cX3_at 7 = .ok (.iload_n 3, 1) := by decide +kernel
theorem dX3_at_8 : decode cX3_at 8 = .ok (.ifCond .eq 5, 3) := by decide +kernel
theorem dX3_at_11 : decode cX3_at 11 = .ok (.iload_n 3, 1) := by decide +kernel
theorem dX3_at_12 : decode cX3_at 12 = .ok (.ireturn, 1) := by decide +kernel
theorem dX3_at_13 : decode cX3_at 13 = .ok (.aload_n 0, 1) := by decide +kernel
theorem dX3_at_14 : decode cX3_at 14 = .ok (.aload_n 0, 1) := by decide +kernel
theorem dX3_at_15 : decode cX3_at 15 = .ok (.getfield 14, 3) := by decide +kernel
theorem dX3_at_18 : decode cX3_at 18 = .ok (.getfield 75, 3) := by decide +kernel
theorem dX3_at_21 : decode cX3_at 21 = .ok (.iload_n 1, 1) := by decide +kernel
theorem dX3_at_22 : decode cX3_at 22 = .ok (.aaload, 1) := by decide +kernel
theorem dX3_at_23 : decode cX3_at 23 = .ok (.iload_n 2, 1) := by decide +kernel
theorem dX3_at_24 : decode cX3_at 24 = .ok (.iaload, 1) := by decide +kernel
theorem dX3_at_25 : decode cX3_at 25 = .ok (.iconst 1, 1) := by decide +kernel
theorem dX3_at_26 : decode cX3_at 26 = .ok (.invokevirtual 79, 3) := by decide +kernel
theorem dX3_at_29 : decode cX3_at 29 = .ok (.ireturn, 1) := by decide +kernel
theorem dX3_tear_0 : decode cX3_tear 0 = .ok (.iload_n 1, 1) := by decide +kernel
theorem dX3_tear_1 : decode cX3_tear 1 = .ok (.invokestatic 59, 3) := by decide +kernel
theorem dX3_tear_4 : decode cX3_tear 4 = .ok (.ifCond .ne 5, 3) := by decide +kernel
theorem dX3_tear_7 : decode cX3_tear 7 = .ok (.iconst (-1), 1) := by decide +kernel
theorem dX3_tear_8 : decode cX3_tear 8 = .ok (.ireturn, 1) := by decide +kernel
theorem dX3_tear_9 : decode cX3_tear 9 = .ok (.aload_n 0, 1) := by decide +kernel
theorem dX3_tear_10 : decode cX3_tear 10 = .ok (.getfield 14, 3) := by decide +kernel
theorem dX3_tear_13 : decode cX3_tear 13 = .ok (.iload_n 1, 1) := by decide +kernel
theorem dX3_tear_14 : decode cX3_tear 14 = .ok (.invokevirtual 82, 3) := by decide +kernel
theorem dX3_tear_17 : decode cX3_tear 17 = .ok (.ifCond .ne 9, 3) := by decide +kernel
theorem dX3_tear_20 : decode cX3_tear 20 = .ok (.aload_n 0, 1) := by decide +kernel
theorem dX3_tear_21 : decode cX3_tear 21 = .ok (.iconst 1, 1) := by decide +kernel
theorem dX3_tear_22 : decode cX3_tear 22 = .ok (.invokevirtual 63, 3) := by decide +kernel
theorem dX3_tear_25 : decode cX3_tear 25 = .ok (.ireturn, 1) := by decide +kernel
theorem dX3_tear_26 : decode cX3_tear 26 = .ok (.aload_n 0, 1) := by decide +kernel
theorem dX3_tear_27 : decode cX3_tear 27 = .ok (.getfield 14, 3) := by decide +kernel
theorem dX3_tear_30 : decode cX3_tear 30 = .ok (.getfield 85, 3) := by decide +kernel
theorem dX3_tear_33 : decode cX3_tear 33 = .ok (.iload_n 1, 1) := by decide +kernel
theorem dX3_tear_34 : decode cX3_tear 34 = .ok (.iconst (-1), 1) := by decide +kernel
theorem dX3_tear_35 : decode cX3_tear 35 = .ok (.iastore, 1) := by decide +kernel
theorem dX3_tear_36 : decode cX3_tear 36 = .ok (.iconst 1, 1) := by decide +kernel
theorem dX3_tear_37 : decode cX3_tear 37 = .ok (.ireturn, 1) := by decide +kernel
theorem dX3_copy_0 : decode cX3_copy 0 = .ok (.iload_n 1, 1) := by decide +kernel
theorem dX3_copy_1 : decode cX3_copy 1 = .ok (.invokestatic 59, 3) := by decide +kernel
theorem dX3_copy_4 : decode cX3_copy 4 = .ok (.ifCond .eq 10, 3) := by decide +kernel
theorem dX3_copy_7 : decode cX3_copy 7 = .ok (.iload_n 3, 1) := by decide +kernel
theorem dX3_copy_8 : decode cX3_copy 8 = .ok (.invokestatic 59, 3) := by decide +kernel
theorem dX3_copy_11 : decode cX3_copy 11 = .ok (.ifCond .ne 5, 3) := by decide +kernel
theorem dX3_copy_14 : decode cX3_copy 14 = .ok (.iconst (-1), 1) := by decide +kernel
theorem dX3_copy_15 : decode cX3_copy 15 = .ok (.ireturn, 1) := by decide +kernel
theorem dX3_copy_16 : decode cX3_copy 16 = .ok (.iload 5, 2) := by decide +kernel
theorem dX3_copy_18 : decode cX3_copy 18 = .ok (.ifCond .ge 9, 3) := by decide +kernel
theorem dX3_copy_21 : decode cX3_copy 21 = .ok (.aload_n 0, 1) := by decide +kernel
theorem dX3_copy_22 : decode cX3_copy 22 = .ok (.iconst 5, 1) := by decide +kernel
theorem dX3_copy_23 : decode cX3_copy 23 = .ok (.invokevirtual 63, 3) := by decide +kernel
theorem dX3_copy_26 : decode cX3_copy 26 = .ok (.ireturn, 1) := by decide +kernel
theorem dX3_copy_27 : decode cX3_copy 27 = .ok (.aload_n 0, 1) := by decide +kernel
theorem dX3_copy_28 : decode cX3_copy 28 = .ok (.getfield 14, 3) := by decide +kernel
theorem dX3_copy_31 : decode cX3_copy 31 = .ok (.iload_n 1, 1) := by decide +kernel
theorem dX3_copy_32 : decode cX3_copy 32 = .ok (.invokevirtual 82, 3) := by decide +kernel
theorem dX3_copy_35 : decode cX3_copy 35 = .ok (.ifCond .eq 14, 3) := by decide +kernel
theorem dX3_copy_38 : decode cX3_copy 38 = .ok (.aload_n 0, 1) := by decide +kernel
theorem dX3_copy_39 : decode cX3_copy 39 = .ok (.getfield 14, 3) := by decide +kernel
theorem dX3_copy_42 : decode cX3_copy 42 = .ok (.iload_n 3, 1) := by decide +kernel
theorem dX3_copy_43 : decode cX3_copy 43 = .ok (.invokevirtual 82, 3) := by decide +kernel
theorem dX3_copy_46 : decode cX3_copy 46 = .ok (.ifCond .ne 9, 3) := by decide +kernel
theorem dX3_copy_49 : decode cX3_copy 49 = .ok (.aload_n 0, 1) := by decide +kernel
theorem dX3_copy_50 : decode cX3_copy 50 = .ok (.iconst 1, 1) := by decide +kernel
theorem dX3_copy_51 : decode cX3_copy 51 = .ok (.invokevirtual 63, 3) := by decide +kernel
theorem dX3_copy_54 : decode cX3_copy 54 = .ok (.ireturn, 1) := by decide +kernel
theorem dX3_copy_55 : decode cX3_copy 55 = .ok (.aload_n 0, 1) := by decide +kernel
theorem dX3_copy_56 : decode cX3_copy 56 = .ok (.getfield 14, 3) := by decide +kernel
theorem dX3_copy_59 : decode cX3_copy 59 = .ok (.iload_n 1, 1) := by decide +kernel
theorem dX3_copy_60 : decode cX3_copy 60 = .ok (.iload_n 2, 1) := by decide +kernel
theorem dX3_copy_61 : decode cX3_copy 61 = .ok (.iload 5, 2) := by decide +kernel
theorem dX3_copy_63 : decode cX3_copy 63 = .ok (.invokevirtual 88, 3) := by decide +kernel
theorem dX3_copy_66 : decode cX3_copy 66 = .ok (.ifCond .eq 18, 3) := by decide +kernel
theorem dX3_copy_69 : decode cX3_copy 69 = .ok (.aload_n 0, 1) := by decide +kernel
theorem dX3_copy_70 : decode cX3_copy 70 = .ok (.getfield 14, 3) := by decide +kernel
theorem dX3_copy_73 : decode cX3_copy 73 = .ok (.iload_n 3, 1) := by decide +kernel
theorem dX3_copy_74 : decode cX3_copy 74 = .ok (.iload 4, 2) := by decide +kernel
theorem dX3_copy_76 : decode cX3_copy 76 = .ok (.iload 5, 2) := by decide +kernel
theorem dX3_copy_78 : decode cX3_copy 78 = .ok (.invokevirtual 88, 3) := by decide +kernel
theorem dX3_copy_81 : decode cX3_copy 81 = .ok (.ifCond .ne 9, 3) := by decide +kernel
theorem dX3_copy_84 : decode cX3_copy 84 = .ok (.aload_n 0, 1) := by decide +kernel
theorem dX3_copy_85 : decode cX3_copy 85 = .ok (.iconst 2, 1) := by decide +kernel
theorem dX3_copy_86 : decode cX3_copy 86 = .ok (.invokevirtual 63, 3) := by decide +kernel
theorem dX3_copy_89 : decode cX3_copy 89 = .ok (.ireturn, 1) := by decide +kernel
theorem dX3_copy_90 : decode cX3_copy 90 = .ok (.aload_n 0, 1) := by decide +kernel
theorem dX3_copy_91 : decode cX3_copy 91 = .ok (.getfield 14, 3) := by decide +kernel
theorem dX3_copy_94 : decode cX3_copy 94 = .ok (.getfield 75, 3) := by decide +kernel
theorem dX3_copy_97 : decode cX3_copy 97 = .ok (.iload_n 1, 1) := by decide +kernel
theorem dX3_copy_98 : decode cX3_copy 98 = .ok (.aaload, 1) := by decide +kernel
theorem dX3_copy_99 : decode cX3_copy 99 = .ok (.iload_n 2, 1) := by decide +kernel
theorem dX3_copy_100 : decode cX3_copy 100 = .ok (.aload_n 0, 1) := by decide +kernel
theorem dX3_copy_101 : decode cX3_copy 101 = .ok (.getfield 14, 3) := by decide +kernel
theorem dX3_copy_104 : decode cX3_copy 104 = .ok (.getfield 75, 3) := by decide +kernel
theorem dX3_copy_107 : decode cX3_copy 107 = .ok (.iload_n 3, 1) := by decide +kernel
theorem dX3_copy_108 : decode cX3_copy 108 = .ok (.aaload, 1) := by decide +kernel
theorem dX3_copy_109 : decode cX3_copy 109 = .ok (.iload 4, 2) := by decide +kernel
theorem dX3_copy_111 : decode cX3_copy 111 = .ok (.iload 5, 2) := by decide +kernel
theorem dX3_copy_113 : decode cX3_copy 113 = .ok (.invokestatic 92, 3) := by decide +kernel
theorem dX3_copy_116 : decode cX3_copy 116 = .ok (.iconst 1, 1) := by decide +kernel
theorem dX3_copy_117 : decode cX3_copy 117 = .ok (.ireturn, 1) := by decide +kernel
theorem dX3_mean_0 : decode cX3_mean 0 = .ok (.iload_n 1, 1) := by decide +kernel
theorem dX3_mean_1 : decode cX3_mean 1 = .ok (.invokestatic 59, 3) := by decide +kernel
theorem dX3_mean_4 : decode cX3_mean 4 = .ok (.ifCond .ne 5, 3) := by decide +kernel
theorem dX3_mean_7 : decode cX3_mean 7 = .ok (.iconst (-1), 1) := by decide +kernel
theorem dX3_mean_8 : decode cX3_mean 8 = .ok (.ireturn, 1) := by decide +kernel
theorem dX3_mean_9 : decode cX3_mean 9 = .ok (.aload_n 0, 1) := by decide +kernel
theorem dX3_mean_10 : decode cX3_mean 10 = .ok (.getfield 14, 3) := by decide +kernel
theorem dX3_mean_13 : decode cX3_mean 13 = .ok (.iload_n 1, 1) := by decide +kernel
theorem dX3_mean_14 : decode cX3_mean 14 = .ok (.invokevirtual 82, 3) := by decide +kernel
theorem dX3_mean_17 : decode cX3_mean 17 = .ok (.ifCond .ne 9, 3) := by decide +kernel
theorem dX3_mean_20 : decode cX3_mean 20 = .ok (.aload_n 0, 1) := by decide +kernel
theorem dX3_mean_21 : decode cX3_mean 21 = .ok (.iconst 1, 1) := by decide +kernel
theorem dX3_mean_22 : decode cX3_mean 22 = .ok (.invokevirtual 63, 3) := by decide +kernel
theorem dX3_mean_25 : decode cX3_mean 25 = .ok (.ireturn, 1) := by decide +kernel
theorem dX3_mean_26 : decode cX3_mean 26 = .ok (.aload_n 0, 1) := by decide +kernel
theorem dX3_mean_27 : decode cX3_mean 27 = .ok (.getfield 14, 3) := by decide +kernel
theorem dX3_mean_30 : decode cX3_mean 30 = .ok (.getfield 85, 3) := by decide +kernel
theorem dX3_mean_33 : decode cX3_mean 33 = .ok (.iload_n 1, 1) := by decide +kernel
theorem dX3_mean_34 : decode cX3_mean 34 = .ok (.iaload, 1) := by decide +kernel
theorem dX3_mean_35 : decode cX3_mean 35 = .ok (.istore_n 2, 1) := by decide +kernel
theorem dX3_mean_36 : decode cX3_mean 36 = .ok (.iload_n 2, 1) := by decide +kernel
theorem dX3_mean_37 : decode cX3_mean 37 = .ok (.ifCond .gt 9, 3) := by decide +kernel
theorem dX3_mean_40 : decode cX3_mean 40 = .ok (.aload_n 0, 1) := by decide +kernel
theorem dX3_mean_41 : decode cX3_mean 41 = .ok (.iconst 4, 1) := by decide +kernel
theorem dX3_mean_42 : decode cX3_mean 42 = .ok (.invokevirtual 63, 3) := by decide +kernel
theorem dX3_mean_45 : decode cX3_mean 45 = .ok (.ireturn, 1) := by decide +kernel
theorem dX3_mean_46 : decode cX3_mean 46 = .ok (.aload_n 0, 1) := by decide +kernel
theorem dX3_mean_47 : decode cX3_mean 47 = .ok (.aload_n 0, 1) := by decide +kernel
theorem dX3_mean_48 : decode cX3_mean 48 = .ok (.getfield 14, 3) := by decide +kernel
theorem dX3_mean_51 : decode cX3_mean 51 = .ok (.iload_n 1, 1) := by decide +kernel
theorem dX3_mean_52 : decode cX3_mean 52 = .ok (.invokevirtual 98, 3) := by decide +kernel
theorem dX3_mean_55 : decode cX3_mean 55 = .ok (.iload_n 2, 1) := by decide +kernel
theorem dX3_mean_56 : decode cX3_mean 56 = .ok (.i2l, 1) := by decide +kernel
theorem dX3_mean_57 : decode cX3_mean 57 = .ok (.ldiv, 1) := by decide +kernel
theorem dX3_mean_58 : decode cX3_mean 58 = .ok (.l2i, 1) := by decide +kernel
theorem dX3_mean_59 : decode cX3_mean 59 = .ok (.iconst 1, 1) := by decide +kernel
theorem dX3_mean_60 : decode cX3_mean 60 = .ok (.invokevirtual 79, 3) := by decide +kernel
theorem dX3_mean_63 : decode cX3_mean 63 = .ok (.ireturn, 1) := by decide +kernel
theorem dX3_text_0 : decode cX3_text 0 = .ok (.iload_n 1, 1) := by decide +kernel
theorem dX3_text_1 : decode cX3_text 1 = .ok (.invokestatic 102, 3) := by decide +kernel
theorem dX3_text_4 : decode cX3_text 4 = .ok (.ifCond .eq 9, 3) := by decide +kernel
theorem dX3_text_7 : decode cX3_text 7 = .ok (.iload_n 2, 1) := by decide +kernel
theorem dX3_text_8 : decode cX3_text 8 = .ok (.bipush 60, 2) := by decide +kernel
theorem dX3_text_10 : decode cX3_text 10 = .ok (.if_icmp .le 5, 3) := by decide +kernel
theorem dX3_text_13 : decode cX3_text 13 = .ok (.iconst (-1), 1) := by decide +kernel
theorem dX3_text_14 : decode cX3_text 14 = .ok (.ireturn, 1) := by decide +kernel
theorem dX3_text_15 : decode cX3_text 15 = .ok (.iload_n 2, 1) := by decide +kernel
theorem dX3_text_16 : decode cX3_text 16 = .ok (.ifCond .ge 9, 3) := by decide +kernel
theorem dX3_text_19 : decode cX3_text 19 = .ok (.aload_n 0, 1) := by decide +kernel
theorem dX3_text_20 : decode cX3_text 20 = .ok (.iconst 5, 1) := by decide +kernel
theorem dX3_text_21 : decode cX3_text 21 = .ok (.invokevirtual 63, 3) := by decide +kernel
theorem dX3_text_24 : decode cX3_text 24 = .ok (.ireturn, 1) := by decide +kernel
theorem dX3_text_25 : decode cX3_text 25 = .ok (.aload_n 0, 1) := by decide +kernel
theorem dX3_text_26 : decode cX3_text 26 = .ok (.getfield 18, 3) := by decide +kernel
theorem dX3_text_29 : decode cX3_text 29 = .ok (.iload_n 1, 1) := by decide +kernel
theorem dX3_text_30 : decode cX3_text 30 = .ok (.iload_n 2, 1) := by decide +kernel
theorem dX3_text_31 : decode cX3_text 31 = .ok (.invokevirtual 67, 3) := by decide +kernel
theorem dX3_text_34 : decode cX3_text 34 = .ok (.iload_n 2, 1) := by decide +kernel
theorem dX3_text_35 : decode cX3_text 35 = .ok (.ireturn, 1) := by decide +kernel
theorem dX3_put_0 : decode cX3_put 0 = .ok (.iload_n 1, 1) := by decide +kernel
theorem dX3_put_1 : decode cX3_put 1 = .ok (.invokestatic 102, 3) := by decide +kernel
theorem dX3_put_4 : decode cX3_put 4 = .ok (.ifCond .ne 5, 3) := by decide +kernel
theorem dX3_put_7 : decode cX3_put 7 = .ok (.iconst (-1), 1) := by decide +kernel
theorem dX3_put_8 : decode cX3_put 8 = .ok (.ireturn, 1) := by decide +kernel
theorem dX3_put_9 : decode cX3_put 9 = .ok (.aload_n 0, 1) := by decide +kernel
theorem dX3_put_10 : decode cX3_put 10 = .ok (.getfield 18, 3) := by decide +kernel
theorem dX3_put_13 : decode cX3_put 13 = .ok (.iload_n 1, 1) := by decide +kernel
theorem dX3_put_14 : decode cX3_put 14 = .ok (.invokevirtual 82, 3) := by decide +kernel
theorem dX3_put_17 : decode cX3_put 17 = .ok (.ifCond .ne 9, 3) := by decide +kernel
theorem dX3_put_20 : decode cX3_put 20 = .ok (.aload_n 0, 1) := by decide +kernel
theorem dX3_put_21 : decode cX3_put 21 = .ok (.iconst 1, 1) := by decide +kernel
theorem dX3_put_22 : decode cX3_put 22 = .ok (.invokevirtual 63, 3) := by decide +kernel
theorem dX3_put_25 : decode cX3_put 25 = .ok (.ireturn, 1) := by decide +kernel
theorem dX3_put_26 : decode cX3_put 26 = .ok (.aload_n 0, 1) := by decide +kernel
theorem dX3_put_27 : decode cX3_put 27 = .ok (.getfield 18, 3) := by decide +kernel
theorem dX3_put_30 : decode cX3_put 30 = .ok (.iload_n 1, 1) := by decide +kernel
theorem dX3_put_31 : decode cX3_put 31 = .ok (.iload_n 2, 1) := by decide +kernel
theorem dX3_put_32 : decode cX3_put 32 = .ok (.iconst 1, 1) := by decide +kernel
theorem dX3_put_33 : decode cX3_put 33 = .ok (.invokevirtual 88, 3) := by decide +kernel
theorem dX3_put_36 : decode cX3_put 36 = .ok (.ifCond .ne 9, 3) := by decide +kernel
theorem dX3_put_39 : decode cX3_put 39 = .ok (.aload_n 0, 1) := by decide +kernel
theorem dX3_put_40 : decode cX3_put 40 = .ok (.iconst 2, 1) := by decide +kernel
theorem dX3_put_41 : decode cX3_put 41 = .ok (.invokevirtual 63, 3) := by decide +kernel
theorem dX3_put_44 : decode cX3_put 44 = .ok (.ireturn, 1) := by decide +kernel
theorem dX3_put_45 : decode cX3_put 45 = .ok (.aload_n 0, 1) := by decide +kernel
theorem dX3_put_46 : decode cX3_put 46 = .ok (.getfield 18, 3) := by decide +kernel
theorem dX3_put_49 : decode cX3_put 49 = .ok (.getfield 75, 3) := by decide +kernel
theorem dX3_put_52 : decode cX3_put 52 = .ok (.iload_n 1, 1) := by decide +kernel
theorem dX3_put_53 : decode cX3_put 53 = .ok (.aaload, 1) := by decide +kernel
theorem dX3_put_54 : decode cX3_put 54 = .ok (.iload_n 2, 1) := by decide +kernel
theorem dX3_put_55 : decode cX3_put 55 = .ok (.iaload, 1) := by decide +kernel
theorem dX3_put_56 : decode cX3_put 56 = .ok (.istore 4, 2) := by decide +kernel
theorem dX3_put_58 : decode cX3_put 58 = .ok (.aload_n 0, 1) := by decide +kernel
theorem dX3_put_59 : decode cX3_put 59 = .ok (.getfield 18, 3) := by decide +kernel
theorem dX3_put_62 : decode cX3_put 62 = .ok (.getfield 75, 3) := by decide +kernel
theorem dX3_put_65 : decode cX3_put 65 = .ok (.iload_n 1, 1) := by decide +kernel
theorem dX3_put_66 : decode cX3_put 66 = .ok (.aaload, 1) := by decide +kernel
theorem dX3_put_67 : decode cX3_put 67 = .ok (.iload_n 2, 1) := by decide +kernel
theorem dX3_put_68 : decode cX3_put 68 = .ok (.iload_n 3, 1) := by decide +kernel
theorem dX3_put_69 : decode cX3_put 69 = .ok (.i2b, 1) := by decide +kernel
theorem dX3_put_70 : decode cX3_put 70 = .ok (.iastore, 1) := by decide +kernel
theorem dX3_put_71 : decode cX3_put 71 = .ok (.iload 4, 2) := by decide +kernel
theorem dX3_put_73 : decode cX3_put 73 = .ok (.sipush 1000, 3) := by decide +kernel
theorem dX3_put_76 : decode cX3_put 76 = .ok (.iadd, 1) := by decide +kernel
theorem dX3_put_77 : decode cX3_put 77 = .ok (.ireturn, 1) := by decide +kernel
theorem dX3_fault_0 : decode cX3_fault 0 = .ok (.iload_n 1, 1) := by decide +kernel
theorem dX3_fault_1 : decode cX3_fault 1 = .ok (.invokestatic 102, 3) := by decide +kernel
theorem dX3_fault_4 : decode cX3_fault 4 = .ok (.ifCond .ne 5, 3) := by decide +kernel
theorem dX3_fault_7 : decode cX3_fault 7 = .ok (.iconst (-1), 1) := by decide +kernel
theorem dX3_fault_8 : decode cX3_fault 8 = .ok (.ireturn, 1) := by decide +kernel
theorem dX3_fault_9 : decode cX3_fault 9 = .ok (.aload_n 0, 1) := by decide +kernel
theorem dX3_fault_10 : decode cX3_fault 10 = .ok (.getfield 18, 3) := by decide +kernel
theorem dX3_fault_13 : decode cX3_fault 13 = .ok (.iload_n 1, 1) := by decide +kernel
theorem dX3_fault_14 : decode cX3_fault 14 = .ok (.invokevirtual 82, 3) := by decide +kernel
theorem dX3_fault_17 : decode cX3_fault 17 = .ok (.ifCond .ne 9, 3) := by decide +kernel
theorem dX3_fault_20 : decode cX3_fault 20 = .ok (.aload_n 0, 1) := by decide +kernel
theorem dX3_fault_21 : decode cX3_fault 21 = .ok (.iconst 1, 1) := by decide +kernel
theorem dX3_fault_22 : decode cX3_fault 22 = .ok (.invokevirtual 63, 3) := by decide +kernel
theorem dX3_fault_25 : decode cX3_fault 25 = .ok (.ireturn, 1) := by decide +kernel
theorem dX3_fault_26 : decode cX3_fault 26 = .ok (.aload_n 0, 1) := by decide +kernel
theorem dX3_fault_27 : decode cX3_fault 27 = .ok (.getfield 31, 3) := by decide +kernel
theorem dX3_fault_30 : decode cX3_fault 30 = .ok (.aload_n 0, 1) := by decide +kernel
theorem dX3_fault_31 : decode cX3_fault 31 = .ok (.getfield 18, 3) := by decide +kernel
theorem dX3_fault_34 : decode cX3_fault 34 = .ok (.getfield 75, 3) := by decide +kernel
theorem dX3_fault_37 : decode cX3_fault 37 = .ok (.iload_n 1, 1) := by decide +kernel
theorem dX3_fault_38 : decode cX3_fault 38 = .ok (.aaload, 1) := by decide +kernel
theorem dX3_fault_39 : decode cX3_fault 39 = .ok (.aload_n 0, 1) := by decide +kernel
theorem dX3_fault_40 : decode cX3_fault 40 = .ok (.getfield 18, 3) := by decide +kernel
theorem dX3_fault_43 : decode cX3_fault 43 = .ok (.getfield 85, 3) := by decide +kernel
theorem dX3_fault_46 : decode cX3_fault 46 = .ok (.iload_n 1, 1) := by decide +kernel
theorem dX3_fault_47 : decode cX3_fault 47 = .ok (.iaload, 1) := by decide +kernel
theorem dX3_fault_48 : decode cX3_fault 48 = .ok (.invokevirtual 105, 3) := by decide +kernel
theorem dX3_fault_51 : decode cX3_fault 51 = .ok (.ireturn, 1) := by decide +kernel
theorem dX3_house_0 : decode cX3_house 0 = .ok (.iload_n 1, 1) := by decide +kernel
theorem dX3_house_1 : decode cX3_house 1 = .ok (.invokestatic 102, 3) := by decide +kernel
theorem dX3_house_4 : decode cX3_house 4 = .ok (.ifCond .ne 5, 3) := by decide +kernel
theorem dX3_house_7 : decode cX3_house 7 = .ok (.iconst (-1), 1) := by decide +kernel
theorem dX3_house_8 : decode cX3_house 8 = .ok (.ireturn, 1) := by decide +kernel
theorem dX3_house_9 : decode cX3_house 9 = .ok (.aload_n 0, 1) := by decide +kernel
theorem dX3_house_10 : decode cX3_house 10 = .ok (.getfield 18, 3) := by decide +kernel
theorem dX3_house_13 : decode cX3_house 13 = .ok (.iload_n 1, 1) := by decide +kernel
theorem dX3_house_14 : decode cX3_house 14 = .ok (.invokevirtual 82, 3) := by decide +kernel
theorem dX3_house_17 : decode cX3_house 17 = .ok (.ifCond .ne 9, 3) := by decide +kernel
theorem dX3_house_20 : decode cX3_house 20 = .ok (.aload_n 0, 1) := by decide +kernel
theorem dX3_house_21 : decode cX3_house 21 = .ok (.iconst 1, 1) := by decide +kernel
theorem dX3_house_22 : decode cX3_house 22 = .ok (.invokevirtual 63, 3) := by decide +kernel
theorem dX3_house_25 : decode cX3_house 25 = .ok (.ireturn, 1) := by decide +kernel
theorem dX3_house_26 : decode cX3_house 26 = .ok (.aload_n 0, 1) := by decide +kernel
theorem dX3_house_27 : decode cX3_house 27 = .ok (.getfield 31, 3) := by decide +kernel
theorem dX3_house_30 : decode cX3_house 30 = .ok (.aload_n 0, 1) := by decide +kernel
theorem dX3_house_31 : decode cX3_house 31 = .ok (.getfield 18, 3) := by decide +kernel
theorem dX3_house_34 : decode cX3_house 34 = .ok (.getfield 75, 3) := by decide +kernel
theorem dX3_house_37 : decode cX3_house 37 = .ok (.iload_n 1, 1) := by decide +kernel
theorem dX3_house_38 : decode cX3_house 38 = .ok (.aaload, 1) := by decide +kernel
theorem dX3_house_39 : decode cX3_house 39 = .ok (.aload_n 0, 1) := by decide +kernel
theorem dX3_house_40 : decode cX3_house 40 = .ok (.getfield 18, 3) := by decide +kernel
theorem dX3_house_43 : decode cX3_house 43 = .ok (.getfield 85, 3) := by decide +kernel
theorem dX3_house_46 : decode cX3_house 46 = .ok (.iload_n 1, 1) := by decide +kernel
theorem dX3_house_47 : decode cX3_house 47 = .ok (.iaload, 1) := by decide +kernel
theorem dX3_house_48 : decode cX3_house 48 = .ok (.invokevirtual 105, 3) := by decide +kernel
theorem dX3_house_51 : decode cX3_house 51 = .ok (.bipush (-9), 2) := by decide +kernel
theorem dX3_house_53 : decode cX3_house 53 = .ok (.if_icmp .eq 6, 3) := by decide +kernel
theorem dX3_house_56 : decode cX3_house 56 = .ok (.bipush (-4), 2) := by decide +kernel
theorem dX3_house_58 : decode cX3_house 58 = .ok (.ireturn, 1) := by decide +kernel
theorem dX3_house_59 : decode cX3_house 59 = .ok (.aload_n 0, 1) := by decide +kernel
theorem dX3_house_60 : decode cX3_house 60 = .ok (.getfield 24, 3) := by decide +kernel
theorem dX3_house_63 : decode cX3_house 63 = .ok (.aload_n 0, 1) := by decide +kernel
theorem dX3_house_64 : decode cX3_house 64 = .ok (.getfield 31, 3) := by decide +kernel
theorem dX3_house_67 : decode cX3_house 67 = .ok (.invokevirtual 109, 3) := by decide +kernel
theorem dX3_house_70 : decode cX3_house 70 = .ok (.aload_n 0, 1) := by decide +kernel
theorem dX3_house_71 : decode cX3_house 71 = .ok (.getfield 24, 3) := by decide +kernel
theorem dX3_house_74 : decode cX3_house 74 = .ok (.getfield 113, 3) := by decide +kernel
theorem dX3_house_77 : decode cX3_house 77 = .ok (.getfield 116, 3) := by decide +kernel
theorem dX3_house_80 : decode cX3_house 80 = .ok (.ireturn, 1) := by decide +kernel
theorem dX3_one_0 : decode cX3_one 0 = .ok (.aload_n 0, 1) := by decide +kernel
theorem dX3_one_1 : decode cX3_one 1 = .ok (.iload_n 1, 1) := by decide +kernel
theorem dX3_one_2 : decode cX3_one 2 = .ok (.invokevirtual 119, 3) := by decide +kernel
theorem dX3_one_5 : decode cX3_one 5 = .ok (.ifCond .eq 13, 3) := by decide +kernel
theorem dX3_one_8 : decode cX3_one 8 = .ok (.iload_n 2, 1) := by decide +kernel
theorem dX3_one_9 : decode cX3_one 9 = .ok (.ifCond .lt 9, 3) := by decide +kernel
theorem dX3_one_12 : decode cX3_one 12 = .ok (.iload_n 2, 1) := by decide +kernel
theorem dX3_one_13 : decode cX3_one 13 = .ok (.bipush 6, 2) := by decide +kernel
theorem dX3_one_15 : decode cX3_one 15 = .ok (.if_icmp .le 5, 3) := by decide +kernel
theorem dX3_one_18 : decode cX3_one 18 = .ok (.iconst (-1), 1) := by decide +kernel
theorem dX3_one_19 : decode cX3_one 19 = .ok (.ireturn, 1) := by decide +kernel
theorem dX3_one_20 : decode cX3_one 20 = .ok (.aload_n 0, 1) := by decide +kernel
theorem dX3_one_21 : decode cX3_one 21 = .ok (.aload_n 0, 1) := by decide +kernel
theorem dX3_one_22 : decode cX3_one 22 = .ok (.iload_n 1, 1) := by decide +kernel
theorem dX3_one_23 : decode cX3_one 23 = .ok (.iload_n 2, 1) := by decide +kernel
theorem dX3_one_24 : decode cX3_one 24 = .ok (.invokevirtual 122, 3) := by decide +kernel
theorem dX3_one_27 : decode cX3_one 27 = .ok (.iconst 1, 1) := by decide +kernel
theorem dX3_one_28 : decode cX3_one 28 = .ok (.invokevirtual 79, 3) := by decide +kernel
theorem dX3_one_31 : decode cX3_one 31 = .ok (.ireturn, 1) := by decide +kernel
theorem dX3_mark_0 : decode cX3_mark 0 = .ok (.aload_n 0, 1) := by decide +kernel
theorem dX3_mark_1 : decode cX3_mark 1 = .ok (.iload_n 1, 1) := by decide +kernel
theorem dX3_mark_2 : decode cX3_mark 2 = .ok (.invokevirtual 119, 3) := by decide +kernel
theorem dX3_mark_5 : decode cX3_mark 5 = .ok (.ifCond .eq 13, 3) := by decide +kernel
theorem dX3_mark_8 : decode cX3_mark 8 = .ok (.iload_n 2, 1) := by decide +kernel
theorem dX3_mark_9 : decode cX3_mark 9 = .ok (.ifCond .le 9, 3) := by decide +kernel
theorem dX3_mark_12 : decode cX3_mark 12 = .ok (.iload_n 2, 1) := by decide +kernel
theorem dX3_mark_13 : decode cX3_mark 13 = .ok (.bipush 6, 2) := by decide +kernel
theorem dX3_mark_15 : decode cX3_mark 15 = .ok (.if_icmp .lt 5, 3) := by decide +kernel
theorem dX3_mark_18 : decode cX3_mark 18 = .ok (.iconst (-1), 1) := by decide +kernel
theorem dX3_mark_19 : decode cX3_mark 19 = .ok (.ireturn, 1) := by decide +kernel
theorem dX3_mark_20 : decode cX3_mark 20 = .ok (.aload_n 0, 1) := by decide +kernel
theorem dX3_mark_21 : decode cX3_mark 21 = .ok (.getfield 24, 3) := by decide +kernel
theorem dX3_mark_24 : decode cX3_mark 24 = .ok (.getfield 113, 3) := by decide +kernel
theorem dX3_mark_27 : decode cX3_mark 27 = .ok (.getfield 125, 3) := by decide +kernel
theorem dX3_mark_30 : decode cX3_mark 30 = .ok (.iload_n 1, 1) := by decide +kernel
theorem dX3_mark_31 : decode cX3_mark 31 = .ok (.iaload, 1) := by decide +kernel
theorem dX3_mark_32 : decode cX3_mark 32 = .ok (.iload_n 2, 1) := by decide +kernel
theorem dX3_mark_33 : decode cX3_mark 33 = .ok (.invokestatic 128, 3) := by decide +kernel
theorem dX3_mark_36 : decode cX3_mark 36 = .ok (.ifCond .ne 9, 3) := by decide +kernel
theorem dX3_mark_39 : decode cX3_mark 39 = .ok (.aload_n 0, 1) := by decide +kernel
theorem dX3_mark_40 : decode cX3_mark 40 = .ok (.iconst 3, 1) := by decide +kernel
theorem dX3_mark_41 : decode cX3_mark 41 = .ok (.invokevirtual 63, 3) := by decide +kernel
theorem dX3_mark_44 : decode cX3_mark 44 = .ok (.ireturn, 1) := by decide +kernel
theorem dX3_mark_45 : decode cX3_mark 45 = .ok (.aload_n 0, 1) := by decide +kernel
theorem dX3_mark_46 : decode cX3_mark 46 = .ok (.getfield 24, 3) := by decide +kernel
theorem dX3_mark_49 : decode cX3_mark 49 = .ok (.getfield 113, 3) := by decide +kernel
theorem dX3_mark_52 : decode cX3_mark 52 = .ok (.iload_n 1, 1) := by decide +kernel
theorem dX3_mark_53 : decode cX3_mark 53 = .ok (.aload_n 0, 1) := by decide +kernel
theorem dX3_mark_54 : decode cX3_mark 54 = .ok (.getfield 24, 3) := by decide +kernel
theorem dX3_mark_57 : decode cX3_mark 57 = .ok (.getfield 113, 3) := by decide +kernel
theorem dX3_mark_60 : decode cX3_mark 60 = .ok (.getfield 125, 3) := by decide +kernel
theorem dX3_mark_63 : decode cX3_mark 63 = .ok (.iload_n 1, 1) := by decide +kernel
theorem dX3_mark_64 : decode cX3_mark 64 = .ok (.iaload, 1) := by decide +kernel
theorem dX3_mark_65 : decode cX3_mark 65 = .ok (.invokevirtual 132, 3) := by decide +kernel
theorem dX3_mark_68 : decode cX3_mark 68 = .ok (.istore_n 3, 1) := by decide +kernel
theorem dX3_mark_69 : decode cX3_mark 69 = .ok (.iload_n 3, 1) := by decide +kernel
theorem dX3_mark_70 : decode cX3_mark 70 = .ok (.aload_n 0, 1) := by decide +kernel
theorem dX3_mark_71 : decode cX3_mark 71 = .ok (.getfield 24, 3) := by decide +kernel
theorem dX3_mark_74 : decode cX3_mark 74 = .ok (.getfield 113, 3) := by decide +kernel
theorem dX3_mark_77 : decode cX3_mark 77 = .ok (.iload_n 1, 1) := by decide +kernel
theorem dX3_mark_78 : decode cX3_mark 78 = .ok (.iload_n 2, 1) := by decide +kernel
theorem dX3_mark_79 : decode cX3_mark 79 = .ok (.invokestatic 135, 3) := by decide +kernel
theorem dX3_mark_82 : decode cX3_mark 82 = .ok (.invokevirtual 132, 3) := by decide +kernel
theorem dX3_mark_85 : decode cX3_mark 85 = .ok (.isub, 1) := by decide +kernel
theorem dX3_mark_86 : decode cX3_mark 86 = .ok (.invokestatic 138, 3) := by decide +kernel
theorem dX3_mark_89 : decode cX3_mark 89 = .ok (.ireturn, 1) := by decide +kernel
theorem dX3_regard_0 : decode cX3_regard 0 = .ok (.aload_n 0, 1) := by decide +kernel
theorem dX3_regard_1 : decode cX3_regard 1 = .ok (.iload_n 1, 1) := by decide +kernel
theorem dX3_regard_2 : decode cX3_regard 2 = .ok (.invokevirtual 119, 3) := by decide +kernel
theorem dX3_regard_5 : decode cX3_regard 5 = .ok (.ifCond .eq 22, 3) := by decide +kernel
theorem dX3_regard_8 : decode cX3_regard 8 = .ok (.iload_n 2, 1) := by decide +kernel
theorem dX3_regard_9 : decode cX3_regard 9 = .ok (.ifCond .lt 18, 3) := by decide +kernel
theorem dX3_regard_12 : decode cX3_regard 12 = .ok (.iload_n 2, 1) := by decide +kernel
theorem dX3_regard_13 : decode cX3_regard 13 = .ok (.iconst 3, 1) := by decide +kernel
theorem dX3_regard_14 : decode cX3_regard 14 = .ok (.if_icmp .gt 13, 3) := by decide +kernel
theorem dX3_regard_17 : decode cX3_regard 17 = .ok (.iload_n 3, 1) := by decide +kernel
theorem dX3_regard_18 : decode cX3_regard 18 = .ok (.ifCond .lt 9, 3) := by decide +kernel
theorem dX3_regard_21 : decode cX3_regard 21 = .ok (.iload_n 3, 1) := by decide +kernel
theorem dX3_regard_22 : decode cX3_regard 22 = .ok (.bipush 99, 2) := by decide +kernel
theorem dX3_regard_24 : decode cX3_regard 24 = .ok (.if_icmp .le 5, 3) := by decide +kernel
theorem dX3_regard_27 : decode cX3_regard 27 = .ok (.iconst (-1), 1) := by decide +kernel
theorem dX3_regard_28 : decode cX3_regard 28 = .ok (.ireturn, 1) := by decide +kernel
theorem dX3_regard_29 : decode cX3_regard 29 = .ok (.aload_n 0, 1) := by decide +kernel
theorem dX3_regard_30 : decode cX3_regard 30 = .ok (.getfield 24, 3) := by decide +kernel
theorem dX3_regard_33 : decode cX3_regard 33 = .ok (.getfield 113, 3) := by decide +kernel
theorem dX3_regard_36 : decode cX3_regard 36 = .ok (.getfield 125, 3) := by decide +kernel
theorem dX3_regard_39 : decode cX3_regard 39 = .ok (.iload_n 1, 1) := by decide +kernel
theorem dX3_regard_40 : decode cX3_regard 40 = .ok (.iaload, 1) := by decide +kernel
theorem dX3_regard_41 : decode cX3_regard 41 = .ok (.aload_n 0, 1) := by decide +kernel
theorem dX3_regard_42 : decode cX3_regard 42 = .ok (.getfield 24, 3) := by decide +kernel
theorem dX3_regard_45 : decode cX3_regard 45 = .ok (.getfield 113, 3) := by decide +kernel
theorem dX3_regard_48 : decode cX3_regard 48 = .ok (.getfield 143, 3) := by decide +kernel
theorem dX3_regard_51 : decode cX3_regard 51 = .ok (.iload_n 1, 1) := by decide +kernel
theorem dX3_regard_52 : decode cX3_regard 52 = .ok (.iaload, 1) := by decide +kernel
theorem dX3_regard_53 : decode cX3_regard 53 = .ok (.iload_n 2, 1) := by decide +kernel
theorem dX3_regard_54 : decode cX3_regard 54 = .ok (.iload_n 3, 1) := by decide +kernel
theorem dX3_regard_55 : decode cX3_regard 55 = .ok (.invokestatic 146, 3) := by decide +kernel
theorem dX3_regard_58 : decode cX3_regard 58 = .ok (.ireturn, 1) := by decide +kernel
theorem dX3_quarter_0 : decode cX3_quarter 0 = .ok (.aload_n 0, 1) := by decide +kernel
theorem dX3_quarter_1 : decode cX3_quarter 1 = .ok (.invokevirtual 150, 3) := by decide +kernel
theorem dX3_quarter_4 : decode cX3_quarter 4 = .ok (.ifCond .ne 15, 3) := by decide +kernel
theorem dX3_quarter_7 : decode cX3_quarter 7 = .ok (.aload_n 0, 1) := by decide +kernel
theorem dX3_quarter_8 : decode cX3_quarter 8 = .ok (.getfield 24, 3) := by decide +kernel
theorem dX3_quarter_11 : decode cX3_quarter 11 = .ok (.getfield 154, 3) := by decide +kernel
theorem dX3_quarter_14 : decode cX3_quarter 14 = .ok (.bipush 99, 2) := by decide +kernel
theorem dX3_quarter_16 : decode cX3_quarter 16 = .ok (.if_icmp .lt 6, 3) := by decide +kernel
theorem dX3_quarter_19 : decode cX3_quarter 19 = .ok (.bipush (-4), 2) := by decide +kernel
theorem dX3_quarter_21 : decode cX3_quarter 21 = .ok (.ireturn, 1) := by decide +kernel
theorem dX3_quarter_22 : decode cX3_quarter 22 = .ok (.aload_n 0, 1) := by decide +kernel
theorem dX3_quarter_23 : decode cX3_quarter 23 = .ok (.getfield 24, 3) := by decide +kernel
theorem dX3_quarter_26 : decode cX3_quarter 26 = .ok (.iconst 1, 1) := by decide +kernel
theorem dX3_quarter_27 : decode cX3_quarter 27 = .ok (.invokevirtual 157, 3) := by decide +kernel
theorem dX3_quarter_30 : decode cX3_quarter 30 = .ok (.ifCond .eq 6, 3) := by decide +kernel
theorem dX3_quarter_33 : decode cX3_quarter 33 = .ok (.bipush (-2), 2) := by decide +kernel
theorem dX3_quarter_35 : decode cX3_quarter 35 = .ok (.ireturn, 1) := by decide +kernel
theorem dX3_quarter_36 : decode cX3_quarter 36 = .ok (.aload_n 0, 1) := by decide +kernel
theorem dX3_quarter_37 : decode cX3_quarter 37 = .ok (.getfield 24, 3) := by decide +kernel
theorem dX3_quarter_40 : decode cX3_quarter 40 = .ok (.iconst 0, 1) := by decide +kernel
theorem dX3_quarter_41 : decode cX3_quarter 41 = .ok (.iconst 0, 1) := by decide +kernel
theorem dX3_quarter_42 : decode cX3_quarter 42 = .ok (.iconst 0, 1) := by decide +kernel
theorem dX3_quarter_43 : decode cX3_quarter 43 = .ok (.iconst 0, 1) := by decide +kernel
theorem dX3_quarter_44 : decode cX3_quarter 44 = .ok (.invokestatic 160, 3) := by decide +kernel
theorem dX3_quarter_47 : decode cX3_quarter 47 = .ok (.invokevirtual 163, 3) := by decide +kernel
theorem dX3_quarter_50 : decode cX3_quarter 50 = .ok (.aload_n 0, 1) := by decide +kernel
theorem dX3_quarter_51 : decode cX3_quarter 51 = .ok (.getfield 24, 3) := by decide +kernel
theorem dX3_quarter_54 : decode cX3_quarter 54 = .ok (.getfield 113, 3) := by decide +kernel
theorem dX3_quarter_57 : decode cX3_quarter 57 = .ok (.getfield 167, 3) := by decide +kernel
theorem dX3_quarter_60 : decode cX3_quarter 60 = .ok (.ireturn, 1) := by decide +kernel
theorem dX3_soot_0 : decode cX3_soot 0 = .ok (.aload_n 0, 1) := by decide +kernel
theorem dX3_soot_1 : decode cX3_soot 1 = .ok (.iload_n 1, 1) := by decide +kernel
theorem dX3_soot_2 : decode cX3_soot 2 = .ok (.invokevirtual 119, 3) := by decide +kernel
theorem dX3_soot_5 : decode cX3_soot 5 = .ok (.ifCond .ne 5, 3) := by decide +kernel
theorem dX3_soot_8 : decode cX3_soot 8 = .ok (.iconst (-1), 1) := by decide +kernel
theorem dX3_soot_9 : decode cX3_soot 9 = .ok (.ireturn, 1) := by decide +kernel
theorem dX3_soot_10 : decode cX3_soot 10 = .ok (.aload_n 0, 1) := by decide +kernel
theorem dX3_soot_11 : decode cX3_soot 11 = .ok (.getfield 24, 3) := by decide +kernel
theorem dX3_soot_14 : decode cX3_soot 14 = .ok (.getfield 113, 3) := by decide +kernel
theorem dX3_soot_17 : decode cX3_soot 17 = .ok (.getfield 170, 3) := by decide +kernel
theorem dX3_soot_20 : decode cX3_soot 20 = .ok (.iload_n 1, 1) := by decide +kernel
theorem dX3_soot_21 : decode cX3_soot 21 = .ok (.iaload, 1) := by decide +kernel
theorem dX3_soot_22 : decode cX3_soot 22 = .ok (.iconst 3, 1) := by decide +kernel
theorem dX3_soot_23 : decode cX3_soot 23 = .ok (.if_icmp .lt 6, 3) := by decide +kernel
theorem dX3_soot_26 : decode cX3_soot 26 = .ok (.bipush (-4), 2) := by decide +kernel
theorem dX3_soot_28 : decode cX3_soot 28 = .ok (.ireturn, 1) := by decide +kernel
theorem dX3_soot_29 : decode cX3_soot 29 = .ok (.aload_n 0, 1) := by decide +kernel
theorem dX3_soot_30 : decode cX3_soot 30 = .ok (.getfield 24, 3) := by decide +kernel
theorem dX3_soot_33 : decode cX3_soot 33 = .ok (.iconst 1, 1) := by decide +kernel
theorem dX3_soot_34 : decode cX3_soot 34 = .ok (.invokevirtual 157, 3) := by decide +kernel
theorem dX3_soot_37 : decode cX3_soot 37 = .ok (.ifCond .eq 6, 3) := by decide +kernel
theorem dX3_soot_40 : decode cX3_soot 40 = .ok (.bipush (-2), 2) := by decide +kernel
theorem dX3_soot_42 : decode cX3_soot 42 = .ok (.ireturn, 1) := by decide +kernel
theorem dX3_soot_43 : decode cX3_soot 43 = .ok (.aload_n 0, 1) := by decide +kernel
theorem dX3_soot_44 : decode cX3_soot 44 = .ok (.getfield 24, 3) := by decide +kernel
theorem dX3_soot_47 : decode cX3_soot 47 = .ok (.iconst 1, 1) := by decide +kernel
theorem dX3_soot_48 : decode cX3_soot 48 = .ok (.iload_n 1, 1) := by decide +kernel
theorem dX3_soot_49 : decode cX3_soot 49 = .ok (.iconst 0, 1) := by decide +kernel
theorem dX3_soot_50 : decode cX3_soot 50 = .ok (.iconst 0, 1) := by decide +kernel
theorem dX3_soot_51 : decode cX3_soot 51 = .ok (.invokestatic 160, 3) := by decide +kernel
theorem dX3_soot_54 : decode cX3_soot 54 = .ok (.invokevirtual 163, 3) := by decide +kernel
theorem dX3_soot_57 : decode cX3_soot 57 = .ok (.aload_n 0, 1) := by decide +kernel
theorem dX3_soot_58 : decode cX3_soot 58 = .ok (.getfield 24, 3) := by decide +kernel
theorem dX3_soot_61 : decode cX3_soot 61 = .ok (.getfield 113, 3) := by decide +kernel
theorem dX3_soot_64 : decode cX3_soot 64 = .ok (.getfield 170, 3) := by decide +kernel
theorem dX3_soot_67 : decode cX3_soot 67 = .ok (.iload_n 1, 1) := by decide +kernel
theorem dX3_soot_68 : decode cX3_soot 68 = .ok (.iaload, 1) := by decide +kernel
theorem dX3_soot_69 : decode cX3_soot 69 = .ok (.ireturn, 1) := by decide +kernel
theorem dX3_wash_0 : decode cX3_wash 0 = .ok (.aload_n 0, 1) := by decide +kernel
theorem dX3_wash_1 : decode cX3_wash 1 = .ok (.iload_n 1, 1) := by decide +kernel
theorem dX3_wash_2 : decode cX3_wash 2 = .ok (.invokevirtual 119, 3) := by decide +kernel
theorem dX3_wash_5 : decode cX3_wash 5 = .ok (.ifCond .ne 5, 3) := by decide +kernel
theorem dX3_wash_8 : decode cX3_wash 8 = .ok (.iconst (-1), 1) := by decide +kernel
theorem dX3_wash_9 : decode cX3_wash 9 = .ok (.ireturn, 1) := by decide +kernel
theorem dX3_wash_10 : decode cX3_wash 10 = .ok (.aload_n 0, 1) := by decide +kernel
theorem dX3_wash_11 : decode cX3_wash 11 = .ok (.getfield 24, 3) := by decide +kernel
theorem dX3_wash_14 : decode cX3_wash 14 = .ok (.getfield 113, 3) := by decide +kernel
theorem dX3_wash_17 : decode cX3_wash 17 = .ok (.getfield 170, 3) := by decide +kernel
theorem dX3_wash_20 : decode cX3_wash 20 = .ok (.iload_n 1, 1) := by decide +kernel
theorem dX3_wash_21 : decode cX3_wash 21 = .ok (.iaload, 1) := by decide +kernel
theorem dX3_wash_22 : decode cX3_wash 22 = .ok (.istore_n 2, 1) := by decide +kernel
theorem dX3_wash_23 : decode cX3_wash 23 = .ok (.iload_n 2, 1) := by decide +kernel
theorem dX3_wash_24 : decode cX3_wash 24 = .ok (.ifCond .ne 6, 3) := by decide +kernel
theorem dX3_wash_27 : decode cX3_wash 27 = .ok (.bipush (-4), 2) := by decide +kernel
theorem dX3_wash_29 : decode cX3_wash 29 = .ok (.ireturn, 1) := by decide +kernel
theorem dX3_wash_30 : decode cX3_wash 30 = .ok (.aload_n 0, 1) := by decide +kernel
theorem dX3_wash_31 : decode cX3_wash 31 = .ok (.getfield 24, 3) := by decide +kernel
theorem dX3_wash_34 : decode cX3_wash 34 = .ok (.iconst 1, 1) := by decide +kernel
theorem dX3_wash_35 : decode cX3_wash 35 = .ok (.invokevirtual 157, 3) := by decide +kernel
theorem dX3_wash_38 : decode cX3_wash 38 = .ok (.ifCond .eq 6, 3) := by decide +kernel
theorem dX3_wash_41 : decode cX3_wash 41 = .ok (.bipush (-2), 2) := by decide +kernel
theorem dX3_wash_43 : decode cX3_wash 43 = .ok (.ireturn, 1) := by decide +kernel
theorem dX3_wash_44 : decode cX3_wash 44 = .ok (.aload_n 0, 1) := by decide +kernel
theorem dX3_wash_45 : decode cX3_wash 45 = .ok (.getfield 24, 3) := by decide +kernel
theorem dX3_wash_48 : decode cX3_wash 48 = .ok (.iconst 2, 1) := by decide +kernel
theorem dX3_wash_49 : decode cX3_wash 49 = .ok (.iload_n 1, 1) := by decide +kernel
theorem dX3_wash_50 : decode cX3_wash 50 = .ok (.iconst 0, 1) := by decide +kernel
theorem dX3_wash_51 : decode cX3_wash 51 = .ok (.iconst 0, 1) := by decide +kernel
theorem dX3_wash_52 : decode cX3_wash 52 = .ok (.invokestatic 160, 3) := by decide +kernel
theorem dX3_wash_55 : decode cX3_wash 55 = .ok (.invokevirtual 163, 3) := by decide +kernel
theorem dX3_wash_58 : decode cX3_wash 58 = .ok (.iload_n 2, 1) := by decide +kernel
theorem dX3_wash_59 : decode cX3_wash 59 = .ok (.ireturn, 1) := by decide +kernel
theorem dX3_gift_0 : decode cX3_gift 0 = .ok (.aload_n 0, 1) := by decide +kernel
theorem dX3_gift_1 : decode cX3_gift 1 = .ok (.iload_n 1, 1) := by decide +kernel
theorem dX3_gift_2 : decode cX3_gift 2 = .ok (.iload_n 2, 1) := by decide +kernel
theorem dX3_gift_3 : decode cX3_gift 3 = .ok (.invokevirtual 173, 3) := by decide +kernel
theorem dX3_gift_6 : decode cX3_gift 6 = .ok (.ifCond .eq 14, 3) := by decide +kernel
theorem dX3_gift_9 : decode cX3_gift 9 = .ok (.iload_n 3, 1) := by decide +kernel
theorem dX3_gift_10 : decode cX3_gift 10 = .ok (.iconst 1, 1) := by decide +kernel
theorem dX3_gift_11 : decode cX3_gift 11 = .ok (.if_icmp .lt 9, 3) := by decide +kernel
theorem dX3_gift_14 : decode cX3_gift 14 = .ok (.iload_n 3, 1) := by decide +kernel
theorem dX3_gift_15 : decode cX3_gift 15 = .ok (.bipush 99, 2) := by decide +kernel
theorem dX3_gift_17 : decode cX3_gift 17 = .ok (.if_icmp .le 5, 3) := by decide +kernel
theorem dX3_gift_20 : decode cX3_gift 20 = .ok (.iconst (-1), 1) := by decide +kernel
theorem dX3_gift_21 : decode cX3_gift 21 = .ok (.ireturn, 1) := by decide +kernel
theorem dX3_gift_22 : decode cX3_gift 22 = .ok (.aload_n 0, 1) := by decide +kernel
theorem dX3_gift_23 : decode cX3_gift 23 = .ok (.getfield 24, 3) := by decide +kernel
theorem dX3_gift_26 : decode cX3_gift 26 = .ok (.getfield 113, 3) := by decide +kernel
theorem dX3_gift_29 : decode cX3_gift 29 = .ok (.getfield 176, 3) := by decide +kernel
theorem dX3_gift_32 : decode cX3_gift 32 = .ok (.iload_n 1, 1) := by decide +kernel
theorem dX3_gift_33 : decode cX3_gift 33 = .ok (.iaload, 1) := by decide +kernel
theorem dX3_gift_34 : decode cX3_gift 34 = .ok (.iload_n 3, 1) := by decide +kernel
theorem dX3_gift_35 : decode cX3_gift 35 = .ok (.if_icmp .ge 6, 3) := by decide +kernel
theorem dX3_gift_38 : decode cX3_gift 38 = .ok (.bipush (-4), 2) := by decide +kernel
theorem dX3_gift_40 : decode cX3_gift 40 = .ok (.ireturn, 1) := by decide +kernel
theorem dX3_gift_41 : decode cX3_gift 41 = .ok (.aload_n 0, 1) := by decide +kernel
theorem dX3_gift_42 : decode cX3_gift 42 = .ok (.getfield 24, 3) := by decide +kernel
theorem dX3_gift_45 : decode cX3_gift 45 = .ok (.iconst 1, 1) := by decide +kernel
theorem dX3_gift_46 : decode cX3_gift 46 = .ok (.invokevirtual 157, 3) := by decide +kernel
theorem dX3_gift_49 : decode cX3_gift 49 = .ok (.ifCond .eq 6, 3) := by decide +kernel
theorem dX3_gift_52 : decode cX3_gift 52 = .ok (.bipush (-2), 2) := by decide +kernel
theorem dX3_gift_54 : decode cX3_gift 54 = .ok (.ireturn, 1) := by decide +kernel
theorem dX3_gift_55 : decode cX3_gift 55 = .ok (.aload_n 0, 1) := by decide +kernel
theorem dX3_gift_56 : decode cX3_gift 56 = .ok (.getfield 24, 3) := by decide +kernel
theorem dX3_gift_59 : decode cX3_gift 59 = .ok (.iconst 3, 1) := by decide +kernel
theorem dX3_gift_60 : decode cX3_gift 60 = .ok (.iload_n 1, 1) := by decide +kernel
theorem dX3_gift_61 : decode cX3_gift 61 = .ok (.iload_n 2, 1) := by decide +kernel
theorem dX3_gift_62 : decode cX3_gift 62 = .ok (.iload_n 3, 1) := by decide +kernel
theorem dX3_gift_63 : decode cX3_gift 63 = .ok (.invokestatic 160, 3) := by decide +kernel
theorem dX3_gift_66 : decode cX3_gift 66 = .ok (.invokevirtual 163, 3) := by decide +kernel
theorem dX3_gift_69 : decode cX3_gift 69 = .ok (.aload_n 0, 1) := by decide +kernel
theorem dX3_gift_70 : decode cX3_gift 70 = .ok (.getfield 24, 3) := by decide +kernel
theorem dX3_gift_73 : decode cX3_gift 73 = .ok (.getfield 113, 3) := by decide +kernel
theorem dX3_gift_76 : decode cX3_gift 76 = .ok (.getfield 176, 3) := by decide +kernel
theorem dX3_gift_79 : decode cX3_gift 79 = .ok (.iload_n 2, 1) := by decide +kernel
theorem dX3_gift_80 : decode cX3_gift 80 = .ok (.iaload, 1) := by decide +kernel
theorem dX3_gift_81 : decode cX3_gift 81 = .ok (.ireturn, 1) := by decide +kernel
theorem dX3_undo_0 : decode cX3_undo 0 = .ok (.iload_n 1, 1) := by decide +kernel
theorem dX3_undo_1 : decode cX3_undo 1 = .ok (.ifCond .lt 14, 3) := by decide +kernel
theorem dX3_undo_4 : decode cX3_undo 4 = .ok (.iload_n 1, 1) := by decide +kernel
theorem dX3_undo_5 : decode cX3_undo 5 = .ok (.aload_n 0, 1) := by decide +kernel
theorem dX3_undo_6 : decode cX3_undo 6 = .ok (.getfield 24, 3) := by decide +kernel
theorem dX3_undo_9 : decode cX3_undo 9 = .ok (.getfield 179, 3) := by decide +kernel
theorem dX3_undo_12 : decode cX3_undo 12 = .ok (.if_icmp .le 5, 3) := by decide +kernel
theorem dX3_undo_15 : decode cX3_undo 15 = .ok (.iconst (-1), 1) := by decide +kernel
theorem dX3_undo_16 : decode cX3_undo 16 = .ok (.ireturn, 1) := by decide +kernel
theorem dX3_undo_17 : decode cX3_undo 17 = .ok (.aload_n 0, 1) := by decide +kernel
theorem dX3_undo_18 : decode cX3_undo 18 = .ok (.getfield 24, 3) := by decide +kernel
theorem dX3_undo_21 : decode cX3_undo 21 = .ok (.getfield 179, 3) := by decide +kernel
theorem dX3_undo_24 : decode cX3_undo 24 = .ok (.iload_n 1, 1) := by decide +kernel
theorem dX3_undo_25 : decode cX3_undo 25 = .ok (.isub, 1) := by decide +kernel
theorem dX3_undo_26 : decode cX3_undo 26 = .ok (.istore_n 2, 1) := by decide +kernel
theorem dX3_undo_27 : decode cX3_undo 27 = .ok (.aload_n 0, 1) := by decide +kernel
theorem dX3_undo_28 : decode cX3_undo 28 = .ok (.getfield 24, 3) := by decide +kernel
theorem dX3_undo_31 : decode cX3_undo 31 = .ok (.iload_n 1, 1) := by decide +kernel
theorem dX3_undo_32 : decode cX3_undo 32 = .ok (.invokevirtual 182, 3) := by decide +kernel
theorem dX3_undo_35 : decode cX3_undo 35 = .ok (.iload_n 2, 1) := by decide +kernel
theorem dX3_undo_36 : decode cX3_undo 36 = .ok (.ireturn, 1) := by decide +kernel
theorem dX3_keep_0 : decode cX3_keep 0 = .ok (.iload_n 1, 1) := by decide +kernel
theorem dX3_keep_1 : decode cX3_keep 1 = .ok (.invokestatic 185, 3) := by decide +kernel
theorem dX3_keep_4 : decode cX3_keep 4 = .ok (.ifCond .ne 5, 3) := by decide +kernel
theorem dX3_keep_7 : decode cX3_keep 7 = .ok (.iconst (-1), 1) := by decide +kernel
theorem dX3_keep_8 : decode cX3_keep 8 = .ok (.ireturn, 1) := by decide +kernel
theorem dX3_keep_9 : decode cX3_keep 9 = .ok (.aload_n 0, 1) := by decide +kernel
theorem dX3_keep_10 : decode cX3_keep 10 = .ok (.invokevirtual 150, 3) := by decide +kernel
theorem dX3_keep_13 : decode cX3_keep 13 = .ok (.ifCond .eq 6, 3) := by decide +kernel
theorem dX3_keep_16 : decode cX3_keep 16 = .ok (.bipush (-4), 2) := by decide +kernel
theorem dX3_keep_18 : decode cX3_keep 18 = .ok (.ireturn, 1) := by decide +kernel
theorem dX3_keep_19 : decode cX3_keep 19 = .ok (.aload_n 0, 1) := by decide +kernel
theorem dX3_keep_20 : decode cX3_keep 20 = .ok (.getfield 24, 3) := by decide +kernel
theorem dX3_keep_23 : decode cX3_keep 23 = .ok (.iload_n 1, 1) := by decide +kernel
theorem dX3_keep_24 : decode cX3_keep 24 = .ok (.invokevirtual 188, 3) := by decide +kernel
theorem dX3_keep_27 : decode cX3_keep 27 = .ok (.aload_n 0, 1) := by decide +kernel
theorem dX3_keep_28 : decode cX3_keep 28 = .ok (.getfield 24, 3) := by decide +kernel
theorem dX3_keep_31 : decode cX3_keep 31 = .ok (.getfield 179, 3) := by decide +kernel
theorem dX3_keep_34 : decode cX3_keep 34 = .ok (.ireturn, 1) := by decide +kernel
theorem dX3_on_0 : decode cX3_on 0 = .ok (.iload_n 1, 1) := by decide +kernel
theorem dX3_on_1 : decode cX3_on 1 = .ok (.invokestatic 185, 3) := by decide +kernel
theorem dX3_on_4 : decode cX3_on 4 = .ok (.ifCond .ne 5, 3) := by decide +kernel
theorem dX3_on_7 : decode cX3_on 7 = .ok (.iconst (-1), 1) := by decide +kernel
theorem dX3_on_8 : decode cX3_on 8 = .ok (.ireturn, 1) := by decide +kernel
theorem dX3_on_9 : decode cX3_on 9 = .ok (.aload_n 0, 1) := by decide +kernel
theorem dX3_on_10 : decode cX3_on 10 = .ok (.getfield 24, 3) := by decide +kernel
theorem dX3_on_13 : decode cX3_on 13 = .ok (.getfield 191, 3) := by decide +kernel
theorem dX3_on_16 : decode cX3_on 16 = .ok (.iload_n 1, 1) := by decide +kernel
theorem dX3_on_17 : decode cX3_on 17 = .ok (.iaload, 1) := by decide +kernel
theorem dX3_on_18 : decode cX3_on 18 = .ok (.iconst (-1), 1) := by decide +kernel
theorem dX3_on_19 : decode cX3_on 19 = .ok (.if_icmp .ne 9, 3) := by decide +kernel
theorem dX3_on_22 : decode cX3_on 22 = .ok (.aload_n 0, 1) := by decide +kernel
theorem dX3_on_23 : decode cX3_on 23 = .ok (.iconst 1, 1) := by decide +kernel
theorem dX3_on_24 : decode cX3_on 24 = .ok (.invokevirtual 63, 3) := by decide +kernel
theorem dX3_on_27 : decode cX3_on 27 = .ok (.ireturn, 1) := by decide +kernel
theorem dX3_on_28 : decode cX3_on 28 = .ok (.aload_n 0, 1) := by decide +kernel
theorem dX3_on_29 : decode cX3_on 29 = .ok (.getfield 24, 3) := by decide +kernel
theorem dX3_on_32 : decode cX3_on 32 = .ok (.iload_n 1, 1) := by decide +kernel
theorem dX3_on_33 : decode cX3_on 33 = .ok (.invokevirtual 194, 3) := by decide +kernel
theorem dX3_on_36 : decode cX3_on 36 = .ok (.aload_n 0, 1) := by decide +kernel
theorem dX3_on_37 : decode cX3_on 37 = .ok (.getfield 24, 3) := by decide +kernel
theorem dX3_on_40 : decode cX3_on 40 = .ok (.getfield 179, 3) := by decide +kernel
theorem dX3_on_43 : decode cX3_on 43 = .ok (.ireturn, 1) := by decide +kernel
theorem dX3_box_0 : decode cX3_box 0 = .ok (.aload_n 0, 1) := by decide +kernel
theorem dX3_box_1 : decode cX3_box 1 = .ok (.invokevirtual 150, 3) := by decide +kernel
theorem dX3_box_4 : decode cX3_box 4 = .ok (.ifCond .eq 6, 3) := by decide +kernel
theorem dX3_box_7 : decode cX3_box 7 = .ok (.bipush (-4), 2) := by decide +kernel
theorem dX3_box_9 : decode cX3_box 9 = .ok (.ireturn, 1) := by decide +kernel
theorem dX3_box_10 : decode cX3_box 10 = .ok (.aload_n 0, 1) := by decide +kernel
theorem dX3_box_11 : decode cX3_box 11 = .ok (.getfield 24, 3) := by decide +kernel
theorem dX3_box_14 : decode cX3_box 14 = .ok (.getfield 113, 3) := by decide +kernel
theorem dX3_box_17 : decode cX3_box 17 = .ok (.invokevirtual 197, 3) := by decide +kernel
theorem dX3_box_20 : decode cX3_box 20 = .ok (.aload_n 0, 1) := by decide +kernel
theorem dX3_box_21 : decode cX3_box 21 = .ok (.aload_n 0, 1) := by decide +kernel
theorem dX3_box_22 : decode cX3_box 22 = .ok (.getfield 24, 3) := by decide +kernel
theorem dX3_box_25 : decode cX3_box 25 = .ok (.getfield 113, 3) := by decide +kernel
theorem dX3_box_28 : decode cX3_box 28 = .ok (.getfield 200, 3) := by decide +kernel
theorem dX3_box_31 : decode cX3_box 31 = .ok (.aload_n 0, 1) := by decide +kernel
theorem dX3_box_32 : decode cX3_box 32 = .ok (.getfield 24, 3) := by decide +kernel
theorem dX3_box_35 : decode cX3_box 35 = .ok (.getfield 113, 3) := by decide +kernel
theorem dX3_box_38 : decode cX3_box 38 = .ok (.getfield 167, 3) := by decide +kernel
theorem dX3_box_41 : decode cX3_box 41 = .ok (.invokevirtual 79, 3) := by decide +kernel
theorem dX3_box_44 : decode cX3_box 44 = .ok (.ireturn, 1) := by decide +kernel
theorem dX3_later_0 : decode cX3_later 0 = .ok (.aload_n 0, 1) := by decide +kernel
theorem dX3_later_1 : decode cX3_later 1 = .ok (.iload_n 1, 1) := by decide +kernel
theorem dX3_later_2 : decode cX3_later 2 = .ok (.invokevirtual 119, 3) := by decide +kernel
theorem dX3_later_5 : decode cX3_later 5 = .ok (.ifCond .eq 13, 3) := by decide +kernel
theorem dX3_later_8 : decode cX3_later 8 = .ok (.iload_n 2, 1) := by decide +kernel
theorem dX3_later_9 : decode cX3_later 9 = .ok (.ifCond .lt 9, 3) := by decide +kernel
theorem dX3_later_12 : decode cX3_later 12 = .ok (.iload_n 2, 1) := by decide +kernel
theorem dX3_later_13 : decode cX3_later 13 = .ok (.bipush 60, 2) := by decide +kernel
theorem dX3_later_15 : decode cX3_later 15 = .ok (.if_icmp .le 5, 3) := by decide +kernel
theorem dX3_later_18 : decode cX3_later 18 = .ok (.iconst (-1), 1) := by decide +kernel
theorem dX3_later_19 : decode cX3_later 19 = .ok (.ireturn, 1) := by decide +kernel
theorem dX3_later_20 : decode cX3_later 20 = .ok (.aload_n 0, 1) := by decide +kernel
theorem dX3_later_21 : decode cX3_later 21 = .ok (.getfield 31, 3) := by decide +kernel
theorem dX3_later_24 : decode cX3_later 24 = .ok (.aload_n 0, 1) := by decide +kernel
theorem dX3_later_25 : decode cX3_later 25 = .ok (.getfield 24, 3) := by decide +kernel
theorem dX3_later_28 : decode cX3_later 28 = .ok (.getfield 113, 3) := by decide +kernel
theorem dX3_later_31 : decode cX3_later 31 = .ok (.invokevirtual 203, 3) := by decide +kernel
theorem dX3_later_34 : decode cX3_later 34 = .ok (.iconst 0, 1) := by decide +kernel
theorem dX3_later_35 : decode cX3_later 35 = .ok (.istore_n 3, 1) := by decide +kernel
theorem dX3_later_36 : decode cX3_later 36 = .ok (.iconst 0, 1) := by decide +kernel
theorem dX3_later_37 : decode cX3_later 37 = .ok (.istore 4, 2) := by decide +kernel
theorem dX3_later_39 : decode cX3_later 39 = .ok (.iload 4, 2) := by decide +kernel
theorem dX3_later_41 : decode cX3_later 41 = .ok (.iload_n 2, 1) := by decide +kernel
theorem dX3_later_42 : decode cX3_later 42 = .ok (.if_icmp .ge 29, 3) := by decide +kernel
theorem dX3_later_45 : decode cX3_later 45 = .ok (.aload_n 0, 1) := by decide +kernel
theorem dX3_later_46 : decode cX3_later 46 = .ok (.getfield 31, 3) := by decide +kernel
theorem dX3_later_49 : decode cX3_later 49 = .ok (.invokevirtual 206, 3) := by decide +kernel
theorem dX3_later_52 : decode cX3_later 52 = .ok (.pop, 1) := by decide +kernel
theorem dX3_later_53 : decode cX3_later 53 = .ok (.iload_n 3, 1) := by decide +kernel
theorem dX3_later_54 : decode cX3_later 54 = .ok (.aload_n 0, 1) := by decide +kernel
theorem dX3_later_55 : decode cX3_later 55 = .ok (.getfield 31, 3) := by decide +kernel
theorem dX3_later_58 : decode cX3_later 58 = .ok (.getfield 209, 3) := by decide +kernel
theorem dX3_later_61 : decode cX3_later 61 = .ok (.iload_n 1, 1) := by decide +kernel
theorem dX3_later_62 : decode cX3_later 62 = .ok (.iaload, 1) := by decide +kernel
theorem dX3_later_63 : decode cX3_later 63 = .ok (.iadd, 1) := by decide +kernel
theorem dX3_later_64 : decode cX3_later 64 = .ok (.istore_n 3, 1) := by decide +kernel
theorem dX3_later_65 : decode cX3_later 65 = .ok (.iinc 4 1, 3) := by decide +kernel
theorem dX3_later_68 : decode cX3_later 68 = .ok (.goto (-29), 3) := by decide +kernel
theorem dX3_later_71 : decode cX3_later 71 = .ok (.aload_n 0, 1) := by decide +kernel
theorem dX3_later_72 : decode cX3_later 72 = .ok (.iload_n 3, 1) := by decide +kernel
theorem dX3_later_73 : decode cX3_later 73 = .ok (.aload_n 0, 1) := by decide +kernel
theorem dX3_later_74 : decode cX3_later 74 = .ok (.getfield 31, 3) := by decide +kernel
theorem dX3_later_77 : decode cX3_later 77 = .ok (.getfield 176, 3) := by decide +kernel
theorem dX3_later_80 : decode cX3_later 80 = .ok (.iload_n 1, 1) := by decide +kernel
theorem dX3_later_81 : decode cX3_later 81 = .ok (.iaload, 1) := by decide +kernel
theorem dX3_later_82 : decode cX3_later 82 = .ok (.invokevirtual 79, 3) := by decide +kernel
theorem dX3_later_85 : decode cX3_later 85 = .ok (.ireturn, 1) := by decide +kernel
theorem dX3_settles_0 : decode cX3_settles 0 = .ok (.aload_n 0, 1) := by decide +kernel
theorem dX3_settles_1 : decode cX3_settles 1 = .ok (.invokevirtual 150, 3) := by decide +kernel
theorem dX3_settles_4 : decode cX3_settles 4 = .ok (.ifCond .eq 6, 3) := by decide +kernel
theorem dX3_settles_7 : decode cX3_settles 7 = .ok (.bipush (-4), 2) := by decide +kernel
theorem dX3_settles_9 : decode cX3_settles 9 = .ok (.ireturn, 1) := by decide +kernel
theorem dX3_settles_10 : decode cX3_settles 10 = .ok (.aload_n 0, 1) := by decide +kernel
theorem dX3_settles_11 : decode cX3_settles 11 = .ok (.getfield 31, 3) := by decide +kernel
theorem dX3_settles_14 : decode cX3_settles 14 = .ok (.aload_n 0, 1) := by decide +kernel
theorem dX3_settles_15 : decode cX3_settles 15 = .ok (.getfield 24, 3) := by decide +kernel
theorem dX3_settles_18 : decode cX3_settles 18 = .ok (.getfield 113, 3) := by decide +kernel
theorem dX3_settles_21 : decode cX3_settles 21 = .ok (.invokevirtual 203, 3) := by decide +kernel
theorem dX3_settles_24 : decode cX3_settles 24 = .ok (.iconst 0, 1) := by decide +kernel
theorem dX3_settles_25 : decode cX3_settles 25 = .ok (.istore_n 1, 1) := by decide +kernel
theorem dX3_settles_26 : decode cX3_settles 26 = .ok (.iload_n 1, 1) := by decide +kernel
theorem dX3_settles_27 : decode cX3_settles 27 = .ok (.bipush 60, 2) := by decide +kernel
theorem dX3_settles_29 : decode cX3_settles 29 = .ok (.if_icmp .gt 32, 3) := by decide +kernel
theorem dX3_settles_32 : decode cX3_settles 32 = .ok (.aload_n 0, 1) := by decide +kernel
theorem dX3_settles_33 : decode cX3_settles 33 = .ok (.getfield 31, 3) := by decide +kernel
theorem dX3_settles_36 : decode cX3_settles 36 = .ok (.invokevirtual 206, 3) := by decide +kernel
theorem dX3_settles_39 : decode cX3_settles 39 = .ok (.ifCond .ne 16, 3) := by decide +kernel
theorem dX3_settles_42 : decode cX3_settles 42 = .ok (.aload_n 0, 1) := by decide +kernel
theorem dX3_settles_43 : decode cX3_settles 43 = .ok (.aload_n 0, 1) := by decide +kernel
theorem dX3_settles_44 : decode cX3_settles 44 = .ok (.getfield 31, 3) := by decide +kernel
theorem dX3_settles_47 : decode cX3_settles 47 = .ok (.getfield 167, 3) := by decide +kernel
theorem dX3_settles_50 : decode cX3_settles 50 = .ok (.iload_n 1, 1) := by decide +kernel
theorem dX3_settles_51 : decode cX3_settles 51 = .ok (.invokevirtual 79, 3) := by decide +kernel
theorem dX3_settles_54 : decode cX3_settles 54 = .ok (.ireturn, 1) := by decide +kernel
theorem dX3_settles_55 : decode cX3_settles 55 = .ok (.iinc 1 1, 3) := by decide +kernel
theorem dX3_settles_58 : decode cX3_settles 58 = .ok (.goto (-32), 3) := by decide +kernel
theorem dX3_settles_61 : decode cX3_settles 61 = .ok (.bipush (-9), 2) := by decide +kernel
theorem dX3_settles_63 : decode cX3_settles 63 = .ok (.ireturn, 1) := by decide +kernel
theorem dX3_mill_0 : decode cX3_mill 0 = .ok (.iload_n 1, 1) := by decide +kernel
theorem dX3_mill_1 : decode cX3_mill 1 = .ok (.ifCond .lt 9, 3) := by decide +kernel
theorem dX3_mill_4 : decode cX3_mill 4 = .ok (.iload_n 1, 1) := by decide +kernel
theorem dX3_mill_5 : decode cX3_mill 5 = .ok (.bipush 99, 2) := by decide +kernel
theorem dX3_mill_7 : decode cX3_mill 7 = .ok (.if_icmp .le 5, 3) := by decide +kernel
theorem dX3_mill_10 : decode cX3_mill 10 = .ok (.iconst (-1), 1) := by decide +kernel
theorem dX3_mill_11 : decode cX3_mill 11 = .ok (.ireturn, 1) := by decide +kernel
theorem dX3_mill_12 : decode cX3_mill 12 = .ok (.aload_n 0, 1) := by decide +kernel
theorem dX3_mill_13 : decode cX3_mill 13 = .ok (.invokevirtual 150, 3) := by decide +kernel
theorem dX3_mill_16 : decode cX3_mill 16 = .ok (.ifCond .eq 6, 3) := by decide +kernel
theorem dX3_mill_19 : decode cX3_mill 19 = .ok (.bipush (-4), 2) := by decide +kernel
theorem dX3_mill_21 : decode cX3_mill 21 = .ok (.ireturn, 1) := by decide +kernel
theorem dX3_mill_22 : decode cX3_mill 22 = .ok (.aload_n 0, 1) := by decide +kernel
theorem dX3_mill_23 : decode cX3_mill 23 = .ok (.getfield 31, 3) := by decide +kernel
theorem dX3_mill_26 : decode cX3_mill 26 = .ok (.aload_n 0, 1) := by decide +kernel
theorem dX3_mill_27 : decode cX3_mill 27 = .ok (.getfield 24, 3) := by decide +kernel
theorem dX3_mill_30 : decode cX3_mill 30 = .ok (.getfield 113, 3) := by decide +kernel
theorem dX3_mill_33 : decode cX3_mill 33 = .ok (.invokevirtual 203, 3) := by decide +kernel
theorem dX3_mill_36 : decode cX3_mill 36 = .ok (.iconst 0, 1) := by decide +kernel
theorem dX3_mill_37 : decode cX3_mill 37 = .ok (.istore_n 2, 1) := by decide +kernel
theorem dX3_mill_38 : decode cX3_mill 38 = .ok (.iload_n 2, 1) := by decide +kernel
theorem dX3_mill_39 : decode cX3_mill 39 = .ok (.bipush 60, 2) := by decide +kernel
theorem dX3_mill_41 : decode cX3_mill 41 = .ok (.if_icmp .gt 39, 3) := by decide +kernel
theorem dX3_mill_44 : decode cX3_mill 44 = .ok (.aload_n 0, 1) := by decide +kernel
theorem dX3_mill_45 : decode cX3_mill 45 = .ok (.getfield 31, 3) := by decide +kernel
theorem dX3_mill_48 : decode cX3_mill 48 = .ok (.iload_n 1, 1) := by decide +kernel
theorem dX3_mill_49 : decode cX3_mill 49 = .ok (.invokevirtual 212, 3) := by decide +kernel
theorem dX3_mill_52 : decode cX3_mill 52 = .ok (.istore_n 3, 1) := by decide +kernel
theorem dX3_mill_53 : decode cX3_mill 53 = .ok (.iload_n 3, 1) := by decide +kernel
theorem dX3_mill_54 : decode cX3_mill 54 = .ok (.bipush (-9), 2) := by decide +kernel
theorem dX3_mill_56 : decode cX3_mill 56 = .ok (.if_icmp .eq 10, 3) := by decide +kernel
theorem dX3_mill_59 : decode cX3_mill 59 = .ok (.aload_n 0, 1) := by decide +kernel
theorem dX3_mill_60 : decode cX3_mill 60 = .ok (.iload_n 2, 1) := by decide +kernel
theorem dX3_mill_61 : decode cX3_mill 61 = .ok (.iload_n 3, 1) := by decide +kernel
theorem dX3_mill_62 : decode cX3_mill 62 = .ok (.invokevirtual 79, 3) := by decide +kernel
theorem dX3_mill_65 : decode cX3_mill 65 = .ok (.ireturn, 1) := by decide +kernel
theorem dX3_mill_66 : decode cX3_mill 66 = .ok (.aload_n 0, 1) := by decide +kernel
theorem dX3_mill_67 : decode cX3_mill 67 = .ok (.getfield 31, 3) := by decide +kernel
theorem dX3_mill_70 : decode cX3_mill 70 = .ok (.invokevirtual 206, 3) := by decide +kernel
theorem dX3_mill_73 : decode cX3_mill 73 = .ok (.pop, 1) := by decide +kernel
theorem dX3_mill_74 : decode cX3_mill 74 = .ok (.iinc 2 1, 3) := by decide +kernel
theorem dX3_mill_77 : decode cX3_mill 77 = .ok (.goto (-39), 3) := by decide +kernel
theorem dX3_mill_80 : decode cX3_mill 80 = .ok (.bipush (-9), 2) := by decide +kernel
theorem dX3_mill_82 : decode cX3_mill 82 = .ok (.ireturn, 1) := by decide +kernel
theorem dX3_gains_0 : decode cX3_gains 0 = .ok (.iload_n 1, 1) := by decide +kernel
theorem dX3_gains_1 : decode cX3_gains 1 = .ok (.iconst 1, 1) := by decide +kernel
theorem dX3_gains_2 : decode cX3_gains 2 = .ok (.if_icmp .lt 9, 3) := by decide +kernel
theorem dX3_gains_5 : decode cX3_gains 5 = .ok (.iload_n 1, 1) := by decide +kernel
theorem dX3_gains_6 : decode cX3_gains 6 = .ok (.bipush 40, 2) := by decide +kernel
theorem dX3_gains_8 : decode cX3_gains 8 = .ok (.if_icmp .le 5, 3) := by decide +kernel
theorem dX3_gains_11 : decode cX3_gains 11 = .ok (.iconst (-1), 1) := by decide +kernel
theorem dX3_gains_12 : decode cX3_gains 12 = .ok (.ireturn, 1) := by decide +kernel
theorem dX3_gains_13 : decode cX3_gains 13 = .ok (.aload_n 0, 1) := by decide +kernel
theorem dX3_gains_14 : decode cX3_gains 14 = .ok (.invokevirtual 150, 3) := by decide +kernel
theorem dX3_gains_17 : decode cX3_gains 17 = .ok (.ifCond .eq 6, 3) := by decide +kernel
theorem dX3_gains_20 : decode cX3_gains 20 = .ok (.bipush (-4), 2) := by decide +kernel
theorem dX3_gains_22 : decode cX3_gains 22 = .ok (.ireturn, 1) := by decide +kernel
theorem dX3_gains_23 : decode cX3_gains 23 = .ok (.iconst 0, 1) := by decide +kernel
theorem dX3_gains_24 : decode cX3_gains 24 = .ok (.istore_n 2, 1) := by decide +kernel
theorem dX3_gains_25 : decode cX3_gains 25 = .ok (.iconst 0, 1) := by decide +kernel
theorem dX3_gains_26 : decode cX3_gains 26 = .ok (.istore_n 3, 1) := by decide +kernel
theorem dX3_gains_27 : decode cX3_gains 27 = .ok (.iload_n 3, 1) := by decide +kernel
theorem dX3_gains_28 : decode cX3_gains 28 = .ok (.aload_n 0, 1) := by decide +kernel
theorem dX3_gains_29 : decode cX3_gains 29 = .ok (.getfield 24, 3) := by decide +kernel
theorem dX3_gains_32 : decode cX3_gains 32 = .ok (.getfield 113, 3) := by decide +kernel
theorem dX3_gains_35 : decode cX3_gains 35 = .ok (.getfield 116, 3) := by decide +kernel
theorem dX3_gains_38 : decode cX3_gains 38 = .ok (.if_icmp .ge 48, 3) := by decide +kernel
theorem dX3_gains_41 : decode cX3_gains 41 = .ok (.aload_n 0, 1) := by decide +kernel
theorem dX3_gains_42 : decode cX3_gains 42 = .ok (.getfield 24, 3) := by decide +kernel
theorem dX3_gains_45 : decode cX3_gains 45 = .ok (.getfield 113, 3) := by decide +kernel
theorem dX3_gains_48 : decode cX3_gains 48 = .ok (.getfield 170, 3) := by decide +kernel
theorem dX3_gains_51 : decode cX3_gains 51 = .ok (.iload_n 3, 1) := by decide +kernel
theorem dX3_gains_52 : decode cX3_gains 52 = .ok (.iaload, 1) := by decide +kernel
theorem dX3_gains_53 : decode cX3_gains 53 = .ok (.iconst 3, 1) := by decide +kernel
theorem dX3_gains_54 : decode cX3_gains 54 = .ok (.if_icmp .ge 26, 3) := by decide +kernel
theorem dX3_gains_57 : decode cX3_gains 57 = .ok (.aload_n 0, 1) := by decide +kernel
theorem dX3_gains_58 : decode cX3_gains 58 = .ok (.iload_n 3, 1) := by decide +kernel
theorem dX3_gains_59 : decode cX3_gains 59 = .ok (.iconst 1, 1) := by decide +kernel
theorem dX3_gains_60 : decode cX3_gains 60 = .ok (.iload_n 1, 1) := by decide +kernel
theorem dX3_gains_61 : decode cX3_gains 61 = .ok (.invokevirtual 215, 3) := by decide +kernel
theorem dX3_gains_64 : decode cX3_gains 64 = .ok (.aload_n 0, 1) := by decide +kernel
theorem dX3_gains_65 : decode cX3_gains 65 = .ok (.iload_n 3, 1) := by decide +kernel
theorem dX3_gains_66 : decode cX3_gains 66 = .ok (.iconst 0, 1) := by decide +kernel
theorem dX3_gains_67 : decode cX3_gains 67 = .ok (.iload_n 1, 1) := by decide +kernel
theorem dX3_gains_68 : decode cX3_gains 68 = .ok (.invokevirtual 215, 3) := by decide +kernel
theorem dX3_gains_71 : decode cX3_gains 71 = .ok (.if_icmp .le 9, 3) := by decide +kernel
theorem dX3_gains_74 : decode cX3_gains 74 = .ok (.iload_n 2, 1) := by decide +kernel
theorem dX3_gains_75 : decode cX3_gains 75 = .ok (.iconst 1, 1) := by decide +kernel
theorem dX3_gains_76 : decode cX3_gains 76 = .ok (.iload_n 3, 1) := by decide +kernel
theorem dX3_gains_77 : decode cX3_gains 77 = .ok (.ishl, 1) := by decide +kernel
theorem dX3_gains_78 : decode cX3_gains 78 = .ok (.ior, 1) := by decide +kernel
theorem dX3_gains_79 : decode cX3_gains 79 = .ok (.istore_n 2, 1) := by decide +kernel
theorem dX3_gains_80 : decode cX3_gains 80 = .ok (.iinc 3 1, 3) := by decide +kernel
theorem dX3_gains_83 : decode cX3_gains 83 = .ok (.goto (-56), 3) := by decide +kernel
theorem dX3_gains_86 : decode cX3_gains 86 = .ok (.iload_n 2, 1) := by decide +kernel
theorem dX3_gains_87 : decode cX3_gains 87 = .ok (.ireturn, 1) := by decide +kernel
theorem dX3_even_0 : decode cX3_even 0 = .ok (.aload_n 0, 1) := by decide +kernel
theorem dX3_even_1 : decode cX3_even 1 = .ok (.iload_n 1, 1) := by decide +kernel
theorem dX3_even_2 : decode cX3_even 2 = .ok (.iload_n 2, 1) := by decide +kernel
theorem dX3_even_3 : decode cX3_even 3 = .ok (.invokevirtual 173, 3) := by decide +kernel
theorem dX3_even_6 : decode cX3_even 6 = .ok (.ifCond .eq 21, 3) := by decide +kernel
theorem dX3_even_9 : decode cX3_even 9 = .ok (.iload_n 3, 1) := by decide +kernel
theorem dX3_even_10 : decode cX3_even 10 = .ok (.ifCond .lt 17, 3) := by decide +kernel
theorem dX3_even_13 : decode cX3_even 13 = .ok (.iload_n 3, 1) := by decide +kernel
theorem dX3_even_14 : decode cX3_even 14 = .ok (.bipush 20, 2) := by decide +kernel
theorem dX3_even_16 : decode cX3_even 16 = .ok (.if_icmp .gt 11, 3) := by decide +kernel
theorem dX3_even_19 : decode cX3_even 19 = .ok (.iload 4, 2) := by decide +kernel
theorem dX3_even_21 : decode cX3_even 21 = .ok (.invokestatic 59, 3) := by decide +kernel
theorem dX3_even_24 : decode cX3_even 24 = .ok (.ifCond .ne 5, 3) := by decide +kernel
theorem dX3_even_27 : decode cX3_even 27 = .ok (.iconst (-1), 1) := by decide +kernel
theorem dX3_even_28 : decode cX3_even 28 = .ok (.ireturn, 1) := by decide +kernel
theorem dX3_even_29 : decode cX3_even 29 = .ok (.aload_n 0, 1) := by decide +kernel
theorem dX3_even_30 : decode cX3_even 30 = .ok (.getfield 24, 3) := by decide +kernel
theorem dX3_even_33 : decode cX3_even 33 = .ok (.getfield 113, 3) := by decide +kernel
