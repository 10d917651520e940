theorem dX3_even_36 : decode cX3_even 36 = .ok (.getfield 116, 3) := by decide +kernel
theorem dX3_even_39 : decode cX3_even 39 = .ok (.istore 5, 2) := by decide +kernel
theorem dX3_even_41 : decode cX3_even 41 = .ok (.iconst 1, 1) := by decide +kernel
theorem dX3_even_42 : decode cX3_even 42 = .ok (.iconst 2, 1) := by decide +kernel
theorem dX3_even_43 : decode cX3_even 43 = .ok (.iload 5, 2) := by decide +kernel
theorem dX3_even_45 : decode cX3_even 45 = .ok (.imul, 1) := by decide +kernel
theorem dX3_even_46 : decode cX3_even 46 = .ok (.ishl, 1) := by decide +kernel
theorem dX3_even_47 : decode cX3_even 47 = .ok (.istore 6, 2) := by decide +kernel
theorem dX3_even_49 : decode cX3_even 49 = .ok (.iconst 0, 1) := by decide +kernel
theorem dX3_even_50 : decode cX3_even 50 = .ok (.istore 7, 2) := by decide +kernel
theorem dX3_even_52 : decode cX3_even 52 = .ok (.iload 7, 2) := by decide +kernel
theorem dX3_even_54 : decode cX3_even 54 = .ok (.iload 5, 2) := by decide +kernel
theorem dX3_even_56 : decode cX3_even 56 = .ok (.if_icmp .gt 59, 3) := by decide +kernel
theorem dX3_even_59 : decode cX3_even 59 = .ok (.iconst 0, 1) := by decide +kernel
theorem dX3_even_60 : decode cX3_even 60 = .ok (.istore 8, 2) := by decide +kernel
theorem dX3_even_62 : decode cX3_even 62 = .ok (.iload 8, 2) := by decide +kernel
theorem dX3_even_64 : decode cX3_even 64 = .ok (.iload 6, 2) := by decide +kernel
theorem dX3_even_66 : decode cX3_even 66 = .ok (.if_icmp .ge 43, 3) := by decide +kernel
theorem dX3_even_69 : decode cX3_even 69 = .ok (.aload_n 0, 1) := by decide +kernel
theorem dX3_even_70 : decode cX3_even 70 = .ok (.iload 8, 2) := by decide +kernel
theorem dX3_even_72 : decode cX3_even 72 = .ok (.invokevirtual 219, 3) := by decide +kernel
theorem dX3_even_75 : decode cX3_even 75 = .ok (.iload 7, 2) := by decide +kernel
theorem dX3_even_77 : decode cX3_even 77 = .ok (.if_icmp .ne 26, 3) := by decide +kernel
theorem dX3_even_80 : decode cX3_even 80 = .ok (.aload_n 0, 1) := by decide +kernel
theorem dX3_even_81 : decode cX3_even 81 = .ok (.iload 8, 2) := by decide +kernel
theorem dX3_even_83 : decode cX3_even 83 = .ok (.iload_n 1, 1) := by decide +kernel
theorem dX3_even_84 : decode cX3_even 84 = .ok (.iload_n 2, 1) := by decide +kernel
theorem dX3_even_85 : decode cX3_even 85 = .ok (.iload_n 3, 1) := by decide +kernel
theorem dX3_even_86 : decode cX3_even 86 = .ok (.invokevirtual 222, 3) := by decide +kernel
theorem dX3_even_89 : decode cX3_even 89 = .ok (.ifCond .eq 14, 3) := by decide +kernel
theorem dX3_even_92 : decode cX3_even 92 = .ok (.aload_n 0, 1) := by decide +kernel
theorem dX3_even_93 : decode cX3_even 93 = .ok (.iload 4, 2) := by decide +kernel
theorem dX3_even_95 : decode cX3_even 95 = .ok (.iload 8, 2) := by decide +kernel
theorem dX3_even_97 : decode cX3_even 97 = .ok (.invokevirtual 226, 3) := by decide +kernel
theorem dX3_even_100 : decode cX3_even 100 = .ok (.iload 7, 2) := by decide +kernel
theorem dX3_even_102 : decode cX3_even 102 = .ok (.ireturn, 1) := by decide +kernel
theorem dX3_even_103 : decode cX3_even 103 = .ok (.iinc 8 1, 3) := by decide +kernel
theorem dX3_even_106 : decode cX3_even 106 = .ok (.goto (-44), 3) := by decide +kernel
theorem dX3_even_109 : decode cX3_even 109 = .ok (.iinc 7 1, 3) := by decide +kernel
theorem dX3_even_112 : decode cX3_even 112 = .ok (.goto (-60), 3) := by decide +kernel
theorem dX3_even_115 : decode cX3_even 115 = .ok (.bipush (-9), 2) := by decide +kernel
theorem dX3_even_117 : decode cX3_even 117 = .ok (.ireturn, 1) := by decide +kernel
theorem dX3_change_0 : decode cX3_change 0 = .ok (.iload_n 1, 1) := by decide +kernel
theorem dX3_change_1 : decode cX3_change 1 = .ok (.iconst 1, 1) := by decide +kernel
theorem dX3_change_2 : decode cX3_change 2 = .ok (.if_icmp .lt 9, 3) := by decide +kernel
theorem dX3_change_5 : decode cX3_change 5 = .ok (.iload_n 1, 1) := by decide +kernel
theorem dX3_change_6 : decode cX3_change 6 = .ok (.bipush 20, 2) := by decide +kernel
theorem dX3_change_8 : decode cX3_change 8 = .ok (.if_icmp .le 5, 3) := by decide +kernel
theorem dX3_change_11 : decode cX3_change 11 = .ok (.iconst (-1), 1) := by decide +kernel
theorem dX3_change_12 : decode cX3_change 12 = .ok (.ireturn, 1) := by decide +kernel
theorem dX3_change_13 : decode cX3_change 13 = .ok (.aload_n 0, 1) := by decide +kernel
theorem dX3_change_14 : decode cX3_change 14 = .ok (.invokevirtual 150, 3) := by decide +kernel
theorem dX3_change_17 : decode cX3_change 17 = .ok (.ifCond .eq 6, 3) := by decide +kernel
theorem dX3_change_20 : decode cX3_change 20 = .ok (.bipush (-4), 2) := by decide +kernel
theorem dX3_change_22 : decode cX3_change 22 = .ok (.ireturn, 1) := by decide +kernel
theorem dX3_change_23 : decode cX3_change 23 = .ok (.aload_n 0, 1) := by decide +kernel
theorem dX3_change_24 : decode cX3_change 24 = .ok (.getfield 24, 3) := by decide +kernel
theorem dX3_change_27 : decode cX3_change 27 = .ok (.getfield 113, 3) := by decide +kernel
theorem dX3_change_30 : decode cX3_change 30 = .ok (.getfield 116, 3) := by decide +kernel
theorem dX3_change_33 : decode cX3_change 33 = .ok (.istore_n 2, 1) := by decide +kernel
theorem dX3_change_34 : decode cX3_change 34 = .ok (.aload_n 0, 1) := by decide +kernel
theorem dX3_change_35 : decode cX3_change 35 = .ok (.iconst 0, 1) := by decide +kernel
theorem dX3_change_36 : decode cX3_change 36 = .ok (.iconst 0, 1) := by decide +kernel
theorem dX3_change_37 : decode cX3_change 37 = .ok (.iload_n 1, 1) := by decide +kernel
theorem dX3_change_38 : decode cX3_change 38 = .ok (.invokevirtual 229, 3) := by decide +kernel
theorem dX3_change_41 : decode cX3_change 41 = .ok (.istore_n 3, 1) := by decide +kernel
theorem dX3_change_42 : decode cX3_change 42 = .ok (.bipush (-9), 2) := by decide +kernel
theorem dX3_change_44 : decode cX3_change 44 = .ok (.istore 4, 2) := by decide +kernel
theorem dX3_change_46 : decode cX3_change 46 = .ok (.iconst 0, 1) := by decide +kernel
theorem dX3_change_47 : decode cX3_change 47 = .ok (.istore 5, 2) := by decide +kernel
theorem dX3_change_49 : decode cX3_change 49 = .ok (.iload 5, 2) := by decide +kernel
theorem dX3_change_51 : decode cX3_change 51 = .ok (.iload_n 2, 1) := by decide +kernel
theorem dX3_change_52 : decode cX3_change 52 = .ok (.if_icmp .ge 57, 3) := by decide +kernel
theorem dX3_change_55 : decode cX3_change 55 = .ok (.iload 5, 2) := by decide +kernel
theorem dX3_change_57 : decode cX3_change 57 = .ok (.iconst 1, 1) := by decide +kernel
theorem dX3_change_58 : decode cX3_change 58 = .ok (.iadd, 1) := by decide +kernel
theorem dX3_change_59 : decode cX3_change 59 = .ok (.istore 6, 2) := by decide +kernel
theorem dX3_change_61 : decode cX3_change 61 = .ok (.iload 6, 2) := by decide +kernel
theorem dX3_change_63 : decode cX3_change 63 = .ok (.iload_n 2, 1) := by decide +kernel
theorem dX3_change_64 : decode cX3_change 64 = .ok (.if_icmp .ge 39, 3) := by decide +kernel
theorem dX3_change_67 : decode cX3_change 67 = .ok (.aload_n 0, 1) := by decide +kernel
theorem dX3_change_68 : decode cX3_change 68 = .ok (.iload 5, 2) := by decide +kernel
theorem dX3_change_70 : decode cX3_change 70 = .ok (.iload 6, 2) := by decide +kernel
theorem dX3_change_72 : decode cX3_change 72 = .ok (.iload_n 1, 1) := by decide +kernel
theorem dX3_change_73 : decode cX3_change 73 = .ok (.invokevirtual 229, 3) := by decide +kernel
theorem dX3_change_76 : decode cX3_change 76 = .ok (.istore 7, 2) := by decide +kernel
theorem dX3_change_78 : decode cX3_change 78 = .ok (.iload 7, 2) := by decide +kernel
theorem dX3_change_80 : decode cX3_change 80 = .ok (.iload_n 3, 1) := by decide +kernel
theorem dX3_change_81 : decode cX3_change 81 = .ok (.if_icmp .ge 16, 3) := by decide +kernel
theorem dX3_change_84 : decode cX3_change 84 = .ok (.iload 7, 2) := by decide +kernel
theorem dX3_change_86 : decode cX3_change 86 = .ok (.istore_n 3, 1) := by decide +kernel
theorem dX3_change_87 : decode cX3_change 87 = .ok (.bipush 10, 2) := by decide +kernel
theorem dX3_change_89 : decode cX3_change 89 = .ok (.iload 5, 2) := by decide +kernel
theorem dX3_change_91 : decode cX3_change 91 = .ok (.imul, 1) := by decide +kernel
theorem dX3_change_92 : decode cX3_change 92 = .ok (.iload 6, 2) := by decide +kernel
theorem dX3_change_94 : decode cX3_change 94 = .ok (.iadd, 1) := by decide +kernel
theorem dX3_change_95 : decode cX3_change 95 = .ok (.istore 4, 2) := by decide +kernel
theorem dX3_change_97 : decode cX3_change 97 = .ok (.iinc 6 1, 3) := by decide +kernel
theorem dX3_change_100 : decode cX3_change 100 = .ok (.goto (-39), 3) := by decide +kernel
theorem dX3_change_103 : decode cX3_change 103 = .ok (.iinc 5 1, 3) := by decide +kernel
theorem dX3_change_106 : decode cX3_change 106 = .ok (.goto (-57), 3) := by decide +kernel
theorem dX3_change_109 : decode cX3_change 109 = .ok (.iload 4, 2) := by decide +kernel
theorem dX3_change_111 : decode cX3_change 111 = .ok (.bipush (-9), 2) := by decide +kernel
theorem dX3_change_113 : decode cX3_change 113 = .ok (.if_icmp .ne 8, 3) := by decide +kernel
theorem dX3_change_116 : decode cX3_change 116 = .ok (.bipush (-9), 2) := by decide +kernel
theorem dX3_change_118 : decode cX3_change 118 = .ok (.goto 10, 3) := by decide +kernel
theorem dX3_change_121 : decode cX3_change 121 = .ok (.aload_n 0, 1) := by decide +kernel
theorem dX3_change_122 : decode cX3_change 122 = .ok (.iload_n 3, 1) := by decide +kernel
theorem dX3_change_123 : decode cX3_change 123 = .ok (.iload 4, 2) := by decide +kernel
theorem dX3_change_125 : decode cX3_change 125 = .ok (.invokevirtual 79, 3) := by decide +kernel
theorem dX3_change_128 : decode cX3_change 128 = .ok (.ireturn, 1) := by decide +kernel
theorem dX3_looks_0 : decode cX3_looks 0 = .ok (.aload_n 0, 1) := by decide +kernel
theorem dX3_looks_1 : decode cX3_looks 1 = .ok (.iload_n 1, 1) := by decide +kernel
theorem dX3_looks_2 : decode cX3_looks 2 = .ok (.iload_n 2, 1) := by decide +kernel
theorem dX3_looks_3 : decode cX3_looks 3 = .ok (.invokevirtual 232, 3) := by decide +kernel
theorem dX3_looks_6 : decode cX3_looks 6 = .ok (.istore_n 3, 1) := by decide +kernel
theorem dX3_looks_7 : decode cX3_looks 7 = .ok (.iload_n 3, 1) := by decide +kernel
theorem dX3_looks_8 : decode cX3_looks 8 = .ok (.ifCond .eq 5, 3) := by decide +kernel
theorem dX3_looks_11 : decode cX3_looks 11 = .ok (.iload_n 3, 1) := by decide +kernel
theorem dX3_looks_12 : decode cX3_looks 12 = .ok (.ireturn, 1) := by decide +kernel
theorem dX3_looks_13 : decode cX3_looks 13 = .ok (.iconst 0, 1) := by decide +kernel
theorem dX3_looks_14 : decode cX3_looks 14 = .ok (.istore 4, 2) := by decide +kernel
theorem dX3_looks_16 : decode cX3_looks 16 = .ok (.iconst 0, 1) := by decide +kernel
theorem dX3_looks_17 : decode cX3_looks 17 = .ok (.istore 5, 2) := by decide +kernel
theorem dX3_looks_19 : decode cX3_looks 19 = .ok (.iload 5, 2) := by decide +kernel
theorem dX3_looks_21 : decode cX3_looks 21 = .ok (.bipush 9, 2) := by decide +kernel
theorem dX3_looks_23 : decode cX3_looks 23 = .ok (.if_icmp .gt 52, 3) := by decide +kernel
theorem dX3_looks_26 : decode cX3_looks 26 = .ok (.aload_n 0, 1) := by decide +kernel
theorem dX3_looks_27 : decode cX3_looks 27 = .ok (.iload_n 2, 1) := by decide +kernel
theorem dX3_looks_28 : decode cX3_looks 28 = .ok (.aload_n 0, 1) := by decide +kernel
theorem dX3_looks_29 : decode cX3_looks 29 = .ok (.getfield 24, 3) := by decide +kernel
theorem dX3_looks_32 : decode cX3_looks 32 = .ok (.getfield 113, 3) := by decide +kernel
theorem dX3_looks_35 : decode cX3_looks 35 = .ok (.getfield 125, 3) := by decide +kernel
theorem dX3_looks_38 : decode cX3_looks 38 = .ok (.iload_n 1, 1) := by decide +kernel
theorem dX3_looks_39 : decode cX3_looks 39 = .ok (.iaload, 1) := by decide +kernel
theorem dX3_looks_40 : decode cX3_looks 40 = .ok (.iload 5, 2) := by decide +kernel
theorem dX3_looks_42 : decode cX3_looks 42 = .ok (.aload_n 0, 1) := by decide +kernel
theorem dX3_looks_43 : decode cX3_looks 43 = .ok (.getfield 24, 3) := by decide +kernel
theorem dX3_looks_46 : decode cX3_looks 46 = .ok (.getfield 113, 3) := by decide +kernel
theorem dX3_looks_49 : decode cX3_looks 49 = .ok (.getfield 170, 3) := by decide +kernel
theorem dX3_looks_52 : decode cX3_looks 52 = .ok (.iload_n 1, 1) := by decide +kernel
theorem dX3_looks_53 : decode cX3_looks 53 = .ok (.iaload, 1) := by decide +kernel
theorem dX3_looks_54 : decode cX3_looks 54 = .ok (.invokevirtual 235, 3) := by decide +kernel
theorem dX3_looks_57 : decode cX3_looks 57 = .ok (.ifCond .eq 12, 3) := by decide +kernel
theorem dX3_looks_60 : decode cX3_looks 60 = .ok (.iload 4, 2) := by decide +kernel
theorem dX3_looks_62 : decode cX3_looks 62 = .ok (.iconst 1, 1) := by decide +kernel
theorem dX3_looks_63 : decode cX3_looks 63 = .ok (.iload 5, 2) := by decide +kernel
theorem dX3_looks_65 : decode cX3_looks 65 = .ok (.ishl, 1) := by decide +kernel
theorem dX3_looks_66 : decode cX3_looks 66 = .ok (.ior, 1) := by decide +kernel
theorem dX3_looks_67 : decode cX3_looks 67 = .ok (.istore 4, 2) := by decide +kernel
theorem dX3_looks_69 : decode cX3_looks 69 = .ok (.iinc 5 1, 3) := by decide +kernel
theorem dX3_looks_72 : decode cX3_looks 72 = .ok (.goto (-53), 3) := by decide +kernel
theorem dX3_looks_75 : decode cX3_looks 75 = .ok (.iload 4, 2) := by decide +kernel
theorem dX3_looks_77 : decode cX3_looks 77 = .ok (.ireturn, 1) := by decide +kernel
theorem dX3_kinds_0 : decode cX3_kinds 0 = .ok (.aload_n 0, 1) := by decide +kernel
theorem dX3_kinds_1 : decode cX3_kinds 1 = .ok (.iload_n 1, 1) := by decide +kernel
theorem dX3_kinds_2 : decode cX3_kinds 2 = .ok (.iload_n 2, 1) := by decide +kernel
theorem dX3_kinds_3 : decode cX3_kinds 3 = .ok (.invokevirtual 232, 3) := by decide +kernel
theorem dX3_kinds_6 : decode cX3_kinds 6 = .ok (.istore_n 3, 1) := by decide +kernel
theorem dX3_kinds_7 : decode cX3_kinds 7 = .ok (.iload_n 3, 1) := by decide +kernel
theorem dX3_kinds_8 : decode cX3_kinds 8 = .ok (.ifCond .eq 7, 3) := by decide +kernel
theorem dX3_kinds_11 : decode cX3_kinds 11 = .ok (.iload_n 3, 1) := by decide +kernel
theorem dX3_kinds_12 : decode cX3_kinds 12 = .ok (.goto 9, 3) := by decide +kernel
theorem dX3_kinds_15 : decode cX3_kinds 15 = .ok (.aload_n 0, 1) := by decide +kernel
theorem dX3_kinds_16 : decode cX3_kinds 16 = .ok (.iload_n 1, 1) := by decide +kernel
theorem dX3_kinds_17 : decode cX3_kinds 17 = .ok (.iload_n 2, 1) := by decide +kernel
theorem dX3_kinds_18 : decode cX3_kinds 18 = .ok (.invokevirtual 238, 3) := by decide +kernel
theorem dX3_kinds_21 : decode cX3_kinds 21 = .ok (.ireturn, 1) := by decide +kernel
theorem dX3_test_0 : decode cX3_test 0 = .ok (.aload_n 0, 1) := by decide +kernel
theorem dX3_test_1 : decode cX3_test 1 = .ok (.iload_n 1, 1) := by decide +kernel
theorem dX3_test_2 : decode cX3_test 2 = .ok (.iload_n 2, 1) := by decide +kernel
theorem dX3_test_3 : decode cX3_test 3 = .ok (.invokevirtual 232, 3) := by decide +kernel
theorem dX3_test_6 : decode cX3_test 6 = .ok (.istore_n 3, 1) := by decide +kernel
theorem dX3_test_7 : decode cX3_test 7 = .ok (.iload_n 3, 1) := by decide +kernel
theorem dX3_test_8 : decode cX3_test 8 = .ok (.ifCond .eq 5, 3) := by decide +kernel
theorem dX3_test_11 : decode cX3_test 11 = .ok (.iload_n 3, 1) := by decide +kernel
theorem dX3_test_12 : decode cX3_test 12 = .ok (.ireturn, 1) := by decide +kernel
theorem dX3_test_13 : decode cX3_test 13 = .ok (.aload_n 0, 1) := by decide +kernel
theorem dX3_test_14 : decode cX3_test 14 = .ok (.iload_n 1, 1) := by decide +kernel
theorem dX3_test_15 : decode cX3_test 15 = .ok (.iload_n 2, 1) := by decide +kernel
theorem dX3_test_16 : decode cX3_test 16 = .ok (.invokevirtual 238, 3) := by decide +kernel
theorem dX3_test_19 : decode cX3_test 19 = .ok (.istore 4, 2) := by decide +kernel
theorem dX3_test_21 : decode cX3_test 21 = .ok (.iload 4, 2) := by decide +kernel
theorem dX3_test_23 : decode cX3_test 23 = .ok (.ifCond .ne 6, 3) := by decide +kernel
theorem dX3_test_26 : decode cX3_test 26 = .ok (.bipush (-9), 2) := by decide +kernel
theorem dX3_test_28 : decode cX3_test 28 = .ok (.ireturn, 1) := by decide +kernel
theorem dX3_test_29 : decode cX3_test 29 = .ok (.iconst 0, 1) := by decide +kernel
theorem dX3_test_30 : decode cX3_test 30 = .ok (.istore 5, 2) := by decide +kernel
theorem dX3_test_32 : decode cX3_test 32 = .ok (.bipush 7, 2) := by decide +kernel
theorem dX3_test_34 : decode cX3_test 34 = .ok (.istore 6, 2) := by decide +kernel
theorem dX3_test_36 : decode cX3_test 36 = .ok (.iconst 0, 1) := by decide +kernel
theorem dX3_test_37 : decode cX3_test 37 = .ok (.istore 7, 2) := by decide +kernel
theorem dX3_test_39 : decode cX3_test 39 = .ok (.iload 7, 2) := by decide +kernel
theorem dX3_test_41 : decode cX3_test 41 = .ok (.bipush 99, 2) := by decide +kernel
theorem dX3_test_43 : decode cX3_test 43 = .ok (.if_icmp .gt 35, 3) := by decide +kernel
theorem dX3_test_46 : decode cX3_test 46 = .ok (.aload_n 0, 1) := by decide +kernel
theorem dX3_test_47 : decode cX3_test 47 = .ok (.iload_n 1, 1) := by decide +kernel
theorem dX3_test_48 : decode cX3_test 48 = .ok (.iload 4, 2) := by decide +kernel
theorem dX3_test_50 : decode cX3_test 50 = .ok (.iload 7, 2) := by decide +kernel
theorem dX3_test_52 : decode cX3_test 52 = .ok (.invokevirtual 241, 3) := by decide +kernel
theorem dX3_test_55 : decode cX3_test 55 = .ok (.istore 8, 2) := by decide +kernel
theorem dX3_test_57 : decode cX3_test 57 = .ok (.iload 8, 2) := by decide +kernel
theorem dX3_test_59 : decode cX3_test 59 = .ok (.iload 6, 2) := by decide +kernel
theorem dX3_test_61 : decode cX3_test 61 = .ok (.if_icmp .ge 11, 3) := by decide +kernel
theorem dX3_test_64 : decode cX3_test 64 = .ok (.iload 8, 2) := by decide +kernel
theorem dX3_test_66 : decode cX3_test 66 = .ok (.istore 6, 2) := by decide +kernel
theorem dX3_test_68 : decode cX3_test 68 = .ok (.iload 7, 2) := by decide +kernel
theorem dX3_test_70 : decode cX3_test 70 = .ok (.istore 5, 2) := by decide +kernel
theorem dX3_test_72 : decode cX3_test 72 = .ok (.iinc 7 1, 3) := by decide +kernel
theorem dX3_test_75 : decode cX3_test 75 = .ok (.goto (-36), 3) := by decide +kernel
theorem dX3_test_78 : decode cX3_test 78 = .ok (.aload_n 0, 1) := by decide +kernel
theorem dX3_test_79 : decode cX3_test 79 = .ok (.iload 6, 2) := by decide +kernel
theorem dX3_test_81 : decode cX3_test 81 = .ok (.iload 5, 2) := by decide +kernel
theorem dX3_test_83 : decode cX3_test 83 = .ok (.invokevirtual 79, 3) := by decide +kernel
theorem dX3_test_86 : decode cX3_test 86 = .ok (.ireturn, 1) := by decide +kernel
theorem dX3_duel_0 : decode cX3_duel 0 = .ok (.aload_n 0, 1) := by decide +kernel
theorem dX3_duel_1 : decode cX3_duel 1 = .ok (.iload_n 1, 1) := by decide +kernel
theorem dX3_duel_2 : decode cX3_duel 2 = .ok (.iload_n 2, 1) := by decide +kernel
theorem dX3_duel_3 : decode cX3_duel 3 = .ok (.invokevirtual 173, 3) := by decide +kernel
theorem dX3_duel_6 : decode cX3_duel 6 = .ok (.ifCond .eq 13, 3) := by decide +kernel
theorem dX3_duel_9 : decode cX3_duel 9 = .ok (.iload_n 3, 1) := by decide +kernel
theorem dX3_duel_10 : decode cX3_duel 10 = .ok (.ifCond .lt 9, 3) := by decide +kernel
theorem dX3_duel_13 : decode cX3_duel 13 = .ok (.iload_n 3, 1) := by decide +kernel
theorem dX3_duel_14 : decode cX3_duel 14 = .ok (.bipush 6, 2) := by decide +kernel
theorem dX3_duel_16 : decode cX3_duel 16 = .ok (.if_icmp .le 5, 3) := by decide +kernel
theorem dX3_duel_19 : decode cX3_duel 19 = .ok (.iconst (-1), 1) := by decide +kernel
theorem dX3_duel_20 : decode cX3_duel 20 = .ok (.ireturn, 1) := by decide +kernel
theorem dX3_duel_21 : decode cX3_duel 21 = .ok (.iconst 0, 1) := by decide +kernel
theorem dX3_duel_22 : decode cX3_duel 22 = .ok (.istore 4, 2) := by decide +kernel
theorem dX3_duel_24 : decode cX3_duel 24 = .ok (.iload 4, 2) := by decide +kernel
theorem dX3_duel_26 : decode cX3_duel 26 = .ok (.bipush 16, 2) := by decide +kernel
theorem dX3_duel_28 : decode cX3_duel 28 = .ok (.if_icmp .ge 24, 3) := by decide +kernel
theorem dX3_duel_31 : decode cX3_duel 31 = .ok (.aload_n 0, 1) := by decide +kernel
theorem dX3_duel_32 : decode cX3_duel 32 = .ok (.getfield 35, 3) := by decide +kernel
theorem dX3_duel_35 : decode cX3_duel 35 = .ok (.iload 4, 2) := by decide +kernel
theorem dX3_duel_37 : decode cX3_duel 37 = .ok (.aload_n 0, 1) := by decide +kernel
theorem dX3_duel_38 : decode cX3_duel 38 = .ok (.iload_n 1, 1) := by decide +kernel
theorem dX3_duel_39 : decode cX3_duel 39 = .ok (.iload_n 2, 1) := by decide +kernel
theorem dX3_duel_40 : decode cX3_duel 40 = .ok (.iload 4, 2) := by decide +kernel
theorem dX3_duel_42 : decode cX3_duel 42 = .ok (.invokevirtual 244, 3) := by decide +kernel
theorem dX3_duel_45 : decode cX3_duel 45 = .ok (.iastore, 1) := by decide +kernel
theorem dX3_duel_46 : decode cX3_duel 46 = .ok (.iinc 4 1, 3) := by decide +kernel
theorem dX3_duel_49 : decode cX3_duel 49 = .ok (.goto (-25), 3) := by decide +kernel
theorem dX3_duel_52 : decode cX3_duel 52 = .ok (.iload_n 3, 1) := by decide +kernel
theorem dX3_duel_53 : decode cX3_duel 53 = .ok (.iconst 1, 1) := by decide +kernel
theorem dX3_duel_54 : decode cX3_duel 54 = .ok (.isub, 1) := by decide +kernel
theorem dX3_duel_55 : decode cX3_duel 55 = .ok (.istore 4, 2) := by decide +kernel
theorem dX3_duel_57 : decode cX3_duel 57 = .ok (.iload 4, 2) := by decide +kernel
theorem dX3_duel_59 : decode cX3_duel 59 = .ok (.ifCond .lt 69, 3) := by decide +kernel
theorem dX3_duel_62 : decode cX3_duel 62 = .ok (.aload_n 0, 1) := by decide +kernel
theorem dX3_duel_63 : decode cX3_duel 63 = .ok (.getfield 35, 3) := by decide +kernel
theorem dX3_duel_66 : decode cX3_duel 66 = .ok (.iconst 0, 1) := by decide +kernel
theorem dX3_duel_67 : decode cX3_duel 67 = .ok (.aload_n 0, 1) := by decide +kernel
theorem dX3_duel_68 : decode cX3_duel 68 = .ok (.getfield 39, 3) := by decide +kernel
theorem dX3_duel_71 : decode cX3_duel 71 = .ok (.iconst 0, 1) := by decide +kernel
theorem dX3_duel_72 : decode cX3_duel 72 = .ok (.bipush 16, 2) := by decide +kernel
theorem dX3_duel_74 : decode cX3_duel 74 = .ok (.invokestatic 92, 3) := by decide +kernel
theorem dX3_duel_77 : decode cX3_duel 77 = .ok (.iconst 0, 1) := by decide +kernel
theorem dX3_duel_78 : decode cX3_duel 78 = .ok (.istore 5, 2) := by decide +kernel
theorem dX3_duel_80 : decode cX3_duel 80 = .ok (.iload 5, 2) := by decide +kernel
theorem dX3_duel_82 : decode cX3_duel 82 = .ok (.bipush 16, 2) := by decide +kernel
theorem dX3_duel_84 : decode cX3_duel 84 = .ok (.if_icmp .ge 38, 3) := by decide +kernel
theorem dX3_duel_87 : decode cX3_duel 87 = .ok (.aload_n 0, 1) := by decide +kernel
theorem dX3_duel_88 : decode cX3_duel 88 = .ok (.getfield 35, 3) := by decide +kernel
theorem dX3_duel_91 : decode cX3_duel 91 = .ok (.iload 5, 2) := by decide +kernel
theorem dX3_duel_93 : decode cX3_duel 93 = .ok (.iload 4, 2) := by decide +kernel
theorem dX3_duel_95 : decode cX3_duel 95 = .ok (.iconst 2, 1) := by decide +kernel
theorem dX3_duel_96 : decode cX3_duel 96 = .ok (.irem, 1) := by decide +kernel
theorem dX3_duel_97 : decode cX3_duel 97 = .ok (.ifCond .ne 12, 3) := by decide +kernel
theorem dX3_duel_100 : decode cX3_duel 100 = .ok (.aload_n 0, 1) := by decide +kernel
theorem dX3_duel_101 : decode cX3_duel 101 = .ok (.iload 5, 2) := by decide +kernel
theorem dX3_duel_103 : decode cX3_duel 103 = .ok (.invokevirtual 247, 3) := by decide +kernel
theorem dX3_duel_106 : decode cX3_duel 106 = .ok (.goto 9, 3) := by decide +kernel
theorem dX3_duel_109 : decode cX3_duel 109 = .ok (.aload_n 0, 1) := by decide +kernel
theorem dX3_duel_110 : decode cX3_duel 110 = .ok (.iload 5, 2) := by decide +kernel
theorem dX3_duel_112 : decode cX3_duel 112 = .ok (.invokevirtual 250, 3) := by decide +kernel
theorem dX3_duel_115 : decode cX3_duel 115 = .ok (.iastore, 1) := by decide +kernel
theorem dX3_duel_116 : decode cX3_duel 116 = .ok (.iinc 5 1, 3) := by decide +kernel
theorem dX3_duel_119 : decode cX3_duel 119 = .ok (.goto (-39), 3) := by decide +kernel
theorem dX3_duel_122 : decode cX3_duel 122 = .ok (.iinc 4 (-1), 3) := by decide +kernel
theorem dX3_duel_125 : decode cX3_duel 125 = .ok (.goto (-68), 3) := by decide +kernel
theorem dX3_duel_128 : decode cX3_duel 128 = .ok (.aload_n 0, 1) := by decide +kernel
theorem dX3_duel_129 : decode cX3_duel 129 = .ok (.getfield 35, 3) := by decide +kernel
theorem dX3_duel_132 : decode cX3_duel 132 = .ok (.aload_n 0, 1) := by decide +kernel
theorem dX3_duel_133 : decode cX3_duel 133 = .ok (.getfield 24, 3) := by decide +kernel
theorem dX3_duel_136 : decode cX3_duel 136 = .ok (.getfield 113, 3) := by decide +kernel
theorem dX3_duel_139 : decode cX3_duel 139 = .ok (.getfield 170, 3) := by decide +kernel
theorem dX3_duel_142 : decode cX3_duel 142 = .ok (.iload_n 1, 1) := by decide +kernel
theorem dX3_duel_143 : decode cX3_duel 143 = .ok (.iaload, 1) := by decide +kernel
theorem dX3_duel_144 : decode cX3_duel 144 = .ok (.aload_n 0, 1) := by decide +kernel
theorem dX3_duel_145 : decode cX3_duel 145 = .ok (.getfield 24, 3) := by decide +kernel
theorem dX3_duel_148 : decode cX3_duel 148 = .ok (.getfield 113, 3) := by decide +kernel
theorem dX3_duel_151 : decode cX3_duel 151 = .ok (.getfield 170, 3) := by decide +kernel
theorem dX3_duel_154 : decode cX3_duel 154 = .ok (.iload_n 2, 1) := by decide +kernel
theorem dX3_duel_155 : decode cX3_duel 155 = .ok (.iaload, 1) := by decide +kernel
theorem dX3_duel_156 : decode cX3_duel 156 = .ok (.invokestatic 253, 3) := by decide +kernel
theorem dX3_duel_159 : decode cX3_duel 159 = .ok (.iaload, 1) := by decide +kernel
theorem dX3_duel_160 : decode cX3_duel 160 = .ok (.bipush 100, 2) := by decide +kernel
theorem dX3_duel_162 : decode cX3_duel 162 = .ok (.iadd, 1) := by decide +kernel
theorem dX3_duel_163 : decode cX3_duel 163 = .ok (.ireturn, 1) := by decide +kernel
theorem dX3_odds_0 : decode cX3_odds 0 = .ok (.aload_n 0, 1) := by decide +kernel
theorem dX3_odds_1 : decode cX3_odds 1 = .ok (.iload_n 1, 1) := by decide +kernel
theorem dX3_odds_2 : decode cX3_odds 2 = .ok (.invokevirtual 119, 3) := by decide +kernel
theorem dX3_odds_5 : decode cX3_odds 5 = .ok (.ifCond .eq 23, 3) := by decide +kernel
theorem dX3_odds_8 : decode cX3_odds 8 = .ok (.iload_n 2, 1) := by decide +kernel
theorem dX3_odds_9 : decode cX3_odds 9 = .ok (.ifCond .lt 19, 3) := by decide +kernel
theorem dX3_odds_12 : decode cX3_odds 12 = .ok (.iload_n 2, 1) := by decide +kernel
theorem dX3_odds_13 : decode cX3_odds 13 = .ok (.bipush 40, 2) := by decide +kernel
theorem dX3_odds_15 : decode cX3_odds 15 = .ok (.if_icmp .gt 13, 3) := by decide +kernel
theorem dX3_odds_18 : decode cX3_odds 18 = .ok (.iload_n 3, 1) := by decide +kernel
theorem dX3_odds_19 : decode cX3_odds 19 = .ok (.ifCond .lt 9, 3) := by decide +kernel
theorem dX3_odds_22 : decode cX3_odds 22 = .ok (.iload_n 3, 1) := by decide +kernel
theorem dX3_odds_23 : decode cX3_odds 23 = .ok (.bipush 12, 2) := by decide +kernel
theorem dX3_odds_25 : decode cX3_odds 25 = .ok (.if_icmp .le 5, 3) := by decide +kernel
theorem dX3_odds_28 : decode cX3_odds 28 = .ok (.iconst (-1), 1) := by decide +kernel
theorem dX3_odds_29 : decode cX3_odds 29 = .ok (.ireturn, 1) := by decide +kernel
theorem dX3_odds_30 : decode cX3_odds 30 = .ok (.aload_n 0, 1) := by decide +kernel
theorem dX3_odds_31 : decode cX3_odds 31 = .ok (.getfield 24, 3) := by decide +kernel
theorem dX3_odds_34 : decode cX3_odds 34 = .ok (.getfield 113, 3) := by decide +kernel
theorem dX3_odds_37 : decode cX3_odds 37 = .ok (.invokevirtual 197, 3) := by decide +kernel
theorem dX3_odds_40 : decode cX3_odds 40 = .ok (.lconst 0, 1) := by decide +kernel
theorem dX3_odds_41 : decode cX3_odds 41 = .ok (.lstore 4, 2) := by decide +kernel
theorem dX3_odds_43 : decode cX3_odds 43 = .ok (.iconst 0, 1) := by decide +kernel
theorem dX3_odds_44 : decode cX3_odds 44 = .ok (.istore 6, 2) := by decide +kernel
theorem dX3_odds_46 : decode cX3_odds 46 = .ok (.iload 6, 2) := by decide +kernel
theorem dX3_odds_48 : decode cX3_odds 48 = .ok (.iconst 1, 1) := by decide +kernel
theorem dX3_odds_49 : decode cX3_odds 49 = .ok (.aload_n 0, 1) := by decide +kernel
theorem dX3_odds_50 : decode cX3_odds 50 = .ok (.getfield 24, 3) := by decide +kernel
theorem dX3_odds_53 : decode cX3_odds 53 = .ok (.getfield 113, 3) := by decide +kernel
theorem dX3_odds_56 : decode cX3_odds 56 = .ok (.getfield 116, 3) := by decide +kernel
theorem dX3_odds_59 : decode cX3_odds 59 = .ok (.ishl, 1) := by decide +kernel
theorem dX3_odds_60 : decode cX3_odds 60 = .ok (.if_icmp .ge 38, 3) := by decide +kernel
theorem dX3_odds_63 : decode cX3_odds 63 = .ok (.aload_n 0, 1) := by decide +kernel
theorem dX3_odds_64 : decode cX3_odds 64 = .ok (.getfield 24, 3) := by decide +kernel
theorem dX3_odds_67 : decode cX3_odds 67 = .ok (.getfield 113, 3) := by decide +kernel
theorem dX3_odds_70 : decode cX3_odds 70 = .ok (.iload 6, 2) := by decide +kernel
theorem dX3_odds_72 : decode cX3_odds 72 = .ok (.iload_n 1, 1) := by decide +kernel
theorem dX3_odds_73 : decode cX3_odds 73 = .ok (.invokevirtual 256, 3) := by decide +kernel
theorem dX3_odds_76 : decode cX3_odds 76 = .ok (.iload_n 2, 1) := by decide +kernel
theorem dX3_odds_77 : decode cX3_odds 77 = .ok (.if_icmp .lt 15, 3) := by decide +kernel
theorem dX3_odds_80 : decode cX3_odds 80 = .ok (.lload 4, 2) := by decide +kernel
theorem dX3_odds_82 : decode cX3_odds 82 = .ok (.aload_n 0, 1) := by decide +kernel
theorem dX3_odds_83 : decode cX3_odds 83 = .ok (.iload 6, 2) := by decide +kernel
theorem dX3_odds_85 : decode cX3_odds 85 = .ok (.iload_n 3, 1) := by decide +kernel
theorem dX3_odds_86 : decode cX3_odds 86 = .ok (.invokevirtual 259, 3) := by decide +kernel
theorem dX3_odds_89 : decode cX3_odds 89 = .ok (.ladd, 1) := by decide +kernel
theorem dX3_odds_90 : decode cX3_odds 90 = .ok (.lstore 4, 2) := by decide +kernel
theorem dX3_odds_92 : decode cX3_odds 92 = .ok (.iinc 6 1, 3) := by decide +kernel
theorem dX3_odds_95 : decode cX3_odds 95 = .ok (.goto (-49), 3) := by decide +kernel
theorem dX3_odds_98 : decode cX3_odds 98 = .ok (.aload_n 0, 1) := by decide +kernel
theorem dX3_odds_99 : decode cX3_odds 99 = .ok (.lload 4, 2) := by decide +kernel
theorem dX3_odds_101 : decode cX3_odds 101 = .ok (.invokevirtual 263, 3) := by decide +kernel
theorem dX3_odds_104 : decode cX3_odds 104 = .ok (.iconst 1, 1) := by decide +kernel
theorem dX3_odds_105 : decode cX3_odds 105 = .ok (.ireturn, 1) := by decide +kernel
theorem dX3_mid_0 : decode cX3_mid 0 = .ok (.iload_n 1, 1) := by decide +kernel
theorem dX3_mid_1 : decode cX3_mid 1 = .ok (.ifCond .lt 9, 3) := by decide +kernel
theorem dX3_mid_4 : decode cX3_mid 4 = .ok (.iload_n 1, 1) := by decide +kernel
theorem dX3_mid_5 : decode cX3_mid 5 = .ok (.bipush 12, 2) := by decide +kernel
theorem dX3_mid_7 : decode cX3_mid 7 = .ok (.if_icmp .le 5, 3) := by decide +kernel
theorem dX3_mid_10 : decode cX3_mid 10 = .ok (.iconst (-1), 1) := by decide +kernel
theorem dX3_mid_11 : decode cX3_mid 11 = .ok (.ireturn, 1) := by decide +kernel
theorem dX3_mid_12 : decode cX3_mid 12 = .ok (.aload_n 0, 1) := by decide +kernel
theorem dX3_mid_13 : decode cX3_mid 13 = .ok (.invokevirtual 150, 3) := by decide +kernel
theorem dX3_mid_16 : decode cX3_mid 16 = .ok (.ifCond .eq 6, 3) := by decide +kernel
theorem dX3_mid_19 : decode cX3_mid 19 = .ok (.bipush (-4), 2) := by decide +kernel
theorem dX3_mid_21 : decode cX3_mid 21 = .ok (.ireturn, 1) := by decide +kernel
theorem dX3_mid_22 : decode cX3_mid 22 = .ok (.aload_n 0, 1) := by decide +kernel
theorem dX3_mid_23 : decode cX3_mid 23 = .ok (.getfield 24, 3) := by decide +kernel
theorem dX3_mid_26 : decode cX3_mid 26 = .ok (.getfield 113, 3) := by decide +kernel
theorem dX3_mid_29 : decode cX3_mid 29 = .ok (.invokevirtual 197, 3) := by decide +kernel
theorem dX3_mid_32 : decode cX3_mid 32 = .ok (.lconst 0, 1) := by decide +kernel
theorem dX3_mid_33 : decode cX3_mid 33 = .ok (.lstore_n 2, 1) := by decide +kernel
theorem dX3_mid_34 : decode cX3_mid 34 = .ok (.iconst 0, 1) := by decide +kernel
theorem dX3_mid_35 : decode cX3_mid 35 = .ok (.istore 4, 2) := by decide +kernel
theorem dX3_mid_37 : decode cX3_mid 37 = .ok (.iload 4, 2) := by decide +kernel
theorem dX3_mid_39 : decode cX3_mid 39 = .ok (.iconst 1, 1) := by decide +kernel
theorem dX3_mid_40 : decode cX3_mid 40 = .ok (.aload_n 0, 1) := by decide +kernel
theorem dX3_mid_41 : decode cX3_mid 41 = .ok (.getfield 24, 3) := by decide +kernel
theorem dX3_mid_44 : decode cX3_mid 44 = .ok (.getfield 113, 3) := by decide +kernel
theorem dX3_mid_47 : decode cX3_mid 47 = .ok (.getfield 116, 3) := by decide +kernel
theorem dX3_mid_50 : decode cX3_mid 50 = .ok (.ishl, 1) := by decide +kernel
theorem dX3_mid_51 : decode cX3_mid 51 = .ok (.if_icmp .ge 27, 3) := by decide +kernel
theorem dX3_mid_54 : decode cX3_mid 54 = .ok (.lload_n 2, 1) := by decide +kernel
theorem dX3_mid_55 : decode cX3_mid 55 = .ok (.aload_n 0, 1) := by decide +kernel
theorem dX3_mid_56 : decode cX3_mid 56 = .ok (.iload 4, 2) := by decide +kernel
theorem dX3_mid_58 : decode cX3_mid 58 = .ok (.iload_n 1, 1) := by decide +kernel
theorem dX3_mid_59 : decode cX3_mid 59 = .ok (.invokevirtual 259, 3) := by decide +kernel
theorem dX3_mid_62 : decode cX3_mid 62 = .ok (.aload_n 0, 1) := by decide +kernel
theorem dX3_mid_63 : decode cX3_mid 63 = .ok (.iload 4, 2) := by decide +kernel
theorem dX3_mid_65 : decode cX3_mid 65 = .ok (.invokevirtual 267, 3) := by decide +kernel
theorem dX3_mid_68 : decode cX3_mid 68 = .ok (.i2l, 1) := by decide +kernel
theorem dX3_mid_69 : decode cX3_mid 69 = .ok (.lmul, 1) := by decide +kernel
theorem dX3_mid_70 : decode cX3_mid 70 = .ok (.ladd, 1) := by decide +kernel
theorem dX3_mid_71 : decode cX3_mid 71 = .ok (.lstore_n 2, 1) := by decide +kernel
theorem dX3_mid_72 : decode cX3_mid 72 = .ok (.iinc 4 1, 3) := by decide +kernel
theorem dX3_mid_75 : decode cX3_mid 75 = .ok (.goto (-38), 3) := by decide +kernel
theorem dX3_mid_78 : decode cX3_mid 78 = .ok (.aload_n 0, 1) := by decide +kernel
theorem dX3_mid_79 : decode cX3_mid 79 = .ok (.lload_n 2, 1) := by decide +kernel
theorem dX3_mid_80 : decode cX3_mid 80 = .ok (.invokevirtual 263, 3) := by decide +kernel
theorem dX3_mid_83 : decode cX3_mid 83 = .ok (.iconst 1, 1) := by decide +kernel
theorem dX3_mid_84 : decode cX3_mid 84 = .ok (.ireturn, 1) := by decide +kernel
theorem dX3_lots_0 : decode cX3_lots 0 = .ok (.iload_n 1, 1) := by decide +kernel
theorem dX3_lots_1 : decode cX3_lots 1 = .ok (.iconst 1, 1) := by decide +kernel
theorem dX3_lots_2 : decode cX3_lots 2 = .ok (.if_icmp .lt 21, 3) := by decide +kernel
theorem dX3_lots_5 : decode cX3_lots 5 = .ok (.iload_n 1, 1) := by decide +kernel
theorem dX3_lots_6 : decode cX3_lots 6 = .ok (.bipush 20, 2) := by decide +kernel
theorem dX3_lots_8 : decode cX3_lots 8 = .ok (.if_icmp .gt 15, 3) := by decide +kernel
theorem dX3_lots_11 : decode cX3_lots 11 = .ok (.iload_n 2, 1) := by decide +kernel
theorem dX3_lots_12 : decode cX3_lots 12 = .ok (.iconst 1, 1) := by decide +kernel
theorem dX3_lots_13 : decode cX3_lots 13 = .ok (.if_icmp .lt 10, 3) := by decide +kernel
theorem dX3_lots_16 : decode cX3_lots 16 = .ok (.iload_n 2, 1) := by decide +kernel
theorem dX3_lots_17 : decode cX3_lots 17 = .ok (.ldc_w 270, 3) := by decide +kernel
theorem dX3_lots_20 : decode cX3_lots 20 = .ok (.if_icmp .lt 5, 3) := by decide +kernel
theorem dX3_lots_23 : decode cX3_lots 23 = .ok (.iconst (-1), 1) := by decide +kernel
theorem dX3_lots_24 : decode cX3_lots 24 = .ok (.ireturn, 1) := by decide +kernel
theorem dX3_lots_25 : decode cX3_lots 25 = .ok (.aload_n 0, 1) := by decide +kernel
theorem dX3_lots_26 : decode cX3_lots 26 = .ok (.invokevirtual 150, 3) := by decide +kernel
theorem dX3_lots_29 : decode cX3_lots 29 = .ok (.ifCond .eq 6, 3) := by decide +kernel
theorem dX3_lots_32 : decode cX3_lots 32 = .ok (.bipush (-4), 2) := by decide +kernel
theorem dX3_lots_34 : decode cX3_lots 34 = .ok (.ireturn, 1) := by decide +kernel
theorem dX3_lots_35 : decode cX3_lots 35 = .ok (.aload_n 0, 1) := by decide +kernel
theorem dX3_lots_36 : decode cX3_lots 36 = .ok (.getfield 24, 3) := by decide +kernel
theorem dX3_lots_39 : decode cX3_lots 39 = .ok (.iload_n 1, 1) := by decide +kernel
theorem dX3_lots_40 : decode cX3_lots 40 = .ok (.invokevirtual 157, 3) := by decide +kernel
theorem dX3_lots_43 : decode cX3_lots 43 = .ok (.ifCond .eq 6, 3) := by decide +kernel
theorem dX3_lots_46 : decode cX3_lots 46 = .ok (.bipush (-2), 2) := by decide +kernel
theorem dX3_lots_48 : decode cX3_lots 48 = .ok (.ireturn, 1) := by decide +kernel
theorem dX3_lots_49 : decode cX3_lots 49 = .ok (.iload_n 2, 1) := by decide +kernel
theorem dX3_lots_50 : decode cX3_lots 50 = .ok (.i2l, 1) := by decide +kernel
theorem dX3_lots_51 : decode cX3_lots 51 = .ok (.lstore_n 3, 1) := by decide +kernel
theorem dX3_lots_52 : decode cX3_lots 52 = .ok (.iconst 0, 1) := by decide +kernel
theorem dX3_lots_53 : decode cX3_lots 53 = .ok (.istore 5, 2) := by decide +kernel
theorem dX3_lots_55 : decode cX3_lots 55 = .ok (.iload 5, 2) := by decide +kernel
theorem dX3_lots_57 : decode cX3_lots 57 = .ok (.iload_n 1, 1) := by decide +kernel
theorem dX3_lots_58 : decode cX3_lots 58 = .ok (.if_icmp .ge 32, 3) := by decide +kernel
theorem dX3_lots_61 : decode cX3_lots 61 = .ok (.lload_n 3, 1) := by decide +kernel
theorem dX3_lots_62 : decode cX3_lots 62 = .ok (.ldc2_w 271, 3) := by decide +kernel
theorem dX3_lots_65 : decode cX3_lots 65 = .ok (.lmul, 1) := by decide +kernel
theorem dX3_lots_66 : decode cX3_lots 66 = .ok (.ldc2_w 273, 3) := by decide +kernel
theorem dX3_lots_69 : decode cX3_lots 69 = .ok (.lrem, 1) := by decide +kernel
theorem dX3_lots_70 : decode cX3_lots 70 = .ok (.lstore_n 3, 1) := by decide +kernel
theorem dX3_lots_71 : decode cX3_lots 71 = .ok (.aload_n 0, 1) := by decide +kernel
theorem dX3_lots_72 : decode cX3_lots 72 = .ok (.getfield 24, 3) := by decide +kernel
theorem dX3_lots_75 : decode cX3_lots 75 = .ok (.aload_n 0, 1) := by decide +kernel
theorem dX3_lots_76 : decode cX3_lots 76 = .ok (.lload_n 3, 1) := by decide +kernel
theorem dX3_lots_77 : decode cX3_lots 77 = .ok (.l2i, 1) := by decide +kernel
theorem dX3_lots_78 : decode cX3_lots 78 = .ok (.invokevirtual 275, 3) := by decide +kernel
theorem dX3_lots_81 : decode cX3_lots 81 = .ok (.invokevirtual 163, 3) := by decide +kernel
theorem dX3_lots_84 : decode cX3_lots 84 = .ok (.iinc 5 1, 3) := by decide +kernel
theorem dX3_lots_87 : decode cX3_lots 87 = .ok (.goto (-32), 3) := by decide +kernel
theorem dX3_lots_90 : decode cX3_lots 90 = .ok (.aload_n 0, 1) := by decide +kernel
theorem dX3_lots_91 : decode cX3_lots 91 = .ok (.getfield 24, 3) := by decide +kernel
theorem dX3_lots_94 : decode cX3_lots 94 = .ok (.getfield 113, 3) := by decide +kernel
theorem dX3_lots_97 : decode cX3_lots 97 = .ok (.invokevirtual 278, 3) := by decide +kernel
theorem dX3_lots_100 : decode cX3_lots 100 = .ok (.ireturn, 1) := by decide +kernel
theorem dX3_asked_0 : decode cX3_asked 0 = .ok (.aload_n 0, 1) := by decide +kernel
theorem dX3_asked_1 : decode cX3_asked 1 = .ok (.getfield 49, 3) := by decide +kernel
theorem dX3_asked_4 : decode cX3_asked 4 = .ok (.ireturn, 1) := by decide +kernel
theorem dX3_upper_0 : decode cX3_upper 0 = .ok (.aload_n 0, 1) := by decide +kernel
theorem dX3_upper_1 : decode cX3_upper 1 = .ok (.getfield 52, 3) := by decide +kernel
theorem dX3_upper_4 : decode cX3_upper 4 = .ok (.lreturn, 1) := by decide +kernel
theorem dX3_lower_0 : decode cX3_lower 0 = .ok (.aload_n 0, 1) := by decide +kernel
theorem dX3_lower_1 : decode cX3_lower 1 = .ok (.getfield 56, 3) := by decide +kernel
theorem dX3_lower_4 : decode cX3_lower 4 = .ok (.lreturn, 1) := by decide +kernel
theorem dX3_count_0 : decode cX3_count 0 = .ok (.iload_n 1, 1) := by decide +kernel
theorem dX3_count_1 : decode cX3_count 1 = .ok (.ifCond .lt 9, 3) := by decide +kernel
theorem dX3_count_4 : decode cX3_count 4 = .ok (.iload_n 1, 1) := by decide +kernel
theorem dX3_count_5 : decode cX3_count 5 = .ok (.bipush 10, 2) := by decide +kernel
theorem dX3_count_7 : decode cX3_count 7 = .ok (.if_icmp .le 5, 3) := by decide +kernel
theorem dX3_count_10 : decode cX3_count 10 = .ok (.iconst (-1), 1) := by decide +kernel
theorem dX3_count_11 : decode cX3_count 11 = .ok (.ireturn, 1) := by decide +kernel
theorem dX3_count_12 : decode cX3_count 12 = .ok (.aload_n 0, 1) := by decide +kernel
theorem dX3_count_13 : decode cX3_count 13 = .ok (.iload_n 1, 1) := by decide +kernel
theorem dX3_count_14 : decode cX3_count 14 = .ok (.invokevirtual 282, 3) := by decide +kernel
theorem dX3_count_17 : decode cX3_count 17 = .ok (.ireturn, 1) := by decide +kernel
theorem dX3_finding_0 : decode cX3_finding 0 = .ok (.aload_n 0, 1) := by decide +kernel
theorem dX3_finding_1 : decode cX3_finding 1 = .ok (.getfield 45, 3) := by decide +kernel
theorem dX3_finding_4 : decode cX3_finding 4 = .ok (.ireturn, 1) := by decide +kernel
theorem dX3_findings_0 : decode cX3_findings 0 = .ok (.iload_n 1, 1) := by decide +kernel
theorem dX3_findings_1 : decode cX3_findings 1 = .ok (.iconst 1, 1) := by decide +kernel
theorem dX3_findings_2 : decode cX3_findings 2 = .ok (.if_icmp .lt 8, 3) := by decide +kernel
theorem dX3_findings_5 : decode cX3_findings 5 = .ok (.iload_n 1, 1) := by decide +kernel
theorem dX3_findings_6 : decode cX3_findings 6 = .ok (.iconst 5, 1) := by decide +kernel
theorem dX3_findings_7 : decode cX3_findings 7 = .ok (.if_icmp .le 5, 3) := by decide +kernel
theorem dX3_findings_10 : decode cX3_findings 10 = .ok (.iconst (-1), 1) := by decide +kernel
theorem dX3_findings_11 : decode cX3_findings 11 = .ok (.ireturn, 1) := by decide +kernel
theorem dX3_findings_12 : decode cX3_findings 12 = .ok (.aload_n 0, 1) := by decide +kernel
theorem dX3_findings_13 : decode cX3_findings 13 = .ok (.getfield 42, 3) := by decide +kernel
theorem dX3_findings_16 : decode cX3_findings 16 = .ok (.iload_n 1, 1) := by decide +kernel
theorem dX3_findings_17 : decode cX3_findings 17 = .ok (.iaload, 1) := by decide +kernel
theorem dX3_findings_18 : decode cX3_findings 18 = .ok (.ireturn, 1) := by decide +kernel
theorem dX3_digest_0 : decode cX3_digest 0 = .ok (.ldc2_w 285, 3) := by decide +kernel
theorem dX3_digest_3 : decode cX3_digest 3 = .ok (.lstore_n 1, 1) := by decide +kernel
theorem dX3_digest_4 : decode cX3_digest 4 = .ok (.iconst 0, 1) := by decide +kernel
theorem dX3_digest_5 : decode cX3_digest 5 = .ok (.istore_n 3, 1) := by decide +kernel
theorem dX3_digest_6 : decode cX3_digest 6 = .ok (.iload_n 3, 1) := by decide +kernel
theorem dX3_digest_7 : decode cX3_digest 7 = .ok (.bipush 10, 2) := by decide +kernel
theorem dX3_digest_9 : decode cX3_digest 9 = .ok (.if_icmp .gt 22, 3) := by decide +kernel
theorem dX3_digest_12 : decode cX3_digest 12 = .ok (.ldc2_w 287, 3) := by decide +kernel
theorem dX3_digest_15 : decode cX3_digest 15 = .ok (.lload_n 1, 1) := by decide +kernel
theorem dX3_digest_16 : decode cX3_digest 16 = .ok (.lmul, 1) := by decide +kernel
theorem dX3_digest_17 : decode cX3_digest 17 = .ok (.aload_n 0, 1) := by decide +kernel
theorem dX3_digest_18 : decode cX3_digest 18 = .ok (.iload_n 3, 1) := by decide +kernel
theorem dX3_digest_19 : decode cX3_digest 19 = .ok (.invokevirtual 282, 3) := by decide +kernel
theorem dX3_digest_22 : decode cX3_digest 22 = .ok (.i2l, 1) := by decide +kernel
theorem dX3_digest_23 : decode cX3_digest 23 = .ok (.ladd, 1) := by decide +kernel
theorem dX3_digest_24 : decode cX3_digest 24 = .ok (.lstore_n 1, 1) := by decide +kernel
theorem dX3_digest_25 : decode cX3_digest 25 = .ok (.iinc 3 1, 3) := by decide +kernel
theorem dX3_digest_28 : decode cX3_digest 28 = .ok (.goto (-22), 3) := by decide +kernel
theorem dX3_digest_31 : decode cX3_digest 31 = .ok (.iconst 0, 1) := by decide +kernel
theorem dX3_digest_32 : decode cX3_digest 32 = .ok (.istore_n 3, 1) := by decide +kernel
theorem dX3_digest_33 : decode cX3_digest 33 = .ok (.iload_n 3, 1) := by decide +kernel
theorem dX3_digest_34 : decode cX3_digest 34 = .ok (.aload_n 0, 1) := by decide +kernel
theorem dX3_digest_35 : decode cX3_digest 35 = .ok (.getfield 24, 3) := by decide +kernel
theorem dX3_digest_38 : decode cX3_digest 38 = .ok (.getfield 113, 3) := by decide +kernel
theorem dX3_digest_41 : decode cX3_digest 41 = .ok (.getfield 116, 3) := by decide +kernel
theorem dX3_digest_44 : decode cX3_digest 44 = .ok (.if_icmp .ge 40, 3) := by decide +kernel
theorem dX3_digest_47 : decode cX3_digest 47 = .ok (.iconst 0, 1) := by decide +kernel
theorem dX3_digest_48 : decode cX3_digest 48 = .ok (.istore 4, 2) := by decide +kernel
theorem dX3_digest_50 : decode cX3_digest 50 = .ok (.iload 4, 2) := by decide +kernel
theorem dX3_digest_52 : decode cX3_digest 52 = .ok (.bipush 6, 2) := by decide +kernel
theorem dX3_digest_54 : decode cX3_digest 54 = .ok (.if_icmp .gt 24, 3) := by decide +kernel
theorem dX3_digest_57 : decode cX3_digest 57 = .ok (.ldc2_w 287, 3) := by decide +kernel
theorem dX3_digest_60 : decode cX3_digest 60 = .ok (.lload_n 1, 1) := by decide +kernel
theorem dX3_digest_61 : decode cX3_digest 61 = .ok (.lmul, 1) := by decide +kernel
theorem dX3_digest_62 : decode cX3_digest 62 = .ok (.aload_n 0, 1) := by decide +kernel
theorem dX3_digest_63 : decode cX3_digest 63 = .ok (.iload_n 3, 1) := by decide +kernel
theorem dX3_digest_64 : decode cX3_digest 64 = .ok (.iload 4, 2) := by decide +kernel
theorem dX3_digest_66 : decode cX3_digest 66 = .ok (.invokevirtual 122, 3) := by decide +kernel
theorem dX3_digest_69 : decode cX3_digest 69 = .ok (.i2l, 1) := by decide +kernel
theorem dX3_digest_70 : decode cX3_digest 70 = .ok (.ladd, 1) := by decide +kernel
theorem dX3_digest_71 : decode cX3_digest 71 = .ok (.lstore_n 1, 1) := by decide +kernel
theorem dX3_digest_72 : decode cX3_digest 72 = .ok (.iinc 4 1, 3) := by decide +kernel
theorem dX3_digest_75 : decode cX3_digest 75 = .ok (.goto (-25), 3) := by decide +kernel
theorem dX3_digest_78 : decode cX3_digest 78 = .ok (.iinc 3 1, 3) := by decide +kernel
theorem dX3_digest_81 : decode cX3_digest 81 = .ok (.goto (-48), 3) := by decide +kernel
theorem dX3_digest_84 : decode cX3_digest 84 = .ok (.iconst 0, 1) := by decide +kernel
theorem dX3_digest_85 : decode cX3_digest 85 = .ok (.istore_n 3, 1) := by decide +kernel
theorem dX3_digest_86 : decode cX3_digest 86 = .ok (.iload_n 3, 1) := by decide +kernel
theorem dX3_digest_87 : decode cX3_digest 87 = .ok (.iconst 3, 1) := by decide +kernel
theorem dX3_digest_88 : decode cX3_digest 88 = .ok (.if_icmp .ge 26, 3) := by decide +kernel
theorem dX3_digest_91 : decode cX3_digest 91 = .ok (.ldc2_w 287, 3) := by decide +kernel
theorem dX3_digest_94 : decode cX3_digest 94 = .ok (.lload_n 1, 1) := by decide +kernel
theorem dX3_digest_95 : decode cX3_digest 95 = .ok (.lmul, 1) := by decide +kernel
theorem dX3_digest_96 : decode cX3_digest 96 = .ok (.aload_n 0, 1) := by decide +kernel
theorem dX3_digest_97 : decode cX3_digest 97 = .ok (.getfield 24, 3) := by decide +kernel
theorem dX3_digest_100 : decode cX3_digest 100 = .ok (.getfield 191, 3) := by decide +kernel
theorem dX3_digest_103 : decode cX3_digest 103 = .ok (.iload_n 3, 1) := by decide +kernel
theorem dX3_digest_104 : decode cX3_digest 104 = .ok (.iaload, 1) := by decide +kernel
theorem dX3_digest_105 : decode cX3_digest 105 = .ok (.i2l, 1) := by decide +kernel
theorem dX3_digest_106 : decode cX3_digest 106 = .ok (.ladd, 1) := by decide +kernel
theorem dX3_digest_107 : decode cX3_digest 107 = .ok (.lstore_n 1, 1) := by decide +kernel
theorem dX3_digest_108 : decode cX3_digest 108 = .ok (.iinc 3 1, 3) := by decide +kernel
theorem dX3_digest_111 : decode cX3_digest 111 = .ok (.goto (-25), 3) := by decide +kernel
theorem dX3_digest_114 : decode cX3_digest 114 = .ok (.aload_n 0, 1) := by decide +kernel
theorem dX3_digest_115 : decode cX3_digest 115 = .ok (.getfield 18, 3) := by decide +kernel
theorem dX3_digest_118 : decode cX3_digest 118 = .ok (.aload_n 0, 1) := by decide +kernel
theorem dX3_digest_119 : decode cX3_digest 119 = .ok (.getfield 14, 3) := by decide +kernel
theorem dX3_digest_122 : decode cX3_digest 122 = .ok (.lload_n 1, 1) := by decide +kernel
theorem dX3_digest_123 : decode cX3_digest 123 = .ok (.invokevirtual 289, 3) := by decide +kernel
theorem dX3_digest_126 : decode cX3_digest 126 = .ok (.invokevirtual 289, 3) := by decide +kernel
theorem dX3_digest_129 : decode cX3_digest 129 = .ok (.lreturn, 1) := by decide +kernel
theorem dX3_isRow_0 : decode cX3_isRow 0 = .ok (.iload_n 0, 1) := by decide +kernel
theorem dX3_isRow_1 : decode cX3_isRow 1 = .ok (.ifCond .lt 13, 3) := by decide +kernel
theorem dX3_isRow_4 : decode cX3_isRow 4 = .ok (.iload_n 0, 1) := by decide +kernel
theorem dX3_isRow_5 : decode cX3_isRow 5 = .ok (.bipush 6, 2) := by decide +kernel
theorem dX3_isRow_7 : decode cX3_isRow 7 = .ok (.if_icmp .ge 7, 3) := by decide +kernel
theorem dX3_isRow_10 : decode cX3_isRow 10 = .ok (.iconst 1, 1) := by decide +kernel
theorem dX3_isRow_11 : decode cX3_isRow 11 = .ok (.goto 4, 3) := by decide +kernel
theorem dX3_isRow_14 : decode cX3_isRow 14 = .ok (.iconst 0, 1) := by decide +kernel
theorem dX3_isRow_15 : decode cX3_isRow 15 = .ok (.ireturn, 1) := by decide +kernel
theorem dX3_isText_0 : decode cX3_isText 0 = .ok (.iload_n 0, 1) := by decide +kernel
theorem dX3_isText_1 : decode cX3_isText 1 = .ok (.ifCond .lt 12, 3) := by decide +kernel
theorem dX3_isText_4 : decode cX3_isText 4 = .ok (.iload_n 0, 1) := by decide +kernel
theorem dX3_isText_5 : decode cX3_isText 5 = .ok (.iconst 4, 1) := by decide +kernel
theorem dX3_isText_6 : decode cX3_isText 6 = .ok (.if_icmp .ge 7, 3) := by decide +kernel
theorem dX3_isText_9 : decode cX3_isText 9 = .ok (.iconst 1, 1) := by decide +kernel
theorem dX3_isText_10 : decode cX3_isText 10 = .ok (.goto 4, 3) := by decide +kernel
theorem dX3_isText_13 : decode cX3_isText 13 = .ok (.iconst 0, 1) := by decide +kernel
theorem dX3_isText_14 : decode cX3_isText 14 = .ok (.ireturn, 1) := by decide +kernel
theorem dX3_isKept_0 : decode cX3_isKept 0 = .ok (.iload_n 0, 1) := by decide +kernel
theorem dX3_isKept_1 : decode cX3_isKept 1 = .ok (.ifCond .lt 12, 3) := by decide +kernel
theorem dX3_isKept_4 : decode cX3_isKept 4 = .ok (.iload_n 0, 1) := by decide +kernel
theorem dX3_isKept_5 : decode cX3_isKept 5 = .ok (.iconst 3, 1) := by decide +kernel
theorem dX3_isKept_6 : decode cX3_isKept 6 = .ok (.if_icmp .ge 7, 3) := by decide +kernel
theorem dX3_isKept_9 : decode cX3_isKept 9 = .ok (.iconst 1, 1) := by decide +kernel
theorem dX3_isKept_10 : decode cX3_isKept 10 = .ok (.goto 4, 3) := by decide +kernel
theorem dX3_isKept_13 : decode cX3_isKept 13 = .ok (.iconst 0, 1) := by decide +kernel
theorem dX3_isKept_14 : decode cX3_isKept 14 = .ok (.ireturn, 1) := by decide +kernel
theorem dX3_isKin_0 : decode cX3_isKin 0 = .ok (.iload_n 1, 1) := by decide +kernel
theorem dX3_isKin_1 : decode cX3_isKin 1 = .ok (.ifCond .lt 21, 3) := by decide +kernel
theorem dX3_isKin_4 : decode cX3_isKin 4 = .ok (.iload_n 1, 1) := by decide +kernel
theorem dX3_isKin_5 : decode cX3_isKin 5 = .ok (.aload_n 0, 1) := by decide +kernel
theorem dX3_isKin_6 : decode cX3_isKin 6 = .ok (.getfield 24, 3) := by decide +kernel
theorem dX3_isKin_9 : decode cX3_isKin 9 = .ok (.getfield 113, 3) := by decide +kernel
theorem dX3_isKin_12 : decode cX3_isKin 12 = .ok (.getfield 116, 3) := by decide +kernel
theorem dX3_isKin_15 : decode cX3_isKin 15 = .ok (.if_icmp .ge 7, 3) := by decide +kernel
theorem dX3_isKin_18 : decode cX3_isKin 18 = .ok (.iconst 1, 1) := by decide +kernel
theorem dX3_isKin_19 : decode cX3_isKin 19 = .ok (.goto 4, 3) := by decide +kernel
theorem dX3_isKin_22 : decode cX3_isKin 22 = .ok (.iconst 0, 1) := by decide +kernel
theorem dX3_isKin_23 : decode cX3_isKin 23 = .ok (.ireturn, 1) := by decide +kernel
theorem dX3_areTwo_0 : decode cX3_areTwo 0 = .ok (.aload_n 0, 1) := by decide +kernel
theorem dX3_areTwo_1 : decode cX3_areTwo 1 = .ok (.iload_n 1, 1) := by decide +kernel
theorem dX3_areTwo_2 : decode cX3_areTwo 2 = .ok (.invokevirtual 119, 3) := by decide +kernel
theorem dX3_areTwo_5 : decode cX3_areTwo 5 = .ok (.ifCond .eq 20, 3) := by decide +kernel
theorem dX3_areTwo_8 : decode cX3_areTwo 8 = .ok (.aload_n 0, 1) := by decide +kernel
theorem dX3_areTwo_9 : decode cX3_areTwo 9 = .ok (.iload_n 2, 1) := by decide +kernel
theorem dX3_areTwo_10 : decode cX3_areTwo 10 = .ok (.invokevirtual 119, 3) := by decide +kernel
theorem dX3_areTwo_13 : decode cX3_areTwo 13 = .ok (.ifCond .eq 12, 3) := by decide +kernel
theorem dX3_areTwo_16 : decode cX3_areTwo 16 = .ok (.iload_n 1, 1) := by decide +kernel
theorem dX3_areTwo_17 : decode cX3_areTwo 17 = .ok (.iload_n 2, 1) := by decide +kernel
theorem dX3_areTwo_18 : decode cX3_areTwo 18 = .ok (.if_icmp .eq 7, 3) := by decide +kernel
theorem dX3_areTwo_21 : decode cX3_areTwo 21 = .ok (.iconst 1, 1) := by decide +kernel
theorem dX3_areTwo_22 : decode cX3_areTwo 22 = .ok (.goto 4, 3) := by decide +kernel
theorem dX3_areTwo_25 : decode cX3_areTwo 25 = .ok (.iconst 0, 1) := by decide +kernel
theorem dX3_areTwo_26 : decode cX3_areTwo 26 = .ok (.ireturn, 1) := by decide +kernel
theorem dX3_noKin_0 : decode cX3_noKin 0 = .ok (.aload_n 0, 1) := by decide +kernel
theorem dX3_noKin_1 : decode cX3_noKin 1 = .ok (.getfield 24, 3) := by decide +kernel
theorem dX3_noKin_4 : decode cX3_noKin 4 = .ok (.getfield 113, 3) := by decide +kernel
theorem dX3_noKin_7 : decode cX3_noKin 7 = .ok (.getfield 116, 3) := by decide +kernel
theorem dX3_noKin_10 : decode cX3_noKin 10 = .ok (.ifCond .ne 7, 3) := by decide +kernel
theorem dX3_noKin_13 : decode cX3_noKin 13 = .ok (.iconst 1, 1) := by decide +kernel
theorem dX3_noKin_14 : decode cX3_noKin 14 = .ok (.goto 4, 3) := by decide +kernel
theorem dX3_noKin_17 : decode cX3_noKin 17 = .ok (.iconst 0, 1) := by decide +kernel
theorem dX3_noKin_18 : decode cX3_noKin 18 = .ok (.ireturn, 1) := by decide +kernel
theorem dX3_refuse_0 : decode cX3_refuse 0 = .ok (.aload_n 0, 1) := by decide +kernel
theorem dX3_refuse_1 : decode cX3_refuse 1 = .ok (.iload_n 1, 1) := by decide +kernel
theorem dX3_refuse_2 : decode cX3_refuse 2 = .ok (.putfield 45, 3) := by decide +kernel
theorem dX3_refuse_5 : decode cX3_refuse 5 = .ok (.aload_n 0, 1) := by decide +kernel
theorem dX3_refuse_6 : decode cX3_refuse 6 = .ok (.getfield 42, 3) := by decide +kernel
theorem dX3_refuse_9 : decode cX3_refuse 9 = .ok (.iload_n 1, 1) := by decide +kernel
theorem dX3_refuse_10 : decode cX3_refuse 10 = .ok (.dup2, 1) := by decide +kernel
theorem dX3_refuse_11 : decode cX3_refuse 11 = .ok (.iaload, 1) := by decide +kernel
theorem dX3_refuse_12 : decode cX3_refuse 12 = .ok (.iconst 1, 1) := by decide +kernel
theorem dX3_refuse_13 : decode cX3_refuse 13 = .ok (.iadd, 1) := by decide +kernel
theorem dX3_refuse_14 : decode cX3_refuse 14 = .ok (.iastore, 1) := by decide +kernel
theorem dX3_refuse_15 : decode cX3_refuse 15 = .ok (.bipush (-3), 2) := by decide +kernel
theorem dX3_refuse_17 : decode cX3_refuse 17 = .ok (.ireturn, 1) := by decide +kernel
theorem dX3_refusePlace_0 : decode cX3_refusePlace 0 = .ok (.iload_n 1, 1) := by decide +kernel
theorem dX3_refusePlace_1 : decode cX3_refusePlace 1 = .ok (.invokestatic 59, 3) := by decide +kernel
theorem dX3_refusePlace_4 : decode cX3_refusePlace 4 = .ok (.ifCond .ne 5, 3) := by decide +kernel
theorem dX3_refusePlace_7 : decode cX3_refusePlace 7 = .ok (.iconst (-1), 1) := by decide +kernel
theorem dX3_refusePlace_8 : decode cX3_refusePlace 8 = .ok (.ireturn, 1) := by decide +kernel
theorem dX3_refusePlace_9 : decode cX3_refusePlace 9 = .ok (.aload_n 0, 1) := by decide +kernel
theorem dX3_refusePlace_10 : decode cX3_refusePlace 10 = .ok (.getfield 14, 3) := by decide +kernel
theorem dX3_refusePlace_13 : decode cX3_refusePlace 13 = .ok (.iload_n 1, 1) := by decide +kernel
theorem dX3_refusePlace_14 : decode cX3_refusePlace 14 = .ok (.invokevirtual 82, 3) := by decide +kernel
theorem dX3_refusePlace_17 : decode cX3_refusePlace 17 = .ok (.ifCond .ne 9, 3) := by decide +kernel
theorem dX3_refusePlace_20 : decode cX3_refusePlace 20 = .ok (.aload_n 0, 1) := by decide +kernel
theorem dX3_refusePlace_21 : decode cX3_refusePlace 21 = .ok (.iconst 1, 1) := by decide +kernel
theorem dX3_refusePlace_22 : decode cX3_refusePlace 22 = .ok (.invokevirtual 63, 3) := by decide +kernel
theorem dX3_refusePlace_25 : decode cX3_refusePlace 25 = .ok (.ireturn, 1) := by decide +kernel
theorem dX3_refusePlace_26 : decode cX3_refusePlace 26 = .ok (.aload_n 0, 1) := by decide +kernel
theorem dX3_refusePlace_27 : decode cX3_refusePlace 27 = .ok (.getfield 14, 3) := by decide +kernel
theorem dX3_refusePlace_30 : decode cX3_refusePlace 30 = .ok (.iload_n 1, 1) := by decide +kernel
theorem dX3_refusePlace_31 : decode cX3_refusePlace 31 = .ok (.iload_n 2, 1) := by decide +kernel
theorem dX3_refusePlace_32 : decode cX3_refusePlace 32 = .ok (.iconst 1, 1) := by decide +kernel
theorem dX3_refusePlace_33 : decode cX3_refusePlace 33 = .ok (.invokevirtual 88, 3) := by decide +kernel
theorem dX3_refusePlace_36 : decode cX3_refusePlace 36 = .ok (.ifCond .eq 7, 3) := by decide +kernel
theorem dX3_refusePlace_39 : decode cX3_refusePlace 39 = .ok (.iconst 0, 1) := by decide +kernel
theorem dX3_refusePlace_40 : decode cX3_refusePlace 40 = .ok (.goto 8, 3) := by decide +kernel
theorem dX3_refusePlace_43 : decode cX3_refusePlace 43 = .ok (.aload_n 0, 1) := by decide +kernel
theorem dX3_refusePlace_44 : decode cX3_refusePlace 44 = .ok (.iconst 2, 1) := by decide +kernel
theorem dX3_refusePlace_45 : decode cX3_refusePlace 45 = .ok (.invokevirtual 63, 3) := by decide +kernel
theorem dX3_refusePlace_48 : decode cX3_refusePlace 48 = .ok (.ireturn, 1) := by decide +kernel
theorem dX3_refusePairs_0 : decode cX3_refusePairs 0 = .ok (.aload_n 0, 1) := by decide +kernel
theorem dX3_refusePairs_1 : decode cX3_refusePairs 1 = .ok (.iload_n 1, 1) := by decide +kernel
theorem dX3_refusePairs_2 : decode cX3_refusePairs 2 = .ok (.invokevirtual 119, 3) := by decide +kernel
theorem dX3_refusePairs_5 : decode cX3_refusePairs 5 = .ok (.ifCond .eq 10, 3) := by decide +kernel
theorem dX3_refusePairs_8 : decode cX3_refusePairs 8 = .ok (.iload_n 2, 1) := by decide +kernel
theorem dX3_refusePairs_9 : decode cX3_refusePairs 9 = .ok (.invokestatic 59, 3) := by decide +kernel
theorem dX3_refusePairs_12 : decode cX3_refusePairs 12 = .ok (.ifCond .ne 5, 3) := by decide +kernel
theorem dX3_refusePairs_15 : decode cX3_refusePairs 15 = .ok (.iconst (-1), 1) := by decide +kernel
theorem dX3_refusePairs_16 : decode cX3_refusePairs 16 = .ok (.ireturn, 1) := by decide +kernel
theorem dX3_refusePairs_17 : decode cX3_refusePairs 17 = .ok (.aload_n 0, 1) := by decide +kernel
theorem dX3_refusePairs_18 : decode cX3_refusePairs 18 = .ok (.getfield 14, 3) := by decide +kernel
theorem dX3_refusePairs_21 : decode cX3_refusePairs 21 = .ok (.iload_n 2, 1) := by decide +kernel
theorem dX3_refusePairs_22 : decode cX3_refusePairs 22 = .ok (.invokevirtual 82, 3) := by decide +kernel
theorem dX3_refusePairs_25 : decode cX3_refusePairs 25 = .ok (.ifCond .ne 9, 3) := by decide +kernel
theorem dX3_refusePairs_28 : decode cX3_refusePairs 28 = .ok (.aload_n 0, 1) := by decide +kernel
theorem dX3_refusePairs_29 : decode cX3_refusePairs 29 = .ok (.iconst 1, 1) := by decide +kernel
theorem dX3_refusePairs_30 : decode cX3_refusePairs 30 = .ok (.invokevirtual 63, 3) := by decide +kernel
theorem dX3_refusePairs_33 : decode cX3_refusePairs 33 = .ok (.ireturn, 1) := by decide +kernel
theorem dX3_refusePairs_34 : decode cX3_refusePairs 34 = .ok (.aload_n 0, 1) := by decide +kernel
theorem dX3_refusePairs_35 : decode cX3_refusePairs 35 = .ok (.getfield 14, 3) := by decide +kernel
theorem dX3_refusePairs_38 : decode cX3_refusePairs 38 = .ok (.getfield 85, 3) := by decide +kernel
theorem dX3_refusePairs_41 : decode cX3_refusePairs 41 = .ok (.iload_n 2, 1) := by decide +kernel
theorem dX3_refusePairs_42 : decode cX3_refusePairs 42 = .ok (.iaload, 1) := by decide +kernel
theorem dX3_refusePairs_43 : decode cX3_refusePairs 43 = .ok (.iconst 2, 1) := by decide +kernel
theorem dX3_refusePairs_44 : decode cX3_refusePairs 44 = .ok (.irem, 1) := by decide +kernel
theorem dX3_refusePairs_45 : decode cX3_refusePairs 45 = .ok (.ifCond .eq 9, 3) := by decide +kernel
theorem dX3_refusePairs_48 : decode cX3_refusePairs 48 = .ok (.aload_n 0, 1) := by decide +kernel
theorem dX3_refusePairs_49 : decode cX3_refusePairs 49 = .ok (.iconst 5, 1) := by decide +kernel
theorem dX3_refusePairs_50 : decode cX3_refusePairs 50 = .ok (.invokevirtual 63, 3) := by decide +kernel
theorem dX3_refusePairs_53 : decode cX3_refusePairs 53 = .ok (.ireturn, 1) := by decide +kernel
theorem dX3_refusePairs_54 : decode cX3_refusePairs 54 = .ok (.iconst 0, 1) := by decide +kernel
theorem dX3_refusePairs_55 : decode cX3_refusePairs 55 = .ok (.istore_n 3, 1) := by decide +kernel
theorem dX3_refusePairs_56 : decode cX3_refusePairs 56 = .ok (.iload_n 3, 1) := by decide +kernel
theorem dX3_refusePairs_57 : decode cX3_refusePairs 57 = .ok (.aload_n 0, 1) := by decide +kernel
theorem dX3_refusePairs_58 : decode cX3_refusePairs 58 = .ok (.getfield 14, 3) := by decide +kernel
theorem dX3_refusePairs_61 : decode cX3_refusePairs 61 = .ok (.getfield 85, 3) := by decide +kernel
theorem dX3_refusePairs_64 : decode cX3_refusePairs 64 = .ok (.iload_n 2, 1) := by decide +kernel
theorem dX3_refusePairs_65 : decode cX3_refusePairs 65 = .ok (.iaload, 1) := by decide +kernel
theorem dX3_refusePairs_66 : decode cX3_refusePairs 66 = .ok (.if_icmp .ge 51, 3) := by decide +kernel
theorem dX3_refusePairs_69 : decode cX3_refusePairs 69 = .ok (.aload_n 0, 1) := by decide +kernel
theorem dX3_refusePairs_70 : decode cX3_refusePairs 70 = .ok (.getfield 14, 3) := by decide +kernel
theorem dX3_refusePairs_73 : decode cX3_refusePairs 73 = .ok (.getfield 75, 3) := by decide +kernel
theorem dX3_refusePairs_76 : decode cX3_refusePairs 76 = .ok (.iload_n 2, 1) := by decide +kernel
theorem dX3_refusePairs_77 : decode cX3_refusePairs 77 = .ok (.aaload, 1) := by decide +kernel
theorem dX3_refusePairs_78 : decode cX3_refusePairs 78 = .ok (.iload_n 3, 1) := by decide +kernel
theorem dX3_refusePairs_79 : decode cX3_refusePairs 79 = .ok (.iaload, 1) := by decide +kernel
theorem dX3_refusePairs_80 : decode cX3_refusePairs 80 = .ok (.istore 4, 2) := by decide +kernel
theorem dX3_refusePairs_82 : decode cX3_refusePairs 82 = .ok (.iload 4, 2) := by decide +kernel
theorem dX3_refusePairs_84 : decode cX3_refusePairs 84 = .ok (.ifCond .lt 21, 3) := by decide +kernel
theorem dX3_refusePairs_87 : decode cX3_refusePairs 87 = .ok (.iload 4, 2) := by decide +kernel
theorem dX3_refusePairs_89 : decode cX3_refusePairs 89 = .ok (.iload_n 3, 1) := by decide +kernel
theorem dX3_refusePairs_90 : decode cX3_refusePairs 90 = .ok (.iconst 2, 1) := by decide +kernel
theorem dX3_refusePairs_91 : decode cX3_refusePairs 91 = .ok (.irem, 1) := by decide +kernel
theorem dX3_refusePairs_92 : decode cX3_refusePairs 92 = .ok (.ifCond .ne 8, 3) := by decide +kernel
theorem dX3_refusePairs_95 : decode cX3_refusePairs 95 = .ok (.bipush 99, 2) := by decide +kernel
theorem dX3_refusePairs_97 : decode cX3_refusePairs 97 = .ok (.goto 5, 3) := by decide +kernel
theorem dX3_refusePairs_100 : decode cX3_refusePairs 100 = .ok (.bipush 30, 2) := by decide +kernel
theorem dX3_refusePairs_102 : decode cX3_refusePairs 102 = .ok (.if_icmp .le 9, 3) := by decide +kernel
theorem dX3_refusePairs_105 : decode cX3_refusePairs 105 = .ok (.aload_n 0, 1) := by decide +kernel
theorem dX3_refusePairs_106 : decode cX3_refusePairs 106 = .ok (.iconst 3, 1) := by decide +kernel
theorem dX3_refusePairs_107 : decode cX3_refusePairs 107 = .ok (.invokevirtual 63, 3) := by decide +kernel
theorem dX3_refusePairs_110 : decode cX3_refusePairs 110 = .ok (.ireturn, 1) := by decide +kernel
theorem dX3_refusePairs_111 : decode cX3_refusePairs 111 = .ok (.iinc 3 1, 3) := by decide +kernel
theorem dX3_refusePairs_114 : decode cX3_refusePairs 114 = .ok (.goto (-58), 3) := by decide +kernel
theorem dX3_refusePairs_117 : decode cX3_refusePairs 117 = .ok (.iconst 0, 1) := by decide +kernel
theorem dX3_refusePairs_118 : decode cX3_refusePairs 118 = .ok (.ireturn, 1) := by decide +kernel
theorem dX3_tell_0 : decode cX3_tell 0 = .ok (.aload_n 0, 1) := by decide +kernel
theorem dX3_tell_1 : decode cX3_tell 1 = .ok (.iload_n 1, 1) := by decide +kernel
theorem dX3_tell_2 : decode cX3_tell 2 = .ok (.putfield 49, 3) := by decide +kernel
theorem dX3_tell_5 : decode cX3_tell 5 = .ok (.iload_n 2, 1) := by decide +kernel
theorem dX3_tell_6 : decode cX3_tell 6 = .ok (.ireturn, 1) := by decide +kernel
theorem dX3_tellPart_0 : decode cX3_tellPart 0 = .ok (.lconst 1, 1) := by decide +kernel
theorem dX3_tellPart_1 : decode cX3_tellPart 1 = .ok (.lstore_n 3, 1) := by decide +kernel
theorem dX3_tellPart_2 : decode cX3_tellPart 2 = .ok (.iconst 0, 1) := by decide +kernel
theorem dX3_tellPart_3 : decode cX3_tellPart 3 = .ok (.istore 5, 2) := by decide +kernel
theorem dX3_tellPart_5 : decode cX3_tellPart 5 = .ok (.iload 5, 2) := by decide +kernel
theorem dX3_tellPart_7 : decode cX3_tellPart 7 = .ok (.aload_n 0, 1) := by decide +kernel
theorem dX3_tellPart_8 : decode cX3_tellPart 8 = .ok (.getfield 24, 3) := by decide +kernel
theorem dX3_tellPart_11 : decode cX3_tellPart 11 = .ok (.getfield 113, 3) := by decide +kernel
theorem dX3_tellPart_14 : decode cX3_tellPart 14 = .ok (.getfield 116, 3) := by decide +kernel
theorem dX3_tellPart_17 : decode cX3_tellPart 17 = .ok (.if_icmp .ge 15, 3) := by decide +kernel
theorem dX3_tellPart_20 : decode cX3_tellPart 20 = .ok (.lload_n 3, 1) := by decide +kernel
theorem dX3_tellPart_21 : decode cX3_tellPart 21 = .ok (.ldc2_w 293, 3) := by decide +kernel
theorem dX3_tellPart_24 : decode cX3_tellPart 24 = .ok (.lmul, 1) := by decide +kernel
theorem dX3_tellPart_25 : decode cX3_tellPart 25 = .ok (.lstore_n 3, 1) := by decide +kernel
theorem dX3_tellPart_26 : decode cX3_tellPart 26 = .ok (.iinc 5 1, 3) := by decide +kernel
theorem dX3_tellPart_29 : decode cX3_tellPart 29 = .ok (.goto (-24), 3) := by decide +kernel
theorem dX3_tellPart_32 : decode cX3_tellPart 32 = .ok (.lload_n 3, 1) := by decide +kernel
theorem dX3_tellPart_33 : decode cX3_tellPart 33 = .ok (.lload_n 1, 1) := by decide +kernel
theorem dX3_tellPart_34 : decode cX3_tellPart 34 = .ok (.invokestatic 295, 3) := by decide +kernel
theorem dX3_tellPart_37 : decode cX3_tellPart 37 = .ok (.lstore 5, 2) := by decide +kernel
theorem dX3_tellPart_39 : decode cX3_tellPart 39 = .ok (.lload 5, 2) := by decide +kernel
theorem dX3_tellPart_41 : decode cX3_tellPart 41 = .ok (.lconst 0, 1) := by decide +kernel
theorem dX3_tellPart_42 : decode cX3_tellPart 42 = .ok (.lcmp, 1) := by decide +kernel
theorem dX3_tellPart_43 : decode cX3_tellPart 43 = .ok (.ifCond .gt 4, 3) := by decide +kernel
theorem dX3_tellPart_46 : decode cX3_tellPart 46 = .ok (.return_, 1) := by decide +kernel
theorem dX3_tellPart_47 : decode cX3_tellPart 47 = .ok (.aload_n 0, 1) := by decide +kernel
theorem dX3_tellPart_48 : decode cX3_tellPart 48 = .ok (.lload_n 1, 1) := by decide +kernel
theorem dX3_tellPart_49 : decode cX3_tellPart 49 = .ok (.lload 5, 2) := by decide +kernel
theorem dX3_tellPart_51 : decode cX3_tellPart 51 = .ok (.ldiv, 1) := by decide +kernel
theorem dX3_tellPart_52 : decode cX3_tellPart 52 = .ok (.putfield 52, 3) := by decide +kernel
theorem dX3_tellPart_55 : decode cX3_tellPart 55 = .ok (.aload_n 0, 1) := by decide +kernel
theorem dX3_tellPart_56 : decode cX3_tellPart 56 = .ok (.lload_n 3, 1) := by decide +kernel
theorem dX3_tellPart_57 : decode cX3_tellPart 57 = .ok (.lload 5, 2) := by decide +kernel
theorem dX3_tellPart_59 : decode cX3_tellPart 59 = .ok (.ldiv, 1) := by decide +kernel
theorem dX3_tellPart_60 : decode cX3_tellPart 60 = .ok (.putfield 56, 3) := by decide +kernel
theorem dX3_tellPart_63 : decode cX3_tellPart 63 = .ok (.return_, 1) := by decide +kernel
theorem dX3_commonDivisor_0 : decode cX3_commonDivisor 0 = .ok (.iconst 0, 1) := by decide +kernel
theorem dX3_commonDivisor_1 : decode cX3_commonDivisor 1 = .ok (.istore 4, 2) := by decide +kernel
theorem dX3_commonDivisor_3 : decode cX3_commonDivisor 3 = .ok (.iload 4, 2) := by decide +kernel
theorem dX3_commonDivisor_5 : decode cX3_commonDivisor 5 = .ok (.sipush 200, 3) := by decide +kernel
theorem dX3_commonDivisor_8 : decode cX3_commonDivisor 8 = .ok (.if_icmp .ge 25, 3) := by decide +kernel
theorem dX3_commonDivisor_11 : decode cX3_commonDivisor 11 = .ok (.lload_n 2, 1) := by decide +kernel
theorem dX3_commonDivisor_12 : decode cX3_commonDivisor 12 = .ok (.lconst 0, 1) := by decide +kernel
theorem dX3_commonDivisor_13 : decode cX3_commonDivisor 13 = .ok (.lcmp, 1) := by decide +kernel
theorem dX3_commonDivisor_14 : decode cX3_commonDivisor 14 = .ok (.ifCond .eq 19, 3) := by decide +kernel
theorem dX3_commonDivisor_17 : decode cX3_commonDivisor 17 = .ok (.lload_n 0, 1) := by decide +kernel
theorem dX3_commonDivisor_18 : decode cX3_commonDivisor 18 = .ok (.lload_n 2, 1) := by decide +kernel
theorem dX3_commonDivisor_19 : decode cX3_commonDivisor 19 = .ok (.lrem, 1) := by decide +kernel
theorem dX3_commonDivisor_20 : decode cX3_commonDivisor 20 = .ok (.lstore 5, 2) := by decide +kernel
theorem dX3_commonDivisor_22 : decode cX3_commonDivisor 22 = .ok (.lload_n 2, 1) := by decide +kernel
theorem dX3_commonDivisor_23 : decode cX3_commonDivisor 23 = .ok (.lstore_n 0, 1) := by decide +kernel
theorem dX3_commonDivisor_24 : decode cX3_commonDivisor 24 = .ok (.lload 5, 2) := by decide +kernel
theorem dX3_commonDivisor_26 : decode cX3_commonDivisor 26 = .ok (.lstore_n 2, 1) := by decide +kernel
theorem dX3_commonDivisor_27 : decode cX3_commonDivisor 27 = .ok (.iinc 4 1, 3) := by decide +kernel
theorem dX3_commonDivisor_30 : decode cX3_commonDivisor 30 = .ok (.goto (-27), 3) := by decide +kernel
theorem dX3_commonDivisor_33 : decode cX3_commonDivisor 33 = .ok (.lload_n 0, 1) := by decide +kernel
theorem dX3_commonDivisor_34 : decode cX3_commonDivisor 34 = .ok (.lreturn, 1) := by decide +kernel
theorem dX3_ofOne_0 : decode cX3_ofOne 0 = .ok (.aload_n 0, 1) := by decide +kernel
theorem dX3_ofOne_1 : decode cX3_ofOne 1 = .ok (.getfield 24, 3) := by decide +kernel
theorem dX3_ofOne_4 : decode cX3_ofOne 4 = .ok (.getfield 113, 3) := by decide +kernel
theorem dX3_ofOne_7 : decode cX3_ofOne 7 = .ok (.astore_n 3, 1) := by decide +kernel
theorem dX3_ofOne_8 : decode cX3_ofOne 8 = .ok (.aload_n 3, 1) := by decide +kernel
theorem dX3_ofOne_9 : decode cX3_ofOne 9 = .ok (.invokevirtual 197, 3) := by decide +kernel
theorem dX3_ofOne_12 : decode cX3_ofOne 12 = .ok (.iload_n 2, 1) := by decide +kernel
theorem dX3_ofOne_13 : decode cX3_ofOne 13 = .ok (.tableswitch 81 0 5 #[39, 46, 53, 60, 67, 74], 39) := by decide +kernel
theorem dX3_ofOne_52 : decode cX3_ofOne 52 = .ok (.aload_n 3, 1) := by decide +kernel
theorem dX3_ofOne_53 : decode cX3_ofOne 53 = .ok (.getfield 125, 3) := by decide +kernel
theorem dX3_ofOne_56 : decode cX3_ofOne 56 = .ok (.iload_n 1, 1) := by decide +kernel
theorem dX3_ofOne_57 : decode cX3_ofOne 57 = .ok (.iaload, 1) := by decide +kernel
theorem dX3_ofOne_58 : decode cX3_ofOne 58 = .ok (.ireturn, 1) := by decide +kernel
theorem dX3_ofOne_59 : decode cX3_ofOne 59 = .ok (.aload_n 3, 1) := by decide +kernel
theorem dX3_ofOne_60 : decode cX3_ofOne 60 = .ok (.getfield 143, 3) := by decide +kernel
theorem dX3_ofOne_63 : decode cX3_ofOne 63 = .ok (.iload_n 1, 1) := by decide +kernel
theorem dX3_ofOne_64 : decode cX3_ofOne 64 = .ok (.iaload, 1) := by decide +kernel
theorem dX3_ofOne_65 : decode cX3_ofOne 65 = .ok (.ireturn, 1) := by decide +kernel
theorem dX3_ofOne_66 : decode cX3_ofOne 66 = .ok (.aload_n 3, 1) := by decide +kernel
theorem dX3_ofOne_67 : decode cX3_ofOne 67 = .ok (.getfield 299, 3) := by decide +kernel
theorem dX3_ofOne_70 : decode cX3_ofOne 70 = .ok (.iload_n 1, 1) := by decide +kernel
theorem dX3_ofOne_71 : decode cX3_ofOne 71 = .ok (.iaload, 1) := by decide +kernel
theorem dX3_ofOne_72 : decode cX3_ofOne 72 = .ok (.ireturn, 1) := by decide +kernel
theorem dX3_ofOne_73 : decode cX3_ofOne 73 = .ok (.aload_n 3, 1) := by decide +kernel
theorem dX3_ofOne_74 : decode cX3_ofOne 74 = .ok (.getfield 176, 3) := by decide +kernel
theorem dX3_ofOne_77 : decode cX3_ofOne 77 = .ok (.iload_n 1, 1) := by decide +kernel
theorem dX3_ofOne_78 : decode cX3_ofOne 78 = .ok (.iaload, 1) := by decide +kernel
theorem dX3_ofOne_79 : decode cX3_ofOne 79 = .ok (.ireturn, 1) := by decide +kernel
theorem dX3_ofOne_80 : decode cX3_ofOne 80 = .ok (.aload_n 3, 1) := by decide +kernel
theorem dX3_ofOne_81 : decode cX3_ofOne 81 = .ok (.getfield 170, 3) := by decide +kernel
theorem dX3_ofOne_84 : decode cX3_ofOne 84 = .ok (.iload_n 1, 1) := by decide +kernel
theorem dX3_ofOne_85 : decode cX3_ofOne 85 = .ok (.iaload, 1) := by decide +kernel
theorem dX3_ofOne_86 : decode cX3_ofOne 86 = .ok (.ireturn, 1) := by decide +kernel
theorem dX3_ofOne_87 : decode cX3_ofOne 87 = .ok (.aload_n 3, 1) := by decide +kernel
theorem dX3_ofOne_88 : decode cX3_ofOne 88 = .ok (.getfield 302, 3) := by decide +kernel
theorem dX3_ofOne_91 : decode cX3_ofOne 91 = .ok (.iload_n 1, 1) := by decide +kernel
theorem dX3_ofOne_92 : decode cX3_ofOne 92 = .ok (.iaload, 1) := by decide +kernel
theorem dX3_ofOne_93 : decode cX3_ofOne 93 = .ok (.ireturn, 1) := by decide +kernel
theorem dX3_ofOne_94 : decode cX3_ofOne 94 = .ok (.aload_n 3, 1) := by decide +kernel
theorem dX3_ofOne_95 : decode cX3_ofOne 95 = .ok (.getfield 209, 3) := by decide +kernel
theorem dX3_ofOne_98 : decode cX3_ofOne 98 = .ok (.iload_n 1, 1) := by decide +kernel
theorem dX3_ofOne_99 : decode cX3_ofOne 99 = .ok (.iaload, 1) := by decide +kernel
theorem dX3_ofOne_100 : decode cX3_ofOne 100 = .ok (.ireturn, 1) := by decide +kernel
theorem dX3_counted_0 : decode cX3_counted 0 = .ok (.aload_n 0, 1) := by decide +kernel
theorem dX3_counted_1 : decode cX3_counted 1 = .ok (.getfield 24, 3) := by decide +kernel
theorem dX3_counted_4 : decode cX3_counted 4 = .ok (.getfield 113, 3) := by decide +kernel
theorem dX3_counted_7 : decode cX3_counted 7 = .ok (.astore_n 2, 1) := by decide +kernel
theorem dX3_counted_8 : decode cX3_counted 8 = .ok (.iload_n 1, 1) := by decide +kernel
theorem dX3_counted_9 : decode cX3_counted 9 = .ok (.tableswitch 121 0 9 #[55, 60, 68, 76, 81, 86, 91, 99, 107, 115], 55) := by decide +kernel
theorem dX3_counted_64 : decode cX3_counted 64 = .ok (.aload_n 2, 1) := by decide +kernel
theorem dX3_counted_65 : decode cX3_counted 65 = .ok (.getfield 116, 3) := by decide +kernel
theorem dX3_counted_68 : decode cX3_counted 68 = .ok (.ireturn, 1) := by decide +kernel
theorem dX3_counted_69 : decode cX3_counted 69 = .ok (.aload_n 0, 1) := by decide +kernel
theorem dX3_counted_70 : decode cX3_counted 70 = .ok (.getfield 24, 3) := by decide +kernel
theorem dX3_counted_73 : decode cX3_counted 73 = .ok (.getfield 154, 3) := by decide +kernel
theorem dX3_counted_76 : decode cX3_counted 76 = .ok (.ireturn, 1) := by decide +kernel
theorem dX3_counted_77 : decode cX3_counted 77 = .ok (.aload_n 0, 1) := by decide +kernel
theorem dX3_counted_78 : decode cX3_counted 78 = .ok (.getfield 24, 3) := by decide +kernel
theorem dX3_counted_81 : decode cX3_counted 81 = .ok (.getfield 179, 3) := by decide +kernel
theorem dX3_counted_84 : decode cX3_counted 84 = .ok (.ireturn, 1) := by decide +kernel
theorem dX3_counted_85 : decode cX3_counted 85 = .ok (.aload_n 2, 1) := by decide +kernel
theorem dX3_counted_86 : decode cX3_counted 86 = .ok (.invokevirtual 278, 3) := by decide +kernel
theorem dX3_counted_89 : decode cX3_counted 89 = .ok (.ireturn, 1) := by decide +kernel
theorem dX3_counted_90 : decode cX3_counted 90 = .ok (.aload_n 2, 1) := by decide +kernel
theorem dX3_counted_91 : decode cX3_counted 91 = .ok (.invokevirtual 305, 3) := by decide +kernel
theorem dX3_counted_94 : decode cX3_counted 94 = .ok (.ireturn, 1) := by decide +kernel
theorem dX3_counted_95 : decode cX3_counted 95 = .ok (.aload_n 2, 1) := by decide +kernel
theorem dX3_counted_96 : decode cX3_counted 96 = .ok (.invokevirtual 308, 3) := by decide +kernel
theorem dX3_counted_99 : decode cX3_counted 99 = .ok (.ireturn, 1) := by decide +kernel
theorem dX3_counted_100 : decode cX3_counted 100 = .ok (.aload_n 0, 1) := by decide +kernel
theorem dX3_counted_101 : decode cX3_counted 101 = .ok (.getfield 14, 3) := by decide +kernel
theorem dX3_counted_104 : decode cX3_counted 104 = .ok (.invokevirtual 311, 3) := by decide +kernel
theorem dX3_counted_107 : decode cX3_counted 107 = .ok (.ireturn, 1) := by decide +kernel
theorem dX3_counted_108 : decode cX3_counted 108 = .ok (.aload_n 0, 1) := by decide +kernel
theorem dX3_counted_109 : decode cX3_counted 109 = .ok (.getfield 18, 3) := by decide +kernel
theorem dX3_counted_112 : decode cX3_counted 112 = .ok (.invokevirtual 311, 3) := by decide +kernel
theorem dX3_counted_115 : decode cX3_counted 115 = .ok (.ireturn, 1) := by decide +kernel
theorem dX3_counted_116 : decode cX3_counted 116 = .ok (.aload_n 0, 1) := by decide +kernel
theorem dX3_counted_117 : decode cX3_counted 117 = .ok (.getfield 24, 3) := by decide +kernel
theorem dX3_counted_120 : decode cX3_counted 120 = .ok (.invokevirtual 314, 3) := by decide +kernel
theorem dX3_counted_123 : decode cX3_counted 123 = .ok (.ireturn, 1) := by decide +kernel
theorem dX3_counted_124 : decode cX3_counted 124 = .ok (.aload_n 2, 1) := by decide +kernel
theorem dX3_counted_125 : decode cX3_counted 125 = .ok (.iconst 1, 1) := by decide +kernel
theorem dX3_counted_126 : decode cX3_counted 126 = .ok (.invokevirtual 317, 3) := by decide +kernel
theorem dX3_counted_129 : decode cX3_counted 129 = .ok (.ireturn, 1) := by decide +kernel
theorem dX3_counted_130 : decode cX3_counted 130 = .ok (.aload_n 2, 1) := by decide +kernel
theorem dX3_counted_131 : decode cX3_counted 131 = .ok (.iconst 3, 1) := by decide +kernel
theorem dX3_counted_132 : decode cX3_counted 132 = .ok (.invokevirtual 317, 3) := by decide +kernel
theorem dX3_counted_135 : decode cX3_counted 135 = .ok (.ireturn, 1) := by decide +kernel
theorem dX3_purseBehind_0 : decode cX3_purseBehind 0 = .ok (.aload_n 0, 1) := by decide +kernel
theorem dX3_purseBehind_1 : decode cX3_purseBehind 1 = .ok (.getfield 31, 3) := by decide +kernel
theorem dX3_purseBehind_4 : decode cX3_purseBehind 4 = .ok (.aload_n 0, 1) := by decide +kernel
theorem dX3_purseBehind_5 : decode cX3_purseBehind 5 = .ok (.getfield 24, 3) := by decide +kernel
theorem dX3_purseBehind_8 : decode cX3_purseBehind 8 = .ok (.getfield 113, 3) := by decide +kernel
theorem dX3_purseBehind_11 : decode cX3_purseBehind 11 = .ok (.invokevirtual 203, 3) := by decide +kernel
theorem dX3_purseBehind_14 : decode cX3_purseBehind 14 = .ok (.aload_n 0, 1) := by decide +kernel
theorem dX3_purseBehind_15 : decode cX3_purseBehind 15 = .ok (.getfield 31, 3) := by decide +kernel
theorem dX3_purseBehind_18 : decode cX3_purseBehind 18 = .ok (.getfield 170, 3) := by decide +kernel
theorem dX3_purseBehind_21 : decode cX3_purseBehind 21 = .ok (.iload_n 1, 1) := by decide +kernel
theorem dX3_purseBehind_22 : decode cX3_purseBehind 22 = .ok (.dup2, 1) := by decide +kernel
theorem dX3_purseBehind_23 : decode cX3_purseBehind 23 = .ok (.iaload, 1) := by decide +kernel
theorem dX3_purseBehind_24 : decode cX3_purseBehind 24 = .ok (.iload_n 2, 1) := by decide +kernel
theorem dX3_purseBehind_25 : decode cX3_purseBehind 25 = .ok (.iadd, 1) := by decide +kernel
theorem dX3_purseBehind_26 : decode cX3_purseBehind 26 = .ok (.iastore, 1) := by decide +kernel
theorem dX3_purseBehind_27 : decode cX3_purseBehind 27 = .ok (.aload_n 0, 1) := by decide +kernel
theorem dX3_purseBehind_28 : decode cX3_purseBehind 28 = .ok (.getfield 31, 3) := by decide +kernel
theorem dX3_purseBehind_31 : decode cX3_purseBehind 31 = .ok (.iload_n 3, 1) := by decide +kernel
