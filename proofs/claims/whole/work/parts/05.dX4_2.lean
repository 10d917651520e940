theorem dX4_settles_100 : decode cX4_settles 100 = .ok (.iinc 4 1, 3) := by decide +kernel
theorem dX4_settles_103 : decode cX4_settles 103 = .ok (.goto (-67), 3) := by decide +kernel
theorem dX4_settles_106 : decode cX4_settles 106 = .ok (.aload_n 0, 1) := by decide +kernel
theorem dX4_settles_107 : decode cX4_settles 107 = .ok (.aload_n 0, 1) := by decide +kernel
theorem dX4_settles_108 : decode cX4_settles 108 = .ok (.getfield 41, 3) := by decide +kernel
theorem dX4_settles_111 : decode cX4_settles 111 = .ok (.invokevirtual 181, 3) := by decide +kernel
theorem dX4_settles_114 : decode cX4_settles 114 = .ok (.istore 4, 2) := by decide +kernel
theorem dX4_settles_116 : decode cX4_settles 116 = .ok (.iload_n 3, 1) := by decide +kernel
theorem dX4_settles_117 : decode cX4_settles 117 = .ok (.ifCond .eq 11, 3) := by decide +kernel
theorem dX4_settles_120 : decode cX4_settles 120 = .ok (.aload_n 0, 1) := by decide +kernel
theorem dX4_settles_121 : decode cX4_settles 121 = .ok (.iload_n 1, 1) := by decide +kernel
theorem dX4_settles_122 : decode cX4_settles 122 = .ok (.iload 4, 2) := by decide +kernel
theorem dX4_settles_124 : decode cX4_settles 124 = .ok (.invokevirtual 186, 3) := by decide +kernel
theorem dX4_settles_127 : decode cX4_settles 127 = .ok (.ireturn, 1) := by decide +kernel
theorem dX4_settles_128 : decode cX4_settles 128 = .ok (.iinc 1 1, 3) := by decide +kernel
theorem dX4_settles_131 : decode cX4_settles 131 = .ok (.goto (-115), 3) := by decide +kernel
theorem dX4_settles_134 : decode cX4_settles 134 = .ok (.bipush (-9), 2) := by decide +kernel
theorem dX4_settles_136 : decode cX4_settles 136 = .ok (.ireturn, 1) := by decide +kernel
theorem dX4_mill_0 : decode cX4_mill 0 = .ok (.iload_n 1, 1) := by decide +kernel
theorem dX4_mill_1 : decode cX4_mill 1 = .ok (.i2l, 1) := by decide +kernel
theorem dX4_mill_2 : decode cX4_mill 2 = .ok (.lconst 0, 1) := by decide +kernel
theorem dX4_mill_3 : decode cX4_mill 3 = .ok (.ldc2_w 172, 3) := by decide +kernel
theorem dX4_mill_6 : decode cX4_mill 6 = .ok (.invokestatic 74, 3) := by decide +kernel
theorem dX4_mill_9 : decode cX4_mill 9 = .ok (.ifCond .ne 5, 3) := by decide +kernel
theorem dX4_mill_12 : decode cX4_mill 12 = .ok (.iconst (-1), 1) := by decide +kernel
theorem dX4_mill_13 : decode cX4_mill 13 = .ok (.ireturn, 1) := by decide +kernel
theorem dX4_mill_14 : decode cX4_mill 14 = .ok (.aload_n 0, 1) := by decide +kernel
theorem dX4_mill_15 : decode cX4_mill 15 = .ok (.getfield 136, 3) := by decide +kernel
theorem dX4_mill_18 : decode cX4_mill 18 = .ok (.ifCond .ne 6, 3) := by decide +kernel
theorem dX4_mill_21 : decode cX4_mill 21 = .ok (.bipush (-4), 2) := by decide +kernel
theorem dX4_mill_23 : decode cX4_mill 23 = .ok (.ireturn, 1) := by decide +kernel
theorem dX4_mill_24 : decode cX4_mill 24 = .ok (.aload_n 0, 1) := by decide +kernel
theorem dX4_mill_25 : decode cX4_mill 25 = .ok (.invokevirtual 191, 3) := by decide +kernel
theorem dX4_mill_28 : decode cX4_mill 28 = .ok (.iconst 0, 1) := by decide +kernel
theorem dX4_mill_29 : decode cX4_mill 29 = .ok (.istore_n 2, 1) := by decide +kernel
theorem dX4_mill_30 : decode cX4_mill 30 = .ok (.iload_n 2, 1) := by decide +kernel
theorem dX4_mill_31 : decode cX4_mill 31 = .ok (.bipush 61, 2) := by decide +kernel
theorem dX4_mill_33 : decode cX4_mill 33 = .ok (.if_icmp .ge 53, 3) := by decide +kernel
theorem dX4_mill_36 : decode cX4_mill 36 = .ok (.iconst 0, 1) := by decide +kernel
theorem dX4_mill_37 : decode cX4_mill 37 = .ok (.istore_n 3, 1) := by decide +kernel
theorem dX4_mill_38 : decode cX4_mill 38 = .ok (.iload_n 3, 1) := by decide +kernel
theorem dX4_mill_39 : decode cX4_mill 39 = .ok (.aload_n 0, 1) := by decide +kernel
theorem dX4_mill_40 : decode cX4_mill 40 = .ok (.getfield 136, 3) := by decide +kernel
theorem dX4_mill_43 : decode cX4_mill 43 = .ok (.if_icmp .ge 28, 3) := by decide +kernel
theorem dX4_mill_46 : decode cX4_mill 46 = .ok (.aload_n 0, 1) := by decide +kernel
theorem dX4_mill_47 : decode cX4_mill 47 = .ok (.getfield 41, 3) := by decide +kernel
theorem dX4_mill_50 : decode cX4_mill 50 = .ok (.iconst 1, 1) := by decide +kernel
theorem dX4_mill_51 : decode cX4_mill 51 = .ok (.iload_n 3, 1) := by decide +kernel
theorem dX4_mill_52 : decode cX4_mill 52 = .ok (.iadd, 1) := by decide +kernel
theorem dX4_mill_53 : decode cX4_mill 53 = .ok (.iaload, 1) := by decide +kernel
theorem dX4_mill_54 : decode cX4_mill 54 = .ok (.iload_n 1, 1) := by decide +kernel
theorem dX4_mill_55 : decode cX4_mill 55 = .ok (.if_icmp .lt 10, 3) := by decide +kernel
theorem dX4_mill_58 : decode cX4_mill 58 = .ok (.aload_n 0, 1) := by decide +kernel
theorem dX4_mill_59 : decode cX4_mill 59 = .ok (.iload_n 3, 1) := by decide +kernel
theorem dX4_mill_60 : decode cX4_mill 60 = .ok (.iload_n 2, 1) := by decide +kernel
theorem dX4_mill_61 : decode cX4_mill 61 = .ok (.invokevirtual 186, 3) := by decide +kernel
theorem dX4_mill_64 : decode cX4_mill 64 = .ok (.ireturn, 1) := by decide +kernel
theorem dX4_mill_65 : decode cX4_mill 65 = .ok (.iinc 3 1, 3) := by decide +kernel
theorem dX4_mill_68 : decode cX4_mill 68 = .ok (.goto (-30), 3) := by decide +kernel
theorem dX4_mill_71 : decode cX4_mill 71 = .ok (.aload_n 0, 1) := by decide +kernel
theorem dX4_mill_72 : decode cX4_mill 72 = .ok (.aload_n 0, 1) := by decide +kernel
theorem dX4_mill_73 : decode cX4_mill 73 = .ok (.getfield 41, 3) := by decide +kernel
theorem dX4_mill_76 : decode cX4_mill 76 = .ok (.invokevirtual 181, 3) := by decide +kernel
theorem dX4_mill_79 : decode cX4_mill 79 = .ok (.istore_n 3, 1) := by decide +kernel
theorem dX4_mill_80 : decode cX4_mill 80 = .ok (.iinc 2 1, 3) := by decide +kernel
theorem dX4_mill_83 : decode cX4_mill 83 = .ok (.goto (-53), 3) := by decide +kernel
theorem dX4_mill_86 : decode cX4_mill 86 = .ok (.bipush (-9), 2) := by decide +kernel
theorem dX4_mill_88 : decode cX4_mill 88 = .ok (.ireturn, 1) := by decide +kernel
theorem dX4_purseBehind_0 : decode cX4_purseBehind 0 = .ok (.aload_n 0, 1) := by decide +kernel
theorem dX4_purseBehind_1 : decode cX4_purseBehind 1 = .ok (.iload_n 2, 1) := by decide +kernel
theorem dX4_purseBehind_2 : decode cX4_purseBehind 2 = .ok (.invokevirtual 194, 3) := by decide +kernel
theorem dX4_purseBehind_5 : decode cX4_purseBehind 5 = .ok (.istore_n 3, 1) := by decide +kernel
theorem dX4_purseBehind_6 : decode cX4_purseBehind 6 = .ok (.aload_n 0, 1) := by decide +kernel
theorem dX4_purseBehind_7 : decode cX4_purseBehind 7 = .ok (.getfield 41, 3) := by decide +kernel
theorem dX4_purseBehind_10 : decode cX4_purseBehind 10 = .ok (.iconst 1, 1) := by decide +kernel
theorem dX4_purseBehind_11 : decode cX4_purseBehind 11 = .ok (.iload_n 1, 1) := by decide +kernel
theorem dX4_purseBehind_12 : decode cX4_purseBehind 12 = .ok (.iadd, 1) := by decide +kernel
theorem dX4_purseBehind_13 : decode cX4_purseBehind 13 = .ok (.iaload, 1) := by decide +kernel
theorem dX4_purseBehind_14 : decode cX4_purseBehind 14 = .ok (.ireturn, 1) := by decide +kernel
theorem dX4_gains_0 : decode cX4_gains 0 = .ok (.iload_n 1, 1) := by decide +kernel
theorem dX4_gains_1 : decode cX4_gains 1 = .ok (.i2l, 1) := by decide +kernel
theorem dX4_gains_2 : decode cX4_gains 2 = .ok (.lconst 1, 1) := by decide +kernel
theorem dX4_gains_3 : decode cX4_gains 3 = .ok (.ldc2_w 197, 3) := by decide +kernel
theorem dX4_gains_6 : decode cX4_gains 6 = .ok (.invokestatic 74, 3) := by decide +kernel
theorem dX4_gains_9 : decode cX4_gains 9 = .ok (.ifCond .ne 5, 3) := by decide +kernel
theorem dX4_gains_12 : decode cX4_gains 12 = .ok (.iconst (-1), 1) := by decide +kernel
theorem dX4_gains_13 : decode cX4_gains 13 = .ok (.ireturn, 1) := by decide +kernel
theorem dX4_gains_14 : decode cX4_gains 14 = .ok (.aload_n 0, 1) := by decide +kernel
theorem dX4_gains_15 : decode cX4_gains 15 = .ok (.getfield 136, 3) := by decide +kernel
theorem dX4_gains_18 : decode cX4_gains 18 = .ok (.ifCond .ne 6, 3) := by decide +kernel
theorem dX4_gains_21 : decode cX4_gains 21 = .ok (.bipush (-4), 2) := by decide +kernel
theorem dX4_gains_23 : decode cX4_gains 23 = .ok (.ireturn, 1) := by decide +kernel
theorem dX4_gains_24 : decode cX4_gains 24 = .ok (.iconst 0, 1) := by decide +kernel
theorem dX4_gains_25 : decode cX4_gains 25 = .ok (.istore_n 2, 1) := by decide +kernel
theorem dX4_gains_26 : decode cX4_gains 26 = .ok (.iconst 0, 1) := by decide +kernel
theorem dX4_gains_27 : decode cX4_gains 27 = .ok (.istore_n 3, 1) := by decide +kernel
theorem dX4_gains_28 : decode cX4_gains 28 = .ok (.iload_n 3, 1) := by decide +kernel
theorem dX4_gains_29 : decode cX4_gains 29 = .ok (.aload_n 0, 1) := by decide +kernel
theorem dX4_gains_30 : decode cX4_gains 30 = .ok (.getfield 136, 3) := by decide +kernel
theorem dX4_gains_33 : decode cX4_gains 33 = .ok (.if_icmp .ge 72, 3) := by decide +kernel
theorem dX4_gains_36 : decode cX4_gains 36 = .ok (.aload_n 0, 1) := by decide +kernel
theorem dX4_gains_37 : decode cX4_gains 37 = .ok (.getfield 38, 3) := by decide +kernel
theorem dX4_gains_40 : decode cX4_gains 40 = .ok (.bipush 7, 2) := by decide +kernel
theorem dX4_gains_42 : decode cX4_gains 42 = .ok (.iload_n 3, 1) := by decide +kernel
theorem dX4_gains_43 : decode cX4_gains 43 = .ok (.iadd, 1) := by decide +kernel
theorem dX4_gains_44 : decode cX4_gains 44 = .ok (.iaload, 1) := by decide +kernel
theorem dX4_gains_45 : decode cX4_gains 45 = .ok (.iconst 3, 1) := by decide +kernel
theorem dX4_gains_46 : decode cX4_gains 46 = .ok (.if_icmp .ge 53, 3) := by decide +kernel
theorem dX4_gains_49 : decode cX4_gains 49 = .ok (.aload_n 0, 1) := by decide +kernel
theorem dX4_gains_50 : decode cX4_gains 50 = .ok (.invokevirtual 191, 3) := by decide +kernel
theorem dX4_gains_53 : decode cX4_gains 53 = .ok (.aload_n 0, 1) := by decide +kernel
theorem dX4_gains_54 : decode cX4_gains 54 = .ok (.iload_n 3, 1) := by decide +kernel
theorem dX4_gains_55 : decode cX4_gains 55 = .ok (.iload_n 1, 1) := by decide +kernel
theorem dX4_gains_56 : decode cX4_gains 56 = .ok (.invokevirtual 199, 3) := by decide +kernel
theorem dX4_gains_59 : decode cX4_gains 59 = .ok (.istore 4, 2) := by decide +kernel
theorem dX4_gains_61 : decode cX4_gains 61 = .ok (.aload_n 0, 1) := by decide +kernel
theorem dX4_gains_62 : decode cX4_gains 62 = .ok (.invokevirtual 191, 3) := by decide +kernel
theorem dX4_gains_65 : decode cX4_gains 65 = .ok (.aload_n 0, 1) := by decide +kernel
theorem dX4_gains_66 : decode cX4_gains 66 = .ok (.getfield 41, 3) := by decide +kernel
theorem dX4_gains_69 : decode cX4_gains 69 = .ok (.bipush 7, 2) := by decide +kernel
theorem dX4_gains_71 : decode cX4_gains 71 = .ok (.iload_n 3, 1) := by decide +kernel
theorem dX4_gains_72 : decode cX4_gains 72 = .ok (.iadd, 1) := by decide +kernel
theorem dX4_gains_73 : decode cX4_gains 73 = .ok (.dup2, 1) := by decide +kernel
theorem dX4_gains_74 : decode cX4_gains 74 = .ok (.iaload, 1) := by decide +kernel
theorem dX4_gains_75 : decode cX4_gains 75 = .ok (.iconst 1, 1) := by decide +kernel
theorem dX4_gains_76 : decode cX4_gains 76 = .ok (.iadd, 1) := by decide +kernel
theorem dX4_gains_77 : decode cX4_gains 77 = .ok (.iastore, 1) := by decide +kernel
theorem dX4_gains_78 : decode cX4_gains 78 = .ok (.iload_n 2, 1) := by decide +kernel
theorem dX4_gains_79 : decode cX4_gains 79 = .ok (.aload_n 0, 1) := by decide +kernel
theorem dX4_gains_80 : decode cX4_gains 80 = .ok (.iload_n 3, 1) := by decide +kernel
theorem dX4_gains_81 : decode cX4_gains 81 = .ok (.iload_n 1, 1) := by decide +kernel
theorem dX4_gains_82 : decode cX4_gains 82 = .ok (.invokevirtual 199, 3) := by decide +kernel
theorem dX4_gains_85 : decode cX4_gains 85 = .ok (.iload 4, 2) := by decide +kernel
theorem dX4_gains_87 : decode cX4_gains 87 = .ok (.if_icmp .le 9, 3) := by decide +kernel
theorem dX4_gains_90 : decode cX4_gains 90 = .ok (.iconst 1, 1) := by decide +kernel
theorem dX4_gains_91 : decode cX4_gains 91 = .ok (.iload_n 3, 1) := by decide +kernel
theorem dX4_gains_92 : decode cX4_gains 92 = .ok (.ishl, 1) := by decide +kernel
theorem dX4_gains_93 : decode cX4_gains 93 = .ok (.goto 4, 3) := by decide +kernel
theorem dX4_gains_96 : decode cX4_gains 96 = .ok (.iconst 0, 1) := by decide +kernel
theorem dX4_gains_97 : decode cX4_gains 97 = .ok (.ior, 1) := by decide +kernel
theorem dX4_gains_98 : decode cX4_gains 98 = .ok (.istore_n 2, 1) := by decide +kernel
theorem dX4_gains_99 : decode cX4_gains 99 = .ok (.iinc 3 1, 3) := by decide +kernel
theorem dX4_gains_102 : decode cX4_gains 102 = .ok (.goto (-74), 3) := by decide +kernel
theorem dX4_gains_105 : decode cX4_gains 105 = .ok (.iload_n 2, 1) := by decide +kernel
theorem dX4_gains_106 : decode cX4_gains 106 = .ok (.ireturn, 1) := by decide +kernel
theorem dX4_laysSoot_0 : decode cX4_laysSoot 0 = .ok (.aload_n 0, 1) := by decide +kernel
theorem dX4_laysSoot_1 : decode cX4_laysSoot 1 = .ok (.invokevirtual 191, 3) := by decide +kernel
theorem dX4_laysSoot_4 : decode cX4_laysSoot 4 = .ok (.iconst 0, 1) := by decide +kernel
theorem dX4_laysSoot_5 : decode cX4_laysSoot 5 = .ok (.istore_n 2, 1) := by decide +kernel
theorem dX4_laysSoot_6 : decode cX4_laysSoot 6 = .ok (.iload_n 1, 1) := by decide +kernel
theorem dX4_laysSoot_7 : decode cX4_laysSoot 7 = .ok (.istore_n 3, 1) := by decide +kernel
theorem dX4_laysSoot_8 : decode cX4_laysSoot 8 = .ok (.aload_n 0, 1) := by decide +kernel
theorem dX4_laysSoot_9 : decode cX4_laysSoot 9 = .ok (.getfield 136, 3) := by decide +kernel
theorem dX4_laysSoot_12 : decode cX4_laysSoot 12 = .ok (.iconst 1, 1) := by decide +kernel
theorem dX4_laysSoot_13 : decode cX4_laysSoot 13 = .ok (.isub, 1) := by decide +kernel
theorem dX4_laysSoot_14 : decode cX4_laysSoot 14 = .ok (.istore 4, 2) := by decide +kernel
theorem dX4_laysSoot_16 : decode cX4_laysSoot 16 = .ok (.iload 4, 2) := by decide +kernel
theorem dX4_laysSoot_18 : decode cX4_laysSoot 18 = .ok (.ifCond .lt 57, 3) := by decide +kernel
theorem dX4_laysSoot_21 : decode cX4_laysSoot 21 = .ok (.aload_n 0, 1) := by decide +kernel
theorem dX4_laysSoot_22 : decode cX4_laysSoot 22 = .ok (.getfield 41, 3) := by decide +kernel
theorem dX4_laysSoot_25 : decode cX4_laysSoot 25 = .ok (.bipush 7, 2) := by decide +kernel
theorem dX4_laysSoot_27 : decode cX4_laysSoot 27 = .ok (.iload 4, 2) := by decide +kernel
theorem dX4_laysSoot_29 : decode cX4_laysSoot 29 = .ok (.iadd, 1) := by decide +kernel
theorem dX4_laysSoot_30 : decode cX4_laysSoot 30 = .ok (.iload_n 3, 1) := by decide +kernel
theorem dX4_laysSoot_31 : decode cX4_laysSoot 31 = .ok (.iconst 4, 1) := by decide +kernel
theorem dX4_laysSoot_32 : decode cX4_laysSoot 32 = .ok (.irem, 1) := by decide +kernel
theorem dX4_laysSoot_33 : decode cX4_laysSoot 33 = .ok (.iastore, 1) := by decide +kernel
theorem dX4_laysSoot_34 : decode cX4_laysSoot 34 = .ok (.iload_n 3, 1) := by decide +kernel
theorem dX4_laysSoot_35 : decode cX4_laysSoot 35 = .ok (.iconst 4, 1) := by decide +kernel
theorem dX4_laysSoot_36 : decode cX4_laysSoot 36 = .ok (.idiv, 1) := by decide +kernel
theorem dX4_laysSoot_37 : decode cX4_laysSoot 37 = .ok (.istore_n 3, 1) := by decide +kernel
theorem dX4_laysSoot_38 : decode cX4_laysSoot 38 = .ok (.iload_n 2, 1) := by decide +kernel
theorem dX4_laysSoot_39 : decode cX4_laysSoot 39 = .ok (.aload_n 0, 1) := by decide +kernel
theorem dX4_laysSoot_40 : decode cX4_laysSoot 40 = .ok (.getfield 41, 3) := by decide +kernel
theorem dX4_laysSoot_43 : decode cX4_laysSoot 43 = .ok (.bipush 7, 2) := by decide +kernel
theorem dX4_laysSoot_45 : decode cX4_laysSoot 45 = .ok (.iload 4, 2) := by decide +kernel
theorem dX4_laysSoot_47 : decode cX4_laysSoot 47 = .ok (.iadd, 1) := by decide +kernel
theorem dX4_laysSoot_48 : decode cX4_laysSoot 48 = .ok (.iaload, 1) := by decide +kernel
theorem dX4_laysSoot_49 : decode cX4_laysSoot 49 = .ok (.aload_n 0, 1) := by decide +kernel
theorem dX4_laysSoot_50 : decode cX4_laysSoot 50 = .ok (.getfield 38, 3) := by decide +kernel
theorem dX4_laysSoot_53 : decode cX4_laysSoot 53 = .ok (.bipush 7, 2) := by decide +kernel
theorem dX4_laysSoot_55 : decode cX4_laysSoot 55 = .ok (.iload 4, 2) := by decide +kernel
theorem dX4_laysSoot_57 : decode cX4_laysSoot 57 = .ok (.iadd, 1) := by decide +kernel
theorem dX4_laysSoot_58 : decode cX4_laysSoot 58 = .ok (.iaload, 1) := by decide +kernel
theorem dX4_laysSoot_59 : decode cX4_laysSoot 59 = .ok (.if_icmp .ne 7, 3) := by decide +kernel
theorem dX4_laysSoot_62 : decode cX4_laysSoot 62 = .ok (.iconst 0, 1) := by decide +kernel
theorem dX4_laysSoot_63 : decode cX4_laysSoot 63 = .ok (.goto 4, 3) := by decide +kernel
theorem dX4_laysSoot_66 : decode cX4_laysSoot 66 = .ok (.iconst 1, 1) := by decide +kernel
theorem dX4_laysSoot_67 : decode cX4_laysSoot 67 = .ok (.iadd, 1) := by decide +kernel
theorem dX4_laysSoot_68 : decode cX4_laysSoot 68 = .ok (.istore_n 2, 1) := by decide +kernel
theorem dX4_laysSoot_69 : decode cX4_laysSoot 69 = .ok (.iinc 4 (-1), 3) := by decide +kernel
theorem dX4_laysSoot_72 : decode cX4_laysSoot 72 = .ok (.goto (-56), 3) := by decide +kernel
theorem dX4_laysSoot_75 : decode cX4_laysSoot 75 = .ok (.iload_n 2, 1) := by decide +kernel
theorem dX4_laysSoot_76 : decode cX4_laysSoot 76 = .ok (.ireturn, 1) := by decide +kernel
theorem dX4_even_0 : decode cX4_even 0 = .ok (.aload_n 0, 1) := by decide +kernel
theorem dX4_even_1 : decode cX4_even 1 = .ok (.iload_n 1, 1) := by decide +kernel
theorem dX4_even_2 : decode cX4_even 2 = .ok (.invokevirtual 157, 3) := by decide +kernel
theorem dX4_even_5 : decode cX4_even 5 = .ok (.ifCond .eq 36, 3) := by decide +kernel
theorem dX4_even_8 : decode cX4_even 8 = .ok (.aload_n 0, 1) := by decide +kernel
theorem dX4_even_9 : decode cX4_even 9 = .ok (.iload_n 2, 1) := by decide +kernel
theorem dX4_even_10 : decode cX4_even 10 = .ok (.invokevirtual 157, 3) := by decide +kernel
theorem dX4_even_13 : decode cX4_even 13 = .ok (.ifCond .eq 28, 3) := by decide +kernel
theorem dX4_even_16 : decode cX4_even 16 = .ok (.iload_n 1, 1) := by decide +kernel
theorem dX4_even_17 : decode cX4_even 17 = .ok (.iload_n 2, 1) := by decide +kernel
theorem dX4_even_18 : decode cX4_even 18 = .ok (.if_icmp .eq 23, 3) := by decide +kernel
theorem dX4_even_21 : decode cX4_even 21 = .ok (.iload_n 3, 1) := by decide +kernel
theorem dX4_even_22 : decode cX4_even 22 = .ok (.i2l, 1) := by decide +kernel
theorem dX4_even_23 : decode cX4_even 23 = .ok (.lconst 0, 1) := by decide +kernel
theorem dX4_even_24 : decode cX4_even 24 = .ok (.ldc2_w 202, 3) := by decide +kernel
theorem dX4_even_27 : decode cX4_even 27 = .ok (.invokestatic 74, 3) := by decide +kernel
theorem dX4_even_30 : decode cX4_even 30 = .ok (.ifCond .eq 11, 3) := by decide +kernel
theorem dX4_even_33 : decode cX4_even 33 = .ok (.iload 4, 2) := by decide +kernel
theorem dX4_even_35 : decode cX4_even 35 = .ok (.invokestatic 80, 3) := by decide +kernel
theorem dX4_even_38 : decode cX4_even 38 = .ok (.ifCond .ne 5, 3) := by decide +kernel
theorem dX4_even_41 : decode cX4_even 41 = .ok (.iconst (-1), 1) := by decide +kernel
theorem dX4_even_42 : decode cX4_even 42 = .ok (.ireturn, 1) := by decide +kernel
theorem dX4_even_43 : decode cX4_even 43 = .ok (.bipush (-9), 2) := by decide +kernel
theorem dX4_even_45 : decode cX4_even 45 = .ok (.istore 5, 2) := by decide +kernel
theorem dX4_even_47 : decode cX4_even 47 = .ok (.ldc 204, 2) := by decide +kernel
theorem dX4_even_49 : decode cX4_even 49 = .ok (.istore 6, 2) := by decide +kernel
theorem dX4_even_51 : decode cX4_even 51 = .ok (.iconst 0, 1) := by decide +kernel
theorem dX4_even_52 : decode cX4_even 52 = .ok (.istore 7, 2) := by decide +kernel
theorem dX4_even_54 : decode cX4_even 54 = .ok (.iload 7, 2) := by decide +kernel
theorem dX4_even_56 : decode cX4_even 56 = .ok (.iconst 1, 1) := by decide +kernel
theorem dX4_even_57 : decode cX4_even 57 = .ok (.iconst 2, 1) := by decide +kernel
theorem dX4_even_58 : decode cX4_even 58 = .ok (.aload_n 0, 1) := by decide +kernel
theorem dX4_even_59 : decode cX4_even 59 = .ok (.getfield 136, 3) := by decide +kernel
theorem dX4_even_62 : decode cX4_even 62 = .ok (.imul, 1) := by decide +kernel
theorem dX4_even_63 : decode cX4_even 63 = .ok (.ishl, 1) := by decide +kernel
theorem dX4_even_64 : decode cX4_even 64 = .ok (.if_icmp .ge 85, 3) := by decide +kernel
theorem dX4_even_67 : decode cX4_even 67 = .ok (.aload_n 0, 1) := by decide +kernel
theorem dX4_even_68 : decode cX4_even 68 = .ok (.iload 7, 2) := by decide +kernel
theorem dX4_even_70 : decode cX4_even 70 = .ok (.invokevirtual 205, 3) := by decide +kernel
theorem dX4_even_73 : decode cX4_even 73 = .ok (.istore 8, 2) := by decide +kernel
theorem dX4_even_75 : decode cX4_even 75 = .ok (.iload 8, 2) := by decide +kernel
theorem dX4_even_77 : decode cX4_even 77 = .ok (.iload 6, 2) := by decide +kernel
theorem dX4_even_79 : decode cX4_even 79 = .ok (.if_icmp .ge 64, 3) := by decide +kernel
theorem dX4_even_82 : decode cX4_even 82 = .ok (.aload_n 0, 1) := by decide +kernel
theorem dX4_even_83 : decode cX4_even 83 = .ok (.iload_n 3, 1) := by decide +kernel
theorem dX4_even_84 : decode cX4_even 84 = .ok (.invokevirtual 194, 3) := by decide +kernel
theorem dX4_even_87 : decode cX4_even 87 = .ok (.istore 9, 2) := by decide +kernel
theorem dX4_even_89 : decode cX4_even 89 = .ok (.aload_n 0, 1) := by decide +kernel
theorem dX4_even_90 : decode cX4_even 90 = .ok (.getfield 41, 3) := by decide +kernel
theorem dX4_even_93 : decode cX4_even 93 = .ok (.iconst 1, 1) := by decide +kernel
theorem dX4_even_94 : decode cX4_even 94 = .ok (.iload_n 1, 1) := by decide +kernel
theorem dX4_even_95 : decode cX4_even 95 = .ok (.iadd, 1) := by decide +kernel
theorem dX4_even_96 : decode cX4_even 96 = .ok (.iaload, 1) := by decide +kernel
theorem dX4_even_97 : decode cX4_even 97 = .ok (.aload_n 0, 1) := by decide +kernel
theorem dX4_even_98 : decode cX4_even 98 = .ok (.getfield 41, 3) := by decide +kernel
theorem dX4_even_101 : decode cX4_even 101 = .ok (.iconst 1, 1) := by decide +kernel
theorem dX4_even_102 : decode cX4_even 102 = .ok (.iload_n 2, 1) := by decide +kernel
theorem dX4_even_103 : decode cX4_even 103 = .ok (.iadd, 1) := by decide +kernel
theorem dX4_even_104 : decode cX4_even 104 = .ok (.iaload, 1) := by decide +kernel
theorem dX4_even_105 : decode cX4_even 105 = .ok (.if_icmp .ne 7, 3) := by decide +kernel
theorem dX4_even_108 : decode cX4_even 108 = .ok (.iconst 1, 1) := by decide +kernel
theorem dX4_even_109 : decode cX4_even 109 = .ok (.goto 4, 3) := by decide +kernel
theorem dX4_even_112 : decode cX4_even 112 = .ok (.iconst 0, 1) := by decide +kernel
theorem dX4_even_113 : decode cX4_even 113 = .ok (.istore 10, 2) := by decide +kernel
theorem dX4_even_115 : decode cX4_even 115 = .ok (.iload 10, 2) := by decide +kernel
theorem dX4_even_117 : decode cX4_even 117 = .ok (.ifCond .eq 8, 3) := by decide +kernel
theorem dX4_even_120 : decode cX4_even 120 = .ok (.iload 7, 2) := by decide +kernel
theorem dX4_even_122 : decode cX4_even 122 = .ok (.goto 5, 3) := by decide +kernel
theorem dX4_even_125 : decode cX4_even 125 = .ok (.iload 5, 2) := by decide +kernel
theorem dX4_even_127 : decode cX4_even 127 = .ok (.istore 5, 2) := by decide +kernel
theorem dX4_even_129 : decode cX4_even 129 = .ok (.iload 10, 2) := by decide +kernel
theorem dX4_even_131 : decode cX4_even 131 = .ok (.ifCond .eq 8, 3) := by decide +kernel
theorem dX4_even_134 : decode cX4_even 134 = .ok (.iload 8, 2) := by decide +kernel
theorem dX4_even_136 : decode cX4_even 136 = .ok (.goto 5, 3) := by decide +kernel
theorem dX4_even_139 : decode cX4_even 139 = .ok (.iload 6, 2) := by decide +kernel
theorem dX4_even_141 : decode cX4_even 141 = .ok (.istore 6, 2) := by decide +kernel
theorem dX4_even_143 : decode cX4_even 143 = .ok (.iinc 7 1, 3) := by decide +kernel
theorem dX4_even_146 : decode cX4_even 146 = .ok (.goto (-92), 3) := by decide +kernel
theorem dX4_even_149 : decode cX4_even 149 = .ok (.iload 5, 2) := by decide +kernel
theorem dX4_even_151 : decode cX4_even 151 = .ok (.bipush (-9), 2) := by decide +kernel
theorem dX4_even_153 : decode cX4_even 153 = .ok (.if_icmp .ne 6, 3) := by decide +kernel
theorem dX4_even_156 : decode cX4_even 156 = .ok (.bipush (-9), 2) := by decide +kernel
theorem dX4_even_158 : decode cX4_even 158 = .ok (.ireturn, 1) := by decide +kernel
theorem dX4_even_159 : decode cX4_even 159 = .ok (.aload_n 0, 1) := by decide +kernel
theorem dX4_even_160 : decode cX4_even 160 = .ok (.iload 4, 2) := by decide +kernel
theorem dX4_even_162 : decode cX4_even 162 = .ok (.aload_n 0, 1) := by decide +kernel
theorem dX4_even_163 : decode cX4_even 163 = .ok (.getfield 136, 3) := by decide +kernel
theorem dX4_even_166 : decode cX4_even 166 = .ok (.invokevirtual 208, 3) := by decide +kernel
theorem dX4_even_169 : decode cX4_even 169 = .ok (.istore 7, 2) := by decide +kernel
theorem dX4_even_171 : decode cX4_even 171 = .ok (.aload_n 0, 1) := by decide +kernel
theorem dX4_even_172 : decode cX4_even 172 = .ok (.iload 5, 2) := by decide +kernel
theorem dX4_even_174 : decode cX4_even 174 = .ok (.invokevirtual 205, 3) := by decide +kernel
theorem dX4_even_177 : decode cX4_even 177 = .ok (.istore 8, 2) := by decide +kernel
theorem dX4_even_179 : decode cX4_even 179 = .ok (.iconst 0, 1) := by decide +kernel
theorem dX4_even_180 : decode cX4_even 180 = .ok (.istore 9, 2) := by decide +kernel
theorem dX4_even_182 : decode cX4_even 182 = .ok (.iload 9, 2) := by decide +kernel
theorem dX4_even_184 : decode cX4_even 184 = .ok (.aload_n 0, 1) := by decide +kernel
theorem dX4_even_185 : decode cX4_even 185 = .ok (.getfield 136, 3) := by decide +kernel
theorem dX4_even_188 : decode cX4_even 188 = .ok (.if_icmp .ge 32, 3) := by decide +kernel
theorem dX4_even_191 : decode cX4_even 191 = .ok (.aload_n 0, 1) := by decide +kernel
theorem dX4_even_192 : decode cX4_even 192 = .ok (.getfield 7, 3) := by decide +kernel
theorem dX4_even_195 : decode cX4_even 195 = .ok (.bipush 40, 2) := by decide +kernel
theorem dX4_even_197 : decode cX4_even 197 = .ok (.iload 4, 2) := by decide +kernel
theorem dX4_even_199 : decode cX4_even 199 = .ok (.imul, 1) := by decide +kernel
theorem dX4_even_200 : decode cX4_even 200 = .ok (.iload 9, 2) := by decide +kernel
theorem dX4_even_202 : decode cX4_even 202 = .ok (.iadd, 1) := by decide +kernel
theorem dX4_even_203 : decode cX4_even 203 = .ok (.aload_n 0, 1) := by decide +kernel
theorem dX4_even_204 : decode cX4_even 204 = .ok (.getfield 41, 3) := by decide +kernel
theorem dX4_even_207 : decode cX4_even 207 = .ok (.bipush 7, 2) := by decide +kernel
theorem dX4_even_209 : decode cX4_even 209 = .ok (.iload 9, 2) := by decide +kernel
theorem dX4_even_211 : decode cX4_even 211 = .ok (.iadd, 1) := by decide +kernel
theorem dX4_even_212 : decode cX4_even 212 = .ok (.iaload, 1) := by decide +kernel
theorem dX4_even_213 : decode cX4_even 213 = .ok (.iastore, 1) := by decide +kernel
theorem dX4_even_214 : decode cX4_even 214 = .ok (.iinc 9 1, 3) := by decide +kernel
theorem dX4_even_217 : decode cX4_even 217 = .ok (.goto (-35), 3) := by decide +kernel
theorem dX4_even_220 : decode cX4_even 220 = .ok (.iload 6, 2) := by decide +kernel
theorem dX4_even_222 : decode cX4_even 222 = .ok (.ireturn, 1) := by decide +kernel
theorem dX4_changes_0 : decode cX4_changes 0 = .ok (.aload_n 0, 1) := by decide +kernel
theorem dX4_changes_1 : decode cX4_changes 1 = .ok (.getfield 32, 3) := by decide +kernel
theorem dX4_changes_4 : decode cX4_changes 4 = .ok (.iload_n 1, 1) := by decide +kernel
theorem dX4_changes_5 : decode cX4_changes 5 = .ok (.iaload, 1) := by decide +kernel
theorem dX4_changes_6 : decode cX4_changes 6 = .ok (.istore_n 3, 1) := by decide +kernel
theorem dX4_changes_7 : decode cX4_changes 7 = .ok (.aload_n 0, 1) := by decide +kernel
theorem dX4_changes_8 : decode cX4_changes 8 = .ok (.getfield 32, 3) := by decide +kernel
theorem dX4_changes_11 : decode cX4_changes 11 = .ok (.iload_n 1, 1) := by decide +kernel
theorem dX4_changes_12 : decode cX4_changes 12 = .ok (.aload_n 0, 1) := by decide +kernel
theorem dX4_changes_13 : decode cX4_changes 13 = .ok (.getfield 32, 3) := by decide +kernel
theorem dX4_changes_16 : decode cX4_changes 16 = .ok (.iload_n 2, 1) := by decide +kernel
theorem dX4_changes_17 : decode cX4_changes 17 = .ok (.iaload, 1) := by decide +kernel
theorem dX4_changes_18 : decode cX4_changes 18 = .ok (.iastore, 1) := by decide +kernel
theorem dX4_changes_19 : decode cX4_changes 19 = .ok (.aload_n 0, 1) := by decide +kernel
theorem dX4_changes_20 : decode cX4_changes 20 = .ok (.getfield 32, 3) := by decide +kernel
theorem dX4_changes_23 : decode cX4_changes 23 = .ok (.iload_n 2, 1) := by decide +kernel
theorem dX4_changes_24 : decode cX4_changes 24 = .ok (.iload_n 3, 1) := by decide +kernel
theorem dX4_changes_25 : decode cX4_changes 25 = .ok (.iastore, 1) := by decide +kernel
theorem dX4_changes_26 : decode cX4_changes 26 = .ok (.return_, 1) := by decide +kernel
theorem dX4_change_0 : decode cX4_change 0 = .ok (.iload_n 1, 1) := by decide +kernel
theorem dX4_change_1 : decode cX4_change 1 = .ok (.i2l, 1) := by decide +kernel
theorem dX4_change_2 : decode cX4_change 2 = .ok (.lconst 1, 1) := by decide +kernel
theorem dX4_change_3 : decode cX4_change 3 = .ok (.ldc2_w 202, 3) := by decide +kernel
theorem dX4_change_6 : decode cX4_change 6 = .ok (.invokestatic 74, 3) := by decide +kernel
theorem dX4_change_9 : decode cX4_change 9 = .ok (.ifCond .ne 5, 3) := by decide +kernel
theorem dX4_change_12 : decode cX4_change 12 = .ok (.iconst (-1), 1) := by decide +kernel
theorem dX4_change_13 : decode cX4_change 13 = .ok (.ireturn, 1) := by decide +kernel
theorem dX4_change_14 : decode cX4_change 14 = .ok (.aload_n 0, 1) := by decide +kernel
theorem dX4_change_15 : decode cX4_change 15 = .ok (.getfield 136, 3) := by decide +kernel
theorem dX4_change_18 : decode cX4_change 18 = .ok (.ifCond .ne 6, 3) := by decide +kernel
theorem dX4_change_21 : decode cX4_change 21 = .ok (.bipush (-4), 2) := by decide +kernel
theorem dX4_change_23 : decode cX4_change 23 = .ok (.ireturn, 1) := by decide +kernel
theorem dX4_change_24 : decode cX4_change 24 = .ok (.aload_n 0, 1) := by decide +kernel
theorem dX4_change_25 : decode cX4_change 25 = .ok (.invokevirtual 191, 3) := by decide +kernel
theorem dX4_change_28 : decode cX4_change 28 = .ok (.aload_n 0, 1) := by decide +kernel
theorem dX4_change_29 : decode cX4_change 29 = .ok (.iload_n 1, 1) := by decide +kernel
theorem dX4_change_30 : decode cX4_change 30 = .ok (.invokevirtual 194, 3) := by decide +kernel
theorem dX4_change_33 : decode cX4_change 33 = .ok (.istore_n 2, 1) := by decide +kernel
theorem dX4_change_34 : decode cX4_change 34 = .ok (.bipush (-9), 2) := by decide +kernel
theorem dX4_change_36 : decode cX4_change 36 = .ok (.istore_n 3, 1) := by decide +kernel
theorem dX4_change_37 : decode cX4_change 37 = .ok (.iconst 0, 1) := by decide +kernel
theorem dX4_change_38 : decode cX4_change 38 = .ok (.istore 4, 2) := by decide +kernel
theorem dX4_change_40 : decode cX4_change 40 = .ok (.iload 4, 2) := by decide +kernel
theorem dX4_change_42 : decode cX4_change 42 = .ok (.aload_n 0, 1) := by decide +kernel
theorem dX4_change_43 : decode cX4_change 43 = .ok (.getfield 136, 3) := by decide +kernel
theorem dX4_change_46 : decode cX4_change 46 = .ok (.if_icmp .ge 83, 3) := by decide +kernel
theorem dX4_change_49 : decode cX4_change 49 = .ok (.iload 4, 2) := by decide +kernel
theorem dX4_change_51 : decode cX4_change 51 = .ok (.iconst 1, 1) := by decide +kernel
theorem dX4_change_52 : decode cX4_change 52 = .ok (.iadd, 1) := by decide +kernel
theorem dX4_change_53 : decode cX4_change 53 = .ok (.istore 5, 2) := by decide +kernel
theorem dX4_change_55 : decode cX4_change 55 = .ok (.iload 5, 2) := by decide +kernel
theorem dX4_change_57 : decode cX4_change 57 = .ok (.aload_n 0, 1) := by decide +kernel
theorem dX4_change_58 : decode cX4_change 58 = .ok (.getfield 136, 3) := by decide +kernel
theorem dX4_change_61 : decode cX4_change 61 = .ok (.if_icmp .ge 62, 3) := by decide +kernel
theorem dX4_change_64 : decode cX4_change 64 = .ok (.aload_n 0, 1) := by decide +kernel
theorem dX4_change_65 : decode cX4_change 65 = .ok (.iload 4, 2) := by decide +kernel
theorem dX4_change_67 : decode cX4_change 67 = .ok (.iload 5, 2) := by decide +kernel
theorem dX4_change_69 : decode cX4_change 69 = .ok (.invokevirtual 211, 3) := by decide +kernel
theorem dX4_change_72 : decode cX4_change 72 = .ok (.aload_n 0, 1) := by decide +kernel
theorem dX4_change_73 : decode cX4_change 73 = .ok (.invokevirtual 191, 3) := by decide +kernel
theorem dX4_change_76 : decode cX4_change 76 = .ok (.aload_n 0, 1) := by decide +kernel
theorem dX4_change_77 : decode cX4_change 77 = .ok (.iload_n 1, 1) := by decide +kernel
theorem dX4_change_78 : decode cX4_change 78 = .ok (.invokevirtual 194, 3) := by decide +kernel
theorem dX4_change_81 : decode cX4_change 81 = .ok (.istore 6, 2) := by decide +kernel
theorem dX4_change_83 : decode cX4_change 83 = .ok (.aload_n 0, 1) := by decide +kernel
theorem dX4_change_84 : decode cX4_change 84 = .ok (.iload 4, 2) := by decide +kernel
theorem dX4_change_86 : decode cX4_change 86 = .ok (.iload 5, 2) := by decide +kernel
theorem dX4_change_88 : decode cX4_change 88 = .ok (.invokevirtual 211, 3) := by decide +kernel
theorem dX4_change_91 : decode cX4_change 91 = .ok (.iload 6, 2) := by decide +kernel
theorem dX4_change_93 : decode cX4_change 93 = .ok (.iload_n 2, 1) := by decide +kernel
theorem dX4_change_94 : decode cX4_change 94 = .ok (.if_icmp .ge 14, 3) := by decide +kernel
theorem dX4_change_97 : decode cX4_change 97 = .ok (.bipush 10, 2) := by decide +kernel
theorem dX4_change_99 : decode cX4_change 99 = .ok (.iload 4, 2) := by decide +kernel
theorem dX4_change_101 : decode cX4_change 101 = .ok (.imul, 1) := by decide +kernel
theorem dX4_change_102 : decode cX4_change 102 = .ok (.iload 5, 2) := by decide +kernel
theorem dX4_change_104 : decode cX4_change 104 = .ok (.iadd, 1) := by decide +kernel
theorem dX4_change_105 : decode cX4_change 105 = .ok (.goto 4, 3) := by decide +kernel
theorem dX4_change_108 : decode cX4_change 108 = .ok (.iload_n 3, 1) := by decide +kernel
theorem dX4_change_109 : decode cX4_change 109 = .ok (.istore_n 3, 1) := by decide +kernel
theorem dX4_change_110 : decode cX4_change 110 = .ok (.iload 6, 2) := by decide +kernel
theorem dX4_change_112 : decode cX4_change 112 = .ok (.iload_n 2, 1) := by decide +kernel
theorem dX4_change_113 : decode cX4_change 113 = .ok (.invokestatic 143, 3) := by decide +kernel
theorem dX4_change_116 : decode cX4_change 116 = .ok (.istore_n 2, 1) := by decide +kernel
theorem dX4_change_117 : decode cX4_change 117 = .ok (.iinc 5 1, 3) := by decide +kernel
theorem dX4_change_120 : decode cX4_change 120 = .ok (.goto (-65), 3) := by decide +kernel
theorem dX4_change_123 : decode cX4_change 123 = .ok (.iinc 4 1, 3) := by decide +kernel
theorem dX4_change_126 : decode cX4_change 126 = .ok (.goto (-86), 3) := by decide +kernel
theorem dX4_change_129 : decode cX4_change 129 = .ok (.iload_n 3, 1) := by decide +kernel
theorem dX4_change_130 : decode cX4_change 130 = .ok (.bipush (-9), 2) := by decide +kernel
theorem dX4_change_132 : decode cX4_change 132 = .ok (.if_icmp .ne 8, 3) := by decide +kernel
theorem dX4_change_135 : decode cX4_change 135 = .ok (.bipush (-9), 2) := by decide +kernel
theorem dX4_change_137 : decode cX4_change 137 = .ok (.goto 9, 3) := by decide +kernel
theorem dX4_change_140 : decode cX4_change 140 = .ok (.aload_n 0, 1) := by decide +kernel
theorem dX4_change_141 : decode cX4_change 141 = .ok (.iload_n 3, 1) := by decide +kernel
theorem dX4_change_142 : decode cX4_change 142 = .ok (.iload_n 2, 1) := by decide +kernel
theorem dX4_change_143 : decode cX4_change 143 = .ok (.invokevirtual 186, 3) := by decide +kernel
theorem dX4_change_146 : decode cX4_change 146 = .ok (.ireturn, 1) := by decide +kernel
theorem dX4_refusesPairs_0 : decode cX4_refusesPairs 0 = .ok (.aload_n 0, 1) := by decide +kernel
theorem dX4_refusesPairs_1 : decode cX4_refusesPairs 1 = .ok (.getfield 13, 3) := by decide +kernel
theorem dX4_refusesPairs_4 : decode cX4_refusesPairs 4 = .ok (.iload_n 1, 1) := by decide +kernel
theorem dX4_refusesPairs_5 : decode cX4_refusesPairs 5 = .ok (.iaload, 1) := by decide +kernel
theorem dX4_refusesPairs_6 : decode cX4_refusesPairs 6 = .ok (.ifCond .ge 9, 3) := by decide +kernel
theorem dX4_refusesPairs_9 : decode cX4_refusesPairs 9 = .ok (.aload_n 0, 1) := by decide +kernel
theorem dX4_refusesPairs_10 : decode cX4_refusesPairs 10 = .ok (.iconst 1, 1) := by decide +kernel
theorem dX4_refusesPairs_11 : decode cX4_refusesPairs 11 = .ok (.invokevirtual 84, 3) := by decide +kernel
theorem dX4_refusesPairs_14 : decode cX4_refusesPairs 14 = .ok (.ireturn, 1) := by decide +kernel
theorem dX4_refusesPairs_15 : decode cX4_refusesPairs 15 = .ok (.aload_n 0, 1) := by decide +kernel
theorem dX4_refusesPairs_16 : decode cX4_refusesPairs 16 = .ok (.getfield 13, 3) := by decide +kernel
theorem dX4_refusesPairs_19 : decode cX4_refusesPairs 19 = .ok (.iload_n 1, 1) := by decide +kernel
theorem dX4_refusesPairs_20 : decode cX4_refusesPairs 20 = .ok (.iaload, 1) := by decide +kernel
theorem dX4_refusesPairs_21 : decode cX4_refusesPairs 21 = .ok (.iconst 2, 1) := by decide +kernel
theorem dX4_refusesPairs_22 : decode cX4_refusesPairs 22 = .ok (.irem, 1) := by decide +kernel
theorem dX4_refusesPairs_23 : decode cX4_refusesPairs 23 = .ok (.iconst 1, 1) := by decide +kernel
theorem dX4_refusesPairs_24 : decode cX4_refusesPairs 24 = .ok (.if_icmp .ne 9, 3) := by decide +kernel
theorem dX4_refusesPairs_27 : decode cX4_refusesPairs 27 = .ok (.aload_n 0, 1) := by decide +kernel
theorem dX4_refusesPairs_28 : decode cX4_refusesPairs 28 = .ok (.iconst 5, 1) := by decide +kernel
theorem dX4_refusesPairs_29 : decode cX4_refusesPairs 29 = .ok (.invokevirtual 84, 3) := by decide +kernel
theorem dX4_refusesPairs_32 : decode cX4_refusesPairs 32 = .ok (.ireturn, 1) := by decide +kernel
theorem dX4_refusesPairs_33 : decode cX4_refusesPairs 33 = .ok (.iconst 0, 1) := by decide +kernel
theorem dX4_refusesPairs_34 : decode cX4_refusesPairs 34 = .ok (.istore_n 2, 1) := by decide +kernel
theorem dX4_refusesPairs_35 : decode cX4_refusesPairs 35 = .ok (.iload_n 2, 1) := by decide +kernel
theorem dX4_refusesPairs_36 : decode cX4_refusesPairs 36 = .ok (.aload_n 0, 1) := by decide +kernel
theorem dX4_refusesPairs_37 : decode cX4_refusesPairs 37 = .ok (.getfield 13, 3) := by decide +kernel
theorem dX4_refusesPairs_40 : decode cX4_refusesPairs 40 = .ok (.iload_n 1, 1) := by decide +kernel
theorem dX4_refusesPairs_41 : decode cX4_refusesPairs 41 = .ok (.iaload, 1) := by decide +kernel
theorem dX4_refusesPairs_42 : decode cX4_refusesPairs 42 = .ok (.if_icmp .ge 61, 3) := by decide +kernel
theorem dX4_refusesPairs_45 : decode cX4_refusesPairs 45 = .ok (.aload_n 0, 1) := by decide +kernel
theorem dX4_refusesPairs_46 : decode cX4_refusesPairs 46 = .ok (.getfield 7, 3) := by decide +kernel
theorem dX4_refusesPairs_49 : decode cX4_refusesPairs 49 = .ok (.bipush 40, 2) := by decide +kernel
theorem dX4_refusesPairs_51 : decode cX4_refusesPairs 51 = .ok (.iload_n 1, 1) := by decide +kernel
theorem dX4_refusesPairs_52 : decode cX4_refusesPairs 52 = .ok (.imul, 1) := by decide +kernel
theorem dX4_refusesPairs_53 : decode cX4_refusesPairs 53 = .ok (.iload_n 2, 1) := by decide +kernel
theorem dX4_refusesPairs_54 : decode cX4_refusesPairs 54 = .ok (.iadd, 1) := by decide +kernel
theorem dX4_refusesPairs_55 : decode cX4_refusesPairs 55 = .ok (.iaload, 1) := by decide +kernel
theorem dX4_refusesPairs_56 : decode cX4_refusesPairs 56 = .ok (.i2l, 1) := by decide +kernel
theorem dX4_refusesPairs_57 : decode cX4_refusesPairs 57 = .ok (.lconst 0, 1) := by decide +kernel
theorem dX4_refusesPairs_58 : decode cX4_refusesPairs 58 = .ok (.ldc2_w 172, 3) := by decide +kernel
theorem dX4_refusesPairs_61 : decode cX4_refusesPairs 61 = .ok (.invokestatic 74, 3) := by decide +kernel
theorem dX4_refusesPairs_64 : decode cX4_refusesPairs 64 = .ok (.ifCond .eq 27, 3) := by decide +kernel
theorem dX4_refusesPairs_67 : decode cX4_refusesPairs 67 = .ok (.aload_n 0, 1) := by decide +kernel
theorem dX4_refusesPairs_68 : decode cX4_refusesPairs 68 = .ok (.getfield 7, 3) := by decide +kernel
theorem dX4_refusesPairs_71 : decode cX4_refusesPairs 71 = .ok (.bipush 40, 2) := by decide +kernel
theorem dX4_refusesPairs_73 : decode cX4_refusesPairs 73 = .ok (.iload_n 1, 1) := by decide +kernel
theorem dX4_refusesPairs_74 : decode cX4_refusesPairs 74 = .ok (.imul, 1) := by decide +kernel
theorem dX4_refusesPairs_75 : decode cX4_refusesPairs 75 = .ok (.iload_n 2, 1) := by decide +kernel
theorem dX4_refusesPairs_76 : decode cX4_refusesPairs 76 = .ok (.iadd, 1) := by decide +kernel
theorem dX4_refusesPairs_77 : decode cX4_refusesPairs 77 = .ok (.iconst 1, 1) := by decide +kernel
theorem dX4_refusesPairs_78 : decode cX4_refusesPairs 78 = .ok (.iadd, 1) := by decide +kernel
theorem dX4_refusesPairs_79 : decode cX4_refusesPairs 79 = .ok (.iaload, 1) := by decide +kernel
theorem dX4_refusesPairs_80 : decode cX4_refusesPairs 80 = .ok (.i2l, 1) := by decide +kernel
theorem dX4_refusesPairs_81 : decode cX4_refusesPairs 81 = .ok (.lconst 0, 1) := by decide +kernel
theorem dX4_refusesPairs_82 : decode cX4_refusesPairs 82 = .ok (.ldc2_w 215, 3) := by decide +kernel
theorem dX4_refusesPairs_85 : decode cX4_refusesPairs 85 = .ok (.invokestatic 74, 3) := by decide +kernel
theorem dX4_refusesPairs_88 : decode cX4_refusesPairs 88 = .ok (.ifCond .ne 9, 3) := by decide +kernel
theorem dX4_refusesPairs_91 : decode cX4_refusesPairs 91 = .ok (.aload_n 0, 1) := by decide +kernel
theorem dX4_refusesPairs_92 : decode cX4_refusesPairs 92 = .ok (.iconst 3, 1) := by decide +kernel
theorem dX4_refusesPairs_93 : decode cX4_refusesPairs 93 = .ok (.invokevirtual 84, 3) := by decide +kernel
theorem dX4_refusesPairs_96 : decode cX4_refusesPairs 96 = .ok (.ireturn, 1) := by decide +kernel
theorem dX4_refusesPairs_97 : decode cX4_refusesPairs 97 = .ok (.iinc 2 2, 3) := by decide +kernel
theorem dX4_refusesPairs_100 : decode cX4_refusesPairs 100 = .ok (.goto (-65), 3) := by decide +kernel
theorem dX4_refusesPairs_103 : decode cX4_refusesPairs 103 = .ok (.iconst 0, 1) := by decide +kernel
theorem dX4_refusesPairs_104 : decode cX4_refusesPairs 104 = .ok (.ireturn, 1) := by decide +kernel
theorem dX4_isSo_0 : decode cX4_isSo 0 = .ok (.iconst 1, 1) := by decide +kernel
theorem dX4_isSo_1 : decode cX4_isSo 1 = .ok (.istore 5, 2) := by decide +kernel
theorem dX4_isSo_3 : decode cX4_isSo 3 = .ok (.iconst 0, 1) := by decide +kernel
theorem dX4_isSo_4 : decode cX4_isSo 4 = .ok (.istore 6, 2) := by decide +kernel
theorem dX4_isSo_6 : decode cX4_isSo 6 = .ok (.iload 6, 2) := by decide +kernel
theorem dX4_isSo_8 : decode cX4_isSo 8 = .ok (.aload_n 0, 1) := by decide +kernel
theorem dX4_isSo_9 : decode cX4_isSo 9 = .ok (.getfield 13, 3) := by decide +kernel
theorem dX4_isSo_12 : decode cX4_isSo 12 = .ok (.iload 4, 2) := by decide +kernel
theorem dX4_isSo_14 : decode cX4_isSo 14 = .ok (.iaload, 1) := by decide +kernel
theorem dX4_isSo_15 : decode cX4_isSo 15 = .ok (.if_icmp .ge 66, 3) := by decide +kernel
theorem dX4_isSo_18 : decode cX4_isSo 18 = .ok (.iload 5, 2) := by decide +kernel
theorem dX4_isSo_20 : decode cX4_isSo 20 = .ok (.ifCond .eq 52, 3) := by decide +kernel
theorem dX4_isSo_23 : decode cX4_isSo 23 = .ok (.iload_n 1, 1) := by decide +kernel
theorem dX4_isSo_24 : decode cX4_isSo 24 = .ok (.iload_n 2, 1) := by decide +kernel
theorem dX4_isSo_25 : decode cX4_isSo 25 = .ok (.aload_n 0, 1) := by decide +kernel
theorem dX4_isSo_26 : decode cX4_isSo 26 = .ok (.getfield 38, 3) := by decide +kernel
theorem dX4_isSo_29 : decode cX4_isSo 29 = .ok (.bipush 7, 2) := by decide +kernel
theorem dX4_isSo_31 : decode cX4_isSo 31 = .ok (.iload_n 3, 1) := by decide +kernel
theorem dX4_isSo_32 : decode cX4_isSo 32 = .ok (.iadd, 1) := by decide +kernel
theorem dX4_isSo_33 : decode cX4_isSo 33 = .ok (.iaload, 1) := by decide +kernel
theorem dX4_isSo_34 : decode cX4_isSo 34 = .ok (.aload_n 0, 1) := by decide +kernel
theorem dX4_isSo_35 : decode cX4_isSo 35 = .ok (.getfield 7, 3) := by decide +kernel
theorem dX4_isSo_38 : decode cX4_isSo 38 = .ok (.bipush 40, 2) := by decide +kernel
theorem dX4_isSo_40 : decode cX4_isSo 40 = .ok (.iload 4, 2) := by decide +kernel
theorem dX4_isSo_42 : decode cX4_isSo 42 = .ok (.imul, 1) := by decide +kernel
theorem dX4_isSo_43 : decode cX4_isSo 43 = .ok (.iload 6, 2) := by decide +kernel
theorem dX4_isSo_45 : decode cX4_isSo 45 = .ok (.iadd, 1) := by decide +kernel
theorem dX4_isSo_46 : decode cX4_isSo 46 = .ok (.iaload, 1) := by decide +kernel
theorem dX4_isSo_47 : decode cX4_isSo 47 = .ok (.invokestatic 146, 3) := by decide +kernel
theorem dX4_isSo_50 : decode cX4_isSo 50 = .ok (.aload_n 0, 1) := by decide +kernel
theorem dX4_isSo_51 : decode cX4_isSo 51 = .ok (.getfield 7, 3) := by decide +kernel
theorem dX4_isSo_54 : decode cX4_isSo 54 = .ok (.bipush 40, 2) := by decide +kernel
theorem dX4_isSo_56 : decode cX4_isSo 56 = .ok (.iload 4, 2) := by decide +kernel
theorem dX4_isSo_58 : decode cX4_isSo 58 = .ok (.imul, 1) := by decide +kernel
theorem dX4_isSo_59 : decode cX4_isSo 59 = .ok (.iload 6, 2) := by decide +kernel
theorem dX4_isSo_61 : decode cX4_isSo 61 = .ok (.iadd, 1) := by decide +kernel
theorem dX4_isSo_62 : decode cX4_isSo 62 = .ok (.iconst 1, 1) := by decide +kernel
theorem dX4_isSo_63 : decode cX4_isSo 63 = .ok (.iadd, 1) := by decide +kernel
theorem dX4_isSo_64 : decode cX4_isSo 64 = .ok (.iaload, 1) := by decide +kernel
theorem dX4_isSo_65 : decode cX4_isSo 65 = .ok (.if_icmp .ne 7, 3) := by decide +kernel
theorem dX4_isSo_68 : decode cX4_isSo 68 = .ok (.iconst 1, 1) := by decide +kernel
theorem dX4_isSo_69 : decode cX4_isSo 69 = .ok (.goto 4, 3) := by decide +kernel
theorem dX4_isSo_72 : decode cX4_isSo 72 = .ok (.iconst 0, 1) := by decide +kernel
theorem dX4_isSo_73 : decode cX4_isSo 73 = .ok (.istore 5, 2) := by decide +kernel
theorem dX4_isSo_75 : decode cX4_isSo 75 = .ok (.iinc 6 2, 3) := by decide +kernel
theorem dX4_isSo_78 : decode cX4_isSo 78 = .ok (.goto (-72), 3) := by decide +kernel
theorem dX4_isSo_81 : decode cX4_isSo 81 = .ok (.iload 5, 2) := by decide +kernel
theorem dX4_isSo_83 : decode cX4_isSo 83 = .ok (.ireturn, 1) := by decide +kernel
theorem dX4_looks_0 : decode cX4_looks 0 = .ok (.aload_n 0, 1) := by decide +kernel
theorem dX4_looks_1 : decode cX4_looks 1 = .ok (.iload_n 1, 1) := by decide +kernel
theorem dX4_looks_2 : decode cX4_looks 2 = .ok (.invokevirtual 157, 3) := by decide +kernel
theorem dX4_looks_5 : decode cX4_looks 5 = .ok (.ifCond .eq 10, 3) := by decide +kernel
theorem dX4_looks_8 : decode cX4_looks 8 = .ok (.iload_n 2, 1) := by decide +kernel
theorem dX4_looks_9 : decode cX4_looks 9 = .ok (.invokestatic 80, 3) := by decide +kernel
theorem dX4_looks_12 : decode cX4_looks 12 = .ok (.ifCond .ne 5, 3) := by decide +kernel
theorem dX4_looks_15 : decode cX4_looks 15 = .ok (.iconst (-1), 1) := by decide +kernel
theorem dX4_looks_16 : decode cX4_looks 16 = .ok (.ireturn, 1) := by decide +kernel
theorem dX4_looks_17 : decode cX4_looks 17 = .ok (.aload_n 0, 1) := by decide +kernel
theorem dX4_looks_18 : decode cX4_looks 18 = .ok (.iload_n 2, 1) := by decide +kernel
theorem dX4_looks_19 : decode cX4_looks 19 = .ok (.invokevirtual 217, 3) := by decide +kernel
theorem dX4_looks_22 : decode cX4_looks 22 = .ok (.istore_n 3, 1) := by decide +kernel
theorem dX4_looks_23 : decode cX4_looks 23 = .ok (.iload_n 3, 1) := by decide +kernel
theorem dX4_looks_24 : decode cX4_looks 24 = .ok (.ifCond .eq 5, 3) := by decide +kernel
theorem dX4_looks_27 : decode cX4_looks 27 = .ok (.iload_n 3, 1) := by decide +kernel
theorem dX4_looks_28 : decode cX4_looks 28 = .ok (.ireturn, 1) := by decide +kernel
theorem dX4_looks_29 : decode cX4_looks 29 = .ok (.iconst 0, 1) := by decide +kernel
theorem dX4_looks_30 : decode cX4_looks 30 = .ok (.istore 4, 2) := by decide +kernel
theorem dX4_looks_32 : decode cX4_looks 32 = .ok (.iconst 0, 1) := by decide +kernel
theorem dX4_looks_33 : decode cX4_looks 33 = .ok (.istore 5, 2) := by decide +kernel
theorem dX4_looks_35 : decode cX4_looks 35 = .ok (.iload 5, 2) := by decide +kernel
theorem dX4_looks_37 : decode cX4_looks 37 = .ok (.bipush 10, 2) := by decide +kernel
theorem dX4_looks_39 : decode cX4_looks 39 = .ok (.if_icmp .ge 39, 3) := by decide +kernel
theorem dX4_looks_42 : decode cX4_looks 42 = .ok (.iload 4, 2) := by decide +kernel
theorem dX4_looks_44 : decode cX4_looks 44 = .ok (.aload_n 0, 1) := by decide +kernel
theorem dX4_looks_45 : decode cX4_looks 45 = .ok (.aload_n 0, 1) := by decide +kernel
theorem dX4_looks_46 : decode cX4_looks 46 = .ok (.getfield 29, 3) := by decide +kernel
theorem dX4_looks_49 : decode cX4_looks 49 = .ok (.iload_n 1, 1) := by decide +kernel
theorem dX4_looks_50 : decode cX4_looks 50 = .ok (.iaload, 1) := by decide +kernel
theorem dX4_looks_51 : decode cX4_looks 51 = .ok (.iload 5, 2) := by decide +kernel
theorem dX4_looks_53 : decode cX4_looks 53 = .ok (.iload_n 1, 1) := by decide +kernel
theorem dX4_looks_54 : decode cX4_looks 54 = .ok (.iload_n 2, 1) := by decide +kernel
theorem dX4_looks_55 : decode cX4_looks 55 = .ok (.invokevirtual 220, 3) := by decide +kernel
theorem dX4_looks_58 : decode cX4_looks 58 = .ok (.ifCond .eq 10, 3) := by decide +kernel
theorem dX4_looks_61 : decode cX4_looks 61 = .ok (.iconst 1, 1) := by decide +kernel
theorem dX4_looks_62 : decode cX4_looks 62 = .ok (.iload 5, 2) := by decide +kernel
theorem dX4_looks_64 : decode cX4_looks 64 = .ok (.ishl, 1) := by decide +kernel
theorem dX4_looks_65 : decode cX4_looks 65 = .ok (.goto 4, 3) := by decide +kernel
theorem dX4_looks_68 : decode cX4_looks 68 = .ok (.iconst 0, 1) := by decide +kernel
theorem dX4_looks_69 : decode cX4_looks 69 = .ok (.ior, 1) := by decide +kernel
theorem dX4_looks_70 : decode cX4_looks 70 = .ok (.istore 4, 2) := by decide +kernel
theorem dX4_looks_72 : decode cX4_looks 72 = .ok (.iinc 5 1, 3) := by decide +kernel
theorem dX4_looks_75 : decode cX4_looks 75 = .ok (.goto (-40), 3) := by decide +kernel
theorem dX4_looks_78 : decode cX4_looks 78 = .ok (.iload 4, 2) := by decide +kernel
theorem dX4_looks_80 : decode cX4_looks 80 = .ok (.ireturn, 1) := by decide +kernel
theorem dX4_kindsOf_0 : decode cX4_kindsOf 0 = .ok (.iconst 0, 1) := by decide +kernel
theorem dX4_kindsOf_1 : decode cX4_kindsOf 1 = .ok (.istore_n 3, 1) := by decide +kernel
theorem dX4_kindsOf_2 : decode cX4_kindsOf 2 = .ok (.iconst 0, 1) := by decide +kernel
theorem dX4_kindsOf_3 : decode cX4_kindsOf 3 = .ok (.istore 4, 2) := by decide +kernel
theorem dX4_kindsOf_5 : decode cX4_kindsOf 5 = .ok (.iload 4, 2) := by decide +kernel
theorem dX4_kindsOf_7 : decode cX4_kindsOf 7 = .ok (.bipush 6, 2) := by decide +kernel
theorem dX4_kindsOf_9 : decode cX4_kindsOf 9 = .ok (.if_icmp .ge 37, 3) := by decide +kernel
theorem dX4_kindsOf_12 : decode cX4_kindsOf 12 = .ok (.iload_n 3, 1) := by decide +kernel
theorem dX4_kindsOf_13 : decode cX4_kindsOf 13 = .ok (.aload_n 0, 1) := by decide +kernel
theorem dX4_kindsOf_14 : decode cX4_kindsOf 14 = .ok (.iload 4, 2) := by decide +kernel
theorem dX4_kindsOf_16 : decode cX4_kindsOf 16 = .ok (.aload_n 0, 1) := by decide +kernel
theorem dX4_kindsOf_17 : decode cX4_kindsOf 17 = .ok (.getfield 32, 3) := by decide +kernel
theorem dX4_kindsOf_20 : decode cX4_kindsOf 20 = .ok (.iload_n 1, 1) := by decide +kernel
theorem dX4_kindsOf_21 : decode cX4_kindsOf 21 = .ok (.iaload, 1) := by decide +kernel
theorem dX4_kindsOf_22 : decode cX4_kindsOf 22 = .ok (.iload_n 1, 1) := by decide +kernel
theorem dX4_kindsOf_23 : decode cX4_kindsOf 23 = .ok (.iload_n 2, 1) := by decide +kernel
theorem dX4_kindsOf_24 : decode cX4_kindsOf 24 = .ok (.invokevirtual 220, 3) := by decide +kernel
theorem dX4_kindsOf_27 : decode cX4_kindsOf 27 = .ok (.ifCond .eq 10, 3) := by decide +kernel
theorem dX4_kindsOf_30 : decode cX4_kindsOf 30 = .ok (.iconst 1, 1) := by decide +kernel
theorem dX4_kindsOf_31 : decode cX4_kindsOf 31 = .ok (.iload 4, 2) := by decide +kernel
theorem dX4_kindsOf_33 : decode cX4_kindsOf 33 = .ok (.ishl, 1) := by decide +kernel
theorem dX4_kindsOf_34 : decode cX4_kindsOf 34 = .ok (.goto 4, 3) := by decide +kernel
theorem dX4_kindsOf_37 : decode cX4_kindsOf 37 = .ok (.iconst 0, 1) := by decide +kernel
theorem dX4_kindsOf_38 : decode cX4_kindsOf 38 = .ok (.ior, 1) := by decide +kernel
theorem dX4_kindsOf_39 : decode cX4_kindsOf 39 = .ok (.istore_n 3, 1) := by decide +kernel
theorem dX4_kindsOf_40 : decode cX4_kindsOf 40 = .ok (.iinc 4 1, 3) := by decide +kernel
theorem dX4_kindsOf_43 : decode cX4_kindsOf 43 = .ok (.goto (-38), 3) := by decide +kernel
theorem dX4_kindsOf_46 : decode cX4_kindsOf 46 = .ok (.iload_n 3, 1) := by decide +kernel
theorem dX4_kindsOf_47 : decode cX4_kindsOf 47 = .ok (.ireturn, 1) := by decide +kernel
theorem dX4_kinds_0 : decode cX4_kinds 0 = .ok (.aload_n 0, 1) := by decide +kernel
theorem dX4_kinds_1 : decode cX4_kinds 1 = .ok (.iload_n 1, 1) := by decide +kernel
theorem dX4_kinds_2 : decode cX4_kinds 2 = .ok (.invokevirtual 157, 3) := by decide +kernel
theorem dX4_kinds_5 : decode cX4_kinds 5 = .ok (.ifCond .eq 10, 3) := by decide +kernel
theorem dX4_kinds_8 : decode cX4_kinds 8 = .ok (.iload_n 2, 1) := by decide +kernel
theorem dX4_kinds_9 : decode cX4_kinds 9 = .ok (.invokestatic 80, 3) := by decide +kernel
theorem dX4_kinds_12 : decode cX4_kinds 12 = .ok (.ifCond .ne 5, 3) := by decide +kernel
theorem dX4_kinds_15 : decode cX4_kinds 15 = .ok (.iconst (-1), 1) := by decide +kernel
theorem dX4_kinds_16 : decode cX4_kinds 16 = .ok (.ireturn, 1) := by decide +kernel
theorem dX4_kinds_17 : decode cX4_kinds 17 = .ok (.aload_n 0, 1) := by decide +kernel
theorem dX4_kinds_18 : decode cX4_kinds 18 = .ok (.iload_n 2, 1) := by decide +kernel
theorem dX4_kinds_19 : decode cX4_kinds 19 = .ok (.invokevirtual 217, 3) := by decide +kernel
theorem dX4_kinds_22 : decode cX4_kinds 22 = .ok (.istore_n 3, 1) := by decide +kernel
theorem dX4_kinds_23 : decode cX4_kinds 23 = .ok (.iload_n 3, 1) := by decide +kernel
theorem dX4_kinds_24 : decode cX4_kinds 24 = .ok (.ifCond .eq 7, 3) := by decide +kernel
theorem dX4_kinds_27 : decode cX4_kinds 27 = .ok (.iload_n 3, 1) := by decide +kernel
theorem dX4_kinds_28 : decode cX4_kinds 28 = .ok (.goto 9, 3) := by decide +kernel
theorem dX4_kinds_31 : decode cX4_kinds 31 = .ok (.aload_n 0, 1) := by decide +kernel
theorem dX4_kinds_32 : decode cX4_kinds 32 = .ok (.iload_n 1, 1) := by decide +kernel
theorem dX4_kinds_33 : decode cX4_kinds 33 = .ok (.iload_n 2, 1) := by decide +kernel
theorem dX4_kinds_34 : decode cX4_kinds 34 = .ok (.invokevirtual 224, 3) := by decide +kernel
theorem dX4_kinds_37 : decode cX4_kinds 37 = .ok (.ireturn, 1) := by decide +kernel
theorem dX4_test_0 : decode cX4_test 0 = .ok (.aload_n 0, 1) := by decide +kernel
theorem dX4_test_1 : decode cX4_test 1 = .ok (.iload_n 1, 1) := by decide +kernel
theorem dX4_test_2 : decode cX4_test 2 = .ok (.invokevirtual 157, 3) := by decide +kernel
theorem dX4_test_5 : decode cX4_test 5 = .ok (.ifCond .eq 10, 3) := by decide +kernel
theorem dX4_test_8 : decode cX4_test 8 = .ok (.iload_n 2, 1) := by decide +kernel
theorem dX4_test_9 : decode cX4_test 9 = .ok (.invokestatic 80, 3) := by decide +kernel
theorem dX4_test_12 : decode cX4_test 12 = .ok (.ifCond .ne 5, 3) := by decide +kernel
theorem dX4_test_15 : decode cX4_test 15 = .ok (.iconst (-1), 1) := by decide +kernel
theorem dX4_test_16 : decode cX4_test 16 = .ok (.ireturn, 1) := by decide +kernel
theorem dX4_test_17 : decode cX4_test 17 = .ok (.aload_n 0, 1) := by decide +kernel
theorem dX4_test_18 : decode cX4_test 18 = .ok (.iload_n 2, 1) := by decide +kernel
theorem dX4_test_19 : decode cX4_test 19 = .ok (.invokevirtual 217, 3) := by decide +kernel
theorem dX4_test_22 : decode cX4_test 22 = .ok (.istore_n 3, 1) := by decide +kernel
theorem dX4_test_23 : decode cX4_test 23 = .ok (.iload_n 3, 1) := by decide +kernel
theorem dX4_test_24 : decode cX4_test 24 = .ok (.ifCond .eq 5, 3) := by decide +kernel
theorem dX4_test_27 : decode cX4_test 27 = .ok (.iload_n 3, 1) := by decide +kernel
theorem dX4_test_28 : decode cX4_test 28 = .ok (.ireturn, 1) := by decide +kernel
theorem dX4_test_29 : decode cX4_test 29 = .ok (.aload_n 0, 1) := by decide +kernel
theorem dX4_test_30 : decode cX4_test 30 = .ok (.iload_n 1, 1) := by decide +kernel
theorem dX4_test_31 : decode cX4_test 31 = .ok (.iload_n 2, 1) := by decide +kernel
theorem dX4_test_32 : decode cX4_test 32 = .ok (.invokevirtual 224, 3) := by decide +kernel
theorem dX4_test_35 : decode cX4_test 35 = .ok (.istore 4, 2) := by decide +kernel
theorem dX4_test_37 : decode cX4_test 37 = .ok (.bipush (-9), 2) := by decide +kernel
theorem dX4_test_39 : decode cX4_test 39 = .ok (.istore 5, 2) := by decide +kernel
theorem dX4_test_41 : decode cX4_test 41 = .ok (.bipush 7, 2) := by decide +kernel
theorem dX4_test_43 : decode cX4_test 43 = .ok (.istore 6, 2) := by decide +kernel
theorem dX4_test_45 : decode cX4_test 45 = .ok (.iconst 0, 1) := by decide +kernel
theorem dX4_test_46 : decode cX4_test 46 = .ok (.istore 7, 2) := by decide +kernel
theorem dX4_test_48 : decode cX4_test 48 = .ok (.iload 7, 2) := by decide +kernel
theorem dX4_test_50 : decode cX4_test 50 = .ok (.bipush 100, 2) := by decide +kernel
theorem dX4_test_52 : decode cX4_test 52 = .ok (.if_icmp .ge 175, 3) := by decide +kernel
theorem dX4_test_55 : decode cX4_test 55 = .ok (.iload 4, 2) := by decide +kernel
theorem dX4_test_57 : decode cX4_test 57 = .ok (.ifCond .eq 170, 3) := by decide +kernel
theorem dX4_test_60 : decode cX4_test 60 = .ok (.iconst 0, 1) := by decide +kernel
theorem dX4_test_61 : decode cX4_test 61 = .ok (.istore 8, 2) := by decide +kernel
theorem dX4_test_63 : decode cX4_test 63 = .ok (.iconst 0, 1) := by decide +kernel
theorem dX4_test_64 : decode cX4_test 64 = .ok (.istore 9, 2) := by decide +kernel
theorem dX4_test_66 : decode cX4_test 66 = .ok (.iload 9, 2) := by decide +kernel
theorem dX4_test_68 : decode cX4_test 68 = .ok (.bipush 6, 2) := by decide +kernel
theorem dX4_test_70 : decode cX4_test 70 = .ok (.if_icmp .ge 126, 3) := by decide +kernel
theorem dX4_test_73 : decode cX4_test 73 = .ok (.iconst 0, 1) := by decide +kernel
theorem dX4_test_74 : decode cX4_test 74 = .ok (.istore 10, 2) := by decide +kernel
theorem dX4_test_76 : decode cX4_test 76 = .ok (.iconst 0, 1) := by decide +kernel
theorem dX4_test_77 : decode cX4_test 77 = .ok (.istore 11, 2) := by decide +kernel
theorem dX4_test_79 : decode cX4_test 79 = .ok (.iload 11, 2) := by decide +kernel
theorem dX4_test_81 : decode cX4_test 81 = .ok (.bipush 6, 2) := by decide +kernel
theorem dX4_test_83 : decode cX4_test 83 = .ok (.if_icmp .ge 98, 3) := by decide +kernel
theorem dX4_test_86 : decode cX4_test 86 = .ok (.iload 4, 2) := by decide +kernel
theorem dX4_test_88 : decode cX4_test 88 = .ok (.iload 9, 2) := by decide +kernel
theorem dX4_test_90 : decode cX4_test 90 = .ok (.invokestatic 227, 3) := by decide +kernel
theorem dX4_test_93 : decode cX4_test 93 = .ok (.ifCond .eq 17, 3) := by decide +kernel
theorem dX4_test_96 : decode cX4_test 96 = .ok (.iload 4, 2) := by decide +kernel
theorem dX4_test_98 : decode cX4_test 98 = .ok (.iload 11, 2) := by decide +kernel
theorem dX4_test_100 : decode cX4_test 100 = .ok (.invokestatic 227, 3) := by decide +kernel
theorem dX4_test_103 : decode cX4_test 103 = .ok (.ifCond .eq 7, 3) := by decide +kernel
theorem dX4_test_106 : decode cX4_test 106 = .ok (.iconst 1, 1) := by decide +kernel
theorem dX4_test_107 : decode cX4_test 107 = .ok (.goto 4, 3) := by decide +kernel
theorem dX4_test_110 : decode cX4_test 110 = .ok (.iconst 0, 1) := by decide +kernel
theorem dX4_test_111 : decode cX4_test 111 = .ok (.istore 12, 2) := by decide +kernel
theorem dX4_test_113 : decode cX4_test 113 = .ok (.iload 10, 2) := by decide +kernel
theorem dX4_test_115 : decode cX4_test 115 = .ok (.iload 12, 2) := by decide +kernel
theorem dX4_test_117 : decode cX4_test 117 = .ok (.ifCond .eq 54, 3) := by decide +kernel
theorem dX4_test_120 : decode cX4_test 120 = .ok (.iload 9, 2) := by decide +kernel
theorem dX4_test_122 : decode cX4_test 122 = .ok (.aload_n 0, 1) := by decide +kernel
theorem dX4_test_123 : decode cX4_test 123 = .ok (.getfield 32, 3) := by decide +kernel
theorem dX4_test_126 : decode cX4_test 126 = .ok (.iload_n 1, 1) := by decide +kernel
theorem dX4_test_127 : decode cX4_test 127 = .ok (.iaload, 1) := by decide +kernel
theorem dX4_test_128 : decode cX4_test 128 = .ok (.aload_n 0, 1) := by decide +kernel
theorem dX4_test_129 : decode cX4_test 129 = .ok (.getfield 38, 3) := by decide +kernel
theorem dX4_test_132 : decode cX4_test 132 = .ok (.bipush 7, 2) := by decide +kernel
theorem dX4_test_134 : decode cX4_test 134 = .ok (.iload_n 1, 1) := by decide +kernel
theorem dX4_test_135 : decode cX4_test 135 = .ok (.iadd, 1) := by decide +kernel
theorem dX4_test_136 : decode cX4_test 136 = .ok (.iaload, 1) := by decide +kernel
theorem dX4_test_137 : decode cX4_test 137 = .ok (.iload 7, 2) := by decide +kernel
theorem dX4_test_139 : decode cX4_test 139 = .ok (.invokestatic 146, 3) := by decide +kernel
theorem dX4_test_142 : decode cX4_test 142 = .ok (.iload 11, 2) := by decide +kernel
theorem dX4_test_144 : decode cX4_test 144 = .ok (.aload_n 0, 1) := by decide +kernel
theorem dX4_test_145 : decode cX4_test 145 = .ok (.getfield 32, 3) := by decide +kernel
theorem dX4_test_148 : decode cX4_test 148 = .ok (.iload_n 1, 1) := by decide +kernel
theorem dX4_test_149 : decode cX4_test 149 = .ok (.iaload, 1) := by decide +kernel
theorem dX4_test_150 : decode cX4_test 150 = .ok (.aload_n 0, 1) := by decide +kernel
theorem dX4_test_151 : decode cX4_test 151 = .ok (.getfield 38, 3) := by decide +kernel
theorem dX4_test_154 : decode cX4_test 154 = .ok (.bipush 7, 2) := by decide +kernel
theorem dX4_test_156 : decode cX4_test 156 = .ok (.iload_n 1, 1) := by decide +kernel
theorem dX4_test_157 : decode cX4_test 157 = .ok (.iadd, 1) := by decide +kernel
theorem dX4_test_158 : decode cX4_test 158 = .ok (.iaload, 1) := by decide +kernel
theorem dX4_test_159 : decode cX4_test 159 = .ok (.iload 7, 2) := by decide +kernel
theorem dX4_test_161 : decode cX4_test 161 = .ok (.invokestatic 146, 3) := by decide +kernel
theorem dX4_test_164 : decode cX4_test 164 = .ok (.if_icmp .ne 7, 3) := by decide +kernel
theorem dX4_test_167 : decode cX4_test 167 = .ok (.iconst 1, 1) := by decide +kernel
theorem dX4_test_168 : decode cX4_test 168 = .ok (.goto 4, 3) := by decide +kernel
theorem dX4_test_171 : decode cX4_test 171 = .ok (.iconst 0, 1) := by decide +kernel
theorem dX4_test_172 : decode cX4_test 172 = .ok (.iadd, 1) := by decide +kernel
theorem dX4_test_173 : decode cX4_test 173 = .ok (.istore 10, 2) := by decide +kernel
theorem dX4_test_175 : decode cX4_test 175 = .ok (.iinc 11 1, 3) := by decide +kernel
theorem dX4_test_178 : decode cX4_test 178 = .ok (.goto (-99), 3) := by decide +kernel
theorem dX4_test_181 : decode cX4_test 181 = .ok (.iload 8, 2) := by decide +kernel
theorem dX4_test_183 : decode cX4_test 183 = .ok (.iload 10, 2) := by decide +kernel
theorem dX4_test_185 : decode cX4_test 185 = .ok (.invokestatic 139, 3) := by decide +kernel
theorem dX4_test_188 : decode cX4_test 188 = .ok (.istore 8, 2) := by decide +kernel
theorem dX4_test_190 : decode cX4_test 190 = .ok (.iinc 9 1, 3) := by decide +kernel
theorem dX4_test_193 : decode cX4_test 193 = .ok (.goto (-127), 3) := by decide +kernel
theorem dX4_test_196 : decode cX4_test 196 = .ok (.iload 8, 2) := by decide +kernel
theorem dX4_test_198 : decode cX4_test 198 = .ok (.iload 6, 2) := by decide +kernel
theorem dX4_test_200 : decode cX4_test 200 = .ok (.if_icmp .ge 8, 3) := by decide +kernel
theorem dX4_test_203 : decode cX4_test 203 = .ok (.iload 7, 2) := by decide +kernel
theorem dX4_test_205 : decode cX4_test 205 = .ok (.goto 5, 3) := by decide +kernel
theorem dX4_test_208 : decode cX4_test 208 = .ok (.iload 5, 2) := by decide +kernel
theorem dX4_test_210 : decode cX4_test 210 = .ok (.istore 5, 2) := by decide +kernel
theorem dX4_test_212 : decode cX4_test 212 = .ok (.iload 8, 2) := by decide +kernel
theorem dX4_test_214 : decode cX4_test 214 = .ok (.iload 6, 2) := by decide +kernel
theorem dX4_test_216 : decode cX4_test 216 = .ok (.invokestatic 143, 3) := by decide +kernel
theorem dX4_test_219 : decode cX4_test 219 = .ok (.istore 6, 2) := by decide +kernel
theorem dX4_test_221 : decode cX4_test 221 = .ok (.iinc 7 1, 3) := by decide +kernel
theorem dX4_test_224 : decode cX4_test 224 = .ok (.goto (-176), 3) := by decide +kernel
theorem dX4_test_227 : decode cX4_test 227 = .ok (.iload 5, 2) := by decide +kernel
theorem dX4_test_229 : decode cX4_test 229 = .ok (.bipush (-9), 2) := by decide +kernel
theorem dX4_test_231 : decode cX4_test 231 = .ok (.if_icmp .ne 8, 3) := by decide +kernel
theorem dX4_test_234 : decode cX4_test 234 = .ok (.bipush (-9), 2) := by decide +kernel
theorem dX4_test_236 : decode cX4_test 236 = .ok (.goto 11, 3) := by decide +kernel
theorem dX4_test_239 : decode cX4_test 239 = .ok (.aload_n 0, 1) := by decide +kernel
theorem dX4_test_240 : decode cX4_test 240 = .ok (.iload 5, 2) := by decide +kernel
theorem dX4_test_242 : decode cX4_test 242 = .ok (.iload 6, 2) := by decide +kernel
theorem dX4_test_244 : decode cX4_test 244 = .ok (.invokevirtual 186, 3) := by decide +kernel
theorem dX4_test_247 : decode cX4_test 247 = .ok (.ireturn, 1) := by decide +kernel
theorem dX4_weighs_0 : decode cX4_weighs 0 = .ok (.iload_n 2, 1) := by decide +kernel
theorem dX4_weighs_1 : decode cX4_weighs 1 = .ok (.ifCond .eq 7, 3) := by decide +kernel
theorem dX4_weighs_4 : decode cX4_weighs 4 = .ok (.iconst 4, 1) := by decide +kernel
theorem dX4_weighs_5 : decode cX4_weighs 5 = .ok (.goto 4, 3) := by decide +kernel
theorem dX4_weighs_8 : decode cX4_weighs 8 = .ok (.iconst 1, 1) := by decide +kernel
theorem dX4_weighs_9 : decode cX4_weighs 9 = .ok (.istore_n 3, 1) := by decide +kernel
theorem dX4_weighs_10 : decode cX4_weighs 10 = .ok (.iload_n 1, 1) := by decide +kernel
theorem dX4_weighs_11 : decode cX4_weighs 11 = .ok (.iload_n 3, 1) := by decide +kernel
theorem dX4_weighs_12 : decode cX4_weighs 12 = .ok (.idiv, 1) := by decide +kernel
theorem dX4_weighs_13 : decode cX4_weighs 13 = .ok (.iconst 4, 1) := by decide +kernel
theorem dX4_weighs_14 : decode cX4_weighs 14 = .ok (.irem, 1) := by decide +kernel
theorem dX4_weighs_15 : decode cX4_weighs 15 = .ok (.istore 4, 2) := by decide +kernel
theorem dX4_weighs_17 : decode cX4_weighs 17 = .ok (.aload_n 0, 1) := by decide +kernel
theorem dX4_weighs_18 : decode cX4_weighs 18 = .ok (.getfield 56, 3) := by decide +kernel
theorem dX4_weighs_21 : decode cX4_weighs 21 = .ok (.iload_n 1, 1) := by decide +kernel
theorem dX4_weighs_22 : decode cX4_weighs 22 = .ok (.iaload, 1) := by decide +kernel
theorem dX4_weighs_23 : decode cX4_weighs 23 = .ok (.istore 5, 2) := by decide +kernel
theorem dX4_weighs_25 : decode cX4_weighs 25 = .ok (.iconst 0, 1) := by decide +kernel
theorem dX4_weighs_26 : decode cX4_weighs 26 = .ok (.istore 6, 2) := by decide +kernel
theorem dX4_weighs_28 : decode cX4_weighs 28 = .ok (.iload 6, 2) := by decide +kernel
theorem dX4_weighs_30 : decode cX4_weighs 30 = .ok (.iconst 4, 1) := by decide +kernel
theorem dX4_weighs_31 : decode cX4_weighs 31 = .ok (.if_icmp .ge 81, 3) := by decide +kernel
theorem dX4_weighs_34 : decode cX4_weighs 34 = .ok (.iload 6, 2) := by decide +kernel
theorem dX4_weighs_36 : decode cX4_weighs 36 = .ok (.iload 4, 2) := by decide +kernel
theorem dX4_weighs_38 : decode cX4_weighs 38 = .ok (.iconst 1, 1) := by decide +kernel
theorem dX4_weighs_39 : decode cX4_weighs 39 = .ok (.iadd, 1) := by decide +kernel
theorem dX4_weighs_40 : decode cX4_weighs 40 = .ok (.if_icmp .eq 13, 3) := by decide +kernel
theorem dX4_weighs_43 : decode cX4_weighs 43 = .ok (.iload 6, 2) := by decide +kernel
theorem dX4_weighs_45 : decode cX4_weighs 45 = .ok (.ifCond .ne 12, 3) := by decide +kernel
theorem dX4_weighs_48 : decode cX4_weighs 48 = .ok (.iload 4, 2) := by decide +kernel
theorem dX4_weighs_50 : decode cX4_weighs 50 = .ok (.ifCond .le 7, 3) := by decide +kernel
theorem dX4_weighs_53 : decode cX4_weighs 53 = .ok (.iconst 1, 1) := by decide +kernel
theorem dX4_weighs_54 : decode cX4_weighs 54 = .ok (.goto 4, 3) := by decide +kernel
theorem dX4_weighs_57 : decode cX4_weighs 57 = .ok (.iconst 0, 1) := by decide +kernel
theorem dX4_weighs_58 : decode cX4_weighs 58 = .ok (.istore 7, 2) := by decide +kernel
theorem dX4_weighs_60 : decode cX4_weighs 60 = .ok (.aload_n 0, 1) := by decide +kernel
theorem dX4_weighs_61 : decode cX4_weighs 61 = .ok (.getfield 56, 3) := by decide +kernel
theorem dX4_weighs_64 : decode cX4_weighs 64 = .ok (.iload_n 1, 1) := by decide +kernel
theorem dX4_weighs_65 : decode cX4_weighs 65 = .ok (.iload_n 3, 1) := by decide +kernel
theorem dX4_weighs_66 : decode cX4_weighs 66 = .ok (.iload 6, 2) := by decide +kernel
theorem dX4_weighs_68 : decode cX4_weighs 68 = .ok (.iload 4, 2) := by decide +kernel
theorem dX4_weighs_70 : decode cX4_weighs 70 = .ok (.isub, 1) := by decide +kernel
theorem dX4_weighs_71 : decode cX4_weighs 71 = .ok (.imul, 1) := by decide +kernel
theorem dX4_weighs_72 : decode cX4_weighs 72 = .ok (.iadd, 1) := by decide +kernel
theorem dX4_weighs_73 : decode cX4_weighs 73 = .ok (.iaload, 1) := by decide +kernel
theorem dX4_weighs_74 : decode cX4_weighs 74 = .ok (.istore 8, 2) := by decide +kernel
theorem dX4_weighs_76 : decode cX4_weighs 76 = .ok (.iload 7, 2) := by decide +kernel
theorem dX4_weighs_78 : decode cX4_weighs 78 = .ok (.ifCond .eq 24, 3) := by decide +kernel
theorem dX4_weighs_81 : decode cX4_weighs 81 = .ok (.iload_n 2, 1) := by decide +kernel
theorem dX4_weighs_82 : decode cX4_weighs 82 = .ok (.iload 8, 2) := by decide +kernel
theorem dX4_weighs_84 : decode cX4_weighs 84 = .ok (.iload 5, 2) := by decide +kernel
theorem dX4_weighs_86 : decode cX4_weighs 86 = .ok (.if_icmp .le 7, 3) := by decide +kernel
theorem dX4_weighs_89 : decode cX4_weighs 89 = .ok (.iconst 1, 1) := by decide +kernel
theorem dX4_weighs_90 : decode cX4_weighs 90 = .ok (.goto 4, 3) := by decide +kernel
theorem dX4_weighs_93 : decode cX4_weighs 93 = .ok (.iconst 0, 1) := by decide +kernel
theorem dX4_weighs_94 : decode cX4_weighs 94 = .ok (.if_icmp .ne 8, 3) := by decide +kernel
theorem dX4_weighs_97 : decode cX4_weighs 97 = .ok (.iload 8, 2) := by decide +kernel
theorem dX4_weighs_99 : decode cX4_weighs 99 = .ok (.goto 5, 3) := by decide +kernel
theorem dX4_weighs_102 : decode cX4_weighs 102 = .ok (.iload 5, 2) := by decide +kernel
theorem dX4_weighs_104 : decode cX4_weighs 104 = .ok (.istore 5, 2) := by decide +kernel
theorem dX4_weighs_106 : decode cX4_weighs 106 = .ok (.iinc 6 1, 3) := by decide +kernel
theorem dX4_weighs_109 : decode cX4_weighs 109 = .ok (.goto (-81), 3) := by decide +kernel
theorem dX4_weighs_112 : decode cX4_weighs 112 = .ok (.iload 5, 2) := by decide +kernel
theorem dX4_weighs_114 : decode cX4_weighs 114 = .ok (.ireturn, 1) := by decide +kernel
theorem dX4_duel_0 : decode cX4_duel 0 = .ok (.aload_n 0, 1) := by decide +kernel
theorem dX4_duel_1 : decode cX4_duel 1 = .ok (.iload_n 1, 1) := by decide +kernel
theorem dX4_duel_2 : decode cX4_duel 2 = .ok (.invokevirtual 157, 3) := by decide +kernel
theorem dX4_duel_5 : decode cX4_duel 5 = .ok (.ifCond .eq 28, 3) := by decide +kernel
theorem dX4_duel_8 : decode cX4_duel 8 = .ok (.aload_n 0, 1) := by decide +kernel
theorem dX4_duel_9 : decode cX4_duel 9 = .ok (.iload_n 2, 1) := by decide +kernel
theorem dX4_duel_10 : decode cX4_duel 10 = .ok (.invokevirtual 157, 3) := by decide +kernel
theorem dX4_duel_13 : decode cX4_duel 13 = .ok (.ifCond .eq 20, 3) := by decide +kernel
theorem dX4_duel_16 : decode cX4_duel 16 = .ok (.iload_n 1, 1) := by decide +kernel
theorem dX4_duel_17 : decode cX4_duel 17 = .ok (.iload_n 2, 1) := by decide +kernel
theorem dX4_duel_18 : decode cX4_duel 18 = .ok (.if_icmp .eq 15, 3) := by decide +kernel
theorem dX4_duel_21 : decode cX4_duel 21 = .ok (.iload_n 3, 1) := by decide +kernel
theorem dX4_duel_22 : decode cX4_duel 22 = .ok (.i2l, 1) := by decide +kernel
theorem dX4_duel_23 : decode cX4_duel 23 = .ok (.lconst 0, 1) := by decide +kernel
theorem dX4_duel_24 : decode cX4_duel 24 = .ok (.ldc2_w 160, 3) := by decide +kernel
theorem dX4_duel_27 : decode cX4_duel 27 = .ok (.invokestatic 74, 3) := by decide +kernel
theorem dX4_duel_30 : decode cX4_duel 30 = .ok (.ifCond .ne 5, 3) := by decide +kernel
theorem dX4_duel_33 : decode cX4_duel 33 = .ok (.iconst (-1), 1) := by decide +kernel
theorem dX4_duel_34 : decode cX4_duel 34 = .ok (.ireturn, 1) := by decide +kernel
theorem dX4_duel_35 : decode cX4_duel 35 = .ok (.iconst 0, 1) := by decide +kernel
theorem dX4_duel_36 : decode cX4_duel 36 = .ok (.istore 4, 2) := by decide +kernel
theorem dX4_duel_38 : decode cX4_duel 38 = .ok (.iload 4, 2) := by decide +kernel
theorem dX4_duel_40 : decode cX4_duel 40 = .ok (.bipush 16, 2) := by decide +kernel
theorem dX4_duel_42 : decode cX4_duel 42 = .ok (.if_icmp .ge 70, 3) := by decide +kernel
theorem dX4_duel_45 : decode cX4_duel 45 = .ok (.aload_n 0, 1) := by decide +kernel
theorem dX4_duel_46 : decode cX4_duel 46 = .ok (.invokevirtual 191, 3) := by decide +kernel
theorem dX4_duel_49 : decode cX4_duel 49 = .ok (.aload_n 0, 1) := by decide +kernel
theorem dX4_duel_50 : decode cX4_duel 50 = .ok (.getfield 41, 3) := by decide +kernel
theorem dX4_duel_53 : decode cX4_duel 53 = .ok (.bipush 7, 2) := by decide +kernel
theorem dX4_duel_55 : decode cX4_duel 55 = .ok (.iload_n 1, 1) := by decide +kernel
theorem dX4_duel_56 : decode cX4_duel 56 = .ok (.iadd, 1) := by decide +kernel
theorem dX4_duel_57 : decode cX4_duel 57 = .ok (.iload 4, 2) := by decide +kernel
theorem dX4_duel_59 : decode cX4_duel 59 = .ok (.iconst 4, 1) := by decide +kernel
theorem dX4_duel_60 : decode cX4_duel 60 = .ok (.idiv, 1) := by decide +kernel
theorem dX4_duel_61 : decode cX4_duel 61 = .ok (.iastore, 1) := by decide +kernel
theorem dX4_duel_62 : decode cX4_duel 62 = .ok (.aload_n 0, 1) := by decide +kernel
theorem dX4_duel_63 : decode cX4_duel 63 = .ok (.getfield 41, 3) := by decide +kernel
theorem dX4_duel_66 : decode cX4_duel 66 = .ok (.bipush 7, 2) := by decide +kernel
theorem dX4_duel_68 : decode cX4_duel 68 = .ok (.iload_n 2, 1) := by decide +kernel
theorem dX4_duel_69 : decode cX4_duel 69 = .ok (.iadd, 1) := by decide +kernel
theorem dX4_duel_70 : decode cX4_duel 70 = .ok (.iload 4, 2) := by decide +kernel
theorem dX4_duel_72 : decode cX4_duel 72 = .ok (.iconst 4, 1) := by decide +kernel
theorem dX4_duel_73 : decode cX4_duel 73 = .ok (.irem, 1) := by decide +kernel
theorem dX4_duel_74 : decode cX4_duel 74 = .ok (.iastore, 1) := by decide +kernel
theorem dX4_duel_75 : decode cX4_duel 75 = .ok (.aload_n 0, 1) := by decide +kernel
theorem dX4_duel_76 : decode cX4_duel 76 = .ok (.iconst 4, 1) := by decide +kernel
theorem dX4_duel_77 : decode cX4_duel 77 = .ok (.invokevirtual 194, 3) := by decide +kernel
theorem dX4_duel_80 : decode cX4_duel 80 = .ok (.istore 5, 2) := by decide +kernel
theorem dX4_duel_82 : decode cX4_duel 82 = .ok (.aload_n 0, 1) := by decide +kernel
theorem dX4_duel_83 : decode cX4_duel 83 = .ok (.getfield 56, 3) := by decide +kernel
theorem dX4_duel_86 : decode cX4_duel 86 = .ok (.iload 4, 2) := by decide +kernel
theorem dX4_duel_88 : decode cX4_duel 88 = .ok (.aload_n 0, 1) := by decide +kernel
theorem dX4_duel_89 : decode cX4_duel 89 = .ok (.getfield 41, 3) := by decide +kernel
theorem dX4_duel_92 : decode cX4_duel 92 = .ok (.iconst 1, 1) := by decide +kernel
theorem dX4_duel_93 : decode cX4_duel 93 = .ok (.iload_n 1, 1) := by decide +kernel
theorem dX4_duel_94 : decode cX4_duel 94 = .ok (.iadd, 1) := by decide +kernel
theorem dX4_duel_95 : decode cX4_duel 95 = .ok (.iaload, 1) := by decide +kernel
theorem dX4_duel_96 : decode cX4_duel 96 = .ok (.aload_n 0, 1) := by decide +kernel
theorem dX4_duel_97 : decode cX4_duel 97 = .ok (.getfield 41, 3) := by decide +kernel
theorem dX4_duel_100 : decode cX4_duel 100 = .ok (.iconst 1, 1) := by decide +kernel
theorem dX4_duel_101 : decode cX4_duel 101 = .ok (.iload_n 2, 1) := by decide +kernel
theorem dX4_duel_102 : decode cX4_duel 102 = .ok (.iadd, 1) := by decide +kernel
theorem dX4_duel_103 : decode cX4_duel 103 = .ok (.iaload, 1) := by decide +kernel
theorem dX4_duel_104 : decode cX4_duel 104 = .ok (.isub, 1) := by decide +kernel
theorem dX4_duel_105 : decode cX4_duel 105 = .ok (.iastore, 1) := by decide +kernel
theorem dX4_duel_106 : decode cX4_duel 106 = .ok (.iinc 4 1, 3) := by decide +kernel
theorem dX4_duel_109 : decode cX4_duel 109 = .ok (.goto (-71), 3) := by decide +kernel
theorem dX4_duel_112 : decode cX4_duel 112 = .ok (.iload_n 3, 1) := by decide +kernel
theorem dX4_duel_113 : decode cX4_duel 113 = .ok (.istore 4, 2) := by decide +kernel
theorem dX4_duel_115 : decode cX4_duel 115 = .ok (.iload 4, 2) := by decide +kernel
theorem dX4_duel_117 : decode cX4_duel 117 = .ok (.ifCond .le 66, 3) := by decide +kernel
theorem dX4_duel_120 : decode cX4_duel 120 = .ok (.iconst 0, 1) := by decide +kernel
theorem dX4_duel_121 : decode cX4_duel 121 = .ok (.istore 5, 2) := by decide +kernel
theorem dX4_duel_123 : decode cX4_duel 123 = .ok (.iload 5, 2) := by decide +kernel
theorem dX4_duel_125 : decode cX4_duel 125 = .ok (.bipush 16, 2) := by decide +kernel
theorem dX4_duel_127 : decode cX4_duel 127 = .ok (.if_icmp .ge 35, 3) := by decide +kernel
theorem dX4_duel_130 : decode cX4_duel 130 = .ok (.aload_n 0, 1) := by decide +kernel
theorem dX4_duel_131 : decode cX4_duel 131 = .ok (.getfield 59, 3) := by decide +kernel
theorem dX4_duel_134 : decode cX4_duel 134 = .ok (.iload 5, 2) := by decide +kernel
theorem dX4_duel_136 : decode cX4_duel 136 = .ok (.aload_n 0, 1) := by decide +kernel
theorem dX4_duel_137 : decode cX4_duel 137 = .ok (.iload 5, 2) := by decide +kernel
theorem dX4_duel_139 : decode cX4_duel 139 = .ok (.iload 4, 2) := by decide +kernel
theorem dX4_duel_141 : decode cX4_duel 141 = .ok (.iconst 2, 1) := by decide +kernel
theorem dX4_duel_142 : decode cX4_duel 142 = .ok (.irem, 1) := by decide +kernel
theorem dX4_duel_143 : decode cX4_duel 143 = .ok (.iconst 1, 1) := by decide +kernel
theorem dX4_duel_144 : decode cX4_duel 144 = .ok (.if_icmp .ne 7, 3) := by decide +kernel
theorem dX4_duel_147 : decode cX4_duel 147 = .ok (.iconst 1, 1) := by decide +kernel
theorem dX4_duel_148 : decode cX4_duel 148 = .ok (.goto 4, 3) := by decide +kernel
theorem dX4_duel_151 : decode cX4_duel 151 = .ok (.iconst 0, 1) := by decide +kernel
theorem dX4_duel_152 : decode cX4_duel 152 = .ok (.invokevirtual 230, 3) := by decide +kernel
theorem dX4_duel_155 : decode cX4_duel 155 = .ok (.iastore, 1) := by decide +kernel
theorem dX4_duel_156 : decode cX4_duel 156 = .ok (.iinc 5 1, 3) := by decide +kernel
theorem dX4_duel_159 : decode cX4_duel 159 = .ok (.goto (-36), 3) := by decide +kernel
