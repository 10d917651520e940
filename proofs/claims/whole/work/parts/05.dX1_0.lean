theorem dX1_init_0 : decode cX1_init 0 = .ok (.aload_n 0, 1) := by decide +kernel
theorem dX1_init_1 : decode cX1_init 1 = .ok (.invokespecial 3, 3) := by decide +kernel
theorem dX1_init_4 : decode cX1_init 4 = .ok (.aload_n 0, 1) := by decide +kernel
theorem dX1_init_5 : decode cX1_init 5 = .ok (.iconst 0, 1) := by decide +kernel
theorem dX1_init_6 : decode cX1_init 6 = .ok (.putfield 9, 3) := by decide +kernel
theorem dX1_init_9 : decode cX1_init 9 = .ok (.aload_n 0, 1) := by decide +kernel
theorem dX1_init_10 : decode cX1_init 10 = .ok (.bipush 6, 2) := by decide +kernel
theorem dX1_init_12 : decode cX1_init 12 = .ok (.newarray .int, 2) := by decide +kernel
theorem dX1_init_14 : decode cX1_init 14 = .ok (.putfield 15, 3) := by decide +kernel
theorem dX1_init_17 : decode cX1_init 17 = .ok (.aload_n 0, 1) := by decide +kernel
theorem dX1_init_18 : decode cX1_init 18 = .ok (.bipush 6, 2) := by decide +kernel
theorem dX1_init_20 : decode cX1_init 20 = .ok (.newarray .int, 2) := by decide +kernel
theorem dX1_init_22 : decode cX1_init 22 = .ok (.putfield 19, 3) := by decide +kernel
theorem dX1_init_25 : decode cX1_init 25 = .ok (.aload_n 0, 1) := by decide +kernel
theorem dX1_init_26 : decode cX1_init 26 = .ok (.bipush 6, 2) := by decide +kernel
theorem dX1_init_28 : decode cX1_init 28 = .ok (.newarray .int, 2) := by decide +kernel
theorem dX1_init_30 : decode cX1_init 30 = .ok (.putfield 22, 3) := by decide +kernel
theorem dX1_init_33 : decode cX1_init 33 = .ok (.aload_n 0, 1) := by decide +kernel
theorem dX1_init_34 : decode cX1_init 34 = .ok (.bipush 6, 2) := by decide +kernel
theorem dX1_init_36 : decode cX1_init 36 = .ok (.newarray .int, 2) := by decide +kernel
theorem dX1_init_38 : decode cX1_init 38 = .ok (.putfield 25, 3) := by decide +kernel
theorem dX1_init_41 : decode cX1_init 41 = .ok (.aload_n 0, 1) := by decide +kernel
theorem dX1_init_42 : decode cX1_init 42 = .ok (.bipush 6, 2) := by decide +kernel
theorem dX1_init_44 : decode cX1_init 44 = .ok (.newarray .int, 2) := by decide +kernel
theorem dX1_init_46 : decode cX1_init 46 = .ok (.putfield 28, 3) := by decide +kernel
theorem dX1_init_49 : decode cX1_init 49 = .ok (.aload_n 0, 1) := by decide +kernel
theorem dX1_init_50 : decode cX1_init 50 = .ok (.bipush 6, 2) := by decide +kernel
theorem dX1_init_52 : decode cX1_init 52 = .ok (.newarray .int, 2) := by decide +kernel
theorem dX1_init_54 : decode cX1_init 54 = .ok (.putfield 31, 3) := by decide +kernel
theorem dX1_init_57 : decode cX1_init 57 = .ok (.aload_n 0, 1) := by decide +kernel
theorem dX1_init_58 : decode cX1_init 58 = .ok (.bipush 6, 2) := by decide +kernel
theorem dX1_init_60 : decode cX1_init 60 = .ok (.newarray .int, 2) := by decide +kernel
theorem dX1_init_62 : decode cX1_init 62 = .ok (.putfield 34, 3) := by decide +kernel
theorem dX1_init_65 : decode cX1_init 65 = .ok (.aload_n 0, 1) := by decide +kernel
theorem dX1_init_66 : decode cX1_init 66 = .ok (.iconst 0, 1) := by decide +kernel
theorem dX1_init_67 : decode cX1_init 67 = .ok (.putfield 37, 3) := by decide +kernel
theorem dX1_init_70 : decode cX1_init 70 = .ok (.aload_n 0, 1) := by decide +kernel
theorem dX1_init_71 : decode cX1_init 71 = .ok (.iconst 0, 1) := by decide +kernel
theorem dX1_init_72 : decode cX1_init 72 = .ok (.putfield 40, 3) := by decide +kernel
theorem dX1_init_75 : decode cX1_init 75 = .ok (.return_, 1) := by decide +kernel
theorem dX1_take_0 : decode cX1_take 0 = .ok (.aload_n 0, 1) := by decide +kernel
theorem dX1_take_1 : decode cX1_take 1 = .ok (.aload_n 1, 1) := by decide +kernel
theorem dX1_take_2 : decode cX1_take 2 = .ok (.getfield 9, 3) := by decide +kernel
theorem dX1_take_5 : decode cX1_take 5 = .ok (.putfield 9, 3) := by decide +kernel
theorem dX1_take_8 : decode cX1_take 8 = .ok (.aload_n 1, 1) := by decide +kernel
theorem dX1_take_9 : decode cX1_take 9 = .ok (.getfield 15, 3) := by decide +kernel
theorem dX1_take_12 : decode cX1_take 12 = .ok (.iconst 0, 1) := by decide +kernel
theorem dX1_take_13 : decode cX1_take 13 = .ok (.aload_n 0, 1) := by decide +kernel
theorem dX1_take_14 : decode cX1_take 14 = .ok (.getfield 15, 3) := by decide +kernel
theorem dX1_take_17 : decode cX1_take 17 = .ok (.iconst 0, 1) := by decide +kernel
theorem dX1_take_18 : decode cX1_take 18 = .ok (.bipush 6, 2) := by decide +kernel
theorem dX1_take_20 : decode cX1_take 20 = .ok (.invokestatic 43, 3) := by decide +kernel
theorem dX1_take_23 : decode cX1_take 23 = .ok (.aload_n 1, 1) := by decide +kernel
theorem dX1_take_24 : decode cX1_take 24 = .ok (.getfield 19, 3) := by decide +kernel
theorem dX1_take_27 : decode cX1_take 27 = .ok (.iconst 0, 1) := by decide +kernel
theorem dX1_take_28 : decode cX1_take 28 = .ok (.aload_n 0, 1) := by decide +kernel
theorem dX1_take_29 : decode cX1_take 29 = .ok (.getfield 19, 3) := by decide +kernel
theorem dX1_take_32 : decode cX1_take 32 = .ok (.iconst 0, 1) := by decide +kernel
theorem dX1_take_33 : decode cX1_take 33 = .ok (.bipush 6, 2) := by decide +kernel
theorem dX1_take_35 : decode cX1_take 35 = .ok (.invokestatic 43, 3) := by decide +kernel
theorem dX1_take_38 : decode cX1_take 38 = .ok (.aload_n 1, 1) := by decide +kernel
theorem dX1_take_39 : decode cX1_take 39 = .ok (.getfield 22, 3) := by decide +kernel
theorem dX1_take_42 : decode cX1_take 42 = .ok (.iconst 0, 1) := by decide +kernel
theorem dX1_take_43 : decode cX1_take 43 = .ok (.aload_n 0, 1) := by decide +kernel
theorem dX1_take_44 : decode cX1_take 44 = .ok (.getfield 22, 3) := by decide +kernel
theorem dX1_take_47 : decode cX1_take 47 = .ok (.iconst 0, 1) := by decide +kernel
theorem dX1_take_48 : decode cX1_take 48 = .ok (.bipush 6, 2) := by decide +kernel
theorem dX1_take_50 : decode cX1_take 50 = .ok (.invokestatic 43, 3) := by decide +kernel
theorem dX1_take_53 : decode cX1_take 53 = .ok (.aload_n 1, 1) := by decide +kernel
theorem dX1_take_54 : decode cX1_take 54 = .ok (.getfield 25, 3) := by decide +kernel
theorem dX1_take_57 : decode cX1_take 57 = .ok (.iconst 0, 1) := by decide +kernel
theorem dX1_take_58 : decode cX1_take 58 = .ok (.aload_n 0, 1) := by decide +kernel
theorem dX1_take_59 : decode cX1_take 59 = .ok (.getfield 25, 3) := by decide +kernel
theorem dX1_take_62 : decode cX1_take 62 = .ok (.iconst 0, 1) := by decide +kernel
theorem dX1_take_63 : decode cX1_take 63 = .ok (.bipush 6, 2) := by decide +kernel
theorem dX1_take_65 : decode cX1_take 65 = .ok (.invokestatic 43, 3) := by decide +kernel
theorem dX1_take_68 : decode cX1_take 68 = .ok (.aload_n 1, 1) := by decide +kernel
theorem dX1_take_69 : decode cX1_take 69 = .ok (.getfield 28, 3) := by decide +kernel
theorem dX1_take_72 : decode cX1_take 72 = .ok (.iconst 0, 1) := by decide +kernel
theorem dX1_take_73 : decode cX1_take 73 = .ok (.aload_n 0, 1) := by decide +kernel
theorem dX1_take_74 : decode cX1_take 74 = .ok (.getfield 28, 3) := by decide +kernel
theorem dX1_take_77 : decode cX1_take 77 = .ok (.iconst 0, 1) := by decide +kernel
theorem dX1_take_78 : decode cX1_take 78 = .ok (.bipush 6, 2) := by decide +kernel
theorem dX1_take_80 : decode cX1_take 80 = .ok (.invokestatic 43, 3) := by decide +kernel
theorem dX1_take_83 : decode cX1_take 83 = .ok (.return_, 1) := by decide +kernel
theorem dX1_read_0 : decode cX1_read 0 = .ok (.aload_n 0, 1) := by decide +kernel
theorem dX1_read_1 : decode cX1_read 1 = .ok (.iconst 0, 1) := by decide +kernel
theorem dX1_read_2 : decode cX1_read 2 = .ok (.putfield 9, 3) := by decide +kernel
theorem dX1_read_5 : decode cX1_read 5 = .ok (.iconst 0, 1) := by decide +kernel
theorem dX1_read_6 : decode cX1_read 6 = .ok (.istore_n 3, 1) := by decide +kernel
theorem dX1_read_7 : decode cX1_read 7 = .ok (.iload_n 3, 1) := by decide +kernel
theorem dX1_read_8 : decode cX1_read 8 = .ok (.iload_n 2, 1) := by decide +kernel
theorem dX1_read_9 : decode cX1_read 9 = .ok (.if_icmp .ge 55, 3) := by decide +kernel
theorem dX1_read_12 : decode cX1_read 12 = .ok (.aload_n 1, 1) := by decide +kernel
theorem dX1_read_13 : decode cX1_read 13 = .ok (.iload_n 3, 1) := by decide +kernel
theorem dX1_read_14 : decode cX1_read 14 = .ok (.iaload, 1) := by decide +kernel
theorem dX1_read_15 : decode cX1_read 15 = .ok (.bipush 32, 2) := by decide +kernel
theorem dX1_read_17 : decode cX1_read 17 = .ok (.if_icmp .ne 9, 3) := by decide +kernel
theorem dX1_read_20 : decode cX1_read 20 = .ok (.iinc 3 1, 3) := by decide +kernel
theorem dX1_read_23 : decode cX1_read 23 = .ok (.goto (-16), 3) := by decide +kernel
theorem dX1_read_26 : decode cX1_read 26 = .ok (.aload_n 0, 1) := by decide +kernel
theorem dX1_read_27 : decode cX1_read 27 = .ok (.getfield 9, 3) := by decide +kernel
theorem dX1_read_30 : decode cX1_read 30 = .ok (.bipush 6, 2) := by decide +kernel
theorem dX1_read_32 : decode cX1_read 32 = .ok (.if_icmp .ne 7, 3) := by decide +kernel
theorem dX1_read_35 : decode cX1_read 35 = .ok (.iload_n 3, 1) := by decide +kernel
theorem dX1_read_36 : decode cX1_read 36 = .ok (.goto 10, 3) := by decide +kernel
theorem dX1_read_39 : decode cX1_read 39 = .ok (.aload_n 0, 1) := by decide +kernel
theorem dX1_read_40 : decode cX1_read 40 = .ok (.aload_n 1, 1) := by decide +kernel
theorem dX1_read_41 : decode cX1_read 41 = .ok (.iload_n 2, 1) := by decide +kernel
theorem dX1_read_42 : decode cX1_read 42 = .ok (.iload_n 3, 1) := by decide +kernel
theorem dX1_read_43 : decode cX1_read 43 = .ok (.invokevirtual 49, 3) := by decide +kernel
theorem dX1_read_46 : decode cX1_read 46 = .ok (.istore 4, 2) := by decide +kernel
theorem dX1_read_48 : decode cX1_read 48 = .ok (.iload 4, 2) := by decide +kernel
theorem dX1_read_50 : decode cX1_read 50 = .ok (.bipush (-9), 2) := by decide +kernel
theorem dX1_read_52 : decode cX1_read 52 = .ok (.if_icmp .eq 6, 3) := by decide +kernel
theorem dX1_read_55 : decode cX1_read 55 = .ok (.iload 4, 2) := by decide +kernel
theorem dX1_read_57 : decode cX1_read 57 = .ok (.ireturn, 1) := by decide +kernel
theorem dX1_read_58 : decode cX1_read 58 = .ok (.iinc 3 5, 3) := by decide +kernel
theorem dX1_read_61 : decode cX1_read 61 = .ok (.goto (-54), 3) := by decide +kernel
theorem dX1_read_64 : decode cX1_read 64 = .ok (.aload_n 0, 1) := by decide +kernel
theorem dX1_read_65 : decode cX1_read 65 = .ok (.getfield 9, 3) := by decide +kernel
theorem dX1_read_68 : decode cX1_read 68 = .ok (.iconst 2, 1) := by decide +kernel
theorem dX1_read_69 : decode cX1_read 69 = .ok (.if_icmp .ge 7, 3) := by decide +kernel
theorem dX1_read_72 : decode cX1_read 72 = .ok (.iload_n 2, 1) := by decide +kernel
theorem dX1_read_73 : decode cX1_read 73 = .ok (.goto 5, 3) := by decide +kernel
theorem dX1_read_76 : decode cX1_read 76 = .ok (.bipush (-9), 2) := by decide +kernel
theorem dX1_read_78 : decode cX1_read 78 = .ok (.ireturn, 1) := by decide +kernel
theorem dX1_readItem_0 : decode cX1_readItem 0 = .ok (.aload_n 1, 1) := by decide +kernel
theorem dX1_readItem_1 : decode cX1_readItem 1 = .ok (.iload_n 3, 1) := by decide +kernel
theorem dX1_readItem_2 : decode cX1_readItem 2 = .ok (.iaload, 1) := by decide +kernel
theorem dX1_readItem_3 : decode cX1_readItem 3 = .ok (.invokestatic 53, 3) := by decide +kernel
theorem dX1_readItem_6 : decode cX1_readItem 6 = .ok (.istore 4, 2) := by decide +kernel
theorem dX1_readItem_8 : decode cX1_readItem 8 = .ok (.iload 4, 2) := by decide +kernel
theorem dX1_readItem_10 : decode cX1_readItem 10 = .ok (.iconst (-1), 1) := by decide +kernel
theorem dX1_readItem_11 : decode cX1_readItem 11 = .ok (.if_icmp .ne 5, 3) := by decide +kernel
theorem dX1_readItem_14 : decode cX1_readItem 14 = .ok (.iload_n 3, 1) := by decide +kernel
theorem dX1_readItem_15 : decode cX1_readItem 15 = .ok (.ireturn, 1) := by decide +kernel
theorem dX1_readItem_16 : decode cX1_readItem 16 = .ok (.iload_n 3, 1) := by decide +kernel
theorem dX1_readItem_17 : decode cX1_readItem 17 = .ok (.iconst 1, 1) := by decide +kernel
theorem dX1_readItem_18 : decode cX1_readItem 18 = .ok (.iadd, 1) := by decide +kernel
theorem dX1_readItem_19 : decode cX1_readItem 19 = .ok (.istore 5, 2) := by decide +kernel
theorem dX1_readItem_21 : decode cX1_readItem 21 = .ok (.iload 5, 2) := by decide +kernel
theorem dX1_readItem_23 : decode cX1_readItem 23 = .ok (.iload_n 3, 1) := by decide +kernel
theorem dX1_readItem_24 : decode cX1_readItem 24 = .ok (.iconst 5, 1) := by decide +kernel
theorem dX1_readItem_25 : decode cX1_readItem 25 = .ok (.iadd, 1) := by decide +kernel
theorem dX1_readItem_26 : decode cX1_readItem 26 = .ok (.if_icmp .ge 38, 3) := by decide +kernel
theorem dX1_readItem_29 : decode cX1_readItem 29 = .ok (.iload 5, 2) := by decide +kernel
theorem dX1_readItem_31 : decode cX1_readItem 31 = .ok (.iload_n 2, 1) := by decide +kernel
theorem dX1_readItem_32 : decode cX1_readItem 32 = .ok (.if_icmp .lt 5, 3) := by decide +kernel
theorem dX1_readItem_35 : decode cX1_readItem 35 = .ok (.iload_n 2, 1) := by decide +kernel
theorem dX1_readItem_36 : decode cX1_readItem 36 = .ok (.ireturn, 1) := by decide +kernel
theorem dX1_readItem_37 : decode cX1_readItem 37 = .ok (.aload_n 1, 1) := by decide +kernel
theorem dX1_readItem_38 : decode cX1_readItem 38 = .ok (.iload 5, 2) := by decide +kernel
theorem dX1_readItem_40 : decode cX1_readItem 40 = .ok (.iaload, 1) := by decide +kernel
theorem dX1_readItem_41 : decode cX1_readItem 41 = .ok (.bipush 48, 2) := by decide +kernel
theorem dX1_readItem_43 : decode cX1_readItem 43 = .ok (.if_icmp .lt 12, 3) := by decide +kernel
theorem dX1_readItem_46 : decode cX1_readItem 46 = .ok (.aload_n 1, 1) := by decide +kernel
theorem dX1_readItem_47 : decode cX1_readItem 47 = .ok (.iload 5, 2) := by decide +kernel
theorem dX1_readItem_49 : decode cX1_readItem 49 = .ok (.iaload, 1) := by decide +kernel
theorem dX1_readItem_50 : decode cX1_readItem 50 = .ok (.bipush 57, 2) := by decide +kernel
theorem dX1_readItem_52 : decode cX1_readItem 52 = .ok (.if_icmp .le 6, 3) := by decide +kernel
theorem dX1_readItem_55 : decode cX1_readItem 55 = .ok (.iload 5, 2) := by decide +kernel
theorem dX1_readItem_57 : decode cX1_readItem 57 = .ok (.ireturn, 1) := by decide +kernel
theorem dX1_readItem_58 : decode cX1_readItem 58 = .ok (.iinc 5 1, 3) := by decide +kernel
theorem dX1_readItem_61 : decode cX1_readItem 61 = .ok (.goto (-40), 3) := by decide +kernel
theorem dX1_readItem_64 : decode cX1_readItem 64 = .ok (.aload_n 0, 1) := by decide +kernel
theorem dX1_readItem_65 : decode cX1_readItem 65 = .ok (.getfield 15, 3) := by decide +kernel
theorem dX1_readItem_68 : decode cX1_readItem 68 = .ok (.aload_n 0, 1) := by decide +kernel
theorem dX1_readItem_69 : decode cX1_readItem 69 = .ok (.getfield 9, 3) := by decide +kernel
theorem dX1_readItem_72 : decode cX1_readItem 72 = .ok (.iload 4, 2) := by decide +kernel
theorem dX1_readItem_74 : decode cX1_readItem 74 = .ok (.iastore, 1) := by decide +kernel
theorem dX1_readItem_75 : decode cX1_readItem 75 = .ok (.aload_n 0, 1) := by decide +kernel
theorem dX1_readItem_76 : decode cX1_readItem 76 = .ok (.getfield 19, 3) := by decide +kernel
theorem dX1_readItem_79 : decode cX1_readItem 79 = .ok (.aload_n 0, 1) := by decide +kernel
theorem dX1_readItem_80 : decode cX1_readItem 80 = .ok (.getfield 9, 3) := by decide +kernel
theorem dX1_readItem_83 : decode cX1_readItem 83 = .ok (.aload_n 1, 1) := by decide +kernel
theorem dX1_readItem_84 : decode cX1_readItem 84 = .ok (.iload_n 3, 1) := by decide +kernel
theorem dX1_readItem_85 : decode cX1_readItem 85 = .ok (.iconst 1, 1) := by decide +kernel
theorem dX1_readItem_86 : decode cX1_readItem 86 = .ok (.iadd, 1) := by decide +kernel
theorem dX1_readItem_87 : decode cX1_readItem 87 = .ok (.iaload, 1) := by decide +kernel
theorem dX1_readItem_88 : decode cX1_readItem 88 = .ok (.bipush 48, 2) := by decide +kernel
theorem dX1_readItem_90 : decode cX1_readItem 90 = .ok (.isub, 1) := by decide +kernel
theorem dX1_readItem_91 : decode cX1_readItem 91 = .ok (.iastore, 1) := by decide +kernel
theorem dX1_readItem_92 : decode cX1_readItem 92 = .ok (.aload_n 0, 1) := by decide +kernel
theorem dX1_readItem_93 : decode cX1_readItem 93 = .ok (.getfield 22, 3) := by decide +kernel
theorem dX1_readItem_96 : decode cX1_readItem 96 = .ok (.aload_n 0, 1) := by decide +kernel
theorem dX1_readItem_97 : decode cX1_readItem 97 = .ok (.getfield 9, 3) := by decide +kernel
theorem dX1_readItem_100 : decode cX1_readItem 100 = .ok (.aload_n 1, 1) := by decide +kernel
theorem dX1_readItem_101 : decode cX1_readItem 101 = .ok (.iload_n 3, 1) := by decide +kernel
theorem dX1_readItem_102 : decode cX1_readItem 102 = .ok (.iconst 2, 1) := by decide +kernel
theorem dX1_readItem_103 : decode cX1_readItem 103 = .ok (.iadd, 1) := by decide +kernel
theorem dX1_readItem_104 : decode cX1_readItem 104 = .ok (.iaload, 1) := by decide +kernel
theorem dX1_readItem_105 : decode cX1_readItem 105 = .ok (.bipush 48, 2) := by decide +kernel
theorem dX1_readItem_107 : decode cX1_readItem 107 = .ok (.isub, 1) := by decide +kernel
theorem dX1_readItem_108 : decode cX1_readItem 108 = .ok (.iastore, 1) := by decide +kernel
theorem dX1_readItem_109 : decode cX1_readItem 109 = .ok (.aload_n 0, 1) := by decide +kernel
theorem dX1_readItem_110 : decode cX1_readItem 110 = .ok (.getfield 25, 3) := by decide +kernel
theorem dX1_readItem_113 : decode cX1_readItem 113 = .ok (.aload_n 0, 1) := by decide +kernel
theorem dX1_readItem_114 : decode cX1_readItem 114 = .ok (.getfield 9, 3) := by decide +kernel
theorem dX1_readItem_117 : decode cX1_readItem 117 = .ok (.bipush 10, 2) := by decide +kernel
theorem dX1_readItem_119 : decode cX1_readItem 119 = .ok (.aload_n 1, 1) := by decide +kernel
theorem dX1_readItem_120 : decode cX1_readItem 120 = .ok (.iload_n 3, 1) := by decide +kernel
theorem dX1_readItem_121 : decode cX1_readItem 121 = .ok (.iconst 3, 1) := by decide +kernel
theorem dX1_readItem_122 : decode cX1_readItem 122 = .ok (.iadd, 1) := by decide +kernel
theorem dX1_readItem_123 : decode cX1_readItem 123 = .ok (.iaload, 1) := by decide +kernel
theorem dX1_readItem_124 : decode cX1_readItem 124 = .ok (.bipush 48, 2) := by decide +kernel
theorem dX1_readItem_126 : decode cX1_readItem 126 = .ok (.isub, 1) := by decide +kernel
theorem dX1_readItem_127 : decode cX1_readItem 127 = .ok (.imul, 1) := by decide +kernel
theorem dX1_readItem_128 : decode cX1_readItem 128 = .ok (.aload_n 1, 1) := by decide +kernel
theorem dX1_readItem_129 : decode cX1_readItem 129 = .ok (.iload_n 3, 1) := by decide +kernel
theorem dX1_readItem_130 : decode cX1_readItem 130 = .ok (.iconst 4, 1) := by decide +kernel
theorem dX1_readItem_131 : decode cX1_readItem 131 = .ok (.iadd, 1) := by decide +kernel
theorem dX1_readItem_132 : decode cX1_readItem 132 = .ok (.iaload, 1) := by decide +kernel
theorem dX1_readItem_133 : decode cX1_readItem 133 = .ok (.iadd, 1) := by decide +kernel
theorem dX1_readItem_134 : decode cX1_readItem 134 = .ok (.bipush 48, 2) := by decide +kernel
theorem dX1_readItem_136 : decode cX1_readItem 136 = .ok (.isub, 1) := by decide +kernel
theorem dX1_readItem_137 : decode cX1_readItem 137 = .ok (.iastore, 1) := by decide +kernel
theorem dX1_readItem_138 : decode cX1_readItem 138 = .ok (.aload_n 0, 1) := by decide +kernel
theorem dX1_readItem_139 : decode cX1_readItem 139 = .ok (.getfield 28, 3) := by decide +kernel
theorem dX1_readItem_142 : decode cX1_readItem 142 = .ok (.aload_n 0, 1) := by decide +kernel
theorem dX1_readItem_143 : decode cX1_readItem 143 = .ok (.getfield 9, 3) := by decide +kernel
theorem dX1_readItem_146 : decode cX1_readItem 146 = .ok (.iconst 0, 1) := by decide +kernel
theorem dX1_readItem_147 : decode cX1_readItem 147 = .ok (.iastore, 1) := by decide +kernel
theorem dX1_readItem_148 : decode cX1_readItem 148 = .ok (.aload_n 0, 1) := by decide +kernel
theorem dX1_readItem_149 : decode cX1_readItem 149 = .ok (.dup, 1) := by decide +kernel
theorem dX1_readItem_150 : decode cX1_readItem 150 = .ok (.getfield 9, 3) := by decide +kernel
theorem dX1_readItem_153 : decode cX1_readItem 153 = .ok (.iconst 1, 1) := by decide +kernel
theorem dX1_readItem_154 : decode cX1_readItem 154 = .ok (.iadd, 1) := by decide +kernel
theorem dX1_readItem_155 : decode cX1_readItem 155 = .ok (.putfield 9, 3) := by decide +kernel
theorem dX1_readItem_158 : decode cX1_readItem 158 = .ok (.bipush (-9), 2) := by decide +kernel
theorem dX1_readItem_160 : decode cX1_readItem 160 = .ok (.ireturn, 1) := by decide +kernel
theorem dX1_kindByLetter_0 : decode cX1_kindByLetter 0 = .ok (.iload_n 0, 1) := by decide +kernel
theorem dX1_kindByLetter_1 : decode cX1_kindByLetter 1 = .ok (.tableswitch 75 106 117 #[71, 63, 75, 67, 75, 75, 69, 75, 75, 65, 75, 73], 63) := by decide +kernel
theorem dX1_kindByLetter_64 : decode cX1_kindByLetter 64 = .ok (.iconst 0, 1) := by decide +kernel
theorem dX1_kindByLetter_65 : decode cX1_kindByLetter 65 = .ok (.ireturn, 1) := by decide +kernel
theorem dX1_kindByLetter_66 : decode cX1_kindByLetter 66 = .ok (.iconst 1, 1) := by decide +kernel
theorem dX1_kindByLetter_67 : decode cX1_kindByLetter 67 = .ok (.ireturn, 1) := by decide +kernel
theorem dX1_kindByLetter_68 : decode cX1_kindByLetter 68 = .ok (.iconst 2, 1) := by decide +kernel
theorem dX1_kindByLetter_69 : decode cX1_kindByLetter 69 = .ok (.ireturn, 1) := by decide +kernel
theorem dX1_kindByLetter_70 : decode cX1_kindByLetter 70 = .ok (.iconst 3, 1) := by decide +kernel
theorem dX1_kindByLetter_71 : decode cX1_kindByLetter 71 = .ok (.ireturn, 1) := by decide +kernel
theorem dX1_kindByLetter_72 : decode cX1_kindByLetter 72 = .ok (.iconst 4, 1) := by decide +kernel
theorem dX1_kindByLetter_73 : decode cX1_kindByLetter 73 = .ok (.ireturn, 1) := by decide +kernel
theorem dX1_kindByLetter_74 : decode cX1_kindByLetter 74 = .ok (.iconst 5, 1) := by decide +kernel
theorem dX1_kindByLetter_75 : decode cX1_kindByLetter 75 = .ok (.ireturn, 1) := by decide +kernel
theorem dX1_kindByLetter_76 : decode cX1_kindByLetter 76 = .ok (.iconst (-1), 1) := by decide +kernel
theorem dX1_kindByLetter_77 : decode cX1_kindByLetter 77 = .ok (.ireturn, 1) := by decide +kernel
theorem dX1_kindAbove_0 : decode cX1_kindAbove 0 = .ok (.iload_n 0, 1) := by decide +kernel
theorem dX1_kindAbove_1 : decode cX1_kindAbove 1 = .ok (.lookupswitch 31 #[(4, 27), (5, 29)], 27) := by decide +kernel
theorem dX1_kindAbove_28 : decode cX1_kindAbove 28 = .ok (.iconst 1, 1) := by decide +kernel
theorem dX1_kindAbove_29 : decode cX1_kindAbove 29 = .ok (.ireturn, 1) := by decide +kernel
theorem dX1_kindAbove_30 : decode cX1_kindAbove 30 = .ok (.iconst 3, 1) := by decide +kernel
theorem dX1_kindAbove_31 : decode cX1_kindAbove 31 = .ok (.ireturn, 1) := by decide +kernel
theorem dX1_kindAbove_32 : decode cX1_kindAbove 32 = .ok (.iconst 0, 1) := by decide +kernel
theorem dX1_kindAbove_33 : decode cX1_kindAbove 33 = .ok (.ireturn, 1) := by decide +kernel
theorem dX1_isOf_0 : decode cX1_isOf 0 = .ok (.iload_n 0, 1) := by decide +kernel
theorem dX1_isOf_1 : decode cX1_isOf 1 = .ok (.iload_n 1, 1) := by decide +kernel
theorem dX1_isOf_2 : decode cX1_isOf 2 = .ok (.if_icmp .eq 11, 3) := by decide +kernel
theorem dX1_isOf_5 : decode cX1_isOf 5 = .ok (.iload_n 0, 1) := by decide +kernel
theorem dX1_isOf_6 : decode cX1_isOf 6 = .ok (.invokestatic 57, 3) := by decide +kernel
theorem dX1_isOf_9 : decode cX1_isOf 9 = .ok (.iload_n 1, 1) := by decide +kernel
theorem dX1_isOf_10 : decode cX1_isOf 10 = .ok (.if_icmp .ne 7, 3) := by decide +kernel
theorem dX1_isOf_13 : decode cX1_isOf 13 = .ok (.iconst 1, 1) := by decide +kernel
theorem dX1_isOf_14 : decode cX1_isOf 14 = .ok (.goto 4, 3) := by decide +kernel
theorem dX1_isOf_17 : decode cX1_isOf 17 = .ok (.iconst 0, 1) := by decide +kernel
theorem dX1_isOf_18 : decode cX1_isOf 18 = .ok (.ireturn, 1) := by decide +kernel
theorem dX1_regardOf_0 : decode cX1_regardOf 0 = .ok (.iload_n 1, 1) := by decide +kernel
theorem dX1_regardOf_1 : decode cX1_regardOf 1 = .ok (.iconst 2, 1) := by decide +kernel
theorem dX1_regardOf_2 : decode cX1_regardOf 2 = .ok (.iload_n 2, 1) := by decide +kernel
theorem dX1_regardOf_3 : decode cX1_regardOf 3 = .ok (.imul, 1) := by decide +kernel
theorem dX1_regardOf_4 : decode cX1_regardOf 4 = .ok (.if_icmp .le 11, 3) := by decide +kernel
theorem dX1_regardOf_7 : decode cX1_regardOf 7 = .ok (.iload_n 1, 1) := by decide +kernel
theorem dX1_regardOf_8 : decode cX1_regardOf 8 = .ok (.iconst 2, 1) := by decide +kernel
theorem dX1_regardOf_9 : decode cX1_regardOf 9 = .ok (.iload_n 2, 1) := by decide +kernel
theorem dX1_regardOf_10 : decode cX1_regardOf 10 = .ok (.imul, 1) := by decide +kernel
theorem dX1_regardOf_11 : decode cX1_regardOf 11 = .ok (.isub, 1) := by decide +kernel
theorem dX1_regardOf_12 : decode cX1_regardOf 12 = .ok (.goto 4, 3) := by decide +kernel
theorem dX1_regardOf_15 : decode cX1_regardOf 15 = .ok (.iconst 0, 1) := by decide +kernel
theorem dX1_regardOf_16 : decode cX1_regardOf 16 = .ok (.istore 4, 2) := by decide +kernel
theorem dX1_regardOf_18 : decode cX1_regardOf 18 = .ok (.iload_n 3, 1) := by decide +kernel
theorem dX1_regardOf_19 : decode cX1_regardOf 19 = .ok (.bipush 20, 2) := by decide +kernel
theorem dX1_regardOf_21 : decode cX1_regardOf 21 = .ok (.if_icmp .lt 10, 3) := by decide +kernel
theorem dX1_regardOf_24 : decode cX1_regardOf 24 = .ok (.iload 4, 2) := by decide +kernel
theorem dX1_regardOf_26 : decode cX1_regardOf 26 = .ok (.iconst 2, 1) := by decide +kernel
theorem dX1_regardOf_27 : decode cX1_regardOf 27 = .ok (.iadd, 1) := by decide +kernel
theorem dX1_regardOf_28 : decode cX1_regardOf 28 = .ok (.goto 5, 3) := by decide +kernel
theorem dX1_regardOf_31 : decode cX1_regardOf 31 = .ok (.iload 4, 2) := by decide +kernel
theorem dX1_regardOf_33 : decode cX1_regardOf 33 = .ok (.istore 5, 2) := by decide +kernel
theorem dX1_regardOf_35 : decode cX1_regardOf 35 = .ok (.iload_n 3, 1) := by decide +kernel
theorem dX1_regardOf_36 : decode cX1_regardOf 36 = .ok (.bipush 10, 2) := by decide +kernel
theorem dX1_regardOf_38 : decode cX1_regardOf 38 = .ok (.if_icmp .ge 15, 3) := by decide +kernel
theorem dX1_regardOf_41 : decode cX1_regardOf 41 = .ok (.iload 4, 2) := by decide +kernel
theorem dX1_regardOf_43 : decode cX1_regardOf 43 = .ok (.ifCond .le 10, 3) := by decide +kernel
theorem dX1_regardOf_46 : decode cX1_regardOf 46 = .ok (.iload 4, 2) := by decide +kernel
theorem dX1_regardOf_48 : decode cX1_regardOf 48 = .ok (.iconst 1, 1) := by decide +kernel
theorem dX1_regardOf_49 : decode cX1_regardOf 49 = .ok (.isub, 1) := by decide +kernel
theorem dX1_regardOf_50 : decode cX1_regardOf 50 = .ok (.goto 5, 3) := by decide +kernel
theorem dX1_regardOf_53 : decode cX1_regardOf 53 = .ok (.iload 4, 2) := by decide +kernel
theorem dX1_regardOf_55 : decode cX1_regardOf 55 = .ok (.istore 6, 2) := by decide +kernel
theorem dX1_regardOf_57 : decode cX1_regardOf 57 = .ok (.iload_n 0, 1) := by decide +kernel
theorem dX1_regardOf_58 : decode cX1_regardOf 58 = .ok (.tableswitch 58 1 5 #[34, 37, 45, 48, 53], 34) := by decide +kernel
theorem dX1_regardOf_92 : decode cX1_regardOf 92 = .ok (.iload 5, 2) := by decide +kernel
theorem dX1_regardOf_94 : decode cX1_regardOf 94 = .ok (.ireturn, 1) := by decide +kernel
theorem dX1_regardOf_95 : decode cX1_regardOf 95 = .ok (.iload 4, 2) := by decide +kernel
theorem dX1_regardOf_97 : decode cX1_regardOf 97 = .ok (.iload_n 3, 1) := by decide +kernel
theorem dX1_regardOf_98 : decode cX1_regardOf 98 = .ok (.bipush 10, 2) := by decide +kernel
theorem dX1_regardOf_100 : decode cX1_regardOf 100 = .ok (.idiv, 1) := by decide +kernel
theorem dX1_regardOf_101 : decode cX1_regardOf 101 = .ok (.iadd, 1) := by decide +kernel
theorem dX1_regardOf_102 : decode cX1_regardOf 102 = .ok (.ireturn, 1) := by decide +kernel
theorem dX1_regardOf_103 : decode cX1_regardOf 103 = .ok (.iload 6, 2) := by decide +kernel
theorem dX1_regardOf_105 : decode cX1_regardOf 105 = .ok (.ireturn, 1) := by decide +kernel
theorem dX1_regardOf_106 : decode cX1_regardOf 106 = .ok (.iconst 2, 1) := by decide +kernel
theorem dX1_regardOf_107 : decode cX1_regardOf 107 = .ok (.iload 5, 2) := by decide +kernel
theorem dX1_regardOf_109 : decode cX1_regardOf 109 = .ok (.imul, 1) := by decide +kernel
theorem dX1_regardOf_110 : decode cX1_regardOf 110 = .ok (.ireturn, 1) := by decide +kernel
theorem dX1_regardOf_111 : decode cX1_regardOf 111 = .ok (.iload 6, 2) := by decide +kernel
theorem dX1_regardOf_113 : decode cX1_regardOf 113 = .ok (.iconst 2, 1) := by decide +kernel
theorem dX1_regardOf_114 : decode cX1_regardOf 114 = .ok (.idiv, 1) := by decide +kernel
theorem dX1_regardOf_115 : decode cX1_regardOf 115 = .ok (.ireturn, 1) := by decide +kernel
theorem dX1_regardOf_116 : decode cX1_regardOf 116 = .ok (.iload 4, 2) := by decide +kernel
theorem dX1_regardOf_118 : decode cX1_regardOf 118 = .ok (.ireturn, 1) := by decide +kernel
theorem dX1_regardAs_0 : decode cX1_regardAs 0 = .ok (.iload_n 2, 1) := by decide +kernel
theorem dX1_regardAs_1 : decode cX1_regardAs 1 = .ok (.aload_n 0, 1) := by decide +kernel
theorem dX1_regardAs_2 : decode cX1_regardAs 2 = .ok (.getfield 19, 3) := by decide +kernel
theorem dX1_regardAs_5 : decode cX1_regardAs 5 = .ok (.iload_n 1, 1) := by decide +kernel
theorem dX1_regardAs_6 : decode cX1_regardAs 6 = .ok (.iaload, 1) := by decide +kernel
theorem dX1_regardAs_7 : decode cX1_regardAs 7 = .ok (.aload_n 0, 1) := by decide +kernel
theorem dX1_regardAs_8 : decode cX1_regardAs 8 = .ok (.getfield 28, 3) := by decide +kernel
theorem dX1_regardAs_11 : decode cX1_regardAs 11 = .ok (.iload_n 1, 1) := by decide +kernel
theorem dX1_regardAs_12 : decode cX1_regardAs 12 = .ok (.iaload, 1) := by decide +kernel
theorem dX1_regardAs_13 : decode cX1_regardAs 13 = .ok (.aload_n 0, 1) := by decide +kernel
theorem dX1_regardAs_14 : decode cX1_regardAs 14 = .ok (.getfield 25, 3) := by decide +kernel
theorem dX1_regardAs_17 : decode cX1_regardAs 17 = .ok (.iload_n 1, 1) := by decide +kernel
theorem dX1_regardAs_18 : decode cX1_regardAs 18 = .ok (.iaload, 1) := by decide +kernel
theorem dX1_regardAs_19 : decode cX1_regardAs 19 = .ok (.invokestatic 60, 3) := by decide +kernel
theorem dX1_regardAs_22 : decode cX1_regardAs 22 = .ok (.ireturn, 1) := by decide +kernel
theorem dX1_weigh_0 : decode cX1_weigh 0 = .ok (.aload_n 0, 1) := by decide +kernel
theorem dX1_weigh_1 : decode cX1_weigh 1 = .ok (.iconst 0, 1) := by decide +kernel
theorem dX1_weigh_2 : decode cX1_weigh 2 = .ok (.putfield 37, 3) := by decide +kernel
theorem dX1_weigh_5 : decode cX1_weigh 5 = .ok (.iconst 0, 1) := by decide +kernel
theorem dX1_weigh_6 : decode cX1_weigh 6 = .ok (.istore_n 1, 1) := by decide +kernel
theorem dX1_weigh_7 : decode cX1_weigh 7 = .ok (.iload_n 1, 1) := by decide +kernel
theorem dX1_weigh_8 : decode cX1_weigh 8 = .ok (.aload_n 0, 1) := by decide +kernel
theorem dX1_weigh_9 : decode cX1_weigh 9 = .ok (.getfield 9, 3) := by decide +kernel
theorem dX1_weigh_12 : decode cX1_weigh 12 = .ok (.if_icmp .ge 65, 3) := by decide +kernel
theorem dX1_weigh_15 : decode cX1_weigh 15 = .ok (.aload_n 0, 1) := by decide +kernel
theorem dX1_weigh_16 : decode cX1_weigh 16 = .ok (.getfield 31, 3) := by decide +kernel
theorem dX1_weigh_19 : decode cX1_weigh 19 = .ok (.iload_n 1, 1) := by decide +kernel
theorem dX1_weigh_20 : decode cX1_weigh 20 = .ok (.aload_n 0, 1) := by decide +kernel
theorem dX1_weigh_21 : decode cX1_weigh 21 = .ok (.getfield 15, 3) := by decide +kernel
theorem dX1_weigh_24 : decode cX1_weigh 24 = .ok (.iload_n 1, 1) := by decide +kernel
theorem dX1_weigh_25 : decode cX1_weigh 25 = .ok (.iaload, 1) := by decide +kernel
theorem dX1_weigh_26 : decode cX1_weigh 26 = .ok (.aload_n 0, 1) := by decide +kernel
theorem dX1_weigh_27 : decode cX1_weigh 27 = .ok (.getfield 19, 3) := by decide +kernel
theorem dX1_weigh_30 : decode cX1_weigh 30 = .ok (.iload_n 1, 1) := by decide +kernel
theorem dX1_weigh_31 : decode cX1_weigh 31 = .ok (.iaload, 1) := by decide +kernel
theorem dX1_weigh_32 : decode cX1_weigh 32 = .ok (.aload_n 0, 1) := by decide +kernel
theorem dX1_weigh_33 : decode cX1_weigh 33 = .ok (.getfield 28, 3) := by decide +kernel
theorem dX1_weigh_36 : decode cX1_weigh 36 = .ok (.iload_n 1, 1) := by decide +kernel
theorem dX1_weigh_37 : decode cX1_weigh 37 = .ok (.iaload, 1) := by decide +kernel
theorem dX1_weigh_38 : decode cX1_weigh 38 = .ok (.aload_n 0, 1) := by decide +kernel
theorem dX1_weigh_39 : decode cX1_weigh 39 = .ok (.getfield 25, 3) := by decide +kernel
theorem dX1_weigh_42 : decode cX1_weigh 42 = .ok (.iload_n 1, 1) := by decide +kernel
theorem dX1_weigh_43 : decode cX1_weigh 43 = .ok (.iaload, 1) := by decide +kernel
theorem dX1_weigh_44 : decode cX1_weigh 44 = .ok (.invokestatic 60, 3) := by decide +kernel
theorem dX1_weigh_47 : decode cX1_weigh 47 = .ok (.iastore, 1) := by decide +kernel
theorem dX1_weigh_48 : decode cX1_weigh 48 = .ok (.aload_n 0, 1) := by decide +kernel
theorem dX1_weigh_49 : decode cX1_weigh 49 = .ok (.getfield 31, 3) := by decide +kernel
theorem dX1_weigh_52 : decode cX1_weigh 52 = .ok (.iload_n 1, 1) := by decide +kernel
theorem dX1_weigh_53 : decode cX1_weigh 53 = .ok (.iaload, 1) := by decide +kernel
theorem dX1_weigh_54 : decode cX1_weigh 54 = .ok (.aload_n 0, 1) := by decide +kernel
theorem dX1_weigh_55 : decode cX1_weigh 55 = .ok (.getfield 31, 3) := by decide +kernel
theorem dX1_weigh_58 : decode cX1_weigh 58 = .ok (.aload_n 0, 1) := by decide +kernel
theorem dX1_weigh_59 : decode cX1_weigh 59 = .ok (.getfield 37, 3) := by decide +kernel
theorem dX1_weigh_62 : decode cX1_weigh 62 = .ok (.iaload, 1) := by decide +kernel
theorem dX1_weigh_63 : decode cX1_weigh 63 = .ok (.if_icmp .le 8, 3) := by decide +kernel
theorem dX1_weigh_66 : decode cX1_weigh 66 = .ok (.aload_n 0, 1) := by decide +kernel
theorem dX1_weigh_67 : decode cX1_weigh 67 = .ok (.iload_n 1, 1) := by decide +kernel
theorem dX1_weigh_68 : decode cX1_weigh 68 = .ok (.putfield 37, 3) := by decide +kernel
theorem dX1_weigh_71 : decode cX1_weigh 71 = .ok (.iinc 1 1, 3) := by decide +kernel
theorem dX1_weigh_74 : decode cX1_weigh 74 = .ok (.goto (-67), 3) := by decide +kernel
theorem dX1_weigh_77 : decode cX1_weigh 77 = .ok (.aload_n 0, 1) := by decide +kernel
theorem dX1_weigh_78 : decode cX1_weigh 78 = .ok (.iconst 0, 1) := by decide +kernel
theorem dX1_weigh_79 : decode cX1_weigh 79 = .ok (.putfield 40, 3) := by decide +kernel
theorem dX1_weigh_82 : decode cX1_weigh 82 = .ok (.iconst 0, 1) := by decide +kernel
theorem dX1_weigh_83 : decode cX1_weigh 83 = .ok (.istore_n 1, 1) := by decide +kernel
theorem dX1_weigh_84 : decode cX1_weigh 84 = .ok (.iload_n 1, 1) := by decide +kernel
theorem dX1_weigh_85 : decode cX1_weigh 85 = .ok (.aload_n 0, 1) := by decide +kernel
theorem dX1_weigh_86 : decode cX1_weigh 86 = .ok (.getfield 9, 3) := by decide +kernel
theorem dX1_weigh_89 : decode cX1_weigh 89 = .ok (.if_icmp .ge 46, 3) := by decide +kernel
theorem dX1_weigh_92 : decode cX1_weigh 92 = .ok (.aload_n 0, 1) := by decide +kernel
theorem dX1_weigh_93 : decode cX1_weigh 93 = .ok (.getfield 34, 3) := by decide +kernel
theorem dX1_weigh_96 : decode cX1_weigh 96 = .ok (.iload_n 1, 1) := by decide +kernel
theorem dX1_weigh_97 : decode cX1_weigh 97 = .ok (.aload_n 0, 1) := by decide +kernel
theorem dX1_weigh_98 : decode cX1_weigh 98 = .ok (.getfield 31, 3) := by decide +kernel
theorem dX1_weigh_101 : decode cX1_weigh 101 = .ok (.aload_n 0, 1) := by decide +kernel
theorem dX1_weigh_102 : decode cX1_weigh 102 = .ok (.getfield 37, 3) := by decide +kernel
theorem dX1_weigh_105 : decode cX1_weigh 105 = .ok (.iaload, 1) := by decide +kernel
theorem dX1_weigh_106 : decode cX1_weigh 106 = .ok (.aload_n 0, 1) := by decide +kernel
theorem dX1_weigh_107 : decode cX1_weigh 107 = .ok (.getfield 31, 3) := by decide +kernel
theorem dX1_weigh_110 : decode cX1_weigh 110 = .ok (.iload_n 1, 1) := by decide +kernel
theorem dX1_weigh_111 : decode cX1_weigh 111 = .ok (.iaload, 1) := by decide +kernel
theorem dX1_weigh_112 : decode cX1_weigh 112 = .ok (.isub, 1) := by decide +kernel
theorem dX1_weigh_113 : decode cX1_weigh 113 = .ok (.iastore, 1) := by decide +kernel
theorem dX1_weigh_114 : decode cX1_weigh 114 = .ok (.aload_n 0, 1) := by decide +kernel
theorem dX1_weigh_115 : decode cX1_weigh 115 = .ok (.dup, 1) := by decide +kernel
theorem dX1_weigh_116 : decode cX1_weigh 116 = .ok (.getfield 40, 3) := by decide +kernel
theorem dX1_weigh_119 : decode cX1_weigh 119 = .ok (.aload_n 0, 1) := by decide +kernel
theorem dX1_weigh_120 : decode cX1_weigh 120 = .ok (.getfield 34, 3) := by decide +kernel
theorem dX1_weigh_123 : decode cX1_weigh 123 = .ok (.iload_n 1, 1) := by decide +kernel
theorem dX1_weigh_124 : decode cX1_weigh 124 = .ok (.iaload, 1) := by decide +kernel
theorem dX1_weigh_125 : decode cX1_weigh 125 = .ok (.iadd, 1) := by decide +kernel
theorem dX1_weigh_126 : decode cX1_weigh 126 = .ok (.putfield 40, 3) := by decide +kernel
theorem dX1_weigh_129 : decode cX1_weigh 129 = .ok (.iinc 1 1, 3) := by decide +kernel
theorem dX1_weigh_132 : decode cX1_weigh 132 = .ok (.goto (-48), 3) := by decide +kernel
theorem dX1_weigh_135 : decode cX1_weigh 135 = .ok (.return_, 1) := by decide +kernel
theorem dX1_pass_0 : decode cX1_pass 0 = .ok (.aload_n 0, 1) := by decide +kernel
theorem dX1_pass_1 : decode cX1_pass 1 = .ok (.invokevirtual 64, 3) := by decide +kernel
theorem dX1_pass_4 : decode cX1_pass 4 = .ok (.iconst 0, 1) := by decide +kernel
theorem dX1_pass_5 : decode cX1_pass 5 = .ok (.istore_n 1, 1) := by decide +kernel
theorem dX1_pass_6 : decode cX1_pass 6 = .ok (.iconst 0, 1) := by decide +kernel
theorem dX1_pass_7 : decode cX1_pass 7 = .ok (.istore_n 2, 1) := by decide +kernel
theorem dX1_pass_8 : decode cX1_pass 8 = .ok (.iload_n 2, 1) := by decide +kernel
theorem dX1_pass_9 : decode cX1_pass 9 = .ok (.aload_n 0, 1) := by decide +kernel
theorem dX1_pass_10 : decode cX1_pass 10 = .ok (.getfield 9, 3) := by decide +kernel
theorem dX1_pass_13 : decode cX1_pass 13 = .ok (.if_icmp .ge 58, 3) := by decide +kernel
theorem dX1_pass_16 : decode cX1_pass 16 = .ok (.iconst 0, 1) := by decide +kernel
theorem dX1_pass_17 : decode cX1_pass 17 = .ok (.bipush 99, 2) := by decide +kernel
theorem dX1_pass_19 : decode cX1_pass 19 = .ok (.aload_n 0, 1) := by decide +kernel
theorem dX1_pass_20 : decode cX1_pass 20 = .ok (.getfield 25, 3) := by decide +kernel
theorem dX1_pass_23 : decode cX1_pass 23 = .ok (.iload_n 2, 1) := by decide +kernel
theorem dX1_pass_24 : decode cX1_pass 24 = .ok (.iaload, 1) := by decide +kernel
theorem dX1_pass_25 : decode cX1_pass 25 = .ok (.aload_n 0, 1) := by decide +kernel
theorem dX1_pass_26 : decode cX1_pass 26 = .ok (.getfield 34, 3) := by decide +kernel
theorem dX1_pass_29 : decode cX1_pass 29 = .ok (.iload_n 2, 1) := by decide +kernel
theorem dX1_pass_30 : decode cX1_pass 30 = .ok (.iaload, 1) := by decide +kernel
theorem dX1_pass_31 : decode cX1_pass 31 = .ok (.iadd, 1) := by decide +kernel
theorem dX1_pass_32 : decode cX1_pass 32 = .ok (.aload_n 0, 1) := by decide +kernel
theorem dX1_pass_33 : decode cX1_pass 33 = .ok (.getfield 22, 3) := by decide +kernel
theorem dX1_pass_36 : decode cX1_pass 36 = .ok (.iload_n 2, 1) := by decide +kernel
theorem dX1_pass_37 : decode cX1_pass 37 = .ok (.iaload, 1) := by decide +kernel
theorem dX1_pass_38 : decode cX1_pass 38 = .ok (.isub, 1) := by decide +kernel
theorem dX1_pass_39 : decode cX1_pass 39 = .ok (.invokestatic 67, 3) := by decide +kernel
theorem dX1_pass_42 : decode cX1_pass 42 = .ok (.invokestatic 73, 3) := by decide +kernel
theorem dX1_pass_45 : decode cX1_pass 45 = .ok (.istore_n 3, 1) := by decide +kernel
theorem dX1_pass_46 : decode cX1_pass 46 = .ok (.iload_n 3, 1) := by decide +kernel
theorem dX1_pass_47 : decode cX1_pass 47 = .ok (.aload_n 0, 1) := by decide +kernel
theorem dX1_pass_48 : decode cX1_pass 48 = .ok (.getfield 25, 3) := by decide +kernel
theorem dX1_pass_51 : decode cX1_pass 51 = .ok (.iload_n 2, 1) := by decide +kernel
theorem dX1_pass_52 : decode cX1_pass 52 = .ok (.iaload, 1) := by decide +kernel
theorem dX1_pass_53 : decode cX1_pass 53 = .ok (.if_icmp .eq 5, 3) := by decide +kernel
theorem dX1_pass_56 : decode cX1_pass 56 = .ok (.iconst 1, 1) := by decide +kernel
theorem dX1_pass_57 : decode cX1_pass 57 = .ok (.istore_n 1, 1) := by decide +kernel
theorem dX1_pass_58 : decode cX1_pass 58 = .ok (.aload_n 0, 1) := by decide +kernel
theorem dX1_pass_59 : decode cX1_pass 59 = .ok (.getfield 25, 3) := by decide +kernel
theorem dX1_pass_62 : decode cX1_pass 62 = .ok (.iload_n 2, 1) := by decide +kernel
theorem dX1_pass_63 : decode cX1_pass 63 = .ok (.iload_n 3, 1) := by decide +kernel
theorem dX1_pass_64 : decode cX1_pass 64 = .ok (.iastore, 1) := by decide +kernel
theorem dX1_pass_65 : decode cX1_pass 65 = .ok (.iinc 2 1, 3) := by decide +kernel
theorem dX1_pass_68 : decode cX1_pass 68 = .ok (.goto (-60), 3) := by decide +kernel
theorem dX1_pass_71 : decode cX1_pass 71 = .ok (.iload_n 1, 1) := by decide +kernel
theorem dX1_pass_72 : decode cX1_pass 72 = .ok (.ireturn, 1) := by decide +kernel
theorem dX1_passAll_0 : decode cX1_passAll 0 = .ok (.iconst 0, 1) := by decide +kernel
theorem dX1_passAll_1 : decode cX1_passAll 1 = .ok (.istore_n 2, 1) := by decide +kernel
theorem dX1_passAll_2 : decode cX1_passAll 2 = .ok (.iconst 0, 1) := by decide +kernel
theorem dX1_passAll_3 : decode cX1_passAll 3 = .ok (.istore_n 3, 1) := by decide +kernel
theorem dX1_passAll_4 : decode cX1_passAll 4 = .ok (.iload_n 3, 1) := by decide +kernel
theorem dX1_passAll_5 : decode cX1_passAll 5 = .ok (.iload_n 1, 1) := by decide +kernel
theorem dX1_passAll_6 : decode cX1_passAll 6 = .ok (.if_icmp .ge 21, 3) := by decide +kernel
theorem dX1_passAll_9 : decode cX1_passAll 9 = .ok (.aload_n 0, 1) := by decide +kernel
theorem dX1_passAll_10 : decode cX1_passAll 10 = .ok (.invokevirtual 76, 3) := by decide +kernel
theorem dX1_passAll_13 : decode cX1_passAll 13 = .ok (.pop, 1) := by decide +kernel
theorem dX1_passAll_14 : decode cX1_passAll 14 = .ok (.iload_n 2, 1) := by decide +kernel
theorem dX1_passAll_15 : decode cX1_passAll 15 = .ok (.aload_n 0, 1) := by decide +kernel
theorem dX1_passAll_16 : decode cX1_passAll 16 = .ok (.getfield 40, 3) := by decide +kernel
theorem dX1_passAll_19 : decode cX1_passAll 19 = .ok (.iadd, 1) := by decide +kernel
theorem dX1_passAll_20 : decode cX1_passAll 20 = .ok (.istore_n 2, 1) := by decide +kernel
theorem dX1_passAll_21 : decode cX1_passAll 21 = .ok (.iinc 3 1, 3) := by decide +kernel
theorem dX1_passAll_24 : decode cX1_passAll 24 = .ok (.goto (-20), 3) := by decide +kernel
theorem dX1_passAll_27 : decode cX1_passAll 27 = .ok (.iload_n 2, 1) := by decide +kernel
theorem dX1_passAll_28 : decode cX1_passAll 28 = .ok (.ireturn, 1) := by decide +kernel
theorem dX1_paidUnless_0 : decode cX1_paidUnless 0 = .ok (.iconst 0, 1) := by decide +kernel
theorem dX1_paidUnless_1 : decode cX1_paidUnless 1 = .ok (.istore_n 3, 1) := by decide +kernel
theorem dX1_paidUnless_2 : decode cX1_paidUnless 2 = .ok (.iconst 0, 1) := by decide +kernel
theorem dX1_paidUnless_3 : decode cX1_paidUnless 3 = .ok (.istore 4, 2) := by decide +kernel
theorem dX1_paidUnless_5 : decode cX1_paidUnless 5 = .ok (.iload 4, 2) := by decide +kernel
theorem dX1_paidUnless_7 : decode cX1_paidUnless 7 = .ok (.aload_n 0, 1) := by decide +kernel
theorem dX1_paidUnless_8 : decode cX1_paidUnless 8 = .ok (.getfield 9, 3) := by decide +kernel
theorem dX1_paidUnless_11 : decode cX1_paidUnless 11 = .ok (.if_icmp .ge 21, 3) := by decide +kernel
theorem dX1_paidUnless_14 : decode cX1_paidUnless 14 = .ok (.iload_n 3, 1) := by decide +kernel
theorem dX1_paidUnless_15 : decode cX1_paidUnless 15 = .ok (.aload_n 0, 1) := by decide +kernel
theorem dX1_paidUnless_16 : decode cX1_paidUnless 16 = .ok (.iload_n 1, 1) := by decide +kernel
theorem dX1_paidUnless_17 : decode cX1_paidUnless 17 = .ok (.iload 4, 2) := by decide +kernel
theorem dX1_paidUnless_19 : decode cX1_paidUnless 19 = .ok (.invokevirtual 80, 3) := by decide +kernel
theorem dX1_paidUnless_22 : decode cX1_paidUnless 22 = .ok (.invokestatic 73, 3) := by decide +kernel
theorem dX1_paidUnless_25 : decode cX1_paidUnless 25 = .ok (.istore_n 3, 1) := by decide +kernel
theorem dX1_paidUnless_26 : decode cX1_paidUnless 26 = .ok (.iinc 4 1, 3) := by decide +kernel
theorem dX1_paidUnless_29 : decode cX1_paidUnless 29 = .ok (.goto (-24), 3) := by decide +kernel
theorem dX1_paidUnless_32 : decode cX1_paidUnless 32 = .ok (.iload_n 3, 1) := by decide +kernel
theorem dX1_paidUnless_33 : decode cX1_paidUnless 33 = .ok (.aload_n 0, 1) := by decide +kernel
theorem dX1_paidUnless_34 : decode cX1_paidUnless 34 = .ok (.iload_n 1, 1) := by decide +kernel
theorem dX1_paidUnless_35 : decode cX1_paidUnless 35 = .ok (.iload_n 2, 1) := by decide +kernel
theorem dX1_paidUnless_36 : decode cX1_paidUnless 36 = .ok (.invokevirtual 80, 3) := by decide +kernel
theorem dX1_paidUnless_39 : decode cX1_paidUnless 39 = .ok (.isub, 1) := by decide +kernel
theorem dX1_paidUnless_40 : decode cX1_paidUnless 40 = .ok (.ireturn, 1) := by decide +kernel
theorem dX1_regardedUnless_0 : decode cX1_regardedUnless 0 = .ok (.iload_n 1, 1) := by decide +kernel
theorem dX1_regardedUnless_1 : decode cX1_regardedUnless 1 = .ok (.iload_n 2, 1) := by decide +kernel
theorem dX1_regardedUnless_2 : decode cX1_regardedUnless 2 = .ok (.ishr, 1) := by decide +kernel
theorem dX1_regardedUnless_3 : decode cX1_regardedUnless 3 = .ok (.iconst 1, 1) := by decide +kernel
theorem dX1_regardedUnless_4 : decode cX1_regardedUnless 4 = .ok (.iand, 1) := by decide +kernel
theorem dX1_regardedUnless_5 : decode cX1_regardedUnless 5 = .ok (.ifCond .eq 7, 3) := by decide +kernel
theorem dX1_regardedUnless_8 : decode cX1_regardedUnless 8 = .ok (.iconst 0, 1) := by decide +kernel
theorem dX1_regardedUnless_9 : decode cX1_regardedUnless 9 = .ok (.goto 9, 3) := by decide +kernel
theorem dX1_regardedUnless_12 : decode cX1_regardedUnless 12 = .ok (.aload_n 0, 1) := by decide +kernel
theorem dX1_regardedUnless_13 : decode cX1_regardedUnless 13 = .ok (.getfield 31, 3) := by decide +kernel
theorem dX1_regardedUnless_16 : decode cX1_regardedUnless 16 = .ok (.iload_n 2, 1) := by decide +kernel
theorem dX1_regardedUnless_17 : decode cX1_regardedUnless 17 = .ok (.iaload, 1) := by decide +kernel
theorem dX1_regardedUnless_18 : decode cX1_regardedUnless 18 = .ok (.ireturn, 1) := by decide +kernel
theorem dX1_firstWith_0 : decode cX1_firstWith 0 = .ok (.iconst 0, 1) := by decide +kernel
theorem dX1_firstWith_1 : decode cX1_firstWith 1 = .ok (.istore_n 2, 1) := by decide +kernel
theorem dX1_firstWith_2 : decode cX1_firstWith 2 = .ok (.iload_n 2, 1) := by decide +kernel
theorem dX1_firstWith_3 : decode cX1_firstWith 3 = .ok (.aload_n 0, 1) := by decide +kernel
theorem dX1_firstWith_4 : decode cX1_firstWith 4 = .ok (.getfield 9, 3) := by decide +kernel
theorem dX1_firstWith_7 : decode cX1_firstWith 7 = .ok (.if_icmp .ge 21, 3) := by decide +kernel
theorem dX1_firstWith_10 : decode cX1_firstWith 10 = .ok (.aload_n 0, 1) := by decide +kernel
theorem dX1_firstWith_11 : decode cX1_firstWith 11 = .ok (.getfield 25, 3) := by decide +kernel
theorem dX1_firstWith_14 : decode cX1_firstWith 14 = .ok (.iload_n 2, 1) := by decide +kernel
theorem dX1_firstWith_15 : decode cX1_firstWith 15 = .ok (.iaload, 1) := by decide +kernel
theorem dX1_firstWith_16 : decode cX1_firstWith 16 = .ok (.iload_n 1, 1) := by decide +kernel
theorem dX1_firstWith_17 : decode cX1_firstWith 17 = .ok (.if_icmp .lt 5, 3) := by decide +kernel
theorem dX1_firstWith_20 : decode cX1_firstWith 20 = .ok (.iload_n 2, 1) := by decide +kernel
theorem dX1_firstWith_21 : decode cX1_firstWith 21 = .ok (.ireturn, 1) := by decide +kernel
theorem dX1_firstWith_22 : decode cX1_firstWith 22 = .ok (.iinc 2 1, 3) := by decide +kernel
theorem dX1_firstWith_25 : decode cX1_firstWith 25 = .ok (.goto (-23), 3) := by decide +kernel
theorem dX1_firstWith_28 : decode cX1_firstWith 28 = .ok (.bipush (-9), 2) := by decide +kernel
theorem dX1_firstWith_30 : decode cX1_firstWith 30 = .ok (.ireturn, 1) := by decide +kernel
theorem dX1_highestRegard_0 : decode cX1_highestRegard 0 = .ok (.aload_n 0, 1) := by decide +kernel
theorem dX1_highestRegard_1 : decode cX1_highestRegard 1 = .ok (.invokevirtual 64, 3) := by decide +kernel
theorem dX1_highestRegard_4 : decode cX1_highestRegard 4 = .ok (.aload_n 0, 1) := by decide +kernel
theorem dX1_highestRegard_5 : decode cX1_highestRegard 5 = .ok (.getfield 9, 3) := by decide +kernel
theorem dX1_highestRegard_8 : decode cX1_highestRegard 8 = .ok (.ifCond .ne 7, 3) := by decide +kernel
theorem dX1_highestRegard_11 : decode cX1_highestRegard 11 = .ok (.iconst 0, 1) := by decide +kernel
theorem dX1_highestRegard_12 : decode cX1_highestRegard 12 = .ok (.goto 12, 3) := by decide +kernel
theorem dX1_highestRegard_15 : decode cX1_highestRegard 15 = .ok (.aload_n 0, 1) := by decide +kernel
theorem dX1_highestRegard_16 : decode cX1_highestRegard 16 = .ok (.getfield 31, 3) := by decide +kernel
theorem dX1_highestRegard_19 : decode cX1_highestRegard 19 = .ok (.aload_n 0, 1) := by decide +kernel
theorem dX1_highestRegard_20 : decode cX1_highestRegard 20 = .ok (.getfield 37, 3) := by decide +kernel
theorem dX1_highestRegard_23 : decode cX1_highestRegard 23 = .ok (.iaload, 1) := by decide +kernel
theorem dX1_highestRegard_24 : decode cX1_highestRegard 24 = .ok (.ireturn, 1) := by decide +kernel
theorem dX1_allPurses_0 : decode cX1_allPurses 0 = .ok (.iconst 0, 1) := by decide +kernel
theorem dX1_allPurses_1 : decode cX1_allPurses 1 = .ok (.istore_n 1, 1) := by decide +kernel
theorem dX1_allPurses_2 : decode cX1_allPurses 2 = .ok (.iconst 0, 1) := by decide +kernel
theorem dX1_allPurses_3 : decode cX1_allPurses 3 = .ok (.istore_n 2, 1) := by decide +kernel
theorem dX1_allPurses_4 : decode cX1_allPurses 4 = .ok (.iload_n 2, 1) := by decide +kernel
theorem dX1_allPurses_5 : decode cX1_allPurses 5 = .ok (.aload_n 0, 1) := by decide +kernel
theorem dX1_allPurses_6 : decode cX1_allPurses 6 = .ok (.getfield 9, 3) := by decide +kernel
theorem dX1_allPurses_9 : decode cX1_allPurses 9 = .ok (.if_icmp .ge 18, 3) := by decide +kernel
theorem dX1_allPurses_12 : decode cX1_allPurses 12 = .ok (.iload_n 1, 1) := by decide +kernel
theorem dX1_allPurses_13 : decode cX1_allPurses 13 = .ok (.aload_n 0, 1) := by decide +kernel
theorem dX1_allPurses_14 : decode cX1_allPurses 14 = .ok (.getfield 25, 3) := by decide +kernel
theorem dX1_allPurses_17 : decode cX1_allPurses 17 = .ok (.iload_n 2, 1) := by decide +kernel
theorem dX1_allPurses_18 : decode cX1_allPurses 18 = .ok (.iaload, 1) := by decide +kernel
theorem dX1_allPurses_19 : decode cX1_allPurses 19 = .ok (.iadd, 1) := by decide +kernel
theorem dX1_allPurses_20 : decode cX1_allPurses 20 = .ok (.istore_n 1, 1) := by decide +kernel
theorem dX1_allPurses_21 : decode cX1_allPurses 21 = .ok (.iinc 2 1, 3) := by decide +kernel
theorem dX1_allPurses_24 : decode cX1_allPurses 24 = .ok (.goto (-20), 3) := by decide +kernel
theorem dX1_allPurses_27 : decode cX1_allPurses 27 = .ok (.iload_n 1, 1) := by decide +kernel
theorem dX1_allPurses_28 : decode cX1_allPurses 28 = .ok (.ireturn, 1) := by decide +kernel
theorem dX1_allSooted_0 : decode cX1_allSooted 0 = .ok (.iconst 0, 1) := by decide +kernel
theorem dX1_allSooted_1 : decode cX1_allSooted 1 = .ok (.istore_n 1, 1) := by decide +kernel
theorem dX1_allSooted_2 : decode cX1_allSooted 2 = .ok (.iconst 0, 1) := by decide +kernel
theorem dX1_allSooted_3 : decode cX1_allSooted 3 = .ok (.istore_n 2, 1) := by decide +kernel
theorem dX1_allSooted_4 : decode cX1_allSooted 4 = .ok (.iload_n 2, 1) := by decide +kernel
theorem dX1_allSooted_5 : decode cX1_allSooted 5 = .ok (.aload_n 0, 1) := by decide +kernel
theorem dX1_allSooted_6 : decode cX1_allSooted 6 = .ok (.getfield 9, 3) := by decide +kernel
theorem dX1_allSooted_9 : decode cX1_allSooted 9 = .ok (.if_icmp .ge 24, 3) := by decide +kernel
theorem dX1_allSooted_12 : decode cX1_allSooted 12 = .ok (.aload_n 0, 1) := by decide +kernel
theorem dX1_allSooted_13 : decode cX1_allSooted 13 = .ok (.getfield 28, 3) := by decide +kernel
theorem dX1_allSooted_16 : decode cX1_allSooted 16 = .ok (.iload_n 2, 1) := by decide +kernel
theorem dX1_allSooted_17 : decode cX1_allSooted 17 = .ok (.iaload, 1) := by decide +kernel
theorem dX1_allSooted_18 : decode cX1_allSooted 18 = .ok (.ifCond .le 9, 3) := by decide +kernel
theorem dX1_allSooted_21 : decode cX1_allSooted 21 = .ok (.iload_n 1, 1) := by decide +kernel
theorem dX1_allSooted_22 : decode cX1_allSooted 22 = .ok (.iconst 1, 1) := by decide +kernel
theorem dX1_allSooted_23 : decode cX1_allSooted 23 = .ok (.iload_n 2, 1) := by decide +kernel
theorem dX1_allSooted_24 : decode cX1_allSooted 24 = .ok (.ishl, 1) := by decide +kernel
theorem dX1_allSooted_25 : decode cX1_allSooted 25 = .ok (.ior, 1) := by decide +kernel
theorem dX1_allSooted_26 : decode cX1_allSooted 26 = .ok (.istore_n 1, 1) := by decide +kernel
theorem dX1_allSooted_27 : decode cX1_allSooted 27 = .ok (.iinc 2 1, 3) := by decide +kernel
theorem dX1_allSooted_30 : decode cX1_allSooted 30 = .ok (.goto (-26), 3) := by decide +kernel
theorem dX1_allSooted_33 : decode cX1_allSooted 33 = .ok (.iload_n 1, 1) := by decide +kernel
theorem dX1_allSooted_34 : decode cX1_allSooted 34 = .ok (.ireturn, 1) := by decide +kernel
theorem dX1_allOf_0 : decode cX1_allOf 0 = .ok (.iconst 0, 1) := by decide +kernel
theorem dX1_allOf_1 : decode cX1_allOf 1 = .ok (.istore_n 2, 1) := by decide +kernel
theorem dX1_allOf_2 : decode cX1_allOf 2 = .ok (.iconst 0, 1) := by decide +kernel
theorem dX1_allOf_3 : decode cX1_allOf 3 = .ok (.istore_n 3, 1) := by decide +kernel
theorem dX1_allOf_4 : decode cX1_allOf 4 = .ok (.iload_n 3, 1) := by decide +kernel
theorem dX1_allOf_5 : decode cX1_allOf 5 = .ok (.aload_n 0, 1) := by decide +kernel
theorem dX1_allOf_6 : decode cX1_allOf 6 = .ok (.getfield 9, 3) := by decide +kernel
theorem dX1_allOf_9 : decode cX1_allOf 9 = .ok (.if_icmp .ge 25, 3) := by decide +kernel
theorem dX1_allOf_12 : decode cX1_allOf 12 = .ok (.aload_n 0, 1) := by decide +kernel
theorem dX1_allOf_13 : decode cX1_allOf 13 = .ok (.getfield 15, 3) := by decide +kernel
theorem dX1_allOf_16 : decode cX1_allOf 16 = .ok (.iload_n 3, 1) := by decide +kernel
theorem dX1_allOf_17 : decode cX1_allOf 17 = .ok (.iaload, 1) := by decide +kernel
theorem dX1_allOf_18 : decode cX1_allOf 18 = .ok (.iload_n 1, 1) := by decide +kernel
theorem dX1_allOf_19 : decode cX1_allOf 19 = .ok (.invokestatic 83, 3) := by decide +kernel
theorem dX1_allOf_22 : decode cX1_allOf 22 = .ok (.ifCond .eq 6, 3) := by decide +kernel
theorem dX1_allOf_25 : decode cX1_allOf 25 = .ok (.iinc 2 1, 3) := by decide +kernel
theorem dX1_allOf_28 : decode cX1_allOf 28 = .ok (.iinc 3 1, 3) := by decide +kernel
theorem dX1_allOf_31 : decode cX1_allOf 31 = .ok (.goto (-27), 3) := by decide +kernel
theorem dX1_allOf_34 : decode cX1_allOf 34 = .ok (.iload_n 2, 1) := by decide +kernel
theorem dX1_allOf_35 : decode cX1_allOf 35 = .ok (.ireturn, 1) := by decide +kernel
