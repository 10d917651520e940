theorem dX4_isOne_7 : decode cX4_isOne 7 = .ok (.iconst 1, 1) := by decide +kernel
theorem dX4_isOne_8 : decode cX4_isOne 8 = .ok (.isub, 1) := by decide +kernel
theorem dX4_isOne_9 : decode cX4_isOne 9 = .ok (.i2l, 1) := by decide +kernel
theorem dX4_isOne_10 : decode cX4_isOne 10 = .ok (.invokestatic 74, 3) := by decide +kernel
theorem dX4_isOne_13 : decode cX4_isOne 13 = .ok (.ireturn, 1) := by decide +kernel
theorem dX4_lesser_0 : decode cX4_lesser 0 = .ok (.iload_n 0, 1) := by decide +kernel
theorem dX4_lesser_1 : decode cX4_lesser 1 = .ok (.iload_n 1, 1) := by decide +kernel
theorem dX4_lesser_2 : decode cX4_lesser 2 = .ok (.if_icmp .ge 7, 3) := by decide +kernel
theorem dX4_lesser_5 : decode cX4_lesser 5 = .ok (.iload_n 0, 1) := by decide +kernel
theorem dX4_lesser_6 : decode cX4_lesser 6 = .ok (.goto 4, 3) := by decide +kernel
theorem dX4_lesser_9 : decode cX4_lesser 9 = .ok (.iload_n 1, 1) := by decide +kernel
theorem dX4_lesser_10 : decode cX4_lesser 10 = .ok (.ireturn, 1) := by decide +kernel
theorem dX4_greater_0 : decode cX4_greater 0 = .ok (.iload_n 0, 1) := by decide +kernel
theorem dX4_greater_1 : decode cX4_greater 1 = .ok (.iload_n 1, 1) := by decide +kernel
theorem dX4_greater_2 : decode cX4_greater 2 = .ok (.if_icmp .le 7, 3) := by decide +kernel
theorem dX4_greater_5 : decode cX4_greater 5 = .ok (.iload_n 0, 1) := by decide +kernel
theorem dX4_greater_6 : decode cX4_greater 6 = .ok (.goto 4, 3) := by decide +kernel
theorem dX4_greater_9 : decode cX4_greater 9 = .ok (.iload_n 1, 1) := by decide +kernel
theorem dX4_greater_10 : decode cX4_greater 10 = .ok (.ireturn, 1) := by decide +kernel
theorem dX4_regardBy_0 : decode cX4_regardBy 0 = .ok (.iconst 0, 1) := by decide +kernel
theorem dX4_regardBy_1 : decode cX4_regardBy 1 = .ok (.iload_n 1, 1) := by decide +kernel
theorem dX4_regardBy_2 : decode cX4_regardBy 2 = .ok (.iconst 2, 1) := by decide +kernel
theorem dX4_regardBy_3 : decode cX4_regardBy 3 = .ok (.iload_n 2, 1) := by decide +kernel
theorem dX4_regardBy_4 : decode cX4_regardBy 4 = .ok (.imul, 1) := by decide +kernel
theorem dX4_regardBy_5 : decode cX4_regardBy 5 = .ok (.isub, 1) := by decide +kernel
theorem dX4_regardBy_6 : decode cX4_regardBy 6 = .ok (.invokestatic 139, 3) := by decide +kernel
theorem dX4_regardBy_9 : decode cX4_regardBy 9 = .ok (.istore 4, 2) := by decide +kernel
theorem dX4_regardBy_11 : decode cX4_regardBy 11 = .ok (.iload_n 3, 1) := by decide +kernel
theorem dX4_regardBy_12 : decode cX4_regardBy 12 = .ok (.bipush 19, 2) := by decide +kernel
theorem dX4_regardBy_14 : decode cX4_regardBy 14 = .ok (.if_icmp .le 10, 3) := by decide +kernel
theorem dX4_regardBy_17 : decode cX4_regardBy 17 = .ok (.iload 4, 2) := by decide +kernel
theorem dX4_regardBy_19 : decode cX4_regardBy 19 = .ok (.iconst 2, 1) := by decide +kernel
theorem dX4_regardBy_20 : decode cX4_regardBy 20 = .ok (.iadd, 1) := by decide +kernel
theorem dX4_regardBy_21 : decode cX4_regardBy 21 = .ok (.goto 5, 3) := by decide +kernel
theorem dX4_regardBy_24 : decode cX4_regardBy 24 = .ok (.iload 4, 2) := by decide +kernel
theorem dX4_regardBy_26 : decode cX4_regardBy 26 = .ok (.istore 5, 2) := by decide +kernel
theorem dX4_regardBy_28 : decode cX4_regardBy 28 = .ok (.iload_n 3, 1) := by decide +kernel
theorem dX4_regardBy_29 : decode cX4_regardBy 29 = .ok (.bipush 10, 2) := by decide +kernel
theorem dX4_regardBy_31 : decode cX4_regardBy 31 = .ok (.if_icmp .ge 14, 3) := by decide +kernel
theorem dX4_regardBy_34 : decode cX4_regardBy 34 = .ok (.iconst 0, 1) := by decide +kernel
theorem dX4_regardBy_35 : decode cX4_regardBy 35 = .ok (.iload 4, 2) := by decide +kernel
theorem dX4_regardBy_37 : decode cX4_regardBy 37 = .ok (.iconst 1, 1) := by decide +kernel
theorem dX4_regardBy_38 : decode cX4_regardBy 38 = .ok (.isub, 1) := by decide +kernel
theorem dX4_regardBy_39 : decode cX4_regardBy 39 = .ok (.invokestatic 139, 3) := by decide +kernel
theorem dX4_regardBy_42 : decode cX4_regardBy 42 = .ok (.goto 5, 3) := by decide +kernel
theorem dX4_regardBy_45 : decode cX4_regardBy 45 = .ok (.iload 4, 2) := by decide +kernel
theorem dX4_regardBy_47 : decode cX4_regardBy 47 = .ok (.istore 6, 2) := by decide +kernel
theorem dX4_regardBy_49 : decode cX4_regardBy 49 = .ok (.iload_n 0, 1) := by decide +kernel
theorem dX4_regardBy_50 : decode cX4_regardBy 50 = .ok (.tableswitch 63 1 5 #[34, 37, 50, 53, 58], 34) := by decide +kernel
theorem dX4_regardBy_84 : decode cX4_regardBy 84 = .ok (.iload 5, 2) := by decide +kernel
theorem dX4_regardBy_86 : decode cX4_regardBy 86 = .ok (.ireturn, 1) := by decide +kernel
theorem dX4_regardBy_87 : decode cX4_regardBy 87 = .ok (.iload 4, 2) := by decide +kernel
theorem dX4_regardBy_89 : decode cX4_regardBy 89 = .ok (.bipush 9, 2) := by decide +kernel
theorem dX4_regardBy_91 : decode cX4_regardBy 91 = .ok (.iload_n 3, 1) := by decide +kernel
theorem dX4_regardBy_92 : decode cX4_regardBy 92 = .ok (.bipush 10, 2) := by decide +kernel
theorem dX4_regardBy_94 : decode cX4_regardBy 94 = .ok (.idiv, 1) := by decide +kernel
theorem dX4_regardBy_95 : decode cX4_regardBy 95 = .ok (.invokestatic 143, 3) := by decide +kernel
theorem dX4_regardBy_98 : decode cX4_regardBy 98 = .ok (.iadd, 1) := by decide +kernel
theorem dX4_regardBy_99 : decode cX4_regardBy 99 = .ok (.ireturn, 1) := by decide +kernel
theorem dX4_regardBy_100 : decode cX4_regardBy 100 = .ok (.iload 6, 2) := by decide +kernel
theorem dX4_regardBy_102 : decode cX4_regardBy 102 = .ok (.ireturn, 1) := by decide +kernel
theorem dX4_regardBy_103 : decode cX4_regardBy 103 = .ok (.iconst 2, 1) := by decide +kernel
theorem dX4_regardBy_104 : decode cX4_regardBy 104 = .ok (.iload 5, 2) := by decide +kernel
theorem dX4_regardBy_106 : decode cX4_regardBy 106 = .ok (.imul, 1) := by decide +kernel
theorem dX4_regardBy_107 : decode cX4_regardBy 107 = .ok (.ireturn, 1) := by decide +kernel
theorem dX4_regardBy_108 : decode cX4_regardBy 108 = .ok (.iload 6, 2) := by decide +kernel
theorem dX4_regardBy_110 : decode cX4_regardBy 110 = .ok (.iconst 2, 1) := by decide +kernel
theorem dX4_regardBy_111 : decode cX4_regardBy 111 = .ok (.idiv, 1) := by decide +kernel
theorem dX4_regardBy_112 : decode cX4_regardBy 112 = .ok (.ireturn, 1) := by decide +kernel
theorem dX4_regardBy_113 : decode cX4_regardBy 113 = .ok (.iload 4, 2) := by decide +kernel
theorem dX4_regardBy_115 : decode cX4_regardBy 115 = .ok (.ireturn, 1) := by decide +kernel
theorem dX4_regardAs_0 : decode cX4_regardAs 0 = .ok (.iload_n 1, 1) := by decide +kernel
theorem dX4_regardAs_1 : decode cX4_regardAs 1 = .ok (.aload_n 0, 1) := by decide +kernel
theorem dX4_regardAs_2 : decode cX4_regardAs 2 = .ok (.getfield 32, 3) := by decide +kernel
theorem dX4_regardAs_5 : decode cX4_regardAs 5 = .ok (.iload_n 2, 1) := by decide +kernel
theorem dX4_regardAs_6 : decode cX4_regardAs 6 = .ok (.iaload, 1) := by decide +kernel
theorem dX4_regardAs_7 : decode cX4_regardAs 7 = .ok (.aload_n 0, 1) := by decide +kernel
theorem dX4_regardAs_8 : decode cX4_regardAs 8 = .ok (.getfield 38, 3) := by decide +kernel
theorem dX4_regardAs_11 : decode cX4_regardAs 11 = .ok (.bipush 7, 2) := by decide +kernel
theorem dX4_regardAs_13 : decode cX4_regardAs 13 = .ok (.iload_n 2, 1) := by decide +kernel
theorem dX4_regardAs_14 : decode cX4_regardAs 14 = .ok (.iadd, 1) := by decide +kernel
theorem dX4_regardAs_15 : decode cX4_regardAs 15 = .ok (.iaload, 1) := by decide +kernel
theorem dX4_regardAs_16 : decode cX4_regardAs 16 = .ok (.aload_n 0, 1) := by decide +kernel
theorem dX4_regardAs_17 : decode cX4_regardAs 17 = .ok (.getfield 38, 3) := by decide +kernel
theorem dX4_regardAs_20 : decode cX4_regardAs 20 = .ok (.iconst 1, 1) := by decide +kernel
theorem dX4_regardAs_21 : decode cX4_regardAs 21 = .ok (.iload_n 2, 1) := by decide +kernel
theorem dX4_regardAs_22 : decode cX4_regardAs 22 = .ok (.iadd, 1) := by decide +kernel
theorem dX4_regardAs_23 : decode cX4_regardAs 23 = .ok (.iaload, 1) := by decide +kernel
theorem dX4_regardAs_24 : decode cX4_regardAs 24 = .ok (.invokestatic 146, 3) := by decide +kernel
theorem dX4_regardAs_27 : decode cX4_regardAs 27 = .ok (.ireturn, 1) := by decide +kernel
theorem dX4_laysRegards_0 : decode cX4_laysRegards 0 = .ok (.iconst 0, 1) := by decide +kernel
theorem dX4_laysRegards_1 : decode cX4_laysRegards 1 = .ok (.istore_n 2, 1) := by decide +kernel
theorem dX4_laysRegards_2 : decode cX4_laysRegards 2 = .ok (.iconst 0, 1) := by decide +kernel
theorem dX4_laysRegards_3 : decode cX4_laysRegards 3 = .ok (.istore_n 3, 1) := by decide +kernel
theorem dX4_laysRegards_4 : decode cX4_laysRegards 4 = .ok (.iload_n 3, 1) := by decide +kernel
theorem dX4_laysRegards_5 : decode cX4_laysRegards 5 = .ok (.aload_n 0, 1) := by decide +kernel
theorem dX4_laysRegards_6 : decode cX4_laysRegards 6 = .ok (.getfield 136, 3) := by decide +kernel
theorem dX4_laysRegards_9 : decode cX4_laysRegards 9 = .ok (.if_icmp .ge 52, 3) := by decide +kernel
theorem dX4_laysRegards_12 : decode cX4_laysRegards 12 = .ok (.aload_n 0, 1) := by decide +kernel
theorem dX4_laysRegards_13 : decode cX4_laysRegards 13 = .ok (.getfield 44, 3) := by decide +kernel
theorem dX4_laysRegards_16 : decode cX4_laysRegards 16 = .ok (.iload_n 3, 1) := by decide +kernel
theorem dX4_laysRegards_17 : decode cX4_laysRegards 17 = .ok (.aload_n 0, 1) := by decide +kernel
theorem dX4_laysRegards_18 : decode cX4_laysRegards 18 = .ok (.getfield 29, 3) := by decide +kernel
theorem dX4_laysRegards_21 : decode cX4_laysRegards 21 = .ok (.iload_n 3, 1) := by decide +kernel
theorem dX4_laysRegards_22 : decode cX4_laysRegards 22 = .ok (.iaload, 1) := by decide +kernel
theorem dX4_laysRegards_23 : decode cX4_laysRegards 23 = .ok (.aload_n 0, 1) := by decide +kernel
theorem dX4_laysRegards_24 : decode cX4_laysRegards 24 = .ok (.getfield 32, 3) := by decide +kernel
theorem dX4_laysRegards_27 : decode cX4_laysRegards 27 = .ok (.iload_n 3, 1) := by decide +kernel
theorem dX4_laysRegards_28 : decode cX4_laysRegards 28 = .ok (.iaload, 1) := by decide +kernel
theorem dX4_laysRegards_29 : decode cX4_laysRegards 29 = .ok (.aload_n 1, 1) := by decide +kernel
theorem dX4_laysRegards_30 : decode cX4_laysRegards 30 = .ok (.bipush 7, 2) := by decide +kernel
theorem dX4_laysRegards_32 : decode cX4_laysRegards 32 = .ok (.iload_n 3, 1) := by decide +kernel
theorem dX4_laysRegards_33 : decode cX4_laysRegards 33 = .ok (.iadd, 1) := by decide +kernel
theorem dX4_laysRegards_34 : decode cX4_laysRegards 34 = .ok (.iaload, 1) := by decide +kernel
theorem dX4_laysRegards_35 : decode cX4_laysRegards 35 = .ok (.aload_n 1, 1) := by decide +kernel
theorem dX4_laysRegards_36 : decode cX4_laysRegards 36 = .ok (.iconst 1, 1) := by decide +kernel
theorem dX4_laysRegards_37 : decode cX4_laysRegards 37 = .ok (.iload_n 3, 1) := by decide +kernel
theorem dX4_laysRegards_38 : decode cX4_laysRegards 38 = .ok (.iadd, 1) := by decide +kernel
theorem dX4_laysRegards_39 : decode cX4_laysRegards 39 = .ok (.iaload, 1) := by decide +kernel
theorem dX4_laysRegards_40 : decode cX4_laysRegards 40 = .ok (.invokestatic 146, 3) := by decide +kernel
theorem dX4_laysRegards_43 : decode cX4_laysRegards 43 = .ok (.iastore, 1) := by decide +kernel
theorem dX4_laysRegards_44 : decode cX4_laysRegards 44 = .ok (.iload_n 2, 1) := by decide +kernel
theorem dX4_laysRegards_45 : decode cX4_laysRegards 45 = .ok (.aload_n 0, 1) := by decide +kernel
theorem dX4_laysRegards_46 : decode cX4_laysRegards 46 = .ok (.getfield 44, 3) := by decide +kernel
theorem dX4_laysRegards_49 : decode cX4_laysRegards 49 = .ok (.iload_n 3, 1) := by decide +kernel
theorem dX4_laysRegards_50 : decode cX4_laysRegards 50 = .ok (.iaload, 1) := by decide +kernel
theorem dX4_laysRegards_51 : decode cX4_laysRegards 51 = .ok (.invokestatic 139, 3) := by decide +kernel
theorem dX4_laysRegards_54 : decode cX4_laysRegards 54 = .ok (.istore_n 2, 1) := by decide +kernel
theorem dX4_laysRegards_55 : decode cX4_laysRegards 55 = .ok (.iinc 3 1, 3) := by decide +kernel
theorem dX4_laysRegards_58 : decode cX4_laysRegards 58 = .ok (.goto (-54), 3) := by decide +kernel
theorem dX4_laysRegards_61 : decode cX4_laysRegards 61 = .ok (.iload_n 2, 1) := by decide +kernel
theorem dX4_laysRegards_62 : decode cX4_laysRegards 62 = .ok (.ireturn, 1) := by decide +kernel
theorem dX4_gives_0 : decode cX4_gives 0 = .ok (.iconst 0, 1) := by decide +kernel
theorem dX4_gives_1 : decode cX4_gives 1 = .ok (.istore_n 2, 1) := by decide +kernel
theorem dX4_gives_2 : decode cX4_gives 2 = .ok (.iconst 0, 1) := by decide +kernel
theorem dX4_gives_3 : decode cX4_gives 3 = .ok (.istore_n 3, 1) := by decide +kernel
theorem dX4_gives_4 : decode cX4_gives 4 = .ok (.iload_n 3, 1) := by decide +kernel
theorem dX4_gives_5 : decode cX4_gives 5 = .ok (.aload_n 0, 1) := by decide +kernel
theorem dX4_gives_6 : decode cX4_gives 6 = .ok (.getfield 136, 3) := by decide +kernel
theorem dX4_gives_9 : decode cX4_gives 9 = .ok (.if_icmp .ge 20, 3) := by decide +kernel
theorem dX4_gives_12 : decode cX4_gives 12 = .ok (.iload_n 2, 1) := by decide +kernel
theorem dX4_gives_13 : decode cX4_gives 13 = .ok (.iload_n 1, 1) := by decide +kernel
theorem dX4_gives_14 : decode cX4_gives 14 = .ok (.aload_n 0, 1) := by decide +kernel
theorem dX4_gives_15 : decode cX4_gives 15 = .ok (.getfield 44, 3) := by decide +kernel
theorem dX4_gives_18 : decode cX4_gives 18 = .ok (.iload_n 3, 1) := by decide +kernel
theorem dX4_gives_19 : decode cX4_gives 19 = .ok (.iaload, 1) := by decide +kernel
theorem dX4_gives_20 : decode cX4_gives 20 = .ok (.isub, 1) := by decide +kernel
theorem dX4_gives_21 : decode cX4_gives 21 = .ok (.iadd, 1) := by decide +kernel
theorem dX4_gives_22 : decode cX4_gives 22 = .ok (.istore_n 2, 1) := by decide +kernel
theorem dX4_gives_23 : decode cX4_gives 23 = .ok (.iinc 3 1, 3) := by decide +kernel
theorem dX4_gives_26 : decode cX4_gives 26 = .ok (.goto (-22), 3) := by decide +kernel
theorem dX4_gives_29 : decode cX4_gives 29 = .ok (.iload_n 2, 1) := by decide +kernel
theorem dX4_gives_30 : decode cX4_gives 30 = .ok (.ireturn, 1) := by decide +kernel
theorem dX4_goes_0 : decode cX4_goes 0 = .ok (.aload_n 0, 1) := by decide +kernel
theorem dX4_goes_1 : decode cX4_goes 1 = .ok (.aload_n 1, 1) := by decide +kernel
theorem dX4_goes_2 : decode cX4_goes 2 = .ok (.invokevirtual 150, 3) := by decide +kernel
theorem dX4_goes_5 : decode cX4_goes 5 = .ok (.istore_n 2, 1) := by decide +kernel
theorem dX4_goes_6 : decode cX4_goes 6 = .ok (.iconst 0, 1) := by decide +kernel
theorem dX4_goes_7 : decode cX4_goes 7 = .ok (.istore_n 3, 1) := by decide +kernel
theorem dX4_goes_8 : decode cX4_goes 8 = .ok (.iload_n 3, 1) := by decide +kernel
theorem dX4_goes_9 : decode cX4_goes 9 = .ok (.aload_n 0, 1) := by decide +kernel
theorem dX4_goes_10 : decode cX4_goes 10 = .ok (.getfield 136, 3) := by decide +kernel
theorem dX4_goes_13 : decode cX4_goes 13 = .ok (.if_icmp .ge 44, 3) := by decide +kernel
theorem dX4_goes_16 : decode cX4_goes 16 = .ok (.aload_n 1, 1) := by decide +kernel
theorem dX4_goes_17 : decode cX4_goes 17 = .ok (.iconst 1, 1) := by decide +kernel
theorem dX4_goes_18 : decode cX4_goes 18 = .ok (.iload_n 3, 1) := by decide +kernel
theorem dX4_goes_19 : decode cX4_goes 19 = .ok (.iadd, 1) := by decide +kernel
theorem dX4_goes_20 : decode cX4_goes 20 = .ok (.iconst 0, 1) := by decide +kernel
theorem dX4_goes_21 : decode cX4_goes 21 = .ok (.bipush 99, 2) := by decide +kernel
theorem dX4_goes_23 : decode cX4_goes 23 = .ok (.aload_n 1, 1) := by decide +kernel
theorem dX4_goes_24 : decode cX4_goes 24 = .ok (.iconst 1, 1) := by decide +kernel
theorem dX4_goes_25 : decode cX4_goes 25 = .ok (.iload_n 3, 1) := by decide +kernel
theorem dX4_goes_26 : decode cX4_goes 26 = .ok (.iadd, 1) := by decide +kernel
theorem dX4_goes_27 : decode cX4_goes 27 = .ok (.iaload, 1) := by decide +kernel
theorem dX4_goes_28 : decode cX4_goes 28 = .ok (.iload_n 2, 1) := by decide +kernel
theorem dX4_goes_29 : decode cX4_goes 29 = .ok (.iadd, 1) := by decide +kernel
theorem dX4_goes_30 : decode cX4_goes 30 = .ok (.aload_n 0, 1) := by decide +kernel
theorem dX4_goes_31 : decode cX4_goes 31 = .ok (.getfield 44, 3) := by decide +kernel
theorem dX4_goes_34 : decode cX4_goes 34 = .ok (.iload_n 3, 1) := by decide +kernel
theorem dX4_goes_35 : decode cX4_goes 35 = .ok (.iaload, 1) := by decide +kernel
theorem dX4_goes_36 : decode cX4_goes 36 = .ok (.isub, 1) := by decide +kernel
theorem dX4_goes_37 : decode cX4_goes 37 = .ok (.aload_n 0, 1) := by decide +kernel
theorem dX4_goes_38 : decode cX4_goes 38 = .ok (.getfield 35, 3) := by decide +kernel
theorem dX4_goes_41 : decode cX4_goes 41 = .ok (.iload_n 3, 1) := by decide +kernel
theorem dX4_goes_42 : decode cX4_goes 42 = .ok (.iaload, 1) := by decide +kernel
theorem dX4_goes_43 : decode cX4_goes 43 = .ok (.isub, 1) := by decide +kernel
theorem dX4_goes_44 : decode cX4_goes 44 = .ok (.invokestatic 143, 3) := by decide +kernel
theorem dX4_goes_47 : decode cX4_goes 47 = .ok (.invokestatic 139, 3) := by decide +kernel
theorem dX4_goes_50 : decode cX4_goes 50 = .ok (.iastore, 1) := by decide +kernel
theorem dX4_goes_51 : decode cX4_goes 51 = .ok (.iinc 3 1, 3) := by decide +kernel
theorem dX4_goes_54 : decode cX4_goes 54 = .ok (.goto (-46), 3) := by decide +kernel
theorem dX4_goes_57 : decode cX4_goes 57 = .ok (.aload_n 1, 1) := by decide +kernel
theorem dX4_goes_58 : decode cX4_goes 58 = .ok (.iconst 0, 1) := by decide +kernel
theorem dX4_goes_59 : decode cX4_goes 59 = .ok (.dup2, 1) := by decide +kernel
theorem dX4_goes_60 : decode cX4_goes 60 = .ok (.iaload, 1) := by decide +kernel
theorem dX4_goes_61 : decode cX4_goes 61 = .ok (.iconst 1, 1) := by decide +kernel
theorem dX4_goes_62 : decode cX4_goes 62 = .ok (.iadd, 1) := by decide +kernel
theorem dX4_goes_63 : decode cX4_goes 63 = .ok (.iastore, 1) := by decide +kernel
theorem dX4_goes_64 : decode cX4_goes 64 = .ok (.aload_n 0, 1) := by decide +kernel
theorem dX4_goes_65 : decode cX4_goes 65 = .ok (.iload_n 2, 1) := by decide +kernel
theorem dX4_goes_66 : decode cX4_goes 66 = .ok (.invokevirtual 154, 3) := by decide +kernel
theorem dX4_goes_69 : decode cX4_goes 69 = .ok (.ireturn, 1) := by decide +kernel
theorem dX4_paid_0 : decode cX4_paid 0 = .ok (.aload_n 0, 1) := by decide +kernel
theorem dX4_paid_1 : decode cX4_paid 1 = .ok (.aload_n 0, 1) := by decide +kernel
theorem dX4_paid_2 : decode cX4_paid 2 = .ok (.getfield 38, 3) := by decide +kernel
theorem dX4_paid_5 : decode cX4_paid 5 = .ok (.invokevirtual 150, 3) := by decide +kernel
theorem dX4_paid_8 : decode cX4_paid 8 = .ok (.istore_n 2, 1) := by decide +kernel
theorem dX4_paid_9 : decode cX4_paid 9 = .ok (.iload_n 2, 1) := by decide +kernel
theorem dX4_paid_10 : decode cX4_paid 10 = .ok (.aload_n 0, 1) := by decide +kernel
theorem dX4_paid_11 : decode cX4_paid 11 = .ok (.getfield 44, 3) := by decide +kernel
theorem dX4_paid_14 : decode cX4_paid 14 = .ok (.iload_n 1, 1) := by decide +kernel
theorem dX4_paid_15 : decode cX4_paid 15 = .ok (.iaload, 1) := by decide +kernel
theorem dX4_paid_16 : decode cX4_paid 16 = .ok (.isub, 1) := by decide +kernel
theorem dX4_paid_17 : decode cX4_paid 17 = .ok (.ireturn, 1) := by decide +kernel
theorem dX4_one_0 : decode cX4_one 0 = .ok (.aload_n 0, 1) := by decide +kernel
theorem dX4_one_1 : decode cX4_one 1 = .ok (.iload_n 1, 1) := by decide +kernel
theorem dX4_one_2 : decode cX4_one 2 = .ok (.invokevirtual 157, 3) := by decide +kernel
theorem dX4_one_5 : decode cX4_one 5 = .ok (.ifCond .eq 15, 3) := by decide +kernel
theorem dX4_one_8 : decode cX4_one 8 = .ok (.iload_n 2, 1) := by decide +kernel
theorem dX4_one_9 : decode cX4_one 9 = .ok (.i2l, 1) := by decide +kernel
theorem dX4_one_10 : decode cX4_one 10 = .ok (.lconst 0, 1) := by decide +kernel
theorem dX4_one_11 : decode cX4_one 11 = .ok (.ldc2_w 160, 3) := by decide +kernel
theorem dX4_one_14 : decode cX4_one 14 = .ok (.invokestatic 74, 3) := by decide +kernel
theorem dX4_one_17 : decode cX4_one 17 = .ok (.ifCond .ne 5, 3) := by decide +kernel
theorem dX4_one_20 : decode cX4_one 20 = .ok (.iconst (-1), 1) := by decide +kernel
theorem dX4_one_21 : decode cX4_one 21 = .ok (.ireturn, 1) := by decide +kernel
theorem dX4_one_22 : decode cX4_one 22 = .ok (.iload_n 2, 1) := by decide +kernel
theorem dX4_one_23 : decode cX4_one 23 = .ok (.tableswitch 113 0 5 #[37, 48, 59, 70, 83, 97], 37) := by decide +kernel
theorem dX4_one_60 : decode cX4_one 60 = .ok (.aload_n 0, 1) := by decide +kernel
theorem dX4_one_61 : decode cX4_one 61 = .ok (.aload_n 0, 1) := by decide +kernel
theorem dX4_one_62 : decode cX4_one 62 = .ok (.getfield 29, 3) := by decide +kernel
theorem dX4_one_65 : decode cX4_one 65 = .ok (.iload_n 1, 1) := by decide +kernel
theorem dX4_one_66 : decode cX4_one 66 = .ok (.iaload, 1) := by decide +kernel
theorem dX4_one_67 : decode cX4_one 67 = .ok (.invokevirtual 88, 3) := by decide +kernel
theorem dX4_one_70 : decode cX4_one 70 = .ok (.ireturn, 1) := by decide +kernel
theorem dX4_one_71 : decode cX4_one 71 = .ok (.aload_n 0, 1) := by decide +kernel
theorem dX4_one_72 : decode cX4_one 72 = .ok (.aload_n 0, 1) := by decide +kernel
theorem dX4_one_73 : decode cX4_one 73 = .ok (.getfield 32, 3) := by decide +kernel
theorem dX4_one_76 : decode cX4_one 76 = .ok (.iload_n 1, 1) := by decide +kernel
theorem dX4_one_77 : decode cX4_one 77 = .ok (.iaload, 1) := by decide +kernel
theorem dX4_one_78 : decode cX4_one 78 = .ok (.invokevirtual 88, 3) := by decide +kernel
theorem dX4_one_81 : decode cX4_one 81 = .ok (.ireturn, 1) := by decide +kernel
theorem dX4_one_82 : decode cX4_one 82 = .ok (.aload_n 0, 1) := by decide +kernel
theorem dX4_one_83 : decode cX4_one 83 = .ok (.aload_n 0, 1) := by decide +kernel
theorem dX4_one_84 : decode cX4_one 84 = .ok (.getfield 35, 3) := by decide +kernel
theorem dX4_one_87 : decode cX4_one 87 = .ok (.iload_n 1, 1) := by decide +kernel
theorem dX4_one_88 : decode cX4_one 88 = .ok (.iaload, 1) := by decide +kernel
theorem dX4_one_89 : decode cX4_one 89 = .ok (.invokevirtual 88, 3) := by decide +kernel
theorem dX4_one_92 : decode cX4_one 92 = .ok (.ireturn, 1) := by decide +kernel
theorem dX4_one_93 : decode cX4_one 93 = .ok (.aload_n 0, 1) := by decide +kernel
theorem dX4_one_94 : decode cX4_one 94 = .ok (.aload_n 0, 1) := by decide +kernel
theorem dX4_one_95 : decode cX4_one 95 = .ok (.getfield 38, 3) := by decide +kernel
theorem dX4_one_98 : decode cX4_one 98 = .ok (.iconst 1, 1) := by decide +kernel
theorem dX4_one_99 : decode cX4_one 99 = .ok (.iload_n 1, 1) := by decide +kernel
theorem dX4_one_100 : decode cX4_one 100 = .ok (.iadd, 1) := by decide +kernel
theorem dX4_one_101 : decode cX4_one 101 = .ok (.iaload, 1) := by decide +kernel
theorem dX4_one_102 : decode cX4_one 102 = .ok (.invokevirtual 88, 3) := by decide +kernel
theorem dX4_one_105 : decode cX4_one 105 = .ok (.ireturn, 1) := by decide +kernel
theorem dX4_one_106 : decode cX4_one 106 = .ok (.aload_n 0, 1) := by decide +kernel
theorem dX4_one_107 : decode cX4_one 107 = .ok (.aload_n 0, 1) := by decide +kernel
theorem dX4_one_108 : decode cX4_one 108 = .ok (.getfield 38, 3) := by decide +kernel
theorem dX4_one_111 : decode cX4_one 111 = .ok (.bipush 7, 2) := by decide +kernel
theorem dX4_one_113 : decode cX4_one 113 = .ok (.iload_n 1, 1) := by decide +kernel
theorem dX4_one_114 : decode cX4_one 114 = .ok (.iadd, 1) := by decide +kernel
theorem dX4_one_115 : decode cX4_one 115 = .ok (.iaload, 1) := by decide +kernel
theorem dX4_one_116 : decode cX4_one 116 = .ok (.invokevirtual 88, 3) := by decide +kernel
theorem dX4_one_119 : decode cX4_one 119 = .ok (.ireturn, 1) := by decide +kernel
theorem dX4_one_120 : decode cX4_one 120 = .ok (.aload_n 0, 1) := by decide +kernel
theorem dX4_one_121 : decode cX4_one 121 = .ok (.aload_n 0, 1) := by decide +kernel
theorem dX4_one_122 : decode cX4_one 122 = .ok (.aload_n 0, 1) := by decide +kernel
theorem dX4_one_123 : decode cX4_one 123 = .ok (.getfield 29, 3) := by decide +kernel
theorem dX4_one_126 : decode cX4_one 126 = .ok (.iload_n 1, 1) := by decide +kernel
theorem dX4_one_127 : decode cX4_one 127 = .ok (.iaload, 1) := by decide +kernel
theorem dX4_one_128 : decode cX4_one 128 = .ok (.iload_n 1, 1) := by decide +kernel
theorem dX4_one_129 : decode cX4_one 129 = .ok (.invokevirtual 162, 3) := by decide +kernel
theorem dX4_one_132 : decode cX4_one 132 = .ok (.invokevirtual 88, 3) := by decide +kernel
theorem dX4_one_135 : decode cX4_one 135 = .ok (.ireturn, 1) := by decide +kernel
theorem dX4_one_136 : decode cX4_one 136 = .ok (.aload_n 0, 1) := by decide +kernel
theorem dX4_one_137 : decode cX4_one 137 = .ok (.aload_n 0, 1) := by decide +kernel
theorem dX4_one_138 : decode cX4_one 138 = .ok (.iload_n 1, 1) := by decide +kernel
theorem dX4_one_139 : decode cX4_one 139 = .ok (.invokevirtual 165, 3) := by decide +kernel
theorem dX4_one_142 : decode cX4_one 142 = .ok (.invokevirtual 88, 3) := by decide +kernel
theorem dX4_one_145 : decode cX4_one 145 = .ok (.ireturn, 1) := by decide +kernel
theorem dX4_isOf_0 : decode cX4_isOf 0 = .ok (.iload_n 0, 1) := by decide +kernel
theorem dX4_isOf_1 : decode cX4_isOf 1 = .ok (.iload_n 1, 1) := by decide +kernel
theorem dX4_isOf_2 : decode cX4_isOf 2 = .ok (.if_icmp .eq 23, 3) := by decide +kernel
theorem dX4_isOf_5 : decode cX4_isOf 5 = .ok (.iload_n 0, 1) := by decide +kernel
theorem dX4_isOf_6 : decode cX4_isOf 6 = .ok (.iconst 4, 1) := by decide +kernel
theorem dX4_isOf_7 : decode cX4_isOf 7 = .ok (.if_icmp .ne 8, 3) := by decide +kernel
theorem dX4_isOf_10 : decode cX4_isOf 10 = .ok (.iload_n 1, 1) := by decide +kernel
theorem dX4_isOf_11 : decode cX4_isOf 11 = .ok (.iconst 1, 1) := by decide +kernel
theorem dX4_isOf_12 : decode cX4_isOf 12 = .ok (.if_icmp .eq 13, 3) := by decide +kernel
theorem dX4_isOf_15 : decode cX4_isOf 15 = .ok (.iload_n 0, 1) := by decide +kernel
theorem dX4_isOf_16 : decode cX4_isOf 16 = .ok (.iconst 5, 1) := by decide +kernel
theorem dX4_isOf_17 : decode cX4_isOf 17 = .ok (.if_icmp .ne 12, 3) := by decide +kernel
theorem dX4_isOf_20 : decode cX4_isOf 20 = .ok (.iload_n 1, 1) := by decide +kernel
theorem dX4_isOf_21 : decode cX4_isOf 21 = .ok (.iconst 3, 1) := by decide +kernel
theorem dX4_isOf_22 : decode cX4_isOf 22 = .ok (.if_icmp .ne 7, 3) := by decide +kernel
theorem dX4_isOf_25 : decode cX4_isOf 25 = .ok (.iconst 1, 1) := by decide +kernel
theorem dX4_isOf_26 : decode cX4_isOf 26 = .ok (.goto 4, 3) := by decide +kernel
theorem dX4_isOf_29 : decode cX4_isOf 29 = .ok (.iconst 0, 1) := by decide +kernel
theorem dX4_isOf_30 : decode cX4_isOf 30 = .ok (.ireturn, 1) := by decide +kernel
theorem dX4_mark_0 : decode cX4_mark 0 = .ok (.aload_n 0, 1) := by decide +kernel
theorem dX4_mark_1 : decode cX4_mark 1 = .ok (.iload_n 1, 1) := by decide +kernel
theorem dX4_mark_2 : decode cX4_mark 2 = .ok (.invokevirtual 157, 3) := by decide +kernel
theorem dX4_mark_5 : decode cX4_mark 5 = .ok (.ifCond .eq 15, 3) := by decide +kernel
theorem dX4_mark_8 : decode cX4_mark 8 = .ok (.iload_n 2, 1) := by decide +kernel
theorem dX4_mark_9 : decode cX4_mark 9 = .ok (.i2l, 1) := by decide +kernel
theorem dX4_mark_10 : decode cX4_mark 10 = .ok (.lconst 1, 1) := by decide +kernel
theorem dX4_mark_11 : decode cX4_mark 11 = .ok (.ldc2_w 72, 3) := by decide +kernel
theorem dX4_mark_14 : decode cX4_mark 14 = .ok (.invokestatic 74, 3) := by decide +kernel
theorem dX4_mark_17 : decode cX4_mark 17 = .ok (.ifCond .ne 5, 3) := by decide +kernel
theorem dX4_mark_20 : decode cX4_mark 20 = .ok (.iconst (-1), 1) := by decide +kernel
theorem dX4_mark_21 : decode cX4_mark 21 = .ok (.ireturn, 1) := by decide +kernel
theorem dX4_mark_22 : decode cX4_mark 22 = .ok (.aload_n 0, 1) := by decide +kernel
theorem dX4_mark_23 : decode cX4_mark 23 = .ok (.getfield 29, 3) := by decide +kernel
theorem dX4_mark_26 : decode cX4_mark 26 = .ok (.iload_n 1, 1) := by decide +kernel
theorem dX4_mark_27 : decode cX4_mark 27 = .ok (.iaload, 1) := by decide +kernel
theorem dX4_mark_28 : decode cX4_mark 28 = .ok (.iload_n 2, 1) := by decide +kernel
theorem dX4_mark_29 : decode cX4_mark 29 = .ok (.invokestatic 168, 3) := by decide +kernel
theorem dX4_mark_32 : decode cX4_mark 32 = .ok (.ifCond .ne 9, 3) := by decide +kernel
theorem dX4_mark_35 : decode cX4_mark 35 = .ok (.aload_n 0, 1) := by decide +kernel
theorem dX4_mark_36 : decode cX4_mark 36 = .ok (.iconst 3, 1) := by decide +kernel
theorem dX4_mark_37 : decode cX4_mark 37 = .ok (.invokevirtual 84, 3) := by decide +kernel
theorem dX4_mark_40 : decode cX4_mark 40 = .ok (.ireturn, 1) := by decide +kernel
theorem dX4_mark_41 : decode cX4_mark 41 = .ok (.aload_n 0, 1) := by decide +kernel
theorem dX4_mark_42 : decode cX4_mark 42 = .ok (.aload_n 0, 1) := by decide +kernel
theorem dX4_mark_43 : decode cX4_mark 43 = .ok (.getfield 29, 3) := by decide +kernel
theorem dX4_mark_46 : decode cX4_mark 46 = .ok (.iload_n 1, 1) := by decide +kernel
theorem dX4_mark_47 : decode cX4_mark 47 = .ok (.iaload, 1) := by decide +kernel
theorem dX4_mark_48 : decode cX4_mark 48 = .ok (.iload_n 1, 1) := by decide +kernel
theorem dX4_mark_49 : decode cX4_mark 49 = .ok (.invokevirtual 162, 3) := by decide +kernel
theorem dX4_mark_52 : decode cX4_mark 52 = .ok (.istore_n 3, 1) := by decide +kernel
theorem dX4_mark_53 : decode cX4_mark 53 = .ok (.aload_n 0, 1) := by decide +kernel
theorem dX4_mark_54 : decode cX4_mark 54 = .ok (.iload_n 2, 1) := by decide +kernel
theorem dX4_mark_55 : decode cX4_mark 55 = .ok (.iconst 4, 1) := by decide +kernel
theorem dX4_mark_56 : decode cX4_mark 56 = .ok (.if_icmp .ne 7, 3) := by decide +kernel
theorem dX4_mark_59 : decode cX4_mark 59 = .ok (.iconst 1, 1) := by decide +kernel
theorem dX4_mark_60 : decode cX4_mark 60 = .ok (.goto 13, 3) := by decide +kernel
theorem dX4_mark_63 : decode cX4_mark 63 = .ok (.iload_n 2, 1) := by decide +kernel
theorem dX4_mark_64 : decode cX4_mark 64 = .ok (.iconst 5, 1) := by decide +kernel
theorem dX4_mark_65 : decode cX4_mark 65 = .ok (.if_icmp .ne 7, 3) := by decide +kernel
theorem dX4_mark_68 : decode cX4_mark 68 = .ok (.iconst 3, 1) := by decide +kernel
theorem dX4_mark_69 : decode cX4_mark 69 = .ok (.goto 4, 3) := by decide +kernel
theorem dX4_mark_72 : decode cX4_mark 72 = .ok (.iconst 0, 1) := by decide +kernel
theorem dX4_mark_73 : decode cX4_mark 73 = .ok (.iload_n 1, 1) := by decide +kernel
theorem dX4_mark_74 : decode cX4_mark 74 = .ok (.invokevirtual 162, 3) := by decide +kernel
theorem dX4_mark_77 : decode cX4_mark 77 = .ok (.istore 4, 2) := by decide +kernel
theorem dX4_mark_79 : decode cX4_mark 79 = .ok (.iload_n 2, 1) := by decide +kernel
theorem dX4_mark_80 : decode cX4_mark 80 = .ok (.iconst 3, 1) := by decide +kernel
theorem dX4_mark_81 : decode cX4_mark 81 = .ok (.if_icmp .eq 8, 3) := by decide +kernel
theorem dX4_mark_84 : decode cX4_mark 84 = .ok (.iload_n 2, 1) := by decide +kernel
theorem dX4_mark_85 : decode cX4_mark 85 = .ok (.iconst 5, 1) := by decide +kernel
theorem dX4_mark_86 : decode cX4_mark 86 = .ok (.if_icmp .ne 10, 3) := by decide +kernel
theorem dX4_mark_89 : decode cX4_mark 89 = .ok (.iload 4, 2) := by decide +kernel
theorem dX4_mark_91 : decode cX4_mark 91 = .ok (.iload_n 3, 1) := by decide +kernel
theorem dX4_mark_92 : decode cX4_mark 92 = .ok (.isub, 1) := by decide +kernel
theorem dX4_mark_93 : decode cX4_mark 93 = .ok (.goto 7, 3) := by decide +kernel
theorem dX4_mark_96 : decode cX4_mark 96 = .ok (.iload_n 3, 1) := by decide +kernel
theorem dX4_mark_97 : decode cX4_mark 97 = .ok (.iload 4, 2) := by decide +kernel
theorem dX4_mark_99 : decode cX4_mark 99 = .ok (.isub, 1) := by decide +kernel
theorem dX4_mark_100 : decode cX4_mark 100 = .ok (.ireturn, 1) := by decide +kernel
theorem dX4_regard_0 : decode cX4_regard 0 = .ok (.aload_n 0, 1) := by decide +kernel
theorem dX4_regard_1 : decode cX4_regard 1 = .ok (.iload_n 1, 1) := by decide +kernel
theorem dX4_regard_2 : decode cX4_regard 2 = .ok (.invokevirtual 157, 3) := by decide +kernel
theorem dX4_regard_5 : decode cX4_regard 5 = .ok (.ifCond .eq 47, 3) := by decide +kernel
theorem dX4_regard_8 : decode cX4_regard 8 = .ok (.iload_n 2, 1) := by decide +kernel
theorem dX4_regard_9 : decode cX4_regard 9 = .ok (.i2l, 1) := by decide +kernel
theorem dX4_regard_10 : decode cX4_regard 10 = .ok (.lconst 0, 1) := by decide +kernel
theorem dX4_regard_11 : decode cX4_regard 11 = .ok (.ldc2_w 78, 3) := by decide +kernel
theorem dX4_regard_14 : decode cX4_regard 14 = .ok (.invokestatic 74, 3) := by decide +kernel
theorem dX4_regard_17 : decode cX4_regard 17 = .ok (.ifCond .eq 35, 3) := by decide +kernel
theorem dX4_regard_20 : decode cX4_regard 20 = .ok (.iload_n 3, 1) := by decide +kernel
theorem dX4_regard_21 : decode cX4_regard 21 = .ok (.i2l, 1) := by decide +kernel
theorem dX4_regard_22 : decode cX4_regard 22 = .ok (.lconst 0, 1) := by decide +kernel
theorem dX4_regard_23 : decode cX4_regard 23 = .ok (.ldc2_w 172, 3) := by decide +kernel
theorem dX4_regard_26 : decode cX4_regard 26 = .ok (.invokestatic 74, 3) := by decide +kernel
theorem dX4_regard_29 : decode cX4_regard 29 = .ok (.ifCond .eq 23, 3) := by decide +kernel
theorem dX4_regard_32 : decode cX4_regard 32 = .ok (.aload_n 0, 1) := by decide +kernel
theorem dX4_regard_33 : decode cX4_regard 33 = .ok (.getfield 29, 3) := by decide +kernel
theorem dX4_regard_36 : decode cX4_regard 36 = .ok (.iload_n 1, 1) := by decide +kernel
theorem dX4_regard_37 : decode cX4_regard 37 = .ok (.iaload, 1) := by decide +kernel
theorem dX4_regard_38 : decode cX4_regard 38 = .ok (.aload_n 0, 1) := by decide +kernel
theorem dX4_regard_39 : decode cX4_regard 39 = .ok (.getfield 32, 3) := by decide +kernel
theorem dX4_regard_42 : decode cX4_regard 42 = .ok (.iload_n 1, 1) := by decide +kernel
theorem dX4_regard_43 : decode cX4_regard 43 = .ok (.iaload, 1) := by decide +kernel
theorem dX4_regard_44 : decode cX4_regard 44 = .ok (.iload_n 2, 1) := by decide +kernel
theorem dX4_regard_45 : decode cX4_regard 45 = .ok (.iload_n 3, 1) := by decide +kernel
theorem dX4_regard_46 : decode cX4_regard 46 = .ok (.invokestatic 146, 3) := by decide +kernel
theorem dX4_regard_49 : decode cX4_regard 49 = .ok (.goto 4, 3) := by decide +kernel
theorem dX4_regard_52 : decode cX4_regard 52 = .ok (.iconst (-1), 1) := by decide +kernel
theorem dX4_regard_53 : decode cX4_regard 53 = .ok (.ireturn, 1) := by decide +kernel
theorem dX4_refuses_0 : decode cX4_refuses 0 = .ok (.aload_n 0, 1) := by decide +kernel
theorem dX4_refuses_1 : decode cX4_refuses 1 = .ok (.getfield 136, 3) := by decide +kernel
theorem dX4_refuses_4 : decode cX4_refuses 4 = .ok (.ifCond .ne 8, 3) := by decide +kernel
theorem dX4_refuses_7 : decode cX4_refuses 7 = .ok (.bipush (-4), 2) := by decide +kernel
theorem dX4_refuses_9 : decode cX4_refuses 9 = .ok (.goto 20, 3) := by decide +kernel
theorem dX4_refuses_12 : decode cX4_refuses 12 = .ok (.aload_n 0, 1) := by decide +kernel
theorem dX4_refuses_13 : decode cX4_refuses 13 = .ok (.getfield 94, 3) := by decide +kernel
theorem dX4_refuses_16 : decode cX4_refuses 16 = .ok (.iload_n 1, 1) := by decide +kernel
theorem dX4_refuses_17 : decode cX4_refuses 17 = .ok (.iadd, 1) := by decide +kernel
theorem dX4_refuses_18 : decode cX4_refuses 18 = .ok (.bipush 40, 2) := by decide +kernel
theorem dX4_refuses_20 : decode cX4_refuses 20 = .ok (.if_icmp .le 8, 3) := by decide +kernel
theorem dX4_refuses_23 : decode cX4_refuses 23 = .ok (.bipush (-2), 2) := by decide +kernel
theorem dX4_refuses_25 : decode cX4_refuses 25 = .ok (.goto 4, 3) := by decide +kernel
theorem dX4_refuses_28 : decode cX4_refuses 28 = .ok (.iconst 0, 1) := by decide +kernel
theorem dX4_refuses_29 : decode cX4_refuses 29 = .ok (.ireturn, 1) := by decide +kernel
theorem dX4_remember_0 : decode cX4_remember 0 = .ok (.aload_n 0, 1) := by decide +kernel
theorem dX4_remember_1 : decode cX4_remember 1 = .ok (.getfield 38, 3) := by decide +kernel
theorem dX4_remember_4 : decode cX4_remember 4 = .ok (.iconst 0, 1) := by decide +kernel
theorem dX4_remember_5 : decode cX4_remember 5 = .ok (.aload_n 0, 1) := by decide +kernel
theorem dX4_remember_6 : decode cX4_remember 6 = .ok (.getfield 47, 3) := by decide +kernel
theorem dX4_remember_9 : decode cX4_remember 9 = .ok (.bipush 13, 2) := by decide +kernel
theorem dX4_remember_11 : decode cX4_remember 11 = .ok (.aload_n 0, 1) := by decide +kernel
theorem dX4_remember_12 : decode cX4_remember 12 = .ok (.getfield 94, 3) := by decide +kernel
theorem dX4_remember_15 : decode cX4_remember 15 = .ok (.imul, 1) := by decide +kernel
theorem dX4_remember_16 : decode cX4_remember 16 = .ok (.bipush 13, 2) := by decide +kernel
theorem dX4_remember_18 : decode cX4_remember 18 = .ok (.invokestatic 174, 3) := by decide +kernel
theorem dX4_remember_21 : decode cX4_remember 21 = .ok (.aload_n 0, 1) := by decide +kernel
theorem dX4_remember_22 : decode cX4_remember 22 = .ok (.dup, 1) := by decide +kernel
theorem dX4_remember_23 : decode cX4_remember 23 = .ok (.getfield 94, 3) := by decide +kernel
theorem dX4_remember_26 : decode cX4_remember 26 = .ok (.iconst 1, 1) := by decide +kernel
theorem dX4_remember_27 : decode cX4_remember 27 = .ok (.iadd, 1) := by decide +kernel
theorem dX4_remember_28 : decode cX4_remember 28 = .ok (.putfield 94, 3) := by decide +kernel
theorem dX4_remember_31 : decode cX4_remember 31 = .ok (.return_, 1) := by decide +kernel
theorem dX4_quarter_0 : decode cX4_quarter 0 = .ok (.aload_n 0, 1) := by decide +kernel
theorem dX4_quarter_1 : decode cX4_quarter 1 = .ok (.getfield 136, 3) := by decide +kernel
theorem dX4_quarter_4 : decode cX4_quarter 4 = .ok (.ifCond .eq 14, 3) := by decide +kernel
theorem dX4_quarter_7 : decode cX4_quarter 7 = .ok (.aload_n 0, 1) := by decide +kernel
theorem dX4_quarter_8 : decode cX4_quarter 8 = .ok (.getfield 38, 3) := by decide +kernel
theorem dX4_quarter_11 : decode cX4_quarter 11 = .ok (.iconst 0, 1) := by decide +kernel
theorem dX4_quarter_12 : decode cX4_quarter 12 = .ok (.iaload, 1) := by decide +kernel
theorem dX4_quarter_13 : decode cX4_quarter 13 = .ok (.bipush 99, 2) := by decide +kernel
theorem dX4_quarter_15 : decode cX4_quarter 15 = .ok (.if_icmp .ne 6, 3) := by decide +kernel
theorem dX4_quarter_18 : decode cX4_quarter 18 = .ok (.bipush (-4), 2) := by decide +kernel
theorem dX4_quarter_20 : decode cX4_quarter 20 = .ok (.ireturn, 1) := by decide +kernel
theorem dX4_quarter_21 : decode cX4_quarter 21 = .ok (.aload_n 0, 1) := by decide +kernel
theorem dX4_quarter_22 : decode cX4_quarter 22 = .ok (.getfield 94, 3) := by decide +kernel
theorem dX4_quarter_25 : decode cX4_quarter 25 = .ok (.bipush 40, 2) := by decide +kernel
theorem dX4_quarter_27 : decode cX4_quarter 27 = .ok (.if_icmp .ne 6, 3) := by decide +kernel
theorem dX4_quarter_30 : decode cX4_quarter 30 = .ok (.bipush (-2), 2) := by decide +kernel
theorem dX4_quarter_32 : decode cX4_quarter 32 = .ok (.ireturn, 1) := by decide +kernel
theorem dX4_quarter_33 : decode cX4_quarter 33 = .ok (.aload_n 0, 1) := by decide +kernel
theorem dX4_quarter_34 : decode cX4_quarter 34 = .ok (.invokevirtual 178, 3) := by decide +kernel
theorem dX4_quarter_37 : decode cX4_quarter 37 = .ok (.aload_n 0, 1) := by decide +kernel
theorem dX4_quarter_38 : decode cX4_quarter 38 = .ok (.aload_n 0, 1) := by decide +kernel
theorem dX4_quarter_39 : decode cX4_quarter 39 = .ok (.getfield 38, 3) := by decide +kernel
theorem dX4_quarter_42 : decode cX4_quarter 42 = .ok (.invokevirtual 181, 3) := by decide +kernel
theorem dX4_quarter_45 : decode cX4_quarter 45 = .ok (.ireturn, 1) := by decide +kernel
theorem dX4_soot_0 : decode cX4_soot 0 = .ok (.aload_n 0, 1) := by decide +kernel
theorem dX4_soot_1 : decode cX4_soot 1 = .ok (.iload_n 1, 1) := by decide +kernel
theorem dX4_soot_2 : decode cX4_soot 2 = .ok (.invokevirtual 157, 3) := by decide +kernel
theorem dX4_soot_5 : decode cX4_soot 5 = .ok (.ifCond .ne 5, 3) := by decide +kernel
theorem dX4_soot_8 : decode cX4_soot 8 = .ok (.iconst (-1), 1) := by decide +kernel
theorem dX4_soot_9 : decode cX4_soot 9 = .ok (.ireturn, 1) := by decide +kernel
theorem dX4_soot_10 : decode cX4_soot 10 = .ok (.aload_n 0, 1) := by decide +kernel
theorem dX4_soot_11 : decode cX4_soot 11 = .ok (.getfield 38, 3) := by decide +kernel
theorem dX4_soot_14 : decode cX4_soot 14 = .ok (.bipush 7, 2) := by decide +kernel
theorem dX4_soot_16 : decode cX4_soot 16 = .ok (.iload_n 1, 1) := by decide +kernel
theorem dX4_soot_17 : decode cX4_soot 17 = .ok (.iadd, 1) := by decide +kernel
theorem dX4_soot_18 : decode cX4_soot 18 = .ok (.iaload, 1) := by decide +kernel
theorem dX4_soot_19 : decode cX4_soot 19 = .ok (.iconst 3, 1) := by decide +kernel
theorem dX4_soot_20 : decode cX4_soot 20 = .ok (.if_icmp .ne 6, 3) := by decide +kernel
theorem dX4_soot_23 : decode cX4_soot 23 = .ok (.bipush (-4), 2) := by decide +kernel
theorem dX4_soot_25 : decode cX4_soot 25 = .ok (.ireturn, 1) := by decide +kernel
theorem dX4_soot_26 : decode cX4_soot 26 = .ok (.aload_n 0, 1) := by decide +kernel
theorem dX4_soot_27 : decode cX4_soot 27 = .ok (.getfield 94, 3) := by decide +kernel
theorem dX4_soot_30 : decode cX4_soot 30 = .ok (.bipush 40, 2) := by decide +kernel
theorem dX4_soot_32 : decode cX4_soot 32 = .ok (.if_icmp .ne 6, 3) := by decide +kernel
theorem dX4_soot_35 : decode cX4_soot 35 = .ok (.bipush (-2), 2) := by decide +kernel
theorem dX4_soot_37 : decode cX4_soot 37 = .ok (.ireturn, 1) := by decide +kernel
theorem dX4_soot_38 : decode cX4_soot 38 = .ok (.aload_n 0, 1) := by decide +kernel
theorem dX4_soot_39 : decode cX4_soot 39 = .ok (.invokevirtual 178, 3) := by decide +kernel
theorem dX4_soot_42 : decode cX4_soot 42 = .ok (.aload_n 0, 1) := by decide +kernel
theorem dX4_soot_43 : decode cX4_soot 43 = .ok (.getfield 38, 3) := by decide +kernel
theorem dX4_soot_46 : decode cX4_soot 46 = .ok (.bipush 7, 2) := by decide +kernel
theorem dX4_soot_48 : decode cX4_soot 48 = .ok (.iload_n 1, 1) := by decide +kernel
theorem dX4_soot_49 : decode cX4_soot 49 = .ok (.iadd, 1) := by decide +kernel
theorem dX4_soot_50 : decode cX4_soot 50 = .ok (.dup2, 1) := by decide +kernel
theorem dX4_soot_51 : decode cX4_soot 51 = .ok (.iaload, 1) := by decide +kernel
theorem dX4_soot_52 : decode cX4_soot 52 = .ok (.iconst 1, 1) := by decide +kernel
theorem dX4_soot_53 : decode cX4_soot 53 = .ok (.iadd, 1) := by decide +kernel
theorem dX4_soot_54 : decode cX4_soot 54 = .ok (.iastore, 1) := by decide +kernel
theorem dX4_soot_55 : decode cX4_soot 55 = .ok (.aload_n 0, 1) := by decide +kernel
theorem dX4_soot_56 : decode cX4_soot 56 = .ok (.getfield 38, 3) := by decide +kernel
theorem dX4_soot_59 : decode cX4_soot 59 = .ok (.bipush 7, 2) := by decide +kernel
theorem dX4_soot_61 : decode cX4_soot 61 = .ok (.iload_n 1, 1) := by decide +kernel
theorem dX4_soot_62 : decode cX4_soot 62 = .ok (.iadd, 1) := by decide +kernel
theorem dX4_soot_63 : decode cX4_soot 63 = .ok (.iaload, 1) := by decide +kernel
theorem dX4_soot_64 : decode cX4_soot 64 = .ok (.ireturn, 1) := by decide +kernel
theorem dX4_wash_0 : decode cX4_wash 0 = .ok (.aload_n 0, 1) := by decide +kernel
theorem dX4_wash_1 : decode cX4_wash 1 = .ok (.iload_n 1, 1) := by decide +kernel
theorem dX4_wash_2 : decode cX4_wash 2 = .ok (.invokevirtual 157, 3) := by decide +kernel
theorem dX4_wash_5 : decode cX4_wash 5 = .ok (.ifCond .ne 5, 3) := by decide +kernel
theorem dX4_wash_8 : decode cX4_wash 8 = .ok (.iconst (-1), 1) := by decide +kernel
theorem dX4_wash_9 : decode cX4_wash 9 = .ok (.ireturn, 1) := by decide +kernel
theorem dX4_wash_10 : decode cX4_wash 10 = .ok (.aload_n 0, 1) := by decide +kernel
theorem dX4_wash_11 : decode cX4_wash 11 = .ok (.getfield 38, 3) := by decide +kernel
theorem dX4_wash_14 : decode cX4_wash 14 = .ok (.bipush 7, 2) := by decide +kernel
theorem dX4_wash_16 : decode cX4_wash 16 = .ok (.iload_n 1, 1) := by decide +kernel
theorem dX4_wash_17 : decode cX4_wash 17 = .ok (.iadd, 1) := by decide +kernel
theorem dX4_wash_18 : decode cX4_wash 18 = .ok (.iaload, 1) := by decide +kernel
theorem dX4_wash_19 : decode cX4_wash 19 = .ok (.ifCond .ne 6, 3) := by decide +kernel
theorem dX4_wash_22 : decode cX4_wash 22 = .ok (.bipush (-4), 2) := by decide +kernel
theorem dX4_wash_24 : decode cX4_wash 24 = .ok (.ireturn, 1) := by decide +kernel
theorem dX4_wash_25 : decode cX4_wash 25 = .ok (.aload_n 0, 1) := by decide +kernel
theorem dX4_wash_26 : decode cX4_wash 26 = .ok (.getfield 94, 3) := by decide +kernel
theorem dX4_wash_29 : decode cX4_wash 29 = .ok (.bipush 40, 2) := by decide +kernel
theorem dX4_wash_31 : decode cX4_wash 31 = .ok (.if_icmp .ne 6, 3) := by decide +kernel
theorem dX4_wash_34 : decode cX4_wash 34 = .ok (.bipush (-2), 2) := by decide +kernel
theorem dX4_wash_36 : decode cX4_wash 36 = .ok (.ireturn, 1) := by decide +kernel
theorem dX4_wash_37 : decode cX4_wash 37 = .ok (.aload_n 0, 1) := by decide +kernel
theorem dX4_wash_38 : decode cX4_wash 38 = .ok (.invokevirtual 178, 3) := by decide +kernel
theorem dX4_wash_41 : decode cX4_wash 41 = .ok (.aload_n 0, 1) := by decide +kernel
theorem dX4_wash_42 : decode cX4_wash 42 = .ok (.getfield 38, 3) := by decide +kernel
theorem dX4_wash_45 : decode cX4_wash 45 = .ok (.bipush 7, 2) := by decide +kernel
theorem dX4_wash_47 : decode cX4_wash 47 = .ok (.iload_n 1, 1) := by decide +kernel
theorem dX4_wash_48 : decode cX4_wash 48 = .ok (.iadd, 1) := by decide +kernel
theorem dX4_wash_49 : decode cX4_wash 49 = .ok (.iaload, 1) := by decide +kernel
theorem dX4_wash_50 : decode cX4_wash 50 = .ok (.istore_n 2, 1) := by decide +kernel
theorem dX4_wash_51 : decode cX4_wash 51 = .ok (.aload_n 0, 1) := by decide +kernel
theorem dX4_wash_52 : decode cX4_wash 52 = .ok (.getfield 38, 3) := by decide +kernel
theorem dX4_wash_55 : decode cX4_wash 55 = .ok (.bipush 7, 2) := by decide +kernel
theorem dX4_wash_57 : decode cX4_wash 57 = .ok (.iload_n 1, 1) := by decide +kernel
theorem dX4_wash_58 : decode cX4_wash 58 = .ok (.iadd, 1) := by decide +kernel
theorem dX4_wash_59 : decode cX4_wash 59 = .ok (.iconst 0, 1) := by decide +kernel
theorem dX4_wash_60 : decode cX4_wash 60 = .ok (.iastore, 1) := by decide +kernel
theorem dX4_wash_61 : decode cX4_wash 61 = .ok (.iload_n 2, 1) := by decide +kernel
theorem dX4_wash_62 : decode cX4_wash 62 = .ok (.ireturn, 1) := by decide +kernel
theorem dX4_gift_0 : decode cX4_gift 0 = .ok (.aload_n 0, 1) := by decide +kernel
theorem dX4_gift_1 : decode cX4_gift 1 = .ok (.iload_n 1, 1) := by decide +kernel
theorem dX4_gift_2 : decode cX4_gift 2 = .ok (.invokevirtual 157, 3) := by decide +kernel
theorem dX4_gift_5 : decode cX4_gift 5 = .ok (.ifCond .eq 28, 3) := by decide +kernel
theorem dX4_gift_8 : decode cX4_gift 8 = .ok (.aload_n 0, 1) := by decide +kernel
theorem dX4_gift_9 : decode cX4_gift 9 = .ok (.iload_n 2, 1) := by decide +kernel
theorem dX4_gift_10 : decode cX4_gift 10 = .ok (.invokevirtual 157, 3) := by decide +kernel
theorem dX4_gift_13 : decode cX4_gift 13 = .ok (.ifCond .eq 20, 3) := by decide +kernel
theorem dX4_gift_16 : decode cX4_gift 16 = .ok (.iload_n 1, 1) := by decide +kernel
theorem dX4_gift_17 : decode cX4_gift 17 = .ok (.iload_n 2, 1) := by decide +kernel
theorem dX4_gift_18 : decode cX4_gift 18 = .ok (.if_icmp .eq 15, 3) := by decide +kernel
theorem dX4_gift_21 : decode cX4_gift 21 = .ok (.iload_n 3, 1) := by decide +kernel
theorem dX4_gift_22 : decode cX4_gift 22 = .ok (.i2l, 1) := by decide +kernel
theorem dX4_gift_23 : decode cX4_gift 23 = .ok (.lconst 1, 1) := by decide +kernel
theorem dX4_gift_24 : decode cX4_gift 24 = .ok (.ldc2_w 172, 3) := by decide +kernel
theorem dX4_gift_27 : decode cX4_gift 27 = .ok (.invokestatic 74, 3) := by decide +kernel
theorem dX4_gift_30 : decode cX4_gift 30 = .ok (.ifCond .ne 5, 3) := by decide +kernel
theorem dX4_gift_33 : decode cX4_gift 33 = .ok (.iconst (-1), 1) := by decide +kernel
theorem dX4_gift_34 : decode cX4_gift 34 = .ok (.ireturn, 1) := by decide +kernel
theorem dX4_gift_35 : decode cX4_gift 35 = .ok (.aload_n 0, 1) := by decide +kernel
theorem dX4_gift_36 : decode cX4_gift 36 = .ok (.getfield 38, 3) := by decide +kernel
theorem dX4_gift_39 : decode cX4_gift 39 = .ok (.iconst 1, 1) := by decide +kernel
theorem dX4_gift_40 : decode cX4_gift 40 = .ok (.iload_n 1, 1) := by decide +kernel
theorem dX4_gift_41 : decode cX4_gift 41 = .ok (.iadd, 1) := by decide +kernel
theorem dX4_gift_42 : decode cX4_gift 42 = .ok (.iaload, 1) := by decide +kernel
theorem dX4_gift_43 : decode cX4_gift 43 = .ok (.iload_n 3, 1) := by decide +kernel
theorem dX4_gift_44 : decode cX4_gift 44 = .ok (.if_icmp .ge 6, 3) := by decide +kernel
theorem dX4_gift_47 : decode cX4_gift 47 = .ok (.bipush (-4), 2) := by decide +kernel
theorem dX4_gift_49 : decode cX4_gift 49 = .ok (.ireturn, 1) := by decide +kernel
theorem dX4_gift_50 : decode cX4_gift 50 = .ok (.aload_n 0, 1) := by decide +kernel
theorem dX4_gift_51 : decode cX4_gift 51 = .ok (.getfield 94, 3) := by decide +kernel
theorem dX4_gift_54 : decode cX4_gift 54 = .ok (.bipush 40, 2) := by decide +kernel
theorem dX4_gift_56 : decode cX4_gift 56 = .ok (.if_icmp .ne 6, 3) := by decide +kernel
theorem dX4_gift_59 : decode cX4_gift 59 = .ok (.bipush (-2), 2) := by decide +kernel
theorem dX4_gift_61 : decode cX4_gift 61 = .ok (.ireturn, 1) := by decide +kernel
theorem dX4_gift_62 : decode cX4_gift 62 = .ok (.aload_n 0, 1) := by decide +kernel
theorem dX4_gift_63 : decode cX4_gift 63 = .ok (.invokevirtual 178, 3) := by decide +kernel
theorem dX4_gift_66 : decode cX4_gift 66 = .ok (.aload_n 0, 1) := by decide +kernel
theorem dX4_gift_67 : decode cX4_gift 67 = .ok (.getfield 38, 3) := by decide +kernel
theorem dX4_gift_70 : decode cX4_gift 70 = .ok (.iconst 1, 1) := by decide +kernel
theorem dX4_gift_71 : decode cX4_gift 71 = .ok (.iload_n 1, 1) := by decide +kernel
theorem dX4_gift_72 : decode cX4_gift 72 = .ok (.iadd, 1) := by decide +kernel
theorem dX4_gift_73 : decode cX4_gift 73 = .ok (.dup2, 1) := by decide +kernel
theorem dX4_gift_74 : decode cX4_gift 74 = .ok (.iaload, 1) := by decide +kernel
theorem dX4_gift_75 : decode cX4_gift 75 = .ok (.iload_n 3, 1) := by decide +kernel
theorem dX4_gift_76 : decode cX4_gift 76 = .ok (.isub, 1) := by decide +kernel
theorem dX4_gift_77 : decode cX4_gift 77 = .ok (.iastore, 1) := by decide +kernel
theorem dX4_gift_78 : decode cX4_gift 78 = .ok (.aload_n 0, 1) := by decide +kernel
theorem dX4_gift_79 : decode cX4_gift 79 = .ok (.getfield 38, 3) := by decide +kernel
theorem dX4_gift_82 : decode cX4_gift 82 = .ok (.iconst 1, 1) := by decide +kernel
theorem dX4_gift_83 : decode cX4_gift 83 = .ok (.iload_n 2, 1) := by decide +kernel
theorem dX4_gift_84 : decode cX4_gift 84 = .ok (.iadd, 1) := by decide +kernel
theorem dX4_gift_85 : decode cX4_gift 85 = .ok (.bipush 99, 2) := by decide +kernel
theorem dX4_gift_87 : decode cX4_gift 87 = .ok (.aload_n 0, 1) := by decide +kernel
theorem dX4_gift_88 : decode cX4_gift 88 = .ok (.getfield 38, 3) := by decide +kernel
theorem dX4_gift_91 : decode cX4_gift 91 = .ok (.iconst 1, 1) := by decide +kernel
theorem dX4_gift_92 : decode cX4_gift 92 = .ok (.iload_n 2, 1) := by decide +kernel
theorem dX4_gift_93 : decode cX4_gift 93 = .ok (.iadd, 1) := by decide +kernel
theorem dX4_gift_94 : decode cX4_gift 94 = .ok (.iaload, 1) := by decide +kernel
theorem dX4_gift_95 : decode cX4_gift 95 = .ok (.iload_n 3, 1) := by decide +kernel
theorem dX4_gift_96 : decode cX4_gift 96 = .ok (.iadd, 1) := by decide +kernel
theorem dX4_gift_97 : decode cX4_gift 97 = .ok (.invokestatic 143, 3) := by decide +kernel
theorem dX4_gift_100 : decode cX4_gift 100 = .ok (.iastore, 1) := by decide +kernel
theorem dX4_gift_101 : decode cX4_gift 101 = .ok (.aload_n 0, 1) := by decide +kernel
theorem dX4_gift_102 : decode cX4_gift 102 = .ok (.getfield 38, 3) := by decide +kernel
theorem dX4_gift_105 : decode cX4_gift 105 = .ok (.iconst 1, 1) := by decide +kernel
theorem dX4_gift_106 : decode cX4_gift 106 = .ok (.iload_n 2, 1) := by decide +kernel
theorem dX4_gift_107 : decode cX4_gift 107 = .ok (.iadd, 1) := by decide +kernel
theorem dX4_gift_108 : decode cX4_gift 108 = .ok (.iaload, 1) := by decide +kernel
theorem dX4_gift_109 : decode cX4_gift 109 = .ok (.ireturn, 1) := by decide +kernel
theorem dX4_undo_0 : decode cX4_undo 0 = .ok (.iload_n 1, 1) := by decide +kernel
theorem dX4_undo_1 : decode cX4_undo 1 = .ok (.i2l, 1) := by decide +kernel
theorem dX4_undo_2 : decode cX4_undo 2 = .ok (.lconst 0, 1) := by decide +kernel
theorem dX4_undo_3 : decode cX4_undo 3 = .ok (.aload_n 0, 1) := by decide +kernel
theorem dX4_undo_4 : decode cX4_undo 4 = .ok (.getfield 94, 3) := by decide +kernel
theorem dX4_undo_7 : decode cX4_undo 7 = .ok (.i2l, 1) := by decide +kernel
theorem dX4_undo_8 : decode cX4_undo 8 = .ok (.invokestatic 74, 3) := by decide +kernel
theorem dX4_undo_11 : decode cX4_undo 11 = .ok (.ifCond .ne 5, 3) := by decide +kernel
theorem dX4_undo_14 : decode cX4_undo 14 = .ok (.iconst (-1), 1) := by decide +kernel
theorem dX4_undo_15 : decode cX4_undo 15 = .ok (.ireturn, 1) := by decide +kernel
theorem dX4_undo_16 : decode cX4_undo 16 = .ok (.aload_n 0, 1) := by decide +kernel
theorem dX4_undo_17 : decode cX4_undo 17 = .ok (.getfield 94, 3) := by decide +kernel
theorem dX4_undo_20 : decode cX4_undo 20 = .ok (.iload_n 1, 1) := by decide +kernel
theorem dX4_undo_21 : decode cX4_undo 21 = .ok (.isub, 1) := by decide +kernel
theorem dX4_undo_22 : decode cX4_undo 22 = .ok (.istore_n 2, 1) := by decide +kernel
theorem dX4_undo_23 : decode cX4_undo 23 = .ok (.iload_n 2, 1) := by decide +kernel
theorem dX4_undo_24 : decode cX4_undo 24 = .ok (.ifCond .le 21, 3) := by decide +kernel
theorem dX4_undo_27 : decode cX4_undo 27 = .ok (.aload_n 0, 1) := by decide +kernel
theorem dX4_undo_28 : decode cX4_undo 28 = .ok (.getfield 47, 3) := by decide +kernel
theorem dX4_undo_31 : decode cX4_undo 31 = .ok (.bipush 13, 2) := by decide +kernel
theorem dX4_undo_33 : decode cX4_undo 33 = .ok (.iload_n 1, 1) := by decide +kernel
theorem dX4_undo_34 : decode cX4_undo 34 = .ok (.imul, 1) := by decide +kernel
theorem dX4_undo_35 : decode cX4_undo 35 = .ok (.aload_n 0, 1) := by decide +kernel
theorem dX4_undo_36 : decode cX4_undo 36 = .ok (.getfield 38, 3) := by decide +kernel
theorem dX4_undo_39 : decode cX4_undo 39 = .ok (.iconst 0, 1) := by decide +kernel
theorem dX4_undo_40 : decode cX4_undo 40 = .ok (.bipush 13, 2) := by decide +kernel
theorem dX4_undo_42 : decode cX4_undo 42 = .ok (.invokestatic 174, 3) := by decide +kernel
theorem dX4_undo_45 : decode cX4_undo 45 = .ok (.aload_n 0, 1) := by decide +kernel
theorem dX4_undo_46 : decode cX4_undo 46 = .ok (.iload_n 1, 1) := by decide +kernel
theorem dX4_undo_47 : decode cX4_undo 47 = .ok (.putfield 94, 3) := by decide +kernel
theorem dX4_undo_50 : decode cX4_undo 50 = .ok (.iload_n 2, 1) := by decide +kernel
theorem dX4_undo_51 : decode cX4_undo 51 = .ok (.ireturn, 1) := by decide +kernel
theorem dX4_keep_0 : decode cX4_keep 0 = .ok (.iload_n 1, 1) := by decide +kernel
theorem dX4_keep_1 : decode cX4_keep 1 = .ok (.i2l, 1) := by decide +kernel
theorem dX4_keep_2 : decode cX4_keep 2 = .ok (.lconst 0, 1) := by decide +kernel
theorem dX4_keep_3 : decode cX4_keep 3 = .ok (.ldc2_w 184, 3) := by decide +kernel
theorem dX4_keep_6 : decode cX4_keep 6 = .ok (.invokestatic 74, 3) := by decide +kernel
theorem dX4_keep_9 : decode cX4_keep 9 = .ok (.ifCond .ne 5, 3) := by decide +kernel
theorem dX4_keep_12 : decode cX4_keep 12 = .ok (.iconst (-1), 1) := by decide +kernel
theorem dX4_keep_13 : decode cX4_keep 13 = .ok (.ireturn, 1) := by decide +kernel
theorem dX4_keep_14 : decode cX4_keep 14 = .ok (.aload_n 0, 1) := by decide +kernel
theorem dX4_keep_15 : decode cX4_keep 15 = .ok (.getfield 136, 3) := by decide +kernel
theorem dX4_keep_18 : decode cX4_keep 18 = .ok (.ifCond .ne 6, 3) := by decide +kernel
theorem dX4_keep_21 : decode cX4_keep 21 = .ok (.bipush (-4), 2) := by decide +kernel
theorem dX4_keep_23 : decode cX4_keep 23 = .ok (.ireturn, 1) := by decide +kernel
theorem dX4_keep_24 : decode cX4_keep 24 = .ok (.aload_n 0, 1) := by decide +kernel
theorem dX4_keep_25 : decode cX4_keep 25 = .ok (.getfield 50, 3) := by decide +kernel
theorem dX4_keep_28 : decode cX4_keep 28 = .ok (.sipush 534, 3) := by decide +kernel
theorem dX4_keep_31 : decode cX4_keep 31 = .ok (.iload_n 1, 1) := by decide +kernel
theorem dX4_keep_32 : decode cX4_keep 32 = .ok (.imul, 1) := by decide +kernel
theorem dX4_keep_33 : decode cX4_keep 33 = .ok (.aload_n 0, 1) := by decide +kernel
theorem dX4_keep_34 : decode cX4_keep 34 = .ok (.getfield 94, 3) := by decide +kernel
theorem dX4_keep_37 : decode cX4_keep 37 = .ok (.iastore, 1) := by decide +kernel
theorem dX4_keep_38 : decode cX4_keep 38 = .ok (.aload_n 0, 1) := by decide +kernel
theorem dX4_keep_39 : decode cX4_keep 39 = .ok (.getfield 38, 3) := by decide +kernel
theorem dX4_keep_42 : decode cX4_keep 42 = .ok (.iconst 0, 1) := by decide +kernel
theorem dX4_keep_43 : decode cX4_keep 43 = .ok (.aload_n 0, 1) := by decide +kernel
theorem dX4_keep_44 : decode cX4_keep 44 = .ok (.getfield 50, 3) := by decide +kernel
theorem dX4_keep_47 : decode cX4_keep 47 = .ok (.sipush 534, 3) := by decide +kernel
theorem dX4_keep_50 : decode cX4_keep 50 = .ok (.iload_n 1, 1) := by decide +kernel
theorem dX4_keep_51 : decode cX4_keep 51 = .ok (.imul, 1) := by decide +kernel
theorem dX4_keep_52 : decode cX4_keep 52 = .ok (.iconst 1, 1) := by decide +kernel
theorem dX4_keep_53 : decode cX4_keep 53 = .ok (.iadd, 1) := by decide +kernel
theorem dX4_keep_54 : decode cX4_keep 54 = .ok (.bipush 13, 2) := by decide +kernel
theorem dX4_keep_56 : decode cX4_keep 56 = .ok (.invokestatic 174, 3) := by decide +kernel
theorem dX4_keep_59 : decode cX4_keep 59 = .ok (.aload_n 0, 1) := by decide +kernel
theorem dX4_keep_60 : decode cX4_keep 60 = .ok (.getfield 47, 3) := by decide +kernel
theorem dX4_keep_63 : decode cX4_keep 63 = .ok (.iconst 0, 1) := by decide +kernel
theorem dX4_keep_64 : decode cX4_keep 64 = .ok (.aload_n 0, 1) := by decide +kernel
theorem dX4_keep_65 : decode cX4_keep 65 = .ok (.getfield 50, 3) := by decide +kernel
theorem dX4_keep_68 : decode cX4_keep 68 = .ok (.sipush 534, 3) := by decide +kernel
theorem dX4_keep_71 : decode cX4_keep 71 = .ok (.iload_n 1, 1) := by decide +kernel
theorem dX4_keep_72 : decode cX4_keep 72 = .ok (.imul, 1) := by decide +kernel
theorem dX4_keep_73 : decode cX4_keep 73 = .ok (.iconst 1, 1) := by decide +kernel
theorem dX4_keep_74 : decode cX4_keep 74 = .ok (.iadd, 1) := by decide +kernel
theorem dX4_keep_75 : decode cX4_keep 75 = .ok (.bipush 13, 2) := by decide +kernel
theorem dX4_keep_77 : decode cX4_keep 77 = .ok (.iadd, 1) := by decide +kernel
theorem dX4_keep_78 : decode cX4_keep 78 = .ok (.sipush 520, 3) := by decide +kernel
theorem dX4_keep_81 : decode cX4_keep 81 = .ok (.invokestatic 174, 3) := by decide +kernel
theorem dX4_keep_84 : decode cX4_keep 84 = .ok (.aload_n 0, 1) := by decide +kernel
theorem dX4_keep_85 : decode cX4_keep 85 = .ok (.getfield 94, 3) := by decide +kernel
theorem dX4_keep_88 : decode cX4_keep 88 = .ok (.ireturn, 1) := by decide +kernel
theorem dX4_on_0 : decode cX4_on 0 = .ok (.iload_n 1, 1) := by decide +kernel
theorem dX4_on_1 : decode cX4_on 1 = .ok (.i2l, 1) := by decide +kernel
theorem dX4_on_2 : decode cX4_on 2 = .ok (.lconst 0, 1) := by decide +kernel
theorem dX4_on_3 : decode cX4_on 3 = .ok (.ldc2_w 184, 3) := by decide +kernel
theorem dX4_on_6 : decode cX4_on 6 = .ok (.invokestatic 74, 3) := by decide +kernel
theorem dX4_on_9 : decode cX4_on 9 = .ok (.ifCond .ne 5, 3) := by decide +kernel
theorem dX4_on_12 : decode cX4_on 12 = .ok (.iconst (-1), 1) := by decide +kernel
theorem dX4_on_13 : decode cX4_on 13 = .ok (.ireturn, 1) := by decide +kernel
theorem dX4_on_14 : decode cX4_on 14 = .ok (.aload_n 0, 1) := by decide +kernel
theorem dX4_on_15 : decode cX4_on 15 = .ok (.getfield 50, 3) := by decide +kernel
theorem dX4_on_18 : decode cX4_on 18 = .ok (.sipush 534, 3) := by decide +kernel
theorem dX4_on_21 : decode cX4_on 21 = .ok (.iload_n 1, 1) := by decide +kernel
theorem dX4_on_22 : decode cX4_on 22 = .ok (.imul, 1) := by decide +kernel
theorem dX4_on_23 : decode cX4_on 23 = .ok (.iaload, 1) := by decide +kernel
theorem dX4_on_24 : decode cX4_on 24 = .ok (.ifCond .ge 9, 3) := by decide +kernel
theorem dX4_on_27 : decode cX4_on 27 = .ok (.aload_n 0, 1) := by decide +kernel
theorem dX4_on_28 : decode cX4_on 28 = .ok (.iconst 1, 1) := by decide +kernel
theorem dX4_on_29 : decode cX4_on 29 = .ok (.invokevirtual 84, 3) := by decide +kernel
theorem dX4_on_32 : decode cX4_on 32 = .ok (.ireturn, 1) := by decide +kernel
theorem dX4_on_33 : decode cX4_on 33 = .ok (.aload_n 0, 1) := by decide +kernel
theorem dX4_on_34 : decode cX4_on 34 = .ok (.aload_n 0, 1) := by decide +kernel
theorem dX4_on_35 : decode cX4_on 35 = .ok (.getfield 50, 3) := by decide +kernel
theorem dX4_on_38 : decode cX4_on 38 = .ok (.sipush 534, 3) := by decide +kernel
theorem dX4_on_41 : decode cX4_on 41 = .ok (.iload_n 1, 1) := by decide +kernel
theorem dX4_on_42 : decode cX4_on 42 = .ok (.imul, 1) := by decide +kernel
theorem dX4_on_43 : decode cX4_on 43 = .ok (.iaload, 1) := by decide +kernel
theorem dX4_on_44 : decode cX4_on 44 = .ok (.putfield 94, 3) := by decide +kernel
theorem dX4_on_47 : decode cX4_on 47 = .ok (.aload_n 0, 1) := by decide +kernel
theorem dX4_on_48 : decode cX4_on 48 = .ok (.getfield 50, 3) := by decide +kernel
theorem dX4_on_51 : decode cX4_on 51 = .ok (.sipush 534, 3) := by decide +kernel
theorem dX4_on_54 : decode cX4_on 54 = .ok (.iload_n 1, 1) := by decide +kernel
theorem dX4_on_55 : decode cX4_on 55 = .ok (.imul, 1) := by decide +kernel
theorem dX4_on_56 : decode cX4_on 56 = .ok (.iconst 1, 1) := by decide +kernel
theorem dX4_on_57 : decode cX4_on 57 = .ok (.iadd, 1) := by decide +kernel
theorem dX4_on_58 : decode cX4_on 58 = .ok (.aload_n 0, 1) := by decide +kernel
theorem dX4_on_59 : decode cX4_on 59 = .ok (.getfield 38, 3) := by decide +kernel
theorem dX4_on_62 : decode cX4_on 62 = .ok (.iconst 0, 1) := by decide +kernel
theorem dX4_on_63 : decode cX4_on 63 = .ok (.bipush 13, 2) := by decide +kernel
theorem dX4_on_65 : decode cX4_on 65 = .ok (.invokestatic 174, 3) := by decide +kernel
theorem dX4_on_68 : decode cX4_on 68 = .ok (.aload_n 0, 1) := by decide +kernel
theorem dX4_on_69 : decode cX4_on 69 = .ok (.getfield 50, 3) := by decide +kernel
theorem dX4_on_72 : decode cX4_on 72 = .ok (.sipush 534, 3) := by decide +kernel
theorem dX4_on_75 : decode cX4_on 75 = .ok (.iload_n 1, 1) := by decide +kernel
theorem dX4_on_76 : decode cX4_on 76 = .ok (.imul, 1) := by decide +kernel
theorem dX4_on_77 : decode cX4_on 77 = .ok (.iconst 1, 1) := by decide +kernel
theorem dX4_on_78 : decode cX4_on 78 = .ok (.iadd, 1) := by decide +kernel
theorem dX4_on_79 : decode cX4_on 79 = .ok (.bipush 13, 2) := by decide +kernel
theorem dX4_on_81 : decode cX4_on 81 = .ok (.iadd, 1) := by decide +kernel
theorem dX4_on_82 : decode cX4_on 82 = .ok (.aload_n 0, 1) := by decide +kernel
theorem dX4_on_83 : decode cX4_on 83 = .ok (.getfield 47, 3) := by decide +kernel
theorem dX4_on_86 : decode cX4_on 86 = .ok (.iconst 0, 1) := by decide +kernel
theorem dX4_on_87 : decode cX4_on 87 = .ok (.sipush 520, 3) := by decide +kernel
theorem dX4_on_90 : decode cX4_on 90 = .ok (.invokestatic 174, 3) := by decide +kernel
theorem dX4_on_93 : decode cX4_on 93 = .ok (.aload_n 0, 1) := by decide +kernel
theorem dX4_on_94 : decode cX4_on 94 = .ok (.getfield 94, 3) := by decide +kernel
theorem dX4_on_97 : decode cX4_on 97 = .ok (.ireturn, 1) := by decide +kernel
theorem dX4_layAside_0 : decode cX4_layAside 0 = .ok (.aload_n 0, 1) := by decide +kernel
theorem dX4_layAside_1 : decode cX4_layAside 1 = .ok (.getfield 38, 3) := by decide +kernel
theorem dX4_layAside_4 : decode cX4_layAside 4 = .ok (.iconst 0, 1) := by decide +kernel
theorem dX4_layAside_5 : decode cX4_layAside 5 = .ok (.aload_n 0, 1) := by decide +kernel
theorem dX4_layAside_6 : decode cX4_layAside 6 = .ok (.getfield 41, 3) := by decide +kernel
theorem dX4_layAside_9 : decode cX4_layAside 9 = .ok (.iconst 0, 1) := by decide +kernel
theorem dX4_layAside_10 : decode cX4_layAside 10 = .ok (.bipush 13, 2) := by decide +kernel
theorem dX4_layAside_12 : decode cX4_layAside 12 = .ok (.invokestatic 174, 3) := by decide +kernel
theorem dX4_layAside_15 : decode cX4_layAside 15 = .ok (.return_, 1) := by decide +kernel
theorem dX4_givesIn_0 : decode cX4_givesIn 0 = .ok (.iconst 0, 1) := by decide +kernel
theorem dX4_givesIn_1 : decode cX4_givesIn 1 = .ok (.istore_n 2, 1) := by decide +kernel
theorem dX4_givesIn_2 : decode cX4_givesIn 2 = .ok (.iconst 0, 1) := by decide +kernel
theorem dX4_givesIn_3 : decode cX4_givesIn 3 = .ok (.istore_n 3, 1) := by decide +kernel
theorem dX4_givesIn_4 : decode cX4_givesIn 4 = .ok (.iload_n 3, 1) := by decide +kernel
theorem dX4_givesIn_5 : decode cX4_givesIn 5 = .ok (.iload_n 1, 1) := by decide +kernel
theorem dX4_givesIn_6 : decode cX4_givesIn 6 = .ok (.if_icmp .ge 20, 3) := by decide +kernel
theorem dX4_givesIn_9 : decode cX4_givesIn 9 = .ok (.iload_n 2, 1) := by decide +kernel
theorem dX4_givesIn_10 : decode cX4_givesIn 10 = .ok (.aload_n 0, 1) := by decide +kernel
theorem dX4_givesIn_11 : decode cX4_givesIn 11 = .ok (.aload_n 0, 1) := by decide +kernel
theorem dX4_givesIn_12 : decode cX4_givesIn 12 = .ok (.getfield 41, 3) := by decide +kernel
theorem dX4_givesIn_15 : decode cX4_givesIn 15 = .ok (.invokevirtual 181, 3) := by decide +kernel
theorem dX4_givesIn_18 : decode cX4_givesIn 18 = .ok (.iadd, 1) := by decide +kernel
theorem dX4_givesIn_19 : decode cX4_givesIn 19 = .ok (.istore_n 2, 1) := by decide +kernel
theorem dX4_givesIn_20 : decode cX4_givesIn 20 = .ok (.iinc 3 1, 3) := by decide +kernel
theorem dX4_givesIn_23 : decode cX4_givesIn 23 = .ok (.goto (-19), 3) := by decide +kernel
theorem dX4_givesIn_26 : decode cX4_givesIn 26 = .ok (.iload_n 2, 1) := by decide +kernel
theorem dX4_givesIn_27 : decode cX4_givesIn 27 = .ok (.ireturn, 1) := by decide +kernel
theorem dX4_box_0 : decode cX4_box 0 = .ok (.aload_n 0, 1) := by decide +kernel
theorem dX4_box_1 : decode cX4_box 1 = .ok (.getfield 136, 3) := by decide +kernel
theorem dX4_box_4 : decode cX4_box 4 = .ok (.ifCond .ne 6, 3) := by decide +kernel
theorem dX4_box_7 : decode cX4_box 7 = .ok (.bipush (-4), 2) := by decide +kernel
theorem dX4_box_9 : decode cX4_box 9 = .ok (.ireturn, 1) := by decide +kernel
theorem dX4_box_10 : decode cX4_box 10 = .ok (.aload_n 0, 1) := by decide +kernel
theorem dX4_box_11 : decode cX4_box 11 = .ok (.aload_n 0, 1) := by decide +kernel
theorem dX4_box_12 : decode cX4_box 12 = .ok (.getfield 38, 3) := by decide +kernel
theorem dX4_box_15 : decode cX4_box 15 = .ok (.invokevirtual 150, 3) := by decide +kernel
theorem dX4_box_18 : decode cX4_box 18 = .ok (.istore_n 1, 1) := by decide +kernel
theorem dX4_box_19 : decode cX4_box 19 = .ok (.iconst 0, 1) := by decide +kernel
theorem dX4_box_20 : decode cX4_box 20 = .ok (.istore_n 2, 1) := by decide +kernel
theorem dX4_box_21 : decode cX4_box 21 = .ok (.aload_n 0, 1) := by decide +kernel
theorem dX4_box_22 : decode cX4_box 22 = .ok (.getfield 44, 3) := by decide +kernel
theorem dX4_box_25 : decode cX4_box 25 = .ok (.iload_n 2, 1) := by decide +kernel
theorem dX4_box_26 : decode cX4_box 26 = .ok (.iaload, 1) := by decide +kernel
theorem dX4_box_27 : decode cX4_box 27 = .ok (.iload_n 1, 1) := by decide +kernel
theorem dX4_box_28 : decode cX4_box 28 = .ok (.if_icmp .ge 9, 3) := by decide +kernel
theorem dX4_box_31 : decode cX4_box 31 = .ok (.iinc 2 1, 3) := by decide +kernel
theorem dX4_box_34 : decode cX4_box 34 = .ok (.goto (-13), 3) := by decide +kernel
theorem dX4_box_37 : decode cX4_box 37 = .ok (.aload_n 0, 1) := by decide +kernel
theorem dX4_box_38 : decode cX4_box 38 = .ok (.aload_n 0, 1) := by decide +kernel
theorem dX4_box_39 : decode cX4_box 39 = .ok (.iload_n 1, 1) := by decide +kernel
theorem dX4_box_40 : decode cX4_box 40 = .ok (.invokevirtual 154, 3) := by decide +kernel
theorem dX4_box_43 : decode cX4_box 43 = .ok (.iload_n 2, 1) := by decide +kernel
theorem dX4_box_44 : decode cX4_box 44 = .ok (.invokevirtual 186, 3) := by decide +kernel
theorem dX4_box_47 : decode cX4_box 47 = .ok (.ireturn, 1) := by decide +kernel
theorem dX4_later_0 : decode cX4_later 0 = .ok (.aload_n 0, 1) := by decide +kernel
theorem dX4_later_1 : decode cX4_later 1 = .ok (.iload_n 1, 1) := by decide +kernel
theorem dX4_later_2 : decode cX4_later 2 = .ok (.invokevirtual 157, 3) := by decide +kernel
theorem dX4_later_5 : decode cX4_later 5 = .ok (.ifCond .eq 15, 3) := by decide +kernel
theorem dX4_later_8 : decode cX4_later 8 = .ok (.iload_n 2, 1) := by decide +kernel
theorem dX4_later_9 : decode cX4_later 9 = .ok (.i2l, 1) := by decide +kernel
theorem dX4_later_10 : decode cX4_later 10 = .ok (.lconst 0, 1) := by decide +kernel
theorem dX4_later_11 : decode cX4_later 11 = .ok (.ldc2_w 189, 3) := by decide +kernel
theorem dX4_later_14 : decode cX4_later 14 = .ok (.invokestatic 74, 3) := by decide +kernel
theorem dX4_later_17 : decode cX4_later 17 = .ok (.ifCond .ne 5, 3) := by decide +kernel
theorem dX4_later_20 : decode cX4_later 20 = .ok (.iconst (-1), 1) := by decide +kernel
theorem dX4_later_21 : decode cX4_later 21 = .ok (.ireturn, 1) := by decide +kernel
theorem dX4_later_22 : decode cX4_later 22 = .ok (.aload_n 0, 1) := by decide +kernel
theorem dX4_later_23 : decode cX4_later 23 = .ok (.invokevirtual 191, 3) := by decide +kernel
theorem dX4_later_26 : decode cX4_later 26 = .ok (.iconst 0, 1) := by decide +kernel
theorem dX4_later_27 : decode cX4_later 27 = .ok (.istore_n 3, 1) := by decide +kernel
theorem dX4_later_28 : decode cX4_later 28 = .ok (.iconst 0, 1) := by decide +kernel
theorem dX4_later_29 : decode cX4_later 29 = .ok (.istore 4, 2) := by decide +kernel
theorem dX4_later_31 : decode cX4_later 31 = .ok (.iload 4, 2) := by decide +kernel
theorem dX4_later_33 : decode cX4_later 33 = .ok (.iload_n 2, 1) := by decide +kernel
theorem dX4_later_34 : decode cX4_later 34 = .ok (.if_icmp .ge 41, 3) := by decide +kernel
theorem dX4_later_37 : decode cX4_later 37 = .ok (.aload_n 0, 1) := by decide +kernel
theorem dX4_later_38 : decode cX4_later 38 = .ok (.aload_n 0, 1) := by decide +kernel
theorem dX4_later_39 : decode cX4_later 39 = .ok (.getfield 41, 3) := by decide +kernel
theorem dX4_later_42 : decode cX4_later 42 = .ok (.invokevirtual 150, 3) := by decide +kernel
theorem dX4_later_45 : decode cX4_later 45 = .ok (.istore 5, 2) := by decide +kernel
theorem dX4_later_47 : decode cX4_later 47 = .ok (.iload_n 3, 1) := by decide +kernel
theorem dX4_later_48 : decode cX4_later 48 = .ok (.iload 5, 2) := by decide +kernel
theorem dX4_later_50 : decode cX4_later 50 = .ok (.aload_n 0, 1) := by decide +kernel
theorem dX4_later_51 : decode cX4_later 51 = .ok (.getfield 44, 3) := by decide +kernel
theorem dX4_later_54 : decode cX4_later 54 = .ok (.iload_n 1, 1) := by decide +kernel
theorem dX4_later_55 : decode cX4_later 55 = .ok (.iaload, 1) := by decide +kernel
theorem dX4_later_56 : decode cX4_later 56 = .ok (.isub, 1) := by decide +kernel
theorem dX4_later_57 : decode cX4_later 57 = .ok (.iadd, 1) := by decide +kernel
theorem dX4_later_58 : decode cX4_later 58 = .ok (.istore_n 3, 1) := by decide +kernel
theorem dX4_later_59 : decode cX4_later 59 = .ok (.aload_n 0, 1) := by decide +kernel
theorem dX4_later_60 : decode cX4_later 60 = .ok (.aload_n 0, 1) := by decide +kernel
theorem dX4_later_61 : decode cX4_later 61 = .ok (.getfield 41, 3) := by decide +kernel
theorem dX4_later_64 : decode cX4_later 64 = .ok (.invokevirtual 181, 3) := by decide +kernel
theorem dX4_later_67 : decode cX4_later 67 = .ok (.istore 6, 2) := by decide +kernel
theorem dX4_later_69 : decode cX4_later 69 = .ok (.iinc 4 1, 3) := by decide +kernel
theorem dX4_later_72 : decode cX4_later 72 = .ok (.goto (-41), 3) := by decide +kernel
theorem dX4_later_75 : decode cX4_later 75 = .ok (.aload_n 0, 1) := by decide +kernel
theorem dX4_later_76 : decode cX4_later 76 = .ok (.aload_n 0, 1) := by decide +kernel
theorem dX4_later_77 : decode cX4_later 77 = .ok (.getfield 41, 3) := by decide +kernel
theorem dX4_later_80 : decode cX4_later 80 = .ok (.iconst 1, 1) := by decide +kernel
theorem dX4_later_81 : decode cX4_later 81 = .ok (.iload_n 1, 1) := by decide +kernel
theorem dX4_later_82 : decode cX4_later 82 = .ok (.iadd, 1) := by decide +kernel
theorem dX4_later_83 : decode cX4_later 83 = .ok (.iaload, 1) := by decide +kernel
theorem dX4_later_84 : decode cX4_later 84 = .ok (.iload_n 3, 1) := by decide +kernel
theorem dX4_later_85 : decode cX4_later 85 = .ok (.invokevirtual 186, 3) := by decide +kernel
theorem dX4_later_88 : decode cX4_later 88 = .ok (.ireturn, 1) := by decide +kernel
theorem dX4_settles_0 : decode cX4_settles 0 = .ok (.aload_n 0, 1) := by decide +kernel
theorem dX4_settles_1 : decode cX4_settles 1 = .ok (.getfield 136, 3) := by decide +kernel
theorem dX4_settles_4 : decode cX4_settles 4 = .ok (.ifCond .ne 6, 3) := by decide +kernel
theorem dX4_settles_7 : decode cX4_settles 7 = .ok (.bipush (-4), 2) := by decide +kernel
theorem dX4_settles_9 : decode cX4_settles 9 = .ok (.ireturn, 1) := by decide +kernel
theorem dX4_settles_10 : decode cX4_settles 10 = .ok (.aload_n 0, 1) := by decide +kernel
theorem dX4_settles_11 : decode cX4_settles 11 = .ok (.invokevirtual 191, 3) := by decide +kernel
theorem dX4_settles_14 : decode cX4_settles 14 = .ok (.iconst 0, 1) := by decide +kernel
theorem dX4_settles_15 : decode cX4_settles 15 = .ok (.istore_n 1, 1) := by decide +kernel
theorem dX4_settles_16 : decode cX4_settles 16 = .ok (.iload_n 1, 1) := by decide +kernel
theorem dX4_settles_17 : decode cX4_settles 17 = .ok (.bipush 61, 2) := by decide +kernel
theorem dX4_settles_19 : decode cX4_settles 19 = .ok (.if_icmp .ge 115, 3) := by decide +kernel
theorem dX4_settles_22 : decode cX4_settles 22 = .ok (.aload_n 0, 1) := by decide +kernel
theorem dX4_settles_23 : decode cX4_settles 23 = .ok (.aload_n 0, 1) := by decide +kernel
theorem dX4_settles_24 : decode cX4_settles 24 = .ok (.getfield 41, 3) := by decide +kernel
theorem dX4_settles_27 : decode cX4_settles 27 = .ok (.invokevirtual 150, 3) := by decide +kernel
theorem dX4_settles_30 : decode cX4_settles 30 = .ok (.istore_n 2, 1) := by decide +kernel
theorem dX4_settles_31 : decode cX4_settles 31 = .ok (.iconst 1, 1) := by decide +kernel
theorem dX4_settles_32 : decode cX4_settles 32 = .ok (.istore_n 3, 1) := by decide +kernel
theorem dX4_settles_33 : decode cX4_settles 33 = .ok (.iconst 0, 1) := by decide +kernel
theorem dX4_settles_34 : decode cX4_settles 34 = .ok (.istore 4, 2) := by decide +kernel
theorem dX4_settles_36 : decode cX4_settles 36 = .ok (.iload 4, 2) := by decide +kernel
theorem dX4_settles_38 : decode cX4_settles 38 = .ok (.aload_n 0, 1) := by decide +kernel
theorem dX4_settles_39 : decode cX4_settles 39 = .ok (.getfield 136, 3) := by decide +kernel
theorem dX4_settles_42 : decode cX4_settles 42 = .ok (.if_icmp .ge 64, 3) := by decide +kernel
theorem dX4_settles_45 : decode cX4_settles 45 = .ok (.aload_n 0, 1) := by decide +kernel
theorem dX4_settles_46 : decode cX4_settles 46 = .ok (.getfield 41, 3) := by decide +kernel
theorem dX4_settles_49 : decode cX4_settles 49 = .ok (.iconst 1, 1) := by decide +kernel
theorem dX4_settles_50 : decode cX4_settles 50 = .ok (.iload 4, 2) := by decide +kernel
theorem dX4_settles_52 : decode cX4_settles 52 = .ok (.iadd, 1) := by decide +kernel
theorem dX4_settles_53 : decode cX4_settles 53 = .ok (.iaload, 1) := by decide +kernel
theorem dX4_settles_54 : decode cX4_settles 54 = .ok (.istore 5, 2) := by decide +kernel
theorem dX4_settles_56 : decode cX4_settles 56 = .ok (.iload_n 3, 1) := by decide +kernel
theorem dX4_settles_57 : decode cX4_settles 57 = .ok (.ifCond .eq 41, 3) := by decide +kernel
theorem dX4_settles_60 : decode cX4_settles 60 = .ok (.iload 5, 2) := by decide +kernel
theorem dX4_settles_62 : decode cX4_settles 62 = .ok (.iconst 0, 1) := by decide +kernel
theorem dX4_settles_63 : decode cX4_settles 63 = .ok (.bipush 99, 2) := by decide +kernel
theorem dX4_settles_65 : decode cX4_settles 65 = .ok (.iload 5, 2) := by decide +kernel
theorem dX4_settles_67 : decode cX4_settles 67 = .ok (.iload_n 2, 1) := by decide +kernel
theorem dX4_settles_68 : decode cX4_settles 68 = .ok (.iadd, 1) := by decide +kernel
theorem dX4_settles_69 : decode cX4_settles 69 = .ok (.aload_n 0, 1) := by decide +kernel
theorem dX4_settles_70 : decode cX4_settles 70 = .ok (.getfield 44, 3) := by decide +kernel
theorem dX4_settles_73 : decode cX4_settles 73 = .ok (.iload 4, 2) := by decide +kernel
theorem dX4_settles_75 : decode cX4_settles 75 = .ok (.iaload, 1) := by decide +kernel
theorem dX4_settles_76 : decode cX4_settles 76 = .ok (.isub, 1) := by decide +kernel
theorem dX4_settles_77 : decode cX4_settles 77 = .ok (.aload_n 0, 1) := by decide +kernel
theorem dX4_settles_78 : decode cX4_settles 78 = .ok (.getfield 35, 3) := by decide +kernel
theorem dX4_settles_81 : decode cX4_settles 81 = .ok (.iload 4, 2) := by decide +kernel
theorem dX4_settles_83 : decode cX4_settles 83 = .ok (.iaload, 1) := by decide +kernel
theorem dX4_settles_84 : decode cX4_settles 84 = .ok (.isub, 1) := by decide +kernel
theorem dX4_settles_85 : decode cX4_settles 85 = .ok (.invokestatic 143, 3) := by decide +kernel
theorem dX4_settles_88 : decode cX4_settles 88 = .ok (.invokestatic 139, 3) := by decide +kernel
theorem dX4_settles_91 : decode cX4_settles 91 = .ok (.if_icmp .ne 7, 3) := by decide +kernel
theorem dX4_settles_94 : decode cX4_settles 94 = .ok (.iconst 1, 1) := by decide +kernel
theorem dX4_settles_95 : decode cX4_settles 95 = .ok (.goto 4, 3) := by decide +kernel
theorem dX4_settles_98 : decode cX4_settles 98 = .ok (.iconst 0, 1) := by decide +kernel
theorem dX4_settles_99 : decode cX4_settles 99 = .ok (.istore_n 3, 1) := by decide +kernel
