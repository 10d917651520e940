theorem dX0_init_0 : decode cX0_init 0 = .ok (.aload_n 0, 1) := by decide +kernel
theorem dX0_init_1 : decode cX0_init 1 = .ok (.invokespecial 3, 3) := by decide +kernel
theorem dX0_init_4 : decode cX0_init 4 = .ok (.aload_n 0, 1) := by decide +kernel
theorem dX0_init_5 : decode cX0_init 5 = .ok (.new 9, 3) := by decide +kernel
theorem dX0_init_8 : decode cX0_init 8 = .ok (.dup, 1) := by decide +kernel
theorem dX0_init_9 : decode cX0_init 9 = .ok (.invokespecial 11, 3) := by decide +kernel
theorem dX0_init_12 : decode cX0_init 12 = .ok (.putfield 12, 3) := by decide +kernel
theorem dX0_init_15 : decode cX0_init 15 = .ok (.aload_n 0, 1) := by decide +kernel
theorem dX0_init_16 : decode cX0_init 16 = .ok (.new 9, 3) := by decide +kernel
theorem dX0_init_19 : decode cX0_init 19 = .ok (.dup, 1) := by decide +kernel
theorem dX0_init_20 : decode cX0_init 20 = .ok (.invokespecial 11, 3) := by decide +kernel
theorem dX0_init_23 : decode cX0_init 23 = .ok (.putfield 18, 3) := by decide +kernel
theorem dX0_init_26 : decode cX0_init 26 = .ok (.aload_n 0, 1) := by decide +kernel
theorem dX0_init_27 : decode cX0_init 27 = .ok (.iconst 0, 1) := by decide +kernel
theorem dX0_init_28 : decode cX0_init 28 = .ok (.putfield 21, 3) := by decide +kernel
theorem dX0_init_31 : decode cX0_init 31 = .ok (.aload_n 0, 1) := by decide +kernel
theorem dX0_init_32 : decode cX0_init 32 = .ok (.iconst 0, 1) := by decide +kernel
theorem dX0_init_33 : decode cX0_init 33 = .ok (.putfield 25, 3) := by decide +kernel
theorem dX0_init_36 : decode cX0_init 36 = .ok (.aload_n 0, 1) := by decide +kernel
theorem dX0_init_37 : decode cX0_init 37 = .ok (.bipush 40, 2) := by decide +kernel
theorem dX0_init_39 : decode cX0_init 39 = .ok (.newarray .int, 2) := by decide +kernel
theorem dX0_init_41 : decode cX0_init 41 = .ok (.putfield 28, 3) := by decide +kernel
theorem dX0_init_44 : decode cX0_init 44 = .ok (.aload_n 0, 1) := by decide +kernel
theorem dX0_init_45 : decode cX0_init 45 = .ok (.iconst 3, 1) := by decide +kernel
theorem dX0_init_46 : decode cX0_init 46 = .ok (.bipush 40, 2) := by decide +kernel
theorem dX0_init_48 : decode cX0_init 48 = .ok (.multianewarray 32 2, 4) := by decide +kernel
theorem dX0_init_52 : decode cX0_init 52 = .ok (.putfield 34, 3) := by decide +kernel
theorem dX0_init_55 : decode cX0_init 55 = .ok (.aload_n 0, 1) := by decide +kernel
theorem dX0_init_56 : decode cX0_init 56 = .ok (.iconst 3, 1) := by decide +kernel
theorem dX0_init_57 : decode cX0_init 57 = .ok (.newarray .int, 2) := by decide +kernel
theorem dX0_init_59 : decode cX0_init 59 = .ok (.putfield 37, 3) := by decide +kernel
theorem dX0_init_62 : decode cX0_init 62 = .ok (.aload_n 0, 1) := by decide +kernel
theorem dX0_init_63 : decode cX0_init 63 = .ok (.getfield 37, 3) := by decide +kernel
theorem dX0_init_66 : decode cX0_init 66 = .ok (.iconst (-1), 1) := by decide +kernel
theorem dX0_init_67 : decode cX0_init 67 = .ok (.invokestatic 40, 3) := by decide +kernel
theorem dX0_init_70 : decode cX0_init 70 = .ok (.return_, 1) := by decide +kernel
theorem dX0_found_0 : decode cX0_found 0 = .ok (.aload_n 0, 1) := by decide +kernel
theorem dX0_found_1 : decode cX0_found 1 = .ok (.getfield 12, 3) := by decide +kernel
theorem dX0_found_4 : decode cX0_found 4 = .ok (.aload_n 1, 1) := by decide +kernel
theorem dX0_found_5 : decode cX0_found 5 = .ok (.invokevirtual 46, 3) := by decide +kernel
theorem dX0_found_8 : decode cX0_found 8 = .ok (.aload_n 0, 1) := by decide +kernel
theorem dX0_found_9 : decode cX0_found 9 = .ok (.iconst 0, 1) := by decide +kernel
theorem dX0_found_10 : decode cX0_found 10 = .ok (.invokevirtual 50, 3) := by decide +kernel
theorem dX0_found_13 : decode cX0_found 13 = .ok (.aload_n 0, 1) := by decide +kernel
theorem dX0_found_14 : decode cX0_found 14 = .ok (.getfield 37, 3) := by decide +kernel
theorem dX0_found_17 : decode cX0_found 17 = .ok (.iconst (-1), 1) := by decide +kernel
theorem dX0_found_18 : decode cX0_found 18 = .ok (.invokestatic 40, 3) := by decide +kernel
theorem dX0_found_21 : decode cX0_found 21 = .ok (.return_, 1) := by decide +kernel
theorem dX0_deed_0 : decode cX0_deed 0 = .ok (.iload_n 0, 1) := by decide +kernel
theorem dX0_deed_1 : decode cX0_deed 1 = .ok (.iload_n 1, 1) := by decide +kernel
theorem dX0_deed_2 : decode cX0_deed 2 = .ok (.iconst 3, 1) := by decide +kernel
theorem dX0_deed_3 : decode cX0_deed 3 = .ok (.ishl, 1) := by decide +kernel
theorem dX0_deed_4 : decode cX0_deed 4 = .ok (.ior, 1) := by decide +kernel
theorem dX0_deed_5 : decode cX0_deed 5 = .ok (.iload_n 2, 1) := by decide +kernel
theorem dX0_deed_6 : decode cX0_deed 6 = .ok (.bipush 6, 2) := by decide +kernel
theorem dX0_deed_8 : decode cX0_deed 8 = .ok (.ishl, 1) := by decide +kernel
theorem dX0_deed_9 : decode cX0_deed 9 = .ok (.ior, 1) := by decide +kernel
theorem dX0_deed_10 : decode cX0_deed 10 = .ok (.iload_n 3, 1) := by decide +kernel
theorem dX0_deed_11 : decode cX0_deed 11 = .ok (.bipush 9, 2) := by decide +kernel
theorem dX0_deed_13 : decode cX0_deed 13 = .ok (.ishl, 1) := by decide +kernel
theorem dX0_deed_14 : decode cX0_deed 14 = .ok (.ior, 1) := by decide +kernel
theorem dX0_deed_15 : decode cX0_deed 15 = .ok (.ireturn, 1) := by decide +kernel
theorem dX0_wouldOverflow_0 : decode cX0_wouldOverflow 0 = .ok (.iload_n 1, 1) := by decide +kernel
theorem dX0_wouldOverflow_1 : decode cX0_wouldOverflow 1 = .ok (.bipush 40, 2) := by decide +kernel
theorem dX0_wouldOverflow_3 : decode cX0_wouldOverflow 3 = .ok (.aload_n 0, 1) := by decide +kernel
theorem dX0_wouldOverflow_4 : decode cX0_wouldOverflow 4 = .ok (.getfield 25, 3) := by decide +kernel
theorem dX0_wouldOverflow_7 : decode cX0_wouldOverflow 7 = .ok (.isub, 1) := by decide +kernel
theorem dX0_wouldOverflow_8 : decode cX0_wouldOverflow 8 = .ok (.if_icmp .le 7, 3) := by decide +kernel
theorem dX0_wouldOverflow_11 : decode cX0_wouldOverflow 11 = .ok (.iconst 1, 1) := by decide +kernel
theorem dX0_wouldOverflow_12 : decode cX0_wouldOverflow 12 = .ok (.goto 4, 3) := by decide +kernel
theorem dX0_wouldOverflow_15 : decode cX0_wouldOverflow 15 = .ok (.iconst 0, 1) := by decide +kernel
theorem dX0_wouldOverflow_16 : decode cX0_wouldOverflow 16 = .ok (.ireturn, 1) := by decide +kernel
theorem dX0_enter_0 : decode cX0_enter 0 = .ok (.aload_n 0, 1) := by decide +kernel
theorem dX0_enter_1 : decode cX0_enter 1 = .ok (.iconst 1, 1) := by decide +kernel
theorem dX0_enter_2 : decode cX0_enter 2 = .ok (.invokevirtual 54, 3) := by decide +kernel
theorem dX0_enter_5 : decode cX0_enter 5 = .ok (.ifCond .eq 4, 3) := by decide +kernel
theorem dX0_enter_8 : decode cX0_enter 8 = .ok (.return_, 1) := by decide +kernel
theorem dX0_enter_9 : decode cX0_enter 9 = .ok (.aload_n 0, 1) := by decide +kernel
theorem dX0_enter_10 : decode cX0_enter 10 = .ok (.getfield 28, 3) := by decide +kernel
theorem dX0_enter_13 : decode cX0_enter 13 = .ok (.aload_n 0, 1) := by decide +kernel
theorem dX0_enter_14 : decode cX0_enter 14 = .ok (.getfield 25, 3) := by decide +kernel
theorem dX0_enter_17 : decode cX0_enter 17 = .ok (.iload_n 1, 1) := by decide +kernel
theorem dX0_enter_18 : decode cX0_enter 18 = .ok (.iastore, 1) := by decide +kernel
theorem dX0_enter_19 : decode cX0_enter 19 = .ok (.aload_n 0, 1) := by decide +kernel
theorem dX0_enter_20 : decode cX0_enter 20 = .ok (.dup, 1) := by decide +kernel
theorem dX0_enter_21 : decode cX0_enter 21 = .ok (.getfield 25, 3) := by decide +kernel
theorem dX0_enter_24 : decode cX0_enter 24 = .ok (.iconst 1, 1) := by decide +kernel
theorem dX0_enter_25 : decode cX0_enter 25 = .ok (.iadd, 1) := by decide +kernel
theorem dX0_enter_26 : decode cX0_enter 26 = .ok (.putfield 25, 3) := by decide +kernel
theorem dX0_enter_29 : decode cX0_enter 29 = .ok (.aload_n 0, 1) := by decide +kernel
theorem dX0_enter_30 : decode cX0_enter 30 = .ok (.iload_n 1, 1) := by decide +kernel
theorem dX0_enter_31 : decode cX0_enter 31 = .ok (.invokevirtual 58, 3) := by decide +kernel
theorem dX0_enter_34 : decode cX0_enter 34 = .ok (.return_, 1) := by decide +kernel
theorem dX0_perform_0 : decode cX0_perform 0 = .ok (.iload_n 1, 1) := by decide +kernel
theorem dX0_perform_1 : decode cX0_perform 1 = .ok (.iconst 3, 1) := by decide +kernel
theorem dX0_perform_2 : decode cX0_perform 2 = .ok (.ishr, 1) := by decide +kernel
theorem dX0_perform_3 : decode cX0_perform 3 = .ok (.bipush 7, 2) := by decide +kernel
theorem dX0_perform_5 : decode cX0_perform 5 = .ok (.iand, 1) := by decide +kernel
theorem dX0_perform_6 : decode cX0_perform 6 = .ok (.istore_n 2, 1) := by decide +kernel
theorem dX0_perform_7 : decode cX0_perform 7 = .ok (.iload_n 1, 1) := by decide +kernel
theorem dX0_perform_8 : decode cX0_perform 8 = .ok (.bipush 6, 2) := by decide +kernel
theorem dX0_perform_10 : decode cX0_perform 10 = .ok (.ishr, 1) := by decide +kernel
theorem dX0_perform_11 : decode cX0_perform 11 = .ok (.bipush 7, 2) := by decide +kernel
theorem dX0_perform_13 : decode cX0_perform 13 = .ok (.iand, 1) := by decide +kernel
theorem dX0_perform_14 : decode cX0_perform 14 = .ok (.istore_n 3, 1) := by decide +kernel
theorem dX0_perform_15 : decode cX0_perform 15 = .ok (.iload_n 1, 1) := by decide +kernel
theorem dX0_perform_16 : decode cX0_perform 16 = .ok (.bipush 9, 2) := by decide +kernel
theorem dX0_perform_18 : decode cX0_perform 18 = .ok (.ishr, 1) := by decide +kernel
theorem dX0_perform_19 : decode cX0_perform 19 = .ok (.istore 4, 2) := by decide +kernel
theorem dX0_perform_21 : decode cX0_perform 21 = .ok (.iload_n 2, 1) := by decide +kernel
theorem dX0_perform_22 : decode cX0_perform 22 = .ok (.aload_n 0, 1) := by decide +kernel
theorem dX0_perform_23 : decode cX0_perform 23 = .ok (.getfield 18, 3) := by decide +kernel
theorem dX0_perform_26 : decode cX0_perform 26 = .ok (.getfield 61, 3) := by decide +kernel
theorem dX0_perform_29 : decode cX0_perform 29 = .ok (.if_icmp .ge 14, 3) := by decide +kernel
theorem dX0_perform_32 : decode cX0_perform 32 = .ok (.iload_n 3, 1) := by decide +kernel
theorem dX0_perform_33 : decode cX0_perform 33 = .ok (.aload_n 0, 1) := by decide +kernel
theorem dX0_perform_34 : decode cX0_perform 34 = .ok (.getfield 18, 3) := by decide +kernel
theorem dX0_perform_37 : decode cX0_perform 37 = .ok (.getfield 61, 3) := by decide +kernel
theorem dX0_perform_40 : decode cX0_perform 40 = .ok (.if_icmp .lt 4, 3) := by decide +kernel
theorem dX0_perform_43 : decode cX0_perform 43 = .ok (.return_, 1) := by decide +kernel
theorem dX0_perform_44 : decode cX0_perform 44 = .ok (.iload_n 1, 1) := by decide +kernel
theorem dX0_perform_45 : decode cX0_perform 45 = .ok (.bipush 7, 2) := by decide +kernel
theorem dX0_perform_47 : decode cX0_perform 47 = .ok (.iand, 1) := by decide +kernel
theorem dX0_perform_48 : decode cX0_perform 48 = .ok (.tableswitch 125 0 3 #[32, 53, 69, 82], 32) := by decide +kernel
theorem dX0_perform_80 : decode cX0_perform 80 = .ok (.aload_n 0, 1) := by decide +kernel
theorem dX0_perform_81 : decode cX0_perform 81 = .ok (.getfield 18, 3) := by decide +kernel
theorem dX0_perform_84 : decode cX0_perform 84 = .ok (.invokevirtual 64, 3) := by decide +kernel
theorem dX0_perform_87 : decode cX0_perform 87 = .ok (.pop, 1) := by decide +kernel
theorem dX0_perform_88 : decode cX0_perform 88 = .ok (.aload_n 0, 1) := by decide +kernel
theorem dX0_perform_89 : decode cX0_perform 89 = .ok (.dup, 1) := by decide +kernel
theorem dX0_perform_90 : decode cX0_perform 90 = .ok (.getfield 21, 3) := by decide +kernel
theorem dX0_perform_93 : decode cX0_perform 93 = .ok (.iconst 1, 1) := by decide +kernel
theorem dX0_perform_94 : decode cX0_perform 94 = .ok (.iadd, 1) := by decide +kernel
theorem dX0_perform_95 : decode cX0_perform 95 = .ok (.putfield 21, 3) := by decide +kernel
theorem dX0_perform_98 : decode cX0_perform 98 = .ok (.goto 75, 3) := by decide +kernel
theorem dX0_perform_101 : decode cX0_perform 101 = .ok (.aload_n 0, 1) := by decide +kernel
theorem dX0_perform_102 : decode cX0_perform 102 = .ok (.getfield 18, 3) := by decide +kernel
theorem dX0_perform_105 : decode cX0_perform 105 = .ok (.getfield 68, 3) := by decide +kernel
theorem dX0_perform_108 : decode cX0_perform 108 = .ok (.iload_n 2, 1) := by decide +kernel
theorem dX0_perform_109 : decode cX0_perform 109 = .ok (.dup2, 1) := by decide +kernel
theorem dX0_perform_110 : decode cX0_perform 110 = .ok (.iaload, 1) := by decide +kernel
theorem dX0_perform_111 : decode cX0_perform 111 = .ok (.iconst 1, 1) := by decide +kernel
theorem dX0_perform_112 : decode cX0_perform 112 = .ok (.iadd, 1) := by decide +kernel
theorem dX0_perform_113 : decode cX0_perform 113 = .ok (.iastore, 1) := by decide +kernel
theorem dX0_perform_114 : decode cX0_perform 114 = .ok (.goto 59, 3) := by decide +kernel
theorem dX0_perform_117 : decode cX0_perform 117 = .ok (.aload_n 0, 1) := by decide +kernel
theorem dX0_perform_118 : decode cX0_perform 118 = .ok (.getfield 18, 3) := by decide +kernel
theorem dX0_perform_121 : decode cX0_perform 121 = .ok (.getfield 68, 3) := by decide +kernel
theorem dX0_perform_124 : decode cX0_perform 124 = .ok (.iload_n 2, 1) := by decide +kernel
theorem dX0_perform_125 : decode cX0_perform 125 = .ok (.iconst 0, 1) := by decide +kernel
theorem dX0_perform_126 : decode cX0_perform 126 = .ok (.iastore, 1) := by decide +kernel
theorem dX0_perform_127 : decode cX0_perform 127 = .ok (.goto 46, 3) := by decide +kernel
theorem dX0_perform_130 : decode cX0_perform 130 = .ok (.aload_n 0, 1) := by decide +kernel
theorem dX0_perform_131 : decode cX0_perform 131 = .ok (.getfield 18, 3) := by decide +kernel
theorem dX0_perform_134 : decode cX0_perform 134 = .ok (.getfield 71, 3) := by decide +kernel
theorem dX0_perform_137 : decode cX0_perform 137 = .ok (.iload_n 2, 1) := by decide +kernel
theorem dX0_perform_138 : decode cX0_perform 138 = .ok (.dup2, 1) := by decide +kernel
theorem dX0_perform_139 : decode cX0_perform 139 = .ok (.iaload, 1) := by decide +kernel
theorem dX0_perform_140 : decode cX0_perform 140 = .ok (.iload 4, 2) := by decide +kernel
theorem dX0_perform_142 : decode cX0_perform 142 = .ok (.isub, 1) := by decide +kernel
theorem dX0_perform_143 : decode cX0_perform 143 = .ok (.iastore, 1) := by decide +kernel
theorem dX0_perform_144 : decode cX0_perform 144 = .ok (.aload_n 0, 1) := by decide +kernel
theorem dX0_perform_145 : decode cX0_perform 145 = .ok (.getfield 18, 3) := by decide +kernel
theorem dX0_perform_148 : decode cX0_perform 148 = .ok (.getfield 71, 3) := by decide +kernel
theorem dX0_perform_151 : decode cX0_perform 151 = .ok (.iload_n 3, 1) := by decide +kernel
theorem dX0_perform_152 : decode cX0_perform 152 = .ok (.bipush 99, 2) := by decide +kernel
theorem dX0_perform_154 : decode cX0_perform 154 = .ok (.aload_n 0, 1) := by decide +kernel
theorem dX0_perform_155 : decode cX0_perform 155 = .ok (.getfield 18, 3) := by decide +kernel
theorem dX0_perform_158 : decode cX0_perform 158 = .ok (.getfield 71, 3) := by decide +kernel
theorem dX0_perform_161 : decode cX0_perform 161 = .ok (.iload_n 3, 1) := by decide +kernel
theorem dX0_perform_162 : decode cX0_perform 162 = .ok (.iaload, 1) := by decide +kernel
theorem dX0_perform_163 : decode cX0_perform 163 = .ok (.iload 4, 2) := by decide +kernel
theorem dX0_perform_165 : decode cX0_perform 165 = .ok (.iadd, 1) := by decide +kernel
theorem dX0_perform_166 : decode cX0_perform 166 = .ok (.invokestatic 74, 3) := by decide +kernel
theorem dX0_perform_169 : decode cX0_perform 169 = .ok (.iastore, 1) := by decide +kernel
theorem dX0_perform_170 : decode cX0_perform 170 = .ok (.goto 3, 3) := by decide +kernel
theorem dX0_perform_173 : decode cX0_perform 173 = .ok (.return_, 1) := by decide +kernel
theorem dX0_replay_0 : decode cX0_replay 0 = .ok (.aload_n 0, 1) := by decide +kernel
theorem dX0_replay_1 : decode cX0_replay 1 = .ok (.getfield 18, 3) := by decide +kernel
theorem dX0_replay_4 : decode cX0_replay 4 = .ok (.aload_n 0, 1) := by decide +kernel
theorem dX0_replay_5 : decode cX0_replay 5 = .ok (.getfield 12, 3) := by decide +kernel
theorem dX0_replay_8 : decode cX0_replay 8 = .ok (.invokevirtual 46, 3) := by decide +kernel
theorem dX0_replay_11 : decode cX0_replay 11 = .ok (.aload_n 0, 1) := by decide +kernel
theorem dX0_replay_12 : decode cX0_replay 12 = .ok (.iconst 0, 1) := by decide +kernel
theorem dX0_replay_13 : decode cX0_replay 13 = .ok (.putfield 21, 3) := by decide +kernel
theorem dX0_replay_16 : decode cX0_replay 16 = .ok (.aload_n 0, 1) := by decide +kernel
theorem dX0_replay_17 : decode cX0_replay 17 = .ok (.iload_n 1, 1) := by decide +kernel
theorem dX0_replay_18 : decode cX0_replay 18 = .ok (.putfield 25, 3) := by decide +kernel
theorem dX0_replay_21 : decode cX0_replay 21 = .ok (.iconst 0, 1) := by decide +kernel
theorem dX0_replay_22 : decode cX0_replay 22 = .ok (.istore_n 2, 1) := by decide +kernel
theorem dX0_replay_23 : decode cX0_replay 23 = .ok (.iload_n 2, 1) := by decide +kernel
theorem dX0_replay_24 : decode cX0_replay 24 = .ok (.iload_n 1, 1) := by decide +kernel
theorem dX0_replay_25 : decode cX0_replay 25 = .ok (.if_icmp .ge 19, 3) := by decide +kernel
theorem dX0_replay_28 : decode cX0_replay 28 = .ok (.aload_n 0, 1) := by decide +kernel
theorem dX0_replay_29 : decode cX0_replay 29 = .ok (.aload_n 0, 1) := by decide +kernel
theorem dX0_replay_30 : decode cX0_replay 30 = .ok (.getfield 28, 3) := by decide +kernel
theorem dX0_replay_33 : decode cX0_replay 33 = .ok (.iload_n 2, 1) := by decide +kernel
theorem dX0_replay_34 : decode cX0_replay 34 = .ok (.iaload, 1) := by decide +kernel
theorem dX0_replay_35 : decode cX0_replay 35 = .ok (.invokevirtual 58, 3) := by decide +kernel
theorem dX0_replay_38 : decode cX0_replay 38 = .ok (.iinc 2 1, 3) := by decide +kernel
theorem dX0_replay_41 : decode cX0_replay 41 = .ok (.goto (-18), 3) := by decide +kernel
theorem dX0_replay_44 : decode cX0_replay 44 = .ok (.return_, 1) := by decide +kernel
theorem dX0_store_0 : decode cX0_store 0 = .ok (.aload_n 0, 1) := by decide +kernel
theorem dX0_store_1 : decode cX0_store 1 = .ok (.getfield 28, 3) := by decide +kernel
theorem dX0_store_4 : decode cX0_store 4 = .ok (.iconst 0, 1) := by decide +kernel
theorem dX0_store_5 : decode cX0_store 5 = .ok (.aload_n 0, 1) := by decide +kernel
theorem dX0_store_6 : decode cX0_store 6 = .ok (.getfield 34, 3) := by decide +kernel
theorem dX0_store_9 : decode cX0_store 9 = .ok (.iload_n 1, 1) := by decide +kernel
theorem dX0_store_10 : decode cX0_store 10 = .ok (.aaload, 1) := by decide +kernel
theorem dX0_store_11 : decode cX0_store 11 = .ok (.iconst 0, 1) := by decide +kernel
theorem dX0_store_12 : decode cX0_store 12 = .ok (.bipush 40, 2) := by decide +kernel
theorem dX0_store_14 : decode cX0_store 14 = .ok (.invokestatic 80, 3) := by decide +kernel
theorem dX0_store_17 : decode cX0_store 17 = .ok (.aload_n 0, 1) := by decide +kernel
theorem dX0_store_18 : decode cX0_store 18 = .ok (.getfield 37, 3) := by decide +kernel
theorem dX0_store_21 : decode cX0_store 21 = .ok (.iload_n 1, 1) := by decide +kernel
theorem dX0_store_22 : decode cX0_store 22 = .ok (.aload_n 0, 1) := by decide +kernel
theorem dX0_store_23 : decode cX0_store 23 = .ok (.getfield 25, 3) := by decide +kernel
theorem dX0_store_26 : decode cX0_store 26 = .ok (.iastore, 1) := by decide +kernel
theorem dX0_store_27 : decode cX0_store 27 = .ok (.return_, 1) := by decide +kernel
theorem dX0_restore_0 : decode cX0_restore 0 = .ok (.aload_n 0, 1) := by decide +kernel
theorem dX0_restore_1 : decode cX0_restore 1 = .ok (.getfield 34, 3) := by decide +kernel
theorem dX0_restore_4 : decode cX0_restore 4 = .ok (.iload_n 1, 1) := by decide +kernel
theorem dX0_restore_5 : decode cX0_restore 5 = .ok (.aaload, 1) := by decide +kernel
theorem dX0_restore_6 : decode cX0_restore 6 = .ok (.iconst 0, 1) := by decide +kernel
theorem dX0_restore_7 : decode cX0_restore 7 = .ok (.aload_n 0, 1) := by decide +kernel
theorem dX0_restore_8 : decode cX0_restore 8 = .ok (.getfield 28, 3) := by decide +kernel
theorem dX0_restore_11 : decode cX0_restore 11 = .ok (.iconst 0, 1) := by decide +kernel
theorem dX0_restore_12 : decode cX0_restore 12 = .ok (.bipush 40, 2) := by decide +kernel
theorem dX0_restore_14 : decode cX0_restore 14 = .ok (.invokestatic 80, 3) := by decide +kernel
theorem dX0_restore_17 : decode cX0_restore 17 = .ok (.aload_n 0, 1) := by decide +kernel
theorem dX0_restore_18 : decode cX0_restore 18 = .ok (.aload_n 0, 1) := by decide +kernel
theorem dX0_restore_19 : decode cX0_restore 19 = .ok (.getfield 37, 3) := by decide +kernel
theorem dX0_restore_22 : decode cX0_restore 22 = .ok (.iload_n 1, 1) := by decide +kernel
theorem dX0_restore_23 : decode cX0_restore 23 = .ok (.iaload, 1) := by decide +kernel
theorem dX0_restore_24 : decode cX0_restore 24 = .ok (.invokevirtual 50, 3) := by decide +kernel
theorem dX0_restore_27 : decode cX0_restore 27 = .ok (.return_, 1) := by decide +kernel
theorem dX0_allKept_0 : decode cX0_allKept 0 = .ok (.iconst 0, 1) := by decide +kernel
theorem dX0_allKept_1 : decode cX0_allKept 1 = .ok (.istore_n 1, 1) := by decide +kernel
theorem dX0_allKept_2 : decode cX0_allKept 2 = .ok (.iconst 0, 1) := by decide +kernel
theorem dX0_allKept_3 : decode cX0_allKept 3 = .ok (.istore_n 2, 1) := by decide +kernel
theorem dX0_allKept_4 : decode cX0_allKept 4 = .ok (.iload_n 2, 1) := by decide +kernel
theorem dX0_allKept_5 : decode cX0_allKept 5 = .ok (.iconst 3, 1) := by decide +kernel
theorem dX0_allKept_6 : decode cX0_allKept 6 = .ok (.if_icmp .ge 22, 3) := by decide +kernel
theorem dX0_allKept_9 : decode cX0_allKept 9 = .ok (.aload_n 0, 1) := by decide +kernel
theorem dX0_allKept_10 : decode cX0_allKept 10 = .ok (.getfield 37, 3) := by decide +kernel
theorem dX0_allKept_13 : decode cX0_allKept 13 = .ok (.iload_n 2, 1) := by decide +kernel
theorem dX0_allKept_14 : decode cX0_allKept 14 = .ok (.iaload, 1) := by decide +kernel
theorem dX0_allKept_15 : decode cX0_allKept 15 = .ok (.iconst (-1), 1) := by decide +kernel
theorem dX0_allKept_16 : decode cX0_allKept 16 = .ok (.if_icmp .eq 6, 3) := by decide +kernel
theorem dX0_allKept_19 : decode cX0_allKept 19 = .ok (.iinc 1 1, 3) := by decide +kernel
theorem dX0_allKept_22 : decode cX0_allKept 22 = .ok (.iinc 2 1, 3) := by decide +kernel
theorem dX0_allKept_25 : decode cX0_allKept 25 = .ok (.goto (-21), 3) := by decide +kernel
theorem dX0_allKept_28 : decode cX0_allKept 28 = .ok (.iload_n 1, 1) := by decide +kernel
theorem dX0_allKept_29 : decode cX0_allKept 29 = .ok (.ireturn, 1) := by decide +kernel
